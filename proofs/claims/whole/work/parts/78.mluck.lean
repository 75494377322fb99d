/-! ===== the reference: mean, luck ===== -/
set_option maxRecDepth 20000 in
set_option maxHeartbeats 4000000 in
theorem l_common {d G : Nat} {a b : Int64} {w : zW} {T : zX → Prop} (hx : ∀ v8, WP mX7_common d T 31 [some (.long a), none, some (.long b), none, some (.long (lI G)), none, some (.long (lI 0)), none, v8, none] [] w) : ∀ m x y v8, y ≤ m → Nat.gcd x y = G → x < 9223372036854775808 → y < 9223372036854775808 → WP mX7_common d T 6 [some (.long a), none, some (.long b), none, some (.long (lI x)), none, some (.long (lI y)), none, v8, none] [] w := by
  intro m
  induction m with
  | zero =>
    intro x y v8 hm hg hx1 hy1
    have e : y = 0 := Nat.le_zero.mp hm
    subst e
    rw [Nat.gcd_zero_right] at hg
    subst hg
    refine r_lload 8 dX7_common_6 rfl rfl ?_
    refine r_lconst 9 (v := 0) dX7_common_8 (by decide) rfl ?_
    refine r_lcmp 10 dX7_common_9 rfl ?_
    refine r_if_eq 31 13 dX7_common_10 (by decide) rfl (fun _ => ?_) (fun z => absurd (cmp_eq.mpr rfl) z)
    exact hx v8
  | succ m ih =>
    intro x y v8 hm hg hx1 hy1
    by_cases hy : y = 0
    · exact ih x y v8 (by omega) hg hx1 hy1
    have hne : ¬ lI y = 0 := fun z => hy ((lI_inj (b := 0) hy1 (by decide)).mp z)
    have hlt : x % y < y := Nat.mod_lt _ (by omega)
    refine r_lload 8 dX7_common_6 rfl rfl ?_
    refine r_lconst 9 (v := 0) dX7_common_8 (by decide) rfl ?_
    refine r_lcmp 10 dX7_common_9 rfl ?_
    refine r_if_eq 31 13 dX7_common_10 (by decide) rfl (fun z => absurd z (fun z => hne (cmp_eq.mp z))) (fun _ => ?_)
    refine r_lload 15 dX7_common_13 rfl rfl ?_
    refine r_lload 17 dX7_common_15 rfl rfl ?_
    refine r_lrem 18 dX7_common_17 (hne) rfl ?_
    refine r_leq (lI_rem hx1 hy1) ?_
    refine r_lstore 20 (L' := [_, _, _, _, _, _, _, _, _, _]) dX7_common_18 (by decide) rfl rfl rfl ?_
    refine r_lload 22 dX7_common_20 rfl rfl ?_
    refine r_lstore 24 (L' := [_, _, _, _, _, _, _, _, _, _]) dX7_common_22 (by decide) rfl rfl rfl ?_
    refine r_lload 26 dX7_common_24 rfl rfl ?_
    refine r_lstore 28 (L' := [_, _, _, _, _, _, _, _, _, _]) dX7_common_26 (by decide) rfl rfl rfl ?_
    refine r_goto 6 dX7_common_28 (by decide) ?_
    exact ih y (x % y) _ (by omega) (gcd_st.trans hg) hy1 (by omega)
set_option maxRecDepth 20000 in
set_option maxHeartbeats 4000000 in
theorem m_common {d x y : Nat} {w : zW} (hx : x < 9223372036854775808) (hy : y < 9223372036854775808) : CT mX7_common d [.long (lI x), .long (lI y)] w (z_l fun v w' => lI (Nat.gcd x y) = v ∧ w = w') := by
  refine CT.of [some (.long (lI x)), none, some (.long (lI y)), none, none, none, none, none, none, none] rfl (Nat.le_of_ble_eq_true rfl) rfl ?_
  refine r_lload_n 1 dX7_common_0 rfl rfl ?_
  refine r_lstore 3 (L' := [_, _, _, _, _, _, _, _, _, _]) dX7_common_1 (by decide) rfl rfl rfl ?_
  refine r_lload_n 4 dX7_common_3 rfl rfl ?_
  refine r_lstore 6 (L' := [_, _, _, _, _, _, _, _, _, _]) dX7_common_4 (by decide) rfl rfl rfl ?_
  refine l_common (G := Nat.gcd x y) (fun v8 => ?_) y x y none (Nat.le_refl y) rfl hx hy
  refine r_lload 33 dX7_common_31 rfl rfl ?_
  exact r_lret dX7_common_33 rfl (⟨rfl, rfl⟩)
set_option maxRecDepth 20000 in
set_option maxHeartbeats 4000000 in
theorem m_told {d S W q : Nat} {w : zW} (hd : 1 ≤ d) (hS : S < 9223372036854775808) (hW : W < 9223372036854775808) (h0 : 0 < W) (hq : q ≤ 1) : CT mX7_told d [.long (lI S), .long (lI W), .int (nI q)] w (z_l fun x w' => lI (low S W q) = x ∧ w = w') := by
  have hg1 : 0 < Nat.gcd S W := Nat.gcd_pos_of_pos_right _ h0
  have hgl : Nat.gcd S W ≤ W := Nat.gcd_le_right _ h0
  have hne : ¬ lI (Nat.gcd S W) = 0 := fun z => by have := (lI_inj (b := 0) (by omega) (by decide)).mp z; omega
  refine CT.of [some (.long (lI S)), none, some (.long (lI W)), none, some (.int (nI q)), none, none] rfl (Nat.le_of_ble_eq_true rfl) rfl ?_
  refine r_lload_n 1 dX7_told_0 rfl rfl ?_
  refine r_lload_n 2 dX7_told_1 rfl rfl ?_
  refine r_callS (y2 := mX7_common) (as := [_, _]) 5 dX7_told_2 ml_X7_294 ms_X7_common (m_common (d := d - 1) hW hS) (by omega) rfl (Nat.le_of_ble_eq_true rfl) rfl (kk_l ?_)
  rintro _ _ ⟨rfl, rfl⟩
  refine r_leq (z := lI (Nat.gcd S W)) (by rw [Nat.gcd_comm]) ?_
  refine r_lstore 7 (L' := [_, _, _, _, _, _, _]) dX7_told_5 (by decide) rfl rfl rfl ?_
  refine r_iload 9 dX7_told_7 rfl rfl ?_
  refine r_if_ne 19 12 dX7_told_9 (by decide) rfl (fun g9 => ?_) (fun g9 => ?_)
  · have g9 : ¬ q = 0 := fun z => g9 (by rw [z]; rfl)
    refine r_lload_n 20 dX7_told_19 rfl rfl ?_
    refine r_lload 22 dX7_told_20 rfl rfl ?_
    refine r_ldiv 23 dX7_told_22 (hne) rfl ?_
    refine r_leq (lI_div hW (by omega)) ?_
    exact r_lret dX7_told_23 rfl (⟨by first | (rw [low, if_pos g9]; done) | (rw [low, if_neg g9]; done), rfl⟩)
  · have g9 : q = 0 := (nI_inj (b := 0) (by omega) (by decide)).mp g9
    refine r_lload_n 13 dX7_told_12 rfl rfl ?_
    refine r_lload 15 dX7_told_13 rfl rfl ?_
    refine r_ldiv 16 dX7_told_15 (hne) rfl ?_
    refine r_leq (lI_div hS (by omega)) ?_
    refine r_goto 23 dX7_told_16 (by decide) ?_
    exact r_lret dX7_told_23 rfl (⟨by first | (rw [low, if_pos g9]; done) | (rw [low, if_neg g9]; done), rfl⟩)
set_option maxRecDepth 20000 in
set_option maxHeartbeats 4000000 in
theorem l_waysOf {d g v : Nat} {w : zW} {s : sT} {T : zX → Prop} (hd : 1 ≤ d) (hR : RM w s) (hS : sV s) (hv : v ≤ 10) (hg : g < 64) (hx : ∀ v6, WP mX7_waysOf d T 63 [some (.ref 50), some (.int (nI g)), some (.int (nI v)), some (.long (lI (wtP (lm (s_n s) (s_K s)) v g (s_n s)))), none, some (.int (nI (s_n s))), v6] [] w) : ∀ k i v6, i + k = s_n s → WP mX7_waysOf d T 5 [some (.ref 50), some (.int (nI g)), some (.int (nI v)), some (.long (lI (wtP (lm (s_n s) (s_K s)) v g i))), none, some (.int (nI i)), v6] [] w := by
  have hn := hS.1.n
  have hL : (lm (s_n s) (s_K s)) < 64 := mk_64 hn
  intro k
  induction k with
  | zero =>
    intro i v6 hi
    have e : i = s_n s := by omega
    subst e
    refine r_iload 7 dX7_waysOf_5 rfl rfl ?_
    refine r_aload_n 8 dX7_waysOf_7 rfl rfl ?_
    refine r_geti 11 dX7_waysOf_8 fz_X7_69 sh_50 rfl rfl ?_
    refine r_eq hR.n ?_
    refine r_icmp_ge 63 14 dX7_waysOf_11 (by decide) rfl (fun _ => ?_) (fun z => absurd (Int32.le_refl _) z)
    exact hx v6
  | succ k ih =>
    intro i v6 hi
    have nx := fun v6 => ih (i + 1) v6 (by omega)
    rw [wtP] at nx
    refine r_iload 7 dX7_waysOf_5 rfl rfl ?_
    refine r_aload_n 8 dX7_waysOf_7 rfl rfl ?_
    refine r_geti 11 dX7_waysOf_8 fz_X7_69 sh_50 rfl rfl ?_
    refine r_eq hR.n ?_
    refine r_icmp_ge 63 14 dX7_waysOf_11 (by decide) rfl (fun z => absurd z (fun z => absurd ((nI_le' (by omega) (by omega)).mp z) (by omega))) (fun _ => ?_)
    refine r_iload_n 15 dX7_waysOf_14 rfl rfl ?_
    refine r_iload 17 dX7_waysOf_15 rfl rfl ?_
    refine r_ishr 18 dX7_waysOf_17 rfl ?_
    refine r_iconst 19 (v := 1) dX7_waysOf_18 (by decide) rfl ?_
    refine r_iand 20 dX7_waysOf_19 rfl ?_
    refine r_eq (b_sh _ hg i (by omega)) ?_
    refine r_iconst 21 (v := 1) dX7_waysOf_20 (by decide) rfl ?_
    refine r_icmp_ne 28 24 dX7_waysOf_21 (by decide) rfl (fun g21 => ?_) (fun g21 => ?_)
    · have g21 : ¬ bi g i = 1 := fun z => g21 (bi_1.mpr z)
      refine r_bipush 30 (v := 10) dX7_waysOf_28 (by decide) rfl ?_
      refine r_iload_n 31 dX7_waysOf_30 rfl rfl ?_
      refine r_isub 32 dX7_waysOf_31 rfl ?_
      refine r_eq (z := nI (10 - v)) (nI_sub (a := 10) hv) ?_
      refine r_eq (z := nI (if bi g i = 1 then v else 10 - v)) (by first | rw [if_pos g21] | rw [if_neg g21]) ?_
      refine r_istore 34 (L' := [_, _, _, _, _, _, _]) dX7_waysOf_32 (by decide) rfl rfl rfl ?_
      refine r_lload_n 35 dX7_waysOf_34 rfl rfl ?_
      refine r_aload_n 36 dX7_waysOf_35 rfl rfl ?_
      refine r_callV (y2 := mX7_liars) (as := []) 39 dX7_waysOf_36 ml_X7_234 mv_X7_liars (m_liars (d := d - 1) hR hS) (by omega) sh_50 ⟨_, rfl, rfl⟩ rfl (Nat.le_of_ble_eq_true rfl) rfl (kk_i ?_)
      rintro _ _ ⟨rfl, rfl⟩
      refine r_iload 41 dX7_waysOf_39 rfl rfl ?_
      refine r_ishr 42 dX7_waysOf_41 rfl ?_
      refine r_iconst 43 (v := 1) dX7_waysOf_42 (by decide) rfl ?_
      refine r_iand 44 dX7_waysOf_43 rfl ?_
      refine r_eq (b_sh _ hL i (by omega)) ?_
      refine r_iconst 45 (v := 1) dX7_waysOf_44 (by decide) rfl ?_
      refine r_icmp_ne 54 48 dX7_waysOf_45 (by decide) rfl (fun g45 => ?_) (fun g45 => ?_)
      · have g45 : ¬ bi (lm (s_n s) (s_K s)) i = 1 := fun z => g45 (bi_1.mpr z)
        rw [if_neg g45] at nx
        refine r_lconst 55 (v := 1) dX7_waysOf_54 (by decide) rfl ?_
        refine r_leq (z := lI 1) rfl ?_
        refine r_lmul 56 dX7_waysOf_55 rfl ?_
        refine r_leq (lI_mul _ _) ?_
        refine r_lstore_n 57 (L' := [_, _, _, _, _, _, _]) dX7_waysOf_56 (by decide) rfl rfl rfl ?_
        refine r_iinc 60 (L' := [_, _, _, _, _, _, _]) (v := nI (i + 1)) dX7_waysOf_57 rfl (nI_1 i) (by decide) rfl rfl rfl ?_
        refine r_goto 5 dX7_waysOf_60 (by decide) ?_
        exact nx _
      · have g45 : bi (lm (s_n s) (s_K s)) i = 1 := bi_1.mp g45
        rw [if_pos g45] at nx
        refine r_iload 50 dX7_waysOf_48 rfl rfl ?_
        refine r_i2l 51 dX7_waysOf_50 rfl ?_
        refine r_leq (nI_lI (by split <;> omega)) ?_
        refine r_goto 55 dX7_waysOf_51 (by decide) ?_
        refine r_lmul 56 dX7_waysOf_55 rfl ?_
        refine r_leq (lI_mul _ _) ?_
        refine r_lstore_n 57 (L' := [_, _, _, _, _, _, _]) dX7_waysOf_56 (by decide) rfl rfl rfl ?_
        refine r_iinc 60 (L' := [_, _, _, _, _, _, _]) (v := nI (i + 1)) dX7_waysOf_57 rfl (nI_1 i) (by decide) rfl rfl rfl ?_
        refine r_goto 5 dX7_waysOf_60 (by decide) ?_
        exact nx _
    · have g21 : bi g i = 1 := bi_1.mp g21
      refine r_iload_n 25 dX7_waysOf_24 rfl rfl ?_
      refine r_goto 32 dX7_waysOf_25 (by decide) ?_
      refine r_eq (z := nI (if bi g i = 1 then v else 10 - v)) (by first | rw [if_pos g21] | rw [if_neg g21]) ?_
      refine r_istore 34 (L' := [_, _, _, _, _, _, _]) dX7_waysOf_32 (by decide) rfl rfl rfl ?_
      refine r_lload_n 35 dX7_waysOf_34 rfl rfl ?_
      refine r_aload_n 36 dX7_waysOf_35 rfl rfl ?_
      refine r_callV (y2 := mX7_liars) (as := []) 39 dX7_waysOf_36 ml_X7_234 mv_X7_liars (m_liars (d := d - 1) hR hS) (by omega) sh_50 ⟨_, rfl, rfl⟩ rfl (Nat.le_of_ble_eq_true rfl) rfl (kk_i ?_)
      rintro _ _ ⟨rfl, rfl⟩
      refine r_iload 41 dX7_waysOf_39 rfl rfl ?_
      refine r_ishr 42 dX7_waysOf_41 rfl ?_
      refine r_iconst 43 (v := 1) dX7_waysOf_42 (by decide) rfl ?_
      refine r_iand 44 dX7_waysOf_43 rfl ?_
      refine r_eq (b_sh _ hL i (by omega)) ?_
      refine r_iconst 45 (v := 1) dX7_waysOf_44 (by decide) rfl ?_
      refine r_icmp_ne 54 48 dX7_waysOf_45 (by decide) rfl (fun g45 => ?_) (fun g45 => ?_)
      · have g45 : ¬ bi (lm (s_n s) (s_K s)) i = 1 := fun z => g45 (bi_1.mpr z)
        rw [if_neg g45] at nx
        refine r_lconst 55 (v := 1) dX7_waysOf_54 (by decide) rfl ?_
        refine r_leq (z := lI 1) rfl ?_
        refine r_lmul 56 dX7_waysOf_55 rfl ?_
        refine r_leq (lI_mul _ _) ?_
        refine r_lstore_n 57 (L' := [_, _, _, _, _, _, _]) dX7_waysOf_56 (by decide) rfl rfl rfl ?_
        refine r_iinc 60 (L' := [_, _, _, _, _, _, _]) (v := nI (i + 1)) dX7_waysOf_57 rfl (nI_1 i) (by decide) rfl rfl rfl ?_
        refine r_goto 5 dX7_waysOf_60 (by decide) ?_
        exact nx _
      · have g45 : bi (lm (s_n s) (s_K s)) i = 1 := bi_1.mp g45
        rw [if_pos g45] at nx
        refine r_iload 50 dX7_waysOf_48 rfl rfl ?_
        refine r_i2l 51 dX7_waysOf_50 rfl ?_
        refine r_leq (nI_lI (by split <;> omega)) ?_
        refine r_goto 55 dX7_waysOf_51 (by decide) ?_
        refine r_lmul 56 dX7_waysOf_55 rfl ?_
        refine r_leq (lI_mul _ _) ?_
        refine r_lstore_n 57 (L' := [_, _, _, _, _, _, _]) dX7_waysOf_56 (by decide) rfl rfl rfl ?_
        refine r_iinc 60 (L' := [_, _, _, _, _, _, _]) (v := nI (i + 1)) dX7_waysOf_57 rfl (nI_1 i) (by decide) rfl rfl rfl ?_
        refine r_goto 5 dX7_waysOf_60 (by decide) ?_
        exact nx _
set_option maxRecDepth 20000 in
set_option maxHeartbeats 4000000 in
theorem m_waysOf {d g v : Nat} {w : zW} {s : sT} (hd : 1 ≤ d) (hR : RM w s) (hS : sV s) (hv : v ≤ 10) (hg : g < 64) : CT mX7_waysOf d [.ref 50, .int (nI g), .int (nI v)] w (z_l fun x w' => lI (wtP (lm (s_n s) (s_K s)) v g (s_n s)) = x ∧ w = w') := by
  refine CT.of [some (.ref 50), some (.int (nI g)), some (.int (nI v)), none, none, none, none] rfl (Nat.le_of_ble_eq_true rfl) rfl ?_
  refine r_lconst 1 (v := 1) dX7_waysOf_0 (by decide) rfl ?_
  refine r_leq (z := lI (wtP (lm (s_n s) (s_K s)) v g 0)) rfl ?_
  refine r_lstore_n 2 (L' := [_, _, _, _, _, _, _]) dX7_waysOf_1 (by decide) rfl rfl rfl ?_
  refine r_iconst 3 (v := 0) dX7_waysOf_2 (by decide) rfl ?_
  refine r_istore 5 (L' := [_, _, _, _, _, _, _]) dX7_waysOf_3 (by decide) rfl rfl rfl ?_
  refine l_waysOf hd hR hS hv hg (fun v6 => ?_) (s_n s) 0 none (Nat.zero_add _)
  refine r_lload_n 64 dX7_waysOf_63 rfl rfl ?_
  exact r_lret dX7_waysOf_64 rfl (⟨rfl, rfl⟩)
theorem wtA_p : ∀ n, n < 7 → ∀ L, L < 2 ^ n → wtA L n = 10 ^ sm 6 (bi L) := by decide +kernel
theorem sm_b6 {L : Nat} : sm 6 (bi L) ≤ 6 := by
  have := sm_le (n := 6) (M := 1) (f := bi L) (fun c _ => by have := bi_lt L c; omega)
  omega
set_option maxRecDepth 20000 in
set_option maxHeartbeats 4000000 in
theorem l_allWays {d : Nat} {w : zW} {s : sT} {T : zX → Prop} (hd : 1 ≤ d) (hR : RM w s) (hS : sV s) (hx : WP mX7_allWays d T 27 [some (.ref 50), some (.long (lI (10 ^ (sm 6 (bi (lm (s_n s) (s_K s))))))), none, some (.int (nI (sm 6 (bi (lm (s_n s) (s_K s))))))] [] w) : ∀ k i, i + k = (sm 6 (bi (lm (s_n s) (s_K s)))) → WP mX7_allWays d T 4 [some (.ref 50), some (.long (lI (10 ^ i))), none, some (.int (nI i))] [] w := by
  have hn := hS.1.n
  have hb6 := sm_b6 (L := (lm (s_n s) (s_K s)))
  intro k
  induction k with
  | zero =>
    intro i hi
    have e : i = (sm 6 (bi (lm (s_n s) (s_K s)))) := by omega
    rw [e]
    refine r_iload_n 5 dX7_allWays_4 rfl rfl ?_
    refine r_aload_n 6 dX7_allWays_5 rfl rfl ?_
    refine r_callV (y2 := mX7_liars) (as := []) 9 dX7_allWays_6 ml_X7_234 mv_X7_liars (m_liars (d := d - 1) hR hS) (by omega) sh_50 ⟨_, rfl, rfl⟩ rfl (Nat.le_of_ble_eq_true rfl) rfl (kk_i ?_)
    rintro _ _ ⟨rfl, rfl⟩
    refine r_callS (y2 := mX7_bitsOf) (as := [_]) 12 dX7_allWays_9 ml_X7_195 ms_X7_bitsOf (m_bitsOf (d := d - 1) (g := (lm (s_n s) (s_K s))) (mk_64 hn)) (by omega) rfl (Nat.le_of_ble_eq_true rfl) rfl (kk_i ?_)
    rintro _ _ ⟨rfl, rfl⟩
    refine r_icmp_ge 27 15 dX7_allWays_12 (by decide) rfl (fun _ => ?_) (fun z => absurd (Int32.le_refl _) z)
    exact hx
  | succ k ih =>
    intro i hi
    refine r_iload_n 5 dX7_allWays_4 rfl rfl ?_
    refine r_aload_n 6 dX7_allWays_5 rfl rfl ?_
    refine r_callV (y2 := mX7_liars) (as := []) 9 dX7_allWays_6 ml_X7_234 mv_X7_liars (m_liars (d := d - 1) hR hS) (by omega) sh_50 ⟨_, rfl, rfl⟩ rfl (Nat.le_of_ble_eq_true rfl) rfl (kk_i ?_)
    rintro _ _ ⟨rfl, rfl⟩
    refine r_callS (y2 := mX7_bitsOf) (as := [_]) 12 dX7_allWays_9 ml_X7_195 ms_X7_bitsOf (m_bitsOf (d := d - 1) (g := (lm (s_n s) (s_K s))) (mk_64 hn)) (by omega) rfl (Nat.le_of_ble_eq_true rfl) rfl (kk_i ?_)
    rintro _ _ ⟨rfl, rfl⟩
    refine r_icmp_ge 27 15 dX7_allWays_12 (by decide) rfl (fun z => absurd z (fun z => absurd ((nI_le' (by omega) (by omega)).mp z) (by omega))) (fun _ => ?_)
    refine r_lload_n 16 dX7_allWays_15 rfl rfl ?_
    refine r_ldc2 19 dX7_allWays_16 kl_X7_298 rfl ?_
    refine r_lmul 20 dX7_allWays_19 rfl ?_
    refine r_leq (z := lI (10 ^ (i + 1))) ((lI_mul _ 10).trans (by rw [Nat.pow_succ])) ?_
    refine r_lstore_n 21 (L' := [_, _, _, _]) dX7_allWays_20 (by decide) rfl rfl rfl ?_
    refine r_iinc 24 (L' := [_, _, _, _]) (v := nI (i + 1)) dX7_allWays_21 rfl (nI_1 i) (by decide) rfl rfl rfl ?_
    refine r_goto 4 dX7_allWays_24 (by decide) ?_
    exact ih (i + 1) (by omega)
set_option maxRecDepth 20000 in
set_option maxHeartbeats 4000000 in
theorem m_allWays {d : Nat} {w : zW} {s : sT} (hd : 1 ≤ d) (hR : RM w s) (hS : sV s) : CT mX7_allWays d [.ref 50] w (z_l fun x w' => lI (wtA (lm (s_n s) (s_K s)) (s_n s)) = x ∧ w = w') := by
  have hn := hS.1.n
  refine CT.of [some (.ref 50), none, none, none] rfl (Nat.le_of_ble_eq_true rfl) rfl ?_
  refine r_lconst 1 (v := 1) dX7_allWays_0 (by decide) rfl ?_
  refine r_leq (z := lI (10 ^ 0)) rfl ?_
  refine r_lstore_n 2 (L' := [_, _, _, _]) dX7_allWays_1 (by decide) rfl rfl rfl ?_
  refine r_iconst 3 (v := 0) dX7_allWays_2 (by decide) rfl ?_
  refine r_istore_n 4 (L' := [_, _, _, _]) dX7_allWays_3 (by decide) rfl rfl rfl ?_
  refine l_allWays hd hR hS ?_ (sm 6 (bi (lm (s_n s) (s_K s)))) 0 (Nat.zero_add _)
  refine r_lload_n 28 dX7_allWays_27 rfl rfl ?_
  exact r_lret dX7_allWays_28 rfl (⟨by rw [wtA_p (s_n s) (by omega) (lm (s_n s) (s_K s)) (mk_lt)], rfl⟩)
set_option maxRecDepth 20000 in
set_option maxHeartbeats 4000000 in
theorem m_dayCaught {d g : Nat} {w : zW} {s : sT} (hd : 6 ≤ d) (hg : g < 64) (hR : RM w s) (hS : sV s) : CT mX7_dayCaught d [.ref 50, .int (nI g)] w (z_v fun w' => dyM w' (s_n s) (s_n s) (d_run (s_n s) (s_K s) g (s_n s)) ∧ frR w w') := by
  refine CT.of [some (.ref 50), some (.int (nI g))] rfl (Nat.le_of_ble_eq_true rfl) rfl ?_
  refine r_aload_n 1 dX7_dayCaught_0 rfl rfl ?_
  refine r_callV (y2 := mX7_starts) (as := []) 4 dX7_dayCaught_1 ml_X7_228 mv_X7_starts (m_start (d := d - 1) hR) (by omega) sh_50 ⟨_, rfl, rfl⟩ rfl (Nat.le_of_ble_eq_true rfl) rfl (kk_v ?_)
  rintro w1 ⟨hL, hc, hf⟩
  refine r_aload_n 5 dX7_dayCaught_4 rfl rfl ?_
  refine r_iload_n 6 dX7_dayCaught_5 rfl rfl ?_
  refine r_puti 9 dX7_dayCaught_6 fz_X7_163 fw_7_17 sh_50 rfl rfl ?_
  refine r_nw (fun w2 e2 => ?_)
  refine r_aload_n 10 dX7_dayCaught_9 rfl rfl ?_
  refine r_callV (y2 := mX7_dayGoes) (as := []) 13 dX7_dayCaught_10 ml_X7_231 mv_X7_dayGoes (m_dayGoes (d := d - 1) (cg := g) (by omega) (by decide : 99 ≤ 200) hS.1.1 hg (hL.congr (by rw [e2, z_up_i (by decide)]) (by rw [e2, z_up_o (by decide)])) (by rw [e2, z_up_s])) (by omega) sh_50 ⟨_, rfl, rfl⟩ rfl (Nat.le_of_ble_eq_true rfl) rfl (kk_v ?_)
  rintro w3 ⟨hC, hF⟩
  exact r_vret dX7_dayCaught_13 rfl (⟨hC, (hf.trans (show frR w1 w2 from ⟨fun q hq => by rw [e2, z_up_i (by omega)], fun a ha => by rw [e2, z_up_o (by omega)]⟩)).trans hF.R⟩)
set_option maxRecDepth 20000 in
set_option maxHeartbeats 4000000 in
theorem l_meanM {d v b q : Nat} {w0 : zW} {s : sT} {T : zX → Prop} (hd : 8 ≤ d) (hS : sV s) (hv : v ≤ 10) (hb : b < s_n s) (hx : ∀ w, RM w s → frR w0 w → WP mX7_mean d T 92 [some (.ref 50), some (.int (nI v)), some (.int (nI b)), some (.int (nI q)), some (.long (lI (wsM (s_n s) (lm (s_n s) (s_K s)) v (stF (s_n s) (s_K s) b) (2 ^ s_n s)))), none, some (.int (nI (2 ^ s_n s)))] [] w) : ∀ k g (w : zW), g + k = 2 ^ s_n s → RM w s → frR w0 w → WP mX7_mean d T 37 [some (.ref 50), some (.int (nI v)), some (.int (nI b)), some (.int (nI q)), some (.long (lI (wsM (s_n s) (lm (s_n s) (s_K s)) v (stF (s_n s) (s_K s) b) g))), none, some (.int (nI g))] [] w := by
  have hn := hS.1.n
  have h64 := p2_le (s_n s) (by omega)
  have hL : (lm (s_n s) (s_K s)) < 64 := mk_64 hn
  intro k
  induction k with
  | zero =>
    intro g w hg hR hF
    have e : g = 2 ^ s_n s := by omega
    rw [e]
    refine r_iload 39 dX7_mean_37 rfl rfl ?_
    refine r_iconst 40 (v := 1) dX7_mean_39 (by decide) rfl ?_
    refine r_aload_n 41 dX7_mean_40 rfl rfl ?_
    refine r_geti 44 dX7_mean_41 fz_X7_69 sh_50 rfl rfl ?_
    refine r_eq hR.n ?_
    refine r_ishl 45 dX7_mean_44 rfl ?_
    refine r_eq (b_sl _ (by omega)) ?_
    refine r_icmp_ge 92 48 dX7_mean_45 (by decide) rfl (fun _ => ?_) (fun z => absurd (Int32.le_refl _) z)
    exact hx w hR hF
  | succ k ih =>
    intro g w hg hR hF
    have hI := dI_run (cg := g) hS.1.1 (by decide : 99 ≤ 200) (s_n s) (Nat.le_refl _)
    have fan := (f_an g (by omega) (lm (s_n s) (s_K s)) hL).2.2
    have e1 : (wsM (s_n s) (lm (s_n s) (s_K s)) v (stF (s_n s) (s_K s) b) (g + 1)) = (wsM (s_n s) (lm (s_n s) (s_K s)) v (stF (s_n s) (s_K s) b) g) + (if sb (lm (s_n s) (s_K s)) g = true then wtP (lm (s_n s) (s_K s)) v g (s_n s) else 0) * (stF (s_n s) (s_K s) b) g := wsM_s
    refine r_iload 39 dX7_mean_37 rfl rfl ?_
    refine r_iconst 40 (v := 1) dX7_mean_39 (by decide) rfl ?_
    refine r_aload_n 41 dX7_mean_40 rfl rfl ?_
    refine r_geti 44 dX7_mean_41 fz_X7_69 sh_50 rfl rfl ?_
    refine r_eq hR.n ?_
    refine r_ishl 45 dX7_mean_44 rfl ?_
    refine r_eq (b_sl _ (by omega)) ?_
    refine r_icmp_ge 92 48 dX7_mean_45 (by decide) rfl (fun z => absurd z (fun z => absurd ((nI_le' (by omega) (by omega)).mp z) (by omega))) (fun _ => ?_)
    refine r_iload 50 dX7_mean_48 rfl rfl ?_
    refine r_aload_n 51 dX7_mean_50 rfl rfl ?_
    refine r_callV (y2 := mX7_liars) (as := []) 54 dX7_mean_51 ml_X7_234 mv_X7_liars (m_liars (d := d - 1) hR hS) (by omega) sh_50 ⟨_, rfl, rfl⟩ rfl (Nat.le_of_ble_eq_true rfl) rfl (kk_i ?_)
    rintro _ _ ⟨rfl, rfl⟩
    refine r_iconst 55 (v := -1) dX7_mean_54 (by decide) rfl ?_
    refine r_ixor 56 dX7_mean_55 rfl ?_
    refine r_iand 57 dX7_mean_56 rfl ?_
    refine r_eq fan.1 ?_
    refine r_if_ne 86 60 dX7_mean_57 (by decide) rfl (fun g57 => ?_) (fun g57 => ?_)
    · have gs : ¬ sb (lm (s_n s) (s_K s)) g = true := fun z => g57 (by rw [show g &&& (63 - (lm (s_n s) (s_K s))) = 0 by simpa [sb] using z]; rfl)
      rw [if_neg gs, Nat.zero_mul, Nat.add_zero] at e1
      refine r_iinc 89 (L' := [_, _, _, _, _, _, _]) (v := nI (g + 1)) dX7_mean_86 rfl (nI_1 g) (by decide) rfl rfl rfl ?_
      refine r_goto 37 dX7_mean_89 (by decide) ?_
      have nx := ih (g + 1) w (by omega) hR hF
      rw [e1] at nx
      exact nx
    · have gs : sb (lm (s_n s) (s_K s)) g = true := by have := (nI_inj (b := 0) (by omega) (by decide)).mp g57; simp [sb, this]
      rw [if_pos gs] at e1
      refine r_aload_n 61 dX7_mean_60 rfl rfl ?_
      refine r_iload 63 dX7_mean_61 rfl rfl ?_
      refine r_callV (y2 := mX7_dayCaught) (as := [_]) 66 dX7_mean_63 ml_X7_302 mv_X7_dayCaught (m_dayCaught (d := d - 1) (g := g) (by omega) (by omega) hR hS) (by omega) sh_50 ⟨_, rfl, rfl⟩ rfl (Nat.le_of_ble_eq_true rfl) rfl (kk_v ?_)
      rintro w1 ⟨hC, hf⟩
      have hR1 := hR.fr hf
      refine r_lload 68 dX7_mean_66 rfl rfl ?_
      refine r_aload_n 69 dX7_mean_68 rfl rfl ?_
      refine r_iload 71 dX7_mean_69 rfl rfl ?_
      refine r_iload_n 72 dX7_mean_71 rfl rfl ?_
      refine r_callV (y2 := mX7_waysOf) (as := [_, _]) 75 dX7_mean_72 ml_X7_305 mv_X7_waysOf (m_waysOf (d := d - 1) (by omega) hR1 hS hv (by omega)) (by omega) sh_50 ⟨_, rfl, rfl⟩ rfl (Nat.le_of_ble_eq_true rfl) rfl (kk_l ?_)
      rintro _ _ ⟨rfl, rfl⟩
      refine r_aload_n 76 dX7_mean_75 rfl rfl ?_
      refine r_getr 79 dX7_mean_76 fz_X7_32 sh_50 rfl rfl ?_
      refine r_iload_n 80 dX7_mean_79 rfl rfl ?_
      refine rj_iald 81 (b) dX7_mean_80 sh_58 (rfl) (by omega) (by decide) rfl ?_
      refine r_eq (z := nI (stF (s_n s) (s_K s) b g)) ((hC.2.2.2.2.2.2 b hb (dI_all hI b hb)).2) ?_
      refine r_i2l 82 dX7_mean_81 rfl ?_
      refine r_leq (nI_lI (by have := (hI.2.2.2.2.2.2.2 b).1; show d_s _ b < _; omega)) ?_
      refine r_lmul 83 dX7_mean_82 rfl ?_
      refine r_leq (lI_mul _ _) ?_
      refine r_ladd 84 dX7_mean_83 rfl ?_
      refine r_leq (lI_add _ _) ?_
      refine r_lstore 86 (L' := [_, _, _, _, _, _, _]) dX7_mean_84 (by decide) rfl rfl rfl ?_
      refine r_iinc 89 (L' := [_, _, _, _, _, _, _]) (v := nI (g + 1)) dX7_mean_86 rfl (nI_1 g) (by decide) rfl rfl rfl ?_
      refine r_goto 37 dX7_mean_89 (by decide) ?_
      have nx := ih (g + 1) w1 (by omega) hR1 (hF.trans hf)
      rw [e1] at nx
      exact nx
set_option maxRecDepth 20000 in
set_option maxHeartbeats 4000000 in
theorem M_mean {d : Nat} {w : zW} {s : sT} {v b q : Int32} (hd : 9 ≤ d) (hR : RM w s) (hS : sV s) : AMl mX7_mean d [.int v, .int b, .int q] w (f_mean s v b q) := by
  have hn := hS.1.n
  refine CT.of [some (.ref 50), some (.int v), some (.int b), some (.int q), none, none, none] rfl (Nat.le_of_ble_eq_true rfl) rfl ?_
  refine r_iload_n 1 dX7_mean_0 rfl rfl ?_
  refine r_i2l 2 dX7_mean_1 rfl ?_
  refine r_lconst 3 (v := 0) dX7_mean_2 (by decide) rfl ?_
  refine r_ldc2 6 dX7_mean_3 kl_X7_298 rfl ?_
  refine r_callS (y2 := mX7_in) (as := [_, _, _]) 9 dX7_mean_6 ml_X7_74 ms_X7_in (m_in (d := d - 1) _ _ _) (by omega) rfl (Nat.le_of_ble_eq_true rfl) rfl (kk_i ?_)
  rintro _ _ ⟨rfl, rfl⟩
  refine r_eq (z_bc (in_wi (lo := 0) (hi := 10) rfl rfl)) ?_
  refine rb_eq 27 12 dX7_mean_9 (by decide) rfl (fun g9 => ?_) (fun g9 => ?_)
  · refine r_ldc2 30 dX7_mean_27 kl_X7_300 rfl ?_
    exact r_lret dX7_mean_30 rfl (by first | exact ⟨by rw [f_mean, if_neg (fun z => g9 z.1)], by rw [f_mean, if_neg (fun z => g9 z.1)]; exact hR, fun _ _ => rfl⟩ | exact ⟨by rw [f_mean, if_neg (fun z => g17 z.2.1)], by rw [f_mean, if_neg (fun z => g17 z.2.1)]; exact hR, fun _ _ => rfl⟩ | exact ⟨by rw [f_mean, if_neg (fun z => g24 z.2.2)], by rw [f_mean, if_neg (fun z => g24 z.2.2)]; exact hR, fun _ _ => rfl⟩)
  · obtain ⟨v, hv, rfl⟩ := wi_of (hi := 10) g9
    have hvs : tN (nI v) = v := tN_n (by omega)
    refine r_aload_n 13 dX7_mean_12 rfl rfl ?_
    refine r_iload_n 14 dX7_mean_13 rfl rfl ?_
    refine r_callV (y2 := mX7_isBoat) (as := [_]) 17 dX7_mean_14 ml_X7_237 mv_X7_isBoat (m_isBoat (d := d - 1) (by omega) hn hR.n) (by omega) sh_50 ⟨_, rfl, rfl⟩ rfl (Nat.le_of_ble_eq_true rfl) rfl (kk_i ?_)
    rintro _ _ ⟨rfl, rfl⟩
    refine rb_eq 27 20 dX7_mean_17 (by decide) rfl (fun g17 => ?_) (fun g17 => ?_)
    · refine r_ldc2 30 dX7_mean_27 kl_X7_300 rfl ?_
      exact r_lret dX7_mean_30 rfl (by first | exact ⟨by rw [f_mean, if_neg (fun z => g9 z.1)], by rw [f_mean, if_neg (fun z => g9 z.1)]; exact hR, fun _ _ => rfl⟩ | exact ⟨by rw [f_mean, if_neg (fun z => g17 z.2.1)], by rw [f_mean, if_neg (fun z => g17 z.2.1)]; exact hR, fun _ _ => rfl⟩ | exact ⟨by rw [f_mean, if_neg (fun z => g24 z.2.2)], by rw [f_mean, if_neg (fun z => g24 z.2.2)]; exact hR, fun _ _ => rfl⟩)
    · obtain ⟨b, hb, rfl⟩ := iB_of g17
      have hbs : tN (nI b) = b := tN_n (by omega)
      refine r_iload_n 21 dX7_mean_20 rfl rfl ?_
      refine r_callS (y2 := mX7_isPart) (as := [_]) 24 dX7_mean_21 ml_X7_285 ms_X7_isPart (m_isPart (d := d - 1) (by omega)) (by omega) rfl (Nat.le_of_ble_eq_true rfl) rfl (kk_i ?_)
      rintro _ _ ⟨rfl, rfl⟩
      refine rb_ne 31 27 dX7_mean_24 (by decide) rfl (fun g24 => ?_) (fun g24 => ?_)
      · obtain ⟨q, hq, rfl⟩ := wi_of (hi := 1) g24
        have hqs : tN (nI q) = q := tN_n (by omega)
        refine r_lconst 32 (v := 0) dX7_mean_31 (by decide) rfl ?_
        refine r_leq (z := lI (wsM (s_n s) (lm (s_n s) (s_K s)) v (stF (s_n s) (s_K s) b) 0)) rfl ?_
        refine r_lstore 34 (L' := [_, _, _, _, _, _, _]) dX7_mean_32 (by decide) rfl rfl rfl ?_
        refine r_iconst 35 (v := 0) dX7_mean_34 (by decide) rfl ?_
        refine r_istore 37 (L' := [_, _, _, _, _, _, _]) dX7_mean_35 (by decide) rfl rfl rfl ?_
        refine l_meanM (w0 := w) (v := v) (b := b) (q := q) (by omega) hS hv hb (fun w1 hR1 hF => ?_) (2 ^ s_n s) 0 w (Nat.zero_add _) hR frR.rfl
        have hFb : ∀ g, stF (s_n s) (s_K s) b g ≤ 400 := fun g => ((dI_run (cg := g) hS.1.1 (by decide : 99 ≤ 200) (s_n s) (Nat.le_refl _)).2.2.2.2.2.2.2 b).1
        have hp6 := p10_6 hn
        have hWA := wtA_le (L := (lm (s_n s) (s_K s))) (s_n s)
        have h64 := p2_le (s_n s) (by omega)
        have hSl := wsM_le (n := s_n s) (L := (lm (s_n s) (s_K s))) (v := v) (F := (stF (s_n s) (s_K s) b)) hn hv hFb (2 ^ s_n s)
        have hSl : wsM (s_n s) (lm (s_n s) (s_K s)) v (stF (s_n s) (s_K s) b) (2 ^ s_n s) < 9223372036854775808 := by omega
        refine r_lload 94 dX7_mean_92 rfl rfl ?_
        refine r_aload_n 95 dX7_mean_94 rfl rfl ?_
        refine r_callV (y2 := mX7_allWays) (as := []) 98 dX7_mean_95 ml_X7_309 mv_X7_allWays (m_allWays (d := d - 1) (by omega) hR1 hS) (by omega) sh_50 ⟨_, rfl, rfl⟩ rfl (Nat.le_of_ble_eq_true rfl) rfl (kk_l ?_)
        rintro _ _ ⟨rfl, rfl⟩
        refine r_iload_n 99 dX7_mean_98 rfl rfl ?_
        refine r_callS (y2 := mX7_told) (as := [_, _, _]) 102 dX7_mean_99 ml_X7_313 ms_X7_told (m_told (d := d - 1) (by omega) hSl (by omega) hWA.1 (by omega)) (by omega) rfl (Nat.le_of_ble_eq_true rfl) rfl (kk_l ?_)
        rintro _ _ ⟨rfl, rfl⟩
        exact r_lret dX7_mean_102 rfl (⟨by rw [f_mean, if_pos ⟨g9, g17, g24⟩, hvs, hbs, hqs], hR1, hF.lo⟩)
      · refine r_ldc2 30 dX7_mean_27 kl_X7_300 rfl ?_
        exact r_lret dX7_mean_30 rfl (by first | exact ⟨by rw [f_mean, if_neg (fun z => g9 z.1)], by rw [f_mean, if_neg (fun z => g9 z.1)]; exact hR, fun _ _ => rfl⟩ | exact ⟨by rw [f_mean, if_neg (fun z => g17 z.2.1)], by rw [f_mean, if_neg (fun z => g17 z.2.1)]; exact hR, fun _ _ => rfl⟩ | exact ⟨by rw [f_mean, if_neg (fun z => g24 z.2.2)], by rw [f_mean, if_neg (fun z => g24 z.2.2)]; exact hR, fun _ _ => rfl⟩)
set_option maxRecDepth 20000 in
set_option maxHeartbeats 4000000 in
theorem l_luckM {d v b i q : Nat} {w0 : zW} {s : sT} {T : zX → Prop} (hd : 8 ≤ d) (hS : sV s) (hv : v ≤ 10) (hb : b < s_n s) (hi : i < s_n s) (hx : ∀ w, RM w s → frR w0 w → WP mX7_luck d T 107 [some (.ref 50), some (.int (nI v)), some (.int (nI b)), some (.int (nI i)), some (.int (nI q)), some (.long (lI (wsM (s_n s) (lm (s_n s) (s_K s)) v (paF (s_n s) (s_K s) b i) (2 ^ s_n s)))), none, some (.int (nI (2 ^ s_n s)))] [] w) : ∀ k g (w : zW), g + k = 2 ^ s_n s → RM w s → frR w0 w → WP mX7_luck d T 46 [some (.ref 50), some (.int (nI v)), some (.int (nI b)), some (.int (nI i)), some (.int (nI q)), some (.long (lI (wsM (s_n s) (lm (s_n s) (s_K s)) v (paF (s_n s) (s_K s) b i) g))), none, some (.int (nI g))] [] w := by
  have hn := hS.1.n
  have h64 := p2_le (s_n s) (by omega)
  have hL : (lm (s_n s) (s_K s)) < 64 := mk_64 hn
  intro k
  induction k with
  | zero =>
    intro g w hg hR hF
    have e : g = 2 ^ s_n s := by omega
    rw [e]
    refine r_iload 48 dX7_luck_46 rfl rfl ?_
    refine r_iconst 49 (v := 1) dX7_luck_48 (by decide) rfl ?_
    refine r_aload_n 50 dX7_luck_49 rfl rfl ?_
    refine r_geti 53 dX7_luck_50 fz_X7_69 sh_50 rfl rfl ?_
    refine r_eq hR.n ?_
    refine r_ishl 54 dX7_luck_53 rfl ?_
    refine r_eq (b_sl _ (by omega)) ?_
    refine r_icmp_ge 107 57 dX7_luck_54 (by decide) rfl (fun _ => ?_) (fun z => absurd (Int32.le_refl _) z)
    exact hx w hR hF
  | succ k ih =>
    intro g w hg hR hF
    have hI := dI_run (cg := g) hS.1.1 (by decide : 99 ≤ 200) (s_n s) (Nat.le_refl _)
    have fan := (f_an g (by omega) (lm (s_n s) (s_K s)) hL).2.2
    have e1 : (wsM (s_n s) (lm (s_n s) (s_K s)) v (paF (s_n s) (s_K s) b i) (g + 1)) = (wsM (s_n s) (lm (s_n s) (s_K s)) v (paF (s_n s) (s_K s) b i) g) + (if sb (lm (s_n s) (s_K s)) g = true then wtP (lm (s_n s) (s_K s)) v g (s_n s) else 0) * (paF (s_n s) (s_K s) b i) g := wsM_s
    refine r_iload 48 dX7_luck_46 rfl rfl ?_
    refine r_iconst 49 (v := 1) dX7_luck_48 (by decide) rfl ?_
    refine r_aload_n 50 dX7_luck_49 rfl rfl ?_
    refine r_geti 53 dX7_luck_50 fz_X7_69 sh_50 rfl rfl ?_
    refine r_eq hR.n ?_
    refine r_ishl 54 dX7_luck_53 rfl ?_
    refine r_eq (b_sl _ (by omega)) ?_
    refine r_icmp_ge 107 57 dX7_luck_54 (by decide) rfl (fun z => absurd z (fun z => absurd ((nI_le' (by omega) (by omega)).mp z) (by omega))) (fun _ => ?_)
    refine r_iload 59 dX7_luck_57 rfl rfl ?_
    refine r_aload_n 60 dX7_luck_59 rfl rfl ?_
    refine r_callV (y2 := mX7_liars) (as := []) 63 dX7_luck_60 ml_X7_234 mv_X7_liars (m_liars (d := d - 1) hR hS) (by omega) sh_50 ⟨_, rfl, rfl⟩ rfl (Nat.le_of_ble_eq_true rfl) rfl (kk_i ?_)
    rintro _ _ ⟨rfl, rfl⟩
    refine r_iconst 64 (v := -1) dX7_luck_63 (by decide) rfl ?_
    refine r_ixor 65 dX7_luck_64 rfl ?_
    refine r_iand 66 dX7_luck_65 rfl ?_
    refine r_eq fan.1 ?_
    refine r_if_ne 101 69 dX7_luck_66 (by decide) rfl (fun g66 => ?_) (fun g66 => ?_)
    · have gs : ¬ sb (lm (s_n s) (s_K s)) g = true := fun z => g66 (by rw [show g &&& (63 - (lm (s_n s) (s_K s))) = 0 by simpa [sb] using z]; rfl)
      rw [if_neg gs, Nat.zero_mul, Nat.add_zero] at e1
      refine r_iinc 104 (L' := [_, _, _, _, _, _, _, _]) (v := nI (g + 1)) dX7_luck_101 rfl (nI_1 g) (by decide) rfl rfl rfl ?_
      refine r_goto 46 dX7_luck_104 (by decide) ?_
      have nx := ih (g + 1) w (by omega) hR hF
      rw [e1] at nx
      exact nx
    · have gs : sb (lm (s_n s) (s_K s)) g = true := by have := (nI_inj (b := 0) (by omega) (by decide)).mp g66; simp [sb, this]
      rw [if_pos gs] at e1
      refine r_aload_n 70 dX7_luck_69 rfl rfl ?_
      refine r_iload 72 dX7_luck_70 rfl rfl ?_
      refine r_callV (y2 := mX7_dayCaught) (as := [_]) 75 dX7_luck_72 ml_X7_302 mv_X7_dayCaught (m_dayCaught (d := d - 1) (g := g) (by omega) (by omega) hR hS) (by omega) sh_50 ⟨_, rfl, rfl⟩ rfl (Nat.le_of_ble_eq_true rfl) rfl (kk_v ?_)
      rintro w1 ⟨hC, hf⟩
      have hR1 := hR.fr hf
      have hpp := (hI.2.2.1 i hi).1
      refine r_lload 77 dX7_luck_75 rfl rfl ?_
      refine r_aload_n 78 dX7_luck_77 rfl rfl ?_
      refine r_getr 81 dX7_luck_78 fz_X7_26 sh_50 rfl rfl ?_
      refine r_iload_n 82 dX7_luck_81 rfl rfl ?_
      refine rj_iald 83 (i) dX7_luck_82 sh_56 (rfl) (by omega) (by decide) rfl ?_
      refine r_eq (hC.2.2.2.2.2.1 i hi) ?_
      refine r_iload_n 84 dX7_luck_83 rfl rfl ?_
      refine r_icmp_ne 97 87 dX7_luck_84 (by decide) rfl (fun g84 => ?_) (fun g84 => ?_)
      · have g84 : ¬ d_p (d_run (s_n s) (s_K s) g (s_n s)) i = b := fun z => g84 (by rw [z])
        rw [show (paF (s_n s) (s_K s) b i) g = 0 from if_neg g84, Nat.mul_zero] at e1
        refine r_lconst 98 (v := 0) dX7_luck_97 (by decide) rfl ?_
        refine r_leq (z := lI 0) rfl ?_
        refine r_ladd 99 dX7_luck_98 rfl ?_
        refine r_leq (lI_add _ _) ?_
        refine r_lstore 101 (L' := [_, _, _, _, _, _, _, _]) dX7_luck_99 (by decide) rfl rfl rfl ?_
        refine r_iinc 104 (L' := [_, _, _, _, _, _, _, _]) (v := nI (g + 1)) dX7_luck_101 rfl (nI_1 g) (by decide) rfl rfl rfl ?_
        refine r_goto 46 dX7_luck_104 (by decide) ?_
        have nx := ih (g + 1) w1 (by omega) hR1 (hF.trans hf)
        rw [e1] at nx
        exact nx
      · have g84 : d_p (d_run (s_n s) (s_K s) g (s_n s)) i = b := (nI_inj (by omega) (by omega)).mp g84
        rw [show (paF (s_n s) (s_K s) b i) g = 1 from if_pos g84, Nat.mul_one] at e1
        refine r_aload_n 88 dX7_luck_87 rfl rfl ?_
        refine r_iload 90 dX7_luck_88 rfl rfl ?_
        refine r_iload_n 91 dX7_luck_90 rfl rfl ?_
        refine r_callV (y2 := mX7_waysOf) (as := [_, _]) 94 dX7_luck_91 ml_X7_305 mv_X7_waysOf (m_waysOf (d := d - 1) (by omega) hR1 hS hv (by omega)) (by omega) sh_50 ⟨_, rfl, rfl⟩ rfl (Nat.le_of_ble_eq_true rfl) rfl (kk_l ?_)
        rintro _ _ ⟨rfl, rfl⟩
        refine r_goto 98 dX7_luck_94 (by decide) ?_
        refine r_ladd 99 dX7_luck_98 rfl ?_
        refine r_leq (lI_add _ _) ?_
        refine r_lstore 101 (L' := [_, _, _, _, _, _, _, _]) dX7_luck_99 (by decide) rfl rfl rfl ?_
        refine r_iinc 104 (L' := [_, _, _, _, _, _, _, _]) (v := nI (g + 1)) dX7_luck_101 rfl (nI_1 g) (by decide) rfl rfl rfl ?_
        refine r_goto 46 dX7_luck_104 (by decide) ?_
        have nx := ih (g + 1) w1 (by omega) hR1 (hF.trans hf)
        rw [e1] at nx
        exact nx
set_option maxRecDepth 20000 in
set_option maxHeartbeats 4000000 in
theorem M_luck {d : Nat} {w : zW} {s : sT} {v b i q : Int32} (hd : 9 ≤ d) (hR : RM w s) (hS : sV s) : AMl mX7_luck d [.int v, .int b, .int i, .int q] w (f_luck s v b i q) := by
  have hn := hS.1.n
  refine CT.of [some (.ref 50), some (.int v), some (.int b), some (.int i), some (.int q), none, none, none] rfl (Nat.le_of_ble_eq_true rfl) rfl ?_
  refine r_iload_n 1 dX7_luck_0 rfl rfl ?_
  refine r_i2l 2 dX7_luck_1 rfl ?_
  refine r_lconst 3 (v := 0) dX7_luck_2 (by decide) rfl ?_
  refine r_ldc2 6 dX7_luck_3 kl_X7_298 rfl ?_
  refine r_callS (y2 := mX7_in) (as := [_, _, _]) 9 dX7_luck_6 ml_X7_74 ms_X7_in (m_in (d := d - 1) _ _ _) (by omega) rfl (Nat.le_of_ble_eq_true rfl) rfl (kk_i ?_)
  rintro _ _ ⟨rfl, rfl⟩
  refine r_eq (z_bc (in_wi (lo := 0) (hi := 10) rfl rfl)) ?_
  refine rb_eq 36 12 dX7_luck_9 (by decide) rfl (fun g9 => ?_) (fun g9 => ?_)
  · refine r_ldc2 39 dX7_luck_36 kl_X7_300 rfl ?_
    exact r_lret dX7_luck_39 rfl (by first | exact ⟨by rw [f_luck, if_neg (fun z => g9 z.1)], by rw [f_luck, if_neg (fun z => g9 z.1)]; exact hR, fun _ _ => rfl⟩ | exact ⟨by rw [f_luck, if_neg (fun z => g17 z.2.1)], by rw [f_luck, if_neg (fun z => g17 z.2.1)]; exact hR, fun _ _ => rfl⟩ | exact ⟨by rw [f_luck, if_neg (fun z => g25 z.2.2.1)], by rw [f_luck, if_neg (fun z => g25 z.2.2.1)]; exact hR, fun _ _ => rfl⟩ | exact ⟨by rw [f_luck, if_neg (fun z => g33 z.2.2.2)], by rw [f_luck, if_neg (fun z => g33 z.2.2.2)]; exact hR, fun _ _ => rfl⟩)
  · obtain ⟨v, hv, rfl⟩ := wi_of (hi := 10) g9
    have hvs : tN (nI v) = v := tN_n (by omega)
    refine r_aload_n 13 dX7_luck_12 rfl rfl ?_
    refine r_iload_n 14 dX7_luck_13 rfl rfl ?_
    refine r_callV (y2 := mX7_isBoat) (as := [_]) 17 dX7_luck_14 ml_X7_237 mv_X7_isBoat (m_isBoat (d := d - 1) (by omega) hn hR.n) (by omega) sh_50 ⟨_, rfl, rfl⟩ rfl (Nat.le_of_ble_eq_true rfl) rfl (kk_i ?_)
    rintro _ _ ⟨rfl, rfl⟩
    refine rb_eq 36 20 dX7_luck_17 (by decide) rfl (fun g17 => ?_) (fun g17 => ?_)
    · refine r_ldc2 39 dX7_luck_36 kl_X7_300 rfl ?_
      exact r_lret dX7_luck_39 rfl (by first | exact ⟨by rw [f_luck, if_neg (fun z => g9 z.1)], by rw [f_luck, if_neg (fun z => g9 z.1)]; exact hR, fun _ _ => rfl⟩ | exact ⟨by rw [f_luck, if_neg (fun z => g17 z.2.1)], by rw [f_luck, if_neg (fun z => g17 z.2.1)]; exact hR, fun _ _ => rfl⟩ | exact ⟨by rw [f_luck, if_neg (fun z => g25 z.2.2.1)], by rw [f_luck, if_neg (fun z => g25 z.2.2.1)]; exact hR, fun _ _ => rfl⟩ | exact ⟨by rw [f_luck, if_neg (fun z => g33 z.2.2.2)], by rw [f_luck, if_neg (fun z => g33 z.2.2.2)]; exact hR, fun _ _ => rfl⟩)
    · obtain ⟨b, hb, rfl⟩ := iB_of g17
      have hbs : tN (nI b) = b := tN_n (by omega)
      refine r_aload_n 21 dX7_luck_20 rfl rfl ?_
      refine r_iload_n 22 dX7_luck_21 rfl rfl ?_
      refine r_callV (y2 := mX7_isBoat) (as := [_]) 25 dX7_luck_22 ml_X7_237 mv_X7_isBoat (m_isBoat (d := d - 1) (by omega) hn hR.n) (by omega) sh_50 ⟨_, rfl, rfl⟩ rfl (Nat.le_of_ble_eq_true rfl) rfl (kk_i ?_)
      rintro _ _ ⟨rfl, rfl⟩
      refine rb_eq 36 28 dX7_luck_25 (by decide) rfl (fun g25 => ?_) (fun g25 => ?_)
      · refine r_ldc2 39 dX7_luck_36 kl_X7_300 rfl ?_
        exact r_lret dX7_luck_39 rfl (by first | exact ⟨by rw [f_luck, if_neg (fun z => g9 z.1)], by rw [f_luck, if_neg (fun z => g9 z.1)]; exact hR, fun _ _ => rfl⟩ | exact ⟨by rw [f_luck, if_neg (fun z => g17 z.2.1)], by rw [f_luck, if_neg (fun z => g17 z.2.1)]; exact hR, fun _ _ => rfl⟩ | exact ⟨by rw [f_luck, if_neg (fun z => g25 z.2.2.1)], by rw [f_luck, if_neg (fun z => g25 z.2.2.1)]; exact hR, fun _ _ => rfl⟩ | exact ⟨by rw [f_luck, if_neg (fun z => g33 z.2.2.2)], by rw [f_luck, if_neg (fun z => g33 z.2.2.2)]; exact hR, fun _ _ => rfl⟩)
      · obtain ⟨i, hi, rfl⟩ := iB_of g25
        have his : tN (nI i) = i := tN_n (by omega)
        refine r_iload 30 dX7_luck_28 rfl rfl ?_
        refine r_callS (y2 := mX7_isPart) (as := [_]) 33 dX7_luck_30 ml_X7_285 ms_X7_isPart (m_isPart (d := d - 1) (by omega)) (by omega) rfl (Nat.le_of_ble_eq_true rfl) rfl (kk_i ?_)
        rintro _ _ ⟨rfl, rfl⟩
        refine rb_ne 40 36 dX7_luck_33 (by decide) rfl (fun g33 => ?_) (fun g33 => ?_)
        · obtain ⟨q, hq, rfl⟩ := wi_of (hi := 1) g33
          have hqs : tN (nI q) = q := tN_n (by omega)
          refine r_lconst 41 (v := 0) dX7_luck_40 (by decide) rfl ?_
          refine r_leq (z := lI (wsM (s_n s) (lm (s_n s) (s_K s)) v (paF (s_n s) (s_K s) b i) 0)) rfl ?_
          refine r_lstore 43 (L' := [_, _, _, _, _, _, _, _]) dX7_luck_41 (by decide) rfl rfl rfl ?_
          refine r_iconst 44 (v := 0) dX7_luck_43 (by decide) rfl ?_
          refine r_istore 46 (L' := [_, _, _, _, _, _, _, _]) dX7_luck_44 (by decide) rfl rfl rfl ?_
          refine l_luckM (w0 := w) (v := v) (b := b) (i := i) (q := q) (by omega) hS hv hb hi (fun w1 hR1 hF => ?_) (2 ^ s_n s) 0 w (Nat.zero_add _) hR frR.rfl
          have hFb : ∀ g, paF (s_n s) (s_K s) b i g ≤ 400 := fun g => by unfold paF; split <;> omega
          have hp6 := p10_6 hn
          have hWA := wtA_le (L := (lm (s_n s) (s_K s))) (s_n s)
          have h64 := p2_le (s_n s) (by omega)
          have hSl := wsM_le (n := s_n s) (L := (lm (s_n s) (s_K s))) (v := v) (F := (paF (s_n s) (s_K s) b i)) hn hv hFb (2 ^ s_n s)
          have hSl : wsM (s_n s) (lm (s_n s) (s_K s)) v (paF (s_n s) (s_K s) b i) (2 ^ s_n s) < 9223372036854775808 := by omega
          refine r_lload 109 dX7_luck_107 rfl rfl ?_
          refine r_aload_n 110 dX7_luck_109 rfl rfl ?_
          refine r_callV (y2 := mX7_allWays) (as := []) 113 dX7_luck_110 ml_X7_309 mv_X7_allWays (m_allWays (d := d - 1) (by omega) hR1 hS) (by omega) sh_50 ⟨_, rfl, rfl⟩ rfl (Nat.le_of_ble_eq_true rfl) rfl (kk_l ?_)
          rintro _ _ ⟨rfl, rfl⟩
          refine r_iload 115 dX7_luck_113 rfl rfl ?_
          refine r_callS (y2 := mX7_told) (as := [_, _, _]) 118 dX7_luck_115 ml_X7_313 ms_X7_told (m_told (d := d - 1) (by omega) hSl (by omega) hWA.1 (by omega)) (by omega) rfl (Nat.le_of_ble_eq_true rfl) rfl (kk_l ?_)
          rintro _ _ ⟨rfl, rfl⟩
          exact r_lret dX7_luck_118 rfl (⟨by rw [f_luck, if_pos ⟨g9, g17, g25, g33⟩, hvs, hbs, his, hqs], hR1, hF.lo⟩)
        · refine r_ldc2 39 dX7_luck_36 kl_X7_300 rfl ?_
          exact r_lret dX7_luck_39 rfl (by first | exact ⟨by rw [f_luck, if_neg (fun z => g9 z.1)], by rw [f_luck, if_neg (fun z => g9 z.1)]; exact hR, fun _ _ => rfl⟩ | exact ⟨by rw [f_luck, if_neg (fun z => g17 z.2.1)], by rw [f_luck, if_neg (fun z => g17 z.2.1)]; exact hR, fun _ _ => rfl⟩ | exact ⟨by rw [f_luck, if_neg (fun z => g25 z.2.2.1)], by rw [f_luck, if_neg (fun z => g25 z.2.2.1)]; exact hR, fun _ _ => rfl⟩ | exact ⟨by rw [f_luck, if_neg (fun z => g33 z.2.2.2)], by rw [f_luck, if_neg (fun z => g33 z.2.2.2)]; exact hR, fun _ _ => rfl⟩)

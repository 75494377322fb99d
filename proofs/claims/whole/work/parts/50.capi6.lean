/-! ===== the class: best, firsts, gain, calm ===== -/
theorem i_nlt {a b : Int32} (h : b ≤ a) : ¬ a < b := fun z => by have := ti_le.mp h; have := ti_lt.mp z; omega
theorem i_lt {a b : Int32} (h : ¬ b ≤ a) : a < b := ti_lt.mpr (by have : ¬ b.toInt ≤ a.toInt := fun z => h (ti_le.mpr z); omega)
/-- the law of the least -/
def bst (n : Nat) (K : Nat → Nat) (q m : Nat) : Option Nat := am m (fun _ => true) (fun l => meas n K (dD n (un K 3 l)) q)
def f_best (s : sT) (q : Int32) : Int32 × sT := (if wi q 0 4 = true then nI ((bst (s_n s) (s_K s) (tN q) 5).getD 0) else -1, s)
def f_firsts (s : sT) (b : Int32) : Int32 × sT := (if iB (s_n s) b = true then nI (mk 5 (fun l => d_p (dD (s_n s) (un (s_K s) 3 l)) 0 == tN b)) else -1, s)
/-- the stand of a boat, and if it told the other -/
def gn (n : Nat) (K : Nat → Nat) (b : Nat) : Int32 := nI (d_s (dD n K) b) - nI (d_s (dD n (fl K b)) b)
def f_gain (s : sT) (b : Int32) : Int32 × sT := (if iB (s_n s) b = true then 1000 + gn (s_n s) (s_K s) (tN b) else -1, s)
def cal (n : Nat) (K : Nat → Nat) : Bool := decide (∀ b, b < n → d_s (dD n K) b ≤ d_s (dD n (fl K b)) b)
def f_calm (s : sT) : Int32 × sT := (nI (mk 5 (fun l => cal (s_n s) (un (s_K s) 3 l))), s)
theorem lawI {s : sT} {l : Nat} (hS : sV s) (hl : l ≤ 4) : dI (s_n s) (s_n s) (dD (s_n s) (un (s_K s) 3 l)) := dI_run (cg := 0) (hS.1.1.law hl) (by decide) (s_n s) (Nat.le_refl _)
theorem dI_D {A n : Nat} {K : Nat → Nat} (hV : kV A n K) (hA : A ≤ 200) : dI n n (dD n K) := dI_run (cg := 0) hV hA n (Nat.le_refl _)
theorem bst_s {n q m : Nat} {K : Nat → Nat} : bst n K q (m + 1) = match bst n K q m with | none => some m | some b => if meas n K (dD n (un K 3 m)) q < meas n K (dD n (un K 3 b)) q then some m else some b := by
  unfold bst
  rw [am]
  cases am m (fun _ => true) (fun l => meas n K (dD n (un K 3 l)) q) with
  | none => rfl
  | some b => simp
/-- best so far -/
def bsX (n : Nat) (K : Nat → Nat) (q m : Nat) (x z : Int32) : Prop := match bst n K q m with
  | none => x = 0 ∧ z = 1000000
  | some b => b < m ∧ x = nI b ∧ z = nI (meas n K (dD n (un K 3 b)) q)
set_option maxRecDepth 20000 in
set_option maxHeartbeats 4000000 in
theorem l_best {d q : Nat} {w0 : zW} {s : sT} {T : zX → Prop} (hd : 5 ≤ d) (hS : sV s) (hq : q ≤ 4) (hx : ∀ w x z v, RC w s → frC w0 w → bsX (s_n s) (s_K s) q 5 x z → WP mX6_best d T 72 [some (.ref 0), some (.int (nI q)), some (.int x), some (.int z), some (.int (nI 5)), v] [] w) : ∀ k i (w : zW) x z v, i + k = 5 → RC w s → frC w0 w → bsX (s_n s) (s_K s) q i x z → WP mX6_best d T 17 [some (.ref 0), some (.int (nI q)), some (.int x), some (.int z), some (.int (nI i)), v] [] w := by
  intro k
  induction k with
  | zero =>
    intro i w x z v hi hR hF hb
    have e : i = 5 := by omega
    subst e
    refine r_iload 19 dX6_best_17 rfl rfl ?_
    refine r_iconst 20 (v := 5) dX6_best_19 (by decide) rfl ?_
    refine r_icmp_ge 72 23 dX6_best_20 (by decide) rfl (fun _ => ?_) (fun z => absurd (Int32.le_refl _) z)
    exact hx w x z v hR hF hb
  | succ k ih =>
    intro i w x z v hi hR hF hb
    refine r_iload 19 dX6_best_17 rfl rfl ?_
    refine r_iconst 20 (v := 5) dX6_best_19 (by decide) rfl ?_
    refine r_icmp_ge 72 23 dX6_best_20 (by decide) rfl (fun z => absurd z (fun z => absurd ((nI_le' (a := 5) (by decide) (by omega)).mp z) (by omega))) (fun _ => ?_)
    refine r_aload_n 24 dX6_best_23 rfl rfl ?_
    refine r_getr 27 dX6_best_24 fz_X6_42 sh_0 rfl rfl ?_
    refine r_aload_n 28 dX6_best_27 rfl rfl ?_
    refine r_getr 31 dX6_best_28 fz_X6_10 sh_0 rfl rfl ?_
    refine r_iload 33 dX6_best_31 rfl rfl ?_
    refine r_aload_n 34 dX6_best_33 rfl rfl ?_
    refine r_getr 37 dX6_best_34 fz_X6_10 sh_0 rfl rfl ?_
    refine r_geti 40 dX6_best_37 fz_X6_99 sh_1 rfl rfl ?_
    refine r_eq hR.1.2.2.2.1 ?_
    refine r_iconst 41 (v := 0) dX6_best_40 (by decide) rfl ?_
    refine r_callV (y2 := mX0_by) (as := [_, _, _, _]) 44 dX6_best_41 ml_X6_153 mv_X0_by (c_lawDay (d := d - 1) (by omega) hR hS (l := i) (by omega)) (by omega) sh_30 ⟨_, rfl, rfl⟩ rfl (Nat.le_of_ble_eq_true rfl) rfl (kk_v ?_)
    rintro w1 ⟨hC, hF1⟩
    have hI := lawI hS (l := i) (by omega)
    have hR1 := hR.fr (d30 hF1)
    have hF2 := hF.trans (d30 hF1)
    have hm := meas_lt (q := q) (hS.1.1.law (l := i) (by omega)) hI
    refine r_aload_n 45 dX6_best_44 rfl rfl ?_
    refine r_getr 48 dX6_best_45 fz_X6_42 sh_0 rfl rfl ?_
    refine r_iload_n 49 dX6_best_48 rfl rfl ?_
    refine r_callV (y2 := mX0_measure) (as := [_]) 52 dX6_best_49 ml_X6_157 mv_X0_measure (c_measure (d := d - 1) (k := q) (by omega)) (by omega) sh_30 ⟨_, rfl, rfl⟩ rfl (Nat.le_of_ble_eq_true rfl) rfl (kk_i ?_)
    rintro _ _ ⟨rfl, rfl⟩
    refine r_eq (dyC_meas hI hC q (by omega)) ?_
    rw [meas_law] at hm ⊢
    have key : bsX (s_n s) (s_K s) q (i + 1) (if nI (meas (s_n s) (s_K s) (dD (s_n s) (un (s_K s) 3 i)) q) < z then nI i else x) (if nI (meas (s_n s) (s_K s) (dD (s_n s) (un (s_K s) 3 i)) q) < z then nI (meas (s_n s) (s_K s) (dD (s_n s) (un (s_K s) 3 i)) q) else z) := by
      unfold bsX at hb ⊢
      rw [bst_s]
      cases e : bst (s_n s) (s_K s) q i with
      | none =>
        rw [e] at hb
        obtain ⟨rfl, rfl⟩ := hb
        have h1 : nI (meas (s_n s) (s_K s) (dD (s_n s) (un (s_K s) 3 i)) q) < 1000000 := (nI_lt' (b := 1000000) (by omega) (by decide)).mpr (by omega)
        rw [if_pos h1, if_pos h1]
        exact ⟨Nat.lt_succ_self i, rfl, rfl⟩
      | some b =>
        rw [e] at hb
        obtain ⟨h0, rfl, rfl⟩ := hb
        have hmb := meas_lt (q := q) (hS.1.1.law (l := b) (by omega)) (lawI hS (l := b) (by omega))
        rw [meas_law] at hmb
        dsimp only
        by_cases c : meas (s_n s) (s_K s) (dD (s_n s) (un (s_K s) 3 i)) q < meas (s_n s) (s_K s) (dD (s_n s) (un (s_K s) 3 b)) q
        · rw [if_pos c, if_pos ((nI_lt' (by omega) (by omega)).mpr c), if_pos ((nI_lt' (by omega) (by omega)).mpr c)]
          exact ⟨Nat.lt_succ_self i, rfl, rfl⟩
        · rw [if_neg c, if_neg (fun h => c ((nI_lt' (by omega) (by omega)).mp h)), if_neg (fun h => c ((nI_lt' (by omega) (by omega)).mp h))]
          exact ⟨by omega, rfl, rfl⟩
    refine r_istore 54 (L' := [_, _, _, _, _, _]) dX6_best_52 (by decide) rfl rfl rfl ?_
    refine r_iload 56 dX6_best_54 rfl rfl ?_
    refine r_iload_n 57 dX6_best_56 rfl rfl ?_
    refine r_icmp_ge 66 60 dX6_best_57 (by decide) rfl (fun g57 => ?_) (fun g57 => ?_)
    · have g57 := i_nlt g57
      rw [if_neg g57, if_neg g57] at key
      refine r_iinc 69 (L' := [_, _, _, _, _, _]) (v := nI (i + 1)) dX6_best_66 rfl (nI_1 i) (by decide) rfl rfl rfl ?_
      refine r_goto 17 dX6_best_69 (by decide) ?_
      exact ih (i + 1) w1 _ _ _ (by omega) hR1 hF2 key
    · have g57 := i_lt g57
      rw [if_pos g57, if_pos g57] at key
      refine r_iload 62 dX6_best_60 rfl rfl ?_
      refine r_istore_n 63 (L' := [_, _, _, _, _, _]) dX6_best_62 (by decide) rfl rfl rfl ?_
      refine r_iload 65 dX6_best_63 rfl rfl ?_
      refine r_istore_n 66 (L' := [_, _, _, _, _, _]) dX6_best_65 (by decide) rfl rfl rfl ?_
      refine r_iinc 69 (L' := [_, _, _, _, _, _]) (v := nI (i + 1)) dX6_best_66 rfl (nI_1 i) (by decide) rfl rfl rfl ?_
      refine r_goto 17 dX6_best_69 (by decide) ?_
      exact ih (i + 1) w1 _ _ _ (by omega) hR1 hF2 key
set_option maxRecDepth 20000 in
set_option maxHeartbeats 4000000 in
theorem C_best {d : Nat} {w : zW} {s : sT} {q : Int32} (hd : 6 ≤ d) (hR : RC w s) (hS : sV s) : AC mX6_best d [.int q] w (f_best s q) := by
  have hn := hS.1.n
  refine CT.of [some (.ref 0), some (.int q), none, none, none, none] rfl (Nat.le_of_ble_eq_true rfl) rfl ?_
  refine r_iload_n 1 dX6_best_0 rfl rfl ?_
  refine r_callS (y2 := mX6_isMeasure) (as := [_]) 4 dX6_best_1 ml_X6_150 ms_X6_isMeasure (c_isMeasure (d := d - 1) (by omega)) (by omega) rfl (Nat.le_of_ble_eq_true rfl) rfl (kk_i ?_)
  rintro _ _ ⟨rfl, rfl⟩
  refine rb_ne 9 7 dX6_best_4 (by decide) rfl (fun g4 => ?_) (fun g4 => ?_)
  · obtain ⟨j, hj, rfl⟩ := wi_of (hi := 4) g4
    have hjs : tN (nI j) = j := tN_n (by omega)
    refine r_iconst 10 (v := 0) dX6_best_9 (by decide) rfl ?_
    refine r_istore_n 11 (L' := [_, _, _, _, _, _]) dX6_best_10 (by decide) rfl rfl rfl ?_
    refine r_ldc 13 dX6_best_11 kc_X6_160 rfl ?_
    refine r_istore_n 14 (L' := [_, _, _, _, _, _]) dX6_best_13 (by decide) rfl rfl rfl ?_
    refine r_iconst 15 (v := 0) dX6_best_14 (by decide) rfl ?_
    refine r_istore 17 (L' := [_, _, _, _, _, _]) dX6_best_15 (by decide) rfl rfl rfl ?_
    refine l_best (w0 := w) (q := j) (by omega) hS hj (fun w1 x z v hR1 hF hb => ?_) 5 0 w _ _ _ (by decide) hR frC.rfl ⟨rfl, rfl⟩
    refine r_iload_n 73 dX6_best_72 rfl rfl ?_
    exact r_iret .int dX6_best_73 rfl (rfl) (⟨by rw [f_best, if_pos g4, hjs]; unfold bsX at hb; cases e : bst (s_n s) (s_K s) j 5 with | none => rw [e] at hb; exact hb.1.symm | some b => rw [e] at hb; exact hb.2.1.symm, hR1, hF.hi⟩)
  · refine r_iconst 8 (v := -1) dX6_best_7 (by decide) rfl ?_
    exact r_iret .int dX6_best_8 rfl (rfl) (by first | exact ⟨by rw [f_best, if_neg (g4)], by rw [f_best, if_neg (g4)]; exact hR, fun _ _ => rfl⟩)
set_option maxRecDepth 20000 in
set_option maxHeartbeats 4000000 in
theorem l_firsts {d b : Nat} {w0 : zW} {s : sT} {T : zX → Prop} (hd : 5 ≤ d) (hS : sV s) (hb : b < s_n s) (hx : ∀ w, RC w s → frC w0 w → WP mX6_firsts d T 64 [some (.ref 0), some (.int (nI b)), some (.int (nI (mk 5 (fun l => d_p (dD (s_n s) (un (s_K s) 3 l)) 0 == b)))), some (.int (nI 5))] [] w) : ∀ k i (w : zW), i + k = 5 → RC w s → frC w0 w → WP mX6_firsts d T 14 [some (.ref 0), some (.int (nI b)), some (.int (nI (mk i (fun l => d_p (dD (s_n s) (un (s_K s) 3 l)) 0 == b)))), some (.int (nI i))] [] w := by
  have hn := hS.1.n
  intro k
  induction k with
  | zero =>
    intro i w hi hR hF
    have e : i = 5 := by omega
    subst e
    refine r_iload_n 15 dX6_firsts_14 rfl rfl ?_
    refine r_iconst 16 (v := 5) dX6_firsts_15 (by decide) rfl ?_
    refine r_icmp_ge 64 19 dX6_firsts_16 (by decide) rfl (fun _ => ?_) (fun z => absurd (Int32.le_refl _) z)
    exact hx w hR hF
  | succ k ih =>
    intro i w hi hR hF
    refine r_iload_n 15 dX6_firsts_14 rfl rfl ?_
    refine r_iconst 16 (v := 5) dX6_firsts_15 (by decide) rfl ?_
    refine r_icmp_ge 64 19 dX6_firsts_16 (by decide) rfl (fun z => absurd z (fun z => absurd ((nI_le' (a := 5) (by decide) (by omega)).mp z) (by omega))) (fun _ => ?_)
    refine r_aload_n 20 dX6_firsts_19 rfl rfl ?_
    refine r_getr 23 dX6_firsts_20 fz_X6_42 sh_0 rfl rfl ?_
    refine r_aload_n 24 dX6_firsts_23 rfl rfl ?_
    refine r_getr 27 dX6_firsts_24 fz_X6_10 sh_0 rfl rfl ?_
    refine r_iload_n 28 dX6_firsts_27 rfl rfl ?_
    refine r_aload_n 29 dX6_firsts_28 rfl rfl ?_
    refine r_getr 32 dX6_firsts_29 fz_X6_10 sh_0 rfl rfl ?_
    refine r_geti 35 dX6_firsts_32 fz_X6_99 sh_1 rfl rfl ?_
    refine r_eq hR.1.2.2.2.1 ?_
    refine r_iconst 36 (v := 0) dX6_firsts_35 (by decide) rfl ?_
    refine r_callV (y2 := mX0_by) (as := [_, _, _, _]) 39 dX6_firsts_36 ml_X6_153 mv_X0_by (c_lawDay (d := d - 1) (by omega) hR hS (l := i) (by omega)) (by omega) sh_30 ⟨_, rfl, rfl⟩ rfl (Nat.le_of_ble_eq_true rfl) rfl (kk_v ?_)
    rintro w1 ⟨hC, hF1⟩
    have hI := lawI hS (l := i) (by omega)
    have hR1 := hR.fr (d30 hF1)
    have hF2 := hF.trans (d30 hF1)
    have hp := hI.2.2.1 0 (by omega)
    have hg := mk_64 (n := i) (p := fun l => d_p (dD (s_n s) (un (s_K s) 3 l)) 0 == b) (by omega)
    refine r_aload_n 40 dX6_firsts_39 rfl rfl ?_
    refine r_getr 43 dX6_firsts_40 fz_X6_42 sh_0 rfl rfl ?_
    refine r_getr 46 dX6_firsts_43 fz_X6_135 sh_30 rfl rfl ?_
    refine r_iconst 47 (v := 0) dX6_firsts_46 (by decide) rfl ?_
    refine rj_iald 48 (0) dX6_firsts_47 sh_31 (rfl) (by decide) (by decide) rfl ?_
    refine r_eq (hC.pa (j := 0) (by omega)) ?_
    refine r_iload_n 49 dX6_firsts_48 rfl rfl ?_
    refine r_icmp_ne 58 52 dX6_firsts_49 (by decide) rfl (fun g49 => ?_) (fun g49 => ?_)
    · have g49 : ¬ d_p (dD (s_n s) (un (s_K s) 3 i)) 0 = b := fun z => g49 (by rw [z])
      have key : mk (i + 1) (fun l => d_p (dD (s_n s) (un (s_K s) 3 l)) 0 == b) = mk i (fun l => d_p (dD (s_n s) (un (s_K s) 3 l)) 0 == b) := by rw [mk, if_neg (by simpa using g49), Nat.add_zero]
      refine r_iinc 61 (L' := [_, _, _, _]) (v := nI (i + 1)) dX6_firsts_58 rfl (nI_1 i) (by decide) rfl rfl rfl ?_
      refine r_goto 14 dX6_firsts_61 (by decide) ?_
      rw [← key]
      exact ih (i + 1) w1 (by omega) hR1 hF2
    · have g49 : d_p (dD (s_n s) (un (s_K s) 3 i)) 0 = b := (nI_inj (by omega) (by omega)).mp g49
      have key : mk (i + 1) (fun l => d_p (dD (s_n s) (un (s_K s) 3 l)) 0 == b) = mk i (fun l => d_p (dD (s_n s) (un (s_K s) 3 l)) 0 == b) + 2 ^ i := by rw [mk, if_pos (by simpa using g49)]
      refine r_iload_n 53 dX6_firsts_52 rfl rfl ?_
      refine r_iconst 54 (v := 1) dX6_firsts_53 (by decide) rfl ?_
      refine r_iload_n 55 dX6_firsts_54 rfl rfl ?_
      refine r_ishl 56 dX6_firsts_55 rfl ?_
      refine r_ior 57 dX6_firsts_56 rfl ?_
      refine r_eq (b_or _ hg i (by omega) (mk_top (by omega))) ?_
      refine r_istore_n 58 (L' := [_, _, _, _]) dX6_firsts_57 (by decide) rfl rfl rfl ?_
      refine r_iinc 61 (L' := [_, _, _, _]) (v := nI (i + 1)) dX6_firsts_58 rfl (nI_1 i) (by decide) rfl rfl rfl ?_
      refine r_goto 14 dX6_firsts_61 (by decide) ?_
      rw [← key]
      exact ih (i + 1) w1 (by omega) hR1 hF2
set_option maxRecDepth 20000 in
set_option maxHeartbeats 4000000 in
theorem C_firsts {d : Nat} {w : zW} {s : sT} {b : Int32} (hd : 6 ≤ d) (hR : RC w s) (hS : sV s) : AC mX6_firsts d [.int b] w (f_firsts s b) := by
  have hn := hS.1.n
  refine CT.of [some (.ref 0), some (.int b), none, none] rfl (Nat.le_of_ble_eq_true rfl) rfl ?_
  refine r_aload_n 1 dX6_firsts_0 rfl rfl ?_
  refine r_iload_n 2 dX6_firsts_1 rfl rfl ?_
  refine r_callV (y2 := mX6_isBoat) (as := [_]) 5 dX6_firsts_2 ml_X6_105 mv_X6_isBoat (c_isBoat (d := d - 1) (by omega) hn hR.1.2.2.1) (by omega) sh_0 ⟨_, rfl, rfl⟩ rfl (Nat.le_of_ble_eq_true rfl) rfl (kk_i ?_)
  rintro _ _ ⟨rfl, rfl⟩
  refine rb_ne 10 8 dX6_firsts_5 (by decide) rfl (fun g5 => ?_) (fun g5 => ?_)
  · obtain ⟨j, hj, rfl⟩ := iB_of g5
    have hjs : tN (nI j) = j := tN_n (by omega)
    refine r_iconst 11 (v := 0) dX6_firsts_10 (by decide) rfl ?_
    refine r_istore_n 12 (L' := [_, _, _, _]) dX6_firsts_11 (by decide) rfl rfl rfl ?_
    refine r_iconst 13 (v := 0) dX6_firsts_12 (by decide) rfl ?_
    refine r_istore_n 14 (L' := [_, _, _, _]) dX6_firsts_13 (by decide) rfl rfl rfl ?_
    refine l_firsts (w0 := w) (b := j) (by omega) hS hj (fun w1 hR1 hF => ?_) 5 0 w (by decide) hR frC.rfl
    refine r_iload_n 65 dX6_firsts_64 rfl rfl ?_
    exact r_iret .int dX6_firsts_65 rfl (rfl) (⟨by rw [f_firsts, if_pos g5, hjs], hR1, hF.hi⟩)
  · refine r_iconst 9 (v := -1) dX6_firsts_8 (by decide) rfl ?_
    exact r_iret .int dX6_firsts_9 rfl (rfl) (by first | exact ⟨by rw [f_firsts, if_neg (g5)], by rw [f_firsts, if_neg (g5)]; exact hR, fun _ _ => rfl⟩)
set_option maxRecDepth 20000 in
set_option maxHeartbeats 4000000 in
theorem c_gained {d l b : Nat} {w : zW} {s : sT} (hd : 5 ≤ d) (hR : RC w s) (hS : sV s) (hl : l ≤ 4) (hb : b < s_n s) : CT mX6_gained d [.ref 0, .int (nI l), .int (nI b)] w (z_i fun x w' => gn (s_n s) (un (s_K s) 3 l) b = x ∧ frC w w') := by
  have hn := hS.1.n
  refine CT.of [some (.ref 0), some (.int (nI l)), some (.int (nI b)), none] rfl (Nat.le_of_ble_eq_true rfl) rfl ?_
  refine r_iload_n 1 dX6_gained_0 rfl rfl ?_
  refine r_callS (y2 := mX6_hearsLies) (as := [_]) 4 dX6_gained_1 ml_X6_186 ms_X6_hearsLies (c_hearsLies (d := d - 1) (by omega)) (by omega) rfl (Nat.le_of_ble_eq_true rfl) rfl (kk_i ?_)
  rintro _ _ ⟨rfl, rfl⟩
  refine rb_ne 9 7 dX6_gained_4 (by decide) rfl (fun g4 => ?_) (fun g4 => ?_)
  · have hL : lm (s_n s) (s_K s) < 64 := mk_64 hn
    have hV := hS.1.1.law hl
    have hlm : lm (s_n s) (un (s_K s) 3 l) = lm (s_n s) (s_K s) := lm_congr (fun c _ => un_n (by omega))
    refine r_aload_n 10 dX6_gained_9 rfl rfl ?_
    refine r_getr 13 dX6_gained_10 fz_X6_42 sh_0 rfl rfl ?_
    refine r_aload_n 14 dX6_gained_13 rfl rfl ?_
    refine r_getr 17 dX6_gained_14 fz_X6_10 sh_0 rfl rfl ?_
    refine r_iload_n 18 dX6_gained_17 rfl rfl ?_
    refine r_aload_n 19 dX6_gained_18 rfl rfl ?_
    refine r_getr 22 dX6_gained_19 fz_X6_10 sh_0 rfl rfl ?_
    refine r_geti 25 dX6_gained_22 fz_X6_99 sh_1 rfl rfl ?_
    refine r_eq hR.1.2.2.2.1 ?_
    refine r_iconst 26 (v := 0) dX6_gained_25 (by decide) rfl ?_
    refine r_callV (y2 := mX0_by) (as := [_, _, _, _]) 29 dX6_gained_26 ml_X6_153 mv_X0_by (c_lawDay (d := d - 1) (by omega) hR hS hl) (by omega) sh_30 ⟨_, rfl, rfl⟩ rfl (Nat.le_of_ble_eq_true rfl) rfl (kk_v ?_)
    rintro w1 ⟨hC, hF1⟩
    have hR1 := hR.fr (d30 hF1)
    refine r_aload_n 30 dX6_gained_29 rfl rfl ?_
    refine r_getr 33 dX6_gained_30 fz_X6_42 sh_0 rfl rfl ?_
    refine r_getr 36 dX6_gained_33 fz_X6_141 sh_30 rfl rfl ?_
    refine r_iload_n 37 dX6_gained_36 rfl rfl ?_
    refine rj_iald 38 (b) dX6_gained_37 sh_33 (rfl) (by omega) (by decide) rfl ?_
    refine r_eq (hC.st (lawI hS hl) hb) ?_
    refine r_istore_n 39 (L' := [_, _, _, _]) dX6_gained_38 (by decide) rfl rfl rfl ?_
    refine r_aload_n 40 dX6_gained_39 rfl rfl ?_
    refine r_getr 43 dX6_gained_40 fz_X6_42 sh_0 rfl rfl ?_
    refine r_aload_n 44 dX6_gained_43 rfl rfl ?_
    refine r_getr 47 dX6_gained_44 fz_X6_10 sh_0 rfl rfl ?_
    refine r_iload_n 48 dX6_gained_47 rfl rfl ?_
    refine r_aload_n 49 dX6_gained_48 rfl rfl ?_
    refine r_getr 52 dX6_gained_49 fz_X6_10 sh_0 rfl rfl ?_
    refine r_geti 55 dX6_gained_52 fz_X6_99 sh_1 rfl rfl ?_
    refine r_eq hR1.1.2.2.2.1 ?_
    refine r_iconst 56 (v := 1) dX6_gained_55 (by decide) rfl ?_
    refine r_iload_n 57 dX6_gained_56 rfl rfl ?_
    refine r_ishl 58 dX6_gained_57 rfl ?_
    refine r_ixor 59 dX6_gained_58 rfl ?_
    refine r_eq (b_xor _ hL b (by omega)) ?_
    refine r_iconst 60 (v := 0) dX6_gained_59 (by decide) rfl ?_
    refine r_callV (y2 := mX0_by) (as := [_, _, _, _]) 63 dX6_gained_60 ml_X6_153 mv_X0_by (c_dayG (d := d - 1) (l := l) (g := gx (lm (s_n s) (s_K s)) b) (cg := 0) (by omega) hR1 hS hl (Nat.lt_of_lt_of_le (gx_lt 6 (by decide) _ hL b (by omega)) (by decide)) (by decide)) (by omega) sh_30 ⟨_, rfl, rfl⟩ rfl (Nat.le_of_ble_eq_true rfl) rfl (kk_v ?_)
    rintro w2 ⟨hC2, hF2⟩
    have e : d_run (s_n s) (lw (un (s_K s) 3 l) (gx (lm (s_n s) (s_K s)) b)) 0 (s_n s) = dD (s_n s) (fl (un (s_K s) 3 l) b) := by
      show dD _ _ = _
      rw [dD_gx hV (by decide) hL hb]
      refine dD_E hV.fl (by decide) ?_ (fun _ c hc => ?_)
      · exact fl_E.symm.trans (lw_E.trans fl_E)
      · by_cases h : c = b
        · rw [h, fl, un_s, fl, un_s, lw_l, ← hlm, lm_b hn (fun c hc => hV.lie hc) b hb]
        · rw [fl, un_n (by omega), fl, un_n (by omega), lw_l, ← hlm, lm_b hn (fun c hc => hV.lie hc) c hc]
    rw [e] at hC2
    refine r_iload_n 64 dX6_gained_63 rfl rfl ?_
    refine r_aload_n 65 dX6_gained_64 rfl rfl ?_
    refine r_getr 68 dX6_gained_65 fz_X6_42 sh_0 rfl rfl ?_
    refine r_getr 71 dX6_gained_68 fz_X6_141 sh_30 rfl rfl ?_
    refine r_iload_n 72 dX6_gained_71 rfl rfl ?_
    refine rj_iald 73 (b) dX6_gained_72 sh_33 (rfl) (by omega) (by decide) rfl ?_
    refine r_eq (hC2.st (dI_D hV.fl (by decide)) hb) ?_
    refine r_isub 74 dX6_gained_73 rfl ?_
    exact r_iret .int dX6_gained_74 rfl (rfl) (⟨rfl, (d30 hF1).trans (d30 hF2)⟩)
  · have e : dD (s_n s) (fl (un (s_K s) 3 l) b) = dD (s_n s) (un (s_K s) 3 l) := dD_E (hS.1.1.law hl) (by decide) fl_E (fun h => absurd (by rw [un_s] at h; exact h) g4)
    refine r_iconst 8 (v := 0) dX6_gained_7 (by decide) rfl ?_
    exact r_iret .int dX6_gained_8 rfl (rfl) (⟨by rw [gn, e]; exact Int32.sub_self _, frC.rfl⟩)
set_option maxRecDepth 20000 in
set_option maxHeartbeats 4000000 in
theorem C_gain {d : Nat} {w : zW} {s : sT} {b : Int32} (hd : 6 ≤ d) (hR : RC w s) (hS : sV s) : AC mX6_gain d [.int b] w (f_gain s b) := by
  have hn := hS.1.n
  refine CT.of [some (.ref 0), some (.int b)] rfl (Nat.le_of_ble_eq_true rfl) rfl ?_
  refine r_aload_n 1 dX6_gain_0 rfl rfl ?_
  refine r_iload_n 2 dX6_gain_1 rfl rfl ?_
  refine r_callV (y2 := mX6_isBoat) (as := [_]) 5 dX6_gain_2 ml_X6_105 mv_X6_isBoat (c_isBoat (d := d - 1) (by omega) hn hR.1.2.2.1) (by omega) sh_0 ⟨_, rfl, rfl⟩ rfl (Nat.le_of_ble_eq_true rfl) rfl (kk_i ?_)
  rintro _ _ ⟨rfl, rfl⟩
  refine rb_ne 10 8 dX6_gain_5 (by decide) rfl (fun g5 => ?_) (fun g5 => ?_)
  · obtain ⟨j, hj, rfl⟩ := iB_of g5
    have hjs : tN (nI j) = j := tN_n (by omega)
    refine r_sipush 13 (v := 1000) dX6_gain_10 (by decide) rfl ?_
    refine r_aload_n 14 dX6_gain_13 rfl rfl ?_
    refine r_aload_n 15 dX6_gain_14 rfl rfl ?_
    refine r_getr 18 dX6_gain_15 fz_X6_10 sh_0 rfl rfl ?_
    refine r_getr 21 dX6_gain_18 fz_X6_102 sh_1 rfl rfl ?_
    refine r_iconst 22 (v := 3) dX6_gain_21 (by decide) rfl ?_
    refine rj_iald 23 (3) dX6_gain_22 sh_2 (rfl) (by decide) (by decide) rfl ?_
    refine r_eq (hR.1.1 3 (by decide)) ?_
    refine r_iload_n 24 dX6_gain_23 rfl rfl ?_
    refine r_callV (y2 := mX6_gained) (as := [_, _]) 27 dX6_gain_24 ml_X6_170 mv_X6_gained (c_gained (d := d - 1) (by omega) hR hS hS.1.1.2.2.2.2.1 hj) (by omega) sh_0 ⟨_, rfl, rfl⟩ rfl (Nat.le_of_ble_eq_true rfl) rfl (kk_i ?_)
    rintro _ w1 ⟨rfl, hF⟩
    refine r_iadd 28 dX6_gain_27 rfl ?_
    exact r_iret .int dX6_gain_28 rfl (rfl) (⟨by rw [f_gain, if_pos g5, hjs, un_id], hR.fr hF, hF.hi⟩)
  · refine r_iconst 9 (v := -1) dX6_gain_8 (by decide) rfl ?_
    exact r_iret .int dX6_gain_9 rfl (rfl) (by first | exact ⟨by rw [f_gain, if_neg (g5)], by rw [f_gain, if_neg (g5)]; exact hR, fun _ _ => rfl⟩)
set_option maxRecDepth 20000 in
set_option maxHeartbeats 4000000 in
theorem l_isCalm {d l : Nat} {w0 : zW} {s : sT} {T : zX → Prop} (hd : 6 ≤ d) (hS : sV s) (hl : l ≤ 4) (hx : ∀ w, frC w0 w → (∀ c, c < s_n s → d_s (dD (s_n s) (un (s_K s) 3 l)) c ≤ d_s (dD (s_n s) (fl (un (s_K s) 3 l) c)) c) → WP mX6_isCalm d T 30 [some (.ref 0), some (.int (nI l)), some (.int (nI (s_n s)))] [] w) (hb : ∀ w c, frC w0 w → c < s_n s → ¬ d_s (dD (s_n s) (un (s_K s) 3 l)) c ≤ d_s (dD (s_n s) (fl (un (s_K s) 3 l) c)) c → WP mX6_isCalm d T 22 [some (.ref 0), some (.int (nI l)), some (.int (nI c))] [] w) : ∀ k i (w : zW), i + k = s_n s → RC w s → frC w0 w → (∀ c, c < i → d_s (dD (s_n s) (un (s_K s) 3 l)) c ≤ d_s (dD (s_n s) (fl (un (s_K s) 3 l) c)) c) → WP mX6_isCalm d T 2 [some (.ref 0), some (.int (nI l)), some (.int (nI i))] [] w := by
  have hn := hS.1.n
  intro k
  induction k with
  | zero =>
    intro i w hi hR hF hc
    have e : i = s_n s := by omega
    subst e
    refine r_iload_n 3 dX6_isCalm_2 rfl rfl ?_
    refine r_aload_n 4 dX6_isCalm_3 rfl rfl ?_
    refine r_getr 7 dX6_isCalm_4 fz_X6_10 sh_0 rfl rfl ?_
    refine r_geti 10 dX6_isCalm_7 fz_X6_96 sh_1 rfl rfl ?_
    refine r_eq hR.1.2.2.1 ?_
    refine r_icmp_ge 30 13 dX6_isCalm_10 (by decide) rfl (fun _ => ?_) (fun z => absurd (Int32.le_refl _) z)
    exact hx w hF hc
  | succ k ih =>
    intro i w hi hR hF hc
    have hV := hS.1.1.law hl
    have b1 := ((dI_D hV (by decide)).2.2.2.2.2.2.2 i).1
    have b2 := ((dI_D (hV.fl (b := i)) (by decide)).2.2.2.2.2.2.2 i).1
    have hs : (gn (s_n s) (un (s_K s) 3 l) i).toInt = (d_s (dD (s_n s) (un (s_K s) 3 l)) i : Int) - d_s (dD (s_n s) (fl (un (s_K s) 3 l) i)) i := pk_sub_toInt (by omega) (by omega)
    refine r_iload_n 3 dX6_isCalm_2 rfl rfl ?_
    refine r_aload_n 4 dX6_isCalm_3 rfl rfl ?_
    refine r_getr 7 dX6_isCalm_4 fz_X6_10 sh_0 rfl rfl ?_
    refine r_geti 10 dX6_isCalm_7 fz_X6_96 sh_1 rfl rfl ?_
    refine r_eq hR.1.2.2.1 ?_
    refine r_icmp_ge 30 13 dX6_isCalm_10 (by decide) rfl (fun z => absurd z (fun z => absurd ((nI_le' (by omega) (by omega)).mp z) (by omega))) (fun _ => ?_)
    refine r_aload_n 14 dX6_isCalm_13 rfl rfl ?_
    refine r_iload_n 15 dX6_isCalm_14 rfl rfl ?_
    refine r_iload_n 16 dX6_isCalm_15 rfl rfl ?_
    refine r_callV (y2 := mX6_gained) (as := [_, _]) 19 dX6_isCalm_16 ml_X6_170 mv_X6_gained (c_gained (d := d - 1) (by omega) hR hS hl (b := i) (by omega)) (by omega) sh_0 ⟨_, rfl, rfl⟩ rfl (Nat.le_of_ble_eq_true rfl) rfl (kk_i ?_)
    rintro _ w1 ⟨rfl, hF1⟩
    refine r_if_le 24 22 dX6_isCalm_19 (by decide) rfl (fun g19 => ?_) (fun g19 => ?_)
    · have g19 : _ ≤ (0 : Int) := ti_le.mp g19
      refine r_iinc 27 (L' := [_, _, _]) (v := nI (i + 1)) dX6_isCalm_24 rfl (nI_1 i) (by decide) rfl rfl rfl ?_
      refine r_goto 2 dX6_isCalm_27 (by decide) ?_
      exact ih (i + 1) w1 (by omega) (hR.fr hF1) (hF.trans hF1) (fun c hc2 => by by_cases e : c = i; (rw [e]; omega); (exact hc c (by omega)))
    · have g19 : ¬ _ ≤ (0 : Int) := fun z => g19 (ti_le.mpr z)
      exact hb w1 i (hF.trans hF1) (by omega) (by omega)
set_option maxRecDepth 20000 in
set_option maxHeartbeats 4000000 in
theorem c_isCalm {d l : Nat} {w : zW} {s : sT} (hd : 6 ≤ d) (hR : RC w s) (hS : sV s) (hl : l ≤ 4) : CT mX6_isCalm d [.ref 0, .int (nI l)] w (z_i fun x w' => z_b (cal (s_n s) (un (s_K s) 3 l) = true) = x ∧ frC w w') := by
  refine CT.of [some (.ref 0), some (.int (nI l)), none] rfl (Nat.le_of_ble_eq_true rfl) rfl ?_
  refine r_iconst 1 (v := 0) dX6_isCalm_0 (by decide) rfl ?_
  refine r_istore_n 2 (L' := [_, _, _]) dX6_isCalm_1 (by decide) rfl rfl rfl ?_
  refine l_isCalm (w0 := w) hd hS hl (fun w1 hF hc => ?_) (fun w1 c hF hc1 hc2 => ?_) (s_n s) 0 w (Nat.zero_add _) hR frC.rfl (fun c hc => absurd hc (Nat.not_lt_zero c))
  · refine r_iconst 31 (v := 1) dX6_isCalm_30 (by decide) rfl ?_
    exact r_iret .boolean dX6_isCalm_31 rfl (rfl) (⟨z_bp (decide_eq_true hc), hF⟩)
  · refine r_iconst 23 (v := 0) dX6_isCalm_22 (by decide) rfl ?_
    exact r_iret .boolean dX6_isCalm_23 rfl (rfl) (⟨z_bn (fun z => hc2 (of_decide_eq_true z c hc1)), hF⟩)
set_option maxRecDepth 20000 in
set_option maxHeartbeats 4000000 in
theorem l_calm {d : Nat} {w0 : zW} {s : sT} {T : zX → Prop} (hd : 7 ≤ d) (hS : sV s) (hx : ∀ w, RC w s → frC w0 w → WP mX6_calm d T 29 [some (.ref 0), some (.int (nI (mk 5 (fun l => cal (s_n s) (un (s_K s) 3 l))))), some (.int (nI 5))] [] w) : ∀ k i (w : zW), i + k = 5 → RC w s → frC w0 w → WP mX6_calm d T 4 [some (.ref 0), some (.int (nI (mk i (fun l => cal (s_n s) (un (s_K s) 3 l))))), some (.int (nI i))] [] w := by
  have hn := hS.1.n
  intro k
  induction k with
  | zero =>
    intro i w hi hR hF
    have e : i = 5 := by omega
    subst e
    refine r_iload_n 5 dX6_calm_4 rfl rfl ?_
    refine r_iconst 6 (v := 5) dX6_calm_5 (by decide) rfl ?_
    refine r_icmp_ge 29 9 dX6_calm_6 (by decide) rfl (fun _ => ?_) (fun z => absurd (Int32.le_refl _) z)
    exact hx w hR hF
  | succ k ih =>
    intro i w hi hR hF
    have hg := mk_64 (n := i) (p := fun l => cal (s_n s) (un (s_K s) 3 l)) (by omega)
    refine r_iload_n 5 dX6_calm_4 rfl rfl ?_
    refine r_iconst 6 (v := 5) dX6_calm_5 (by decide) rfl ?_
    refine r_icmp_ge 29 9 dX6_calm_6 (by decide) rfl (fun z => absurd z (fun z => absurd ((nI_le' (a := 5) (by decide) (by omega)).mp z) (by omega))) (fun _ => ?_)
    refine r_aload_n 10 dX6_calm_9 rfl rfl ?_
    refine r_iload_n 11 dX6_calm_10 rfl rfl ?_
    refine r_callV (y2 := mX6_isCalm) (as := [_]) 14 dX6_calm_11 ml_X6_173 mv_X6_isCalm (c_isCalm (d := d - 1) (by omega) hR hS (l := i) (by omega)) (by omega) sh_0 ⟨_, rfl, rfl⟩ rfl (Nat.le_of_ble_eq_true rfl) rfl (kk_i ?_)
    rintro _ w1 ⟨rfl, hF1⟩
    have hR1 := hR.fr hF1
    have hF2 := hF.trans hF1
    refine rb_eq 23 17 dX6_calm_14 (by decide) rfl (fun g14 => ?_) (fun g14 => ?_)
    · have key : mk (i + 1) (fun l => cal (s_n s) (un (s_K s) 3 l)) = mk i (fun l => cal (s_n s) (un (s_K s) 3 l)) := by rw [mk, if_neg g14, Nat.add_zero]
      refine r_iinc 26 (L' := [_, _, _]) (v := nI (i + 1)) dX6_calm_23 rfl (nI_1 i) (by decide) rfl rfl rfl ?_
      refine r_goto 4 dX6_calm_26 (by decide) ?_
      rw [← key]
      exact ih (i + 1) w1 (by omega) hR1 hF2
    · have key : mk (i + 1) (fun l => cal (s_n s) (un (s_K s) 3 l)) = mk i (fun l => cal (s_n s) (un (s_K s) 3 l)) + 2 ^ i := by rw [mk, if_pos g14]
      refine r_iload_n 18 dX6_calm_17 rfl rfl ?_
      refine r_iconst 19 (v := 1) dX6_calm_18 (by decide) rfl ?_
      refine r_iload_n 20 dX6_calm_19 rfl rfl ?_
      refine r_ishl 21 dX6_calm_20 rfl ?_
      refine r_ior 22 dX6_calm_21 rfl ?_
      refine r_eq (b_or _ hg i (by omega) (mk_top (by omega))) ?_
      refine r_istore_n 23 (L' := [_, _, _]) dX6_calm_22 (by decide) rfl rfl rfl ?_
      refine r_iinc 26 (L' := [_, _, _]) (v := nI (i + 1)) dX6_calm_23 rfl (nI_1 i) (by decide) rfl rfl rfl ?_
      refine r_goto 4 dX6_calm_26 (by decide) ?_
      rw [← key]
      exact ih (i + 1) w1 (by omega) hR1 hF2
set_option maxRecDepth 20000 in
set_option maxHeartbeats 4000000 in
theorem C_calm {d : Nat} {w : zW} {s : sT}  (hd : 7 ≤ d) (hR : RC w s) (hS : sV s) : AC mX6_calm d [] w (f_calm s) := by
  have hn := hS.1.n
  refine CT.of [some (.ref 0), none, none] rfl (Nat.le_of_ble_eq_true rfl) rfl ?_
  refine r_iconst 1 (v := 0) dX6_calm_0 (by decide) rfl ?_
  refine r_istore_n 2 (L' := [_, _, _]) dX6_calm_1 (by decide) rfl rfl rfl ?_
  refine r_iconst 3 (v := 0) dX6_calm_2 (by decide) rfl ?_
  refine r_istore_n 4 (L' := [_, _, _]) dX6_calm_3 (by decide) rfl rfl rfl ?_
  refine l_calm (w0 := w) (by omega) hS (fun w1 hR1 hF => ?_) 5 0 w (by decide) hR frC.rfl
  refine r_iload_n 30 dX6_calm_29 rfl rfl ?_
  exact r_iret .int dX6_calm_30 rfl (rfl) (⟨rfl, hR1, hF.hi⟩)

/-! ===== the class: Day, who is next ===== -/
set_option maxRecDepth 20000 in
set_option maxHeartbeats 4000000 in
theorem c_sideByTwos {d B n i r A : Nat} {w : zW} {K p : Nat → Nat} (hd : 2 ≤ d) (hB : z_isL B) (hA : A < 1000) (hV : kV A n K) (hL : lkD w B n K) (h5 : w 30 5 = nI i) (hi : i ≤ 6) (h8 : w 30 8 = nI r) (hp : ∀ j, j < i → w 31 j = nI (p j) ∧ p j < n) : CT mX0_sideByTwos d [.ref 30, .ref B] w (z_i fun x w' => nI (if i = 0 then r else if i = 1 then k_sd K (p 0) else if k_sd K (p (i - 1)) = k_sd K (p (i - 2)) then 1 - k_sd K (p (i - 1)) else k_sd K (p (i - 1))) = x ∧ w = w') := by
  have hn := hV.n
  refine CT.of [some (.ref 30), some (.ref B), none] rfl (Nat.le_of_ble_eq_true rfl) rfl ?_
  refine r_aload_n 1 dX0_sideByTwos_0 rfl rfl ?_
  refine r_geti 4 dX0_sideByTwos_1 fz_X0_80 sh_30 rfl rfl ?_
  refine r_eq h5 ?_
  refine r_iconst 5 (v := 1) dX0_sideByTwos_4 (by decide) rfl ?_
  refine r_icmp_ge 13 8 dX0_sideByTwos_5 (by decide) rfl (fun g5 => ?_) (fun g5 => ?_)
  · have c5 : 1 ≤ i := (nI_le' (a := 1) (by decide) (by omega)).mp g5
    have q1 := hp (i - 1) (by omega)
    refine r_aload_n 14 dX0_sideByTwos_13 rfl rfl ?_
    refine r_aload_n 15 dX0_sideByTwos_14 rfl rfl ?_
    refine r_getr 18 dX0_sideByTwos_15 fz_X0_9 sh_30 rfl rfl ?_
    refine r_aload_n 19 dX0_sideByTwos_18 rfl rfl ?_
    refine r_geti 22 dX0_sideByTwos_19 fz_X0_80 sh_30 rfl rfl ?_
    refine r_eq h5 ?_
    refine r_iconst 23 (v := 1) dX0_sideByTwos_22 (by decide) rfl ?_
    refine r_isub 24 dX0_sideByTwos_23 rfl ?_
    refine rj_iald 25 (i - 1) dX0_sideByTwos_24 sh_31 (nI_sub (b := 1) c5) (by omega) (by decide) rfl ?_
    refine r_eq q1.1 ?_
    refine r_iconst 26 (v := 0) dX0_sideByTwos_25 (by decide) rfl ?_
    refine r_callV (y2 := mX1_mark) (as := [_, _]) 29 dX0_sideByTwos_26 ml_X0_41 mv_X1_mark (c_mark (d := d - 1) hB (i := p (i - 1)) (j := 0) (by omega) (by decide)) (by omega) (z_L0 hB) ⟨_, rfl, rfl⟩ rfl (Nat.le_of_ble_eq_true rfl) rfl (kk_i ?_)
    rintro _ _ ⟨rfl, rfl⟩
    refine r_eq (z := nI (k_sd K (p (i - 1)))) (hL.2.1 _ 0 q1.2 (by decide)) ?_
    refine r_istore_n 30 (L' := [_, _, _]) dX0_sideByTwos_29 (by decide) rfl rfl rfl ?_
    refine r_aload_n 31 dX0_sideByTwos_30 rfl rfl ?_
    refine r_geti 34 dX0_sideByTwos_31 fz_X0_80 sh_30 rfl rfl ?_
    refine r_eq h5 ?_
    refine r_iconst 35 (v := 2) dX0_sideByTwos_34 (by decide) rfl ?_
    refine r_icmp_lt 58 38 dX0_sideByTwos_35 (by decide) rfl (fun g35 => ?_) (fun g35 => ?_)
    · have c35 : i = 1 := by
        have := (nI_lt' (b := 2) (by omega) (by decide)).mp g35
        omega
      have e35 : p (i - 1) = p 0 := by rw [show i - 1 = 0 by omega]
      refine r_iload_n 59 dX0_sideByTwos_58 rfl rfl ?_
      exact r_iret .int dX0_sideByTwos_59 rfl (rfl) (⟨by first | (rw [if_neg (by omega), if_pos c35, ← e35]; done) | rw [if_neg (by omega), if_neg (by omega), if_neg (fun z => c55 z.symm)], rfl⟩)
    · have c35 : 2 ≤ i := by
        have : ¬ i < 2 := fun z => g35 ((nI_lt' (b := 2) (by omega) (by decide)).mpr z)
        omega
      have q2 := hp (i - 2) (by omega)
      refine r_aload_n 39 dX0_sideByTwos_38 rfl rfl ?_
      refine r_aload_n 40 dX0_sideByTwos_39 rfl rfl ?_
      refine r_getr 43 dX0_sideByTwos_40 fz_X0_9 sh_30 rfl rfl ?_
      refine r_aload_n 44 dX0_sideByTwos_43 rfl rfl ?_
      refine r_geti 47 dX0_sideByTwos_44 fz_X0_80 sh_30 rfl rfl ?_
      refine r_eq h5 ?_
      refine r_iconst 48 (v := 2) dX0_sideByTwos_47 (by decide) rfl ?_
      refine r_isub 49 dX0_sideByTwos_48 rfl ?_
      refine rj_iald 50 (i - 2) dX0_sideByTwos_49 sh_31 (nI_sub (b := 2) c35) (by omega) (by decide) rfl ?_
      refine r_eq q2.1 ?_
      refine r_iconst 51 (v := 0) dX0_sideByTwos_50 (by decide) rfl ?_
      refine r_callV (y2 := mX1_mark) (as := [_, _]) 54 dX0_sideByTwos_51 ml_X0_41 mv_X1_mark (c_mark (d := d - 1) hB (i := p (i - 2)) (j := 0) (by omega) (by decide)) (by omega) (z_L0 hB) ⟨_, rfl, rfl⟩ rfl (Nat.le_of_ble_eq_true rfl) rfl (kk_i ?_)
      rintro _ _ ⟨rfl, rfl⟩
      refine r_eq (z := nI (k_sd K (p (i - 2)))) (hL.2.1 _ 0 q2.2 (by decide)) ?_
      refine r_iload_n 55 dX0_sideByTwos_54 rfl rfl ?_
      refine r_icmp_eq 60 58 dX0_sideByTwos_55 (by decide) rfl (fun g55 => ?_) (fun g55 => ?_)
      · have c55 : k_sd K (p (i - 2)) = k_sd K (p (i - 1)) := (nI_inj (by have := hV.sd q2.2; omega) (by have := hV.sd q1.2; omega)).mp g55
        refine r_iload_n 61 dX0_sideByTwos_60 rfl rfl ?_
        refine r_callSN (y2 := mX6_otherSide) (as := [_]) 64 dX0_sideByTwos_61 nx_X0_116 ms_X6_otherSide (c_otherSide (d := d - 1) (k_sd K (p (i - 1))) (by have := hV.sd q1.2; omega)) (by omega) rfl (Nat.le_of_ble_eq_true rfl) rfl (kk_i ?_)
        rintro _ _ ⟨rfl, rfl⟩
        exact r_iret .int dX0_sideByTwos_64 rfl (rfl) (⟨by rw [if_neg (by omega), if_neg (by omega), if_pos c55.symm], rfl⟩)
      · have c55 : ¬ k_sd K (p (i - 2)) = k_sd K (p (i - 1)) := fun z => g55 (by rw [z])
        refine r_iload_n 59 dX0_sideByTwos_58 rfl rfl ?_
        exact r_iret .int dX0_sideByTwos_59 rfl (rfl) (⟨by first | (rw [if_neg (by omega), if_pos c35, ← e35]; done) | rw [if_neg (by omega), if_neg (by omega), if_neg (fun z => c55 z.symm)], rfl⟩)
  · have c5 : i = 0 := by
      have : ¬ 1 ≤ i := fun z => g5 ((nI_le' (a := 1) (by decide) (by omega)).mpr z)
      omega
    refine r_aload_n 9 dX0_sideByTwos_8 rfl rfl ?_
    refine r_geti 12 dX0_sideByTwos_9 fz_X0_89 sh_30 rfl rfl ?_
    refine r_eq h8 ?_
    exact r_iret .int dX0_sideByTwos_12 rfl (rfl) (⟨by rw [if_pos c5], rfl⟩)
set_option maxRecDepth 20000 in
set_option maxHeartbeats 4000000 in
theorem l_sideByQueue {d B n f A : Nat} {w : zW} {K : Nat → Nat} {s : dT} {T : zX → Prop} (hd : 2 ≤ d) (hB : z_isL B) (hA : A < 1000) (hV : kV A n K) (hL : lkD w B n K) (h6 : w 30 6 = nI (d_g s)) (hg : d_g s < 64) (hc : ∀ b, b < n → w 34 b = nI (k_ct K b)) (hf : w 30 7 = nI f) (hf1 : f < 1000) (hx : WP mX0_sideByQueue d T 44 [some (.ref 30), some (.ref B), some (.int (nI (cn n (fun b => d_in K s f b && (k_sd K b == 1))) - nI (cn n (fun b => d_in K s f b && (k_sd K b == 0))))), some (.int (nI n))] [] w) : ∀ k i, i + k = n → WP mX0_sideByQueue d T 4 [some (.ref 30), some (.ref B), some (.int (nI (cn i (fun b => d_in K s f b && (k_sd K b == 1))) - nI (cn i (fun b => d_in K s f b && (k_sd K b == 0))))), some (.int (nI i))] [] w := by
  have hn := hV.n
  intro k
  induction k with
  | zero =>
    intro i hi
    have e : i = n := by omega
    subst e
    refine r_iload_n 5 dX0_sideByQueue_4 rfl rfl ?_
    refine r_aload_n 6 dX0_sideByQueue_5 rfl rfl ?_
    refine r_geti 9 dX0_sideByQueue_6 fz_X0_31 (z_L0 hB) rfl rfl ?_
    refine r_icmp_ge 44 12 dX0_sideByQueue_9 (by decide) rfl (fun _ => ?_) (fun z => absurd (by rw [hL.2.2]; exact Int32.le_refl _) z)
    exact hx
  | succ k ih =>
    intro i hi
    have hu := hV.sd (b := i) (by omega)
    have hct := hV.ct (b := i) (by omega)
    have b1 := cn_le (n := i) (p := (fun b => d_in K s f b && (k_sd K b == 0)))
    have b2 := cn_le (n := i) (p := (fun b => d_in K s f b && (k_sd K b == 1)))
    refine r_iload_n 5 dX0_sideByQueue_4 rfl rfl ?_
    refine r_aload_n 6 dX0_sideByQueue_5 rfl rfl ?_
    refine r_geti 9 dX0_sideByQueue_6 fz_X0_31 (z_L0 hB) rfl rfl ?_
    refine r_icmp_ge 44 12 dX0_sideByQueue_9 (by decide) rfl (fun z => absurd z (by rw [hL.2.2, nI_le' (by omega) (by omega)]; omega)) (fun _ => ?_)
    refine r_aload_n 13 dX0_sideByQueue_12 rfl rfl ?_
    refine r_iload_n 14 dX0_sideByQueue_13 rfl rfl ?_
    refine r_callV (y2 := mX0_waits) (as := [_]) 17 dX0_sideByQueue_14 ml_X0_101 mv_X0_waits (c_waits (d := d - 1) h6 hg (b := i) (by omega) (hc i (by omega)) (by omega) hf hf1) (by omega) sh_30 ⟨_, rfl, rfl⟩ rfl (Nat.le_of_ble_eq_true rfl) rfl (kk_i ?_)
    rintro _ _ ⟨rfl, rfl⟩
    refine rb_eq 38 20 dX0_sideByQueue_17 (by decide) rfl (fun g17 => ?_) (fun g17 => ?_)
    · have di : d_in K s f i = false := by
        simp only [d_in, Bool.and_eq_false_iff, beq_eq_false_iff_ne, decide_eq_false_iff_not]
        omega
      have ea : cn (i + 1) (fun b => d_in K s f b && (k_sd K b == 0)) = cn i (fun b => d_in K s f b && (k_sd K b == 0)) := by rw [cn]; simp [di]
      have ez : cn (i + 1) (fun b => d_in K s f b && (k_sd K b == 1)) = cn i (fun b => d_in K s f b && (k_sd K b == 1)) := by rw [cn]; simp [di]
      rw [← ea, ← ez]
      refine r_iinc 41 (L' := [_, _, _, _]) (v := nI (i + 1)) dX0_sideByQueue_38 rfl (nI_1 i) (by decide) rfl rfl rfl ?_
      refine r_goto 4 dX0_sideByQueue_41 (by decide) ?_
      exact ih (i + 1) (by omega)
    · have di : d_in K s f i = true := by simp [d_in, g17.1, g17.2]
      refine r_iload_n 21 dX0_sideByQueue_20 rfl rfl ?_
      refine r_aload_n 22 dX0_sideByQueue_21 rfl rfl ?_
      refine r_iload_n 23 dX0_sideByQueue_22 rfl rfl ?_
      refine r_iconst 24 (v := 0) dX0_sideByQueue_23 (by decide) rfl ?_
      refine r_callV (y2 := mX1_mark) (as := [_, _]) 27 dX0_sideByQueue_24 ml_X0_41 mv_X1_mark (c_mark (d := d - 1) hB (i := i) (j := 0) (by omega) (by decide)) (by omega) (z_L0 hB) ⟨_, rfl, rfl⟩ rfl (Nat.le_of_ble_eq_true rfl) rfl (kk_i ?_)
      rintro _ _ ⟨rfl, rfl⟩
      refine r_eq (z := nI (k_sd K i)) (hL.2.1 _ 0 (by omega) (by decide)) ?_
      refine r_iconst 28 (v := 1) dX0_sideByQueue_27 (by decide) rfl ?_
      refine rt_icmp_ne (a := 1) (b := -1) (j := 36) 35 31 dX0_sideByQueue_28 (by decide) rfl (fun k => r_iconst 36 dX0_sideByQueue_35 (by decide) rfl k) (fun k => r_iconst 32 dX0_sideByQueue_31 (by decide) rfl (r_goto 36 dX0_sideByQueue_32 (by decide) k)) ?_
      refine r_iadd 37 dX0_sideByQueue_36 rfl ?_
      refine r_eq (z := nI (cn (i + 1) (fun b => d_in K s f b && (k_sd K b == 1))) - nI (cn (i + 1) (fun b => d_in K s f b && (k_sd K b == 0)))) ?_ ?_
      · rw [cn, cn]
        rcases (by omega : k_sd K i = 0 ∨ k_sd K i = 1) with e | e
        · simp only [e, di]
          exact q_dn (by omega) (by omega)
        · simp only [e, di]
          exact q_up (by omega) (by omega)
      refine r_istore_n 38 (L' := [_, _, _, _]) dX0_sideByQueue_37 (by decide) rfl rfl rfl ?_
      refine r_iinc 41 (L' := [_, _, _, _]) (v := nI (i + 1)) dX0_sideByQueue_38 rfl (nI_1 i) (by decide) rfl rfl rfl ?_
      refine r_goto 4 dX0_sideByQueue_41 (by decide) ?_
      exact ih (i + 1) (by omega)
set_option maxRecDepth 20000 in
set_option maxHeartbeats 4000000 in
theorem c_sideByQueue {d B n f A : Nat} {w : zW} {K : Nat → Nat} {s : dT} {r : Nat} (hd : 2 ≤ d) (hB : z_isL B) (hA : A < 1000) (hV : kV A n K) (hL : lkD w B n K) (h6 : w 30 6 = nI (d_g s)) (hg : d_g s < 64) (hc : ∀ b, b < n → w 34 b = nI (k_ct K b)) (hf : w 30 7 = nI f) (hf1 : f < 1000) (h8 : w 30 8 = nI r) : CT mX0_sideByQueue d [.ref 30, .ref B] w (z_i fun x w' => nI (if cn n (fun b => d_in K s f b && (k_sd K b == 1)) < cn n (fun b => d_in K s f b && (k_sd K b == 0)) then 0 else if cn n (fun b => d_in K s f b && (k_sd K b == 0)) < cn n (fun b => d_in K s f b && (k_sd K b == 1)) then 1 else r) = x ∧ w = w') := by
  refine CT.of [some (.ref 30), some (.ref B), none, none] rfl (Nat.le_of_ble_eq_true rfl) rfl ?_
  refine r_iconst 1 (v := 0) dX0_sideByQueue_0 (by decide) rfl ?_
  refine r_eq (z := nI (cn 0 (fun b => d_in K s f b && (k_sd K b == 1))) - nI (cn 0 (fun b => d_in K s f b && (k_sd K b == 0)))) (show (0 : Int32) = nI 0 - nI 0 by decide) ?_
  refine r_istore_n 2 (L' := [_, _, _, _]) dX0_sideByQueue_1 (by decide) rfl rfl rfl ?_
  refine r_iconst 3 (v := 0) dX0_sideByQueue_2 (by decide) rfl ?_
  refine r_istore_n 4 (L' := [_, _, _, _]) dX0_sideByQueue_3 (by decide) rfl rfl rfl ?_
  refine l_sideByQueue hd hB hA hV hL h6 hg hc hf hf1 ?_ n 0 (Nat.zero_add n)
  have hn := hV.n
  have b1 := cn_le (n := n) (p := (fun b => d_in K s f b && (k_sd K b == 0)))
  have b2 := cn_le (n := n) (p := (fun b => d_in K s f b && (k_sd K b == 1)))
  refine r_iload_n 45 dX0_sideByQueue_44 rfl rfl ?_
  refine r_if_ne 53 48 dX0_sideByQueue_45 (by decide) rfl (fun g45 => ?_) (fun g45 => ?_)
  · have g45 : ¬ cn n (fun b => d_in K s f b && (k_sd K b == 1)) = cn n (fun b => d_in K s f b && (k_sd K b == 0)) := fun z => g45 (by rw [ti_eq, q_sub (by omega) (by omega), z]; show _ = (0 : Int); omega)
    refine r_iload_n 54 dX0_sideByQueue_53 rfl rfl ?_
    refine r_if_le 61 57 dX0_sideByQueue_54 (by decide) rfl (fun g54 => ?_) (fun g54 => ?_)
    · have g54 : (cn n (fun b => d_in K s f b && (k_sd K b == 1)) : Int) - cn n (fun b => d_in K s f b && (k_sd K b == 0)) ≤ 0 := by
        rw [ti_le, q_sub (by omega) (by omega)] at g54
        exact g54
      refine r_iconst 62 (v := 0) dX0_sideByQueue_61 (by decide) rfl ?_
      exact r_iret .int dX0_sideByQueue_62 rfl (rfl) (⟨by first | (rw [if_pos (by omega)]; rfl) | (rw [if_neg (by omega), if_pos (by omega)]; rfl), rfl⟩)
    · have g54 : ¬ (cn n (fun b => d_in K s f b && (k_sd K b == 1)) : Int) - cn n (fun b => d_in K s f b && (k_sd K b == 0)) ≤ 0 := by
        rw [ti_le, q_sub (by omega) (by omega)] at g54
        exact g54
      refine r_iconst 58 (v := 1) dX0_sideByQueue_57 (by decide) rfl ?_
      refine r_goto 62 dX0_sideByQueue_58 (by decide) ?_
      exact r_iret .int dX0_sideByQueue_62 rfl (rfl) (⟨by first | (rw [if_pos (by omega)]; rfl) | (rw [if_neg (by omega), if_pos (by omega)]; rfl), rfl⟩)
  · have g45 : cn n (fun b => d_in K s f b && (k_sd K b == 1)) = cn n (fun b => d_in K s f b && (k_sd K b == 0)) := by
      rw [ti_eq, q_sub (by omega) (by omega)] at g45
      have : (cn n (fun b => d_in K s f b && (k_sd K b == 1)) : Int) - cn n (fun b => d_in K s f b && (k_sd K b == 0)) = 0 := g45
      omega
    refine r_aload_n 49 dX0_sideByQueue_48 rfl rfl ?_
    refine r_geti 52 dX0_sideByQueue_49 fz_X0_89 sh_30 rfl rfl ?_
    refine r_eq h8 ?_
    exact r_iret .int dX0_sideByQueue_52 rfl (rfl) (⟨by rw [if_neg (by omega), if_neg (by omega)], rfl⟩)
set_option maxRecDepth 20000 in
set_option maxHeartbeats 4000000 in
theorem c_sideAhead {d B n i f A : Nat} {w : zW} {K : Nat → Nat} {s : dT} (hd : 3 ≤ d) (hB : z_isL B) (hA : A < 1000) (hV : kV A n K) (hL : lkD w B n K) (h5 : w 30 5 = nI i) (hi : i ≤ 6) (h8 : w 30 8 = nI (d_r s)) (hp : ∀ j, j < i → w 31 j = nI (d_p s j) ∧ d_p s j < n) (h6 : w 30 6 = nI (d_g s)) (hg : d_g s < 64) (hc : ∀ b, b < n → w 34 b = nI (k_ct K b)) (hf : w 30 7 = nI f) (hf1 : f < 1000) : CT mX0_sideAhead d [.ref 30, .ref B, .int (nI (K 3))] w (z_i fun x w' => nI (d_side n K i s f) = x ∧ w = w') := by
  have hK3 := hV.2.2.2.2.1
  refine CT.of [some (.ref 30), some (.ref B), some (.int (nI (K 3)))] rfl (Nat.le_of_ble_eq_true rfl) rfl ?_
  refine r_iload_n 1 dX0_sideAhead_0 rfl rfl ?_
  refine r_iconst 2 (v := 2) dX0_sideAhead_1 (by decide) rfl ?_
  refine r_icmp_ne 11 5 dX0_sideAhead_2 (by decide) rfl (fun g2 => ?_) (fun g2 => ?_)
  · have g2 : ¬ K 3 = 2 := fun z => g2 (by rw [z]; rfl)
    refine r_iload_n 12 dX0_sideAhead_11 rfl rfl ?_
    refine r_iconst 13 (v := 4) dX0_sideAhead_12 (by decide) rfl ?_
    refine r_icmp_ne 24 16 dX0_sideAhead_13 (by decide) rfl (fun g13 => ?_) (fun g13 => ?_)
    · have g13 : ¬ K 3 = 4 := fun z => g13 (by rw [z]; rfl)
      refine r_aload_n 25 dX0_sideAhead_24 rfl rfl ?_
      refine r_geti 28 dX0_sideAhead_25 fz_X0_89 sh_30 rfl rfl ?_
      refine r_eq h8 ?_
      exact r_iret .int dX0_sideAhead_28 rfl (rfl) (⟨by first | (rw [d_side, if_neg g2, if_pos g13]; done) | rw [d_side, if_neg g2, if_neg g13], rfl⟩)
    · have g13 : K 3 = 4 := (nI_inj (b := 4) (by omega) (by decide)).mp g13
      refine r_aload_n 17 dX0_sideAhead_16 rfl rfl ?_
      refine r_aload_n 18 dX0_sideAhead_17 rfl rfl ?_
      refine r_callV (y2 := mX0_sideByQueue) (as := [_]) 21 dX0_sideAhead_18 ml_X0_113 mv_X0_sideByQueue (c_sideByQueue (d := d - 1) (s := s) (by omega) hB hA hV hL h6 hg hc hf hf1 h8) (by omega) sh_30 ⟨_, rfl, rfl⟩ rfl (Nat.le_of_ble_eq_true rfl) rfl (kk_i ?_)
      rintro _ _ ⟨rfl, rfl⟩
      refine r_goto 28 dX0_sideAhead_21 (by decide) ?_
      exact r_iret .int dX0_sideAhead_28 rfl (rfl) (⟨by first | (rw [d_side, if_neg g2, if_pos g13]; done) | rw [d_side, if_neg g2, if_neg g13], rfl⟩)
  · have g2 : K 3 = 2 := (nI_inj (b := 2) (by omega) (by decide)).mp g2
    refine r_aload_n 6 dX0_sideAhead_5 rfl rfl ?_
    refine r_aload_n 7 dX0_sideAhead_6 rfl rfl ?_
    refine r_callV (y2 := mX0_sideByTwos) (as := [_]) 10 dX0_sideAhead_7 ml_X0_109 mv_X0_sideByTwos (c_sideByTwos (d := d - 1) (by omega) hB hA hV hL h5 hi h8 hp) (by omega) sh_30 ⟨_, rfl, rfl⟩ rfl (Nat.le_of_ble_eq_true rfl) rfl (kk_i ?_)
    rintro _ _ ⟨rfl, rfl⟩
    exact r_iret .int dX0_sideAhead_10 rfl (rfl) (⟨by rw [d_side, if_pos g2], rfl⟩)

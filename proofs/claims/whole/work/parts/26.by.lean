/-! ===== the class: a day by a law, in an order ===== -/
theorem d_side_lt {A n i f : Nat} {K : Nat → Nat} {s : dT} (hV : kV A n K) (hI : dI n i s) : d_side n K i s f < 2 := by
  have hr := hI.2.2.2.2.1
  unfold d_side
  split
  · split
    · omega
    · rename_i h0
      split
      · rename_i h1
        have := hV.sd (hI.2.2.1 0 (by omega)).1
        omega
      · have h2 := hV.sd (hI.2.2.1 (i - 1) (by omega)).1
        split <;> omega
  · split
    · dsimp only
      split
      · omega
      · split <;> omega
    · omega
/-- counts and tells -/
def dyT (w : zW) (n : Nat) (K : Nat → Nat) (cg i : Nat) : Prop := ∀ b, b < i → w 34 b = nI (k_ct K b) ∧ w 35 b = nI (k_tl K cg b)
theorem d_wait_fm {n i : Nat} {K : Nat → Nat} {s : dT} (h : dI n i s) (hi : i < n) : d_wait n K s = max (d_f s) (fm (d_g s) (k_ct K) n) := by
  obtain ⟨e, he⟩ := dI_some (f := k_ct K) h hi
  unfold d_wait fm
  rw [he]
theorem dyC.congr {w w' : zW} {n i : Nat} {K : Nat → Nat} {s : dT} (h : dyC w n K i s) (h0 : w' 30 = w 30) (h1 : w' 31 = w 31) (h2 : w' 32 = w 32) (h3 : w' 33 = w 33) : dyC w' n K i s := by
  unfold dyC at h ⊢
  rw [h0, h1, h2, h3]
  exact h
theorem dyC_nil {w : zW} {n : Nat} {K : Nat → Nat} (h5 : w 30 5 = 0) (h6 : w 30 6 = 0) (h7 : w 30 7 = 0) (h8 : w 30 8 = nI (K 2)) (h9 : w 30 9 = 0) (h10 : w 30 10 = 0) (h11 : w 30 11 = 0) (h12 : w 30 12 = 0) : dyC w n K 0 (d_nil K) := by
  have z : ∀ b, bi (d_g (d_nil K)) b = 0 := fun b => by show (0 : Nat) / 2 ^ b % 2 = 0; simp
  have m0 : ∀ m, (mx m fun b => if bi (d_g (d_nil K)) b = 1 then d_s (d_nil K) b else 0) = 0 := by
    intro m
    induction m with
    | zero => rfl
    | succ m ih => rw [mx, ih]; simp [z]
  have s0 : ∀ m, (sm m fun b => if bi (d_g (d_nil K)) b = 1 then d_s (d_nil K) b * k_wo K b else 0) = 0 := by
    intro m
    induction m with
    | zero => rfl
    | succ m ih => rw [sm, ih]; simp [z]
  exact ⟨h5, h6, h7, h8, by rw [m0]; exact h9, h10, h11, by rw [s0]; exact h12, fun j hj => absurd hj (Nat.not_lt_zero j), fun b _ h => by rw [z] at h; cases h⟩
set_option maxRecDepth 20000 in
set_option maxHeartbeats 4000000 in
theorem l_by1 {d B n cg Lm A : Nat} {w : zW} {K : Nat → Nat} {T : zX → Prop} (hd : 4 ≤ d) (hB : z_isL B) (hA : A ≤ 200) (hV : kV A n K) (hLm : Lm < 64) (hLb : ∀ b, b < n → bi Lm b = K (6 + 6 * b + 5)) (hcg : cg < 64) (hx : ∀ w' (v1 : lkD w' B n K) (v2 : dyT w' n K cg n) (v3 : dyC w' n K 0 (d_nil K)) (v4 : ∀ a, (a < 30 ∨ 35 < a) → w' a = w a), WP mX0_by d T 83 [some (.ref 30), some (.ref B), some (.int (nI (K 3))), some (.int (nI Lm)), some (.int (nI cg)), some (.int (nI n))] [] w') : ∀ k i w', i + k = n → ∀ (v1 : lkD w' B n K) (v2 : dyT w' n K cg i) (v3 : dyC w' n K 0 (d_nil K)) (v4 : ∀ a, (a < 30 ∨ 35 < a) → w' a = w a), WP mX0_by d T 8 [some (.ref 30), some (.ref B), some (.int (nI (K 3))), some (.int (nI Lm)), some (.int (nI cg)), some (.int (nI i))] [] w' := by
  have hn := hV.n
  have hBl := hB.lt
  intro k
  induction k with
  | zero =>
    intro i w' hi v1 v2 v3 v4
    have e : i = n := by omega
    subst e
    refine r_iload 10 dX0_by_8 rfl rfl ?_
    refine r_aload_n 11 dX0_by_10 rfl rfl ?_
    refine r_geti 14 dX0_by_11 fz_X0_31 (z_L0 hB) rfl rfl ?_
    refine r_icmp_ge 83 17 dX0_by_14 (by decide) rfl (fun _ => ?_) (fun z => absurd (by rw [v1.2.2]; exact Int32.le_refl _) z)
    exact hx w' v1 v2 v3 v4
  | succ k ih =>
    intro i w' hi v1 v2 v3 v4
    have hLi := hLb i (by omega)
    have hlie := (hV.2.2.2.2.2.2.2 i (by omega)).2.2.2.2.2
    refine r_iload 10 dX0_by_8 rfl rfl ?_
    refine r_aload_n 11 dX0_by_10 rfl rfl ?_
    refine r_geti 14 dX0_by_11 fz_X0_31 (z_L0 hB) rfl rfl ?_
    refine r_icmp_ge 83 17 dX0_by_14 (by decide) rfl (fun z => absurd z (by rw [v1.2.2, nI_le' (by omega) (by omega)]; omega)) (fun _ => ?_)
    refine r_aload_n 18 dX0_by_17 rfl rfl ?_
    refine r_getr 21 dX0_by_18 fz_X0_21 sh_30 rfl rfl ?_
    refine r_iload 23 dX0_by_21 rfl rfl ?_
    refine r_aload_n 24 dX0_by_23 rfl rfl ?_
    refine r_iload 26 dX0_by_24 rfl rfl ?_
    refine r_callV (y2 := mX1_countsFrom) (as := [_]) 29 dX0_by_26 ml_X0_37 mv_X1_countsFrom (c_countsFrom (d := d - 1) (by omega) hB (by omega) hV v1 (b := i) (by omega)) (by omega) (z_L0 hB) ⟨_, rfl, rfl⟩ rfl (Nat.le_of_ble_eq_true rfl) rfl (kk_i ?_)
    rintro _ _ ⟨rfl, rfl⟩
    refine rj_iast 30 (i) dX0_by_29 sh_34 (rfl) (by omega) (by decide) rfl ?_
    refine r_nw (fun w1 e1 => ?_)
    refine r_aload_n 31 dX0_by_30 rfl rfl ?_
    refine r_getr 34 dX0_by_31 fz_X0_24 sh_30 rfl rfl ?_
    refine r_iload 36 dX0_by_34 rfl rfl ?_
    refine r_aload_n 37 dX0_by_36 rfl rfl ?_
    refine r_iload 39 dX0_by_37 rfl rfl ?_
    refine r_iconst 40 (v := 1) dX0_by_39 (by decide) rfl ?_
    refine r_callV (y2 := mX1_mark) (as := [_, _]) 43 dX0_by_40 ml_X0_41 mv_X1_mark (c_mark (d := d - 1) hB (i := i) (j := 1) (by omega) (by decide)) (by omega) (z_L0 hB) ⟨_, rfl, rfl⟩ rfl (Nat.le_of_ble_eq_true rfl) rfl (kk_i ?_)
    rintro _ _ ⟨rfl, rfl⟩
    refine r_eq (z := nI (K (6 + 6 * i + 1))) (by rw [e1, z_up_a (by omega)]; exact v1.2.1 i 1 (by omega) (by decide)) ?_
    refine rj_iast 44 (i) dX0_by_43 sh_35 (rfl) (by omega) (by decide) rfl ?_
    refine r_nw (fun w2 e2 => ?_)
    refine r_iload_n 45 dX0_by_44 rfl rfl ?_
    refine r_iload 47 dX0_by_45 rfl rfl ?_
    refine r_ishr 48 dX0_by_47 rfl ?_
    refine r_iconst 49 (v := 1) dX0_by_48 (by decide) rfl ?_
    refine r_iand 50 dX0_by_49 rfl ?_
    refine r_eq (b_sh Lm hLm i (by omega)) ?_
    refine r_iconst 51 (v := 1) dX0_by_50 (by decide) rfl ?_
    refine r_icmp_ne 77 54 dX0_by_51 (by decide) rfl (fun g51 => ?_) (fun g51 => ?_)
    · have g51 : K (6 + 6 * i + 5) = 0 := by
        have : ¬ bi Lm i = 1 := fun z => g51 (by rw [z]; rfl)
        omega
      refine r_iinc 80 (L' := [_, _, _, _, _, _]) (v := nI (i + 1)) dX0_by_77 rfl (nI_1 i) (by decide) rfl rfl rfl ?_
      refine r_goto 8 dX0_by_80 (by decide) ?_
      refine ih (i + 1) _ (by omega) (v1.congr (by rw [e2, z_up_a (by omega), e1, z_up_a (by omega)]) (by rw [e2, z_up_o (by omega), e1, z_up_o (by omega)]) (by rw [e2, z_up_o (by omega), e1, z_up_o (by omega)])) ?_ (v3.congr (by rw [e2, z_up_o (by decide), e1, z_up_o (by decide)]) (by rw [e2, z_up_o (by decide), e1, z_up_o (by decide)]) (by rw [e2, z_up_o (by decide), e1, z_up_o (by decide)]) (by rw [e2, z_up_o (by decide), e1, z_up_o (by decide)])) (fun a ha => by rw [e2, z_up_o (by omega), e1, z_up_o (by omega)]; exact v4 a ha)
      intro b hb
      by_cases hbi : b = i
      · rw [hbi]
        constructor
        · rw [e2, z_up_a (by decide), e1, z_up_s]
        · rw [e2, z_up_s]
          rw [k_tl, if_pos g51]
      · refine ⟨?_, ?_⟩
        · rw [e2, z_up_a (by decide), e1, z_up_i hbi]; exact (v2 b (by omega)).1
        · rw [e2, z_up_i hbi, e1, z_up_a (by decide)]; exact (v2 b (by omega)).2
    · have g51 : ¬ K (6 + 6 * i + 5) = 0 := by
        have : bi Lm i = 1 := (nI_inj (b := 1) (by have := bi_lt Lm i; omega) (by decide)).mp g51
        omega
      refine r_aload_n 55 dX0_by_54 rfl rfl ?_
      refine r_getr 58 dX0_by_55 fz_X0_24 sh_30 rfl rfl ?_
      refine r_iload 60 dX0_by_58 rfl rfl ?_
      refine r_iload 62 dX0_by_60 rfl rfl ?_
      refine r_iload 64 dX0_by_62 rfl rfl ?_
      refine r_ishr 65 dX0_by_64 rfl ?_
      refine r_iconst 66 (v := 1) dX0_by_65 (by decide) rfl ?_
      refine r_iand 67 dX0_by_66 rfl ?_
      refine r_eq (b_sh cg hcg i (by omega)) ?_
      refine r_iconst 68 (v := 1) dX0_by_67 (by decide) rfl ?_
      refine rt_icmp_ne (a := 4) (b := 0) (j := 76) 75 71 dX0_by_68 (by decide) rfl (fun k => r_iconst 76 dX0_by_75 (by decide) rfl k) (fun k => r_iconst 72 dX0_by_71 (by decide) rfl (r_goto 76 dX0_by_72 (by decide) k)) ?_
      refine rj_iast 77 (i) dX0_by_76 sh_35 (rfl) (by omega) (by decide) rfl ?_
      refine r_nw (fun w3 e3 => ?_)
      refine r_iinc 80 (L' := [_, _, _, _, _, _]) (v := nI (i + 1)) dX0_by_77 rfl (nI_1 i) (by decide) rfl rfl rfl ?_
      refine r_goto 8 dX0_by_80 (by decide) ?_
      refine ih (i + 1) _ (by omega) (v1.congr (by rw [e3, z_up_a (by omega), e2, z_up_a (by omega), e1, z_up_a (by omega)]) (by rw [e3, z_up_o (by omega), e2, z_up_o (by omega), e1, z_up_o (by omega)]) (by rw [e3, z_up_o (by omega), e2, z_up_o (by omega), e1, z_up_o (by omega)])) ?_ (v3.congr (by rw [e3, z_up_o (by decide), e2, z_up_o (by decide), e1, z_up_o (by decide)]) (by rw [e3, z_up_o (by decide), e2, z_up_o (by decide), e1, z_up_o (by decide)]) (by rw [e3, z_up_o (by decide), e2, z_up_o (by decide), e1, z_up_o (by decide)]) (by rw [e3, z_up_o (by decide), e2, z_up_o (by decide), e1, z_up_o (by decide)])) (fun a ha => by rw [e3, z_up_o (by omega), e2, z_up_o (by omega), e1, z_up_o (by omega)]; exact v4 a ha)
      intro b hb
      by_cases hbi : b = i
      · rw [hbi]
        constructor
        · rw [e3, z_up_a (by decide), e2, z_up_a (by decide), e1, z_up_s]
        · rw [e3, z_up_s]
          rw [k_tl, if_neg g51]
          rcases bi_01 cg i with q | q <;> rw [q] <;> rfl
      · refine ⟨?_, ?_⟩
        · rw [e3, z_up_a (by decide), e2, z_up_a (by decide), e1, z_up_i hbi]; exact (v2 b (by omega)).1
        · rw [e3, z_up_i hbi, e2, z_up_i hbi, e1, z_up_a (by decide)]; exact (v2 b (by omega)).2
set_option maxRecDepth 20000 in
set_option maxHeartbeats 4000000 in
theorem l_by2 {d B n cg Lm A : Nat} {w : zW} {K : Nat → Nat} {T : zX → Prop} (hd : 4 ≤ d) (hB : z_isL B) (hA : A ≤ 200) (hV : kV A n K) (hLm : Lm < 64) (hLb : ∀ b, b < n → bi Lm b = K (6 + 6 * b + 5)) (hcg : cg < 64) (hx : ∀ w' (v1 : lkD w' B n K) (v2 : dyT w' n K cg n) (v3 : dyC w' n K n (d_run n K cg n)) (v4 : ∀ a, (a < 30 ∨ 35 < a) → w' a = w a), WP mX0_by d T 126 [some (.ref 30), some (.ref B), some (.int (nI (K 3))), some (.int (nI Lm)), some (.int (nI cg)), some (.int (nI n))] [] w') : ∀ k i w', i + k = n → ∀ (v1 : lkD w' B n K) (v2 : dyT w' n K cg n) (v3 : dyC w' n K i (d_run n K cg i)) (v4 : ∀ a, (a < 30 ∨ 35 < a) → w' a = w a), WP mX0_by d T 86 [some (.ref 30), some (.ref B), some (.int (nI (K 3))), some (.int (nI Lm)), some (.int (nI cg)), some (.int (nI i))] [] w' := by
  have hn := hV.n
  have hBl := hB.lt
  intro k
  induction k with
  | zero =>
    intro i w' hi v1 v2 v3 v4
    have e : i = n := by omega
    subst e
    refine r_iload 88 dX0_by_86 rfl rfl ?_
    refine r_aload_n 89 dX0_by_88 rfl rfl ?_
    refine r_geti 92 dX0_by_89 fz_X0_31 (z_L0 hB) rfl rfl ?_
    refine r_icmp_ge 126 95 dX0_by_92 (by decide) rfl (fun _ => ?_) (fun z => absurd (by rw [v1.2.2]; exact Int32.le_refl _) z)
    exact hx w' v1 v2 v3 v4
  | succ k ih =>
    intro i w' hi v1 v2 v3 v4
    have hI := dI_run (cg := cg) hV hA i (by omega)
    generalize hs : d_run n K cg i = s at hI v3
    have hin : i < n := by omega
    have nx := ih (i + 1)
    rw [d_run, hs] at nx
    obtain ⟨b, hb, hbn, hb0⟩ := d_pick_some (cg := cg) hV hI hin
    rw [d_step, hb] at nx
    have hwt := d_wait_le hV hA hI
    have hwf := d_wait_fm (K := K) hI hin
    have hg64 : d_g s < 64 := Nat.lt_of_lt_of_le hI.1 (p2_le n (by omega))
    have hdf := hI.2.2.2.1
    obtain ⟨C5, C6, C7, C8, C9, C10, C11, C12, Cp, Cs⟩ := id v3
    refine r_iload 88 dX0_by_86 rfl rfl ?_
    refine r_aload_n 89 dX0_by_88 rfl rfl ?_
    refine r_geti 92 dX0_by_89 fz_X0_31 (z_L0 hB) rfl rfl ?_
    refine r_icmp_ge 126 95 dX0_by_92 (by decide) rfl (fun z => absurd z (by rw [v1.2.2, nI_le' (by omega) (by omega)]; omega)) (fun _ => ?_)
    refine r_aload_n 96 dX0_by_95 rfl rfl ?_
    refine r_aload_n 97 dX0_by_96 rfl rfl ?_
    refine r_geti 100 dX0_by_97 fz_X0_31 (z_L0 hB) rfl rfl ?_
    refine r_eq v1.2.2 ?_
    refine r_callV (y2 := mX0_waitForOne) (as := [_]) 103 dX0_by_100 ml_X0_45 mv_X0_waitForOne (c_waitForOne (d := d - 1) (by omega) hn C6 hg64 (c := k_ct K) (fun b hb => ⟨(v2 b hb).1, by have := hV.ct hb; omega⟩) C7 (by omega)) (by omega) sh_30 ⟨_, rfl, rfl⟩ rfl (Nat.le_of_ble_eq_true rfl) rfl (kk_v ?_)
    rintro _ rfl
    rw [← hwf]
    refine r_nw (fun w1 e1 => ?_)
    have u1 : lkD w1 B n K := v1.congr (by rw [e1, z_up_a (by omega)]) (by rw [e1, z_up_o (by omega)]) (by rw [e1, z_up_o (by omega)])
    have u0 : ∀ a, a ≠ 30 → w1 a = w' a := fun a ha => by rw [e1, z_up_o ha]
    have u7 : w1 30 7 = nI (d_wait n K s) := by rw [e1, z_up_s]
    have uq : ∀ q, q ≠ 7 → w1 30 q = w' 30 q := fun q hq => by rw [e1, z_up_i hq]
    have u5 := (uq 5 (by decide)).trans C5
    have u6 := (uq 6 (by decide)).trans C6
    have u8 := (uq 8 (by decide)).trans C8
    have uT : dyT w1 n K cg n := fun b hb => by rw [u0 34 (by decide), u0 35 (by decide)]; exact v2 b hb
    have uC : dyC w1 n K i (d_g s, d_wait n K s, s.2.2) := ⟨u5, u6, u7, u8, (uq 9 (by decide)).trans C9, (uq 10 (by decide)).trans C10, (uq 11 (by decide)).trans C11, (uq 12 (by decide)).trans C12, fun j hj => by rw [u0 31 (by decide)]; exact Cp j hj, fun b hb h => by rw [u0 32 (by decide), u0 33 (by decide)]; exact Cs b hb h⟩
    refine r_aload_n 104 dX0_by_103 rfl rfl ?_
    refine r_aload_n 105 dX0_by_104 rfl rfl ?_
    refine r_aload_n 106 dX0_by_105 rfl rfl ?_
    refine r_aload_n 107 dX0_by_106 rfl rfl ?_
    refine r_iload_n 108 dX0_by_107 rfl rfl ?_
    refine r_aload_n 109 dX0_by_108 rfl rfl ?_
    refine r_aload_n 110 dX0_by_109 rfl rfl ?_
    refine r_iload_n 111 dX0_by_110 rfl rfl ?_
    refine r_callV (y2 := mX0_sideAhead) (as := [_, _]) 114 dX0_by_111 ml_X0_49 mv_X0_sideAhead (c_sideAhead (d := d - 1) (s := s) (f := d_wait n K s) (by omega) hB (by omega) hV u1 u5 (by omega) u8 (fun j hj => ⟨by rw [u0 31 (by decide)]; exact Cp j hj, (hI.2.2.1 j hj).1⟩) u6 hg64 (fun b hb => (uT b hb).1) u7 (by omega)) (by omega) sh_30 ⟨_, rfl, rfl⟩ rfl (Nat.le_of_ble_eq_true rfl) rfl (kk_i ?_)
    rintro _ _ ⟨rfl, rfl⟩
    refine r_callV (y2 := mX0_chosen) (as := [_, _, _]) 117 dX0_by_114 ml_X0_53 mv_X0_chosen (c_chosen (d := d - 1) (s := s) (f := d_wait n K s) (cg := cg) (b := b) (by omega) hB (by omega) hV u1 u6 hg64 uT u7 (by omega) (d_side_lt hV hI) hb) (by omega) sh_30 ⟨_, rfl, rfl⟩ rfl (Nat.le_of_ble_eq_true rfl) rfl (kk_i ?_)
    rintro _ _ ⟨rfl, rfl⟩
    refine r_callV (y2 := mX0_admit) (as := [_, _]) 120 dX0_by_117 ml_X0_57 mv_X0_admit (c_admit (d := d - 1) (s := (d_g s, d_wait n K s, s.2.2)) (by omega) hB hA hV u1 ⟨hI.1, hI.2.1, hI.2.2.1, hwt, hI.2.2.2.2⟩ uC hin hbn hb0) (by omega) sh_30 ⟨_, rfl, rfl⟩ rfl (Nat.le_of_ble_eq_true rfl) rfl (kk_v ?_)
    rintro w2 ⟨hC2, hF2⟩
    refine r_iinc 123 (L' := [_, _, _, _, _, _]) (v := nI (i + 1)) dX0_by_120 rfl (nI_1 i) (by decide) rfl rfl rfl ?_
    refine r_goto 86 dX0_by_123 (by decide) ?_
    exact nx w2 (by omega) (u1.congr (by rw [hF2 _ (by omega)]) (hF2 _ (by omega)) (hF2 _ (by omega))) (fun b hb => by rw [hF2 34 (by decide), hF2 35 (by decide)]; exact uT b hb) hC2 (fun a ha => by rw [hF2 a (by omega), u0 a (by omega)]; exact v4 a ha)
set_option maxRecDepth 20000 in
set_option maxHeartbeats 4000000 in
theorem c_by {d B n cg Lm A : Nat} {w : zW} {K : Nat → Nat} (hd : 4 ≤ d) (hB : z_isL B) (hA : A ≤ 200) (hV : kV A n K) (hLm : Lm < 64) (hLb : ∀ b, b < n → bi Lm b = K (6 + 6 * b + 5)) (hcg : cg < 64) (hL : lkD w B n K) : CT mX0_by d [.ref 30, .ref B, .int (nI (K 3)), .int (nI Lm), .int (nI cg)] w (z_v fun w' => dyC w' n K n (d_run n K cg n) ∧ ∀ a, (a < 30 ∨ 35 < a) → w' a = w a) := by
  refine CT.of [some (.ref 30), some (.ref B), some (.int (nI (K 3))), some (.int (nI Lm)), some (.int (nI cg)), none] rfl (Nat.le_of_ble_eq_true rfl) rfl ?_
  refine r_aload_n 1 dX0_by_0 rfl rfl ?_
  refine r_aload_n 2 dX0_by_1 rfl rfl ?_
  refine r_callV (y2 := mX0_begin) (as := [_]) 5 dX0_by_2 ml_X0_27 mv_X0_begin (c_begin (d := d - 1) hB) (by omega) sh_30 ⟨_, rfl, rfl⟩ rfl (Nat.le_of_ble_eq_true rfl) rfl (kk_v ?_)
  rintro w0 ⟨b5, b6, b7, b8, b9, b10, b11, b12, bo⟩
  refine r_iconst 6 (v := 0) dX0_by_5 (by decide) rfl ?_
  refine r_istore 8 (L' := [_, _, _, _, _, _]) dX0_by_6 (by decide) rfl rfl rfl ?_
  refine l_by1 (w := w) hd hB hA hV hLm hLb hcg (fun w1 p1 p2 p3 p4 => ?_) n 0 w0 (Nat.zero_add n) (hL.congr (by rw [bo _ (by have := hB.lt; omega)]) (bo _ (by have := hB.lt; omega)) (bo _ (by have := hB.lt; omega))) (fun b hb => absurd hb (Nat.not_lt_zero b)) (dyC_nil b5 b6 b7 (b8.trans (hL.1 2 (by decide) (by decide))) b9 b10 b11 b12) (fun a ha => bo a (by omega))
  refine r_iconst 84 (v := 0) dX0_by_83 (by decide) rfl ?_
  refine r_istore 86 (L' := [_, _, _, _, _, _]) dX0_by_84 (by decide) rfl rfl rfl ?_
  refine l_by2 hd hB hA hV hLm hLb hcg (fun w2 q1 q2 q3 q4 => ?_) n 0 w1 (Nat.zero_add n) p1 p2 p3 p4
  exact r_vret dX0_by_126 rfl (⟨q3, q4⟩)
set_option maxRecDepth 20000 in
set_option maxHeartbeats 4000000 in
theorem l_inOrder {d B n A : Nat} {w : zW} {K od : Nat → Nat} {T : zX → Prop} (hd : 4 ≤ d) (hB : z_isL B) (hA : A ≤ 200) (hV : kV A n K) (ho : ∀ i, i < n → w 39 i = nI (od i) ∧ od i < n ∧ bi (d_g (d_ord K od i)) (od i) = 0) (hI : ∀ i, i ≤ n → dI n i (d_ord K od i)) (hx : ∀ w' (v1 : lkD w' B n K) (v3 : dyC w' n K n (d_ord K od n)) (v4 : ∀ a, (a < 30 ∨ 33 < a) → w' a = w a), WP mX0_inOrder d T 29 [some (.ref 30), some (.ref B), some (.ref 39), some (.int (nI n))] [] w') : ∀ k i w', i + k = n → ∀ (v1 : lkD w' B n K) (v3 : dyC w' n K i (d_ord K od i)) (v4 : ∀ a, (a < 30 ∨ 33 < a) → w' a = w a), WP mX0_inOrder d T 7 [some (.ref 30), some (.ref B), some (.ref 39), some (.int (nI i))] [] w' := by
  have hn := hV.n
  have hBl := hB.lt
  intro k
  induction k with
  | zero =>
    intro i w' hi v1 v3 v4
    have e : i = n := by omega
    subst e
    refine r_iload_n 8 dX0_inOrder_7 rfl rfl ?_
    refine r_aload_n 9 dX0_inOrder_8 rfl rfl ?_
    refine r_geti 12 dX0_inOrder_9 fz_X0_31 (z_L0 hB) rfl rfl ?_
    refine r_icmp_ge 29 15 dX0_inOrder_12 (by decide) rfl (fun _ => ?_) (fun z => absurd (by rw [v1.2.2]; exact Int32.le_refl _) z)
    exact hx w' v1 v3 v4
  | succ k ih =>
    intro i w' hi v1 v3 v4
    have hoi := ho i (by omega)
    refine r_iload_n 8 dX0_inOrder_7 rfl rfl ?_
    refine r_aload_n 9 dX0_inOrder_8 rfl rfl ?_
    refine r_geti 12 dX0_inOrder_9 fz_X0_31 (z_L0 hB) rfl rfl ?_
    refine r_icmp_ge 29 15 dX0_inOrder_12 (by decide) rfl (fun z => absurd z (by rw [v1.2.2, nI_le' (by omega) (by omega)]; omega)) (fun _ => ?_)
    refine r_aload_n 16 dX0_inOrder_15 rfl rfl ?_
    refine r_aload_n 17 dX0_inOrder_16 rfl rfl ?_
    refine r_aload_n 18 dX0_inOrder_17 rfl rfl ?_
    refine r_iload_n 19 dX0_inOrder_18 rfl rfl ?_
    refine rj_iald 20 (i) dX0_inOrder_19 sh_39 (rfl) (by omega) (by decide) rfl ?_
    refine r_eq (z := nI (od i)) (by rw [v4 39 (by decide)]; exact hoi.1) ?_
    refine r_callV (y2 := mX0_admit) (as := [_, _]) 23 dX0_inOrder_20 ml_X0_57 mv_X0_admit (c_admit (d := d - 1) (by omega) hB hA hV v1 (hI i (by omega)) v3 (by omega) hoi.2.1 hoi.2.2) (by omega) sh_30 ⟨_, rfl, rfl⟩ rfl (Nat.le_of_ble_eq_true rfl) rfl (kk_v ?_)
    rintro w2 ⟨hC2, hF2⟩
    refine r_iinc 26 (L' := [_, _, _, _]) (v := nI (i + 1)) dX0_inOrder_23 rfl (nI_1 i) (by decide) rfl rfl rfl ?_
    refine r_goto 7 dX0_inOrder_26 (by decide) ?_
    exact ih (i + 1) w2 (by omega) (v1.congr (by rw [hF2 _ (by omega)]) (hF2 _ (by omega)) (hF2 _ (by omega))) hC2 (fun a ha => by rw [hF2 a ha]; exact v4 a ha)
set_option maxRecDepth 20000 in
set_option maxHeartbeats 4000000 in
theorem c_inOrder {d B n A : Nat} {w : zW} {K od : Nat → Nat} (hd : 4 ≤ d) (hB : z_isL B) (hA : A ≤ 200) (hV : kV A n K) (ho : ∀ i, i < n → w 39 i = nI (od i) ∧ od i < n ∧ bi (d_g (d_ord K od i)) (od i) = 0) (hI : ∀ i, i ≤ n → dI n i (d_ord K od i)) (hL : lkD w B n K) : CT mX0_inOrder d [.ref 30, .ref B, .ref 39] w (z_v fun w' => dyC w' n K n (d_ord K od n) ∧ ∀ a, (a < 30 ∨ 33 < a) → w' a = w a) := by
  refine CT.of [some (.ref 30), some (.ref B), some (.ref 39), none] rfl (Nat.le_of_ble_eq_true rfl) rfl ?_
  refine r_aload_n 1 dX0_inOrder_0 rfl rfl ?_
  refine r_aload_n 2 dX0_inOrder_1 rfl rfl ?_
  refine r_callV (y2 := mX0_begin) (as := [_]) 5 dX0_inOrder_2 ml_X0_27 mv_X0_begin (c_begin (d := d - 1) hB) (by omega) sh_30 ⟨_, rfl, rfl⟩ rfl (Nat.le_of_ble_eq_true rfl) rfl (kk_v ?_)
  rintro w0 ⟨b5, b6, b7, b8, b9, b10, b11, b12, bo⟩
  refine r_iconst 6 (v := 0) dX0_inOrder_5 (by decide) rfl ?_
  refine r_istore_n 7 (L' := [_, _, _, _]) dX0_inOrder_6 (by decide) rfl rfl rfl ?_
  refine l_inOrder (w := w) hd hB hA hV ho hI (fun w1 p1 p3 p4 => ?_) n 0 w0 (Nat.zero_add n) (hL.congr (by rw [bo _ (by have := hB.lt; omega)]) (bo _ (by have := hB.lt; omega)) (bo _ (by have := hB.lt; omega))) (dyC_nil b5 b6 b7 (b8.trans (hL.1 2 (by decide) (by decide))) b9 b10 b11 b12) (fun a ha => bo a (by omega))
  exact r_vret dX0_inOrder_29 rfl (⟨p3, p4⟩)
set_option maxRecDepth 20000 in
set_option maxHeartbeats 4000000 in
theorem l_wasSeenAs {d B m : Nat} {w : zW} {p sp sb : Nat → Nat} (hB : z_isL B) (hm : m ≤ 6) (h4 : w B 4 = nI m) (hs : ∀ s, s < m → w (B + 3) s = nI (sp s) ∧ sp s < 6 ∧ w (B + 4) s = nI (sb s) ∧ sb s < 1000 ∧ w 31 (sp s) = nI (p (sp s)) ∧ p (sp s) < 1000) : ∀ k i, i + k = m → (∀ s, s < i → p (sp s) = sb s) → WP mX1_wasSeenAs d (z_T (z_i fun x w' => z_b (∀ s, s < m → p (sp s) = sb s) = x ∧ w = w')) 2 [some (.ref B), some (.ref 31), some (.int (nI i))] [] w := by
  intro k
  induction k with
  | zero =>
    intro i hi ha
    have e : i = m := by omega
    subst e
    refine r_iload_n 3 dX1_wasSeenAs_2 rfl rfl ?_
    refine r_aload_n 4 dX1_wasSeenAs_3 rfl rfl ?_
    refine r_geti 7 dX1_wasSeenAs_4 fz_X1_45 (z_L0 hB) rfl rfl ?_
    refine r_icmp_ge 35 10 dX1_wasSeenAs_7 (by decide) rfl (fun _ => ?_) (fun z => absurd (by rw [h4]; exact Int32.le_refl _) z)
    refine r_iconst 36 (v := 1) dX1_wasSeenAs_35 (by decide) rfl ?_
    exact r_iret .boolean dX1_wasSeenAs_36 rfl (rfl) (⟨z_bp ha, rfl⟩)
  | succ k ih =>
    intro i hi ha
    obtain ⟨s1, s2, s3, s4, s5, s6⟩ := hs i (by omega)
    refine r_iload_n 3 dX1_wasSeenAs_2 rfl rfl ?_
    refine r_aload_n 4 dX1_wasSeenAs_3 rfl rfl ?_
    refine r_geti 7 dX1_wasSeenAs_4 fz_X1_45 (z_L0 hB) rfl rfl ?_
    refine r_icmp_ge 35 10 dX1_wasSeenAs_7 (by decide) rfl (fun z => absurd z (by rw [h4, nI_le' (by omega) (by omega)]; omega)) (fun _ => ?_)
    refine r_aload_n 11 dX1_wasSeenAs_10 rfl rfl ?_
    refine r_aload_n 12 dX1_wasSeenAs_11 rfl rfl ?_
    refine r_getr 15 dX1_wasSeenAs_12 fz_X1_26 (z_L0 hB) rfl rfl ?_
    refine r_iload_n 16 dX1_wasSeenAs_15 rfl rfl ?_
    refine rj_iald 17 (i) dX1_wasSeenAs_16 (z_L3 hB) (rfl) (by omega) (by decide) rfl ?_
    refine r_eq s1 ?_
    refine rj_iald 18 (sp i) dX1_wasSeenAs_17 sh_31 (rfl) (s2) (by decide) rfl ?_
    refine r_eq s5 ?_
    refine r_aload_n 19 dX1_wasSeenAs_18 rfl rfl ?_
    refine r_getr 22 dX1_wasSeenAs_19 fz_X1_29 (z_L0 hB) rfl rfl ?_
    refine r_iload_n 23 dX1_wasSeenAs_22 rfl rfl ?_
    refine rj_iald 24 (i) dX1_wasSeenAs_23 (z_L4 hB) (rfl) (by omega) (by decide) rfl ?_
    refine r_eq s3 ?_
    refine r_icmp_eq 29 27 dX1_wasSeenAs_24 (by decide) rfl (fun g24 => ?_) (fun g24 => ?_)
    · have g24 : p (sp i) = sb i := (nI_inj (by omega) (by omega)).mp g24
      refine r_iinc 32 (L' := [_, _, _]) (v := nI (i + 1)) dX1_wasSeenAs_29 rfl (nI_1 i) (by decide) rfl rfl rfl ?_
      refine r_goto 2 dX1_wasSeenAs_32 (by decide) ?_
      refine ih (i + 1) (by omega) (fun s hsi => ?_)
      rcases Nat.lt_succ_iff_lt_or_eq.mp hsi with q | q
      · exact ha s q
      · rw [q]; exact g24
    · have g24 : ¬ p (sp i) = sb i := fun z => g24 (by rw [z])
      refine r_iconst 28 (v := 0) dX1_wasSeenAs_27 (by decide) rfl ?_
      exact r_iret .boolean dX1_wasSeenAs_28 rfl (rfl) (⟨z_bn (fun z => g24 (z i (by omega))), rfl⟩)
set_option maxRecDepth 20000 in
set_option maxHeartbeats 4000000 in
theorem c_wasSeenAs {d B m : Nat} {w : zW} {p sp sb : Nat → Nat} (hB : z_isL B) (hm : m ≤ 6) (h4 : w B 4 = nI m) (hs : ∀ s, s < m → w (B + 3) s = nI (sp s) ∧ sp s < 6 ∧ w (B + 4) s = nI (sb s) ∧ sb s < 1000 ∧ w 31 (sp s) = nI (p (sp s)) ∧ p (sp s) < 1000) : CT mX1_wasSeenAs d [.ref B, .ref 31] w (z_i fun x w' => z_b (∀ s, s < m → p (sp s) = sb s) = x ∧ w = w') := by
  refine CT.of [some (.ref B), some (.ref 31), none] rfl (Nat.le_of_ble_eq_true rfl) rfl ?_
  refine r_iconst 1 (v := 0) dX1_wasSeenAs_0 (by decide) rfl ?_
  refine r_istore_n 2 (L' := [_, _, _]) dX1_wasSeenAs_1 (by decide) rfl rfl rfl ?_
  exact l_wasSeenAs hB hm h4 hs m 0 (Nat.zero_add m) (fun s h => absurd h (Nat.not_lt_zero s))
set_option maxRecDepth 20000 in
set_option maxHeartbeats 4000000 in
theorem c_isAsSeen {d B m : Nat} {w : zW} {p sp sb : Nat → Nat} (hd : 1 ≤ d) (hB : z_isL B) (hm : m ≤ 6) (h4 : w B 4 = nI m) (hs : ∀ s, s < m → w (B + 3) s = nI (sp s) ∧ sp s < 6 ∧ w (B + 4) s = nI (sb s) ∧ sb s < 1000 ∧ w 31 (sp s) = nI (p (sp s)) ∧ p (sp s) < 1000) : CT mX0_isAsSeen d [.ref 30, .ref B] w (z_i fun x w' => z_b (∀ s, s < m → p (sp s) = sb s) = x ∧ w = w') := by
  refine CT.of [some (.ref 30), some (.ref B)] rfl (Nat.le_of_ble_eq_true rfl) rfl ?_
  refine r_aload_n 1 dX0_isAsSeen_0 rfl rfl ?_
  refine r_aload_n 2 dX0_isAsSeen_1 rfl rfl ?_
  refine r_getr 5 dX0_isAsSeen_2 fz_X0_9 sh_30 rfl rfl ?_
  refine r_callV (y2 := mX1_wasSeenAs) (as := [_]) 8 dX0_isAsSeen_5 ml_X0_76 mv_X1_wasSeenAs (c_wasSeenAs (d := d - 1) hB hm h4 hs) (by omega) (z_L0 hB) ⟨_, rfl, rfl⟩ rfl (Nat.le_of_ble_eq_true rfl) rfl (kk_i ?_)
  rintro _ _ ⟨rfl, rfl⟩
  exact r_iret .boolean dX0_isAsSeen_8 rfl (z_bnar) (⟨rfl, rfl⟩)

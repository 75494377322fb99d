/-! ===== the class: Day ===== -/
set_option maxRecDepth 20000 in
set_option maxHeartbeats 4000000 in
theorem c_begin {d B : Nat} {w : zW} (hB : z_isL B) : CT mX0_begin d [.ref 30, .ref B] w (z_v fun w' => w' 30 5 = 0 ∧ w' 30 6 = 0 ∧ w' 30 7 = 0 ∧ w' 30 8 = w (B + 1) 2 ∧ w' 30 9 = 0 ∧ w' 30 10 = 0 ∧ w' 30 11 = 0 ∧ w' 30 12 = 0 ∧ ∀ a, a ≠ 30 → w' a = w a) := by
  refine CT.of [some (.ref 30), some (.ref B)] rfl (Nat.le_of_ble_eq_true rfl) rfl ?_
  refine r_aload_n 1 dX0_begin_0 rfl rfl ?_
  refine r_iconst 2 (v := 0) dX0_begin_1 (by decide) rfl ?_
  refine r_puti 5 dX0_begin_2 fz_X0_80 fw_0_5 sh_30 rfl rfl ?_
  refine r_nw (fun w1 e1 => ?_)
  refine r_aload_n 6 dX0_begin_5 rfl rfl ?_
  refine r_iconst 7 (v := 0) dX0_begin_6 (by decide) rfl ?_
  refine r_puti 10 dX0_begin_7 fz_X0_83 fw_0_6 sh_30 rfl rfl ?_
  refine r_nw (fun w2 e2 => ?_)
  refine r_aload_n 11 dX0_begin_10 rfl rfl ?_
  refine r_iconst 12 (v := 0) dX0_begin_11 (by decide) rfl ?_
  refine r_puti 15 dX0_begin_12 fz_X0_70 fw_0_7 sh_30 rfl rfl ?_
  refine r_nw (fun w3 e3 => ?_)
  refine r_aload_n 16 dX0_begin_15 rfl rfl ?_
  refine r_aload_n 17 dX0_begin_16 rfl rfl ?_
  refine r_getr 20 dX0_begin_17 fz_X0_86 (z_L0 hB) rfl rfl ?_
  refine r_iconst 21 (v := 2) dX0_begin_20 (by decide) rfl ?_
  refine rj_iald 22 (2) dX0_begin_21 (z_L1 hB) (rfl) (by decide) (by decide) rfl ?_
  refine r_puti 25 dX0_begin_22 fz_X0_89 fw_0_8 sh_30 rfl rfl ?_
  refine r_nw (fun w4 e4 => ?_)
  refine r_aload_n 26 dX0_begin_25 rfl rfl ?_
  refine r_iconst 27 (v := 0) dX0_begin_26 (by decide) rfl ?_
  refine r_puti 30 dX0_begin_27 fz_X0_64 fw_0_9 sh_30 rfl rfl ?_
  refine r_nw (fun w5 e5 => ?_)
  refine r_aload_n 31 dX0_begin_30 rfl rfl ?_
  refine r_iconst 32 (v := 0) dX0_begin_31 (by decide) rfl ?_
  refine r_puti 35 dX0_begin_32 fz_X0_67 fw_0_10 sh_30 rfl rfl ?_
  refine r_nw (fun w6 e6 => ?_)
  refine r_aload_n 36 dX0_begin_35 rfl rfl ?_
  refine r_iconst 37 (v := 0) dX0_begin_36 (by decide) rfl ?_
  refine r_puti 40 dX0_begin_37 fz_X0_73 fw_0_11 sh_30 rfl rfl ?_
  refine r_nw (fun w7 e7 => ?_)
  refine r_aload_n 41 dX0_begin_40 rfl rfl ?_
  refine r_iconst 42 (v := 0) dX0_begin_41 (by decide) rfl ?_
  refine r_puti 45 dX0_begin_42 fz_X0_61 fw_0_12 sh_30 rfl rfl ?_
  refine r_nw (fun w8 e8 => ?_)
  have hl := hB.lt
  have f3 : w3 (B + 1) 2 = w (B + 1) 2 := by rw [e3, z_up_a (by omega), e2, z_up_a (by omega), e1, z_up_a (by omega)]
  exact r_vret dX0_begin_45 rfl (⟨by rw [e8, z_up_i (by decide), e7, z_up_i (by decide), e6, z_up_i (by decide), e5, z_up_i (by decide), e4, z_up_i (by decide), e3, z_up_i (by decide), e2, z_up_i (by decide), e1, z_up_s], by rw [e8, z_up_i (by decide), e7, z_up_i (by decide), e6, z_up_i (by decide), e5, z_up_i (by decide), e4, z_up_i (by decide), e3, z_up_i (by decide), e2, z_up_s], by rw [e8, z_up_i (by decide), e7, z_up_i (by decide), e6, z_up_i (by decide), e5, z_up_i (by decide), e4, z_up_i (by decide), e3, z_up_s], by rw [e8, z_up_i (by decide), e7, z_up_i (by decide), e6, z_up_i (by decide), e5, z_up_i (by decide), e4, z_up_s, f3], by rw [e8, z_up_i (by decide), e7, z_up_i (by decide), e6, z_up_i (by decide), e5, z_up_s], by rw [e8, z_up_i (by decide), e7, z_up_i (by decide), e6, z_up_s], by rw [e8, z_up_i (by decide), e7, z_up_s], by rw [e8, z_up_s], fun a ha => by rw [e8, z_up_o ha, e7, z_up_o ha, e6, z_up_o ha, e5, z_up_o ha, e4, z_up_o ha, e3, z_up_o ha, e2, z_up_o ha, e1, z_up_o ha]⟩)
set_option maxRecDepth 20000 in
set_option maxHeartbeats 4000000 in
theorem c_costOf {d B b : Nat} {w : zW} (hd : 2 ≤ d) (hB : z_isL B) (hb : b < 6) : CT mX0_costOf d [.ref 30, .ref B, .int (nI b)] w (z_i fun x w' => w 33 b * w (B + 2) (b * 5 + 3) = x ∧ w = w') := by
  refine CT.of [some (.ref 30), some (.ref B), some (.int (nI b))] rfl (Nat.le_of_ble_eq_true rfl) rfl ?_
  refine r_aload_n 1 dX0_costOf_0 rfl rfl ?_
  refine r_getr 4 dX0_costOf_1 fz_X0_18 sh_30 rfl rfl ?_
  refine r_iload_n 5 dX0_costOf_4 rfl rfl ?_
  refine rj_iald 6 (b) dX0_costOf_5 sh_33 (rfl) (hb) (by decide) rfl ?_
  refine r_aload_n 7 dX0_costOf_6 rfl rfl ?_
  refine r_iload_n 8 dX0_costOf_7 rfl rfl ?_
  refine r_iconst 9 (v := 3) dX0_costOf_8 (by decide) rfl ?_
  refine r_callV (y2 := mX1_mark) (as := [_, _]) 12 dX0_costOf_9 ml_X0_41 mv_X1_mark (c_mark (d := d - 1) hB (i := b) (j := 3) hb (by decide)) (by omega) (z_L0 hB) ⟨_, rfl, rfl⟩ rfl (Nat.le_of_ble_eq_true rfl) rfl (kk_i ?_)
  rintro _ _ ⟨rfl, rfl⟩
  refine r_imul 13 dX0_costOf_12 rfl ?_
  exact r_iret .int dX0_costOf_13 rfl (rfl) (⟨rfl, rfl⟩)
set_option maxRecDepth 20000 in
set_option maxHeartbeats 4000000 in
theorem c_measure_0 {d : Nat} {w : zW} : CT mX0_measure d [.ref 30, .int (nI 0)] w (z_i fun x w' => w 30 12 = x ∧ w = w') := by
  refine CT.of [some (.ref 30), some (.int (nI 0))] rfl (Nat.le_of_ble_eq_true rfl) rfl ?_
  refine r_iload_n 1 dX0_measure_0 rfl rfl ?_
  refine r_tin 32 dX0_measure_1 (by decide) (by decide) rfl (by decide) ?_
  refine r_aload_n 33 dX0_measure_32 rfl rfl ?_
  refine r_geti 36 dX0_measure_33 fz_X0_61 sh_30 rfl rfl ?_
  exact r_iret .int dX0_measure_36 rfl (rfl) (⟨rfl, rfl⟩)
set_option maxRecDepth 20000 in
set_option maxHeartbeats 4000000 in
theorem c_measure_1 {d : Nat} {w : zW} : CT mX0_measure d [.ref 30, .int (nI 1)] w (z_i fun x w' => w 30 9 = x ∧ w = w') := by
  refine CT.of [some (.ref 30), some (.int (nI 1))] rfl (Nat.le_of_ble_eq_true rfl) rfl ?_
  refine r_iload_n 1 dX0_measure_0 rfl rfl ?_
  refine r_tin 37 dX0_measure_1 (by decide) (by decide) rfl (by decide) ?_
  refine r_aload_n 38 dX0_measure_37 rfl rfl ?_
  refine r_geti 41 dX0_measure_38 fz_X0_64 sh_30 rfl rfl ?_
  exact r_iret .int dX0_measure_41 rfl (rfl) (⟨rfl, rfl⟩)
set_option maxRecDepth 20000 in
set_option maxHeartbeats 4000000 in
theorem c_measure_2 {d : Nat} {w : zW} : CT mX0_measure d [.ref 30, .int (nI 2)] w (z_i fun x w' => w 30 10 = x ∧ w = w') := by
  refine CT.of [some (.ref 30), some (.int (nI 2))] rfl (Nat.le_of_ble_eq_true rfl) rfl ?_
  refine r_iload_n 1 dX0_measure_0 rfl rfl ?_
  refine r_tin 42 dX0_measure_1 (by decide) (by decide) rfl (by decide) ?_
  refine r_aload_n 43 dX0_measure_42 rfl rfl ?_
  refine r_geti 46 dX0_measure_43 fz_X0_67 sh_30 rfl rfl ?_
  exact r_iret .int dX0_measure_46 rfl (rfl) (⟨rfl, rfl⟩)
set_option maxRecDepth 20000 in
set_option maxHeartbeats 4000000 in
theorem c_measure_3 {d : Nat} {w : zW} : CT mX0_measure d [.ref 30, .int (nI 3)] w (z_i fun x w' => w 30 7 = x ∧ w = w') := by
  refine CT.of [some (.ref 30), some (.int (nI 3))] rfl (Nat.le_of_ble_eq_true rfl) rfl ?_
  refine r_iload_n 1 dX0_measure_0 rfl rfl ?_
  refine r_tin 47 dX0_measure_1 (by decide) (by decide) rfl (by decide) ?_
  refine r_aload_n 48 dX0_measure_47 rfl rfl ?_
  refine r_geti 51 dX0_measure_48 fz_X0_70 sh_30 rfl rfl ?_
  exact r_iret .int dX0_measure_51 rfl (rfl) (⟨rfl, rfl⟩)
set_option maxRecDepth 20000 in
set_option maxHeartbeats 4000000 in
theorem c_measure_4 {d : Nat} {w : zW} : CT mX0_measure d [.ref 30, .int (nI 4)] w (z_i fun x w' => w 30 11 = x ∧ w = w') := by
  refine CT.of [some (.ref 30), some (.int (nI 4))] rfl (Nat.le_of_ble_eq_true rfl) rfl ?_
  refine r_iload_n 1 dX0_measure_0 rfl rfl ?_
  refine r_tout 52 dX0_measure_1 (by decide) (by decide) ?_
  refine r_aload_n 53 dX0_measure_52 rfl rfl ?_
  refine r_geti 56 dX0_measure_53 fz_X0_73 sh_30 rfl rfl ?_
  exact r_iret .int dX0_measure_56 rfl (rfl) (⟨rfl, rfl⟩)
theorem c_measure {d k : Nat} {w : zW} (hk : k < 5) : CT mX0_measure d [.ref 30, .int (nI k)] w (z_i fun x w' => w 30 ([12, 9, 10, 7, 11].getD k 0) = x ∧ w = w') := by
  match k, hk with
  | 0, _ => exact c_measure_0
  | 1, _ => exact c_measure_1
  | 2, _ => exact c_measure_2
  | 3, _ => exact c_measure_3
  | 4, _ => exact c_measure_4
theorem bz {g b : Nat} (h : ¬ nI (bi g b) = 0) : bi g b = 1 := by
  rcases bi_01 g b with z | z
  · rw [z] at h; exact absurd rfl h
  · exact z
theorem bz0 {g b : Nat} (h : nI (bi g b) = 0) : bi g b = 0 := by
  rcases bi_01 g b with z | z
  · exact z
  · rw [z] at h; exact absurd h (by decide)
set_option maxRecDepth 20000 in
set_option maxHeartbeats 4000000 in
theorem c_waits {d g b c f : Nat} {w : zW} (h6 : w 30 6 = nI g) (hg : g < 64) (hb : b < 6) (hc : w 34 b = nI c) (hc1 : c < 1000) (hf : w 30 7 = nI f) (hf1 : f < 1000) : CT mX0_waits d [.ref 30, .int (nI b)] w (z_i fun x w' => z_b (bi g b = 0 ∧ c ≤ f) = x ∧ w = w') := by
  refine CT.of [some (.ref 30), some (.int (nI b))] rfl (Nat.le_of_ble_eq_true rfl) rfl ?_
  refine r_aload_n 1 dX0_waits_0 rfl rfl ?_
  refine r_geti 4 dX0_waits_1 fz_X0_83 sh_30 rfl rfl ?_
  refine r_eq h6 ?_
  refine r_iload_n 5 dX0_waits_4 rfl rfl ?_
  refine r_ishr 6 dX0_waits_5 rfl ?_
  refine r_iconst 7 (v := 1) dX0_waits_6 (by decide) rfl ?_
  refine r_iand 8 dX0_waits_7 rfl ?_
  refine r_eq (b_sh g hg b hb) ?_
  refine r_if_ne 28 11 dX0_waits_8 (by decide) rfl (fun h8 => ?_) (fun h8 => ?_)
  · have h8 := bz h8
    refine r_iconst 29 (v := 0) dX0_waits_28 (by decide) rfl ?_
    exact r_iret .boolean dX0_waits_29 rfl (rfl) (⟨by first | exact z_bp ⟨h8, by omega⟩ | exact z_bn (fun z => by omega), rfl⟩)
  · have h8 := bz0 h8
    refine r_aload_n 12 dX0_waits_11 rfl rfl ?_
    refine r_getr 15 dX0_waits_12 fz_X0_21 sh_30 rfl rfl ?_
    refine r_iload_n 16 dX0_waits_15 rfl rfl ?_
    refine rj_iald 17 (b) dX0_waits_16 sh_34 (rfl) (hb) (by decide) rfl ?_
    refine r_eq hc ?_
    refine r_aload_n 18 dX0_waits_17 rfl rfl ?_
    refine r_geti 21 dX0_waits_18 fz_X0_70 sh_30 rfl rfl ?_
    refine r_eq hf ?_
    refine r_icmp_gt 28 24 dX0_waits_21 (by decide) rfl (fun h21 => ?_) (fun h21 => ?_)
    · have h21 : f < c := (nI_lt' (by omega) (by omega)).mp h21
      refine r_iconst 29 (v := 0) dX0_waits_28 (by decide) rfl ?_
      exact r_iret .boolean dX0_waits_29 rfl (rfl) (⟨by first | exact z_bp ⟨h8, by omega⟩ | exact z_bn (fun z => by omega), rfl⟩)
    · have h21 : ¬ f < c := fun z => h21 ((nI_lt' (by omega) (by omega)).mpr z)
      refine r_iconst 25 (v := 1) dX0_waits_24 (by decide) rfl ?_
      refine r_goto 29 dX0_waits_25 (by decide) ?_
      exact r_iret .boolean dX0_waits_29 rfl (rfl) (⟨by first | exact z_bp ⟨h8, by omega⟩ | exact z_bn (fun z => by omega), rfl⟩)
/-- the least count of those that are not gone -/
def fm (g : Nat) (c : Nat → Nat) (i : Nat) : Nat := match am i (fun b => bi g b == 0) c with
  | none => 1000000
  | some b => c b
theorem fm_le {g i : Nat} {c : Nat → Nat} (hc : ∀ b, b < i → c b < 1000) : fm g c i < 2147483648 := by
  unfold fm
  cases h : am i (fun b => bi g b == 0) c with
  | none => show (1000000 : Nat) < _; decide
  | some b => have := hc b (am_some h).1; show c b < _; omega
theorem fm_skip {g i : Nat} {c : Nat → Nat} (h : bi g i = 1) : fm g c (i + 1) = fm g c i := by
  unfold fm
  rw [am]
  cases h0 : am i (fun b => bi g b == 0) c with
  | none => simp [h]
  | some b => simp [h]
theorem fm_take {g i : Nat} {c : Nat → Nat} (hc : ∀ b, b < i + 1 → c b < 1000) (h : bi g i = 0) : fm g c (i + 1) = min (fm g c i) (c i) := by
  unfold fm
  rw [am]
  cases h0 : am i (fun b => bi g b == 0) c with
  | none =>
    have := hc i (Nat.lt_succ_self i)
    simp [h]
    omega
  | some b =>
    simp only [h]
    by_cases q : c i < c b
    · simp [q]
      omega
    · simp [q]
      omega
set_option maxRecDepth 20000 in
set_option maxHeartbeats 4000000 in
theorem l_waitForOne {d n g : Nat} {w : zW} {c : Nat → Nat} {T : zX → Prop} (hd : 1 ≤ d) (hn : n ≤ 6) (h6 : w 30 6 = nI g) (hg : g < 64) (hc : ∀ b, b < n → w 34 b = nI (c b) ∧ c b < 1000) (hx : WP mX0_waitForOne d T 38 [some (.ref 30), some (.int (nI n)), some (.int (nI (fm g c n))), some (.int (nI n))] [] w) : ∀ k i, i + k = n → WP mX0_waitForOne d T 5 [some (.ref 30), some (.int (nI n)), some (.int (nI (fm g c i))), some (.int (nI i))] [] w := by
  intro k
  induction k with
  | zero =>
    intro i hi
    have e : i = n := by omega
    subst e
    refine r_iload_n 6 dX0_waitForOne_5 rfl rfl ?_
    refine r_iload_n 7 dX0_waitForOne_6 rfl rfl ?_
    refine r_icmp_ge 38 10 dX0_waitForOne_7 (by decide) rfl (fun _ => ?_) (fun z => absurd (Int32.le_refl _) z)
    exact hx
  | succ k ih =>
    intro i hi
    have hci := hc i (by omega)
    have hle := fm_le (g := g) (i := i) (fun b hb => (hc b (by omega)).2)
    refine r_iload_n 6 dX0_waitForOne_5 rfl rfl ?_
    refine r_iload_n 7 dX0_waitForOne_6 rfl rfl ?_
    refine r_icmp_ge 38 10 dX0_waitForOne_7 (by decide) rfl (fun z => absurd z (by rw [nI_le' (by omega) (by omega)]; omega)) (fun _ => ?_)
    refine r_aload_n 11 dX0_waitForOne_10 rfl rfl ?_
    refine r_geti 14 dX0_waitForOne_11 fz_X0_83 sh_30 rfl rfl ?_
    refine r_eq h6 ?_
    refine r_iload_n 15 dX0_waitForOne_14 rfl rfl ?_
    refine r_ishr 16 dX0_waitForOne_15 rfl ?_
    refine r_iconst 17 (v := 1) dX0_waitForOne_16 (by decide) rfl ?_
    refine r_iand 18 dX0_waitForOne_17 rfl ?_
    refine r_eq (b_sh g hg i (by omega)) ?_
    refine r_if_ne 32 21 dX0_waitForOne_18 (by decide) rfl (fun h18 => ?_) (fun h18 => ?_)
    · have h18 := bz h18
      rw [← fm_skip (c := c) h18]
      refine r_iinc 35 (L' := [_, _, _, _]) (v := nI (i + 1)) dX0_waitForOne_32 rfl (nI_1 i) (by decide) rfl rfl rfl ?_
      refine r_goto 5 dX0_waitForOne_35 (by decide) ?_
      exact ih (i + 1) (by omega)
    · have h18 := bz0 h18
      refine r_iload_n 22 dX0_waitForOne_21 rfl rfl ?_
      refine r_aload_n 23 dX0_waitForOne_22 rfl rfl ?_
      refine r_getr 26 dX0_waitForOne_23 fz_X0_21 sh_30 rfl rfl ?_
      refine r_iload_n 27 dX0_waitForOne_26 rfl rfl ?_
      refine rj_iald 28 (i) dX0_waitForOne_27 sh_34 (rfl) (by omega) (by decide) rfl ?_
      refine r_eq hci.1 ?_
      refine r_mmin 31 dX0_waitForOne_28 ml_X0_93 (by omega) (Nat.le_of_ble_eq_true rfl) rfl ?_
      refine r_eq (n_min (by omega) (by omega)) ?_
      rw [← fm_take (fun b hb => (hc b (by omega)).2) h18]
      refine r_istore_n 32 (L' := [_, _, _, _]) dX0_waitForOne_31 (by decide) rfl rfl rfl ?_
      refine r_iinc 35 (L' := [_, _, _, _]) (v := nI (i + 1)) dX0_waitForOne_32 rfl (nI_1 i) (by decide) rfl rfl rfl ?_
      refine r_goto 5 dX0_waitForOne_35 (by decide) ?_
      exact ih (i + 1) (by omega)
set_option maxRecDepth 20000 in
set_option maxHeartbeats 4000000 in
theorem c_waitForOne {d n g : Nat} {w : zW} {c : Nat → Nat} {f : Nat} (hd : 1 ≤ d) (hn : n ≤ 6) (h6 : w 30 6 = nI g) (hg : g < 64) (hc : ∀ b, b < n → w 34 b = nI (c b) ∧ c b < 1000) (hf : w 30 7 = nI f) (hf1 : f < 1000) : CT mX0_waitForOne d [.ref 30, .int (nI n)] w (z_v fun w' => z_up w 30 7 (nI (max f (fm g c n))) = w') := by
  refine CT.of [some (.ref 30), some (.int (nI n)), none, none] rfl (Nat.le_of_ble_eq_true rfl) rfl ?_
  refine r_ldc 2 dX0_waitForOne_0 kc_X0_92 rfl ?_
  refine r_eq (z := nI (fm g c 0)) rfl ?_
  refine r_istore_n 3 (L' := [_, _, _, _]) dX0_waitForOne_2 (by decide) rfl rfl rfl ?_
  refine r_iconst 4 (v := 0) dX0_waitForOne_3 (by decide) rfl ?_
  refine r_istore_n 5 (L' := [_, _, _, _]) dX0_waitForOne_4 (by decide) rfl rfl rfl ?_
  refine l_waitForOne hd hn h6 hg hc ?_ n 0 (Nat.zero_add n)
  refine r_aload_n 39 dX0_waitForOne_38 rfl rfl ?_
  refine r_aload_n 40 dX0_waitForOne_39 rfl rfl ?_
  refine r_geti 43 dX0_waitForOne_40 fz_X0_70 sh_30 rfl rfl ?_
  refine r_eq hf ?_
  refine r_iload_n 44 dX0_waitForOne_43 rfl rfl ?_
  refine r_mmax 47 dX0_waitForOne_44 ml_X0_98 (by omega) (Nat.le_of_ble_eq_true rfl) rfl ?_
  refine r_eq (n_max (by omega) (fm_le (fun b hb => (hc b hb).2))) ?_
  refine r_puti 50 dX0_waitForOne_47 fz_X0_70 fw_0_7 sh_30 rfl rfl ?_
  exact r_vret dX0_waitForOne_50 rfl (rfl)
set_option maxRecDepth 20000 in
set_option maxHeartbeats 4000000 in
theorem c_rank_0 {d B n b s t A : Nat} {w : zW} {K : Nat → Nat} (hd : 2 ≤ d) (hB : z_isL B) (hA : A < 1000) (hV : kV A n K) (hL : lkD w B n K) (hb : b < n) (hs : s < 2) (ht : w 35 b = nI t) : CT mX0_rank d [.ref 30, .ref B, .int (nI 0), .int (nI s), .int (nI b)] w (z_i fun x w' => nI (if 0 = 3 then t else if 0 = 0 then 0 else if k_sd K b = s then 0 else 1) = x ∧ w = w') := by
  have hn := hV.n
  have hu := hV.sd hb
  refine CT.of [some (.ref 30), some (.ref B), some (.int (nI 0)), some (.int (nI s)), some (.int (nI b))] rfl (Nat.le_of_ble_eq_true rfl) rfl ?_
  refine r_iload_n 1 dX0_rank_0 rfl rfl ?_
  refine r_tout 57 dX0_rank_1 (by decide) (by decide) ?_
  refine r_iconst 58 (v := 0) dX0_rank_57 (by decide) rfl ?_
  exact r_iret .int dX0_rank_58 rfl (rfl) (⟨rfl, rfl⟩)
set_option maxRecDepth 20000 in
set_option maxHeartbeats 4000000 in
theorem c_rank_1 {d B n b s t A : Nat} {w : zW} {K : Nat → Nat} (hd : 2 ≤ d) (hB : z_isL B) (hA : A < 1000) (hV : kV A n K) (hL : lkD w B n K) (hb : b < n) (hs : s < 2) (ht : w 35 b = nI t) : CT mX0_rank d [.ref 30, .ref B, .int (nI 1), .int (nI s), .int (nI b)] w (z_i fun x w' => nI (if 1 = 3 then t else if 1 = 0 then 0 else if k_sd K b = s then 0 else 1) = x ∧ w = w') := by
  have hn := hV.n
  have hu := hV.sd hb
  refine CT.of [some (.ref 30), some (.ref B), some (.int (nI 1)), some (.int (nI s)), some (.int (nI b))] rfl (Nat.le_of_ble_eq_true rfl) rfl ?_
  refine r_iload_n 1 dX0_rank_0 rfl rfl ?_
  refine r_tin 32 dX0_rank_1 (by decide) (by decide) rfl (by decide) ?_
  refine r_aload_n 33 dX0_rank_32 rfl rfl ?_
  refine r_iload 35 dX0_rank_33 rfl rfl ?_
  refine r_iconst 36 (v := 0) dX0_rank_35 (by decide) rfl ?_
  refine r_callV (y2 := mX1_mark) (as := [_, _]) 39 dX0_rank_36 ml_X0_41 mv_X1_mark (c_mark (d := d - 1) hB (i := b) (j := 0) (by omega) (by decide)) (by omega) (z_L0 hB) ⟨_, rfl, rfl⟩ rfl (Nat.le_of_ble_eq_true rfl) rfl (kk_i ?_)
  rintro _ _ ⟨rfl, rfl⟩
  refine r_eq (z := nI (k_sd K b)) (hL.2.1 b 0 hb (by decide)) ?_
  refine r_iload_n 40 dX0_rank_39 rfl rfl ?_
  refine r_icmp_ne 47 43 dX0_rank_40 (by decide) rfl (fun h40 => ?_) (fun h40 => ?_)
  · have h40 : ¬ k_sd K b = s := fun z => h40 (by rw [z])
    refine r_iconst 48 (v := 1) dX0_rank_47 (by decide) rfl ?_
    exact r_iret .int dX0_rank_48 rfl (rfl) (⟨by rw [if_neg (by decide), if_neg (by decide)]; first | (rw [if_pos h40]; rfl) | (rw [if_neg h40]; rfl), rfl⟩)
  · have h40 : k_sd K b = s := (nI_inj (by omega) (by omega)).mp h40
    refine r_iconst 44 (v := 0) dX0_rank_43 (by decide) rfl ?_
    refine r_goto 48 dX0_rank_44 (by decide) ?_
    exact r_iret .int dX0_rank_48 rfl (rfl) (⟨by rw [if_neg (by decide), if_neg (by decide)]; first | (rw [if_pos h40]; rfl) | (rw [if_neg h40]; rfl), rfl⟩)
set_option maxRecDepth 20000 in
set_option maxHeartbeats 4000000 in
theorem c_rank_2 {d B n b s t A : Nat} {w : zW} {K : Nat → Nat} (hd : 2 ≤ d) (hB : z_isL B) (hA : A < 1000) (hV : kV A n K) (hL : lkD w B n K) (hb : b < n) (hs : s < 2) (ht : w 35 b = nI t) : CT mX0_rank d [.ref 30, .ref B, .int (nI 2), .int (nI s), .int (nI b)] w (z_i fun x w' => nI (if 2 = 3 then t else if 2 = 0 then 0 else if k_sd K b = s then 0 else 1) = x ∧ w = w') := by
  have hn := hV.n
  have hu := hV.sd hb
  refine CT.of [some (.ref 30), some (.ref B), some (.int (nI 2)), some (.int (nI s)), some (.int (nI b))] rfl (Nat.le_of_ble_eq_true rfl) rfl ?_
  refine r_iload_n 1 dX0_rank_0 rfl rfl ?_
  refine r_tin 32 dX0_rank_1 (by decide) (by decide) rfl (by decide) ?_
  refine r_aload_n 33 dX0_rank_32 rfl rfl ?_
  refine r_iload 35 dX0_rank_33 rfl rfl ?_
  refine r_iconst 36 (v := 0) dX0_rank_35 (by decide) rfl ?_
  refine r_callV (y2 := mX1_mark) (as := [_, _]) 39 dX0_rank_36 ml_X0_41 mv_X1_mark (c_mark (d := d - 1) hB (i := b) (j := 0) (by omega) (by decide)) (by omega) (z_L0 hB) ⟨_, rfl, rfl⟩ rfl (Nat.le_of_ble_eq_true rfl) rfl (kk_i ?_)
  rintro _ _ ⟨rfl, rfl⟩
  refine r_eq (z := nI (k_sd K b)) (hL.2.1 b 0 hb (by decide)) ?_
  refine r_iload_n 40 dX0_rank_39 rfl rfl ?_
  refine r_icmp_ne 47 43 dX0_rank_40 (by decide) rfl (fun h40 => ?_) (fun h40 => ?_)
  · have h40 : ¬ k_sd K b = s := fun z => h40 (by rw [z])
    refine r_iconst 48 (v := 1) dX0_rank_47 (by decide) rfl ?_
    exact r_iret .int dX0_rank_48 rfl (rfl) (⟨by rw [if_neg (by decide), if_neg (by decide)]; first | (rw [if_pos h40]; rfl) | (rw [if_neg h40]; rfl), rfl⟩)
  · have h40 : k_sd K b = s := (nI_inj (by omega) (by omega)).mp h40
    refine r_iconst 44 (v := 0) dX0_rank_43 (by decide) rfl ?_
    refine r_goto 48 dX0_rank_44 (by decide) ?_
    exact r_iret .int dX0_rank_48 rfl (rfl) (⟨by rw [if_neg (by decide), if_neg (by decide)]; first | (rw [if_pos h40]; rfl) | (rw [if_neg h40]; rfl), rfl⟩)
set_option maxRecDepth 20000 in
set_option maxHeartbeats 4000000 in
theorem c_rank_3 {d B n b s t A : Nat} {w : zW} {K : Nat → Nat} (hd : 2 ≤ d) (hB : z_isL B) (hA : A < 1000) (hV : kV A n K) (hL : lkD w B n K) (hb : b < n) (hs : s < 2) (ht : w 35 b = nI t) : CT mX0_rank d [.ref 30, .ref B, .int (nI 3), .int (nI s), .int (nI b)] w (z_i fun x w' => nI (if 3 = 3 then t else if 3 = 0 then 0 else if k_sd K b = s then 0 else 1) = x ∧ w = w') := by
  have hn := hV.n
  have hu := hV.sd hb
  refine CT.of [some (.ref 30), some (.ref B), some (.int (nI 3)), some (.int (nI s)), some (.int (nI b))] rfl (Nat.le_of_ble_eq_true rfl) rfl ?_
  refine r_iload_n 1 dX0_rank_0 rfl rfl ?_
  refine r_tin 49 dX0_rank_1 (by decide) (by decide) rfl (by decide) ?_
  refine r_aload_n 50 dX0_rank_49 rfl rfl ?_
  refine r_getr 53 dX0_rank_50 fz_X0_24 sh_30 rfl rfl ?_
  refine r_iload 55 dX0_rank_53 rfl rfl ?_
  refine rj_iald 56 (b) dX0_rank_55 sh_35 (rfl) (by omega) (by decide) rfl ?_
  refine r_eq ht ?_
  exact r_iret .int dX0_rank_56 rfl (rfl) (⟨by rw [if_pos rfl], rfl⟩)
set_option maxRecDepth 20000 in
set_option maxHeartbeats 4000000 in
theorem c_rank_4 {d B n b s t A : Nat} {w : zW} {K : Nat → Nat} (hd : 2 ≤ d) (hB : z_isL B) (hA : A < 1000) (hV : kV A n K) (hL : lkD w B n K) (hb : b < n) (hs : s < 2) (ht : w 35 b = nI t) : CT mX0_rank d [.ref 30, .ref B, .int (nI 4), .int (nI s), .int (nI b)] w (z_i fun x w' => nI (if 4 = 3 then t else if 4 = 0 then 0 else if k_sd K b = s then 0 else 1) = x ∧ w = w') := by
  have hn := hV.n
  have hu := hV.sd hb
  refine CT.of [some (.ref 30), some (.ref B), some (.int (nI 4)), some (.int (nI s)), some (.int (nI b))] rfl (Nat.le_of_ble_eq_true rfl) rfl ?_
  refine r_iload_n 1 dX0_rank_0 rfl rfl ?_
  refine r_tin 32 dX0_rank_1 (by decide) (by decide) rfl (by decide) ?_
  refine r_aload_n 33 dX0_rank_32 rfl rfl ?_
  refine r_iload 35 dX0_rank_33 rfl rfl ?_
  refine r_iconst 36 (v := 0) dX0_rank_35 (by decide) rfl ?_
  refine r_callV (y2 := mX1_mark) (as := [_, _]) 39 dX0_rank_36 ml_X0_41 mv_X1_mark (c_mark (d := d - 1) hB (i := b) (j := 0) (by omega) (by decide)) (by omega) (z_L0 hB) ⟨_, rfl, rfl⟩ rfl (Nat.le_of_ble_eq_true rfl) rfl (kk_i ?_)
  rintro _ _ ⟨rfl, rfl⟩
  refine r_eq (z := nI (k_sd K b)) (hL.2.1 b 0 hb (by decide)) ?_
  refine r_iload_n 40 dX0_rank_39 rfl rfl ?_
  refine r_icmp_ne 47 43 dX0_rank_40 (by decide) rfl (fun h40 => ?_) (fun h40 => ?_)
  · have h40 : ¬ k_sd K b = s := fun z => h40 (by rw [z])
    refine r_iconst 48 (v := 1) dX0_rank_47 (by decide) rfl ?_
    exact r_iret .int dX0_rank_48 rfl (rfl) (⟨by rw [if_neg (by decide), if_neg (by decide)]; first | (rw [if_pos h40]; rfl) | (rw [if_neg h40]; rfl), rfl⟩)
  · have h40 : k_sd K b = s := (nI_inj (by omega) (by omega)).mp h40
    refine r_iconst 44 (v := 0) dX0_rank_43 (by decide) rfl ?_
    refine r_goto 48 dX0_rank_44 (by decide) ?_
    exact r_iret .int dX0_rank_48 rfl (rfl) (⟨by rw [if_neg (by decide), if_neg (by decide)]; first | (rw [if_pos h40]; rfl) | (rw [if_neg h40]; rfl), rfl⟩)
theorem c_rank {d B n b s t A l : Nat} {w : zW} {K : Nat → Nat} (hd : 2 ≤ d) (hB : z_isL B) (hA : A < 1000) (hV : kV A n K) (hL : lkD w B n K) (hb : b < n) (hs : s < 2) (ht : w 35 b = nI t) (hl : l < 5) : CT mX0_rank d [.ref 30, .ref B, .int (nI l), .int (nI s), .int (nI b)] w (z_i fun x w' => nI (if l = 3 then t else if l = 0 then 0 else if k_sd K b = s then 0 else 1) = x ∧ w = w') := by
  match l, hl with
  | 0, _ => exact c_rank_0 hd hB hA hV hL hb hs ht
  | 1, _ => exact c_rank_1 hd hB hA hV hL hb hs ht
  | 2, _ => exact c_rank_2 hd hB hA hV hL hb hs ht
  | 3, _ => exact c_rank_3 hd hB hA hV hL hb hs ht
  | 4, _ => exact c_rank_4 hd hB hA hV hL hb hs ht

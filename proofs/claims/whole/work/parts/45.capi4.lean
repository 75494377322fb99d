/-! ===== the class: keep, back, count, sheet, lay ===== -/
theorem cpR.F {w w' : zW} {B C n : Nat} {K : Nat → Nat} (h : cpR w B C w') (hL : lkF w C n K) (hn : n ≤ 6) (hm : K 42 ≤ 6) : lkF w' B n K := by
  obtain ⟨h1, h2, h3, h4, h5, h6, h7, -⟩ := h
  obtain ⟨l1, l2, l3, l4, l5, l6⟩ := hL
  exact ⟨fun k hk => by rw [h1 k hk]; exact l1 k hk, fun b q hb hq => by rw [h2 _ (by omega)]; exact l2 b q hb hq, by rw [h5]; exact l3, by rw [h6]; exact l4, by rw [h7]; exact l5, fun j hj => by rw [h3 j (by omega), h4 j (by omega)]; exact l6 j hj⟩
theorem b_im : ∀ j, j < 2 → z_isL (11 + 5 * j) ∧ [11, 16][j]? = some (11 + 5 * j) := fun j hj => by
  rcases (show j = 0 ∨ j = 1 by omega) with rfl | rfl
  · exact ⟨Or.inr (Or.inr (Or.inl rfl)), rfl⟩
  · exact ⟨Or.inr (Or.inr (Or.inr (Or.inl rfl))), rfl⟩
theorem b_kp : ∀ g, g < 4 → ∀ j, j < 2 → nI g ||| ((1 : Int32) <<< (nI j &&& 31)) = nI (if bi g j = 1 then g else g + 2 ^ j) := by decide +kernel
theorem bi_kp : ∀ g, g < 4 → ∀ j, j < 2 → ∀ k, k < 2 → bi (if bi g j = 1 then g else g + 2 ^ j) k = if k = j then 1 else bi g k := by decide +kernel
theorem kp_lt : ∀ g, g < 4 → ∀ j, j < 2 → (if bi g j = 1 then g else g + 2 ^ j) < 4 := by decide +kernel
theorem kp_sm : ∀ g, g < 4 → sm 6 (bi g) = bi g 0 + bi g 1 := by decide +kernel
set_option maxRecDepth 20000 in
set_option maxHeartbeats 4000000 in
theorem C_keep {d : Nat} {w : zW} {s : sT} {k : Int32} (hd : 6 ≤ d) (hR : RC w s) (hS : sV s) : AC mX6_keep d [.int k] w (f_keep s k) := by
  have hn := hS.1.n
  refine CT.of [some (.ref 0), some (.int k), none] rfl (Nat.le_of_ble_eq_true rfl) rfl ?_
  refine r_iload_n 1 dX6_keep_0 rfl rfl ?_
  refine r_iconst 2 (v := 0) dX6_keep_1 (by decide) rfl ?_
  refine r_iconst 3 (v := 1) dX6_keep_2 (by decide) rfl ?_
  refine r_callS (y2 := mX6_within) (as := [_, _, _]) 6 dX6_keep_3 ml_X6_67 ms_X6_within (c_within (d := d - 1) _ _ _) (by omega) rfl (Nat.le_of_ble_eq_true rfl) rfl (kk_i ?_)
  rintro _ _ ⟨rfl, rfl⟩
  refine rb_ne 11 9 dX6_keep_6 (by decide) rfl (fun g6 => ?_) (fun g6 => ?_)
  · have wq : wi k 0 1 = true := wi_iff.mpr g6
    obtain ⟨j, hj, rfl⟩ := wi_of (hi := 1) wq
    have hjs : tN (nI j) = j := tN_n (by omega)
    obtain ⟨hBB, hBi⟩ := b_im j (by omega)
    obtain ⟨B, hBe⟩ : ∃ B, B = 11 + 5 * j := ⟨_, rfl⟩
    rw [← hBe] at hBB hBi
    have hB := hBB
    refine r_aload_n 12 dX6_keep_11 rfl rfl ?_
    refine r_geti 15 dX6_keep_12 fz_X6_90 sh_0 rfl rfl ?_
    refine r_eq hR.2.1.1 ?_
    refine r_iload_n 16 dX6_keep_15 rfl rfl ?_
    refine r_ishr 17 dX6_keep_16 rfl ?_
    refine r_iconst 18 (v := 1) dX6_keep_17 (by decide) rfl ?_
    refine r_iand 19 dX6_keep_18 rfl ?_
    refine r_eq (b_sh _ (by have := hS.2.1.1; omega) j (by omega)) ?_
    refine r_istore_n 20 (L' := [_, _, _]) dX6_keep_19 (by decide) rfl rfl rfl ?_
    refine r_aload_n 21 dX6_keep_20 rfl rfl ?_
    refine r_getr 24 dX6_keep_21 fz_X6_19 sh_0 rfl rfl ?_
    refine r_iload_n 25 dX6_keep_24 rfl rfl ?_
    refine rj_aald (r := B) 26 (j) dX6_keep_25 sh_26 (rfl) (by omega) (by decide) (hBi) rfl ?_
    refine r_aload_n 27 dX6_keep_26 rfl rfl ?_
    refine r_getr 30 dX6_keep_27 fz_X6_10 sh_0 rfl rfl ?_
    refine r_callV (y2 := mX1_copyFrom) (as := [_]) 33 dX6_keep_30 ml_X6_86 mv_X1_copyFrom (c_copyFrom (d := d - 1) (by omega) hB (Or.inl rfl) (by omega)) (by omega) (z_L0 hB) ⟨_, rfl, rfl⟩ rfl (Nat.le_of_ble_eq_true rfl) rfl (kk_v ?_)
    rintro w1 hc
    refine r_aload_n 34 dX6_keep_33 rfl rfl ?_
    refine r_dup 35 dX6_keep_34 rfl rfl ?_
    refine r_geti 38 dX6_keep_35 fz_X6_90 sh_0 rfl rfl ?_
    refine r_eq (z := nI (s_kp s)) (by rw [hc.2.2.2.2.2.2.2 0 (by omega)]; exact hR.2.1.1) ?_
    refine r_iconst 39 (v := 1) dX6_keep_38 (by decide) rfl ?_
    refine r_iload_n 40 dX6_keep_39 rfl rfl ?_
    refine r_ishl 41 dX6_keep_40 rfl ?_
    refine r_ior 42 dX6_keep_41 rfl ?_
    refine r_eq (b_kp _ hS.2.1.1 j (by omega)) ?_
    refine r_puti 45 dX6_keep_42 fz_X6_90 fw_6_3 sh_0 rfl rfl ?_
    refine r_nw (fun w2 e2 => ?_)
    refine r_iload_n 46 dX6_keep_45 rfl rfl ?_
    have hf : ∀ a, a ≠ 0 → (a < B ∨ B + 4 < a) → w2 a = w a := fun a h0 ha => by rw [e2, z_up_o h0]; exact hc.2.2.2.2.2.2.2 a ha
    have h00 : ∀ q, q ≠ 3 → w2 0 q = w 0 q := fun q hq => by rw [e2, z_up_i hq, hc.2.2.2.2.2.2.2 0 (by omega)]
    have hF : lkF w2 B (s_n s) (s_K s) := (hc.F hR.1 hn hS.1.2.1).fr (fun a h1 h2 => by rw [e2, z_up_o (by omega)])
    exact r_iret .int dX6_keep_46 rfl (rfl) (⟨by rw [f_keep, if_pos wq, hjs], by rw [f_keep, if_pos wq, hjs]; exact ⟨hR.1.fr (fun a h1 h2 => hf a (by omega) (by omega)), ⟨by rw [e2, z_up_s], fun k hk hb => by have hb : bi (if bi (s_kp s) j = 1 then s_kp s else s_kp s + 2 ^ j) k = 1 := hb; rw [bi_kp _ hS.2.1.1 j (by omega) k hk] at hb; show lkF w2 (11 + 5 * k) (s_n s) (if k = j then s_K s else s_im s k); by_cases hkj : k = j; (rw [if_pos hkj, hkj, ← hBe]; exact hF); (rw [if_neg hkj] at hb ⊢; exact (hR.2.1.2 k hk hb).fr (fun a h1 h2 => hf a (by omega) (by omega)))⟩, ⟨by rw [hf 27 (by omega) (by omega)]; exact hR.2.2.1.1, fun i hi => by rw [hf 28 (by omega) (by omega)]; exact hR.2.2.1.2 i hi⟩, by show w2 29 1 = _; rw [hf 29 (by omega) (by omega)]; exact hR.2.2.2.1, hR.2.2.2.2.1.congr (fun a h1 h2 => hf a (by omega) (by omega)), by show w2 0 11 = _; rw [h00 11 (by decide)]; exact hR.2.2.2.2.2⟩, fun a ha => hf a (by omega) (by omega)⟩)
  · have wq : ¬ wi k 0 1 = true := fun z => g6 (wi_iff.mp z)
    refine r_iconst 10 (v := -1) dX6_keep_9 (by decide) rfl ?_
    exact r_iret .int dX6_keep_10 rfl (rfl) (by first | exact ⟨by rw [f_keep, if_neg (wq)], by rw [f_keep, if_neg (wq)]; exact hR, fun _ _ => rfl⟩)
set_option maxRecDepth 20000 in
set_option maxHeartbeats 4000000 in
theorem C_back {d : Nat} {w : zW} {s : sT} {k : Int32} (hd : 7 ≤ d) (hR : RC w s) (hS : sV s) : AC mX6_back d [.int k] w (f_back s k) := by
  have hn := hS.1.n
  refine CT.of [some (.ref 0), some (.int k)] rfl (Nat.le_of_ble_eq_true rfl) rfl ?_
  refine r_iload_n 1 dX6_back_0 rfl rfl ?_
  refine r_iconst 2 (v := 0) dX6_back_1 (by decide) rfl ?_
  refine r_iconst 3 (v := 1) dX6_back_2 (by decide) rfl ?_
  refine r_callS (y2 := mX6_within) (as := [_, _, _]) 6 dX6_back_3 ml_X6_67 ms_X6_within (c_within (d := d - 1) _ _ _) (by omega) rfl (Nat.le_of_ble_eq_true rfl) rfl (kk_i ?_)
  rintro _ _ ⟨rfl, rfl⟩
  refine rb_ne 11 9 dX6_back_6 (by decide) rfl (fun g6 => ?_) (fun g6 => ?_)
  · have wq : wi k 0 1 = true := wi_iff.mpr g6
    obtain ⟨j, hj, rfl⟩ := wi_of (hi := 1) wq
    have hjs : tN (nI j) = j := tN_n (by omega)
    obtain ⟨hBB, hBi⟩ := b_im j (by omega)
    obtain ⟨B, hBe⟩ : ∃ B, B = 11 + 5 * j := ⟨_, rfl⟩
    rw [← hBe] at hBB hBi
    have hB := hBB
    refine r_aload_n 12 dX6_back_11 rfl rfl ?_
    refine r_geti 15 dX6_back_12 fz_X6_90 sh_0 rfl rfl ?_
    refine r_eq hR.2.1.1 ?_
    refine r_iload_n 16 dX6_back_15 rfl rfl ?_
    refine r_ishr 17 dX6_back_16 rfl ?_
    refine r_iconst 18 (v := 1) dX6_back_17 (by decide) rfl ?_
    refine r_iand 19 dX6_back_18 rfl ?_
    refine r_eq (b_sh _ (by have := hS.2.1.1; omega) j (by omega)) ?_
    refine r_if_ne 25 22 dX6_back_19 (by decide) rfl (fun g19 => ?_) (fun g19 => ?_)
    · have g19 : bi (s_kp s) j = 1 := by rcases bi_01 (s_kp s) j with z | z; (exact absurd (by rw [z]; rfl) g19); (exact z)
      have hSj := hS.2.1.2 j (by omega) g19
      refine r_aload_n 26 dX6_back_25 rfl rfl ?_
      refine r_getr 29 dX6_back_26 fz_X6_10 sh_0 rfl rfl ?_
      refine r_aload_n 30 dX6_back_29 rfl rfl ?_
      refine r_getr 33 dX6_back_30 fz_X6_19 sh_0 rfl rfl ?_
      refine r_iload_n 34 dX6_back_33 rfl rfl ?_
      refine rj_aald (r := B) 35 (j) dX6_back_34 sh_26 (rfl) (by omega) (by decide) (hBi) rfl ?_
      refine r_callV (y2 := mX1_copyFrom) (as := [_]) 38 dX6_back_35 ml_X6_86 mv_X1_copyFrom (c_copyFrom (d := d - 1) (by omega) (Or.inl rfl) hB (by omega)) (by omega) sh_1 ⟨_, rfl, rfl⟩ rfl (Nat.le_of_ble_eq_true rfl) rfl (kk_v ?_)
      rintro w1 hc
      have hf := hc.2.2.2.2.2.2.2
      have hR1 : RC w1 (u_lk s (s_n s) (s_im s j)) := hR.lk (fun a ha => hf a (by omega)) (hc.F (by rw [hBe]; exact hR.2.1.2 j (by omega) g19) hn hSj.2.1)
      have hS1 : sV (u_lk s (s_n s) (s_im s j)) := ⟨hSj, hS.2⟩
      refine r_aload_n 39 dX6_back_38 rfl rfl ?_
      refine r_iconst 40 (v := 3) dX6_back_39 (by decide) rfl ?_
      refine r_callV (y2 := mX6_day) (as := [_]) 43 dX6_back_40 ml_X6_244 mv_X6_day (C_day (d := d - 1) (by omega) hR1 hS1) (by omega) sh_0 ⟨_, rfl, rfl⟩ rfl (Nat.le_of_ble_eq_true rfl) rfl (kk_i ?_)
      rintro _ w2 ⟨rfl, hR2, h2⟩
      exact r_iret .int dX6_back_43 rfl (rfl) (⟨by rw [f_back, if_pos wq, hjs, if_pos g19, f_day, if_pos (by decide +kernel)]; rfl, by rw [f_back, if_pos wq, hjs, if_pos g19]; exact hR2, fun a ha => (h2 a ha).trans (hf a (by omega))⟩)
    · have g19 : ¬ bi (s_kp s) j = 1 := fun z => by rw [z] at g19; exact absurd g19 (by decide)
      refine r_bipush 24 (v := -2) dX6_back_22 (by decide) rfl ?_
      exact r_iret .int dX6_back_24 rfl (rfl) (⟨by rw [f_back, if_pos wq, hjs, if_neg g19], by rw [f_back, if_pos wq, hjs, if_neg g19]; exact hR, fun _ _ => rfl⟩)
  · have wq : ¬ wi k 0 1 = true := fun z => g6 (wi_iff.mp z)
    refine r_iconst 10 (v := -1) dX6_back_9 (by decide) rfl ?_
    exact r_iret .int dX6_back_10 rfl (rfl) (by first | exact ⟨by rw [f_back, if_neg (wq)], by rw [f_back, if_neg (wq)]; exact hR, fun _ _ => rfl⟩)
set_option maxRecDepth 20000 in
set_option maxHeartbeats 4000000 in
theorem c_bitCount {d g : Nat} {w : zW} (hg : g < 64) : CT mJ6_bitCount_0f7a4 d [.int (nI g)] w (z_i fun x w' => nI (sm 6 (bi g)) = x ∧ w = w') := by
  refine CT.of [some (.int (nI g))] rfl (Nat.le_of_ble_eq_true rfl) rfl ?_
  refine r_iload_n 1 dJ6_bitCount_0f7a4_0 rfl rfl ?_
  refine r_iload_n 2 dJ6_bitCount_0f7a4_1 rfl rfl ?_
  refine r_iconst 3 (v := 1) dJ6_bitCount_0f7a4_2 (by decide) rfl ?_
  refine r_iushr 4 dJ6_bitCount_0f7a4_3 rfl rfl ?_
  refine r_ldc_w 7 dJ6_bitCount_0f7a4_4 kc_J6_265 rfl ?_
  refine r_iand 8 dJ6_bitCount_0f7a4_7 rfl ?_
  refine r_isub 9 dJ6_bitCount_0f7a4_8 rfl ?_
  refine r_istore_n 10 (L' := [_]) dJ6_bitCount_0f7a4_9 (by decide) rfl rfl rfl ?_
  refine r_iload_n 11 dJ6_bitCount_0f7a4_10 rfl rfl ?_
  refine r_ldc_w 14 dJ6_bitCount_0f7a4_11 kc_J6_266 rfl ?_
  refine r_iand 15 dJ6_bitCount_0f7a4_14 rfl ?_
  refine r_iload_n 16 dJ6_bitCount_0f7a4_15 rfl rfl ?_
  refine r_iconst 17 (v := 2) dJ6_bitCount_0f7a4_16 (by decide) rfl ?_
  refine r_iushr 18 dJ6_bitCount_0f7a4_17 rfl rfl ?_
  refine r_ldc_w 21 dJ6_bitCount_0f7a4_18 kc_J6_266 rfl ?_
  refine r_iand 22 dJ6_bitCount_0f7a4_21 rfl ?_
  refine r_iadd 23 dJ6_bitCount_0f7a4_22 rfl ?_
  refine r_istore_n 24 (L' := [_]) dJ6_bitCount_0f7a4_23 (by decide) rfl rfl rfl ?_
  refine r_iload_n 25 dJ6_bitCount_0f7a4_24 rfl rfl ?_
  refine r_iload_n 26 dJ6_bitCount_0f7a4_25 rfl rfl ?_
  refine r_iconst 27 (v := 4) dJ6_bitCount_0f7a4_26 (by decide) rfl ?_
  refine r_iushr 28 dJ6_bitCount_0f7a4_27 rfl rfl ?_
  refine r_iadd 29 dJ6_bitCount_0f7a4_28 rfl ?_
  refine r_ldc_w 32 dJ6_bitCount_0f7a4_29 kc_J6_267 rfl ?_
  refine r_iand 33 dJ6_bitCount_0f7a4_32 rfl ?_
  refine r_istore_n 34 (L' := [_]) dJ6_bitCount_0f7a4_33 (by decide) rfl rfl rfl ?_
  refine r_iload_n 35 dJ6_bitCount_0f7a4_34 rfl rfl ?_
  refine r_iload_n 36 dJ6_bitCount_0f7a4_35 rfl rfl ?_
  refine r_bipush 38 (v := 8) dJ6_bitCount_0f7a4_36 (by decide) rfl ?_
  refine r_iushr 39 dJ6_bitCount_0f7a4_38 rfl rfl ?_
  refine r_iadd 40 dJ6_bitCount_0f7a4_39 rfl ?_
  refine r_istore_n 41 (L' := [_]) dJ6_bitCount_0f7a4_40 (by decide) rfl rfl rfl ?_
  refine r_iload_n 42 dJ6_bitCount_0f7a4_41 rfl rfl ?_
  refine r_iload_n 43 dJ6_bitCount_0f7a4_42 rfl rfl ?_
  refine r_bipush 45 (v := 16) dJ6_bitCount_0f7a4_43 (by decide) rfl ?_
  refine r_iushr 46 dJ6_bitCount_0f7a4_45 rfl rfl ?_
  refine r_iadd 47 dJ6_bitCount_0f7a4_46 rfl ?_
  refine r_istore_n 48 (L' := [_]) dJ6_bitCount_0f7a4_47 (by decide) rfl rfl rfl ?_
  refine r_iload_n 49 dJ6_bitCount_0f7a4_48 rfl rfl ?_
  refine r_bipush 51 (v := 63) dJ6_bitCount_0f7a4_49 (by decide) rfl ?_
  refine r_iand 52 dJ6_bitCount_0f7a4_51 rfl ?_
  exact r_iret .int dJ6_bitCount_0f7a4_52 rfl (rfl) (⟨by revert hg; revert g; decide +kernel, rfl⟩)
set_option maxRecDepth 20000 in
set_option maxHeartbeats 4000000 in
theorem c_isNothing {d Sx : Nat} {w : zW} (hSx : z_isH Sx) : CT mX3_isNothing d [.ref Sx] w (z_i fun x w' => z_b (w Sx 2 = -1) = x ∧ w = w') := by
  refine CT.of [some (.ref Sx)] rfl (Nat.le_of_ble_eq_true rfl) rfl ?_
  refine r_aload_n 1 dX3_isNothing_0 rfl rfl ?_
  refine r_geti 4 dX3_isNothing_1 fz_X3_15 (z_H0 hSx) rfl rfl ?_
  refine r_iconst 5 (v := -1) dX3_isNothing_4 (by decide) rfl ?_
  refine r_icmp_ne 12 8 dX3_isNothing_5 (by decide) rfl (fun g5 => ?_) (fun g5 => ?_)
  · refine r_iconst 13 (v := 0) dX3_isNothing_12 (by decide) rfl ?_
    exact r_iret .boolean dX3_isNothing_13 rfl (by first | exact rfl) (by first | exact ⟨z_bp g5, rfl⟩ | exact ⟨z_bn g5, rfl⟩)
  · refine r_iconst 9 (v := 1) dX3_isNothing_8 (by decide) rfl ?_
    refine r_goto 13 dX3_isNothing_9 (by decide) ?_
    exact r_iret .boolean dX3_isNothing_13 rfl (by first | exact rfl) (by first | exact ⟨z_bp g5, rfl⟩ | exact ⟨z_bn g5, rfl⟩)
/-- a sheet's lane and size -/
def shO (w : zW) (S : Nat) (o : Option (Nat × Nat)) : Prop := match o with
  | none => w S 2 = -1
  | some (l, z) => w S 1 = nI l ∧ w S 2 = nI z ∧ l < 3 ∧ z ≤ 40
theorem nI_n1 {z : Nat} (hz : z < 1000) : ¬ nI z = -1 := fun h => by
  have := ti_n (n := z) (by omega)
  rw [h] at this
  have e : (-1 : Int32).toInt = -1 := rfl
  rw [e] at this
  omega
def fA (o : Option (Nat × Nat)) (i : Int32) : Nat := match o with
  | none => 1
  | some (_, z) => if iB z i = true then 0 else 2
theorem RC.so {w : zW} {s : sT} (h : RC w s) (hS : sV s) {k : Nat} (hk : k < 4) : shO w (42 + 2 * k) (s_sh s k) := by
  have h1 := h.2.2.2.2.1 k hk
  have h2 := hS.2.2.2.2.1 k hk
  unfold shO
  cases e : s_sh s k with
  | none => rw [e] at h1; exact h1
  | some p => rw [e] at h1; exact ⟨h1.1, h1.2.1, h2 p.1 p.2 e⟩
theorem shO.n {w : zW} {S : Nat} {o : Option (Nat × Nat)} (h : shO w S o) : w S 2 = -1 ↔ o = none := by
  cases o with
  | none => exact ⟨fun _ => rfl, fun _ => h⟩
  | some p => exact ⟨fun z => by rw [h.2.1] at z; exact absurd z (nI_n1 (by have := h.2.2.2; omega)), fun z => nomatch z⟩
set_option maxRecDepth 20000 in
set_option maxHeartbeats 4000000 in
theorem c_faultAt {d Sx : Nat} {w : zW} {o : Option (Nat × Nat)} {i : Int32} (hd : 1 ≤ d) (hSx : z_isH Sx) (ho : shO w Sx o) : CT mX3_faultAt d [.ref Sx, .int i] w (z_i fun x w' => nI (fA o i) = x ∧ w = w') := by
  refine CT.of [some (.ref Sx), some (.int i)] rfl (Nat.le_of_ble_eq_true rfl) rfl ?_
  refine r_aload_n 1 dX3_faultAt_0 rfl rfl ?_
  refine r_callV (y2 := mX3_isNothing) (as := []) 4 dX3_faultAt_1 ml_X3_32 mv_X3_isNothing (c_isNothing (d := d - 1) hSx) (by omega) (z_H0 hSx) ⟨_, rfl, rfl⟩ rfl (Nat.le_of_ble_eq_true rfl) rfl (kk_i ?_)
  rintro _ _ ⟨rfl, rfl⟩
  refine rb_eq 9 7 dX3_faultAt_4 (by decide) rfl (fun g4 => ?_) (fun g4 => ?_)
  · have e : ¬ o = none := fun z => g4 (ho.n.mpr z)
    obtain ⟨⟨l, z⟩, rfl⟩ := Option.ne_none_iff_exists'.mp e
    obtain ⟨o1, o2, o3, o4⟩ := ho
    have ez : (nI z - 1).toInt = (z : Int) - 1 := pk_sub_toInt (b := 1) (by omega) (by decide)
    refine r_iload_n 10 dX3_faultAt_9 rfl rfl ?_
    refine r_iconst 11 (v := 0) dX3_faultAt_10 (by decide) rfl ?_
    refine r_aload_n 12 dX3_faultAt_11 rfl rfl ?_
    refine r_geti 15 dX3_faultAt_12 fz_X3_15 (z_H0 hSx) rfl rfl ?_
    refine r_eq o2 ?_
    refine r_iconst 16 (v := 1) dX3_faultAt_15 (by decide) rfl ?_
    refine r_isub 17 dX3_faultAt_16 rfl ?_
    refine r_callSN (y2 := mX6_within) (as := [_, _, _]) 20 dX3_faultAt_17 nx_X3_19 ms_X6_within (c_within (d := d - 1) _ _ _) (by omega) rfl (Nat.le_of_ble_eq_true rfl) rfl (kk_i ?_)
    rintro _ _ ⟨rfl, rfl⟩
    refine rb_eq 27 23 dX3_faultAt_20 (by decide) rfl (fun g20 => ?_) (fun g20 => ?_)
    · rw [ez] at g20
      have gi : ¬ iB z i = true := fun q => g20 (by have := iB_iff.mp q; show (0 : Int) ≤ _ ∧ _; omega)
      refine r_iconst 28 (v := 2) dX3_faultAt_27 (by decide) rfl ?_
      exact r_iret .int dX3_faultAt_28 rfl (rfl) (by first | exact ⟨by rw [fA, if_pos gi]; rfl, rfl⟩ | exact ⟨by rw [fA, if_neg gi]; rfl, rfl⟩)
    · rw [ez] at g20
      have gi : iB z i = true := iB_iff.mpr (by have : (0 : Int) ≤ _ ∧ _ := g20; omega)
      refine r_iconst 24 (v := 0) dX3_faultAt_23 (by decide) rfl ?_
      refine r_goto 28 dX3_faultAt_24 (by decide) ?_
      exact r_iret .int dX3_faultAt_28 rfl (rfl) (by first | exact ⟨by rw [fA, if_pos gi]; rfl, rfl⟩ | exact ⟨by rw [fA, if_neg gi]; rfl, rfl⟩)
  · have e := ho.n.mp g4
    subst e
    refine r_iconst 8 (v := 1) dX3_faultAt_7 (by decide) rfl ?_
    exact r_iret .int dX3_faultAt_8 rfl (rfl) (⟨rfl, rfl⟩)
set_option maxRecDepth 20000 in
set_option maxHeartbeats 4000000 in
theorem c_isLane {d : Nat} {w : zW} {v : Int32} (hd : 1 ≤ d) : CT mX3_isLane d [.int v] w (z_i fun x w' => z_b (wi v 0 2 = true) = x ∧ w = w') := by
  refine CT.of [some (.int v)] rfl (Nat.le_of_ble_eq_true rfl) rfl ?_
  refine r_iload_n 1 dX3_isLane_0 rfl rfl ?_
  refine r_iconst 2 (v := 0) dX3_isLane_1 (by decide) rfl ?_
  refine r_iconst 3 (v := 2) dX3_isLane_2 (by decide) rfl ?_
  refine r_callSN (y2 := mX6_within) (as := [_, _, _]) 6 dX3_isLane_3 nx_X3_19 ms_X6_within (c_within (d := d - 1) _ _ _) (by omega) rfl (Nat.le_of_ble_eq_true rfl) rfl (kk_i ?_)
  rintro _ _ ⟨rfl, rfl⟩
  exact r_iret .boolean dX3_isLane_6 rfl (z_bnar) (⟨z_bc wi_iff, rfl⟩)
set_option maxRecDepth 20000 in
set_option maxHeartbeats 4000000 in
theorem l_fill {d Sx : Nat} {w0 : zW} {v : Int32} {T : zX → Prop} (hSx : z_isH Sx) (hx : ∀ w, (∀ q, q < 40 → w (Sx + 1) q = v) → (∀ a, a ≠ Sx + 1 → w a = w0 a) → WP mJ7_fill_53178 d T 20 [some (.ref (Sx + 1)), some (.int v), some (.int (nI 40)), some (.int 40)] [] w) : ∀ k i (w : zW), i + k = 40 → (∀ q, q < i → w (Sx + 1) q = v) → (∀ a, a ≠ Sx + 1 → w a = w0 a) → WP mJ7_fill_53178 d T 5 [some (.ref (Sx + 1)), some (.int v), some (.int (nI i)), some (.int 40)] [] w := by
  intro k
  induction k with
  | zero =>
    intro i w hi h1 h2
    have e : i = 40 := by omega
    subst e
    refine r_iload_n 6 dJ7_fill_53178_5 rfl rfl ?_
    refine r_iload_n 7 dJ7_fill_53178_6 rfl rfl ?_
    refine r_icmp_ge 20 10 dJ7_fill_53178_7 (by decide) rfl (fun _ => ?_) (fun z => absurd (Int32.le_refl _) z)
    exact hx w h1 h2
  | succ k ih =>
    intro i w hi h1 h2
    refine r_iload_n 6 dJ7_fill_53178_5 rfl rfl ?_
    refine r_iload_n 7 dJ7_fill_53178_6 rfl rfl ?_
    refine r_icmp_ge 20 10 dJ7_fill_53178_7 (by decide) rfl (fun z => absurd z ((fun z => absurd ((nI_le' (a := 40) (by decide) (by omega)).mp z) (by omega)))) (fun _ => ?_)
    refine r_aload_n 11 dJ7_fill_53178_10 rfl rfl ?_
    refine r_iload_n 12 dJ7_fill_53178_11 rfl rfl ?_
    refine r_iload_n 13 dJ7_fill_53178_12 rfl rfl ?_
    refine rj_iast 14 (i) dJ7_fill_53178_13 (z_H1 hSx) (rfl) (by omega) (by decide) rfl ?_
    refine r_iinc 17 (L' := [_, _, _, _]) (v := nI (i + 1)) dJ7_fill_53178_14 rfl (nI_1 i) (by decide) rfl rfl rfl ?_
    refine r_goto 5 dJ7_fill_53178_17 (by decide) ?_
    exact ih (i + 1) _ (by omega) (fun q hq => by by_cases e : q = i; (rw [e, z_up_s]); (rw [z_up_i e]; exact h1 q (by omega))) (fun a ha => by rw [z_up_o ha]; exact h2 a ha)
set_option maxRecDepth 20000 in
set_option maxHeartbeats 4000000 in
theorem c_fill {d Sx : Nat} {w : zW} {v : Int32} (hSx : z_isH Sx) : CT mJ7_fill_53178 d [.ref (Sx + 1), .int v] w (z_v fun w' => (∀ q, q < 40 → w' (Sx + 1) q = v) ∧ ∀ a, a ≠ Sx + 1 → w' a = w a) := by
  refine CT.of [some (.ref (Sx + 1)), some (.int v), none, none] rfl (Nat.le_of_ble_eq_true rfl) rfl ?_
  refine r_iconst 1 (v := 0) dJ7_fill_53178_0 (by decide) rfl ?_
  refine r_istore_n 2 (L' := [_, _, _, _]) dJ7_fill_53178_1 (by decide) rfl rfl rfl ?_
  refine r_aload_n 3 dJ7_fill_53178_2 rfl rfl ?_
  refine r_alen 4 (v := 40) dJ7_fill_53178_3 (z_H1 hSx) (by decide) rfl ?_
  refine r_istore_n 5 (L' := [_, _, _, _]) dJ7_fill_53178_4 (by decide) rfl rfl rfl ?_
  refine l_fill hSx (fun w1 h1 h2 => ?_) 40 0 w (by decide) (fun q hq => absurd hq (Nat.not_lt_zero q)) (fun _ _ => rfl)
  exact r_vret dJ7_fill_53178_20 rfl ⟨h1, h2⟩
set_option maxRecDepth 20000 in
set_option maxHeartbeats 4000000 in
theorem c_renew {d Sx : Nat} {w : zW} {l z : Int32} (hd : 1 ≤ d) (hSx : z_isH Sx) : CT mX3_renew d [.ref Sx, .int l, .int z] w (z_v fun w' => w' Sx 1 = l ∧ w' Sx 2 = z ∧ (∀ q, q < 40 → w' (Sx + 1) q = 0) ∧ ∀ a, a ≠ Sx → a ≠ Sx + 1 → w' a = w a) := by
  refine CT.of [some (.ref Sx), some (.int l), some (.int z)] rfl (Nat.le_of_ble_eq_true rfl) rfl ?_
  refine r_aload_n 1 dX3_renew_0 rfl rfl ?_
  refine r_iload_n 2 dX3_renew_1 rfl rfl ?_
  refine r_puti 5 dX3_renew_2 fz_X3_23 fw_3_1 (z_H0 hSx) rfl rfl ?_
  refine r_aload_n 6 dX3_renew_5 rfl rfl ?_
  refine r_iload_n 7 dX3_renew_6 rfl rfl ?_
  refine r_puti 10 dX3_renew_7 fz_X3_15 fw_3_2 (z_H0 hSx) rfl rfl ?_
  refine r_aload_n 11 dX3_renew_10 rfl rfl ?_
  refine r_getr 14 dX3_renew_11 fz_X3_11 (z_H0 hSx) rfl rfl ?_
  refine r_iconst 15 (v := 0) dX3_renew_14 (by decide) rfl ?_
  refine r_callS (y2 := mJ7_fill_53178) (as := [_, _]) 18 dX3_renew_15 ml_X3_26 ms_J7_fill_53178 (c_fill (d := d - 1) hSx) (by omega) rfl (Nat.le_of_ble_eq_true rfl) rfl (kk_v ?_)
  rintro w1 ⟨h1, h2⟩
  exact r_vret dX3_renew_18 rfl (⟨by rw [h2 Sx (by omega), z_up_i (by decide), z_up_s], by rw [h2 Sx (by omega), z_up_s], h1, fun a h3 h4 => by rw [h2 a h4, z_up_o h3, z_up_o h3]⟩)
def nar (l : Nat) (v : Int32) : Int32 := if l = 0 then v.toInt8.toInt32 else if l = 1 then v.toInt16.toInt32 else v
set_option maxRecDepth 20000 in
set_option maxHeartbeats 4000000 in
theorem c_put {d Sx l i : Nat} {w : zW} {v : Int32} (hSx : z_isH Sx) (hl : l < 3) (h1 : w Sx 1 = nI l) (hi : i < 40) : CT mX3_put d [.ref Sx, .int (nI i), .int v] w (z_v fun w' => z_up w (Sx + 1) i (nar l v) = w') := by
  refine CT.of [some (.ref Sx), some (.int (nI i)), some (.int v)] rfl (Nat.le_of_ble_eq_true rfl) rfl ?_
  refine r_aload_n 1 dX3_put_0 rfl rfl ?_
  refine r_getr 4 dX3_put_1 fz_X3_11 (z_H0 hSx) rfl rfl ?_
  refine r_iload_n 5 dX3_put_4 rfl rfl ?_
  refine r_aload_n 6 dX3_put_5 rfl rfl ?_
  refine r_geti 9 dX3_put_6 fz_X3_23 (z_H0 hSx) rfl rfl ?_
  refine r_eq h1 ?_
  refine r_if_ne 17 12 dX3_put_9 (by decide) rfl (fun g9 => ?_) (fun g9 => ?_)
  · have g9 : ¬ l = 0 := fun z => g9 (by rw [z]; rfl)
    refine r_aload_n 18 dX3_put_17 rfl rfl ?_
    refine r_geti 21 dX3_put_18 fz_X3_23 (z_H0 hSx) rfl rfl ?_
    refine r_eq h1 ?_
    refine r_iconst 22 (v := 1) dX3_put_21 (by decide) rfl ?_
    refine r_icmp_ne 30 25 dX3_put_22 (by decide) rfl (fun g22 => ?_) (fun g22 => ?_)
    · have g22 : ¬ l = 1 := fun z => g22 (by rw [z]; rfl)
      refine r_iload_n 31 dX3_put_30 rfl rfl ?_
      refine rj_iast 32 (i) dX3_put_31 (z_H1 hSx) (rfl) (hi) (by decide) rfl ?_
      exact r_vret dX3_put_32 rfl (by first | (rw [nar, if_pos g9]; done) | (rw [nar, if_neg g9, if_pos g22]; done) | (rw [nar, if_neg g9, if_neg g22]; done))
    · have g22 : l = 1 := (nI_inj (b := 1) (by omega) (by decide)).mp g22
      refine r_iload_n 26 dX3_put_25 rfl rfl ?_
      refine r_i2s 27 dX3_put_26 rfl ?_
      refine r_goto 31 dX3_put_27 (by decide) ?_
      refine rj_iast 32 (i) dX3_put_31 (z_H1 hSx) (rfl) (hi) (by decide) rfl ?_
      exact r_vret dX3_put_32 rfl (by first | (rw [nar, if_pos g9]; done) | (rw [nar, if_neg g9, if_pos g22]; done) | (rw [nar, if_neg g9, if_neg g22]; done))
  · have g9 : l = 0 := (nI_inj (b := 0) (by omega) (by decide)).mp g9
    refine r_iload_n 13 dX3_put_12 rfl rfl ?_
    refine r_i2b 14 dX3_put_13 rfl ?_
    refine r_goto 31 dX3_put_14 (by decide) ?_
    refine rj_iast 32 (i) dX3_put_31 (z_H1 hSx) (rfl) (hi) (by decide) rfl ?_
    exact r_vret dX3_put_32 rfl (by first | (rw [nar, if_pos g9]; done) | (rw [nar, if_neg g9, if_pos g22]; done) | (rw [nar, if_neg g9, if_neg g22]; done))
set_option maxRecDepth 20000 in
set_option maxHeartbeats 4000000 in
theorem c_cell {d Sx i : Nat} {w : zW} (hSx : z_isH Sx) (hi : i < 40) : CT mX3_cell d [.ref Sx, .int (nI i)] w (z_i fun x w' => w (Sx + 1) i = x ∧ w = w') := by
  refine CT.of [some (.ref Sx), some (.int (nI i))] rfl (Nat.le_of_ble_eq_true rfl) rfl ?_
  refine r_aload_n 1 dX3_cell_0 rfl rfl ?_
  refine r_getr 4 dX3_cell_1 fz_X3_11 (z_H0 hSx) rfl rfl ?_
  refine r_iload_n 5 dX3_cell_4 rfl rfl ?_
  refine rj_iald 6 (i) dX3_cell_5 (z_H1 hSx) (rfl) (hi) (by decide) rfl ?_
  exact r_iret .int dX3_cell_6 rfl (rfl) (⟨rfl, rfl⟩)

/-! ===== the class: its small calls ===== -/
set_option maxRecDepth 20000 in
set_option maxHeartbeats 4000000 in
theorem c_isBoat {d n : Nat} {w : zW} {b : Int32} (hd : 1 ≤ d) (hn : n ≤ 6) (h2 : w 1 2 = nI n) : CT mX6_isBoat d [.ref 0, .int b] w (z_i fun x w' => z_b (iB n b = true) = x ∧ w = w') := by
  refine CT.of [some (.ref 0), some (.int b)] rfl (Nat.le_of_ble_eq_true rfl) rfl ?_
  refine r_iload_n 1 dX6_isBoat_0 rfl rfl ?_
  refine r_iconst 2 (v := 0) dX6_isBoat_1 (by decide) rfl ?_
  refine r_aload_n 3 dX6_isBoat_2 rfl rfl ?_
  refine r_getr 6 dX6_isBoat_3 fz_X6_10 sh_0 rfl rfl ?_
  refine r_geti 9 dX6_isBoat_6 fz_X6_96 sh_1 rfl rfl ?_
  refine r_eq h2 ?_
  refine r_iconst 10 (v := 1) dX6_isBoat_9 (by decide) rfl ?_
  refine r_isub 11 dX6_isBoat_10 rfl ?_
  refine r_callS (y2 := mX6_within) (as := [_, _, _]) 14 dX6_isBoat_11 ml_X6_67 ms_X6_within (c_within (d := d - 1) _ _ _) (by omega) rfl (Nat.le_of_ble_eq_true rfl) rfl (kk_i ?_)
  rintro _ _ ⟨rfl, rfl⟩
  exact r_iret .boolean dX6_isBoat_14 rfl (z_bnar) (⟨z_bc (by rw [iB_iff, show (nI n - 1).toInt = (n : Int) - 1 from pk_sub_toInt (b := 1) (by omega) (by decide)]; show _ ↔ (0 : Int) ≤ _ ∧ _; omega), rfl⟩)
set_option maxRecDepth 20000 in
set_option maxHeartbeats 4000000 in
theorem c_isPair {d n : Nat} {w : zW} {b c : Int32} (hd : 2 ≤ d) (hn : n ≤ 6) (h2 : w 1 2 = nI n) : CT mX6_isPair d [.ref 0, .int b, .int c] w (z_i fun x w' => z_b (iB n b = true ∧ iB n c = true ∧ ¬ b = c) = x ∧ w = w') := by
  refine CT.of [some (.ref 0), some (.int b), some (.int c)] rfl (Nat.le_of_ble_eq_true rfl) rfl ?_
  refine r_aload_n 1 dX6_isPair_0 rfl rfl ?_
  refine r_iload_n 2 dX6_isPair_1 rfl rfl ?_
  refine r_callV (y2 := mX6_isBoat) (as := [_]) 5 dX6_isPair_2 ml_X6_105 mv_X6_isBoat (c_isBoat (d := d - 1) (by omega) hn h2) (by omega) sh_0 ⟨_, rfl, rfl⟩ rfl (Nat.le_of_ble_eq_true rfl) rfl (kk_i ?_)
  rintro _ _ ⟨rfl, rfl⟩
  refine rb_eq 25 8 dX6_isPair_5 (by decide) rfl (fun g5 => ?_) (fun g5 => ?_)
  · refine r_iconst 26 (v := 0) dX6_isPair_25 (by decide) rfl ?_
    exact r_iret .boolean dX6_isPair_26 rfl (rfl) (⟨by first | exact z_bp ⟨g5, g13, g18⟩ | exact z_bn (fun z => by first | exact g5 z.1 | exact g13 z.2.1 | exact z.2.2 g18), rfl⟩)
  · refine r_aload_n 9 dX6_isPair_8 rfl rfl ?_
    refine r_iload_n 10 dX6_isPair_9 rfl rfl ?_
    refine r_callV (y2 := mX6_isBoat) (as := [_]) 13 dX6_isPair_10 ml_X6_105 mv_X6_isBoat (c_isBoat (d := d - 1) (by omega) hn h2) (by omega) sh_0 ⟨_, rfl, rfl⟩ rfl (Nat.le_of_ble_eq_true rfl) rfl (kk_i ?_)
    rintro _ _ ⟨rfl, rfl⟩
    refine rb_eq 25 16 dX6_isPair_13 (by decide) rfl (fun g13 => ?_) (fun g13 => ?_)
    · refine r_iconst 26 (v := 0) dX6_isPair_25 (by decide) rfl ?_
      exact r_iret .boolean dX6_isPair_26 rfl (rfl) (⟨by first | exact z_bp ⟨g5, g13, g18⟩ | exact z_bn (fun z => by first | exact g5 z.1 | exact g13 z.2.1 | exact z.2.2 g18), rfl⟩)
    · refine r_iload_n 17 dX6_isPair_16 rfl rfl ?_
      refine r_iload_n 18 dX6_isPair_17 rfl rfl ?_
      refine r_icmp_eq 25 21 dX6_isPair_18 (by decide) rfl (fun g18 => ?_) (fun g18 => ?_)
      · refine r_iconst 26 (v := 0) dX6_isPair_25 (by decide) rfl ?_
        exact r_iret .boolean dX6_isPair_26 rfl (rfl) (⟨by first | exact z_bp ⟨g5, g13, g18⟩ | exact z_bn (fun z => by first | exact g5 z.1 | exact g13 z.2.1 | exact z.2.2 g18), rfl⟩)
      · refine r_iconst 22 (v := 1) dX6_isPair_21 (by decide) rfl ?_
        refine r_goto 26 dX6_isPair_22 (by decide) ?_
        exact r_iret .boolean dX6_isPair_26 rfl (rfl) (⟨by first | exact z_bp ⟨g5, g13, g18⟩ | exact z_bn (fun z => by first | exact g5 z.1 | exact g13 z.2.1 | exact z.2.2 g18), rfl⟩)
set_option maxRecDepth 20000 in
set_option maxHeartbeats 4000000 in
theorem c_liarSets {d n : Nat} {w : zW} (hn : n ≤ 6) (h2 : w 1 2 = nI n) : CT mX6_liarSets d [.ref 0] w (z_i fun x w' => nI (2 ^ n) = x ∧ w = w') := by
  refine CT.of [some (.ref 0)] rfl (Nat.le_of_ble_eq_true rfl) rfl ?_
  refine r_iconst 1 (v := 1) dX6_liarSets_0 (by decide) rfl ?_
  refine r_aload_n 2 dX6_liarSets_1 rfl rfl ?_
  refine r_getr 5 dX6_liarSets_2 fz_X6_10 sh_0 rfl rfl ?_
  refine r_geti 8 dX6_liarSets_5 fz_X6_96 sh_1 rfl rfl ?_
  refine r_eq h2 ?_
  refine r_ishl 9 dX6_liarSets_8 rfl ?_
  refine r_eq (b_sl n (by omega)) ?_
  exact r_iret .int dX6_liarSets_9 rfl (rfl) (⟨rfl, rfl⟩)
set_option maxRecDepth 20000 in
set_option maxHeartbeats 4000000 in
theorem c_isLaw {d : Nat} {w : zW} {v : Int32} (hd : 1 ≤ d) : CT mX6_isLaw d [.int v] w (z_i fun x w' => z_b (wi v 0 4 = true) = x ∧ w = w') := by
  refine CT.of [some (.int v)] rfl (Nat.le_of_ble_eq_true rfl) rfl ?_
  refine r_iload_n 1 dX6_isLaw_0 rfl rfl ?_
  refine r_iconst 2 (v := 0) dX6_isLaw_1 (by decide) rfl ?_
  refine r_iconst 3 (v := 4) dX6_isLaw_2 (by decide) rfl ?_
  refine r_callS (y2 := mX6_within) (as := [_, _, _]) 6 dX6_isLaw_3 ml_X6_67 ms_X6_within (c_within (d := d - 1) _ _ _) (by omega) rfl (Nat.le_of_ble_eq_true rfl) rfl (kk_i ?_)
  rintro _ _ ⟨rfl, rfl⟩
  exact r_iret .boolean dX6_isLaw_6 rfl (z_bnar) (⟨z_bc (by rw [wi_iff]; exact Iff.rfl), rfl⟩)
set_option maxRecDepth 20000 in
set_option maxHeartbeats 4000000 in
theorem c_isMeasure {d : Nat} {w : zW} {v : Int32} (hd : 1 ≤ d) : CT mX6_isMeasure d [.int v] w (z_i fun x w' => z_b (wi v 0 4 = true) = x ∧ w = w') := by
  refine CT.of [some (.int v)] rfl (Nat.le_of_ble_eq_true rfl) rfl ?_
  refine r_iload_n 1 dX6_isMeasure_0 rfl rfl ?_
  refine r_iconst 2 (v := 0) dX6_isMeasure_1 (by decide) rfl ?_
  refine r_iconst 3 (v := 4) dX6_isMeasure_2 (by decide) rfl ?_
  refine r_callS (y2 := mX6_within) (as := [_, _, _]) 6 dX6_isMeasure_3 ml_X6_67 ms_X6_within (c_within (d := d - 1) _ _ _) (by omega) rfl (Nat.le_of_ble_eq_true rfl) rfl (kk_i ?_)
  rintro _ _ ⟨rfl, rfl⟩
  exact r_iret .boolean dX6_isMeasure_6 rfl (z_bnar) (⟨z_bc (by rw [wi_iff]; exact Iff.rfl), rfl⟩)
set_option maxRecDepth 20000 in
set_option maxHeartbeats 4000000 in
theorem c_isSheet {d : Nat} {w : zW} {v : Int32} (hd : 1 ≤ d) : CT mX6_isSheet d [.int v] w (z_i fun x w' => z_b (wi v 0 3 = true) = x ∧ w = w') := by
  refine CT.of [some (.int v)] rfl (Nat.le_of_ble_eq_true rfl) rfl ?_
  refine r_iload_n 1 dX6_isSheet_0 rfl rfl ?_
  refine r_iconst 2 (v := 0) dX6_isSheet_1 (by decide) rfl ?_
  refine r_iconst 3 (v := 3) dX6_isSheet_2 (by decide) rfl ?_
  refine r_callS (y2 := mX6_within) (as := [_, _, _]) 6 dX6_isSheet_3 ml_X6_67 ms_X6_within (c_within (d := d - 1) _ _ _) (by omega) rfl (Nat.le_of_ble_eq_true rfl) rfl (kk_i ?_)
  rintro _ _ ⟨rfl, rfl⟩
  exact r_iret .boolean dX6_isSheet_6 rfl (z_bnar) (⟨z_bc (by rw [wi_iff]; exact Iff.rfl), rfl⟩)
set_option maxRecDepth 20000 in
set_option maxHeartbeats 4000000 in
theorem c_hearsLies {d l : Nat} {w : zW} (hl : l < 5) : CT mX6_hearsLies d [.int (nI l)] w (z_i fun x w' => z_b (l = 3) = x ∧ w = w') := by
  refine CT.of [some (.int (nI l))] rfl (Nat.le_of_ble_eq_true rfl) rfl ?_
  refine r_iload_n 1 dX6_hearsLies_0 rfl rfl ?_
  refine r_iconst 2 (v := 3) dX6_hearsLies_1 (by decide) rfl ?_
  refine r_icmp_ne 9 5 dX6_hearsLies_2 (by decide) rfl (fun g2 => ?_) (fun g2 => ?_)
  · have g2 : ¬ l = 3 := fun z => g2 (by rw [z]; rfl)
    refine r_iconst 10 (v := 0) dX6_hearsLies_9 (by decide) rfl ?_
    exact r_iret .boolean dX6_hearsLies_10 rfl (rfl) (⟨by first | exact z_bp g2 | exact z_bn g2, rfl⟩)
  · have g2 : l = 3 := (nI_inj (b := 3) (by omega) (by decide)).mp g2
    refine r_iconst 6 (v := 1) dX6_hearsLies_5 (by decide) rfl ?_
    refine r_goto 10 dX6_hearsLies_6 (by decide) ?_
    exact r_iret .boolean dX6_hearsLies_10 rfl (rfl) (⟨by first | exact z_bp g2 | exact z_bn g2, rfl⟩)
set_option maxRecDepth 20000 in
set_option maxHeartbeats 4000000 in
theorem c_runAsTold {d B n A Lm : Nat} {w : zW} {K : Nat → Nat} (hd : 5 ≤ d) (hB : z_isL B) (hA : A ≤ 200) (hV : kV A n K) (hL : lkD w B n K) (h3 : w (B + 1) 3 = nI (K 3)) (hl : w B 3 = nI Lm) (hLm : Lm < 64) (hLb : ∀ b, b < n → bi Lm b = K (6 + 6 * b + 5)) : CT mX6_runAsTold d [.ref 0, .ref B] w (z_v fun w' => dyC w' n K n (dD n K) ∧ ∀ a, (a < 30 ∨ 35 < a) → w' a = w a) := by
  refine CT.of [some (.ref 0), some (.ref B)] rfl (Nat.le_of_ble_eq_true rfl) rfl ?_
  refine r_aload_n 1 dX6_runAsTold_0 rfl rfl ?_
  refine r_getr 4 dX6_runAsTold_1 fz_X6_42 sh_0 rfl rfl ?_
  refine r_aload_n 5 dX6_runAsTold_4 rfl rfl ?_
  refine r_aload_n 6 dX6_runAsTold_5 rfl rfl ?_
  refine r_getr 9 dX6_runAsTold_6 fz_X6_102 (z_L0 hB) rfl rfl ?_
  refine r_iconst 10 (v := 3) dX6_runAsTold_9 (by decide) rfl ?_
  refine rj_iald 11 (3) dX6_runAsTold_10 (z_L1 hB) (rfl) (by decide) (by decide) rfl ?_
  refine r_eq h3 ?_
  refine r_aload_n 12 dX6_runAsTold_11 rfl rfl ?_
  refine r_geti 15 dX6_runAsTold_12 fz_X6_99 (z_L0 hB) rfl rfl ?_
  refine r_eq hl ?_
  refine r_iconst 16 (v := 0) dX6_runAsTold_15 (by decide) rfl ?_
  refine r_callV (y2 := mX0_by) (as := [_, _, _, _]) 19 dX6_runAsTold_16 ml_X6_153 mv_X0_by (c_by (d := d - 1) (cg := 0) (by omega) hB hA hV hLm hLb (by decide) hL) (by omega) sh_30 ⟨_, rfl, rfl⟩ rfl (Nat.le_of_ble_eq_true rfl) rfl (kk_v ?_)
  rintro w1 h1
  exact r_vret dX6_runAsTold_19 rfl (h1)
/-- the day of the lock as it is -/
theorem c_told {d : Nat} {w : zW} {s : sT} (hd : 5 ≤ d) (hR : RC w s) (hS : sV s) : CT mX6_runAsTold d [.ref 0, .ref 1] w (z_v fun w' => dyC w' (s_n s) (s_K s) (s_n s) (dD (s_n s) (s_K s)) ∧ ∀ a, (a < 30 ∨ 35 < a) → w' a = w a) :=
  c_runAsTold (A := 99) (Lm := lm (s_n s) (s_K s)) hd (Or.inl rfl) (by decide) hS.1.1 hR.1.D (hR.1.1 3 (by decide)) hR.1.2.2.2.1 (mk_64 hS.1.n) (lm_b hS.1.n (fun b hb => hS.1.lie hb))
theorem d30 {w w' : zW} (h : ∀ a, (a < 30 ∨ 35 < a) → w' a = w a) : frC w w' := fun a ha => h a (by omega)
set_option maxRecDepth 20000 in
set_option maxHeartbeats 4000000 in
theorem C_passes {d : Nat} {w : zW} {s : sT} {i : Int32} (hd : 6 ≤ d) (hR : RC w s) (hS : sV s) : AC mX6_passes d [.int i] w (f_passes s i) := by
  have hn := hS.1.n
  refine CT.of [some (.ref 0), some (.int i)] rfl (Nat.le_of_ble_eq_true rfl) rfl ?_
  refine r_aload_n 1 dX6_passes_0 rfl rfl ?_
  refine r_iload_n 2 dX6_passes_1 rfl rfl ?_
  refine r_callV (y2 := mX6_isBoat) (as := [_]) 5 dX6_passes_2 ml_X6_105 mv_X6_isBoat (c_isBoat (d := d - 1) (by omega) hn hR.1.2.2.1) (by omega) sh_0 ⟨_, rfl, rfl⟩ rfl (Nat.le_of_ble_eq_true rfl) rfl (kk_i ?_)
  rintro _ _ ⟨rfl, rfl⟩
  refine rb_ne 10 8 dX6_passes_5 (by decide) rfl (fun g5 => ?_) (fun g5 => ?_)
  · obtain ⟨j, hj, rfl⟩ := iB_of g5
    have hjs : tN (nI j) = j := tN_n (by omega)
    refine r_aload_n 11 dX6_passes_10 rfl rfl ?_
    refine r_aload_n 12 dX6_passes_11 rfl rfl ?_
    refine r_getr 15 dX6_passes_12 fz_X6_10 sh_0 rfl rfl ?_
    refine r_callV (y2 := mX6_runAsTold) (as := [_]) 18 dX6_passes_15 ml_X6_132 mv_X6_runAsTold (c_told (d := d - 1) (by omega) hR hS) (by omega) sh_0 ⟨_, rfl, rfl⟩ rfl (Nat.le_of_ble_eq_true rfl) rfl (kk_v ?_)
    rintro w1 ⟨hC, hF⟩
    have hI := dI_run (cg := 0) hS.1.1 (by decide) (s_n s) (Nat.le_refl _)
    refine r_aload_n 19 dX6_passes_18 rfl rfl ?_
    refine r_getr 22 dX6_passes_19 fz_X6_42 sh_0 rfl rfl ?_
    refine r_getr 25 dX6_passes_22 fz_X6_135 sh_30 rfl rfl ?_
    refine r_iload_n 26 dX6_passes_25 rfl rfl ?_
    refine rj_iald 27 (j) dX6_passes_26 sh_31 (rfl) (by omega) (by decide) rfl ?_
    refine r_eq (z := nI (d_p (dD (s_n s) (s_K s)) j)) (hC.2.2.2.2.2.2.2.2.1 j hj) ?_
    exact r_iret .int dX6_passes_27 rfl (rfl) (⟨by rw [f_passes, if_pos g5, hjs], hR.fr (d30 hF), (d30 hF).hi⟩)
  · refine r_iconst 9 (v := -1) dX6_passes_8 (by decide) rfl ?_
    exact r_iret .int dX6_passes_9 rfl (rfl) (⟨if_neg g5, hR, fun _ _ => rfl⟩)
set_option maxRecDepth 20000 in
set_option maxHeartbeats 4000000 in
theorem C_through {d : Nat} {w : zW} {s : sT} {i : Int32} (hd : 6 ≤ d) (hR : RC w s) (hS : sV s) : AC mX6_through d [.int i] w (f_through s i) := by
  have hn := hS.1.n
  refine CT.of [some (.ref 0), some (.int i)] rfl (Nat.le_of_ble_eq_true rfl) rfl ?_
  refine r_aload_n 1 dX6_through_0 rfl rfl ?_
  refine r_iload_n 2 dX6_through_1 rfl rfl ?_
  refine r_callV (y2 := mX6_isBoat) (as := [_]) 5 dX6_through_2 ml_X6_105 mv_X6_isBoat (c_isBoat (d := d - 1) (by omega) hn hR.1.2.2.1) (by omega) sh_0 ⟨_, rfl, rfl⟩ rfl (Nat.le_of_ble_eq_true rfl) rfl (kk_i ?_)
  rintro _ _ ⟨rfl, rfl⟩
  refine rb_ne 10 8 dX6_through_5 (by decide) rfl (fun g5 => ?_) (fun g5 => ?_)
  · obtain ⟨j, hj, rfl⟩ := iB_of g5
    have hjs : tN (nI j) = j := tN_n (by omega)
    refine r_aload_n 11 dX6_through_10 rfl rfl ?_
    refine r_aload_n 12 dX6_through_11 rfl rfl ?_
    refine r_getr 15 dX6_through_12 fz_X6_10 sh_0 rfl rfl ?_
    refine r_callV (y2 := mX6_runAsTold) (as := [_]) 18 dX6_through_15 ml_X6_132 mv_X6_runAsTold (c_told (d := d - 1) (by omega) hR hS) (by omega) sh_0 ⟨_, rfl, rfl⟩ rfl (Nat.le_of_ble_eq_true rfl) rfl (kk_v ?_)
    rintro w1 ⟨hC, hF⟩
    have hI := dI_run (cg := 0) hS.1.1 (by decide) (s_n s) (Nat.le_refl _)
    refine r_aload_n 19 dX6_through_18 rfl rfl ?_
    refine r_getr 22 dX6_through_19 fz_X6_42 sh_0 rfl rfl ?_
    refine r_getr 25 dX6_through_22 fz_X6_138 sh_30 rfl rfl ?_
    refine r_iload_n 26 dX6_through_25 rfl rfl ?_
    refine rj_iald 27 (j) dX6_through_26 sh_32 (rfl) (by omega) (by decide) rfl ?_
    refine r_eq (z := nI (d_d (dD (s_n s) (s_K s)) j)) ((hC.2.2.2.2.2.2.2.2.2 j hj (dI_all hI j hj)).1) ?_
    exact r_iret .int dX6_through_27 rfl (rfl) (⟨by rw [f_through, if_pos g5, hjs], hR.fr (d30 hF), (d30 hF).hi⟩)
  · refine r_iconst 9 (v := -1) dX6_through_8 (by decide) rfl ?_
    exact r_iret .int dX6_through_9 rfl (rfl) (⟨if_neg g5, hR, fun _ _ => rfl⟩)
set_option maxRecDepth 20000 in
set_option maxHeartbeats 4000000 in
theorem C_stood {d : Nat} {w : zW} {s : sT} {i : Int32} (hd : 6 ≤ d) (hR : RC w s) (hS : sV s) : AC mX6_stood d [.int i] w (f_stood s i) := by
  have hn := hS.1.n
  refine CT.of [some (.ref 0), some (.int i)] rfl (Nat.le_of_ble_eq_true rfl) rfl ?_
  refine r_aload_n 1 dX6_stood_0 rfl rfl ?_
  refine r_iload_n 2 dX6_stood_1 rfl rfl ?_
  refine r_callV (y2 := mX6_isBoat) (as := [_]) 5 dX6_stood_2 ml_X6_105 mv_X6_isBoat (c_isBoat (d := d - 1) (by omega) hn hR.1.2.2.1) (by omega) sh_0 ⟨_, rfl, rfl⟩ rfl (Nat.le_of_ble_eq_true rfl) rfl (kk_i ?_)
  rintro _ _ ⟨rfl, rfl⟩
  refine rb_ne 10 8 dX6_stood_5 (by decide) rfl (fun g5 => ?_) (fun g5 => ?_)
  · obtain ⟨j, hj, rfl⟩ := iB_of g5
    have hjs : tN (nI j) = j := tN_n (by omega)
    refine r_aload_n 11 dX6_stood_10 rfl rfl ?_
    refine r_aload_n 12 dX6_stood_11 rfl rfl ?_
    refine r_getr 15 dX6_stood_12 fz_X6_10 sh_0 rfl rfl ?_
    refine r_callV (y2 := mX6_runAsTold) (as := [_]) 18 dX6_stood_15 ml_X6_132 mv_X6_runAsTold (c_told (d := d - 1) (by omega) hR hS) (by omega) sh_0 ⟨_, rfl, rfl⟩ rfl (Nat.le_of_ble_eq_true rfl) rfl (kk_v ?_)
    rintro w1 ⟨hC, hF⟩
    have hI := dI_run (cg := 0) hS.1.1 (by decide) (s_n s) (Nat.le_refl _)
    refine r_aload_n 19 dX6_stood_18 rfl rfl ?_
    refine r_getr 22 dX6_stood_19 fz_X6_42 sh_0 rfl rfl ?_
    refine r_getr 25 dX6_stood_22 fz_X6_141 sh_30 rfl rfl ?_
    refine r_iload_n 26 dX6_stood_25 rfl rfl ?_
    refine rj_iald 27 (j) dX6_stood_26 sh_33 (rfl) (by omega) (by decide) rfl ?_
    refine r_eq (z := nI (d_s (dD (s_n s) (s_K s)) j)) ((hC.2.2.2.2.2.2.2.2.2 j hj (dI_all hI j hj)).2) ?_
    exact r_iret .int dX6_stood_27 rfl (rfl) (⟨by rw [f_stood, if_pos g5, hjs], hR.fr (d30 hF), (d30 hF).hi⟩)
  · refine r_iconst 9 (v := -1) dX6_stood_8 (by decide) rfl ?_
    exact r_iret .int dX6_stood_9 rfl (rfl) (⟨if_neg g5, hR, fun _ _ => rfl⟩)

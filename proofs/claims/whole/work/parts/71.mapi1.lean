/-! ===== the reference: plain calls ===== -/
theorem RM.tp {w w' : zW} {s : sT} {T : Nat} {t : Nat → Nat} (h : RM w s) (h0 : ∀ q, q ≠ 10 → w' 50 q = w 50 q) (h1 : w' 50 10 = nI T) (h2 : ∀ i, i < T → w' 55 i = nI (t i)) (h3 : ∀ a, a ≠ 50 → a ≠ 55 → w' a = w a) : RM w' (u_tp s T t) := by
  obtain ⟨r1, r2, r3, r4, r5, r6⟩ := h
  refine ⟨⟨fun k hk => by rw [h3 51 (by decide) (by decide)]; exact r1.1 k hk, by rw [h0 3 (by decide)]; exact r1.2⟩, fun k hk => by rw [h3 53 (by decide) (by decide), h3 51 (by decide) (by decide)]; exact r2 k hk, ⟨h1, h2⟩, by rw [h0 15 (by decide)]; exact r4, fun k hk => ?_, by rw [h0 30 (by decide)]; exact r6⟩
  have := r5 k hk
  rw [h3 60 (by decide) (by decide), h3 61 (by decide) (by decide), h3 62 (by decide) (by decide)]
  exact this
set_option maxRecDepth 20000 in
set_option maxHeartbeats 4000000 in
theorem M_feed {d : Nat} {w : zW} {s : sT} {c : Int32} (hd : 8 ≤ d) (hR : RM w s) (hS : sV s) : AM mX7_feed d [.int c] w (f_feed s c) := by
  have hn := hS.1.n
  have hT0 := hS.2.2.1.1
  refine CT.of [some (.ref 50), some (.int c)] rfl (Nat.le_of_ble_eq_true rfl) rfl ?_
  refine r_iload_n 1 dX7_feed_0 rfl rfl ?_
  refine r_i2l 2 dX7_feed_1 rfl ?_
  refine r_lconst 3 (v := 0) dX7_feed_2 (by decide) rfl ?_
  refine r_ldc2 6 dX7_feed_3 kl_X7_72 rfl ?_
  refine r_callS (y2 := mX7_in) (as := [_, _, _]) 9 dX7_feed_6 ml_X7_74 ms_X7_in (m_in (d := d - 1) _ _ _) (by omega) rfl (Nat.le_of_ble_eq_true rfl) rfl (kk_i ?_)
  rintro _ _ ⟨rfl, rfl⟩
  refine r_eq (z_bc (in_wi (lo := 0) (hi := 127) rfl rfl)) ?_
  refine rb_ne 14 12 dX7_feed_9 (by decide) rfl (fun g9 => ?_) (fun g9 => ?_)
  · obtain ⟨j, hj, rfl⟩ := wi_of (hi := 127) g9
    have hjs : tN (nI j) = j := tN_n (by omega)
    refine r_aload_n 15 dX7_feed_14 rfl rfl ?_
    refine r_geti 18 dX7_feed_15 fz_X7_78 sh_50 rfl rfl ?_
    refine r_eq hR.2.2.1.1 ?_
    refine r_sipush 21 (v := 160) dX7_feed_18 (by decide) rfl ?_
    refine r_icmp_ne 27 24 dX7_feed_21 (by decide) rfl (fun g21 => ?_) (fun g21 => ?_)
    · have g21 : ¬ s_T s = 160 := fun z => g21 (by rw [z]; rfl)
      refine r_aload_n 28 dX7_feed_27 rfl rfl ?_
      refine r_getr 31 dX7_feed_28 fz_X7_23 sh_50 rfl rfl ?_
      refine r_aload_n 32 dX7_feed_31 rfl rfl ?_
      refine r_geti 35 dX7_feed_32 fz_X7_78 sh_50 rfl rfl ?_
      refine r_eq hR.2.2.1.1 ?_
      refine r_iload_n 36 dX7_feed_35 rfl rfl ?_
      refine rj_iast 37 (s_T s) dX7_feed_36 sh_55 (rfl) (by omega) (by decide) rfl ?_
      refine r_nw (fun w1 e1 => ?_)
      refine r_aload_n 38 dX7_feed_37 rfl rfl ?_
      refine r_dup 39 dX7_feed_38 rfl rfl ?_
      refine r_geti 42 dX7_feed_39 fz_X7_78 sh_50 rfl rfl ?_
      refine r_eq (z := nI (s_T s)) (by rw [e1, z_up_a (by decide)]; exact hR.2.2.1.1) ?_
      refine r_iconst 43 (v := 1) dX7_feed_42 (by decide) rfl ?_
      refine r_iadd 44 dX7_feed_43 rfl ?_
      refine r_eq (nI_1 _) ?_
      refine r_puti 47 dX7_feed_44 fz_X7_78 fw_7_10 sh_50 rfl rfl ?_
      refine r_nw (fun w2 e2 => ?_)
      refine r_aload_n 48 dX7_feed_47 rfl rfl ?_
      refine r_geti 51 dX7_feed_48 fz_X7_78 sh_50 rfl rfl ?_
      refine r_eq (z := nI (s_T s + 1)) (by rw [e2, z_up_s]) ?_
      exact r_iret .int dX7_feed_51 rfl (rfl) (⟨by rw [f_feed, if_pos g9, if_pos (by omega)], by rw [f_feed, if_pos g9, if_pos (by omega), hjs]; exact hR.tp (fun q hq => by rw [e2, z_up_i hq, e1, z_up_a (by decide)]) (by rw [e2, z_up_s]) (fun i hi => by rw [e2, z_up_a (by decide), e1]; by_cases e : i = s_T s; (rw [e, z_up_s, un_s]); (rw [z_up_i e, un_n e]; exact hR.2.2.1.2 i (by omega))) (fun a h1 h2 => by rw [e2, z_up_o h1, e1, z_up_o h2]), fun a ha => by rw [e2, z_up_o (by omega), e1, z_up_o (by omega)]⟩)
    · have g21 : s_T s = 160 := (nI_inj (b := 160) (by omega) (by decide)).mp g21
      refine r_bipush 26 (v := -3) dX7_feed_24 (by decide) rfl ?_
      exact r_iret .int dX7_feed_26 rfl (rfl) (⟨by rw [f_feed, if_pos g9, if_neg (by omega)], by rw [f_feed, if_pos g9, if_neg (by omega)]; exact hR, fun _ _ => rfl⟩)
  · refine r_iconst 13 (v := -1) dX7_feed_12 (by decide) rfl ?_
    exact r_iret .int dX7_feed_13 rfl (rfl) (by first | exact ⟨by rw [f_feed, if_neg (g9)], by rw [f_feed, if_neg (g9)]; exact hR, fun _ _ => rfl⟩)
set_option maxRecDepth 20000 in
set_option maxHeartbeats 4000000 in
theorem M_end {d : Nat} {w : zW} {s : sT} {m : Int32} (hd : 8 ≤ d) (hR : RM w s) (hS : sV s) : AM mX7_end d [.int m] w (f_end s m) := by
  have hn := hS.1.n
  have hT0 := hS.2.2.1.1
  refine CT.of [some (.ref 50), some (.int m), none] rfl (Nat.le_of_ble_eq_true rfl) rfl ?_
  refine r_iload_n 1 dX7_end_0 rfl rfl ?_
  refine r_i2l 2 dX7_end_1 rfl ?_
  refine r_lconst 3 (v := 0) dX7_end_2 (by decide) rfl ?_
  refine r_aload_n 4 dX7_end_3 rfl rfl ?_
  refine r_geti 7 dX7_end_4 fz_X7_78 sh_50 rfl rfl ?_
  refine r_eq hR.2.2.1.1 ?_
  refine r_i2l 8 dX7_end_7 rfl ?_
  refine r_callS (y2 := mX7_in) (as := [_, _, _]) 11 dX7_end_8 ml_X7_74 ms_X7_in (m_in (d := d - 1) _ _ _) (by omega) rfl (Nat.le_of_ble_eq_true rfl) rfl (kk_i ?_)
  rintro _ _ ⟨rfl, rfl⟩
  refine r_eq (z_bc (in_wi (lo := 0) (hi := s_T s) rfl (by rw [tl_i, ti_n (by omega)]))) ?_
  refine rb_ne 16 14 dX7_end_11 (by decide) rfl (fun g11 => ?_) (fun g11 => ?_)
  · obtain ⟨j, hj, rfl⟩ := wi_of (hi := s_T s) g11
    have hjs : tN (nI j) = j := tN_n (by omega)
    refine r_aload_n 17 dX7_end_16 rfl rfl ?_
    refine r_geti 20 dX7_end_17 fz_X7_78 sh_50 rfl rfl ?_
    refine r_eq hR.2.2.1.1 ?_
    refine r_istore_n 21 (L' := [_, _, _]) dX7_end_20 (by decide) rfl rfl rfl ?_
    refine r_aload_n 22 dX7_end_21 rfl rfl ?_
    refine r_iload_n 23 dX7_end_22 rfl rfl ?_
    refine r_puti 26 dX7_end_23 fz_X7_78 fw_7_10 sh_50 rfl rfl ?_
    refine r_nw (fun w1 e1 => ?_)
    refine r_iload_n 27 dX7_end_26 rfl rfl ?_
    exact r_iret .int dX7_end_27 rfl (rfl) (⟨by rw [f_end, if_pos g11], by rw [f_end, if_pos g11, hjs]; exact hR.tp (fun q hq => by rw [e1, z_up_i hq]) (by rw [e1, z_up_s]) (fun i hi => by rw [e1, z_up_a (by decide)]; exact hR.2.2.1.2 i (by omega)) (fun a h1 h2 => by rw [e1, z_up_o h1]), fun a ha => by rw [e1, z_up_o (by omega)]⟩)
  · refine r_iconst 15 (v := -1) dX7_end_14 (by decide) rfl ?_
    exact r_iret .int dX7_end_15 rfl (rfl) (by first | exact ⟨by rw [f_end, if_neg (g11)], by rw [f_end, if_neg (g11)]; exact hR, fun _ _ => rfl⟩)
set_option maxRecDepth 20000 in
set_option maxHeartbeats 4000000 in
theorem M_fault {d : Nat} {w : zW} {s : sT}  (hd : 8 ≤ d) (hR : RM w s) (hS : sV s) : AM mX7_fault d [] w (f_fault s) := by
  have hn := hS.1.n
  refine CT.of [some (.ref 50)] rfl (Nat.le_of_ble_eq_true rfl) rfl ?_
  refine r_aload_n 1 dX7_fault_0 rfl rfl ?_
  refine r_geti 4 dX7_fault_1 fz_X7_81 sh_50 rfl rfl ?_
  refine r_eq hR.2.2.2.1 ?_
  exact r_iret .int dX7_fault_4 rfl (rfl) (⟨rfl, hR, fun _ _ => rfl⟩)
set_option maxRecDepth 20000 in
set_option maxHeartbeats 4000000 in
theorem M_torn {d : Nat} {w : zW} {s : sT}  (hd : 8 ≤ d) (hR : RM w s) (hS : sV s) : AM mX7_torn d [] w (f_torn s) := by
  have hn := hS.1.n
  refine CT.of [some (.ref 50)] rfl (Nat.le_of_ble_eq_true rfl) rfl ?_
  refine r_aload_n 1 dX7_torn_0 rfl rfl ?_
  refine r_geti 4 dX7_torn_1 fz_X7_335 sh_50 rfl rfl ?_
  refine r_eq hR.2.2.2.2.2 ?_
  exact r_iret .int dX7_torn_4 rfl (rfl) (⟨rfl, hR, fun _ _ => rfl⟩)
set_option maxRecDepth 20000 in
set_option maxHeartbeats 4000000 in
theorem M_rule {d : Nat} {w : zW} {s : sT} {q : Int32} (hd : 8 ≤ d) (hR : RM w s) (hS : sV s) : AM mX7_rule d [.int q] w (f_rule s q) := by
  have hn := hS.1.n
  refine CT.of [some (.ref 50), some (.int q)] rfl (Nat.le_of_ble_eq_true rfl) rfl ?_
  refine r_iload_n 1 dX7_rule_0 rfl rfl ?_
  refine r_i2l 2 dX7_rule_1 rfl ?_
  refine r_lconst 3 (v := 0) dX7_rule_2 (by decide) rfl ?_
  refine r_ldc2 6 dX7_rule_3 kl_X7_155 rfl ?_
  refine r_callS (y2 := mX7_in) (as := [_, _, _]) 9 dX7_rule_6 ml_X7_74 ms_X7_in (m_in (d := d - 1) _ _ _) (by omega) rfl (Nat.le_of_ble_eq_true rfl) rfl (kk_i ?_)
  rintro _ _ ⟨rfl, rfl⟩
  refine r_eq (z_bc (in_wi (lo := 0) (hi := 5) rfl rfl)) ?_
  refine rb_eq 21 12 dX7_rule_9 (by decide) rfl (fun g9 => ?_) (fun g9 => ?_)
  · refine r_iload_n 22 dX7_rule_21 rfl rfl ?_
    refine r_bipush 24 (v := 6) dX7_rule_22 (by decide) rfl ?_
    refine r_icmp_ne 34 27 dX7_rule_24 (by decide) rfl (fun g24 => ?_) (fun g24 => ?_)
    · refine r_iload_n 35 dX7_rule_34 rfl rfl ?_
      refine r_bipush 37 (v := 7) dX7_rule_35 (by decide) rfl ?_
      refine r_icmp_ne 47 40 dX7_rule_37 (by decide) rfl (fun g37 => ?_) (fun g37 => ?_)
      · refine r_iconst 48 (v := -1) dX7_rule_47 (by decide) rfl ?_
        exact r_iret .int dX7_rule_48 rfl (rfl) (by first | exact ⟨by rw [f_rule]; show (if _ then _ else _) = _; rw [if_pos g9, hjs], hR, fun _ _ => rfl⟩ | exact ⟨by rw [f_rule]; show (if _ then _ else _) = _; rw [if_neg g9, if_pos g24], hR, fun _ _ => rfl⟩ | exact ⟨by rw [f_rule]; show (if _ then _ else _) = _; rw [if_neg g9, if_neg g24, if_pos g37], hR, fun _ _ => rfl⟩ | exact ⟨by rw [f_rule]; show (if _ then _ else _) = _; rw [if_neg g9, if_neg g24, if_neg g37], hR, fun _ _ => rfl⟩)
      · refine r_aload_n 41 dX7_rule_40 rfl rfl ?_
        refine r_callV (y2 := mX7_liars) (as := []) 44 dX7_rule_41 ml_X7_234 mv_X7_liars (m_liars (d := d - 1) hR hS) (by omega) sh_50 ⟨_, rfl, rfl⟩ rfl (Nat.le_of_ble_eq_true rfl) rfl (kk_i ?_)
        rintro _ _ ⟨rfl, rfl⟩
        refine r_goto 48 dX7_rule_44 (by decide) ?_
        exact r_iret .int dX7_rule_48 rfl (rfl) (by first | exact ⟨by rw [f_rule]; show (if _ then _ else _) = _; rw [if_pos g9, hjs], hR, fun _ _ => rfl⟩ | exact ⟨by rw [f_rule]; show (if _ then _ else _) = _; rw [if_neg g9, if_pos g24], hR, fun _ _ => rfl⟩ | exact ⟨by rw [f_rule]; show (if _ then _ else _) = _; rw [if_neg g9, if_neg g24, if_pos g37], hR, fun _ _ => rfl⟩ | exact ⟨by rw [f_rule]; show (if _ then _ else _) = _; rw [if_neg g9, if_neg g24, if_neg g37], hR, fun _ _ => rfl⟩)
    · refine r_aload_n 28 dX7_rule_27 rfl rfl ?_
      refine r_geti 31 dX7_rule_28 fz_X7_69 sh_50 rfl rfl ?_
      refine r_eq hR.n ?_
      refine r_goto 48 dX7_rule_31 (by decide) ?_
      exact r_iret .int dX7_rule_48 rfl (rfl) (by first | exact ⟨by rw [f_rule]; show (if _ then _ else _) = _; rw [if_pos g9, hjs], hR, fun _ _ => rfl⟩ | exact ⟨by rw [f_rule]; show (if _ then _ else _) = _; rw [if_neg g9, if_pos g24], hR, fun _ _ => rfl⟩ | exact ⟨by rw [f_rule]; show (if _ then _ else _) = _; rw [if_neg g9, if_neg g24, if_pos g37], hR, fun _ _ => rfl⟩ | exact ⟨by rw [f_rule]; show (if _ then _ else _) = _; rw [if_neg g9, if_neg g24, if_neg g37], hR, fun _ _ => rfl⟩)
  · obtain ⟨j, hj, rfl⟩ := wi_of (hi := 5) g9
    have hjs : tN (nI j) = j := tN_n (by omega)
    refine r_aload_n 13 dX7_rule_12 rfl rfl ?_
    refine r_getr 16 dX7_rule_13 fz_X7_7 sh_50 rfl rfl ?_
    refine r_iload_n 17 dX7_rule_16 rfl rfl ?_
    refine rj_iald 18 (j) dX7_rule_17 sh_51 (rfl) (by omega) (by decide) rfl ?_
    refine r_eq (hR.k (by omega)) ?_
    refine r_goto 48 dX7_rule_18 (by decide) ?_
    exact r_iret .int dX7_rule_48 rfl (rfl) (by first | exact ⟨by rw [f_rule]; show (if _ then _ else _) = _; rw [if_pos g9, hjs], hR, fun _ _ => rfl⟩ | exact ⟨by rw [f_rule]; show (if _ then _ else _) = _; rw [if_neg g9, if_pos g24], hR, fun _ _ => rfl⟩ | exact ⟨by rw [f_rule]; show (if _ then _ else _) = _; rw [if_neg g9, if_neg g24, if_pos g37], hR, fun _ _ => rfl⟩ | exact ⟨by rw [f_rule]; show (if _ then _ else _) = _; rw [if_neg g9, if_neg g24, if_neg g37], hR, fun _ _ => rfl⟩)
set_option maxRecDepth 20000 in
set_option maxHeartbeats 4000000 in
theorem M_boat {d : Nat} {w : zW} {s : sT} {b q : Int32} (hd : 8 ≤ d) (hR : RM w s) (hS : sV s) : AM mX7_boat d [.int b, .int q] w (f_boat s b q) := by
  have hn := hS.1.n
  refine CT.of [some (.ref 50), some (.int b), some (.int q)] rfl (Nat.le_of_ble_eq_true rfl) rfl ?_
  refine r_aload_n 1 dX7_boat_0 rfl rfl ?_
  refine r_iload_n 2 dX7_boat_1 rfl rfl ?_
  refine r_callV (y2 := mX7_isBoat) (as := [_]) 5 dX7_boat_2 ml_X7_237 mv_X7_isBoat (m_isBoat (d := d - 1) (by omega) hn hR.n) (by omega) sh_50 ⟨_, rfl, rfl⟩ rfl (Nat.le_of_ble_eq_true rfl) rfl (kk_i ?_)
  rintro _ _ ⟨rfl, rfl⟩
  refine rb_eq 20 8 dX7_boat_5 (by decide) rfl (fun g5 => ?_) (fun g5 => ?_)
  · refine r_iconst 21 (v := -1) dX7_boat_20 (by decide) rfl ?_
    exact r_iret .int dX7_boat_21 rfl (rfl) (by first | exact ⟨by rw [f_boat, if_neg (fun z => g5 z.1)], by rw [f_boat, if_neg (fun z => g5 z.1)]; exact hR, fun _ _ => rfl⟩ | exact ⟨by rw [f_boat, if_neg (fun z => g17 z.2)], by rw [f_boat, if_neg (fun z => g17 z.2)]; exact hR, fun _ _ => rfl⟩)
  · obtain ⟨j, hj, rfl⟩ := iB_of g5
    have hjs : tN (nI j) = j := tN_n (by omega)
    refine r_iload_n 9 dX7_boat_8 rfl rfl ?_
    refine r_i2l 10 dX7_boat_9 rfl ?_
    refine r_lconst 11 (v := 0) dX7_boat_10 (by decide) rfl ?_
    refine r_ldc2 14 dX7_boat_11 kl_X7_240 rfl ?_
    refine r_callS (y2 := mX7_in) (as := [_, _, _]) 17 dX7_boat_14 ml_X7_74 ms_X7_in (m_in (d := d - 1) _ _ _) (by omega) rfl (Nat.le_of_ble_eq_true rfl) rfl (kk_i ?_)
    rintro _ _ ⟨rfl, rfl⟩
    refine r_eq (z_bc (in_wi (lo := 0) (hi := 6) rfl rfl)) ?_
    refine rb_ne 22 20 dX7_boat_17 (by decide) rfl (fun g17 => ?_) (fun g17 => ?_)
    · obtain ⟨k, hk, rfl⟩ := wi_of (hi := 6) g17
      have hks : tN (nI k) = k := tN_n (by omega)
      refine r_aload_n 23 dX7_boat_22 rfl rfl ?_
      refine r_callV (y2 := mX7_starts) (as := []) 26 dX7_boat_23 ml_X7_228 mv_X7_starts (m_start (d := d - 1) hR) (by omega) sh_50 ⟨_, rfl, rfl⟩ rfl (Nat.le_of_ble_eq_true rfl) rfl (kk_v ?_)
      rintro w1 ⟨hL, hc, hf⟩
      refine r_iload_n 27 dX7_boat_26 rfl rfl ?_
      refine r_bipush 29 (v := 6) dX7_boat_27 (by decide) rfl ?_
      refine r_icmp_ge 41 32 dX7_boat_29 (by decide) rfl (fun g29 => ?_) (fun g29 => ?_)
      · have g29 : k = 6 := by have := (nI_le' (a := 6) (by decide) (by omega)).mp g29; omega
        refine r_aload_n 42 dX7_boat_41 rfl rfl ?_
        refine r_iload_n 43 dX7_boat_42 rfl rfl ?_
        refine r_callV (y2 := mX7_countsFrom) (as := [_]) 46 dX7_boat_43 ml_X7_207 mv_X7_countsFrom (m_countsFrom (d := d - 1) (by omega) hS.1.1 (by decide) hL hj) (by omega) sh_50 ⟨_, rfl, rfl⟩ rfl (Nat.le_of_ble_eq_true rfl) rfl (kk_i ?_)
        rintro _ _ ⟨rfl, rfl⟩
        exact r_iret .int dX7_boat_46 rfl (rfl) (by first | exact ⟨by rw [f_boat, if_pos ⟨g5, g17⟩, if_neg (fun z => by have := (nI_inj (b := 6) (by omega) (by decide)).mp z; omega), hjs, hks], hR.fr hf, hf.lo⟩ | exact ⟨by rw [f_boat, if_pos ⟨g5, g17⟩, if_pos (by rw [g29]; rfl), hjs], hR.fr hf, hf.lo⟩)
      · have g29 : k < 6 := by have : ¬ 6 ≤ k := fun z => g29 ((nI_le' (a := 6) (by decide) (by omega)).mpr z); omega
        refine r_aload_n 33 dX7_boat_32 rfl rfl ?_
        refine r_iload_n 34 dX7_boat_33 rfl rfl ?_
        refine r_iload_n 35 dX7_boat_34 rfl rfl ?_
        refine r_callV (y2 := mX7_of) (as := [_, _]) 38 dX7_boat_35 ml_X7_166 mv_X7_of (m_of (d := d - 1) (i := j) (j := k) (by omega) g29) (by omega) sh_50 ⟨_, rfl, rfl⟩ rfl (Nat.le_of_ble_eq_true rfl) rfl (kk_i ?_)
        rintro _ _ ⟨rfl, rfl⟩
        refine r_eq (hL.1 _ (by omega)) ?_
        refine r_goto 46 dX7_boat_38 (by decide) ?_
        exact r_iret .int dX7_boat_46 rfl (rfl) (by first | exact ⟨by rw [f_boat, if_pos ⟨g5, g17⟩, if_neg (fun z => by have := (nI_inj (b := 6) (by omega) (by decide)).mp z; omega), hjs, hks], hR.fr hf, hf.lo⟩ | exact ⟨by rw [f_boat, if_pos ⟨g5, g17⟩, if_pos (by rw [g29]; rfl), hjs], hR.fr hf, hf.lo⟩)
    · refine r_iconst 21 (v := -1) dX7_boat_20 (by decide) rfl ?_
      exact r_iret .int dX7_boat_21 rfl (rfl) (by first | exact ⟨by rw [f_boat, if_neg (fun z => g5 z.1)], by rw [f_boat, if_neg (fun z => g5 z.1)]; exact hR, fun _ _ => rfl⟩ | exact ⟨by rw [f_boat, if_neg (fun z => g17 z.2)], by rw [f_boat, if_neg (fun z => g17 z.2)]; exact hR, fun _ _ => rfl⟩)
set_option maxRecDepth 20000 in
set_option maxHeartbeats 4000000 in
theorem M_set {d : Nat} {w : zW} {s : sT} {q v : Int32} (hd : 8 ≤ d) (hR : RM w s) (hS : sV s) : AM mX7_set d [.int q, .int v] w (f_set s q v) := by
  have hn := hS.1.n
  refine CT.of [some (.ref 50), some (.int q), some (.int v)] rfl (Nat.le_of_ble_eq_true rfl) rfl ?_
  refine r_iload_n 1 dX7_set_0 rfl rfl ?_
  refine r_i2l 2 dX7_set_1 rfl ?_
  refine r_lconst 3 (v := 0) dX7_set_2 (by decide) rfl ?_
  refine r_ldc2 6 dX7_set_3 kl_X7_155 rfl ?_
  refine r_callS (y2 := mX7_in) (as := [_, _, _]) 9 dX7_set_6 ml_X7_74 ms_X7_in (m_in (d := d - 1) _ _ _) (by omega) rfl (Nat.le_of_ble_eq_true rfl) rfl (kk_i ?_)
  rintro _ _ ⟨rfl, rfl⟩
  refine r_eq (z_bc (in_wi (lo := 0) (hi := 5) rfl rfl)) ?_
  refine rb_eq 43 12 dX7_set_9 (by decide) rfl (fun g9 => ?_) (fun g9 => ?_)
  · refine r_iconst 44 (v := -1) dX7_set_43 (by decide) rfl ?_
    exact r_iret .int dX7_set_44 rfl (rfl) (by first | exact ⟨by rw [f_set, if_pos ⟨g9, g31⟩, hjs]; exact (hR.k (by omega)).symm, by rw [f_set, if_pos ⟨g9, g31⟩, hjs, hks]; exact hR.set (by omega), fun a ha => z_up_o (by omega)⟩ | exact ⟨by rw [f_set, if_neg (fun z => g9 z.1)], by rw [f_set, if_neg (fun z => g9 z.1)]; exact hR, fun _ _ => rfl⟩ | exact ⟨by rw [f_set, if_neg (fun z => g31 z.2)], by rw [f_set, if_neg (fun z => g31 z.2)]; exact hR, fun _ _ => rfl⟩)
  · obtain ⟨j, hj, rfl⟩ := wi_of (hi := 5) g9
    have hjs : tN (nI j) = j := tN_n (by omega)
    have hmr := mostR_lt j
    refine r_iload_n 13 dX7_set_12 rfl rfl ?_
    refine r_i2l 14 dX7_set_13 rfl ?_
    refine r_iload_n 15 dX7_set_14 rfl rfl ?_
    refine r_if_ne 22 18 dX7_set_15 (by decide) rfl (fun g15 => ?_) (fun g15 => ?_)
    · have elo : (0 : Int64).toInt = if nI j = 0 then (1 : Int) else 0 := by rw [if_neg g15]; rfl
      refine r_lconst 23 (v := 0) dX7_set_22 (by decide) rfl ?_
      refine r_iload_n 24 dX7_set_23 rfl rfl ?_
      refine r_callS (y2 := mX7_mostOf) (as := [_]) 27 dX7_set_24 ml_X7_242 ms_X7_mostOf (m_mostOf (d := d - 1) (j := j) (by omega)) (by omega) rfl (Nat.le_of_ble_eq_true rfl) rfl (kk_i ?_)
      rintro _ _ ⟨rfl, rfl⟩
      refine r_i2l 28 dX7_set_27 rfl ?_
      refine r_callS (y2 := mX7_in) (as := [_, _, _]) 31 dX7_set_28 ml_X7_74 ms_X7_in (m_in (d := d - 1) _ _ _) (by omega) rfl (Nat.le_of_ble_eq_true rfl) rfl (kk_i ?_)
      rintro _ _ ⟨rfl, rfl⟩
      refine r_eq (z_bc (in_wi (lo := if nI j = 0 then (1 : Int) else 0) (hi := mostR (tN (nI j))) elo (by rw [tl_i, ti_n (by omega), hjs]))) ?_
      refine rb_eq 43 34 dX7_set_31 (by decide) rfl (fun g31 => ?_) (fun g31 => ?_)
      · refine r_iconst 44 (v := -1) dX7_set_43 (by decide) rfl ?_
        exact r_iret .int dX7_set_44 rfl (rfl) (by first | exact ⟨by rw [f_set, if_pos ⟨g9, g31⟩, hjs]; exact (hR.k (by omega)).symm, by rw [f_set, if_pos ⟨g9, g31⟩, hjs, hks]; exact hR.set (by omega), fun a ha => z_up_o (by omega)⟩ | exact ⟨by rw [f_set, if_neg (fun z => g9 z.1)], by rw [f_set, if_neg (fun z => g9 z.1)]; exact hR, fun _ _ => rfl⟩ | exact ⟨by rw [f_set, if_neg (fun z => g31 z.2)], by rw [f_set, if_neg (fun z => g31 z.2)]; exact hR, fun _ _ => rfl⟩)
      · obtain ⟨k, hk, hk0, rfl⟩ := wi_of2 (hi := mostR (tN (nI j))) g31 (by split <;> decide)
        rw [hjs] at hk
        have hks : tN (nI k) = k := tN_n (by omega)
        refine r_aload_n 35 dX7_set_34 rfl rfl ?_
        refine r_iload_n 36 dX7_set_35 rfl rfl ?_
        refine r_iload_n 37 dX7_set_36 rfl rfl ?_
        refine r_callV (y2 := mX7_becomes) (as := [_, _]) 40 dX7_set_37 ml_X7_245 mv_X7_becomes (m_becomes (d := d - 1) (i := j) (by omega)) (by omega) sh_50 ⟨_, rfl, rfl⟩ rfl (Nat.le_of_ble_eq_true rfl) rfl (kk_i ?_)
        rintro _ _ ⟨rfl, rfl⟩
        refine r_goto 44 dX7_set_40 (by decide) ?_
        exact r_iret .int dX7_set_44 rfl (rfl) (by first | exact ⟨by rw [f_set, if_pos ⟨g9, g31⟩, hjs]; exact (hR.k (by omega)).symm, by rw [f_set, if_pos ⟨g9, g31⟩, hjs, hks]; exact hR.set (by omega), fun a ha => z_up_o (by omega)⟩ | exact ⟨by rw [f_set, if_neg (fun z => g9 z.1)], by rw [f_set, if_neg (fun z => g9 z.1)]; exact hR, fun _ _ => rfl⟩ | exact ⟨by rw [f_set, if_neg (fun z => g31 z.2)], by rw [f_set, if_neg (fun z => g31 z.2)]; exact hR, fun _ _ => rfl⟩)
    · have elo : (1 : Int64).toInt = if nI j = 0 then (1 : Int) else 0 := by rw [if_pos g15]; rfl
      refine r_lconst 19 (v := 1) dX7_set_18 (by decide) rfl ?_
      refine r_goto 23 dX7_set_19 (by decide) ?_
      refine r_iload_n 24 dX7_set_23 rfl rfl ?_
      refine r_callS (y2 := mX7_mostOf) (as := [_]) 27 dX7_set_24 ml_X7_242 ms_X7_mostOf (m_mostOf (d := d - 1) (j := j) (by omega)) (by omega) rfl (Nat.le_of_ble_eq_true rfl) rfl (kk_i ?_)
      rintro _ _ ⟨rfl, rfl⟩
      refine r_i2l 28 dX7_set_27 rfl ?_
      refine r_callS (y2 := mX7_in) (as := [_, _, _]) 31 dX7_set_28 ml_X7_74 ms_X7_in (m_in (d := d - 1) _ _ _) (by omega) rfl (Nat.le_of_ble_eq_true rfl) rfl (kk_i ?_)
      rintro _ _ ⟨rfl, rfl⟩
      refine r_eq (z_bc (in_wi (lo := if nI j = 0 then (1 : Int) else 0) (hi := mostR (tN (nI j))) elo (by rw [tl_i, ti_n (by omega), hjs]))) ?_
      refine rb_eq 43 34 dX7_set_31 (by decide) rfl (fun g31 => ?_) (fun g31 => ?_)
      · refine r_iconst 44 (v := -1) dX7_set_43 (by decide) rfl ?_
        exact r_iret .int dX7_set_44 rfl (rfl) (by first | exact ⟨by rw [f_set, if_pos ⟨g9, g31⟩, hjs]; exact (hR.k (by omega)).symm, by rw [f_set, if_pos ⟨g9, g31⟩, hjs, hks]; exact hR.set (by omega), fun a ha => z_up_o (by omega)⟩ | exact ⟨by rw [f_set, if_neg (fun z => g9 z.1)], by rw [f_set, if_neg (fun z => g9 z.1)]; exact hR, fun _ _ => rfl⟩ | exact ⟨by rw [f_set, if_neg (fun z => g31 z.2)], by rw [f_set, if_neg (fun z => g31 z.2)]; exact hR, fun _ _ => rfl⟩)
      · obtain ⟨k, hk, hk0, rfl⟩ := wi_of2 (hi := mostR (tN (nI j))) g31 (by split <;> decide)
        rw [hjs] at hk
        have hks : tN (nI k) = k := tN_n (by omega)
        refine r_aload_n 35 dX7_set_34 rfl rfl ?_
        refine r_iload_n 36 dX7_set_35 rfl rfl ?_
        refine r_iload_n 37 dX7_set_36 rfl rfl ?_
        refine r_callV (y2 := mX7_becomes) (as := [_, _]) 40 dX7_set_37 ml_X7_245 mv_X7_becomes (m_becomes (d := d - 1) (i := j) (by omega)) (by omega) sh_50 ⟨_, rfl, rfl⟩ rfl (Nat.le_of_ble_eq_true rfl) rfl (kk_i ?_)
        rintro _ _ ⟨rfl, rfl⟩
        refine r_goto 44 dX7_set_40 (by decide) ?_
        exact r_iret .int dX7_set_44 rfl (rfl) (by first | exact ⟨by rw [f_set, if_pos ⟨g9, g31⟩, hjs]; exact (hR.k (by omega)).symm, by rw [f_set, if_pos ⟨g9, g31⟩, hjs, hks]; exact hR.set (by omega), fun a ha => z_up_o (by omega)⟩ | exact ⟨by rw [f_set, if_neg (fun z => g9 z.1)], by rw [f_set, if_neg (fun z => g9 z.1)]; exact hR, fun _ _ => rfl⟩ | exact ⟨by rw [f_set, if_neg (fun z => g31 z.2)], by rw [f_set, if_neg (fun z => g31 z.2)]; exact hR, fun _ _ => rfl⟩)
set_option maxRecDepth 20000 in
set_option maxHeartbeats 4000000 in
theorem M_alter {d : Nat} {w : zW} {s : sT} {b q v : Int32} (hd : 8 ≤ d) (hR : RM w s) (hS : sV s) : AM mX7_alter d [.int b, .int q, .int v] w (f_alter s b q v) := by
  have hn := hS.1.n
  refine CT.of [some (.ref 50), some (.int b), some (.int q), some (.int v)] rfl (Nat.le_of_ble_eq_true rfl) rfl ?_
  refine r_aload_n 1 dX7_alter_0 rfl rfl ?_
  refine r_iload_n 2 dX7_alter_1 rfl rfl ?_
  refine r_callV (y2 := mX7_isBoat) (as := [_]) 5 dX7_alter_2 ml_X7_237 mv_X7_isBoat (m_isBoat (d := d - 1) (by omega) hn hR.n) (by omega) sh_50 ⟨_, rfl, rfl⟩ rfl (Nat.le_of_ble_eq_true rfl) rfl (kk_i ?_)
  rintro _ _ ⟨rfl, rfl⟩
  refine rb_eq 54 8 dX7_alter_5 (by decide) rfl (fun g5 => ?_) (fun g5 => ?_)
  · refine r_iconst 55 (v := -1) dX7_alter_54 (by decide) rfl ?_
    exact r_iret .int dX7_alter_55 rfl (rfl) (by first | exact ⟨by rw [f_alter, if_neg (fun z => g5 z.1)], by rw [f_alter, if_neg (fun z => g5 z.1)]; exact hR, fun _ _ => rfl⟩ | exact ⟨by rw [f_alter, if_neg (fun z => g17 z.2.1)], by rw [f_alter, if_neg (fun z => g17 z.2.1)]; exact hR, fun _ _ => rfl⟩ | exact ⟨by rw [f_alter, if_neg (fun z => g51 z.2.2)], by rw [f_alter, if_neg (fun z => g51 z.2.2)]; exact hR, fun _ _ => rfl⟩)
  · obtain ⟨j, hj, rfl⟩ := iB_of g5
    have hjs : tN (nI j) = j := tN_n (by omega)
    refine r_iload_n 9 dX7_alter_8 rfl rfl ?_
    refine r_i2l 10 dX7_alter_9 rfl ?_
    refine r_lconst 11 (v := 1) dX7_alter_10 (by decide) rfl ?_
    refine r_ldc2 14 dX7_alter_11 kl_X7_248 rfl ?_
    refine r_callS (y2 := mX7_in) (as := [_, _, _]) 17 dX7_alter_14 ml_X7_74 ms_X7_in (m_in (d := d - 1) _ _ _) (by omega) rfl (Nat.le_of_ble_eq_true rfl) rfl (kk_i ?_)
    rintro _ _ ⟨rfl, rfl⟩
    refine r_eq (z_bc (in_wi (lo := 1) (hi := 4) rfl rfl)) ?_
    refine rb_eq 54 20 dX7_alter_17 (by decide) rfl (fun g17 => ?_) (fun g17 => ?_)
    · refine r_iconst 55 (v := -1) dX7_alter_54 (by decide) rfl ?_
      exact r_iret .int dX7_alter_55 rfl (rfl) (by first | exact ⟨by rw [f_alter, if_neg (fun z => g5 z.1)], by rw [f_alter, if_neg (fun z => g5 z.1)]; exact hR, fun _ _ => rfl⟩ | exact ⟨by rw [f_alter, if_neg (fun z => g17 z.2.1)], by rw [f_alter, if_neg (fun z => g17 z.2.1)]; exact hR, fun _ _ => rfl⟩ | exact ⟨by rw [f_alter, if_neg (fun z => g51 z.2.2)], by rw [f_alter, if_neg (fun z => g51 z.2.2)]; exact hR, fun _ _ => rfl⟩)
    · obtain ⟨k, hk, hk1, rfl⟩ := wi_of2 (hi := 4) g17 (by decide)
      have hks : tN (nI k) = k := tN_n (by omega)
      refine r_iload_n 21 dX7_alter_20 rfl rfl ?_
      refine r_i2l 22 dX7_alter_21 rfl ?_
      refine r_lconst 23 (v := 0) dX7_alter_22 (by decide) rfl ?_
      refine r_iload_n 24 dX7_alter_23 rfl rfl ?_
      refine r_iconst 25 (v := 1) dX7_alter_24 (by decide) rfl ?_
      refine r_icmp_ne 34 28 dX7_alter_25 (by decide) rfl (fun g25 => ?_) (fun g25 => ?_)
      · have g25 : ¬ k = 1 := fun z => g25 (by rw [z]; rfl)
        refine r_iload_n 35 dX7_alter_34 rfl rfl ?_
        refine r_iconst 36 (v := 2) dX7_alter_35 (by decide) rfl ?_
        refine r_icmp_ne 45 39 dX7_alter_36 (by decide) rfl (fun g36 => ?_) (fun g36 => ?_)
        · have g36 : ¬ k = 2 := fun z => g36 (by rw [z]; rfl)
          refine r_ldc2 48 dX7_alter_45 kl_X7_254 rfl ?_
          refine r_callS (y2 := mX7_in) (as := [_, _, _]) 51 dX7_alter_48 ml_X7_74 ms_X7_in (m_in (d := d - 1) _ _ _) (by omega) rfl (Nat.le_of_ble_eq_true rfl) rfl (kk_i ?_)
          rintro _ _ ⟨rfl, rfl⟩
          refine r_eq (z_bc (in_wi (lo := 0) (hi := mostM (tN (nI k))) rfl (by rw [hks, mostM]; first | (rw [if_pos g25]; rfl) | (rw [if_neg g25, if_pos g36]; rfl) | (rw [if_neg g25, if_neg g36]; rfl)))) ?_
          refine rb_ne 56 54 dX7_alter_51 (by decide) rfl (fun g51 => ?_) (fun g51 => ?_)
          · obtain ⟨u, hu, rfl⟩ := wi_of (hi := mostM (tN (nI k))) g51
            have hmm := mostM_lt k
            rw [hks] at hu
            have hvs : tN (nI u) = u := tN_n (by omega)
            refine r_aload_n 57 dX7_alter_56 rfl rfl ?_
            refine r_bipush 59 (v := 6) dX7_alter_57 (by decide) rfl ?_
            refine r_bipush 61 (v := 6) dX7_alter_59 (by decide) rfl ?_
            refine r_iload_n 62 dX7_alter_61 rfl rfl ?_
            refine r_imul 63 dX7_alter_62 rfl ?_
            refine r_eq (z := nI (6 * j)) (nI_mul 6 j) ?_
            refine r_iadd 64 dX7_alter_63 rfl ?_
            refine r_eq (z := nI (6 + 6 * j)) (nI_add 6 _) ?_
            refine r_iload_n 65 dX7_alter_64 rfl rfl ?_
            refine r_iadd 66 dX7_alter_65 rfl ?_
            refine r_eq (nI_add _ _) ?_
            refine r_iload_n 67 dX7_alter_66 rfl rfl ?_
            refine r_callV (y2 := mX7_becomes) (as := [_, _]) 70 dX7_alter_67 ml_X7_245 mv_X7_becomes (m_becomes (d := d - 1) (i := 6 + 6 * j + k) (by omega)) (by omega) sh_50 ⟨_, rfl, rfl⟩ rfl (Nat.le_of_ble_eq_true rfl) rfl (kk_i ?_)
            rintro _ _ ⟨rfl, rfl⟩
            exact r_iret .int dX7_alter_70 rfl (rfl) (⟨by rw [f_alter, if_pos ⟨g5, g17, g51⟩, hjs, hks]; exact (hR.k (by omega)).symm, by rw [f_alter, if_pos ⟨g5, g17, g51⟩, hjs, hks, hvs]; exact hR.set (by omega), fun a ha => z_up_o (by omega)⟩)
          · refine r_iconst 55 (v := -1) dX7_alter_54 (by decide) rfl ?_
            exact r_iret .int dX7_alter_55 rfl (rfl) (by first | exact ⟨by rw [f_alter, if_neg (fun z => g5 z.1)], by rw [f_alter, if_neg (fun z => g5 z.1)]; exact hR, fun _ _ => rfl⟩ | exact ⟨by rw [f_alter, if_neg (fun z => g17 z.2.1)], by rw [f_alter, if_neg (fun z => g17 z.2.1)]; exact hR, fun _ _ => rfl⟩ | exact ⟨by rw [f_alter, if_neg (fun z => g51 z.2.2)], by rw [f_alter, if_neg (fun z => g51 z.2.2)]; exact hR, fun _ _ => rfl⟩)
        · have g36 : k = 2 := (nI_inj (b := 2) (by omega) (by decide)).mp g36
          refine r_ldc2 42 dX7_alter_39 kl_X7_252 rfl ?_
          refine r_goto 48 dX7_alter_42 (by decide) ?_
          refine r_callS (y2 := mX7_in) (as := [_, _, _]) 51 dX7_alter_48 ml_X7_74 ms_X7_in (m_in (d := d - 1) _ _ _) (by omega) rfl (Nat.le_of_ble_eq_true rfl) rfl (kk_i ?_)
          rintro _ _ ⟨rfl, rfl⟩
          refine r_eq (z_bc (in_wi (lo := 0) (hi := mostM (tN (nI k))) rfl (by rw [hks, mostM]; first | (rw [if_pos g25]; rfl) | (rw [if_neg g25, if_pos g36]; rfl) | (rw [if_neg g25, if_neg g36]; rfl)))) ?_
          refine rb_ne 56 54 dX7_alter_51 (by decide) rfl (fun g51 => ?_) (fun g51 => ?_)
          · obtain ⟨u, hu, rfl⟩ := wi_of (hi := mostM (tN (nI k))) g51
            have hmm := mostM_lt k
            rw [hks] at hu
            have hvs : tN (nI u) = u := tN_n (by omega)
            refine r_aload_n 57 dX7_alter_56 rfl rfl ?_
            refine r_bipush 59 (v := 6) dX7_alter_57 (by decide) rfl ?_
            refine r_bipush 61 (v := 6) dX7_alter_59 (by decide) rfl ?_
            refine r_iload_n 62 dX7_alter_61 rfl rfl ?_
            refine r_imul 63 dX7_alter_62 rfl ?_
            refine r_eq (z := nI (6 * j)) (nI_mul 6 j) ?_
            refine r_iadd 64 dX7_alter_63 rfl ?_
            refine r_eq (z := nI (6 + 6 * j)) (nI_add 6 _) ?_
            refine r_iload_n 65 dX7_alter_64 rfl rfl ?_
            refine r_iadd 66 dX7_alter_65 rfl ?_
            refine r_eq (nI_add _ _) ?_
            refine r_iload_n 67 dX7_alter_66 rfl rfl ?_
            refine r_callV (y2 := mX7_becomes) (as := [_, _]) 70 dX7_alter_67 ml_X7_245 mv_X7_becomes (m_becomes (d := d - 1) (i := 6 + 6 * j + k) (by omega)) (by omega) sh_50 ⟨_, rfl, rfl⟩ rfl (Nat.le_of_ble_eq_true rfl) rfl (kk_i ?_)
            rintro _ _ ⟨rfl, rfl⟩
            exact r_iret .int dX7_alter_70 rfl (rfl) (⟨by rw [f_alter, if_pos ⟨g5, g17, g51⟩, hjs, hks]; exact (hR.k (by omega)).symm, by rw [f_alter, if_pos ⟨g5, g17, g51⟩, hjs, hks, hvs]; exact hR.set (by omega), fun a ha => z_up_o (by omega)⟩)
          · refine r_iconst 55 (v := -1) dX7_alter_54 (by decide) rfl ?_
            exact r_iret .int dX7_alter_55 rfl (rfl) (by first | exact ⟨by rw [f_alter, if_neg (fun z => g5 z.1)], by rw [f_alter, if_neg (fun z => g5 z.1)]; exact hR, fun _ _ => rfl⟩ | exact ⟨by rw [f_alter, if_neg (fun z => g17 z.2.1)], by rw [f_alter, if_neg (fun z => g17 z.2.1)]; exact hR, fun _ _ => rfl⟩ | exact ⟨by rw [f_alter, if_neg (fun z => g51 z.2.2)], by rw [f_alter, if_neg (fun z => g51 z.2.2)]; exact hR, fun _ _ => rfl⟩)
      · have g25 : k = 1 := (nI_inj (b := 1) (by omega) (by decide)).mp g25
        refine r_ldc2 31 dX7_alter_28 kl_X7_250 rfl ?_
        refine r_goto 48 dX7_alter_31 (by decide) ?_
        refine r_callS (y2 := mX7_in) (as := [_, _, _]) 51 dX7_alter_48 ml_X7_74 ms_X7_in (m_in (d := d - 1) _ _ _) (by omega) rfl (Nat.le_of_ble_eq_true rfl) rfl (kk_i ?_)
        rintro _ _ ⟨rfl, rfl⟩
        refine r_eq (z_bc (in_wi (lo := 0) (hi := mostM (tN (nI k))) rfl (by rw [hks, mostM]; first | (rw [if_pos g25]; rfl) | (rw [if_neg g25, if_pos g36]; rfl) | (rw [if_neg g25, if_neg g36]; rfl)))) ?_
        refine rb_ne 56 54 dX7_alter_51 (by decide) rfl (fun g51 => ?_) (fun g51 => ?_)
        · obtain ⟨u, hu, rfl⟩ := wi_of (hi := mostM (tN (nI k))) g51
          have hmm := mostM_lt k
          rw [hks] at hu
          have hvs : tN (nI u) = u := tN_n (by omega)
          refine r_aload_n 57 dX7_alter_56 rfl rfl ?_
          refine r_bipush 59 (v := 6) dX7_alter_57 (by decide) rfl ?_
          refine r_bipush 61 (v := 6) dX7_alter_59 (by decide) rfl ?_
          refine r_iload_n 62 dX7_alter_61 rfl rfl ?_
          refine r_imul 63 dX7_alter_62 rfl ?_
          refine r_eq (z := nI (6 * j)) (nI_mul 6 j) ?_
          refine r_iadd 64 dX7_alter_63 rfl ?_
          refine r_eq (z := nI (6 + 6 * j)) (nI_add 6 _) ?_
          refine r_iload_n 65 dX7_alter_64 rfl rfl ?_
          refine r_iadd 66 dX7_alter_65 rfl ?_
          refine r_eq (nI_add _ _) ?_
          refine r_iload_n 67 dX7_alter_66 rfl rfl ?_
          refine r_callV (y2 := mX7_becomes) (as := [_, _]) 70 dX7_alter_67 ml_X7_245 mv_X7_becomes (m_becomes (d := d - 1) (i := 6 + 6 * j + k) (by omega)) (by omega) sh_50 ⟨_, rfl, rfl⟩ rfl (Nat.le_of_ble_eq_true rfl) rfl (kk_i ?_)
          rintro _ _ ⟨rfl, rfl⟩
          exact r_iret .int dX7_alter_70 rfl (rfl) (⟨by rw [f_alter, if_pos ⟨g5, g17, g51⟩, hjs, hks]; exact (hR.k (by omega)).symm, by rw [f_alter, if_pos ⟨g5, g17, g51⟩, hjs, hks, hvs]; exact hR.set (by omega), fun a ha => z_up_o (by omega)⟩)
        · refine r_iconst 55 (v := -1) dX7_alter_54 (by decide) rfl ?_
          exact r_iret .int dX7_alter_55 rfl (rfl) (by first | exact ⟨by rw [f_alter, if_neg (fun z => g5 z.1)], by rw [f_alter, if_neg (fun z => g5 z.1)]; exact hR, fun _ _ => rfl⟩ | exact ⟨by rw [f_alter, if_neg (fun z => g17 z.2.1)], by rw [f_alter, if_neg (fun z => g17 z.2.1)]; exact hR, fun _ _ => rfl⟩ | exact ⟨by rw [f_alter, if_neg (fun z => g51 z.2.2)], by rw [f_alter, if_neg (fun z => g51 z.2.2)]; exact hR, fun _ _ => rfl⟩)
set_option maxRecDepth 20000 in
set_option maxHeartbeats 4000000 in
theorem M_lie {d : Nat} {w : zW} {s : sT} {b : Int32} {p : Bool} (hd : 8 ≤ d) (hR : RM w s) (hS : sV s) : AM mX7_lie d [.int b, .int (z_b (p = true))] w (f_lie s b p) := by
  have hn := hS.1.n
  refine CT.of [some (.ref 50), some (.int b), some (.int (z_b (p = true)))] rfl (Nat.le_of_ble_eq_true rfl) rfl ?_
  refine r_aload_n 1 dX7_lie_0 rfl rfl ?_
  refine r_iload_n 2 dX7_lie_1 rfl rfl ?_
  refine r_callV (y2 := mX7_isBoat) (as := [_]) 5 dX7_lie_2 ml_X7_237 mv_X7_isBoat (m_isBoat (d := d - 1) (by omega) hn hR.n) (by omega) sh_50 ⟨_, rfl, rfl⟩ rfl (Nat.le_of_ble_eq_true rfl) rfl (kk_i ?_)
  rintro _ _ ⟨rfl, rfl⟩
  refine rb_eq 28 8 dX7_lie_5 (by decide) rfl (fun g5 => ?_) (fun g5 => ?_)
  · refine r_iconst 29 (v := -1) dX7_lie_28 (by decide) rfl ?_
    exact r_iret .int dX7_lie_29 rfl (rfl) (by first | exact ⟨by rw [f_lie, if_pos g5, hjs]; exact (hR.k (by omega)).symm, by rw [f_lie, if_pos g5, hjs, hpv]; exact hR.set (by omega), fun a ha => z_up_o (by omega)⟩ | exact ⟨by rw [f_lie, if_neg (g5)], by rw [f_lie, if_neg (g5)]; exact hR, fun _ _ => rfl⟩)
  · obtain ⟨j, hj, rfl⟩ := iB_of g5
    have hjs : tN (nI j) = j := tN_n (by omega)
    refine r_aload_n 9 dX7_lie_8 rfl rfl ?_
    refine r_bipush 11 (v := 6) dX7_lie_9 (by decide) rfl ?_
    refine r_bipush 13 (v := 6) dX7_lie_11 (by decide) rfl ?_
    refine r_iload_n 14 dX7_lie_13 rfl rfl ?_
    refine r_imul 15 dX7_lie_14 rfl ?_
    refine r_eq (z := nI (6 * j)) (nI_mul 6 j) ?_
    refine r_iadd 16 dX7_lie_15 rfl ?_
    refine r_eq (z := nI (6 + 6 * j)) (nI_add 6 _) ?_
    refine r_iconst 17 (v := 5) dX7_lie_16 (by decide) rfl ?_
    refine r_iadd 18 dX7_lie_17 rfl ?_
    refine r_eq (z := nI (6 + 6 * j + 5)) (nI_add _ 5) ?_
    refine r_iload_n 19 dX7_lie_18 rfl rfl ?_
    refine r_callS (y2 := mX7_flag) (as := [_]) 22 dX7_lie_19 ml_X7_184 ms_X7_flag (m_flag (d := d - 1) _) (by omega) rfl (Nat.le_of_ble_eq_true rfl) rfl (kk_i ?_)
    rintro _ _ ⟨rfl, rfl⟩
    have hpv : z_b (p = true) = nI (if p = true then 1 else 0) := by cases p <;> rfl
    refine r_callV (y2 := mX7_becomes) (as := [_, _]) 25 dX7_lie_22 ml_X7_245 mv_X7_becomes (m_becomes (d := d - 1) (i := 6 + 6 * j + 5) (by omega)) (by omega) sh_50 ⟨_, rfl, rfl⟩ rfl (Nat.le_of_ble_eq_true rfl) rfl (kk_i ?_)
    rintro _ _ ⟨rfl, rfl⟩
    refine r_goto 29 dX7_lie_25 (by decide) ?_
    exact r_iret .int dX7_lie_29 rfl (rfl) (by first | exact ⟨by rw [f_lie, if_pos g5, hjs]; exact (hR.k (by omega)).symm, by rw [f_lie, if_pos g5, hjs, hpv]; exact hR.set (by omega), fun a ha => z_up_o (by omega)⟩ | exact ⟨by rw [f_lie, if_neg (g5)], by rw [f_lie, if_neg (g5)]; exact hR, fun _ _ => rfl⟩)
set_option maxRecDepth 20000 in
set_option maxHeartbeats 4000000 in
theorem M_cross {d : Nat} {w : zW} {s : sT} {b : Int32} (hd : 8 ≤ d) (hR : RM w s) (hS : sV s) : AM mX7_cross d [.int b] w (f_cross s b) := by
  have hn := hS.1.n
  refine CT.of [some (.ref 50), some (.int b), none] rfl (Nat.le_of_ble_eq_true rfl) rfl ?_
  refine r_bipush 2 (v := 6) dX7_cross_0 (by decide) rfl ?_
  refine r_bipush 4 (v := 6) dX7_cross_2 (by decide) rfl ?_
  refine r_iload_n 5 dX7_cross_4 rfl rfl ?_
  refine r_imul 6 dX7_cross_5 rfl ?_
  refine r_iadd 7 dX7_cross_6 rfl ?_
  refine r_iconst 8 (v := 0) dX7_cross_7 (by decide) rfl ?_
  refine r_iadd 9 dX7_cross_8 rfl ?_
  refine r_istore_n 10 (L' := [_, _, _]) dX7_cross_9 (by decide) rfl rfl rfl ?_
  refine r_aload_n 11 dX7_cross_10 rfl rfl ?_
  refine r_iload_n 12 dX7_cross_11 rfl rfl ?_
  refine r_callV (y2 := mX7_isBoat) (as := [_]) 15 dX7_cross_12 ml_X7_237 mv_X7_isBoat (m_isBoat (d := d - 1) (by omega) hn hR.n) (by omega) sh_50 ⟨_, rfl, rfl⟩ rfl (Nat.le_of_ble_eq_true rfl) rfl (kk_i ?_)
  rintro _ _ ⟨rfl, rfl⟩
  refine rb_eq 34 18 dX7_cross_15 (by decide) rfl (fun g15 => ?_) (fun g15 => ?_)
  · refine r_iconst 35 (v := -1) dX7_cross_34 (by decide) rfl ?_
    exact r_iret .int dX7_cross_35 rfl (rfl) (by first | exact ⟨by rw [f_cross, if_pos g15, hjs]; exact (hR.k (by omega)).symm, by rw [f_cross, if_pos g15, hjs]; exact hR.set (by omega), fun a ha => z_up_o (by omega)⟩ | exact ⟨by rw [f_cross, if_neg (g15)], by rw [f_cross, if_neg (g15)]; exact hR, fun _ _ => rfl⟩)
  · obtain ⟨j, hj, rfl⟩ := iB_of g15
    have hjs : tN (nI j) = j := tN_n (by omega)
    have hsd := hS.1.1.sd hj
    have ex : (6 : Int32) + 6 * nI j + 0 = nI (6 + 6 * j) := by rw [Int32.add_zero]; exact (congrArg (6 + ·) (nI_mul 6 j)).trans (nI_add 6 _)
    rw [ex]
    refine r_aload_n 19 dX7_cross_18 rfl rfl ?_
    refine r_iload_n 20 dX7_cross_19 rfl rfl ?_
    refine r_iconst 21 (v := 1) dX7_cross_20 (by decide) rfl ?_
    refine r_aload_n 22 dX7_cross_21 rfl rfl ?_
    refine r_getr 25 dX7_cross_22 fz_X7_7 sh_50 rfl rfl ?_
    refine r_iload_n 26 dX7_cross_25 rfl rfl ?_
    refine rj_iald 27 (6 + 6 * j) dX7_cross_26 sh_51 (rfl) (by omega) (by decide) rfl ?_
    refine r_eq (hR.k (by omega)) ?_
    refine r_isub 28 dX7_cross_27 rfl ?_
    refine r_eq (z := nI (1 - s_K s (6 + 6 * j))) (nI_sub (a := 1) hsd) ?_
    refine r_callV (y2 := mX7_becomes) (as := [_, _]) 31 dX7_cross_28 ml_X7_245 mv_X7_becomes (m_becomes (d := d - 1) (i := 6 + 6 * j) (by omega)) (by omega) sh_50 ⟨_, rfl, rfl⟩ rfl (Nat.le_of_ble_eq_true rfl) rfl (kk_i ?_)
    rintro _ _ ⟨rfl, rfl⟩
    refine r_goto 35 dX7_cross_31 (by decide) ?_
    exact r_iret .int dX7_cross_35 rfl (rfl) (by first | exact ⟨by rw [f_cross, if_pos g15, hjs]; exact (hR.k (by omega)).symm, by rw [f_cross, if_pos g15, hjs]; exact hR.set (by omega), fun a ha => z_up_o (by omega)⟩ | exact ⟨by rw [f_cross, if_neg (g15)], by rw [f_cross, if_neg (g15)]; exact hR, fun _ _ => rfl⟩)
set_option maxRecDepth 20000 in
set_option maxHeartbeats 4000000 in
theorem M_passes {d : Nat} {w : zW} {s : sT} {i : Int32} (hd : 8 ≤ d) (hR : RM w s) (hS : sV s) : AM mX7_passes d [.int i] w (f_passes s i) := by
  have hn := hS.1.n
  refine CT.of [some (.ref 50), some (.int i)] rfl (Nat.le_of_ble_eq_true rfl) rfl ?_
  refine r_aload_n 1 dX7_passes_0 rfl rfl ?_
  refine r_iload_n 2 dX7_passes_1 rfl rfl ?_
  refine r_callV (y2 := mX7_isBoat) (as := [_]) 5 dX7_passes_2 ml_X7_237 mv_X7_isBoat (m_isBoat (d := d - 1) (by omega) hn hR.n) (by omega) sh_50 ⟨_, rfl, rfl⟩ rfl (Nat.le_of_ble_eq_true rfl) rfl (kk_i ?_)
  rintro _ _ ⟨rfl, rfl⟩
  refine rb_ne 10 8 dX7_passes_5 (by decide) rfl (fun g5 => ?_) (fun g5 => ?_)
  · obtain ⟨j, hj, rfl⟩ := iB_of g5
    have hjs : tN (nI j) = j := tN_n (by omega)
    have hI := dI_D hS.1.1 (by decide)
    refine r_aload_n 11 dX7_passes_10 rfl rfl ?_
    refine r_callV (y2 := mX7_dayNow) (as := []) 14 dX7_passes_11 ml_X7_256 mv_X7_dayNow (m_dayNow (d := d - 1) (by omega) hR hS) (by omega) sh_50 ⟨_, rfl, rfl⟩ rfl (Nat.le_of_ble_eq_true rfl) rfl (kk_v ?_)
    rintro w1 ⟨hC, hL, hf⟩
    refine r_aload_n 15 dX7_passes_14 rfl rfl ?_
    refine r_getr 18 dX7_passes_15 fz_X7_26 sh_50 rfl rfl ?_
    refine r_iload_n 19 dX7_passes_18 rfl rfl ?_
    refine rj_iald 20 (j) dX7_passes_19 sh_56 (rfl) (by omega) (by decide) rfl ?_
    refine r_eq (hC.2.2.2.2.2.1 j hj) ?_
    exact r_iret .int dX7_passes_20 rfl (rfl) (⟨by rw [f_passes, if_pos g5, hjs], hR.fr hf, hf.lo⟩)
  · refine r_iconst 9 (v := -1) dX7_passes_8 (by decide) rfl ?_
    exact r_iret .int dX7_passes_9 rfl (rfl) (by first | exact ⟨by rw [f_passes, if_neg (g5)], by rw [f_passes, if_neg (g5)]; exact hR, fun _ _ => rfl⟩)
set_option maxRecDepth 20000 in
set_option maxHeartbeats 4000000 in
theorem M_through {d : Nat} {w : zW} {s : sT} {i : Int32} (hd : 8 ≤ d) (hR : RM w s) (hS : sV s) : AM mX7_through d [.int i] w (f_through s i) := by
  have hn := hS.1.n
  refine CT.of [some (.ref 50), some (.int i)] rfl (Nat.le_of_ble_eq_true rfl) rfl ?_
  refine r_aload_n 1 dX7_through_0 rfl rfl ?_
  refine r_iload_n 2 dX7_through_1 rfl rfl ?_
  refine r_callV (y2 := mX7_isBoat) (as := [_]) 5 dX7_through_2 ml_X7_237 mv_X7_isBoat (m_isBoat (d := d - 1) (by omega) hn hR.n) (by omega) sh_50 ⟨_, rfl, rfl⟩ rfl (Nat.le_of_ble_eq_true rfl) rfl (kk_i ?_)
  rintro _ _ ⟨rfl, rfl⟩
  refine rb_ne 10 8 dX7_through_5 (by decide) rfl (fun g5 => ?_) (fun g5 => ?_)
  · obtain ⟨j, hj, rfl⟩ := iB_of g5
    have hjs : tN (nI j) = j := tN_n (by omega)
    have hI := dI_D hS.1.1 (by decide)
    refine r_aload_n 11 dX7_through_10 rfl rfl ?_
    refine r_callV (y2 := mX7_dayNow) (as := []) 14 dX7_through_11 ml_X7_256 mv_X7_dayNow (m_dayNow (d := d - 1) (by omega) hR hS) (by omega) sh_50 ⟨_, rfl, rfl⟩ rfl (Nat.le_of_ble_eq_true rfl) rfl (kk_v ?_)
    rintro w1 ⟨hC, hL, hf⟩
    refine r_aload_n 15 dX7_through_14 rfl rfl ?_
    refine r_getr 18 dX7_through_15 fz_X7_29 sh_50 rfl rfl ?_
    refine r_iload_n 19 dX7_through_18 rfl rfl ?_
    refine rj_iald 20 (j) dX7_through_19 sh_57 (rfl) (by omega) (by decide) rfl ?_
    refine r_eq ((hC.2.2.2.2.2.2 j hj (dI_all hI j hj)).1) ?_
    exact r_iret .int dX7_through_20 rfl (rfl) (⟨by rw [f_through, if_pos g5, hjs], hR.fr hf, hf.lo⟩)
  · refine r_iconst 9 (v := -1) dX7_through_8 (by decide) rfl ?_
    exact r_iret .int dX7_through_9 rfl (rfl) (by first | exact ⟨by rw [f_through, if_neg (g5)], by rw [f_through, if_neg (g5)]; exact hR, fun _ _ => rfl⟩)
set_option maxRecDepth 20000 in
set_option maxHeartbeats 4000000 in
theorem M_stood {d : Nat} {w : zW} {s : sT} {i : Int32} (hd : 8 ≤ d) (hR : RM w s) (hS : sV s) : AM mX7_stood d [.int i] w (f_stood s i) := by
  have hn := hS.1.n
  refine CT.of [some (.ref 50), some (.int i)] rfl (Nat.le_of_ble_eq_true rfl) rfl ?_
  refine r_aload_n 1 dX7_stood_0 rfl rfl ?_
  refine r_iload_n 2 dX7_stood_1 rfl rfl ?_
  refine r_callV (y2 := mX7_isBoat) (as := [_]) 5 dX7_stood_2 ml_X7_237 mv_X7_isBoat (m_isBoat (d := d - 1) (by omega) hn hR.n) (by omega) sh_50 ⟨_, rfl, rfl⟩ rfl (Nat.le_of_ble_eq_true rfl) rfl (kk_i ?_)
  rintro _ _ ⟨rfl, rfl⟩
  refine rb_ne 10 8 dX7_stood_5 (by decide) rfl (fun g5 => ?_) (fun g5 => ?_)
  · obtain ⟨j, hj, rfl⟩ := iB_of g5
    have hjs : tN (nI j) = j := tN_n (by omega)
    have hI := dI_D hS.1.1 (by decide)
    refine r_aload_n 11 dX7_stood_10 rfl rfl ?_
    refine r_callV (y2 := mX7_dayNow) (as := []) 14 dX7_stood_11 ml_X7_256 mv_X7_dayNow (m_dayNow (d := d - 1) (by omega) hR hS) (by omega) sh_50 ⟨_, rfl, rfl⟩ rfl (Nat.le_of_ble_eq_true rfl) rfl (kk_v ?_)
    rintro w1 ⟨hC, hL, hf⟩
    refine r_aload_n 15 dX7_stood_14 rfl rfl ?_
    refine r_getr 18 dX7_stood_15 fz_X7_32 sh_50 rfl rfl ?_
    refine r_iload_n 19 dX7_stood_18 rfl rfl ?_
    refine rj_iald 20 (j) dX7_stood_19 sh_58 (rfl) (by omega) (by decide) rfl ?_
    refine r_eq ((hC.2.2.2.2.2.2 j hj (dI_all hI j hj)).2) ?_
    exact r_iret .int dX7_stood_20 rfl (rfl) (⟨by rw [f_stood, if_pos g5, hjs], hR.fr hf, hf.lo⟩)
  · refine r_iconst 9 (v := -1) dX7_stood_8 (by decide) rfl ?_
    exact r_iret .int dX7_stood_9 rfl (rfl) (by first | exact ⟨by rw [f_stood, if_neg (g5)], by rw [f_stood, if_neg (g5)]; exact hR, fun _ _ => rfl⟩)
theorem d_f0 {n : Nat} {K : Nat → Nat} (h : n = 0) : d_f (dD n K) = 0 := by subst h; rfl
set_option maxRecDepth 20000 in
set_option maxHeartbeats 4000000 in
theorem M_day {d : Nat} {w : zW} {s : sT} {q : Int32} (hd : 8 ≤ d) (hR : RM w s) (hS : sV s) : AM mX7_day d [.int q] w (f_day s q) := by
  have hn := hS.1.n
  refine CT.of [some (.ref 50), some (.int q)] rfl (Nat.le_of_ble_eq_true rfl) rfl ?_
  refine r_iload_n 1 dX7_day_0 rfl rfl ?_
  refine r_i2l 2 dX7_day_1 rfl ?_
  refine r_lconst 3 (v := 0) dX7_day_2 (by decide) rfl ?_
  refine r_ldc2 6 dX7_day_3 kl_X7_248 rfl ?_
  refine r_callS (y2 := mX7_in) (as := [_, _, _]) 9 dX7_day_6 ml_X7_74 ms_X7_in (m_in (d := d - 1) _ _ _) (by omega) rfl (Nat.le_of_ble_eq_true rfl) rfl (kk_i ?_)
  rintro _ _ ⟨rfl, rfl⟩
  refine r_eq (z_bc (in_wi (lo := 0) (hi := 4) rfl rfl)) ?_
  refine rb_ne 14 12 dX7_day_9 (by decide) rfl (fun g9 => ?_) (fun g9 => ?_)
  · obtain ⟨j, hj, rfl⟩ := wi_of (hi := 4) g9
    have hjs : tN (nI j) = j := tN_n (by omega)
    refine r_aload_n 15 dX7_day_14 rfl rfl ?_
    refine r_callV (y2 := mX7_dayNow) (as := []) 18 dX7_day_15 ml_X7_256 mv_X7_dayNow (m_dayNow (d := d - 1) (by omega) hR hS) (by omega) sh_50 ⟨_, rfl, rfl⟩ rfl (Nat.le_of_ble_eq_true rfl) rfl (kk_v ?_)
    rintro w1 ⟨hC, hL, hf⟩
    refine r_aload_n 19 dX7_day_18 rfl rfl ?_
    refine r_iload_n 20 dX7_day_19 rfl rfl ?_
    refine r_callV (y2 := mX7_tells) (as := [_]) 23 dX7_day_20 ml_X7_259 mv_X7_tells (m_tells (d := d - 1) (q := j) (by omega) hj hS.1.1 hL (dI_D hS.1.1 (by decide)) hC d_f0) (by omega) sh_50 ⟨_, rfl, rfl⟩ rfl (Nat.le_of_ble_eq_true rfl) rfl (kk_i ?_)
    rintro _ _ ⟨rfl, rfl⟩
    exact r_iret .int dX7_day_23 rfl (rfl) (⟨by rw [f_day, if_pos g9, hjs], hR.fr hf, hf.lo⟩)
  · refine r_iconst 13 (v := -1) dX7_day_12 (by decide) rfl ?_
    exact r_iret .int dX7_day_13 rfl (rfl) (by first | exact ⟨by rw [f_day, if_neg (g9)], by rw [f_day, if_neg (g9)]; exact hR, fun _ _ => rfl⟩)
set_option maxRecDepth 20000 in
set_option maxHeartbeats 4000000 in
theorem M_table {d : Nat} {w : zW} {s : sT} {l q : Int32} (hd : 8 ≤ d) (hR : RM w s) (hS : sV s) : AM mX7_table d [.int l, .int q] w (f_table s l q) := by
  have hn := hS.1.n
  refine CT.of [some (.ref 50), some (.int l), some (.int q)] rfl (Nat.le_of_ble_eq_true rfl) rfl ?_
  refine r_iload_n 1 dX7_table_0 rfl rfl ?_
  refine r_i2l 2 dX7_table_1 rfl ?_
  refine r_lconst 3 (v := 0) dX7_table_2 (by decide) rfl ?_
  refine r_ldc2 6 dX7_table_3 kl_X7_248 rfl ?_
  refine r_callS (y2 := mX7_in) (as := [_, _, _]) 9 dX7_table_6 ml_X7_74 ms_X7_in (m_in (d := d - 1) _ _ _) (by omega) rfl (Nat.le_of_ble_eq_true rfl) rfl (kk_i ?_)
  rintro _ _ ⟨rfl, rfl⟩
  refine r_eq (z_bc (in_wi (lo := 0) (hi := 4) rfl rfl)) ?_
  refine rb_eq 24 12 dX7_table_9 (by decide) rfl (fun g9 => ?_) (fun g9 => ?_)
  · refine r_iconst 25 (v := -1) dX7_table_24 (by decide) rfl ?_
    exact r_iret .int dX7_table_25 rfl (rfl) (by first | exact ⟨by rw [f_table, if_neg (fun z => g9 z.1)], by rw [f_table, if_neg (fun z => g9 z.1)]; exact hR, fun _ _ => rfl⟩ | exact ⟨by rw [f_table, if_neg (fun z => g21 z.2)], by rw [f_table, if_neg (fun z => g21 z.2)]; exact hR, fun _ _ => rfl⟩)
  · obtain ⟨k, hk, rfl⟩ := wi_of (hi := 4) g9
    have hks : tN (nI k) = k := tN_n (by omega)
    refine r_iload_n 13 dX7_table_12 rfl rfl ?_
    refine r_i2l 14 dX7_table_13 rfl ?_
    refine r_lconst 15 (v := 0) dX7_table_14 (by decide) rfl ?_
    refine r_ldc2 18 dX7_table_15 kl_X7_248 rfl ?_
    refine r_callS (y2 := mX7_in) (as := [_, _, _]) 21 dX7_table_18 ml_X7_74 ms_X7_in (m_in (d := d - 1) _ _ _) (by omega) rfl (Nat.le_of_ble_eq_true rfl) rfl (kk_i ?_)
    rintro _ _ ⟨rfl, rfl⟩
    refine r_eq (z_bc (in_wi (lo := 0) (hi := 4) rfl rfl)) ?_
    refine rb_ne 26 24 dX7_table_21 (by decide) rfl (fun g21 => ?_) (fun g21 => ?_)
    · obtain ⟨j, hj, rfl⟩ := wi_of (hi := 4) g21
      have hjs : tN (nI j) = j := tN_n (by omega)
      refine r_aload_n 27 dX7_table_26 rfl rfl ?_
      refine r_iload_n 28 dX7_table_27 rfl rfl ?_
      refine r_callV (y2 := mX7_dayBy) (as := [_]) 31 dX7_table_28 ml_X7_262 mv_X7_dayBy (m_dayBy (d := d - 1) (by omega) hk hR hS) (by omega) sh_50 ⟨_, rfl, rfl⟩ rfl (Nat.le_of_ble_eq_true rfl) rfl (kk_v ?_)
      rintro w1 ⟨hC, hL, hf⟩
      refine r_aload_n 32 dX7_table_31 rfl rfl ?_
      refine r_iload_n 33 dX7_table_32 rfl rfl ?_
      refine r_callV (y2 := mX7_tells) (as := [_]) 36 dX7_table_33 ml_X7_259 mv_X7_tells (m_tells (d := d - 1) (q := j) (by omega) hj (hS.1.1.law hk) hL (dI_D (hS.1.1.law hk) (by decide)) hC d_f0) (by omega) sh_50 ⟨_, rfl, rfl⟩ rfl (Nat.le_of_ble_eq_true rfl) rfl (kk_i ?_)
      rintro _ _ ⟨rfl, rfl⟩
      rw [meas_law]
      exact r_iret .int dX7_table_36 rfl (rfl) (⟨by rw [f_table, if_pos ⟨g9, g21⟩, hjs, hks], hR.fr hf, hf.lo⟩)
    · refine r_iconst 25 (v := -1) dX7_table_24 (by decide) rfl ?_
      exact r_iret .int dX7_table_25 rfl (rfl) (by first | exact ⟨by rw [f_table, if_neg (fun z => g9 z.1)], by rw [f_table, if_neg (fun z => g9 z.1)]; exact hR, fun _ _ => rfl⟩ | exact ⟨by rw [f_table, if_neg (fun z => g21 z.2)], by rw [f_table, if_neg (fun z => g21 z.2)]; exact hR, fun _ _ => rfl⟩)
set_option maxRecDepth 20000 in
set_option maxHeartbeats 4000000 in
theorem M_see {d : Nat} {w : zW} {s : sT} {i b : Int32} (hd : 8 ≤ d) (hR : RM w s) (hS : sV s) : AM mX7_see d [.int i, .int b] w (f_see s i b) := by
  have hn := hS.1.n
  have h42 := hS.1.2.1
  refine CT.of [some (.ref 50), some (.int i), some (.int b)] rfl (Nat.le_of_ble_eq_true rfl) rfl ?_
  refine r_aload_n 1 dX7_see_0 rfl rfl ?_
  refine r_iload_n 2 dX7_see_1 rfl rfl ?_
  refine r_callV (y2 := mX7_isBoat) (as := [_]) 5 dX7_see_2 ml_X7_237 mv_X7_isBoat (m_isBoat (d := d - 1) (by omega) hn hR.n) (by omega) sh_50 ⟨_, rfl, rfl⟩ rfl (Nat.le_of_ble_eq_true rfl) rfl (kk_i ?_)
  rintro _ _ ⟨rfl, rfl⟩
  refine rb_eq 16 8 dX7_see_5 (by decide) rfl (fun g5 => ?_) (fun g5 => ?_)
  · refine r_iconst 17 (v := -1) dX7_see_16 (by decide) rfl ?_
    exact r_iret .int dX7_see_17 rfl (rfl) (by first | exact ⟨by rw [f_see, if_neg (fun z => g5 z.1)], by rw [f_see, if_neg (fun z => g5 z.1)]; exact hR, fun _ _ => rfl⟩ | exact ⟨by rw [f_see, if_neg (fun z => g13 z.2)], by rw [f_see, if_neg (fun z => g13 z.2)]; exact hR, fun _ _ => rfl⟩)
  · obtain ⟨j, hj, rfl⟩ := iB_of g5
    have hjs : tN (nI j) = j := tN_n (by omega)
    refine r_aload_n 9 dX7_see_8 rfl rfl ?_
    refine r_iload_n 10 dX7_see_9 rfl rfl ?_
    refine r_callV (y2 := mX7_isBoat) (as := [_]) 13 dX7_see_10 ml_X7_237 mv_X7_isBoat (m_isBoat (d := d - 1) (by omega) hn hR.n) (by omega) sh_50 ⟨_, rfl, rfl⟩ rfl (Nat.le_of_ble_eq_true rfl) rfl (kk_i ?_)
    rintro _ _ ⟨rfl, rfl⟩
    refine rb_ne 18 16 dX7_see_13 (by decide) rfl (fun g13 => ?_) (fun g13 => ?_)
    · obtain ⟨k, hk, rfl⟩ := iB_of g13
      have hks : tN (nI k) = k := tN_n (by omega)
      refine r_aload_n 19 dX7_see_18 rfl rfl ?_
      refine r_getr 22 dX7_see_19 fz_X7_7 sh_50 rfl rfl ?_
      refine r_bipush 24 (v := 42) dX7_see_22 (by decide) rfl ?_
      refine rj_iald 25 (42) dX7_see_24 sh_51 (rfl) (by decide) (by decide) rfl ?_
      refine r_eq (hR.k (k := 42) (by decide)) ?_
      refine r_bipush 27 (v := 6) dX7_see_25 (by decide) rfl ?_
      refine r_icmp_ne 33 30 dX7_see_27 (by decide) rfl (fun g27 => ?_) (fun g27 => ?_)
      · have g27 : ¬ s_K s 42 = 6 := fun z => g27 (by rw [z]; rfl)
        refine r_aload_n 34 dX7_see_33 rfl rfl ?_
        refine r_getr 37 dX7_see_34 fz_X7_7 sh_50 rfl rfl ?_
        refine r_bipush 39 (v := 43) dX7_see_37 (by decide) rfl ?_
        refine r_iconst 40 (v := 2) dX7_see_39 (by decide) rfl ?_
        refine r_aload_n 41 dX7_see_40 rfl rfl ?_
        refine r_getr 44 dX7_see_41 fz_X7_7 sh_50 rfl rfl ?_
        refine r_bipush 46 (v := 42) dX7_see_44 (by decide) rfl ?_
        refine rj_iald 47 (42) dX7_see_46 sh_51 (rfl) (by decide) (by decide) rfl ?_
        refine r_eq (hR.k (k := 42) (by decide)) ?_
        refine r_imul 48 dX7_see_47 rfl ?_
        refine r_eq (z := nI (2 * s_K s 42)) (nI_mul 2 _) ?_
        refine r_iadd 49 dX7_see_48 rfl ?_
        refine r_eq (z := nI (43 + 2 * s_K s 42)) (nI_add 43 _) ?_
        refine r_iload_n 50 dX7_see_49 rfl rfl ?_
        refine rj_iast 51 (43 + 2 * s_K s 42) dX7_see_50 sh_51 (rfl) (by omega) (by decide) rfl ?_
        have hR1 := hR.set (x := 43 + 2 * s_K s 42) (v := j) (by omega)
        refine r_nw (fun w1 e1 => ?_)
        rw [← e1] at hR1
        refine r_aload_n 52 dX7_see_51 rfl rfl ?_
        refine r_getr 55 dX7_see_52 fz_X7_7 sh_50 rfl rfl ?_
        refine r_bipush 57 (v := 43) dX7_see_55 (by decide) rfl ?_
        refine r_iconst 58 (v := 2) dX7_see_57 (by decide) rfl ?_
        refine r_aload_n 59 dX7_see_58 rfl rfl ?_
        refine r_getr 62 dX7_see_59 fz_X7_7 sh_50 rfl rfl ?_
        refine r_bipush 64 (v := 42) dX7_see_62 (by decide) rfl ?_
        refine rj_iald 65 (42) dX7_see_64 sh_51 (rfl) (by decide) (by decide) rfl ?_
        refine r_eq (z := nI (s_K s 42)) (by rw [e1, z_up_i (by omega)]; exact hR.k (k := 42) (by decide)) ?_
        refine r_imul 66 dX7_see_65 rfl ?_
        refine r_eq (z := nI (2 * s_K s 42)) (nI_mul 2 _) ?_
        refine r_iadd 67 dX7_see_66 rfl ?_
        refine r_eq (z := nI (43 + 2 * s_K s 42)) (nI_add 43 _) ?_
        refine r_iconst 68 (v := 1) dX7_see_67 (by decide) rfl ?_
        refine r_iadd 69 dX7_see_68 rfl ?_
        refine r_eq (z := nI (44 + 2 * s_K s 42)) ((nI_1 _).trans (by congr 1; omega)) ?_
        refine r_iload_n 70 dX7_see_69 rfl rfl ?_
        refine rj_iast 71 (44 + 2 * s_K s 42) dX7_see_70 sh_51 (rfl) (by omega) (by decide) rfl ?_
        have hR2 := hR1.set (x := 44 + 2 * s_K s 42) (v := k) (by omega)
        refine r_nw (fun w2 e2 => ?_)
        rw [← e2] at hR2
        have q42 : w2 51 42 = nI (s_K s 42) := by rw [e2, z_up_i (by omega), e1, z_up_i (by omega)]; exact hR.k (k := 42) (by decide)
        refine r_aload_n 72 dX7_see_71 rfl rfl ?_
        refine r_getr 75 dX7_see_72 fz_X7_7 sh_50 rfl rfl ?_
        refine r_bipush 77 (v := 42) dX7_see_75 (by decide) rfl ?_
        refine r_dup2 78 dX7_see_77 rfl rfl rfl ?_
        refine rj_iald 79 (42) dX7_see_78 sh_51 (rfl) (by decide) (by decide) rfl ?_
        refine r_eq q42 ?_
        refine r_iconst 80 (v := 1) dX7_see_79 (by decide) rfl ?_
        refine r_iadd 81 dX7_see_80 rfl ?_
        refine r_eq (nI_1 _) ?_
        refine rj_iast 82 (42) dX7_see_81 sh_51 (rfl) (by decide) (by decide) rfl ?_
        have hR3 := hR2.set (x := 42) (v := s_K s 42 + 1) (by omega)
        refine r_nw (fun w3 e3 => ?_)
        rw [← e3] at hR3
        refine r_aload_n 83 dX7_see_82 rfl rfl ?_
        refine r_getr 86 dX7_see_83 fz_X7_7 sh_50 rfl rfl ?_
        refine r_bipush 88 (v := 42) dX7_see_86 (by decide) rfl ?_
        refine rj_iald 89 (42) dX7_see_88 sh_51 (rfl) (by decide) (by decide) rfl ?_
        refine r_eq (z := nI (s_K s 42 + 1)) (by rw [e3, z_up_s]) ?_
        exact r_iret .int dX7_see_89 rfl (rfl) (⟨by rw [f_see, if_pos ⟨g5, g13⟩, if_pos (by omega)], by rw [f_see, if_pos ⟨g5, g13⟩, if_pos (by omega), hjs, hks]; exact hR3, fun a ha => by rw [e3, z_up_o (by omega), e2, z_up_o (by omega), e1, z_up_o (by omega)]⟩)
      · have g27 : s_K s 42 = 6 := (nI_inj (b := 6) (by omega) (by decide)).mp g27
        refine r_bipush 32 (v := -3) dX7_see_30 (by decide) rfl ?_
        exact r_iret .int dX7_see_32 rfl (rfl) (⟨by rw [f_see, if_pos ⟨g5, g13⟩, if_neg (by omega)], by rw [f_see, if_pos ⟨g5, g13⟩, if_neg (by omega)]; exact hR, fun _ _ => rfl⟩)
    · refine r_iconst 17 (v := -1) dX7_see_16 (by decide) rfl ?_
      exact r_iret .int dX7_see_17 rfl (rfl) (by first | exact ⟨by rw [f_see, if_neg (fun z => g5 z.1)], by rw [f_see, if_neg (fun z => g5 z.1)]; exact hR, fun _ _ => rfl⟩ | exact ⟨by rw [f_see, if_neg (fun z => g13 z.2)], by rw [f_see, if_neg (fun z => g13 z.2)]; exact hR, fun _ _ => rfl⟩)
set_option maxRecDepth 20000 in
set_option maxHeartbeats 4000000 in
theorem M_forget {d : Nat} {w : zW} {s : sT} {m : Int32} (hd : 8 ≤ d) (hR : RM w s) (hS : sV s) : AM mX7_forget d [.int m] w (f_forget s m) := by
  have hn := hS.1.n
  have h42 := hS.1.2.1
  refine CT.of [some (.ref 50), some (.int m)] rfl (Nat.le_of_ble_eq_true rfl) rfl ?_
  refine r_iload_n 1 dX7_forget_0 rfl rfl ?_
  refine r_i2l 2 dX7_forget_1 rfl ?_
  refine r_lconst 3 (v := 0) dX7_forget_2 (by decide) rfl ?_
  refine r_aload_n 4 dX7_forget_3 rfl rfl ?_
  refine r_getr 7 dX7_forget_4 fz_X7_7 sh_50 rfl rfl ?_
  refine r_bipush 9 (v := 42) dX7_forget_7 (by decide) rfl ?_
  refine rj_iald 10 (42) dX7_forget_9 sh_51 (rfl) (by decide) (by decide) rfl ?_
  refine r_eq (hR.k (k := 42) (by decide)) ?_
  refine r_i2l 11 dX7_forget_10 rfl ?_
  refine r_callS (y2 := mX7_in) (as := [_, _, _]) 14 dX7_forget_11 ml_X7_74 ms_X7_in (m_in (d := d - 1) _ _ _) (by omega) rfl (Nat.le_of_ble_eq_true rfl) rfl (kk_i ?_)
  rintro _ _ ⟨rfl, rfl⟩
  refine r_eq (z_bc (in_wi (lo := 0) (hi := s_K s 42) rfl (by rw [tl_i, ti_n (by omega)]))) ?_
  refine rb_eq 27 17 dX7_forget_14 (by decide) rfl (fun g14 => ?_) (fun g14 => ?_)
  · refine r_iconst 28 (v := -1) dX7_forget_27 (by decide) rfl ?_
    exact r_iret .int dX7_forget_28 rfl (rfl) (by first | exact ⟨by rw [f_forget, if_pos g14]; exact (hR.k (k := 42) (by decide)).symm, by rw [f_forget, if_pos g14, hjs]; exact hR.set (by omega), fun a ha => z_up_o (by omega)⟩ | exact ⟨by rw [f_forget, if_neg (g14)], by rw [f_forget, if_neg (g14)]; exact hR, fun _ _ => rfl⟩)
  · obtain ⟨j, hj, rfl⟩ := wi_of (hi := s_K s 42) g14
    have hjs : tN (nI j) = j := tN_n (by omega)
    refine r_aload_n 18 dX7_forget_17 rfl rfl ?_
    refine r_bipush 20 (v := 42) dX7_forget_18 (by decide) rfl ?_
    refine r_iload_n 21 dX7_forget_20 rfl rfl ?_
    refine r_callV (y2 := mX7_becomes) (as := [_, _]) 24 dX7_forget_21 ml_X7_245 mv_X7_becomes (m_becomes (d := d - 1) (i := 42) (by omega)) (by omega) sh_50 ⟨_, rfl, rfl⟩ rfl (Nat.le_of_ble_eq_true rfl) rfl (kk_i ?_)
    rintro _ _ ⟨rfl, rfl⟩
    refine r_goto 28 dX7_forget_24 (by decide) ?_
    exact r_iret .int dX7_forget_28 rfl (rfl) (by first | exact ⟨by rw [f_forget, if_pos g14]; exact (hR.k (k := 42) (by decide)).symm, by rw [f_forget, if_pos g14, hjs]; exact hR.set (by omega), fun a ha => z_up_o (by omega)⟩ | exact ⟨by rw [f_forget, if_neg (g14)], by rw [f_forget, if_neg (g14)]; exact hR, fun _ _ => rfl⟩)

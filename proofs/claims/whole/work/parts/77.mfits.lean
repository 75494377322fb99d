/-! ===== the reference: drift, fits ===== -/
set_option maxRecDepth 20000 in
set_option maxHeartbeats 4000000 in
theorem l_drBM {d N q i n : Nat} {p : Int32 × (Nat → Nat)} {x0 sm0 : Int32} {w0 : zW} {T : zX → Prop} (hd : 1 ≤ d) (hn : n ≤ 6) (hx : ∀ w, atD w n (drB n p).2 → w 50 17 = w0 50 17 → frR w0 w → WP mX7_drift d T 89 [some (.ref 50), some (.int x0), some (.int (nI N)), some (.int (nI q)), some (.int (drB n p).1), some (.int sm0), some (.int (nI i)), some (.int (nI n))] [] w) : ∀ k b (w : zW), b + k = n → atD w n (drB b p).2 → w 50 17 = w0 50 17 → frR w0 w → WP mX7_drift d T 43 [some (.ref 50), some (.int x0), some (.int (nI N)), some (.int (nI q)), some (.int (drB b p).1), some (.int sm0), some (.int (nI i)), some (.int (nI b))] [] w := by
  intro k
  induction k with
  | zero =>
    intro b w hb hL hc hF
    have e : b = n := by omega
    subst e
    refine r_iload 45 dX7_drift_43 rfl rfl ?_
    refine r_aload_n 46 dX7_drift_45 rfl rfl ?_
    refine r_geti 49 dX7_drift_46 fz_X7_69 sh_50 rfl rfl ?_
    refine r_eq hL.2 ?_
    refine r_icmp_ge 89 52 dX7_drift_49 (by decide) rfl (fun _ => ?_) (fun z => absurd (Int32.le_refl _) z)
    exact hx w hL hc hF
  | succ k ih =>
    intro b w hb hL hc hF
    have hL1 := hL.up (x := 6 + 6 * b + 2) (v := tN (rv (rs (drB b p).1))) (by omega)
    refine r_iload 45 dX7_drift_43 rfl rfl ?_
    refine r_aload_n 46 dX7_drift_45 rfl rfl ?_
    refine r_geti 49 dX7_drift_46 fz_X7_69 sh_50 rfl rfl ?_
    refine r_eq hL.2 ?_
    refine r_icmp_ge 89 52 dX7_drift_49 (by decide) rfl (fun z => absurd z (fun z => absurd ((nI_le' (by omega) (by omega)).mp z) (by omega))) (fun _ => ?_)
    refine r_iload 54 dX7_drift_52 rfl rfl ?_
    refine r_ldc_w 57 dX7_drift_54 kc_X7_323 rfl ?_
    refine r_imul 58 dX7_drift_57 rfl ?_
    refine r_sipush 61 (v := 12345) dX7_drift_58 (by decide) rfl ?_
    refine r_iadd 62 dX7_drift_61 rfl ?_
    refine r_eq (z := rs (drB b p).1) rfl ?_
    refine r_istore 64 (L' := [_, _, _, _, _, _, _, _]) dX7_drift_62 (by decide) rfl rfl rfl ?_
    refine r_aload_n 65 dX7_drift_64 rfl rfl ?_
    refine r_iload 67 dX7_drift_65 rfl rfl ?_
    refine r_iconst 68 (v := 2) dX7_drift_67 (by decide) rfl ?_
    refine r_iload 70 dX7_drift_68 rfl rfl ?_
    refine r_bipush 72 (v := 16) dX7_drift_70 (by decide) rfl ?_
    refine r_ishr 73 dX7_drift_72 rfl ?_
    refine r_sipush 76 (v := 32767) dX7_drift_73 (by decide) rfl ?_
    refine r_iand 77 dX7_drift_76 rfl ?_
    refine r_bipush 79 (v := 40) dX7_drift_77 (by decide) rfl ?_
    refine r_irem 80 dX7_drift_79 (by decide) rfl ?_
    refine r_eq (z := nI (tN (rv (rs (drB b p).1)))) (rv_t _).1 ?_
    refine r_callV (y2 := mX7_becomesOf) (as := [_, _, _]) 83 dX7_drift_80 ml_X7_274 mv_X7_becomesOf (m_becomesOf (d := d - 1) (i := b) (j := 2) (by omega) (by decide)) (by omega) sh_50 ⟨_, rfl, rfl⟩ rfl (Nat.le_of_ble_eq_true rfl) rfl (kk_v ?_)
    rintro w1 e1
    rw [e1] at hL1
    refine r_iinc 86 (L' := [_, _, _, _, _, _, _, _]) (v := nI (b + 1)) dX7_drift_83 rfl (nI_1 b) (by decide) rfl rfl rfl ?_
    refine r_goto 43 dX7_drift_86 (by decide) ?_
    exact ih (b + 1) w1 (by omega) hL1 (by rw [← e1, z_up_a (by decide)]; exact hc) (by rw [← e1]; exact hF.at)
set_option maxRecDepth 20000 in
set_option maxHeartbeats 4000000 in
theorem l_driftM {d N q : Nat} {x0 : Int32} {w0 : zW} {s : sT} {T : zX → Prop} (hd : 6 ≤ d) (hS : sV s) (hN : N ≤ 20) (hx : ∀ w v7, frR w0 w → WP mX7_drift d T 119 [some (.ref 50), some (.int x0), some (.int (nI N)), some (.int (nI q)), some (.int (drD (s_n s) (s_K s) x0 N).1), some (.int (nI (drS (s_n s) (s_K s) x0 (if nI q = 0 then 0 else 2) N))), some (.int (nI N)), v7] [] w) : ∀ k i (w : zW) v7, i + k = N → atD w (s_n s) (drD (s_n s) (s_K s) x0 i).2 → w 50 17 = nI 0 → frR w0 w → WP mX7_drift d T 34 [some (.ref 50), some (.int x0), some (.int (nI N)), some (.int (nI q)), some (.int (drD (s_n s) (s_K s) x0 i).1), some (.int (nI (drS (s_n s) (s_K s) x0 (if nI q = 0 then 0 else 2) i))), some (.int (nI i)), v7] [] w := by
  have hn := hS.1.n
  intro k
  induction k with
  | zero =>
    intro i w v7 hi hL hc hF
    have e : i = N := by omega
    subst e
    refine r_iload 36 dX7_drift_34 rfl rfl ?_
    refine r_iload_n 37 dX7_drift_36 rfl rfl ?_
    refine r_icmp_ge 119 40 dX7_drift_37 (by decide) rfl (fun _ => ?_) (fun z => absurd (Int32.le_refl _) z)
    exact hx w v7 hF
  | succ k ih =>
    intro i w v7 hi hL hc hF
    have hV : kV 99 (s_n s) (drD (s_n s) (s_K s) x0 (i + 1)).2 := drD_V (by decide) hS.1.1 (i + 1)
    have hI := dI_D hV (by decide)
    have hw : ∀ q, meas (s_n s) (drD (s_n s) (s_K s) x0 (i + 1)).2 (dD (s_n s) (drD (s_n s) (s_K s) x0 (i + 1)).2) q = meas (s_n s) (s_K s) (dD (s_n s) (drD (s_n s) (s_K s) x0 (i + 1)).2) q := fun q => meas_wo (fun b _ => drD_wo (i + 1))
    have nx := fun w2 => ih (i + 1) w2
    rw [drS] at nx
    refine r_iload 36 dX7_drift_34 rfl rfl ?_
    refine r_iload_n 37 dX7_drift_36 rfl rfl ?_
    refine r_icmp_ge 119 40 dX7_drift_37 (by decide) rfl (fun z => absurd z (fun z => absurd ((nI_le' (by omega) (by omega)).mp z) (by omega))) (fun _ => ?_)
    refine r_iconst 41 (v := 0) dX7_drift_40 (by decide) rfl ?_
    refine r_istore 43 (L' := [_, _, _, _, _, _, _, _]) dX7_drift_41 (by decide) rfl rfl rfl ?_
    refine l_drBM (w0 := w) (p := drD (s_n s) (s_K s) x0 i) (by omega) hn (fun w1 hL1 hc1 hf1 => ?_) (s_n s) 0 w (Nat.zero_add _) hL rfl frR.rfl
    refine r_aload_n 90 dX7_drift_89 rfl rfl ?_
    refine r_callV (y2 := mX7_dayGoes) (as := []) 93 dX7_drift_90 ml_X7_231 mv_X7_dayGoes (m_go (d := d - 1) (by omega) (by decide) hV hL1 (hc1.trans hc)) (by omega) sh_50 ⟨_, rfl, rfl⟩ rfl (Nat.le_of_ble_eq_true rfl) rfl (kk_v ?_)
    rintro w2 ⟨hC, hL2, hc2, hf2, -⟩
    refine r_iload 95 dX7_drift_93 rfl rfl ?_
    refine r_iload_n 96 dX7_drift_95 rfl rfl ?_
    refine r_if_ne 106 99 dX7_drift_96 (by decide) rfl (fun g96 => ?_) (fun g96 => ?_)
    · rw [if_neg g96] at nx
      refine r_aload_n 107 dX7_drift_106 rfl rfl ?_
      refine r_geti 110 dX7_drift_107 fz_X7_178 sh_50 rfl rfl ?_
      refine r_eq hC.2.2.2.1 ?_
      refine r_iadd 111 dX7_drift_110 rfl ?_
      refine r_eq (nI_add _ _) ?_
      refine r_istore 113 (L' := [_, _, _, _, _, _, _, _]) dX7_drift_111 (by decide) rfl rfl rfl ?_
      refine r_iinc 116 (L' := [_, _, _, _, _, _, _, _]) (v := nI (i + 1)) dX7_drift_113 rfl (nI_1 i) (by decide) rfl rfl rfl ?_
      refine r_goto 34 dX7_drift_116 (by decide) ?_
      rw [← hw] at nx
      first | rw [if_neg g96] | rw [if_pos g96]
      exact nx w2 _ (by omega) hL2 hc2 ((hF.trans hf1).trans hf2)
    · rw [if_pos g96] at nx
      refine r_aload_n 100 dX7_drift_99 rfl rfl ?_
      refine r_callV (y2 := mX7_costNow) (as := []) 103 dX7_drift_100 ml_X7_225 mv_X7_costNow (m_costNow (d := d - 1) (by omega) hV hL2 hI hC) (by omega) sh_50 ⟨_, rfl, rfl⟩ rfl (Nat.le_of_ble_eq_true rfl) rfl (kk_i ?_)
      rintro _ _ ⟨rfl, rfl⟩
      refine r_goto 110 dX7_drift_103 (by decide) ?_
      refine r_iadd 111 dX7_drift_110 rfl ?_
      refine r_eq (nI_add _ _) ?_
      refine r_istore 113 (L' := [_, _, _, _, _, _, _, _]) dX7_drift_111 (by decide) rfl rfl rfl ?_
      refine r_iinc 116 (L' := [_, _, _, _, _, _, _, _]) (v := nI (i + 1)) dX7_drift_113 rfl (nI_1 i) (by decide) rfl rfl rfl ?_
      refine r_goto 34 dX7_drift_116 (by decide) ?_
      rw [← hw] at nx
      first | rw [if_neg g96] | rw [if_pos g96]
      exact nx w2 _ (by omega) hL2 hc2 ((hF.trans hf1).trans hf2)
set_option maxRecDepth 20000 in
set_option maxHeartbeats 4000000 in
theorem M_drift {d : Nat} {w : zW} {s : sT} {x m q : Int32} (hd : 8 ≤ d) (hR : RM w s) (hS : sV s) : AM mX7_drift d [.int x, .int m, .int q] w (f_drift s x m q) := by
  have hn := hS.1.n
  refine CT.of [some (.ref 50), some (.int x), some (.int m), some (.int q), none, none, none, none] rfl (Nat.le_of_ble_eq_true rfl) rfl ?_
  refine r_iload_n 1 dX7_drift_0 rfl rfl ?_
  refine r_i2l 2 dX7_drift_1 rfl ?_
  refine r_lconst 3 (v := 1) dX7_drift_2 (by decide) rfl ?_
  refine r_ldc2 6 dX7_drift_3 kl_X7_321 rfl ?_
  refine r_callS (y2 := mX7_in) (as := [_, _, _]) 9 dX7_drift_6 ml_X7_74 ms_X7_in (m_in (d := d - 1) _ _ _) (by omega) rfl (Nat.le_of_ble_eq_true rfl) rfl (kk_i ?_)
  rintro _ _ ⟨rfl, rfl⟩
  refine r_eq (z_bc (in_wi (lo := 1) (hi := 20) rfl rfl)) ?_
  refine rb_eq 19 12 dX7_drift_9 (by decide) rfl (fun g9 => ?_) (fun g9 => ?_)
  · refine r_iconst 20 (v := -1) dX7_drift_19 (by decide) rfl ?_
    exact r_iret .int dX7_drift_20 rfl (rfl) (by first | exact ⟨by rw [f_drift, if_neg (fun z => g9 z.1)], by rw [f_drift, if_neg (fun z => g9 z.1)]; exact hR, fun _ _ => rfl⟩ | exact ⟨by rw [f_drift, if_neg (fun z => g16 z.2)], by rw [f_drift, if_neg (fun z => g16 z.2)]; exact hR, fun _ _ => rfl⟩)
  · obtain ⟨N, hN, hN1, rfl⟩ := wi_of2 (hi := 20) g9 (by decide)
    have hNs : tN (nI N) = N := tN_n (by omega)
    refine r_iload_n 13 dX7_drift_12 rfl rfl ?_
    refine r_callS (y2 := mX7_isPart) (as := [_]) 16 dX7_drift_13 ml_X7_285 ms_X7_isPart (m_isPart (d := d - 1) (by omega)) (by omega) rfl (Nat.le_of_ble_eq_true rfl) rfl (kk_i ?_)
    rintro _ _ ⟨rfl, rfl⟩
    refine rb_ne 21 19 dX7_drift_16 (by decide) rfl (fun g16 => ?_) (fun g16 => ?_)
    · obtain ⟨j, hj, rfl⟩ := wi_of (hi := 1) g16
      have hjs : tN (nI j) = j := tN_n (by omega)
      refine r_iload_n 22 dX7_drift_21 rfl rfl ?_
      refine r_istore 24 (L' := [_, _, _, _, _, _, _, _]) dX7_drift_22 (by decide) rfl rfl rfl ?_
      refine r_iconst 25 (v := 0) dX7_drift_24 (by decide) rfl ?_
      refine r_istore 27 (L' := [_, _, _, _, _, _, _, _]) dX7_drift_25 (by decide) rfl rfl rfl ?_
      refine r_aload_n 28 dX7_drift_27 rfl rfl ?_
      refine r_callV (y2 := mX7_starts) (as := []) 31 dX7_drift_28 ml_X7_228 mv_X7_starts (m_start (d := d - 1) hR) (by omega) sh_50 ⟨_, rfl, rfl⟩ rfl (Nat.le_of_ble_eq_true rfl) rfl (kk_v ?_)
      rintro w1 ⟨hL, hc, hf⟩
      refine r_iconst 32 (v := 0) dX7_drift_31 (by decide) rfl ?_
      refine r_istore 34 (L' := [_, _, _, _, _, _, _, _]) dX7_drift_32 (by decide) rfl rfl rfl ?_
      refine l_driftM (w0 := w) (q := j) (N := N) (by omega) hS hN (fun w2 v7 hF => ?_) N 0 w1 _ (Nat.zero_add _) hL hc hf
      refine r_iload 121 dX7_drift_119 rfl rfl ?_
      exact r_iret .int dX7_drift_121 rfl (rfl) (⟨by rw [f_drift, if_pos ⟨g9, g16⟩, hNs], hR.fr hF, hF.lo⟩)
    · refine r_iconst 20 (v := -1) dX7_drift_19 (by decide) rfl ?_
      exact r_iret .int dX7_drift_20 rfl (rfl) (by first | exact ⟨by rw [f_drift, if_neg (fun z => g9 z.1)], by rw [f_drift, if_neg (fun z => g9 z.1)]; exact hR, fun _ _ => rfl⟩ | exact ⟨by rw [f_drift, if_neg (fun z => g16 z.2)], by rw [f_drift, if_neg (fun z => g16 z.2)]; exact hR, fun _ _ => rfl⟩)
set_option maxRecDepth 20000 in
set_option maxHeartbeats 4000000 in
theorem l_isSo {d l g : Nat} {w : zW} {s : sT} {T : zX → Prop} (hS : sV s) (hR : RM w s) (hC : dyM w (s_n s) (s_n s) (dD (s_n s) (lw (un (s_K s) 3 l) g))) (hI : dI (s_n s) (s_n s) (dD (s_n s) (lw (un (s_K s) 3 l) g))) (hx : WP mX7_isSo d T 87 [some (.ref 50), some (.int (nI l)), some (.int (nI g)), some (.int (z_b (∀ c, c < (s_K s 42) → d_p (dD (s_n s) (lw (un (s_K s) 3 l) g)) (s_K s (43 + 2 * c)) = s_K s (44 + 2 * c)))), some (.int (nI (s_K s 42)))] [] w) : ∀ k i, i + k = s_K s 42 → WP mX7_isSo d T 25 [some (.ref 50), some (.int (nI l)), some (.int (nI g)), some (.int (z_b (∀ c, c < i → d_p (dD (s_n s) (lw (un (s_K s) 3 l) g)) (s_K s (43 + 2 * c)) = s_K s (44 + 2 * c)))), some (.int (nI i))] [] w := by
  have hn := hS.1.n
  have h42 := hS.1.2.1
  intro k
  induction k with
  | zero =>
    intro i hi
    have e : i = s_K s 42 := by omega
    subst e
    refine r_iload 27 dX7_isSo_25 rfl rfl ?_
    refine r_aload_n 28 dX7_isSo_27 rfl rfl ?_
    refine r_getr 31 dX7_isSo_28 fz_X7_7 sh_50 rfl rfl ?_
    refine r_bipush 33 (v := 42) dX7_isSo_31 (by decide) rfl ?_
    refine rj_iald 34 (42) dX7_isSo_33 sh_51 (rfl) (by decide) (by decide) rfl ?_
    refine r_eq (hR.k (k := 42) (by decide)) ?_
    refine r_icmp_ge 87 37 dX7_isSo_34 (by decide) rfl (fun _ => ?_) (fun z => absurd (Int32.le_refl _) z)
    exact hx
  | succ k ih =>
    intro i hi
    have hsn := hS.1.2.2 i (by omega)
    have hp := (hI.2.2.1 (s_K s (43 + 2 * i)) hsn.1).1
    refine r_iload 27 dX7_isSo_25 rfl rfl ?_
    refine r_aload_n 28 dX7_isSo_27 rfl rfl ?_
    refine r_getr 31 dX7_isSo_28 fz_X7_7 sh_50 rfl rfl ?_
    refine r_bipush 33 (v := 42) dX7_isSo_31 (by decide) rfl ?_
    refine rj_iald 34 (42) dX7_isSo_33 sh_51 (rfl) (by decide) (by decide) rfl ?_
    refine r_eq (hR.k (k := 42) (by decide)) ?_
    refine r_icmp_ge 87 37 dX7_isSo_34 (by decide) rfl (fun z => absurd z (fun z => absurd ((nI_le' (by omega) (by omega)).mp z) (by omega))) (fun _ => ?_)
    refine r_iload_n 38 dX7_isSo_37 rfl rfl ?_
    refine rb_eq 79 41 dX7_isSo_38 (by decide) rfl (fun g38 => ?_) (fun g38 => ?_)
    · refine r_iconst 80 (v := 0) dX7_isSo_79 (by decide) rfl ?_
      refine r_eq (z := z_b (∀ c, c < (i + 1) → d_p (dD (s_n s) (lw (un (s_K s) 3 l) g)) (s_K s (43 + 2 * c)) = s_K s (44 + 2 * c))) (z_b0 (fun z => g38 (fun c hc => z c (by omega)))) ?_
      refine r_istore_n 81 (L' := [_, _, _, _, _]) dX7_isSo_80 (by decide) rfl rfl rfl ?_
      refine r_iinc 84 (L' := [_, _, _, _, _]) (v := nI (i + 1)) dX7_isSo_81 rfl (nI_1 i) (by decide) rfl rfl rfl ?_
      refine r_goto 25 dX7_isSo_84 (by decide) ?_
      exact ih (i + 1) (by omega)
    · refine r_aload_n 42 dX7_isSo_41 rfl rfl ?_
      refine r_getr 45 dX7_isSo_42 fz_X7_26 sh_50 rfl rfl ?_
      refine r_aload_n 46 dX7_isSo_45 rfl rfl ?_
      refine r_getr 49 dX7_isSo_46 fz_X7_7 sh_50 rfl rfl ?_
      refine r_bipush 51 (v := 43) dX7_isSo_49 (by decide) rfl ?_
      refine r_iconst 52 (v := 2) dX7_isSo_51 (by decide) rfl ?_
      refine r_iload 54 dX7_isSo_52 rfl rfl ?_
      refine r_imul 55 dX7_isSo_54 rfl ?_
      refine r_eq (z := nI (2 * i)) (nI_mul 2 _) ?_
      refine r_iadd 56 dX7_isSo_55 rfl ?_
      refine r_eq (z := nI (43 + 2 * i)) (nI_add 43 _) ?_
      refine rj_iald 57 (43 + 2 * i) dX7_isSo_56 sh_51 (rfl) (by omega) (by decide) rfl ?_
      refine r_eq (hR.k (by omega)) ?_
      refine rj_iald 58 (s_K s (43 + 2 * i)) dX7_isSo_57 sh_56 (rfl) (by omega) (by decide) rfl ?_
      refine r_eq (hC.2.2.2.2.2.1 _ hsn.1) ?_
      refine r_aload_n 59 dX7_isSo_58 rfl rfl ?_
      refine r_getr 62 dX7_isSo_59 fz_X7_7 sh_50 rfl rfl ?_
      refine r_bipush 64 (v := 43) dX7_isSo_62 (by decide) rfl ?_
      refine r_iconst 65 (v := 2) dX7_isSo_64 (by decide) rfl ?_
      refine r_iload 67 dX7_isSo_65 rfl rfl ?_
      refine r_imul 68 dX7_isSo_67 rfl ?_
      refine r_eq (z := nI (2 * i)) (nI_mul 2 _) ?_
      refine r_iadd 69 dX7_isSo_68 rfl ?_
      refine r_eq (z := nI (43 + 2 * i)) (nI_add 43 _) ?_
      refine r_iconst 70 (v := 1) dX7_isSo_69 (by decide) rfl ?_
      refine r_iadd 71 dX7_isSo_70 rfl ?_
      refine r_eq (z := nI (44 + 2 * i)) ((nI_1 _).trans (by congr 1; omega)) ?_
      refine rj_iald 72 (44 + 2 * i) dX7_isSo_71 sh_51 (rfl) (by omega) (by decide) rfl ?_
      refine r_eq (hR.k (by omega)) ?_
      refine r_icmp_ne 79 75 dX7_isSo_72 (by decide) rfl (fun g72 => ?_) (fun g72 => ?_)
      · have g72 : ¬ d_p (dD (s_n s) (lw (un (s_K s) 3 l) g)) (s_K s (43 + 2 * i)) = s_K s (44 + 2 * i) := fun z => g72 (by rw [z])
        refine r_iconst 80 (v := 0) dX7_isSo_79 (by decide) rfl ?_
        refine r_eq (z := z_b (∀ c, c < (i + 1) → d_p (dD (s_n s) (lw (un (s_K s) 3 l) g)) (s_K s (43 + 2 * c)) = s_K s (44 + 2 * c))) (by first | exact z_b1 (fun c hc2 => by by_cases e : c = i; (rw [e]; exact g72); (exact g38 c (by omega))) | exact z_b0 (fun z => g72 (z i (by omega)))) ?_
        refine r_istore_n 81 (L' := [_, _, _, _, _]) dX7_isSo_80 (by decide) rfl rfl rfl ?_
        refine r_iinc 84 (L' := [_, _, _, _, _]) (v := nI (i + 1)) dX7_isSo_81 rfl (nI_1 i) (by decide) rfl rfl rfl ?_
        refine r_goto 25 dX7_isSo_84 (by decide) ?_
        exact ih (i + 1) (by omega)
      · have g72 : d_p (dD (s_n s) (lw (un (s_K s) 3 l) g)) (s_K s (43 + 2 * i)) = s_K s (44 + 2 * i) := (nI_inj (by omega) (by omega)).mp g72
        refine r_iconst 76 (v := 1) dX7_isSo_75 (by decide) rfl ?_
        refine r_goto 80 dX7_isSo_76 (by decide) ?_
        refine r_eq (z := z_b (∀ c, c < (i + 1) → d_p (dD (s_n s) (lw (un (s_K s) 3 l) g)) (s_K s (43 + 2 * c)) = s_K s (44 + 2 * c))) (by first | exact z_b1 (fun c hc2 => by by_cases e : c = i; (rw [e]; exact g72); (exact g38 c (by omega))) | exact z_b0 (fun z => g72 (z i (by omega)))) ?_
        refine r_istore_n 81 (L' := [_, _, _, _, _]) dX7_isSo_80 (by decide) rfl rfl rfl ?_
        refine r_iinc 84 (L' := [_, _, _, _, _]) (v := nI (i + 1)) dX7_isSo_81 rfl (nI_1 i) (by decide) rfl rfl rfl ?_
        refine r_goto 25 dX7_isSo_84 (by decide) ?_
        exact ih (i + 1) (by omega)
set_option maxRecDepth 20000 in
set_option maxHeartbeats 4000000 in
theorem m_isSo {d l g : Nat} {w : zW} {s : sT} (hd : 7 ≤ d) (hl : l ≤ 4) (hg : g < 64) (hR : RM w s) (hS : sV s) : CT mX7_isSo d [.ref 50, .int (nI l), .int (nI g)] w (z_i fun x w' => z_b (ft (s_n s) (s_K s) l g = true) = x ∧ frR w w') := by
  have hn := hS.1.n
  have hVl := hS.1.1.law hl
  refine CT.of [some (.ref 50), some (.int (nI l)), some (.int (nI g)), none, none] rfl (Nat.le_of_ble_eq_true rfl) rfl ?_
  refine r_iconst 1 (v := 1) dX7_isSo_0 (by decide) rfl ?_
  refine r_eq (z := @z_b (∀ c, c < 0 → d_p (dD (s_n s) (lw (un (s_K s) 3 l) g)) (s_K s (43 + 2 * c)) = s_K s (44 + 2 * c)) (Nat.decidableBallLT 0 (fun c _ => d_p (dD (s_n s) (lw (un (s_K s) 3 l) g)) (s_K s (43 + 2 * c)) = s_K s (44 + 2 * c)))) (@z_b1 _ (Nat.decidableBallLT 0 (fun c _ => d_p (dD (s_n s) (lw (un (s_K s) 3 l) g)) (s_K s (43 + 2 * c)) = s_K s (44 + 2 * c))) (fun c hc => absurd hc (Nat.not_lt_zero c))) ?_
  refine r_istore_n 2 (L' := [_, _, _, _, _]) dX7_isSo_1 (by decide) rfl rfl rfl ?_
  refine r_aload_n 3 dX7_isSo_2 rfl rfl ?_
  refine r_callV (y2 := mX7_starts) (as := []) 6 dX7_isSo_3 ml_X7_228 mv_X7_starts (m_start (d := d - 1) hR) (by omega) sh_50 ⟨_, rfl, rfl⟩ rfl (Nat.le_of_ble_eq_true rfl) rfl (kk_v ?_)
  rintro w1 ⟨hL, hc, hf⟩
  refine r_aload_n 7 dX7_isSo_6 rfl rfl ?_
  refine r_getr 10 dX7_isSo_7 fz_X7_13 sh_50 rfl rfl ?_
  refine r_iconst 11 (v := 3) dX7_isSo_10 (by decide) rfl ?_
  refine r_iload_n 12 dX7_isSo_11 rfl rfl ?_
  refine rj_iast 13 (3) dX7_isSo_12 sh_52 (rfl) (by decide) (by decide) rfl ?_
  have hL2 := hL.up (x := 3) (v := l) (by decide)
  refine r_nw (fun w2 e2 => ?_)
  rw [← e2] at hL2
  have hf2 : frR w w2 := by rw [e2]; exact hf.at
  have hc2 : w2 50 17 = nI 0 := by rw [e2, z_up_a (by decide)]; exact hc
  refine r_aload_n 14 dX7_isSo_13 rfl rfl ?_
  refine r_iload_n 15 dX7_isSo_14 rfl rfl ?_
  refine r_callV (y2 := mX7_liesBy) (as := [_]) 18 dX7_isSo_15 ml_X7_288 mv_X7_liesBy (m_liesBy (d := d - 1) (by omega) hn hg hL2) (by omega) sh_50 ⟨_, rfl, rfl⟩ rfl (Nat.le_of_ble_eq_true rfl) rfl (kk_v ?_)
  rintro w3 ⟨hL3, hc3, hf3⟩
  refine r_aload_n 19 dX7_isSo_18 rfl rfl ?_
  refine r_callV (y2 := mX7_dayGoes) (as := []) 22 dX7_isSo_19 ml_X7_231 mv_X7_dayGoes (m_go (d := d - 1) (by omega) (by decide) hVl.lz hL3 (hc3.trans hc2)) (by omega) sh_50 ⟨_, rfl, rfl⟩ rfl (Nat.le_of_ble_eq_true rfl) rfl (kk_v ?_)
  rintro w4 ⟨hC, hL4, hc4, hf4, -⟩
  rw [dD_lz hVl (by decide)] at hC
  have hff := (hf2.trans hf3).trans hf4
  refine r_iconst 23 (v := 0) dX7_isSo_22 (by decide) rfl ?_
  refine r_istore 25 (L' := [_, _, _, _, _]) dX7_isSo_23 (by decide) rfl rfl rfl ?_
  refine l_isSo hS (hR.fr hff) hC (dI_D hVl.lw (by decide)) ?_ (s_K s 42) 0 (Nat.zero_add _)
  refine r_iload_n 88 dX7_isSo_87 rfl rfl ?_
  exact r_iret .boolean dX7_isSo_88 rfl (z_bnar) (⟨z_bc (by unfold ft; rw [decide_eq_true_iff]), hff⟩)
theorem a63 : ∀ n, n < 7 → (2 ^ n - 1) &&& (63 - 0) = 2 ^ n - 1 := by decide +kernel
theorem f_no : ∀ a, a < 64 → ∀ g, g < 64 → (63 - a) &&& (63 - g) = 63 - (a ||| g) ∧ nI a ||| nI g = nI (a ||| g) ∧ a ||| g < 64 := by decide +kernel
set_option maxRecDepth 20000 in
set_option maxHeartbeats 4000000 in
theorem l_fitGM {d l i0 : Nat} {q : Int32} {t : fR} {w0 : zW} {s : sT} {T : zX → Prop} (hd : 8 ≤ d) (hS : sV s) (hl : l < 5) (ht : fB t i0) (hi0 : i0 < 1000) (hx : ∀ w a v8, RM w s → frR w0 w → a < 64 → (ftG (s_n s) (s_K s) l (2 ^ s_n s) t).2.2.2 = (2 ^ s_n s - 1) &&& (63 - a) → WP mX7_fits d T 95 [some (.ref 50), some (.int q), some (.int (nI (2 ^ s_n s - 1))), some (.int (nI (ftG (s_n s) (s_K s) l (2 ^ s_n s) t).1)), some (.int (nI (ftG (s_n s) (s_K s) l (2 ^ s_n s) t).2.1)), some (.int (nI (ftG (s_n s) (s_K s) l (2 ^ s_n s) t).2.2.1)), some (.int (nI a)), some (.int (nI l)), v8] [] w) : ∀ k g (w : zW) a, g + k = 2 ^ s_n s → RM w s → frR w0 w → a < 64 → (ftG (s_n s) (s_K s) l g t).2.2.2 = (2 ^ s_n s - 1) &&& (63 - a) → WP mX7_fits d T 46 [some (.ref 50), some (.int q), some (.int (nI (2 ^ s_n s - 1))), some (.int (nI (ftG (s_n s) (s_K s) l g t).1)), some (.int (nI (ftG (s_n s) (s_K s) l g t).2.1)), some (.int (nI (ftG (s_n s) (s_K s) l g t).2.2.1)), some (.int (nI a)), some (.int (nI l)), some (.int (nI g))] [] w := by
  have hn := hS.1.n
  have h64 := p2_le (s_n s) (by omega)
  have h1 : 1 ≤ 2 ^ s_n s := Nat.one_le_two_pow
  intro k
  induction k with
  | zero =>
    intro g w a hg hR hF ha hA
    have e : g = 2 ^ s_n s := by omega
    rw [e] at hA ⊢
    refine r_iload 48 dX7_fits_46 rfl rfl ?_
    refine r_iload_n 49 dX7_fits_48 rfl rfl ?_
    refine r_icmp_gt 95 52 dX7_fits_49 (by decide) rfl (fun _ => ?_) (fun z => absurd ((nI_lt' (by omega) (by omega)).mpr (by omega)) z)
    exact hx w a _ hR hF ha hA
  | succ k ih =>
    intro g w a hg hR hF ha hA
    have hB := ftG_B (n := s_n s) (K := s_K s) (l := l) hl ht g (by omega)
    have e1 : ftG (s_n s) (s_K s) l (g + 1) t = if ft (s_n s) (s_K s) l g = true then ((ftG (s_n s) (s_K s) l g t).1 + 1, (ftG (s_n s) (s_K s) l g t).2.1 ||| 2 ^ l, (ftG (s_n s) (s_K s) l g t).2.2.1 &&& g, (ftG (s_n s) (s_K s) l g t).2.2.2 &&& (63 - g)) else (ftG (s_n s) (s_K s) l g t) := rfl
    have hno := f_no a ha g (by omega)
    refine r_iload 48 dX7_fits_46 rfl rfl ?_
    refine r_iload_n 49 dX7_fits_48 rfl rfl ?_
    refine r_icmp_gt 95 52 dX7_fits_49 (by decide) rfl (fun z => absurd z (fun z => absurd ((nI_lt' (by omega) (by omega)).mp z) (by omega))) (fun _ => ?_)
    refine r_aload_n 53 dX7_fits_52 rfl rfl ?_
    refine r_iload 55 dX7_fits_53 rfl rfl ?_
    refine r_iload 57 dX7_fits_55 rfl rfl ?_
    refine r_callV (y2 := mX7_isSo) (as := [_, _]) 60 dX7_fits_57 ml_X7_317 mv_X7_isSo (m_isSo (d := d - 1) (l := l) (g := g) (by omega) (by omega) (by omega) hR hS) (by omega) sh_50 ⟨_, rfl, rfl⟩ rfl (Nat.le_of_ble_eq_true rfl) rfl (kk_i ?_)
    rintro _ w1 ⟨rfl, hf⟩
    refine rb_eq 89 63 dX7_fits_60 (by decide) rfl (fun g60 => ?_) (fun g60 => ?_)
    · rw [if_neg g60] at e1
      have nx := ih (g + 1) w1 a (by omega) (hR.fr hf) (hF.trans hf) ha
      rw [e1] at nx
      refine r_iinc 92 (L' := [_, _, _, _, _, _, _, _, _]) (v := nI (g + 1)) dX7_fits_89 rfl (nI_1 g) (by decide) rfl rfl rfl ?_
      refine r_goto 46 dX7_fits_92 (by decide) ?_
      exact nx hA
    · rw [if_pos g60] at e1
      have nx := ih (g + 1) w1 (a ||| g) (by omega) (hR.fr hf) (hF.trans hf) hno.2.2
      rw [e1] at nx
      have nx2 := nx (by show (ftG (s_n s) (s_K s) l g t).2.2.2 &&& (63 - g) = _; rw [hA, Nat.and_assoc, hno.1])
      refine r_iinc 66 (L' := [_, _, _, _, _, _, _, _, _]) (v := nI ((ftG (s_n s) (s_K s) l g t).1 + 1)) dX7_fits_63 rfl (nI_1 _) (by decide) rfl rfl rfl ?_
      refine r_iload 68 dX7_fits_66 rfl rfl ?_
      refine r_iconst 69 (v := 1) dX7_fits_68 (by decide) rfl ?_
      refine r_iload 71 dX7_fits_69 rfl rfl ?_
      refine r_ishl 72 dX7_fits_71 rfl ?_
      refine r_ior 73 dX7_fits_72 rfl ?_
      refine r_eq (f_or _ hB.2.1 l hl).1 ?_
      refine r_istore 75 (L' := [_, _, _, _, _, _, _, _, _]) dX7_fits_73 (by decide) rfl rfl rfl ?_
      refine r_iload 77 dX7_fits_75 rfl rfl ?_
      refine r_iload 79 dX7_fits_77 rfl rfl ?_
      refine r_iand 80 dX7_fits_79 rfl ?_
      refine r_eq (f_an _ hB.2.2.1 g (by omega)).1 ?_
      refine r_istore 82 (L' := [_, _, _, _, _, _, _, _, _]) dX7_fits_80 (by decide) rfl rfl rfl ?_
      refine r_iload 84 dX7_fits_82 rfl rfl ?_
      refine r_iload 86 dX7_fits_84 rfl rfl ?_
      refine r_ior 87 dX7_fits_86 rfl ?_
      refine r_eq hno.2.1 ?_
      refine r_istore 89 (L' := [_, _, _, _, _, _, _, _, _]) dX7_fits_87 (by decide) rfl rfl rfl ?_
      refine r_iinc 92 (L' := [_, _, _, _, _, _, _, _, _]) (v := nI (g + 1)) dX7_fits_89 rfl (nI_1 g) (by decide) rfl rfl rfl ?_
      refine r_goto 46 dX7_fits_92 (by decide) ?_
      exact nx2
set_option maxRecDepth 20000 in
set_option maxHeartbeats 4000000 in
theorem l_fitLM {d : Nat} {q : Int32} {w0 : zW} {s : sT} {T : zX → Prop} (hd : 8 ≤ d) (hS : sV s) (hx : ∀ w a v8, RM w s → frR w0 w → a < 64 → (ftL (s_n s) (s_K s) 5).2.2.2 = (2 ^ s_n s - 1) &&& (63 - a) → WP mX7_fits d T 101 [some (.ref 50), some (.int q), some (.int (nI (2 ^ s_n s - 1))), some (.int (nI (ftL (s_n s) (s_K s) 5).1)), some (.int (nI (ftL (s_n s) (s_K s) 5).2.1)), some (.int (nI (ftL (s_n s) (s_K s) 5).2.2.1)), some (.int (nI a)), some (.int (nI 5)), v8] [] w) : ∀ k l (w : zW) a v8, l + k = 5 → RM w s → frR w0 w → a < 64 → (ftL (s_n s) (s_K s) l).2.2.2 = (2 ^ s_n s - 1) &&& (63 - a) → WP mX7_fits d T 37 [some (.ref 50), some (.int q), some (.int (nI (2 ^ s_n s - 1))), some (.int (nI (ftL (s_n s) (s_K s) l).1)), some (.int (nI (ftL (s_n s) (s_K s) l).2.1)), some (.int (nI (ftL (s_n s) (s_K s) l).2.2.1)), some (.int (nI a)), some (.int (nI l)), v8] [] w := by
  have hn := hS.1.n
  intro k
  induction k with
  | zero =>
    intro l w a v8 hl hR hF ha hA
    have e : l = 5 := by omega
    subst e
    refine r_iload 39 dX7_fits_37 rfl rfl ?_
    refine r_iconst 40 (v := 5) dX7_fits_39 (by decide) rfl ?_
    refine r_icmp_ge 101 43 dX7_fits_40 (by decide) rfl (fun _ => ?_) (fun z => absurd (Int32.le_refl _) z)
    exact hx w a v8 hR hF ha hA
  | succ k ih =>
    intro l w a v8 hl hR hF ha hA
    refine r_iload 39 dX7_fits_37 rfl rfl ?_
    refine r_iconst 40 (v := 5) dX7_fits_39 (by decide) rfl ?_
    refine r_icmp_ge 101 43 dX7_fits_40 (by decide) rfl (fun z => absurd z (fun z => absurd ((nI_le' (a := 5) (by decide) (by omega)).mp z) (by omega))) (fun _ => ?_)
    refine r_iconst 44 (v := 0) dX7_fits_43 (by decide) rfl ?_
    refine r_istore 46 (L' := [_, _, _, _, _, _, _, _, _]) dX7_fits_44 (by decide) rfl rfl rfl ?_
    refine l_fitGM (w0 := w0) (t := ftL (s_n s) (s_K s) l) hd hS (by omega) (ftL_B hn l (by omega)) (by omega) (fun w2 a2 v8 hR2 hF2 ha2 hA2 => ?_) (2 ^ s_n s) 0 w a (Nat.zero_add _) hR hF ha hA
    refine r_iinc 98 (L' := [_, _, _, _, _, _, _, _, _]) (v := nI (l + 1)) dX7_fits_95 rfl (nI_1 l) (by decide) rfl rfl rfl ?_
    refine r_goto 37 dX7_fits_98 (by decide) ?_
    exact ih (l + 1) w2 a2 _ (by omega) hR2 hF2 ha2 hA2
set_option maxRecDepth 20000 in
set_option maxHeartbeats 4000000 in
theorem M_fits {d : Nat} {w : zW} {s : sT} {q : Int32} (hd : 9 ≤ d) (hR : RM w s) (hS : sV s) : AM mX7_fits d [.int q] w (f_fits s q) := by
  have hn := hS.1.n
  refine CT.of [some (.ref 50), some (.int q), none, none, none, none, none, none, none] rfl (Nat.le_of_ble_eq_true rfl) rfl ?_
  refine r_iload_n 1 dX7_fits_0 rfl rfl ?_
  refine r_i2l 2 dX7_fits_1 rfl ?_
  refine r_lconst 3 (v := 0) dX7_fits_2 (by decide) rfl ?_
  refine r_ldc2 6 dX7_fits_3 kl_X7_250 rfl ?_
  refine r_callS (y2 := mX7_in) (as := [_, _, _]) 9 dX7_fits_6 ml_X7_74 ms_X7_in (m_in (d := d - 1) _ _ _) (by omega) rfl (Nat.le_of_ble_eq_true rfl) rfl (kk_i ?_)
  rintro _ _ ⟨rfl, rfl⟩
  refine r_eq (z_bc (in_wi (lo := 0) (hi := 3) rfl rfl)) ?_
  refine rb_ne 14 12 dX7_fits_9 (by decide) rfl (fun g9 => ?_) (fun g9 => ?_)
  · obtain ⟨j, hj, rfl⟩ := wi_of (hi := 3) g9
    have hjs : tN (nI j) = j := tN_n (by omega)
    refine r_iconst 15 (v := 1) dX7_fits_14 (by decide) rfl ?_
    refine r_aload_n 16 dX7_fits_15 rfl rfl ?_
    refine r_geti 19 dX7_fits_16 fz_X7_69 sh_50 rfl rfl ?_
    refine r_eq hR.n ?_
    refine r_ishl 20 dX7_fits_19 rfl ?_
    refine r_eq (b_sl _ (by omega)) ?_
    refine r_iconst 21 (v := 1) dX7_fits_20 (by decide) rfl ?_
    refine r_isub 22 dX7_fits_21 rfl ?_
    refine r_eq (nI_sub (b := 1) (Nat.one_le_two_pow)) ?_
    refine r_istore_n 23 (L' := [_, _, _, _, _, _, _, _, _]) dX7_fits_22 (by decide) rfl rfl rfl ?_
    refine r_iconst 24 (v := 0) dX7_fits_23 (by decide) rfl ?_
    refine r_istore_n 25 (L' := [_, _, _, _, _, _, _, _, _]) dX7_fits_24 (by decide) rfl rfl rfl ?_
    refine r_iconst 26 (v := 0) dX7_fits_25 (by decide) rfl ?_
    refine r_istore 28 (L' := [_, _, _, _, _, _, _, _, _]) dX7_fits_26 (by decide) rfl rfl rfl ?_
    refine r_iload_n 29 dX7_fits_28 rfl rfl ?_
    refine r_istore 31 (L' := [_, _, _, _, _, _, _, _, _]) dX7_fits_29 (by decide) rfl rfl rfl ?_
    refine r_iconst 32 (v := 0) dX7_fits_31 (by decide) rfl ?_
    refine r_istore 34 (L' := [_, _, _, _, _, _, _, _, _]) dX7_fits_32 (by decide) rfl rfl rfl ?_
    refine r_iconst 35 (v := 0) dX7_fits_34 (by decide) rfl ?_
    refine r_istore 37 (L' := [_, _, _, _, _, _, _, _, _]) dX7_fits_35 (by decide) rfl rfl rfl ?_
    refine l_fitLM (w0 := w) (by omega) hS (fun w2 a v8 hR2 hF ha hA => ?_) 5 0 w 0 _ rfl hR frR.rfl (by decide) (a63 (s_n s) (by omega)).symm
    have h64 := p2_le (s_n s) (by omega)
    have hB := ftL_B (n := s_n s) (K := s_K s) hn 5 (by decide)
    have hB1 := hB.1
    refine r_iload_n 102 dX7_fits_101 rfl rfl ?_
    refine r_iconst 103 (v := 2) dX7_fits_102 (by decide) rfl ?_
    refine r_icmp_ge 117 106 dX7_fits_103 (by decide) rfl (fun g103 => ?_) (fun g103 => ?_)
    · have g103 : 2 ≤ j := (nI_le' (a := 2) (by decide) (by omega)).mp g103
      refine r_iload_n 118 dX7_fits_117 rfl rfl ?_
      refine r_if_ne 126 121 dX7_fits_118 (by decide) rfl (fun g118 => ?_) (fun g118 => ?_)
      · have g118 : ¬ (ftL (s_n s) (s_K s) 5).1 = 0 := fun z => g118 (by rw [z]; rfl)
        refine r_iload_n 127 dX7_fits_126 rfl rfl ?_
        refine r_iconst 128 (v := 2) dX7_fits_127 (by decide) rfl ?_
        refine r_icmp_ne 136 131 dX7_fits_128 (by decide) rfl (fun g128 => ?_) (fun g128 => ?_)
        · have g128 : ¬ j = 2 := fun z => g128 (by rw [z]; rfl)
          refine r_iload_n 137 dX7_fits_136 rfl rfl ?_
          refine r_iload 139 dX7_fits_137 rfl rfl ?_
          refine r_iconst 140 (v := -1) dX7_fits_139 (by decide) rfl ?_
          refine r_ixor 141 dX7_fits_140 rfl ?_
          refine r_iand 142 dX7_fits_141 rfl ?_
          refine r_eq (z := nI (ftL (s_n s) (s_K s) 5).2.2.2) (by rw [hA]; exact (f_an _ (by omega) a ha).2.2.1) ?_
          exact r_iret .int dX7_fits_142 rfl (rfl) (by first | exact ⟨by rw [f_fits, if_pos g9, if_neg (show ¬ nI j = 0 from fun z => by have := (nI_inj (b := 0) (by omega) (by decide)).mp z; omega), if_neg (show ¬ nI j = 1 from fun z => by have := (nI_inj (b := 1) (by omega) (by decide)).mp z; omega), if_pos g118], hR2, hF.lo⟩ | exact ⟨by rw [f_fits, if_pos g9, if_neg (show ¬ nI j = 0 from fun z => by have := (nI_inj (b := 0) (by omega) (by decide)).mp z; omega), if_neg (show ¬ nI j = 1 from fun z => by have := (nI_inj (b := 1) (by omega) (by decide)).mp z; omega), if_neg g118, if_pos (show nI j = 2 by rw [show j = 2 by omega]; rfl)], hR2, hF.lo⟩ | exact ⟨by rw [f_fits, if_pos g9, if_neg (show ¬ nI j = 0 from fun z => by have := (nI_inj (b := 0) (by omega) (by decide)).mp z; omega), if_neg (show ¬ nI j = 1 from fun z => by have := (nI_inj (b := 1) (by omega) (by decide)).mp z; omega), if_neg g118, if_neg (show ¬ nI j = 2 from fun z => by have := (nI_inj (b := 2) (by omega) (by decide)).mp z; omega)], hR2, hF.lo⟩)
        · have g128 : j = 2 := (nI_inj (b := 2) (by omega) (by decide)).mp g128
          refine r_iload 133 dX7_fits_131 rfl rfl ?_
          refine r_goto 142 dX7_fits_133 (by decide) ?_
          exact r_iret .int dX7_fits_142 rfl (rfl) (by first | exact ⟨by rw [f_fits, if_pos g9, if_neg (show ¬ nI j = 0 from fun z => by have := (nI_inj (b := 0) (by omega) (by decide)).mp z; omega), if_neg (show ¬ nI j = 1 from fun z => by have := (nI_inj (b := 1) (by omega) (by decide)).mp z; omega), if_pos g118], hR2, hF.lo⟩ | exact ⟨by rw [f_fits, if_pos g9, if_neg (show ¬ nI j = 0 from fun z => by have := (nI_inj (b := 0) (by omega) (by decide)).mp z; omega), if_neg (show ¬ nI j = 1 from fun z => by have := (nI_inj (b := 1) (by omega) (by decide)).mp z; omega), if_neg g118, if_pos (show nI j = 2 by rw [show j = 2 by omega]; rfl)], hR2, hF.lo⟩ | exact ⟨by rw [f_fits, if_pos g9, if_neg (show ¬ nI j = 0 from fun z => by have := (nI_inj (b := 0) (by omega) (by decide)).mp z; omega), if_neg (show ¬ nI j = 1 from fun z => by have := (nI_inj (b := 1) (by omega) (by decide)).mp z; omega), if_neg g118, if_neg (show ¬ nI j = 2 from fun z => by have := (nI_inj (b := 2) (by omega) (by decide)).mp z; omega)], hR2, hF.lo⟩)
      · have g118 : (ftL (s_n s) (s_K s) 5).1 = 0 := (nI_inj (b := 0) (by omega) (by decide)).mp g118
        refine r_bipush 123 (v := -4) dX7_fits_121 (by decide) rfl ?_
        refine r_goto 142 dX7_fits_123 (by decide) ?_
        exact r_iret .int dX7_fits_142 rfl (rfl) (by first | exact ⟨by rw [f_fits, if_pos g9, if_neg (show ¬ nI j = 0 from fun z => by have := (nI_inj (b := 0) (by omega) (by decide)).mp z; omega), if_neg (show ¬ nI j = 1 from fun z => by have := (nI_inj (b := 1) (by omega) (by decide)).mp z; omega), if_pos g118], hR2, hF.lo⟩ | exact ⟨by rw [f_fits, if_pos g9, if_neg (show ¬ nI j = 0 from fun z => by have := (nI_inj (b := 0) (by omega) (by decide)).mp z; omega), if_neg (show ¬ nI j = 1 from fun z => by have := (nI_inj (b := 1) (by omega) (by decide)).mp z; omega), if_neg g118, if_pos (show nI j = 2 by rw [show j = 2 by omega]; rfl)], hR2, hF.lo⟩ | exact ⟨by rw [f_fits, if_pos g9, if_neg (show ¬ nI j = 0 from fun z => by have := (nI_inj (b := 0) (by omega) (by decide)).mp z; omega), if_neg (show ¬ nI j = 1 from fun z => by have := (nI_inj (b := 1) (by omega) (by decide)).mp z; omega), if_neg g118, if_neg (show ¬ nI j = 2 from fun z => by have := (nI_inj (b := 2) (by omega) (by decide)).mp z; omega)], hR2, hF.lo⟩)
    · have g103 : ¬ 2 ≤ j := fun z => g103 ((nI_le' (a := 2) (by decide) (by omega)).mpr z)
      refine r_iload_n 107 dX7_fits_106 rfl rfl ?_
      refine r_if_ne 114 110 dX7_fits_107 (by decide) rfl (fun g107 => ?_) (fun g107 => ?_)
      · have g107 : ¬ j = 0 := fun z => g107 (by rw [z]; rfl)
        refine r_iload 116 dX7_fits_114 rfl rfl ?_
        exact r_iret .int dX7_fits_116 rfl (rfl) (by first | exact ⟨by rw [f_fits, if_pos g9, if_pos (show nI j = 0 by rw [show j = 0 by omega]; rfl)], hR2, hF.lo⟩ | exact ⟨by rw [f_fits, if_pos g9, if_neg (show ¬ nI j = 0 from fun z => by have := (nI_inj (b := 0) (by omega) (by decide)).mp z; omega), if_pos (show nI j = 1 by rw [show j = 1 by omega]; rfl)], hR2, hF.lo⟩)
      · have g107 : j = 0 := (nI_inj (b := 0) (by omega) (by decide)).mp g107
        refine r_iload_n 111 dX7_fits_110 rfl rfl ?_
        refine r_goto 116 dX7_fits_111 (by decide) ?_
        exact r_iret .int dX7_fits_116 rfl (rfl) (by first | exact ⟨by rw [f_fits, if_pos g9, if_pos (show nI j = 0 by rw [show j = 0 by omega]; rfl)], hR2, hF.lo⟩ | exact ⟨by rw [f_fits, if_pos g9, if_neg (show ¬ nI j = 0 from fun z => by have := (nI_inj (b := 0) (by omega) (by decide)).mp z; omega), if_pos (show nI j = 1 by rw [show j = 1 by omega]; rfl)], hR2, hF.lo⟩)
  · refine r_iconst 13 (v := -1) dX7_fits_12 (by decide) rfl ?_
    exact r_iret .int dX7_fits_13 rfl (rfl) (by first | exact ⟨by rw [f_fits, if_neg (g9)], by rw [f_fits, if_neg (g9)]; exact hR, fun _ _ => rfl⟩)

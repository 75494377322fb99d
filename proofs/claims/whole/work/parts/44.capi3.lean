/-! ===== the class: set, alter, lie, cross, table, day, see, forget ===== -/
theorem lo_if {j : Nat} (hj : j < 6) : (nI (if j = 0 then 1 else 0)).toInt = if nI j = 0 then (1 : Int) else 0 := by
  have : ∀ j, j < 6 → (nI (if j = 0 then 1 else 0)).toInt = if nI j = 0 then (1 : Int) else 0 := by decide +kernel
  exact this j hj
theorem wi_of2 {v : Int32} {lo : Int} {hi : Nat} (h : wi v lo hi = true) (h0 : 0 ≤ lo) : ∃ j, j ≤ hi ∧ lo ≤ (j : Int) ∧ v = nI j := by
  simp only [wi, Bool.and_eq_true, decide_eq_true_eq] at h
  exact ⟨v.toInt.toNat, by omega, by omega, ti_nI (by omega)⟩
set_option maxRecDepth 20000 in
set_option maxHeartbeats 4000000 in
theorem C_set {d : Nat} {w : zW} {s : sT} {q v : Int32} (hd : 6 ≤ d) (hR : RC w s) (hS : sV s) : AC mX6_set d [.int q, .int v] w (f_set s q v) := by
  have hn := hS.1.n
  refine CT.of [some (.ref 0), some (.int q), some (.int v), none] rfl (Nat.le_of_ble_eq_true rfl) rfl ?_
  refine r_iload_n 1 dX6_set_0 rfl rfl ?_
  refine r_iconst 2 (v := 0) dX6_set_1 (by decide) rfl ?_
  refine r_iconst 3 (v := 5) dX6_set_2 (by decide) rfl ?_
  refine r_callS (y2 := mX6_within) (as := [_, _, _]) 6 dX6_set_3 ml_X6_67 ms_X6_within (c_within (d := d - 1) _ _ _) (by omega) rfl (Nat.le_of_ble_eq_true rfl) rfl (kk_i ?_)
  rintro _ _ ⟨rfl, rfl⟩
  refine rb_eq 26 9 dX6_set_6 (by decide) rfl (fun g6 => ?_) (fun g6 => ?_)
  · have wq : ¬ wi q 0 5 = true := fun z => g6 (wi_iff.mp z)
    refine r_iconst 27 (v := -1) dX6_set_26 (by decide) rfl ?_
    exact r_iret .int dX6_set_27 rfl (rfl) (by first | exact ⟨by rw [f_set, if_neg (fun z => wq z.1)], by rw [f_set, if_neg (fun z => wq z.1)]; exact hR, fun _ _ => rfl⟩ | exact ⟨by rw [f_set, if_neg (fun z => wv z.2)], by rw [f_set, if_neg (fun z => wv z.2)]; exact hR, fun _ _ => rfl⟩)
  · have wq : wi q 0 5 = true := wi_iff.mpr g6
    obtain ⟨j, hj, rfl⟩ := wi_of (hi := 5) wq
    have hjs : tN (nI j) = j := tN_n (by omega)
    have hmr := mostR_lt j
    refine r_iload_n 10 dX6_set_9 rfl rfl ?_
    refine r_gets (j := 0) 13 dX6_set_10 (by decide) fl_X6_116 rfl ?_
    refine r_iload_n 14 dX6_set_13 rfl rfl ?_
    refine rj_tald 15 (j) 0 dX6_set_14 (by decide) rfl (rfl) (show j < 6 by omega) rfl ?_
    refine r_eq (rl0 j (by omega)) ?_
    refine r_gets (j := 1) 18 dX6_set_15 (by decide) fl_X6_119 rfl ?_
    refine r_iload_n 19 dX6_set_18 rfl rfl ?_
    refine rj_tald 20 (j) 1 dX6_set_19 (by decide) rfl (rfl) (show j < 6 by omega) rfl ?_
    refine r_eq (rl1 j (by omega)) ?_
    refine r_callS (y2 := mX6_within) (as := [_, _, _]) 23 dX6_set_20 ml_X6_67 ms_X6_within (c_within (d := d - 1) _ _ _) (by omega) rfl (Nat.le_of_ble_eq_true rfl) rfl (kk_i ?_)
    rintro _ _ ⟨rfl, rfl⟩
    refine rb_ne 28 26 dX6_set_23 (by decide) rfl (fun g23 => ?_) (fun g23 => ?_)
    · rw [lo_if (by omega), ti_n (by omega)] at g23
      have wv : wi v (if nI j = 0 then 1 else 0) (mostR (tN (nI j))) = true := wi_iff.mpr (by rw [hjs]; exact g23)
      obtain ⟨k, hk, hk0, rfl⟩ := wi_of2 wv (by split <;> omega)
      rw [hjs] at hk
      have hks : tN (nI k) = k := tN_n (by omega)
      refine r_aload_n 29 dX6_set_28 rfl rfl ?_
      refine r_getr 32 dX6_set_29 fz_X6_10 sh_0 rfl rfl ?_
      refine r_getr 35 dX6_set_32 fz_X6_102 sh_1 rfl rfl ?_
      refine r_iload_n 36 dX6_set_35 rfl rfl ?_
      refine rj_iald 37 (j) dX6_set_36 sh_2 (rfl) (by omega) (by decide) rfl ?_
      refine r_eq (hR.1.1 j (by omega)) ?_
      refine r_istore_n 38 (L' := [_, _, _, _]) dX6_set_37 (by decide) rfl rfl rfl ?_
      refine r_aload_n 39 dX6_set_38 rfl rfl ?_
      refine r_getr 42 dX6_set_39 fz_X6_10 sh_0 rfl rfl ?_
      refine r_getr 45 dX6_set_42 fz_X6_102 sh_1 rfl rfl ?_
      refine r_iload_n 46 dX6_set_45 rfl rfl ?_
      refine r_iload_n 47 dX6_set_46 rfl rfl ?_
      refine rj_iast 48 (j) dX6_set_47 sh_2 (rfl) (by omega) (by decide) rfl ?_
      refine r_iload_n 49 dX6_set_48 rfl rfl ?_
      exact r_iret .int dX6_set_49 rfl (rfl) (⟨by rw [f_set, if_pos ⟨wq, wv⟩, hjs], by rw [f_set, if_pos ⟨wq, wv⟩, hjs, hks]; exact hR.lk (fun a ha => z_up_o (by omega)) (hR.1.rule (by omega)), fun a ha => z_up_o (by omega)⟩)
    · rw [lo_if (by omega), ti_n (by omega)] at g23
      have wv : ¬ wi v (if nI j = 0 then 1 else 0) (mostR (tN (nI j))) = true := fun z => g23 (by have := wi_iff.mp z; rw [hjs] at this; exact this)
      refine r_iconst 27 (v := -1) dX6_set_26 (by decide) rfl ?_
      exact r_iret .int dX6_set_27 rfl (rfl) (by first | exact ⟨by rw [f_set, if_neg (fun z => wq z.1)], by rw [f_set, if_neg (fun z => wq z.1)]; exact hR, fun _ _ => rfl⟩ | exact ⟨by rw [f_set, if_neg (fun z => wv z.2)], by rw [f_set, if_neg (fun z => wv z.2)]; exact hR, fun _ _ => rfl⟩)
set_option maxRecDepth 20000 in
set_option maxHeartbeats 4000000 in
theorem C_alter {d : Nat} {w : zW} {s : sT} {b q v : Int32} (hd : 6 ≤ d) (hR : RC w s) (hS : sV s) : AC mX6_alter d [.int b, .int q, .int v] w (f_alter s b q v) := by
  have hn := hS.1.n
  refine CT.of [some (.ref 0), some (.int b), some (.int q), some (.int v), none] rfl (Nat.le_of_ble_eq_true rfl) rfl ?_
  refine r_aload_n 1 dX6_alter_0 rfl rfl ?_
  refine r_iload_n 2 dX6_alter_1 rfl rfl ?_
  refine r_callV (y2 := mX6_isBoat) (as := [_]) 5 dX6_alter_2 ml_X6_105 mv_X6_isBoat (c_isBoat (d := d - 1) (by omega) hn hR.1.2.2.1) (by omega) sh_0 ⟨_, rfl, rfl⟩ rfl (Nat.le_of_ble_eq_true rfl) rfl (kk_i ?_)
  rintro _ _ ⟨rfl, rfl⟩
  refine rb_eq 30 8 dX6_alter_5 (by decide) rfl (fun g5 => ?_) (fun g5 => ?_)
  · refine r_iconst 31 (v := -1) dX6_alter_30 (by decide) rfl ?_
    exact r_iret .int dX6_alter_31 rfl (rfl) (by first | exact ⟨by rw [f_alter, if_neg (fun z => g5 z.1)], by rw [f_alter, if_neg (fun z => g5 z.1)]; exact hR, fun _ _ => rfl⟩ | exact ⟨by rw [f_alter, if_neg (fun z => wq z.2.1)], by rw [f_alter, if_neg (fun z => wq z.2.1)]; exact hR, fun _ _ => rfl⟩ | exact ⟨by rw [f_alter, if_neg (fun z => wv z.2.2)], by rw [f_alter, if_neg (fun z => wv z.2.2)]; exact hR, fun _ _ => rfl⟩)
  · obtain ⟨i, hi, rfl⟩ := iB_of g5
    have his : tN (nI i) = i := tN_n (by omega)
    refine r_iload_n 9 dX6_alter_8 rfl rfl ?_
    refine r_iconst 10 (v := 1) dX6_alter_9 (by decide) rfl ?_
    refine r_iconst 11 (v := 4) dX6_alter_10 (by decide) rfl ?_
    refine r_callS (y2 := mX6_within) (as := [_, _, _]) 14 dX6_alter_11 ml_X6_67 ms_X6_within (c_within (d := d - 1) _ _ _) (by omega) rfl (Nat.le_of_ble_eq_true rfl) rfl (kk_i ?_)
    rintro _ _ ⟨rfl, rfl⟩
    refine rb_eq 30 17 dX6_alter_14 (by decide) rfl (fun g14 => ?_) (fun g14 => ?_)
    · have wq : ¬ wi q 1 4 = true := fun z => g14 (wi_iff.mp z)
      refine r_iconst 31 (v := -1) dX6_alter_30 (by decide) rfl ?_
      exact r_iret .int dX6_alter_31 rfl (rfl) (by first | exact ⟨by rw [f_alter, if_neg (fun z => g5 z.1)], by rw [f_alter, if_neg (fun z => g5 z.1)]; exact hR, fun _ _ => rfl⟩ | exact ⟨by rw [f_alter, if_neg (fun z => wq z.2.1)], by rw [f_alter, if_neg (fun z => wq z.2.1)]; exact hR, fun _ _ => rfl⟩ | exact ⟨by rw [f_alter, if_neg (fun z => wv z.2.2)], by rw [f_alter, if_neg (fun z => wv z.2.2)]; exact hR, fun _ _ => rfl⟩)
    · have wq : wi q 1 4 = true := wi_iff.mpr g14
      obtain ⟨j, hj, hj0, rfl⟩ := wi_of2 (hi := 4) wq (by decide)
      have hjs : tN (nI j) = j := tN_n (by omega)
      have hmm := mostM_lt j
      refine r_iload_n 18 dX6_alter_17 rfl rfl ?_
      refine r_iconst 19 (v := 0) dX6_alter_18 (by decide) rfl ?_
      refine r_gets (j := 3) 22 dX6_alter_19 (by decide) fl_X6_122 rfl ?_
      refine r_iload_n 23 dX6_alter_22 rfl rfl ?_
      refine rj_tald 24 (j) 3 dX6_alter_23 (by decide) rfl (rfl) (show j < 5 by omega) rfl ?_
      refine r_eq (rl3 j (by omega) (by omega)) ?_
      refine r_callS (y2 := mX6_within) (as := [_, _, _]) 27 dX6_alter_24 ml_X6_67 ms_X6_within (c_within (d := d - 1) _ _ _) (by omega) rfl (Nat.le_of_ble_eq_true rfl) rfl (kk_i ?_)
      rintro _ _ ⟨rfl, rfl⟩
      refine rb_ne 32 30 dX6_alter_27 (by decide) rfl (fun g27 => ?_) (fun g27 => ?_)
      · rw [ti_n (by omega)] at g27
        have wv : wi v 0 (mostM (tN (nI j))) = true := wi_iff.mpr (by rw [hjs]; exact g27)
        obtain ⟨k, hk, rfl⟩ := wi_of wv
        rw [hjs] at hk
        have hks : tN (nI k) = k := tN_n (by omega)
        refine r_aload_n 33 dX6_alter_32 rfl rfl ?_
        refine r_getr 36 dX6_alter_33 fz_X6_10 sh_0 rfl rfl ?_
        refine r_iload_n 37 dX6_alter_36 rfl rfl ?_
        refine r_iload_n 38 dX6_alter_37 rfl rfl ?_
        refine r_callV (y2 := mX1_mark) (as := [_, _]) 41 dX6_alter_38 ml_X6_112 mv_X1_mark (c_mark (d := d - 1) (B := 1) (Or.inl rfl) (i := i) (j := j) (by omega) (by omega)) (by omega) sh_1 ⟨_, rfl, rfl⟩ rfl (Nat.le_of_ble_eq_true rfl) rfl (kk_i ?_)
        rintro _ _ ⟨rfl, rfl⟩
        refine r_eq (z := nI (s_K s (6 + 6 * i + j))) (hR.1.2.1 i j hi (by omega)) ?_
        refine r_istore 43 (L' := [_, _, _, _, _]) dX6_alter_41 (by decide) rfl rfl rfl ?_
        refine r_aload_n 44 dX6_alter_43 rfl rfl ?_
        refine r_getr 47 dX6_alter_44 fz_X6_10 sh_0 rfl rfl ?_
        refine r_iload_n 48 dX6_alter_47 rfl rfl ?_
        refine r_iload_n 49 dX6_alter_48 rfl rfl ?_
        refine r_iload_n 50 dX6_alter_49 rfl rfl ?_
        refine r_callV (y2 := mX1_setMark) (as := [_, _, _]) 53 dX6_alter_50 ml_X6_125 mv_X1_setMark (c_setMark (d := d - 1) (B := 1) (Or.inl rfl) (i := i) (j := j) (by omega) (by omega)) (by omega) sh_1 ⟨_, rfl, rfl⟩ rfl (Nat.le_of_ble_eq_true rfl) rfl (kk_v ?_)
        rintro _ rfl
        refine r_iload 55 dX6_alter_53 rfl rfl ?_
        exact r_iret .int dX6_alter_55 rfl (rfl) (⟨by rw [f_alter, if_pos ⟨g5, wq, wv⟩, his, hjs], by rw [f_alter, if_pos ⟨g5, wq, wv⟩, his, hjs, hks]; exact hR.lk (fun a ha => z_up_o (by omega)) (hR.1.mark hn hi (by omega)), fun a ha => z_up_o (by omega)⟩)
      · rw [ti_n (by omega)] at g27
        have wv : ¬ wi v 0 (mostM (tN (nI j))) = true := fun z => g27 (by have := wi_iff.mp z; rw [hjs] at this; exact this)
        refine r_iconst 31 (v := -1) dX6_alter_30 (by decide) rfl ?_
        exact r_iret .int dX6_alter_31 rfl (rfl) (by first | exact ⟨by rw [f_alter, if_neg (fun z => g5 z.1)], by rw [f_alter, if_neg (fun z => g5 z.1)]; exact hR, fun _ _ => rfl⟩ | exact ⟨by rw [f_alter, if_neg (fun z => wq z.2.1)], by rw [f_alter, if_neg (fun z => wq z.2.1)]; exact hR, fun _ _ => rfl⟩ | exact ⟨by rw [f_alter, if_neg (fun z => wv z.2.2)], by rw [f_alter, if_neg (fun z => wv z.2.2)]; exact hR, fun _ _ => rfl⟩)
set_option maxRecDepth 20000 in
set_option maxHeartbeats 4000000 in
theorem C_lie {d : Nat} {w : zW} {s : sT} {b : Int32} {p : Bool} (hd : 6 ≤ d) (hR : RC w s) (hS : sV s) : AC mX6_lie d [.int b, .int (z_b (p = true))] w (f_lie s b p) := by
  have hn := hS.1.n
  refine CT.of [some (.ref 0), some (.int b), some (.int (z_b (p = true))), none] rfl (Nat.le_of_ble_eq_true rfl) rfl ?_
  refine r_aload_n 1 dX6_lie_0 rfl rfl ?_
  refine r_iload_n 2 dX6_lie_1 rfl rfl ?_
  refine r_callV (y2 := mX6_isBoat) (as := [_]) 5 dX6_lie_2 ml_X6_105 mv_X6_isBoat (c_isBoat (d := d - 1) (by omega) hn hR.1.2.2.1) (by omega) sh_0 ⟨_, rfl, rfl⟩ rfl (Nat.le_of_ble_eq_true rfl) rfl (kk_i ?_)
  rintro _ _ ⟨rfl, rfl⟩
  refine rb_ne 10 8 dX6_lie_5 (by decide) rfl (fun g5 => ?_) (fun g5 => ?_)
  · obtain ⟨j, hj, rfl⟩ := iB_of g5
    have hjs : tN (nI j) = j := tN_n (by omega)
    have hg := mk_64 (p := fun c => s_K s (6 + 6 * c + 5) == 1) hn
    have hg : lm (s_n s) (s_K s) < 64 := hg
    refine r_aload_n 11 dX6_lie_10 rfl rfl ?_
    refine r_getr 14 dX6_lie_11 fz_X6_10 sh_0 rfl rfl ?_
    refine r_geti 17 dX6_lie_14 fz_X6_99 sh_1 rfl rfl ?_
    refine r_eq hR.1.2.2.2.1 ?_
    refine r_iload_n 18 dX6_lie_17 rfl rfl ?_
    refine r_ishr 19 dX6_lie_18 rfl ?_
    refine r_iconst 20 (v := 1) dX6_lie_19 (by decide) rfl ?_
    refine r_iand 21 dX6_lie_20 rfl ?_
    refine r_eq (b_sh _ hg j (by omega)) ?_
    refine r_eq (z := nI (s_K s (6 + 6 * j + 5))) (congrArg nI (lm_b hn (fun b hb => hS.1.lie hb) j hj)) ?_
    refine r_istore_n 22 (L' := [_, _, _, _]) dX6_lie_21 (by decide) rfl rfl rfl ?_
    refine r_aload_n 23 dX6_lie_22 rfl rfl ?_
    refine r_getr 26 dX6_lie_23 fz_X6_10 sh_0 rfl rfl ?_
    refine r_iload_n 27 dX6_lie_26 rfl rfl ?_
    refine rb_eq 44 30 dX6_lie_27 (by decide) rfl (fun g27 => ?_) (fun g27 => ?_)
    · have hp : (if p = true then 1 else 0) = 0 := if_neg g27
      have hls := lm_set (v := 0) hn (fun b hb => hS.1.lie hb) hj (by decide)
      refine r_aload_n 45 dX6_lie_44 rfl rfl ?_
      refine r_getr 48 dX6_lie_45 fz_X6_10 sh_0 rfl rfl ?_
      refine r_geti 51 dX6_lie_48 fz_X6_99 sh_1 rfl rfl ?_
      refine r_eq hR.1.2.2.2.1 ?_
      refine r_iconst 52 (v := 1) dX6_lie_51 (by decide) rfl ?_
      refine r_iload_n 53 dX6_lie_52 rfl rfl ?_
      refine r_ishl 54 dX6_lie_53 rfl ?_
      refine r_iconst 55 (v := -1) dX6_lie_54 (by decide) rfl ?_
      refine r_ixor 56 dX6_lie_55 rfl ?_
      refine r_iand 57 dX6_lie_56 rfl ?_
      refine r_eq (z := nI (lm (s_n s) (un (s_K s) (6 + 6 * j + 5) 0))) ?_ ?_
      · rw [hls, if_neg (by decide)]
        rcases bi_01 (lm (s_n s) (s_K s)) j with z | z
        · rw [if_neg (by omega)]; exact b_rmS _ hg j (by omega) z
        · rw [if_pos z]; exact b_rm _ hg j (by omega) z
      refine r_puti 60 dX6_lie_57 fz_X6_99 fw_1_3 sh_1 rfl rfl ?_
      refine r_iload_n 61 dX6_lie_60 rfl rfl ?_
      exact r_iret .int dX6_lie_61 rfl (rfl) (⟨by rw [f_lie, if_pos g5, hjs], by rw [f_lie, if_pos g5, hjs, hp]; exact hR.lk (fun a ha => z_up_o (by omega)) (hR.1.lie hn hj), fun a ha => z_up_o (by omega)⟩)
    · have hp : (if p = true then 1 else 0) = 1 := if_pos g27
      have hls := lm_set (v := 1) hn (fun b hb => hS.1.lie hb) hj (by decide)
      refine r_aload_n 31 dX6_lie_30 rfl rfl ?_
      refine r_getr 34 dX6_lie_31 fz_X6_10 sh_0 rfl rfl ?_
      refine r_geti 37 dX6_lie_34 fz_X6_99 sh_1 rfl rfl ?_
      refine r_eq hR.1.2.2.2.1 ?_
      refine r_iconst 38 (v := 1) dX6_lie_37 (by decide) rfl ?_
      refine r_iload_n 39 dX6_lie_38 rfl rfl ?_
      refine r_ishl 40 dX6_lie_39 rfl ?_
      refine r_ior 41 dX6_lie_40 rfl ?_
      refine r_eq (z := nI (lm (s_n s) (un (s_K s) (6 + 6 * j + 5) 1))) ?_ ?_
      · rw [hls, if_pos rfl]
        rcases bi_01 (lm (s_n s) (s_K s)) j with z | z
        · rw [if_neg (by omega)]; exact b_or _ hg j (by omega) z
        · rw [if_pos z]; exact b_orS _ hg j (by omega) z
      refine r_goto 57 dX6_lie_41 (by decide) ?_
      refine r_puti 60 dX6_lie_57 fz_X6_99 fw_1_3 sh_1 rfl rfl ?_
      refine r_iload_n 61 dX6_lie_60 rfl rfl ?_
      exact r_iret .int dX6_lie_61 rfl (rfl) (⟨by rw [f_lie, if_pos g5, hjs], by rw [f_lie, if_pos g5, hjs, hp]; exact hR.lk (fun a ha => z_up_o (by omega)) (hR.1.lie hn hj), fun a ha => z_up_o (by omega)⟩)
  · refine r_iconst 9 (v := -1) dX6_lie_8 (by decide) rfl ?_
    exact r_iret .int dX6_lie_9 rfl (rfl) (by first | exact ⟨by rw [f_lie, if_neg (g5)], by rw [f_lie, if_neg (g5)]; exact hR, fun _ _ => rfl⟩)
set_option maxRecDepth 20000 in
set_option maxHeartbeats 4000000 in
theorem C_cross {d : Nat} {w : zW} {s : sT} {b : Int32} (hd : 6 ≤ d) (hR : RC w s) (hS : sV s) : AC mX6_cross d [.int b] w (f_cross s b) := by
  have hn := hS.1.n
  refine CT.of [some (.ref 0), some (.int b), none] rfl (Nat.le_of_ble_eq_true rfl) rfl ?_
  refine r_aload_n 1 dX6_cross_0 rfl rfl ?_
  refine r_iload_n 2 dX6_cross_1 rfl rfl ?_
  refine r_callV (y2 := mX6_isBoat) (as := [_]) 5 dX6_cross_2 ml_X6_105 mv_X6_isBoat (c_isBoat (d := d - 1) (by omega) hn hR.1.2.2.1) (by omega) sh_0 ⟨_, rfl, rfl⟩ rfl (Nat.le_of_ble_eq_true rfl) rfl (kk_i ?_)
  rintro _ _ ⟨rfl, rfl⟩
  refine rb_ne 10 8 dX6_cross_5 (by decide) rfl (fun g5 => ?_) (fun g5 => ?_)
  · obtain ⟨j, hj, rfl⟩ := iB_of g5
    have hjs : tN (nI j) = j := tN_n (by omega)
    have hsd : s_K s (6 + 6 * j) ≤ 1 := (hS.1.1.2.2.2.2.2.2.2 j hj).1
    refine r_aload_n 11 dX6_cross_10 rfl rfl ?_
    refine r_getr 14 dX6_cross_11 fz_X6_10 sh_0 rfl rfl ?_
    refine r_iload_n 15 dX6_cross_14 rfl rfl ?_
    refine r_iconst 16 (v := 0) dX6_cross_15 (by decide) rfl ?_
    refine r_callV (y2 := mX1_mark) (as := [_, _]) 19 dX6_cross_16 ml_X6_112 mv_X1_mark (c_mark (d := d - 1) (B := 1) (Or.inl rfl) (i := j) (j := 0) (by omega) (by decide)) (by omega) sh_1 ⟨_, rfl, rfl⟩ rfl (Nat.le_of_ble_eq_true rfl) rfl (kk_i ?_)
    rintro _ _ ⟨rfl, rfl⟩
    refine r_eq (z := nI (s_K s (6 + 6 * j))) (hR.1.2.1 j 0 hj (by decide)) ?_
    refine r_istore_n 20 (L' := [_, _, _]) dX6_cross_19 (by decide) rfl rfl rfl ?_
    refine r_aload_n 21 dX6_cross_20 rfl rfl ?_
    refine r_getr 24 dX6_cross_21 fz_X6_10 sh_0 rfl rfl ?_
    refine r_iload_n 25 dX6_cross_24 rfl rfl ?_
    refine r_iconst 26 (v := 0) dX6_cross_25 (by decide) rfl ?_
    refine r_iload_n 27 dX6_cross_26 rfl rfl ?_
    refine r_callS (y2 := mX6_otherSide) (as := [_]) 30 dX6_cross_27 ml_X6_129 ms_X6_otherSide (c_otherSide (d := d - 1) (s_K s (6 + 6 * j)) (by omega)) (by omega) rfl (Nat.le_of_ble_eq_true rfl) rfl (kk_i ?_)
    rintro _ _ ⟨rfl, rfl⟩
    refine r_callV (y2 := mX1_setMark) (as := [_, _, _]) 33 dX6_cross_30 ml_X6_125 mv_X1_setMark (c_setMark (d := d - 1) (B := 1) (Or.inl rfl) (i := j) (j := 0) (by omega) (by decide)) (by omega) sh_1 ⟨_, rfl, rfl⟩ rfl (Nat.le_of_ble_eq_true rfl) rfl (kk_v ?_)
    rintro _ rfl
    refine r_iload_n 34 dX6_cross_33 rfl rfl ?_
    exact r_iret .int dX6_cross_34 rfl (rfl) (⟨by rw [f_cross, if_pos g5, hjs], by rw [f_cross, if_pos g5, hjs]; exact hR.lk (fun a ha => z_up_o (by omega)) (hR.1.mark (q := 0) hn hj (by decide)), fun a ha => z_up_o (by omega)⟩)
  · refine r_iconst 9 (v := -1) dX6_cross_8 (by decide) rfl ?_
    exact r_iret .int dX6_cross_9 rfl (rfl) (by first | exact ⟨by rw [f_cross, if_neg (g5)], by rw [f_cross, if_neg (g5)]; exact hR, fun _ _ => rfl⟩)
/-- another law -/
theorem kV.law {A n l : Nat} {K : Nat → Nat} (h : kV A n K) (hl : l ≤ 4) : kV A n (un K 3 l) := by
  obtain ⟨h1, h2, h3, h4, h5, h6, h7, h8⟩ := h
  have e : ∀ k, k ≠ 3 → un K 3 l k = K k := fun k hk => un_n hk
  refine ⟨h1, by rw [e 0 (by decide)]; exact h2, by rw [e 1 (by decide)]; exact h3, by rw [e 2 (by decide)]; exact h4, by rw [un_s]; exact hl, by rw [e 4 (by decide)]; exact h6, by rw [e 5 (by decide)]; exact h7, fun b hb => ?_⟩
  rw [e _ (by omega), e _ (by omega), e _ (by omega), e _ (by omega), e _ (by omega), e _ (by omega)]
  exact h8 b hb
theorem lkD.law {w : zW} {B n l : Nat} {K : Nat → Nat} (h : lkD w B n K) : lkD w B n (un K 3 l) := ⟨fun k hk hk3 => by rw [un_n hk3]; exact h.1 k hk hk3, fun b q hb hq => by rw [un_n (by omega)]; exact h.2.1 b q hb hq, h.2.2⟩
theorem meas_law {n l q : Nat} {K : Nat → Nat} {D : dT} : meas n (un K 3 l) D q = meas n K D q := by
  unfold meas
  have e : (fun b => d_s D b * k_wo (un K 3 l) b) = fun b => d_s D b * k_wo K b := by
    funext b
    rw [show k_wo (un K 3 l) b = k_wo K b from un_n (by omega)]
  rw [e]
/-- a day by a law, the liars as told -/
theorem c_lawDay {d l : Nat} {w : zW} {s : sT} (hd : 4 ≤ d) (hR : RC w s) (hS : sV s) (hl : l ≤ 4) : CT mX0_by d [.ref 30, .ref 1, .int (nI l), .int (nI (lm (s_n s) (s_K s))), .int (nI 0)] w (z_v fun w' => dyC w' (s_n s) (un (s_K s) 3 l) (s_n s) (dD (s_n s) (un (s_K s) 3 l)) ∧ ∀ a, (a < 30 ∨ 35 < a) → w' a = w a) := by
  have h := c_by (A := 99) (B := 1) (n := s_n s) (K := un (s_K s) 3 l) (cg := 0) (Lm := lm (s_n s) (s_K s)) hd (Or.inl rfl) (by decide) (hS.1.1.law hl) (mk_64 hS.1.n) (fun b hb => by rw [un_n (by omega)]; exact lm_b hS.1.n (fun b hb => hS.1.lie hb) b hb) (by decide) (w := w) hR.1.D.law
  rw [un_s] at h
  exact h
set_option maxRecDepth 20000 in
set_option maxHeartbeats 4000000 in
theorem C_table {d : Nat} {w : zW} {s : sT} {l q : Int32} (hd : 5 ≤ d) (hR : RC w s) (hS : sV s) : AC mX6_table d [.int l, .int q] w (f_table s l q) := by
  have hn := hS.1.n
  refine CT.of [some (.ref 0), some (.int l), some (.int q)] rfl (Nat.le_of_ble_eq_true rfl) rfl ?_
  refine r_iload_n 1 dX6_table_0 rfl rfl ?_
  refine r_callS (y2 := mX6_isLaw) (as := [_]) 4 dX6_table_1 ml_X6_147 ms_X6_isLaw (c_isLaw (d := d - 1) (by omega)) (by omega) rfl (Nat.le_of_ble_eq_true rfl) rfl (kk_i ?_)
  rintro _ _ ⟨rfl, rfl⟩
  refine rb_eq 14 7 dX6_table_4 (by decide) rfl (fun g4 => ?_) (fun g4 => ?_)
  · refine r_iconst 15 (v := -1) dX6_table_14 (by decide) rfl ?_
    exact r_iret .int dX6_table_15 rfl (rfl) (by first | exact ⟨by rw [f_table, if_neg (fun z => g4 z.1)], hR, fun _ _ => rfl⟩ | exact ⟨by rw [f_table, if_neg (fun z => g11 z.2)], hR, fun _ _ => rfl⟩)
  · obtain ⟨j, hj, rfl⟩ := wi_of (hi := 4) g4
    have hjs : tN (nI j) = j := tN_n (by omega)
    refine r_iload_n 8 dX6_table_7 rfl rfl ?_
    refine r_callS (y2 := mX6_isMeasure) (as := [_]) 11 dX6_table_8 ml_X6_150 ms_X6_isMeasure (c_isMeasure (d := d - 1) (by omega)) (by omega) rfl (Nat.le_of_ble_eq_true rfl) rfl (kk_i ?_)
    rintro _ _ ⟨rfl, rfl⟩
    refine rb_ne 16 14 dX6_table_11 (by decide) rfl (fun g11 => ?_) (fun g11 => ?_)
    · obtain ⟨k, hk, rfl⟩ := wi_of (hi := 4) g11
      have hks : tN (nI k) = k := tN_n (by omega)
      refine r_aload_n 17 dX6_table_16 rfl rfl ?_
      refine r_getr 20 dX6_table_17 fz_X6_42 sh_0 rfl rfl ?_
      refine r_aload_n 21 dX6_table_20 rfl rfl ?_
      refine r_getr 24 dX6_table_21 fz_X6_10 sh_0 rfl rfl ?_
      refine r_iload_n 25 dX6_table_24 rfl rfl ?_
      refine r_aload_n 26 dX6_table_25 rfl rfl ?_
      refine r_getr 29 dX6_table_26 fz_X6_10 sh_0 rfl rfl ?_
      refine r_geti 32 dX6_table_29 fz_X6_99 sh_1 rfl rfl ?_
      refine r_eq hR.1.2.2.2.1 ?_
      refine r_iconst 33 (v := 0) dX6_table_32 (by decide) rfl ?_
      refine r_callV (y2 := mX0_by) (as := [_, _, _, _]) 36 dX6_table_33 ml_X6_153 mv_X0_by (c_lawDay (d := d - 1) (by omega) hR hS hj) (by omega) sh_30 ⟨_, rfl, rfl⟩ rfl (Nat.le_of_ble_eq_true rfl) rfl (kk_v ?_)
      rintro w1 ⟨hC, hF⟩
      have hI := dI_run (cg := 0) (hS.1.1.law hj) (by decide) (s_n s) (Nat.le_refl _)
      refine r_aload_n 37 dX6_table_36 rfl rfl ?_
      refine r_getr 40 dX6_table_37 fz_X6_42 sh_0 rfl rfl ?_
      refine r_iload_n 41 dX6_table_40 rfl rfl ?_
      refine r_callV (y2 := mX0_measure) (as := [_]) 44 dX6_table_41 ml_X6_157 mv_X0_measure (c_measure (d := d - 1) (k := k) (by omega)) (by omega) sh_30 ⟨_, rfl, rfl⟩ rfl (Nat.le_of_ble_eq_true rfl) rfl (kk_i ?_)
      rintro _ _ ⟨rfl, rfl⟩
      refine r_eq (dyC_meas hI hC k (by omega)) ?_
      exact r_iret .int dX6_table_44 rfl (rfl) (⟨by rw [f_table, if_pos ⟨g4, g11⟩, hjs, hks, meas_law]; rfl, hR.fr (d30 hF), (d30 hF).hi⟩)
    · refine r_iconst 15 (v := -1) dX6_table_14 (by decide) rfl ?_
      exact r_iret .int dX6_table_15 rfl (rfl) (by first | exact ⟨by rw [f_table, if_neg (fun z => g4 z.1)], hR, fun _ _ => rfl⟩ | exact ⟨by rw [f_table, if_neg (fun z => g11 z.2)], hR, fun _ _ => rfl⟩)
set_option maxRecDepth 20000 in
set_option maxHeartbeats 4000000 in
theorem C_day {d : Nat} {w : zW} {s : sT} {q : Int32} (hd : 6 ≤ d) (hR : RC w s) (hS : sV s) : AC mX6_day d [.int q] w (f_day s q) := by
  have hn := hS.1.n
  refine CT.of [some (.ref 0), some (.int q)] rfl (Nat.le_of_ble_eq_true rfl) rfl ?_
  refine r_aload_n 1 dX6_day_0 rfl rfl ?_
  refine r_aload_n 2 dX6_day_1 rfl rfl ?_
  refine r_getr 5 dX6_day_2 fz_X6_10 sh_0 rfl rfl ?_
  refine r_getr 8 dX6_day_5 fz_X6_102 sh_1 rfl rfl ?_
  refine r_iconst 9 (v := 3) dX6_day_8 (by decide) rfl ?_
  refine rj_iald 10 (3) dX6_day_9 sh_2 (rfl) (by decide) (by decide) rfl ?_
  refine r_eq (hR.1.1 3 (by decide)) ?_
  refine r_iload_n 11 dX6_day_10 rfl rfl ?_
  refine r_callV (y2 := mX6_table) (as := [_, _]) 14 dX6_day_11 ml_X6_144 mv_X6_table (C_table (d := d - 1) (by omega) hR hS) (by omega) sh_0 ⟨_, rfl, rfl⟩ rfl (Nat.le_of_ble_eq_true rfl) rfl (kk_i ?_)
  rintro _ w1 ⟨rfl, hR1, h1⟩
  exact r_iret .int dX6_day_14 rfl (rfl) (⟨by rw [f_day, f_table, wi_n (by have := hS.1.1.2.2.2.2.1; omega), tN_n (by have := hS.1.1.2.2.2.2.1; omega)]; have h3 := hS.1.1.2.2.2.2.1; have e : un (s_K s) 3 (s_K s 3) = s_K s := by { funext k; by_cases hk : k = 3; { rw [hk, un_s] }; { rw [un_n hk] } }; rw [e]; by_cases hq : wi q 0 4 = true; { rw [if_pos hq, if_pos ⟨by simp; omega, hq⟩] }; { rw [if_neg hq, if_neg (fun z => hq z.2)] }, hR1, h1⟩)
theorem lkF.see {w : zW} {n i b : Nat} {K : Nat → Nat} (h : lkF w 1 n K) (hn : n ≤ 6) (hm : K 42 < 6) : lkF (z_up (z_up (z_up w (1 + 3) (K 42) (nI i)) (1 + 4) (K 42) (nI b)) 1 4 (nI (K 42 + 1))) 1 n (un (un (un K (43 + 2 * K 42) i) (44 + 2 * K 42) b) 42 (K 42 + 1)) := by
  obtain ⟨h1, h2, h3, h4, h5, h6⟩ := h
  have e : ∀ k, k < 42 → un (un (un K (43 + 2 * K 42) i) (44 + 2 * K 42) b) 42 (K 42 + 1) k = K k := fun k hk => by rw [un_n (by omega), un_n (by omega), un_n (by omega)]
  refine ⟨fun k hk => ?_, fun b' q' hb' hq' => ?_, ?_, ?_, ?_, fun j hj => ?_⟩
  · rw [z_up_a (by decide), z_up_a (by decide), z_up_a (by decide), e k (by omega)]; exact h1 k hk
  · rw [z_up_a (by decide), z_up_a (by decide), z_up_a (by decide), e _ (by omega)]; exact h2 b' q' hb' hq'
  · rw [z_up_i (by decide), z_up_a (by decide), z_up_a (by decide)]; exact h3
  · rw [z_up_i (by decide), z_up_a (by decide), z_up_a (by decide), lm_congr (K := K) (fun c _ => e _ (by omega))]; exact h4
  · rw [z_up_s, un_s]
  · rw [un_s] at hj
    by_cases q : j = K 42
    · subst q
      refine ⟨?_, ?_⟩
      · rw [z_up_a (by decide), z_up_a (by decide), z_up_s, un_n (by omega), un_n (by omega), un_s]
      · rw [z_up_a (by decide), z_up_s, un_n (by omega), un_s]
    · refine ⟨?_, ?_⟩
      · rw [z_up_a (by decide), z_up_a (by decide), z_up_i q, un_n (by omega), un_n (by omega), un_n (by omega)]; exact (h6 j (by omega)).1
      · rw [z_up_a (by decide), z_up_i q, z_up_a (by decide), un_n (by omega), un_n (by omega), un_n (by omega)]; exact (h6 j (by omega)).2
theorem lkF.forget {w : zW} {n m : Nat} {K : Nat → Nat} (h : lkF w 1 n K) (hn : n ≤ 6) (hm : m ≤ K 42) : lkF (z_up w 1 4 (nI m)) 1 n (un K 42 m) := by
  obtain ⟨h1, h2, h3, h4, h5, h6⟩ := h
  refine ⟨fun k hk => ?_, fun b' q' hb' hq' => ?_, ?_, ?_, ?_, fun j hj => ?_⟩
  · rw [z_up_a (by decide), un_n (by omega)]; exact h1 k hk
  · rw [z_up_a (by decide), un_n (by omega)]; exact h2 b' q' hb' hq'
  · rw [z_up_i (by decide)]; exact h3
  · rw [z_up_i (by decide), lm_congr (K := K) (fun c _ => un_n (by omega))]; exact h4
  · rw [z_up_s, un_s]
  · rw [un_s] at hj
    rw [z_up_a (by decide), z_up_a (by decide), un_n (by omega), un_n (by omega)]; exact h6 j (by omega)
set_option maxRecDepth 20000 in
set_option maxHeartbeats 4000000 in
theorem C_see {d : Nat} {w : zW} {s : sT} {i b : Int32} (hd : 6 ≤ d) (hR : RC w s) (hS : sV s) : AC mX6_see d [.int i, .int b] w (f_see s i b) := by
  have hn := hS.1.n
  refine CT.of [some (.ref 0), some (.int i), some (.int b)] rfl (Nat.le_of_ble_eq_true rfl) rfl ?_
  refine r_aload_n 1 dX6_see_0 rfl rfl ?_
  refine r_iload_n 2 dX6_see_1 rfl rfl ?_
  refine r_callV (y2 := mX6_isBoat) (as := [_]) 5 dX6_see_2 ml_X6_105 mv_X6_isBoat (c_isBoat (d := d - 1) (by omega) hn hR.1.2.2.1) (by omega) sh_0 ⟨_, rfl, rfl⟩ rfl (Nat.le_of_ble_eq_true rfl) rfl (kk_i ?_)
  rintro _ _ ⟨rfl, rfl⟩
  refine rb_eq 16 8 dX6_see_5 (by decide) rfl (fun g5 => ?_) (fun g5 => ?_)
  · refine r_iconst 17 (v := -1) dX6_see_16 (by decide) rfl ?_
    exact r_iret .int dX6_see_17 rfl (rfl) (by first | exact ⟨by rw [f_see, if_neg (fun z => g5 z.1)], by rw [f_see, if_neg (fun z => g5 z.1)]; exact hR, fun _ _ => rfl⟩ | exact ⟨by rw [f_see, if_neg (fun z => g13 z.2)], by rw [f_see, if_neg (fun z => g13 z.2)]; exact hR, fun _ _ => rfl⟩)
  · obtain ⟨j, hj, rfl⟩ := iB_of g5
    have hjs : tN (nI j) = j := tN_n (by omega)
    refine r_aload_n 9 dX6_see_8 rfl rfl ?_
    refine r_iload_n 10 dX6_see_9 rfl rfl ?_
    refine r_callV (y2 := mX6_isBoat) (as := [_]) 13 dX6_see_10 ml_X6_105 mv_X6_isBoat (c_isBoat (d := d - 1) (by omega) hn hR.1.2.2.1) (by omega) sh_0 ⟨_, rfl, rfl⟩ rfl (Nat.le_of_ble_eq_true rfl) rfl (kk_i ?_)
    rintro _ _ ⟨rfl, rfl⟩
    refine rb_ne 18 16 dX6_see_13 (by decide) rfl (fun g13 => ?_) (fun g13 => ?_)
    · obtain ⟨k, hk, rfl⟩ := iB_of g13
      have hks : tN (nI k) = k := tN_n (by omega)
      refine r_aload_n 19 dX6_see_18 rfl rfl ?_
      refine r_getr 22 dX6_see_19 fz_X6_10 sh_0 rfl rfl ?_
      refine r_iload_n 23 dX6_see_22 rfl rfl ?_
      refine r_iload_n 24 dX6_see_23 rfl rfl ?_
      refine r_callV (y2 := mX1_addSeen) (as := [_, _]) 27 dX6_see_24 ml_X6_233 mv_X1_addSeen (c_addSeen (d := d - 1) (B := 1) (m := s_K s 42) (Or.inl rfl) hS.1.2.1 hR.1.2.2.2.2.1) (by omega) sh_1 ⟨_, rfl, rfl⟩ rfl (Nat.le_of_ble_eq_true rfl) rfl (kk_i ?_)
      rintro _ w1 ⟨rfl, hw⟩
      refine rb_eq 40 30 dX6_see_27 (by decide) rfl (fun g27 => ?_) (fun g27 => ?_)
      · rw [if_neg g27] at hw
        subst hw
        refine r_bipush 42 (v := -3) dX6_see_40 (by decide) rfl ?_
        exact r_iret .int dX6_see_42 rfl (rfl) (by first | exact ⟨by rw [f_see, if_pos ⟨g5, g13⟩, if_neg g27], by rw [f_see, if_pos ⟨g5, g13⟩, if_neg g27]; exact hR, fun _ _ => rfl⟩ | exact ⟨by rw [f_see, if_pos ⟨g5, g13⟩, if_pos g27], by rw [f_see, if_pos ⟨g5, g13⟩, if_pos g27, hjs, hks]; exact hR.lk (fun a ha => by rw [← hw, z_up_o (by omega), z_up_o (by omega), z_up_o (by omega)]) (by rw [← hw]; exact hR.1.see hn g27), fun a ha => by rw [← hw, z_up_o (by omega), z_up_o (by omega), z_up_o (by omega)]⟩)
      · rw [if_pos g27] at hw
        refine r_aload_n 31 dX6_see_30 rfl rfl ?_
        refine r_getr 34 dX6_see_31 fz_X6_10 sh_0 rfl rfl ?_
        refine r_geti 37 dX6_see_34 fz_X6_236 sh_1 rfl rfl ?_
        refine r_eq (z := nI (s_K s 42 + 1)) (by rw [← hw, z_up_s]) ?_
        refine r_goto 42 dX6_see_37 (by decide) ?_
        exact r_iret .int dX6_see_42 rfl (rfl) (by first | exact ⟨by rw [f_see, if_pos ⟨g5, g13⟩, if_neg g27], by rw [f_see, if_pos ⟨g5, g13⟩, if_neg g27]; exact hR, fun _ _ => rfl⟩ | exact ⟨by rw [f_see, if_pos ⟨g5, g13⟩, if_pos g27], by rw [f_see, if_pos ⟨g5, g13⟩, if_pos g27, hjs, hks]; exact hR.lk (fun a ha => by rw [← hw, z_up_o (by omega), z_up_o (by omega), z_up_o (by omega)]) (by rw [← hw]; exact hR.1.see hn g27), fun a ha => by rw [← hw, z_up_o (by omega), z_up_o (by omega), z_up_o (by omega)]⟩)
    · refine r_iconst 17 (v := -1) dX6_see_16 (by decide) rfl ?_
      exact r_iret .int dX6_see_17 rfl (rfl) (by first | exact ⟨by rw [f_see, if_neg (fun z => g5 z.1)], by rw [f_see, if_neg (fun z => g5 z.1)]; exact hR, fun _ _ => rfl⟩ | exact ⟨by rw [f_see, if_neg (fun z => g13 z.2)], by rw [f_see, if_neg (fun z => g13 z.2)]; exact hR, fun _ _ => rfl⟩)
set_option maxRecDepth 20000 in
set_option maxHeartbeats 4000000 in
theorem C_forget {d : Nat} {w : zW} {s : sT} {m : Int32} (hd : 6 ≤ d) (hR : RC w s) (hS : sV s) : AC mX6_forget d [.int m] w (f_forget s m) := by
  have hn := hS.1.n
  refine CT.of [some (.ref 0), some (.int m), none] rfl (Nat.le_of_ble_eq_true rfl) rfl ?_
  refine r_iload_n 1 dX6_forget_0 rfl rfl ?_
  refine r_iconst 2 (v := 0) dX6_forget_1 (by decide) rfl ?_
  refine r_aload_n 3 dX6_forget_2 rfl rfl ?_
  refine r_getr 6 dX6_forget_3 fz_X6_10 sh_0 rfl rfl ?_
  refine r_geti 9 dX6_forget_6 fz_X6_236 sh_1 rfl rfl ?_
  refine r_eq hR.1.2.2.2.2.1 ?_
  refine r_callS (y2 := mX6_within) (as := [_, _, _]) 12 dX6_forget_9 ml_X6_67 ms_X6_within (c_within (d := d - 1) _ _ _) (by omega) rfl (Nat.le_of_ble_eq_true rfl) rfl (kk_i ?_)
  rintro _ _ ⟨rfl, rfl⟩
  refine rb_ne 17 15 dX6_forget_12 (by decide) rfl (fun g12 => ?_) (fun g12 => ?_)
  · have h42 := hS.1.2.1
    rw [ti_n (by omega)] at g12
    have wq : wi m 0 (s_K s 42) = true := wi_iff.mpr g12
    obtain ⟨j, hj, rfl⟩ := wi_of wq
    have hjs : tN (nI j) = j := tN_n (by omega)
    refine r_aload_n 18 dX6_forget_17 rfl rfl ?_
    refine r_getr 21 dX6_forget_18 fz_X6_10 sh_0 rfl rfl ?_
    refine r_geti 24 dX6_forget_21 fz_X6_236 sh_1 rfl rfl ?_
    refine r_eq hR.1.2.2.2.2.1 ?_
    refine r_istore_n 25 (L' := [_, _, _]) dX6_forget_24 (by decide) rfl rfl rfl ?_
    refine r_aload_n 26 dX6_forget_25 rfl rfl ?_
    refine r_getr 29 dX6_forget_26 fz_X6_10 sh_0 rfl rfl ?_
    refine r_iload_n 30 dX6_forget_29 rfl rfl ?_
    refine r_puti 33 dX6_forget_30 fz_X6_236 fw_1_4 sh_1 rfl rfl ?_
    refine r_iload_n 34 dX6_forget_33 rfl rfl ?_
    exact r_iret .int dX6_forget_34 rfl (rfl) (⟨by rw [f_forget, if_pos wq], by rw [f_forget, if_pos wq, hjs]; exact hR.lk (fun a ha => z_up_o (by omega)) (hR.1.forget hn hj), fun a ha => z_up_o (by omega)⟩)
  · have h42 := hS.1.2.1
    rw [ti_n (by omega)] at g12
    have wq : ¬ wi m 0 (s_K s 42) = true := fun z => g12 (wi_iff.mp z)
    refine r_iconst 16 (v := -1) dX6_forget_15 (by decide) rfl ?_
    exact r_iret .int dX6_forget_16 rfl (rfl) (by first | exact ⟨by rw [f_forget, if_neg (wq)], by rw [f_forget, if_neg (wq)]; exact hR, fun _ _ => rfl⟩)

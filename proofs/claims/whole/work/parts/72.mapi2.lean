/-! ===== the reference: images, sheets, counts ===== -/
theorem bi_zb {g j : Nat} : nI (bi g j) = z_b (bi g j = 1) := by
  rcases bi_01 g j with h | h <;> rw [h] <;> rfl
theorem nar1 : vp_nar .boolean (1 : Int32) = 1 := by decide +kernel
set_option maxRecDepth 20000 in
set_option maxHeartbeats 4000000 in
theorem M_keep {d : Nat} {w : zW} {s : sT} {k : Int32} (hd : 8 ≤ d) (hR : RM w s) (hS : sV s) : AM mX7_keep d [.int k] w (f_keep s k) := by
  have hn := hS.1.n
  refine CT.of [some (.ref 50), some (.int k), none] rfl (Nat.le_of_ble_eq_true rfl) rfl ?_
  refine r_iload_n 1 dX7_keep_0 rfl rfl ?_
  refine r_i2l 2 dX7_keep_1 rfl ?_
  refine r_lconst 3 (v := 0) dX7_keep_2 (by decide) rfl ?_
  refine r_lconst 4 (v := 1) dX7_keep_3 (by decide) rfl ?_
  refine r_callS (y2 := mX7_in) (as := [_, _, _]) 7 dX7_keep_4 ml_X7_74 ms_X7_in (m_in (d := d - 1) _ _ _) (by omega) rfl (Nat.le_of_ble_eq_true rfl) rfl (kk_i ?_)
  rintro _ _ ⟨rfl, rfl⟩
  refine r_eq (z_bc (in_wi (lo := 0) (hi := 1) rfl rfl)) ?_
  refine rb_ne 12 10 dX7_keep_7 (by decide) rfl (fun g7 => ?_) (fun g7 => ?_)
  · obtain ⟨j, hj, rfl⟩ := wi_of (hi := 1) g7
    have hjs : tN (nI j) = j := tN_n (by omega)
    refine r_aload_n 13 dX7_keep_12 rfl rfl ?_
    refine r_getr 16 dX7_keep_13 fz_X7_16 sh_50 rfl rfl ?_
    refine r_iload_n 17 dX7_keep_16 rfl rfl ?_
    refine rj_zald 18 (j) dX7_keep_17 sh_53 (rfl) (by omega) (by decide) rfl ?_
    refine r_eq (z := z_b (bi (s_kp s) j = 1)) ((hR.2.1 j (by omega)).1.trans bi_zb) ?_
    refine r_callS (y2 := mX7_flag) (as := [_]) 21 dX7_keep_18 ml_X7_184 ms_X7_flag (m_flag (d := d - 1) _) (by omega) rfl (Nat.le_of_ble_eq_true rfl) rfl (kk_i ?_)
    rintro _ _ ⟨rfl, rfl⟩
    refine r_istore_n 22 (L' := [_, _, _]) dX7_keep_21 (by decide) rfl rfl rfl ?_
    refine r_aload_n 23 dX7_keep_22 rfl rfl ?_
    refine r_getr 26 dX7_keep_23 fz_X7_16 sh_50 rfl rfl ?_
    refine r_iload_n 27 dX7_keep_26 rfl rfl ?_
    refine r_iconst 28 (v := 1) dX7_keep_27 (by decide) rfl ?_
    refine rj_zast 29 (j) dX7_keep_28 sh_53 (rfl) (by omega) (by decide) rfl ?_
    rw [nar1]
    refine r_nw (fun w1 e1 => ?_)
    refine r_aload_n 30 dX7_keep_29 rfl rfl ?_
    refine r_bipush 32 (v := 55) dX7_keep_30 (by decide) rfl ?_
    refine r_iload_n 33 dX7_keep_32 rfl rfl ?_
    refine r_iconst 34 (v := 1) dX7_keep_33 (by decide) rfl ?_
    refine r_iadd 35 dX7_keep_34 rfl ?_
    refine r_eq (nI_1 j) ?_
    refine r_imul 36 dX7_keep_35 rfl ?_
    refine r_eq (z := nI (55 * (j + 1))) (nI_mul 55 _) ?_
    refine r_iconst 37 (v := 0) dX7_keep_36 (by decide) rfl ?_
    refine r_callV (y2 := mX7_copies) (as := [_, _]) 40 dX7_keep_37 ml_X7_324 mv_X7_copies (m_copies (d := d - 1) (a := 55 * (j + 1)) (b := 0) (by omega) (by decide) (by omega)) (by omega) sh_50 ⟨_, rfl, rfl⟩ rfl (Nat.le_of_ble_eq_true rfl) rfl (kk_v ?_)
    rintro w2 ⟨c1, c2, c3⟩
    refine r_iload_n 41 dX7_keep_40 rfl rfl ?_
    have o51 : w1 51 = w 51 := by rw [e1, z_up_o (by decide)]
    have oo : ∀ a, a ≠ 51 → a ≠ 53 → w2 a = w a := fun a h1 h2 => by rw [c3 a h1, e1, z_up_o h2]
    have o53 : w2 53 = z_up w 53 j 1 53 := by rw [c3 53 (by decide), e1]
    obtain ⟨r1, r2, r3, r4, r5, r6⟩ := id hR
    have key : RM w2 (u_im s (if bi (s_kp s) j = 1 then s_kp s else s_kp s + 2 ^ j) (fun i => if i = j then s_K s else s_im s i)) := by
      refine ⟨⟨fun k hk => ?_, by rw [oo 50 (by decide) (by decide)]; exact r1.2⟩, fun k hk => ⟨?_, fun hb i hi => ?_⟩, ⟨by rw [oo 50 (by decide) (by decide)]; exact r3.1, fun i hi => by rw [oo 55 (by decide) (by decide)]; exact r3.2 i hi⟩, by rw [oo 50 (by decide) (by decide)]; exact r4, fun k hk => ?_, by rw [oo 50 (by decide) (by decide)]; exact r6⟩
      · rw [c2 (0 + k) (by omega), o51]; exact r1.1 k hk
      · show w2 53 k = nI (bi (if bi (s_kp s) j = 1 then s_kp s else s_kp s + 2 ^ j) k)
        rw [bi_kp _ hS.2.1.1 j (by omega) k hk, o53]
        by_cases e : k = j
        · rw [e, z_up_s, if_pos rfl]; rfl
        · rw [z_up_i e, if_neg e]; exact (r2 k hk).1
      · show w2 51 (55 * (k + 1) + i) = nI ((if k = j then s_K s else s_im s k) i)
        by_cases e : k = j
        · rw [e, if_pos rfl, c1 i hi, o51]; exact r1.1 i hi
        · rw [if_neg e, c2 _ (by omega), o51]
          have hb2 : bi (if bi (s_kp s) j = 1 then s_kp s else s_kp s + 2 ^ j) k = 1 := hb
          rw [bi_kp _ hS.2.1.1 j (by omega) k hk, if_neg e] at hb2
          exact (r2 k hk).2 hb2 i hi
      · have := r5 k hk
        rw [oo 60 (by decide) (by decide), oo 61 (by decide) (by decide), oo 62 (by decide) (by decide)]
        exact this
    exact r_iret .int dX7_keep_41 rfl (rfl) (⟨by rw [f_keep, if_pos g7, hjs]; exact bi_zb, by rw [f_keep, if_pos g7, hjs]; exact key, fun a ha => oo a (by omega) (by omega)⟩)
  · refine r_iconst 11 (v := -1) dX7_keep_10 (by decide) rfl ?_
    exact r_iret .int dX7_keep_11 rfl (rfl) (by first | exact ⟨by rw [f_keep, if_neg (g7)], by rw [f_keep, if_neg (g7)]; exact hR, fun _ _ => rfl⟩)
set_option maxRecDepth 20000 in
set_option maxHeartbeats 4000000 in
theorem M_back {d : Nat} {w : zW} {s : sT} {k : Int32} (hd : 8 ≤ d) (hR : RM w s) (hS : sV s) : AM mX7_back d [.int k] w (f_back s k) := by
  have hn := hS.1.n
  refine CT.of [some (.ref 50), some (.int k)] rfl (Nat.le_of_ble_eq_true rfl) rfl ?_
  refine r_iload_n 1 dX7_back_0 rfl rfl ?_
  refine r_i2l 2 dX7_back_1 rfl ?_
  refine r_lconst 3 (v := 0) dX7_back_2 (by decide) rfl ?_
  refine r_lconst 4 (v := 1) dX7_back_3 (by decide) rfl ?_
  refine r_callS (y2 := mX7_in) (as := [_, _, _]) 7 dX7_back_4 ml_X7_74 ms_X7_in (m_in (d := d - 1) _ _ _) (by omega) rfl (Nat.le_of_ble_eq_true rfl) rfl (kk_i ?_)
  rintro _ _ ⟨rfl, rfl⟩
  refine r_eq (z_bc (in_wi (lo := 0) (hi := 1) rfl rfl)) ?_
  refine rb_ne 12 10 dX7_back_7 (by decide) rfl (fun g7 => ?_) (fun g7 => ?_)
  · obtain ⟨j, hj, rfl⟩ := wi_of (hi := 1) g7
    have hjs : tN (nI j) = j := tN_n (by omega)
    refine r_aload_n 13 dX7_back_12 rfl rfl ?_
    refine r_getr 16 dX7_back_13 fz_X7_16 sh_50 rfl rfl ?_
    refine r_iload_n 17 dX7_back_16 rfl rfl ?_
    refine rj_zald 18 (j) dX7_back_17 sh_53 (rfl) (by omega) (by decide) rfl ?_
    refine r_eq (z := z_b (bi (s_kp s) j = 1)) ((hR.2.1 j (by omega)).1.trans bi_zb) ?_
    refine r_if_ne 24 21 dX7_back_18 (by decide) rfl (fun g18 => ?_) (fun g18 => ?_)
    · have g18 : bi (s_kp s) j = 1 := Classical.byContradiction fun z => g18 (z_bn z)
      refine r_aload_n 25 dX7_back_24 rfl rfl ?_
      refine r_iconst 26 (v := 0) dX7_back_25 (by decide) rfl ?_
      refine r_bipush 28 (v := 55) dX7_back_26 (by decide) rfl ?_
      refine r_iload_n 29 dX7_back_28 rfl rfl ?_
      refine r_iconst 30 (v := 1) dX7_back_29 (by decide) rfl ?_
      refine r_iadd 31 dX7_back_30 rfl ?_
      refine r_eq (nI_1 j) ?_
      refine r_imul 32 dX7_back_31 rfl ?_
      refine r_eq (z := nI (55 * (j + 1))) (nI_mul 55 _) ?_
      refine r_callV (y2 := mX7_copies) (as := [_, _]) 35 dX7_back_32 ml_X7_324 mv_X7_copies (m_copies (d := d - 1) (a := 0) (b := 55 * (j + 1)) (by decide) (by omega) (by omega)) (by omega) sh_50 ⟨_, rfl, rfl⟩ rfl (Nat.le_of_ble_eq_true rfl) rfl (kk_v ?_)
      rintro w2 ⟨c1, c2, c3⟩
      obtain ⟨r1, r2, r3, r4, r5, r6⟩ := id hR
      have key : RM w2 (u_lk s (s_n s) (s_im s j)) := by
        refine ⟨⟨fun k hk => ?_, by rw [c3 50 (by decide)]; exact r1.2⟩, fun k hk => ⟨by rw [c3 53 (by decide)]; exact (r2 k hk).1, fun hb i hi => ?_⟩, ⟨by rw [c3 50 (by decide)]; exact r3.1, fun i hi => by rw [c3 55 (by decide)]; exact r3.2 i hi⟩, by rw [c3 50 (by decide)]; exact r4, fun k hk => ?_, by rw [c3 50 (by decide)]; exact r6⟩
        · rw [c1 k hk]; exact (r2 j (by omega)).2 g18 k hk
        · rw [c2 _ (by omega)]; exact (r2 k hk).2 hb i hi
        · have := r5 k hk
          rw [c3 60 (by decide), c3 61 (by decide), c3 62 (by decide)]
          exact this
      have hS2 : sV (u_lk s (s_n s) (s_im s j)) := hS.lk (hS.2.1.2 j (by omega) g18)
      refine r_aload_n 36 dX7_back_35 rfl rfl ?_
      refine r_callV (y2 := mX7_dayNow) (as := []) 39 dX7_back_36 ml_X7_256 mv_X7_dayNow (m_dayNow (d := d - 1) (by omega) key hS2) (by omega) sh_50 ⟨_, rfl, rfl⟩ rfl (Nat.le_of_ble_eq_true rfl) rfl (kk_v ?_)
      rintro w3 ⟨hC, hL, hf⟩
      refine r_aload_n 40 dX7_back_39 rfl rfl ?_
      refine r_iconst 41 (v := 3) dX7_back_40 (by decide) rfl ?_
      refine r_callV (y2 := mX7_tells) (as := [_]) 44 dX7_back_41 ml_X7_259 mv_X7_tells (m_tells (d := d - 1) (q := 3) (by omega) (by decide) hS2.1.1 hL (dI_D hS2.1.1 (by decide)) hC d_f0) (by omega) sh_50 ⟨_, rfl, rfl⟩ rfl (Nat.le_of_ble_eq_true rfl) rfl (kk_i ?_)
      rintro _ _ ⟨rfl, rfl⟩
      exact r_iret .int dX7_back_44 rfl (rfl) (⟨by rw [f_back, if_pos g7, hjs, if_pos g18]; rfl, by rw [f_back, if_pos g7, hjs, if_pos g18]; exact key.fr hf, fun a ha => by rw [hf.lo a ha, c3 a (by omega)]⟩)
    · have g18 : ¬ bi (s_kp s) j = 1 := z_be.mp g18
      refine r_bipush 23 (v := -2) dX7_back_21 (by decide) rfl ?_
      exact r_iret .int dX7_back_23 rfl (rfl) (⟨by rw [f_back, if_pos g7, hjs, if_neg g18], by rw [f_back, if_pos g7, hjs, if_neg g18]; exact hR, fun _ _ => rfl⟩)
  · refine r_iconst 11 (v := -1) dX7_back_10 (by decide) rfl ?_
    exact r_iret .int dX7_back_11 rfl (rfl) (by first | exact ⟨by rw [f_back, if_neg (g7)], by rw [f_back, if_neg (g7)]; exact hR, fun _ _ => rfl⟩)
set_option maxRecDepth 20000 in
set_option maxHeartbeats 4000000 in
theorem l_sheetM {d j : Nat} {l n : Int32} {w0 : zW} {T : zX → Prop} (hj : j < 4) (hx : ∀ w, (∀ q, q < 40 → w 62 (40 * j + q) = 0) → (∀ q, q < 40 * j ∨ 40 * j + 40 ≤ q → w 62 q = w0 62 q) → (∀ a, a ≠ 62 → w a = w0 a) → WP mX7_sheet d T 66 [some (.ref 50), some (.int (nI j)), some (.int l), some (.int n), some (.int (nI 40))] [] w) : ∀ k i (w : zW), i + k = 40 → (∀ q, q < i → w 62 (40 * j + q) = 0) → (∀ q, q < 40 * j ∨ 40 * j + 40 ≤ q → w 62 q = w0 62 q) → (∀ a, a ≠ 62 → w a = w0 a) → WP mX7_sheet d T 40 [some (.ref 50), some (.int (nI j)), some (.int l), some (.int n), some (.int (nI i))] [] w := by
  intro k
  induction k with
  | zero =>
    intro i w hi h1 h2 h3
    have e : i = 40 := by omega
    subst e
    refine r_iload 42 dX7_sheet_40 rfl rfl ?_
    refine r_bipush 44 (v := 40) dX7_sheet_42 (by decide) rfl ?_
    refine r_icmp_ge 66 47 dX7_sheet_44 (by decide) rfl (fun _ => ?_) (fun z => absurd (Int32.le_refl _) z)
    exact hx w h1 h2 h3
  | succ k ih =>
    intro i w hi h1 h2 h3
    refine r_iload 42 dX7_sheet_40 rfl rfl ?_
    refine r_bipush 44 (v := 40) dX7_sheet_42 (by decide) rfl ?_
    refine r_icmp_ge 66 47 dX7_sheet_44 (by decide) rfl (fun z => absurd z (fun z => absurd ((nI_le' (a := 40) (by decide) (by omega)).mp z) (by omega))) (fun _ => ?_)
    refine r_aload_n 48 dX7_sheet_47 rfl rfl ?_
    refine r_getr 51 dX7_sheet_48 fz_X7_44 sh_50 rfl rfl ?_
    refine r_bipush 53 (v := 40) dX7_sheet_51 (by decide) rfl ?_
    refine r_iload_n 54 dX7_sheet_53 rfl rfl ?_
    refine r_imul 55 dX7_sheet_54 rfl ?_
    refine r_eq (z := nI (40 * j)) (nI_mul 40 _) ?_
    refine r_iload 57 dX7_sheet_55 rfl rfl ?_
    refine r_iadd 58 dX7_sheet_57 rfl ?_
    refine r_eq (nI_add _ _) ?_
    refine r_iconst 59 (v := 0) dX7_sheet_58 (by decide) rfl ?_
    refine rj_iast 60 (40 * j + i) dX7_sheet_59 sh_62 (rfl) (by omega) (by decide) rfl ?_
    refine r_iinc 63 (L' := [_, _, _, _, _]) (v := nI (i + 1)) dX7_sheet_60 rfl (nI_1 i) (by decide) rfl rfl rfl ?_
    refine r_goto 40 dX7_sheet_63 (by decide) ?_
    exact ih (i + 1) _ (by omega) (fun q hq => by by_cases e : q = i; (rw [e, z_up_s]); (rw [z_up_i (by omega)]; exact h1 q (by omega))) (fun q hq => by rw [z_up_i (by omega)]; exact h2 q hq) (fun a ha => by rw [z_up_o ha]; exact h3 a ha)
theorem RM.sh {w w' : zW} {s : sT} {f : Nat → Option (Nat × Nat)} {c : Nat → Nat → Int32} (h : RM w s) (hf : ∀ a, a < 60 ∨ 62 < a → w' a = w a) (hs : shM w' (u_sh s f c)) : RM w' (u_sh s f c) := by
  obtain ⟨r1, r2, r3, r4, r5, r6⟩ := h
  exact ⟨⟨fun k hk => by rw [hf 51 (by omega)]; exact r1.1 k hk, by rw [hf 50 (by omega)]; exact r1.2⟩, fun k hk => by rw [hf 53 (by omega), hf 51 (by omega)]; exact r2 k hk, ⟨by rw [hf 50 (by omega)]; exact r3.1, fun i hi => by rw [hf 55 (by omega)]; exact r3.2 i hi⟩, by rw [hf 50 (by omega)]; exact r4, hs, by rw [hf 50 (by omega)]; exact r6⟩
theorem m40_le {n : Int32} : n ≤ 40 ↔ n.toInt ≤ 40 := ti_le
theorem shM_new {w w' : zW} {s : sT} {j l z : Nat} (hR : RM w s) (h1 : w' 60 j = nI l) (h2 : w' 61 j = nI z) (h3 : ∀ q, q < 40 → w' 62 (40 * j + q) = 0) (o1 : ∀ q, q ≠ j → w' 60 q = w 60 q) (o2 : ∀ q, q ≠ j → w' 61 q = w 61 q) (o3 : ∀ q, q < 40 * j ∨ 40 * j + 40 ≤ q → w' 62 q = w 62 q) : shM w' (u_sh s (fun i => if i = j then some (l, z) else s_sh s i) (fun i => if i = j then (fun _ => 0) else s_c s i)) := by
  intro k hk
  have hk2 := hR.2.2.2.2.1 k hk
  by_cases e : k = j
  · subst e
    rw [show s_sh (u_sh s (fun i => if i = k then some (l, z) else s_sh s i) (fun i => if i = k then (fun _ => 0) else s_c s i)) k = some (l, z) from if_pos rfl, show s_c (u_sh s (fun i => if i = k then some (l, z) else s_sh s i) (fun i => if i = k then (fun _ => 0) else s_c s i)) k = (fun _ => 0) from if_pos rfl]
    exact ⟨h1, h2, h3⟩
  · rw [show s_sh (u_sh s (fun i => if i = j then some (l, z) else s_sh s i) (fun i => if i = j then (fun _ => 0) else s_c s i)) k = s_sh s k from if_neg e, show s_c (u_sh s (fun i => if i = j then some (l, z) else s_sh s i) (fun i => if i = j then (fun _ => 0) else s_c s i)) k = s_c s k from if_neg e, o1 k e, o2 k e]
    cases hs : s_sh s k with
    | none => rw [hs] at hk2; exact hk2
    | some p =>
      rw [hs] at hk2
      exact ⟨hk2.1, hk2.2.1, fun i hi => by rw [o3 _ (by omega)]; exact hk2.2.2 i hi⟩
theorem shM_put {w : zW} {s : sT} {j i l z : Nat} {v : Int32} (hR : RM w s) (hj : j < 4) (hi : i < 40) (hs : s_sh s j = some (l, z)) : shM (z_up w 62 (40 * j + i) v) (u_sh s (s_sh s) (fun k => if k = j then (fun q => if q = i then v else s_c s k q) else s_c s k)) := by
  intro k hk
  have hk2 := hR.2.2.2.2.1 k hk
  rw [z_up_o (show 60 ≠ 62 by decide), z_up_o (show 61 ≠ 62 by decide)]
  by_cases e : k = j
  · subst e
    rw [show s_sh (u_sh s (s_sh s) (fun k' => if k' = k then (fun q => if q = i then v else s_c s k' q) else s_c s k')) k = some (l, z) from hs, show s_c (u_sh s (s_sh s) (fun k' => if k' = k then (fun q => if q = i then v else s_c s k' q) else s_c s k')) k = (fun q => if q = i then v else s_c s k q) from if_pos rfl]
    rw [hs] at hk2
    refine ⟨hk2.1, hk2.2.1, fun q hq => ?_⟩
    show _ = if q = i then v else s_c s k q
    by_cases e : q = i
    · rw [if_pos e, e, z_up_s]
    · rw [if_neg e, z_up_i (by omega)]
      exact hk2.2.2 q hq
  · rw [show s_sh (u_sh s (s_sh s) (fun k' => if k' = j then (fun q => if q = i then v else s_c s k' q) else s_c s k')) k = s_sh s k from rfl, show s_c (u_sh s (s_sh s) (fun k' => if k' = j then (fun q => if q = i then v else s_c s k' q) else s_c s k')) k = s_c s k from if_neg e]
    cases h : s_sh s k with
    | none => rw [h] at hk2; exact hk2
    | some p =>
      rw [h] at hk2
      exact ⟨hk2.1, hk2.2.1, fun q hq => by rw [z_up_i (by omega)]; exact hk2.2.2 q hq⟩
set_option maxRecDepth 20000 in
set_option maxHeartbeats 4000000 in
theorem M_sheet {d : Nat} {w : zW} {s : sT} {k l n : Int32} (hd : 8 ≤ d) (hR : RM w s) (hS : sV s) : AM mX7_sheet d [.int k, .int l, .int n] w (f_sheet s k l n) := by
  have hn := hS.1.n
  refine CT.of [some (.ref 50), some (.int k), some (.int l), some (.int n), none] rfl (Nat.le_of_ble_eq_true rfl) rfl ?_
  refine r_iload_n 1 dX7_sheet_0 rfl rfl ?_
  refine r_iload_n 2 dX7_sheet_1 rfl rfl ?_
  refine r_callS (y2 := mX7_isSheet) (as := [_, _]) 5 dX7_sheet_2 ml_X7_328 ms_X7_isSheet (m_isSheet (d := d - 1) (by omega)) (by omega) rfl (Nat.le_of_ble_eq_true rfl) rfl (kk_i ?_)
  rintro _ _ ⟨rfl, rfl⟩
  refine rb_eq 14 8 dX7_sheet_5 (by decide) rfl (fun g5 => ?_) (fun g5 => ?_)
  · refine r_iconst 15 (v := -1) dX7_sheet_14 (by decide) rfl ?_
    exact r_iret .int dX7_sheet_15 rfl (rfl) (by first | exact ⟨by rw [f_sheet, if_neg (fun z => g5 ⟨z.1, z.2.1⟩)], by rw [f_sheet, if_neg (fun z => g5 ⟨z.1, z.2.1⟩)]; exact hR, fun _ _ => rfl⟩ | exact ⟨by rw [f_sheet, if_neg (fun z => g11 z.2.2)], by rw [f_sheet, if_neg (fun z => g11 z.2.2)]; exact hR, fun _ _ => rfl⟩)
  · obtain ⟨j, hj, rfl⟩ := wi_of (hi := 3) g5.1
    have hjs : tN (nI j) = j := tN_n (by omega)
    obtain ⟨m, hm, rfl⟩ := wi_of (hi := 2) g5.2
    have hms : tN (nI m) = m := tN_n (by omega)
    refine r_iload_n 9 dX7_sheet_8 rfl rfl ?_
    refine r_bipush 11 (v := 40) dX7_sheet_9 (by decide) rfl ?_
    refine r_icmp_le 16 14 dX7_sheet_11 (by decide) rfl (fun g11 => ?_) (fun g11 => ?_)
    · have g11 : n.toInt ≤ 40 := m40_le.mp g11
      refine r_iload_n 17 dX7_sheet_16 rfl rfl ?_
      refine r_if_ge 23 20 dX7_sheet_17 (by decide) rfl (fun g17 => ?_) (fun g17 => ?_)
      · have g17 : (0 : Int) ≤ n.toInt := ti_le.mp g17
        obtain ⟨z, hz, hnz⟩ : ∃ z : Nat, z ≤ 40 ∧ n = nI z := ⟨n.toInt.toNat, by omega, ti_nI g17⟩
        have hzs : tN n = z := by rw [hnz]; exact tN_n (by omega)
        refine r_aload_n 24 dX7_sheet_23 rfl rfl ?_
        refine r_getr 27 dX7_sheet_24 fz_X7_38 sh_50 rfl rfl ?_
        refine r_iload_n 28 dX7_sheet_27 rfl rfl ?_
        refine r_iload_n 29 dX7_sheet_28 rfl rfl ?_
        refine rj_iast 30 (j) dX7_sheet_29 sh_60 (rfl) (by omega) (by decide) rfl ?_
        refine r_nw (fun w1 e1 => ?_)
        refine r_aload_n 31 dX7_sheet_30 rfl rfl ?_
        refine r_getr 34 dX7_sheet_31 fz_X7_41 sh_50 rfl rfl ?_
        refine r_iload_n 35 dX7_sheet_34 rfl rfl ?_
        refine r_iload_n 36 dX7_sheet_35 rfl rfl ?_
        refine rj_iast 37 (j) dX7_sheet_36 sh_61 (rfl) (by omega) (by decide) rfl ?_
        refine r_nw (fun w2 e2 => ?_)
        refine r_iconst 38 (v := 0) dX7_sheet_37 (by decide) rfl ?_
        refine r_istore 40 (L' := [_, _, _, _, _]) dX7_sheet_38 (by decide) rfl rfl rfl ?_
        refine l_sheetM (w0 := w2) (j := j) (by omega) (fun w3 h1 h2 h3 => ?_) 40 0 w2 rfl (fun q hq => absurd hq (Nat.not_lt_zero q)) (fun _ _ => rfl) (fun _ _ => rfl)
        refine r_iconst 67 (v := 1) dX7_sheet_66 (by decide) rfl ?_
        exact r_iret .int dX7_sheet_67 rfl (rfl) (⟨by rw [f_sheet, if_pos ⟨g5.1, g5.2, g11⟩, if_neg (by omega)], by rw [f_sheet, if_pos ⟨g5.1, g5.2, g11⟩, if_neg (by omega), hjs, hms, hzs]; exact hR.sh (fun a ha => by rw [h3 a (by omega), e2, z_up_o (by omega), e1, z_up_o (by omega)]) (shM_new hR (by rw [h3 60 (by decide), e2, z_up_a (by decide), e1, z_up_s]) (by rw [h3 61 (by decide), e2, z_up_s]; exact hnz) h1 (fun q hq => by rw [h3 60 (by decide), e2, z_up_a (by decide), e1, z_up_i hq]) (fun q hq => by rw [h3 61 (by decide), e2, z_up_i hq, e1, z_up_a (by decide)]) (fun q hq => by rw [h2 q hq, e2, z_up_a (by decide), e1, z_up_a (by decide)])), fun a ha => by rw [h3 a (by omega), e2, z_up_o (by omega), e1, z_up_o (by omega)]⟩)
      · have g17 : ¬ (0 : Int) ≤ n.toInt := fun z => g17 (ti_le.mpr z)
        refine r_bipush 22 (v := -14) dX7_sheet_20 (by decide) rfl ?_
        exact r_iret .int dX7_sheet_22 rfl (rfl) (⟨by rw [f_sheet, if_pos ⟨g5.1, g5.2, g11⟩, if_pos (by omega)], by rw [f_sheet, if_pos ⟨g5.1, g5.2, g11⟩, if_pos (by omega)]; exact hR, fun _ _ => rfl⟩)
    · have g11 : ¬ n.toInt ≤ 40 := fun z => g11 (m40_le.mpr z)
      refine r_iconst 15 (v := -1) dX7_sheet_14 (by decide) rfl ?_
      exact r_iret .int dX7_sheet_15 rfl (rfl) (by first | exact ⟨by rw [f_sheet, if_neg (fun z => g5 ⟨z.1, z.2.1⟩)], by rw [f_sheet, if_neg (fun z => g5 ⟨z.1, z.2.1⟩)]; exact hR, fun _ _ => rfl⟩ | exact ⟨by rw [f_sheet, if_neg (fun z => g11 z.2.2)], by rw [f_sheet, if_neg (fun z => g11 z.2.2)]; exact hR, fun _ _ => rfl⟩)
theorem nI_m4 {z : Nat} (hz : z < 1000) : ¬ nI z = -4 := fun h => by
  have := ti_eq.mp h
  rw [ti_n (by omega)] at this
  have e : (-4 : Int32).toInt = -4 := rfl
  rw [e] at this
  omega
set_option maxRecDepth 20000 in
set_option maxHeartbeats 4000000 in
theorem M_lay {d : Nat} {w : zW} {s : sT} {k i v : Int32} (hd : 8 ≤ d) (hR : RM w s) (hS : sV s) : AM mX7_lay d [.int k, .int i, .int v] w (f_lay s k i v) := by
  have hn := hS.1.n
  refine CT.of [some (.ref 50), some (.int k), some (.int i), some (.int v)] rfl (Nat.le_of_ble_eq_true rfl) rfl ?_
  refine r_iload_n 1 dX7_lay_0 rfl rfl ?_
  refine r_iconst 2 (v := 0) dX7_lay_1 (by decide) rfl ?_
  refine r_callS (y2 := mX7_isSheet) (as := [_, _]) 5 dX7_lay_2 ml_X7_328 ms_X7_isSheet (m_isSheet (d := d - 1) (by omega)) (by omega) rfl (Nat.le_of_ble_eq_true rfl) rfl (kk_i ?_)
  rintro _ _ ⟨rfl, rfl⟩
  refine rb_ne 10 8 dX7_lay_5 (by decide) rfl (fun g5 => ?_) (fun g5 => ?_)
  · obtain ⟨j, hj, rfl⟩ := wi_of (hi := 3) g5.1
    have hjs : tN (nI j) = j := tN_n (by omega)
    have hk2 := hR.2.2.2.2.1 j (by omega)
    have hk3 := hS.2.2.2.2.1 j (by omega)
    refine r_aload_n 11 dX7_lay_10 rfl rfl ?_
    refine r_getr 14 dX7_lay_11 fz_X7_38 sh_50 rfl rfl ?_
    refine r_iload_n 15 dX7_lay_14 rfl rfl ?_
    refine rj_iald 16 (j) dX7_lay_15 sh_60 (rfl) (by omega) (by decide) rfl ?_
    rcases hs : s_sh s j with _ | ⟨l, z⟩
    · rw [hs] at hk2
      refine r_eq hk2 ?_
      refine r_bipush 18 (v := -4) dX7_lay_16 (by decide) rfl ?_
      refine r_icmp_ne 24 21 dX7_lay_18 (by decide) rfl (fun z => absurd (rfl) z) (fun _ => ?_)
      refine r_bipush 23 (v := -11) dX7_lay_21 (by decide) rfl ?_
      exact r_iret .int dX7_lay_23 rfl (rfl) (⟨by rw [f_lay, if_pos g5.1, hjs, hs], by rw [f_lay, if_pos g5.1, hjs, hs]; exact hR, fun _ _ => rfl⟩)
    rw [hs] at hk2
    have h1 := hk2
    have hlz := hk3 l z hs
    refine r_eq h1.1 ?_
    refine r_bipush 18 (v := -4) dX7_lay_16 (by decide) rfl ?_
    refine r_icmp_ne 24 21 dX7_lay_18 (by decide) rfl (fun _ => ?_) (fun z => absurd z (nI_m4 (by omega)))
    refine r_iload_n 25 dX7_lay_24 rfl rfl ?_
    refine r_i2l 26 dX7_lay_25 rfl ?_
    refine r_lconst 27 (v := 0) dX7_lay_26 (by decide) rfl ?_
    refine r_aload_n 28 dX7_lay_27 rfl rfl ?_
    refine r_getr 31 dX7_lay_28 fz_X7_41 sh_50 rfl rfl ?_
    refine r_iload_n 32 dX7_lay_31 rfl rfl ?_
    refine rj_iald 33 (j) dX7_lay_32 sh_61 (rfl) (by omega) (by decide) rfl ?_
    refine r_eq h1.2.1 ?_
    refine r_iconst 34 (v := 1) dX7_lay_33 (by decide) rfl ?_
    refine r_isub 35 dX7_lay_34 rfl ?_
    refine r_i2l 36 dX7_lay_35 rfl ?_
    refine r_callS (y2 := mX7_in) (as := [_, _, _]) 39 dX7_lay_36 ml_X7_74 ms_X7_in (m_in (d := d - 1) _ _ _) (by omega) rfl (Nat.le_of_ble_eq_true rfl) rfl (kk_i ?_)
    rintro _ _ ⟨rfl, rfl⟩
    refine r_eq (z := z_b (iB z i = true)) (z_bc (by rw [iB_iff, tl_i, tl_i, show (nI z - 1).toInt = (z : Int) - 1 from pk_sub_toInt (b := 1) (by omega) (by decide)]; show (0 : Int) ≤ _ ∧ _ ↔ _; omega)) ?_
    refine rb_ne 45 42 dX7_lay_39 (by decide) rfl (fun g39 => ?_) (fun g39 => ?_)
    · obtain ⟨u, hu, rfl⟩ := iB_of g39
      refine r_aload_n 46 dX7_lay_45 rfl rfl ?_
      refine r_getr 49 dX7_lay_46 fz_X7_44 sh_50 rfl rfl ?_
      refine r_bipush 51 (v := 40) dX7_lay_49 (by decide) rfl ?_
      refine r_iload_n 52 dX7_lay_51 rfl rfl ?_
      refine r_imul 53 dX7_lay_52 rfl ?_
      refine r_eq (z := nI (40 * j)) (nI_mul 40 _) ?_
      refine r_iload_n 54 dX7_lay_53 rfl rfl ?_
      refine r_iadd 55 dX7_lay_54 rfl ?_
      refine r_eq (nI_add _ _) ?_
      refine r_aload_n 56 dX7_lay_55 rfl rfl ?_
      refine r_getr 59 dX7_lay_56 fz_X7_38 sh_50 rfl rfl ?_
      refine r_iload_n 60 dX7_lay_59 rfl rfl ?_
      refine rj_iald 61 (j) dX7_lay_60 sh_60 (rfl) (by omega) (by decide) rfl ?_
      refine r_eq h1.1 ?_
      refine r_if_ne 69 64 dX7_lay_61 (by decide) rfl (fun g61 => ?_) (fun g61 => ?_)
      · have g61 : ¬ l = 0 := fun z => g61 (by rw [z]; rfl)
        refine r_aload_n 70 dX7_lay_69 rfl rfl ?_
        refine r_getr 73 dX7_lay_70 fz_X7_38 sh_50 rfl rfl ?_
        refine r_iload_n 74 dX7_lay_73 rfl rfl ?_
        refine rj_iald 75 (j) dX7_lay_74 sh_60 (rfl) (by omega) (by decide) rfl ?_
        refine r_eq h1.1 ?_
        refine r_iconst 76 (v := 1) dX7_lay_75 (by decide) rfl ?_
        refine r_icmp_ne 84 79 dX7_lay_76 (by decide) rfl (fun g76 => ?_) (fun g76 => ?_)
        · have g76 : ¬ l = 1 := fun z => g76 (by rw [z]; rfl)
          refine r_iload_n 85 dX7_lay_84 rfl rfl ?_
          refine r_eq (z := nar l v) (by rw [nar]; first | (rw [if_pos g61]; done) | (rw [if_neg g61, if_pos g76]; done) | (rw [if_neg g61, if_neg g76]; done)) ?_
          refine rj_iast 86 (40 * j + u) dX7_lay_85 sh_62 (rfl) (by omega) (by decide) rfl ?_
          refine r_iconst 87 (v := 1) dX7_lay_86 (by decide) rfl ?_
          exact r_iret .int dX7_lay_87 rfl (rfl) (⟨by rw [f_lay, if_pos g5.1, hjs, hs]; show (if _ then _ else _ : Int32 × sT).1 = _; rw [if_pos g39], by rw [f_lay, if_pos g5.1, hjs, hs]; show RM _ (if _ then _ else _ : Int32 × sT).2; rw [if_pos g39, tN_n (by omega)]; exact hR.sh (fun a ha => z_up_o (by omega)) (shM_put hR (by omega) (by omega) hs), fun a ha => z_up_o (by omega)⟩)
        · have g76 : l = 1 := (nI_inj (b := 1) (by omega) (by decide)).mp g76
          refine r_iload_n 80 dX7_lay_79 rfl rfl ?_
          refine r_i2s 81 dX7_lay_80 rfl ?_
          refine r_goto 85 dX7_lay_81 (by decide) ?_
          refine r_eq (z := nar l v) (by rw [nar]; first | (rw [if_pos g61]; done) | (rw [if_neg g61, if_pos g76]; done) | (rw [if_neg g61, if_neg g76]; done)) ?_
          refine rj_iast 86 (40 * j + u) dX7_lay_85 sh_62 (rfl) (by omega) (by decide) rfl ?_
          refine r_iconst 87 (v := 1) dX7_lay_86 (by decide) rfl ?_
          exact r_iret .int dX7_lay_87 rfl (rfl) (⟨by rw [f_lay, if_pos g5.1, hjs, hs]; show (if _ then _ else _ : Int32 × sT).1 = _; rw [if_pos g39], by rw [f_lay, if_pos g5.1, hjs, hs]; show RM _ (if _ then _ else _ : Int32 × sT).2; rw [if_pos g39, tN_n (by omega)]; exact hR.sh (fun a ha => z_up_o (by omega)) (shM_put hR (by omega) (by omega) hs), fun a ha => z_up_o (by omega)⟩)
      · have g61 : l = 0 := (nI_inj (b := 0) (by omega) (by decide)).mp g61
        refine r_iload_n 65 dX7_lay_64 rfl rfl ?_
        refine r_i2b 66 dX7_lay_65 rfl ?_
        refine r_goto 85 dX7_lay_66 (by decide) ?_
        refine r_eq (z := nar l v) (by rw [nar]; first | (rw [if_pos g61]; done) | (rw [if_neg g61, if_pos g76]; done) | (rw [if_neg g61, if_neg g76]; done)) ?_
        refine rj_iast 86 (40 * j + u) dX7_lay_85 sh_62 (rfl) (by omega) (by decide) rfl ?_
        refine r_iconst 87 (v := 1) dX7_lay_86 (by decide) rfl ?_
        exact r_iret .int dX7_lay_87 rfl (rfl) (⟨by rw [f_lay, if_pos g5.1, hjs, hs]; show (if _ then _ else _ : Int32 × sT).1 = _; rw [if_pos g39], by rw [f_lay, if_pos g5.1, hjs, hs]; show RM _ (if _ then _ else _ : Int32 × sT).2; rw [if_pos g39, tN_n (by omega)]; exact hR.sh (fun a ha => z_up_o (by omega)) (shM_put hR (by omega) (by omega) hs), fun a ha => z_up_o (by omega)⟩)
    · refine r_bipush 44 (v := -12) dX7_lay_42 (by decide) rfl ?_
      exact r_iret .int dX7_lay_44 rfl (rfl) (⟨by rw [f_lay, if_pos g5.1, hjs, hs]; show (if _ then _ else _ : Int32 × sT).1 = _; rw [if_neg g39], by rw [f_lay, if_pos g5.1, hjs, hs]; show RM _ (if _ then _ else _ : Int32 × sT).2; rw [if_neg g39]; exact hR, fun _ _ => rfl⟩)
  · have g5 : ¬ wi k 0 3 = true := fun z => g5 ⟨z, by decide +kernel⟩
    refine r_iconst 9 (v := -1) dX7_lay_8 (by decide) rfl ?_
    exact r_iret .int dX7_lay_9 rfl (rfl) (by first | exact ⟨by rw [f_lay, if_neg (g5)], by rw [f_lay, if_neg (g5)]; exact hR, fun _ _ => rfl⟩)
theorem bi_full : ∀ n, n < 7 → ∀ b, b < n → bi (2 ^ n - 1) b = 1 := by decide +kernel
set_option maxRecDepth 20000 in
set_option maxHeartbeats 4000000 in
theorem M_count {d : Nat} {w : zW} {s : sT} {q : Int32} (hd : 8 ≤ d) (hR : RM w s) (hS : sV s) : AM mX7_count d [.int q] w (f_count s q) := by
  have hn := hS.1.n
  refine CT.of [some (.ref 50), some (.int q)] rfl (Nat.le_of_ble_eq_true rfl) rfl ?_
  refine r_aload_n 1 dX7_count_0 rfl rfl ?_
  refine r_callV (y2 := mX7_starts) (as := []) 4 dX7_count_1 ml_X7_228 mv_X7_starts (m_start (d := d - 1) hR) (by omega) sh_50 ⟨_, rfl, rfl⟩ rfl (Nat.le_of_ble_eq_true rfl) rfl (kk_v ?_)
  rintro w1 ⟨hL, hc, hf⟩
  have hR1 := hR.fr hf
  refine r_iload_n 5 dX7_count_4 rfl rfl ?_
  by_cases hq : wi q 0 5 = true
  · obtain ⟨j, hj, rfl⟩ := wi_of (hi := 5) hq
    match j, hj with
    | 0, _ =>
      refine r_tin 44 dX7_count_5 (by decide) (by decide) rfl (by decide) ?_
      refine r_aload_n 45 dX7_count_44 rfl rfl ?_
      refine r_iconst 46 (v := 1) dX7_count_45 (by decide) rfl ?_
      refine r_aload_n 47 dX7_count_46 rfl rfl ?_
      refine r_geti 50 dX7_count_47 fz_X7_69 sh_50 rfl rfl ?_
      refine r_eq hL.2 ?_
      refine r_ishl 51 dX7_count_50 rfl ?_
      refine r_eq (b_sl _ (by omega)) ?_
      refine r_iconst 52 (v := 1) dX7_count_51 (by decide) rfl ?_
      refine r_isub 53 dX7_count_52 rfl ?_
      refine r_eq (nI_sub (b := 1) (Nat.one_le_two_pow)) ?_
      refine r_iconst 54 (v := 0) dX7_count_53 (by decide) rfl ?_
      refine r_callV (y2 := mX7_comeFrom) (as := [_, _]) 57 dX7_count_54 ml_X7_188 mv_X7_comeFrom (m_comeFrom (d := d - 1) (g := 2 ^ s_n s - 1) (s := 0) (by omega) hS.1.1 (by decide) hL (by have := p2_le (s_n s) (by omega); omega) (by decide)) (by omega) sh_50 ⟨_, rfl, rfl⟩ rfl (Nat.le_of_ble_eq_true rfl) rfl (kk_i ?_)
      rintro _ _ ⟨rfl, rfl⟩
      refine r_callS (y2 := mX7_bitsOf) (as := [_]) 60 dX7_count_57 ml_X7_195 ms_X7_bitsOf (m_bitsOf (d := d - 1) (mk_64 hn)) (by omega) rfl (Nat.le_of_ble_eq_true rfl) rfl (kk_i ?_)
      rintro _ _ ⟨rfl, rfl⟩
      exact r_iret .int dX7_count_60 rfl (rfl) (⟨by rw [sm_bi hn]; refine congrArg nI (cn_congr (fun b hb => ?_)); rw [bi_full (s_n s) (by omega) b hb]; rfl, hR1, hf.lo⟩)
    | 1, _ =>
      refine r_tin 61 dX7_count_5 (by decide) (by decide) rfl (by decide) ?_
      refine r_aload_n 62 dX7_count_61 rfl rfl ?_
      refine r_getr 65 dX7_count_62 fz_X7_7 sh_50 rfl rfl ?_
      refine r_bipush 67 (v := 42) dX7_count_65 (by decide) rfl ?_
      refine rj_iald 68 (42) dX7_count_67 sh_51 (rfl) (by decide) (by decide) rfl ?_
      refine r_eq (hR1.k (k := 42) (by decide)) ?_
      exact r_iret .int dX7_count_68 rfl (rfl) (⟨rfl, hR1, hf.lo⟩)
    | 2, _ =>
      refine r_tin 69 dX7_count_5 (by decide) (by decide) rfl (by decide) ?_
      refine r_aload_n 70 dX7_count_69 rfl rfl ?_
      refine r_getr 73 dX7_count_70 fz_X7_16 sh_50 rfl rfl ?_
      refine r_iconst 74 (v := 0) dX7_count_73 (by decide) rfl ?_
      refine rj_zald 75 (0) dX7_count_74 sh_53 (rfl) (by decide) (by decide) rfl ?_
      refine r_eq (z := z_b (bi (s_kp s) 0 = 1)) ((hR1.2.1 0 (by omega)).1.trans bi_zb) ?_
      refine r_callS (y2 := mX7_flag) (as := [_]) 78 dX7_count_75 ml_X7_184 ms_X7_flag (m_flag (d := d - 1) _) (by omega) rfl (Nat.le_of_ble_eq_true rfl) rfl (kk_i ?_)
      rintro _ _ ⟨rfl, rfl⟩
      refine r_aload_n 79 dX7_count_78 rfl rfl ?_
      refine r_getr 82 dX7_count_79 fz_X7_16 sh_50 rfl rfl ?_
      refine r_iconst 83 (v := 1) dX7_count_82 (by decide) rfl ?_
      refine rj_zald 84 (1) dX7_count_83 sh_53 (rfl) (by decide) (by decide) rfl ?_
      refine r_eq (z := z_b (bi (s_kp s) 1 = 1)) ((hR1.2.1 1 (by omega)).1.trans bi_zb) ?_
      refine r_callS (y2 := mX7_flag) (as := [_]) 87 dX7_count_84 ml_X7_184 ms_X7_flag (m_flag (d := d - 1) _) (by omega) rfl (Nat.le_of_ble_eq_true rfl) rfl (kk_i ?_)
      rintro _ _ ⟨rfl, rfl⟩
      refine r_iadd 88 dX7_count_87 rfl ?_
      exact r_iret .int dX7_count_88 rfl (rfl) (⟨by rw [← bi_zb, ← bi_zb, nI_add]; rfl, hR1, hf.lo⟩)
    | 3, _ =>
      refine r_tin 89 dX7_count_5 (by decide) (by decide) rfl (by decide) ?_
      refine r_aload_n 90 dX7_count_89 rfl rfl ?_
      refine r_geti 93 dX7_count_90 fz_X7_78 sh_50 rfl rfl ?_
      refine r_eq hR1.2.2.1.1 ?_
      exact r_iret .int dX7_count_93 rfl (rfl) (⟨rfl, hR1, hf.lo⟩)
    | 4, _ =>
      refine r_tin 94 dX7_count_5 (by decide) (by decide) rfl (by decide) ?_
      refine r_aload_n 95 dX7_count_94 rfl rfl ?_
      refine r_getr 98 dX7_count_95 fz_X7_38 sh_50 rfl rfl ?_
      refine r_iconst 99 (v := 0) dX7_count_98 (by decide) rfl ?_
      refine rj_iald 100 (0) dX7_count_99 sh_60 (rfl) (by decide) (by decide) rfl ?_
      have hk2 := hR1.2.2.2.2.1 0 (by decide)
      rcases hs : s_sh s 0 with _ | ⟨l, z⟩
      · rw [hs] at hk2
        refine r_eq hk2 ?_
        refine r_bipush 102 (v := -4) dX7_count_100 (by decide) rfl ?_
        refine r_icmp_ne 110 105 dX7_count_102 (by decide) rfl (fun z => absurd (rfl) z) (fun _ => ?_)
        refine r_bipush 107 (v := -4) dX7_count_105 (by decide) rfl ?_
        refine r_goto 116 dX7_count_107 (by decide) ?_
        exact r_iret .int dX7_count_116 rfl (rfl) (⟨by show (match s_sh s 0 with | none => -4 | some (_, z) => nI z) = _; rw [hs]; done, hR1, hf.lo⟩)
      rw [hs] at hk2
      have hlz := hS.2.2.2.2.1 0 (by decide) l z hs
      refine r_eq hk2.1 ?_
      refine r_bipush 102 (v := -4) dX7_count_100 (by decide) rfl ?_
      refine r_icmp_ne 110 105 dX7_count_102 (by decide) rfl (fun _ => ?_) (fun z => absurd z (nI_m4 (by omega)))
      refine r_aload_n 111 dX7_count_110 rfl rfl ?_
      refine r_getr 114 dX7_count_111 fz_X7_41 sh_50 rfl rfl ?_
      refine r_iconst 115 (v := 0) dX7_count_114 (by decide) rfl ?_
      refine rj_iald 116 (0) dX7_count_115 sh_61 (rfl) (by decide) (by decide) rfl ?_
      refine r_eq hk2.2.1 ?_
      exact r_iret .int dX7_count_116 rfl (rfl) (⟨by show (match s_sh s 0 with | none => -4 | some (_, z) => nI z) = _; rw [hs]; done, hR1, hf.lo⟩)
    | 5, _ =>
      refine r_tin 117 dX7_count_5 (by decide) (by decide) rfl (by decide) ?_
      refine r_aload_n 118 dX7_count_117 rfl rfl ?_
      refine r_callV (y2 := mX7_liars) (as := []) 121 dX7_count_118 ml_X7_234 mv_X7_liars (m_liars (d := d - 1) hR1 hS) (by omega) sh_50 ⟨_, rfl, rfl⟩ rfl (Nat.le_of_ble_eq_true rfl) rfl (kk_i ?_)
      rintro _ _ ⟨rfl, rfl⟩
      refine r_callS (y2 := mX7_bitsOf) (as := [_]) 124 dX7_count_121 ml_X7_195 ms_X7_bitsOf (m_bitsOf (d := d - 1) (mk_64 hn)) (by omega) rfl (Nat.le_of_ble_eq_true rfl) rfl (kk_i ?_)
      rintro _ _ ⟨rfl, rfl⟩
      exact r_iret .int dX7_count_124 rfl (rfl) (⟨congrArg nI (sm_bi (p := fun b => s_K s (6 + 6 * b + 5) == 1) hn).symm, hR1, hf.lo⟩)
  · have hq2 : q.toInt < 0 ∨ 5 < q.toInt := by have : ¬ (0 ≤ q.toInt ∧ q.toInt ≤ 5) := fun z => hq (wi_iff.mpr z); omega
    refine r_tout 125 dX7_count_5 hq2 (by decide) ?_
    refine r_iconst 126 (v := -1) dX7_count_125 (by decide) rfl ?_
    exact r_iret .int dX7_count_126 rfl (rfl) (⟨by rw [f_count, if_neg (fun z => hq (by rw [z]; decide +kernel)), if_neg (fun z => hq (by rw [z]; decide +kernel)), if_neg (fun z => hq (by rw [z]; decide +kernel)), if_neg (fun z => hq (by rw [z]; decide +kernel)), if_neg (fun z => hq (by rw [z]; decide +kernel)), if_neg (fun z => hq (by rw [z]; decide +kernel))], hR1, hf.lo⟩)

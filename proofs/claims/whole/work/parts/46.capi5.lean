/-! ===== the class: count, sheet, lay, read ===== -/
set_option maxRecDepth 20000 in
set_option maxHeartbeats 4000000 in
theorem C_count {d : Nat} {w : zW} {s : sT} {q : Int32} (hd : 6 ≤ d) (hR : RC w s) (hS : sV s) : AC mX6_count d [.int q] w (f_count s q) := by
  have hn := hS.1.n
  refine CT.of [some (.ref 0), some (.int q)] rfl (Nat.le_of_ble_eq_true rfl) rfl ?_
  refine r_iload_n 1 dX6_count_0 rfl rfl ?_
  by_cases hq : wi q 0 5 = true
  · obtain ⟨j, hj, rfl⟩ := wi_of (hi := 5) hq
    match j, hj with
    | 0, _ =>
      refine r_tin 40 dX6_count_1 (by decide) (by decide) rfl (by decide) ?_
      refine r_aload_n 41 dX6_count_40 rfl rfl ?_
      refine r_getr 44 dX6_count_41 fz_X6_10 sh_0 rfl rfl ?_
      refine r_iconst 45 (v := 0) dX6_count_44 (by decide) rfl ?_
      refine r_callV (y2 := mX1_boatsFrom) (as := [_]) 48 dX6_count_45 ml_X6_280 mv_X1_boatsFrom (c_boatsFrom (d := d - 1) (A := 99) (by omega) (Or.inl rfl) (by decide) hS.1.1 hR.1.D (s := 0) (by decide)) (by omega) sh_1 ⟨_, rfl, rfl⟩ rfl (Nat.le_of_ble_eq_true rfl) rfl (kk_i ?_)
      rintro _ _ ⟨rfl, rfl⟩
      exact r_iret .int dX6_count_48 rfl (rfl) (⟨rfl, hR, fun _ _ => rfl⟩)
    | 1, _ =>
      refine r_tin 49 dX6_count_1 (by decide) (by decide) rfl (by decide) ?_
      refine r_aload_n 50 dX6_count_49 rfl rfl ?_
      refine r_getr 53 dX6_count_50 fz_X6_10 sh_0 rfl rfl ?_
      refine r_geti 56 dX6_count_53 fz_X6_236 sh_1 rfl rfl ?_
      refine r_eq hR.1.2.2.2.2.1 ?_
      exact r_iret .int dX6_count_56 rfl (rfl) (⟨rfl, hR, fun _ _ => rfl⟩)
    | 2, _ =>
      refine r_tin 57 dX6_count_1 (by decide) (by decide) rfl (by decide) ?_
      refine r_aload_n 58 dX6_count_57 rfl rfl ?_
      refine r_geti 61 dX6_count_58 fz_X6_90 sh_0 rfl rfl ?_
      refine r_eq hR.2.1.1 ?_
      refine r_callS (y2 := mJ6_bitCount_0f7a4) (as := [_]) 64 dX6_count_61 ml_X6_283 ms_J6_bitCount_0f7a4 (c_bitCount (d := d - 1) (by have := hS.2.1.1; omega)) (by omega) rfl (Nat.le_of_ble_eq_true rfl) rfl (kk_i ?_)
      rintro _ _ ⟨rfl, rfl⟩
      exact r_iret .int dX6_count_64 rfl (rfl) (⟨by rw [kp_sm _ hS.2.1.1]; rfl, hR, fun _ _ => rfl⟩)
    | 3, _ =>
      refine r_tin 65 dX6_count_1 (by decide) (by decide) rfl (by decide) ?_
      refine r_aload_n 66 dX6_count_65 rfl rfl ?_
      refine r_getr 69 dX6_count_66 fz_X6_26 sh_0 rfl rfl ?_
      refine r_geti 72 dX6_count_69 fz_X6_75 sh_27 rfl rfl ?_
      refine r_eq hR.2.2.1.1 ?_
      exact r_iret .int dX6_count_72 rfl (rfl) (⟨rfl, hR, fun _ _ => rfl⟩)
    | 4, _ =>
      refine r_tin 73 dX6_count_1 (by decide) (by decide) rfl (by decide) ?_
      refine r_aload_n 74 dX6_count_73 rfl rfl ?_
      refine r_getr 77 dX6_count_74 fz_X6_62 sh_0 rfl rfl ?_
      refine r_iconst 78 (v := 0) dX6_count_77 (by decide) rfl ?_
      refine rj_aald (r := 42) 79 (0) dX6_count_78 sh_41 (rfl) (by decide) (by decide) (rfl) rfl ?_
      refine r_callV (y2 := mX3_isNothing) (as := []) 82 dX6_count_79 ml_X6_288 mv_X3_isNothing (c_isNothing (d := d - 1) (Or.inl rfl)) (by omega) sh_42 ⟨_, rfl, rfl⟩ rfl (Nat.le_of_ble_eq_true rfl) rfl (kk_i ?_)
      rintro _ _ ⟨rfl, rfl⟩
      refine rb_eq 90 85 dX6_count_82 (by decide) rfl (fun g82 => ?_) (fun g82 => ?_)
      · have e0 : ¬ s_sh s 0 = none := fun z => g82 ((hR.so hS (k := 0) (by decide)).n.mpr z)
        obtain ⟨⟨l, z⟩, e0⟩ := Option.ne_none_iff_exists'.mp e0
        have o2 := (hR.so hS (k := 0) (by decide))
        rw [e0] at o2
        have o2 : w 42 2 = nI z := o2.2.1
        refine r_aload_n 91 dX6_count_90 rfl rfl ?_
        refine r_getr 94 dX6_count_91 fz_X6_62 sh_0 rfl rfl ?_
        refine r_iconst 95 (v := 0) dX6_count_94 (by decide) rfl ?_
        refine rj_aald (r := 42) 96 (0) dX6_count_95 sh_41 (rfl) (by decide) (by decide) (rfl) rfl ?_
        refine r_geti 99 dX6_count_96 fz_X6_292 sh_42 rfl rfl ?_
        refine r_eq o2 ?_
        exact r_iret .int dX6_count_99 rfl (rfl) (⟨by show (match s_sh s 0 with | none => -4 | some (_, z) => nI z) = _; rw [e0]; done, hR, fun _ _ => rfl⟩)
      · have e0 : s_sh s 0 = none := (hR.so hS (k := 0) (by decide)).n.mp g82
        refine r_bipush 87 (v := -4) dX6_count_85 (by decide) rfl ?_
        refine r_goto 99 dX6_count_87 (by decide) ?_
        exact r_iret .int dX6_count_99 rfl (rfl) (⟨by show (match s_sh s 0 with | none => -4 | some (_, z) => nI z) = _; rw [e0]; done, hR, fun _ _ => rfl⟩)
    | 5, _ =>
      refine r_tin 100 dX6_count_1 (by decide) (by decide) rfl (by decide) ?_
      refine r_aload_n 101 dX6_count_100 rfl rfl ?_
      refine r_getr 104 dX6_count_101 fz_X6_10 sh_0 rfl rfl ?_
      refine r_geti 107 dX6_count_104 fz_X6_99 sh_1 rfl rfl ?_
      refine r_eq hR.1.2.2.2.1 ?_
      refine r_callS (y2 := mJ6_bitCount_0f7a4) (as := [_]) 110 dX6_count_107 ml_X6_283 ms_J6_bitCount_0f7a4 (c_bitCount (d := d - 1) (mk_64 hn)) (by omega) rfl (Nat.le_of_ble_eq_true rfl) rfl (kk_i ?_)
      rintro _ _ ⟨rfl, rfl⟩
      exact r_iret .int dX6_count_110 rfl (rfl) (⟨congrArg nI (sm_bi (p := fun b => s_K s (6 + 6 * b + 5) == 1) hn).symm, hR, fun _ _ => rfl⟩)
  · have hq2 : q.toInt < 0 ∨ 5 < q.toInt := by have : ¬ (0 ≤ q.toInt ∧ q.toInt ≤ 5) := fun z => hq (wi_iff.mpr z); omega
    refine r_tout 111 dX6_count_1 hq2 (by decide) ?_
    refine r_iconst 112 (v := -1) dX6_count_111 (by decide) rfl ?_
    exact r_iret .int dX6_count_112 rfl (rfl) (⟨by rw [f_count, if_neg (fun z => hq (by rw [z]; decide +kernel)), if_neg (fun z => hq (by rw [z]; decide +kernel)), if_neg (fun z => hq (by rw [z]; decide +kernel)), if_neg (fun z => hq (by rw [z]; decide +kernel)), if_neg (fun z => hq (by rw [z]; decide +kernel)), if_neg (fun z => hq (by rw [z]; decide +kernel))], hR, fun _ _ => rfl⟩)
def f_sheet (s : sT) (k l n : Int32) : Int32 × sT := if wi k 0 3 = true ∧ wi l 0 2 = true ∧ n.toInt ≤ 40 then (if n.toInt < 0 then (-14, s) else (1, u_sh s (fun j => if j = tN k then some (tN l, tN n) else s_sh s j) (fun j => if j = tN k then (fun _ => 0) else s_c s j))) else (-1, s)
def f_lay (s : sT) (k i v : Int32) : Int32 × sT := if wi k 0 3 = true then (match s_sh s (tN k) with
  | none => (-11, s)
  | some (l, z) => if iB z i = true then (1, u_sh s (s_sh s) (fun j => if j = tN k then (fun q => if q = tN i then nar l v else s_c s j q) else s_c s j)) else (-12, s)) else (-1, s)
theorem b_sh4 : ∀ j, j < 4 → z_isH (42 + 2 * j) ∧ [42, 44, 46, 48][j]? = some (42 + 2 * j) := fun j hj => by
  rcases (show j = 0 ∨ j = 1 ∨ j = 2 ∨ j = 3 by omega) with rfl | rfl | rfl | rfl
  · exact ⟨Or.inl rfl, rfl⟩
  · exact ⟨Or.inr (Or.inl rfl), rfl⟩
  · exact ⟨Or.inr (Or.inr (Or.inl rfl)), rfl⟩
  · exact ⟨Or.inr (Or.inr (Or.inr rfl)), rfl⟩
theorem RC.sh {w w' : zW} {s : sT} {f : Nat → Option (Nat × Nat)} {c : Nat → Nat → Int32} (h : RC w s) (hf : ∀ a, a < 42 ∨ 49 < a → w' a = w a) (hs : shC w' (u_sh s f c)) : RC w' (u_sh s f c) := by
  obtain ⟨h1, h2, h3, h4, h5, h6⟩ := h
  refine ⟨h1.fr (fun a _ _ => hf a (by omega)), h2.congr (by rw [hf 0 (by omega)]) (fun a _ _ => hf a (by omega)), ?_, ?_, hs, ?_⟩
  · unfold tpC at h3 ⊢; rw [hf 27 (by omega), hf 28 (by omega)]; exact h3
  · unfold ftC at h4 ⊢; rw [hf 29 (by omega)]; exact h4
  · unfold tnC at h6 ⊢; rw [hf 0 (by omega)]; exact h6
theorem shC_new {w w' : zW} {s : sT} {S j l z : Nat} (hR : RC w s) (hBe : S = 42 + 2 * j) (hj : j < 4) (h1 : w' S 1 = nI l) (h2 : w' S 2 = nI z) (h3 : ∀ q, q < 40 → w' (S + 1) q = 0) (h4 : ∀ a, a ≠ S → a ≠ S + 1 → w' a = w a) : shC w' (u_sh s (fun i => if i = j then some (l, z) else s_sh s i) (fun i => if i = j then (fun _ => 0) else s_c s i)) := by
  subst hBe
  intro k hk
  by_cases e : k = j
  · subst e
    rw [show s_sh (u_sh s (fun i => if i = k then some (l, z) else s_sh s i) (fun i => if i = k then (fun _ => 0) else s_c s i)) k = some (l, z) from if_pos rfl, show s_c (u_sh s (fun i => if i = k then some (l, z) else s_sh s i) (fun i => if i = k then (fun _ => 0) else s_c s i)) k = (fun _ => 0) from if_pos rfl]
    exact ⟨h1, h2, fun i hi => by rw [show 43 + 2 * k = 42 + 2 * k + 1 by omega]; exact h3 i hi⟩
  · have hk2 := hR.2.2.2.2.1 k hk
    rw [show s_sh (u_sh s (fun i => if i = j then some (l, z) else s_sh s i) (fun i => if i = j then (fun _ => 0) else s_c s i)) k = s_sh s k from if_neg e, show s_c (u_sh s (fun i => if i = j then some (l, z) else s_sh s i) (fun i => if i = j then (fun _ => 0) else s_c s i)) k = s_c s k from if_neg e]
    rw [h4 (42 + 2 * k) (by omega) (by omega), h4 (43 + 2 * k) (by omega) (by omega)]
    exact hk2
theorem shC_put {w : zW} {s : sT} {S j i l z : Nat} {v : Int32} (hR : RC w s) (hBe : S = 42 + 2 * j) (hj : j < 4) (hs : s_sh s j = some (l, z)) : shC (z_up w (S + 1) i v) (u_sh s (s_sh s) (fun k => if k = j then (fun q => if q = i then v else s_c s k q) else s_c s k)) := by
  subst hBe
  intro k hk
  have hk2 := hR.2.2.2.2.1 k hk
  by_cases e : k = j
  · subst e
    rw [show s_sh (u_sh s (s_sh s) (fun k' => if k' = k then (fun q => if q = i then v else s_c s k' q) else s_c s k')) k = some (l, z) from hs, show s_c (u_sh s (s_sh s) (fun k' => if k' = k then (fun q => if q = i then v else s_c s k' q) else s_c s k')) k = (fun q => if q = i then v else s_c s k q) from if_pos rfl]
    rw [hs] at hk2
    refine ⟨by rw [z_up_o (by omega)]; exact hk2.1, by rw [z_up_o (by omega)]; exact hk2.2.1, fun q hq => ?_⟩
    show z_up w (42 + 2 * k + 1) i v (43 + 2 * k) q = if q = i then v else s_c s k q
    have h3 := hk2.2.2 q hq
    rw [show 43 + 2 * k = 42 + 2 * k + 1 by omega] at h3 ⊢
    by_cases e : q = i
    · rw [if_pos e, e, z_up_s]
    · rw [if_neg e, z_up_i e]
      exact h3
  · rw [show s_sh (u_sh s (s_sh s) (fun k' => if k' = j then (fun q => if q = i then v else s_c s k' q) else s_c s k')) k = s_sh s k from rfl, show s_c (u_sh s (s_sh s) (fun k' => if k' = j then (fun q => if q = i then v else s_c s k' q) else s_c s k')) k = s_c s k from if_neg e]
    rw [z_up_o (by omega), z_up_o (by omega)]
    exact hk2
set_option maxRecDepth 20000 in
set_option maxHeartbeats 4000000 in
theorem C_sheet {d : Nat} {w : zW} {s : sT} {k l n : Int32} (hd : 6 ≤ d) (hR : RC w s) (hS : sV s) : AC mX6_sheet d [.int k, .int l, .int n] w (f_sheet s k l n) := by
  have hn := hS.1.n
  refine CT.of [some (.ref 0), some (.int k), some (.int l), some (.int n)] rfl (Nat.le_of_ble_eq_true rfl) rfl ?_
  refine r_iload_n 1 dX6_sheet_0 rfl rfl ?_
  refine r_callS (y2 := mX6_isSheet) (as := [_]) 4 dX6_sheet_1 ml_X6_247 ms_X6_isSheet (c_isSheet (d := d - 1) (by omega)) (by omega) rfl (Nat.le_of_ble_eq_true rfl) rfl (kk_i ?_)
  rintro _ _ ⟨rfl, rfl⟩
  refine rb_eq 20 7 dX6_sheet_4 (by decide) rfl (fun g4 => ?_) (fun g4 => ?_)
  · refine r_iconst 21 (v := -1) dX6_sheet_20 (by decide) rfl ?_
    exact r_iret .int dX6_sheet_21 rfl (rfl) (by first | exact ⟨by rw [f_sheet, if_neg (fun z => g4 z.1)], by rw [f_sheet, if_neg (fun z => g4 z.1)]; exact hR, fun _ _ => rfl⟩ | exact ⟨by rw [f_sheet, if_neg (fun z => g11 z.2.1)], by rw [f_sheet, if_neg (fun z => g11 z.2.1)]; exact hR, fun _ _ => rfl⟩ | exact ⟨by rw [f_sheet, if_neg (fun z => g17 z.2.2)], by rw [f_sheet, if_neg (fun z => g17 z.2.2)]; exact hR, fun _ _ => rfl⟩)
  · obtain ⟨j, hj, rfl⟩ := wi_of (hi := 3) g4
    have hjs : tN (nI j) = j := tN_n (by omega)
    obtain ⟨hBB, hBi⟩ := b_sh4 j (by omega)
    obtain ⟨Sx, hBe⟩ : ∃ S, S = 42 + 2 * j := ⟨_, rfl⟩
    rw [← hBe] at hBB hBi
    have hSx := hBB
    refine r_iload_n 8 dX6_sheet_7 rfl rfl ?_
    refine r_callS (y2 := mX3_isLane) (as := [_]) 11 dX6_sheet_8 ml_X6_250 ms_X3_isLane (c_isLane (d := d - 1) (by omega)) (by omega) rfl (Nat.le_of_ble_eq_true rfl) rfl (kk_i ?_)
    rintro _ _ ⟨rfl, rfl⟩
    refine rb_eq 20 14 dX6_sheet_11 (by decide) rfl (fun g11 => ?_) (fun g11 => ?_)
    · refine r_iconst 21 (v := -1) dX6_sheet_20 (by decide) rfl ?_
      exact r_iret .int dX6_sheet_21 rfl (rfl) (by first | exact ⟨by rw [f_sheet, if_neg (fun z => g4 z.1)], by rw [f_sheet, if_neg (fun z => g4 z.1)]; exact hR, fun _ _ => rfl⟩ | exact ⟨by rw [f_sheet, if_neg (fun z => g11 z.2.1)], by rw [f_sheet, if_neg (fun z => g11 z.2.1)]; exact hR, fun _ _ => rfl⟩ | exact ⟨by rw [f_sheet, if_neg (fun z => g17 z.2.2)], by rw [f_sheet, if_neg (fun z => g17 z.2.2)]; exact hR, fun _ _ => rfl⟩)
    · obtain ⟨m, hm, rfl⟩ := wi_of (hi := 2) g11
      have hms : tN (nI m) = m := tN_n (by omega)
      refine r_iload_n 15 dX6_sheet_14 rfl rfl ?_
      refine r_bipush 17 (v := 40) dX6_sheet_15 (by decide) rfl ?_
      refine r_icmp_le 22 20 dX6_sheet_17 (by decide) rfl (fun g17 => ?_) (fun g17 => ?_)
      · have g17 : n.toInt ≤ 40 := ti_le.mp g17
        refine r_iload_n 23 dX6_sheet_22 rfl rfl ?_
        refine r_if_ge 29 26 dX6_sheet_23 (by decide) rfl (fun g23 => ?_) (fun g23 => ?_)
        · have g23 : ¬ n.toInt < 0 := by have : (0 : Int) ≤ n.toInt := ti_le.mp g23; omega
          refine r_aload_n 30 dX6_sheet_29 rfl rfl ?_
          refine r_getr 33 dX6_sheet_30 fz_X6_62 sh_0 rfl rfl ?_
          refine r_iload_n 34 dX6_sheet_33 rfl rfl ?_
          refine rj_aald (r := Sx) 35 (j) dX6_sheet_34 sh_41 (rfl) (by omega) (by decide) (hBi) rfl ?_
          refine r_iload_n 36 dX6_sheet_35 rfl rfl ?_
          refine r_iload_n 37 dX6_sheet_36 rfl rfl ?_
          refine r_callV (y2 := mX3_renew) (as := [_, _]) 40 dX6_sheet_37 ml_X6_253 mv_X3_renew (c_renew (d := d - 1) (by omega) hSx) (by omega) (z_H0 hSx) ⟨_, rfl, rfl⟩ rfl (Nat.le_of_ble_eq_true rfl) rfl (kk_v ?_)
          rintro w1 ⟨r1, r2, r3, r4⟩
          refine r_iconst 41 (v := 1) dX6_sheet_40 (by decide) rfl ?_
          exact r_iret .int dX6_sheet_41 rfl (rfl) (⟨by rw [f_sheet, if_pos ⟨g4, g11, g17⟩, if_neg g23], by rw [f_sheet, if_pos ⟨g4, g11, g17⟩, if_neg g23, hjs, hms]; exact hR.sh (fun a ha => r4 a (by omega) (by omega)) (shC_new hR hBe (by omega) r1 (by rw [r2]; exact ti_nI (by omega)) r3 r4), fun a ha => r4 a (by omega) (by omega)⟩)
        · have g23 : n.toInt < 0 := by have : ¬ (0 : Int) ≤ n.toInt := fun z => g23 (ti_le.mpr z); omega
          refine r_bipush 28 (v := -14) dX6_sheet_26 (by decide) rfl ?_
          exact r_iret .int dX6_sheet_28 rfl (rfl) (⟨by rw [f_sheet, if_pos ⟨g4, g11, g17⟩, if_pos g23], by rw [f_sheet, if_pos ⟨g4, g11, g17⟩, if_pos g23]; exact hR, fun _ _ => rfl⟩)
      · have g17 : ¬ n.toInt ≤ 40 := fun z => g17 (ti_le.mpr z)
        refine r_iconst 21 (v := -1) dX6_sheet_20 (by decide) rfl ?_
        exact r_iret .int dX6_sheet_21 rfl (rfl) (by first | exact ⟨by rw [f_sheet, if_neg (fun z => g4 z.1)], by rw [f_sheet, if_neg (fun z => g4 z.1)]; exact hR, fun _ _ => rfl⟩ | exact ⟨by rw [f_sheet, if_neg (fun z => g11 z.2.1)], by rw [f_sheet, if_neg (fun z => g11 z.2.1)]; exact hR, fun _ _ => rfl⟩ | exact ⟨by rw [f_sheet, if_neg (fun z => g17 z.2.2)], by rw [f_sheet, if_neg (fun z => g17 z.2.2)]; exact hR, fun _ _ => rfl⟩)
set_option maxRecDepth 20000 in
set_option maxHeartbeats 4000000 in
theorem C_lay {d : Nat} {w : zW} {s : sT} {k i v : Int32} (hd : 6 ≤ d) (hR : RC w s) (hS : sV s) : AC mX6_lay d [.int k, .int i, .int v] w (f_lay s k i v) := by
  have hn := hS.1.n
  refine CT.of [some (.ref 0), some (.int k), some (.int i), some (.int v), none] rfl (Nat.le_of_ble_eq_true rfl) rfl ?_
  refine r_iload_n 1 dX6_lay_0 rfl rfl ?_
  refine r_callS (y2 := mX6_isSheet) (as := [_]) 4 dX6_lay_1 ml_X6_247 ms_X6_isSheet (c_isSheet (d := d - 1) (by omega)) (by omega) rfl (Nat.le_of_ble_eq_true rfl) rfl (kk_i ?_)
  rintro _ _ ⟨rfl, rfl⟩
  refine rb_ne 9 7 dX6_lay_4 (by decide) rfl (fun g4 => ?_) (fun g4 => ?_)
  · obtain ⟨j, hj, rfl⟩ := wi_of (hi := 3) g4
    have hjs : tN (nI j) = j := tN_n (by omega)
    obtain ⟨hBB, hBi⟩ := b_sh4 j (by omega)
    obtain ⟨Sx, hBe⟩ : ∃ S, S = 42 + 2 * j := ⟨_, rfl⟩
    rw [← hBe] at hBB hBi
    have hSx := hBB
    have ho := hR.so hS (k := j) (by omega)
    rw [← hBe] at ho
    refine r_aload_n 10 dX6_lay_9 rfl rfl ?_
    refine r_getr 13 dX6_lay_10 fz_X6_62 sh_0 rfl rfl ?_
    refine r_iload_n 14 dX6_lay_13 rfl rfl ?_
    refine rj_aald (r := Sx) 15 (j) dX6_lay_14 sh_41 (rfl) (by omega) (by decide) (hBi) rfl ?_
    refine r_iload_n 16 dX6_lay_15 rfl rfl ?_
    refine r_callV (y2 := mX3_faultAt) (as := [_]) 19 dX6_lay_16 ml_X6_257 mv_X3_faultAt (c_faultAt (d := d - 1) (by omega) hSx ho) (by omega) (z_H0 hSx) ⟨_, rfl, rfl⟩ rfl (Nat.le_of_ble_eq_true rfl) rfl (kk_i ?_)
    rintro _ _ ⟨rfl, rfl⟩
    refine r_istore 21 (L' := [_, _, _, _, _]) dX6_lay_19 (by decide) rfl rfl rfl ?_
    refine r_iload 23 dX6_lay_21 rfl rfl ?_
    refine r_if_eq 32 26 dX6_lay_23 (by decide) rfl (fun g23 => ?_) (fun g23 => ?_)
    · obtain ⟨⟨l, z⟩, ho2⟩ : ∃ p, s_sh s j = some p := by
        cases e : s_sh s j with
        | none => rw [e] at g23; exact absurd (show (1 : Int32) = 0 from g23) (by decide)
        | some p => exact ⟨p, rfl⟩
      have gi : iB z i = true := by
        rw [ho2] at g23
        by_cases q : iB z i = true
        · exact q
        · rw [fA, if_neg q] at g23; exact absurd g23 (by decide)
      rw [ho2] at ho
      obtain ⟨o1, o2, o3, o4⟩ := ho
      obtain ⟨m, hm, rfl⟩ := iB_of gi
      have hms : tN (nI m) = m := tN_n (by omega)
      refine r_aload_n 33 dX6_lay_32 rfl rfl ?_
      refine r_getr 36 dX6_lay_33 fz_X6_62 sh_0 rfl rfl ?_
      refine r_iload_n 37 dX6_lay_36 rfl rfl ?_
      refine rj_aald (r := Sx) 38 (j) dX6_lay_37 sh_41 (rfl) (by omega) (by decide) (hBi) rfl ?_
      refine r_iload_n 39 dX6_lay_38 rfl rfl ?_
      refine r_iload_n 40 dX6_lay_39 rfl rfl ?_
      refine r_callV (y2 := mX3_put) (as := [_, _]) 43 dX6_lay_40 ml_X6_260 mv_X3_put (c_put (d := d - 1) hSx o3 o1 (i := m) (by omega)) (by omega) (z_H0 hSx) ⟨_, rfl, rfl⟩ rfl (Nat.le_of_ble_eq_true rfl) rfl (kk_v ?_)
      rintro _ rfl
      refine r_iconst 44 (v := 1) dX6_lay_43 (by decide) rfl ?_
      have key : f_lay s (nI j) (nI m) v = (1, u_sh s (s_sh s) (fun k => if k = j then (fun q => if q = m then nar l v else s_c s k q) else s_c s k)) := by
        rw [f_lay, if_pos g4, hjs]
        simp only [ho2, if_pos gi, hms]
      exact r_iret .int dX6_lay_44 rfl (rfl) (⟨by rw [key], by rw [key]; exact hR.sh (fun a ha => z_up_o (by omega)) (shC_put hR hBe (by omega) ho2), fun a ha => z_up_o (by omega)⟩)
    · have key : f_lay s (nI j) i v = (-10 - nI (fA (s_sh s j) i), s) := by
        rw [f_lay, if_pos g4, hjs]
        cases e : s_sh s j with
        | none => show ((-11 : Int32), s) = (-10 - 1, s); rw [show (-10 - 1 : Int32) = -11 by decide]
        | some p =>
          rw [e] at g23
          by_cases q : iB p.2 i = true
          · rw [fA, if_pos q] at g23; exact absurd rfl g23
          · simp only [if_neg q, fA]; rfl
      refine r_bipush 28 (v := -10) dX6_lay_26 (by decide) rfl ?_
      refine r_iload 30 dX6_lay_28 rfl rfl ?_
      refine r_isub 31 dX6_lay_30 rfl ?_
      exact r_iret .int dX6_lay_31 rfl (rfl) (⟨by rw [key], by rw [key]; exact hR, fun _ _ => rfl⟩)
  · refine r_iconst 8 (v := -1) dX6_lay_7 (by decide) rfl ?_
    exact r_iret .int dX6_lay_8 rfl (rfl) (by first | exact ⟨by rw [f_lay, if_neg (g4)], by rw [f_lay, if_neg (g4)]; exact hR, fun _ _ => rfl⟩)

/-! ===== the reference: a line ===== -/
set_option maxRecDepth 20000 in
set_option maxHeartbeats 4000000 in
theorem m_rlBoat {d T p : Nat} {t : Nat → Nat} {w : zW} {n l m : Nat} {K : Nat → Nat} {sd : Nat} (hd : 5 ≤ d) (hn : n < 6) (hs : sd ≤ 1) (hT : tpL w T t) (hp : p ≤ T) (hk : mT w (tok T t p)) (h4 : tk_k (tok T t p) ≠ 4) (hD : dM w (n, K, l, m)) : CT mX7_readLineOf d [.ref 50, .int (nI sd)] w (z_v fun w' => frD w w' ∧ mrs T t (sB (pCargo T t p) fun x => sB (pMarks T t n 3 2 x.2 (un (un K (6 + 6 * n) sd) (6 + 6 * n + 1) x.1)) fun y => .inr (y.1, (n + 1, y.2, l, m))) w') := by
  refine CT.of [some (.ref 50), some (.int (nI sd))] rfl (Nat.le_of_ble_eq_true rfl) rfl ?_
  refine r_iload_n 1 dX7_readLineOf_0 rfl rfl ?_
  refine r_tout 127 dX7_readLineOf_1 (Or.inl (by rw [ti_n (by omega)]; omega)) (by decide) ?_
  refine r_aload_n 128 dX7_readLineOf_127 rfl rfl ?_
  refine r_iload_n 129 dX7_readLineOf_128 rfl rfl ?_
  refine r_callV (y2 := mX7_readBoat) (as := [_]) 132 dX7_readLineOf_129 ml_X7_146 mv_X7_readBoat (m_readBoat (d := d - 1) (by omega) hn hT hp hk h4 hD) (by omega) sh_50 ⟨_, rfl, rfl⟩ rfl (Nat.le_of_ble_eq_true rfl) rfl (kk_v ?_)
  rintro w1 h1
  exact r_vret dX7_readLineOf_132 rfl (h1)
set_option maxRecDepth 20000 in
set_option maxHeartbeats 4000000 in
theorem m_rlLiar {d T p : Nat} {t : Nat → Nat} {w : zW} {n l m : Nat} {K : Nat → Nat} (hd : 5 ≤ d) (hl : l < 64) (hT : tpL w T t) (hp : p ≤ T) (hk : mT w (tok T t p)) (h4 : tk_k (tok T t p) ≠ 4) (hD : dM w (n, K, l, m)) : CT mX7_readLineOf d [.ref 50, .int 6] w (z_v fun w' => frD w w' ∧ mrs T t (pLiar T t p (n, K, l, m)) w') := by
  refine CT.of [some (.ref 50), some (.int 6)] rfl (Nat.le_of_ble_eq_true rfl) rfl ?_
  refine r_iload_n 1 dX7_readLineOf_0 rfl rfl ?_
  refine r_tin 120 dX7_readLineOf_1 (by decide) (by decide) rfl (by decide) ?_
  refine r_aload_n 121 dX7_readLineOf_120 rfl rfl ?_
  refine r_callV (y2 := mX7_readLiar) (as := []) 124 dX7_readLineOf_121 ml_X7_143 mv_X7_readLiar (m_readLiar (d := d - 1) (by omega) hl hT hp hk h4 hD) (by omega) sh_50 ⟨_, rfl, rfl⟩ rfl (Nat.le_of_ble_eq_true rfl) rfl (kk_v ?_)
  rintro w1 h1
  refine r_goto 132 dX7_readLineOf_124 (by decide) ?_
  exact r_vret dX7_readLineOf_132 rfl (h1)
set_option maxRecDepth 20000 in
set_option maxHeartbeats 4000000 in
theorem l_rlEnd {d T : Nat} {t : Nat → Nat} {w w0 : zW} {c : Int32} {r0 : sR (Nat × pD)} (hd : 4 ≤ d) (hT : tpL w T t) (hF : frD w0 w) (hm : mrs T t r0 w) (he : ∀ e, r0 = .inl e → 1 ≤ e.1 ∧ e.1 ≤ 6) (hv : ∀ v, r0 = .inr v → v.1 ≤ T) : WP mX7_readLine d (z_T (z_v fun w' => frD w0 w' ∧ mrs T t (sB r0 (fun x => sB (pStop T t x.1) fun a => .inr (a, x.2))) w')) 129 [some (.ref 50), some (.int c)] [] w := by
  rcases hr : r0 with e | v
  · rw [hr] at hm
    have h16 := he e hr
    refine r_aload_n 130 dX7_readLine_129 rfl rfl ?_
    refine r_geti 133 dX7_readLine_130 fz_X7_81 sh_50 rfl rfl ?_
    refine r_eq hm.1 ?_
    refine r_if_ne 154 136 dX7_readLine_133 (by decide) rfl (fun _ => ?_) (fun z => absurd z (fun z => by have := (nI_inj (b := 0) (by omega) (by decide)).mp z; omega))
    refine r_aload_n 155 dX7_readLine_154 rfl rfl ?_
    refine r_callV (y2 := mX7_next) (as := []) 158 dX7_readLine_155 ml_X7_127 mv_X7_next (m_nextF (d := d - 1) h16 hm.1) (by omega) sh_50 ⟨_, rfl, rfl⟩ rfl (Nat.le_of_ble_eq_true rfl) rfl (kk_v ?_)
    rintro _ rfl
    exact r_vret dX7_readLine_158 rfl (⟨hF, hm⟩)
  rw [hr] at hm
  have hp := hv v hr
  obtain ⟨hk, hD⟩ := hm
  by_cases h4 : tk_k (tok T t v.1) = 4
  · refine r_aload_n 130 dX7_readLine_129 rfl rfl ?_
    refine r_geti 133 dX7_readLine_130 fz_X7_81 sh_50 rfl rfl ?_
    refine r_eq (hk.2.1 h4).1 ?_
    refine r_if_ne 154 136 dX7_readLine_133 (by decide) rfl (fun _ => ?_) (fun z => absurd z (by decide))
    refine r_aload_n 155 dX7_readLine_154 rfl rfl ?_
    refine r_callV (y2 := mX7_next) (as := []) 158 dX7_readLine_155 ml_X7_127 mv_X7_next (m_nextF (d := d - 1) (e := 1) (by decide) (hk.2.1 h4).1) (by omega) sh_50 ⟨_, rfl, rfl⟩ rfl (Nat.le_of_ble_eq_true rfl) rfl (kk_v ?_)
    rintro _ rfl
    exact r_vret dX7_readLine_158 rfl (⟨hF, by show mrs T t (sB (pStop T t v.1) _) _; rw [pStop, if_neg (by omega), bl_4 h4]; exact hk.2.1 h4⟩)
  obtain ⟨h15, h13, h11, -⟩ := hk.2.2 h4
  have hta := tok_T (t := t) hp
  by_cases h2 : tk_k (tok T t v.1) = 2
  · refine r_aload_n 130 dX7_readLine_129 rfl rfl ?_
    refine r_geti 133 dX7_readLine_130 fz_X7_81 sh_50 rfl rfl ?_
    refine r_eq h15 ?_
    refine r_if_ne 154 136 dX7_readLine_133 (by decide) rfl (fun z => absurd (rfl) z) (fun _ => ?_)
    refine r_aload_n 137 dX7_readLine_136 rfl rfl ?_
    refine r_aload_n 138 dX7_readLine_137 rfl rfl ?_
    refine r_geti 141 dX7_readLine_138 fz_X7_105 sh_50 rfl rfl ?_
    refine r_eq h13 ?_
    refine r_iconst 142 (v := 3) dX7_readLine_141 (by decide) rfl ?_
    refine rt_icmp_ne (a := 1) (b := 0) (j := 150) 149 145 dX7_readLine_142 (by decide) rfl (fun k => r_iconst 150 dX7_readLine_149 (by decide) rfl k) (fun k => r_iconst 146 dX7_readLine_145 (by decide) rfl (r_goto 150 dX7_readLine_146 (by decide) k)) ?_
    refine r_eq (z := z_b (tk_k (tok T t v.1) = 2)) (by by_cases c : tk_k (tok T t v.1) = 2; (rw [z_bp c, if_pos (show nI (sN (tk_k (tok T t v.1))) = 3 from (sN_i (c := 2) tok_k4 h4 (by decide)).mpr c)]); (rw [z_bn c, if_neg (show ¬ nI (sN (tk_k (tok T t v.1))) = 3 from fun z => c ((sN_i (c := 2) tok_k4 h4 (by decide)).mp z))])) ?_
    refine r_iconst 151 (v := 2) dX7_readLine_150 (by decide) rfl ?_
    refine r_callV (y2 := mX7_needs) (as := [_, _]) 154 dX7_readLine_151 ml_X7_119 mv_X7_needs (m_needs (d := d - 1) h15) (by omega) sh_50 ⟨_, rfl, rfl⟩ rfl (Nat.le_of_ble_eq_true rfl) rfl (kk_v ?_)
    rintro w1 e1
    rw [if_pos h2] at e1
    subst e1
    refine r_aload_n 155 dX7_readLine_154 rfl rfl ?_
    refine r_callV (y2 := mX7_next) (as := []) 158 dX7_readLine_155 ml_X7_127 mv_X7_next (m_next (d := d - 1) (by omega) hT hta.1 h15 h11) (by omega) sh_50 ⟨_, rfl, rfl⟩ rfl (Nat.le_of_ble_eq_true rfl) rfl (kk_v ?_)
    rintro w2 ⟨hk2, hf2⟩
    exact r_vret dX7_readLine_158 rfl (⟨hF.L hf2, by show mrs T t (sB (pStop T t v.1) _) _; rw [pStop, if_pos h2]; exact ⟨hk2, hD.L hf2⟩⟩)
  · refine r_aload_n 130 dX7_readLine_129 rfl rfl ?_
    refine r_geti 133 dX7_readLine_130 fz_X7_81 sh_50 rfl rfl ?_
    refine r_eq h15 ?_
    refine r_if_ne 154 136 dX7_readLine_133 (by decide) rfl (fun z => absurd (rfl) z) (fun _ => ?_)
    refine r_aload_n 137 dX7_readLine_136 rfl rfl ?_
    refine r_aload_n 138 dX7_readLine_137 rfl rfl ?_
    refine r_geti 141 dX7_readLine_138 fz_X7_105 sh_50 rfl rfl ?_
    refine r_eq h13 ?_
    refine r_iconst 142 (v := 3) dX7_readLine_141 (by decide) rfl ?_
    refine rt_icmp_ne (a := 1) (b := 0) (j := 150) 149 145 dX7_readLine_142 (by decide) rfl (fun k => r_iconst 150 dX7_readLine_149 (by decide) rfl k) (fun k => r_iconst 146 dX7_readLine_145 (by decide) rfl (r_goto 150 dX7_readLine_146 (by decide) k)) ?_
    refine r_eq (z := z_b (tk_k (tok T t v.1) = 2)) (by by_cases c : tk_k (tok T t v.1) = 2; (rw [z_bp c, if_pos (show nI (sN (tk_k (tok T t v.1))) = 3 from (sN_i (c := 2) tok_k4 h4 (by decide)).mpr c)]); (rw [z_bn c, if_neg (show ¬ nI (sN (tk_k (tok T t v.1))) = 3 from fun z => c ((sN_i (c := 2) tok_k4 h4 (by decide)).mp z))])) ?_
    refine r_iconst 151 (v := 2) dX7_readLine_150 (by decide) rfl ?_
    refine r_callV (y2 := mX7_needs) (as := [_, _]) 154 dX7_readLine_151 ml_X7_119 mv_X7_needs (m_needs (d := d - 1) h15) (by omega) sh_50 ⟨_, rfl, rfl⟩ rfl (Nat.le_of_ble_eq_true rfl) rfl (kk_v ?_)
    rintro w1 e1
    rw [if_neg h2] at e1
    refine r_aload_n 155 dX7_readLine_154 rfl rfl ?_
    refine r_callV (y2 := mX7_next) (as := []) 158 dX7_readLine_155 ml_X7_127 mv_X7_next (m_nextF (d := d - 1) (e := 2) (by decide) (by rw [← e1, z_up_i (by decide), z_up_s]; rfl)) (by omega) sh_50 ⟨_, rfl, rfl⟩ rfl (Nat.le_of_ble_eq_true rfl) rfl (kk_v ?_)
    rintro _ rfl
    exact r_vret dX7_readLine_158 rfl (⟨by rw [← e1]; exact (hF.up (by decide)).up (by decide), by show mrs T t (sB (pStop T t v.1) _) _; rw [pStop, if_neg h2, ← e1]; exact fF_up (y := 2) hk.1 h4⟩)
set_option maxRecDepth 20000 in
set_option maxHeartbeats 4000000 in
theorem l_rlMid {d T p : Nat} {t : Nat → Nat} {w w0 : zW} {c : Int32} {r0 : sR (Nat × pD)} (hd : 6 ≤ d) (hT : tpL w T t) (hp : p ≤ T) (hF : frD w0 w) (hk : mT w (tok T t p)) (hcall : tk_k (tok T t p) ≠ 4 → CT mX7_readLineOf (d - 1) [.ref 50, .int c] w (z_v fun w' => frD w w' ∧ mrs T t r0 w')) (h4s : tk_k (tok T t p) = 4 → sB r0 (fun x => sB (pStop T t x.1) fun a => .inr (a, x.2)) = .inl (1, tk_s (tok T t p))) (he : ∀ e, r0 = .inl e → 1 ≤ e.1 ∧ e.1 ≤ 6) (hv : ∀ v, r0 = .inr v → v.1 ≤ T) : WP mX7_readLine d (z_T (z_v fun w' => frD w0 w' ∧ mrs T t (sB r0 (fun x => sB (pStop T t x.1) fun a => .inr (a, x.2))) w')) 116 [some (.ref 50), some (.int c)] [] w := by
  by_cases h4 : tk_k (tok T t p) = 4
  · refine r_aload_n 117 dX7_readLine_116 rfl rfl ?_
    refine r_geti 120 dX7_readLine_117 fz_X7_81 sh_50 rfl rfl ?_
    refine r_eq (hk.2.1 h4).1 ?_
    refine r_if_le 124 123 dX7_readLine_120 (by decide) rfl (fun z => absurd z (by decide)) (fun _ => ?_)
    exact r_vret dX7_readLine_123 rfl (⟨hF, by rw [h4s h4]; exact hk.2.1 h4⟩)
  · refine r_aload_n 117 dX7_readLine_116 rfl rfl ?_
    refine r_geti 120 dX7_readLine_117 fz_X7_81 sh_50 rfl rfl ?_
    refine r_eq (hk.2.2 h4).1 ?_
    refine r_if_le 124 123 dX7_readLine_120 (by decide) rfl (fun _ => ?_) (fun z => absurd (by decide) z)
    refine r_aload_n 125 dX7_readLine_124 rfl rfl ?_
    refine r_iload_n 126 dX7_readLine_125 rfl rfl ?_
    refine r_callV (y2 := mX7_readLineOf) (as := [_]) 129 dX7_readLine_126 ml_X7_157 mv_X7_readLineOf (hcall h4) (by omega) sh_50 ⟨_, rfl, rfl⟩ rfl (Nat.le_of_ble_eq_true rfl) rfl (kk_v ?_)
    rintro w1 ⟨fD, hm⟩
    exact l_rlEnd (by omega) (hT.D fD) (hF.trans fD) hm he hv
theorem isN_ex {t : Nat → Nat} {k : tkT} {i j : Nat} (hi : i < 16) (hj : j < 16) (h1 : isN t k i = true) (h2 : isN t k j = true) : i = j := by
  have key : ∀ i, i < 16 → ∀ j, j < 16 → z_sln.getD i 0 = z_sln.getD j 0 → (∀ q, q < 5 → q < z_sln.getD i 0 → (z_sby.getD i []).getD q 0 = (z_sby.getD j []).getD q 0) → i = j := by decide +kernel
  have a1 := of_decide_eq_true h1
  have a2 := of_decide_eq_true h2
  refine key i hi j hj (a1.2.1.symm.trans a2.2.1) (fun q _ hq => ?_)
  have hq2 : q < z_sln.getD j 0 := by rw [← a2.2.1, a1.2.1]; exact hq
  rw [← a1.2.2 q hq, ← a2.2.2 q hq2]
theorem isN_k {t : Nat → Nat} {k : tkT} {i : Nat} (hk : ¬ tk_k k = 0) : ¬ isN t k i = true := fun z => hk (of_decide_eq_true z).1
theorem tl_sh : ∀ m, m < 16 → ∀ j, j < 4 → ((nI (4 * m) >>> (nI (j + 2) &&& 31)) &&& 1) = nI (bi m j) := by decide +kernel
theorem tl_or : ∀ m, m < 16 → ∀ j, j < 4 → bi m j = 0 → nI (4 * m) ||| ((1 : Int32) <<< (nI (j + 2) &&& 31)) = nI (4 * (m + 2 ^ j)) := by decide +kernel
set_option maxRecDepth 20000 in
set_option maxHeartbeats 4000000 in
theorem l_rlNone {d T p : Nat} {t : Nat → Nat} {w : zW} {n l m : Nat} {K : Nat → Nat} (hd : 7 ≤ d) (hT : tpL w T t) (hp : p ≤ T) (hk : mT w (tok T t p)) (h4 : tk_k (tok T t p) ≠ 4) (hD : dM w (n, K, l, m)) (hV : dV (n, K, l, m)) (hno : pLine0 T t (tok T t p) (n, K, l, m) = .inl (bl (tok T t p) 2)) : WP mX7_readLine d (z_T (z_v fun w' => frD w w' ∧ mrs T t (pLine T t p (n, K, l, m)) w')) 18 [some (.ref 50), some (.int (-4))] [] w := by
  have h12 := hk.1
  obtain ⟨h15, h13, h11, -⟩ := hk.2.2 h4
  have hta := tok_T (t := t) hp
  have hn6 : n ≤ 6 := hV.n
  refine r_aload_n 19 dX7_readLine_18 rfl rfl ?_
  refine r_iload_n 20 dX7_readLine_19 rfl rfl ?_
  refine r_bipush 22 (v := -4) dX7_readLine_20 (by decide) rfl ?_
  refine r_icmp_eq 29 25 dX7_readLine_22 (by decide) rfl (fun _ => ?_) (fun z => absurd (rfl) z)
  refine r_iconst 30 (v := 0) dX7_readLine_29 (by decide) rfl ?_
  refine r_iconst 31 (v := 2) dX7_readLine_30 (by decide) rfl ?_
  refine r_callV (y2 := mX7_needs) (as := [_, _]) 34 dX7_readLine_31 ml_X7_119 mv_X7_needs (m_needsZ (d := d - 1) h15) (by omega) sh_50 ⟨_, rfl, rfl⟩ rfl (Nat.le_of_ble_eq_true rfl) rfl (kk_v ?_)
  rintro w1 e1
  have f1 : w1 50 15 = nI 2 := by rw [← e1, z_up_i (by decide), z_up_s]; rfl
  have fr1 : frD w w1 := by rw [← e1]; exact (frD.rfl.up (by decide)).up (by decide)
  have ff1 : fF w1 (bl (tok T t p) 2) := by rw [← e1]; exact fF_up (y := 2) h12 h4
  refine r_aload_n 35 dX7_readLine_34 rfl rfl ?_
  refine r_iload_n 36 dX7_readLine_35 rfl rfl ?_
  refine r_iconst 37 (v := 1) dX7_readLine_36 (by decide) rfl ?_
  refine r_icmp_gt 49 40 dX7_readLine_37 (by decide) rfl (fun z => absurd z (by decide)) (fun _ => ?_)
  refine r_aload_n 41 dX7_readLine_40 rfl rfl ?_
  refine r_geti 44 dX7_readLine_41 fz_X7_56 sh_50 rfl rfl ?_
  refine r_bipush 46 (v := 6) dX7_readLine_44 (by decide) rfl ?_
  refine rt_icmp_ge (a := 1) (b := 0) (j := 54) 53 49 dX7_readLine_46 (by decide) rfl (fun k => r_iconst 54 dX7_readLine_53 (by decide) rfl k) (fun k => r_iconst 50 dX7_readLine_49 (by decide) rfl (r_goto 54 dX7_readLine_50 (by decide) k)) ?_
  refine r_iconst 55 (v := 5) dX7_readLine_54 (by decide) rfl ?_
  refine r_callV (y2 := mX7_needs) (as := [_, _]) 58 dX7_readLine_55 ml_X7_119 mv_X7_needs (m_needsX (d := d - 1) (by rw [f1]; decide)) (by omega) sh_50 ⟨_, rfl, rfl⟩ rfl (Nat.le_of_ble_eq_true rfl) rfl (kk_v ?_)
  rintro _ rfl
  refine r_aload_n 59 dX7_readLine_58 rfl rfl ?_
  refine r_geti 62 dX7_readLine_59 fz_X7_81 sh_50 rfl rfl ?_
  refine r_eq f1 ?_
  refine r_if_ne 112 65 dX7_readLine_62 (by decide) rfl (fun _ => ?_) (fun z => absurd z (by decide))
  refine r_aload_n 113 dX7_readLine_112 rfl rfl ?_
  refine r_callV (y2 := mX7_next) (as := []) 116 dX7_readLine_113 ml_X7_127 mv_X7_next (m_nextF (d := d - 1) (e := 2) (by decide) f1) (by omega) sh_50 ⟨_, rfl, rfl⟩ rfl (Nat.le_of_ble_eq_true rfl) rfl (kk_v ?_)
  rintro _ rfl
  refine r_aload_n 117 dX7_readLine_116 rfl rfl ?_
  refine r_geti 120 dX7_readLine_117 fz_X7_81 sh_50 rfl rfl ?_
  refine r_eq f1 ?_
  refine r_if_le 124 123 dX7_readLine_120 (by decide) rfl (fun z => absurd z (by decide)) (fun _ => ?_)
  exact r_vret dX7_readLine_123 rfl (⟨fr1, by rw [pLine, hno]; exact ff1⟩)
theorem pB_4 {T p n sd l m : Nat} {t K : Nat → Nat} (z : tk_k (tok T t p) = 4) : sB (sB (pCargo T t p) fun x => sB (pMarks T t n 3 2 x.2 (un (un K (6 + 6 * n) sd) (6 + 6 * n + 1) x.1)) fun y => .inr (y.1, (n + 1, y.2, l, m))) (fun x => sB (pStop T t x.1) fun a => .inr (a, x.2)) = .inl (1, tk_s (tok T t p)) := by
  rw [pCargo, cg_k (by omega)]
  show (.inl (bl (tok T t p) 2) : sR (Nat × pD)) = _
  rw [bl_4 z]
theorem pL_4 {T p : Nat} {t : Nat → Nat} {D : pD} (z : tk_k (tok T t p) = 4) : sB (pLiar T t p D) (fun x => sB (pStop T t x.1) fun a => .inr (a, x.2)) = .inl (1, tk_s (tok T t p)) := by
  rw [pLiar, pNum, if_neg (by omega)]
  show (.inl (bl (tok T t p) 2) : sR (Nat × pD)) = _
  rw [bl_4 z]
theorem pR_4 {T p m q : Nat} {t K : Nat → Nat} {f : Nat × (Nat → Nat) → sR (Nat × pD)} (z : tk_k (tok T t p) = 4) : sB (sB (pRules T t (m + 1) q p K) f) (fun x => sB (pStop T t x.1) fun a => .inr (a, x.2)) = .inl (1, tk_s (tok T t p)) := by
  rw [pRules, pNum, if_neg (by omega)]
  show (.inl (bl (tok T t p) 2) : sR (Nat × pD)) = _
  rw [bl_4 z]
theorem pW_4 {T p : Nat} {t : Nat → Nat} {f : Nat × Nat → sR (Nat × pD)} (z : tk_k (tok T t p) = 4) : sB (sB (pLaw T t p) f) (fun x => sB (pStop T t x.1) fun a => .inr (a, x.2)) = .inl (1, tk_s (tok T t p)) := by
  rw [pLaw, lw_k (by omega)]
  show (.inl (bl (tok T t p) 2) : sR (Nat × pD)) = _
  rw [bl_4 z]
theorem pH_4 {T p : Nat} {t : Nat → Nat} {D D' : pD} (z : tk_k (tok T t p) = 4) : sB (.inr (p, D') : sR (Nat × pD)) (fun x => sB (pStop T t x.1) fun a => .inr (a, x.2)) = .inl (1, tk_s (tok T t p)) := by
  show sB (pStop T t p) _ = _
  rw [pStop, if_neg (by omega)]
  show (.inl (bl (tok T t p) 2) : sR (Nat × pD)) = _
  rw [bl_4 z]
set_option maxRecDepth 20000 in
set_option maxHeartbeats 4000000 in
theorem l_rlB0 {d T p : Nat} {t : Nat → Nat} {w : zW} {n l m : Nat} {K : Nat → Nat} (hd : 7 ≤ d) (hT : tpL w T t) (hp : p ≤ T) (hk : mT w (tok T t p)) (h4 : tk_k (tok T t p) ≠ 4) (hD : dM w (n, K, l, m)) (hV : dV (n, K, l, m)) (hn1 : isN t (tok T t p) 0 = true) : WP mX7_readLine d (z_T (z_v fun w' => frD w w' ∧ mrs T t (pLine T t p (n, K, l, m)) w')) 18 [some (.ref 50), some (.int 0)] [] w := by
  have h12 := hk.1
  obtain ⟨h15, h13, h11, -⟩ := hk.2.2 h4
  have hta := tok_T (t := t) hp
  have hn6 : n ≤ 6 := hV.n
  refine r_aload_n 19 dX7_readLine_18 rfl rfl ?_
  refine r_iload_n 20 dX7_readLine_19 rfl rfl ?_
  refine r_bipush 22 (v := -4) dX7_readLine_20 (by decide) rfl ?_
  refine r_icmp_eq 29 25 dX7_readLine_22 (by decide) rfl (fun z => absurd z (by decide)) (fun _ => ?_)
  refine r_iconst 26 (v := 1) dX7_readLine_25 (by decide) rfl ?_
  refine r_goto 30 dX7_readLine_26 (by decide) ?_
  refine r_iconst 31 (v := 2) dX7_readLine_30 (by decide) rfl ?_
  refine r_callV (y2 := mX7_needs) (as := [_, _]) 34 dX7_readLine_31 ml_X7_119 mv_X7_needs (m_needsO (d := d - 1) h15) (by omega) sh_50 ⟨_, rfl, rfl⟩ rfl (Nat.le_of_ble_eq_true rfl) rfl (kk_v ?_)
  rintro _ rfl
  refine r_aload_n 35 dX7_readLine_34 rfl rfl ?_
  refine r_iload_n 36 dX7_readLine_35 rfl rfl ?_
  refine r_iconst 37 (v := 1) dX7_readLine_36 (by decide) rfl ?_
  refine r_icmp_gt 49 40 dX7_readLine_37 (by decide) rfl (fun z => absurd z (by decide)) (fun _ => ?_)
  refine r_aload_n 41 dX7_readLine_40 rfl rfl ?_
  refine r_geti 44 dX7_readLine_41 fz_X7_56 sh_50 rfl rfl ?_
  refine r_eq (z := nI n) hD.2.1 ?_
  refine r_bipush 46 (v := 6) dX7_readLine_44 (by decide) rfl ?_
  refine r_icmp_ge 53 49 dX7_readLine_46 (by decide) rfl (fun g46 => ?_) (fun g46 => ?_)
  · have g46 : 6 ≤ n := (nI_le' (a := 6) (by decide) (by omega)).mp g46
    refine r_iconst 54 (v := 0) dX7_readLine_53 (by decide) rfl ?_
    refine r_iconst 55 (v := 5) dX7_readLine_54 (by decide) rfl ?_
    refine r_callV (y2 := mX7_needs) (as := [_, _]) 58 dX7_readLine_55 ml_X7_119 mv_X7_needs (m_needsZ (d := d - 1) h15) (by omega) sh_50 ⟨_, rfl, rfl⟩ rfl (Nat.le_of_ble_eq_true rfl) rfl (kk_v ?_)
    rintro w1 e1
    have f1 : w1 50 15 = nI 5 := by rw [← e1, z_up_i (by decide), z_up_s]; rfl
    have fr1 : frD w w1 := by rw [← e1]; exact (frD.rfl.up (by decide)).up (by decide)
    have ff1 : fF w1 (bl (tok T t p) 5) := by rw [← e1]; exact fF_up (y := 5) h12 h4
    refine r_aload_n 59 dX7_readLine_58 rfl rfl ?_
    refine r_geti 62 dX7_readLine_59 fz_X7_81 sh_50 rfl rfl ?_
    refine r_eq f1 ?_
    refine r_if_ne 112 65 dX7_readLine_62 (by decide) rfl (fun _ => ?_) (fun z => absurd z (by decide))
    refine r_aload_n 113 dX7_readLine_112 rfl rfl ?_
    refine r_callV (y2 := mX7_next) (as := []) 116 dX7_readLine_113 ml_X7_127 mv_X7_next (m_nextF (d := d - 1) (e := 5) (by decide) f1) (by omega) sh_50 ⟨_, rfl, rfl⟩ rfl (Nat.le_of_ble_eq_true rfl) rfl (kk_v ?_)
    rintro _ rfl
    refine r_aload_n 117 dX7_readLine_116 rfl rfl ?_
    refine r_geti 120 dX7_readLine_117 fz_X7_81 sh_50 rfl rfl ?_
    refine r_eq f1 ?_
    refine r_if_le 124 123 dX7_readLine_120 (by decide) rfl (fun z => absurd z (by decide)) (fun _ => ?_)
    exact r_vret dX7_readLine_123 rfl (⟨fr1, by rw [pLine, show pLine0 T t (tok T t p) (n, K, l, m) = .inl (bl (tok T t p) 5) by { rw [pLine0, if_pos hn1]; show (if 6 ≤ n then _ else _) = _; rw [if_pos g46] }]; exact ff1⟩)
  · have g46 : ¬ 6 ≤ n := fun z => g46 ((nI_le' (a := 6) (by decide) (by omega)).mpr z)
    refine r_iconst 50 (v := 1) dX7_readLine_49 (by decide) rfl ?_
    refine r_goto 54 dX7_readLine_50 (by decide) ?_
    refine r_iconst 55 (v := 5) dX7_readLine_54 (by decide) rfl ?_
    refine r_callV (y2 := mX7_needs) (as := [_, _]) 58 dX7_readLine_55 ml_X7_119 mv_X7_needs (m_needsO (d := d - 1) h15) (by omega) sh_50 ⟨_, rfl, rfl⟩ rfl (Nat.le_of_ble_eq_true rfl) rfl (kk_v ?_)
    rintro _ rfl
    refine r_aload_n 59 dX7_readLine_58 rfl rfl ?_
    refine r_geti 62 dX7_readLine_59 fz_X7_81 sh_50 rfl rfl ?_
    refine r_eq h15 ?_
    refine r_if_ne 112 65 dX7_readLine_62 (by decide) rfl (fun z => absurd (rfl) z) (fun _ => ?_)
    refine r_iload_n 66 dX7_readLine_65 rfl rfl ?_
    refine r_i2l 67 dX7_readLine_66 rfl ?_
    refine r_ldc2 70 dX7_readLine_67 kl_X7_153 rfl ?_
    refine r_ldc2 73 dX7_readLine_70 kl_X7_155 rfl ?_
    refine r_callS (y2 := mX7_in) (as := [_, _, _]) 76 dX7_readLine_73 ml_X7_74 ms_X7_in (m_in (d := d - 1) _ _ _) (by omega) rfl (Nat.le_of_ble_eq_true rfl) rfl (kk_i ?_)
    rintro _ _ ⟨rfl, rfl⟩
    refine r_eq (z_bc (in_wi (lo := 2) (hi := 5) rfl rfl)) ?_
    refine rb_eq 112 79 dX7_readLine_76 (by decide) rfl (fun g76 => ?_) (fun g76 => ?_)
    · refine r_aload_n 113 dX7_readLine_112 rfl rfl ?_
      refine r_callV (y2 := mX7_next) (as := []) 116 dX7_readLine_113 ml_X7_127 mv_X7_next (m_next (d := d - 1) (by omega) hT hta.1 h15 h11) (by omega) sh_50 ⟨_, rfl, rfl⟩ rfl (Nat.le_of_ble_eq_true rfl) rfl (kk_v ?_)
      rintro w2 ⟨hk2, hf2⟩
      have q0 : pLine0 T t (tok T t p) (n, K, l, m) = sB (pCargo T t (tk_a (tok T t p))) fun x => sB (pMarks T t n 3 2 x.2 (un (un K (6 + 6 * n) 0) (6 + 6 * n + 1) x.1)) fun y => .inr (y.1, (n + 1, y.2, l, m)) := by { rw [pLine0, if_pos hn1]; show (if 6 ≤ n then _ else _) = _; rw [if_neg g46] }
      rw [pLine, q0]
      exact l_rlMid (w0 := w) (by omega) (hT.D hf2.D) hta.1 hf2.D hk2 (fun z => m_rlBoat (d := d - 1) (sd := 0) (by omega) (by omega) (by decide) (hT.D hf2.D) hta.1 hk2 z (hD.L hf2)) (fun z => pB_4 z) (fun e he => e16 (pLine0_e hp (q0.trans he))) (fun v hv => (pLine0_V hp hV (q0.trans hv)).2.2)
    · exact absurd g76 (by decide +kernel)
set_option maxRecDepth 20000 in
set_option maxHeartbeats 4000000 in
theorem l_rlB1 {d T p : Nat} {t : Nat → Nat} {w : zW} {n l m : Nat} {K : Nat → Nat} (hd : 7 ≤ d) (hT : tpL w T t) (hp : p ≤ T) (hk : mT w (tok T t p)) (h4 : tk_k (tok T t p) ≠ 4) (hD : dM w (n, K, l, m)) (hV : dV (n, K, l, m)) (hn0 : ¬ isN t (tok T t p) 0 = true) (hn1 : isN t (tok T t p) 1 = true) : WP mX7_readLine d (z_T (z_v fun w' => frD w w' ∧ mrs T t (pLine T t p (n, K, l, m)) w')) 18 [some (.ref 50), some (.int 1)] [] w := by
  have h12 := hk.1
  obtain ⟨h15, h13, h11, -⟩ := hk.2.2 h4
  have hta := tok_T (t := t) hp
  have hn6 : n ≤ 6 := hV.n
  refine r_aload_n 19 dX7_readLine_18 rfl rfl ?_
  refine r_iload_n 20 dX7_readLine_19 rfl rfl ?_
  refine r_bipush 22 (v := -4) dX7_readLine_20 (by decide) rfl ?_
  refine r_icmp_eq 29 25 dX7_readLine_22 (by decide) rfl (fun z => absurd z (by decide)) (fun _ => ?_)
  refine r_iconst 26 (v := 1) dX7_readLine_25 (by decide) rfl ?_
  refine r_goto 30 dX7_readLine_26 (by decide) ?_
  refine r_iconst 31 (v := 2) dX7_readLine_30 (by decide) rfl ?_
  refine r_callV (y2 := mX7_needs) (as := [_, _]) 34 dX7_readLine_31 ml_X7_119 mv_X7_needs (m_needsO (d := d - 1) h15) (by omega) sh_50 ⟨_, rfl, rfl⟩ rfl (Nat.le_of_ble_eq_true rfl) rfl (kk_v ?_)
  rintro _ rfl
  refine r_aload_n 35 dX7_readLine_34 rfl rfl ?_
  refine r_iload_n 36 dX7_readLine_35 rfl rfl ?_
  refine r_iconst 37 (v := 1) dX7_readLine_36 (by decide) rfl ?_
  refine r_icmp_gt 49 40 dX7_readLine_37 (by decide) rfl (fun z => absurd z (by decide)) (fun _ => ?_)
  refine r_aload_n 41 dX7_readLine_40 rfl rfl ?_
  refine r_geti 44 dX7_readLine_41 fz_X7_56 sh_50 rfl rfl ?_
  refine r_eq (z := nI n) hD.2.1 ?_
  refine r_bipush 46 (v := 6) dX7_readLine_44 (by decide) rfl ?_
  refine r_icmp_ge 53 49 dX7_readLine_46 (by decide) rfl (fun g46 => ?_) (fun g46 => ?_)
  · have g46 : 6 ≤ n := (nI_le' (a := 6) (by decide) (by omega)).mp g46
    refine r_iconst 54 (v := 0) dX7_readLine_53 (by decide) rfl ?_
    refine r_iconst 55 (v := 5) dX7_readLine_54 (by decide) rfl ?_
    refine r_callV (y2 := mX7_needs) (as := [_, _]) 58 dX7_readLine_55 ml_X7_119 mv_X7_needs (m_needsZ (d := d - 1) h15) (by omega) sh_50 ⟨_, rfl, rfl⟩ rfl (Nat.le_of_ble_eq_true rfl) rfl (kk_v ?_)
    rintro w1 e1
    have f1 : w1 50 15 = nI 5 := by rw [← e1, z_up_i (by decide), z_up_s]; rfl
    have fr1 : frD w w1 := by rw [← e1]; exact (frD.rfl.up (by decide)).up (by decide)
    have ff1 : fF w1 (bl (tok T t p) 5) := by rw [← e1]; exact fF_up (y := 5) h12 h4
    refine r_aload_n 59 dX7_readLine_58 rfl rfl ?_
    refine r_geti 62 dX7_readLine_59 fz_X7_81 sh_50 rfl rfl ?_
    refine r_eq f1 ?_
    refine r_if_ne 112 65 dX7_readLine_62 (by decide) rfl (fun _ => ?_) (fun z => absurd z (by decide))
    refine r_aload_n 113 dX7_readLine_112 rfl rfl ?_
    refine r_callV (y2 := mX7_next) (as := []) 116 dX7_readLine_113 ml_X7_127 mv_X7_next (m_nextF (d := d - 1) (e := 5) (by decide) f1) (by omega) sh_50 ⟨_, rfl, rfl⟩ rfl (Nat.le_of_ble_eq_true rfl) rfl (kk_v ?_)
    rintro _ rfl
    refine r_aload_n 117 dX7_readLine_116 rfl rfl ?_
    refine r_geti 120 dX7_readLine_117 fz_X7_81 sh_50 rfl rfl ?_
    refine r_eq f1 ?_
    refine r_if_le 124 123 dX7_readLine_120 (by decide) rfl (fun z => absurd z (by decide)) (fun _ => ?_)
    exact r_vret dX7_readLine_123 rfl (⟨fr1, by rw [pLine, show pLine0 T t (tok T t p) (n, K, l, m) = .inl (bl (tok T t p) 5) by { rw [pLine0, if_neg hn0, if_pos hn1]; show (if 6 ≤ n then _ else _) = _; rw [if_pos g46] }]; exact ff1⟩)
  · have g46 : ¬ 6 ≤ n := fun z => g46 ((nI_le' (a := 6) (by decide) (by omega)).mpr z)
    refine r_iconst 50 (v := 1) dX7_readLine_49 (by decide) rfl ?_
    refine r_goto 54 dX7_readLine_50 (by decide) ?_
    refine r_iconst 55 (v := 5) dX7_readLine_54 (by decide) rfl ?_
    refine r_callV (y2 := mX7_needs) (as := [_, _]) 58 dX7_readLine_55 ml_X7_119 mv_X7_needs (m_needsO (d := d - 1) h15) (by omega) sh_50 ⟨_, rfl, rfl⟩ rfl (Nat.le_of_ble_eq_true rfl) rfl (kk_v ?_)
    rintro _ rfl
    refine r_aload_n 59 dX7_readLine_58 rfl rfl ?_
    refine r_geti 62 dX7_readLine_59 fz_X7_81 sh_50 rfl rfl ?_
    refine r_eq h15 ?_
    refine r_if_ne 112 65 dX7_readLine_62 (by decide) rfl (fun z => absurd (rfl) z) (fun _ => ?_)
    refine r_iload_n 66 dX7_readLine_65 rfl rfl ?_
    refine r_i2l 67 dX7_readLine_66 rfl ?_
    refine r_ldc2 70 dX7_readLine_67 kl_X7_153 rfl ?_
    refine r_ldc2 73 dX7_readLine_70 kl_X7_155 rfl ?_
    refine r_callS (y2 := mX7_in) (as := [_, _, _]) 76 dX7_readLine_73 ml_X7_74 ms_X7_in (m_in (d := d - 1) _ _ _) (by omega) rfl (Nat.le_of_ble_eq_true rfl) rfl (kk_i ?_)
    rintro _ _ ⟨rfl, rfl⟩
    refine r_eq (z_bc (in_wi (lo := 2) (hi := 5) rfl rfl)) ?_
    refine rb_eq 112 79 dX7_readLine_76 (by decide) rfl (fun g76 => ?_) (fun g76 => ?_)
    · refine r_aload_n 113 dX7_readLine_112 rfl rfl ?_
      refine r_callV (y2 := mX7_next) (as := []) 116 dX7_readLine_113 ml_X7_127 mv_X7_next (m_next (d := d - 1) (by omega) hT hta.1 h15 h11) (by omega) sh_50 ⟨_, rfl, rfl⟩ rfl (Nat.le_of_ble_eq_true rfl) rfl (kk_v ?_)
      rintro w2 ⟨hk2, hf2⟩
      have q0 : pLine0 T t (tok T t p) (n, K, l, m) = sB (pCargo T t (tk_a (tok T t p))) fun x => sB (pMarks T t n 3 2 x.2 (un (un K (6 + 6 * n) 1) (6 + 6 * n + 1) x.1)) fun y => .inr (y.1, (n + 1, y.2, l, m)) := by { rw [pLine0, if_neg hn0, if_pos hn1]; show (if 6 ≤ n then _ else _) = _; rw [if_neg g46] }
      rw [pLine, q0]
      exact l_rlMid (w0 := w) (by omega) (hT.D hf2.D) hta.1 hf2.D hk2 (fun z => m_rlBoat (d := d - 1) (sd := 1) (by omega) (by omega) (by decide) (hT.D hf2.D) hta.1 hk2 z (hD.L hf2)) (fun z => pB_4 z) (fun e he => e16 (pLine0_e hp (q0.trans he))) (fun v hv => (pLine0_V hp hV (q0.trans hv)).2.2)
    · exact absurd g76 (by decide +kernel)
set_option maxRecDepth 20000 in
set_option maxHeartbeats 4000000 in
theorem l_rlL {d T p : Nat} {t : Nat → Nat} {w : zW} {n l m : Nat} {K : Nat → Nat} (hd : 7 ≤ d) (hT : tpL w T t) (hp : p ≤ T) (hk : mT w (tok T t p)) (h4 : tk_k (tok T t p) ≠ 4) (hD : dM w (n, K, l, m)) (hV : dV (n, K, l, m)) (hn0 : ¬ isN t (tok T t p) 0 = true) (hn1 : ¬ isN t (tok T t p) 1 = true) (hn2 : isN t (tok T t p) 2 = true) : WP mX7_readLine d (z_T (z_v fun w' => frD w w' ∧ mrs T t (pLine T t p (n, K, l, m)) w')) 18 [some (.ref 50), some (.int 6)] [] w := by
  have h12 := hk.1
  obtain ⟨h15, h13, h11, -⟩ := hk.2.2 h4
  have hta := tok_T (t := t) hp
  have hn6 : n ≤ 6 := hV.n
  refine r_aload_n 19 dX7_readLine_18 rfl rfl ?_
  refine r_iload_n 20 dX7_readLine_19 rfl rfl ?_
  refine r_bipush 22 (v := -4) dX7_readLine_20 (by decide) rfl ?_
  refine r_icmp_eq 29 25 dX7_readLine_22 (by decide) rfl (fun z => absurd z (by decide)) (fun _ => ?_)
  refine r_iconst 26 (v := 1) dX7_readLine_25 (by decide) rfl ?_
  refine r_goto 30 dX7_readLine_26 (by decide) ?_
  refine r_iconst 31 (v := 2) dX7_readLine_30 (by decide) rfl ?_
  refine r_callV (y2 := mX7_needs) (as := [_, _]) 34 dX7_readLine_31 ml_X7_119 mv_X7_needs (m_needsO (d := d - 1) h15) (by omega) sh_50 ⟨_, rfl, rfl⟩ rfl (Nat.le_of_ble_eq_true rfl) rfl (kk_v ?_)
  rintro _ rfl
  refine r_aload_n 35 dX7_readLine_34 rfl rfl ?_
  refine r_iload_n 36 dX7_readLine_35 rfl rfl ?_
  refine r_iconst 37 (v := 1) dX7_readLine_36 (by decide) rfl ?_
  refine r_icmp_gt 49 40 dX7_readLine_37 (by decide) rfl (fun _ => ?_) (fun z => absurd (by decide) z)
  refine r_iconst 50 (v := 1) dX7_readLine_49 (by decide) rfl ?_
  refine r_goto 54 dX7_readLine_50 (by decide) ?_
  refine r_iconst 55 (v := 5) dX7_readLine_54 (by decide) rfl ?_
  refine r_callV (y2 := mX7_needs) (as := [_, _]) 58 dX7_readLine_55 ml_X7_119 mv_X7_needs (m_needsO (d := d - 1) h15) (by omega) sh_50 ⟨_, rfl, rfl⟩ rfl (Nat.le_of_ble_eq_true rfl) rfl (kk_v ?_)
  rintro _ rfl
  refine r_aload_n 59 dX7_readLine_58 rfl rfl ?_
  refine r_geti 62 dX7_readLine_59 fz_X7_81 sh_50 rfl rfl ?_
  refine r_eq h15 ?_
  refine r_if_ne 112 65 dX7_readLine_62 (by decide) rfl (fun z => absurd (rfl) z) (fun _ => ?_)
  refine r_iload_n 66 dX7_readLine_65 rfl rfl ?_
  refine r_i2l 67 dX7_readLine_66 rfl ?_
  refine r_ldc2 70 dX7_readLine_67 kl_X7_153 rfl ?_
  refine r_ldc2 73 dX7_readLine_70 kl_X7_155 rfl ?_
  refine r_callS (y2 := mX7_in) (as := [_, _, _]) 76 dX7_readLine_73 ml_X7_74 ms_X7_in (m_in (d := d - 1) _ _ _) (by omega) rfl (Nat.le_of_ble_eq_true rfl) rfl (kk_i ?_)
  rintro _ _ ⟨rfl, rfl⟩
  refine r_eq (z_bc (in_wi (lo := 2) (hi := 5) rfl rfl)) ?_
  refine rb_eq 112 79 dX7_readLine_76 (by decide) rfl (fun g76 => ?_) (fun g76 => ?_)
  · refine r_aload_n 113 dX7_readLine_112 rfl rfl ?_
    refine r_callV (y2 := mX7_next) (as := []) 116 dX7_readLine_113 ml_X7_127 mv_X7_next (m_next (d := d - 1) (by omega) hT hta.1 h15 h11) (by omega) sh_50 ⟨_, rfl, rfl⟩ rfl (Nat.le_of_ble_eq_true rfl) rfl (kk_v ?_)
    rintro w2 ⟨hk2, hf2⟩
    have q0 : pLine0 T t (tok T t p) (n, K, l, m) = pLiar T t (tk_a (tok T t p)) (n, K, l, m) := by rw [pLine0, if_neg hn0, if_neg hn1, if_pos hn2]
    rw [pLine, q0]
    exact l_rlMid (w0 := w) (by omega) (hT.D hf2.D) hta.1 hf2.D hk2 (fun z => m_rlLiar (d := d - 1) (by omega) hV.1 (hT.D hf2.D) hta.1 hk2 z (hD.L hf2)) (fun z => pL_4 z) (fun e he => e16 (pLine0_e hp (q0.trans he))) (fun v hv => (pLine0_V hp hV (q0.trans hv)).2.2)
  · exact absurd g76 (by decide +kernel)
set_option maxRecDepth 20000 in
set_option maxHeartbeats 4000000 in
theorem l_rlO0 {d T p : Nat} {t : Nat → Nat} {w : zW} {n l m : Nat} {K : Nat → Nat} (hd : 7 ≤ d) (hT : tpL w T t) (hp : p ≤ T) (hk : mT w (tok T t p)) (h4 : tk_k (tok T t p) ≠ 4) (hD : dM w (n, K, l, m)) (hV : dV (n, K, l, m)) (hn0 : ¬ isN t (tok T t p) 0 = true) (hn1 : ¬ isN t (tok T t p) 1 = true) (hn2 : ¬ isN t (tok T t p) 2 = true) (hy : isN t (tok T t p) 3 = true) : WP mX7_readLine d (z_T (z_v fun w' => frD w w' ∧ mrs T t (pLine T t p (n, K, l, m)) w')) 18 [some (.ref 50), some (.int 2)] [] w := by
  have h12 := hk.1
  obtain ⟨h15, h13, h11, -⟩ := hk.2.2 h4
  have hta := tok_T (t := t) hp
  have hn6 : n ≤ 6 := hV.n
  have hm16 : m < 16 := hV.2.1
  by_cases hb : bi m 0 = 1
  · refine r_aload_n 19 dX7_readLine_18 rfl rfl ?_
    refine r_iload_n 20 dX7_readLine_19 rfl rfl ?_
    refine r_bipush 22 (v := -4) dX7_readLine_20 (by decide) rfl ?_
    refine r_icmp_eq 29 25 dX7_readLine_22 (by decide) rfl (fun z => absurd z (by decide)) (fun _ => ?_)
    refine r_iconst 26 (v := 1) dX7_readLine_25 (by decide) rfl ?_
    refine r_goto 30 dX7_readLine_26 (by decide) ?_
    refine r_iconst 31 (v := 2) dX7_readLine_30 (by decide) rfl ?_
    refine r_callV (y2 := mX7_needs) (as := [_, _]) 34 dX7_readLine_31 ml_X7_119 mv_X7_needs (m_needsO (d := d - 1) h15) (by omega) sh_50 ⟨_, rfl, rfl⟩ rfl (Nat.le_of_ble_eq_true rfl) rfl (kk_v ?_)
    rintro _ rfl
    refine r_aload_n 35 dX7_readLine_34 rfl rfl ?_
    refine r_iload_n 36 dX7_readLine_35 rfl rfl ?_
    refine r_iconst 37 (v := 1) dX7_readLine_36 (by decide) rfl ?_
    refine r_icmp_gt 49 40 dX7_readLine_37 (by decide) rfl (fun _ => ?_) (fun z => absurd (by decide) z)
    refine r_iconst 50 (v := 1) dX7_readLine_49 (by decide) rfl ?_
    refine r_goto 54 dX7_readLine_50 (by decide) ?_
    refine r_iconst 55 (v := 5) dX7_readLine_54 (by decide) rfl ?_
    refine r_callV (y2 := mX7_needs) (as := [_, _]) 58 dX7_readLine_55 ml_X7_119 mv_X7_needs (m_needsO (d := d - 1) h15) (by omega) sh_50 ⟨_, rfl, rfl⟩ rfl (Nat.le_of_ble_eq_true rfl) rfl (kk_v ?_)
    rintro _ rfl
    refine r_aload_n 59 dX7_readLine_58 rfl rfl ?_
    refine r_geti 62 dX7_readLine_59 fz_X7_81 sh_50 rfl rfl ?_
    refine r_eq h15 ?_
    refine r_if_ne 112 65 dX7_readLine_62 (by decide) rfl (fun z => absurd (rfl) z) (fun _ => ?_)
    refine r_iload_n 66 dX7_readLine_65 rfl rfl ?_
    refine r_i2l 67 dX7_readLine_66 rfl ?_
    refine r_ldc2 70 dX7_readLine_67 kl_X7_153 rfl ?_
    refine r_ldc2 73 dX7_readLine_70 kl_X7_155 rfl ?_
    refine r_callS (y2 := mX7_in) (as := [_, _, _]) 76 dX7_readLine_73 ml_X7_74 ms_X7_in (m_in (d := d - 1) _ _ _) (by omega) rfl (Nat.le_of_ble_eq_true rfl) rfl (kk_i ?_)
    rintro _ _ ⟨rfl, rfl⟩
    refine r_eq (z_bc (in_wi (lo := 2) (hi := 5) rfl rfl)) ?_
    refine rb_eq 112 79 dX7_readLine_76 (by decide) rfl (fun g76 => ?_) (fun g76 => ?_)
    · exact absurd (show wi (2 : Int32) 2 5 = true by decide +kernel) g76
    · refine r_aload_n 80 dX7_readLine_79 rfl rfl ?_
      refine r_aload_n 81 dX7_readLine_80 rfl rfl ?_
      refine r_geti 84 dX7_readLine_81 fz_X7_60 sh_50 rfl rfl ?_
      refine r_eq hD.2.2.1 ?_
      refine r_iload_n 85 dX7_readLine_84 rfl rfl ?_
      refine r_ishr 86 dX7_readLine_85 rfl ?_
      refine r_iconst 87 (v := 1) dX7_readLine_86 (by decide) rfl ?_
      refine r_iand 88 dX7_readLine_87 rfl ?_
      refine r_eq (tl_sh m hm16 0 (by decide)) ?_
      refine rt_if_ne (a := 1) (b := 0) (j := 96) 95 91 dX7_readLine_88 (by decide) rfl (fun k => r_iconst 96 dX7_readLine_95 (by decide) rfl k) (fun k => r_iconst 92 dX7_readLine_91 (by decide) rfl (r_goto 96 dX7_readLine_92 (by decide) k)) ?_
      refine r_eq (z := z_b (bi m 0 = 0)) (by rcases bi_01 m 0 with z | z; (rw [z]; rfl); (rw [z]; rfl)) ?_
      refine r_iconst 97 (v := 4) dX7_readLine_96 (by decide) rfl ?_
      refine r_callV (y2 := mX7_needs) (as := [_, _]) 100 dX7_readLine_97 ml_X7_119 mv_X7_needs (m_needs (d := d - 1) h15) (by omega) sh_50 ⟨_, rfl, rfl⟩ rfl (Nat.le_of_ble_eq_true rfl) rfl (kk_v ?_)
      rintro w1 e1
      rw [if_neg (by omega)] at e1
      have f1 : w1 50 15 = nI 4 := by rw [← e1, z_up_i (by decide), z_up_s]; rfl
      have fr1 : frD w w1 := by rw [← e1]; exact (frD.rfl.up (by decide)).up (by decide)
      have ff1 : fF w1 (bl (tok T t p) 4) := by rw [← e1]; exact fF_up (y := 4) h12 h4
      refine r_aload_n 101 dX7_readLine_100 rfl rfl ?_
      refine r_dup 102 dX7_readLine_101 rfl rfl ?_
      refine r_geti 105 dX7_readLine_102 fz_X7_60 sh_50 rfl rfl ?_
      refine r_iconst 106 (v := 1) dX7_readLine_105 (by decide) rfl ?_
      refine r_iload_n 107 dX7_readLine_106 rfl rfl ?_
      refine r_ishl 108 dX7_readLine_107 rfl ?_
      refine r_ior 109 dX7_readLine_108 rfl ?_
      refine r_puti 112 dX7_readLine_109 fz_X7_60 fw_7_6 sh_50 rfl rfl ?_
      refine r_nw (fun w3 e3 => ?_)
      have f3 : w3 50 15 = nI 4 := by rw [e3, z_up_i (by decide)]; exact f1
      refine r_aload_n 113 dX7_readLine_112 rfl rfl ?_
      refine r_callV (y2 := mX7_next) (as := []) 116 dX7_readLine_113 ml_X7_127 mv_X7_next (m_nextF (d := d - 1) (e := 4) (by decide) f3) (by omega) sh_50 ⟨_, rfl, rfl⟩ rfl (Nat.le_of_ble_eq_true rfl) rfl (kk_v ?_)
      rintro _ rfl
      refine r_aload_n 117 dX7_readLine_116 rfl rfl ?_
      refine r_geti 120 dX7_readLine_117 fz_X7_81 sh_50 rfl rfl ?_
      refine r_eq f3 ?_
      refine r_if_le 124 123 dX7_readLine_120 (by decide) rfl (fun z => absurd z (by decide)) (fun _ => ?_)
      exact r_vret dX7_readLine_123 rfl (⟨by rw [e3]; exact fr1.up (by decide), by rw [pLine, show pLine0 T t (tok T t p) (n, K, l, m) = .inl (bl (tok T t p) 4) by { rw [pLine0, if_neg hn0, if_neg hn1, if_neg hn2, if_pos hy, pOnce, if_pos hb] }, e3]; exact ff1.up5 (by decide)⟩)
  have hb0 : bi m 0 = 0 := by have := bi_01 m 0; omega
  refine r_aload_n 19 dX7_readLine_18 rfl rfl ?_
  refine r_iload_n 20 dX7_readLine_19 rfl rfl ?_
  refine r_bipush 22 (v := -4) dX7_readLine_20 (by decide) rfl ?_
  refine r_icmp_eq 29 25 dX7_readLine_22 (by decide) rfl (fun z => absurd z (by decide)) (fun _ => ?_)
  refine r_iconst 26 (v := 1) dX7_readLine_25 (by decide) rfl ?_
  refine r_goto 30 dX7_readLine_26 (by decide) ?_
  refine r_iconst 31 (v := 2) dX7_readLine_30 (by decide) rfl ?_
  refine r_callV (y2 := mX7_needs) (as := [_, _]) 34 dX7_readLine_31 ml_X7_119 mv_X7_needs (m_needsO (d := d - 1) h15) (by omega) sh_50 ⟨_, rfl, rfl⟩ rfl (Nat.le_of_ble_eq_true rfl) rfl (kk_v ?_)
  rintro _ rfl
  refine r_aload_n 35 dX7_readLine_34 rfl rfl ?_
  refine r_iload_n 36 dX7_readLine_35 rfl rfl ?_
  refine r_iconst 37 (v := 1) dX7_readLine_36 (by decide) rfl ?_
  refine r_icmp_gt 49 40 dX7_readLine_37 (by decide) rfl (fun _ => ?_) (fun z => absurd (by decide) z)
  refine r_iconst 50 (v := 1) dX7_readLine_49 (by decide) rfl ?_
  refine r_goto 54 dX7_readLine_50 (by decide) ?_
  refine r_iconst 55 (v := 5) dX7_readLine_54 (by decide) rfl ?_
  refine r_callV (y2 := mX7_needs) (as := [_, _]) 58 dX7_readLine_55 ml_X7_119 mv_X7_needs (m_needsO (d := d - 1) h15) (by omega) sh_50 ⟨_, rfl, rfl⟩ rfl (Nat.le_of_ble_eq_true rfl) rfl (kk_v ?_)
  rintro _ rfl
  refine r_aload_n 59 dX7_readLine_58 rfl rfl ?_
  refine r_geti 62 dX7_readLine_59 fz_X7_81 sh_50 rfl rfl ?_
  refine r_eq h15 ?_
  refine r_if_ne 112 65 dX7_readLine_62 (by decide) rfl (fun z => absurd (rfl) z) (fun _ => ?_)
  refine r_iload_n 66 dX7_readLine_65 rfl rfl ?_
  refine r_i2l 67 dX7_readLine_66 rfl ?_
  refine r_ldc2 70 dX7_readLine_67 kl_X7_153 rfl ?_
  refine r_ldc2 73 dX7_readLine_70 kl_X7_155 rfl ?_
  refine r_callS (y2 := mX7_in) (as := [_, _, _]) 76 dX7_readLine_73 ml_X7_74 ms_X7_in (m_in (d := d - 1) _ _ _) (by omega) rfl (Nat.le_of_ble_eq_true rfl) rfl (kk_i ?_)
  rintro _ _ ⟨rfl, rfl⟩
  refine r_eq (z_bc (in_wi (lo := 2) (hi := 5) rfl rfl)) ?_
  refine rb_eq 112 79 dX7_readLine_76 (by decide) rfl (fun g76 => ?_) (fun g76 => ?_)
  · exact absurd (show wi (2 : Int32) 2 5 = true by decide +kernel) g76
  · refine r_aload_n 80 dX7_readLine_79 rfl rfl ?_
    refine r_aload_n 81 dX7_readLine_80 rfl rfl ?_
    refine r_geti 84 dX7_readLine_81 fz_X7_60 sh_50 rfl rfl ?_
    refine r_eq hD.2.2.1 ?_
    refine r_iload_n 85 dX7_readLine_84 rfl rfl ?_
    refine r_ishr 86 dX7_readLine_85 rfl ?_
    refine r_iconst 87 (v := 1) dX7_readLine_86 (by decide) rfl ?_
    refine r_iand 88 dX7_readLine_87 rfl ?_
    refine r_eq (tl_sh m hm16 0 (by decide)) ?_
    refine rt_if_ne (a := 1) (b := 0) (j := 96) 95 91 dX7_readLine_88 (by decide) rfl (fun k => r_iconst 96 dX7_readLine_95 (by decide) rfl k) (fun k => r_iconst 92 dX7_readLine_91 (by decide) rfl (r_goto 96 dX7_readLine_92 (by decide) k)) ?_
    refine r_eq (z := z_b (bi m 0 = 0)) (by rcases bi_01 m 0 with z | z; (rw [z]; rfl); (rw [z]; rfl)) ?_
    refine r_iconst 97 (v := 4) dX7_readLine_96 (by decide) rfl ?_
    refine r_callV (y2 := mX7_needs) (as := [_, _]) 100 dX7_readLine_97 ml_X7_119 mv_X7_needs (m_needs (d := d - 1) h15) (by omega) sh_50 ⟨_, rfl, rfl⟩ rfl (Nat.le_of_ble_eq_true rfl) rfl (kk_v ?_)
    rintro w1 e1
    rw [if_pos hb0] at e1
    subst e1
    refine r_aload_n 101 dX7_readLine_100 rfl rfl ?_
    refine r_dup 102 dX7_readLine_101 rfl rfl ?_
    refine r_geti 105 dX7_readLine_102 fz_X7_60 sh_50 rfl rfl ?_
    refine r_eq hD.2.2.1 ?_
    refine r_iconst 106 (v := 1) dX7_readLine_105 (by decide) rfl ?_
    refine r_iload_n 107 dX7_readLine_106 rfl rfl ?_
    refine r_ishl 108 dX7_readLine_107 rfl ?_
    refine r_ior 109 dX7_readLine_108 rfl ?_
    refine r_eq (tl_or m hm16 0 (by decide) hb0) ?_
    refine r_puti 112 dX7_readLine_109 fz_X7_60 fw_7_6 sh_50 rfl rfl ?_
    refine r_nw (fun w3 e3 => ?_)
    have fr3 : frD w w3 := by rw [e3]; exact frD.rfl.up (by decide)
    have q3 : ∀ q, q ≠ 6 → w3 50 q = w 50 q := fun q h => by rw [e3, z_up_i h]
    have hD3 : dM w3 (n, K, l, m + 2 ^ 0) := ⟨fun k hk => by rw [e3, z_up_a (by decide)]; exact hD.1 k hk, by rw [q3 5 (by decide)]; exact hD.2.1, by rw [e3, z_up_s], by rw [q3 7 (by decide)]; exact hD.2.2.2.1, by rw [q3 8 (by decide)]; exact hD.2.2.2.2⟩
    refine r_aload_n 113 dX7_readLine_112 rfl rfl ?_
    refine r_callV (y2 := mX7_next) (as := []) 116 dX7_readLine_113 ml_X7_127 mv_X7_next (m_next (d := d - 1) (by omega) (hT.D fr3) hta.1 (by rw [q3 15 (by decide)]; exact h15) (by rw [q3 11 (by decide)]; exact h11)) (by omega) sh_50 ⟨_, rfl, rfl⟩ rfl (Nat.le_of_ble_eq_true rfl) rfl (kk_v ?_)
    rintro w2 ⟨hk2, hf2⟩
    have q0 : pLine0 T t (tok T t p) (n, K, l, m) = sB (pRules T t 3 0 (tk_a (tok T t p)) K) (pK (n, K, l, m + 2 ^ 0)) := by { rw [pLine0, if_neg hn0, if_neg hn1, if_neg hn2, if_pos hy, pOnce, if_neg hb] }
    rw [pLine, q0]
    exact l_rlMid (w0 := w) (by omega) (hT.D (fr3.L hf2)) hta.1 (fr3.L hf2) hk2 (fun z => m_rlLock (d := d - 1) (by omega) (hT.D (fr3.L hf2)) hta.1 hk2 z (hD3.L hf2)) (fun z => pR_4 z) (fun e he => e16 (pLine0_e hp (q0.trans he))) (fun v hv => (pLine0_V hp hV (q0.trans hv)).2.2)
set_option maxRecDepth 20000 in
set_option maxHeartbeats 4000000 in
theorem l_rlO1 {d T p : Nat} {t : Nat → Nat} {w : zW} {n l m : Nat} {K : Nat → Nat} (hd : 7 ≤ d) (hT : tpL w T t) (hp : p ≤ T) (hk : mT w (tok T t p)) (h4 : tk_k (tok T t p) ≠ 4) (hD : dM w (n, K, l, m)) (hV : dV (n, K, l, m)) (hn0 : ¬ isN t (tok T t p) 0 = true) (hn1 : ¬ isN t (tok T t p) 1 = true) (hn2 : ¬ isN t (tok T t p) 2 = true) (hn3 : ¬ isN t (tok T t p) 3 = true) (hy : isN t (tok T t p) 4 = true) : WP mX7_readLine d (z_T (z_v fun w' => frD w w' ∧ mrs T t (pLine T t p (n, K, l, m)) w')) 18 [some (.ref 50), some (.int 3)] [] w := by
  have h12 := hk.1
  obtain ⟨h15, h13, h11, -⟩ := hk.2.2 h4
  have hta := tok_T (t := t) hp
  have hn6 : n ≤ 6 := hV.n
  have hm16 : m < 16 := hV.2.1
  by_cases hb : bi m 1 = 1
  · refine r_aload_n 19 dX7_readLine_18 rfl rfl ?_
    refine r_iload_n 20 dX7_readLine_19 rfl rfl ?_
    refine r_bipush 22 (v := -4) dX7_readLine_20 (by decide) rfl ?_
    refine r_icmp_eq 29 25 dX7_readLine_22 (by decide) rfl (fun z => absurd z (by decide)) (fun _ => ?_)
    refine r_iconst 26 (v := 1) dX7_readLine_25 (by decide) rfl ?_
    refine r_goto 30 dX7_readLine_26 (by decide) ?_
    refine r_iconst 31 (v := 2) dX7_readLine_30 (by decide) rfl ?_
    refine r_callV (y2 := mX7_needs) (as := [_, _]) 34 dX7_readLine_31 ml_X7_119 mv_X7_needs (m_needsO (d := d - 1) h15) (by omega) sh_50 ⟨_, rfl, rfl⟩ rfl (Nat.le_of_ble_eq_true rfl) rfl (kk_v ?_)
    rintro _ rfl
    refine r_aload_n 35 dX7_readLine_34 rfl rfl ?_
    refine r_iload_n 36 dX7_readLine_35 rfl rfl ?_
    refine r_iconst 37 (v := 1) dX7_readLine_36 (by decide) rfl ?_
    refine r_icmp_gt 49 40 dX7_readLine_37 (by decide) rfl (fun _ => ?_) (fun z => absurd (by decide) z)
    refine r_iconst 50 (v := 1) dX7_readLine_49 (by decide) rfl ?_
    refine r_goto 54 dX7_readLine_50 (by decide) ?_
    refine r_iconst 55 (v := 5) dX7_readLine_54 (by decide) rfl ?_
    refine r_callV (y2 := mX7_needs) (as := [_, _]) 58 dX7_readLine_55 ml_X7_119 mv_X7_needs (m_needsO (d := d - 1) h15) (by omega) sh_50 ⟨_, rfl, rfl⟩ rfl (Nat.le_of_ble_eq_true rfl) rfl (kk_v ?_)
    rintro _ rfl
    refine r_aload_n 59 dX7_readLine_58 rfl rfl ?_
    refine r_geti 62 dX7_readLine_59 fz_X7_81 sh_50 rfl rfl ?_
    refine r_eq h15 ?_
    refine r_if_ne 112 65 dX7_readLine_62 (by decide) rfl (fun z => absurd (rfl) z) (fun _ => ?_)
    refine r_iload_n 66 dX7_readLine_65 rfl rfl ?_
    refine r_i2l 67 dX7_readLine_66 rfl ?_
    refine r_ldc2 70 dX7_readLine_67 kl_X7_153 rfl ?_
    refine r_ldc2 73 dX7_readLine_70 kl_X7_155 rfl ?_
    refine r_callS (y2 := mX7_in) (as := [_, _, _]) 76 dX7_readLine_73 ml_X7_74 ms_X7_in (m_in (d := d - 1) _ _ _) (by omega) rfl (Nat.le_of_ble_eq_true rfl) rfl (kk_i ?_)
    rintro _ _ ⟨rfl, rfl⟩
    refine r_eq (z_bc (in_wi (lo := 2) (hi := 5) rfl rfl)) ?_
    refine rb_eq 112 79 dX7_readLine_76 (by decide) rfl (fun g76 => ?_) (fun g76 => ?_)
    · exact absurd (show wi (3 : Int32) 2 5 = true by decide +kernel) g76
    · refine r_aload_n 80 dX7_readLine_79 rfl rfl ?_
      refine r_aload_n 81 dX7_readLine_80 rfl rfl ?_
      refine r_geti 84 dX7_readLine_81 fz_X7_60 sh_50 rfl rfl ?_
      refine r_eq hD.2.2.1 ?_
      refine r_iload_n 85 dX7_readLine_84 rfl rfl ?_
      refine r_ishr 86 dX7_readLine_85 rfl ?_
      refine r_iconst 87 (v := 1) dX7_readLine_86 (by decide) rfl ?_
      refine r_iand 88 dX7_readLine_87 rfl ?_
      refine r_eq (tl_sh m hm16 1 (by decide)) ?_
      refine rt_if_ne (a := 1) (b := 0) (j := 96) 95 91 dX7_readLine_88 (by decide) rfl (fun k => r_iconst 96 dX7_readLine_95 (by decide) rfl k) (fun k => r_iconst 92 dX7_readLine_91 (by decide) rfl (r_goto 96 dX7_readLine_92 (by decide) k)) ?_
      refine r_eq (z := z_b (bi m 1 = 0)) (by rcases bi_01 m 1 with z | z; (rw [z]; rfl); (rw [z]; rfl)) ?_
      refine r_iconst 97 (v := 4) dX7_readLine_96 (by decide) rfl ?_
      refine r_callV (y2 := mX7_needs) (as := [_, _]) 100 dX7_readLine_97 ml_X7_119 mv_X7_needs (m_needs (d := d - 1) h15) (by omega) sh_50 ⟨_, rfl, rfl⟩ rfl (Nat.le_of_ble_eq_true rfl) rfl (kk_v ?_)
      rintro w1 e1
      rw [if_neg (by omega)] at e1
      have f1 : w1 50 15 = nI 4 := by rw [← e1, z_up_i (by decide), z_up_s]; rfl
      have fr1 : frD w w1 := by rw [← e1]; exact (frD.rfl.up (by decide)).up (by decide)
      have ff1 : fF w1 (bl (tok T t p) 4) := by rw [← e1]; exact fF_up (y := 4) h12 h4
      refine r_aload_n 101 dX7_readLine_100 rfl rfl ?_
      refine r_dup 102 dX7_readLine_101 rfl rfl ?_
      refine r_geti 105 dX7_readLine_102 fz_X7_60 sh_50 rfl rfl ?_
      refine r_iconst 106 (v := 1) dX7_readLine_105 (by decide) rfl ?_
      refine r_iload_n 107 dX7_readLine_106 rfl rfl ?_
      refine r_ishl 108 dX7_readLine_107 rfl ?_
      refine r_ior 109 dX7_readLine_108 rfl ?_
      refine r_puti 112 dX7_readLine_109 fz_X7_60 fw_7_6 sh_50 rfl rfl ?_
      refine r_nw (fun w3 e3 => ?_)
      have f3 : w3 50 15 = nI 4 := by rw [e3, z_up_i (by decide)]; exact f1
      refine r_aload_n 113 dX7_readLine_112 rfl rfl ?_
      refine r_callV (y2 := mX7_next) (as := []) 116 dX7_readLine_113 ml_X7_127 mv_X7_next (m_nextF (d := d - 1) (e := 4) (by decide) f3) (by omega) sh_50 ⟨_, rfl, rfl⟩ rfl (Nat.le_of_ble_eq_true rfl) rfl (kk_v ?_)
      rintro _ rfl
      refine r_aload_n 117 dX7_readLine_116 rfl rfl ?_
      refine r_geti 120 dX7_readLine_117 fz_X7_81 sh_50 rfl rfl ?_
      refine r_eq f3 ?_
      refine r_if_le 124 123 dX7_readLine_120 (by decide) rfl (fun z => absurd z (by decide)) (fun _ => ?_)
      exact r_vret dX7_readLine_123 rfl (⟨by rw [e3]; exact fr1.up (by decide), by rw [pLine, show pLine0 T t (tok T t p) (n, K, l, m) = .inl (bl (tok T t p) 4) by { rw [pLine0, if_neg hn0, if_neg hn1, if_neg hn2, if_neg hn3, if_pos hy, pOnce, if_pos hb] }, e3]; exact ff1.up5 (by decide)⟩)
  have hb0 : bi m 1 = 0 := by have := bi_01 m 1; omega
  refine r_aload_n 19 dX7_readLine_18 rfl rfl ?_
  refine r_iload_n 20 dX7_readLine_19 rfl rfl ?_
  refine r_bipush 22 (v := -4) dX7_readLine_20 (by decide) rfl ?_
  refine r_icmp_eq 29 25 dX7_readLine_22 (by decide) rfl (fun z => absurd z (by decide)) (fun _ => ?_)
  refine r_iconst 26 (v := 1) dX7_readLine_25 (by decide) rfl ?_
  refine r_goto 30 dX7_readLine_26 (by decide) ?_
  refine r_iconst 31 (v := 2) dX7_readLine_30 (by decide) rfl ?_
  refine r_callV (y2 := mX7_needs) (as := [_, _]) 34 dX7_readLine_31 ml_X7_119 mv_X7_needs (m_needsO (d := d - 1) h15) (by omega) sh_50 ⟨_, rfl, rfl⟩ rfl (Nat.le_of_ble_eq_true rfl) rfl (kk_v ?_)
  rintro _ rfl
  refine r_aload_n 35 dX7_readLine_34 rfl rfl ?_
  refine r_iload_n 36 dX7_readLine_35 rfl rfl ?_
  refine r_iconst 37 (v := 1) dX7_readLine_36 (by decide) rfl ?_
  refine r_icmp_gt 49 40 dX7_readLine_37 (by decide) rfl (fun _ => ?_) (fun z => absurd (by decide) z)
  refine r_iconst 50 (v := 1) dX7_readLine_49 (by decide) rfl ?_
  refine r_goto 54 dX7_readLine_50 (by decide) ?_
  refine r_iconst 55 (v := 5) dX7_readLine_54 (by decide) rfl ?_
  refine r_callV (y2 := mX7_needs) (as := [_, _]) 58 dX7_readLine_55 ml_X7_119 mv_X7_needs (m_needsO (d := d - 1) h15) (by omega) sh_50 ⟨_, rfl, rfl⟩ rfl (Nat.le_of_ble_eq_true rfl) rfl (kk_v ?_)
  rintro _ rfl
  refine r_aload_n 59 dX7_readLine_58 rfl rfl ?_
  refine r_geti 62 dX7_readLine_59 fz_X7_81 sh_50 rfl rfl ?_
  refine r_eq h15 ?_
  refine r_if_ne 112 65 dX7_readLine_62 (by decide) rfl (fun z => absurd (rfl) z) (fun _ => ?_)
  refine r_iload_n 66 dX7_readLine_65 rfl rfl ?_
  refine r_i2l 67 dX7_readLine_66 rfl ?_
  refine r_ldc2 70 dX7_readLine_67 kl_X7_153 rfl ?_
  refine r_ldc2 73 dX7_readLine_70 kl_X7_155 rfl ?_
  refine r_callS (y2 := mX7_in) (as := [_, _, _]) 76 dX7_readLine_73 ml_X7_74 ms_X7_in (m_in (d := d - 1) _ _ _) (by omega) rfl (Nat.le_of_ble_eq_true rfl) rfl (kk_i ?_)
  rintro _ _ ⟨rfl, rfl⟩
  refine r_eq (z_bc (in_wi (lo := 2) (hi := 5) rfl rfl)) ?_
  refine rb_eq 112 79 dX7_readLine_76 (by decide) rfl (fun g76 => ?_) (fun g76 => ?_)
  · exact absurd (show wi (3 : Int32) 2 5 = true by decide +kernel) g76
  · refine r_aload_n 80 dX7_readLine_79 rfl rfl ?_
    refine r_aload_n 81 dX7_readLine_80 rfl rfl ?_
    refine r_geti 84 dX7_readLine_81 fz_X7_60 sh_50 rfl rfl ?_
    refine r_eq hD.2.2.1 ?_
    refine r_iload_n 85 dX7_readLine_84 rfl rfl ?_
    refine r_ishr 86 dX7_readLine_85 rfl ?_
    refine r_iconst 87 (v := 1) dX7_readLine_86 (by decide) rfl ?_
    refine r_iand 88 dX7_readLine_87 rfl ?_
    refine r_eq (tl_sh m hm16 1 (by decide)) ?_
    refine rt_if_ne (a := 1) (b := 0) (j := 96) 95 91 dX7_readLine_88 (by decide) rfl (fun k => r_iconst 96 dX7_readLine_95 (by decide) rfl k) (fun k => r_iconst 92 dX7_readLine_91 (by decide) rfl (r_goto 96 dX7_readLine_92 (by decide) k)) ?_
    refine r_eq (z := z_b (bi m 1 = 0)) (by rcases bi_01 m 1 with z | z; (rw [z]; rfl); (rw [z]; rfl)) ?_
    refine r_iconst 97 (v := 4) dX7_readLine_96 (by decide) rfl ?_
    refine r_callV (y2 := mX7_needs) (as := [_, _]) 100 dX7_readLine_97 ml_X7_119 mv_X7_needs (m_needs (d := d - 1) h15) (by omega) sh_50 ⟨_, rfl, rfl⟩ rfl (Nat.le_of_ble_eq_true rfl) rfl (kk_v ?_)
    rintro w1 e1
    rw [if_pos hb0] at e1
    subst e1
    refine r_aload_n 101 dX7_readLine_100 rfl rfl ?_
    refine r_dup 102 dX7_readLine_101 rfl rfl ?_
    refine r_geti 105 dX7_readLine_102 fz_X7_60 sh_50 rfl rfl ?_
    refine r_eq hD.2.2.1 ?_
    refine r_iconst 106 (v := 1) dX7_readLine_105 (by decide) rfl ?_
    refine r_iload_n 107 dX7_readLine_106 rfl rfl ?_
    refine r_ishl 108 dX7_readLine_107 rfl ?_
    refine r_ior 109 dX7_readLine_108 rfl ?_
    refine r_eq (tl_or m hm16 1 (by decide) hb0) ?_
    refine r_puti 112 dX7_readLine_109 fz_X7_60 fw_7_6 sh_50 rfl rfl ?_
    refine r_nw (fun w3 e3 => ?_)
    have fr3 : frD w w3 := by rw [e3]; exact frD.rfl.up (by decide)
    have q3 : ∀ q, q ≠ 6 → w3 50 q = w 50 q := fun q h => by rw [e3, z_up_i h]
    have hD3 : dM w3 (n, K, l, m + 2 ^ 1) := ⟨fun k hk => by rw [e3, z_up_a (by decide)]; exact hD.1 k hk, by rw [q3 5 (by decide)]; exact hD.2.1, by rw [e3, z_up_s], by rw [q3 7 (by decide)]; exact hD.2.2.2.1, by rw [q3 8 (by decide)]; exact hD.2.2.2.2⟩
    refine r_aload_n 113 dX7_readLine_112 rfl rfl ?_
    refine r_callV (y2 := mX7_next) (as := []) 116 dX7_readLine_113 ml_X7_127 mv_X7_next (m_next (d := d - 1) (by omega) (hT.D fr3) hta.1 (by rw [q3 15 (by decide)]; exact h15) (by rw [q3 11 (by decide)]; exact h11)) (by omega) sh_50 ⟨_, rfl, rfl⟩ rfl (Nat.le_of_ble_eq_true rfl) rfl (kk_v ?_)
    rintro w2 ⟨hk2, hf2⟩
    have q0 : pLine0 T t (tok T t p) (n, K, l, m) = sB (pLaw T t (tk_a (tok T t p))) fun x => pK (n, K, l, m + 2 ^ 1) (x.2, un K 3 x.1) := by { rw [pLine0, if_neg hn0, if_neg hn1, if_neg hn2, if_neg hn3, if_pos hy, pOnce, if_neg hb] }
    rw [pLine, q0]
    exact l_rlMid (w0 := w) (by omega) (hT.D (fr3.L hf2)) hta.1 (fr3.L hf2) hk2 (fun z => m_rlLaw (d := d - 1) (by omega) (hT.D (fr3.L hf2)) hta.1 hk2 z (hD3.L hf2)) (fun z => pW_4 z) (fun e he => e16 (pLine0_e hp (q0.trans he))) (fun v hv => (pLine0_V hp hV (q0.trans hv)).2.2)
set_option maxRecDepth 20000 in
set_option maxHeartbeats 4000000 in
theorem l_rlO2 {d T p : Nat} {t : Nat → Nat} {w : zW} {n l m : Nat} {K : Nat → Nat} (hd : 7 ≤ d) (hT : tpL w T t) (hp : p ≤ T) (hk : mT w (tok T t p)) (h4 : tk_k (tok T t p) ≠ 4) (hD : dM w (n, K, l, m)) (hV : dV (n, K, l, m)) (hn0 : ¬ isN t (tok T t p) 0 = true) (hn1 : ¬ isN t (tok T t p) 1 = true) (hn2 : ¬ isN t (tok T t p) 2 = true) (hn3 : ¬ isN t (tok T t p) 3 = true) (hn4 : ¬ isN t (tok T t p) 4 = true) (hy : isN t (tok T t p) 5 = true) : WP mX7_readLine d (z_T (z_v fun w' => frD w w' ∧ mrs T t (pLine T t p (n, K, l, m)) w')) 18 [some (.ref 50), some (.int 4)] [] w := by
  have h12 := hk.1
  obtain ⟨h15, h13, h11, -⟩ := hk.2.2 h4
  have hta := tok_T (t := t) hp
  have hn6 : n ≤ 6 := hV.n
  have hm16 : m < 16 := hV.2.1
  by_cases hb : bi m 2 = 1
  · refine r_aload_n 19 dX7_readLine_18 rfl rfl ?_
    refine r_iload_n 20 dX7_readLine_19 rfl rfl ?_
    refine r_bipush 22 (v := -4) dX7_readLine_20 (by decide) rfl ?_
    refine r_icmp_eq 29 25 dX7_readLine_22 (by decide) rfl (fun z => absurd z (by decide)) (fun _ => ?_)
    refine r_iconst 26 (v := 1) dX7_readLine_25 (by decide) rfl ?_
    refine r_goto 30 dX7_readLine_26 (by decide) ?_
    refine r_iconst 31 (v := 2) dX7_readLine_30 (by decide) rfl ?_
    refine r_callV (y2 := mX7_needs) (as := [_, _]) 34 dX7_readLine_31 ml_X7_119 mv_X7_needs (m_needsO (d := d - 1) h15) (by omega) sh_50 ⟨_, rfl, rfl⟩ rfl (Nat.le_of_ble_eq_true rfl) rfl (kk_v ?_)
    rintro _ rfl
    refine r_aload_n 35 dX7_readLine_34 rfl rfl ?_
    refine r_iload_n 36 dX7_readLine_35 rfl rfl ?_
    refine r_iconst 37 (v := 1) dX7_readLine_36 (by decide) rfl ?_
    refine r_icmp_gt 49 40 dX7_readLine_37 (by decide) rfl (fun _ => ?_) (fun z => absurd (by decide) z)
    refine r_iconst 50 (v := 1) dX7_readLine_49 (by decide) rfl ?_
    refine r_goto 54 dX7_readLine_50 (by decide) ?_
    refine r_iconst 55 (v := 5) dX7_readLine_54 (by decide) rfl ?_
    refine r_callV (y2 := mX7_needs) (as := [_, _]) 58 dX7_readLine_55 ml_X7_119 mv_X7_needs (m_needsO (d := d - 1) h15) (by omega) sh_50 ⟨_, rfl, rfl⟩ rfl (Nat.le_of_ble_eq_true rfl) rfl (kk_v ?_)
    rintro _ rfl
    refine r_aload_n 59 dX7_readLine_58 rfl rfl ?_
    refine r_geti 62 dX7_readLine_59 fz_X7_81 sh_50 rfl rfl ?_
    refine r_eq h15 ?_
    refine r_if_ne 112 65 dX7_readLine_62 (by decide) rfl (fun z => absurd (rfl) z) (fun _ => ?_)
    refine r_iload_n 66 dX7_readLine_65 rfl rfl ?_
    refine r_i2l 67 dX7_readLine_66 rfl ?_
    refine r_ldc2 70 dX7_readLine_67 kl_X7_153 rfl ?_
    refine r_ldc2 73 dX7_readLine_70 kl_X7_155 rfl ?_
    refine r_callS (y2 := mX7_in) (as := [_, _, _]) 76 dX7_readLine_73 ml_X7_74 ms_X7_in (m_in (d := d - 1) _ _ _) (by omega) rfl (Nat.le_of_ble_eq_true rfl) rfl (kk_i ?_)
    rintro _ _ ⟨rfl, rfl⟩
    refine r_eq (z_bc (in_wi (lo := 2) (hi := 5) rfl rfl)) ?_
    refine rb_eq 112 79 dX7_readLine_76 (by decide) rfl (fun g76 => ?_) (fun g76 => ?_)
    · exact absurd (show wi (4 : Int32) 2 5 = true by decide +kernel) g76
    · refine r_aload_n 80 dX7_readLine_79 rfl rfl ?_
      refine r_aload_n 81 dX7_readLine_80 rfl rfl ?_
      refine r_geti 84 dX7_readLine_81 fz_X7_60 sh_50 rfl rfl ?_
      refine r_eq hD.2.2.1 ?_
      refine r_iload_n 85 dX7_readLine_84 rfl rfl ?_
      refine r_ishr 86 dX7_readLine_85 rfl ?_
      refine r_iconst 87 (v := 1) dX7_readLine_86 (by decide) rfl ?_
      refine r_iand 88 dX7_readLine_87 rfl ?_
      refine r_eq (tl_sh m hm16 2 (by decide)) ?_
      refine rt_if_ne (a := 1) (b := 0) (j := 96) 95 91 dX7_readLine_88 (by decide) rfl (fun k => r_iconst 96 dX7_readLine_95 (by decide) rfl k) (fun k => r_iconst 92 dX7_readLine_91 (by decide) rfl (r_goto 96 dX7_readLine_92 (by decide) k)) ?_
      refine r_eq (z := z_b (bi m 2 = 0)) (by rcases bi_01 m 2 with z | z; (rw [z]; rfl); (rw [z]; rfl)) ?_
      refine r_iconst 97 (v := 4) dX7_readLine_96 (by decide) rfl ?_
      refine r_callV (y2 := mX7_needs) (as := [_, _]) 100 dX7_readLine_97 ml_X7_119 mv_X7_needs (m_needs (d := d - 1) h15) (by omega) sh_50 ⟨_, rfl, rfl⟩ rfl (Nat.le_of_ble_eq_true rfl) rfl (kk_v ?_)
      rintro w1 e1
      rw [if_neg (by omega)] at e1
      have f1 : w1 50 15 = nI 4 := by rw [← e1, z_up_i (by decide), z_up_s]; rfl
      have fr1 : frD w w1 := by rw [← e1]; exact (frD.rfl.up (by decide)).up (by decide)
      have ff1 : fF w1 (bl (tok T t p) 4) := by rw [← e1]; exact fF_up (y := 4) h12 h4
      refine r_aload_n 101 dX7_readLine_100 rfl rfl ?_
      refine r_dup 102 dX7_readLine_101 rfl rfl ?_
      refine r_geti 105 dX7_readLine_102 fz_X7_60 sh_50 rfl rfl ?_
      refine r_iconst 106 (v := 1) dX7_readLine_105 (by decide) rfl ?_
      refine r_iload_n 107 dX7_readLine_106 rfl rfl ?_
      refine r_ishl 108 dX7_readLine_107 rfl ?_
      refine r_ior 109 dX7_readLine_108 rfl ?_
      refine r_puti 112 dX7_readLine_109 fz_X7_60 fw_7_6 sh_50 rfl rfl ?_
      refine r_nw (fun w3 e3 => ?_)
      have f3 : w3 50 15 = nI 4 := by rw [e3, z_up_i (by decide)]; exact f1
      refine r_aload_n 113 dX7_readLine_112 rfl rfl ?_
      refine r_callV (y2 := mX7_next) (as := []) 116 dX7_readLine_113 ml_X7_127 mv_X7_next (m_nextF (d := d - 1) (e := 4) (by decide) f3) (by omega) sh_50 ⟨_, rfl, rfl⟩ rfl (Nat.le_of_ble_eq_true rfl) rfl (kk_v ?_)
      rintro _ rfl
      refine r_aload_n 117 dX7_readLine_116 rfl rfl ?_
      refine r_geti 120 dX7_readLine_117 fz_X7_81 sh_50 rfl rfl ?_
      refine r_eq f3 ?_
      refine r_if_le 124 123 dX7_readLine_120 (by decide) rfl (fun z => absurd z (by decide)) (fun _ => ?_)
      exact r_vret dX7_readLine_123 rfl (⟨by rw [e3]; exact fr1.up (by decide), by rw [pLine, show pLine0 T t (tok T t p) (n, K, l, m) = .inl (bl (tok T t p) 4) by { rw [pLine0, if_neg hn0, if_neg hn1, if_neg hn2, if_neg hn3, if_neg hn4, if_pos hy, pOnce, if_pos hb] }, e3]; exact ff1.up5 (by decide)⟩)
  have hb0 : bi m 2 = 0 := by have := bi_01 m 2; omega
  refine r_aload_n 19 dX7_readLine_18 rfl rfl ?_
  refine r_iload_n 20 dX7_readLine_19 rfl rfl ?_
  refine r_bipush 22 (v := -4) dX7_readLine_20 (by decide) rfl ?_
  refine r_icmp_eq 29 25 dX7_readLine_22 (by decide) rfl (fun z => absurd z (by decide)) (fun _ => ?_)
  refine r_iconst 26 (v := 1) dX7_readLine_25 (by decide) rfl ?_
  refine r_goto 30 dX7_readLine_26 (by decide) ?_
  refine r_iconst 31 (v := 2) dX7_readLine_30 (by decide) rfl ?_
  refine r_callV (y2 := mX7_needs) (as := [_, _]) 34 dX7_readLine_31 ml_X7_119 mv_X7_needs (m_needsO (d := d - 1) h15) (by omega) sh_50 ⟨_, rfl, rfl⟩ rfl (Nat.le_of_ble_eq_true rfl) rfl (kk_v ?_)
  rintro _ rfl
  refine r_aload_n 35 dX7_readLine_34 rfl rfl ?_
  refine r_iload_n 36 dX7_readLine_35 rfl rfl ?_
  refine r_iconst 37 (v := 1) dX7_readLine_36 (by decide) rfl ?_
  refine r_icmp_gt 49 40 dX7_readLine_37 (by decide) rfl (fun _ => ?_) (fun z => absurd (by decide) z)
  refine r_iconst 50 (v := 1) dX7_readLine_49 (by decide) rfl ?_
  refine r_goto 54 dX7_readLine_50 (by decide) ?_
  refine r_iconst 55 (v := 5) dX7_readLine_54 (by decide) rfl ?_
  refine r_callV (y2 := mX7_needs) (as := [_, _]) 58 dX7_readLine_55 ml_X7_119 mv_X7_needs (m_needsO (d := d - 1) h15) (by omega) sh_50 ⟨_, rfl, rfl⟩ rfl (Nat.le_of_ble_eq_true rfl) rfl (kk_v ?_)
  rintro _ rfl
  refine r_aload_n 59 dX7_readLine_58 rfl rfl ?_
  refine r_geti 62 dX7_readLine_59 fz_X7_81 sh_50 rfl rfl ?_
  refine r_eq h15 ?_
  refine r_if_ne 112 65 dX7_readLine_62 (by decide) rfl (fun z => absurd (rfl) z) (fun _ => ?_)
  refine r_iload_n 66 dX7_readLine_65 rfl rfl ?_
  refine r_i2l 67 dX7_readLine_66 rfl ?_
  refine r_ldc2 70 dX7_readLine_67 kl_X7_153 rfl ?_
  refine r_ldc2 73 dX7_readLine_70 kl_X7_155 rfl ?_
  refine r_callS (y2 := mX7_in) (as := [_, _, _]) 76 dX7_readLine_73 ml_X7_74 ms_X7_in (m_in (d := d - 1) _ _ _) (by omega) rfl (Nat.le_of_ble_eq_true rfl) rfl (kk_i ?_)
  rintro _ _ ⟨rfl, rfl⟩
  refine r_eq (z_bc (in_wi (lo := 2) (hi := 5) rfl rfl)) ?_
  refine rb_eq 112 79 dX7_readLine_76 (by decide) rfl (fun g76 => ?_) (fun g76 => ?_)
  · exact absurd (show wi (4 : Int32) 2 5 = true by decide +kernel) g76
  · refine r_aload_n 80 dX7_readLine_79 rfl rfl ?_
    refine r_aload_n 81 dX7_readLine_80 rfl rfl ?_
    refine r_geti 84 dX7_readLine_81 fz_X7_60 sh_50 rfl rfl ?_
    refine r_eq hD.2.2.1 ?_
    refine r_iload_n 85 dX7_readLine_84 rfl rfl ?_
    refine r_ishr 86 dX7_readLine_85 rfl ?_
    refine r_iconst 87 (v := 1) dX7_readLine_86 (by decide) rfl ?_
    refine r_iand 88 dX7_readLine_87 rfl ?_
    refine r_eq (tl_sh m hm16 2 (by decide)) ?_
    refine rt_if_ne (a := 1) (b := 0) (j := 96) 95 91 dX7_readLine_88 (by decide) rfl (fun k => r_iconst 96 dX7_readLine_95 (by decide) rfl k) (fun k => r_iconst 92 dX7_readLine_91 (by decide) rfl (r_goto 96 dX7_readLine_92 (by decide) k)) ?_
    refine r_eq (z := z_b (bi m 2 = 0)) (by rcases bi_01 m 2 with z | z; (rw [z]; rfl); (rw [z]; rfl)) ?_
    refine r_iconst 97 (v := 4) dX7_readLine_96 (by decide) rfl ?_
    refine r_callV (y2 := mX7_needs) (as := [_, _]) 100 dX7_readLine_97 ml_X7_119 mv_X7_needs (m_needs (d := d - 1) h15) (by omega) sh_50 ⟨_, rfl, rfl⟩ rfl (Nat.le_of_ble_eq_true rfl) rfl (kk_v ?_)
    rintro w1 e1
    rw [if_pos hb0] at e1
    subst e1
    refine r_aload_n 101 dX7_readLine_100 rfl rfl ?_
    refine r_dup 102 dX7_readLine_101 rfl rfl ?_
    refine r_geti 105 dX7_readLine_102 fz_X7_60 sh_50 rfl rfl ?_
    refine r_eq hD.2.2.1 ?_
    refine r_iconst 106 (v := 1) dX7_readLine_105 (by decide) rfl ?_
    refine r_iload_n 107 dX7_readLine_106 rfl rfl ?_
    refine r_ishl 108 dX7_readLine_107 rfl ?_
    refine r_ior 109 dX7_readLine_108 rfl ?_
    refine r_eq (tl_or m hm16 2 (by decide) hb0) ?_
    refine r_puti 112 dX7_readLine_109 fz_X7_60 fw_7_6 sh_50 rfl rfl ?_
    refine r_nw (fun w3 e3 => ?_)
    have fr3 : frD w w3 := by rw [e3]; exact frD.rfl.up (by decide)
    have q3 : ∀ q, q ≠ 6 → w3 50 q = w 50 q := fun q h => by rw [e3, z_up_i h]
    have hD3 : dM w3 (n, K, l, m + 2 ^ 2) := ⟨fun k hk => by rw [e3, z_up_a (by decide)]; exact hD.1 k hk, by rw [q3 5 (by decide)]; exact hD.2.1, by rw [e3, z_up_s], by rw [q3 7 (by decide)]; exact hD.2.2.2.1, by rw [q3 8 (by decide)]; exact hD.2.2.2.2⟩
    refine r_aload_n 113 dX7_readLine_112 rfl rfl ?_
    refine r_callV (y2 := mX7_next) (as := []) 116 dX7_readLine_113 ml_X7_127 mv_X7_next (m_next (d := d - 1) (by omega) (hT.D fr3) hta.1 (by rw [q3 15 (by decide)]; exact h15) (by rw [q3 11 (by decide)]; exact h11)) (by omega) sh_50 ⟨_, rfl, rfl⟩ rfl (Nat.le_of_ble_eq_true rfl) rfl (kk_v ?_)
    rintro w2 ⟨hk2, hf2⟩
    have q0 : pLine0 T t (tok T t p) (n, K, l, m) = sB (pRules T t 1 4 (tk_a (tok T t p)) K) (pK (n, K, l, m + 2 ^ 2)) := by { rw [pLine0, if_neg hn0, if_neg hn1, if_neg hn2, if_neg hn3, if_neg hn4, if_pos hy, pOnce, if_neg hb] }
    rw [pLine, q0]
    exact l_rlMid (w0 := w) (by omega) (hT.D (fr3.L hf2)) hta.1 (fr3.L hf2) hk2 (fun z => m_rlPost (d := d - 1) (by omega) (hT.D (fr3.L hf2)) hta.1 hk2 z (hD3.L hf2)) (fun z => pR_4 z) (fun e he => e16 (pLine0_e hp (q0.trans he))) (fun v hv => (pLine0_V hp hV (q0.trans hv)).2.2)
set_option maxRecDepth 20000 in
set_option maxHeartbeats 4000000 in
theorem l_rlO3 {d T p : Nat} {t : Nat → Nat} {w : zW} {n l m : Nat} {K : Nat → Nat} (hd : 7 ≤ d) (hT : tpL w T t) (hp : p ≤ T) (hk : mT w (tok T t p)) (h4 : tk_k (tok T t p) ≠ 4) (hD : dM w (n, K, l, m)) (hV : dV (n, K, l, m)) (hn0 : ¬ isN t (tok T t p) 0 = true) (hn1 : ¬ isN t (tok T t p) 1 = true) (hn2 : ¬ isN t (tok T t p) 2 = true) (hn3 : ¬ isN t (tok T t p) 3 = true) (hn4 : ¬ isN t (tok T t p) 4 = true) (hn5 : ¬ isN t (tok T t p) 5 = true) (hy : isN t (tok T t p) 6 = true) : WP mX7_readLine d (z_T (z_v fun w' => frD w w' ∧ mrs T t (pLine T t p (n, K, l, m)) w')) 18 [some (.ref 50), some (.int 5)] [] w := by
  have h12 := hk.1
  obtain ⟨h15, h13, h11, -⟩ := hk.2.2 h4
  have hta := tok_T (t := t) hp
  have hn6 : n ≤ 6 := hV.n
  have hm16 : m < 16 := hV.2.1
  by_cases hb : bi m 3 = 1
  · refine r_aload_n 19 dX7_readLine_18 rfl rfl ?_
    refine r_iload_n 20 dX7_readLine_19 rfl rfl ?_
    refine r_bipush 22 (v := -4) dX7_readLine_20 (by decide) rfl ?_
    refine r_icmp_eq 29 25 dX7_readLine_22 (by decide) rfl (fun z => absurd z (by decide)) (fun _ => ?_)
    refine r_iconst 26 (v := 1) dX7_readLine_25 (by decide) rfl ?_
    refine r_goto 30 dX7_readLine_26 (by decide) ?_
    refine r_iconst 31 (v := 2) dX7_readLine_30 (by decide) rfl ?_
    refine r_callV (y2 := mX7_needs) (as := [_, _]) 34 dX7_readLine_31 ml_X7_119 mv_X7_needs (m_needsO (d := d - 1) h15) (by omega) sh_50 ⟨_, rfl, rfl⟩ rfl (Nat.le_of_ble_eq_true rfl) rfl (kk_v ?_)
    rintro _ rfl
    refine r_aload_n 35 dX7_readLine_34 rfl rfl ?_
    refine r_iload_n 36 dX7_readLine_35 rfl rfl ?_
    refine r_iconst 37 (v := 1) dX7_readLine_36 (by decide) rfl ?_
    refine r_icmp_gt 49 40 dX7_readLine_37 (by decide) rfl (fun _ => ?_) (fun z => absurd (by decide) z)
    refine r_iconst 50 (v := 1) dX7_readLine_49 (by decide) rfl ?_
    refine r_goto 54 dX7_readLine_50 (by decide) ?_
    refine r_iconst 55 (v := 5) dX7_readLine_54 (by decide) rfl ?_
    refine r_callV (y2 := mX7_needs) (as := [_, _]) 58 dX7_readLine_55 ml_X7_119 mv_X7_needs (m_needsO (d := d - 1) h15) (by omega) sh_50 ⟨_, rfl, rfl⟩ rfl (Nat.le_of_ble_eq_true rfl) rfl (kk_v ?_)
    rintro _ rfl
    refine r_aload_n 59 dX7_readLine_58 rfl rfl ?_
    refine r_geti 62 dX7_readLine_59 fz_X7_81 sh_50 rfl rfl ?_
    refine r_eq h15 ?_
    refine r_if_ne 112 65 dX7_readLine_62 (by decide) rfl (fun z => absurd (rfl) z) (fun _ => ?_)
    refine r_iload_n 66 dX7_readLine_65 rfl rfl ?_
    refine r_i2l 67 dX7_readLine_66 rfl ?_
    refine r_ldc2 70 dX7_readLine_67 kl_X7_153 rfl ?_
    refine r_ldc2 73 dX7_readLine_70 kl_X7_155 rfl ?_
    refine r_callS (y2 := mX7_in) (as := [_, _, _]) 76 dX7_readLine_73 ml_X7_74 ms_X7_in (m_in (d := d - 1) _ _ _) (by omega) rfl (Nat.le_of_ble_eq_true rfl) rfl (kk_i ?_)
    rintro _ _ ⟨rfl, rfl⟩
    refine r_eq (z_bc (in_wi (lo := 2) (hi := 5) rfl rfl)) ?_
    refine rb_eq 112 79 dX7_readLine_76 (by decide) rfl (fun g76 => ?_) (fun g76 => ?_)
    · exact absurd (show wi (5 : Int32) 2 5 = true by decide +kernel) g76
    · refine r_aload_n 80 dX7_readLine_79 rfl rfl ?_
      refine r_aload_n 81 dX7_readLine_80 rfl rfl ?_
      refine r_geti 84 dX7_readLine_81 fz_X7_60 sh_50 rfl rfl ?_
      refine r_eq hD.2.2.1 ?_
      refine r_iload_n 85 dX7_readLine_84 rfl rfl ?_
      refine r_ishr 86 dX7_readLine_85 rfl ?_
      refine r_iconst 87 (v := 1) dX7_readLine_86 (by decide) rfl ?_
      refine r_iand 88 dX7_readLine_87 rfl ?_
      refine r_eq (tl_sh m hm16 3 (by decide)) ?_
      refine rt_if_ne (a := 1) (b := 0) (j := 96) 95 91 dX7_readLine_88 (by decide) rfl (fun k => r_iconst 96 dX7_readLine_95 (by decide) rfl k) (fun k => r_iconst 92 dX7_readLine_91 (by decide) rfl (r_goto 96 dX7_readLine_92 (by decide) k)) ?_
      refine r_eq (z := z_b (bi m 3 = 0)) (by rcases bi_01 m 3 with z | z; (rw [z]; rfl); (rw [z]; rfl)) ?_
      refine r_iconst 97 (v := 4) dX7_readLine_96 (by decide) rfl ?_
      refine r_callV (y2 := mX7_needs) (as := [_, _]) 100 dX7_readLine_97 ml_X7_119 mv_X7_needs (m_needs (d := d - 1) h15) (by omega) sh_50 ⟨_, rfl, rfl⟩ rfl (Nat.le_of_ble_eq_true rfl) rfl (kk_v ?_)
      rintro w1 e1
      rw [if_neg (by omega)] at e1
      have f1 : w1 50 15 = nI 4 := by rw [← e1, z_up_i (by decide), z_up_s]; rfl
      have fr1 : frD w w1 := by rw [← e1]; exact (frD.rfl.up (by decide)).up (by decide)
      have ff1 : fF w1 (bl (tok T t p) 4) := by rw [← e1]; exact fF_up (y := 4) h12 h4
      refine r_aload_n 101 dX7_readLine_100 rfl rfl ?_
      refine r_dup 102 dX7_readLine_101 rfl rfl ?_
      refine r_geti 105 dX7_readLine_102 fz_X7_60 sh_50 rfl rfl ?_
      refine r_iconst 106 (v := 1) dX7_readLine_105 (by decide) rfl ?_
      refine r_iload_n 107 dX7_readLine_106 rfl rfl ?_
      refine r_ishl 108 dX7_readLine_107 rfl ?_
      refine r_ior 109 dX7_readLine_108 rfl ?_
      refine r_puti 112 dX7_readLine_109 fz_X7_60 fw_7_6 sh_50 rfl rfl ?_
      refine r_nw (fun w3 e3 => ?_)
      have f3 : w3 50 15 = nI 4 := by rw [e3, z_up_i (by decide)]; exact f1
      refine r_aload_n 113 dX7_readLine_112 rfl rfl ?_
      refine r_callV (y2 := mX7_next) (as := []) 116 dX7_readLine_113 ml_X7_127 mv_X7_next (m_nextF (d := d - 1) (e := 4) (by decide) f3) (by omega) sh_50 ⟨_, rfl, rfl⟩ rfl (Nat.le_of_ble_eq_true rfl) rfl (kk_v ?_)
      rintro _ rfl
      refine r_aload_n 117 dX7_readLine_116 rfl rfl ?_
      refine r_geti 120 dX7_readLine_117 fz_X7_81 sh_50 rfl rfl ?_
      refine r_eq f3 ?_
      refine r_if_le 124 123 dX7_readLine_120 (by decide) rfl (fun z => absurd z (by decide)) (fun _ => ?_)
      exact r_vret dX7_readLine_123 rfl (⟨by rw [e3]; exact fr1.up (by decide), by rw [pLine, show pLine0 T t (tok T t p) (n, K, l, m) = .inl (bl (tok T t p) 4) by { rw [pLine0, if_neg hn0, if_neg hn1, if_neg hn2, if_neg hn3, if_neg hn4, if_neg hn5, if_pos hy, pOnce, if_pos hb] }, e3]; exact ff1.up5 (by decide)⟩)
  have hb0 : bi m 3 = 0 := by have := bi_01 m 3; omega
  refine r_aload_n 19 dX7_readLine_18 rfl rfl ?_
  refine r_iload_n 20 dX7_readLine_19 rfl rfl ?_
  refine r_bipush 22 (v := -4) dX7_readLine_20 (by decide) rfl ?_
  refine r_icmp_eq 29 25 dX7_readLine_22 (by decide) rfl (fun z => absurd z (by decide)) (fun _ => ?_)
  refine r_iconst 26 (v := 1) dX7_readLine_25 (by decide) rfl ?_
  refine r_goto 30 dX7_readLine_26 (by decide) ?_
  refine r_iconst 31 (v := 2) dX7_readLine_30 (by decide) rfl ?_
  refine r_callV (y2 := mX7_needs) (as := [_, _]) 34 dX7_readLine_31 ml_X7_119 mv_X7_needs (m_needsO (d := d - 1) h15) (by omega) sh_50 ⟨_, rfl, rfl⟩ rfl (Nat.le_of_ble_eq_true rfl) rfl (kk_v ?_)
  rintro _ rfl
  refine r_aload_n 35 dX7_readLine_34 rfl rfl ?_
  refine r_iload_n 36 dX7_readLine_35 rfl rfl ?_
  refine r_iconst 37 (v := 1) dX7_readLine_36 (by decide) rfl ?_
  refine r_icmp_gt 49 40 dX7_readLine_37 (by decide) rfl (fun _ => ?_) (fun z => absurd (by decide) z)
  refine r_iconst 50 (v := 1) dX7_readLine_49 (by decide) rfl ?_
  refine r_goto 54 dX7_readLine_50 (by decide) ?_
  refine r_iconst 55 (v := 5) dX7_readLine_54 (by decide) rfl ?_
  refine r_callV (y2 := mX7_needs) (as := [_, _]) 58 dX7_readLine_55 ml_X7_119 mv_X7_needs (m_needsO (d := d - 1) h15) (by omega) sh_50 ⟨_, rfl, rfl⟩ rfl (Nat.le_of_ble_eq_true rfl) rfl (kk_v ?_)
  rintro _ rfl
  refine r_aload_n 59 dX7_readLine_58 rfl rfl ?_
  refine r_geti 62 dX7_readLine_59 fz_X7_81 sh_50 rfl rfl ?_
  refine r_eq h15 ?_
  refine r_if_ne 112 65 dX7_readLine_62 (by decide) rfl (fun z => absurd (rfl) z) (fun _ => ?_)
  refine r_iload_n 66 dX7_readLine_65 rfl rfl ?_
  refine r_i2l 67 dX7_readLine_66 rfl ?_
  refine r_ldc2 70 dX7_readLine_67 kl_X7_153 rfl ?_
  refine r_ldc2 73 dX7_readLine_70 kl_X7_155 rfl ?_
  refine r_callS (y2 := mX7_in) (as := [_, _, _]) 76 dX7_readLine_73 ml_X7_74 ms_X7_in (m_in (d := d - 1) _ _ _) (by omega) rfl (Nat.le_of_ble_eq_true rfl) rfl (kk_i ?_)
  rintro _ _ ⟨rfl, rfl⟩
  refine r_eq (z_bc (in_wi (lo := 2) (hi := 5) rfl rfl)) ?_
  refine rb_eq 112 79 dX7_readLine_76 (by decide) rfl (fun g76 => ?_) (fun g76 => ?_)
  · exact absurd (show wi (5 : Int32) 2 5 = true by decide +kernel) g76
  · refine r_aload_n 80 dX7_readLine_79 rfl rfl ?_
    refine r_aload_n 81 dX7_readLine_80 rfl rfl ?_
    refine r_geti 84 dX7_readLine_81 fz_X7_60 sh_50 rfl rfl ?_
    refine r_eq hD.2.2.1 ?_
    refine r_iload_n 85 dX7_readLine_84 rfl rfl ?_
    refine r_ishr 86 dX7_readLine_85 rfl ?_
    refine r_iconst 87 (v := 1) dX7_readLine_86 (by decide) rfl ?_
    refine r_iand 88 dX7_readLine_87 rfl ?_
    refine r_eq (tl_sh m hm16 3 (by decide)) ?_
    refine rt_if_ne (a := 1) (b := 0) (j := 96) 95 91 dX7_readLine_88 (by decide) rfl (fun k => r_iconst 96 dX7_readLine_95 (by decide) rfl k) (fun k => r_iconst 92 dX7_readLine_91 (by decide) rfl (r_goto 96 dX7_readLine_92 (by decide) k)) ?_
    refine r_eq (z := z_b (bi m 3 = 0)) (by rcases bi_01 m 3 with z | z; (rw [z]; rfl); (rw [z]; rfl)) ?_
    refine r_iconst 97 (v := 4) dX7_readLine_96 (by decide) rfl ?_
    refine r_callV (y2 := mX7_needs) (as := [_, _]) 100 dX7_readLine_97 ml_X7_119 mv_X7_needs (m_needs (d := d - 1) h15) (by omega) sh_50 ⟨_, rfl, rfl⟩ rfl (Nat.le_of_ble_eq_true rfl) rfl (kk_v ?_)
    rintro w1 e1
    rw [if_pos hb0] at e1
    subst e1
    refine r_aload_n 101 dX7_readLine_100 rfl rfl ?_
    refine r_dup 102 dX7_readLine_101 rfl rfl ?_
    refine r_geti 105 dX7_readLine_102 fz_X7_60 sh_50 rfl rfl ?_
    refine r_eq hD.2.2.1 ?_
    refine r_iconst 106 (v := 1) dX7_readLine_105 (by decide) rfl ?_
    refine r_iload_n 107 dX7_readLine_106 rfl rfl ?_
    refine r_ishl 108 dX7_readLine_107 rfl ?_
    refine r_ior 109 dX7_readLine_108 rfl ?_
    refine r_eq (tl_or m hm16 3 (by decide) hb0) ?_
    refine r_puti 112 dX7_readLine_109 fz_X7_60 fw_7_6 sh_50 rfl rfl ?_
    refine r_nw (fun w3 e3 => ?_)
    have fr3 : frD w w3 := by rw [e3]; exact frD.rfl.up (by decide)
    have q3 : ∀ q, q ≠ 6 → w3 50 q = w 50 q := fun q h => by rw [e3, z_up_i h]
    have hD3 : dM w3 (n, K, l, m + 2 ^ 3) := ⟨fun k hk => by rw [e3, z_up_a (by decide)]; exact hD.1 k hk, by rw [q3 5 (by decide)]; exact hD.2.1, by rw [e3, z_up_s], by rw [q3 7 (by decide)]; exact hD.2.2.2.1, by rw [q3 8 (by decide)]; exact hD.2.2.2.2⟩
    refine r_aload_n 113 dX7_readLine_112 rfl rfl ?_
    refine r_callV (y2 := mX7_next) (as := []) 116 dX7_readLine_113 ml_X7_127 mv_X7_next (m_next (d := d - 1) (by omega) (hT.D fr3) hta.1 (by rw [q3 15 (by decide)]; exact h15) (by rw [q3 11 (by decide)]; exact h11)) (by omega) sh_50 ⟨_, rfl, rfl⟩ rfl (Nat.le_of_ble_eq_true rfl) rfl (kk_v ?_)
    rintro w2 ⟨hk2, hf2⟩
    have q0 : pLine0 T t (tok T t p) (n, K, l, m) = pK (n, K, l, m + 2 ^ 3) ((tk_a (tok T t p)), un K 5 1) := by { rw [pLine0, if_neg hn0, if_neg hn1, if_neg hn2, if_neg hn3, if_neg hn4, if_neg hn5, if_pos hy, pOnce, if_neg hb] }
    rw [pLine, q0]
    exact l_rlMid (w0 := w) (by omega) (hT.D (fr3.L hf2)) hta.1 (fr3.L hf2) hk2 (fun z => m_rlHand (d := d - 1) (by omega) (hT.D (fr3.L hf2)) hta.1 hk2 z (hD3.L hf2)) (fun z => pH_4 (D := (n, K, l, m)) z) (fun e he => e16 (pLine0_e hp (q0.trans he))) (fun v hv => (pLine0_V hp hV (q0.trans hv)).2.2)
set_option maxRecDepth 20000 in
set_option maxHeartbeats 4000000 in
theorem m_readLine {d T p : Nat} {t : Nat → Nat} {w : zW} {n l m : Nat} {K : Nat → Nat} (hd : 7 ≤ d) (hT : tpL w T t) (hp : p ≤ T) (hk : mT w (tok T t p)) (h4 : tk_k (tok T t p) ≠ 4) (hD : dM w (n, K, l, m)) (hV : dV (n, K, l, m)) : CT mX7_readLine d [.ref 50] w (z_v fun w' => frD w w' ∧ mrs T t (pLine T t p (n, K, l, m)) w') := by
  refine CT.of [some (.ref 50), none] rfl (Nat.le_of_ble_eq_true rfl) rfl ?_
  have h12 := hk.1
  obtain ⟨h15, h13, h11, -⟩ := hk.2.2 h4
  have hta := tok_T (t := t) hp
  have hn6 : n ≤ 6 := hV.n
  refine r_aload_n 1 dX7_readLine_0 rfl rfl ?_
  refine r_geti 4 dX7_readLine_1 fz_X7_105 sh_50 rfl rfl ?_
  refine r_eq h13 ?_
  refine r_iconst 5 (v := 1) dX7_readLine_4 (by decide) rfl ?_
  refine r_icmp_ne 15 8 dX7_readLine_5 (by decide) rfl (fun g5 => ?_) (fun g5 => ?_)
  · have h0 : ¬ tk_k (tok T t p) = 0 := fun z => g5 ((sN_i (c := 0) tok_k4 h4 (by decide)).mpr z)
    have hno : pLine0 T t (tok T t p) (n, K, l, m) = .inl (bl (tok T t p) 2) := by rw [pLine0, if_neg (isN_k h0), if_neg (isN_k h0), if_neg (isN_k h0), if_neg (isN_k h0), if_neg (isN_k h0), if_neg (isN_k h0), if_neg (isN_k h0)]
    refine r_bipush 17 (v := -4) dX7_readLine_15 (by decide) rfl ?_
    refine r_istore_n 18 (L' := [_, _]) dX7_readLine_17 (by decide) rfl rfl rfl ?_
    exact l_rlNone hd hT hp hk h4 hD hV hno
  · have h0 : tk_k (tok T t p) = 0 := (sN_i (c := 0) tok_k4 h4 (by decide)).mp g5
    refine r_aload_n 9 dX7_readLine_8 rfl rfl ?_
    refine r_callV (y2 := mX7_lineNow) (as := []) 12 dX7_readLine_9 ml_X7_150 mv_X7_lineNow (m_lineNow (d := d - 1) (k := (tok T t p)) (by omega) hT hk.1 h11 hta.2.2 (by have := hT.2.1; omega)) (by omega) sh_50 ⟨_, rfl, rfl⟩ rfl (Nat.le_of_ble_eq_true rfl) rfl (kk_i ?_)
    rintro _ _ ⟨rfl, rfl⟩
    by_cases n0 : isN t (tok T t p) 0 = true
    · refine r_eq (z := 0) (by rw [lnC, if_pos ((isXN h0 hta.1).mpr n0)]) ?_
      refine r_goto 17 dX7_readLine_12 (by decide) ?_
      refine r_istore_n 18 (L' := [_, _]) dX7_readLine_17 (by decide) rfl rfl rfl ?_
      exact l_rlB0 hd hT hp hk h4 hD hV n0
    by_cases n1 : isN t (tok T t p) 1 = true
    · refine r_eq (z := 1) (by rw [lnC, if_neg (fun z => n0 ((isXN h0 hta.1).mp z)), if_pos ((isXN h0 hta.1).mpr n1)]) ?_
      refine r_goto 17 dX7_readLine_12 (by decide) ?_
      refine r_istore_n 18 (L' := [_, _]) dX7_readLine_17 (by decide) rfl rfl rfl ?_
      exact l_rlB1 hd hT hp hk h4 hD hV n0 n1
    by_cases n3 : isN t (tok T t p) 3 = true
    · refine r_eq (z := 2) (by rw [lnC, if_neg (fun z => n0 ((isXN h0 hta.1).mp z)), if_neg (fun z => n1 ((isXN h0 hta.1).mp z)), if_pos ((isXN h0 hta.1).mpr n3)]) ?_
      refine r_goto 17 dX7_readLine_12 (by decide) ?_
      refine r_istore_n 18 (L' := [_, _]) dX7_readLine_17 (by decide) rfl rfl rfl ?_
      exact l_rlO0 hd hT hp hk h4 hD hV n0 n1 (fun z => absurd (isN_ex (by decide) (by decide) z n3) (by decide)) n3
    by_cases n4 : isN t (tok T t p) 4 = true
    · refine r_eq (z := 3) (by rw [lnC, if_neg (fun z => n0 ((isXN h0 hta.1).mp z)), if_neg (fun z => n1 ((isXN h0 hta.1).mp z)), if_neg (fun z => n3 ((isXN h0 hta.1).mp z)), if_pos ((isXN h0 hta.1).mpr n4)]) ?_
      refine r_goto 17 dX7_readLine_12 (by decide) ?_
      refine r_istore_n 18 (L' := [_, _]) dX7_readLine_17 (by decide) rfl rfl rfl ?_
      exact l_rlO1 hd hT hp hk h4 hD hV n0 n1 (fun z => absurd (isN_ex (by decide) (by decide) z n4) (by decide)) n3 n4
    by_cases n5 : isN t (tok T t p) 5 = true
    · refine r_eq (z := 4) (by rw [lnC, if_neg (fun z => n0 ((isXN h0 hta.1).mp z)), if_neg (fun z => n1 ((isXN h0 hta.1).mp z)), if_neg (fun z => n3 ((isXN h0 hta.1).mp z)), if_neg (fun z => n4 ((isXN h0 hta.1).mp z)), if_pos ((isXN h0 hta.1).mpr n5)]) ?_
      refine r_goto 17 dX7_readLine_12 (by decide) ?_
      refine r_istore_n 18 (L' := [_, _]) dX7_readLine_17 (by decide) rfl rfl rfl ?_
      exact l_rlO2 hd hT hp hk h4 hD hV n0 n1 (fun z => absurd (isN_ex (by decide) (by decide) z n5) (by decide)) n3 n4 n5
    by_cases n6 : isN t (tok T t p) 6 = true
    · refine r_eq (z := 5) (by rw [lnC, if_neg (fun z => n0 ((isXN h0 hta.1).mp z)), if_neg (fun z => n1 ((isXN h0 hta.1).mp z)), if_neg (fun z => n3 ((isXN h0 hta.1).mp z)), if_neg (fun z => n4 ((isXN h0 hta.1).mp z)), if_neg (fun z => n5 ((isXN h0 hta.1).mp z)), if_pos ((isXN h0 hta.1).mpr n6)]) ?_
      refine r_goto 17 dX7_readLine_12 (by decide) ?_
      refine r_istore_n 18 (L' := [_, _]) dX7_readLine_17 (by decide) rfl rfl rfl ?_
      exact l_rlO3 hd hT hp hk h4 hD hV n0 n1 (fun z => absurd (isN_ex (by decide) (by decide) z n6) (by decide)) n3 n4 n5 n6
    by_cases n2 : isN t (tok T t p) 2 = true
    · refine r_eq (z := 6) (by rw [lnC, if_neg (fun z => n0 ((isXN h0 hta.1).mp z)), if_neg (fun z => n1 ((isXN h0 hta.1).mp z)), if_neg (fun z => n3 ((isXN h0 hta.1).mp z)), if_neg (fun z => n4 ((isXN h0 hta.1).mp z)), if_neg (fun z => n5 ((isXN h0 hta.1).mp z)), if_neg (fun z => n6 ((isXN h0 hta.1).mp z)), if_pos ((isXN h0 hta.1).mpr n2)]) ?_
      refine r_goto 17 dX7_readLine_12 (by decide) ?_
      refine r_istore_n 18 (L' := [_, _]) dX7_readLine_17 (by decide) rfl rfl rfl ?_
      exact l_rlL hd hT hp hk h4 hD hV n0 n1 n2
    refine r_eq (z := -4) (by rw [lnC, if_neg (fun z => n0 ((isXN h0 hta.1).mp z)), if_neg (fun z => n1 ((isXN h0 hta.1).mp z)), if_neg (fun z => n3 ((isXN h0 hta.1).mp z)), if_neg (fun z => n4 ((isXN h0 hta.1).mp z)), if_neg (fun z => n5 ((isXN h0 hta.1).mp z)), if_neg (fun z => n6 ((isXN h0 hta.1).mp z)), if_neg (fun z => n2 ((isXN h0 hta.1).mp z))]) ?_
    have hno : pLine0 T t (tok T t p) (n, K, l, m) = .inl (bl (tok T t p) 2) := by rw [pLine0, if_neg n0, if_neg n1, if_neg n2, if_neg n3, if_neg n4, if_neg n5, if_neg n6]
    refine r_goto 17 dX7_readLine_12 (by decide) ?_
    refine r_istore_n 18 (L' := [_, _]) dX7_readLine_17 (by decide) rfl rfl rfl ?_
    exact l_rlNone hd hT hp hk h4 hD hV hno

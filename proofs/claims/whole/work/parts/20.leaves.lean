/-! ===== leaves ===== -/
set_option maxRecDepth 20000 in
set_option maxHeartbeats 4000000 in
theorem c_within {d : Nat} {w : zW} (v a b : Int32) : CT mX6_within d [.int v, .int a, .int b] w (z_i fun x w' => z_b (a.toInt ≤ v.toInt ∧ v.toInt ≤ b.toInt) = x ∧ w = w') := by
  refine CT.of [some (.int v), some (.int a), some (.int b)] rfl (Nat.le_of_ble_eq_true rfl) rfl ?_
  refine r_iload_n 1 dX6_within_0 rfl rfl ?_
  refine r_iload_n 2 dX6_within_1 rfl rfl ?_
  refine r_icmp_gt 14 5 dX6_within_2 (by decide) rfl (fun h2 => ?_) (fun h2 => ?_)
  · refine r_iconst 15 (v := 0) dX6_within_14 (by decide) rfl ?_
    exact r_iret .boolean dX6_within_15 rfl (rfl) (⟨by simp only [ti_lt, ti_le] at *; first | exact z_bp (by omega) | exact z_bn (by omega), rfl⟩)
  · refine r_iload_n 6 dX6_within_5 rfl rfl ?_
    refine r_iload_n 7 dX6_within_6 rfl rfl ?_
    refine r_icmp_gt 14 10 dX6_within_7 (by decide) rfl (fun h7 => ?_) (fun h7 => ?_)
    · refine r_iconst 15 (v := 0) dX6_within_14 (by decide) rfl ?_
      exact r_iret .boolean dX6_within_15 rfl (rfl) (⟨by simp only [ti_lt, ti_le] at *; first | exact z_bp (by omega) | exact z_bn (by omega), rfl⟩)
    · refine r_iconst 11 (v := 1) dX6_within_10 (by decide) rfl ?_
      refine r_goto 15 dX6_within_11 (by decide) ?_
      exact r_iret .boolean dX6_within_15 rfl (rfl) (⟨by simp only [ti_lt, ti_le] at *; first | exact z_bp (by omega) | exact z_bn (by omega), rfl⟩)
set_option maxRecDepth 20000 in
set_option maxHeartbeats 4000000 in
theorem c_otherSide {d : Nat} {w : zW} (i : Nat) (hi : i < 2) : CT mX6_otherSide d [.int (nI i)] w (z_i fun x w' => nI (1 - i) = x ∧ w = w') := by
  refine CT.of [some (.int (nI i))] rfl (Nat.le_of_ble_eq_true rfl) rfl ?_
  refine r_iload_n 1 dX6_otherSide_0 rfl rfl ?_
  refine r_if_ne 8 4 dX6_otherSide_1 (by decide) rfl (fun h1 => ?_) (fun h1 => ?_)
  · have h1 : i = 1 := by
      rcases (by omega : i = 0 ∨ i = 1) with z | z
      · subst z; exact absurd rfl h1
      · exact z
    subst h1
    refine r_iconst 9 (v := 0) dX6_otherSide_8 (by decide) rfl ?_
    exact r_iret .int dX6_otherSide_9 rfl (rfl) (⟨rfl, rfl⟩)
  · have h1 : i = 0 := by
      rcases (by omega : i = 0 ∨ i = 1) with z | z
      · exact z
      · subst z; exact absurd h1 (by decide)
    subst h1
    refine r_iconst 5 (v := 1) dX6_otherSide_4 (by decide) rfl ?_
    refine r_goto 9 dX6_otherSide_5 (by decide) ?_
    exact r_iret .int dX6_otherSide_9 rfl (rfl) (⟨rfl, rfl⟩)
set_option maxRecDepth 20000 in
set_option maxHeartbeats 4000000 in
theorem c_mark {d B i j : Nat} {w : zW} (hB : z_isL B) (hi : i < 6) (hj : j < 5) : CT mX1_mark d [.ref B, .int (nI i), .int (nI j)] w (z_i fun x w' => w (B + 2) (i * 5 + j) = x ∧ w = w') := by
  refine CT.of [some (.ref B), some (.int (nI i)), some (.int (nI j))] rfl (Nat.le_of_ble_eq_true rfl) rfl ?_
  refine r_aload_n 1 dX1_mark_0 rfl rfl ?_
  refine r_getr 4 dX1_mark_1 fz_X1_23 (z_L0 hB) rfl rfl ?_
  refine r_iload_n 5 dX1_mark_4 rfl rfl ?_
  refine r_iconst 6 (v := 5) dX1_mark_5 (by decide) rfl ?_
  refine r_imul 7 dX1_mark_6 rfl ?_
  refine r_iload_n 8 dX1_mark_7 rfl rfl ?_
  refine r_iadd 9 dX1_mark_8 rfl ?_
  refine rj_iald 10 (i * 5 + j) dX1_mark_9 (z_L2 hB) (by rw [← nI_add, ← nI_mul]; rfl) (by omega) (by decide) rfl ?_
  exact r_iret .int dX1_mark_10 rfl (rfl) (⟨rfl, rfl⟩)
set_option maxRecDepth 20000 in
set_option maxHeartbeats 4000000 in
theorem c_setMark {d B i j : Nat} {w : zW} {v : Int32} (hB : z_isL B) (hi : i < 6) (hj : j < 5) : CT mX1_setMark d [.ref B, .int (nI i), .int (nI j), .int v] w (z_v fun w' => z_up w (B + 2) (i * 5 + j) v = w') := by
  refine CT.of [some (.ref B), some (.int (nI i)), some (.int (nI j)), some (.int v)] rfl (Nat.le_of_ble_eq_true rfl) rfl ?_
  refine r_aload_n 1 dX1_setMark_0 rfl rfl ?_
  refine r_getr 4 dX1_setMark_1 fz_X1_23 (z_L0 hB) rfl rfl ?_
  refine r_iload_n 5 dX1_setMark_4 rfl rfl ?_
  refine r_iconst 6 (v := 5) dX1_setMark_5 (by decide) rfl ?_
  refine r_imul 7 dX1_setMark_6 rfl ?_
  refine r_iload_n 8 dX1_setMark_7 rfl rfl ?_
  refine r_iadd 9 dX1_setMark_8 rfl ?_
  refine r_iload_n 10 dX1_setMark_9 rfl rfl ?_
  refine rj_iast 11 (i * 5 + j) dX1_setMark_10 (z_L2 hB) (by rw [← nI_add, ← nI_mul]; rfl) (by omega) (by decide) rfl ?_
  exact r_vret dX1_setMark_11 rfl (rfl)
set_option maxRecDepth 20000 in
set_option maxHeartbeats 4000000 in
theorem m_in {d : Nat} {w : zW} (v a b : Int64) : CT mX7_in d [.long v, .long a, .long b] w (z_i fun x w' => z_b (a.toInt ≤ v.toInt ∧ v.toInt ≤ b.toInt) = x ∧ w = w') := by
  refine CT.of [some (.long v), none, some (.long a), none, some (.long b), none] rfl (Nat.le_of_ble_eq_true rfl) rfl ?_
  refine r_lload_n 1 dX7_in_0 rfl rfl ?_
  refine r_lload_n 2 dX7_in_1 rfl rfl ?_
  refine r_lcmp 3 dX7_in_2 rfl ?_
  refine r_if_lt 17 6 dX7_in_3 (by decide) rfl (fun h3 => ?_) (fun h3 => ?_)
  · refine r_iconst 18 (v := 0) dX7_in_17 (by decide) rfl ?_
    exact r_iret .boolean dX7_in_18 rfl (rfl) (⟨by simp only [cmp_lt, cmp_gt] at *; first | exact z_bp (by omega) | exact z_bn (by omega), rfl⟩)
  · refine r_lload_n 7 dX7_in_6 rfl rfl ?_
    refine r_lload 9 dX7_in_7 rfl rfl ?_
    refine r_lcmp 10 dX7_in_9 rfl ?_
    refine r_if_gt 17 13 dX7_in_10 (by decide) rfl (fun h10 => ?_) (fun h10 => ?_)
    · refine r_iconst 18 (v := 0) dX7_in_17 (by decide) rfl ?_
      exact r_iret .boolean dX7_in_18 rfl (rfl) (⟨by simp only [cmp_lt, cmp_gt] at *; first | exact z_bp (by omega) | exact z_bn (by omega), rfl⟩)
    · refine r_iconst 14 (v := 1) dX7_in_13 (by decide) rfl ?_
      refine r_goto 18 dX7_in_14 (by decide) ?_
      exact r_iret .boolean dX7_in_18 rfl (rfl) (⟨by simp only [cmp_lt, cmp_gt] at *; first | exact z_bp (by omega) | exact z_bn (by omega), rfl⟩)
set_option maxRecDepth 20000 in
set_option maxHeartbeats 4000000 in
theorem m_flag {d : Nat} {w : zW} (p : Prop) [Decidable p] : CT mX7_flag d [.int (z_b p)] w (z_i fun x w' => z_b p = x ∧ w = w') := by
  refine CT.of [some (.int (z_b p))] rfl (Nat.le_of_ble_eq_true rfl) rfl ?_
  refine r_iload_n 1 dX7_flag_0 rfl rfl ?_
  refine rb_eq 8 4 dX7_flag_1 (by decide) rfl (fun h1 => ?_) (fun h1 => ?_)
  · refine r_iconst 9 (v := 0) dX7_flag_8 (by decide) rfl ?_
    exact r_iret .int dX7_flag_9 rfl (rfl) (⟨by first | exact z_bp ‹_› | exact z_bn ‹_›, rfl⟩)
  · refine r_iconst 5 (v := 1) dX7_flag_4 (by decide) rfl ?_
    refine r_goto 9 dX7_flag_5 (by decide) ?_
    exact r_iret .int dX7_flag_9 rfl (rfl) (⟨by first | exact z_bp ‹_› | exact z_bn ‹_›, rfl⟩)
set_option maxRecDepth 20000 in
set_option maxHeartbeats 4000000 in
theorem m_of {d i j : Nat} {w : zW} (hi : i < 6) (hj : j < 6) : CT mX7_of d [.ref 50, .int (nI i), .int (nI j)] w (z_i fun x w' => w 52 (6 + 6 * i + j) = x ∧ w = w') := by
  refine CT.of [some (.ref 50), some (.int (nI i)), some (.int (nI j))] rfl (Nat.le_of_ble_eq_true rfl) rfl ?_
  refine r_aload_n 1 dX7_of_0 rfl rfl ?_
  refine r_getr 4 dX7_of_1 fz_X7_13 sh_50 rfl rfl ?_
  refine r_bipush 6 (v := 6) dX7_of_4 (by decide) rfl ?_
  refine r_bipush 8 (v := 6) dX7_of_6 (by decide) rfl ?_
  refine r_iload_n 9 dX7_of_8 rfl rfl ?_
  refine r_imul 10 dX7_of_9 rfl ?_
  refine r_iadd 11 dX7_of_10 rfl ?_
  refine r_iload_n 12 dX7_of_11 rfl rfl ?_
  refine r_iadd 13 dX7_of_12 rfl ?_
  refine rj_iald 14 (6 + 6 * i + j) dX7_of_13 sh_52 (by rw [← nI_add, ← nI_add, ← nI_mul]; rfl) (by omega) (by decide) rfl ?_
  exact r_iret .int dX7_of_14 rfl (rfl) (⟨rfl, rfl⟩)
set_option maxRecDepth 20000 in
set_option maxHeartbeats 4000000 in
theorem m_becomesOf {d i j : Nat} {w : zW} {v : Int32} (hi : i < 6) (hj : j < 6) : CT mX7_becomesOf d [.ref 50, .int (nI i), .int (nI j), .int v] w (z_v fun w' => z_up w 52 (6 + 6 * i + j) v = w') := by
  refine CT.of [some (.ref 50), some (.int (nI i)), some (.int (nI j)), some (.int v)] rfl (Nat.le_of_ble_eq_true rfl) rfl ?_
  refine r_aload_n 1 dX7_becomesOf_0 rfl rfl ?_
  refine r_getr 4 dX7_becomesOf_1 fz_X7_13 sh_50 rfl rfl ?_
  refine r_bipush 6 (v := 6) dX7_becomesOf_4 (by decide) rfl ?_
  refine r_bipush 8 (v := 6) dX7_becomesOf_6 (by decide) rfl ?_
  refine r_iload_n 9 dX7_becomesOf_8 rfl rfl ?_
  refine r_imul 10 dX7_becomesOf_9 rfl ?_
  refine r_iadd 11 dX7_becomesOf_10 rfl ?_
  refine r_iload_n 12 dX7_becomesOf_11 rfl rfl ?_
  refine r_iadd 13 dX7_becomesOf_12 rfl ?_
  refine r_iload_n 14 dX7_becomesOf_13 rfl rfl ?_
  refine rj_iast 15 (6 + 6 * i + j) dX7_becomesOf_14 sh_52 (by rw [← nI_add, ← nI_add, ← nI_mul]; rfl) (by omega) (by decide) rfl ?_
  exact r_vret dX7_becomesOf_15 rfl (rfl)
set_option maxRecDepth 20000 in
set_option maxHeartbeats 4000000 in
theorem m_becomes {d i : Nat} {w : zW} {v : Int32} (hi : i < 165) : CT mX7_becomes d [.ref 50, .int (nI i), .int v] w (z_i fun x w' => w 51 i = x ∧ z_up w 51 i v = w') := by
  refine CT.of [some (.ref 50), some (.int (nI i)), some (.int v), none] rfl (Nat.le_of_ble_eq_true rfl) rfl ?_
  refine r_aload_n 1 dX7_becomes_0 rfl rfl ?_
  refine r_getr 4 dX7_becomes_1 fz_X7_7 sh_50 rfl rfl ?_
  refine r_iload_n 5 dX7_becomes_4 rfl rfl ?_
  refine rj_iald 6 (i) dX7_becomes_5 sh_51 (rfl) (hi) (by decide) rfl ?_
  refine r_istore_n 7 (L' := [_, _, _, _]) dX7_becomes_6 (by decide) rfl rfl rfl ?_
  refine r_aload_n 8 dX7_becomes_7 rfl rfl ?_
  refine r_getr 11 dX7_becomes_8 fz_X7_7 sh_50 rfl rfl ?_
  refine r_iload_n 12 dX7_becomes_11 rfl rfl ?_
  refine r_iload_n 13 dX7_becomes_12 rfl rfl ?_
  refine rj_iast 14 (i) dX7_becomes_13 sh_51 (rfl) (hi) (by decide) rfl ?_
  refine r_iload_n 15 dX7_becomes_14 rfl rfl ?_
  exact r_iret .int dX7_becomes_15 rfl (rfl) (⟨rfl, rfl⟩)

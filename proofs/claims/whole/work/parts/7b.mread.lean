/-! ===== the reference: what is read ===== -/
theorem m_needsZ {d : Nat} {w : zW} {c : Int32} (h : w 50 15 = 0) : CT mX7_needs d [.ref 50, .int 0, .int c] w (z_v fun w' => z_up (z_up w 50 15 c) 50 16 (w 50 12) = w') := by
  have h1 := m_needs (d := d) (p := False) (c := c) h
  rw [z_bn (fun z => z), if_neg (fun z => z)] at h1
  exact h1
theorem m_needsO {d : Nat} {w : zW} {c : Int32} (h : w 50 15 = 0) : CT mX7_needs d [.ref 50, .int 1, .int c] w (z_v fun w' => w = w') := by
  have h1 := m_needs (d := d) (p := True) (c := c) h
  rw [z_bp trivial, if_pos trivial] at h1
  exact h1
theorem sN_i {k c : Nat} (hk : k ≤ 4) (h4 : k ≠ 4) (hc : c < 3) : nI (sN k) = nI (c + 1) ↔ k = c := by
  have h : ∀ k, k < 4 → ∀ c, c < 3 → (nI (sN k) = nI (c + 1) ↔ k = c) := by decide +kernel
  exact h k (by omega) c hc
theorem bl_n {k : tkT} {y : Nat} (h : tk_k k ≠ 4) : bl k y = (y, tk_s k) := by rw [bl, if_neg h]
theorem bl_4 {k : tkT} {y : Nat} (h : tk_k k = 4) : bl k y = (1, tk_s k) := by rw [bl, if_pos h]
theorem fF_up {w : zW} {k : tkT} {y : Nat} (h12 : w 50 12 = nI (tk_s k)) (h : tk_k k ≠ 4) : fF (z_up (z_up w 50 15 (nI y)) 50 16 (w 50 12)) (bl k y) := by
  rw [bl_n h]
  exact ⟨by rw [z_up_i (by decide), z_up_s], by rw [z_up_s]; exact h12⟩
set_option maxRecDepth 20000 in
set_option maxHeartbeats 4000000 in
theorem m_needsX {d : Nat} {w : zW} {x c : Int32} (h : ¬ w 50 15 = 0) : CT mX7_needs d [.ref 50, .int x, .int c] w (z_v fun w' => w = w') := by
  refine CT.of [some (.ref 50), some (.int x), some (.int c)] rfl (Nat.le_of_ble_eq_true rfl) rfl ?_
  refine r_iload_n 1 dX7_needs_0 rfl rfl ?_
  refine r_if_ne 24 4 dX7_needs_1 (by decide) rfl (fun g1 => ?_) (fun g1 => ?_)
  · exact r_vret dX7_needs_24 rfl (rfl)
  · refine r_aload_n 5 dX7_needs_4 rfl rfl ?_
    refine r_geti 8 dX7_needs_5 fz_X7_81 sh_50 rfl rfl ?_
    refine r_if_ne 24 11 dX7_needs_8 (by decide) rfl (fun _ => ?_) (fun z => absurd z (h))
    exact r_vret dX7_needs_24 rfl (rfl)
set_option maxRecDepth 20000 in
set_option maxHeartbeats 4000000 in
theorem m_looked {d lo hi : Nat} {k : tkT} {w : zW} (hd : 1 ≤ d) (hlo : lo < 1000) (hhi : hi < 1000) (hk : mT w k) (hk4 : tk_k k ≤ 4) (hn : tk_n k < 10000) : CT mX7_looked d [.ref 50, .int (nI lo), .int (nI hi)] w (z_i fun x w' => frL w w' ∧ w' 50 11 = w 50 11 ∧ (if tk_k k = 1 ∧ lo ≤ tk_n k ∧ tk_n k ≤ hi then nI (tk_n k) = x ∧ w = w' else fF w' (bl k (if tk_k k = 1 then 3 else 2)))) := by
  refine CT.of [some (.ref 50), some (.int (nI lo)), some (.int (nI hi))] rfl (Nat.le_of_ble_eq_true rfl) rfl ?_
  obtain ⟨h12, hf, ho⟩ := hk
  by_cases h4 : tk_k k = 4
  · refine r_aload_n 1 dX7_looked_0 rfl rfl ?_
    refine r_geti 4 dX7_looked_1 fz_X7_81 sh_50 rfl rfl ?_
    refine r_eq ((hf h4).1) ?_
    refine r_if_ne 25 7 dX7_looked_4 (by decide) rfl (fun _ => ?_) (fun z => absurd z (by decide))
    refine r_aload_n 26 dX7_looked_25 rfl rfl ?_
    refine r_geti 29 dX7_looked_26 fz_X7_81 sh_50 rfl rfl ?_
    refine r_eq ((hf h4).1) ?_
    refine r_if_ne 49 32 dX7_looked_29 (by decide) rfl (fun _ => ?_) (fun z => absurd z (by decide))
    refine r_aload_n 50 dX7_looked_49 rfl rfl ?_
    refine r_geti 53 dX7_looked_50 fz_X7_81 sh_50 rfl rfl ?_
    refine r_eq ((hf h4).1) ?_
    refine r_if_ne 63 56 dX7_looked_53 (by decide) rfl (fun _ => ?_) (fun z => absurd z (by decide))
    refine r_iconst 64 (v := 0) dX7_looked_63 (by decide) rfl ?_
    exact r_iret .int dX7_looked_64 rfl (rfl) (⟨frL.rfl, rfl, by rw [if_neg (fun z => by omega), bl_4 h4]; exact hf h4⟩)
  obtain ⟨h15, h13, h11, hv⟩ := ho h4
  by_cases h1 : tk_k k = 1
  · by_cases c : lo ≤ tk_n k ∧ tk_n k ≤ hi
    · refine r_aload_n 1 dX7_looked_0 rfl rfl ?_
      refine r_geti 4 dX7_looked_1 fz_X7_81 sh_50 rfl rfl ?_
      refine r_eq (h15) ?_
      refine r_if_ne 25 7 dX7_looked_4 (by decide) rfl (fun z => absurd (rfl) z) (fun _ => ?_)
      refine r_aload_n 8 dX7_looked_7 rfl rfl ?_
      refine r_aload_n 9 dX7_looked_8 rfl rfl ?_
      refine r_geti 12 dX7_looked_9 fz_X7_105 sh_50 rfl rfl ?_
      refine r_eq (h13) ?_
      refine r_iconst 13 (v := 2) dX7_looked_12 (by decide) rfl ?_
      refine rt_icmp_ne (a := 1) (b := 0) (j := 21) 20 16 dX7_looked_13 (by decide) rfl (fun k => r_iconst 21 dX7_looked_20 (by decide) rfl k) (fun k => r_iconst 17 dX7_looked_16 (by decide) rfl (r_goto 21 dX7_looked_17 (by decide) k)) ?_
      refine r_eq (z := z_b (tk_k k = 1)) (by by_cases c : tk_k k = 1; (rw [z_bp c, if_pos (show nI (sN (tk_k k)) = 2 from (sN_i (c := 1) hk4 h4 (by decide)).mpr c)]); (rw [z_bn c, if_neg (show ¬ nI (sN (tk_k k)) = 2 from fun z => c ((sN_i (c := 1) hk4 h4 (by decide)).mp z))])) ?_
      refine r_iconst 22 (v := 2) dX7_looked_21 (by decide) rfl ?_
      refine r_callV (y2 := mX7_needs) (as := [_, _]) 25 dX7_looked_22 ml_X7_119 mv_X7_needs (m_needs (d := d - 1) h15) (by omega) sh_50 ⟨_, rfl, rfl⟩ rfl (Nat.le_of_ble_eq_true rfl) rfl (kk_v ?_)
      rintro w1 e1
      rw [if_pos h1] at e1
      subst e1
      refine r_aload_n 26 dX7_looked_25 rfl rfl ?_
      refine r_geti 29 dX7_looked_26 fz_X7_81 sh_50 rfl rfl ?_
      refine r_eq (h15) ?_
      refine r_if_ne 49 32 dX7_looked_29 (by decide) rfl (fun z => absurd (rfl) z) (fun _ => ?_)
      refine r_aload_n 33 dX7_looked_32 rfl rfl ?_
      refine r_aload_n 34 dX7_looked_33 rfl rfl ?_
      refine r_geti 37 dX7_looked_34 fz_X7_116 sh_50 rfl rfl ?_
      refine r_eq (hv h1) ?_
      refine r_i2l 38 dX7_looked_37 rfl ?_
      refine r_iload_n 39 dX7_looked_38 rfl rfl ?_
      refine r_i2l 40 dX7_looked_39 rfl ?_
      refine r_iload_n 41 dX7_looked_40 rfl rfl ?_
      refine r_i2l 42 dX7_looked_41 rfl ?_
      refine r_callS (y2 := mX7_in) (as := [_, _, _]) 45 dX7_looked_42 ml_X7_74 ms_X7_in (m_in (d := d - 1) _ _ _) (by omega) rfl (Nat.le_of_ble_eq_true rfl) rfl (kk_i ?_)
      rintro _ _ ⟨rfl, rfl⟩
      refine r_eq (z := z_b (lo ≤ tk_n k ∧ tk_n k ≤ hi)) (z_bc (by rw [tl_i, tl_i, tl_i, ti_n (by omega), ti_n (by omega), ti_n (by omega)]; omega)) ?_
      refine r_iconst 46 (v := 3) dX7_looked_45 (by decide) rfl ?_
      refine r_callV (y2 := mX7_needs) (as := [_, _]) 49 dX7_looked_46 ml_X7_119 mv_X7_needs (m_needs (d := d - 1) h15) (by omega) sh_50 ⟨_, rfl, rfl⟩ rfl (Nat.le_of_ble_eq_true rfl) rfl (kk_v ?_)
      rintro w2 e2
      rw [if_pos c] at e2
      subst e2
      refine r_aload_n 50 dX7_looked_49 rfl rfl ?_
      refine r_geti 53 dX7_looked_50 fz_X7_81 sh_50 rfl rfl ?_
      refine r_eq (h15) ?_
      refine r_if_ne 63 56 dX7_looked_53 (by decide) rfl (fun z => absurd (rfl) z) (fun _ => ?_)
      refine r_aload_n 57 dX7_looked_56 rfl rfl ?_
      refine r_geti 60 dX7_looked_57 fz_X7_116 sh_50 rfl rfl ?_
      refine r_eq (hv h1) ?_
      refine r_goto 64 dX7_looked_60 (by decide) ?_
      exact r_iret .int dX7_looked_64 rfl (rfl) (⟨frL.rfl, rfl, by rw [if_pos ⟨h1, c⟩]; exact ⟨rfl, rfl⟩⟩)
    · refine r_aload_n 1 dX7_looked_0 rfl rfl ?_
      refine r_geti 4 dX7_looked_1 fz_X7_81 sh_50 rfl rfl ?_
      refine r_eq (h15) ?_
      refine r_if_ne 25 7 dX7_looked_4 (by decide) rfl (fun z => absurd (rfl) z) (fun _ => ?_)
      refine r_aload_n 8 dX7_looked_7 rfl rfl ?_
      refine r_aload_n 9 dX7_looked_8 rfl rfl ?_
      refine r_geti 12 dX7_looked_9 fz_X7_105 sh_50 rfl rfl ?_
      refine r_eq (h13) ?_
      refine r_iconst 13 (v := 2) dX7_looked_12 (by decide) rfl ?_
      refine rt_icmp_ne (a := 1) (b := 0) (j := 21) 20 16 dX7_looked_13 (by decide) rfl (fun k => r_iconst 21 dX7_looked_20 (by decide) rfl k) (fun k => r_iconst 17 dX7_looked_16 (by decide) rfl (r_goto 21 dX7_looked_17 (by decide) k)) ?_
      refine r_eq (z := z_b (tk_k k = 1)) (by by_cases c : tk_k k = 1; (rw [z_bp c, if_pos (show nI (sN (tk_k k)) = 2 from (sN_i (c := 1) hk4 h4 (by decide)).mpr c)]); (rw [z_bn c, if_neg (show ¬ nI (sN (tk_k k)) = 2 from fun z => c ((sN_i (c := 1) hk4 h4 (by decide)).mp z))])) ?_
      refine r_iconst 22 (v := 2) dX7_looked_21 (by decide) rfl ?_
      refine r_callV (y2 := mX7_needs) (as := [_, _]) 25 dX7_looked_22 ml_X7_119 mv_X7_needs (m_needs (d := d - 1) h15) (by omega) sh_50 ⟨_, rfl, rfl⟩ rfl (Nat.le_of_ble_eq_true rfl) rfl (kk_v ?_)
      rintro w1 e1
      rw [if_pos h1] at e1
      subst e1
      refine r_aload_n 26 dX7_looked_25 rfl rfl ?_
      refine r_geti 29 dX7_looked_26 fz_X7_81 sh_50 rfl rfl ?_
      refine r_eq (h15) ?_
      refine r_if_ne 49 32 dX7_looked_29 (by decide) rfl (fun z => absurd (rfl) z) (fun _ => ?_)
      refine r_aload_n 33 dX7_looked_32 rfl rfl ?_
      refine r_aload_n 34 dX7_looked_33 rfl rfl ?_
      refine r_geti 37 dX7_looked_34 fz_X7_116 sh_50 rfl rfl ?_
      refine r_eq (hv h1) ?_
      refine r_i2l 38 dX7_looked_37 rfl ?_
      refine r_iload_n 39 dX7_looked_38 rfl rfl ?_
      refine r_i2l 40 dX7_looked_39 rfl ?_
      refine r_iload_n 41 dX7_looked_40 rfl rfl ?_
      refine r_i2l 42 dX7_looked_41 rfl ?_
      refine r_callS (y2 := mX7_in) (as := [_, _, _]) 45 dX7_looked_42 ml_X7_74 ms_X7_in (m_in (d := d - 1) _ _ _) (by omega) rfl (Nat.le_of_ble_eq_true rfl) rfl (kk_i ?_)
      rintro _ _ ⟨rfl, rfl⟩
      refine r_eq (z := z_b (lo ≤ tk_n k ∧ tk_n k ≤ hi)) (z_bc (by rw [tl_i, tl_i, tl_i, ti_n (by omega), ti_n (by omega), ti_n (by omega)]; omega)) ?_
      refine r_iconst 46 (v := 3) dX7_looked_45 (by decide) rfl ?_
      refine r_callV (y2 := mX7_needs) (as := [_, _]) 49 dX7_looked_46 ml_X7_119 mv_X7_needs (m_needs (d := d - 1) h15) (by omega) sh_50 ⟨_, rfl, rfl⟩ rfl (Nat.le_of_ble_eq_true rfl) rfl (kk_v ?_)
      rintro w2 e2
      rw [if_neg c] at e2
      refine r_aload_n 50 dX7_looked_49 rfl rfl ?_
      refine r_geti 53 dX7_looked_50 fz_X7_81 sh_50 rfl rfl ?_
      refine r_eq (z := 3) (by rw [← e2, z_up_i (by decide), z_up_s]) ?_
      refine r_if_ne 63 56 dX7_looked_53 (by decide) rfl (fun _ => ?_) (fun z => absurd z (by decide))
      refine r_iconst 64 (v := 0) dX7_looked_63 (by decide) rfl ?_
      exact r_iret .int dX7_looked_64 rfl (rfl) (⟨by rw [← e2]; exact (frL.rfl.up (by decide)).up (by decide), by rw [← e2, z_up_i (by decide), z_up_i (by decide)], by rw [if_neg (fun z => c z.2), if_pos h1, ← e2]; exact fF_up (y := 3) h12 h4⟩)
  · refine r_aload_n 1 dX7_looked_0 rfl rfl ?_
    refine r_geti 4 dX7_looked_1 fz_X7_81 sh_50 rfl rfl ?_
    refine r_eq (h15) ?_
    refine r_if_ne 25 7 dX7_looked_4 (by decide) rfl (fun z => absurd (rfl) z) (fun _ => ?_)
    refine r_aload_n 8 dX7_looked_7 rfl rfl ?_
    refine r_aload_n 9 dX7_looked_8 rfl rfl ?_
    refine r_geti 12 dX7_looked_9 fz_X7_105 sh_50 rfl rfl ?_
    refine r_eq (h13) ?_
    refine r_iconst 13 (v := 2) dX7_looked_12 (by decide) rfl ?_
    refine rt_icmp_ne (a := 1) (b := 0) (j := 21) 20 16 dX7_looked_13 (by decide) rfl (fun k => r_iconst 21 dX7_looked_20 (by decide) rfl k) (fun k => r_iconst 17 dX7_looked_16 (by decide) rfl (r_goto 21 dX7_looked_17 (by decide) k)) ?_
    refine r_eq (z := z_b (tk_k k = 1)) (by by_cases c : tk_k k = 1; (rw [z_bp c, if_pos (show nI (sN (tk_k k)) = 2 from (sN_i (c := 1) hk4 h4 (by decide)).mpr c)]); (rw [z_bn c, if_neg (show ¬ nI (sN (tk_k k)) = 2 from fun z => c ((sN_i (c := 1) hk4 h4 (by decide)).mp z))])) ?_
    refine r_iconst 22 (v := 2) dX7_looked_21 (by decide) rfl ?_
    refine r_callV (y2 := mX7_needs) (as := [_, _]) 25 dX7_looked_22 ml_X7_119 mv_X7_needs (m_needs (d := d - 1) h15) (by omega) sh_50 ⟨_, rfl, rfl⟩ rfl (Nat.le_of_ble_eq_true rfl) rfl (kk_v ?_)
    rintro w1 e1
    rw [if_neg h1] at e1
    have f1 : w1 50 15 = 2 := by rw [← e1, z_up_i (by decide), z_up_s]
    refine r_aload_n 26 dX7_looked_25 rfl rfl ?_
    refine r_geti 29 dX7_looked_26 fz_X7_81 sh_50 rfl rfl ?_
    refine r_eq (f1) ?_
    refine r_if_ne 49 32 dX7_looked_29 (by decide) rfl (fun _ => ?_) (fun z => absurd z (by decide))
    refine r_aload_n 50 dX7_looked_49 rfl rfl ?_
    refine r_geti 53 dX7_looked_50 fz_X7_81 sh_50 rfl rfl ?_
    refine r_eq (f1) ?_
    refine r_if_ne 63 56 dX7_looked_53 (by decide) rfl (fun _ => ?_) (fun z => absurd z (by decide))
    refine r_iconst 64 (v := 0) dX7_looked_63 (by decide) rfl ?_
    exact r_iret .int dX7_looked_64 rfl (rfl) (⟨by rw [← e1]; exact (frL.rfl.up (by decide)).up (by decide), by rw [← e1, z_up_i (by decide), z_up_i (by decide)], by rw [if_neg (fun z => h1 z.1), if_neg h1, ← e1]; exact fF_up (y := 2) h12 h4⟩)
set_option maxRecDepth 20000 in
set_option maxHeartbeats 4000000 in
theorem m_lookedF {d e : Nat} {w : zW} {x y : Int32} (he : 1 ≤ e ∧ e ≤ 6) (h15 : w 50 15 = nI e) : CT mX7_looked d [.ref 50, .int x, .int y] w (z_i fun _ w' => w = w') := by
  have hne : ¬ nI e = 0 := fun z => by have := (nI_inj (b := 0) (by omega) (by decide)).mp z; omega
  refine CT.of [some (.ref 50), some (.int x), some (.int y)] rfl (Nat.le_of_ble_eq_true rfl) rfl ?_
  refine r_aload_n 1 dX7_looked_0 rfl rfl ?_
  refine r_geti 4 dX7_looked_1 fz_X7_81 sh_50 rfl rfl ?_
  refine r_eq (h15) ?_
  refine r_if_ne 25 7 dX7_looked_4 (by decide) rfl (fun _ => ?_) (fun z => absurd z (hne))
  refine r_aload_n 26 dX7_looked_25 rfl rfl ?_
  refine r_geti 29 dX7_looked_26 fz_X7_81 sh_50 rfl rfl ?_
  refine r_eq (h15) ?_
  refine r_if_ne 49 32 dX7_looked_29 (by decide) rfl (fun _ => ?_) (fun z => absurd z (hne))
  refine r_aload_n 50 dX7_looked_49 rfl rfl ?_
  refine r_geti 53 dX7_looked_50 fz_X7_81 sh_50 rfl rfl ?_
  refine r_eq (h15) ?_
  refine r_if_ne 63 56 dX7_looked_53 (by decide) rfl (fun _ => ?_) (fun z => absurd z (hne))
  refine r_iconst 64 (v := 0) dX7_looked_63 (by decide) rfl ?_
  exact r_iret .int dX7_looked_64 rfl (rfl) (rfl)
theorem tok_nL {w : zW} {T p : Nat} {t : Nat → Nat} (hT : tpL w T t) : tk_n (tok T t p) < 10000 := tok_n (fun i => by by_cases q : i < T; exact Or.inl (hT.2.2 i q).2; exact Or.inr (by omega))
theorem bl_16 {k : tkT} {y : Nat} (h : 1 ≤ y ∧ y ≤ 6) : 1 ≤ (bl k y).1 ∧ (bl k y).1 ≤ 6 := bl_b h
set_option maxRecDepth 20000 in
set_option maxHeartbeats 4000000 in
theorem m_readNumber {d T p lo hi : Nat} {t : Nat → Nat} {w : zW} (hd : 3 ≤ d) (hlo : lo < 1000) (hhi : hi < 1000) (hT : tpL w T t) (hp : p ≤ T) (hk : mT w (tok T t p)) : CT mX7_readNumber d [.ref 50, .int (nI lo), .int (nI hi)] w (z_i fun x w' => frL w w' ∧ match pNum T t p lo hi with | .inl e => fF w' e | .inr v => nI v.1 = x ∧ mT w' (tok T t v.2)) := by
  refine CT.of [some (.ref 50), some (.int (nI lo)), some (.int (nI hi)), none] rfl (Nat.le_of_ble_eq_true rfl) rfl ?_
  refine r_aload_n 1 dX7_readNumber_0 rfl rfl ?_
  refine r_iload_n 2 dX7_readNumber_1 rfl rfl ?_
  refine r_iload_n 3 dX7_readNumber_2 rfl rfl ?_
  refine r_callV (y2 := mX7_looked) (as := [_, _]) 6 dX7_readNumber_3 ml_X7_123 mv_X7_looked (m_looked (d := d - 1) (by omega) hlo hhi hk tok_k4 (tok_nL hT)) (by omega) sh_50 ⟨_, rfl, rfl⟩ rfl (Nat.le_of_ble_eq_true rfl) rfl (kk_i ?_)
  rintro x w1 ⟨hf, h11, hr⟩
  have hta := tok_T (t := t) hp
  by_cases c : tk_k (tok T t p) = 1 ∧ lo ≤ tk_n (tok T t p) ∧ tk_n (tok T t p) ≤ hi
  rotate_left
  · rw [if_neg c] at hr
    refine r_istore_n 7 (L' := [_, _, _, _]) dX7_readNumber_6 (by decide) rfl rfl rfl ?_
    refine r_aload_n 8 dX7_readNumber_7 rfl rfl ?_
    refine r_callV (y2 := mX7_next) (as := []) 11 dX7_readNumber_8 ml_X7_127 mv_X7_next (m_nextF (d := d - 1) (e := (bl (tok T t p) (if tk_k (tok T t p) = 1 then 3 else 2)).1) (bl_16 (by split <;> decide)) hr.1) (by omega) sh_50 ⟨_, rfl, rfl⟩ rfl (Nat.le_of_ble_eq_true rfl) rfl (kk_v ?_)
    rintro _ rfl
    refine r_iload_n 12 dX7_readNumber_11 rfl rfl ?_
    exact r_iret .int dX7_readNumber_12 rfl (rfl) (⟨hf, by rw [show pNum T t p lo hi = .inl (bl (tok T t p) (if tk_k (tok T t p) = 1 then 3 else 2)) by { unfold pNum; by_cases h1 : tk_k (tok T t p) = 1; (rw [if_pos h1, if_neg (fun z => c ⟨h1, z⟩), if_pos h1]); (rw [if_neg h1, if_neg h1]) }]; exact hr⟩)
  rw [if_pos c] at hr
  obtain ⟨rfl, rfl⟩ := hr
  have ho := hk.2.2 (by omega)
  refine r_istore_n 7 (L' := [_, _, _, _]) dX7_readNumber_6 (by decide) rfl rfl rfl ?_
  refine r_aload_n 8 dX7_readNumber_7 rfl rfl ?_
  refine r_callV (y2 := mX7_next) (as := []) 11 dX7_readNumber_8 ml_X7_127 mv_X7_next (m_next (d := d - 1) (by omega) hT hta.1 ho.1 ho.2.2.1) (by omega) sh_50 ⟨_, rfl, rfl⟩ rfl (Nat.le_of_ble_eq_true rfl) rfl (kk_v ?_)
  rintro w2 ⟨hk2, hf2⟩
  refine r_iload_n 12 dX7_readNumber_11 rfl rfl ?_
  exact r_iret .int dX7_readNumber_12 rfl (rfl) (⟨hf2, by rw [show pNum T t p lo hi = .inr (tk_n (tok T t p), tk_a (tok T t p)) by { unfold pNum; rw [if_pos c.1, if_pos c.2] }]; exact ⟨rfl, hk2⟩⟩)
set_option maxRecDepth 20000 in
set_option maxHeartbeats 4000000 in
theorem m_readNumF {d e : Nat} {w : zW} {x y : Int32} (hd : 1 ≤ d) (he : 1 ≤ e ∧ e ≤ 6) (h15 : w 50 15 = nI e) : CT mX7_readNumber d [.ref 50, .int x, .int y] w (z_i fun _ w' => w = w') := by
  refine CT.of [some (.ref 50), some (.int x), some (.int y), none] rfl (Nat.le_of_ble_eq_true rfl) rfl ?_
  refine r_aload_n 1 dX7_readNumber_0 rfl rfl ?_
  refine r_iload_n 2 dX7_readNumber_1 rfl rfl ?_
  refine r_iload_n 3 dX7_readNumber_2 rfl rfl ?_
  refine r_callV (y2 := mX7_looked) (as := [_, _]) 6 dX7_readNumber_3 ml_X7_123 mv_X7_looked (m_lookedF (d := d - 1) he h15) (by omega) sh_50 ⟨_, rfl, rfl⟩ rfl (Nat.le_of_ble_eq_true rfl) rfl (kk_i ?_)
  rintro v _ rfl
  refine r_istore_n 7 (L' := [_, _, _, _]) dX7_readNumber_6 (by decide) rfl rfl rfl ?_
  refine r_aload_n 8 dX7_readNumber_7 rfl rfl ?_
  refine r_callV (y2 := mX7_next) (as := []) 11 dX7_readNumber_8 ml_X7_127 mv_X7_next (m_nextF (d := d - 1) he h15) (by omega) sh_50 ⟨_, rfl, rfl⟩ rfl (Nat.le_of_ble_eq_true rfl) rfl (kk_v ?_)
  rintro _ rfl
  refine r_iload_n 12 dX7_readNumber_11 rfl rfl ?_
  exact r_iret .int dX7_readNumber_12 rfl (rfl) (rfl)
set_option maxRecDepth 20000 in
set_option maxHeartbeats 4000000 in
theorem m_readName {d T p : Nat} {t : Nat → Nat} {w : zW} {x : Int32} (hd : 3 ≤ d) (hT : tpL w T t) (hp : p ≤ T) (hk : mT w (tok T t p)) (h4 : tk_k (tok T t p) ≠ 4) : CT mX7_readName d [.ref 50, .int x] w (z_i fun y w' => frL w w' ∧ (if tk_k (tok T t p) = 0 ∧ ¬ x = -4 then x = y ∧ mT w' (tok T t (tk_a (tok T t p))) else fF w' (bl (tok T t p) 2))) := by
  refine CT.of [some (.ref 50), some (.int x), none] rfl (Nat.le_of_ble_eq_true rfl) rfl ?_
  have h12 := hk.1
  obtain ⟨h15, h13, h11, hv⟩ := hk.2.2 h4
  have hta := tok_T (t := t) hp
  by_cases h0 : tk_k (tok T t p) = 0
  · by_cases hx : x = -4
    · refine r_aload_n 1 dX7_readName_0 rfl rfl ?_
      refine r_geti 4 dX7_readName_1 fz_X7_105 sh_50 rfl rfl ?_
      refine r_eq (h13) ?_
      refine r_iconst 5 (v := 1) dX7_readName_4 (by decide) rfl ?_
      refine r_icmp_ne 12 8 dX7_readName_5 (by decide) rfl (fun z => absurd ((sN_i (c := 0) tok_k4 h4 (by decide)).mpr h0) z) (fun _ => ?_)
      refine r_iload_n 9 dX7_readName_8 rfl rfl ?_
      refine r_goto 14 dX7_readName_9 (by decide) ?_
      refine r_istore_n 15 (L' := [_, _, _]) dX7_readName_14 (by decide) rfl rfl rfl ?_
      refine r_aload_n 16 dX7_readName_15 rfl rfl ?_
      refine r_iload_n 17 dX7_readName_16 rfl rfl ?_
      refine r_bipush 19 (v := -4) dX7_readName_17 (by decide) rfl ?_
      refine rt_icmp_eq (a := 1) (b := 0) (j := 27) 26 22 dX7_readName_19 (by decide) rfl (fun k => r_iconst 27 dX7_readName_26 (by decide) rfl k) (fun k => r_iconst 23 dX7_readName_22 (by decide) rfl (r_goto 27 dX7_readName_23 (by decide) k)) ?_
      refine r_eq (z := z_b (¬ x = -4)) (by by_cases c : x = -4; (rw [z_bn (fun z => z c), if_pos c]); (rw [z_bp c, if_neg c])) ?_
      refine r_iconst 28 (v := 2) dX7_readName_27 (by decide) rfl ?_
      refine r_callV (y2 := mX7_needs) (as := [_, _]) 31 dX7_readName_28 ml_X7_119 mv_X7_needs (m_needs (d := d - 1) h15) (by omega) sh_50 ⟨_, rfl, rfl⟩ rfl (Nat.le_of_ble_eq_true rfl) rfl (kk_v ?_)
      rintro w1 e1
      rw [if_neg (fun z => z hx)] at e1
      have f1 : w1 50 15 = nI 2 := by rw [← e1, z_up_i (by decide), z_up_s]; rfl
      refine r_aload_n 32 dX7_readName_31 rfl rfl ?_
      refine r_callV (y2 := mX7_next) (as := []) 35 dX7_readName_32 ml_X7_127 mv_X7_next (m_nextF (d := d - 1) (e := 2) (by decide) f1) (by omega) sh_50 ⟨_, rfl, rfl⟩ rfl (Nat.le_of_ble_eq_true rfl) rfl (kk_v ?_)
      rintro _ rfl
      refine r_iload_n 36 dX7_readName_35 rfl rfl ?_
      exact r_iret .int dX7_readName_36 rfl (rfl) (⟨by rw [← e1]; exact (frL.rfl.up (by decide)).up (by decide), by rw [if_neg (fun z => z.2 hx), ← e1]; exact fF_up (y := 2) h12 h4⟩)
    · refine r_aload_n 1 dX7_readName_0 rfl rfl ?_
      refine r_geti 4 dX7_readName_1 fz_X7_105 sh_50 rfl rfl ?_
      refine r_eq (h13) ?_
      refine r_iconst 5 (v := 1) dX7_readName_4 (by decide) rfl ?_
      refine r_icmp_ne 12 8 dX7_readName_5 (by decide) rfl (fun z => absurd ((sN_i (c := 0) tok_k4 h4 (by decide)).mpr h0) z) (fun _ => ?_)
      refine r_iload_n 9 dX7_readName_8 rfl rfl ?_
      refine r_goto 14 dX7_readName_9 (by decide) ?_
      refine r_istore_n 15 (L' := [_, _, _]) dX7_readName_14 (by decide) rfl rfl rfl ?_
      refine r_aload_n 16 dX7_readName_15 rfl rfl ?_
      refine r_iload_n 17 dX7_readName_16 rfl rfl ?_
      refine r_bipush 19 (v := -4) dX7_readName_17 (by decide) rfl ?_
      refine rt_icmp_eq (a := 1) (b := 0) (j := 27) 26 22 dX7_readName_19 (by decide) rfl (fun k => r_iconst 27 dX7_readName_26 (by decide) rfl k) (fun k => r_iconst 23 dX7_readName_22 (by decide) rfl (r_goto 27 dX7_readName_23 (by decide) k)) ?_
      refine r_eq (z := z_b (¬ x = -4)) (by by_cases c : x = -4; (rw [z_bn (fun z => z c), if_pos c]); (rw [z_bp c, if_neg c])) ?_
      refine r_iconst 28 (v := 2) dX7_readName_27 (by decide) rfl ?_
      refine r_callV (y2 := mX7_needs) (as := [_, _]) 31 dX7_readName_28 ml_X7_119 mv_X7_needs (m_needs (d := d - 1) h15) (by omega) sh_50 ⟨_, rfl, rfl⟩ rfl (Nat.le_of_ble_eq_true rfl) rfl (kk_v ?_)
      rintro w1 e1
      rw [if_pos hx] at e1
      subst e1
      refine r_aload_n 32 dX7_readName_31 rfl rfl ?_
      refine r_callV (y2 := mX7_next) (as := []) 35 dX7_readName_32 ml_X7_127 mv_X7_next (m_next (d := d - 1) (by omega) hT hta.1 h15 h11) (by omega) sh_50 ⟨_, rfl, rfl⟩ rfl (Nat.le_of_ble_eq_true rfl) rfl (kk_v ?_)
      rintro w2 ⟨hk2, hf2⟩
      refine r_iload_n 36 dX7_readName_35 rfl rfl ?_
      exact r_iret .int dX7_readName_36 rfl (rfl) (⟨hf2, by rw [if_pos ⟨h0, hx⟩]; exact ⟨rfl, hk2⟩⟩)
  · refine r_aload_n 1 dX7_readName_0 rfl rfl ?_
    refine r_geti 4 dX7_readName_1 fz_X7_105 sh_50 rfl rfl ?_
    refine r_eq (h13) ?_
    refine r_iconst 5 (v := 1) dX7_readName_4 (by decide) rfl ?_
    refine r_icmp_ne 12 8 dX7_readName_5 (by decide) rfl (fun _ => ?_) (fun z => absurd z (fun z => h0 ((sN_i (c := 0) tok_k4 h4 (by decide)).mp z)))
    refine r_bipush 14 (v := -4) dX7_readName_12 (by decide) rfl ?_
    refine r_istore_n 15 (L' := [_, _, _]) dX7_readName_14 (by decide) rfl rfl rfl ?_
    refine r_aload_n 16 dX7_readName_15 rfl rfl ?_
    refine r_iload_n 17 dX7_readName_16 rfl rfl ?_
    refine r_bipush 19 (v := -4) dX7_readName_17 (by decide) rfl ?_
    refine r_icmp_eq 26 22 dX7_readName_19 (by decide) rfl (fun _ => ?_) (fun z => absurd (rfl) z)
    refine r_iconst 27 (v := 0) dX7_readName_26 (by decide) rfl ?_
    refine r_iconst 28 (v := 2) dX7_readName_27 (by decide) rfl ?_
    refine r_callV (y2 := mX7_needs) (as := [_, _]) 31 dX7_readName_28 ml_X7_119 mv_X7_needs (m_needsZ (d := d - 1) h15) (by omega) sh_50 ⟨_, rfl, rfl⟩ rfl (Nat.le_of_ble_eq_true rfl) rfl (kk_v ?_)
    rintro w1 e1
    have f1 : w1 50 15 = nI 2 := by rw [← e1, z_up_i (by decide), z_up_s]; rfl
    refine r_aload_n 32 dX7_readName_31 rfl rfl ?_
    refine r_callV (y2 := mX7_next) (as := []) 35 dX7_readName_32 ml_X7_127 mv_X7_next (m_nextF (d := d - 1) (e := 2) (by decide) f1) (by omega) sh_50 ⟨_, rfl, rfl⟩ rfl (Nat.le_of_ble_eq_true rfl) rfl (kk_v ?_)
    rintro _ rfl
    refine r_iload_n 36 dX7_readName_35 rfl rfl ?_
    exact r_iret .int dX7_readName_36 rfl (rfl) (⟨by rw [← e1]; exact (frL.rfl.up (by decide)).up (by decide), by rw [if_neg (fun z => h0 z.1), ← e1]; exact fF_up (y := 2) h12 h4⟩)

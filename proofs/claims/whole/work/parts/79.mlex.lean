/-! ===== the reference: tokens ===== -/
/-- the reference's tape -/
def tpL (w : zW) (T : Nat) (t : Nat → Nat) : Prop := w 50 10 = nI T ∧ T ≤ 160 ∧ ∀ i, i < T → w 55 i = nI (t i) ∧ t i < 128
def frL (w w' : zW) : Prop := (∀ q, q < 11 ∨ 16 < q → w' 50 q = w 50 q) ∧ ∀ a, a ≠ 50 → w' a = w a
theorem frL.rfl {w : zW} : frL w w := ⟨fun _ _ => Eq.refl _, fun _ _ => Eq.refl _⟩
theorem frL.trans {w w' w'' : zW} (h : frL w w') (h' : frL w' w'') : frL w w'' := ⟨fun q hq => (h'.1 q hq).trans (h.1 q hq), fun a ha => (h'.2 a ha).trans (h.2 a ha)⟩
theorem frL.up {w w' : zW} {q : Nat} {v : Int32} (h : frL w w') (hq : 11 ≤ q ∧ q ≤ 16) : frL w (z_up w' 50 q v) := ⟨fun j hj => by rw [z_up_i (by omega)]; exact h.1 j hj, fun a ha => by rw [z_up_o ha]; exact h.2 a ha⟩
theorem tpL.fr {w w' : zW} {T : Nat} {t : Nat → Nat} (h : tpL w T t) (f : frL w w') : tpL w' T t := ⟨by rw [f.1 10 (by omega)]; exact h.1, h.2.1, fun i hi => by rw [f.2 55 (by decide)]; exact h.2.2 i hi⟩
/-- a byte, or -1 -/
def bA (T : Nat) (t : Nat → Nat) (p : Nat) : Int32 := if p < T then nI (t p) else -1
theorem bA_sp {w : zW} {T p : Nat} {t : Nat → Nat} (hT : tpL w T t) : bA T t p = 32 ↔ spP T t p = true := by
  unfold bA spP
  by_cases c : p < T
  · have := (hT.2.2 p c).2
    rw [if_pos c]
    simp only [c, decide_true, Bool.true_and, beq_iff_eq]
    exact nI_inj (b := 32) (by omega) (by decide)
  · rw [if_neg c]
    simp only [c, decide_false, Bool.false_and]
    exact ⟨fun z => absurd z (by decide), fun z => by cases z⟩
theorem kd_0 {c : Nat} : kd c = 0 ↔ 97 ≤ c ∧ c ≤ 122 := by
  unfold kd
  split
  · exact ⟨fun _ => by assumption, fun _ => rfl⟩
  · refine ⟨fun z => ?_, fun z => by omega⟩
    split at z
    · cases z
    · split at z <;> cases z
theorem kd_1 {c : Nat} : kd c = 1 ↔ 48 ≤ c ∧ c ≤ 57 := by
  refine ⟨kd_dig, fun h => ?_⟩
  unfold kd
  rw [if_neg (by omega), if_pos h]
theorem bA_in {w : zW} {T p k lo hi : Nat} {t : Nat → Nat} (hT : tpL w T t) (hk : ∀ c, kd c = k ↔ lo ≤ c ∧ c ≤ hi) : wi (bA T t p) lo hi = true ↔ kdP T t k p = true := by
  rw [wi_iff]
  unfold bA kdP
  by_cases c : p < T
  · have := (hT.2.2 p c).2
    rw [if_pos c, ti_n (by omega)]
    simp only [c, decide_true, Bool.true_and, beq_iff_eq, hk]
    omega
  · rw [if_neg c]
    simp only [c, decide_false, Bool.false_and]
    have e : (-1 : Int32).toInt = -1 := by decide
    rw [e]
    exact ⟨fun z => by omega, fun z => by cases z⟩
/-- the token now: fault, sort, where -/
def sN (k : Nat) : Nat := if k = 0 then 1 else if k = 1 then 2 else if k = 2 then 3 else 0
def mT (w : zW) (k : tkT) : Prop := w 50 12 = nI (tk_s k) ∧ (tk_k k = 4 → w 50 15 = 1 ∧ w 50 16 = nI (tk_s k)) ∧ (tk_k k ≠ 4 → w 50 15 = 0 ∧ w 50 13 = nI (sN (tk_k k)) ∧ w 50 11 = nI (tk_a k) ∧ (tk_k k = 1 → w 50 14 = nI (tk_n k)))
/-- a fault -/
def fF (w : zW) (e : Nat × Nat) : Prop := w 50 15 = nI e.1 ∧ w 50 16 = nI e.2
set_option maxRecDepth 20000 in
set_option maxHeartbeats 4000000 in
theorem m_byteAt {d T p : Nat} {t : Nat → Nat} {w : zW} (hT : tpL w T t) (hp : p < 1000) : CT mX7_byteAt d [.ref 50, .int (nI p)] w (z_i fun x w' => bA T t p = x ∧ w = w') := by
  have hT0 := hT.2.1
  refine CT.of [some (.ref 50), some (.int (nI p))] rfl (Nat.le_of_ble_eq_true rfl) rfl ?_
  refine r_iload_n 1 dX7_byteAt_0 rfl rfl ?_
  refine r_aload_n 2 dX7_byteAt_1 rfl rfl ?_
  refine r_geti 5 dX7_byteAt_2 fz_X7_78 sh_50 rfl rfl ?_
  refine r_eq hT.1 ?_
  refine r_icmp_ge 17 8 dX7_byteAt_5 (by decide) rfl (fun g5 => ?_) (fun g5 => ?_)
  · have g5 : T ≤ p := (nI_le' (by omega) (by omega)).mp g5
    refine r_iconst 18 (v := -1) dX7_byteAt_17 (by decide) rfl ?_
    exact r_iret .int dX7_byteAt_18 rfl (rfl) (⟨by unfold bA; first | (rw [if_pos (by omega)]; done) | (rw [if_neg (by omega)]; done), rfl⟩)
  · have g5 : ¬ T ≤ p := fun z => g5 ((nI_le' (by omega) (by omega)).mpr z)
    refine r_aload_n 9 dX7_byteAt_8 rfl rfl ?_
    refine r_getr 12 dX7_byteAt_9 fz_X7_23 sh_50 rfl rfl ?_
    refine r_iload_n 13 dX7_byteAt_12 rfl rfl ?_
    refine rj_iald 14 (p) dX7_byteAt_13 sh_55 (rfl) (by omega) (by decide) rfl ?_
    refine r_eq (hT.2.2 p (by omega)).1 ?_
    refine r_goto 18 dX7_byteAt_14 (by decide) ?_
    exact r_iret .int dX7_byteAt_18 rfl (rfl) (⟨by unfold bA; first | (rw [if_pos (by omega)]; done) | (rw [if_neg (by omega)]; done), rfl⟩)
set_option maxRecDepth 20000 in
set_option maxHeartbeats 4000000 in
theorem m_needs {d : Nat} {w : zW} {p : Prop} [Decidable p] {c : Int32} (h : w 50 15 = 0) : CT mX7_needs d [.ref 50, .int (z_b p), .int c] w (z_v fun w' => (if p then w else z_up (z_up w 50 15 c) 50 16 (w 50 12)) = w') := by
  refine CT.of [some (.ref 50), some (.int (z_b p)), some (.int c)] rfl (Nat.le_of_ble_eq_true rfl) rfl ?_
  refine r_iload_n 1 dX7_needs_0 rfl rfl ?_
  refine r_if_ne 24 4 dX7_needs_1 (by decide) rfl (fun g1 => ?_) (fun g1 => ?_)
  · have g1 : p := Classical.byContradiction fun z => g1 (z_bn z)
    exact r_vret dX7_needs_24 rfl (by first | exact if_pos g1 | exact if_neg g1)
  · have g1 : ¬ p := z_be.mp g1
    refine r_aload_n 5 dX7_needs_4 rfl rfl ?_
    refine r_geti 8 dX7_needs_5 fz_X7_81 sh_50 rfl rfl ?_
    refine r_eq h ?_
    refine r_if_ne 24 11 dX7_needs_8 (by decide) rfl (fun z => absurd (rfl) z) (fun _ => ?_)
    refine r_aload_n 12 dX7_needs_11 rfl rfl ?_
    refine r_iload_n 13 dX7_needs_12 rfl rfl ?_
    refine r_puti 16 dX7_needs_13 fz_X7_81 fw_7_15 sh_50 rfl rfl ?_
    refine r_aload_n 17 dX7_needs_16 rfl rfl ?_
    refine r_aload_n 18 dX7_needs_17 rfl rfl ?_
    refine r_geti 21 dX7_needs_18 fz_X7_84 sh_50 rfl rfl ?_
    refine r_eq (z := w 50 12) (z_up_i (by decide)) ?_
    refine r_puti 24 dX7_needs_21 fz_X7_87 fw_7_16 sh_50 rfl rfl ?_
    exact r_vret dX7_needs_24 rfl (by first | exact if_pos g1 | exact if_neg g1)
set_option maxRecDepth 20000 in
set_option maxHeartbeats 4000000 in
theorem m_needsF {d : Nat} {w : zW} {p : Prop} [Decidable p] {c : Int32} (h : ¬ w 50 15 = 0) : CT mX7_needs d [.ref 50, .int (z_b p), .int c] w (z_v fun w' => w = w') := by
  refine CT.of [some (.ref 50), some (.int (z_b p)), some (.int c)] rfl (Nat.le_of_ble_eq_true rfl) rfl ?_
  refine r_iload_n 1 dX7_needs_0 rfl rfl ?_
  refine r_if_ne 24 4 dX7_needs_1 (by decide) rfl (fun g1 => ?_) (fun g1 => ?_)
  · exact r_vret dX7_needs_24 rfl (rfl)
  · refine r_aload_n 5 dX7_needs_4 rfl rfl ?_
    refine r_geti 8 dX7_needs_5 fz_X7_81 sh_50 rfl rfl ?_
    refine r_if_ne 24 11 dX7_needs_8 (by decide) rfl (fun _ => ?_) (fun z => absurd z (h))
    exact r_vret dX7_needs_24 rfl (rfl)
theorem frL.of11 {w0 w : zW} (h1 : ∀ q, q ≠ 11 → w 50 q = w0 50 q) (h2 : ∀ a, a ≠ 50 → w a = w0 a) : frL w0 w := ⟨fun q hq => h1 q (by omega), h2⟩
set_option maxRecDepth 20000 in
set_option maxHeartbeats 4000000 in
theorem l_mx1 {d T p0 : Nat} {t : Nat → Nat} {w0 : zW} {X : zX → Prop} {v1 : Option Value} (hd : 1 ≤ d) (hT : tpL w0 T t) (hx : ∀ w, w 50 11 = nI (tk_st T t p0) → (∀ q, q ≠ 11 → w 50 q = w0 50 q) → (∀ a, a ≠ 50 → w a = w0 a) → WP mX7_next d X 34 [some (.ref 50), v1] [] w) : ∀ k p (w : zW), p + k = T → tk_st T t p = tk_st T t p0 → w 50 11 = nI p → (∀ q, q ≠ 11 → w 50 q = w0 50 q) → (∀ a, a ≠ 50 → w a = w0 a) → WP mX7_next d X 8 [some (.ref 50), v1] [] w := by
  have hT0 := hT.2.1
  intro k
  induction k with
  | zero =>
    intro p w hp he h11 hq ha
    have hT1 := hT.fr (frL.of11 hq ha)
    have hns : ¬ spP T t p = true := fun z => by have := spP_lt z; omega
    have e : tk_st T t p = p := wh_st (by decide) hns
    refine r_aload_n 9 dX7_next_8 rfl rfl ?_
    refine r_aload_n 10 dX7_next_9 rfl rfl ?_
    refine r_geti 13 dX7_next_10 fz_X7_90 sh_50 rfl rfl ?_
    refine r_eq h11 ?_
    refine r_callV (y2 := mX7_byteAt) (as := [_]) 16 dX7_next_13 ml_X7_93 mv_X7_byteAt (m_byteAt (d := d - 1) hT1 (p := p) (by omega)) (by omega) sh_50 ⟨_, rfl, rfl⟩ rfl (Nat.le_of_ble_eq_true rfl) rfl (kk_i ?_)
    rintro _ _ ⟨rfl, rfl⟩
    refine r_bipush 18 (v := 32) dX7_next_16 (by decide) rfl ?_
    refine r_icmp_ne 34 21 dX7_next_18 (by decide) rfl (fun _ => ?_) (fun z => absurd z (fun z => hns ((bA_sp hT1).mp z)))
    exact hx w (by rw [← he, e]; exact h11) hq ha
  | succ k ih =>
    intro p w hp he h11 hq ha
    have hT1 := hT.fr (frL.of11 hq ha)
    refine r_aload_n 9 dX7_next_8 rfl rfl ?_
    refine r_aload_n 10 dX7_next_9 rfl rfl ?_
    refine r_geti 13 dX7_next_10 fz_X7_90 sh_50 rfl rfl ?_
    refine r_eq h11 ?_
    refine r_callV (y2 := mX7_byteAt) (as := [_]) 16 dX7_next_13 ml_X7_93 mv_X7_byteAt (m_byteAt (d := d - 1) hT1 (p := p) (by omega)) (by omega) sh_50 ⟨_, rfl, rfl⟩ rfl (Nat.le_of_ble_eq_true rfl) rfl (kk_i ?_)
    rintro _ _ ⟨rfl, rfl⟩
    refine r_bipush 18 (v := 32) dX7_next_16 (by decide) rfl ?_
    refine r_icmp_ne 34 21 dX7_next_18 (by decide) rfl (fun g18 => ?_) (fun g18 => ?_)
    · have g18 : ¬ spP T t p = true := fun z => g18 ((bA_sp hT1).mpr z)
      have e : tk_st T t p = p := wh_st (by decide) g18
      exact hx w (by rw [← he, e]; exact h11) hq ha
    · have g18 := (bA_sp hT1).mp g18
      have e : tk_st T t p = tk_st T t (p + 1) := wh_go (fun q hq => by have := spP_lt hq; omega) (by decide) g18
      refine r_aload_n 22 dX7_next_21 rfl rfl ?_
      refine r_dup 23 dX7_next_22 rfl rfl ?_
      refine r_geti 26 dX7_next_23 fz_X7_90 sh_50 rfl rfl ?_
      refine r_eq h11 ?_
      refine r_iconst 27 (v := 1) dX7_next_26 (by decide) rfl ?_
      refine r_iadd 28 dX7_next_27 rfl ?_
      refine r_eq (nI_1 p) ?_
      refine r_puti 31 dX7_next_28 fz_X7_90 fw_7_11 sh_50 rfl rfl ?_
      refine r_goto 8 dX7_next_31 (by decide) ?_
      exact ih (p + 1) _ (by omega) (by rw [← e]; exact he) z_up_s (fun q h => by rw [z_up_i h]; exact hq q h) (fun a h => by rw [z_up_o h]; exact ha a h)
set_option maxRecDepth 20000 in
set_option maxHeartbeats 4000000 in
theorem l_mx2 {d T p0 : Nat} {t : Nat → Nat} {w0 : zW} {X : zX → Prop} {v1 : Option Value} (hd : 1 ≤ d) (hT : tpL w0 T t) (hx : ∀ w, w 50 11 = nI (wh (kdP T t 0) 161 p0) → (∀ q, q ≠ 11 → w 50 q = w0 50 q) → (∀ a, a ≠ 50 → w a = w0 a) → WP mX7_next d X 274 [some (.ref 50), v1] [] w) : ∀ k p (w : zW), p + k = T → wh (kdP T t 0) 161 p = wh (kdP T t 0) 161 p0 → w 50 11 = nI p → (∀ q, q ≠ 11 → w 50 q = w0 50 q) → (∀ a, a ≠ 50 → w a = w0 a) → WP mX7_next d X 82 [some (.ref 50), v1] [] w := by
  have hT0 := hT.2.1
  intro k
  induction k with
  | zero =>
    intro p w hp he h11 hq ha
    have hT1 := hT.fr (frL.of11 hq ha)
    have hns : ¬ kdP T t 0 p = true := fun z => by have := kdP_lt z; omega
    have e : wh (kdP T t 0) 161 p = p := wh_st (by decide) hns
    refine r_aload_n 83 dX7_next_82 rfl rfl ?_
    refine r_aload_n 84 dX7_next_83 rfl rfl ?_
    refine r_geti 87 dX7_next_84 fz_X7_90 sh_50 rfl rfl ?_
    refine r_eq h11 ?_
    refine r_callV (y2 := mX7_byteAt) (as := [_]) 90 dX7_next_87 ml_X7_93 mv_X7_byteAt (m_byteAt (d := d - 1) hT1 (p := p) (by omega)) (by omega) sh_50 ⟨_, rfl, rfl⟩ rfl (Nat.le_of_ble_eq_true rfl) rfl (kk_i ?_)
    rintro _ _ ⟨rfl, rfl⟩
    refine r_i2l 91 dX7_next_90 rfl ?_
    refine r_ldc2 94 dX7_next_91 kl_X7_108 rfl ?_
    refine r_ldc2 97 dX7_next_94 kl_X7_110 rfl ?_
    refine r_callS (y2 := mX7_in) (as := [_, _, _]) 100 dX7_next_97 ml_X7_74 ms_X7_in (m_in (d := d - 1) _ _ _) (by omega) rfl (Nat.le_of_ble_eq_true rfl) rfl (kk_i ?_)
    rintro _ _ ⟨rfl, rfl⟩
    refine r_eq (z := z_b (kdP T t 0 p = true)) (z_bc ((in_wi (lo := 97) (hi := 122) rfl rfl).trans (bA_in hT1 (k := 0) (lo := 97) (hi := 122) (fun _ => kd_0)))) ?_
    refine rb_eq 274 103 dX7_next_100 (by decide) rfl (fun g100 => ?_) (fun g100 => ?_)
    · exact hx w (by rw [← he, e]; exact h11) hq ha
    · exact absurd g100 hns
  | succ k ih =>
    intro p w hp he h11 hq ha
    have hT1 := hT.fr (frL.of11 hq ha)
    refine r_aload_n 83 dX7_next_82 rfl rfl ?_
    refine r_aload_n 84 dX7_next_83 rfl rfl ?_
    refine r_geti 87 dX7_next_84 fz_X7_90 sh_50 rfl rfl ?_
    refine r_eq h11 ?_
    refine r_callV (y2 := mX7_byteAt) (as := [_]) 90 dX7_next_87 ml_X7_93 mv_X7_byteAt (m_byteAt (d := d - 1) hT1 (p := p) (by omega)) (by omega) sh_50 ⟨_, rfl, rfl⟩ rfl (Nat.le_of_ble_eq_true rfl) rfl (kk_i ?_)
    rintro _ _ ⟨rfl, rfl⟩
    refine r_i2l 91 dX7_next_90 rfl ?_
    refine r_ldc2 94 dX7_next_91 kl_X7_108 rfl ?_
    refine r_ldc2 97 dX7_next_94 kl_X7_110 rfl ?_
    refine r_callS (y2 := mX7_in) (as := [_, _, _]) 100 dX7_next_97 ml_X7_74 ms_X7_in (m_in (d := d - 1) _ _ _) (by omega) rfl (Nat.le_of_ble_eq_true rfl) rfl (kk_i ?_)
    rintro _ _ ⟨rfl, rfl⟩
    refine r_eq (z := z_b (kdP T t 0 p = true)) (z_bc ((in_wi (lo := 97) (hi := 122) rfl rfl).trans (bA_in hT1 (k := 0) (lo := 97) (hi := 122) (fun _ => kd_0)))) ?_
    refine rb_eq 274 103 dX7_next_100 (by decide) rfl (fun g100 => ?_) (fun g100 => ?_)
    · have e : wh (kdP T t 0) 161 p = p := wh_st (by decide) g100
      exact hx w (by rw [← he, e]; exact h11) hq ha
    · have e : wh (kdP T t 0) 161 p = wh (kdP T t 0) 161 (p + 1) := wh_go (fun q hq => by have := kdP_lt hq; omega) (by decide) g100
      refine r_aload_n 104 dX7_next_103 rfl rfl ?_
      refine r_dup 105 dX7_next_104 rfl rfl ?_
      refine r_geti 108 dX7_next_105 fz_X7_90 sh_50 rfl rfl ?_
      refine r_eq h11 ?_
      refine r_iconst 109 (v := 1) dX7_next_108 (by decide) rfl ?_
      refine r_iadd 110 dX7_next_109 rfl ?_
      refine r_eq (nI_1 p) ?_
      refine r_puti 113 dX7_next_110 fz_X7_90 fw_7_11 sh_50 rfl rfl ?_
      refine r_goto 82 dX7_next_113 (by decide) ?_
      exact ih (p + 1) _ (by omega) (by rw [← e]; exact he) z_up_s (fun q h => by rw [z_up_i h]; exact hq q h) (fun a h => by rw [z_up_o h]; exact ha a h)
theorem frL.of14 {w0 w : zW} (h1 : ∀ q, q ≠ 11 → q ≠ 14 → w 50 q = w0 50 q) (h2 : ∀ a, a ≠ 50 → w a = w0 a) : frL w0 w := ⟨fun q hq => h1 q (by omega) (by omega), h2⟩
set_option maxRecDepth 20000 in
set_option maxHeartbeats 4000000 in
theorem l_mx3 {d T s : Nat} {t : Nat → Nat} {w0 : zW} {X : zX → Prop} {v1 : Option Value} (hd : 1 ≤ d) (hT : tpL w0 T t) (h12 : w0 50 12 = nI s) (hx : ∀ w, w 50 11 = nI (wh (kdP T t 1) 161 s) → w 50 14 = nI (vv t s (min ((wh (kdP T t 1) 161 s) - s) 2)) → (∀ q, q ≠ 11 → q ≠ 14 → w 50 q = w0 50 q) → (∀ a, a ≠ 50 → w a = w0 a) → WP mX7_next d X 217 [some (.ref 50), v1] [] w) : ∀ k p (w : zW), s ≤ p → p + k = T → (wh (kdP T t 1) 161 p) = (wh (kdP T t 1) 161 s) → w 50 11 = nI p → w 50 14 = nI (vv t s (min (p - s) 2)) → (∀ q, q ≠ 11 → q ≠ 14 → w 50 q = w0 50 q) → (∀ a, a ≠ 50 → w a = w0 a) → WP mX7_next d X 140 [some (.ref 50), v1] [] w := by
  have hT0 := hT.2.1
  intro k
  induction k with
  | zero =>
    intro p w hsp hp he h11 h14 hq ha
    have hT1 := hT.fr (frL.of14 hq ha)
    have hns : ¬ kdP T t 1 p = true := fun z => by have := kdP_lt z; omega
    have e : wh (kdP T t 1) 161 p = p := wh_st (by decide) hns
    refine r_aload_n 141 dX7_next_140 rfl rfl ?_
    refine r_aload_n 142 dX7_next_141 rfl rfl ?_
    refine r_geti 145 dX7_next_142 fz_X7_90 sh_50 rfl rfl ?_
    refine r_eq h11 ?_
    refine r_callV (y2 := mX7_byteAt) (as := [_]) 148 dX7_next_145 ml_X7_93 mv_X7_byteAt (m_byteAt (d := d - 1) hT1 (p := p) (by omega)) (by omega) sh_50 ⟨_, rfl, rfl⟩ rfl (Nat.le_of_ble_eq_true rfl) rfl (kk_i ?_)
    rintro _ _ ⟨rfl, rfl⟩
    refine r_i2l 149 dX7_next_148 rfl ?_
    refine r_ldc2 152 dX7_next_149 kl_X7_112 rfl ?_
    refine r_ldc2 155 dX7_next_152 kl_X7_114 rfl ?_
    refine r_callS (y2 := mX7_in) (as := [_, _, _]) 158 dX7_next_155 ml_X7_74 ms_X7_in (m_in (d := d - 1) _ _ _) (by omega) rfl (Nat.le_of_ble_eq_true rfl) rfl (kk_i ?_)
    rintro _ _ ⟨rfl, rfl⟩
    refine r_eq (z := z_b (kdP T t 1 p = true)) (z_bc ((in_wi (lo := 48) (hi := 57) rfl rfl).trans (bA_in hT1 (k := 1) (lo := 48) (hi := 57) (fun _ => kd_1)))) ?_
    refine rb_eq 217 161 dX7_next_158 (by decide) rfl (fun g158 => ?_) (fun g158 => ?_)
    · exact hx w (by rw [← he, e]; exact h11) (by rw [← he, e]; exact h14) hq ha
    · exact absurd g158 hns
  | succ k ih =>
    intro p w hsp hp he h11 h14 hq ha
    have hT1 := hT.fr (frL.of14 hq ha)
    refine r_aload_n 141 dX7_next_140 rfl rfl ?_
    refine r_aload_n 142 dX7_next_141 rfl rfl ?_
    refine r_geti 145 dX7_next_142 fz_X7_90 sh_50 rfl rfl ?_
    refine r_eq h11 ?_
    refine r_callV (y2 := mX7_byteAt) (as := [_]) 148 dX7_next_145 ml_X7_93 mv_X7_byteAt (m_byteAt (d := d - 1) hT1 (p := p) (by omega)) (by omega) sh_50 ⟨_, rfl, rfl⟩ rfl (Nat.le_of_ble_eq_true rfl) rfl (kk_i ?_)
    rintro _ _ ⟨rfl, rfl⟩
    refine r_i2l 149 dX7_next_148 rfl ?_
    refine r_ldc2 152 dX7_next_149 kl_X7_112 rfl ?_
    refine r_ldc2 155 dX7_next_152 kl_X7_114 rfl ?_
    refine r_callS (y2 := mX7_in) (as := [_, _, _]) 158 dX7_next_155 ml_X7_74 ms_X7_in (m_in (d := d - 1) _ _ _) (by omega) rfl (Nat.le_of_ble_eq_true rfl) rfl (kk_i ?_)
    rintro _ _ ⟨rfl, rfl⟩
    refine r_eq (z := z_b (kdP T t 1 p = true)) (z_bc ((in_wi (lo := 48) (hi := 57) rfl rfl).trans (bA_in hT1 (k := 1) (lo := 48) (hi := 57) (fun _ => kd_1)))) ?_
    refine rb_eq 217 161 dX7_next_158 (by decide) rfl (fun g158 => ?_) (fun g158 => ?_)
    · have e : wh (kdP T t 1) 161 p = p := wh_st (by decide) g158
      exact hx w (by rw [← he, e]; exact h11) (by rw [← he, e]; exact h14) hq ha
    · have e : wh (kdP T t 1) 161 p = wh (kdP T t 1) 161 (p + 1) := wh_go (fun q hq => by have := kdP_lt hq; omega) (by decide) g158
      have hpT := kdP_lt g158
      have hdig : 48 ≤ t p := (kd_1.mp (by simp [kdP] at g158; exact g158.2)).1
      refine r_aload_n 162 dX7_next_161 rfl rfl ?_
      refine r_aload_n 163 dX7_next_162 rfl rfl ?_
      refine r_geti 166 dX7_next_163 fz_X7_90 sh_50 rfl rfl ?_
      refine r_eq h11 ?_
      refine r_aload_n 167 dX7_next_166 rfl rfl ?_
      refine r_geti 170 dX7_next_167 fz_X7_84 sh_50 rfl rfl ?_
      refine r_eq (z := nI s) (by rw [hq 12 (by decide) (by decide)]; exact h12) ?_
      refine r_isub 171 dX7_next_170 rfl ?_
      refine r_eq (nI_sub hsp) ?_
      refine r_iconst 172 (v := 2) dX7_next_171 (by decide) rfl ?_
      refine r_icmp_ge 197 175 dX7_next_172 (by decide) rfl (fun g172 => ?_) (fun g172 => ?_)
      · have g172 : 2 ≤ p - s := (nI_le' (a := 2) (by decide) (by omega)).mp g172
        have em : min (p + 1 - s) 2 = min (p - s) 2 := by omega
        refine r_aload_n 198 dX7_next_197 rfl rfl ?_
        refine r_geti 201 dX7_next_198 fz_X7_116 sh_50 rfl rfl ?_
        refine r_eq (z := nI (vv t s (min (p + 1 - s) 2))) (by rw [em]; exact h14) ?_
        refine r_puti 204 dX7_next_201 fz_X7_116 fw_7_14 sh_50 rfl rfl ?_
        refine r_aload_n 205 dX7_next_204 rfl rfl ?_
        refine r_dup 206 dX7_next_205 rfl rfl ?_
        refine r_geti 209 dX7_next_206 fz_X7_90 sh_50 rfl rfl ?_
        refine r_eq (z := nI p) (by rw [z_up_i (by decide)]; exact h11) ?_
        refine r_iconst 210 (v := 1) dX7_next_209 (by decide) rfl ?_
        refine r_iadd 211 dX7_next_210 rfl ?_
        refine r_eq (nI_1 p) ?_
        refine r_puti 214 dX7_next_211 fz_X7_90 fw_7_11 sh_50 rfl rfl ?_
        refine r_goto 140 dX7_next_214 (by decide) ?_
        exact ih (p + 1) _ (by omega) (by omega) (by rw [← e]; exact he) z_up_s (by rw [z_up_i (by decide), z_up_s]) (fun q h1 h2 => by rw [z_up_i h1, z_up_i h2]; exact hq q h1 h2) (fun a h => by rw [z_up_o h, z_up_o h]; exact ha a h)
      · have g172 : ¬ 2 ≤ p - s := fun z => g172 ((nI_le' (a := 2) (by decide) (by omega)).mpr z)
        have em : min (p + 1 - s) 2 = (p - s) + 1 := by omega
        have em0 : min (p - s) 2 = p - s := by omega
        rw [em0] at h14
        refine r_bipush 177 (v := 10) dX7_next_175 (by decide) rfl ?_
        refine r_aload_n 178 dX7_next_177 rfl rfl ?_
        refine r_geti 181 dX7_next_178 fz_X7_116 sh_50 rfl rfl ?_
        refine r_eq h14 ?_
        refine r_imul 182 dX7_next_181 rfl ?_
        refine r_eq (z := nI (10 * vv t s (p - s))) (nI_mul 10 _) ?_
        refine r_aload_n 183 dX7_next_182 rfl rfl ?_
        refine r_aload_n 184 dX7_next_183 rfl rfl ?_
        refine r_geti 187 dX7_next_184 fz_X7_90 sh_50 rfl rfl ?_
        refine r_eq h11 ?_
        refine r_callV (y2 := mX7_byteAt) (as := [_]) 190 dX7_next_187 ml_X7_93 mv_X7_byteAt (m_byteAt (d := d - 1) hT1 (p := p) (by omega)) (by omega) sh_50 ⟨_, rfl, rfl⟩ rfl (Nat.le_of_ble_eq_true rfl) rfl (kk_i ?_)
        rintro _ _ ⟨rfl, rfl⟩
        refine r_eq (z := nI (t p)) (if_pos hpT) ?_
        refine r_iadd 191 dX7_next_190 rfl ?_
        refine r_eq (nI_add _ _) ?_
        refine r_bipush 193 (v := 48) dX7_next_191 (by decide) rfl ?_
        refine r_isub 194 dX7_next_193 rfl ?_
        refine r_eq (z := nI (vv t s (min (p + 1 - s) 2))) ((nI_sub (b := 48) (by omega)).trans (by rw [em, vv, show s + (p - s) = p by omega]; congr 1; omega)) ?_
        refine r_goto 201 dX7_next_194 (by decide) ?_
        refine r_puti 204 dX7_next_201 fz_X7_116 fw_7_14 sh_50 rfl rfl ?_
        refine r_aload_n 205 dX7_next_204 rfl rfl ?_
        refine r_dup 206 dX7_next_205 rfl rfl ?_
        refine r_geti 209 dX7_next_206 fz_X7_90 sh_50 rfl rfl ?_
        refine r_eq (z := nI p) (by rw [z_up_i (by decide)]; exact h11) ?_
        refine r_iconst 210 (v := 1) dX7_next_209 (by decide) rfl ?_
        refine r_iadd 211 dX7_next_210 rfl ?_
        refine r_eq (nI_1 p) ?_
        refine r_puti 214 dX7_next_211 fz_X7_90 fw_7_11 sh_50 rfl rfl ?_
        refine r_goto 140 dX7_next_214 (by decide) ?_
        exact ih (p + 1) _ (by omega) (by omega) (by rw [← e]; exact he) z_up_s (by rw [z_up_i (by decide), z_up_s]) (fun q h1 h2 => by rw [z_up_i h1, z_up_i h2]; exact hq q h1 h2) (fun a h => by rw [z_up_o h, z_up_o h]; exact ha a h)

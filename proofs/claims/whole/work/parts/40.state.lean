/-! ===== the state: boats and lock, images, tape, fault, sheets, torn ===== -/
abbrev sT : Type := (Nat × (Nat → Nat)) × (Nat × (Nat → Nat → Nat)) × (Nat × (Nat → Nat)) × Nat × ((Nat → Option (Nat × Nat)) × (Nat → Nat → Int32)) × Nat
abbrev s_n (s : sT) : Nat := s.1.1
abbrev s_K (s : sT) : Nat → Nat := s.1.2
abbrev s_kp (s : sT) : Nat := s.2.1.1
abbrev s_im (s : sT) : Nat → Nat → Nat := s.2.1.2
abbrev s_T (s : sT) : Nat := s.2.2.1.1
abbrev s_t (s : sT) : Nat → Nat := s.2.2.1.2
abbrev s_f (s : sT) : Nat := s.2.2.2.1
abbrev s_sh (s : sT) : Nat → Option (Nat × Nat) := s.2.2.2.2.1.1
abbrev s_c (s : sT) : Nat → Nat → Int32 := s.2.2.2.2.1.2
abbrev s_tn (s : sT) : Nat := s.2.2.2.2.2
/-- who lies, as a set -/
def lm (n : Nat) (K : Nat → Nat) : Nat := mk n (fun b => K (6 + 6 * b + 5) == 1)
/-- the lock at B, all of it -/
def lkF (w : zW) (B n : Nat) (K : Nat → Nat) : Prop := (∀ k, k < 6 → w (B + 1) k = nI (K k)) ∧ (∀ b q, b < n → q < 5 → w (B + 2) (b * 5 + q) = nI (K (6 + 6 * b + q))) ∧ w B 2 = nI n ∧ w B 3 = nI (lm n K) ∧ w B 4 = nI (K 42) ∧ ∀ j, j < K 42 → w (B + 3) j = nI (K (43 + 2 * j)) ∧ w (B + 4) j = nI (K (44 + 2 * j))
theorem lkF.D {w : zW} {B n : Nat} {K : Nat → Nat} (h : lkF w B n K) : lkD w B n K := ⟨fun k hk _ => h.1 k hk, h.2.1, h.2.2.1⟩
theorem lkF.congr {w w' : zW} {B n : Nat} {K : Nat → Nat} (h : lkF w B n K) (h0 : w' B = w B) (h1 : w' (B + 1) = w (B + 1)) (h2 : w' (B + 2) = w (B + 2)) (h3 : w' (B + 3) = w (B + 3)) (h4 : w' (B + 4) = w (B + 4)) : lkF w' B n K := by
  unfold lkF at h ⊢
  rw [h0, h1, h2, h3, h4]
  exact h
theorem lkF.fr {w w' : zW} {B n : Nat} {K : Nat → Nat} (h : lkF w B n K) (hf : ∀ a, B ≤ a → a ≤ B + 4 → w' a = w a) : lkF w' B n K := h.congr (hf _ (by omega) (by omega)) (hf _ (by omega) (by omega)) (hf _ (by omega) (by omega)) (hf _ (by omega) (by omega)) (hf _ (by omega) (by omega))
/-- what is right of a lock -/
def lV (n : Nat) (K : Nat → Nat) : Prop := kV 99 n K ∧ K 42 ≤ 6 ∧ ∀ j, j < K 42 → K (43 + 2 * j) < n ∧ K (44 + 2 * j) < n
def sV (s : sT) : Prop := lV (s_n s) (s_K s) ∧ (s_kp s < 4 ∧ ∀ k, k < 2 → bi (s_kp s) k = 1 → lV (s_n s) (s_im s k)) ∧ (s_T s ≤ 160 ∧ ∀ i, i < s_T s → s_t s i < 128) ∧ s_f s ≤ 6 ∧ (∀ k, k < 4 → ∀ l z, s_sh s k = some (l, z) → l < 3 ∧ z ≤ 40) ∧ s_tn s ≤ 4
def imC (w : zW) (s : sT) : Prop := w 0 3 = nI (s_kp s) ∧ ∀ k, k < 2 → bi (s_kp s) k = 1 → lkF w (11 + 5 * k) (s_n s) (s_im s k)
def tpC (w : zW) (s : sT) : Prop := w 27 1 = nI (s_T s) ∧ ∀ i, i < s_T s → w 28 i = nI (s_t s i)
def ftC (w : zW) (s : sT) : Prop := w 29 1 = nI (s_f s)
def shC (w : zW) (s : sT) : Prop := ∀ k, k < 4 → match s_sh s k with
  | none => w (42 + 2 * k) 2 = -1
  | some (l, z) => w (42 + 2 * k) 1 = nI l ∧ w (42 + 2 * k) 2 = nI z ∧ ∀ i, i < 40 → w (43 + 2 * k) i = s_c s k i
def tnC (w : zW) (s : sT) : Prop := w 0 11 = nI (s_tn s)
/-- the class holds the state -/
def RC (w : zW) (s : sT) : Prop := lkF w 1 (s_n s) (s_K s) ∧ imC w s ∧ tpC w s ∧ ftC w s ∧ shC w s ∧ tnC w s
/-- what the class's queries may change -/
def frC (w w' : zW) : Prop := ∀ a, a < 6 ∨ (10 < a ∧ a < 21) ∨ (25 < a ∧ a < 30) ∨ 40 < a → w' a = w a
theorem frC.rfl {w : zW} : frC w w := fun _ _ => Eq.refl _
theorem frC.trans {w w' w'' : zW} (h : frC w w') (h' : frC w' w'') : frC w w'' := fun a ha => (h' a ha).trans (h a ha)
theorem shC.congr {w w' : zW} {s : sT} (h : shC w s) (hf : ∀ a, 41 < a → a < 50 → w' a = w a) : shC w' s := by
  intro k hk
  have h1 := h k hk
  have e0 : w' (42 + 2 * k) = w (42 + 2 * k) := hf _ (by omega) (by omega)
  have e1 : w' (43 + 2 * k) = w (43 + 2 * k) := hf _ (by omega) (by omega)
  rw [e0, e1]
  exact h1
theorem imC.congr {w w' : zW} {s : sT} (h : imC w s) (h0 : w' 0 3 = w 0 3) (hf : ∀ a, 10 < a → a < 21 → w' a = w a) : imC w' s :=
  ⟨by rw [h0]; exact h.1, fun k hk hb => (h.2 k hk hb).fr (fun a h1 h2 => hf a (by omega) (by omega))⟩
theorem RC.fr {w w' : zW} {s : sT} (h : RC w s) (hf : frC w w') : RC w' s := by
  obtain ⟨h1, h2, h3, h4, h5, h6⟩ := h
  have e0 : w' 0 = w 0 := hf 0 (by omega)
  have e27 : w' 27 = w 27 := hf 27 (by omega)
  have e28 : w' 28 = w 28 := hf 28 (by omega)
  have e29 : w' 29 = w 29 := hf 29 (by omega)
  refine ⟨h1.fr (fun a _ _ => hf a (by omega)), h2.congr (by rw [e0]) (fun a _ _ => hf a (by omega)), ?_, ?_, h5.congr (fun a _ _ => hf a (by omega)), ?_⟩
  · unfold tpC at h3 ⊢; rw [e27, e28]; exact h3
  · unfold ftC at h4 ⊢; rw [e29]; exact h4
  · unfold tnC at h6 ⊢; rw [e0]; exact h6
/-! the reference -/
def lkM (w : zW) (o n : Nat) (K : Nat → Nat) : Prop := (∀ k, k < 55 → w 51 (o + k) = nI (K k)) ∧ w 50 3 = nI n
def imM (w : zW) (s : sT) : Prop := ∀ k, k < 2 → w 53 k = nI (bi (s_kp s) k) ∧ (bi (s_kp s) k = 1 → ∀ j, j < 55 → w 51 (55 * (k + 1) + j) = nI (s_im s k j))
def tpM (w : zW) (s : sT) : Prop := w 50 10 = nI (s_T s) ∧ ∀ i, i < s_T s → w 55 i = nI (s_t s i)
def shM (w : zW) (s : sT) : Prop := ∀ k, k < 4 → match s_sh s k with
  | none => w 60 k = -4
  | some (l, z) => w 60 k = nI l ∧ w 61 k = nI z ∧ ∀ i, i < 40 → w 62 (40 * k + i) = s_c s k i
def RM (w : zW) (s : sT) : Prop := lkM w 0 (s_n s) (s_K s) ∧ imM w s ∧ tpM w s ∧ w 50 15 = nI (s_f s) ∧ shM w s ∧ w 50 30 = nI (s_tn s)
/-- what the reference's queries may change -/
def frR (w w' : zW) : Prop := (∀ q, q < 17 ∨ 25 < q → w' 50 q = w 50 q) ∧ ∀ a, a < 50 ∨ a = 51 ∨ a = 53 ∨ a = 54 ∨ a = 55 ∨ 59 < a → w' a = w a
theorem frR.rfl {w : zW} : frR w w := ⟨fun _ _ => Eq.refl _, fun _ _ => Eq.refl _⟩
theorem frR.trans {w w' w'' : zW} (h : frR w w') (h' : frR w' w'') : frR w w'' := ⟨fun q hq => (h'.1 q hq).trans (h.1 q hq), fun a ha => (h'.2 a ha).trans (h.2 a ha)⟩
theorem frM.R {w w' : zW} (h : frM w w') : frR w w' := ⟨fun q hq => h.1 q (by omega), fun a ha => h.2 a (by omega) (by omega) (by omega) (by omega)⟩
theorem RM.fr {w w' : zW} {s : sT} (h : RM w s) (hf : frR w w') : RM w' s := by
  obtain ⟨h1, h2, h3, h4, h5, h6⟩ := h
  have e51 : w' 51 = w 51 := hf.2 51 (by omega)
  have e53 : w' 53 = w 53 := hf.2 53 (by omega)
  have e55 : w' 55 = w 55 := hf.2 55 (by omega)
  have e60 : w' 60 = w 60 := hf.2 60 (by omega)
  have e61 : w' 61 = w 61 := hf.2 61 (by omega)
  have e62 : w' 62 = w 62 := hf.2 62 (by omega)
  refine ⟨?_, ?_, ?_, ?_, ?_, ?_⟩
  · unfold lkM at h1 ⊢; rw [e51, hf.1 3 (by omega)]; exact h1
  · unfold imM at h2 ⊢; rw [e51, e53]; exact h2
  · unfold tpM at h3 ⊢; rw [e55, hf.1 10 (by omega)]; exact h3
  · rw [hf.1 15 (by omega)]; exact h4
  · unfold shM at h5 ⊢; rw [e60, e61, e62]; exact h5
  · rw [hf.1 30 (by omega)]; exact h6
/-! a boat's number -/
def isB (n : Nat) (b : Int32) : Prop := 0 ≤ b.toInt ∧ b.toInt < (n : Int)
def iB (n : Nat) (b : Int32) : Bool := decide (0 ≤ b.toInt) && decide (b.toInt < (n : Int))
theorem iB_of {n : Nat} {b : Int32} (h : iB n b = true) : ∃ j, j < n ∧ b = nI j := by
  simp only [iB, Bool.and_eq_true, decide_eq_true_eq] at h
  exact ⟨b.toInt.toNat, by omega, ti_nI h.1⟩
theorem iB_n {n j : Nat} (h : j < 2147483648) : iB n (nI j) = decide (j < n) := by
  rw [iB, ti_n h]
  by_cases q : j < n
  · simp [q]
  · simp [q]
/-- within, as a yes or no -/
def wi (v : Int32) (lo hi : Int) : Bool := decide (lo ≤ v.toInt) && decide (v.toInt ≤ hi)
theorem wi_of {v : Int32} {hi : Nat} (h : wi v 0 hi = true) : ∃ j, j ≤ hi ∧ v = nI j := by
  simp only [wi, Bool.and_eq_true, decide_eq_true_eq] at h
  exact ⟨v.toInt.toNat, by omega, ti_nI h.1⟩
theorem wi_n {j : Nat} {lo hi : Int} (h : j < 2147483648) : wi (nI j) lo hi = (decide (lo ≤ (j : Int)) && decide ((j : Int) ≤ hi)) := by rw [wi, ti_n h]

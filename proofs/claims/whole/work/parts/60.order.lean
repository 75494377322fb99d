/-! ===== the class: order ===== -/
/-- the plan holds the first of the least so far -/
def orR (w : zW) (n : Nat) (K : Nat → Nat) (X : Nat) : Prop := match orX n K X with
  | none => w 36 0 = 1000000
  | some x => w 36 0 = nI (oc n K x) ∧ ∀ j, j < n → w 37 j = nI (dg n x j)
theorem orR.congr {w w' : zW} {n X : Nat} {K : Nat → Nat} (h : orR w n K X) (h0 : w' 36 = w 36) (h1 : w' 37 = w 37) : orR w' n K X := by
  unfold orR at h ⊢
  cases e : orX n K X with
  | none => rw [e] at h; show w' 36 0 = _; rw [h0]; exact h
  | some x => rw [e] at h; exact ⟨by rw [h0]; exact h.1, fun j hj => by rw [h1]; exact h.2 j hj⟩
/-- a beginning of an order -/
def pO (n k : Nat) (p : Nat → Nat) : Prop := (∀ i, i < k → p i < n) ∧ ∀ i j, i < j → j < k → p i ≠ p j
theorem nu_congr {p p' : Nat → Nat} : ∀ k, (∀ j, j < k → p j = p' j) → nu p k = nu p' k := by
  intro k
  induction k with
  | zero => intro _; rfl
  | succ k ih => intro h; rw [nu, nu, ih (fun j hj => h j (by omega)), h k (by omega)]
theorem pO_I {A n : Nat} {K p : Nat → Nat} (hV : kV A n K) (hA : A ≤ 200) : ∀ k, k ≤ n → pO n k p → dI n k (d_ord K p k) ∧ dJ n K k (d_ord K p k) ∧ ∀ j, j < k → d_p (d_ord K p k) j = p j := by
  intro k
  induction k with
  | zero => intro _ _; exact ⟨dI_nil hV, dJ_nil, fun j hj => absurd hj (Nat.not_lt_zero j)⟩
  | succ i ih =>
    intro hi ho
    obtain ⟨h1, h2, h3⟩ := ih (by omega) ⟨fun j hj => ho.1 j (by omega), fun a b h4 h5 => ho.2 a b h4 (by omega)⟩
    have hb := ho.1 i (by omega)
    have hg : bi (d_g (d_ord K p i)) (p i) = 0 := by
      rcases bi_01 (d_g (d_ord K p i)) (p i) with z | z
      · exact z
      · obtain ⟨j, hj, hp⟩ := (h2.2.1 (p i) hb).mp z
        rw [h3 j hj] at hp
        exact absurd hp (ho.2 j i hj (by omega))
    rw [d_ord]
    refine ⟨dI_let hV hA h1 (by omega) hb hg, dJ_let hV h1 h2 hb hg, fun j hj => ?_⟩
    show un (d_p (d_ord K p i)) i (p i) j = p j
    by_cases e : j = i
    · rw [e, un_s]
    · rw [un_n e]
      exact h3 j (by omega)
/-- who is gone: those that the beginning names -/
theorem pO_g {A n k b : Nat} {K p : Nat → Nat} (hV : kV A n K) (hA : A ≤ 200) (hk : k ≤ n) (ho : pO n k p) (hb : b < n) : bi (d_g (d_ord K p k)) b = 1 ↔ ∃ j, j < k ∧ p j = b := by
  obtain ⟨-, h2, h3⟩ := pO_I hV hA k hk ho
  rw [h2.2.1 b hb]
  exact ⟨fun ⟨j, hj, e⟩ => ⟨j, hj, by rw [← h3 j hj]; exact e⟩, fun ⟨j, hj, e⟩ => ⟨j, hj, by rw [h3 j hj]; exact e⟩⟩
theorem nu_un {p : Nat → Nat} {k b : Nat} : nu (un p k b) (k + 1) = nu p k * 6 + b := by
  rw [nu, un_s, nu_congr (p := un p k b) (p' := p) k (fun j hj => un_n (by omega))]
theorem pO_un {A n k b : Nat} {K p : Nat → Nat} (hV : kV A n K) (hA : A ≤ 200) (hk : k < n) (ho : pO n k p) (hb : b < n) (hg : bi (d_g (d_ord K p k)) b = 0) : pO n (k + 1) (un p k b) := by
  refine ⟨fun i hi => ?_, fun i j hi hj => ?_⟩
  · by_cases e : i = k
    · rw [e, un_s]; exact hb
    · rw [un_n e]; exact ho.1 i (by omega)
  · by_cases e : j = k
    · rw [e, un_s, un_n (by omega)]
      intro z
      have := (pO_g hV hA (by omega) ho hb).mpr ⟨i, by omega, z⟩
      rw [hg] at this
      cases this
    · rw [un_n e, un_n (by omega)]
      exact ho.2 i j hi (by omega)
/-- a boat that is gone, a digit that is no boat: no order goes on so -/
theorem orX_gone {A n k b m : Nat} {K p : Nat → Nat} (hV : kV A n K) (hA : A ≤ 200) (hm : k + 1 + m = n) (ho : pO n k p) (hb : b < 6) (hg : n ≤ b ∨ bi (d_g (d_ord K p k)) b = 1) : orX n K ((nu p k * 6 + b + 1) * 6 ^ m) = orX n K ((nu p k * 6 + b) * 6 ^ m) := by
  have hn := hV.n
  have h := orX_no (n := n) (k := k + 1) (K := K) (p := un p k b) (by omega) (fun i hi => by
    by_cases e : i = k
    · rw [e, un_s]; exact hb
    · rw [un_n e]; have := ho.1 i (by omega); omega) (fun o h1 h2 => by
    have e1 := h2 k (by omega)
    rw [un_s] at e1
    have e2 := h1.1 k (by omega)
    rcases hg with h3 | h3
    · omega
    · obtain ⟨j, hj, e3⟩ := (pO_g hV hA (by omega) ho (by omega)).mp h3
      have e4 := h2 j (by omega)
      rw [un_n (by omega), e3] at e4
      exact h1.2 j k hj (by omega) (e4.trans e1.symm))
  rw [nu_un, show n - (k + 1) = m by omega] at h
  exact h
theorem orX_hi {A n k m : Nat} {K p : Nat → Nat} (hV : kV A n K) (hA : A ≤ 200) (hm : k + 1 + m = n) (ho : pO n k p) : ∀ t, n + t ≤ 6 → orX n K ((nu p k * 6 + (n + t)) * 6 ^ m) = orX n K ((nu p k * 6 + n) * 6 ^ m) := by
  intro t
  induction t with
  | zero => intro _; rfl
  | succ t ih =>
    intro h
    have h1 := orX_gone (b := n + t) hV hA hm ho (by omega) (Or.inl (by omega))
    rw [show nu p k * 6 + (n + (t + 1)) = nu p k * 6 + (n + t) + 1 by omega, h1]
    exact ih (by omega)
/-- the whole order: it is the first of the least, if it costs less -/
theorem orR_leaf {A n : Nat} {K p : Nat → Nat} {w w' : zW} (hV : kV A n K) (hA : A ≤ 200) (ho : pO n n p) (h : orR w n K (nu p n)) (hc : nI (sco n K (d_ord K p n)) < w 36 0) (h0 : w' 36 0 = nI (sco n K (d_ord K p n))) (h1 : ∀ j, j < n → w' 37 j = nI (p j)) : orR w' n K (nu p n + 1) := by
  have hn := hV.n
  have hd : ∀ j, j < n → dg n (nu p n) j = p j := fun j hj => dg_pre (Nat.le_refl n) hj (fun i hi => by have := ho.1 i hi; omega) (by simp)
  have hO : isO n (nu p n) = true := isO_iff.mpr ⟨fun i hi => by rw [hd i hi]; exact ho.1 i hi, fun i j hi hj => by rw [hd i (by omega), hd j hj]; exact ho.2 i j hi hj⟩
  have hcs : oc n K (nu p n) = sco n K (d_ord K p n) := by unfold oc; rw [d_ord_congr (o' := p) n hd]
  have key : orX n K (nu p n + 1) = some (nu p n) := by
    unfold orX
    rw [am]
    unfold orR orX at h
    cases e : am (nu p n) (isO n) (oc n K) with
    | none => simp [hO]
    | some x =>
      rw [e] at h
      rw [h.1] at hc
      have b1 : ∀ y, isO n y = true → oc n K y ≤ 21600 := fun y hy => sm_b hV (d_ord_I hV hA (isO_iff.mp hy) n (Nat.le_refl n)).1
      have b2 := b1 x (am_some e).2.1
      have b3 := b1 _ hO
      rw [← hcs] at hc
      have := (nI_lt' (by omega) (by omega)).mp hc
      simp only [hO, this, and_self, if_true]
  unfold orR
  rw [key]
  exact ⟨by rw [hcs]; exact h0, fun j hj => by rw [hd j hj]; exact h1 j hj⟩
theorem orR_same {w : zW} {n X X' : Nat} {K : Nat → Nat} (h : orR w n K X) (e : orX n K X' = orX n K X) : orR w n K X' := by
  unfold orR at h ⊢
  rw [e]
  exact h

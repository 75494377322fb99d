/-! ===== the class: order ===== -/
/-- the plan holds the first of the least so far -/
def orR (w : zW) (n : Nat) (K : Nat → Nat) (X : Nat) : Prop := match orX n K X with
  | none => w 36 0 = 2147483647
  | some x => w 36 0 = nI (oc n K x) ∧ ∀ j, j < n → w 37 j = nI (dg n x j)
theorem orR.congr {w w' : zW} {n X : Nat} {K : Nat → Nat} (h : orR w n K X) (h0 : w' 36 = w 36) (h1 : w' 37 = w 37) : orR w' n K X := by
  unfold orR at h ⊢
  cases e : orX n K X with
  | none => rw [e] at h; show w' 36 0 = _; rw [h0]; exact h
  | some x => rw [e] at h; exact ⟨by rw [h0]; exact h.1, fun j hj => by rw [h1]; exact h.2 j hj⟩
/-- a beginning of an order -/
def pO (n k : Nat) (p : Nat → Nat) : Prop := (∀ i, i < k → p i < n) ∧ ∀ i j, i < j → j < k → p i ≠ p j
theorem nu_congr {p p' : Nat → Nat} : ∀ k, (∀ j, j < k → p j = p' j) → nu p k = nu p' k := by
  intro k
  induction k with
  | zero => intro _; rfl
  | succ k ih => intro h; rw [nu, nu, ih (fun j hj => h j (by omega)), h k (by omega)]
theorem pO_I {A n : Nat} {K p : Nat → Nat} (hV : kV A n K) (hA : A ≤ 200) : ∀ k, k ≤ n → pO n k p → dI n k (d_ord K p k) ∧ dJ n K k (d_ord K p k) ∧ ∀ j, j < k → d_p (d_ord K p k) j = p j := by
  intro k
  induction k with
  | zero => intro _ _; exact ⟨dI_nil hV, dJ_nil, fun j hj => absurd hj (Nat.not_lt_zero j)⟩
  | succ i ih =>
    intro hi ho
    obtain ⟨h1, h2, h3⟩ := ih (by omega) ⟨fun j hj => ho.1 j (by omega), fun a b h4 h5 => ho.2 a b h4 (by omega)⟩
    have hb := ho.1 i (by omega)
    have hg : bi (d_g (d_ord K p i)) (p i) = 0 := by
      rcases bi_01 (d_g (d_ord K p i)) (p i) with z | z
      · exact z
      · obtain ⟨j, hj, hp⟩ := (h2.2.1 (p i) hb).mp z
        rw [h3 j hj] at hp
        exact absurd hp (ho.2 j i hj (by omega))
    rw [d_ord]
    refine ⟨dI_let hV hA h1 (by omega) hb hg, dJ_let hV h1 h2 hb hg, fun j hj => ?_⟩
    show un (d_p (d_ord K p i)) i (p i) j = p j
    by_cases e : j = i
    · rw [e, un_s]
    · rw [un_n e]
      exact h3 j (by omega)
/-- who is gone: those that the beginning names -/
theorem pO_g {A n k b : Nat} {K p : Nat → Nat} (hV : kV A n K) (hA : A ≤ 200) (hk : k ≤ n) (ho : pO n k p) (hb : b < n) : bi (d_g (d_ord K p k)) b = 1 ↔ ∃ j, j < k ∧ p j = b := by
  obtain ⟨-, h2, h3⟩ := pO_I hV hA k hk ho
  rw [h2.2.1 b hb]
  exact ⟨fun ⟨j, hj, e⟩ => ⟨j, hj, by rw [← h3 j hj]; exact e⟩, fun ⟨j, hj, e⟩ => ⟨j, hj, by rw [h3 j hj]; exact e⟩⟩

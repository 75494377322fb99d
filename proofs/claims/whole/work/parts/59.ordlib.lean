/-! ===== orders by their numbers ===== -/
theorem am_keep {p : Nat → Bool} {f : Nat → Nat} {X : Nat} : ∀ k, (∀ y, X ≤ y → y < X + k → p y = true → ∃ b, am X p f = some b ∧ f b ≤ f y) → am (X + k) p f = am X p f := by
  intro k
  induction k with
  | zero => intro _; rfl
  | succ k ih =>
    intro h
    have h1 := ih (fun y h2 h3 => h y h2 (by omega))
    rw [show X + (k + 1) = X + k + 1 by omega, am, h1]
    cases e : am X p f with
    | none =>
      by_cases c : p (X + k) = true
      · obtain ⟨b, h2, -⟩ := h (X + k) (by omega) (by omega) c
        rw [e] at h2
        cases h2
      · simp [c]
    | some b =>
      by_cases c : p (X + k) = true
      · obtain ⟨b', h2, h3⟩ := h (X + k) (by omega) (by omega) c
        rw [e] at h2
        cases h2
        simp only [c, true_and]
        rw [if_neg (by omega)]
      · simp [c]
/-- digit j of a number of n digits -/
def dg (n x j : Nat) : Nat := x / 6 ^ (n - 1 - j) % 6
/-- a number by its first k digits -/
def nu (p : Nat → Nat) : Nat → Nat
  | 0 => 0
  | k + 1 => nu p k * 6 + p k
theorem nu_div {p : Nat → Nat} {k : Nat} : ∀ m, (∀ j, k ≤ j → j < k + m → p j < 6) → nu p (k + m) / 6 ^ m = nu p k := by
  intro m
  induction m with
  | zero => intro _; simp
  | succ m ih =>
    intro h
    have h1 := ih (fun j h1 h2 => h j h1 (by omega))
    have h2 := h (k + m) (by omega) (by omega)
    rw [show k + (m + 1) = k + m + 1 by omega, nu, Nat.pow_succ, Nat.mul_comm (6 ^ m) 6, ← Nat.div_div_eq_div_mul]
    rw [show (nu p (k + m) * 6 + p (k + m)) / 6 = nu p (k + m) by omega]
    exact h1
/-- the first digits of a number that begins so -/
theorem dg_pre {n k y j : Nat} {p : Nat → Nat} (hk : k ≤ n) (hj : j < k) (hp : ∀ i, i < k → p i < 6) (h : y / 6 ^ (n - k) = nu p k) : dg n y j = p j := by
  unfold dg
  rw [show n - 1 - j = (n - k) + (k - 1 - j) by omega, Nat.pow_add, ← Nat.div_div_eq_div_mul, h]
  have h1 := nu_div (p := p) (k := j + 1) (k - 1 - j) (fun i h1 h2 => hp i (by omega))
  rw [show j + 1 + (k - 1 - j) = k by omega] at h1
  rw [h1, nu]
  have := hp j hj
  omega

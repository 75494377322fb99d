/-! ===== orders by their numbers ===== -/
theorem am_keep {p : Nat → Bool} {f : Nat → Nat} {X : Nat} : ∀ k, (∀ y, X ≤ y → y < X + k → p y = true → ∃ b, am X p f = some b ∧ f b ≤ f y) → am (X + k) p f = am X p f := by
  intro k
  induction k with
  | zero => intro _; rfl
  | succ k ih =>
    intro h
    have h1 := ih (fun y h2 h3 => h y h2 (by omega))
    rw [show X + (k + 1) = X + k + 1 by omega, am, h1]
    cases e : am X p f with
    | none =>
      by_cases c : p (X + k) = true
      · obtain ⟨b, h2, -⟩ := h (X + k) (by omega) (by omega) c
        rw [e] at h2
        cases h2
      · simp [c]
    | some b =>
      by_cases c : p (X + k) = true
      · obtain ⟨b', h2, h3⟩ := h (X + k) (by omega) (by omega) c
        rw [e] at h2
        cases h2
        simp only [c, true_and]
        rw [if_neg (by omega)]
      · simp [c]
/-- digit j of a number of n digits -/
def dg (n x j : Nat) : Nat := x / 6 ^ (n - 1 - j) % 6
/-- a number by its first k digits -/
def nu (p : Nat → Nat) : Nat → Nat
  | 0 => 0
  | k + 1 => nu p k * 6 + p k
theorem nu_div {p : Nat → Nat} {k : Nat} : ∀ m, (∀ j, k ≤ j → j < k + m → p j < 6) → nu p (k + m) / 6 ^ m = nu p k := by
  intro m
  induction m with
  | zero => intro _; simp
  | succ m ih =>
    intro h
    have h1 := ih (fun j h1 h2 => h j h1 (by omega))
    have h2 := h (k + m) (by omega) (by omega)
    rw [show k + (m + 1) = k + m + 1 by omega, nu, Nat.pow_succ, Nat.mul_comm (6 ^ m) 6, ← Nat.div_div_eq_div_mul]
    rw [show (nu p (k + m) * 6 + p (k + m)) / 6 = nu p (k + m) by omega]
    exact h1
/-- the first digits of a number that begins so -/
theorem dg_pre {n k y j : Nat} {p : Nat → Nat} (hk : k ≤ n) (hj : j < k) (hp : ∀ i, i < k → p i < 6) (h : y / 6 ^ (n - k) = nu p k) : dg n y j = p j := by
  unfold dg
  rw [show n - 1 - j = (n - k) + (k - 1 - j) by omega, Nat.pow_add, ← Nat.div_div_eq_div_mul, h]
  have h1 := nu_div (p := p) (k := j + 1) (k - 1 - j) (fun i h1 h2 => hp i (by omega))
  rw [show j + 1 + (k - 1 - j) = k by omega] at h1
  rw [h1, nu]
  have := hp j hj
  omega
/-- the cost of those that are through -/
def sco (n : Nat) (K : Nat → Nat) (D : dT) : Nat := sm n fun b => if bi (d_g D) b = 1 then d_s D b * k_wo K b else 0
theorem sco_let {A n i b : Nat} {K : Nat → Nat} {s : dT} (hV : kV A n K) (h : dI n i s) (hb : b < n) (h0 : bi (d_g s) b = 0) : sco n K (d_let K i b s) = sco n K s + d_s (d_let K i b s) b * k_wo K b :=
  sm_let hV.n hb (Nat.lt_of_lt_of_le h.1 (p2_le n (by have := hV.n; omega))) h0
theorem sco_mono {A n k : Nat} {K o : Nat → Nat} (hV : kV A n K) (hA : A ≤ 200) (ho : oO n o) : ∀ m, k + m ≤ n → sco n K (d_ord K o k) ≤ sco n K (d_ord K o (k + m)) := by
  intro m
  induction m with
  | zero => intro _; exact Nat.le_refl _
  | succ m ih =>
    intro h
    have h1 := ih (by omega)
    rw [show k + (m + 1) = k + m + 1 by omega, d_ord, sco_let hV (d_ord_I hV hA ho (k + m) (by omega)).1 (ho.1 _ (by omega)) (d_ord_0 hV hA ho (by omega))]
    omega
theorem d_ord_congr {K o o' : Nat → Nat} : ∀ k, (∀ j, j < k → o j = o' j) → d_ord K o k = d_ord K o' k := by
  intro k
  induction k with
  | zero => intro _; rfl
  | succ k ih =>
    intro h
    rw [d_ord, d_ord, ih (fun j hj => h j (by omega)), h k (by omega)]
def isO (n x : Nat) : Bool := decide ((∀ i, i < n → dg n x i < n) ∧ ∀ k, k < n → ∀ j, j < k → dg n x j ≠ dg n x k)
theorem isO_iff {n x : Nat} : isO n x = true ↔ oO n (dg n x) := by
  unfold isO oO
  rw [decide_eq_true_iff]
  exact ⟨fun h => ⟨h.1, fun j k hj hk => h.2 k hk j hj⟩, fun h => ⟨h.1, fun k hk j hj => h.2 j k hj hk⟩⟩
def oc (n : Nat) (K : Nat → Nat) (x : Nat) : Nat := sco n K (d_ord K (dg n x) n)
/-- an order costs no less than its beginning -/
theorem oc_cut {A n k y : Nat} {K p : Nat → Nat} (hV : kV A n K) (hA : A ≤ 200) (hk : k ≤ n) (hp : ∀ i, i < k → p i < 6) (h : y / 6 ^ (n - k) = nu p k) (hy : isO n y = true) : sco n K (d_ord K p k) ≤ oc n K y := by
  have ho := isO_iff.mp hy
  have h1 := sco_mono (k := k) hV hA ho (n - k) (by omega)
  rw [show k + (n - k) = n by omega, d_ord_congr (o' := p) k (fun j hj => dg_pre hk hj hp h)] at h1
  exact h1
/-- the first of the least so far -/
def orX (n : Nat) (K : Nat → Nat) (X : Nat) : Option Nat := am X (isO n) (oc n K)
theorem orX_cut {A n k C : Nat} {K p : Nat → Nat} (hV : kV A n K) (hA : A ≤ 200) (hk : k ≤ n) (hp : ∀ i, i < k → p i < 6) (hC : ∃ b, orX n K (nu p k * 6 ^ (n - k)) = some b ∧ oc n K b = C) (hc : C ≤ sco n K (d_ord K p k)) : orX n K ((nu p k + 1) * 6 ^ (n - k)) = orX n K (nu p k * 6 ^ (n - k)) := by
  obtain ⟨b, hb, hbC⟩ := hC
  rw [Nat.succ_mul]
  refine am_keep (6 ^ (n - k)) (fun y h1 h2 h3 => ⟨b, hb, ?_⟩)
  have h4 := oc_cut hV hA hk hp (y := y) (Nat.div_eq_of_lt_le h1 (by rw [Nat.succ_mul]; exact h2)) h3
  omega
/-- no order begins so -/
theorem orX_no {n k : Nat} {K p : Nat → Nat} (hk : k ≤ n) (hp : ∀ i, i < k → p i < 6) (h : ∀ o, oO n o → (∀ j, j < k → o j = p j) → False) : orX n K ((nu p k + 1) * 6 ^ (n - k)) = orX n K (nu p k * 6 ^ (n - k)) := by
  rw [Nat.succ_mul]
  refine am_keep (6 ^ (n - k)) (fun y h1 h2 h3 => ?_)
  exact absurd (isO_iff.mp h3) (fun ho => h _ ho (fun j hj => dg_pre hk hj hp (Nat.div_eq_of_lt_le h1 (by rw [Nat.succ_mul]; exact h2))))

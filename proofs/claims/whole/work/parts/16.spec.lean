/-! ===== the day, in numbers ===== -/
/-- bit b of a set -/
def bi (g b : Nat) : Nat := g / 2 ^ b % 2
theorem bi_lt (g b : Nat) : bi g b < 2 := Nat.mod_lt _ (by decide)
theorem bi_01 (g b : Nat) : bi g b = 0 ∨ bi g b = 1 := by have := bi_lt g b; omega
/-- the first of the least of those below n with p -/
def am : Nat → (Nat → Bool) → (Nat → Nat) → Option Nat
  | 0, _, _ => none
  | n + 1, p, f => match am n p f with
    | none => if p n = true then some n else none
    | some b => if p n = true ∧ f n < f b then some n else some b
theorem am_none {n : Nat} {p : Nat → Bool} {f : Nat → Nat} : am n p f = none ↔ ∀ c, c < n → p c = false := by
  induction n with
  | zero => exact ⟨fun _ c h => absurd h (Nat.not_lt_zero c), fun _ => rfl⟩
  | succ n ih =>
    rw [am]
    cases h : am n p f with
    | none =>
      have h0 := ih.mp h
      by_cases hp : p n = true
      · simp only [hp, if_true]
        exact ⟨fun z => absurd z (by simp), fun z => by have := z n (Nat.lt_succ_self n); rw [hp] at this; cases this⟩
      · simp only [hp]
        refine ⟨fun _ c hc => ?_, fun _ => by simp⟩
        rcases Nat.lt_succ_iff_lt_or_eq.mp hc with h1 | h1
        · exact h0 c h1
        · subst h1; simpa using hp
    | some b =>
      refine ⟨fun z => ?_, fun z => ?_⟩
      · by_cases hc : p n = true ∧ f n < f b
        · simp only [if_pos hc] at z
          exact nomatch z
        · simp only [if_neg hc] at z
          exact nomatch z
      · have := ih.mpr (fun c hc => z c (Nat.lt_succ_of_lt hc))
        rw [h] at this
        exact nomatch this
theorem am_some {n : Nat} {p : Nat → Bool} {f : Nat → Nat} : ∀ {b : Nat}, am n p f = some b → b < n ∧ p b = true ∧ (∀ c, c < n → p c = true → f b ≤ f c) ∧ (∀ c, c < b → p c = true → f b < f c) := by
  induction n with
  | zero => intro b h; cases h
  | succ n ih =>
    intro b h
    rw [am] at h
    cases h0 : am n p f with
    | none =>
      rw [h0] at h
      have hn := am_none.mp h0
      by_cases hp : p n = true
      · simp only [hp, if_true] at h
        cases h
        refine ⟨Nat.lt_succ_self n, hp, fun c hc hpc => ?_, fun c hc hpc => ?_⟩
        · rcases Nat.lt_succ_iff_lt_or_eq.mp hc with h1 | h1
          · rw [hn c h1] at hpc; cases hpc
          · subst h1; exact Nat.le_refl _
        · rw [hn c hc] at hpc; cases hpc
      · simp [hp] at h
    | some b0 =>
      rw [h0] at h
      obtain ⟨i1, i2, i3, i4⟩ := ih h0
      by_cases hc : p n = true ∧ f n < f b0
      · simp only [if_pos hc] at h
        cases h
        refine ⟨Nat.lt_succ_self n, hc.1, fun c hcn hpc => ?_, fun c hcn hpc => ?_⟩
        · rcases Nat.lt_succ_iff_lt_or_eq.mp hcn with h1 | h1
          · have := i3 c h1 hpc; omega
          · subst h1; exact Nat.le_refl _
        · have := i3 c hcn hpc; omega
      · simp only [if_neg hc] at h
        cases h
        refine ⟨Nat.lt_succ_of_lt i1, i2, fun c hcn hpc => ?_, i4⟩
        rcases Nat.lt_succ_iff_lt_or_eq.mp hcn with h1 | h1
        · exact i3 c h1 hpc
        · subst h1
          by_cases h2 : f c < f b
          · exact absurd ⟨hpc, h2⟩ hc
          · omega
theorem am_of {n : Nat} {p : Nat → Bool} {f : Nat → Nat} {b : Nat} (h1 : b < n) (h2 : p b = true) (h3 : ∀ c, c < n → p c = true → f b ≤ f c) (h4 : ∀ c, c < b → p c = true → f b < f c) : am n p f = some b := by
  cases h : am n p f with
  | none => rw [am_none.mp h b h1] at h2; cases h2
  | some b0 =>
    obtain ⟨i1, i2, i3, i4⟩ := am_some h
    rcases Nat.lt_trichotomy b b0 with q | q | q
    · have a := i4 b q h2; have := h3 b0 i1 i2; omega
    · rw [q]
    · have a := h4 b0 q i2; have := i3 b h1 h2; omega
theorem am_congr {n : Nat} {p q : Nat → Bool} {f g : Nat → Nat} (h : ∀ c, c < n → p c = q c) (hf : ∀ c, c < n → f c = g c) : am n p f = am n q g := by
  induction n with
  | zero => rfl
  | succ n ih =>
    rw [am, am, ih (fun c hc => h c (Nat.lt_succ_of_lt hc)) (fun c hc => hf c (Nat.lt_succ_of_lt hc)), h n (Nat.lt_succ_self n)]
    cases h0 : am n q g with
    | none => rfl
    | some b => simp only [hf n (Nat.lt_succ_self n), hf b (Nat.lt_succ_of_lt (am_some h0).1)]
/-- how many of those below n -/
def cn : Nat → (Nat → Bool) → Nat
  | 0, _ => 0
  | n + 1, p => cn n p + (if p n = true then 1 else 0)
theorem cn_le {n : Nat} {p : Nat → Bool} : cn n p ≤ n := by
  induction n with
  | zero => exact Nat.le_refl _
  | succ n ih => rw [cn]; split <;> omega
theorem cn_congr {n : Nat} {p q : Nat → Bool} (h : ∀ c, c < n → p c = q c) : cn n p = cn n q := by
  induction n with
  | zero => rfl
  | succ n ih => rw [cn, cn, ih (fun c hc => h c (Nat.lt_succ_of_lt hc)), h n (Nat.lt_succ_self n)]
theorem cn_pos {n : Nat} {p : Nat → Bool} (h : cn n p < n) : ∃ c, c < n ∧ p c = false := by
  induction n with
  | zero => exact absurd h (Nat.not_lt_zero _)
  | succ n ih =>
    rw [cn] at h
    by_cases hp : p n = true
    · simp only [hp, if_true] at h
      obtain ⟨c, h1, h2⟩ := ih (by omega)
      exact ⟨c, Nat.lt_succ_of_lt h1, h2⟩
    · exact ⟨n, Nat.lt_succ_self n, by simpa using hp⟩
theorem cn_all {n : Nat} {p : Nat → Bool} (h : cn n p = n) : ∀ c, c < n → p c = true := by
  induction n with
  | zero => intro c hc; exact absurd hc (Nat.not_lt_zero c)
  | succ n ih =>
    intro c hc
    rw [cn] at h
    have h0 := cn_le (n := n) (p := p)
    by_cases hp : p n = true
    · simp only [hp, if_true] at h
      rcases Nat.lt_succ_iff_lt_or_eq.mp hc with h1 | h1
      · exact ih (by omega) c h1
      · rw [h1]; exact hp
    · simp only [hp] at h
      have : cn n p = n + 1 := by simpa using h
      omega
theorem cn_add {n b : Nat} {p q : Nat → Bool} (hb : b < n) (hp : p b = false) (hq : q b = true) (h : ∀ c, c < n → c ≠ b → q c = p c) : cn n q = cn n p + 1 := by
  induction n with
  | zero => exact absurd hb (Nat.not_lt_zero b)
  | succ n ih =>
    rw [cn, cn]
    by_cases hbn : b = n
    · subst hbn
      rw [cn_congr (p := q) (q := p) (fun c hc => h c (Nat.lt_succ_of_lt hc) (by omega))]
      simp [hp, hq]
    · rw [ih (by omega) (fun c hc => h c (Nat.lt_succ_of_lt hc)), h n (Nat.lt_succ_self n) (by omega)]
      omega
/-- sums -/
def sm : Nat → (Nat → Nat) → Nat
  | 0, _ => 0
  | n + 1, f => sm n f + f n
theorem sm_congr {n : Nat} {f g : Nat → Nat} (h : ∀ c, c < n → f c = g c) : sm n f = sm n g := by
  induction n with
  | zero => rfl
  | succ n ih => rw [sm, sm, ih (fun c hc => h c (Nat.lt_succ_of_lt hc)), h n (Nat.lt_succ_self n)]
theorem sm_set {n b : Nat} {f g : Nat → Nat} (hb : b < n) (h : ∀ c, c < n → c ≠ b → g c = f c) : sm n g + f b = sm n f + g b := by
  induction n with
  | zero => exact absurd hb (Nat.not_lt_zero b)
  | succ n ih =>
    rw [sm, sm]
    by_cases hbn : b = n
    · subst hbn
      rw [sm_congr (f := g) (g := f) (fun c hc => h c (Nat.lt_succ_of_lt hc) (by omega))]
      omega
    · have := ih (by omega) (fun c hc => h c (Nat.lt_succ_of_lt hc))
      rw [h n (Nat.lt_succ_self n) (by omega)]
      omega
theorem sm_le {n M : Nat} {f : Nat → Nat} (h : ∀ c, c < n → f c ≤ M) : sm n f ≤ n * M := by
  induction n with
  | zero => exact Nat.zero_le _
  | succ n ih =>
    rw [sm, Nat.succ_mul]
    have := ih (fun c hc => h c (Nat.lt_succ_of_lt hc))
    have := h n (Nat.lt_succ_self n)
    omega
/-- the greatest -/
def mx : Nat → (Nat → Nat) → Nat
  | 0, _ => 0
  | n + 1, f => max (mx n f) (f n)
theorem mx_congr {n : Nat} {f g : Nat → Nat} (h : ∀ c, c < n → f c = g c) : mx n f = mx n g := by
  induction n with
  | zero => rfl
  | succ n ih => rw [mx, mx, ih (fun c hc => h c (Nat.lt_succ_of_lt hc)), h n (Nat.lt_succ_self n)]
theorem mx_set {n b : Nat} {f g : Nat → Nat} (hb : b < n) (hf : f b = 0) (h : ∀ c, c < n → c ≠ b → g c = f c) : mx n g = max (mx n f) (g b) := by
  induction n with
  | zero => exact absurd hb (Nat.not_lt_zero b)
  | succ n ih =>
    rw [mx, mx]
    by_cases hbn : b = n
    · subst hbn
      rw [mx_congr (f := g) (g := f) (fun c hc => h c (Nat.lt_succ_of_lt hc) (by omega)), hf]
      omega
    · rw [ih (by omega) (fun c hc => h c (Nat.lt_succ_of_lt hc)), h n (Nat.lt_succ_self n) (by omega)]
      omega
theorem mx_le {n M : Nat} {f : Nat → Nat} (h : ∀ c, c < n → f c ≤ M) : mx n f ≤ M := by
  induction n with
  | zero => exact Nat.zero_le _
  | succ n ih =>
    rw [mx]
    have := ih (fun c hc => h c (Nat.lt_succ_of_lt hc))
    have := h n (Nat.lt_succ_self n)
    omega
/-! the lock's numbers: K 0 .. K 5 rules, K (6 + 6 b + ..) a boat's marks -/
def k_sd (K : Nat → Nat) (b : Nat) : Nat := K (6 + 6 * b)
def k_ar (K : Nat → Nat) (b : Nat) : Nat := K (6 + 6 * b + 2)
def k_wo (K : Nat → Nat) (b : Nat) : Nat := K (6 + 6 * b + 3)
/-- from when on a boat counts -/
def k_ct (K : Nat → Nat) (b : Nat) : Nat := K (6 + 6 * b + 2) - (if K 5 = 1 ∧ K 4 < K (6 + 6 * b + 4) then K (6 + 6 * b + 4) else K 4)
/-- the cargo that it tells -/
def k_tl (K : Nat → Nat) (cg b : Nat) : Nat := if K (6 + 6 * b + 5) = 0 then K (6 + 6 * b + 1) else if bi cg b = 1 then 4 else 0
/-- what a day knows of -/
def kV (A n : Nat) (K : Nat → Nat) : Prop := n ≤ 6 ∧ (1 ≤ K 0 ∧ K 0 ≤ 9) ∧ K 1 ≤ 9 ∧ K 2 ≤ 1 ∧ K 3 ≤ 4 ∧ K 4 ≤ 9 ∧ K 5 ≤ 1 ∧ ∀ b, b < n → K (6 + 6 * b) ≤ 1 ∧ K (6 + 6 * b + 1) ≤ 3 ∧ K (6 + 6 * b + 2) ≤ A ∧ K (6 + 6 * b + 3) ≤ 9 ∧ K (6 + 6 * b + 4) ≤ 9 ∧ K (6 + 6 * b + 5) ≤ 1
/-- a day so far: gone, free, ready, who passed, stood, through, water, turned -/
abbrev dT : Type := Nat × Nat × Nat × (Nat → Nat) × (Nat → Nat) × (Nat → Nat) × Nat × Nat
abbrev d_g (s : dT) : Nat := s.1
abbrev d_f (s : dT) : Nat := s.2.1
abbrev d_r (s : dT) : Nat := s.2.2.1
abbrev d_p (s : dT) : Nat → Nat := s.2.2.2.1
abbrev d_s (s : dT) : Nat → Nat := s.2.2.2.2.1
abbrev d_d (s : dT) : Nat → Nat := s.2.2.2.2.2.1
abbrev d_w (s : dT) : Nat := s.2.2.2.2.2.2.1
abbrev d_t (s : dT) : Nat := s.2.2.2.2.2.2.2
def un (f : Nat → Nat) (k v : Nat) : Nat → Nat := fun j => if j = k then v else f j
theorem un_s {f : Nat → Nat} {k v : Nat} : un f k v k = v := if_pos rfl
theorem un_n {f : Nat → Nat} {k v j : Nat} (h : j ≠ k) : un f k v j = f j := if_neg h
/-- the i-th, boat b, is let through -/
def d_let (K : Nat → Nat) (i b : Nat) (s : dT) : dT :=
  let f := if d_r s = k_sd K b then d_f s else d_f s + K 1
  let m := max f (k_ar K b)
  (d_g s + 2 ^ b, m + K 0, 1 - k_sd K b, un (d_p s) i b, un (d_s s) b (m - k_ar K b), un (d_d s) b (m + K 0),
    d_w s + (if d_r s = k_sd K b then 0 else if k_sd K b = 1 then 1 else 0) + (if k_sd K b = 0 then 1 else 0), d_t s + (if d_r s = k_sd K b then 0 else 1))
def d_nil (K : Nat → Nat) : dT := (0, 0, K 2, fun _ => 0, fun _ => 0, fun _ => 0, 0, 0)
/-- it is free till the first one counts -/
def d_wait (n : Nat) (K : Nat → Nat) (s : dT) : Nat := match am n (fun b => bi (d_g s) b == 0) (k_ct K) with
  | none => d_f s
  | some b => max (d_f s) (k_ct K b)
/-- who counts as come -/
def d_in (K : Nat → Nat) (s : dT) (f b : Nat) : Bool := bi (d_g s) b == 0 && decide (k_ct K b ≤ f)
/-- the side that is ahead, by the law -/
def d_side (n : Nat) (K : Nat → Nat) (i : Nat) (s : dT) (f : Nat) : Nat :=
  if K 3 = 2 then (if i = 0 then d_r s else if i = 1 then k_sd K (d_p s 0) else if k_sd K (d_p s (i - 1)) = k_sd K (d_p s (i - 2)) then 1 - k_sd K (d_p s (i - 1)) else k_sd K (d_p s (i - 1)))
  else if K 3 = 4 then (
    let a := cn n (fun b => d_in K s f b && (k_sd K b == 0))
    let z := cn n (fun b => d_in K s f b && (k_sd K b == 1))
    if z < a then 0 else if a < z then 1 else d_r s)
  else d_r s
/-- the rank that the law gives -/
def d_rk (K : Nat → Nat) (cg s b : Nat) : Nat := if K 3 = 3 then k_tl K cg b else if K 3 = 0 then 0 else if k_sd K b = s then 0 else 1
def d_pick (n : Nat) (K : Nat → Nat) (cg i : Nat) (s : dT) : Option Nat :=
  let f := d_wait n K s
  am n (d_in K s f) (fun b => d_rk K cg (d_side n K i s f) b * 1000 + k_ct K b)
def d_step (n : Nat) (K : Nat → Nat) (cg i : Nat) (s : dT) : dT := match d_pick n K cg i s with
  | none => s
  | some b => d_let K i b (d_g s, d_wait n K s, s.2.2)
/-- a day after i boats -/
def d_run (n : Nat) (K : Nat → Nat) (cg : Nat) : Nat → dT
  | 0 => d_nil K
  | i + 1 => d_step n K cg i (d_run n K cg i)
/-- boats in an order, as they are given -/
def d_ord (K : Nat → Nat) (o : Nat → Nat) : Nat → dT
  | 0 => d_nil K
  | i + 1 => d_let K i (o i) (d_ord K o i)

/-! ===== sets as masks ===== -/
def mk : Nat → (Nat → Bool) → Nat
  | 0, _ => 0
  | n + 1, p => mk n p + (if p n = true then 2 ^ n else 0)
theorem mk_lt {n : Nat} {p : Nat → Bool} : mk n p < 2 ^ n := by
  induction n with
  | zero => exact Nat.one_pos
  | succ n ih => rw [mk, Nat.pow_succ]; split <;> omega
theorem mk_64 {n : Nat} {p : Nat → Bool} (hn : n ≤ 6) : mk n p < 64 := Nat.lt_of_lt_of_le mk_lt (p2_le n (by omega))
theorem bi_mk {n : Nat} {p : Nat → Bool} (hn : n ≤ 6) : ∀ b, b < 6 → bi (mk n p) b = if b < n ∧ p b = true then 1 else 0 := by
  induction n with
  | zero =>
    intro b hb
    rw [if_neg (fun z => absurd z.1 (Nat.not_lt_zero b))]
    show (0 : Nat) / 2 ^ b % 2 = 0
    simp
  | succ n ih =>
    intro b hb
    have ih := ih (by omega)
    rw [mk]
    have hz : bi (mk n p) n = 0 := by rw [ih n (by omega), if_neg (fun z => absurd z.1 (Nat.lt_irrefl n))]
    by_cases hp : p n = true
    · rw [if_pos hp, bi_add (mk n p) (mk_64 (by omega)) n (by omega) hz b hb]
      by_cases hbn : b = n
      · subst hbn
        rw [if_pos rfl, if_pos ⟨Nat.lt_succ_self b, hp⟩]
      · rw [if_neg hbn, ih b hb]
        by_cases q : b < n ∧ p b = true
        · rw [if_pos q, if_pos ⟨Nat.lt_succ_of_lt q.1, q.2⟩]
        · rw [if_neg q, if_neg (fun z => q ⟨by omega, z.2⟩)]
    · rw [if_neg hp, Nat.add_zero, ih b hb]
      by_cases q : b < n ∧ p b = true
      · rw [if_pos q, if_pos ⟨Nat.lt_succ_of_lt q.1, q.2⟩]
      · rw [if_neg q, if_neg (fun z => q ⟨by
          rcases Nat.lt_succ_iff_lt_or_eq.mp z.1 with h | h
          · exact h
          · subst h; exact absurd z.2 hp, z.2⟩)]
theorem mk_congr {n : Nat} {p q : Nat → Bool} (h : ∀ b, b < n → p b = q b) : mk n p = mk n q := by
  induction n with
  | zero => rfl
  | succ n ih => rw [mk, mk, ih (fun b hb => h b (Nat.lt_succ_of_lt hb)), h n (Nat.lt_succ_self n)]
/-- a set below 2 ^ n is made of its bits -/
theorem mk_bi : ∀ n, n < 7 → ∀ g, g < 2 ^ n → mk n (fun b => bi g b == 1) = g := by decide +kernel
/-- how many bits -/
theorem sm_bi {n : Nat} {p : Nat → Bool} (hn : n ≤ 6) : sm 6 (bi (mk n p)) = cn n p := by
  have e : ∀ b, b < 6 → bi (mk n p) b = if b < n ∧ p b = true then 1 else 0 := bi_mk hn
  rw [sm_congr e]
  have key : ∀ m, m ≤ n → sm m (fun b => if b < n ∧ p b = true then 1 else 0) = cn m p := by
    intro m hm
    induction m with
    | zero => rfl
    | succ m ih =>
      rw [sm, cn, ih (by omega)]
      by_cases hp : p m = true
      · rw [if_pos ⟨by omega, hp⟩, if_pos hp]
      · rw [if_neg (fun z => hp z.2), if_neg hp]
  have key2 : ∀ m, n ≤ m → sm m (fun b => if b < n ∧ p b = true then 1 else 0) = cn n p := by
    intro m
    induction m with
    | zero => intro hm; exact key 0 (by omega) ▸ (by rw [show n = 0 by omega])
    | succ m ih =>
      intro hm
      rcases Nat.lt_or_ge m n with h | h
      · rw [show m + 1 = n by omega]
        exact key n (Nat.le_refl n)
      · rw [sm, ih h, if_neg (fun z => by omega), Nat.add_zero]
  exact key2 6 hn
theorem or_step {g i : Nat} {q : Prop} [Decidable q] (hg : g < 64) (hi : i < 6) (h : bi g i = 0) : nI g ||| (z_b q <<< (nI i &&& 31)) = nI (g + if q then 2 ^ i else 0) := by
  by_cases hq : q
  · rw [z_bp hq, if_pos hq]
    exact b_or g hg i hi h
  · rw [z_bn hq, if_neg hq, Nat.add_zero]
    have : ∀ i, i < 6 → ((0 : Int32) <<< (nI i &&& 31)) = 0 := by decide +kernel
    rw [this i hi, Int32.or_zero]
theorem mk_top {i : Nat} {p : Nat → Bool} (hi : i < 6) : bi (mk i p) i = 0 := by
  rw [bi_mk (by omega) i hi, if_neg (fun z => absurd z.1 (Nat.lt_irrefl i))]
/-- the others -/
theorem bi_left : ∀ n, n < 7 → ∀ g, g < 2 ^ n → ∀ b, b < n → bi (2 ^ n - 1 - g) b = 1 - bi g b := by decide +kernel
theorem g_full : ∀ n, n < 7 → ∀ g, g < 2 ^ n → (∀ b, b < n → bi g b = 1) → g = 2 ^ n - 1 := by decide +kernel
theorem g_left0 : ∀ n, n < 7 → ∀ g, g < 2 ^ n → ∀ b, b < n → bi g b = 0 → 2 ^ n - 1 - g ≠ 0 := by decide +kernel
/-- the first of the least by rank and count, out of those of the least rank -/
theorem am_rank {n : Nat} {p t : Nat → Bool} {r c : Nat → Nat} (hc : ∀ b, b < n → c b < 1000) (ht : ∀ b, b < n → (t b = true ↔ p b = true ∧ ∀ e, e < n → p e = true → r b ≤ r e)) : am n t c = am n p (fun b => r b * 1000 + c b) := by
  cases h : am n t c with
  | none =>
    have h1 := am_none.mp h
    symm
    rw [am_none]
    intro b hb
    cases hp : p b with
    | false => rfl
    | true =>
      -- one of the least rank
      have ex : ∀ m, m ≤ n → (∃ e, e < m ∧ p e = true) → ∃ e, e < m ∧ p e = true ∧ ∀ q, q < m → p q = true → r e ≤ r q := by
        intro m hm he
        cases hk : am m p r with
        | none =>
          obtain ⟨e, e1, e2⟩ := he
          rw [am_none.mp hk e e1] at e2
          cases e2
        | some e =>
          obtain ⟨i1, i2, i3, -⟩ := am_some hk
          exact ⟨e, i1, i2, i3⟩
      obtain ⟨e, e1, e2, e3⟩ := ex n (Nat.le_refl n) ⟨b, hb, hp⟩
      have := (ht e e1).mpr ⟨e2, e3⟩
      rw [h1 e e1] at this
      cases this
  | some b =>
    obtain ⟨i1, i2, i3, i4⟩ := am_some h
    obtain ⟨j1, j2⟩ := (ht b i1).mp i2
    symm
    refine am_of i1 j1 (fun e he hp => ?_) (fun e he hp => ?_)
    · have hr := j2 e he hp
      rcases Nat.lt_or_ge (r b) (r e) with q | q
      · have := hc b i1; show r b * 1000 + c b ≤ r e * 1000 + c e; omega
      · have hte : t e = true := (ht e he).mpr ⟨hp, fun q1 h1 h2 => Nat.le_trans q (j2 q1 h1 h2)⟩
        have := i3 e he hte
        show r b * 1000 + c b ≤ r e * 1000 + c e
        omega
    · have hr := j2 e (by omega) hp
      rcases Nat.lt_or_ge (r b) (r e) with q | q
      · have := hc b i1; show r b * 1000 + c b < r e * 1000 + c e; omega
      · have hte : t e = true := (ht e (by omega)).mpr ⟨hp, fun q1 h1 h2 => Nat.le_trans q (j2 q1 h1 h2)⟩
        have := i4 e he hte
        show r b * 1000 + c b < r e * 1000 + c e
        omega

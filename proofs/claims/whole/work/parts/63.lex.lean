/-! ===== the text: tokens, lines ===== -/
/-- on while q -/
def wh (q : Nat → Bool) : Nat → Nat → Nat
  | 0, p => p
  | f + 1, p => if q p = true then wh q f (p + 1) else p
theorem wh_le {q : Nat → Bool} : ∀ f p, p ≤ wh q f p
  | 0, p => Nat.le_refl p
  | f + 1, p => by
    rw [wh]
    split
    · exact Nat.le_trans (Nat.le_succ p) (wh_le f (p + 1))
    · exact Nat.le_refl p
theorem wh_up {q : Nat → Bool} {N : Nat} (hq : ∀ p, q p = true → p < N) : ∀ f p, p ≤ N → wh q f p ≤ N
  | 0, p, h => h
  | f + 1, p, h => by
    rw [wh]
    split
    · rename_i c
      exact wh_up hq f (p + 1) (hq p c)
    · exact h
theorem wh_eq {q : Nat → Bool} {N : Nat} (hq : ∀ p, q p = true → p < N) : ∀ f g p, N ≤ p + f → N ≤ p + g → wh q f p = wh q g p
  | 0, 0, p, _, _ => rfl
  | 0, g + 1, p, h, _ => by
    rw [wh, wh, if_neg (fun c => by have := hq p c; omega)]
  | f + 1, 0, p, _, h => by
    rw [wh, wh, if_neg (fun c => by have := hq p c; omega)]
  | f + 1, g + 1, p, h1, h2 => by
    rw [wh, wh]
    split
    · exact wh_eq hq f g (p + 1) (by omega) (by omega)
    · rfl
theorem wh_go {q : Nat → Bool} {f p : Nat} (hq : ∀ p, q p = true → p < 160) (hf : 160 ≤ f) (h : q p = true) : wh q f p = wh q f (p + 1) := by
  rw [wh_eq hq f (f + 1) p (by omega) (by omega), wh, if_pos h]
theorem wh_st {q : Nat → Bool} {f p : Nat} (hf : 160 ≤ f) (h : ¬ q p = true) : wh q f p = p := by
  obtain ⟨g, rfl⟩ : ∃ g, f = g + 1 := ⟨f - 1, by omega⟩
  rw [wh, if_neg h]
/-- all on the way are q -/
theorem wh_all {q : Nat → Bool} : ∀ f p j, p ≤ j → j < wh q f p → q j = true
  | 0, p, j, h1, h2 => by rw [wh] at h2; omega
  | f + 1, p, j, h1, h2 => by
    rw [wh] at h2
    split at h2
    · rename_i c
      by_cases e : j = p
      · rw [e]; exact c
      · exact wh_all f (p + 1) j (by omega) h2
    · omega
/-- a letter 0, a figure 1, a stop 2, else 4 -/
def kd (c : Nat) : Nat := if 97 ≤ c ∧ c ≤ 122 then 0 else if 48 ≤ c ∧ c ≤ 57 then 1 else if c = 59 then 2 else 4
def spP (T : Nat) (t : Nat → Nat) (p : Nat) : Bool := decide (p < T) && (t p == 32)
def kdP (T : Nat) (t : Nat → Nat) (k p : Nat) : Bool := decide (p < T) && (kd (t p) == k)
/-- a token: its kind (3: the end), where it begins, what follows, its number -/
abbrev tkT : Type := Nat × Nat × Nat × Nat
abbrev tk_k (x : tkT) : Nat := x.1
abbrev tk_s (x : tkT) : Nat := x.2.1
abbrev tk_a (x : tkT) : Nat := x.2.2.1
abbrev tk_n (x : tkT) : Nat := x.2.2.2
def tk_st (T : Nat) (t : Nat → Nat) (p : Nat) : Nat := wh (spP T t) 161 p
def tk_at (T : Nat) (t : Nat → Nat) (s : Nat) : Nat := if kd (t s) = 0 ∨ kd (t s) = 1 then wh (kdP T t (kd (t s))) 161 (s + 1) else s + 1
def tk_v (t : Nat → Nat) (s a : Nat) : Nat := if a - s = 1 then t s - 48 else (t s - 48) * 10 + (t (s + 1) - 48)
def tkS (T : Nat) (t : Nat → Nat) (s : Nat) : tkT := if T ≤ s then (3, s, s, 0) else if kd (t s) = 1 then (if 2 < tk_at T t s - s then (4, s, tk_at T t s, 0) else (1, s, tk_at T t s, tk_v t s (tk_at T t s))) else (kd (t s), s, tk_at T t s, 0)
def tok (T : Nat) (t : Nat → Nat) (p : Nat) : tkT := tkS T t (tk_st T t p)
theorem spP_lt {T p : Nat} {t : Nat → Nat} (h : spP T t p = true) : p < T := by simp [spP] at h; exact h.1
theorem kdP_lt {T k p : Nat} {t : Nat → Nat} (h : kdP T t k p = true) : p < T := by simp [kdP] at h; exact h.1
theorem tk_st_le {T p : Nat} {t : Nat → Nat} : p ≤ tk_st T t p := wh_le _ _
theorem tk_st_T {T p : Nat} {t : Nat → Nat} (h : p ≤ T) : tk_st T t p ≤ T := wh_up (fun _ => spP_lt) _ _ h
theorem tk_at_lt {T s : Nat} {t : Nat → Nat} : s < tk_at T t s := by
  unfold tk_at
  split
  · exact wh_le _ _
  · exact Nat.lt_succ_self s
theorem tk_at_T {T s : Nat} {t : Nat → Nat} (h : s < T) : tk_at T t s ≤ T := by
  unfold tk_at
  split
  · exact wh_up (fun _ => kdP_lt) _ _ h
  · exact h
theorem tkS_s {T s : Nat} {t : Nat → Nat} : tk_s (tkS T t s) = s := by
  unfold tkS
  split
  · rfl
  · split
    · split <;> rfl
    · rfl
theorem tok_s {T p : Nat} {t : Nat → Nat} : tk_s (tok T t p) = tk_st T t p := tkS_s
theorem tkS_a {T s : Nat} {t : Nat → Nat} (h : s < T) : tk_a (tkS T t s) = tk_at T t s := by
  unfold tkS
  rw [if_neg (by omega)]
  split
  · split <;> rfl
  · rfl
theorem tok_T {T p : Nat} {t : Nat → Nat} (h : p ≤ T) : tk_a (tok T t p) ≤ T ∧ p ≤ tk_a (tok T t p) ∧ tk_s (tok T t p) ≤ tk_a (tok T t p) := by
  have h1 := tk_st_T (t := t) h
  have h2 := tk_st_le (T := T) (p := p) (t := t)
  rw [tok_s]
  by_cases c : T ≤ tk_st T t p
  · have e : tk_a (tok T t p) = tk_st T t p := by unfold tok tkS; rw [if_pos c]
    rw [e]
    exact ⟨h1, h2, Nat.le_refl _⟩
  · have e : tk_a (tok T t p) = tk_at T t (tk_st T t p) := tkS_a (by omega)
    rw [e]
    have h3 := tk_at_T (t := t) (show tk_st T t p < T by omega)
    have h4 := tk_at_lt (T := T) (t := t) (s := tk_st T t p)
    exact ⟨h3, by omega, by omega⟩
theorem tok_end {T p : Nat} {t : Nat → Nat} : tk_k (tok T t p) = 3 ↔ T ≤ tk_st T t p := by
  unfold tok tkS
  by_cases c : T ≤ tk_st T t p
  · rw [if_pos c]; exact ⟨fun _ => c, fun _ => rfl⟩
  · rw [if_neg c]
    refine ⟨fun z => ?_, fun z => absurd z c⟩
    split at z
    · split at z <;> cases z
    · rename_i q
      have : kd (t (tk_st T t p)) = 3 := z
      unfold kd at this
      split at this
      · cases this
      · split at this
        · cases this
        · split at this <;> cases this
theorem tok_on {T p : Nat} {t : Nat → Nat} (h : p ≤ T) (hk : tk_k (tok T t p) ≠ 3) : p < tk_a (tok T t p) := by
  have h1 : ¬ T ≤ tk_st T t p := fun z => hk (tok_end.mpr z)
  have e : tk_a (tok T t p) = tk_at T t (tk_st T t p) := tkS_a (by omega)
  have h4 := tk_at_lt (T := T) (t := t) (s := tk_st T t p)
  have h2 := tk_st_le (T := T) (p := p) (t := t)
  omega
/-- a token is this name -/
def isN (t : Nat → Nat) (k : tkT) (i : Nat) : Bool := decide (tk_k k = 0 ∧ tk_a k - tk_s k = z_sln.getD i 0 ∧ ∀ j, j < z_sln.getD i 0 → nI (t (tk_s k + j)) = (z_sby.getD i []).getD j 0)
/-- what is wrong at a token -/
def bl (k : tkT) (y : Nat) : Nat × Nat := (if tk_k k = 4 then 1 else y, tk_s k)
abbrev sR (α : Type) : Type := (Nat × Nat) ⊕ α
def sB {α β : Type} (x : sR α) (f : α → sR β) : sR β := match x with
  | .inl e => .inl e
  | .inr a => f a
def pNum (T : Nat) (t : Nat → Nat) (p lo hi : Nat) : sR (Nat × Nat) := if tk_k (tok T t p) = 1 then (if lo ≤ tk_n (tok T t p) ∧ tk_n (tok T t p) ≤ hi then .inr (tk_n (tok T t p), tk_a (tok T t p)) else .inl (bl (tok T t p) 3)) else .inl (bl (tok T t p) 2)
def pStop (T : Nat) (t : Nat → Nat) (p : Nat) : sR Nat := if tk_k (tok T t p) = 2 then .inr (tk_a (tok T t p)) else .inl (bl (tok T t p) 2)
def cgN (t : Nat → Nat) (k : tkT) : Option Nat := if isN t k 7 = true then some 0 else if isN t k 8 = true then some 1 else if isN t k 9 = true then some 2 else if isN t k 10 = true then some 3 else none
def lwN (t : Nat → Nat) (k : tkT) : Option Nat := if isN t k 11 = true then some 0 else if isN t k 12 = true then some 1 else if isN t k 13 = true then some 2 else if isN t k 14 = true then some 3 else if isN t k 15 = true then some 4 else none
/-- what is told so far: boats, numbers, liars, lines that come once -/
abbrev pD : Type := Nat × (Nat → Nat) × Nat × Nat
abbrev p_n (D : pD) : Nat := D.1
abbrev p_K (D : pD) : Nat → Nat := D.2.1
abbrev p_l (D : pD) : Nat := D.2.2.1
abbrev p_m (D : pD) : Nat := D.2.2.2
def pCargo (T : Nat) (t : Nat → Nat) (p : Nat) : sR (Nat × Nat) := match cgN t (tok T t p) with
  | none => .inl (bl (tok T t p) 2)
  | some c => .inr (c, tk_a (tok T t p))
def pLaw (T : Nat) (t : Nat → Nat) (p : Nat) : sR (Nat × Nat) := match lwN t (tok T t p) with
  | none => .inl (bl (tok T t p) 2)
  | some c => .inr (c, tk_a (tok T t p))
/-- the marks of a boat from q on -/
def pMarks (T : Nat) (t : Nat → Nat) (b : Nat) : Nat → Nat → Nat → (Nat → Nat) → sR (Nat × (Nat → Nat))
  | 0, _, p, K => .inr (p, K)
  | m + 1, q, p, K => sB (pNum T t p 0 (mostM q)) fun x => pMarks T t b m (q + 1) x.2 (un K (6 + 6 * b + q) x.1)
def pBoat (T : Nat) (t : Nat → Nat) (k : tkT) (side : Nat) (D : pD) : sR (Nat × pD) := if 6 ≤ p_n D then .inl (bl k 5) else sB (pCargo T t (tk_a k)) fun x => sB (pMarks T t (p_n D) 3 2 x.2 (un (un (p_K D) (6 + 6 * p_n D) side) (6 + 6 * p_n D + 1) x.1)) fun y => .inr (y.1, (p_n D + 1, y.2, p_l D, p_m D))
def pRules (T : Nat) (t : Nat → Nat) : Nat → Nat → Nat → (Nat → Nat) → sR (Nat × (Nat → Nat))
  | 0, _, p, K => .inr (p, K)
  | m + 1, q, p, K => sB (pNum T t p (if q = 0 then 1 else 0) (mostR q)) fun x => pRules T t m (q + 1) x.2 (un K q x.1)
def pLiar (T : Nat) (t : Nat → Nat) (p : Nat) (D : pD) : sR (Nat × pD) := sB (pNum T t p 0 5) fun x => if bi (p_l D) x.1 = 1 then .inl (4, tk_s (tok T t p)) else .inr (x.2, (p_n D, p_K D, p_l D + 2 ^ x.1, p_m D))
/-- a line that comes once -/
def pOnce (k : tkT) (j : Nat) (D : pD) (f : pD → sR (Nat × pD)) : sR (Nat × pD) := if bi (p_m D) j = 1 then .inl (bl k 4) else f (p_n D, p_K D, p_l D, p_m D + 2 ^ j)
def pK (D : pD) (x : Nat × (Nat → Nat)) : sR (Nat × pD) := .inr (x.1, (p_n D, x.2, p_l D, p_m D))
/-- a line but for its stop -/
def pLine0 (T : Nat) (t : Nat → Nat) (k : tkT) (D : pD) : sR (Nat × pD) :=
  if isN t k 0 = true then pBoat T t k 0 D
  else if isN t k 1 = true then pBoat T t k 1 D
  else if isN t k 2 = true then pLiar T t (tk_a k) D
  else if isN t k 3 = true then pOnce k 0 D fun D => sB (pRules T t 3 0 (tk_a k) (p_K D)) (pK D)
  else if isN t k 4 = true then pOnce k 1 D fun D => sB (pLaw T t (tk_a k)) fun x => pK D (x.2, un (p_K D) 3 x.1)
  else if isN t k 5 = true then pOnce k 2 D fun D => sB (pRules T t 1 4 (tk_a k) (p_K D)) (pK D)
  else if isN t k 6 = true then pOnce k 3 D fun D => pK D (tk_a k, un (p_K D) 5 1)
  else .inl (bl k 2)
def pLine (T : Nat) (t : Nat → Nat) (p : Nat) (D : pD) : sR (Nat × pD) := sB (pLine0 T t (tok T t p) D) fun x => sB (pStop T t x.1) fun a => .inr (a, x.2)
def pAll (T : Nat) (t : Nat → Nat) : Nat → Nat → Nat → pD → sR (Nat × pD)
  | 0, l, _, D => .inr (l, D)
  | f + 1, l, p, D => if tk_k (tok T t p) = 3 then .inr (l, D) else sB (pLine T t p D) fun x => pAll T t f (l + 1) x.1 x.2
def p_K0 : Nat → Nat := fun k => if k = 0 then 5 else if k = 1 then 2 else 0
def p_D0 : pD := (0, p_K0, 0, 0)
/-- all is told: who lies is no boat -/
def p_bad (D : pD) : Bool := decide (2 ^ p_n D ≤ p_l D)
def f_text (s : sT) : Int32 × sT := match pAll (s_T s) (s_t s) 161 0 0 p_D0 with
  | .inl (f, a) => (-10 - nI a, u_ft (u_tp s 0 (s_t s)) f)
  | .inr (l, D) => if p_bad D = true then (-10 - nI (s_T s), u_ft (u_tp s 0 (s_t s)) 6) else (nI l, u_ft (u_tp (u_im (u_lk s (p_n D) (lw (p_K D) (p_l D))) 0 (s_im s)) 0 (s_t s)) 0)
/-! what is right of what is told -/
def pV (D : pD) : Prop := p_n D ≤ 6 ∧ p_l D < 64 ∧ p_m D < 16 ∧ kV 99 (p_n D) (p_K D) ∧ p_K D 42 = 0
theorem pNum_r {T p lo hi : Nat} {t : Nat → Nat} {x : Nat × Nat} (h : pNum T t p lo hi = .inr x) : tk_k (tok T t p) = 1 ∧ lo ≤ x.1 ∧ x.1 ≤ hi ∧ x.2 = tk_a (tok T t p) ∧ x.1 = tk_n (tok T t p) := by
  unfold pNum at h
  split at h
  · rename_i c
    split at h
    · rename_i c2
      cases h
      exact ⟨c, c2.1, c2.2, rfl, rfl⟩
    · cases h
  · cases h
theorem bl_b {k : tkT} {y : Nat} (hy : 1 ≤ y ∧ y ≤ 6) : 1 ≤ (bl k y).1 ∧ (bl k y).1 ≤ 6 := by
  unfold bl
  split <;> omega

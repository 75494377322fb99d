/-! ===== what is told is right ===== -/
theorem sB_r {α β : Type} {x : sR α} {f : α → sR β} {b : β} (h : sB x f = .inr b) : ∃ a, x = .inr a ∧ f a = .inr b := by
  cases x with
  | inl e => cases h
  | inr a => exact ⟨a, rfl, h⟩
theorem sB_l {α β : Type} {x : sR α} {f : α → sR β} {e : Nat × Nat} (h : sB x f = .inl e) : x = .inl e ∨ ∃ a, x = .inr a ∧ f a = .inl e := by
  cases x with
  | inl e => cases h; exact Or.inl rfl
  | inr a => exact Or.inr ⟨a, rfl, h⟩
/-- a fault's number and place -/
def eV (T : Nat) (e : Nat × Nat) : Prop := 1 ≤ e.1 ∧ e.1 ≤ 6 ∧ e.2 ≤ T
theorem bl_V {T p y : Nat} {t : Nat → Nat} (hp : p ≤ T) (hy : 1 ≤ y ∧ y ≤ 6) : eV T (bl (tok T t p) y) := by
  have h1 := bl_b (k := tok T t p) hy
  have h2 := tok_T (t := t) hp
  exact ⟨h1.1, h1.2, by show tk_s _ ≤ T; omega⟩
/-- from p on, no farther than T -/
def aV (T p a : Nat) : Prop := p ≤ a ∧ a ≤ T
theorem pNum_a {T p lo hi : Nat} {t : Nat → Nat} {x : Nat × Nat} (hp : p ≤ T) (h : pNum T t p lo hi = .inr x) : aV T p x.2 := by
  have h1 := pNum_r h
  have h2 := tok_T (t := t) hp
  rw [aV, h1.2.2.2.1]
  omega
theorem pNum_e {T p lo hi : Nat} {t : Nat → Nat} {e : Nat × Nat} (hp : p ≤ T) (h : pNum T t p lo hi = .inl e) : eV T e := by
  unfold pNum at h
  split at h
  · split at h
    · cases h
    · cases h; exact bl_V hp (by decide)
  · cases h; exact bl_V hp (by decide)
theorem pStop_a {T p a : Nat} {t : Nat → Nat} (hp : p ≤ T) (h : pStop T t p = .inr a) : aV T p a := by
  unfold pStop at h
  split at h
  · cases h
    have h2 := tok_T (t := t) hp
    exact ⟨h2.2.1, h2.1⟩
  · cases h
theorem pStop_e {T p : Nat} {t : Nat → Nat} {e : Nat × Nat} (hp : p ≤ T) (h : pStop T t p = .inl e) : eV T e := by
  unfold pStop at h
  split at h
  · cases h
  · cases h; exact bl_V hp (by decide)
theorem cgN_lt {t : Nat → Nat} {k : tkT} {c : Nat} (h : cgN t k = some c) : c ≤ 3 := by
  unfold cgN at h
  (repeat' split at h) <;> first | (cases h; decide) | cases h
theorem lwN_lt {t : Nat → Nat} {k : tkT} {c : Nat} (h : lwN t k = some c) : c ≤ 4 := by
  unfold lwN at h
  (repeat' split at h) <;> first | (cases h; decide) | cases h
theorem pCargo_a {T p : Nat} {t : Nat → Nat} {x : Nat × Nat} (hp : p ≤ T) (h : pCargo T t p = .inr x) : x.1 ≤ 3 ∧ aV T p x.2 := by
  unfold pCargo at h
  split at h
  · cases h
  · rename_i c hc
    cases h
    have h2 := tok_T (t := t) hp
    exact ⟨cgN_lt hc, h2.2.1, h2.1⟩
theorem pCargo_e {T p : Nat} {t : Nat → Nat} {e : Nat × Nat} (hp : p ≤ T) (h : pCargo T t p = .inl e) : eV T e := by
  unfold pCargo at h
  split at h
  · cases h; exact bl_V hp (by decide)
  · cases h
theorem pLaw_a {T p : Nat} {t : Nat → Nat} {x : Nat × Nat} (hp : p ≤ T) (h : pLaw T t p = .inr x) : x.1 ≤ 4 ∧ aV T p x.2 := by
  unfold pLaw at h
  split at h
  · cases h
  · rename_i c hc
    cases h
    have h2 := tok_T (t := t) hp
    exact ⟨lwN_lt hc, h2.2.1, h2.1⟩
theorem pLaw_e {T p : Nat} {t : Nat → Nat} {e : Nat × Nat} (hp : p ≤ T) (h : pLaw T t p = .inl e) : eV T e := by
  unfold pLaw at h
  split at h
  · cases h; exact bl_V hp (by decide)
  · cases h
theorem pMarks_a {T b : Nat} {t : Nat → Nat} : ∀ m q p (K : Nat → Nat) x, p ≤ T → pMarks T t b m q p K = .inr x → aV T p x.1
  | 0, q, p, K, x, hp, h => by cases h; exact ⟨Nat.le_refl p, hp⟩
  | m + 1, q, p, K, x, hp, h => by
    obtain ⟨a, h1, h2⟩ := sB_r h
    have h3 := pNum_a hp h1
    have h4 := pMarks_a m (q + 1) a.2 _ x h3.2 h2
    exact ⟨Nat.le_trans h3.1 h4.1, h4.2⟩
theorem pMarks_e {T b : Nat} {t : Nat → Nat} : ∀ m q p (K : Nat → Nat) e, p ≤ T → pMarks T t b m q p K = .inl e → eV T e
  | 0, q, p, K, e, hp, h => by cases h
  | m + 1, q, p, K, e, hp, h => by
    rcases sB_l h with h1 | ⟨a, h1, h2⟩
    · exact pNum_e hp h1
    · exact pMarks_e m (q + 1) a.2 _ e (pNum_a hp h1).2 h2
theorem pMarks_3 {T b p : Nat} {t K : Nat → Nat} {x : Nat × (Nat → Nat)} (h : pMarks T t b 3 2 p K = .inr x) : ∃ u v z, u ≤ 99 ∧ v ≤ 9 ∧ z ≤ 9 ∧ x.2 = un (un (un K (6 + 6 * b + 2) u) (6 + 6 * b + 3) v) (6 + 6 * b + 4) z := by
  obtain ⟨a, h1, h2⟩ := sB_r h
  obtain ⟨a2, h3, h4⟩ := sB_r h2
  obtain ⟨a3, h5, h6⟩ := sB_r h4
  cases h6
  exact ⟨a.1, a2.1, a3.1, (pNum_r h1).2.2.1, (pNum_r h3).2.2.1, (pNum_r h5).2.2.1, rfl⟩
theorem pRules_a {T : Nat} {t : Nat → Nat} : ∀ m q p (K : Nat → Nat) x, p ≤ T → pRules T t m q p K = .inr x → aV T p x.1
  | 0, q, p, K, x, hp, h => by cases h; exact ⟨Nat.le_refl p, hp⟩
  | m + 1, q, p, K, x, hp, h => by
    obtain ⟨a, h1, h2⟩ := sB_r h
    have h3 := pNum_a hp h1
    have h4 := pRules_a m (q + 1) a.2 _ x h3.2 h2
    exact ⟨Nat.le_trans h3.1 h4.1, h4.2⟩
theorem pRules_e {T : Nat} {t : Nat → Nat} : ∀ m q p (K : Nat → Nat) e, p ≤ T → pRules T t m q p K = .inl e → eV T e
  | 0, q, p, K, e, hp, h => by cases h
  | m + 1, q, p, K, e, hp, h => by
    rcases sB_l h with h1 | ⟨a, h1, h2⟩
    · exact pNum_e hp h1
    · exact pRules_e m (q + 1) a.2 _ e (pNum_a hp h1).2 h2
/-- numbers as they are told -/
def nV (n : Nat) (K : Nat → Nat) : Prop := kV 99 n K ∧ K 42 = 0 ∧ ∀ b, b < 6 → K (6 + 6 * b + 5) = 0
theorem nV.rule {n q v : Nat} {K : Nat → Nat} (h : nV n K) (hq : q < 6) (h0 : q = 0 → 1 ≤ v) (hv : v ≤ mostR q) : nV n (un K q v) := by
  unfold mostR at hv
  refine ⟨h.1.at h0 (fun z => ?_) (fun z => ?_) (fun z => ?_) (fun b hb => by omega), ?_, fun b hb => ?_⟩
  · split at hv
    · omega
    · first | omega | (split at hv <;> omega)
  · split at hv
    · omega
    · first | omega | (split at hv <;> omega)
  · split at hv
    · omega
    · first | omega | (split at hv <;> omega)
  · rw [un_n (by omega)]; exact h.2.1
  · rw [un_n (by omega)]; exact h.2.2 b hb
theorem pRules_V {n T : Nat} {t : Nat → Nat} : ∀ m q p (K : Nat → Nat) x, q + m ≤ 6 → nV n K → pRules T t m q p K = .inr x → nV n x.2
  | 0, q, p, K, x, hq, hK, h => by cases h; exact hK
  | m + 1, q, p, K, x, hq, hK, h => by
    obtain ⟨a, h1, h2⟩ := sB_r h
    have h3 := pNum_r h1
    exact pRules_V m (q + 1) a.2 _ x (by omega) (hK.rule (by omega) (fun z => by rw [if_pos z] at h3; exact h3.2.1) h3.2.2.1) h2
theorem nV.boat {n g u v z sd : Nat} {K : Nat → Nat} (h : nV n K) (hn : n < 6) (hs : sd ≤ 1) (hg : g ≤ 3) (hu : u ≤ 99) (hv : v ≤ 9) (hz : z ≤ 9) : nV (n + 1) (un (un (un (un (un K (6 + 6 * n) sd) (6 + 6 * n + 1) g) (6 + 6 * n + 2) u) (6 + 6 * n + 3) v) (6 + 6 * n + 4) z) := by
  have e : ∀ k, (k < 6 + 6 * n ∨ 6 + 6 * n + 4 < k) → un (un (un (un (un K (6 + 6 * n) sd) (6 + 6 * n + 1) g) (6 + 6 * n + 2) u) (6 + 6 * n + 3) v) (6 + 6 * n + 4) z k = K k := fun k hk => by rw [un_n (by omega), un_n (by omega), un_n (by omega), un_n (by omega), un_n (by omega)]
  obtain ⟨⟨k1, k2, k3, k4, k5, k6, k7, k8⟩, h42, h5⟩ := h
  refine ⟨⟨by omega, by rw [e 0 (by omega)]; exact k2, by rw [e 1 (by omega)]; exact k3, by rw [e 2 (by omega)]; exact k4, by rw [e 3 (by omega)]; exact k5, by rw [e 4 (by omega)]; exact k6, by rw [e 5 (by omega)]; exact k7, fun b hb => ?_⟩, by rw [e 42 (by omega)]; exact h42, fun b hb => by rw [e _ (by omega)]; exact h5 b hb⟩
  by_cases q : b = n
  · subst q
    refine ⟨?_, ?_, ?_, ?_, ?_, ?_⟩
    · rw [un_n (by omega), un_n (by omega), un_n (by omega), un_n (by omega), un_s]; exact hs
    · rw [un_n (by omega), un_n (by omega), un_n (by omega), un_s]; exact hg
    · rw [un_n (by omega), un_n (by omega), un_s]; exact hu
    · rw [un_n (by omega), un_s]; exact hv
    · rw [un_s]; exact hz
    · rw [e _ (by omega), h5 b hn]; decide
  · have hb2 : b < n := by omega
    rw [e _ (by omega), e _ (by omega), e _ (by omega), e _ (by omega), e _ (by omega), e _ (by omega)]
    exact k8 b hb2
/-- what is told so far is right -/
def dV (D : pD) : Prop := p_l D < 64 ∧ p_m D < 16 ∧ nV (p_n D) (p_K D)
theorem dV_0 : dV p_D0 := by
  refine ⟨by decide, by decide, ⟨by decide, by decide, by decide, by decide, by decide, by decide, by decide, fun b hb => absurd hb (Nat.not_lt_zero b)⟩, by decide, by decide⟩
theorem dV.n {D : pD} (h : dV D) : p_n D ≤ 6 := h.2.2.1.1
theorem bi_m : ∀ g, g < 16 → ∀ j, j < 4 → bi g j = 0 → g + 2 ^ j < 16 := by decide +kernel
theorem bi_l : ∀ g, g < 64 → ∀ j, j < 6 → bi g j = 0 → g + 2 ^ j < 64 := by decide +kernel
theorem pBoat_V {T sd p : Nat} {t : Nat → Nat} {D : pD} {x : Nat × pD} (hs : sd ≤ 1) (hp : p ≤ T) (hD : dV D) (h : pBoat T t (tok T t p) sd D = .inr x) : dV x.2 ∧ aV T (tk_a (tok T t p)) x.1 := by
  unfold pBoat at h
  split at h
  · cases h
  · rename_i c
    obtain ⟨a, h1, h2⟩ := sB_r h
    obtain ⟨a2, h3, h4⟩ := sB_r h2
    cases h4
    have ht := (tok_T (t := t) hp).1
    have b1 := pCargo_a ht h1
    have b2 := pMarks_a _ _ _ _ _ b1.2.2 h3
    obtain ⟨u, v, z, hu, hv, hz, e⟩ := pMarks_3 h3
    refine ⟨⟨hD.1, hD.2.1, ?_⟩, Nat.le_trans b1.2.1 b2.1, b2.2⟩
    show nV (p_n D + 1) a2.2
    rw [e]
    exact hD.2.2.boat (by omega) hs b1.1 hu hv hz
theorem pBoat_e {T sd p : Nat} {t : Nat → Nat} {D : pD} {e : Nat × Nat} (hp : p ≤ T) (h : pBoat T t (tok T t p) sd D = .inl e) : eV T e := by
  unfold pBoat at h
  have ht := (tok_T (t := t) hp).1
  split at h
  · cases h; exact bl_V hp (by decide)
  · rcases sB_l h with h1 | ⟨a, h1, h2⟩
    · exact pCargo_e ht h1
    · rcases sB_l h2 with h3 | ⟨a2, h3, h4⟩
      · exact pMarks_e _ _ _ _ _ (pCargo_a ht h1).2.2 h3
      · cases h4
theorem pLiar_V {T p : Nat} {t : Nat → Nat} {D : pD} {x : Nat × pD} (hp : p ≤ T) (hD : dV D) (h : pLiar T t p D = .inr x) : dV x.2 ∧ aV T p x.1 := by
  obtain ⟨a, h1, h2⟩ := sB_r h
  split at h2
  · cases h2
  · rename_i c
    cases h2
    have h3 := pNum_r h1
    have := bi_01 (p_l D) a.1
    exact ⟨⟨bi_l _ hD.1 _ (by omega) (by omega), hD.2⟩, pNum_a hp h1⟩
theorem pLiar_e {T p : Nat} {t : Nat → Nat} {D : pD} {e : Nat × Nat} (hp : p ≤ T) (h : pLiar T t p D = .inl e) : eV T e := by
  rcases sB_l h with h1 | ⟨a, h1, h2⟩
  · exact pNum_e hp h1
  · split at h2
    · cases h2
      have h3 := tok_T (t := t) hp
      exact ⟨by show 1 ≤ 4; decide, by show 4 ≤ 6; decide, by show tk_s _ ≤ T; omega⟩
    · cases h2
theorem pOnce_e {T j p : Nat} {t : Nat → Nat} {D : pD} {e : Nat × Nat} {f : pD → sR (Nat × pD)} (hp : p ≤ T) (hf : ∀ D e, f D = .inl e → eV T e) (h : pOnce (tok T t p) j D f = .inl e) : eV T e := by
  unfold pOnce at h
  split at h
  · cases h; exact bl_V hp (by decide)
  · exact hf _ _ h
theorem pLine0_V {T p : Nat} {t : Nat → Nat} {D : pD} {x : Nat × pD} (hp : p ≤ T) (hD : dV D) (h : pLine0 T t (tok T t p) D = .inr x) : dV x.2 ∧ aV T (tk_a (tok T t p)) x.1 := by
  have ht := (tok_T (t := t) hp).1
  unfold pLine0 at h
  have key : ∀ j (f : pD → sR (Nat × pD)), j < 4 → (∀ D x, dV D → f D = .inr x → dV x.2 ∧ aV T (tk_a (tok T t p)) x.1) → pOnce (tok T t p) j D f = .inr x → dV x.2 ∧ aV T (tk_a (tok T t p)) x.1 := by
    intro j f hj hf h
    unfold pOnce at h
    split at h
    · cases h
    · have := bi_01 (p_m D) j
      exact hf (p_n D, p_K D, p_l D, p_m D + 2 ^ j) _ ⟨hD.1, bi_m _ hD.2.1 j hj (by omega), hD.2.2⟩ h
  split at h
  · exact pBoat_V (by decide) hp hD h
  split at h
  · exact pBoat_V (by decide) hp hD h
  split at h
  · exact pLiar_V ht hD h
  split at h
  · refine key 0 _ (by decide) (fun D x hD h => ?_) h
    obtain ⟨a, h1, h2⟩ := sB_r h
    cases h2
    exact ⟨⟨hD.1, hD.2.1, pRules_V _ _ _ _ _ (by decide) hD.2.2 h1⟩, pRules_a _ _ _ _ _ ht h1⟩
  split at h
  · refine key 1 _ (by decide) (fun D x hD h => ?_) h
    obtain ⟨a, h1, h2⟩ := sB_r h
    cases h2
    have h3 := pLaw_a ht h1
    exact ⟨⟨hD.1, hD.2.1, hD.2.2.rule (by decide) (fun z => by cases z) h3.1⟩, h3.2⟩
  split at h
  · refine key 2 _ (by decide) (fun D x hD h => ?_) h
    obtain ⟨a, h1, h2⟩ := sB_r h
    cases h2
    exact ⟨⟨hD.1, hD.2.1, pRules_V _ _ _ _ _ (by decide) hD.2.2 h1⟩, pRules_a _ _ _ _ _ ht h1⟩
  split at h
  · refine key 3 _ (by decide) (fun D x hD h => ?_) h
    cases h
    exact ⟨⟨hD.1, hD.2.1, hD.2.2.rule (by decide) (fun z => by cases z) (by decide)⟩, Nat.le_refl _, ht⟩
  · cases h
theorem pLine0_e {T p : Nat} {t : Nat → Nat} {D : pD} {e : Nat × Nat} (hp : p ≤ T) (h : pLine0 T t (tok T t p) D = .inl e) : eV T e := by
  have ht := (tok_T (t := t) hp).1
  unfold pLine0 at h
  split at h
  · exact pBoat_e hp h
  split at h
  · exact pBoat_e hp h
  split at h
  · exact pLiar_e ht h
  split at h
  · refine pOnce_e hp (fun D e h => ?_) h
    rcases sB_l h with h1 | ⟨a, h1, h2⟩
    · exact pRules_e _ _ _ _ _ ht h1
    · cases h2
  split at h
  · refine pOnce_e hp (fun D e h => ?_) h
    rcases sB_l h with h1 | ⟨a, h1, h2⟩
    · exact pLaw_e ht h1
    · cases h2
  split at h
  · refine pOnce_e hp (fun D e h => ?_) h
    rcases sB_l h with h1 | ⟨a, h1, h2⟩
    · exact pRules_e _ _ _ _ _ ht h1
    · cases h2
  split at h
  · refine pOnce_e hp (fun D e h => ?_) h
    cases h
  · cases h; exact bl_V hp (by decide)
theorem pLine_V {T p : Nat} {t : Nat → Nat} {D : pD} {x : Nat × pD} (hp : p ≤ T) (hk : tk_k (tok T t p) ≠ 3) (hD : dV D) (h : pLine T t p D = .inr x) : dV x.2 ∧ p < x.1 ∧ x.1 ≤ T := by
  obtain ⟨a, h1, h2⟩ := sB_r h
  obtain ⟨a2, h3, h4⟩ := sB_r h2
  cases h4
  have q1 := pLine0_V hp hD h1
  have q2 := pStop_a q1.2.2 h3
  have q3 := tok_on (t := t) hp hk
  exact ⟨q1.1, by show p < a2; have := q1.2.1; have := q2.1; omega, q2.2⟩
theorem pLine_e {T p : Nat} {t : Nat → Nat} {D : pD} {e : Nat × Nat} (hp : p ≤ T) (hD : dV D) (h : pLine T t p D = .inl e) : eV T e := by
  rcases sB_l h with h1 | ⟨a, h1, h2⟩
  · exact pLine0_e hp h1
  · rcases sB_l h2 with h3 | ⟨a2, h3, h4⟩
    · exact pStop_e (pLine0_V hp hD h1).2.2 h3
    · cases h4
theorem pAll_V {T : Nat} {t : Nat → Nat} : ∀ f l p (D : pD) x, p ≤ T → dV D → pAll T t f l p D = .inr x → dV x.2
  | 0, l, p, D, x, hp, hD, h => by cases h; exact hD
  | f + 1, l, p, D, x, hp, hD, h => by
    rw [pAll] at h
    split at h
    · cases h; exact hD
    · rename_i c
      obtain ⟨a, h1, h2⟩ := sB_r h
      have q := pLine_V hp c hD h1
      exact pAll_V f (l + 1) a.1 a.2 x q.2.2 q.1 h2
theorem pAll_e {T : Nat} {t : Nat → Nat} : ∀ f l p (D : pD) e, p ≤ T → dV D → pAll T t f l p D = .inl e → eV T e
  | 0, l, p, D, e, hp, hD, h => by cases h
  | f + 1, l, p, D, e, hp, hD, h => by
    rw [pAll] at h
    split at h
    · cases h
    · rename_i c
      rcases sB_l h with h1 | ⟨a, h1, h2⟩
      · exact pLine_e hp hD h1
      · have q := pLine_V hp c hD h1
        exact pAll_e f (l + 1) a.1 a.2 e q.2.2 q.1 h2

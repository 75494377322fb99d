/-! ===== who passes when, in a day ===== -/
def dJ (n : Nat) (K : Nat → Nat) (i : Nat) (s : dT) : Prop := (∀ c, c < n → bi (d_g s) c = 1 → d_d s c = k_ar K c + d_s s c + K 0) ∧ (∀ c, c < n → (bi (d_g s) c = 1 ↔ ∃ j, j < i ∧ d_p s j = c)) ∧ (∀ j k, j < k → k < i → d_p s j ≠ d_p s k) ∧ (∀ j, j < i → d_d s (d_p s j) ≤ d_f s) ∧ ∀ j k, j < k → k < i → d_d s (d_p s j) < d_d s (d_p s k)
theorem dJ_nil {n : Nat} {K : Nat → Nat} : dJ n K 0 (d_nil K) := by
  have hz : ∀ c, bi (d_g (d_nil K)) c = 0 := fun c => by show 0 / 2 ^ c % 2 = 0; simp
  refine ⟨fun c _ h => ?_, fun c _ => ⟨fun h => ?_, fun ⟨j, hj, _⟩ => absurd hj (Nat.not_lt_zero j)⟩, fun j k _ hk => absurd hk (Nat.not_lt_zero k), fun j hj => absurd hj (Nat.not_lt_zero j), fun j k _ hk => absurd hk (Nat.not_lt_zero k)⟩
  · rw [hz c] at h; cases h
  · rw [hz c] at h; cases h
theorem dJ_f {n i f : Nat} {K : Nat → Nat} {s : dT} (h : dJ n K i s) (hf : d_f s ≤ f) : dJ n K i (d_g s, f, s.2.2) :=
  ⟨h.1, h.2.1, h.2.2.1, fun j hj => Nat.le_trans (h.2.2.2.1 j hj) hf, h.2.2.2.2⟩
theorem dJ_let {A n i b : Nat} {K : Nat → Nat} {s : dT} (hV : kV A n K) (hI : dI n i s) (h : dJ n K i s) (hb : b < n) (hg : bi (d_g s) b = 0) : dJ n K (i + 1) (d_let K i b s) := by
  have hn := hV.n
  have hK := hV.2.1.1
  have h64 : d_g s < 64 := Nat.lt_of_lt_of_le hI.1 (p2_le n (by omega))
  obtain ⟨M, hM⟩ : ∃ M, M = max (if d_r s = k_sd K b then d_f s else d_f s + K 1) (k_ar K b) := ⟨_, rfl⟩
  have hMf : d_f s ≤ M := by rw [hM]; split <;> omega
  have hMa : k_ar K b ≤ M := by rw [hM]; omega
  have eg : d_g (d_let K i b s) = d_g s + 2 ^ b := rfl
  have ef : d_f (d_let K i b s) = M + K 0 := by rw [hM]; rfl
  have ep : d_p (d_let K i b s) = un (d_p s) i b := rfl
  have es : d_s (d_let K i b s) = un (d_s s) b (M - k_ar K b) := by rw [hM]; rfl
  have ed : d_d (d_let K i b s) = un (d_d s) b (M + K 0) := by rw [hM]; rfl
  have hbi : ∀ c, c < n → bi (d_g s + 2 ^ b) c = if c = b then 1 else bi (d_g s) c := fun c hc => bi_add _ h64 b (by omega) hg c (by omega)
  have hpb : ∀ j, j < i → d_p s j ≠ b := fun j hj e => by
    have := (hI.2.2.1 j hj).2
    rw [e, hg] at this
    cases this
  obtain ⟨h1, h2, h3, h4, h5⟩ := h
  unfold dJ
  rw [eg, ef, ep, es, ed]
  refine ⟨fun c hc hc1 => ?_, fun c hc => ?_, fun j k hj hk => ?_, fun j hj => ?_, fun j k hj hk => ?_⟩
  · rw [hbi c hc] at hc1
    by_cases e : c = b
    · rw [e, un_s, un_s]; omega
    · rw [if_neg e] at hc1
      rw [un_n e, un_n e]
      exact h1 c hc hc1
  · rw [hbi c hc]
    by_cases e : c = b
    · rw [if_pos e]
      exact ⟨fun _ => ⟨i, Nat.lt_succ_self i, by rw [un_s, e]⟩, fun _ => rfl⟩
    · rw [if_neg e, h2 c hc]
      constructor
      · rintro ⟨j, hj, hp⟩
        exact ⟨j, by omega, by rw [un_n (by omega)]; exact hp⟩
      · rintro ⟨j, hj, hp⟩
        by_cases ej : j = i
        · rw [ej, un_s] at hp
          exact absurd hp.symm e
        · rw [un_n ej] at hp
          exact ⟨j, by omega, hp⟩
  · by_cases ek : k = i
    · rw [ek, un_s, un_n (by omega)]
      exact hpb j (by omega)
    · rw [un_n ek, un_n (by omega)]
      exact h3 j k hj (by omega)
  · by_cases ej : j = i
    · rw [ej, un_s, un_s]; exact Nat.le_refl _
    · rw [un_n (f := d_p s) ej, un_n (hpb j (by omega))]
      have := h4 j (by omega)
      omega
  · by_cases ek : k = i
    · rw [ek, un_s, un_s, un_n (f := d_p s) (show j ≠ i by omega), un_n (hpb j (by omega))]
      have := h4 j (by omega)
      omega
    · rw [un_n (f := d_p s) ek, un_n (f := d_p s) (show j ≠ i by omega), un_n (hpb j (by omega)), un_n (hpb k (by omega))]
      exact h5 j k hj (by omega)
theorem d_wait_ge {n : Nat} {K : Nat → Nat} {s : dT} : d_f s ≤ d_wait n K s := by
  unfold d_wait
  cases am n (fun b => bi (d_g s) b == 0) (k_ct K) with
  | none => exact Nat.le_refl _
  | some b => exact Nat.le_max_left _ _
theorem dJ_run {A n cg : Nat} {K : Nat → Nat} (hV : kV A n K) (hA : A ≤ 200) : ∀ i, i ≤ n → dJ n K i (d_run n K cg i) := by
  intro i
  induction i with
  | zero => intro _; exact dJ_nil
  | succ i ih =>
    intro hi
    have hI := dI_run (cg := cg) hV hA i (by omega)
    have hJ := ih (by omega)
    obtain ⟨b, h1, h2, h3⟩ := d_pick_some (cg := cg) hV hI (by omega)
    rw [d_run]
    unfold d_step
    rw [h1]
    exact dJ_let hV (s := (d_g (d_run n K cg i), d_wait n K (d_run n K cg i), (d_run n K cg i).2.2)) ⟨hI.1, hI.2.1, hI.2.2.1, d_wait_le hV hA hI, hI.2.2.2.2⟩ (dJ_f hJ d_wait_ge) h2 h3
theorem dJ_D {A n : Nat} {K : Nat → Nat} (hV : kV A n K) (hA : A ≤ 200) : dJ n K n (dD n K) := dJ_run (cg := 0) hV hA n (Nat.le_refl n)
/-- an order that names each once -/
def oO (n : Nat) (o : Nat → Nat) : Prop := (∀ i, i < n → o i < n) ∧ ∀ j k, j < k → k < n → o j ≠ o k
theorem d_ord_I {A n : Nat} {K o : Nat → Nat} (hV : kV A n K) (hA : A ≤ 200) (ho : oO n o) : ∀ i, i ≤ n → dI n i (d_ord K o i) ∧ dJ n K i (d_ord K o i) ∧ ∀ j, j < i → d_p (d_ord K o i) j = o j := by
  intro i
  induction i with
  | zero => intro _; exact ⟨dI_nil hV, dJ_nil, fun j hj => absurd hj (Nat.not_lt_zero j)⟩
  | succ i ih =>
    intro hi
    obtain ⟨h1, h2, h3⟩ := ih (by omega)
    have hb := ho.1 i (by omega)
    have hg : bi (d_g (d_ord K o i)) (o i) = 0 := by
      rcases bi_01 (d_g (d_ord K o i)) (o i) with z | z
      · exact z
      · obtain ⟨j, hj, hp⟩ := (h2.2.1 (o i) hb).mp z
        rw [h3 j hj] at hp
        exact absurd hp (ho.2 j i hj (by omega))
    rw [d_ord]
    refine ⟨dI_let hV hA h1 (by omega) hb hg, dJ_let hV h1 h2 hb hg, fun j hj => ?_⟩
    show un (d_p (d_ord K o i)) i (o i) j = o j
    by_cases e : j = i
    · rw [e, un_s]
    · rw [un_n e]
      exact h3 j (by omega)
theorem d_ord_0 {A n i : Nat} {K o : Nat → Nat} (hV : kV A n K) (hA : A ≤ 200) (ho : oO n o) (hi : i < n) : bi (d_g (d_ord K o i)) (o i) = 0 := by
  obtain ⟨h1, h2, h3⟩ := d_ord_I hV hA ho i (by omega)
  rcases bi_01 (d_g (d_ord K o i)) (o i) with z | z
  · exact z
  · obtain ⟨j, hj, hp⟩ := (h2.2.1 (o i) (ho.1 i hi)).mp z
    rw [h3 j hj] at hp
    exact absurd hp (ho.2 j i hj (by omega))
/-- two change places -/
def sw (b c x : Nat) : Nat := if x = b then c else if x = c then b else x
theorem sw_inj {b c x z : Nat} (h : sw b c x = sw b c z) : x = z := by
  unfold sw at h
  split at h <;> split at h <;> (try split at h) <;> (try split at h) <;> omega
theorem oO_sw {A n b c : Nat} {K : Nat → Nat} (hV : kV A n K) (hA : A ≤ 200) (hb : b < n) (hc : c < n) : oO n (fun i => sw b c (d_p (dD n K) i)) := by
  have hI := dI_D hV hA
  have hJ := dJ_D hV hA
  refine ⟨fun i hi => ?_, fun j k hj hk e => hJ.2.2.1 j k hj hk (sw_inj e)⟩
  have := (hI.2.2.1 i hi).1
  show sw b c _ < n
  unfold sw
  split
  · exact hc
  · split
    · exact hb
    · exact this
/-- the greatest up to m with p, or 0 -/
def lst : Nat → (Nat → Bool) → Nat
  | 0, _ => 0
  | m + 1, p => if p (m + 1) = true then m + 1 else lst m p
theorem lst_cut {p : Nat → Bool} {m : Nat} : ∀ M, m ≤ M → (∀ v, m < v → v ≤ M → p v = false) → lst M p = lst m p := by
  intro M
  induction M with
  | zero => intro h _; rw [show m = 0 by omega]
  | succ M ih =>
    intro h hp
    by_cases e : m = M + 1
    · rw [e]
    · rw [lst, if_neg (by rw [hp (M + 1) (by omega) (Nat.le_refl _)]; decide)]
      exact ih (by omega) (fun v h1 h2 => hp v h1 (by omega))
theorem nI_d1 {k : Nat} (hk : k < 1000) : nI (k + 1) + (-1) = nI k := by
  have e : (-1 : Int32).toInt = -1 := rfl
  rw [ti_eq, ti_add (by rw [ti_n (by omega), e]; omega), ti_n (by omega), ti_n (by omega), e]
  omega
/-- as early through though so much later -/
def ltP (n : Nat) (K : Nat → Nat) (b v : Nat) : Bool := decide (d_d (dD n (un K (6 + 6 * b + 2) (K (6 + 6 * b + 2) + v))) b ≤ d_d (dD n K) b)
def f_late (s : sT) (b : Int32) : Int32 × sT := (if iB (s_n s) b = true then nI (lst 60 (ltP (s_n s) (s_K s) (tN b))) else -1, s)
theorem ltV {n b v : Nat} {K : Nat → Nat} (hV : kV 99 n K) (hv : v ≤ 60) (hb : b < n) : kV 159 n (un K (6 + 6 * b + 2) (K (6 + 6 * b + 2) + v)) := by
  have h1 : kV 159 n K := by
    obtain ⟨k1, k2, k3, k4, k5, k6, k7, k8⟩ := hV
    exact ⟨k1, k2, k3, k4, k5, k6, k7, fun c hc => by have := k8 c hc; omega⟩
  have h2 := hV.ar hb
  unfold k_ar at h2
  exact h1.at (fun h => by omega) (fun h => by omega) (fun h => by omega) (fun h => by omega) (fun e he => by omega)
theorem ltP_no {n b v : Nat} {K : Nat → Nat} (hV : kV 99 n K) (hb : b < n) (hv : v ≤ 60) (h : d_s (dD n K) b < v) : ltP n K b v = false := by
  have hV2 := ltV hV hv hb
  have h1 := (dJ_D hV (by decide)).1 b hb (dI_all (dI_D hV (by decide)) b hb)
  have h2 := (dJ_D hV2 (by decide)).1 b hb (dI_all (dI_D hV2 (by decide)) b hb)
  have e1 : k_ar (un K (6 + 6 * b + 2) (K (6 + 6 * b + 2) + v)) b = K (6 + 6 * b + 2) + v := un_s
  have e2 : un K (6 + 6 * b + 2) (K (6 + 6 * b + 2) + v) 0 = K 0 := un_n (by omega)
  rw [e1, e2] at h2
  unfold k_ar at h1
  exact decide_eq_false (by omega)

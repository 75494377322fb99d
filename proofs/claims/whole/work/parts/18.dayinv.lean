/-! ===== what always holds of a day so far ===== -/
def dI (n i : Nat) (s : dT) : Prop := d_g s < 2 ^ n ∧ cn n (fun b => bi (d_g s) b == 1) = i ∧ (∀ j, j < i → d_p s j < n ∧ bi (d_g s) (d_p s j) = 1) ∧ d_f s ≤ 200 + 18 * i ∧ d_r s ≤ 1 ∧ d_w s ≤ 2 * i ∧ d_t s ≤ i ∧ ∀ b, d_s s b ≤ 400 ∧ d_d s b ≤ 400
theorem k_ct_le {K : Nat → Nat} {b : Nat} : k_ct K b ≤ k_ar K b := Nat.sub_le _ _
theorem kV.n {A n : Nat} {K : Nat → Nat} (h : kV A n K) : n ≤ 6 := h.1
theorem kV.ar {A n b : Nat} {K : Nat → Nat} (h : kV A n K) (hb : b < n) : k_ar K b ≤ A := (h.2.2.2.2.2.2.2 b hb).2.2.1
theorem kV.sd {A n b : Nat} {K : Nat → Nat} (h : kV A n K) (hb : b < n) : k_sd K b ≤ 1 := (h.2.2.2.2.2.2.2 b hb).1
theorem kV.wo {A n b : Nat} {K : Nat → Nat} (h : kV A n K) (hb : b < n) : k_wo K b ≤ 9 := (h.2.2.2.2.2.2.2 b hb).2.2.2.1
theorem kV.ct {A n b : Nat} {K : Nat → Nat} (h : kV A n K) (hb : b < n) : k_ct K b ≤ A := Nat.le_trans k_ct_le (h.ar hb)
theorem dI_nil {A n : Nat} {K : Nat → Nat} (h : kV A n K) : dI n 0 (d_nil K) := by
  refine ⟨Nat.two_pow_pos n, ?_, fun j hj => absurd hj (Nat.not_lt_zero j), Nat.zero_le _, h.2.2.2.1, Nat.zero_le _, Nat.zero_le _, fun b => ⟨Nat.zero_le _, Nat.zero_le _⟩⟩
  have e : ∀ m, cn m (fun b => bi (d_g (d_nil K)) b == 1) = 0 := by
    intro m
    induction m with
    | zero => rfl
    | succ m ih =>
      rw [cn, ih]
      show 0 + (if ((0 : Nat) / 2 ^ m % 2 == 1) = true then 1 else 0) = 0
      simp
  exact e n
theorem dI_let {A n i b : Nat} {K : Nat → Nat} {s : dT} (hV : kV A n K) (hA : A ≤ 200) (h : dI n i s) (hi : i < n) (hb : b < n) (hg : bi (d_g s) b = 0) : dI n (i + 1) (d_let K i b s) := by
  obtain ⟨h1, h2, h3, h4, h5, h6, h7, h8⟩ := h
  have hn := hV.n
  have hg64 : d_g s < 64 := Nat.lt_of_lt_of_le h1 (p2_le n (by omega))
  have hbi := bi_add (d_g s) hg64 b (by omega) hg
  have ha := hV.ar hb
  have hs := hV.sd hb
  obtain ⟨-, ⟨v0, v1⟩, v2, -⟩ := hV
  have hf : d_f (d_let K i b s) ≤ 200 + 18 * (i + 1) ∧ max (if d_r s = k_sd K b then d_f s else d_f s + K 1) (k_ar K b) ≤ 209 + 18 * i := by
    have e : d_f (d_let K i b s) = max (if d_r s = k_sd K b then d_f s else d_f s + K 1) (k_ar K b) + K 0 := rfl
    rw [e]
    split <;> omega
  refine ⟨g_add n (by omega) _ h1 b hb hg, ?_, fun j hj => ?_, hf.1, ?_, ?_, ?_, fun c => ?_⟩
  · have e : cn n (fun c => bi (d_g (d_let K i b s)) c == 1) = cn n (fun c => bi (d_g s) c == 1) + 1 := by
      refine cn_add hb (by simp [hg]) ?_ (fun c hc hcb => ?_)
      · show (bi (d_g s + 2 ^ b) b == 1) = true
        rw [hbi b (by omega), if_pos rfl]
        rfl
      · show (bi (d_g s + 2 ^ b) c == 1) = _
        rw [hbi c (by omega), if_neg hcb]
    rw [e, h2]
  · show un (d_p s) i b j < n ∧ bi (d_g s + 2 ^ b) (un (d_p s) i b j) = 1
    by_cases hji : j = i
    · subst hji
      rw [un_s]
      exact ⟨hb, by rw [hbi b (by omega), if_pos rfl]⟩
    · rw [un_n hji]
      obtain ⟨q1, q2⟩ := h3 j (by omega)
      refine ⟨q1, ?_⟩
      rw [hbi _ (by omega)]
      split
      · rfl
      · exact q2
  · show 1 - k_sd K b ≤ 1
    omega
  · show d_w s + _ + _ ≤ 2 * (i + 1)
    (repeat' split) <;> omega
  · show d_t s + _ ≤ i + 1
    split <;> omega
  · show un (d_s s) b _ c ≤ 400 ∧ un (d_d s) b _ c ≤ 400
    have := h8 c
    by_cases hcb : c = b
    · subst hcb
      rw [un_s, un_s]
      omega
    · rw [un_n hcb, un_n hcb]
      exact this
theorem dI_some {n i : Nat} {s : dT} {f : Nat → Nat} (h : dI n i s) (hi : i < n) : ∃ b, am n (fun b => bi (d_g s) b == 0) f = some b := by
  cases h0 : am n (fun b => bi (d_g s) b == 0) f with
  | some b => exact ⟨b, rfl⟩
  | none =>
    have h1 := am_none.mp h0
    obtain ⟨c, hc, hp⟩ := cn_pos (p := fun b => bi (d_g s) b == 1) (by rw [h.2.1]; exact hi)
    have h2 := h1 c hc
    rcases bi_01 (d_g s) c with q | q
    · simp [q] at h2
    · simp [q] at hp
theorem d_wait_le {A n i : Nat} {K : Nat → Nat} {s : dT} (hV : kV A n K) (hA : A ≤ 200) (h : dI n i s) : d_wait n K s ≤ 200 + 18 * i := by
  have h4 := h.2.2.2.1
  unfold d_wait
  cases h0 : am n (fun b => bi (d_g s) b == 0) (k_ct K) with
  | none => exact h4
  | some b =>
    have := hV.ct (am_some h0).1
    show max (d_f s) (k_ct K b) ≤ _
    omega
/-- somebody counts, when the lock has waited -/
theorem d_pick_some {A n cg i : Nat} {K : Nat → Nat} {s : dT} (hV : kV A n K) (h : dI n i s) (hi : i < n) : ∃ b, d_pick n K cg i s = some b ∧ b < n ∧ bi (d_g s) b = 0 := by
  obtain ⟨e, he⟩ := dI_some (f := k_ct K) h hi
  obtain ⟨e1, e2, e3, e4⟩ := am_some he
  have hw : d_wait n K s = max (d_f s) (k_ct K e) := by unfold d_wait; rw [he]
  cases h0 : d_pick n K cg i s with
  | some b =>
    obtain ⟨b1, b2, -⟩ := am_some h0
    refine ⟨b, rfl, b1, ?_⟩
    simp only [d_in, Bool.and_eq_true, beq_iff_eq] at b2
    exact b2.1
  | none =>
    have := am_none.mp h0 e e1
    have he0 : bi (d_g s) e = 0 := by simpa using e2
    rw [d_in, hw] at this
    simp [he0] at this
    omega
theorem dI_step {A n cg i : Nat} {K : Nat → Nat} {s : dT} (hV : kV A n K) (hA : A ≤ 200) (h : dI n i s) (hi : i < n) : dI n (i + 1) (d_step n K cg i s) := by
  obtain ⟨b, h1, h2, h3⟩ := d_pick_some (cg := cg) hV h hi
  unfold d_step
  rw [h1]
  refine dI_let hV hA ?_ hi h2 h3
  exact ⟨h.1, h.2.1, h.2.2.1, d_wait_le hV hA h, h.2.2.2.2⟩
theorem dI_run {A n cg : Nat} {K : Nat → Nat} (hV : kV A n K) (hA : A ≤ 200) : ∀ i, i ≤ n → dI n i (d_run n K cg i)
  | 0, _ => dI_nil hV
  | i + 1, h => dI_step hV hA (dI_run hV hA i (by omega)) (by omega)
/-- all are gone at the end -/
theorem dI_all {n : Nat} {s : dT} (h : dI n n s) : ∀ b, b < n → bi (d_g s) b = 1 := by
  intro b hb
  have := cn_all h.2.1 b hb
  simpa using this

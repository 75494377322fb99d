/-! ===== days of locks that are alike ===== -/
def kE (n : Nat) (K K' : Nat → Nat) : Prop := (∀ k, k < 6 → K' k = K k) ∧ ∀ b q, b < n → q < 5 → K' (6 + 6 * b + q) = K (6 + 6 * b + q)
theorem kE.ct {n b : Nat} {K K' : Nat → Nat} (h : kE n K K') (hb : b < n) : k_ct K' b = k_ct K b := by
  unfold k_ct
  rw [h.1 4 (by decide), h.1 5 (by decide), h.2 b 2 hb (by decide), h.2 b 4 hb (by decide)]
theorem kE.sd {n b : Nat} {K K' : Nat → Nat} (h : kE n K K') (hb : b < n) : k_sd K' b = k_sd K b := h.2 b 0 hb (by decide)
theorem kE.ar {n b : Nat} {K K' : Nat → Nat} (h : kE n K K') (hb : b < n) : k_ar K' b = k_ar K b := h.2 b 2 hb (by decide)
theorem kE.wo {n b : Nat} {K K' : Nat → Nat} (h : kE n K K') (hb : b < n) : k_wo K' b = k_wo K b := h.2 b 3 hb (by decide)
theorem d_let_congr {n i b : Nat} {K K' : Nat → Nat} {s : dT} (h : kE n K K') (hb : b < n) : d_let K' i b s = d_let K i b s := by
  unfold d_let
  rw [h.sd hb, h.ar hb, h.1 0 (by decide), h.1 1 (by decide)]
theorem d_wait_congr {n : Nat} {K K' : Nat → Nat} {s : dT} (h : kE n K K') : d_wait n K' s = d_wait n K s := by
  unfold d_wait
  rw [am_congr (q := fun b => bi (d_g s) b == 0) (g := k_ct K) (fun _ _ => rfl) (fun c hc => h.ct hc)]
  cases e : am n (fun b => bi (d_g s) b == 0) (k_ct K) with
  | none => rfl
  | some b => dsimp only; rw [h.ct (am_some e).1]
theorem d_in_congr {n f b : Nat} {K K' : Nat → Nat} {s : dT} (h : kE n K K') (hb : b < n) : d_in K' s f b = d_in K s f b := by
  unfold d_in
  rw [h.ct hb]
theorem d_side_congr {n i f : Nat} {K K' : Nat → Nat} {s : dT} (h : kE n K K') (hp : ∀ j, j < i → d_p s j < n) : d_side n K' i s f = d_side n K i s f := by
  unfold d_side
  rw [h.1 3 (by decide)]
  by_cases h2 : K 3 = 2
  · rw [if_pos h2, if_pos h2]
    by_cases i0 : i = 0
    · rw [if_pos i0, if_pos i0]
    · rw [if_neg i0, if_neg i0]
      by_cases i1 : i = 1
      · rw [if_pos i1, if_pos i1, h.sd (hp 0 (by omega))]
      · rw [if_neg i1, if_neg i1, h.sd (hp (i - 1) (by omega)), h.sd (hp (i - 2) (by omega))]
  · rw [if_neg h2, if_neg h2]
    by_cases h4 : K 3 = 4
    · rw [if_pos h4, if_pos h4]
      have e : ∀ v, cn n (fun b => d_in K' s f b && (k_sd K' b == v)) = cn n (fun b => d_in K s f b && (k_sd K b == v)) := fun v => cn_congr (fun c hc => by rw [d_in_congr h hc, h.sd hc])
      simp only [e]
    · rw [if_neg h4, if_neg h4]
theorem d_rk_congr {n cg cg' t b : Nat} {K K' : Nat → Nat} (h : kE n K K') (ht : K 3 = 3 → ∀ b, b < n → k_tl K' cg' b = k_tl K cg b) (hb : b < n) : d_rk K' cg' t b = d_rk K cg t b := by
  unfold d_rk
  rw [h.1 3 (by decide)]
  by_cases h3 : K 3 = 3
  · rw [if_pos h3, if_pos h3, ht h3 b hb]
  · rw [if_neg h3, if_neg h3, h.sd hb]
theorem d_step_congr {n cg cg' i : Nat} {K K' : Nat → Nat} {s : dT} (h : kE n K K') (ht : K 3 = 3 → ∀ b, b < n → k_tl K' cg' b = k_tl K cg b) (hp : ∀ j, j < i → d_p s j < n) : d_step n K' cg' i s = d_step n K cg i s := by
  have e : d_pick n K' cg' i s = d_pick n K cg i s := by
    unfold d_pick
    simp only [d_wait_congr h, d_side_congr h hp]
    exact am_congr (fun c hc => d_in_congr h hc) (fun c hc => by rw [d_rk_congr h ht hc, h.ct hc])
  unfold d_step
  rw [e, d_wait_congr h]
  cases q : d_pick n K cg i s with
  | none => rfl
  | some b => exact d_let_congr h (am_some q).1
theorem d_run_congr {A n cg cg' : Nat} {K K' : Nat → Nat} (hV : kV A n K) (hA : A ≤ 200) (h : kE n K K') (ht : K 3 = 3 → ∀ b, b < n → k_tl K' cg' b = k_tl K cg b) : ∀ i, i ≤ n → d_run n K' cg' i = d_run n K cg i := by
  intro i
  induction i with
  | zero =>
    intro _
    show d_nil K' = d_nil K
    unfold d_nil
    rw [h.1 2 (by decide)]
  | succ i ih =>
    intro hi
    rw [d_run, d_run, ih (by omega)]
    exact d_step_congr h ht (fun j hj => ((dI_run (cg := cg) hV hA i (by omega)).2.2.1 j hj).1)
theorem dD_E {A n : Nat} {K K' : Nat → Nat} (hV : kV A n K) (hA : A ≤ 200) (h : kE n K K') (ht : K 3 = 3 → ∀ b, b < n → K' (6 + 6 * b + 5) = K (6 + 6 * b + 5)) : dD n K' = dD n K :=
  d_run_congr hV hA h (fun h3 b hb => by unfold k_tl; rw [ht h3 b hb, h.2 b 1 hb (by decide)]) n (Nat.le_refl n)
theorem meas_congr {n q : Nat} {K K' : Nat → Nat} {D : dT} (h : kE n K K') : meas n K' D q = meas n K D q := by
  unfold meas
  rw [sm_congr (g := fun b => d_s D b * k_wo K b) (fun c hc => by rw [h.wo hc])]
theorem kE.refl {n : Nat} {K : Nat → Nat} : kE n K K := ⟨fun _ _ => rfl, fun _ _ _ _ => rfl⟩
theorem kE.trans {n : Nat} {K K' K'' : Nat → Nat} (h : kE n K K') (h' : kE n K' K'') : kE n K K'' := ⟨fun k hk => (h'.1 k hk).trans (h.1 k hk), fun b q hb hq => (h'.2 b q hb hq).trans (h.2 b q hb hq)⟩
theorem kE.symm {n : Nat} {K K' : Nat → Nat} (h : kE n K K') : kE n K' K := ⟨fun k hk => (h.1 k hk).symm, fun b q hb hq => (h.2 b q hb hq).symm⟩
/-- who lies, by a set -/
def lw (K : Nat → Nat) (g : Nat) : Nat → Nat := fun k => if 6 ≤ k ∧ k % 6 = 5 then bi g ((k - 6) / 6) else K k
theorem lw_l {K : Nat → Nat} {g b : Nat} : lw K g (6 + 6 * b + 5) = bi g b := by
  unfold lw
  rw [if_pos (by omega), show (6 + 6 * b + 5 - 6) / 6 = b by omega]
theorem lw_n {K : Nat → Nat} {g k : Nat} (h : k < 6 ∨ k % 6 ≠ 5) : lw K g k = K k := by
  unfold lw
  rw [if_neg (by omega)]
theorem lw_E {n g : Nat} {K : Nat → Nat} : kE n K (lw K g) := ⟨fun k hk => lw_n (by omega), fun b q _ hq => lw_n (by omega)⟩
theorem kV.lw {A n g : Nat} {K : Nat → Nat} (h : kV A n K) : kV A n (lw K g) := by
  obtain ⟨k1, k2, k3, k4, k5, k6, k7, k8⟩ := h
  refine ⟨k1, by rw [lw_n (by omega)]; exact k2, by rw [lw_n (by omega)]; exact k3, by rw [lw_n (by omega)]; exact k4, by rw [lw_n (by omega)]; exact k5, by rw [lw_n (by omega)]; exact k6, by rw [lw_n (by omega)]; exact k7, fun b hb => ?_⟩
  have h6 := k8 b hb
  rw [lw_l, lw_n (by omega), lw_n (by omega), lw_n (by omega), lw_n (by omega), lw_n (by omega)]
  exact ⟨h6.1, h6.2.1, h6.2.2.1, h6.2.2.2.1, h6.2.2.2.2.1, by have := bi_lt g b; omega⟩
theorem lkD.lw {w : zW} {B n g : Nat} {K : Nat → Nat} (h : lkD w B n K) : lkD w B n (lw K g) := ⟨fun k hk hk3 => by rw [lw_n (by omega)]; exact h.1 k hk hk3, fun b q hb hq => by rw [lw_n (by omega)]; exact h.2.1 b q hb hq, h.2.2⟩
/-- the other way -/
def fl (K : Nat → Nat) (b : Nat) : Nat → Nat := un K (6 + 6 * b + 5) (1 - K (6 + 6 * b + 5))
theorem fl_E {n b : Nat} {K : Nat → Nat} : kE n K (fl K b) := ⟨fun k hk => un_n (by omega), fun c q _ hq => un_n (by omega)⟩
theorem un_id {K : Nat → Nat} {k : Nat} : un K k (K k) = K := by
  funext j
  by_cases h : j = k
  · rw [h, un_s]
  · rw [un_n h]
def gx (g b : Nat) : Nat := if bi g b = 1 then g - 2 ^ b else g + 2 ^ b
theorem b_xor : ∀ g, g < 64 → ∀ b, b < 6 → nI g ^^^ ((1 : Int32) <<< (nI b &&& 31)) = nI (gx g b) := by decide +kernel
theorem bi_gx : ∀ g, g < 64 → ∀ b, b < 6 → ∀ c, c < 6 → bi (gx g b) c = if c = b then 1 - bi g c else bi g c := by decide +kernel
theorem gx_lt : ∀ n, n < 7 → ∀ g, g < 2 ^ n → ∀ b, b < n → gx g b < 2 ^ n := by decide +kernel
/-- the day of a set of liars, one of them turned -/
theorem dD_gx {A n g b : Nat} {K : Nat → Nat} (hV : kV A n K) (hA : A ≤ 200) (hg : g < 64) (hb : b < n) : dD n (lw K (gx g b)) = dD n (fl (lw K g) b) := by
  have hn := hV.n
  have hE : kE n (lw K g) (lw K (gx g b)) := lw_E.symm.trans lw_E
  refine (dD_E (K := fl (lw K g) b) (A := A) ?_ hA (fl_E.symm.trans hE) (fun _ c hc => ?_))
  · refine hV.lw.at (fun h => by omega) (fun h => by omega) (fun h => by omega) (fun h => by omega) (fun c hc => ?_)
    have := bi_lt g b
    rw [lw_l]
    omega
  · rw [lw_l, bi_gx g hg b (by omega) c (by omega)]
    by_cases h : c = b
    · rw [if_pos h, h, fl, un_s, lw_l]
    · rw [if_neg h, fl, un_n (by omega), lw_l]
/-- the day of those that lie -/
theorem dD_lm {A n : Nat} {K : Nat → Nat} (hV : kV A n K) (hA : A ≤ 200) : dD n (lw K (lm n K)) = dD n K :=
  dD_E hV hA lw_E (fun _ b hb => by rw [lw_l]; exact lm_b hV.n (fun b hb => hV.lie hb) b hb)
theorem kV.fl {A n b : Nat} {K : Nat → Nat} (h : kV A n K) : kV A n (fl K b) :=
  h.at (fun h => by omega) (fun h => by omega) (fun h => by omega) (fun h => by omega) (fun c hc => by omega)
theorem dyC.st {w : zW} {n b : Nat} {K : Nat → Nat} {D : dT} (h : dyC w n K n D) (hI : dI n n D) (hb : b < n) : w 33 b = nI (d_s D b) := (h.2.2.2.2.2.2.2.2.2 b hb (dI_all hI b hb)).2
theorem dyC.th {w : zW} {n b : Nat} {K : Nat → Nat} {D : dT} (h : dyC w n K n D) (hI : dI n n D) (hb : b < n) : w 32 b = nI (d_d D b) := (h.2.2.2.2.2.2.2.2.2 b hb (dI_all hI b hb)).1
theorem dyC.pa {w : zW} {n j : Nat} {K : Nat → Nat} {D : dT} (h : dyC w n K n D) (hj : j < n) : w 31 j = nI (d_p D j) := h.2.2.2.2.2.2.2.2.1 j hj
/-- a day of the class by a law, a set of liars, some of them caught -/
theorem c_dayG {d l g cg : Nat} {w : zW} {s : sT} (hd : 4 ≤ d) (hR : RC w s) (hS : sV s) (hl : l ≤ 4) (hg : g < 64) (hcg : cg < 64) : CT mX0_by d [.ref 30, .ref 1, .int (nI l), .int (nI g), .int (nI cg)] w (z_v fun w' => dyC w' (s_n s) (lw (un (s_K s) 3 l) g) (s_n s) (d_run (s_n s) (lw (un (s_K s) 3 l) g) cg (s_n s)) ∧ ∀ a, (a < 30 ∨ 35 < a) → w' a = w a) := by
  have h := c_by (A := 99) (B := 1) (n := s_n s) (K := lw (un (s_K s) 3 l) g) (cg := cg) (Lm := g) hd (Or.inl rfl) (by decide) (hS.1.1.law hl).lw hg (fun b hb => lw_l.symm) hcg (w := w) hR.1.D.law.lw
  rw [lw_n (by omega), un_s] at h
  exact h
/-- what a day's numbers are at most -/
theorem meas_lt {A n q : Nat} {K : Nat → Nat} {D : dT} (hV : kV A n K) (hI : dI n n D) : meas n K D q < 100000 := by
  have hn := hV.n
  obtain ⟨i1, i2, i3, i4, i5, i6, i7, i8⟩ := hI
  have hs : ∀ m, m ≤ n → sm m (fun b => d_s D b * k_wo K b) ≤ m * 3600 := by
    intro m hm
    induction m with
    | zero => exact Nat.zero_le _
    | succ m ih =>
      rw [sm]
      have h1 := ih (by omega)
      have h2 : d_s D m * k_wo K m ≤ 400 * 9 := Nat.mul_le_mul (i8 m).1 (hV.wo (by omega))
      omega
  have h1 := hs n (Nat.le_refl n)
  have h2 : mx n (d_s D) ≤ 400 := mx_le (fun c _ => (i8 c).1)
  unfold meas
  split
  · omega
  · split
    · omega
    · split
      · omega
      · split <;> omega

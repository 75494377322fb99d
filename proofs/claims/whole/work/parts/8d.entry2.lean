section ENTRY
variable {b : Nat} {s : State}
theorem k_strs {A : Nat → Prop} (hs : ∀ w ∈ flatC (Jvm.Cond.and given_1 narrow_1), w.before #[Value.ref b] s = true) (hA : ∀ a : Nat, a < s.heap.size → ¬ A a) : ∃ adK adV : Nat → Nat, vk_S 16 z_sln z_sby adK adV A s s.heap ∧ ∀ i : Nat, i < 16 → (Term.string RX5 (z_six.getD i 0)).eval #[Value.ref b] s none [] s = some (.ref (adK i)) :=
  vk_Sof (tm := fun i => Term.string RX5 (z_six.getD i 0)) (by decide +kernel) (fun i hi => hs _ (f_ex i hi)) (fun i hi => hs _ (f_co i hi)) (fun i hi => hs _ (f_ar i hi)) (fun i hi => hs _ (f_le i hi)) (fun i hi j hj => hs _ (f_el i hi j hj)) (fun i j hi hj hn => (f_ne i hi j hj hn).elim (fun h => Or.inl (hs _ h)) (fun h => Or.inr (hs _ h))) hA
theorem k_nst (hts : ∀ w ∈ lw_tbl, w.before #[Value.ref b] s = true) : ∀ w ∈ z_nst, va_Nw w s := by
  intro w hw
  simp only [z_nst, List.mem_cons, List.mem_nil_iff, or_false] at hw
  rcases hw with rfl | rfl | rfl | rfl | rfl | rfl | rfl | rfl | rfl
  · exact va_Nw.of rfl (hts _ (z_wn 115 (by decide +kernel)))
  · exact va_Nw.of rfl (hts _ (z_wn 465 (by decide +kernel)))
  · exact va_Nw.of rfl (hts _ (z_wn 491 (by decide +kernel)))
  · exact va_Nw.of rfl (hts _ (z_wn 493 (by decide +kernel)))
  · exact va_Nw.of rfl (hts _ (z_wn 471 (by decide +kernel)))
  · exact va_Nw.of rfl (hts _ (z_wn 597 (by decide +kernel)))
  · exact va_Nw.of rfl (hts _ (z_wn 618 (by decide +kernel)))
  · exact va_Nw.of rfl (hts _ (z_wn 671 (by decide +kernel)))
  · exact va_Nw.of rfl (hts _ (z_wn 810 (by decide +kernel)))
theorem k_srf {K : Nat → Nat} (hts : ∀ w ∈ lw_tbl, w.before #[Value.ref b] s = true) (hK : ∀ i : Nat, i < 16 → (Term.string RX5 (z_six.getD i 0)).eval #[Value.ref b] s none [] s = some (.ref (K i))) : ∀ i, i < 16 → vk_R RX5 (z_six.getD i 0) (z_stx.getD i "") (K i) s := by
  intro i hi
  refine vk_R.of (A := #[Value.ref b]) ?_ (hK i hi)
  match i, hi with
  | 0, _ => exact hts _ (z_wn 388 (by decide +kernel))
  | 1, _ => exact hts _ (z_wn 476 (by decide +kernel))
  | 2, _ => exact hts _ (z_wn 477 (by decide +kernel))
  | 3, _ => exact hts _ (z_wn 482 (by decide +kernel))
  | 4, _ => exact hts _ (z_wn 495 (by decide +kernel))
  | 5, _ => exact hts _ (z_wn 505 (by decide +kernel))
  | 6, _ => exact hts _ (z_wn 506 (by decide +kernel))
  | 7, _ => exact hts _ (z_wn 461 (by decide +kernel))
  | 8, _ => exact hts _ (z_wn 462 (by decide +kernel))
  | 9, _ => exact hts _ (z_wn 463 (by decide +kernel))
  | 10, _ => exact hts _ (z_wn 464 (by decide +kernel))
  | 11, _ => exact hts _ (z_wn 500 (by decide +kernel))
  | 12, _ => exact hts _ (z_wn 501 (by decide +kernel))
  | 13, _ => exact hts _ (z_wn 502 (by decide +kernel))
  | 14, _ => exact hts _ (z_wn 503 (by decide +kernel))
  | 15, _ => exact hts _ (z_wn 504 (by decide +kernel))
  | i + 16, hi => omega
theorem k_kn (hts : ∀ w ∈ lw_tbl, w.before #[Value.ref b] s = true) : ∃ g : va_G, va_K g vwCl [] s := by
  have hw : ∀ w ∈ z_WS, w.before #[Value.ref b] s = true := fun w h => hts w (List.mem_filter.mp h).1
  obtain ⟨c0, i0, h0⟩ := u_known (C := RX0) (T := TX0) (N := 13) (n := 13) hw inX0 (hw _ ins_X0)
  obtain ⟨c1, i1, h1⟩ := u_known (C := RX1) (T := TX1) (N := 7) (n := 7) hw inX1 (hw _ ins_X1)
  obtain ⟨c2, i2, h2⟩ := u_known (C := RX2) (T := TX2) (N := 3) (n := 3) hw inX2 (hw _ ins_X2)
  obtain ⟨c3, i3, h3⟩ := u_known (C := RX3) (T := TX3) (N := 3) (n := 3) hw inX3 (hw _ ins_X3)
  obtain ⟨c4, i4, h4⟩ := u_known (C := RX4) (T := TX4) (N := 6) (n := 6) hw inX4 (hw _ ins_X4)
  obtain ⟨c5, i5, h5⟩ := u_known (C := RX5) (T := TX5) (N := 5) (n := 5) hw inX5 (hw _ ins_X5)
  obtain ⟨c6, i6, h6⟩ := u_known (C := RX6) (T := TX6) (N := 12) (n := 12) hw inX6 (hw _ ins_X6)
  obtain ⟨c7, i7, h7⟩ := u_known (C := RX7) (T := TX7) (N := 32) (n := 32) hw inX7 (hw _ ins_X7)
  refine ⟨(fun k => (c0 :: c1 :: c2 :: c3 :: c4 :: c5 :: c6 :: c7 :: []).getD k 0, fun k => (i0 :: i1 :: i2 :: i3 :: i4 :: i5 :: i6 :: i7 :: []).getD k (fun _ => 0)), fun k q hq => ?_, fun k q h => by simp at h⟩
  match k, hq with
  | 0, hq => cases hq; exact h0
  | 1, hq => cases hq; exact h1
  | 2, hq => cases hq; exact h2
  | 3, hq => cases hq; exact h3
  | 4, hq => cases hq; exact h4
  | 5, hq => cases hq; exact h5
  | 6, hq => cases hq; exact h6
  | 7, hq => cases hq; exact h7
  | k + 8, hq => cases hq
def k_a0 (t K V : Nat → Nat) (b : Nat) : Nat → Nat := fun k => if k < 200 then t (k - 100) else if k < 300 then K (k - 200) else if k < 400 then V (k - 300) else b
theorem k_a0_t {t K V : Nat → Nat} {b j : Nat} (h : j < 4) : k_a0 t K V b (100 + j) = t j := by
  unfold k_a0
  rw [if_pos (by omega), Nat.add_sub_cancel_left]
theorem k_a0_K {t K V : Nat → Nat} {b j : Nat} (h : j < 16) : k_a0 t K V b (200 + j) = K j := by
  unfold k_a0
  rw [if_neg (by omega), if_pos (by omega), Nat.add_sub_cancel_left]
theorem k_a0_V {t K V : Nat → Nat} {b j : Nat} (h : j < 16) : k_a0 t K V b (300 + j) = V j := by
  unfold k_a0
  rw [if_neg (by omega), if_neg (by omega), if_pos (by omega), Nat.add_sub_cancel_left]
theorem vk_S_re {N : Nat} {len : List Nat} {byt : List (List Int32)} {K K' V V' : Nat → Nat} {A : Nat → Prop} {U : State} {H : Heap} (hK : ∀ i, i < N → K' i = K i) (hV : ∀ i, i < N → V' i = V i) (h : vk_S N len byt K V A U H) : vk_S N len byt K' V' A U H := by
  obtain ⟨h1, h2⟩ := h
  refine ⟨fun i hi => ?_, fun i j hi hj e => h2 i j hi hj (by rw [← hK i hi, ← hK j hj]; exact e)⟩
  rw [hK i hi, hV i hi]
  exact h1 i hi
theorem k_entry (hts : ∀ w ∈ lw_tbl, w.before #[Value.ref b] s = true) (hgv : (Jvm.Cond.and given_1 narrow_1).before #[Value.ref b] s = true) : ∃ G : zG, k_F G s ∧ k_S G (fun q => s.heap.size ≤ q) s s.heap ∧ G.2.1 400 = b := by
  have hs := flat_of_before _ hgv
  have hA : ∀ a : Nat, a < s.heap.size → ¬ (fun q => s.heap.size ≤ q) a := fun a ha => Nat.not_le.mpr ha
  obtain ⟨g, hK⟩ := k_kn hts
  have h4 := k_stat4 (A := fun q => s.heap.size ≤ q) hts hs hA
  have h0 : ∀ j : Nat, ∃ t : Nat, j < 4 → va_Z RX6 (z_snm.getD j "") "[I" (.ref t) (fun q => s.heap.size ≤ q) s s.heap ∧ va_X t ((z_sar.getD j []).length) (fun i => (z_sar.getD j []).getD i 0) s s.heap ∧ t < s.heap.size ∧ ¬ (fun q => s.heap.size ≤ q) t ∧ (Term.static RX6 (z_snm.getD j "") "[I").eval #[Value.ref b] s none [] s = some (.ref t) := fun j => by
    by_cases hj : j < 4
    · obtain ⟨t, ht⟩ := h4 j hj
      exact ⟨t, fun _ => ht⟩
    · exact ⟨0, fun h => absurd h hj⟩
  obtain ⟨t, ht⟩ := Classical.axiomOfChoice h0
  obtain ⟨K, V, hKV, hKe⟩ := k_strs (A := fun q => s.heap.size ≤ q) hs hA
  have hC : va_Z "java/lang/String" "COMPACT_STRINGS" "Z" (.int 1) (fun q => s.heap.size ≤ q) s s.heap := va_Zof (hts _ (z_wn 402 (by decide +kernel))) (hts _ (z_wn 94 (by decide +kernel))) (va_eqt (hs _ (by decide +kernel))) hA
  have hI : ∃ v : Value, v.category = 1 ∧ va_Z "jdk/internal/util/Preconditions" "SIOOBE_FORMATTER" "Ljava/util/function/BiFunction;" v (fun q => s.heap.size ≤ q) s s.heap := by
    rcases va_Zqof (A := fun q => s.heap.size ≤ q) (hts (.laysStatic "jdk/internal/util/Preconditions" "SIOOBE_FORMATTER" "Ljava/util/function/BiFunction;") (z_wn 418 (by decide +kernel))) (hts _ (z_wn 96 (by decide +kernel))) (hs _ (by decide +kernel)) hA with h | ⟨q, h⟩
    · exact ⟨.null, rfl, h⟩
    · exact ⟨.ref q, rfl, h⟩
  obtain ⟨v, hv, hI⟩ := hI
  refine ⟨(g, k_a0 t K V b, fun _ => 0, v), ⟨hK, ⟨k_nst hts, fun i hi => ?_⟩, va_AO.of (hts _ ao_X1), va_AO.of (hts _ ao_X3), va_Nw.of rfl (hts _ kl_c), hv⟩, ⟨⟨fun j hj => ?_, vk_S_re (fun i hi => k_a0_K hi) (fun i hi => k_a0_V hi) hKV, hC, hI⟩, ?_⟩, rfl⟩
  · show vk_R RX5 (z_six.getD i 0) (z_stx.getD i "") (k_a0 t K V b (200 + i)) s
    rw [k_a0_K hi]
    exact k_srf hts hKe i hi
  · show va_Z RX6 (z_snm.getD j "") "[I" (.ref (k_a0 t K V b (100 + j))) (fun q => s.heap.size ≤ q) s s.heap ∧ va_X (k_a0 t K V b (100 + j)) ((z_sar.getD j []).length) (fun i => (z_sar.getD j []).getD i 0) s s.heap ∧ k_a0 t K V b (100 + j) < s.heap.size ∧ ¬ (fun q => s.heap.size ≤ q) (k_a0 t K V b (100 + j))
    rw [k_a0_t hj]
    obtain ⟨q1, q2, q3, q4, -⟩ := ht j hj
    exact ⟨q1, q2, q3, q4⟩
  · obtain ⟨a, c, cell, kC, q1, q2, q3, q4, q5, q6, -⟩ := Cond.exactly_spec (args := #[Value.ref b]) (first := s) (o := none) (s := s) (idx := []) (t := .static RX6 "RULE_AT_FIRST" "[I") (cls := "[I") (hs _ (by decide +kernel))
    have e := (ht 2 (by omega)).2.2.2.2
    have e2 : (Term.static RX6 "RULE_AT_FIRST" "[I").eval #[Value.ref b] s none [] s = some (.ref (t 2)) := e
    cases q1.symm.trans e2
    refine ⟨cell, ?_, by rw [q6]; exact q2⟩
    show s.heap[k_a0 t K V b (100 + 2)]? = some cell
    rw [k_a0_t (by omega)]
    exact q3
end ENTRY

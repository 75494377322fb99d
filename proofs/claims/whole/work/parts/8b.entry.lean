/-! ===== what is so at the law's entry ===== -/
theorem k_len {args : Array Value} {s : State} {t : Term} {a : Nat} {cell : Cell} {N : Nat} (ht : t.eval args s none [] s = some (.ref a)) (hat : s.arrayAt? a = some cell) (h : (Term.length t).eval args s none [] s = some (.int (Int32.ofNat N))) (hN : N < 2 ^ 31) : cell.slots.size = N := by
  simp only [Term.eval, ht, hat, Option.bind_eq_bind, Option.bind_some] at h
  by_cases hz : cell.slots.size < 2 ^ 31
  · rw [if_pos hz] at h
    have e : nI cell.slots.size = nI N := Value.int.inj (Option.some.inj h)
    exact (nI_eq hz hN).mp e
  · rw [if_neg hz] at h
    cases h
theorem k_static {args : Array Value} {s : State} {nm : String} {N : Nat} {f : Nat → Int32} {A : Nat → Prop} (hN : N < 2 ^ 31) (hl : (Cond.laysStatic RX6 nm "[I").before args s = true) (hini : (Cond.initialized RX6).before args s = true) (harr : (Cond.arrayOf (.static RX6 nm "[I") .int).before args s = true) (hlen : (Cond.eq (.length (.static RX6 nm "[I")) (.int (Int32.ofNat N))).before args s = true) (hel : ∀ j : Nat, j < N → (Cond.eq (.elem (.static RX6 nm "[I") (.int (Int32.ofNat j))) (.int (f j))).before args s = true) (hA : ∀ a : Nat, a < s.heap.size → ¬ A a) :
    ∃ t : Nat, va_Z RX6 nm "[I" (.ref t) A s s.heap ∧ va_X t N f s s.heap ∧ t < s.heap.size ∧ ¬ A t ∧ (Term.static RX6 nm "[I").eval args s none [] s = some (.ref t) := by
  obtain ⟨t, cell, ht, hat, hv⟩ := Term.length_spec (va_eqt hlen)
  obtain ⟨hcell, hkn, -, -⟩ := State.arrayAt?_spec hat
  obtain ⟨hof, -⟩ := Cond.arrayOf_spec harr ht hcell
  have hsz := k_len ht hat (va_eqt hlen) hN
  have hlt : t < s.heap.size := (Array.getElem?_eq_some_iff.mp hcell).1
  refine ⟨t, va_Zof hl hini ht hA, ⟨cell, hcell, hof, hkn, hsz, fun j hj => ?_⟩, hlt, hA t hlt, ht⟩
  obtain ⟨a, i, cell2, h1, h2, h3, h4, h5⟩ := Term.elem_spec (va_eqt (hel j hj))
  cases ht.symm.trans h1
  cases hat.symm.trans h3
  have hi : i = Int32.ofNat j := by
    have e : (Term.int (Int32.ofNat j)).eval args s none [] s = some (.int (Int32.ofNat j)) := rfl
    cases h2.symm.trans e
    rfl
  have hc : i.toNatClampNeg = j := by rw [hi]; exact Int32.toNatClampNeg_ofNat_of_lt (Nat.lt_trans hj hN)
  rw [hc] at h5
  exact h5
section ENTRY
variable {b : Nat} {s : State}
theorem k_stat4 {A : Nat → Prop} (hts : ∀ w ∈ lw_tbl, w.before #[Value.ref b] s = true) (hs : ∀ w ∈ flatC (Jvm.Cond.and given_1 narrow_1), w.before #[Value.ref b] s = true) (hA : ∀ a : Nat, a < s.heap.size → ¬ A a) : ∀ j, j < 4 → ∃ t : Nat, va_Z RX6 (z_snm.getD j "") "[I" (.ref t) A s s.heap ∧ va_X t ((z_sar.getD j []).length) (fun i => (z_sar.getD j []).getD i 0) s s.heap ∧ t < s.heap.size ∧ ¬ A t ∧ (Term.static RX6 (z_snm.getD j "") "[I").eval #[Value.ref b] s none [] s = some (.ref t) := by
  intro j hj
  match j, hj with
  | 0, _ => exact k_static (N := 6) (nm := "RULE_LEAST") (f := fun i => (z_sar.getD 0 []).getD i 0) (by decide) (hts _ (z_wn 492 (by decide +kernel))) (hts _ (List.mem_filter.mp in_X6).1) (hs _ (by decide +kernel)) (hs _ (by decide +kernel)) (fun i hi => by
    match i, hi with
    | 0, _ => exact hs _ (by decide +kernel)
    | 1, _ => exact hs _ (by decide +kernel)
    | 2, _ => exact hs _ (by decide +kernel)
    | 3, _ => exact hs _ (by decide +kernel)
    | 4, _ => exact hs _ (by decide +kernel)
    | 5, _ => exact hs _ (by decide +kernel)
    | i + 6, hi => omega) hA
  | 1, _ => exact k_static (N := 6) (nm := "RULE_MOST") (f := fun i => (z_sar.getD 1 []).getD i 0) (by decide) (hts _ (z_wn 494 (by decide +kernel))) (hts _ (List.mem_filter.mp in_X6).1) (hs _ (by decide +kernel)) (hs _ (by decide +kernel)) (fun i hi => by
    match i, hi with
    | 0, _ => exact hs _ (by decide +kernel)
    | 1, _ => exact hs _ (by decide +kernel)
    | 2, _ => exact hs _ (by decide +kernel)
    | 3, _ => exact hs _ (by decide +kernel)
    | 4, _ => exact hs _ (by decide +kernel)
    | 5, _ => exact hs _ (by decide +kernel)
    | i + 6, hi => omega) hA
  | 2, _ => exact k_static (N := 6) (nm := "RULE_AT_FIRST") (f := fun i => (z_sar.getD 2 []).getD i 0) (by decide) (hts _ (z_wn 116 (by decide +kernel))) (hts _ (List.mem_filter.mp in_X6).1) (hs _ (by decide +kernel)) (hs _ (by decide +kernel)) (fun i hi => by
    match i, hi with
    | 0, _ => exact hs _ (by decide +kernel)
    | 1, _ => exact hs _ (by decide +kernel)
    | 2, _ => exact hs _ (by decide +kernel)
    | 3, _ => exact hs _ (by decide +kernel)
    | 4, _ => exact hs _ (by decide +kernel)
    | 5, _ => exact hs _ (by decide +kernel)
    | i + 6, hi => omega) hA
  | 3, _ => exact k_static (N := 5) (nm := "MARK_MOST") (f := fun i => (z_sar.getD 3 []).getD i 0) (by decide) (hts _ (z_wn 466 (by decide +kernel))) (hts _ (List.mem_filter.mp in_X6).1) (hs _ (by decide +kernel)) (hs _ (by decide +kernel)) (fun i hi => by
    match i, hi with
    | 0, _ => exact hs _ (by decide +kernel)
    | 1, _ => exact hs _ (by decide +kernel)
    | 2, _ => exact hs _ (by decide +kernel)
    | 3, _ => exact hs _ (by decide +kernel)
    | 4, _ => exact hs _ (by decide +kernel)
    | i + 5, hi => omega) hA
  | j + 4, hj => omega
theorem f_ex : ∀ i, i < 16 → Cond.exactly (Term.string RX5 (z_six.getD i 0)) "java/lang/String" ∈ flatC (Jvm.Cond.and given_1 narrow_1) := by decide +kernel
theorem f_co : ∀ i, i < 16 → Cond.eq (.field (Term.string RX5 (z_six.getD i 0)) "java/lang/String" "coder" "B") (.int 0) ∈ flatC (Jvm.Cond.and given_1 narrow_1) := by decide +kernel
theorem f_ar : ∀ i, i < 16 → Cond.arrayOf (.field (Term.string RX5 (z_six.getD i 0)) "java/lang/String" "value" "[B") .byte ∈ flatC (Jvm.Cond.and given_1 narrow_1) := by decide +kernel
theorem f_le : ∀ i, i < 16 → Cond.eq (.length (.field (Term.string RX5 (z_six.getD i 0)) "java/lang/String" "value" "[B")) (.int (Int32.ofNat (z_sln.getD i 0))) ∈ flatC (Jvm.Cond.and given_1 narrow_1) := by decide +kernel
theorem f_el : ∀ i, i < 16 → ∀ j, j < z_sln.getD i 0 → Cond.eq (.elem (.field (Term.string RX5 (z_six.getD i 0)) "java/lang/String" "value" "[B") (.int (Int32.ofNat j))) (.int ((z_sby.getD i []).getD j 0)) ∈ flatC (Jvm.Cond.and given_1 narrow_1) := by decide +kernel
end ENTRY

/-! ===== the rules at first: a copy of the table ===== -/
def k_f0 : Nat → Int32 := fun i => (z_sar.getD 2 []).getD i 0
theorem k_cell {scr : Cell} (h1 : scr.slots.size = 6) (h2 : ∀ j : Nat, j < 6 → scr.slots[j]? = some (.int (k_f0 j))) : ({ cls := scr.cls, slots := scr.slots } : Cell) = vp_cell scr.cls (6, .inl k_f0) := by
  have e : scr.slots = (vp_cell scr.cls (6, .inl k_f0)).slots := by
    apply Array.ext_getElem?
    intro i
    by_cases hi : i < 6
    · rw [h2 i hi]
      show _ = (arrV _ _ _).slots[i]?
      rw [arrV_read _ _ hi]
    · rw [Array.getElem?_eq_none (by omega)]
      show _ = (arrV _ _ _).slots[i]?
      rw [Array.getElem?_eq_none (by rw [arrV_size]; omega)]
  rw [e]
  rfl
theorem k_arrT {U : State} {cA comp : ClassId} {kS : Class} (hkS : U.vm.classes[cA]? = some kS) (hkind : kS.kind = .array comp .int) : ArrOfT U cA .int := fun n z => ⟨fun k q => (by cases q), kS, hkS, comp, hkind⟩
theorem k_ra {U : State} {cA : ClassId} (h : U.vm.findClass "[I" = some cA) : va_RA U cA .int := by
  show U.vm.findClass ("[" ++ FieldType.int.toString) = some cA
  have e : "[" ++ FieldType.int.toString = "[I" := by decide +kernel
  rw [e]
  exact h
theorem k_cast {X : zX} {y : zM} {pc : Nat} {lv : List (Nat × Value)} {st : List Value} {ws : va_W} {tys : kTy} {k n idx q0 a : Nat} {cA : ClassId} {x : vp_A} (h : kOk X y) (nx : Nat) (hd : decode y.2.1 pc = .ok (.checkcast idx, 3)) (hlk : Cond.classLink y.1.cls idx "[I" ∈ z_WS) (ha : ws[q0]? = some (a, .inl (cA, x))) (hnm : (x_s X).vm.findClass "[I" = some cA) (hn : pc + 3 = nx) (kk : WK X y nx lv (.ref a :: st) ws tys k n) : WK X y pc lv (.ref a :: st) ws tys k n := by
  subst hn
  intro H locs ls hP hD hS hK hl
  exact va_castA h.exec h.code h.own (h.words _ hlk) hP q0 ha hnm hd (kk H locs ls hP hD hS hK hl)
set_option maxHeartbeats 4000000 in
theorem k_clone {X : zX} {y : zM} {pc : Nat} {lv : List (Nat × Value)} {st : List Value} {ws : va_W} {tys : kTy} {k n : Nat} (h : kOk X y) (nx : Nat) (hy : y.1.cls = RX1) (hd : decode y.2.1 pc = .ok (.invokevirtual 13, 3)) (hfr : 1 ≤ (x_R X).frames) (hlo : (st.map fun v => v.category).sum + 14 ≤ (x_R X).locals) (hk : k + 1 ≤ (x_R X).cells) (hns : n + 6 ≤ (x_R X).slots) (hn : pc + 3 = nx)
    (kk : ∀ a cA, (x_s X).vm.findClass "[I" = some cA → WK X y nx lv (.ref a :: st) (ws ++ [(a, .inl (cA, 6, .inl k_f0))]) (tys ++ [(cA, .int)]) (k + 1) (n + 6)) : WK X y pc lv (.ref ((x_G X).2.1 102) :: st) ws tys k n := by
  subst hn
  intro H locs ls hP hD hS hK hl
  obtain ⟨-, hx, hlt, hnA⟩ := h.S.1.1 2 (by omega)
  obtain ⟨scr, e1, harr, hun, hsz, hsl⟩ := hx
  obtain ⟨scr', e2, hcls⟩ := h.S.2
  have e1 : (x_s X).heap[(x_G X).2.1 102]? = some scr := e1
  cases e1.symm.trans e2
  have hlt : (x_G X).2.1 102 < (x_s X).heap.size := hlt
  have hnA : ¬ x_A X ((x_G X).2.1 102) := hnA
  have hH : H[(x_G X).2.1 102]? = some scr := by rw [hS.2.1 _ hlt hnA]; exact e1
  have hsz : scr.slots.size = 6 := hsz
  have hsl : ∀ j : Nat, j < 6 → scr.slots[j]? = some (.int (k_f0 j)) := fun j hj => hsl j hj
  obtain ⟨c0, t0, f1, f2, f3⟩ := Cond.castable_spec (va_Nw.use (A := x_a X) rfl h.F.2.2.2.2.1)
  cases hcls.symm.trans f1
  intro T hT XX
  have hcellT : T.heap[(x_G X).2.1 102]? = some scr := by rw [hT]; exact hH
  obtain ⟨-, kA, hkA, comp, hkind⟩ := State.isArrayOf_alike XX.warmed.alike harr
  obtain ⟨hst, kS, hkS, compS, hkindS⟩ := id harr
  obtain ⟨vm', X', st'⟩ := XX.cloneArray h.exec (own := RX1) (by rw [← hy]; exact h.own) (h.words _ kl_m) (h.words _ kl_s) (h.words _ kl_n) (h.words _ kl_i) (h.words _ kl_e) (a := (x_G X).2.1 102) (cell := scr) hcellT hst hun hcls f2 f3
    (fun i v hv => by
      have hk' : T.vm.classes[scr.cls]? = some kA := hkA
      have hfv : fits .int v = true := by
        by_cases hi : i < 6
        · rw [hsl i hi] at hv
          cases hv
          rfl
        · rw [Array.getElem?_eq_none (by omega)] at hv
          cases hv
      simpa [State.fitsSlot, State.slotType?, hk', hkind] using hfv)
    (g := F0 (x_m X) pc ls (.ref ((x_G X).2.1 102) :: st)) rfl (by rw [h.maxL]; exact hl.1) rfl (by rw [h.code]; exact hd) hfr (by show 2 * 0 + _ + 14 ≤ _; omega) hk (by rw [hsz]; exact hns) (hloader := Vm.clonesLoader_of_array hkS hkindS)
  have hce := k_cell hsz hsl
  rw [hce, hsz] at X'
  generalize hH1 : H.push (vp_cell scr.cls (6, .inl k_f0)) = H1
  have z1 : H1.size = H.size + 1 := by rw [← hH1, Array.size_push]
  have p1 : H1[H.size]? = some (vp_cell scr.cls (6, .inl k_f0)) := by rw [← hH1, Array.getElem?_push_size]
  have o1 : ∀ q : Nat, q < H.size → H1[q]? = H[q]? := fun q hq => by rw [← hH1, Array.getElem?_push, if_neg (Nat.ne_of_lt hq)]
  have hkp : ∀ (k : Nat) (y : Nat × va_E), ws[k]? = some y → H1[y.1]? = H[y.1]? := fun k y hy => o1 y.1 ((hP k y hy).lt)
  obtain ⟨t, b1, b2⟩ := kk H.size scr.cls hcls H1 locs ls ((hP.kept hkp).app (fun k y hy => by
      have hz : k < 1 := (List.getElem?_eq_some_iff.mp hy).1
      rw [show k = 0 by omega] at hy
      cases hy
      exact p1)) (hD.push hP rfl (h.A _ hS.1)) ⟨Nat.le_trans hS.1 (by omega), fun y h1 h2 => (o1 y (Nat.lt_of_lt_of_le h1 hS.1)).trans (hS.2.1 y h1 h2), hS.2.2⟩
    ⟨hK.1, fun k y hy => by
      by_cases hl : k < tys.length
      · rw [List.getElem?_append_left hl] at hy
        exact hK.2 k y hy
      · rw [List.getElem?_append_right (by omega)] at hy
        have hz : k - tys.length < 1 := (List.getElem?_eq_some_iff.mp hy).1
        rw [show k - tys.length = 0 by omega] at hy
        cases hy
        exact ⟨k_arrT hkS hkindS, k_ra hcls⟩⟩ hl
    ((T.setVm vm').pushCell (vp_cell scr.cls (6, .inl k_f0))) (by rw [← hH1, ← hT]; rfl) X'
  refine ⟨t, st' t ?_, b2⟩
  rw [hce, hT]
  exact b1

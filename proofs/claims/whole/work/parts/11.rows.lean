/-! ===== a row an instruction ===== -/
theorem zOk.exec {X : zX} {y : zM} {d : Nat} (h : zOk X y d) : (x_p X).tables.exec = Jvm.exec := h.1
theorem zOk.code {X : zX} {y : zM} {d : Nat} (h : zOk X y d) : (x_c X).code = y.2.1 := h.2.1
theorem zOk.maxL {X : zX} {y : zM} {d : Nat} (h : zOk X y d) : (x_c X).maxLocals = y.2.2.1 := h.2.2.1
theorem zOk.ret {X : zX} {y : zM} {d : Nat} (h : zOk X y d) : (x_h X).sig.returnType = y.2.2.2 := h.2.2.2.1
theorem zOk.locks {X : zX} {y : zM} {d : Nat} (h : zOk X y d) : (x_h X).locks = false := h.2.2.2.2.1
theorem zOk.words {X : zX} {y : zM} {d : Nat} (h : zOk X y d) : ∀ w ∈ z_WS, w.before (x_a X) (x_s X) = true := h.2.2.2.2.2.1
theorem zOk.own {X : zX} {y : zM} {d : Nat} (h : zOk X y d) : (x_s X).vm.findClass y.1.cls = some (x_m X).cls := h.2.2.2.2.2.2.1
theorem zOk.room {X : zX} {y : zM} {d : Nat} (h : zOk X y d) : d ≤ (x_R X).frames ∧ 64 * d ≤ (x_R X).locals ∧ (x_n X).1 ≤ (x_R X).cells ∧ (x_n X).2 ≤ (x_R X).slots := h.2.2.2.2.2.2.2.1
theorem zOk.K {X : zX} {y : zM} {d : Nat} (h : zOk X y d) : z_K (x_G X) (x_s X) := h.2.2.2.2.2.2.2.2.1
theorem zOk.N {X : zX} {y : zM} {d : Nat} (h : zOk X y d) : z_N (x_G X) (x_s X) := h.2.2.2.2.2.2.2.2.2.1
theorem zOk.S {X : zX} {y : zM} {d : Nat} (h : zOk X y d) : z_S (x_G X) (x_A X) (x_s X) (x_s X).heap := h.2.2.2.2.2.2.2.2.2.2.1
theorem zOk.A {X : zX} {y : zM} {d : Nat} (h : zOk X y d) : ∀ q, (x_s X).heap.size ≤ q → x_A X q := h.2.2.2.2.2.2.2.2.2.2.2
/-- no long ends at this place -/
def z_nl (L : List (Option Value)) (i : Nat) : Bool := match i with
  | 0 => true
  | j + 1 => match L[j]? with
    | some (some v) => v.category == 1
    | _ => true
def z_al (G : zG) (L : List (Option Value)) : List (Nat × Value) := L.zipIdx.filterMap (fun q => q.1.map fun v => (q.2, z_cv G v))
theorem z_al_mem {G : zG} {L : List (Option Value)} {i : Nat} {u : Value} : (i, u) ∈ z_al G L ↔ ∃ v, L[i]? = some (some v) ∧ u = z_cv G v := by
  unfold z_al
  rw [List.mem_filterMap]
  constructor
  · rintro ⟨⟨o, j⟩, h1, h2⟩
    have h3 := List.mem_zipIdx_iff_getElem?.mp h1
    cases o with
    | none => cases h2
    | some v => cases h2; exact ⟨v, h3, rfl⟩
  · rintro ⟨v, h1, rfl⟩
    exact ⟨(some v, i), List.mem_zipIdx_iff_getElem?.mpr h1, rfl⟩
theorem z_lv.has {G : zG} {ls : Array Slot} {n : Nat} {L : List (Option Value)} (h : z_lv G ls n L) : lv_has ls n (z_al G L) := by
  refine ⟨h.1, h.2.1, fun q hq => ?_⟩
  obtain ⟨i, u⟩ := q
  obtain ⟨v, h1, rfl⟩ := z_al_mem.mp hq
  exact h.2.2 i v h1
theorem z_lv.set1 {G : zG} (hf : G.2.2.2.category = 1) {ls' : Array Slot} {n i : Nat} {L : List (Option Value)} {v : Value} (hn : z_nl L i = true) (h : lv_has ls' n ((i, z_cv G v) :: (z_al G L).filter (fun q => !(q.1 == i) && !(q.1 + 1 == i && q.2.category == 2)))) : z_lv G ls' n (L.set i (some v)) := by
  refine ⟨h.1, h.2.1, fun j u hj => ?_⟩
  by_cases hji : j = i
  · subst hji
    by_cases hl : j < L.length
    · rw [List.getElem?_set_self hl] at hj
      cases hj
      exact h.2.2 _ List.mem_cons_self
    · rw [List.getElem?_eq_none (by rw [List.length_set]; omega)] at hj
      cases hj
  · rw [List.getElem?_set_ne (Ne.symm hji)] at hj
    refine h.2.2 (j, z_cv G u) (List.mem_cons_of_mem _ (List.mem_filter.mpr ⟨z_al_mem.mpr ⟨u, hj, rfl⟩, ?_⟩))
    have h1 : (j == i) = false := by simp [hji]
    by_cases h2 : j + 1 = i
    · subst h2
      simp only [z_nl, hj] at hn
      have h3 : u.category = 1 := by simpa using hn
      simp [h1, z_cat hf, h3]
    · simp [h1, h2]
theorem z_lv.set2 {G : zG} (hf : G.2.2.2.category = 1) {ls' : Array Slot} {n i : Nat} {L : List (Option Value)} {v : Value} (hn : z_nl L i = true) (h : lv_has ls' n ((i, z_cv G v) :: (z_al G L).filter (fun q => !(q.1 == i) && (!(q.1 == i + 1) && !(q.1 + 1 == i && q.2.category == 2))))) : z_lv G ls' n ((L.set i (some v)).set (i + 1) none) := by
  refine ⟨h.1, h.2.1, fun j u hj => ?_⟩
  by_cases hj1 : j = i + 1
  · subst hj1
    by_cases hl : i + 1 < (L.set i (some v)).length
    · rw [List.getElem?_set_self hl] at hj
      cases hj
    · rw [List.getElem?_eq_none (by rw [List.length_set]; omega)] at hj
      cases hj
  · rw [List.getElem?_set_ne (Ne.symm hj1)] at hj
    by_cases hji : j = i
    · subst hji
      by_cases hl : j < L.length
      · rw [List.getElem?_set_self hl] at hj
        cases hj
        exact h.2.2 _ List.mem_cons_self
      · rw [List.getElem?_eq_none (by rw [List.length_set]; omega)] at hj
        cases hj
    · rw [List.getElem?_set_ne (Ne.symm hji)] at hj
      refine h.2.2 (j, z_cv G u) (List.mem_cons_of_mem _ (List.mem_filter.mpr ⟨z_al_mem.mpr ⟨u, hj, rfl⟩, ?_⟩))
      have h1 : (j == i) = false := by simp [hji]
      have h1' : (j == i + 1) = false := by simp [hj1]
      by_cases h2 : j + 1 = i
      · subst h2
        simp only [z_nl, hj] at hn
        have h3 : u.category = 1 := by simpa using hn
        simp [z_cat hf, h3]
        omega
      · simp [h1, h1', h2]
section ROWS
variable {y : zM} {d : Nat} {T : zX → Prop} {pc : Nat} {L : List (Option Value)} {st : List Value} {w : zW}

theorem r_iconst {z : Int} {v : Int32} (n : Nat) (hd : decode y.2.1 pc = .ok (.iconst z, 1)) (hv : Int32.ofInt z = v) (hn : pc + 1 = n) (k : WP y d T n L (.int v :: st) w) : WP y d T pc L (st) w := by
  subst hn
  exact fun X h hT H locs ls hD => lv_iconst h.exec h.code hd hv (k X h hT H locs ls hD)
theorem r_bipush {z : Int} {v : Int32} (n : Nat) (hd : decode y.2.1 pc = .ok (.bipush z, 2)) (hv : (Int8.ofInt z).toInt32 = v) (hn : pc + 2 = n) (k : WP y d T n L (.int v :: st) w) : WP y d T pc L (st) w := by
  subst hn
  exact fun X h hT H locs ls hD => lv_bipush h.exec h.code hd hv (k X h hT H locs ls hD)
theorem r_sipush {z : Int} {v : Int32} (n : Nat) (hd : decode y.2.1 pc = .ok (.sipush z, 3)) (hv : (Int16.ofInt z).toInt32 = v) (hn : pc + 3 = n) (k : WP y d T n L (.int v :: st) w) : WP y d T pc L (st) w := by
  subst hn
  exact fun X h hT H locs ls hD => lv_sipush h.exec h.code hd hv (k X h hT H locs ls hD)
theorem r_lconst {z : Fin 2} {v : Int64} (n : Nat) (hd : decode y.2.1 pc = .ok (.lconst z, 1)) (hv : Int64.ofNat (z : Nat) = v) (hn : pc + 1 = n) (k : WP y d T n L (.long v :: st) w) : WP y d T pc L (st) w := by
  subst hn
  exact fun X h hT H locs ls hD => lv_lconst h.exec h.code hd hv (k X h hT H locs ls hD)
theorem r_iload_n {k : Fin 4} {x : Int32} (n : Nat) (hd : decode y.2.1 pc = .ok (.iload_n k, 1)) (hl : L[(k : Nat)]? = some (some (.int x))) (hn : pc + 1 = n) (kk : WP y d T n L (.int x :: st) w) : WP y d T pc L st w := by
  subst hn
  exact fun X h hT H locs ls hD => lv_iload_n h.exec h.code hd rfl (hD.2.2.2.2.2 _ _ hl) (kk X h hT H locs ls hD)
theorem r_lload_n {k : Fin 4} {x : Int64} (n : Nat) (hd : decode y.2.1 pc = .ok (.lload_n k, 1)) (hl : L[(k : Nat)]? = some (some (.long x))) (hn : pc + 1 = n) (kk : WP y d T n L (.long x :: st) w) : WP y d T pc L st w := by
  subst hn
  exact fun X h hT H locs ls hD => lv_lload_n h.exec h.code hd rfl (hD.2.2.2.2.2 _ _ hl) (kk X h hT H locs ls hD)
theorem r_aload_n {k : Fin 4} {x : Nat} (n : Nat) (hd : decode y.2.1 pc = .ok (.aload_n k, 1)) (hl : L[(k : Nat)]? = some (some (.ref x))) (hn : pc + 1 = n) (kk : WP y d T n L (.ref x :: st) w) : WP y d T pc L st w := by
  subst hn
  exact fun X h hT H locs ls hD => lv_aload_n h.exec h.code hd rfl (hD.2.2.2.2.2 _ _ hl) (kk X h hT H locs ls hD)
theorem r_iload {i : Nat} {x : Int32} (n : Nat) (hd : decode y.2.1 pc = .ok (.iload i, 2)) (hl : L[i]? = some (some (.int x))) (hn : pc + 2 = n) (kk : WP y d T n L (.int x :: st) w) : WP y d T pc L st w := by
  subst hn
  exact fun X h hT H locs ls hD => lv_iload h.exec h.code hd (hD.2.2.2.2.2 _ _ hl) (kk X h hT H locs ls hD)
theorem r_lload {i : Nat} {x : Int64} (n : Nat) (hd : decode y.2.1 pc = .ok (.lload i, 2)) (hl : L[i]? = some (some (.long x))) (hn : pc + 2 = n) (kk : WP y d T n L (.long x :: st) w) : WP y d T pc L st w := by
  subst hn
  exact fun X h hT H locs ls hD => lv_lload h.exec h.code hd (hD.2.2.2.2.2 _ _ hl) (kk X h hT H locs ls hD)
theorem r_aload {i : Nat} {x : Nat} (n : Nat) (hd : decode y.2.1 pc = .ok (.aload i, 2)) (hl : L[i]? = some (some (.ref x))) (hn : pc + 2 = n) (kk : WP y d T n L (.ref x :: st) w) : WP y d T pc L st w := by
  subst hn
  exact fun X h hT H locs ls hD => lv_aload h.exec h.code hd (hD.2.2.2.2.2 _ _ hl) (kk X h hT H locs ls hD)
theorem r_istore_n {k : Fin 4} {x : Int32} {L' : List (Option Value)} (n : Nat) (hd : decode y.2.1 pc = .ok (.istore_n k, 1)) (hi : (k : Nat) < y.2.2.1) (hnl : z_nl L (k : Nat) = true) (hL : L.set (k : Nat) (some (.int x)) = L') (hn : pc + 1 = n) (kk : WP y d T n L' st w) : WP y d T pc L (.int x :: st) w := by
  subst hn
  subst hL
  exact fun X h hT H locs ls hD => lv_istore_n h.exec h.code hd rfl  hD.2.2.2.has hi rfl (fun ls' hl' => kk X h hT H locs ls' ⟨hD.1, hD.2.1, hD.2.2.1, z_lv.set1 (v := .int x) h.K.2.2 hnl hl'⟩)
theorem r_astore_n {k : Fin 4} {x : Nat} {L' : List (Option Value)} (n : Nat) (hd : decode y.2.1 pc = .ok (.astore_n k, 1)) (hi : (k : Nat) < y.2.2.1) (hnl : z_nl L (k : Nat) = true) (hL : L.set (k : Nat) (some (.ref x)) = L') (hn : pc + 1 = n) (kk : WP y d T n L' st w) : WP y d T pc L (.ref x :: st) w := by
  subst hn
  subst hL
  exact fun X h hT H locs ls hD => lv_astore_n h.exec h.code hd rfl  hD.2.2.2.has hi rfl (fun ls' hl' => kk X h hT H locs ls' ⟨hD.1, hD.2.1, hD.2.2.1, z_lv.set1 (v := .ref x) h.K.2.2 hnl hl'⟩)
theorem r_lstore_n {k : Fin 4} {x : Int64} {L' : List (Option Value)} (n : Nat) (hd : decode y.2.1 pc = .ok (.lstore_n k, 1)) (hi : (k : Nat) + 1 < y.2.2.1) (hnl : z_nl L (k : Nat) = true) (hL : (L.set (k : Nat) (some (.long x))).set ((k : Nat) + 1) none = L') (hn : pc + 1 = n) (kk : WP y d T n L' st w) : WP y d T pc L (.long x :: st) w := by
  subst hn
  subst hL
  exact fun X h hT H locs ls hD => lv_lstore_n h.exec h.code hd rfl  hD.2.2.2.has hi rfl (fun ls' hl' => kk X h hT H locs ls' ⟨hD.1, hD.2.1, hD.2.2.1, z_lv.set2 (v := .long x) h.K.2.2 hnl hl'⟩)
theorem r_istore {i : Nat} {x : Int32} {L' : List (Option Value)} (n : Nat) (hd : decode y.2.1 pc = .ok (.istore i, 2)) (hi : i < y.2.2.1) (hnl : z_nl L i = true) (hL : L.set i (some (.int x)) = L') (hn : pc + 2 = n) (kk : WP y d T n L' st w) : WP y d T pc L (.int x :: st) w := by
  subst hn
  subst hL
  exact fun X h hT H locs ls hD => lv_istore h.exec h.code hd  hD.2.2.2.has hi rfl (fun ls' hl' => kk X h hT H locs ls' ⟨hD.1, hD.2.1, hD.2.2.1, z_lv.set1 (v := .int x) h.K.2.2 hnl hl'⟩)
theorem r_astore {i : Nat} {x : Nat} {L' : List (Option Value)} (n : Nat) (hd : decode y.2.1 pc = .ok (.astore i, 2)) (hi : i < y.2.2.1) (hnl : z_nl L i = true) (hL : L.set i (some (.ref x)) = L') (hn : pc + 2 = n) (kk : WP y d T n L' st w) : WP y d T pc L (.ref x :: st) w := by
  subst hn
  subst hL
  exact fun X h hT H locs ls hD => lv_astore h.exec h.code hd  hD.2.2.2.has hi rfl (fun ls' hl' => kk X h hT H locs ls' ⟨hD.1, hD.2.1, hD.2.2.1, z_lv.set1 (v := .ref x) h.K.2.2 hnl hl'⟩)
theorem r_lstore {i : Nat} {x : Int64} {L' : List (Option Value)} (n : Nat) (hd : decode y.2.1 pc = .ok (.lstore i, 2)) (hi : i + 1 < y.2.2.1) (hnl : z_nl L i = true) (hL : (L.set i (some (.long x))).set (i + 1) none = L') (hn : pc + 2 = n) (kk : WP y d T n L' st w) : WP y d T pc L (.long x :: st) w := by
  subst hn
  subst hL
  exact fun X h hT H locs ls hD => lv_lstore h.exec h.code hd  hD.2.2.2.has hi rfl (fun ls' hl' => kk X h hT H locs ls' ⟨hD.1, hD.2.1, hD.2.2.1, z_lv.set2 (v := .long x) h.K.2.2 hnl hl'⟩)
theorem r_iinc {i : Nat} {z : Int} {x v : Int32} {L' : List (Option Value)} (n : Nat) (hd : decode y.2.1 pc = .ok (.iinc i z, 3)) (hl : L[i]? = some (some (.int x))) (hv : x + Int32.ofInt z = v) (hi : i < y.2.2.1) (hnl : z_nl L i = true) (hL : L.set i (some (.int v)) = L') (hn : pc + 3 = n) (kk : WP y d T n L' st w) : WP y d T pc L st w := by
  subst hn
  subst hL
  intro X h hT H locs ls hD
  obtain ⟨j, hj⟩ := List.getElem?_of_mem (z_al_mem (G := x_G X).mpr ⟨_, hl, rfl⟩)
  exact lv_iinc h.exec h.code hd hD.2.2.2.has hj hv hi rfl (fun ls' hl' => kk X h hT H locs ls' ⟨hD.1, hD.2.1, hD.2.2.1, z_lv.set1 (v := .int v) h.K.2.2 hnl hl'⟩)
theorem r_iadd {a b : Int32} (n : Nat) (hd : decode y.2.1 pc = .ok (.iadd, 1))  (hn : pc + 1 = n) (k : WP y d T n L (.int (a + b) :: st) w) : WP y d T pc L (.int b :: .int a :: st) w := by
  subst hn
  exact fun X h hT H locs ls hD => lv_iadd h.exec h.code hd  (k X h hT H locs ls hD)
theorem r_isub {a b : Int32} (n : Nat) (hd : decode y.2.1 pc = .ok (.isub, 1))  (hn : pc + 1 = n) (k : WP y d T n L (.int (a - b) :: st) w) : WP y d T pc L (.int b :: .int a :: st) w := by
  subst hn
  exact fun X h hT H locs ls hD => lv_isub h.exec h.code hd  (k X h hT H locs ls hD)
theorem r_imul {a b : Int32} (n : Nat) (hd : decode y.2.1 pc = .ok (.imul, 1))  (hn : pc + 1 = n) (k : WP y d T n L (.int (a * b) :: st) w) : WP y d T pc L (.int b :: .int a :: st) w := by
  subst hn
  exact fun X h hT H locs ls hD => lv_imul h.exec h.code hd  (k X h hT H locs ls hD)
theorem r_iand {a b : Int32} (n : Nat) (hd : decode y.2.1 pc = .ok (.iand, 1))  (hn : pc + 1 = n) (k : WP y d T n L (.int (a &&& b) :: st) w) : WP y d T pc L (.int b :: .int a :: st) w := by
  subst hn
  exact fun X h hT H locs ls hD => lv_iand h.exec h.code hd  (k X h hT H locs ls hD)
theorem r_ior {a b : Int32} (n : Nat) (hd : decode y.2.1 pc = .ok (.ior, 1))  (hn : pc + 1 = n) (k : WP y d T n L (.int (a ||| b) :: st) w) : WP y d T pc L (.int b :: .int a :: st) w := by
  subst hn
  exact fun X h hT H locs ls hD => lv_ior h.exec h.code hd  (k X h hT H locs ls hD)
theorem r_ixor {a b : Int32} (n : Nat) (hd : decode y.2.1 pc = .ok (.ixor, 1))  (hn : pc + 1 = n) (k : WP y d T n L (.int (a ^^^ b) :: st) w) : WP y d T pc L (.int b :: .int a :: st) w := by
  subst hn
  exact fun X h hT H locs ls hD => lv_ixor h.exec h.code hd  (k X h hT H locs ls hD)
theorem r_ishl {a b : Int32} (n : Nat) (hd : decode y.2.1 pc = .ok (.ishl, 1))  (hn : pc + 1 = n) (k : WP y d T n L (.int (a <<< (b &&& 31)) :: st) w) : WP y d T pc L (.int b :: .int a :: st) w := by
  subst hn
  exact fun X h hT H locs ls hD => lv_ishl h.exec h.code hd  (k X h hT H locs ls hD)
theorem r_ishr {a b : Int32} (n : Nat) (hd : decode y.2.1 pc = .ok (.ishr, 1))  (hn : pc + 1 = n) (k : WP y d T n L (.int (a >>> (b &&& 31)) :: st) w) : WP y d T pc L (.int b :: .int a :: st) w := by
  subst hn
  exact fun X h hT H locs ls hD => lv_ishr h.exec h.code hd  (k X h hT H locs ls hD)
theorem r_iushr {a b v : Int32} (n : Nat) (hd : decode y.2.1 pc = .ok (.iushr, 1)) (hv : (a.toUInt32 >>> (b.toUInt32 &&& Int32.toUInt32 31)).toInt32 = v) (hn : pc + 1 = n) (k : WP y d T n L (.int v :: st) w) : WP y d T pc L (.int b :: .int a :: st) w := by
  subst hn
  exact fun X h hT H locs ls hD => lv_iushr h.exec h.code hd hv (k X h hT H locs ls hD)
theorem r_idiv {a b : Int32} (n : Nat) (hd : decode y.2.1 pc = .ok (.idiv, 1)) (hb : ¬ b = 0) (hn : pc + 1 = n) (k : WP y d T n L (.int (a / b) :: st) w) : WP y d T pc L (.int b :: .int a :: st) w := by
  subst hn
  exact fun X h hT H locs ls hD => lv_idiv h.exec h.code hd hb (k X h hT H locs ls hD)
theorem r_irem {a b : Int32} (n : Nat) (hd : decode y.2.1 pc = .ok (.irem, 1)) (hb : ¬ b = 0) (hn : pc + 1 = n) (k : WP y d T n L (.int (a - a / b * b) :: st) w) : WP y d T pc L (.int b :: .int a :: st) w := by
  subst hn
  exact fun X h hT H locs ls hD => lv_irem h.exec h.code hd hb (k X h hT H locs ls hD)
theorem r_ladd {a b : Int64} (n : Nat) (hd : decode y.2.1 pc = .ok (.ladd, 1))  (hn : pc + 1 = n) (k : WP y d T n L (.long (a + b) :: st) w) : WP y d T pc L (.long b :: .long a :: st) w := by
  subst hn
  exact fun X h hT H locs ls hD => lv_ladd h.exec h.code hd  (k X h hT H locs ls hD)
theorem r_lsub {a b : Int64} (n : Nat) (hd : decode y.2.1 pc = .ok (.lsub, 1))  (hn : pc + 1 = n) (k : WP y d T n L (.long (a - b) :: st) w) : WP y d T pc L (.long b :: .long a :: st) w := by
  subst hn
  exact fun X h hT H locs ls hD => lv_lsub h.exec h.code hd  (k X h hT H locs ls hD)
theorem r_lmul {a b : Int64} (n : Nat) (hd : decode y.2.1 pc = .ok (.lmul, 1))  (hn : pc + 1 = n) (k : WP y d T n L (.long (a * b) :: st) w) : WP y d T pc L (.long b :: .long a :: st) w := by
  subst hn
  exact fun X h hT H locs ls hD => lv_lmul h.exec h.code hd  (k X h hT H locs ls hD)
theorem r_ldiv {a b : Int64} (n : Nat) (hd : decode y.2.1 pc = .ok (.ldiv, 1)) (hb : ¬ b = 0) (hn : pc + 1 = n) (k : WP y d T n L (.long (a / b) :: st) w) : WP y d T pc L (.long b :: .long a :: st) w := by
  subst hn
  exact fun X h hT H locs ls hD => lv_ldiv h.exec h.code hd hb (k X h hT H locs ls hD)
theorem r_lrem {a b : Int64} (n : Nat) (hd : decode y.2.1 pc = .ok (.lrem, 1)) (hb : ¬ b = 0) (hn : pc + 1 = n) (k : WP y d T n L (.long (a - a / b * b) :: st) w) : WP y d T pc L (.long b :: .long a :: st) w := by
  subst hn
  exact fun X h hT H locs ls hD => lv_lrem h.exec h.code hd hb (k X h hT H locs ls hD)
theorem r_i2l {a : Int32} (n : Nat) (hd : decode y.2.1 pc = .ok (.i2l, 1))  (hn : pc + 1 = n) (k : WP y d T n L (.long a.toInt64 :: st) w) : WP y d T pc L (.int a :: st) w := by
  subst hn
  exact fun X h hT H locs ls hD => lv_i2l h.exec h.code hd rfl (k X h hT H locs ls hD)
theorem r_i2b {a : Int32} (n : Nat) (hd : decode y.2.1 pc = .ok (.i2b, 1))  (hn : pc + 1 = n) (k : WP y d T n L (.int a.toInt8.toInt32 :: st) w) : WP y d T pc L (.int a :: st) w := by
  subst hn
  exact fun X h hT H locs ls hD => lv_i2b h.exec h.code hd rfl (k X h hT H locs ls hD)
theorem r_i2s {a : Int32} (n : Nat) (hd : decode y.2.1 pc = .ok (.i2s, 1))  (hn : pc + 1 = n) (k : WP y d T n L (.int a.toInt16.toInt32 :: st) w) : WP y d T pc L (.int a :: st) w := by
  subst hn
  exact fun X h hT H locs ls hD => lv_i2s h.exec h.code hd rfl (k X h hT H locs ls hD)
theorem r_i2c {a : Int32} (n : Nat) (hd : decode y.2.1 pc = .ok (.i2c, 1))  (hn : pc + 1 = n) (k : WP y d T n L (.int (a.toUInt32 % 65536).toInt32 :: st) w) : WP y d T pc L (.int a :: st) w := by
  subst hn
  exact fun X h hT H locs ls hD => lv_i2c h.exec h.code hd rfl (k X h hT H locs ls hD)
theorem r_lcmp {a b : Int64} (n : Nat) (hd : decode y.2.1 pc = .ok (.lcmp, 1))  (hn : pc + 1 = n) (k : WP y d T n L (.int (lg_cmp a b) :: st) w) : WP y d T pc L (.long b :: .long a :: st) w := by
  subst hn
  exact fun X h hT H locs ls hD => W.lcmp h.exec h.code hd  (k X h hT H locs ls hD)
theorem r_dup {v : Value} (n : Nat) (hd : decode y.2.1 pc = .ok (.dup, 1)) (hv : v.category = 1) (hn : pc + 1 = n) (k : WP y d T n L (v :: v :: st) w) : WP y d T pc L (v :: st) w := by
  subst hn
  exact fun X h hT H locs ls hD => lv_dup h.exec h.code hd ((z_cat h.K.2.2 v).trans hv) (k X h hT H locs ls hD)
theorem r_dup2 {u v : Value} (n : Nat) (hd : decode y.2.1 pc = .ok (.dup2, 1)) (hv : v.category = 1) (hu : u.category = 1) (hn : pc + 1 = n) (k : WP y d T n L (v :: u :: v :: u :: st) w) : WP y d T pc L (v :: u :: st) w := by
  subst hn
  exact fun X h hT H locs ls hD => lv_dup2_11 h.exec h.code hd ((z_cat h.K.2.2 v).trans hv) ((z_cat h.K.2.2 u).trans hu) (k X h hT H locs ls hD)
theorem r_pop {v : Value} (n : Nat) (hd : decode y.2.1 pc = .ok (.pop, 1)) (hv : v.category = 1) (hn : pc + 1 = n) (k : WP y d T n L st w) : WP y d T pc L (v :: st) w := by
  subst hn
  exact fun X h hT H locs ls hD => lv_pop h.exec h.code hd ((z_cat h.K.2.2 v).trans hv) (k X h hT H locs ls hD)
theorem r_ldc {idx : Nat} {v : Int32} (n : Nat) (hd : decode y.2.1 pc = .ok (.ldc idx, 2)) (hc : Cond.constant y.1.cls idx v ∈ z_WS) (hn : pc + 2 = n) (k : WP y d T n L (.int v :: st) w) : WP y d T pc L st w := by
  subst hn
  exact fun X h hT H locs ls hD => lv_ldc h.exec h.code h.own (h.words _ hc) hd (k X h hT H locs ls hD)
theorem r_ldc_w {idx : Nat} {v : Int32} (n : Nat) (hd : decode y.2.1 pc = .ok (.ldc_w idx, 3)) (hc : Cond.constant y.1.cls idx v ∈ z_WS) (hn : pc + 3 = n) (k : WP y d T n L (.int v :: st) w) : WP y d T pc L st w := by
  subst hn
  exact fun X h hT H locs ls hD => lv_ldcw h.exec h.code h.own (h.words _ hc) hd (k X h hT H locs ls hD)
theorem r_ldc2 {idx : Nat} {v : Int64} (n : Nat) (hd : decode y.2.1 pc = .ok (.ldc2_w idx, 3)) (hc : Cond.constantLong y.1.cls idx v ∈ z_WS) (hn : pc + 3 = n) (k : WP y d T n L (.long v :: st) w) : WP y d T pc L st w := by
  subst hn
  exact fun X h hT H locs ls hD => lv_ldc2 h.exec h.code h.own (h.words _ hc) hd (k X h hT H locs ls hD)
theorem r_goto {off : Int} (t : Nat) (hd : decode y.2.1 pc = .ok (.goto off, 3)) (ht : (pc : Int) + off = (t : Int)) (k : WP y d T t L st w) : WP y d T pc L st w :=
  fun X h hT H locs ls hD => lv_goto h.exec h.code hd ht (k X h hT H locs ls hD)
theorem r_tin {dflt lo hi off : Int} {offs : Array Int} {len : Nat} {x : Int32} (t : Nat) (hd : decode y.2.1 pc = .ok (.tableswitch dflt lo hi offs, len)) (h1 : ¬ x.toInt < lo) (h2 : ¬ hi < x.toInt) (ho : offs[(x.toInt - lo).toNat]? = some off) (ht : (pc : Int) + off = (t : Int)) (k : WP y d T t L st w) : WP y d T pc L (.int x :: st) w :=
  fun X h hT H locs ls hD => lv_tableIn h.exec h.code hd h1 h2 ho ht (k X h hT H locs ls hD)
theorem r_tout {dflt lo hi : Int} {offs : Array Int} {len : Nat} {x : Int32} (t : Nat) (hd : decode y.2.1 pc = .ok (.tableswitch dflt lo hi offs, len)) (h1 : x.toInt < lo ∨ hi < x.toInt) (ht : (pc : Int) + dflt = (t : Int)) (k : WP y d T t L st w) : WP y d T pc L (.int x :: st) w :=
  fun X h hT H locs ls hD => lv_tableOut h.exec h.code hd h1 ht (k X h hT H locs ls hD)
theorem r_if_eq {x : Int32} {off : Int} (t n : Nat) (hd : decode y.2.1 pc = .ok (.ifCond .eq off, 3)) (ht : (pc : Int) + off = (t : Int)) (hn : pc + 3 = n) (kt : x = 0 → WP y d T t L st w) (kf : ¬ x = 0 → WP y d T n L st w) : WP y d T pc L (.int x :: st) w := by
  subst hn
  exact fun X h hT H locs ls hD => lv_if_eq h.exec h.code hd ht (fun q => kt q X h hT H locs ls hD) (fun q => kf q X h hT H locs ls hD)
theorem r_icmp_eq {x z : Int32} {off : Int} (t n : Nat) (hd : decode y.2.1 pc = .ok (.if_icmp .eq off, 3)) (ht : (pc : Int) + off = (t : Int)) (hn : pc + 3 = n) (kt : x = z → WP y d T t L st w) (kf : ¬ x = z → WP y d T n L st w) : WP y d T pc L (.int z :: .int x :: st) w := by
  subst hn
  exact fun X h hT H locs ls hD => lv_icmp_eq h.exec h.code hd ht (fun q => kt q X h hT H locs ls hD) (fun q => kf q X h hT H locs ls hD)
theorem r_if_ne {x : Int32} {off : Int} (t n : Nat) (hd : decode y.2.1 pc = .ok (.ifCond .ne off, 3)) (ht : (pc : Int) + off = (t : Int)) (hn : pc + 3 = n) (kt : ¬ x = 0 → WP y d T t L st w) (kf : x = 0 → WP y d T n L st w) : WP y d T pc L (.int x :: st) w := by
  subst hn
  exact fun X h hT H locs ls hD => lv_if_ne h.exec h.code hd ht (fun q => kt q X h hT H locs ls hD) (fun q => kf q X h hT H locs ls hD)
theorem r_icmp_ne {x z : Int32} {off : Int} (t n : Nat) (hd : decode y.2.1 pc = .ok (.if_icmp .ne off, 3)) (ht : (pc : Int) + off = (t : Int)) (hn : pc + 3 = n) (kt : ¬ x = z → WP y d T t L st w) (kf : x = z → WP y d T n L st w) : WP y d T pc L (.int z :: .int x :: st) w := by
  subst hn
  exact fun X h hT H locs ls hD => lv_icmp_ne h.exec h.code hd ht (fun q => kt q X h hT H locs ls hD) (fun q => kf q X h hT H locs ls hD)
theorem r_if_lt {x : Int32} {off : Int} (t n : Nat) (hd : decode y.2.1 pc = .ok (.ifCond .lt off, 3)) (ht : (pc : Int) + off = (t : Int)) (hn : pc + 3 = n) (kt : x < 0 → WP y d T t L st w) (kf : ¬ x < 0 → WP y d T n L st w) : WP y d T pc L (.int x :: st) w := by
  subst hn
  exact fun X h hT H locs ls hD => lv_if_lt h.exec h.code hd ht (fun q => kt q X h hT H locs ls hD) (fun q => kf q X h hT H locs ls hD)
theorem r_icmp_lt {x z : Int32} {off : Int} (t n : Nat) (hd : decode y.2.1 pc = .ok (.if_icmp .lt off, 3)) (ht : (pc : Int) + off = (t : Int)) (hn : pc + 3 = n) (kt : x < z → WP y d T t L st w) (kf : ¬ x < z → WP y d T n L st w) : WP y d T pc L (.int z :: .int x :: st) w := by
  subst hn
  exact fun X h hT H locs ls hD => lv_icmp_lt h.exec h.code hd ht (fun q => kt q X h hT H locs ls hD) (fun q => kf q X h hT H locs ls hD)
theorem r_if_ge {x : Int32} {off : Int} (t n : Nat) (hd : decode y.2.1 pc = .ok (.ifCond .ge off, 3)) (ht : (pc : Int) + off = (t : Int)) (hn : pc + 3 = n) (kt : 0 ≤ x → WP y d T t L st w) (kf : ¬ 0 ≤ x → WP y d T n L st w) : WP y d T pc L (.int x :: st) w := by
  subst hn
  exact fun X h hT H locs ls hD => lv_if_ge h.exec h.code hd ht (fun q => kt q X h hT H locs ls hD) (fun q => kf q X h hT H locs ls hD)
theorem r_icmp_ge {x z : Int32} {off : Int} (t n : Nat) (hd : decode y.2.1 pc = .ok (.if_icmp .ge off, 3)) (ht : (pc : Int) + off = (t : Int)) (hn : pc + 3 = n) (kt : z ≤ x → WP y d T t L st w) (kf : ¬ z ≤ x → WP y d T n L st w) : WP y d T pc L (.int z :: .int x :: st) w := by
  subst hn
  exact fun X h hT H locs ls hD => lv_icmp_ge h.exec h.code hd ht (fun q => kt q X h hT H locs ls hD) (fun q => kf q X h hT H locs ls hD)
theorem r_if_gt {x : Int32} {off : Int} (t n : Nat) (hd : decode y.2.1 pc = .ok (.ifCond .gt off, 3)) (ht : (pc : Int) + off = (t : Int)) (hn : pc + 3 = n) (kt : 0 < x → WP y d T t L st w) (kf : ¬ 0 < x → WP y d T n L st w) : WP y d T pc L (.int x :: st) w := by
  subst hn
  exact fun X h hT H locs ls hD => lv_if_gt h.exec h.code hd ht (fun q => kt q X h hT H locs ls hD) (fun q => kf q X h hT H locs ls hD)
theorem r_icmp_gt {x z : Int32} {off : Int} (t n : Nat) (hd : decode y.2.1 pc = .ok (.if_icmp .gt off, 3)) (ht : (pc : Int) + off = (t : Int)) (hn : pc + 3 = n) (kt : z < x → WP y d T t L st w) (kf : ¬ z < x → WP y d T n L st w) : WP y d T pc L (.int z :: .int x :: st) w := by
  subst hn
  exact fun X h hT H locs ls hD => lv_icmp_gt h.exec h.code hd ht (fun q => kt q X h hT H locs ls hD) (fun q => kf q X h hT H locs ls hD)
theorem r_if_le {x : Int32} {off : Int} (t n : Nat) (hd : decode y.2.1 pc = .ok (.ifCond .le off, 3)) (ht : (pc : Int) + off = (t : Int)) (hn : pc + 3 = n) (kt : x ≤ 0 → WP y d T t L st w) (kf : ¬ x ≤ 0 → WP y d T n L st w) : WP y d T pc L (.int x :: st) w := by
  subst hn
  exact fun X h hT H locs ls hD => lv_if_le h.exec h.code hd ht (fun q => kt q X h hT H locs ls hD) (fun q => kf q X h hT H locs ls hD)
theorem r_icmp_le {x z : Int32} {off : Int} (t n : Nat) (hd : decode y.2.1 pc = .ok (.if_icmp .le off, 3)) (ht : (pc : Int) + off = (t : Int)) (hn : pc + 3 = n) (kt : x ≤ z → WP y d T t L st w) (kf : ¬ x ≤ z → WP y d T n L st w) : WP y d T pc L (.int z :: .int x :: st) w := by
  subst hn
  exact fun X h hT H locs ls hD => lv_icmp_le h.exec h.code hd ht (fun q => kt q X h hT H locs ls hD) (fun q => kf q X h hT H locs ls hD)
/-- a name for what lies on top -/
theorem r_top {x : Int32} (k : ∀ z : Int32, z = x → WP y d T pc L (.int z :: st) w) : WP y d T pc L (.int x :: st) w := k x rfl
end ROWS

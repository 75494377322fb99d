/-! ===== construction: words ===== -/
theorem oi_im : Cond.instanceMethod Lib.objectInit ∈ z_WS := z_w 107 (by decide +kernel) rfl
theorem oi_cw : Cond.code Lib.objectInit ⟨#[0xb1]⟩ 1 none ∈ z_WS := z_w 108 (by decide +kernel) rfl
theorem oi_X0 : Cond.methodLink RX0 3 Lib.objectInit ∈ z_WS := z_w 221 (by decide +kernel) rfl
theorem oi_X1 : Cond.methodLink RX1 3 Lib.objectInit ∈ z_WS := z_w 114 (by decide +kernel) rfl
theorem oi_X2 : Cond.methodLink RX2 3 Lib.objectInit ∈ z_WS := z_w 271 (by decide +kernel) rfl
theorem oi_X3 : Cond.methodLink RX3 3 Lib.objectInit ∈ z_WS := z_w 290 (by decide +kernel) rfl
theorem oi_X4 : Cond.methodLink RX4 1 Lib.objectInit ∈ z_WS := z_w 164 (by decide +kernel) rfl
theorem oi_X5 : Cond.methodLink RX5 3 Lib.objectInit ∈ z_WS := z_w 195 (by decide +kernel) rfl
theorem oi_X6 : Cond.methodLink RX6 1 Lib.objectInit ∈ z_WS := z_w 106 (by decide +kernel) rfl
theorem oi_X7 : Cond.methodLink RX7 1 Lib.objectInit ∈ z_WS := z_w 876 (by decide +kernel) rfl
theorem ins_X0 : Cond.instantiable RX0 13 ∈ z_WS := z_w 217 (by decide +kernel) rfl
theorem ins_X1 : Cond.instantiable RX1 7 ∈ z_WS := z_w 110 (by decide +kernel) rfl
theorem ins_X2 : Cond.instantiable RX2 3 ∈ z_WS := z_w 267 (by decide +kernel) rfl
theorem ins_X3 : Cond.instantiable RX3 3 ∈ z_WS := z_w 286 (by decide +kernel) rfl
theorem ins_X4 : Cond.instantiable RX4 6 ∈ z_WS := z_w 160 (by decide +kernel) rfl
theorem ins_X5 : Cond.instantiable RX5 5 ∈ z_WS := z_w 191 (by decide +kernel) rfl
theorem ins_X6 : Cond.instantiable RX6 12 ∈ z_WS := z_w 102 (by decide +kernel) rfl
theorem ins_X7 : Cond.instantiable RX7 32 ∈ z_WS := z_w 872 (by decide +kernel) rfl
theorem cl_X6_7 : Cond.classLink RX6 7 RX1 ∈ z_WS := z_w 109 (by decide +kernel) rfl
theorem cl_X6_23 : Cond.classLink RX6 23 RX4 ∈ z_WS := z_w 159 (by decide +kernel) rfl
theorem cl_X6_30 : Cond.classLink RX6 30 RX5 ∈ z_WS := z_w 190 (by decide +kernel) rfl
theorem cl_X6_39 : Cond.classLink RX6 39 RX0 ∈ z_WS := z_w 216 (by decide +kernel) rfl
theorem cl_X6_46 : Cond.classLink RX6 46 RX2 ∈ z_WS := z_w 266 (by decide +kernel) rfl
theorem cl_X6_60 : Cond.classLink RX6 60 RX3 ∈ z_WS := z_w 284 (by decide +kernel) rfl
theorem cl_X5_15 : Cond.classLink RX5 15 RX1 ∈ z_WS := z_w 196 (by decide +kernel) rfl
theorem cl_L_7 : Cond.classLink RL 7 RX6 ∈ z_WS := z_w 101 (by decide +kernel) rfl
theorem cl_L_10 : Cond.classLink RL 10 RX7 ∈ z_WS := z_w 871 (by decide +kernel) rfl
theorem cl_X1_14 : Cond.classLink RX1 14 "[I" ∈ z_WS := z_w 123 (by decide +kernel) rfl
theorem ac_int : Cond.arrayClass .int ∈ z_WS := z_w 157 (by decide +kernel) rfl
theorem ac_byte : Cond.arrayClass .byte ∈ z_WS := z_w 189 (by decide +kernel) rfl
theorem ac_boolean : Cond.arrayClass .boolean ∈ z_WS := z_w 982 (by decide +kernel) rfl
theorem kl_m : Cond.methodLink RX1 13 ⟨"[I", "clone", "()Ljava/lang/Object;"⟩ ∈ z_WS := z_w 117 (by decide +kernel) rfl
theorem kl_s : Cond.sameMethod "[I" "java/lang/Object" "clone" "()Ljava/lang/Object;" ∈ z_WS := z_w 118 (by decide +kernel) rfl
theorem kl_n : Cond.native ⟨"java/lang/Object", "clone", "()Ljava/lang/Object;"⟩ ∈ z_WS := z_w 119 (by decide +kernel) rfl
theorem kl_i : Cond.instanceMethod ⟨"java/lang/Object", "clone", "()Ljava/lang/Object;"⟩ ∈ z_WS := z_w 120 (by decide +kernel) rfl
theorem kl_e : Cond.selects "[I" ⟨"[I", "clone", "()Ljava/lang/Object;"⟩ ⟨"java/lang/Object", "clone", "()Ljava/lang/Object;"⟩ ∈ z_WS := z_w 121 (by decide +kernel) rfl
theorem kl_c : Cond.castable "[I" "java/lang/Cloneable" ∈ lw_tbl := z_wn 122 (by decide +kernel)
theorem ao_X1 : Cond.arrayOver (.object RX1) ∈ lw_tbl := z_wn 158 (by decide +kernel)
theorem ao_X3 : Cond.arrayOver (.object RX3) ∈ lw_tbl := z_wn 285 (by decide +kernel)
/-! ===== construction: a world that grows ===== -/
def k_F (G : zG) (U : State) : Prop := va_K G.1 vwCl [] U ∧ z_N G U ∧ va_AO RX1 U ∧ va_AO RX3 U ∧ va_Nw (.castable "[I" "java/lang/Cloneable") U ∧ G.2.2.2.category = 1
theorem k_F.warm {G : zG} {s U : State} (hW : s.WarmedH U.vm) (h : k_F G s) : k_F G U := ⟨va_K.moved hW.alike h.1, z_N.warm hW h.2.1, va_AO.moved hW.alike h.2.2.1, va_AO.moved hW.alike h.2.2.2.1, va_Nw.warmC hW h.2.2.2.2.1, h.2.2.2.2.2⟩
theorem k_F.same {G : zG} {u U : State} (hv : u.vm = U.vm) (ha : u.vm.Alike U.vm) (h : k_F G u) : k_F G U := ⟨va_K.moved ha h.1, z_N.same hv h.2.1, va_AO.moved ha h.2.2.1, va_AO.moved ha h.2.2.2.1, va_Nw.same rfl hv h.2.2.2.2.1, h.2.2.2.2.2⟩
def k_S (G : zG) (A : Nat → Prop) (U : State) (H : Heap) : Prop := z_S G A U H ∧ ∃ scr : Cell, H[G.2.1 102]? = some scr ∧ U.vm.findClass "[I" = some scr.cls
theorem k_S.moved {G : zG} {A : Nat → Prop} {u U : State} {H : Heap} (hvm : u.vm.Alike U.vm) (h : k_S G A u H) : k_S G A U H := by
  obtain ⟨h1, scr, h2, h3⟩ := h
  exact ⟨h1.moved hvm, scr, h2, by rw [hvm.findClass]; exact h3⟩
theorem k_S.kept {G : zG} {A : Nat → Prop} {U : State} {H H1 : Heap} (h : k_S G A U H) (hz : H.size ≤ H1.size) (hq : ∀ a : Nat, a < H.size → ¬ A a → H1[a]? = H[a]?) : k_S G A U H1 := by
  obtain ⟨h1, scr, h2, h3⟩ := h
  exact ⟨h1.kept hz hq, scr, by rw [hq _ (h1.1 2 (by omega)).2.2.1 (h1.1 2 (by omega)).2.2.2]; exact h2, h3⟩
theorem k_S.narrow {G : zG} {A B : Nat → Prop} {U : State} {H : Heap} (h : k_S G A U H) (hAB : ∀ q, B q → A q) : k_S G B U H := ⟨h.1.narrow hAB, h.2⟩
def kOk (X : zX) (y : zM) : Prop :=
  (x_p X).tables.exec = Jvm.exec ∧ (x_c X).code = y.2.1 ∧ (x_c X).maxLocals = y.2.2.1 ∧ (x_h X).sig.returnType = y.2.2.2 ∧ (x_h X).locks = false ∧
  (∀ w ∈ z_WS, w.before (x_a X) (x_s X) = true) ∧ (x_s X).vm.findClass y.1.cls = some (x_m X).cls ∧
  k_F (x_G X) (x_s X) ∧ k_S (x_G X) (x_A X) (x_s X) (x_s X).heap ∧ ∀ q, (x_s X).heap.size ≤ q → x_A X q
theorem kOk.exec {X : zX} {y : zM} (h : kOk X y) : (x_p X).tables.exec = Jvm.exec := h.1
theorem kOk.code {X : zX} {y : zM} (h : kOk X y) : (x_c X).code = y.2.1 := h.2.1
theorem kOk.maxL {X : zX} {y : zM} (h : kOk X y) : (x_c X).maxLocals = y.2.2.1 := h.2.2.1
theorem kOk.ret {X : zX} {y : zM} (h : kOk X y) : (x_h X).sig.returnType = y.2.2.2 := h.2.2.2.1
theorem kOk.locks {X : zX} {y : zM} (h : kOk X y) : (x_h X).locks = false := h.2.2.2.2.1
theorem kOk.words {X : zX} {y : zM} (h : kOk X y) : ∀ w ∈ z_WS, w.before (x_a X) (x_s X) = true := h.2.2.2.2.2.1
theorem kOk.own {X : zX} {y : zM} (h : kOk X y) : (x_s X).vm.findClass y.1.cls = some (x_m X).cls := h.2.2.2.2.2.2.1
theorem kOk.F {X : zX} {y : zM} (h : kOk X y) : k_F (x_G X) (x_s X) := h.2.2.2.2.2.2.2.1
theorem kOk.S {X : zX} {y : zM} (h : kOk X y) : k_S (x_G X) (x_A X) (x_s X) (x_s X).heap := h.2.2.2.2.2.2.2.2.1
theorem kOk.A {X : zX} {y : zM} (h : kOk X y) : ∀ q, (x_s X).heap.size ≤ q → x_A X q := h.2.2.2.2.2.2.2.2.2
abbrev kTy : Type := List (ClassId × FieldType)
def WK (X : zX) (y : zM) (pc : Nat) (lv : List (Nat × Value)) (st : List Value) (ws : va_W) (tys : kTy) (k n : Nat) : Prop :=
  ∀ H locs ls, va_P (x_G X).1 vwCl ws H → va_D (x_A X) ws → va_S (x_A X) (x_s X).heap H locs → va_K (x_G X).1 vwCl tys (x_s X) → lv_has ls y.2.2.1 lv →
    W (x_p X) (x_l X) (x_e X) (x_R X) (x_s X) (x_m X) (x_a X) (x_b X) (x_h X) (x_c X) H locs k n (x_Q X) (F0 (x_m X) pc ls st)
def k_rm (d mc ms : Nat) : Room := { frames := d, cells := mc, slots := ms, locals := 64 * d }
abbrev kU : Type := va_W × kTy
def k_Pc (G : zG) (as : List Value) (ws0 : va_W) (sz : Nat) : Array Value → State → Prop := va_Pc as (fun U => U.heap.size = sz ∧ va_P G.1 vwCl ws0 U.heap ∧ va_D (fun _ => True) ws0 ∧ k_F G U ∧ k_S G (va_A ws0 sz) U U.heap)
def k_Qc (G : zG) (A : Nat → Prop) (F : va_W → kTy → Prop) : Array Value → State → Outcome → State → Prop := va_Qv (fun u : kU => F u.1 u.2) (fun u t => va_P G.1 vwCl u.1 t.heap ∧ va_D A u.1 ∧ va_K G.1 vwCl u.2 t) A
def KC (G : zG) (y : zM) (d mc ms : Nat) (as : List Value) (ws0 : va_W) (F : va_W → kTy → Prop) : Prop :=
  ∀ (l : Launch) (sz : Nat), Met l y.1 (z_wsm y) (k_rm d mc ms) (k_Pc G as ws0 sz) (k_Qc G (va_A ws0 sz) F) mc ms (va_A ws0 sz)
def k_T (mc ms : Nat) (F : va_W → kTy → Prop) (X : zX) : Prop := x_Q X = MQ (x_b X) (k_Qc (x_G X) (x_A X) F) (x_a X) (x_s X) mc ms (x_A X)
set_option maxHeartbeats 4000000 in
theorem KC.of {G : zG} {y : zM} {d mc ms : Nat} {as : List Value} {ws0 : va_W} {F : va_W → kTy → Prop} (hy : z_pl y = true) (hl : (lg_sl as).length ≤ y.2.2.1)
    (h : ∀ X, kOk X y → x_G X = G → x_R X = k_rm d mc ms → (x_h X).name = y.1.name → k_T mc ms F X → WK X y 0 (lv_args 0 as) [] ws0 [] 0 0) : KC G y d mc ms as ws0 F := by
  intro l sz
  refine Met.ofW (cc := y.2.1) (maxL := y.2.2.1) (ret := y.2.2.2) hy rfl ?_
  intro p e s m args below meth c s₁ B hml hv
  obtain ⟨rfl, hsz, hP, hD, hF, hS⟩ := hv
  have hts := atoms_spec (ws := z_wsm y) B.pre
  have hl0 := lv_entry as (n := y.2.2.1) hl
  rw [lg_entry_eq]
  generalize (lg_sl as ++ List.replicate (y.2.2.1 - (lg_sl as).length) Slot.unset).toArray = ls at hl0 ⊢
  subst hsz
  exact h (p, l, e, k_rm d mc ms, s, m, as.toArray, below, meth, c, (0, 0), MQ below (k_Qc G (va_A ws0 s.heap.size) F) as.toArray s mc ms (va_A ws0 s.heap.size), G, va_A ws0 s.heap.size) ⟨B.exec, B.bytes, hml, B.returns, B.notSynchronized, fun q hq => hts q (List.mem_cons_of_mem _ hq), findClass_of_methodNamed B.named, hF, hS, fun q hq => Or.inr hq⟩ rfl rfl (name_of_methodNamed B.named B.method).1 rfl s.heap [] ls hP hD.self va_S.rf hF.1 hl0
section CON
variable {X : zX} {y : zM} {pc : Nat} {lv : List (Nat × Value)} {st : List Value} {ws : va_W} {tys : kTy} {k n : Nat}
theorem k_aload {i : Fin 4} {a : Nat} (h : kOk X y) (j nx : Nat) (hd : decode y.2.1 pc = .ok (.aload_n i, 1)) (hj : lv[j]? = some ((i : Nat), .ref a)) (hn : pc + 1 = nx) (kk : WK X y nx lv (.ref a :: st) ws tys k n) : WK X y pc lv st ws tys k n := by
  subst hn
  exact fun H locs ls hP hD hS hK hl => lv_aload_n h.exec h.code hd rfl (lv_at hl j hj) (kk H locs ls hP hD hS hK hl)
theorem k_iload {i : Fin 4} {a : Int32} (h : kOk X y) (j nx : Nat) (hd : decode y.2.1 pc = .ok (.iload_n i, 1)) (hj : lv[j]? = some ((i : Nat), .int a)) (hn : pc + 1 = nx) (kk : WK X y nx lv (.int a :: st) ws tys k n) : WK X y pc lv st ws tys k n := by
  subst hn
  exact fun H locs ls hP hD hS hK hl => lv_iload_n h.exec h.code hd rfl (lv_at hl j hj) (kk H locs ls hP hD hS hK hl)
theorem k_iconst {z : Int} {v : Int32} (h : kOk X y) (nx : Nat) (hd : decode y.2.1 pc = .ok (.iconst z, 1)) (hv : Int32.ofInt z = v) (hn : pc + 1 = nx) (kk : WK X y nx lv (.int v :: st) ws tys k n) : WK X y pc lv st ws tys k n := by
  subst hn
  exact fun H locs ls hP hD hS hK hl => lv_iconst h.exec h.code hd hv (kk H locs ls hP hD hS hK hl)
theorem k_bipush {z : Int} {v : Int32} (h : kOk X y) (nx : Nat) (hd : decode y.2.1 pc = .ok (.bipush z, 2)) (hv : (Int8.ofInt z).toInt32 = v) (hn : pc + 2 = nx) (kk : WK X y nx lv (.int v :: st) ws tys k n) : WK X y pc lv st ws tys k n := by
  subst hn
  exact fun H locs ls hP hD hS hK hl => lv_bipush h.exec h.code hd hv (kk H locs ls hP hD hS hK hl)
theorem k_sipush {z : Int} {v : Int32} (h : kOk X y) (nx : Nat) (hd : decode y.2.1 pc = .ok (.sipush z, 3)) (hv : (Int16.ofInt z).toInt32 = v) (hn : pc + 3 = nx) (kk : WK X y nx lv (.int v :: st) ws tys k n) : WK X y pc lv st ws tys k n := by
  subst hn
  exact fun H locs ls hP hD hS hK hl => lv_sipush h.exec h.code hd hv (kk H locs ls hP hD hS hK hl)
theorem k_dup {v : Value} (h : kOk X y) (nx : Nat) (hd : decode y.2.1 pc = .ok (.dup, 1)) (hc : v.category = 1) (hn : pc + 1 = nx) (kk : WK X y nx lv (v :: v :: st) ws tys k n) : WK X y pc lv (v :: st) ws tys k n := by
  subst hn
  exact fun H locs ls hP hD hS hK hl => lv_dup h.exec h.code hd hc (kk H locs ls hP hD hS hK hl)
theorem k_istore {i : Fin 4} {x : Int32} {lv' : List (Nat × Value)} (h : kOk X y) (nx : Nat) (hd : decode y.2.1 pc = .ok (.istore_n i, 1)) (hi : (i : Nat) < y.2.2.1) (hl' : ((i : Nat), Value.int x) :: lv.filter (fun q => !(q.1 == (i : Nat)) && !(q.1 + 1 == (i : Nat) && q.2.category == 2)) = lv') (hn : pc + 1 = nx) (kk : WK X y nx lv' st ws tys k n) : WK X y pc lv (.int x :: st) ws tys k n := by
  subst hn
  exact fun H locs ls hP hD hS hK hl => lv_istore_n h.exec h.code hd rfl hl hi hl' (fun ls hl => kk H locs ls hP hD hS hK hl)
theorem k_iinc {i j : Nat} {z : Int} {x v : Int32} {lv' : List (Nat × Value)} (h : kOk X y) (nx : Nat) (hd : decode y.2.1 pc = .ok (.iinc i z, 3)) (hj : lv[j]? = some (i, .int x)) (hv : x + Int32.ofInt z = v) (hi : i < y.2.2.1) (hl' : (i, Value.int v) :: lv.filter (fun q => !(q.1 == i) && !(q.1 + 1 == i && q.2.category == 2)) = lv') (hn : pc + 3 = nx) (kk : WK X y nx lv' st ws tys k n) : WK X y pc lv st ws tys k n := by
  subst hn
  exact fun H locs ls hP hD hS hK hl => lv_iinc h.exec h.code hd hl hj hv hi hl' (fun ls hl => kk H locs ls hP hD hS hK hl)
theorem k_goto {off : Int} (h : kOk X y) (t : Nat) (hd : decode y.2.1 pc = .ok (.goto off, 3)) (ht : (pc : Int) + off = (t : Int)) (kk : WK X y t lv st ws tys k n) : WK X y pc lv st ws tys k n :=
  fun H locs ls hP hD hS hK hl => lv_goto h.exec h.code hd ht (kk H locs ls hP hD hS hK hl)
theorem k_icmp_ge {x z : Int32} {off : Int} (h : kOk X y) (t nx : Nat) (hd : decode y.2.1 pc = .ok (.if_icmp .ge off, 3)) (ht : (pc : Int) + off = (t : Int)) (hn : pc + 3 = nx) (kt : z ≤ x → WK X y t lv st ws tys k n) (kf : ¬ z ≤ x → WK X y nx lv st ws tys k n) : WK X y pc lv (.int z :: .int x :: st) ws tys k n := by
  subst hn
  exact fun H locs ls hP hD hS hK hl => lv_icmp_ge h.exec h.code hd ht (fun q => kt q H locs ls hP hD hS hK hl) (fun q => kf q H locs ls hP hD hS hK hl)
theorem k_oinit {idx a : Nat} (h : kOk X y) (nx : Nat) (hd : decode y.2.1 pc = .ok (.invokespecial idx, 3)) (hlk : Cond.methodLink y.1.cls idx Lib.objectInit ∈ z_WS) (hfr : 1 ≤ (x_R X).frames) (hlo : 12 ≤ (x_R X).locals) (hn : pc + 3 = nx) (kk : WK X y nx lv [] ws tys k n) : WK X y pc lv [.ref a] ws tys k n := by
  subst hn
  intro H locs ls hP hD hS hK hl
  exact W.objInit h.exec h.code h.own (h.words _ hlk) (h.words _ oi_im) (h.words _ oi_cw) rfl (by rw [h.maxL]; exact hl.1) rfl hd hfr hlo (kk H locs ls hP hD hS hK hl)
theorem k_new {ci idx : Nat} {q : vw_C} {fs : List Value} (h : kOk X y) (nx : Nat) (ty : Nat → FieldType) (hty : ∀ j, j < q.2.2 → parseFieldDescriptor (q.2.1 j).2.2.1 = some (ty j)) (hd : decode y.2.1 pc = .ok (.new idx, 3)) (hq : vwCl[ci]? = some q) (hcl : Cond.classLink y.1.cls idx q.1 ∈ z_WS) (hins : Cond.instantiable q.1 q.2.2 ∈ z_WS) (hini : Cond.initialized q.1 ∈ z_WS) (hfs : ∀ j, j < q.2.2 → defaultValue (ty j) = vp_V fs j) (hk : k + 1 ≤ (x_R X).cells) (hns : n + q.2.2 ≤ (x_R X).slots) (hn : pc + 3 = nx)
    (kk : ∀ a, WK X y nx lv (.ref a :: st) (ws ++ [(a, .inr (ci, fs))]) tys (k + 1) (n + q.2.2)) : WK X y pc lv st ws tys k n := by
  subst hn
  intro H locs ls hP hD hS hK hl
  exact va_new (C := q.1) (T := q.2.1) (N := q.2.2) h.exec h.code h.words (z_cls ci q hq).1 ty hty h.own (h.words _ hcl) (h.words _ hins) (h.words _ hini) hK hP hD hS h.A hq hfs hk hns hd (fun a H1 hP hD hS => kk a H1 locs ls hP hD hS hK hl)
theorem k_newa {at0 : ArrayType} {v : Int32} {N : Nat} (h : kOk X y) (nx : Nat) (ty : FieldType) (hd : decode y.2.1 pc = .ok (.newarray at0, 2)) (hty : newarray.typeOf at0 = ty) (hac : Cond.arrayClass ty ∈ z_WS) (hdv : defaultValue ty = .int 0) (hv : ¬ v < 0) (hN : v.toNatClampNeg = N) (hb : N * componentBytes ty ≤ 536870912) (hk : k + 1 ≤ (x_R X).cells) (hns : n + N ≤ (x_R X).slots) (hn : pc + 2 = nx)
    (kk : ∀ a cA, WK X y nx lv (.ref a :: st) (ws ++ [(a, .inl (cA, N, .inl (fun _ => 0)))]) (tys ++ [(cA, ty)]) (k + 1) (n + N)) : WK X y pc lv (.int v :: st) ws tys k n := by
  subst hn
  subst hty
  intro H locs ls hP hD hS hK hl
  exact va_newa (a0 := (N, .inl (fun _ => 0))) h.exec h.code (h.words _ hac) rfl hK hP hD hS h.A (fun cA => by rw [hdv]; rfl) hv hN hb hk hns hd (fun a cA H1 hK hP hD hS => kk a cA H1 locs ls hP hD hS hK hl)
theorem k_newq {C : String} {idx : Nat} {v : Int32} {N : Nat} (h : kOk X y) (nx : Nat) (hd : decode y.2.1 pc = .ok (.anewarray idx, 3)) (hcl : Cond.classLink y.1.cls idx C ∈ z_WS) (hao : va_AO C (x_s X)) (hv : ¬ v < 0) (hN : v.toNatClampNeg = N) (hb : N * 4 ≤ 536870912) (hk : k + 1 ≤ (x_R X).cells) (hns : n + N ≤ (x_R X).slots) (hn : pc + 3 = nx)
    (kk : ∀ a cA, WK X y nx lv (.ref a :: st) (ws ++ [(a, .inl (cA, N, .inr (.inr (.inr (.inr (fun _ => none))))))]) (tys ++ [(cA, .object C)]) (k + 1) (n + N)) : WK X y pc lv (.int v :: st) ws tys k n := by
  subst hn
  intro H locs ls hP hD hS hK hl
  exact va_newq h.exec h.code h.own (h.words _ hcl) hao hK hP hD hS h.A hv hN hb hk hns hd (fun a cA H1 hK hP hD hS => kk a cA H1 locs ls hP hD hS hK hl)
/-- a final field, of a constructor's own object -/
def k_fin (own : String) (ci f : Nat) (ty : FieldType) : Prop := ∃ q : vw_C, vwCl[ci]? = some q ∧ (q.2.1 f).2.2.2 = true ∧ (q.2.1 f).1 = own ∧ parseFieldDescriptor (q.2.1 f).2.2.1 = some ty
theorem k_putF {idx ci f q0 a : Nat} {fs : List Value} {v : Value} {ty : FieldType} (h : kOk X y) (hin : (x_h X).name = "<init>") (nx : Nat) (hd : decode y.2.1 pc = .ok (.putfield idx, 3)) (hF : z_fl y.1.cls idx ci f) (hfi : k_fin y.1.cls ci f ty) (hnr : narrow ty v = v) (hft : fits ty v = true) (he : ws[q0]? = some (a, .inr (ci, fs))) (hfl : f < fs.length) (hn : pc + 3 = nx)
    (kk : WK X y nx lv st (ws.set q0 (a, .inr (ci, fs.set f v))) tys k n) : WK X y pc lv (v :: .ref a :: st) ws tys k n := by
  subst hn
  intro H locs ls hP hD hS hK hl
  obtain ⟨q, hq, hf, hlk⟩ := hF
  obtain ⟨q', hq', hfin, hdc, hpd⟩ := hfi
  cases hq.symm.trans hq'
  obtain ⟨hin2, ⟨ty0, hty⟩, hnm⟩ := z_cls ci q hq
  exact va_putF (C := q.1) (T := q.2.1) (N := q.2.2) (ci := ci) (index := idx) (Ts := z_WS) h.exec h.code h.words hin2 ty0 hty hnm h.own hK hP hD hS q0 he hq f hf (h.words _ hlk) (fun x hx => hx) hfin hin hdc hpd hnr hft hfl hd (fun H1 locs1 hP hD hS => kk H1 locs1 ls hP hD hS hK hl)
theorem k_puti {idx ci f q0 a : Nat} {fs : List Value} {v : Int32} (h : kOk X y) (nx : Nat) (hd : decode y.2.1 pc = .ok (.putfield idx, 3)) (hF : z_fl y.1.cls idx ci f) (hW : z_fw ci f) (he : ws[q0]? = some (a, .inr (ci, fs))) (hfl : f < fs.length) (hn : pc + 3 = nx)
    (kk : WK X y nx lv st (ws.set q0 (a, .inr (ci, fs.set f (.int v)))) tys k n) : WK X y pc lv (.int v :: .ref a :: st) ws tys k n := by
  subst hn
  intro H locs ls hP hD hS hK hl
  obtain ⟨q, hq, hf, hlk⟩ := hF
  obtain ⟨q', hq', hfin, hpd⟩ := hW
  cases hq.symm.trans hq'
  obtain ⟨hin2, ⟨ty0, hty⟩, hnm⟩ := z_cls ci q hq
  exact va_put (C := q.1) (T := q.2.1) (N := q.2.2) (ci := ci) (index := idx) (Ts := z_WS) h.exec h.code h.words hin2 ty0 hty hnm h.own hK hP hD hS q0 he hq f hf (h.words _ hlk) (fun x hx => hx) hfin hpd rfl rfl hfl hd (fun H1 locs1 hP hD hS => kk H1 locs1 ls hP hD hS hK hl)
theorem k_get {idx ci f q0 a : Nat} {fs : List Value} {v : Value} (h : kOk X y) (nx : Nat) (hd : decode y.2.1 pc = .ok (.getfield idx, 3)) (hF : z_fl y.1.cls idx ci f) (he : ws[q0]? = some (a, .inr (ci, fs))) (hv : fs[f]? = some v) (hn : pc + 3 = nx)
    (kk : WK X y nx lv (v :: st) ws tys k n) : WK X y pc lv (.ref a :: st) ws tys k n := by
  subst hn
  intro H locs ls hP hD hS hK hl
  obtain ⟨q, hq, hf, hlk⟩ := hF
  obtain ⟨hin2, ⟨ty0, hty⟩, hnm⟩ := z_cls ci q hq
  exact va_get (C := q.1) (T := q.2.1) (N := q.2.2) (ci := ci) (index := idx) (Ts := z_WS) h.exec h.code h.words hin2 h.own hK hP q0 he hq f hf (h.words _ hlk) (fun x hx => hx) hv hd (kk H locs ls hP hD hS hK hl)
theorem k_aast {q0 t0 qk ci a N v : Nat} {cA : ClassId} {r : vw_C} {vs : List Value} {f : Nat → Option Nat} {i : Int32} (h : kOk X y) (nx : Nat) (hd : decode y.2.1 pc = .ok (.aastore, 1)) (ha : ws[q0]? = some (a, .inl (cA, N, .inr (.inr (.inr (.inr f)))))) (ht : tys[t0]? = some (cA, .object r.1)) (hv : ws[qk]? = some (v, .inr (ci, vs))) (hc : vwCl[ci]? = some r) (hin : vp_in i N) (hn : pc + 1 = nx)
    (kk : WK X y nx lv st (ws.set q0 (a, .inl (cA, N, .inr (.inr (.inr (.inr (va_up f i.toNatClampNeg (some v)))))))) tys k n) : WK X y pc lv (.ref v :: .int i :: .ref a :: st) ws tys k n := by
  subst hn
  intro H locs ls hP hD hS hK hl
  exact va_astq h.exec h.code hK hP hD hS q0 t0 qk ci ha ht hv hc hin hd (fun H1 locs1 hP hD hS => kk H1 locs1 ls hP hD hS hK hl)
theorem k_gets {idx : Nat} (h : kOk X y) (nx : Nat) (hd : decode y.2.1 pc = .ok (.getstatic idx, 3)) (hlk : Cond.fieldLinkNest y.1.cls idx RX6 "RULE_AT_FIRST" "[I" RX6 ∈ z_nst) (hn : pc + 3 = nx) (kk : WK X y nx lv (.ref ((x_G X).2.1 102) :: st) ws tys k n) : WK X y pc lv st ws tys k n := by
  subst hn
  intro H locs ls hP hD hS hK hl
  exact va_getsN h.exec h.code (h.S.1.1 2 (by omega)).1 hS h.own (va_Nw.use rfl (h.F.2.1.1 _ hlk)) (fun x hx => hx) hd (kk H locs ls hP hD hS hK hl)
/-- a call of a constructor -/
theorem k_call {y2 : zM} {d2 mc ms idx b np : Nat} {as rest : List Value} {wc wr : va_W} {F : va_W → kTy → Prop} (h : kOk X y) (nx : Nat) (isC isR : List Nat) (hd : decode y.2.1 pc = .ok (.invokespecial idx, 3)) (hlk : Cond.methodLink y.1.cls idx y2.1 ∈ z_WS) (hm : z_m0 y2 np) (him : Cond.instanceMethod y2.1 ∈ z_WS) (hnm : y2.1.name = "<init>") (hy : y2.2.2.2 = none) (hnp : as.length = np) (hc : KC (x_G X) y2 d2 mc ms (.ref b :: as) wc F)
    (hfr : d2 + 1 ≤ (x_R X).frames) (hlo : 64 * (d2 + 1) ≤ (x_R X).locals) (hC : isC.map (fun i => ws[i]?) = wc.map some) (hCf : isC.filterMap (fun i => ws[i]?) = wc) (hCn : va_nd isC = true) (hR : isR.map (fun i => ws[i]?) = wr.map some) (hRn : va_nd isR = true) (hdis : ∀ i ∈ isR, i ∉ isC)
    (hst : as.reverse ++ .ref b :: rest = st) (hr : (rest.map fun v => v.category).sum ≤ 8) (hk : k + mc ≤ (x_R X).cells) (hns : n + ms ≤ (x_R X).slots) (hn : pc + 3 = nx)
    (kk : ∀ u t, F u t → WK X y nx lv rest (wr ++ u) (tys ++ t) (k + mc) (n + ms)) : WK X y pc lv st ws tys k n := by
  subst hn
  subst hst
  intro H locs ls hP hD hS hK hl
  have hPc := hP.sub isC hCf
  have hDc := hD.sub isC hCn hC
  have hFc := va_free hD hS h.A isC hC
  obtain ⟨yn, yb, yl, yr⟩ := y2
  have hy : yr = none := hy
  subst hy
  refine va_callv (va_runI (As := as) (rest := rest) ⟨h.exec, h.code, h.maxL, h.own, h.words⟩ (hc (x_l X) H.size) ⟨callB_of np h.words (z_gi hm) rfl rfl rfl (h.words _ hm.2.1) (h.words _ hlk) hm.2.2.1 ⟨hfr, ?_⟩, hnm, h.words _ him⟩ ⟨fun a U g mk q => ?_, fun U hU hW => ?_⟩ rfl hnp hl.1 rfl (lv_room hr) hd ⟨hk, hns⟩) hS (fun q _ h => hFc q h) hFc (fun u t H1 locs1 ht hvm hw hB hz1 hk1 hS1 => ?_)
  · have := hm.2.2.2
    have h3 : yl ≤ 45 := this
    show 8 + (yl + 11) + 64 * d2 ≤ (x_R X).locals
    omega
  · obtain ⟨q0, q1, qP, qD, qF, qS⟩ := q
    exact ⟨q0, q1, qP, qD, k_F.same (u := U) (U := U.calling g mk a) rfl (Vm.Alike.refl U.vm) qF, k_S.moved (u := U) (U := U.calling g mk a) (Vm.Alike.refl U.vm) qS⟩
  · refine ⟨rfl, by rw [hU], by rw [hU]; exact hPc, hDc.weaken (fun _ _ _ _ => trivial), h.F.warm hW, ?_⟩
    rw [hU]
    exact ((h.S.moved hW.alike).kept hS.1 hS.2.1).narrow hFc
  · obtain ⟨hP1, hD1, hK1⟩ := hB
    rw [ht] at hP1
    obtain ⟨hP2, hD2⟩ := va_join hP hD isC isR hC hR hRn hdis hk1 hFc hP1 hD1
    exact kk u.1 u.2 hw H1 locs1 ls hP2 hD2 hS1 (hK.app (va_K.moved hvm.symm hK1)) hl
theorem k_ret {mc ms : Nat} {F : va_W → kTy → Prop} (h : kOk X y) (hT : k_T mc ms F X) (hd : decode y.2.1 pc = .ok (.return_, 1)) (hy : y.2.2.2 = none) (hk : k ≤ mc) (hn : n ≤ ms) (hF : F ws tys) : WK X y pc lv [] ws tys k n := by
  intro H locs ls hP hD hS hK hl
  refine W.widen hk hn ?_
  have e : x_Q X = MQ (x_b X) (k_Qc (x_G X) (x_A X) F) (x_a X) (x_s X) mc ms (x_A X) := hT
  rw [e]
  exact W.vret h.exec h.code (h.ret.trans hy) (fun t ht hW => ⟨⟨(ws, tys), rfl, hF, by rw [ht]; exact hP, hD, va_K.moved hW.alike hK⟩, hS.F ht⟩) hS.2.2 hd h.locks
theorem k_sub {ws' : va_W} {tys' : kTy} (is js : List Nat) (h1 : is.filterMap (fun i => ws[i]?) = ws') (h2 : va_nd is = true) (h3 : is.map (fun i => ws[i]?) = ws'.map some) (h4 : js.filterMap (fun i => tys[i]?) = tys') (kk : WK X y pc lv st ws' tys' k n) : WK X y pc lv st ws tys k n :=
  fun H locs ls hP hD hS hK hl => kk H locs ls (hP.sub is h1) (hD.sub is h2 h3) hS (hK.sub js h4) hl
end CON

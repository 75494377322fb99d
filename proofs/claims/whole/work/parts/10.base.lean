/-! ===== the world: cells by number, what they hold as w cell place; references never change ===== -/
abbrev zG : Type := va_G × (Nat → Nat) × (Nat → ClassId) × Value
abbrev zW : Type := Nat → Nat → Int32
abbrev zE : Type := (FieldType × Nat × Option (List Nat)) ⊕ (Nat × List (Option Nat))
def z_shp : List zE := [
  .inr (6, [some 1, some 6, some 26, none, some 27, some 29, some 30, some 36, some 39, some 40, some 41, none]),
  .inr (1, [some 2, some 3, none, none, none, some 4, some 5]), .inl (.int, 6, none), .inl (.int, 30, none), .inl (.int, 6, none), .inl (.int, 6, none),
  .inr (1, [some 7, some 8, none, none, none, some 9, some 10]), .inl (.int, 6, none), .inl (.int, 30, none), .inl (.int, 6, none), .inl (.int, 6, none),
  .inr (1, [some 12, some 13, none, none, none, some 14, some 15]), .inl (.int, 6, none), .inl (.int, 30, none), .inl (.int, 6, none), .inl (.int, 6, none),
  .inr (1, [some 17, some 18, none, none, none, some 19, some 20]), .inl (.int, 6, none), .inl (.int, 30, none), .inl (.int, 6, none), .inl (.int, 6, none),
  .inr (1, [some 22, some 23, none, none, none, some 24, some 25]), .inl (.int, 6, none), .inl (.int, 30, none), .inl (.int, 6, none), .inl (.int, 6, none),
  .inl (.object RX1, 2, some [11, 16]),
  .inr (4, [some 28, none, none, none, none, none]), .inl (.byte, 160, none),
  .inr (5, [some 21, none, some 27, none, none]),
  .inr (0, [some 31, some 32, some 33, some 34, some 35, none, none, none, none, none, none, none, none]), .inl (.int, 6, none), .inl (.int, 6, none), .inl (.int, 6, none), .inl (.int, 6, none), .inl (.int, 6, none),
  .inr (2, [none, some 37, some 38]), .inl (.int, 6, none), .inl (.int, 6, none),
  .inl (.int, 6, none), .inl (.int, 384, none),
  .inl (.object RX3, 4, some [42, 44, 46, 48]),
  .inr (3, [some 43, none, none]), .inl (.int, 40, none),
  .inr (3, [some 45, none, none]), .inl (.int, 40, none),
  .inr (3, [some 47, none, none]), .inl (.int, 40, none),
  .inr (3, [some 49, none, none]), .inl (.int, 40, none),
  .inr (7, [some 51, some 52, some 53, none, some 54, none, none, none, none, some 55, none, none, none, none, none, none, none, none, some 56, some 57, some 58, none, none, none, none, none, some 59, some 60, some 61, some 62, none, some 63]),
  .inl (.int, 165, none), .inl (.int, 55, none), .inl (.boolean, 2, none), .inl (.int, 55, none), .inl (.int, 160, none), .inl (.int, 6, none), .inl (.int, 6, none), .inl (.int, 6, none), .inl (.int, 6, none), .inl (.int, 4, none), .inl (.int, 4, none), .inl (.int, 160, none), .inl (.int, 55, none)]
def z_cv (G : zG) (v : Value) : Value := match v with
  | .ref k => .ref (G.2.1 k)
  | .null => G.2.2.2
  | v => v
def z_fv (G : zG) (w : zW) (k i : Nat) (o : Option Nat) : Value := match o with
  | none => .int (w k i)
  | some r => .ref (G.2.1 r)
def z_ce (G : zG) (w : zW) (k : Nat) (e : zE) : va_E := match e with
  | .inl (_, n, none) => .inl (G.2.2.1 k, n, .inl (w k))
  | .inl (_, n, some rs) => .inl (G.2.2.1 k, n, .inr (.inr (.inr (.inr fun j => (rs[j]?).map G.2.1))))
  | .inr (ci, fs) => .inr (ci, fs.mapIdx fun i o => z_fv G w k i o)
def z_cw (G : zG) (w : zW) : va_W := z_shp.mapIdx fun k e => (G.2.1 k, z_ce G w k e)
theorem z_cw_at {G : zG} {w : zW} {k : Nat} {e : zE} (h : z_shp[k]? = some e) : (z_cw G w)[k]? = some (G.2.1 k, z_ce G w k e) := by
  simp only [z_cw, List.getElem?_mapIdx, h, Option.map_some]
theorem z_ce_congr {G : zG} {w w' : zW} {k : Nat} {e : zE} (h : w' k = w k) : z_ce G w' k e = z_ce G w k e := by
  unfold z_ce z_fv
  rw [h]
theorem z_cw_set {G : zG} {w w' : zW} {k : Nat} {e : zE} (h : z_shp[k]? = some e) (hw : ∀ j, j ≠ k → w' j = w j) : (z_cw G w).set k (G.2.1 k, z_ce G w' k e) = z_cw G w' := by
  apply List.ext_getElem?
  intro j
  by_cases hj : j = k
  · subst hj
    have hl : j < (z_cw G w).length := (List.getElem?_eq_some_iff.mp (z_cw_at (G := G) (w := w) h)).1
    rw [List.getElem?_set_self hl, z_cw_at h]
  · rw [List.getElem?_set_ne (Ne.symm hj)]
    simp only [z_cw, List.getElem?_mapIdx]
    cases z_shp[j]? with
    | none => rfl
    | some e' =>
      simp only [Option.map_some]
      rw [z_ce_congr (hw j hj)]
/-- one place of a cell becomes v -/
def z_up (w : zW) (k i : Nat) (v : Int32) : zW := fun a b => if a = k then (if b = i then v else w a b) else w a b
/-- a whole row becomes f -/
def z_ua (w : zW) (k : Nat) (f : Nat → Int32) : zW := fun a => if a = k then f else w a
theorem z_up_k {w : zW} {k i : Nat} {v : Int32} : z_up w k i v k = upd (w k) i v := by
  funext b
  simp [z_up, upd]
theorem z_up_o {w : zW} {k i a : Nat} {v : Int32} (h : a ≠ k) : z_up w k i v a = w a := by
  funext b
  simp [z_up, h]
theorem z_up_s {w : zW} {k i : Nat} {v : Int32} : z_up w k i v k i = v := by simp [z_up]
theorem z_up_i {w : zW} {k i b : Nat} {v : Int32} (h : b ≠ i) : z_up w k i v k b = w k b := by simp [z_up, h]
theorem z_up_a {w : zW} {k i a b : Nat} {v : Int32} (h : a ≠ k) : z_up w k i v a b = w a b := by simp [z_up, h]
theorem z_ua_k {w : zW} {k : Nat} {f : Nat → Int32} : z_ua w k f k = f := by simp [z_ua]
theorem z_ua_o {w : zW} {k a : Nat} {f : Nat → Int32} (h : a ≠ k) : z_ua w k f a = w a := by simp [z_ua, h]
theorem z_ua_up {w : zW} {k i : Nat} {v : Int32} : z_ua w k (upd (w k) i v) = z_up w k i v := by
  funext a
  by_cases h : a = k
  · subst h
    rw [z_ua_k, z_up_k]
  · rw [z_ua_o h, z_up_o h]
theorem z_D_w {G : zG} {w w' : zW} {A : Nat → Prop} (h : va_D A (z_cw G w)) : va_D A (z_cw G w') := by
  have key : ∀ (k : Nat) (q : Nat × va_E), (z_cw G w')[k]? = some q → ∃ q0, (z_cw G w)[k]? = some q0 ∧ q0.1 = q.1 := by
    intro k q hk
    simp only [z_cw, List.getElem?_mapIdx] at hk
    cases hs : z_shp[k]? with
    | none => rw [hs] at hk; cases hk
    | some e =>
      rw [hs] at hk
      cases hk
      exact ⟨_, z_cw_at hs, rfl⟩
  refine ⟨fun i j x y hi hj hxy => ?_, fun k q hk => ?_⟩
  · obtain ⟨x0, h1, h2⟩ := key i x hi
    obtain ⟨y0, h3, h4⟩ := key j y hj
    exact h.1 i j x0 y0 h1 h3 (h2.trans (hxy.trans h4.symm))
  · obtain ⟨q0, h1, h2⟩ := key k q hk
    rw [← h2]
    exact h.2 k q0 h1
theorem z_A_w {G : zG} {w w' : zW} {sz q : Nat} (h : va_A (z_cw G w) sz q) : va_A (z_cw G w') sz q := by
  rcases h with ⟨k, e, h⟩ | h
  · simp only [z_cw, List.getElem?_mapIdx] at h
    cases hs : z_shp[k]? with
    | none => rw [hs] at h; cases h
    | some e' =>
      rw [hs] at h
      cases h
      exact Or.inl ⟨k, _, z_cw_at hs⟩
  · exact Or.inr h
theorem z_cat {G : zG} (hf : G.2.2.2.category = 1) (v : Value) : (z_cv G v).category = v.category := by
  cases v <;> first | rfl | exact hf
theorem z_cats {G : zG} (hf : G.2.2.2.category = 1) (st : List Value) : ((st.map (z_cv G)).map fun v => v.category).sum = (st.map fun v => v.category).sum := by
  congr 1
  rw [List.map_map]
  apply List.map_congr_left
  intro v _
  exact z_cat hf v
/-! ===== what the tables say ===== -/
def z_K (G : zG) (U : State) : Prop := va_K G.1 vwCl [] U ∧ (∀ (k : Nat) (ty : FieldType) (n : Nat) (r : Option (List Nat)), z_shp[k]? = some (.inl (ty, n, r)) → ArrOfT U (G.2.2.1 k) ty ∧ va_RA U (G.2.2.1 k) ty) ∧ G.2.2.2.category = 1
theorem z_K.moved {G : zG} {u U : State} (hvm : u.vm.Alike U.vm) (h : z_K G u) : z_K G U := ⟨va_K.moved hvm h.1, fun k ty n r hs => ⟨arrOfT_moved hvm (h.2.1 k ty n r hs).1, (h.2.1 k ty n r hs).2.moved hvm⟩, h.2.2⟩
theorem z_K.one {G : zG} {U : State} {k n : Nat} {ty : FieldType} {r : Option (List Nat)} (h : z_K G U) (hs : z_shp[k]? = some (.inl (ty, n, r))) : va_K G.1 vwCl [(G.2.2.1 k, ty)] U :=
  ⟨h.1.1, fun j q hq => by
    cases j with
    | zero => cases hq; exact h.2.1 k ty n r hs
    | succ j => simp at hq⟩
theorem z_K.two {G : zG} {U : State} {k k' n n' : Nat} {ty ty' : FieldType} {r r' : Option (List Nat)} (h : z_K G U) (hs : z_shp[k]? = some (.inl (ty, n, r))) (hs' : z_shp[k']? = some (.inl (ty', n', r'))) : va_K G.1 vwCl [(G.2.2.1 k, ty), (G.2.2.1 k', ty')] U :=
  (h.one hs).app (h.one hs')
def z_nst : List Cond := [.fieldLinkNest RX1 9 RX6 "RULE_AT_FIRST" "[I" RX6, .fieldLinkNest RX5 114 RX6 "MARK_MOST" "[I" RX6, .fieldLinkNest RX5 131 RX6 "RULE_LEAST" "[I" RX6, .fieldLinkNest RX5 134 RX6 "RULE_MOST" "[I" RX6, .methodLinkNest RX5 147 yX6_within RX6, .methodLinkNest RX0 116 yX6_otherSide RX6, .methodLinkNest RX0 119 yX6_within RX6, .methodLinkNest RX2 50 yX6_otherSide RX6, .methodLinkNest RX3 19 yX6_within RX6]
def z_six : List Nat := [63, 76, 78, 83, 91, 96, 98, 123, 125, 127, 129, 137, 139, 141, 143, 145]
def z_stx : List String := ["above", "below", "liar", "lock", "law", "post", "hand", "mail", "fish", "beer", "coal", "gate", "ready", "twos", "cargo", "queue"]
def z_sby : List (List Int32) := [[97, 98, 111, 118, 101], [98, 101, 108, 111, 119], [108, 105, 97, 114], [108, 111, 99, 107], [108, 97, 119], [112, 111, 115, 116], [104, 97, 110, 100], [109, 97, 105, 108], [102, 105, 115, 104], [98, 101, 101, 114], [99, 111, 97, 108], [103, 97, 116, 101], [114, 101, 97, 100, 121], [116, 119, 111, 115], [99, 97, 114, 103, 111], [113, 117, 101, 117, 101]]
def z_sln : List Nat := [5, 5, 4, 4, 3, 4, 4, 4, 4, 4, 4, 4, 5, 4, 5, 5]
def z_snm : List String := ["RULE_LEAST", "RULE_MOST", "RULE_AT_FIRST", "MARK_MOST"]
def z_sar : List (List Int32) := [[1, 0, 0, 0, 0, 0], [9, 9, 1, 4, 9, 1], [5, 2, 0, 0, 0, 0], [1, 3, 99, 9, 9]]
def z_N (G : zG) (U : State) : Prop := (∀ w ∈ z_nst, va_Nw w U) ∧ ∀ i, i < 16 → vk_R RX5 (z_six.getD i 0) (z_stx.getD i "") (G.2.1 (200 + i)) U
theorem z_N.warm {G : zG} {s U : State} (hW : s.WarmedH U.vm) (h : z_N G s) : z_N G U := by
  refine ⟨fun w hw => ?_, fun i hi => vk_R.warm hW (h.2 i hi)⟩
  have h0 := h.1 w hw
  simp only [z_nst, List.mem_cons, List.mem_nil_iff, or_false] at hw
  rcases hw with rfl | rfl | rfl | rfl | rfl | rfl | rfl | rfl | rfl
  · exact va_Nw.warmF hW h0
  · exact va_Nw.warmF hW h0
  · exact va_Nw.warmF hW h0
  · exact va_Nw.warmF hW h0
  · exact va_Nw.warmM hW h0
  · exact va_Nw.warmM hW h0
  · exact va_Nw.warmM hW h0
  · exact va_Nw.warmM hW h0
  · exact va_Nw.warmM hW h0
theorem z_N.same {G : zG} {u U : State} (hv : u.vm = U.vm) (h : z_N G u) : z_N G U := by
  refine ⟨fun w hw => ?_, fun i hi => vk_R.same hv.symm (h.2 i hi)⟩
  have h0 := h.1 w hw
  simp only [z_nst, List.mem_cons, List.mem_nil_iff, or_false] at hw
  rcases hw with rfl | rfl | rfl | rfl | rfl | rfl | rfl | rfl | rfl <;> exact va_Nw.same rfl hv h0
def z_S (G : zG) (A : Nat → Prop) (U : State) (H : Heap) : Prop :=
  (∀ j, j < 4 → va_Z RX6 (z_snm.getD j "") "[I" (.ref (G.2.1 (100 + j))) A U H ∧ va_X (G.2.1 (100 + j)) ((z_sar.getD j []).length) (fun i => (z_sar.getD j []).getD i 0) U H ∧ G.2.1 (100 + j) < H.size ∧ ¬ A (G.2.1 (100 + j))) ∧
  vk_S 16 z_sln z_sby (fun i => G.2.1 (200 + i)) (fun i => G.2.1 (300 + i)) A U H ∧
  va_Z "java/lang/String" "COMPACT_STRINGS" "Z" (.int 1) A U H ∧ va_Z "jdk/internal/util/Preconditions" "SIOOBE_FORMATTER" "Ljava/util/function/BiFunction;" G.2.2.2 A U H
theorem z_S.moved {G : zG} {A : Nat → Prop} {u U : State} {H : Heap} (hvm : u.vm.Alike U.vm) (h : z_S G A u H) : z_S G A U H :=
  ⟨fun j hj => ⟨(h.1 j hj).1.moved hvm, (h.1 j hj).2.1.moved hvm, (h.1 j hj).2.2⟩, h.2.1.moved hvm, h.2.2.1.moved hvm, h.2.2.2.moved hvm⟩
theorem z_S.kept {G : zG} {A : Nat → Prop} {U : State} {H H1 : Heap} (h : z_S G A U H) (hz : H.size ≤ H1.size) (hq : ∀ a : Nat, a < H.size → ¬ A a → H1[a]? = H[a]?) : z_S G A U H1 :=
  ⟨fun j hj => ⟨(h.1 j hj).1.kept hq, (h.1 j hj).2.1.kept (hq _ (h.1 j hj).2.2.1 (h.1 j hj).2.2.2), Nat.lt_of_lt_of_le (h.1 j hj).2.2.1 hz, (h.1 j hj).2.2.2⟩, h.2.1.kept hq, h.2.2.1.kept hq, h.2.2.2.kept hq⟩
theorem z_S.narrow {G : zG} {A B : Nat → Prop} {U : State} {H : Heap} (h : z_S G A U H) (hAB : ∀ q, B q → A q) : z_S G B U H :=
  ⟨fun j hj => ⟨(h.1 j hj).1.narrow hAB, (h.1 j hj).2.1, (h.1 j hj).2.2.1, fun z => (h.1 j hj).2.2.2 (hAB _ z)⟩, h.2.1.narrow hAB, h.2.2.1.narrow hAB, h.2.2.2.narrow hAB⟩
/-! ===== a frame ===== -/
abbrev zX : Type := Program × Launch × Env × Room × State × MethodId × Array Value × List Frame × Method × Code × (Nat × Nat) × (State → Prop) × zG × (Nat → Prop)
abbrev x_p (X : zX) : Program := X.1
abbrev x_l (X : zX) : Launch := X.2.1
abbrev x_e (X : zX) : Env := X.2.2.1
abbrev x_R (X : zX) : Room := X.2.2.2.1
abbrev x_s (X : zX) : State := X.2.2.2.2.1
abbrev x_m (X : zX) : MethodId := X.2.2.2.2.2.1
abbrev x_a (X : zX) : Array Value := X.2.2.2.2.2.2.1
abbrev x_b (X : zX) : List Frame := X.2.2.2.2.2.2.2.1
abbrev x_h (X : zX) : Method := X.2.2.2.2.2.2.2.2.1
abbrev x_c (X : zX) : Code := X.2.2.2.2.2.2.2.2.2.1
abbrev x_n (X : zX) : Nat × Nat := X.2.2.2.2.2.2.2.2.2.2.1
abbrev x_Q (X : zX) : State → Prop := X.2.2.2.2.2.2.2.2.2.2.2.1
abbrev x_G (X : zX) : zG := X.2.2.2.2.2.2.2.2.2.2.2.2.1
abbrev x_A (X : zX) : Nat → Prop := X.2.2.2.2.2.2.2.2.2.2.2.2.2
abbrev x_W (X : zX) (H : Heap) (locs : List Loc) (g : JFrame) : Prop := W (x_p X) (x_l X) (x_e X) (x_R X) (x_s X) (x_m X) (x_a X) (x_b X) (x_h X) (x_c X) H locs (x_n X).1 (x_n X).2 (x_Q X) g
def zOk (X : zX) (y : zM) (d : Nat) : Prop :=
  (x_p X).tables.exec = Jvm.exec ∧ (x_c X).code = y.2.1 ∧ (x_c X).maxLocals = y.2.2.1 ∧ (x_h X).sig.returnType = y.2.2.2 ∧ (x_h X).locks = false ∧
  (∀ w ∈ z_WS, w.before (x_a X) (x_s X) = true) ∧ (x_s X).vm.findClass y.1.cls = some (x_m X).cls ∧ (d ≤ (x_R X).frames ∧ 64 * d ≤ (x_R X).locals ∧ (x_n X).1 ≤ (x_R X).cells ∧ (x_n X).2 ≤ (x_R X).slots) ∧
  z_K (x_G X) (x_s X) ∧ z_N (x_G X) (x_s X) ∧ z_S (x_G X) (x_A X) (x_s X) (x_s X).heap ∧ ∀ q, (x_s X).heap.size ≤ q → x_A X q
/-- the locals -/
def z_lv (G : zG) (ls : Array Slot) (n : Nat) (L : List (Option Value)) : Prop := ls.size = n ∧ lv_wf ls ∧ ∀ (i : Nat) (v : Value), L[i]? = some (some v) → ls[i]? = some (.val (z_cv G v))
def zDy (X : zX) (y : zM) (L : List (Option Value)) (w : zW) (H : Heap) (locs : List Loc) (ls : Array Slot) : Prop :=
  va_P (x_G X).1 vwCl (z_cw (x_G X) w) H ∧ va_D (x_A X) (z_cw (x_G X) w) ∧ va_S (x_A X) (x_s X).heap H locs ∧ z_lv (x_G X) ls y.2.2.1 L
/-- from this frame the machine comes to what T asks -/
def WP (y : zM) (d : Nat) (T : zX → Prop) (pc : Nat) (L : List (Option Value)) (st : List Value) (w : zW) : Prop :=
  ∀ X, zOk X y d → T X → ∀ H locs ls, zDy X y L w H locs ls → x_W X H locs (F0 (x_m X) pc ls (st.map (z_cv (x_G X))))
/-! ===== contracts ===== -/
def z_wsm (y : zM) : List Cond := .code y.1 y.2.1 y.2.2.1 y.2.2.2 :: z_WS
def z_rm (d : Nat) : Room := { frames := d, cells := 0, slots := 0, locals := 64 * d }
def z_QC (G : zG) (A : Nat → Prop) (Q : Option Value → zW → Prop) : Array Value → State → Outcome → State → Prop := fun _ st o t =>
  (∃ (r : Option Value) (w : zW), o = .returned (r.map (z_cv G)) ∧ Q r w ∧ va_P G.1 vwCl (z_cw G w) t.heap) ∧ va_F A st t
def z_Pc (G : zG) (as : List Value) (w : zW) (sz : Nat) : Array Value → State → Prop := va_Pc (as.map (z_cv G)) (fun U => U.heap.size = sz ∧ va_P G.1 vwCl (z_cw G w) U.heap ∧ va_D (fun _ => True) (z_cw G w) ∧ z_K G U ∧ z_N G U ∧ z_S G (va_A (z_cw G w) sz) U U.heap)
def CT (y : zM) (d : Nat) (as : List Value) (w : zW) (Q : Option Value → zW → Prop) : Prop := ∀ (l : Launch) (G : zG) (sz : Nat), Met l y.1 (z_wsm y) (z_rm d) (z_Pc G as w sz) (z_QC G (va_A (z_cw G w) sz) Q) 0 0 (va_A (z_cw G w) sz)
def z_T (Q : Option Value → zW → Prop) : zX → Prop := fun X => x_Q X = MQ (x_b X) (z_QC (x_G X) (x_A X) Q) (x_a X) (x_s X) (x_n X).1 (x_n X).2 (x_A X)
/-- answers of an int (or less), a long, nothing -/
def z_i (P : Int32 → zW → Prop) : Option Value → zW → Prop := fun r w => ∃ x, r = some (.int x) ∧ P x w
def z_l (P : Int64 → zW → Prop) : Option Value → zW → Prop := fun r w => ∃ x, r = some (.long x) ∧ P x w
def z_v (P : zW → Prop) : Option Value → zW → Prop := fun r w => r = none ∧ P w
/-- the locals at the start -/
def z_en : List Value → List (Option Value)
  | [] => []
  | v :: vs => if v.category = 2 then some v :: none :: z_en vs else some v :: z_en vs
theorem z_en_len {G : zG} (hf : G.2.2.2.category = 1) : ∀ as : List Value, (lg_sl (as.map (z_cv G))).length = (z_en as).length
  | [] => rfl
  | v :: vs => by
    have ih := z_en_len hf vs
    have hc := z_cat hf v
    by_cases h : v.category = 2
    · simp only [List.map_cons, z_en, if_pos h, List.length_cons]
      simp only [lg_sl, List.flatMap_cons, List.length_append, if_pos (hc.trans h), List.length_cons, List.length_nil] at ih ⊢
      omega
    · simp only [List.map_cons, z_en, if_neg h, List.length_cons]
      simp only [lg_sl, List.flatMap_cons, List.length_append, if_neg (fun z => h (hc ▸ z)), List.length_cons, List.length_nil] at ih ⊢
      omega
theorem z_en_at {G : zG} (hf : G.2.2.2.category = 1) : ∀ (as : List Value) (o i : Nat) (v : Value), (z_en as)[i]? = some (some v) → (o + i, z_cv G v) ∈ lv_args o (as.map (z_cv G))
  | [], o, i, v, h => by simp [z_en] at h
  | a :: as, o, i, v, h => by
    have hc := z_cat hf a
    by_cases h2 : a.category = 2
    · simp only [z_en, if_pos h2] at h
      simp only [List.map_cons, lv_args, if_pos (hc.trans h2)]
      match i, h with
      | 0, h => cases h; exact List.mem_cons_self
      | 1, h => cases h
      | i + 2, h =>
        have := z_en_at hf as (o + 2) i v h
        exact List.mem_cons_of_mem _ (by rw [show o + (i + 2) = o + 2 + i by omega]; exact this)
    · simp only [z_en, if_neg h2] at h
      simp only [List.map_cons, lv_args, if_neg (fun z => h2 (hc ▸ z))]
      match i, h with
      | 0, h => cases h; exact List.mem_cons_self
      | i + 1, h =>
        have := z_en_at hf as (o + 1) i v h
        exact List.mem_cons_of_mem _ (by rw [show o + (i + 1) = o + 1 + i by omega]; exact this)
/-- what is plain of a method's name -/
def z_pl (y : zM) : Bool := plainName y.1.cls
set_option maxHeartbeats 4000000 in
theorem CT.of {y : zM} {d : Nat} {as : List Value} {w : zW} {Q : Option Value → zW → Prop} (L : List (Option Value)) (hy : z_pl y = true) (hl : (z_en as).length ≤ y.2.2.1) (hL : z_en as ++ List.replicate (y.2.2.1 - (z_en as).length) none = L) (h : WP y d (z_T Q) 0 L [] w) : CT y d as w Q := by
  intro l G sz
  refine Met.ofW (cc := y.2.1) (maxL := y.2.2.1) (ret := y.2.2.2) hy rfl ?_
  intro p e s m args below meth c s₁ B hml hv
  obtain ⟨rfl, hsz, hP, hD, hK, hN, hS⟩ := hv
  have hts := atoms_spec (ws := z_wsm y) B.pre
  have hlen := z_en_len hK.2.2 as
  have hl0 := lv_entry (as.map (z_cv G)) (n := y.2.2.1) (by rw [hlen]; exact hl)
  rw [lg_entry_eq]
  generalize (lg_sl (as.map (z_cv G)) ++ List.replicate (y.2.2.1 - (lg_sl (as.map (z_cv G))).length) Slot.unset).toArray = ls at hl0 ⊢
  subst hsz
  refine h (p, l, e, z_rm d, s, m, (as.map (z_cv G)).toArray, below, meth, c, (0, 0), MQ below (z_QC G (va_A (z_cw G w) s.heap.size) Q) (as.map (z_cv G)).toArray s 0 0 (va_A (z_cw G w) s.heap.size), G, va_A (z_cw G w) s.heap.size) ⟨B.exec, B.bytes, hml, B.returns, B.notSynchronized, fun q hq => hts q (List.mem_cons_of_mem _ hq), findClass_of_methodNamed B.named, ⟨Nat.le_refl _, Nat.le_refl _, Nat.le_refl _, Nat.le_refl _⟩, hK, hN, hS, fun q hq => Or.inr hq⟩ rfl s.heap [] ls ⟨hP, hD.self, va_S.rf, hl0.1, hl0.2.1, fun i v hv => ?_⟩
  subst hL
  rcases Nat.lt_or_ge i (z_en as).length with hi | hi
  · rw [List.getElem?_append_left hi] at hv
    have := z_en_at hK.2.2 as 0 i v hv
    rw [Nat.zero_add] at this
    exact hl0.2.2 _ this
  · rw [List.getElem?_append_right hi] at hv
    have := List.eq_of_mem_replicate (List.mem_of_getElem? hv)
    cases this

/-! ===== calls and returns ===== -/
/-- a method that is called: its code, its class, its parameters -/
def z_m0 (y : zM) (np : Nat) : Prop := Cond.code y.1 y.2.1 y.2.2.1 y.2.2.2 ∈ z_WS ∧ Cond.initialized y.1.cls ∈ z_WS ∧ (y.1.cls ≠ "java/lang/invoke/MethodHandle" ∧ y.1.cls ≠ "java/lang/invoke/VarHandle" ∧ (parseMethodDescriptor y.1.desc).map (fun d => d.parameters.length) = some np) ∧ y.2.2.1 ≤ 45
def z_mV (y : zM) (np : Nat) : Prop := z_m0 y np ∧ Cond.instanceMethod y.1 ∈ z_WS ∧ Cond.selects y.1.cls y.1 y.1 ∈ z_WS
def z_mS (y : zM) (np : Nat) : Prop := z_m0 y np ∧ Cond.static y.1 ∈ z_WS
theorem z_fb {G : zG} {as : List Value} {w : zW} {sz : Nat} : FrameBlind (z_Pc G as w sz) := fun a U g mk q => by
  obtain ⟨q0, q1, qP, qD, qK, qN, qS⟩ := q
  exact ⟨q0, q1, qP, qD, z_K.moved (u := U) (U := U.calling g mk a) (Vm.Alike.refl U.vm) qK, z_N.same (u := U) (U := U.calling g mk a) rfl qN, z_S.moved (u := U) (U := U.calling g mk a) (Vm.Alike.refl U.vm) qS⟩
theorem z_fr {X : zX} {y : zM} {d : Nat} {L : List (Option Value)} {w : zW} {H : Heap} {locs : List Loc} {ls : Array Slot} (h : zOk X y d) (hD : zDy X y L w H locs ls) : ∀ q, va_A (z_cw (x_G X) w) H.size q → x_A X q := by
  intro q hq
  rcases hq with ⟨k, e, hk⟩ | hq
  · exact hD.2.1.2 k _ hk
  · exact h.A q (Nat.le_trans hD.2.2.1.1 hq)
theorem z_pre {X : zX} {y : zM} {d : Nat} {L : List (Option Value)} {w : zW} {H : Heap} {locs : List Loc} {ls : Array Slot} (h : zOk X y d) (hD : zDy X y L w H locs ls) (as : List Value) : ∀ U : State, U.heap = H → (x_s X).WarmedH U.vm → z_Pc (x_G X) as w H.size (as.map (z_cv (x_G X))).toArray U := by
  intro U hU hW
  refine ⟨rfl, by rw [hU], by rw [hU]; exact hD.1, hD.2.1.weaken (fun _ _ _ _ => trivial), z_K.moved hW.alike h.K, z_N.warm hW h.N, ?_⟩
  have h1 := z_S.moved hW.alike h.S
  have h2 := h1.kept (H1 := H) hD.2.2.1.1 hD.2.2.1.2.1
  rw [hU]
  exact h2.narrow (z_fr h hD)
/-- behind a call -/
theorem z_after {X : zX} {y : zM} {d : Nat} {T : zX → Prop} {L : List (Option Value)} {w : zW} {H : Heap} {locs : List Loc} {ls : Array Slot} {pc : Nat} {st0 rest : List Value} {a : Array Value} {P : Option Value → zW → Prop} (h : zOk X y d) (hT : T X) (hD : zDy X y L w H locs ls)
    (hr : va_Run (x_p X) (x_l X) (x_e X) (x_R X) (x_s X) (x_m X) (x_a X) (x_b X) (x_h X) (x_c X) H locs (x_n X).1 (x_n X).2 0 0 (F0 (x_m X) pc ls st0) (rest.map (z_cv (x_G X))) (z_QC (x_G X) (va_A (z_cw (x_G X) w) H.size) P a) (va_A (z_cw (x_G X) w) H.size))
    (kk : ∀ r w', P r w' → WP y d T (pc + 3) L (r.toList ++ rest) w') : x_W X H locs (F0 (x_m X) pc ls st0) := by
  intro U hU XX
  obtain ⟨v, st₀, t, T', L2, h0, X', hL, e1, e2, ⟨⟨r, w', hv, hp, hb⟩, hz, hk⟩, stt⟩ := hr U hU XX
  cases hv
  rw [h0] at hz hk
  have hS := hD.2.2.1
  obtain ⟨t2, a1, b1⟩ := kk r w' hp X h hT T'.heap (locs ++ L2) ls ⟨by rw [e1]; exact hb, z_D_w hD.2.1, ⟨Nat.le_trans hS.1 (by rw [e1]; exact hz), fun q h1 h2 => by
      rw [e1, hk q (Nat.lt_of_lt_of_le h1 hS.1) (fun z => h2 (z_fr h hD q z))]
      exact hS.2.1 q h1 h2, fun q hq => by
      rcases List.mem_append.mp hq with h | h
      · exact hS.2.2 q h
      · exact z_fr ‹zOk X y d› hD _ (hL q h)⟩, hD.2.2.2⟩ T' rfl X'
  refine ⟨t2, stt t2 ?_, b1⟩
  have e : (r.map (z_cv (x_G X))).toList ++ rest.map (z_cv (x_G X)) = (r.toList ++ rest).map (z_cv (x_G X)) := by cases r <;> simp
  show Steps _ _ _ (T'.setTop { (F0 (x_m X) pc ls st0) with pc := pc + 3, stack := (r.map (z_cv (x_G X))).toList ++ rest.map (z_cv (x_G X)) }) t2
  rw [e]
  exact a1
theorem z_rmo {X : zX} {y y2 : zM} {d d2 np : Nat} (h : zOk X y d) (hm : z_m0 y2 np) (hd : d2 + 1 ≤ d) : (z_rm d2).frames + 1 ≤ (x_R X).frames ∧ 8 + (y2.2.2.1 + 11) + (z_rm d2).locals ≤ (x_R X).locals := by
  obtain ⟨h1, h2, -⟩ := h.room
  have h3 := hm.2.2.2
  refine ⟨Nat.le_trans hd h1, ?_⟩
  show 8 + (y2.2.2.1 + 11) + 64 * d2 ≤ (x_R X).locals
  omega
theorem z_gi {y : zM} {np : Nat} (hm : z_m0 y np) : GoodIn z_WS (z_wsm y) := fun q hq => z_good q (by
  rcases List.mem_cons.mp hq with rfl | hq
  · exact hm.1
  · exact hq)
section CALL
variable {y y2 : zM} {d d2 : Nat} {T : zX → Prop} {pc : Nat} {L : List (Option Value)} {st : List Value} {w : zW} {idx k ci : Nat} {as rest : List Value} {fs : List (Option Nat)}
theorem r_callV {P : Option Value → zW → Prop} (n : Nat) (hd : decode y.2.1 pc = .ok (.invokevirtual idx, 3)) (hl : Cond.methodLink y.1.cls idx y2.1 ∈ z_WS) (hm : z_mV y2 as.length) (hc : CT y2 d2 (.ref k :: as) w P) (hd2 : d2 + 1 ≤ d) (hs : z_shp[k]? = some (.inr (ci, fs))) (hci : ∃ q, vwCl[ci]? = some q ∧ q.1 = y2.1.cls)
    (hst : as.reverse ++ .ref k :: rest = st) (hr : (rest.map fun v => v.category).sum ≤ 8) (hn : pc + 3 = n) (kk : ∀ r w', P r w' → WP y d T n L (r.toList ++ rest) w') : WP y d T pc L st w := by
  subst hn
  subst hst
  intro X h hT H locs ls hD
  obtain ⟨q, hq, hqn⟩ := hci
  obtain ⟨hm0, hmi, hms⟩ := hm
  have hat := z_cw_at (G := x_G X) (w := w) hs
  refine z_after h hT hD (a := (Value.ref ((x_G X).2.1 k) :: as.map (z_cv (x_G X))).toArray) ?_ kk
  refine va_runV (As := as.map (z_cv (x_G X))) (b := (x_G X).2.1 k) (rest := rest.map (z_cv (x_G X))) (C := y2.1.cls) ⟨h.exec, h.code, h.maxL, h.own, h.words⟩ (hc (x_l X) (x_G X) H.size) ⟨callB_of as.length h.words (z_gi hm0) rfl rfl rfl (h.words _ hm0.2.1) (h.words _ hl) hm0.2.2.1 (z_rmo h hm0 hd2), h.words _ hmi, h.words _ hms⟩ ⟨z_fb, ?_, z_pre h hD (.ref k :: as)⟩ rfl (List.length_map _) hD.2.2.2.1 ?_ ?_ hd ⟨h.room.2.2.1, h.room.2.2.2⟩
  · have := va_recv h.K.1 hD.1 hq hat
    rw [hqn] at this
    exact this
  · simp [List.map_append, List.map_reverse, z_cv]
  · refine lv_room ?_
    rw [z_cats h.K.2.2]
    exact hr
theorem r_callS {P : Option Value → zW → Prop} (n : Nat) (hd : decode y.2.1 pc = .ok (.invokestatic idx, 3)) (hl : Cond.methodLink y.1.cls idx y2.1 ∈ z_WS) (hm : z_mS y2 as.length) (hc : CT y2 d2 as w P) (hd2 : d2 + 1 ≤ d)
    (hst : as.reverse ++ rest = st) (hr : (rest.map fun v => v.category).sum ≤ 8) (hn : pc + 3 = n) (kk : ∀ r w', P r w' → WP y d T n L (r.toList ++ rest) w') : WP y d T pc L st w := by
  subst hn
  subst hst
  intro X h hT H locs ls hD
  obtain ⟨hm0, hms⟩ := hm
  refine z_after h hT hD (a := (as.map (z_cv (x_G X))).toArray) ?_ kk
  refine va_runS (As := as.map (z_cv (x_G X))) (rest := rest.map (z_cv (x_G X))) ⟨h.exec, h.code, h.maxL, h.own, h.words⟩ (hc (x_l X) (x_G X) H.size) ⟨callB_of as.length h.words (z_gi hm0) rfl rfl rfl (h.words _ hm0.2.1) (h.words _ hl) hm0.2.2.1 (z_rmo h hm0 hd2), h.words _ hms⟩ ⟨z_fb, z_pre h hD as⟩ rfl (List.length_map _) hD.2.2.2.1 ?_ ?_ hd ⟨h.room.2.2.1, h.room.2.2.2⟩
  · simp [List.map_append, List.map_reverse]
  · refine lv_room ?_
    rw [z_cats h.K.2.2]
    exact hr
theorem r_callSN {P : Option Value → zW → Prop} (n : Nat) (hd : decode y.2.1 pc = .ok (.invokestatic idx, 3)) (hl : Cond.methodLinkNest y.1.cls idx y2.1 RX6 ∈ z_nst) (hm : z_mS y2 as.length) (hc : CT y2 d2 as w P) (hd2 : d2 + 1 ≤ d)
    (hst : as.reverse ++ rest = st) (hr : (rest.map fun v => v.category).sum ≤ 8) (hn : pc + 3 = n) (kk : ∀ r w', P r w' → WP y d T n L (r.toList ++ rest) w') : WP y d T pc L st w := by
  subst hn
  subst hst
  intro X h hT H locs ls hD
  obtain ⟨hm0, hms⟩ := hm
  refine z_after h hT hD (a := (as.map (z_cv (x_G X))).toArray) ?_ kk
  refine va_runSN (As := as.map (z_cv (x_G X))) (rest := rest.map (z_cv (x_G X))) ⟨h.exec, h.code, h.maxL, h.own, h.words⟩ (hc (x_l X) (x_G X) H.size) ⟨va_cnB as.length h.words (z_gi hm0) rfl rfl rfl (h.N.1 _ hl) (h.words _ hm0.2.1) hm0.2.2.1 (z_rmo h hm0 hd2), h.words _ hms, trivial⟩ ⟨z_fb, z_pre h hD as⟩ rfl (List.length_map _) hD.2.2.2.1 ?_ ?_ hd ⟨h.room.2.2.1, h.room.2.2.2⟩
  · simp [List.map_append, List.map_reverse]
  · refine lv_room ?_
    rw [z_cats h.K.2.2]
    exact hr
theorem kk_i {n : Nat} {P : Int32 → zW → Prop} (kk : ∀ x w', P x w' → WP y d T n L (.int x :: rest) w') : ∀ r w', z_i P r w' → WP y d T n L (r.toList ++ rest) w' := by
  rintro r w' ⟨x, rfl, h⟩
  exact kk x w' h
theorem kk_l {n : Nat} {P : Int64 → zW → Prop} (kk : ∀ x w', P x w' → WP y d T n L (.long x :: rest) w') : ∀ r w', z_l P r w' → WP y d T n L (r.toList ++ rest) w' := by
  rintro r w' ⟨x, rfl, h⟩
  exact kk x w' h
theorem kk_v {n : Nat} {P : zW → Prop} (kk : ∀ w', P w' → WP y d T n L rest w') : ∀ r w', z_v P r w' → WP y d T n L (r.toList ++ rest) w' := by
  rintro r w' ⟨rfl, h⟩
  exact kk w' h
theorem r_iret {P : Int32 → zW → Prop} {x : Int32} (ty : FieldType) (hd : decode y.2.1 pc = .ok (.ireturn, 1)) (hy : y.2.2.2 = some ty) (hn : narrow ty (.int x) = .int x) (hP : P x w) : WP y d (z_T (z_i P)) pc L [.int x] w := by
  intro X h hT H locs ls hD
  have e : x_Q X = MQ (x_b X) (z_QC (x_G X) (x_A X) (z_i P)) (x_a X) (x_s X) (x_n X).1 (x_n X).2 (x_A X) := hT
  show W (x_p X) (x_l X) (x_e X) (x_R X) (x_s X) (x_m X) (x_a X) (x_b X) (x_h X) (x_c X) H locs (x_n X).1 (x_n X).2 (x_Q X) _
  rw [e]
  exact W.zret h.exec h.code (h.ret.trans hy) hn (fun t ht hW => ⟨⟨some (.int x), w, rfl, ⟨x, rfl, hP⟩, by rw [ht]; exact hD.1⟩, hD.2.2.1.F ht⟩) hD.2.2.1.2.2 hd h.locks
theorem r_lret {P : Int64 → zW → Prop} {x : Int64} (hd : decode y.2.1 pc = .ok (.lreturn, 1)) (hy : y.2.2.2 = some .long) (hP : P x w) : WP y d (z_T (z_l P)) pc L [.long x] w := by
  intro X h hT H locs ls hD
  have e : x_Q X = MQ (x_b X) (z_QC (x_G X) (x_A X) (z_l P)) (x_a X) (x_s X) (x_n X).1 (x_n X).2 (x_A X) := hT
  show W (x_p X) (x_l X) (x_e X) (x_R X) (x_s X) (x_m X) (x_a X) (x_b X) (x_h X) (x_c X) H locs (x_n X).1 (x_n X).2 (x_Q X) _
  rw [e]
  exact W.lret h.exec h.code (h.ret.trans hy) (fun t ht hW => ⟨⟨some (.long x), w, rfl, ⟨x, rfl, hP⟩, by rw [ht]; exact hD.1⟩, hD.2.2.1.F ht⟩) hD.2.2.1.2.2 hd h.locks
theorem r_vret {P : zW → Prop} (hd : decode y.2.1 pc = .ok (.return_, 1)) (hy : y.2.2.2 = none) (hP : P w) : WP y d (z_T (z_v P)) pc L [] w := by
  intro X h hT H locs ls hD
  have e : x_Q X = MQ (x_b X) (z_QC (x_G X) (x_A X) (z_v P)) (x_a X) (x_s X) (x_n X).1 (x_n X).2 (x_A X) := hT
  show W (x_p X) (x_l X) (x_e X) (x_R X) (x_s X) (x_m X) (x_a X) (x_b X) (x_h X) (x_c X) H locs (x_n X).1 (x_n X).2 (x_Q X) _
  rw [e]
  exact W.vret h.exec h.code (h.ret.trans hy) (fun t ht hW => ⟨⟨none, w, rfl, ⟨rfl, hP⟩, by rw [ht]; exact hD.1⟩, hD.2.2.1.F ht⟩) hD.2.2.1.2.2 hd h.locks
/-! Math, System.arraycopy -/
theorem r_mmax {a b : Int32} (n : Nat) (hd : decode y.2.1 pc = .ok (.invokestatic idx, 3)) (hl : Cond.methodLink y.1.cls idx yJ9_max_7cf53 ∈ z_WS) (hd1 : 1 ≤ d) (hr : (st.map fun v => v.category).sum ≤ 8) (hn : pc + 3 = n) (kk : WP y d T n L (.int (if a < b then b else a) :: st) w) : WP y d T pc L (.int b :: .int a :: st) w := by
  subst hn
  intro X h hT H locs ls hD
  obtain ⟨h1, h2, h3, h4⟩ := h.room
  refine va_mmax h.exec h.code (h.maxL.trans hD.2.2.2.1.symm) h.own (h.words _ hl) (h.words _ st_J9_max_7cf53) (h.words _ in_J9) (h.words _ cw_J9_max_7cf53) (Nat.le_trans hd1 h1) ?_ h3 h4 hd (kk X h hT H locs ls hD)
  rw [z_cats h.K.2.2]
  omega
theorem r_mmin {a b : Int32} (n : Nat) (hd : decode y.2.1 pc = .ok (.invokestatic idx, 3)) (hl : Cond.methodLink y.1.cls idx yJ9_min_7cf53 ∈ z_WS) (hd1 : 1 ≤ d) (hr : (st.map fun v => v.category).sum ≤ 8) (hn : pc + 3 = n) (kk : WP y d T n L (.int (if b < a then b else a) :: st) w) : WP y d T pc L (.int b :: .int a :: st) w := by
  subst hn
  intro X h hT H locs ls hD
  obtain ⟨h1, h2, h3, h4⟩ := h.room
  refine va_mmin h.exec h.code (h.maxL.trans hD.2.2.2.1.symm) h.own (h.words _ hl) (h.words _ st_J9_min_7cf53) (h.words _ in_J9) (h.words _ cw_J9_min_7cf53) (Nat.le_trans hd1 h1) ?_ h3 h4 hd (kk X h hT H locs ls hD)
  rw [z_cats h.K.2.2]
  omega
theorem z_ua_set {G : zG} {w : zW} {k N : Nat} {f : Nat → Int32} {ty : FieldType} (hs : z_shp[k]? = some (.inl (ty, N, none))) : (z_cw G w).set k (G.2.1 k, .inl (G.2.2.1 k, N, .inl f)) = z_cw G (z_ua w k f) := by
  have h := z_cw_set (G := G) (w := w) (w' := z_ua w k f) (e := .inl (ty, N, none)) hs (fun j hj => z_ua_o hj)
  rw [← h]
  simp only [z_ce, z_ua_k]
theorem r_copy {k0 k1 n0 n1 : Nat} {sp dp m : Int32} (n : Nat) (hd : decode y.2.1 pc = .ok (.invokestatic idx, 3)) (hl : Cond.methodLink y.1.cls idx arraycopyName ∈ z_WS) (hd1 : 1 ≤ d) (hs0 : z_shp[k0]? = some (.inl (.int, n0, none))) (hs1 : z_shp[k1]? = some (.inl (.int, n1, none))) (h1 : ¬ sp < 0) (h2 : ¬ dp < 0) (h3 : ¬ m < 0) (h4 : sp.toNatClampNeg + m.toNatClampNeg ≤ n0) (h5 : dp.toNatClampNeg + m.toNatClampNeg ≤ n1)
    (hr : (st.map fun v => v.category).sum ≤ 8) (hn : pc + 3 = n) (kk : WP y d T n L st (z_ua w k1 (va_cpy (w k0) (w k1) sp.toNatClampNeg dp.toNatClampNeg m.toNatClampNeg))) : WP y d T pc L (.int m :: .int dp :: .ref k1 :: .int sp :: .ref k0 :: st) w := by
  subst hn
  intro X h hT H locs ls hD
  obtain ⟨r1, r2, -, -⟩ := h.room
  refine va_copyi (ty := .int) h.exec h.code (h.maxL.trans hD.2.2.2.1.symm) h.own (h.words _ hl) (h.words _ w_acN) (h.words _ w_acS) (h.words _ in_J10) (h.K.two hs0 hs1) hD.1 hD.2.1 hD.2.2.1 k0 k1 0 1 (z_cw_at (G := x_G X) (w := w) hs0) (z_cw_at (G := x_G X) (w := w) hs1) rfl rfl rfl h1 h2 h3 h4 h5 (fun _ _ => rfl) (Nat.le_trans hd1 r1) ?_ hd (fun H1 locs1 hP hDD hS => ?_)
  · rw [z_cats h.K.2.2]
    have : nativeFrameWords "java/lang/System" "arraycopy" 5 = 7 := by decide
    omega
  · rw [z_ua_set hs1] at hP hDD
    exact kk X h hT H1 locs1 ls ⟨hP, hDD, hS, hD.2.2.2⟩
theorem r_copyT {j k0 k1 n1 : Nat} {sp dp m : Int32} (n : Nat) (hd : decode y.2.1 pc = .ok (.invokestatic idx, 3)) (hl : Cond.methodLink y.1.cls idx arraycopyName ∈ z_WS) (hd1 : 1 ≤ d) (hj : j < 4) (hk0 : k0 = 100 + j) (hs1 : z_shp[k1]? = some (.inl (.int, n1, none))) (h1 : ¬ sp < 0) (h2 : ¬ dp < 0) (h3 : ¬ m < 0) (h4 : sp.toNatClampNeg + m.toNatClampNeg ≤ (z_sar.getD j []).length) (h5 : dp.toNatClampNeg + m.toNatClampNeg ≤ n1)
    (hr : (st.map fun v => v.category).sum ≤ 8) (hn : pc + 3 = n) (kk : WP y d T n L st (z_ua w k1 (va_cpy (fun i => (z_sar.getD j []).getD i 0) (w k1) sp.toNatClampNeg dp.toNatClampNeg m.toNatClampNeg))) : WP y d T pc L (.int m :: .int dp :: .ref k1 :: .int sp :: .ref k0 :: st) w := by
  subst hn
  subst hk0
  intro X h hT H locs ls hD
  obtain ⟨r1, r2, -, -⟩ := h.room
  refine va_copyx h.exec h.code (h.maxL.trans hD.2.2.2.1.symm) h.own (h.words _ hl) (h.words _ w_acN) (h.words _ w_acS) (h.words _ in_J10) (h.K.one hs1) hD.1 hD.2.1 hD.2.2.1 (h.S.1 j hj).2.1 (h.S.1 j hj).2.2.1 (h.S.1 j hj).2.2.2 k1 0 (z_cw_at (G := x_G X) (w := w) hs1) rfl h1 h2 h3 h4 h5 (Nat.le_trans hd1 r1) ?_ hd (fun H1 locs1 hP hDD hS => ?_)
  · rw [z_cats h.K.2.2]
    have : nativeFrameWords "java/lang/System" "arraycopy" 5 = 7 := by decide
    omega
  · rw [z_ua_set hs1] at hP hDD
    exact kk X h hT H1 locs1 ls ⟨hP, hDD, hS, hD.2.2.2⟩
end CALL

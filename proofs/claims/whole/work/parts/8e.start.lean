/-! ===== the first state ===== -/
theorem RC_0 : RC w_0 s_0 := by
  have hK : ∀ k, k < 6 → lw p_K0 0 k = p_K0 k := fun k hk => lw_n (Or.inl hk)
  have h42 : lw p_K0 0 42 = 0 := by rw [lw_n (by omega)]; rfl
  refine ⟨⟨fun k hk => ?_, fun b q hb => absurd hb (Nat.not_lt_zero b), rfl, rfl, ?_, fun j hj => ?_⟩, ⟨rfl, fun k _ hb => ?_⟩, ⟨rfl, fun i hi => absurd hi (Nat.not_lt_zero i)⟩, rfl, fun k hk => ?_, rfl⟩
  · show w_0 2 k = nI (lw p_K0 0 k)
    rw [hK k hk]
    match k, hk with
    | 0, _ => decide +kernel
    | 1, _ => decide +kernel
    | 2, _ => decide +kernel
    | 3, _ => decide +kernel
    | 4, _ => decide +kernel
    | 5, _ => decide +kernel
    | k + 6, hk => omega
  · show w_0 1 4 = nI (lw p_K0 0 42)
    rw [h42]
    rfl
  · have hj : j < lw p_K0 0 42 := hj
    omega
  · have hb : bi 0 k = 1 := hb
    unfold bi at hb
    simp at hb
  · show w_0 (42 + 2 * k) 2 = -1
    match k, hk with
    | 0, _ => decide +kernel
    | 1, _ => decide +kernel
    | 2, _ => decide +kernel
    | 3, _ => decide +kernel
    | k + 4, hk => omega
theorem sV_0 : sV s_0 := by
  obtain ⟨-, -, v3, v4, v5⟩ := dV_0
  have h42 : lw p_K0 0 42 = 0 := by rw [lw_n (by omega)]; exact v4
  refine ⟨⟨v3.lw, ?_, fun j hj => ?_⟩, ⟨show 0 < 4 by omega, fun k _ hb => ?_⟩, ⟨Nat.zero_le _, fun i hi => absurd hi (Nat.not_lt_zero i)⟩, Nat.zero_le _, fun k _ l z h => (by cases h), Nat.zero_le _⟩
  · show lw p_K0 0 42 ≤ 6
    omega
  · have hj : j < lw p_K0 0 42 := hj
    omega
  · have hb : bi 0 k = 1 := hb
    unfold bi at hb
    simp at hb
theorem k_astore {X : zX} {y : zM} {pc : Nat} {lv : List (Nat × Value)} {st : List Value} {ws : va_W} {tys : kTy} {k n : Nat} {i : Fin 4} {x : Nat} {lv' : List (Nat × Value)} (h : kOk X y) (nx : Nat) (hd : decode y.2.1 pc = .ok (.astore_n i, 1)) (hi : (i : Nat) < y.2.2.1) (hl' : ((i : Nat), Value.ref x) :: lv.filter (fun q => !(q.1 == (i : Nat)) && !(q.1 + 1 == (i : Nat) && q.2.category == 2)) = lv') (hn : pc + 1 = nx) (kk : WK X y nx lv' st ws tys k n) : WK X y pc lv (.ref x :: st) ws tys k n := by
  subst hn
  exact fun H locs ls hP hD hS hK hl => lv_astore_n h.exec h.code hd rfl hl hi hl' (fun ls hl => kk H locs ls hP hD hS hK hl)
/-- from the two objects on -/
theorem w_loop {p : Program} {l : Launch} {e : Env} {s : State} {m : MethodId} {below : List Frame} {meth : Method} {c : Code} {b L : Nat} {xs : Nat → Int32} (hL : L ≤ 320) (C0 : lw_At p s m meth c b L xs) {g : va_G} {v : Value} {a : Nat → Nat} {c6 : Nat → ClassId} {A : Nat → Prop} (hAe : A = fun q => s.heap.size ≤ q) {H : Heap} {locs : List Loc} {ls : Array Slot} {w : zW}
    (hK : z_K (g, a, c6, v) s) (hN : z_N (g, a, c6, v) s) (hS : z_S (g, a, c6, v) A s s.heap) (hb400 : a 400 = b) (hR : RC w s_0) (hM : RM w s_0)
    (hP : va_P g vwCl (z_cw (g, a, c6, v) w) H) (hD : va_D A (z_cw (g, a, c6, v) w)) (hSS : va_S A s.heap H locs) (hl : lv_has ls 4 [(2, .ref (a 50)), (1, .ref (a 0)), (0, .ref b)]) :
    W p l e room_1 s m #[Value.ref b] below meth c H locs 64 1800 (lw_Z below #[Value.ref b] s) (F0 m 16 ls []) := by
  obtain ⟨hx, hb, hr, hml, hown, hts, hX, hbl, hlocks, hgv⟩ := C0
  have key : WP mL_law 12 (lwT b L xs) 16 [some (.ref 400), some (.ref 0), some (.ref 50), none] [] w := by
    refine r_iconst 17 dL_law_16 (v := nI 0) rfl rfl ?_
    refine r_istore_n 18 dL_law_17 (by decide) rfl rfl rfl ?_
    exact l_law hL L 0 w s_0 (Nat.zero_le _) (by omega) ⟨hR, hM, sV_0⟩
  refine key (p, l, e, room_1, s, m, #[Value.ref b], below, meth, c, (64, 1800), lw_Z below #[Value.ref b] s, (g, a, c6, v), A) ⟨hx, hb, hml, hr, hlocks, fun q hq => hts q (List.mem_filter.mp hq).1, hown, ?_, hK, hN, hS, ?_⟩ ⟨rfl, rfl, rfl, hX, hbl, ?_, hb400, ?_, ?_, ?_⟩ H locs ls ⟨hP, hD, hSS, hl.1, hl.2.1, fun i u hv => ?_⟩
  · exact ⟨Nat.le_of_ble_eq_true rfl, Nat.le_of_ble_eq_true rfl, Nat.le_of_ble_eq_true rfl, Nat.le_of_ble_eq_true rfl⟩
  · intro q hq
    show A q
    rw [hAe]
    exact hq
  · show ¬ A b
    rw [hAe]
    exact Nat.not_le.mpr hbl
  · intro q hq
    have hq : A q := hq
    rw [hAe] at hq
    exact hq
  · show 64 ≤ 600000
    decide
  · show 1800 ≤ 7302250
    decide
  · match i, hv with
    | 0, hv => cases hv; rw [show z_cv (g, a, c6, v) (.ref 400) = .ref b from by rw [← hb400]; rfl]; exact lv_at hl 2 rfl
    | 1, hv => cases hv; exact lv_at hl 1 rfl
    | 2, hv => cases hv; exact lv_at hl 0 rfl
    | 3, hv => cases hv
    | i + 4, hv => cases hv
set_option maxHeartbeats 4000000 in
set_option maxRecDepth 100000 in
theorem whole_start {p : Program} {e : Env} {s : State} {m : MethodId} {below : List Frame} {meth : Method} {c : Code} (l : Launch) (hflags : l.flags = flags0) {b L : Nat} {xs : Nat → Int32} (hL : L ≤ 320) (C0 : lw_At p s m meth c b L xs) : W p l e room_1 s m #[Value.ref b] below meth c s.heap [] 0 0 (lw_Z below #[Value.ref b] s) (entryFrame m ([Value.ref b] : List Value).toArray 4) := by
  obtain ⟨hx, hb, hr, hml, hown, hts, hX, hbl, hlocks, hgv⟩ := id C0
  obtain ⟨⟨g, a0, c0, v⟩, hF, hS, hG⟩ := k_entry hts hgv
  obtain ⟨A, hAe⟩ : ∃ A : Nat → Prop, A = fun q => s.heap.size ≤ q := ⟨_, rfl⟩
  rw [← hAe] at hS
  have hw : ∀ w ∈ z_WS, w.before #[Value.ref b] s = true := fun q hq => hts q (List.mem_filter.mp hq).1
  have hAA : ∀ q, s.heap.size ≤ q → A q := fun q h => by rw [hAe]; exact h
  have hl := lv_entry ([.ref b]) (n := 4) (Nat.le_of_ble_eq_true rfl)
  rw [lg_entry_eq]
  generalize (lg_sl ([.ref b]) ++ List.replicate (4 - (lg_sl ([.ref b])).length) Slot.unset).toArray = ls at hl ⊢
  have hl : lv_has ls 4 [(0, .ref b)] := hl
  obtain ⟨X, hXe⟩ : ∃ X : zX, X = (p, l, e, room_1, s, m, #[Value.ref b], below, meth, c, (0, 0), lw_Z below #[Value.ref b] s, (g, a0, c0, v), A) := ⟨_, rfl⟩
  have hk : kOk X mL_law := by rw [hXe]; exact ⟨hx, hb, hml, hr, hlocks, hw, hown, hF, hS, hAA⟩
  have hRX : x_R X = room_1 := by rw [hXe]
  have key : WK X mL_law 0 [(0, .ref b)] [] [] [] 0 0 := by
    refine k_new (ci := 6) (q := (RX6, TX6, 12)) (fs := [.null, .null, .null, .int 0, .null, .null, .null, .null, .null, .null, .null, .int 0]) hk 3 tyX6 tyX6_ok dL_law_0 rfl cl_L_7 ins_X6 in_X6 (by decide +kernel) (by rw [hRX]; exact Nat.le_of_ble_eq_true rfl) (by rw [hRX]; exact Nat.le_of_ble_eq_true rfl) rfl (fun q1 => ?_)
    refine k_dup hk 4 dL_law_3 rfl rfl ?_
    refine k_call (y2 := mX6_init) (as := []) (wc := [(q1, .inr (6, [.null, .null, .null, .int 0, .null, .null, .null, .null, .null, .null, .null, .int 0]))]) (wr := []) (rest := [.ref q1]) (F := F_X6 (x_G X) q1) hk 7 [0] [] dL_law_4 ml_L_9 m0_X6_init im_X6_init rfl rfl rfl K_X6 (by rw [hRX]; exact Nat.le_of_ble_eq_true rfl) (by rw [hRX]; exact Nat.le_of_ble_eq_true rfl) rfl rfl rfl rfl (by decide) (by decide) rfl (Nat.le_of_ble_eq_true rfl) (by rw [hRX]; exact Nat.le_of_ble_eq_true rfl) (by rw [hRX]; exact Nat.le_of_ble_eq_true rfl) rfl ?_
    rintro u t ⟨a6, c6, e6, eu, et⟩
    subst e6
    refine k_astore (lv' := [(1, .ref (a6 0)), (0, .ref b)]) hk 8 dL_law_7 (by decide) rfl rfl ?_
    obtain ⟨a, haL, haH⟩ : ∃ a : Nat → Nat, (∀ k, k < 50 → a k = a6 k) ∧ ∀ k, 49 < k → a k = a0 k := ⟨fun k => if k < 50 then a6 k else a0 k, fun k hk => if_pos hk, fun k hk => if_neg (by omega)⟩
    have e50 : (z_cw ((x_G X).1, a6, c6, (x_G X).2.2.2) w_0).take 50 = w50 a c6 := (z_take_re (g := (x_G X).1) (v := (x_G X).2.2.2) haL (fun _ _ => rfl)).symm.trans z_take.symm
    have eq1 : a6 0 = a 0 := (haL 0 (by omega)).symm
    rw [eq1]
    rw [eu.trans e50, et, List.nil_append, List.nil_append]
    clear eu e50
    show WK X mL_law 8 [(1, .ref (a 0)), (0, .ref b)] [] (w50 a c6) (t50 c6) 50 1084
    obtain ⟨X2, hX2⟩ : ∃ X2 : zX, X2 = (p, l, e, room_1, s, m, #[Value.ref b], below, meth, c, (0, 0), lw_Z below #[Value.ref b] s, (g, a, c6, v), A) := ⟨_, rfl⟩
    have hF2 : k_F (g, a, c6, v) s := ⟨hF.1, z_N_re (fun k h => haH k (by omega)) hF.2.1, hF.2.2⟩
    have hS2 : k_S (g, a, c6, v) A s s.heap := ⟨z_S_re (fun k h => haH k (by omega)) hS.1, by
      obtain ⟨scr, h1, h2⟩ := hS.2
      refine ⟨scr, ?_, h2⟩
      show s.heap[a 102]? = some scr
      rw [haH 102 (by omega)]
      exact h1⟩
    have hk2 : kOk X2 mL_law := by rw [hX2]; exact ⟨hx, hb, hml, hr, hlocks, hw, hown, hF2, hS2, hAA⟩
    have hRX2 : x_R X2 = room_1 := by rw [hX2]
    have key2 : WK X2 mL_law 8 [(1, .ref (a 0)), (0, .ref b)] [] (w50 a c6) (t50 c6) 50 1084 := by
      refine k_new (ci := 7) (q := (RX7, TX7, 32)) (fs := [.null, .null, .null, .int 0, .null, .int 0, .int 0, .int 0, .int 0, .null, .int 0, .int 0, .int 0, .int 0, .int 0, .int 0, .int 0, .int 0, .null, .null, .null, .int 0, .int 0, .int 0, .int 0, .int 0, .null, .null, .null, .null, .int 0, .null]) hk2 11 tyX7 tyX7_ok dL_law_8 rfl cl_L_10 ins_X7 in_X7 (by decide +kernel) (by rw [hRX2]; exact Nat.le_of_ble_eq_true rfl) (by rw [hRX2]; exact Nat.le_of_ble_eq_true rfl) rfl (fun q2 => ?_)
      refine k_dup hk2 12 dL_law_11 rfl rfl ?_
      intro H locs ls hP hD hSS hK hl
      have ht50 : va_K g vwCl (t50 c6) s := by rw [hX2] at hK; exact hK
      refine k_callT (y2 := mX7_init) (tys0 := t50 c6) (as := []) (rest := [.ref q2]) (F := F_X7 g v a c6 q2) hk2 15 dL_law_12 ml_L_12 m0_X7_init im_X7_init rfl rfl rfl (by rw [hX2]; exact K_X7) (by rw [hRX2]; exact Nat.le_of_ble_eq_true rfl) (by rw [hRX2]; exact Nat.le_of_ble_eq_true rfl) hK rfl (Nat.le_of_ble_eq_true rfl) (by rw [hRX2]; exact Nat.le_of_ble_eq_true rfl) (by rw [hRX2]; exact Nat.le_of_ble_eq_true rfl) rfl ?_ H locs ls hP hD hSS hK hl
      rintro u t ⟨a', c', w', ha', hc', e7, eu, et, hRM, hw0⟩
      subst e7
      rw [eu, et]
      refine k_astore (lv' := [(2, .ref (a' 50)), (1, .ref (a 0)), (0, .ref b)]) hk2 16 dL_law_15 (by decide) rfl rfl ?_
      intro H locs ls hP hD hSS hK hl
      rw [hX2] at hP hD hSS hK ⊢
      have ht7 : va_K g vwCl (t7 c') s := ⟨hF.1.1, fun k q hq => hK.2 (36 + k) q (by rw [List.getElem?_append_right (Nat.le_add_right 36 k), show 36 + k - (t50 c6).length = k from Nat.add_sub_cancel_left 36 k]; exact hq)⟩
      have e0 : a 0 = a' 0 := (ha' 0 (Or.inl (by omega))).symm
      rw [e0] at hl
      exact w_loop hL C0 hAe (z_K_of hF.1 ht50 ht7 hc' hF.2.2.2.2.2) (z_N_re (fun k h => ha' k (Or.inr h)) hF2.2.1) (z_S_re (fun k h => ha' k (Or.inr h)) hS2.1) (by rw [ha' 400 (Or.inr (by omega)), haH 400 (by omega)]; exact hG) (RC_0.lo (fun k hk => hw0 k hk)) hRM hP hD hSS hl
    rw [hX2] at key2
    rw [hXe]
    exact key2
  rw [hXe] at key
  exact key s.heap [] ls (fun k q h => by simp at h) ⟨fun i j p q h => by simp at h, fun k q h => by simp at h⟩ va_S.rf hF.1 hl

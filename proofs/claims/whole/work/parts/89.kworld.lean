/-! ===== the whole world, out of its two halves ===== -/
theorem l_none {α : Type} (l : List α) {n i : Nat} (h : l.length = n) (hi : ¬ i < n) : l[i]? = none := List.getElem?_eq_none (by omega)
def t50 (c : Nat → ClassId) : kTy := [((c 2), .int), ((c 3), .int), ((c 4), .int), ((c 5), .int), ((c 7), .int), ((c 8), .int), ((c 9), .int), ((c 10), .int), ((c 12), .int), ((c 13), .int), ((c 14), .int), ((c 15), .int), ((c 17), .int), ((c 18), .int), ((c 19), .int), ((c 20), .int), ((c 22), .int), ((c 23), .int), ((c 24), .int), ((c 25), .int), ((c 26), .object RX1), ((c 28), .byte), ((c 31), .int), ((c 32), .int), ((c 33), .int), ((c 34), .int), ((c 35), .int), ((c 37), .int), ((c 38), .int), ((c 39), .int), ((c 40), .int), ((c 41), .object RX3), ((c 43), .int), ((c 45), .int), ((c 47), .int), ((c 49), .int)]
def z_lo (e : zE) : Bool := match e with
  | .inl (_, _, none) => true
  | .inl (_, _, some rs) => rs.all (fun r => decide (r < 50))
  | .inr (_, fs) => fs.all (fun o => match o with | none => true | some r => decide (r < 50))
theorem z_lo_ok : (z_shp.take 50).all z_lo = true := by decide +kernel
theorem z_lo_at {k : Nat} {e : zE} (hk : k < 50) (he : z_shp[k]? = some e) : z_lo e = true := by
  refine List.all_eq_true.mp z_lo_ok e (List.mem_of_getElem? (i := k) ?_)
  rw [List.getElem?_take_of_lt hk]
  exact he
theorem z_ce_re {g : va_G} {v : Value} {a a' : Nat → Nat} {c c' : Nat → ClassId} {w : zW} {k : Nat} {e : zE} (hc : c' k = c k) (ha : ∀ r, r < 50 → a' r = a r) (he : z_lo e = true) : z_ce (g, a', c', v) w k e = z_ce (g, a, c, v) w k e := by
  match e, he with
  | .inl (ty, n, none), _ =>
    show (Sum.inl (c' k, n, Sum.inl (w k)) : va_E) = Sum.inl (c k, n, Sum.inl (w k))
    rw [hc]
  | .inl (ty, n, some rs), he =>
    have he : rs.all (fun r => decide (r < 50)) = true := he
    have e1 : (fun j : Nat => (rs[j]?).map a') = fun j : Nat => (rs[j]?).map a := by
      funext j
      cases h : rs[j]? with
      | none => rfl
      | some r =>
        have h1 := List.all_eq_true.mp he r (List.mem_of_getElem? h)
        show some (a' r) = some (a r)
        rw [ha r (of_decide_eq_true h1)]
    show (Sum.inl (c' k, n, .inr (.inr (.inr (.inr fun j => (rs[j]?).map a')))) : va_E) = Sum.inl (c k, n, .inr (.inr (.inr (.inr fun j => (rs[j]?).map a))))
    rw [hc, e1]
  | .inr (ci, fs), he =>
    have he : fs.all (fun o => match o with | none => true | some r => decide (r < 50)) = true := he
    have e1 : (fs.mapIdx fun i o => z_fv (g, a', c', v) w k i o) = fs.mapIdx fun i o => z_fv (g, a, c, v) w k i o := by
      apply List.ext_getElem?
      intro i
      rw [List.getElem?_mapIdx, List.getElem?_mapIdx]
      cases h : fs[i]? with
      | none => rfl
      | some o =>
        have h1 := List.all_eq_true.mp he o (List.mem_of_getElem? h)
        cases o with
        | none => rfl
        | some r =>
          show some (Value.ref (a' r)) = some (Value.ref (a r))
          rw [ha r (of_decide_eq_true h1)]
    show Sum.inr (ci, _) = Sum.inr (ci, _)
    rw [e1]
theorem z_take_re {g : va_G} {v : Value} {a a' : Nat → Nat} {c c' : Nat → ClassId} {w : zW} (ha : ∀ r, r < 50 → a' r = a r) (hc : ∀ k, k < 50 → c' k = c k) : (z_cw (g, a', c', v) w).take 50 = (z_cw (g, a, c, v) w).take 50 := by
  apply List.ext_getElem?
  intro k
  by_cases hk : k < 50
  · rw [List.getElem?_take_of_lt hk, List.getElem?_take_of_lt hk, z_cw, z_cw, List.getElem?_mapIdx, List.getElem?_mapIdx]
    cases h : z_shp[k]? with
    | none => rfl
    | some e =>
      show some (a' k, z_ce (g, a', c', v) w k e) = some (a k, z_ce (g, a, c, v) w k e)
      rw [ha k hk, z_ce_re (hc k hk) ha (z_lo_at hk h)]
  · rw [List.getElem?_eq_none (Nat.le_trans (List.length_take_le 50 _) (Nat.not_lt.mp hk)), List.getElem?_eq_none (Nat.le_trans (List.length_take_le 50 _) (Nat.not_lt.mp hk))]
theorem z_len {G : zG} {w : zW} : (z_cw G w).length = 64 := by rw [z_cw, List.length_mapIdx]; rfl
set_option maxRecDepth 100000 in
theorem z_e50 {g : va_G} {v : Value} {a : Nat → Nat} {c : Nat → ClassId} : z_ce (g, a, c, v) w_0 50 (.inr (7, [some 51, some 52, some 53, none, some 54, none, none, none, none, some 55, none, none, none, none, none, none, none, none, some 56, some 57, some 58, none, none, none, none, none, some 59, some 60, some 61, some 62, none, some 63])) = .inr (7, [.ref (a 51), .ref (a 52), .ref (a 53), .int 0, .ref (a 54), .int 0, .int 0, .int 0, .int 0, .ref (a 55), .int 0, .int 0, .int 0, .int 0, .int 0, .int 0, .int 0, .int 0, .ref (a 56), .ref (a 57), .ref (a 58), .int 0, .int 0, .int 0, .int 0, .int 0, .ref (a 59), .ref (a 60), .ref (a 61), .ref (a 62), .int 0, .ref (a 63)]) := by
  have e : (([some 51, some 52, some 53, none, some 54, none, none, none, none, some 55, none, none, none, none, none, none, none, none, some 56, some 57, some 58, none, none, none, none, none, some 59, some 60, some 61, some 62, none, some 63] : List (Option Nat)).mapIdx fun i o => z_fv (g, a, c, v) w_0 50 i o) = [.ref (a 51), .ref (a 52), .ref (a 53), .int 0, .ref (a 54), .int 0, .int 0, .int 0, .int 0, .ref (a 55), .int 0, .int 0, .int 0, .int 0, .int 0, .int 0, .int 0, .int 0, .ref (a 56), .ref (a 57), .ref (a 58), .int 0, .int 0, .int 0, .int 0, .int 0, .ref (a 59), .ref (a 60), .ref (a 61), .ref (a 62), .int 0, .ref (a 63)] := by
    apply List.ext_getElem?
    intro i
    rw [List.getElem?_mapIdx]
    by_cases hi : i < 32
    · match i, hi with
      | 0, _ => rfl
      | 1, _ => rfl
      | 2, _ => rfl
      | 3, _ => rfl
      | 4, _ => rfl
      | 5, _ => rfl
      | 6, _ => rfl
      | 7, _ => rfl
      | 8, _ => rfl
      | 9, _ => rfl
      | 10, _ => rfl
      | 11, _ => rfl
      | 12, _ => rfl
      | 13, _ => rfl
      | 14, _ => rfl
      | 15, _ => rfl
      | 16, _ => rfl
      | 17, _ => rfl
      | 18, _ => rfl
      | 19, _ => rfl
      | 20, _ => rfl
      | 21, _ => rfl
      | 22, _ => rfl
      | 23, _ => rfl
      | 24, _ => rfl
      | 25, _ => rfl
      | 26, _ => rfl
      | 27, _ => rfl
      | 28, _ => rfl
      | 29, _ => rfl
      | 30, _ => rfl
      | 31, _ => rfl
      | i + 32, hi => omega
    · have h1 : ([some 51, some 52, some 53, none, some 54, none, none, none, none, some 55, none, none, none, none, none, none, none, none, some 56, some 57, some 58, none, none, none, none, none, some 59, some 60, some 61, some 62, none, some 63] : List (Option Nat))[i]? = none := l_none _ (n := 32) rfl hi
      have h2 : ([.ref (a 51), .ref (a 52), .ref (a 53), .int 0, .ref (a 54), .int 0, .int 0, .int 0, .int 0, .ref (a 55), .int 0, .int 0, .int 0, .int 0, .int 0, .int 0, .int 0, .int 0, .ref (a 56), .ref (a 57), .ref (a 58), .int 0, .int 0, .int 0, .int 0, .int 0, .ref (a 59), .ref (a 60), .ref (a 61), .ref (a 62), .int 0, .ref (a 63)] : List Value)[i]? = none := l_none _ (n := 32) rfl hi
      rw [h1, h2]; rfl
  show Sum.inr (7, _) = Sum.inr (7, _)
  rw [e]
set_option maxHeartbeats 600000 in
set_option maxRecDepth 100000 in
theorem z_drop {g : va_G} {v : Value} {a : Nat → Nat} {c : Nat → ClassId} : (z_cw (g, a, c, v) w_0).drop 50 = [((a 50), .inr (7, [.ref (a 51), .ref (a 52), .ref (a 53), .int 0, .ref (a 54), .int 0, .int 0, .int 0, .int 0, .ref (a 55), .int 0, .int 0, .int 0, .int 0, .int 0, .int 0, .int 0, .int 0, .ref (a 56), .ref (a 57), .ref (a 58), .int 0, .int 0, .int 0, .int 0, .int 0, .ref (a 59), .ref (a 60), .ref (a 61), .ref (a 62), .int 0, .ref (a 63)])), ((a 51), .inl ((c 51), 165, .inl (fun _ => 0))), ((a 52), .inl ((c 52), 55, .inl (fun _ => 0))), ((a 53), .inl ((c 53), 2, .inl (fun _ => 0))), ((a 54), .inl ((c 54), 55, .inl (fun _ => 0))), ((a 55), .inl ((c 55), 160, .inl (fun _ => 0))), ((a 56), .inl ((c 56), 6, .inl (fun _ => 0))), ((a 57), .inl ((c 57), 6, .inl (fun _ => 0))), ((a 58), .inl ((c 58), 6, .inl (fun _ => 0))), ((a 59), .inl ((c 59), 6, .inl (fun _ => 0))), ((a 60), .inl ((c 60), 4, .inl (fun _ => 0))), ((a 61), .inl ((c 61), 4, .inl (fun _ => 0))), ((a 62), .inl ((c 62), 160, .inl (fun _ => 0))), ((a 63), .inl ((c 63), 55, .inl (fun _ => 0)))] := by
  apply List.ext_getElem?
  intro k
  rw [List.getElem?_drop]
  by_cases hk : k < 14
  · match k, hk with
    | 0, _ => exact (z_cw_at (G := (g, a, c, v)) (w := w_0) sh_50).trans (by rw [z_e50]; rfl)
    | 1, _ => exact z_cw_at (G := (g, a, c, v)) (w := w_0) sh_51
    | 2, _ => exact z_cw_at (G := (g, a, c, v)) (w := w_0) sh_52
    | 3, _ => exact z_cw_at (G := (g, a, c, v)) (w := w_0) sh_53
    | 4, _ => exact z_cw_at (G := (g, a, c, v)) (w := w_0) sh_54
    | 5, _ => exact z_cw_at (G := (g, a, c, v)) (w := w_0) sh_55
    | 6, _ => exact z_cw_at (G := (g, a, c, v)) (w := w_0) sh_56
    | 7, _ => exact z_cw_at (G := (g, a, c, v)) (w := w_0) sh_57
    | 8, _ => exact z_cw_at (G := (g, a, c, v)) (w := w_0) sh_58
    | 9, _ => exact z_cw_at (G := (g, a, c, v)) (w := w_0) sh_59
    | 10, _ => exact z_cw_at (G := (g, a, c, v)) (w := w_0) sh_60
    | 11, _ => exact z_cw_at (G := (g, a, c, v)) (w := w_0) sh_61
    | 12, _ => exact z_cw_at (G := (g, a, c, v)) (w := w_0) sh_62
    | 13, _ => exact z_cw_at (G := (g, a, c, v)) (w := w_0) sh_63
    | k + 14, hk => omega
  · have h1 : ([((a 50), .inr (7, [.ref (a 51), .ref (a 52), .ref (a 53), .int 0, .ref (a 54), .int 0, .int 0, .int 0, .int 0, .ref (a 55), .int 0, .int 0, .int 0, .int 0, .int 0, .int 0, .int 0, .int 0, .ref (a 56), .ref (a 57), .ref (a 58), .int 0, .int 0, .int 0, .int 0, .int 0, .ref (a 59), .ref (a 60), .ref (a 61), .ref (a 62), .int 0, .ref (a 63)])), ((a 51), .inl ((c 51), 165, .inl (fun _ => 0))), ((a 52), .inl ((c 52), 55, .inl (fun _ => 0))), ((a 53), .inl ((c 53), 2, .inl (fun _ => 0))), ((a 54), .inl ((c 54), 55, .inl (fun _ => 0))), ((a 55), .inl ((c 55), 160, .inl (fun _ => 0))), ((a 56), .inl ((c 56), 6, .inl (fun _ => 0))), ((a 57), .inl ((c 57), 6, .inl (fun _ => 0))), ((a 58), .inl ((c 58), 6, .inl (fun _ => 0))), ((a 59), .inl ((c 59), 6, .inl (fun _ => 0))), ((a 60), .inl ((c 60), 4, .inl (fun _ => 0))), ((a 61), .inl ((c 61), 4, .inl (fun _ => 0))), ((a 62), .inl ((c 62), 160, .inl (fun _ => 0))), ((a 63), .inl ((c 63), 55, .inl (fun _ => 0)))] : va_W)[k]? = none := l_none _ (n := 14) rfl hk
    rw [h1, List.getElem?_eq_none (by rw [z_len]; omega)]
theorem z_all {g : va_G} {v : Value} {a a' : Nat → Nat} {c c' : Nat → ClassId} (ha : ∀ r, r < 50 → a' r = a r) (hc : ∀ k, k < 50 → c' k = c k) : w50 a c ++ [((a' 50), .inr (7, [.ref (a' 51), .ref (a' 52), .ref (a' 53), .int 0, .ref (a' 54), .int 0, .int 0, .int 0, .int 0, .ref (a' 55), .int 0, .int 0, .int 0, .int 0, .int 0, .int 0, .int 0, .int 0, .ref (a' 56), .ref (a' 57), .ref (a' 58), .int 0, .int 0, .int 0, .int 0, .int 0, .ref (a' 59), .ref (a' 60), .ref (a' 61), .ref (a' 62), .int 0, .ref (a' 63)])), ((a' 51), .inl ((c' 51), 165, .inl (fun _ => 0))), ((a' 52), .inl ((c' 52), 55, .inl (fun _ => 0))), ((a' 53), .inl ((c' 53), 2, .inl (fun _ => 0))), ((a' 54), .inl ((c' 54), 55, .inl (fun _ => 0))), ((a' 55), .inl ((c' 55), 160, .inl (fun _ => 0))), ((a' 56), .inl ((c' 56), 6, .inl (fun _ => 0))), ((a' 57), .inl ((c' 57), 6, .inl (fun _ => 0))), ((a' 58), .inl ((c' 58), 6, .inl (fun _ => 0))), ((a' 59), .inl ((c' 59), 6, .inl (fun _ => 0))), ((a' 60), .inl ((c' 60), 4, .inl (fun _ => 0))), ((a' 61), .inl ((c' 61), 4, .inl (fun _ => 0))), ((a' 62), .inl ((c' 62), 160, .inl (fun _ => 0))), ((a' 63), .inl ((c' 63), 55, .inl (fun _ => 0)))] = z_cw (g, a', c', v) w_0 := by
  have h1 : w50 a c = (z_cw (g, a', c', v) w_0).take 50 := (z_take (g := g) (v := v)).trans (z_take_re ha hc).symm
  rw [h1, ← z_drop (g := g) (v := v)]
  exact List.take_append_drop 50 _
theorem k_ex14 (a : Nat → Nat) (h q1 q3 q5 q7 q9 q11 q13 q15 q17 q19 q21 q23 q25 : Nat) : ∃ a' : Nat → Nat, (∀ k, k < 50 ∨ 63 < k → a' k = a k) ∧ a' 50 = h ∧ a' 51 = q1 ∧ a' 52 = q3 ∧ a' 53 = q5 ∧ a' 54 = q7 ∧ a' 55 = q9 ∧ a' 56 = q11 ∧ a' 57 = q13 ∧ a' 58 = q15 ∧ a' 59 = q17 ∧ a' 60 = q19 ∧ a' 61 = q21 ∧ a' 62 = q23 ∧ a' 63 = q25 := ⟨k_a a (h :: q1 :: q3 :: q5 :: q7 :: q9 :: q11 :: q13 :: q15 :: q17 :: q19 :: q21 :: q23 :: q25 :: []), fun k hk => by unfold k_a; rcases hk with hk | hk; exact if_pos hk; rw [if_neg (by omega), if_neg (by omega)], rfl, rfl, rfl, rfl, rfl, rfl, rfl, rfl, rfl, rfl, rfl, rfl, rfl, rfl⟩
theorem k_ec13 (c : Nat → ClassId) (c2 c4 c6 c8 c10 c12 c14 c16 c18 c20 c22 c24 c26 : ClassId) : ∃ c' : Nat → ClassId, (∀ k, k < 50 → c' k = c k) ∧ c' 51 = c2 ∧ c' 52 = c4 ∧ c' 53 = c6 ∧ c' 54 = c8 ∧ c' 55 = c10 ∧ c' 56 = c12 ∧ c' 57 = c14 ∧ c' 58 = c16 ∧ c' 59 = c18 ∧ c' 60 = c20 ∧ c' 61 = c22 ∧ c' 62 = c24 ∧ c' 63 = c26 := ⟨k_c c (c2 :: c4 :: c6 :: c8 :: c10 :: c12 :: c14 :: c16 :: c18 :: c20 :: c22 :: c24 :: c26 :: []), fun k hk => by unfold k_c; exact if_pos (by omega), rfl, rfl, rfl, rfl, rfl, rfl, rfl, rfl, rfl, rfl, rfl, rfl, rfl⟩
theorem z_N_re {g : va_G} {v : Value} {a a' : Nat → Nat} {c c' : Nat → ClassId} {U : State} (h : ∀ k, 63 < k → a' k = a k) (hN : z_N (g, a, c, v) U) : z_N (g, a', c', v) U := ⟨hN.1, fun i hi => by
  show vk_R RX5 (z_six.getD i 0) (z_stx.getD i "") (a' (200 + i)) U
  rw [h _ (by omega)]
  exact hN.2 i hi⟩
theorem z_S_re {g : va_G} {v : Value} {a a' : Nat → Nat} {c c' : Nat → ClassId} {A : Nat → Prop} {U : State} {H : Heap} (h : ∀ k, 63 < k → a' k = a k) (hS : z_S (g, a, c, v) A U H) : z_S (g, a', c', v) A U H := by
  obtain ⟨h1, h2, h3, h4⟩ := hS
  refine ⟨fun j hj => ?_, ?_, h3, h4⟩
  · have e : a' (100 + j) = a (100 + j) := h _ (by omega)
    show va_Z RX6 (z_snm.getD j "") "[I" (.ref (a' (100 + j))) A U H ∧ va_X (a' (100 + j)) ((z_sar.getD j []).length) (fun i => (z_sar.getD j []).getD i 0) U H ∧ a' (100 + j) < H.size ∧ ¬ A (a' (100 + j))
    rw [e]
    exact h1 j hj
  · have e1 : (fun i => a' (200 + i)) = fun i => a (200 + i) := funext fun i => h _ (by omega)
    have e2 : (fun i => a' (300 + i)) = fun i => a (300 + i) := funext fun i => h _ (by omega)
    show vk_S 16 z_sln z_sby (fun i => a' (200 + i)) (fun i => a' (300 + i)) A U H
    rw [e1, e2]
    exact h2
set_option maxRecDepth 100000 in
theorem z_K_of {g : va_G} {v : Value} {a' : Nat → Nat} {c c' : Nat → ClassId} {U : State} (h1 : va_K g vwCl [] U) (ht : va_K g vwCl (t50 c) U) (ht7 : va_K g vwCl (t7 c') U) (hc : ∀ k, k < 50 → c' k = c k) (hv : v.category = 1) : z_K (g, a', c', v) U := by
  refine ⟨h1, fun k ty n r hs => ?_, hv⟩
  show ArrOfT U (c' k) ty ∧ va_RA U (c' k) ty
  match k, hs with
  | 0, hs => cases sh_0.symm.trans hs
  | 1, hs => cases sh_1.symm.trans hs
  | 2, hs => cases sh_2.symm.trans hs; rw [hc 2 (by decide)]; exact ht.2 0 _ rfl
  | 3, hs => cases sh_3.symm.trans hs; rw [hc 3 (by decide)]; exact ht.2 1 _ rfl
  | 4, hs => cases sh_4.symm.trans hs; rw [hc 4 (by decide)]; exact ht.2 2 _ rfl
  | 5, hs => cases sh_5.symm.trans hs; rw [hc 5 (by decide)]; exact ht.2 3 _ rfl
  | 6, hs => cases sh_6.symm.trans hs
  | 7, hs => cases sh_7.symm.trans hs; rw [hc 7 (by decide)]; exact ht.2 4 _ rfl
  | 8, hs => cases sh_8.symm.trans hs; rw [hc 8 (by decide)]; exact ht.2 5 _ rfl
  | 9, hs => cases sh_9.symm.trans hs; rw [hc 9 (by decide)]; exact ht.2 6 _ rfl
  | 10, hs => cases sh_10.symm.trans hs; rw [hc 10 (by decide)]; exact ht.2 7 _ rfl
  | 11, hs => cases sh_11.symm.trans hs
  | 12, hs => cases sh_12.symm.trans hs; rw [hc 12 (by decide)]; exact ht.2 8 _ rfl
  | 13, hs => cases sh_13.symm.trans hs; rw [hc 13 (by decide)]; exact ht.2 9 _ rfl
  | 14, hs => cases sh_14.symm.trans hs; rw [hc 14 (by decide)]; exact ht.2 10 _ rfl
  | 15, hs => cases sh_15.symm.trans hs; rw [hc 15 (by decide)]; exact ht.2 11 _ rfl
  | 16, hs => cases sh_16.symm.trans hs
  | 17, hs => cases sh_17.symm.trans hs; rw [hc 17 (by decide)]; exact ht.2 12 _ rfl
  | 18, hs => cases sh_18.symm.trans hs; rw [hc 18 (by decide)]; exact ht.2 13 _ rfl
  | 19, hs => cases sh_19.symm.trans hs; rw [hc 19 (by decide)]; exact ht.2 14 _ rfl
  | 20, hs => cases sh_20.symm.trans hs; rw [hc 20 (by decide)]; exact ht.2 15 _ rfl
  | 21, hs => cases sh_21.symm.trans hs
  | 22, hs => cases sh_22.symm.trans hs; rw [hc 22 (by decide)]; exact ht.2 16 _ rfl
  | 23, hs => cases sh_23.symm.trans hs; rw [hc 23 (by decide)]; exact ht.2 17 _ rfl
  | 24, hs => cases sh_24.symm.trans hs; rw [hc 24 (by decide)]; exact ht.2 18 _ rfl
  | 25, hs => cases sh_25.symm.trans hs; rw [hc 25 (by decide)]; exact ht.2 19 _ rfl
  | 26, hs => cases sh_26.symm.trans hs; rw [hc 26 (by decide)]; exact ht.2 20 _ rfl
  | 27, hs => cases sh_27.symm.trans hs
  | 28, hs => cases sh_28.symm.trans hs; rw [hc 28 (by decide)]; exact ht.2 21 _ rfl
  | 29, hs => cases sh_29.symm.trans hs
  | 30, hs => cases sh_30.symm.trans hs
  | 31, hs => cases sh_31.symm.trans hs; rw [hc 31 (by decide)]; exact ht.2 22 _ rfl
  | 32, hs => cases sh_32.symm.trans hs; rw [hc 32 (by decide)]; exact ht.2 23 _ rfl
  | 33, hs => cases sh_33.symm.trans hs; rw [hc 33 (by decide)]; exact ht.2 24 _ rfl
  | 34, hs => cases sh_34.symm.trans hs; rw [hc 34 (by decide)]; exact ht.2 25 _ rfl
  | 35, hs => cases sh_35.symm.trans hs; rw [hc 35 (by decide)]; exact ht.2 26 _ rfl
  | 36, hs => cases sh_36.symm.trans hs
  | 37, hs => cases sh_37.symm.trans hs; rw [hc 37 (by decide)]; exact ht.2 27 _ rfl
  | 38, hs => cases sh_38.symm.trans hs; rw [hc 38 (by decide)]; exact ht.2 28 _ rfl
  | 39, hs => cases sh_39.symm.trans hs; rw [hc 39 (by decide)]; exact ht.2 29 _ rfl
  | 40, hs => cases sh_40.symm.trans hs; rw [hc 40 (by decide)]; exact ht.2 30 _ rfl
  | 41, hs => cases sh_41.symm.trans hs; rw [hc 41 (by decide)]; exact ht.2 31 _ rfl
  | 42, hs => cases sh_42.symm.trans hs
  | 43, hs => cases sh_43.symm.trans hs; rw [hc 43 (by decide)]; exact ht.2 32 _ rfl
  | 44, hs => cases sh_44.symm.trans hs
  | 45, hs => cases sh_45.symm.trans hs; rw [hc 45 (by decide)]; exact ht.2 33 _ rfl
  | 46, hs => cases sh_46.symm.trans hs
  | 47, hs => cases sh_47.symm.trans hs; rw [hc 47 (by decide)]; exact ht.2 34 _ rfl
  | 48, hs => cases sh_48.symm.trans hs
  | 49, hs => cases sh_49.symm.trans hs; rw [hc 49 (by decide)]; exact ht.2 35 _ rfl
  | 50, hs => cases sh_50.symm.trans hs
  | 51, hs => cases sh_51.symm.trans hs; exact ht7.2 0 _ rfl
  | 52, hs => cases sh_52.symm.trans hs; exact ht7.2 1 _ rfl
  | 53, hs => cases sh_53.symm.trans hs; exact ht7.2 2 _ rfl
  | 54, hs => cases sh_54.symm.trans hs; exact ht7.2 3 _ rfl
  | 55, hs => cases sh_55.symm.trans hs; exact ht7.2 4 _ rfl
  | 56, hs => cases sh_56.symm.trans hs; exact ht7.2 5 _ rfl
  | 57, hs => cases sh_57.symm.trans hs; exact ht7.2 6 _ rfl
  | 58, hs => cases sh_58.symm.trans hs; exact ht7.2 7 _ rfl
  | 59, hs => cases sh_59.symm.trans hs; exact ht7.2 8 _ rfl
  | 60, hs => cases sh_60.symm.trans hs; exact ht7.2 9 _ rfl
  | 61, hs => cases sh_61.symm.trans hs; exact ht7.2 10 _ rfl
  | 62, hs => cases sh_62.symm.trans hs; exact ht7.2 11 _ rfl
  | 63, hs => cases sh_63.symm.trans hs; exact ht7.2 12 _ rfl
  | k + 64, hs => rw [List.getElem?_eq_none (show z_shp.length ≤ k + 64 from Nat.le_add_left 64 k)] at hs; cases hs

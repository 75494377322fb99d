/-! ===== fields and arrays ===== -/
/-- what is known of the world's classes -/
def z_cl (q : vw_C) : Prop := (∀ w ∈ u_ws q.1 q.2.1 q.2.2, w ∈ z_WS) ∧ (∃ ty : Nat → FieldType, ∀ k, k < q.2.2 → parseFieldDescriptor (q.2.1 k).2.2.1 = some (ty k)) ∧ ∀ a, a < q.2.2 → ∀ b, b < q.2.2 → a ≠ b → (q.2.1 a).2.1 ≠ (q.2.1 b).2.1
theorem z_cls : ∀ (ci : Nat) (q : vw_C), vwCl[ci]? = some q → z_cl q := by
  intro ci q h
  match ci, h with
  | 0, h => cases h; exact ⟨inX0, ⟨tyX0, tyX0_ok⟩, nmX0⟩
  | 1, h => cases h; exact ⟨inX1, ⟨tyX1, tyX1_ok⟩, nmX1⟩
  | 2, h => cases h; exact ⟨inX2, ⟨tyX2, tyX2_ok⟩, nmX2⟩
  | 3, h => cases h; exact ⟨inX3, ⟨tyX3, tyX3_ok⟩, nmX3⟩
  | 4, h => cases h; exact ⟨inX4, ⟨tyX4, tyX4_ok⟩, nmX4⟩
  | 5, h => cases h; exact ⟨inX5, ⟨tyX5, tyX5_ok⟩, nmX5⟩
  | 6, h => cases h; exact ⟨inX6, ⟨tyX6, tyX6_ok⟩, nmX6⟩
  | 7, h => cases h; exact ⟨inX7, ⟨tyX7, tyX7_ok⟩, nmX7⟩
  | k + 8, h => cases h
/-- a link to a field: field f of class ci -/
def z_fl (own : String) (idx ci f : Nat) : Prop := ∃ q : vw_C, vwCl[ci]? = some q ∧ f < q.2.2 ∧ Cond.fieldLink own idx (q.2.1 f).1 (q.2.1 f).2.1 (q.2.1 f).2.2.1 ∈ z_WS
/-- an int field that may be written -/
def z_fw (ci f : Nat) : Prop := ∃ q : vw_C, vwCl[ci]? = some q ∧ (q.2.1 f).2.2.2 = false ∧ parseFieldDescriptor (q.2.1 f).2.2.1 = some .int
section MEM
variable {y : zM} {d : Nat} {T : zX → Prop} {pc : Nat} {L : List (Option Value)} {st : List Value} {w : zW}
theorem r_getv {idx ci f k : Nat} {fs : List (Option Nat)} {o : Option Nat} (n : Nat) (hd : decode y.2.1 pc = .ok (.getfield idx, 3)) (hF : z_fl y.1.cls idx ci f) (hs : z_shp[k]? = some (.inr (ci, fs))) (hv : fs[f]? = some o) (hn : pc + 3 = n)
    (v : Value) (hvv : ∀ G, z_fv G w k f o = z_cv G v) (kk : WP y d T n L (v :: st) w) : WP y d T pc L (.ref k :: st) w := by
  subst hn
  intro X h hT H locs ls hD
  obtain ⟨q, hq, hf, hlk⟩ := hF
  obtain ⟨hin, -, -⟩ := z_cls ci q hq
  have hat := z_cw_at (G := x_G X) (w := w) hs
  have hfs : (fs.mapIdx fun i o => z_fv (x_G X) w k i o)[f]? = some (z_cv (x_G X) v) := by
    rw [List.getElem?_mapIdx, hv, Option.map_some, hvv]
  exact va_get (C := q.1) (T := q.2.1) (N := q.2.2) (ci := ci) (index := idx) (Ts := z_WS) h.exec h.code h.words hin h.own h.K.1 hD.1 k hat hq f hf (h.words _ hlk) (fun x hx => hx) hfs hd (kk X h hT H locs ls hD)
theorem r_geti {idx ci f k : Nat} {fs : List (Option Nat)} (n : Nat) (hd : decode y.2.1 pc = .ok (.getfield idx, 3)) (hF : z_fl y.1.cls idx ci f) (hs : z_shp[k]? = some (.inr (ci, fs))) (hv : fs[f]? = some none) (hn : pc + 3 = n) (kk : WP y d T n L (.int (w k f) :: st) w) : WP y d T pc L (.ref k :: st) w :=
  r_getv n hd hF hs hv hn (.int (w k f)) (fun _ => rfl) kk
theorem r_getr {idx ci f k r : Nat} {fs : List (Option Nat)} (n : Nat) (hd : decode y.2.1 pc = .ok (.getfield idx, 3)) (hF : z_fl y.1.cls idx ci f) (hs : z_shp[k]? = some (.inr (ci, fs))) (hv : fs[f]? = some (some r)) (hn : pc + 3 = n) (kk : WP y d T n L (.ref r :: st) w) : WP y d T pc L (.ref k :: st) w :=
  r_getv n hd hF hs hv hn (.ref r) (fun _ => rfl) kk
theorem z_put_fs {G : zG} {w : zW} {k f : Nat} {v : Int32} {fs : List (Option Nat)} (hv : fs[f]? = some none) : (fs.mapIdx fun i o => z_fv G w k i o).set f (.int v) = fs.mapIdx fun i o => z_fv G (z_up w k f v) k i o := by
  apply List.ext_getElem?
  intro j
  by_cases hj : j = f
  · subst hj
    have hl : j < fs.length := (List.getElem?_eq_some_iff.mp hv).1
    rw [List.getElem?_set_self (by rw [List.length_mapIdx]; exact hl), List.getElem?_mapIdx, hv]
    simp [z_fv, z_up_s]
  · rw [List.getElem?_set_ne (Ne.symm hj), List.getElem?_mapIdx, List.getElem?_mapIdx]
    cases fs[j]? with
    | none => rfl
    | some o =>
      cases o with
      | none => simp [z_fv, z_up_i hj]
      | some r => rfl
theorem r_puti {idx ci f k : Nat} {v : Int32} {fs : List (Option Nat)} (n : Nat) (hd : decode y.2.1 pc = .ok (.putfield idx, 3)) (hF : z_fl y.1.cls idx ci f) (hW : z_fw ci f) (hs : z_shp[k]? = some (.inr (ci, fs))) (hv : fs[f]? = some none) (hn : pc + 3 = n) (kk : WP y d T n L st (z_up w k f v)) : WP y d T pc L (.int v :: .ref k :: st) w := by
  subst hn
  intro X h hT H locs ls hD
  obtain ⟨q, hq, hf, hlk⟩ := hF
  obtain ⟨q', hq', hfin, hpd⟩ := hW
  cases hq.symm.trans hq'
  obtain ⟨hin, ⟨ty0, hty⟩, hnm⟩ := z_cls ci q hq
  have hat := z_cw_at (G := x_G X) (w := w) hs
  have hl : f < (fs.mapIdx fun i o => z_fv (x_G X) w k i o).length := by
    rw [List.length_mapIdx]
    exact (List.getElem?_eq_some_iff.mp hv).1
  refine va_put (C := q.1) (T := q.2.1) (N := q.2.2) (ci := ci) (index := idx) (Ts := z_WS) (ty := .int) (v := .int v) h.exec h.code h.words hin ty0 hty hnm h.own h.K.1 hD.1 hD.2.1 hD.2.2.1 k hat hq f hf (h.words _ hlk) (fun x hx => hx) hfin hpd rfl rfl hl hd (fun H1 locs1 hP hDD hS => ?_)
  have e : (z_cw (x_G X) w).set k ((x_G X).2.1 k, .inr (ci, (fs.mapIdx fun i o => z_fv (x_G X) w k i o).set f (.int v))) = z_cw (x_G X) (z_up w k f v) := by
    rw [z_put_fs hv]
    exact z_cw_set (e := .inr (ci, fs)) hs (fun j hj => z_up_o hj)
  rw [e] at hP hDD
  exact kk X h hT H1 locs1 ls ⟨hP, hDD, hS, hD.2.2.2⟩
theorem r_iald {k N : Nat} {i : Int32} (n : Nat) (hd : decode y.2.1 pc = .ok (.iaload, 1)) (hs : z_shp[k]? = some (.inl (.int, N, none))) (hin : vp_in i N) (hn : pc + 1 = n) (kk : WP y d T n L (.int (w k i.toNatClampNeg) :: st) w) : WP y d T pc L (.int i :: .ref k :: st) w := by
  subst hn
  intro X h hT H locs ls hD
  exact va_iald h.exec h.code (h.K.one hs) hD.1 k 0 (z_cw_at (G := x_G X) (w := w) hs) rfl hin hd (kk X h hT H locs ls hD)
theorem r_bald {k N : Nat} {i : Int32} (n : Nat) (hd : decode y.2.1 pc = .ok (.baload, 1)) (hs : z_shp[k]? = some (.inl (.byte, N, none))) (hin : vp_in i N) (hn : pc + 1 = n) (kk : WP y d T n L (.int (w k i.toNatClampNeg) :: st) w) : WP y d T pc L (.int i :: .ref k :: st) w := by
  subst hn
  intro X h hT H locs ls hD
  exact va_bald h.exec h.code (h.K.one hs) hD.1 k 0 (z_cw_at (G := x_G X) (w := w) hs) rfl hin hd (kk X h hT H locs ls hD)
theorem r_zald {k N : Nat} {i : Int32} (n : Nat) (hd : decode y.2.1 pc = .ok (.baload, 1)) (hs : z_shp[k]? = some (.inl (.boolean, N, none))) (hin : vp_in i N) (hn : pc + 1 = n) (kk : WP y d T n L (.int (w k i.toNatClampNeg) :: st) w) : WP y d T pc L (.int i :: .ref k :: st) w := by
  subst hn
  intro X h hT H locs ls hD
  exact va_zald h.exec h.code (h.K.one hs) hD.1 k 0 (z_cw_at (G := x_G X) (w := w) hs) rfl hin hd (kk X h hT H locs ls hD)
theorem z_arr_set {G : zG} {w : zW} {k N j : Nat} {v : Int32} {ty : FieldType} (hs : z_shp[k]? = some (.inl (ty, N, none))) : (z_cw G w).set k (G.2.1 k, .inl (G.2.2.1 k, N, .inl (upd (w k) j v))) = z_cw G (z_up w k j v) := by
  have h := z_cw_set (G := G) (w := w) (w' := z_up w k j v) (e := .inl (ty, N, none)) hs (fun j hj => z_up_o hj)
  rw [← h]
  simp only [z_ce, z_up_k]
theorem r_iast {k N : Nat} {i v : Int32} (n : Nat) (hd : decode y.2.1 pc = .ok (.iastore, 1)) (hs : z_shp[k]? = some (.inl (.int, N, none))) (hin : vp_in i N) (hn : pc + 1 = n) (kk : WP y d T n L st (z_up w k i.toNatClampNeg v)) : WP y d T pc L (.int v :: .int i :: .ref k :: st) w := by
  subst hn
  intro X h hT H locs ls hD
  refine va_iast h.exec h.code (h.K.one hs) hD.1 hD.2.1 hD.2.2.1 k 0 (z_cw_at (G := x_G X) (w := w) hs) rfl hin hd (fun H1 locs1 hP hDD hS => ?_)
  rw [z_arr_set hs] at hP hDD
  exact kk X h hT H1 locs1 ls ⟨hP, hDD, hS, hD.2.2.2⟩
theorem r_bast {k N : Nat} {i v : Int32} (n : Nat) (hd : decode y.2.1 pc = .ok (.bastore, 1)) (hs : z_shp[k]? = some (.inl (.byte, N, none))) (hin : vp_in i N) (hn : pc + 1 = n) (kk : WP y d T n L st (z_up w k i.toNatClampNeg (vp_nar .byte v))) : WP y d T pc L (.int v :: .int i :: .ref k :: st) w := by
  subst hn
  intro X h hT H locs ls hD
  refine va_bast h.exec h.code (h.K.one hs) hD.1 hD.2.1 hD.2.2.1 k 0 (z_cw_at (G := x_G X) (w := w) hs) rfl hin hd (fun H1 locs1 hP hDD hS => ?_)
  rw [z_arr_set hs] at hP hDD
  exact kk X h hT H1 locs1 ls ⟨hP, hDD, hS, hD.2.2.2⟩
theorem r_zast {k N : Nat} {i v : Int32} (n : Nat) (hd : decode y.2.1 pc = .ok (.bastore, 1)) (hs : z_shp[k]? = some (.inl (.boolean, N, none))) (hin : vp_in i N) (hn : pc + 1 = n) (kk : WP y d T n L st (z_up w k i.toNatClampNeg (vp_nar .boolean v))) : WP y d T pc L (.int v :: .int i :: .ref k :: st) w := by
  subst hn
  intro X h hT H locs ls hD
  refine va_zast h.exec h.code (h.K.one hs) hD.1 hD.2.1 hD.2.2.1 k 0 (z_cw_at (G := x_G X) (w := w) hs) rfl hin hd (fun H1 locs1 hP hDD hS => ?_)
  rw [z_arr_set hs] at hP hDD
  exact kk X h hT H1 locs1 ls ⟨hP, hDD, hS, hD.2.2.2⟩
theorem r_aald {k N r : Nat} {i : Int32} {C : String} {rs : List Nat} (n : Nat) (hd : decode y.2.1 pc = .ok (.aaload, 1)) (hs : z_shp[k]? = some (.inl (.object C, N, some rs))) (hin : vp_in i N) (hr : rs[i.toNatClampNeg]? = some r) (hn : pc + 1 = n) (kk : WP y d T n L (.ref r :: st) w) : WP y d T pc L (.int i :: .ref k :: st) w := by
  subst hn
  intro X h hT H locs ls hD
  refine va_aldq h.exec h.code (h.K.one hs) hD.1 k 0 (z_cw_at (G := x_G X) (w := w) hs) rfl hin hd ?_
  simp only [hr, Option.map_some]
  exact kk X h hT H locs ls hD
theorem r_alen {k N : Nat} {v : Int32} {ty : FieldType} (n : Nat) (hd : decode y.2.1 pc = .ok (.arraylength, 1)) (hs : z_shp[k]? = some (.inl (ty, N, none))) (hv : Int32.ofNat N = v) (hn : pc + 1 = n) (kk : WP y d T n L (.int v :: st) w) : WP y d T pc L (.ref k :: st) w := by
  subst hn
  intro X h hT H locs ls hD
  exact va_alen h.exec h.code (h.K.one hs) hD.1 k 0 (z_cw_at (G := x_G X) (w := w) hs) rfl hv hd (kk X h hT H locs ls hD)
/-! statics: the four tables; String constants -/
theorem r_gets {idx j : Nat} (n : Nat) (hd : decode y.2.1 pc = .ok (.getstatic idx, 3)) (hj : j < 4) (hl : Cond.fieldLink y.1.cls idx RX6 (z_snm.getD j "") "[I" ∈ z_WS) (hn : pc + 3 = n) (kk : WP y d T n L (.ref (100 + j) :: st) w) : WP y d T pc L st w := by
  subst hn
  intro X h hT H locs ls hD
  exact va_gets h.exec h.code (h.S.1 j hj).1 hD.2.2.1 h.own (h.words _ hl) (fun x hx => hx) hd (kk X h hT H locs ls hD)
theorem r_getsN {idx j : Nat} (n : Nat) (hd : decode y.2.1 pc = .ok (.getstatic idx, 3)) (hj : j < 4) (hl : Cond.fieldLinkNest y.1.cls idx RX6 (z_snm.getD j "") "[I" RX6 ∈ z_nst) (hn : pc + 3 = n) (kk : WP y d T n L (.ref (100 + j) :: st) w) : WP y d T pc L st w := by
  subst hn
  intro X h hT H locs ls hD
  exact va_getsN h.exec h.code (h.S.1 j hj).1 hD.2.2.1 h.own (va_Nw.use rfl (h.N.1 _ hl)) (fun x hx => hx) hd (kk X h hT H locs ls hD)
theorem r_tald {j k : Nat} {i : Int32} (n : Nat) (hd : decode y.2.1 pc = .ok (.iaload, 1)) (hj : j < 4) (hk : k = 100 + j) (hin : vp_in i (z_sar.getD j []).length) (hn : pc + 1 = n) (kk : WP y d T n L (.int ((z_sar.getD j []).getD i.toNatClampNeg 0) :: st) w) : WP y d T pc L (.int i :: .ref k :: st) w := by
  subst hn
  subst hk
  intro X h hT H locs ls hD
  exact va_sld h.exec h.code (h.S.1 j hj).2.1 (h.S.1 j hj).2.2.1 (h.S.1 j hj).2.2.2 hD.2.2.1 hin hd (kk X h hT H locs ls hD)
theorem r_ldcS {idx i : Nat} (n : Nat) (hd : decode y.2.1 pc = .ok (.ldc idx, 2)) (hy : y.1.cls = RX5) (hi : i < 16) (hx : z_six.getD i 0 = idx) (hn : pc + 2 = n) (kk : WP y d T n L (.ref (200 + i) :: st) w) : WP y d T pc L st w := by
  subst hn
  subst hx
  intro X h hT H locs ls hD
  exact va_ldcS h.exec h.code (by rw [← hy]; exact h.own) (h.N.2 i hi) hd (kk X h hT H locs ls hD)
end MEM

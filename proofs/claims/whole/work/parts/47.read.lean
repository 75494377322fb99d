/-! ===== what stays right; the class: read ===== -/
theorem kV.at {A n x v : Nat} {K : Nat → Nat} (h : kV A n K) (h0 : x = 0 → 1 ≤ v) (h1 : x = 0 ∨ x = 1 ∨ x = 4 → v ≤ 9) (h2 : x = 2 ∨ x = 5 → v ≤ 1) (h3 : x = 3 → v ≤ 4) (h4 : ∀ b, b < n → (x = 6 + 6 * b → v ≤ 1) ∧ (x = 6 + 6 * b + 1 → v ≤ 3) ∧ (x = 6 + 6 * b + 2 → v ≤ A) ∧ (x = 6 + 6 * b + 3 → v ≤ 9) ∧ (x = 6 + 6 * b + 4 → v ≤ 9) ∧ (x = 6 + 6 * b + 5 → v ≤ 1)) : kV A n (un K x v) := by
  obtain ⟨k1, k2, k3, k4, k5, k6, k7, k8⟩ := h
  refine ⟨k1, ⟨?_, ?_⟩, ?_, ?_, ?_, ?_, ?_, fun b hb => ?_⟩
  · unfold un; split <;> omega
  · unfold un; split <;> omega
  · unfold un; split <;> omega
  · unfold un; split <;> omega
  · unfold un; split <;> omega
  · unfold un; split <;> omega
  · unfold un; split <;> omega
  · have h5 := h4 b hb
    have h6 := k8 b hb
    refine ⟨?_, ?_, ?_, ?_, ?_, ?_⟩ <;> (unfold un; split <;> omega)
theorem lV.at {n x v : Nat} {K : Nat → Nat} (h : lV n K) (hx : x < 42) (h0 : x = 0 → 1 ≤ v) (h1 : x = 0 ∨ x = 1 ∨ x = 4 → v ≤ 9) (h2 : x = 2 ∨ x = 5 → v ≤ 1) (h3 : x = 3 → v ≤ 4) (h4 : ∀ b, b < n → (x = 6 + 6 * b → v ≤ 1) ∧ (x = 6 + 6 * b + 1 → v ≤ 3) ∧ (x = 6 + 6 * b + 2 → v ≤ 99) ∧ (x = 6 + 6 * b + 3 → v ≤ 9) ∧ (x = 6 + 6 * b + 4 → v ≤ 9) ∧ (x = 6 + 6 * b + 5 → v ≤ 1)) : lV n (un K x v) :=
  ⟨h.1.at h0 h1 h2 h3 h4, by rw [un_n (by omega)]; exact h.2.1, fun j hj => by rw [un_n (by omega)] at hj; rw [un_n (by omega), un_n (by omega)]; exact h.2.2 j hj⟩
theorem sV.lk {s : sT} {K : Nat → Nat} (h : sV s) (hK : lV (s_n s) K) : sV (u_lk s (s_n s) K) := ⟨hK, h.2⟩
theorem sV.arr {s : sT} {b v : Nat} (h : sV s) (hb : b < s_n s) (hv : v ≤ 99) : sV (u_lk s (s_n s) (un (s_K s) (6 + 6 * b + 2) v)) := h.lk (h.1.at (by have := h.1.n; omega) (by omega) (by omega) (by omega) (by omega) (fun c hc => by omega))
/-! a pair of cells -/
def fP (o : Option (Nat × Nat)) (l : Nat) (i : Int32) : Nat := match o with
  | none => 1
  | some (m, _) => if m = l then (if fA o i = 0 then fA o (i + 1) else fA o i) else 3
def sP (o : Option (Nat × Nat)) (l : Nat) (p : Int) : Nat := match o with
  | none => 1
  | some (m, z) => if m = l then (if 0 ≤ p ∧ p + 1 < (z : Int) then 0 else 2) else 3
theorem fA_lt {o : Option (Nat × Nat)} {i : Int32} : fA o i < 3 := by
  unfold fA
  cases o with
  | none => show 1 < 3; decide
  | some p => dsimp only; split <;> decide
theorem fA_0 {o : Option (Nat × Nat)} {i : Int32} (h : nI (fA o i) = 0) : fA o i = 0 := (nI_inj (b := 0) (by have := fA_lt (o := o) (i := i); omega) (by decide)).mp h
set_option maxRecDepth 20000 in
set_option maxHeartbeats 4000000 in
theorem c_faultOfPair {d Sx l : Nat} {w : zW} {o : Option (Nat × Nat)} {i : Int32} (hd : 2 ≤ d) (hSx : z_isH Sx) (hl : l < 3) (ho : shO w Sx o) : CT mX3_faultOfPair d [.ref Sx, .int (nI l), .int i] w (z_i fun x w' => nI (fP o l i) = x ∧ w = w') := by
  refine CT.of [some (.ref Sx), some (.int (nI l)), some (.int i), none] rfl (Nat.le_of_ble_eq_true rfl) rfl ?_
  refine r_aload_n 1 dX3_faultOfPair_0 rfl rfl ?_
  refine r_callV (y2 := mX3_isNothing) (as := []) 4 dX3_faultOfPair_1 ml_X3_32 mv_X3_isNothing (c_isNothing (d := d - 1) hSx) (by omega) (z_H0 hSx) ⟨_, rfl, rfl⟩ rfl (Nat.le_of_ble_eq_true rfl) rfl (kk_i ?_)
  rintro _ _ ⟨rfl, rfl⟩
  refine rb_ne 17 7 dX3_faultOfPair_4 (by decide) rfl (fun g4 => ?_) (fun g4 => ?_)
  · have e := ho.n.mp g4
    subst e
    refine r_aload_n 18 dX3_faultOfPair_17 rfl rfl ?_
    refine r_iload_n 19 dX3_faultOfPair_18 rfl rfl ?_
    refine r_callV (y2 := mX3_faultAt) (as := [_]) 22 dX3_faultOfPair_19 ml_X3_36 mv_X3_faultAt (c_faultAt (d := d - 1) (by omega) hSx ho) (by omega) (z_H0 hSx) ⟨_, rfl, rfl⟩ rfl (Nat.le_of_ble_eq_true rfl) rfl (kk_i ?_)
    rintro _ _ ⟨rfl, rfl⟩
    refine r_istore_n 23 (L' := [_, _, _, _]) dX3_faultOfPair_22 (by decide) rfl rfl rfl ?_
    refine r_iload_n 24 dX3_faultOfPair_23 rfl rfl ?_
    refine r_if_eq 31 27 dX3_faultOfPair_24 (by decide) rfl (fun g24 => ?_) (fun g24 => ?_)
    · refine r_aload_n 32 dX3_faultOfPair_31 rfl rfl ?_
      refine r_iload_n 33 dX3_faultOfPair_32 rfl rfl ?_
      refine r_iconst 34 (v := 1) dX3_faultOfPair_33 (by decide) rfl ?_
      refine r_iadd 35 dX3_faultOfPair_34 rfl ?_
      refine r_callV (y2 := mX3_faultAt) (as := [_]) 38 dX3_faultOfPair_35 ml_X3_36 mv_X3_faultAt (c_faultAt (d := d - 1) (by omega) hSx ho) (by omega) (z_H0 hSx) ⟨_, rfl, rfl⟩ rfl (Nat.le_of_ble_eq_true rfl) rfl (kk_i ?_)
      rintro _ _ ⟨rfl, rfl⟩
      exact r_iret .int dX3_faultOfPair_38 rfl (rfl) (by first | exact ⟨rfl, rfl⟩ | exact ⟨by rw [fP, if_pos rfl, if_pos (fA_0 g24)], rfl⟩ | exact ⟨by rw [fP, if_pos rfl, if_neg (fun z => g24 (by rw [z]; rfl))], rfl⟩ | exact absurd g24 (by decide))
    · refine r_iload_n 28 dX3_faultOfPair_27 rfl rfl ?_
      refine r_goto 38 dX3_faultOfPair_28 (by decide) ?_
      exact r_iret .int dX3_faultOfPair_38 rfl (rfl) (by first | exact ⟨rfl, rfl⟩ | exact ⟨by rw [fP, if_pos rfl, if_pos (fA_0 g24)], rfl⟩ | exact ⟨by rw [fP, if_pos rfl, if_neg (fun z => g24 (by rw [z]; rfl))], rfl⟩ | exact absurd g24 (by decide))
  · have e : ¬ o = none := fun z => g4 (ho.n.mpr z)
    obtain ⟨⟨m, z⟩, rfl⟩ := Option.ne_none_iff_exists'.mp e
    obtain ⟨o1, o2, o3, o4⟩ := id ho
    refine r_aload_n 8 dX3_faultOfPair_7 rfl rfl ?_
    refine r_geti 11 dX3_faultOfPair_8 fz_X3_23 (z_H0 hSx) rfl rfl ?_
    refine r_eq o1 ?_
    refine r_iload_n 12 dX3_faultOfPair_11 rfl rfl ?_
    refine r_icmp_eq 17 15 dX3_faultOfPair_12 (by decide) rfl (fun g12 => ?_) (fun g12 => ?_)
    · have g12 : m = l := (nI_inj (by omega) (by omega)).mp g12
      subst g12
      refine r_aload_n 18 dX3_faultOfPair_17 rfl rfl ?_
      refine r_iload_n 19 dX3_faultOfPair_18 rfl rfl ?_
      refine r_callV (y2 := mX3_faultAt) (as := [_]) 22 dX3_faultOfPair_19 ml_X3_36 mv_X3_faultAt (c_faultAt (d := d - 1) (by omega) hSx ho) (by omega) (z_H0 hSx) ⟨_, rfl, rfl⟩ rfl (Nat.le_of_ble_eq_true rfl) rfl (kk_i ?_)
      rintro _ _ ⟨rfl, rfl⟩
      refine r_istore_n 23 (L' := [_, _, _, _]) dX3_faultOfPair_22 (by decide) rfl rfl rfl ?_
      refine r_iload_n 24 dX3_faultOfPair_23 rfl rfl ?_
      refine r_if_eq 31 27 dX3_faultOfPair_24 (by decide) rfl (fun g24 => ?_) (fun g24 => ?_)
      · refine r_aload_n 32 dX3_faultOfPair_31 rfl rfl ?_
        refine r_iload_n 33 dX3_faultOfPair_32 rfl rfl ?_
        refine r_iconst 34 (v := 1) dX3_faultOfPair_33 (by decide) rfl ?_
        refine r_iadd 35 dX3_faultOfPair_34 rfl ?_
        refine r_callV (y2 := mX3_faultAt) (as := [_]) 38 dX3_faultOfPair_35 ml_X3_36 mv_X3_faultAt (c_faultAt (d := d - 1) (by omega) hSx ho) (by omega) (z_H0 hSx) ⟨_, rfl, rfl⟩ rfl (Nat.le_of_ble_eq_true rfl) rfl (kk_i ?_)
        rintro _ _ ⟨rfl, rfl⟩
        exact r_iret .int dX3_faultOfPair_38 rfl (rfl) (by first | exact ⟨rfl, rfl⟩ | exact ⟨by rw [fP, if_pos rfl, if_pos (fA_0 g24)], rfl⟩ | exact ⟨by rw [fP, if_pos rfl, if_neg (fun z => g24 (by rw [z]; rfl))], rfl⟩ | exact absurd g24 (by decide))
      · refine r_iload_n 28 dX3_faultOfPair_27 rfl rfl ?_
        refine r_goto 38 dX3_faultOfPair_28 (by decide) ?_
        exact r_iret .int dX3_faultOfPair_38 rfl (rfl) (by first | exact ⟨rfl, rfl⟩ | exact ⟨by rw [fP, if_pos rfl, if_pos (fA_0 g24)], rfl⟩ | exact ⟨by rw [fP, if_pos rfl, if_neg (fun z => g24 (by rw [z]; rfl))], rfl⟩ | exact absurd g24 (by decide))
    · have g12 : ¬ m = l := fun z => g12 (by rw [z])
      refine r_iconst 16 (v := 3) dX3_faultOfPair_15 (by decide) rfl ?_
      exact r_iret .int dX3_faultOfPair_16 rfl (rfl) (⟨by rw [fP, if_neg g12]; rfl, rfl⟩)
/-- the pair at f + 2 i -/
theorem rd_ti {f : Int32} {i : Nat} (hi : i < 20) : (f + 2 * nI i).toInt = f.toInt + 2 * i ∨ (2147483648 ≤ f.toInt + 2 * i ∧ (f + 2 * nI i).toInt < 0) := by
  have hb := ti_b f
  have h2 : (2 * nI i : Int32) = nI (2 * i) := nI_mul 2 i
  rw [h2]
  by_cases h : f.toInt + 2 * i < 2147483648
  · left
    rw [ti_add (by rw [ti_n (by omega)]; omega), ti_n (by omega)]
    omega
  · right
    refine ⟨by omega, ?_⟩
    rw [Int32.toInt_add, ti_n (by omega)]
    have : (f.toInt + ((2 * i : Nat) : Int)).bmod (2 ^ 32) = f.toInt + 2 * i - 4294967296 := by
      rw [Int.bmod_def]
      omega
    rw [this]
    omega
theorem fP_eq {o : Option (Nat × Nat)} {l i : Nat} {f : Int32} (hi : i < 20) (hz : ∀ m z, o = some (m, z) → z ≤ 40) : fP o l (f + 2 * nI i) = sP o l (f.toInt + 2 * i) := by
  cases o with
  | none => rfl
  | some p =>
    obtain ⟨m, z⟩ := p
    have hz := hz m z rfl
    rw [fP, sP]
    by_cases hm : m = l
    · rw [if_pos hm, if_pos hm, fA, fA]
      have h1 : (1 : Int32).toInt = 1 := rfl
      rcases rd_ti (f := f) hi with e | ⟨e1, e2⟩
      · by_cases c1 : iB z (f + 2 * nI i) = true
        · have c2 := iB_iff.mp c1
          have e3 : (f + 2 * nI i + 1).toInt = f.toInt + 2 * i + 1 := by rw [ti_add (by rw [h1]; omega), h1, e]
          rw [if_pos c1, if_pos rfl]
          by_cases c3 : iB z (f + 2 * nI i + 1) = true
          · have c4 := iB_iff.mp c3
            rw [if_pos c3, if_pos (by omega)]
          · rw [if_neg c3, if_neg (fun q => c3 (iB_iff.mpr (by omega)))]
        · rw [if_neg c1, if_neg (by decide), if_neg (fun q => c1 (iB_iff.mpr (by omega)))]
      · have c1 : ¬ iB z (f + 2 * nI i) = true := fun q => by have := iB_iff.mp q; omega
        rw [if_neg c1, if_neg (by decide), if_neg (fun q => by omega)]
    · rw [if_neg hm, if_neg hm]
/-- boat and arrival of a pair -/
def cm (s : sT) (k : Nat) (p : Int) : Bool := iB (s_n s) (s_c s k p.toNat) && wi (s_c s k (p.toNat + 1)) 0 99
def rdW (s : sT) (k l : Nat) (f : Int) : Nat → Nat → Nat × Nat × Bool
  | 0, i => (i, 0, true)
  | m + 1, i => if sP (s_sh s k) l (f + 2 * i) = 0 then (if cm s k (f + 2 * i) = true then rdW s k l f m (i + 1) else (i, 0, false)) else (i, sP (s_sh s k) l (f + 2 * i), true)
def rdK (s : sT) (k : Nat) (f : Int) : Nat → (Nat → Nat)
  | 0 => s_K s
  | i + 1 => un (rdK s k f i) (6 + 6 * tN (s_c s k (f + 2 * i).toNat) + 2) (tN (s_c s k ((f + 2 * i).toNat + 1)))
def f_read (s : sT) (k l f n : Int32) : Int32 × sT := if wi k 0 3 = true ∧ wi l 0 2 = true ∧ wi n 0 20 = true then (match rdW s (tN k) (tN l) f.toInt (tN n) 0 with
  | (i, e, true) => (nI i, u_tn (u_lk s (s_n s) (rdK s (tN k) f.toInt i)) e)
  | (i, _, false) => (-20 - nI i, s)) else (-1, s)
theorem sP_0 {o : Option (Nat × Nat)} {l : Nat} {p : Int} (h : sP o l p = 0) : ∃ z, o = some (l, z) ∧ 0 ≤ p ∧ p + 1 < (z : Int) := by
  cases o with
  | none => cases h
  | some q =>
    obtain ⟨m, z⟩ := q
    rw [sP] at h
    by_cases hm : m = l
    · rw [if_pos hm] at h
      by_cases hp : 0 ≤ p ∧ p + 1 < (z : Int)
      · exact ⟨z, by rw [hm], hp⟩
      · rw [if_neg hp] at h; cases h
    · rw [if_neg hm] at h; cases h
theorem sP_lt {o : Option (Nat × Nat)} {l : Nat} {p : Int} : sP o l p < 4 := by
  unfold sP
  cases o with
  | none => show 1 < 4; decide
  | some q => dsimp only; split; (split <;> decide); decide
theorem rdW_le {s : sT} {k l : Nat} {f : Int} : ∀ m i, (rdW s k l f m i).1 ≤ i + m := by
  intro m
  induction m with
  | zero => intro i; exact Nat.le_refl _
  | succ m ih =>
    intro i
    rw [rdW]
    split
    · split
      · have := ih (i + 1); omega
      · show i ≤ _; omega
    · show i ≤ _; omega
/-- cells of a sheet that is -/
theorem RC.cell {w : zW} {s : sT} {k l z i : Nat} (h : RC w s) (hk : k < 4) (hs : s_sh s k = some (l, z)) (hi : i < 40) : w (43 + 2 * k) i = s_c s k i := by
  have h1 := h.2.2.2.2.1 k hk
  rw [hs] at h1
  exact h1.2.2 i hi
set_option maxRecDepth 20000 in
set_option maxHeartbeats 4000000 in
theorem c_isComing {d Sx n i : Nat} {w : zW} {a b : Int32} (hd : 2 ≤ d) (hSx : z_isH Sx) (hn : n ≤ 6) (h2 : w 1 2 = nI n) (hi : i + 1 < 40) (ha : w (Sx + 1) i = a) (hb : w (Sx + 1) (i + 1) = b) : CT mX6_isComing d [.ref 0, .ref Sx, .int (nI i)] w (z_i fun x w' => z_b (iB n a = true ∧ wi b 0 99 = true) = x ∧ w = w') := by
  refine CT.of [some (.ref 0), some (.ref Sx), some (.int (nI i))] rfl (Nat.le_of_ble_eq_true rfl) rfl ?_
  refine r_aload_n 1 dX6_isComing_0 rfl rfl ?_
  refine r_aload_n 2 dX6_isComing_1 rfl rfl ?_
  refine r_iload_n 3 dX6_isComing_2 rfl rfl ?_
  refine r_callV (y2 := mX3_cell) (as := [_]) 6 dX6_isComing_3 ml_X6_270 mv_X3_cell (c_cell (d := d - 1) hSx (by omega)) (by omega) (z_H0 hSx) ⟨_, rfl, rfl⟩ rfl (Nat.le_of_ble_eq_true rfl) rfl (kk_i ?_)
  rintro _ _ ⟨rfl, rfl⟩
  refine r_eq ha ?_
  refine r_callV (y2 := mX6_isBoat) (as := [_]) 9 dX6_isComing_6 ml_X6_105 mv_X6_isBoat (c_isBoat (d := d - 1) (by omega) hn h2) (by omega) sh_0 ⟨_, rfl, rfl⟩ rfl (Nat.le_of_ble_eq_true rfl) rfl (kk_i ?_)
  rintro _ _ ⟨rfl, rfl⟩
  refine rb_eq 35 12 dX6_isComing_9 (by decide) rfl (fun g9 => ?_) (fun g9 => ?_)
  · refine r_iconst 36 (v := 0) dX6_isComing_35 (by decide) rfl ?_
    exact r_iret .boolean dX6_isComing_36 rfl (rfl) (by first | exact ⟨z_bp ⟨g9, g28⟩, rfl⟩ | exact ⟨z_bn (fun z => g9 z.1), rfl⟩ | exact ⟨z_bn (fun z => g28 z.2), rfl⟩)
  · refine r_aload_n 13 dX6_isComing_12 rfl rfl ?_
    refine r_iload_n 14 dX6_isComing_13 rfl rfl ?_
    refine r_iconst 15 (v := 1) dX6_isComing_14 (by decide) rfl ?_
    refine r_iadd 16 dX6_isComing_15 rfl ?_
    refine r_eq (nI_1 i) ?_
    refine r_callV (y2 := mX3_cell) (as := [_]) 19 dX6_isComing_16 ml_X6_270 mv_X3_cell (c_cell (d := d - 1) hSx (by omega)) (by omega) (z_H0 hSx) ⟨_, rfl, rfl⟩ rfl (Nat.le_of_ble_eq_true rfl) rfl (kk_i ?_)
    rintro _ _ ⟨rfl, rfl⟩
    refine r_eq hb ?_
    refine r_iconst 20 (v := 0) dX6_isComing_19 (by decide) rfl ?_
    refine r_gets (j := 3) 23 dX6_isComing_20 (by decide) fl_X6_122 rfl ?_
    refine r_iconst 24 (v := 2) dX6_isComing_23 (by decide) rfl ?_
    refine rj_tald 25 (2) 3 dX6_isComing_24 (by decide) rfl (rfl) (by decide) rfl ?_
    refine r_eq (rl3 2 (by decide) (by decide)) ?_
    refine r_callS (y2 := mX6_within) (as := [_, _, _]) 28 dX6_isComing_25 ml_X6_67 ms_X6_within (c_within (d := d - 1) _ _ _) (by omega) rfl (Nat.le_of_ble_eq_true rfl) rfl (kk_i ?_)
    rintro _ _ ⟨rfl, rfl⟩
    refine rb_eq 35 31 dX6_isComing_28 (by decide) rfl (fun g28 => ?_) (fun g28 => ?_)
    · have g28 : ¬ wi b 0 99 = true := fun z => g28 (wi_iff.mp z)
      refine r_iconst 36 (v := 0) dX6_isComing_35 (by decide) rfl ?_
      exact r_iret .boolean dX6_isComing_36 rfl (rfl) (by first | exact ⟨z_bp ⟨g9, g28⟩, rfl⟩ | exact ⟨z_bn (fun z => g9 z.1), rfl⟩ | exact ⟨z_bn (fun z => g28 z.2), rfl⟩)
    · have g28 : wi b 0 99 = true := wi_iff.mpr g28
      refine r_iconst 32 (v := 1) dX6_isComing_31 (by decide) rfl ?_
      refine r_goto 36 dX6_isComing_32 (by decide) ?_
      exact r_iret .boolean dX6_isComing_36 rfl (rfl) (by first | exact ⟨z_bp ⟨g9, g28⟩, rfl⟩ | exact ⟨z_bn (fun z => g9 z.1), rfl⟩ | exact ⟨z_bn (fun z => g28 z.2), rfl⟩)

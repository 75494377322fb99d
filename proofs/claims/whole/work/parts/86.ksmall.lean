/-! ===== the small constructors ===== -/
def F_X0 (h : Nat) (ws : va_W) (tys : kTy) : Prop := ∃ (a1 a2 a3 a4 a5 : Nat) (c6 c7 c8 c9 c10 : ClassId), ws = [(h, .inr (0, [.ref a1, .ref a2, .ref a3, .ref a4, .ref a5, .int 0, .int 0, .int 0, .int 0, .int 0, .int 0, .int 0, .int 0])), (a1, .inl (c6, 6, .inl (fun _ => 0))), (a2, .inl (c7, 6, .inl (fun _ => 0))), (a3, .inl (c8, 6, .inl (fun _ => 0))), (a4, .inl (c9, 6, .inl (fun _ => 0))), (a5, .inl (c10, 6, .inl (fun _ => 0)))] ∧ tys = [(c6, .int), (c7, .int), (c8, .int), (c9, .int), (c10, .int)]
def F_X1 (h : Nat) (ws : va_W) (tys : kTy) : Prop := ∃ (a1 a2 a3 a4 : Nat) (c5 c6 c7 c8 : ClassId), ws = [(h, .inr (1, [.ref a1, .ref a2, .int 0, .int 0, .int 0, .ref a3, .ref a4])), (a1, .inl (c5, 6, .inl k_f0)), (a2, .inl (c6, 30, .inl (fun _ => 0))), (a3, .inl (c7, 6, .inl (fun _ => 0))), (a4, .inl (c8, 6, .inl (fun _ => 0)))] ∧ tys = [(c5, .int), (c6, .int), (c7, .int), (c8, .int)]
def F_X2 (h : Nat) (ws : va_W) (tys : kTy) : Prop := ∃ (a1 a2 : Nat) (c3 c4 : ClassId), ws = [(h, .inr (2, [.int 0, .ref a1, .ref a2])), (a1, .inl (c3, 6, .inl (fun _ => 0))), (a2, .inl (c4, 6, .inl (fun _ => 0)))] ∧ tys = [(c3, .int), (c4, .int)]
def F_X3 (h : Nat) (ws : va_W) (tys : kTy) : Prop := ∃ (a1 : Nat) (c2 : ClassId), ws = [(h, .inr (3, [.ref a1, .int 0, .int (-1)])), (a1, .inl (c2, 40, .inl (fun _ => 0)))] ∧ tys = [(c2, .int)]
def F_X4 (h : Nat) (ws : va_W) (tys : kTy) : Prop := ∃ (a1 : Nat) (c2 : ClassId), ws = [(h, .inr (4, [.ref a1, .int 0, .int 0, .int 0, .int 0, .int 0])), (a1, .inl (c2, 160, .inl (fun _ => 0)))] ∧ tys = [(c2, .byte)]
def F_X5 (h tp : Nat) (ws : va_W) (tys : kTy) : Prop := ∃ (a1 a2 a3 a4 a5 : Nat) (c6 c7 c8 c9 : ClassId), ws = [(h, .inr (5, [.ref a1, .int 0, .ref tp, .int 0, .int 0])), (a1, .inr (1, [.ref a2, .ref a3, .int 0, .int 0, .int 0, .ref a4, .ref a5])), (a2, .inl (c6, 6, .inl k_f0)), (a3, .inl (c7, 30, .inl (fun _ => 0))), (a4, .inl (c8, 6, .inl (fun _ => 0))), (a5, .inl (c9, 6, .inl (fun _ => 0)))] ∧ tys = [(c6, .int), (c7, .int), (c8, .int), (c9, .int)]
theorem m0_X0_init : z_m0 mX0_init 0 := ⟨cw_X0_init, in_X0, ⟨by decide +kernel, by decide +kernel, by decide +kernel⟩, by decide⟩
theorem m0_X1_init : z_m0 mX1_init 0 := ⟨cw_X1_init, in_X1, ⟨by decide +kernel, by decide +kernel, by decide +kernel⟩, by decide⟩
theorem m0_X2_init : z_m0 mX2_init 0 := ⟨cw_X2_init, in_X2, ⟨by decide +kernel, by decide +kernel, by decide +kernel⟩, by decide⟩
theorem m0_X3_init : z_m0 mX3_init 0 := ⟨cw_X3_init, in_X3, ⟨by decide +kernel, by decide +kernel, by decide +kernel⟩, by decide⟩
theorem m0_X4_init : z_m0 mX4_init 0 := ⟨cw_X4_init, in_X4, ⟨by decide +kernel, by decide +kernel, by decide +kernel⟩, by decide⟩
theorem m0_X5_init : z_m0 mX5_init 1 := ⟨cw_X5_init, in_X5, ⟨by decide +kernel, by decide +kernel, by decide +kernel⟩, by decide⟩
set_option maxHeartbeats 4000000 in
set_option maxRecDepth 100000 in
theorem K_X0 {G : zG} {h : Nat} : KC G mX0_init 1 5 30 [.ref h] [(h, .inr (0, [.null, .null, .null, .null, .null, .int 0, .int 0, .int 0, .int 0, .int 0, .int 0, .int 0, .int 0]))] (F_X0 h) := by
  refine KC.of rfl (Nat.le_of_ble_eq_true rfl) (fun X hk hG hr hin hT => ?_)
  subst hG
  show WK X mX0_init 0 [(0, .ref h)] [] [(h, .inr (0, [.null, .null, .null, .null, .null, .int 0, .int 0, .int 0, .int 0, .int 0, .int 0, .int 0, .int 0]))] [] 0 0
  refine k_aload hk 0 1 dX0_init_0 rfl rfl ?_
  refine k_oinit hk 4 dX0_init_1 oi_X0 (by rw [hr]; exact Nat.le_of_ble_eq_true rfl) (by rw [hr]; exact Nat.le_of_ble_eq_true rfl) rfl ?_
  refine k_aload hk 0 5 dX0_init_4 rfl rfl ?_
  refine k_bipush (v := 6) hk 7 dX0_init_5 (by decide +kernel) rfl ?_
  refine k_newa (N := 6) hk 9 .int dX0_init_7 rfl ac_int rfl (by decide +kernel) (by decide +kernel) (by decide) (by rw [hr]; exact Nat.le_of_ble_eq_true rfl) (by rw [hr]; exact Nat.le_of_ble_eq_true rfl) rfl (fun q1 c2 => ?_)
  show WK X mX0_init 9 [(0, .ref h)] [.ref q1, .ref h] [(h, .inr (0, [.null, .null, .null, .null, .null, .int 0, .int 0, .int 0, .int 0, .int 0, .int 0, .int 0, .int 0])), (q1, .inl (c2, 6, .inl (fun _ => 0)))] [(c2, .int)] 1 6
  refine k_putF (q0 := 0) (ty := .array .int) hk hin 12 dX0_init_9 fz_X0_9 ⟨_, rfl, rfl, rfl, by decide +kernel⟩ rfl rfl rfl (Nat.le_of_ble_eq_true rfl) rfl ?_
  show WK X mX0_init 12 [(0, .ref h)] [] [(h, .inr (0, [.ref q1, .null, .null, .null, .null, .int 0, .int 0, .int 0, .int 0, .int 0, .int 0, .int 0, .int 0])), (q1, .inl (c2, 6, .inl (fun _ => 0)))] [(c2, .int)] 1 6
  refine k_aload hk 0 13 dX0_init_12 rfl rfl ?_
  refine k_bipush (v := 6) hk 15 dX0_init_13 (by decide +kernel) rfl ?_
  refine k_newa (N := 6) hk 17 .int dX0_init_15 rfl ac_int rfl (by decide +kernel) (by decide +kernel) (by decide) (by rw [hr]; exact Nat.le_of_ble_eq_true rfl) (by rw [hr]; exact Nat.le_of_ble_eq_true rfl) rfl (fun q3 c4 => ?_)
  show WK X mX0_init 17 [(0, .ref h)] [.ref q3, .ref h] [(h, .inr (0, [.ref q1, .null, .null, .null, .null, .int 0, .int 0, .int 0, .int 0, .int 0, .int 0, .int 0, .int 0])), (q1, .inl (c2, 6, .inl (fun _ => 0))), (q3, .inl (c4, 6, .inl (fun _ => 0)))] [(c2, .int), (c4, .int)] 2 12
  refine k_putF (q0 := 0) (ty := .array .int) hk hin 20 dX0_init_17 fz_X0_15 ⟨_, rfl, rfl, rfl, by decide +kernel⟩ rfl rfl rfl (Nat.le_of_ble_eq_true rfl) rfl ?_
  show WK X mX0_init 20 [(0, .ref h)] [] [(h, .inr (0, [.ref q1, .ref q3, .null, .null, .null, .int 0, .int 0, .int 0, .int 0, .int 0, .int 0, .int 0, .int 0])), (q1, .inl (c2, 6, .inl (fun _ => 0))), (q3, .inl (c4, 6, .inl (fun _ => 0)))] [(c2, .int), (c4, .int)] 2 12
  refine k_aload hk 0 21 dX0_init_20 rfl rfl ?_
  refine k_bipush (v := 6) hk 23 dX0_init_21 (by decide +kernel) rfl ?_
  refine k_newa (N := 6) hk 25 .int dX0_init_23 rfl ac_int rfl (by decide +kernel) (by decide +kernel) (by decide) (by rw [hr]; exact Nat.le_of_ble_eq_true rfl) (by rw [hr]; exact Nat.le_of_ble_eq_true rfl) rfl (fun q5 c6 => ?_)
  show WK X mX0_init 25 [(0, .ref h)] [.ref q5, .ref h] [(h, .inr (0, [.ref q1, .ref q3, .null, .null, .null, .int 0, .int 0, .int 0, .int 0, .int 0, .int 0, .int 0, .int 0])), (q1, .inl (c2, 6, .inl (fun _ => 0))), (q3, .inl (c4, 6, .inl (fun _ => 0))), (q5, .inl (c6, 6, .inl (fun _ => 0)))] [(c2, .int), (c4, .int), (c6, .int)] 3 18
  refine k_putF (q0 := 0) (ty := .array .int) hk hin 28 dX0_init_25 fz_X0_18 ⟨_, rfl, rfl, rfl, by decide +kernel⟩ rfl rfl rfl (Nat.le_of_ble_eq_true rfl) rfl ?_
  show WK X mX0_init 28 [(0, .ref h)] [] [(h, .inr (0, [.ref q1, .ref q3, .ref q5, .null, .null, .int 0, .int 0, .int 0, .int 0, .int 0, .int 0, .int 0, .int 0])), (q1, .inl (c2, 6, .inl (fun _ => 0))), (q3, .inl (c4, 6, .inl (fun _ => 0))), (q5, .inl (c6, 6, .inl (fun _ => 0)))] [(c2, .int), (c4, .int), (c6, .int)] 3 18
  refine k_aload hk 0 29 dX0_init_28 rfl rfl ?_
  refine k_bipush (v := 6) hk 31 dX0_init_29 (by decide +kernel) rfl ?_
  refine k_newa (N := 6) hk 33 .int dX0_init_31 rfl ac_int rfl (by decide +kernel) (by decide +kernel) (by decide) (by rw [hr]; exact Nat.le_of_ble_eq_true rfl) (by rw [hr]; exact Nat.le_of_ble_eq_true rfl) rfl (fun q7 c8 => ?_)
  show WK X mX0_init 33 [(0, .ref h)] [.ref q7, .ref h] [(h, .inr (0, [.ref q1, .ref q3, .ref q5, .null, .null, .int 0, .int 0, .int 0, .int 0, .int 0, .int 0, .int 0, .int 0])), (q1, .inl (c2, 6, .inl (fun _ => 0))), (q3, .inl (c4, 6, .inl (fun _ => 0))), (q5, .inl (c6, 6, .inl (fun _ => 0))), (q7, .inl (c8, 6, .inl (fun _ => 0)))] [(c2, .int), (c4, .int), (c6, .int), (c8, .int)] 4 24
  refine k_putF (q0 := 0) (ty := .array .int) hk hin 36 dX0_init_33 fz_X0_21 ⟨_, rfl, rfl, rfl, by decide +kernel⟩ rfl rfl rfl (Nat.le_of_ble_eq_true rfl) rfl ?_
  show WK X mX0_init 36 [(0, .ref h)] [] [(h, .inr (0, [.ref q1, .ref q3, .ref q5, .ref q7, .null, .int 0, .int 0, .int 0, .int 0, .int 0, .int 0, .int 0, .int 0])), (q1, .inl (c2, 6, .inl (fun _ => 0))), (q3, .inl (c4, 6, .inl (fun _ => 0))), (q5, .inl (c6, 6, .inl (fun _ => 0))), (q7, .inl (c8, 6, .inl (fun _ => 0)))] [(c2, .int), (c4, .int), (c6, .int), (c8, .int)] 4 24
  refine k_aload hk 0 37 dX0_init_36 rfl rfl ?_
  refine k_bipush (v := 6) hk 39 dX0_init_37 (by decide +kernel) rfl ?_
  refine k_newa (N := 6) hk 41 .int dX0_init_39 rfl ac_int rfl (by decide +kernel) (by decide +kernel) (by decide) (by rw [hr]; exact Nat.le_of_ble_eq_true rfl) (by rw [hr]; exact Nat.le_of_ble_eq_true rfl) rfl (fun q9 c10 => ?_)
  show WK X mX0_init 41 [(0, .ref h)] [.ref q9, .ref h] [(h, .inr (0, [.ref q1, .ref q3, .ref q5, .ref q7, .null, .int 0, .int 0, .int 0, .int 0, .int 0, .int 0, .int 0, .int 0])), (q1, .inl (c2, 6, .inl (fun _ => 0))), (q3, .inl (c4, 6, .inl (fun _ => 0))), (q5, .inl (c6, 6, .inl (fun _ => 0))), (q7, .inl (c8, 6, .inl (fun _ => 0))), (q9, .inl (c10, 6, .inl (fun _ => 0)))] [(c2, .int), (c4, .int), (c6, .int), (c8, .int), (c10, .int)] 5 30
  refine k_putF (q0 := 0) (ty := .array .int) hk hin 44 dX0_init_41 fz_X0_24 ⟨_, rfl, rfl, rfl, by decide +kernel⟩ rfl rfl rfl (Nat.le_of_ble_eq_true rfl) rfl ?_
  show WK X mX0_init 44 [(0, .ref h)] [] [(h, .inr (0, [.ref q1, .ref q3, .ref q5, .ref q7, .ref q9, .int 0, .int 0, .int 0, .int 0, .int 0, .int 0, .int 0, .int 0])), (q1, .inl (c2, 6, .inl (fun _ => 0))), (q3, .inl (c4, 6, .inl (fun _ => 0))), (q5, .inl (c6, 6, .inl (fun _ => 0))), (q7, .inl (c8, 6, .inl (fun _ => 0))), (q9, .inl (c10, 6, .inl (fun _ => 0)))] [(c2, .int), (c4, .int), (c6, .int), (c8, .int), (c10, .int)] 5 30
  exact k_ret hk hT dX0_init_44 rfl (by decide) (by decide) ⟨q1, q3, q5, q7, q9, c2, c4, c6, c8, c10, rfl, rfl⟩
set_option maxHeartbeats 4000000 in
set_option maxRecDepth 100000 in
theorem K_X1 {G : zG} {h : Nat} : KC G mX1_init 1 4 48 [.ref h] [(h, .inr (1, [.null, .null, .int 0, .int 0, .int 0, .null, .null]))] (F_X1 h) := by
  refine KC.of rfl (Nat.le_of_ble_eq_true rfl) (fun X hk hG hr hin hT => ?_)
  subst hG
  show WK X mX1_init 0 [(0, .ref h)] [] [(h, .inr (1, [.null, .null, .int 0, .int 0, .int 0, .null, .null]))] [] 0 0
  refine k_aload hk 0 1 dX1_init_0 rfl rfl ?_
  refine k_oinit hk 4 dX1_init_1 oi_X1 (by rw [hr]; exact Nat.le_of_ble_eq_true rfl) (by rw [hr]; exact Nat.le_of_ble_eq_true rfl) rfl ?_
  refine k_aload hk 0 5 dX1_init_4 rfl rfl ?_
  refine k_gets hk 8 dX1_init_5 (by decide) rfl ?_
  refine k_clone hk 11 rfl dX1_init_8 (by rw [hr]; exact Nat.le_of_ble_eq_true rfl) (by rw [hr]; exact Nat.le_of_ble_eq_true rfl) (by rw [hr]; exact Nat.le_of_ble_eq_true rfl) (by rw [hr]; exact Nat.le_of_ble_eq_true rfl) rfl (fun q1 c2 hnc2 => ?_)
  show WK X mX1_init 11 [(0, .ref h)] [.ref q1, .ref h] [(h, .inr (1, [.null, .null, .int 0, .int 0, .int 0, .null, .null])), (q1, .inl (c2, 6, .inl k_f0))] [(c2, .int)] 1 6
  refine k_cast (q0 := 1) hk 14 dX1_init_11 cl_X1_14 rfl hnc2 rfl ?_
  refine k_putF (q0 := 0) (ty := .array .int) hk hin 17 dX1_init_14 fz_X1_18 ⟨_, rfl, rfl, rfl, by decide +kernel⟩ rfl rfl rfl (Nat.le_of_ble_eq_true rfl) rfl ?_
  show WK X mX1_init 17 [(0, .ref h)] [] [(h, .inr (1, [.ref q1, .null, .int 0, .int 0, .int 0, .null, .null])), (q1, .inl (c2, 6, .inl k_f0))] [(c2, .int)] 1 6
  refine k_aload hk 0 18 dX1_init_17 rfl rfl ?_
  refine k_bipush (v := 30) hk 20 dX1_init_18 (by decide +kernel) rfl ?_
  refine k_newa (N := 30) hk 22 .int dX1_init_20 rfl ac_int rfl (by decide +kernel) (by decide +kernel) (by decide) (by rw [hr]; exact Nat.le_of_ble_eq_true rfl) (by rw [hr]; exact Nat.le_of_ble_eq_true rfl) rfl (fun q3 c4 => ?_)
  show WK X mX1_init 22 [(0, .ref h)] [.ref q3, .ref h] [(h, .inr (1, [.ref q1, .null, .int 0, .int 0, .int 0, .null, .null])), (q1, .inl (c2, 6, .inl k_f0)), (q3, .inl (c4, 30, .inl (fun _ => 0)))] [(c2, .int), (c4, .int)] 2 36
  refine k_putF (q0 := 0) (ty := .array .int) hk hin 25 dX1_init_22 fz_X1_23 ⟨_, rfl, rfl, rfl, by decide +kernel⟩ rfl rfl rfl (Nat.le_of_ble_eq_true rfl) rfl ?_
  show WK X mX1_init 25 [(0, .ref h)] [] [(h, .inr (1, [.ref q1, .ref q3, .int 0, .int 0, .int 0, .null, .null])), (q1, .inl (c2, 6, .inl k_f0)), (q3, .inl (c4, 30, .inl (fun _ => 0)))] [(c2, .int), (c4, .int)] 2 36
  refine k_aload hk 0 26 dX1_init_25 rfl rfl ?_
  refine k_bipush (v := 6) hk 28 dX1_init_26 (by decide +kernel) rfl ?_
  refine k_newa (N := 6) hk 30 .int dX1_init_28 rfl ac_int rfl (by decide +kernel) (by decide +kernel) (by decide) (by rw [hr]; exact Nat.le_of_ble_eq_true rfl) (by rw [hr]; exact Nat.le_of_ble_eq_true rfl) rfl (fun q5 c6 => ?_)
  show WK X mX1_init 30 [(0, .ref h)] [.ref q5, .ref h] [(h, .inr (1, [.ref q1, .ref q3, .int 0, .int 0, .int 0, .null, .null])), (q1, .inl (c2, 6, .inl k_f0)), (q3, .inl (c4, 30, .inl (fun _ => 0))), (q5, .inl (c6, 6, .inl (fun _ => 0)))] [(c2, .int), (c4, .int), (c6, .int)] 3 42
  refine k_putF (q0 := 0) (ty := .array .int) hk hin 33 dX1_init_30 fz_X1_26 ⟨_, rfl, rfl, rfl, by decide +kernel⟩ rfl rfl rfl (Nat.le_of_ble_eq_true rfl) rfl ?_
  show WK X mX1_init 33 [(0, .ref h)] [] [(h, .inr (1, [.ref q1, .ref q3, .int 0, .int 0, .int 0, .ref q5, .null])), (q1, .inl (c2, 6, .inl k_f0)), (q3, .inl (c4, 30, .inl (fun _ => 0))), (q5, .inl (c6, 6, .inl (fun _ => 0)))] [(c2, .int), (c4, .int), (c6, .int)] 3 42
  refine k_aload hk 0 34 dX1_init_33 rfl rfl ?_
  refine k_bipush (v := 6) hk 36 dX1_init_34 (by decide +kernel) rfl ?_
  refine k_newa (N := 6) hk 38 .int dX1_init_36 rfl ac_int rfl (by decide +kernel) (by decide +kernel) (by decide) (by rw [hr]; exact Nat.le_of_ble_eq_true rfl) (by rw [hr]; exact Nat.le_of_ble_eq_true rfl) rfl (fun q7 c8 => ?_)
  show WK X mX1_init 38 [(0, .ref h)] [.ref q7, .ref h] [(h, .inr (1, [.ref q1, .ref q3, .int 0, .int 0, .int 0, .ref q5, .null])), (q1, .inl (c2, 6, .inl k_f0)), (q3, .inl (c4, 30, .inl (fun _ => 0))), (q5, .inl (c6, 6, .inl (fun _ => 0))), (q7, .inl (c8, 6, .inl (fun _ => 0)))] [(c2, .int), (c4, .int), (c6, .int), (c8, .int)] 4 48
  refine k_putF (q0 := 0) (ty := .array .int) hk hin 41 dX1_init_38 fz_X1_29 ⟨_, rfl, rfl, rfl, by decide +kernel⟩ rfl rfl rfl (Nat.le_of_ble_eq_true rfl) rfl ?_
  show WK X mX1_init 41 [(0, .ref h)] [] [(h, .inr (1, [.ref q1, .ref q3, .int 0, .int 0, .int 0, .ref q5, .ref q7])), (q1, .inl (c2, 6, .inl k_f0)), (q3, .inl (c4, 30, .inl (fun _ => 0))), (q5, .inl (c6, 6, .inl (fun _ => 0))), (q7, .inl (c8, 6, .inl (fun _ => 0)))] [(c2, .int), (c4, .int), (c6, .int), (c8, .int)] 4 48
  exact k_ret hk hT dX1_init_41 rfl (by decide) (by decide) ⟨q1, q3, q5, q7, c2, c4, c6, c8, rfl, rfl⟩
set_option maxHeartbeats 4000000 in
set_option maxRecDepth 100000 in
theorem K_X2 {G : zG} {h : Nat} : KC G mX2_init 1 2 12 [.ref h] [(h, .inr (2, [.int 0, .null, .null]))] (F_X2 h) := by
  refine KC.of rfl (Nat.le_of_ble_eq_true rfl) (fun X hk hG hr hin hT => ?_)
  subst hG
  show WK X mX2_init 0 [(0, .ref h)] [] [(h, .inr (2, [.int 0, .null, .null]))] [] 0 0
  refine k_aload hk 0 1 dX2_init_0 rfl rfl ?_
  refine k_oinit hk 4 dX2_init_1 oi_X2 (by rw [hr]; exact Nat.le_of_ble_eq_true rfl) (by rw [hr]; exact Nat.le_of_ble_eq_true rfl) rfl ?_
  refine k_aload hk 0 5 dX2_init_4 rfl rfl ?_
  refine k_bipush (v := 6) hk 7 dX2_init_5 (by decide +kernel) rfl ?_
  refine k_newa (N := 6) hk 9 .int dX2_init_7 rfl ac_int rfl (by decide +kernel) (by decide +kernel) (by decide) (by rw [hr]; exact Nat.le_of_ble_eq_true rfl) (by rw [hr]; exact Nat.le_of_ble_eq_true rfl) rfl (fun q1 c2 => ?_)
  show WK X mX2_init 9 [(0, .ref h)] [.ref q1, .ref h] [(h, .inr (2, [.int 0, .null, .null])), (q1, .inl (c2, 6, .inl (fun _ => 0)))] [(c2, .int)] 1 6
  refine k_putF (q0 := 0) (ty := .array .int) hk hin 12 dX2_init_9 fz_X2_9 ⟨_, rfl, rfl, rfl, by decide +kernel⟩ rfl rfl rfl (Nat.le_of_ble_eq_true rfl) rfl ?_
  show WK X mX2_init 12 [(0, .ref h)] [] [(h, .inr (2, [.int 0, .ref q1, .null])), (q1, .inl (c2, 6, .inl (fun _ => 0)))] [(c2, .int)] 1 6
  refine k_aload hk 0 13 dX2_init_12 rfl rfl ?_
  refine k_bipush (v := 6) hk 15 dX2_init_13 (by decide +kernel) rfl ?_
  refine k_newa (N := 6) hk 17 .int dX2_init_15 rfl ac_int rfl (by decide +kernel) (by decide +kernel) (by decide) (by rw [hr]; exact Nat.le_of_ble_eq_true rfl) (by rw [hr]; exact Nat.le_of_ble_eq_true rfl) rfl (fun q3 c4 => ?_)
  show WK X mX2_init 17 [(0, .ref h)] [.ref q3, .ref h] [(h, .inr (2, [.int 0, .ref q1, .null])), (q1, .inl (c2, 6, .inl (fun _ => 0))), (q3, .inl (c4, 6, .inl (fun _ => 0)))] [(c2, .int), (c4, .int)] 2 12
  refine k_putF (q0 := 0) (ty := .array .int) hk hin 20 dX2_init_17 fz_X2_15 ⟨_, rfl, rfl, rfl, by decide +kernel⟩ rfl rfl rfl (Nat.le_of_ble_eq_true rfl) rfl ?_
  show WK X mX2_init 20 [(0, .ref h)] [] [(h, .inr (2, [.int 0, .ref q1, .ref q3])), (q1, .inl (c2, 6, .inl (fun _ => 0))), (q3, .inl (c4, 6, .inl (fun _ => 0)))] [(c2, .int), (c4, .int)] 2 12
  exact k_ret hk hT dX2_init_20 rfl (by decide) (by decide) ⟨q1, q3, c2, c4, rfl, rfl⟩
set_option maxHeartbeats 4000000 in
set_option maxRecDepth 100000 in
theorem K_X3 {G : zG} {h : Nat} : KC G mX3_init 1 1 40 [.ref h] [(h, .inr (3, [.null, .int 0, .int 0]))] (F_X3 h) := by
  refine KC.of rfl (Nat.le_of_ble_eq_true rfl) (fun X hk hG hr hin hT => ?_)
  subst hG
  show WK X mX3_init 0 [(0, .ref h)] [] [(h, .inr (3, [.null, .int 0, .int 0]))] [] 0 0
  refine k_aload hk 0 1 dX3_init_0 rfl rfl ?_
  refine k_oinit hk 4 dX3_init_1 oi_X3 (by rw [hr]; exact Nat.le_of_ble_eq_true rfl) (by rw [hr]; exact Nat.le_of_ble_eq_true rfl) rfl ?_
  refine k_aload hk 0 5 dX3_init_4 rfl rfl ?_
  refine k_bipush (v := 40) hk 7 dX3_init_5 (by decide +kernel) rfl ?_
  refine k_newa (N := 40) hk 9 .int dX3_init_7 rfl ac_int rfl (by decide +kernel) (by decide +kernel) (by decide) (by rw [hr]; exact Nat.le_of_ble_eq_true rfl) (by rw [hr]; exact Nat.le_of_ble_eq_true rfl) rfl (fun q1 c2 => ?_)
  show WK X mX3_init 9 [(0, .ref h)] [.ref q1, .ref h] [(h, .inr (3, [.null, .int 0, .int 0])), (q1, .inl (c2, 40, .inl (fun _ => 0)))] [(c2, .int)] 1 40
  refine k_putF (q0 := 0) (ty := .array .int) hk hin 12 dX3_init_9 fz_X3_11 ⟨_, rfl, rfl, rfl, by decide +kernel⟩ rfl rfl rfl (Nat.le_of_ble_eq_true rfl) rfl ?_
  show WK X mX3_init 12 [(0, .ref h)] [] [(h, .inr (3, [.ref q1, .int 0, .int 0])), (q1, .inl (c2, 40, .inl (fun _ => 0)))] [(c2, .int)] 1 40
  refine k_aload hk 0 13 dX3_init_12 rfl rfl ?_
  refine k_iconst (v := -1) hk 14 dX3_init_13 (by decide +kernel) rfl ?_
  refine k_puti (q0 := 0) hk 17 dX3_init_14 fz_X3_15 fw_3_2 rfl (Nat.le_of_ble_eq_true rfl) rfl ?_
  show WK X mX3_init 17 [(0, .ref h)] [] [(h, .inr (3, [.ref q1, .int 0, .int (-1)])), (q1, .inl (c2, 40, .inl (fun _ => 0)))] [(c2, .int)] 1 40
  exact k_ret hk hT dX3_init_17 rfl (by decide) (by decide) ⟨q1, c2, rfl, rfl⟩
set_option maxHeartbeats 4000000 in
set_option maxRecDepth 100000 in
theorem K_X4 {G : zG} {h : Nat} : KC G mX4_init 1 1 160 [.ref h] [(h, .inr (4, [.null, .int 0, .int 0, .int 0, .int 0, .int 0]))] (F_X4 h) := by
  refine KC.of rfl (Nat.le_of_ble_eq_true rfl) (fun X hk hG hr hin hT => ?_)
  subst hG
  show WK X mX4_init 0 [(0, .ref h)] [] [(h, .inr (4, [.null, .int 0, .int 0, .int 0, .int 0, .int 0]))] [] 0 0
  refine k_aload hk 0 1 dX4_init_0 rfl rfl ?_
  refine k_oinit hk 4 dX4_init_1 oi_X4 (by rw [hr]; exact Nat.le_of_ble_eq_true rfl) (by rw [hr]; exact Nat.le_of_ble_eq_true rfl) rfl ?_
  refine k_aload hk 0 5 dX4_init_4 rfl rfl ?_
  refine k_sipush (v := 160) hk 8 dX4_init_5 (by decide +kernel) rfl ?_
  refine k_newa (N := 160) hk 10 .byte dX4_init_8 rfl ac_byte rfl (by decide +kernel) (by decide +kernel) (by decide) (by rw [hr]; exact Nat.le_of_ble_eq_true rfl) (by rw [hr]; exact Nat.le_of_ble_eq_true rfl) rfl (fun q1 c2 => ?_)
  show WK X mX4_init 10 [(0, .ref h)] [.ref q1, .ref h] [(h, .inr (4, [.null, .int 0, .int 0, .int 0, .int 0, .int 0])), (q1, .inl (c2, 160, .inl (fun _ => 0)))] [(c2, .byte)] 1 160
  refine k_putF (q0 := 0) (ty := .array .byte) hk hin 13 dX4_init_10 fz_X4_9 ⟨_, rfl, rfl, rfl, by decide +kernel⟩ rfl rfl rfl (Nat.le_of_ble_eq_true rfl) rfl ?_
  show WK X mX4_init 13 [(0, .ref h)] [] [(h, .inr (4, [.ref q1, .int 0, .int 0, .int 0, .int 0, .int 0])), (q1, .inl (c2, 160, .inl (fun _ => 0)))] [(c2, .byte)] 1 160
  exact k_ret hk hT dX4_init_13 rfl (by decide) (by decide) ⟨q1, c2, rfl, rfl⟩
set_option maxHeartbeats 4000000 in
set_option maxRecDepth 100000 in
theorem K_X5 {G : zG} {h tp : Nat} : KC G mX5_init 2 5 55 [.ref h, .ref tp] [(h, .inr (5, [.null, .int 0, .null, .int 0, .int 0]))] (F_X5 h tp) := by
  refine KC.of rfl (Nat.le_of_ble_eq_true rfl) (fun X hk hG hr hin hT => ?_)
  subst hG
  show WK X mX5_init 0 [(0, .ref h), (1, .ref tp)] [] [(h, .inr (5, [.null, .int 0, .null, .int 0, .int 0]))] [] 0 0
  refine k_aload hk 0 1 dX5_init_0 rfl rfl ?_
  refine k_oinit hk 4 dX5_init_1 oi_X5 (by rw [hr]; exact Nat.le_of_ble_eq_true rfl) (by rw [hr]; exact Nat.le_of_ble_eq_true rfl) rfl ?_
  refine k_aload hk 0 5 dX5_init_4 rfl rfl ?_
  refine k_aload hk 1 6 dX5_init_5 rfl rfl ?_
  refine k_putF (q0 := 0) (ty := .object "LockTurns$Tape") hk hin 9 dX5_init_6 fz_X5_9 ⟨_, rfl, rfl, rfl, by decide +kernel⟩ rfl rfl rfl (Nat.le_of_ble_eq_true rfl) rfl ?_
  show WK X mX5_init 9 [(0, .ref h), (1, .ref tp)] [] [(h, .inr (5, [.null, .int 0, .ref tp, .int 0, .int 0]))] [] 0 0
  refine k_aload hk 0 10 dX5_init_9 rfl rfl ?_
  refine k_new (ci := 1) (q := (RX1, TX1, 7)) (fs := [.null, .null, .int 0, .int 0, .int 0, .null, .null]) hk 13 tyX1 tyX1_ok dX5_init_10 rfl cl_X5_15 ins_X1 in_X1 (by decide +kernel) (by rw [hr]; exact Nat.le_of_ble_eq_true rfl) (by rw [hr]; exact Nat.le_of_ble_eq_true rfl) rfl (fun q1 => ?_)
  show WK X mX5_init 13 [(0, .ref h), (1, .ref tp)] [.ref q1, .ref h] [(h, .inr (5, [.null, .int 0, .ref tp, .int 0, .int 0])), (q1, .inr (1, [.null, .null, .int 0, .int 0, .int 0, .null, .null]))] [] 1 7
  refine k_dup hk 14 dX5_init_13 rfl rfl ?_
  refine k_call (y2 := mX1_init) (as := []) (wc := [(q1, .inr (1, [.null, .null, .int 0, .int 0, .int 0, .null, .null]))]) (wr := [(h, .inr (5, [.null, .int 0, .ref tp, .int 0, .int 0]))]) (rest := [.ref q1, .ref h]) (F := F_X1 q1) hk 17 [1] [0] dX5_init_14 ml_X5_17 m0_X1_init im_X1_init rfl rfl rfl K_X1 (by rw [hr]; exact Nat.le_of_ble_eq_true rfl) (by rw [hr]; exact Nat.le_of_ble_eq_true rfl) rfl rfl rfl rfl (by decide) (by decide) rfl (Nat.le_of_ble_eq_true rfl) (by rw [hr]; exact Nat.le_of_ble_eq_true rfl) (by rw [hr]; exact Nat.le_of_ble_eq_true rfl) rfl ?_
  rintro _ _ ⟨a2, a3, a4, a5, c6, c7, c8, c9, rfl, rfl⟩
  show WK X mX5_init 17 [(0, .ref h), (1, .ref tp)] [.ref q1, .ref h] [(h, .inr (5, [.null, .int 0, .ref tp, .int 0, .int 0])), (q1, .inr (1, [.ref a2, .ref a3, .int 0, .int 0, .int 0, .ref a4, .ref a5])), (a2, .inl (c6, 6, .inl k_f0)), (a3, .inl (c7, 30, .inl (fun _ => 0))), (a4, .inl (c8, 6, .inl (fun _ => 0))), (a5, .inl (c9, 6, .inl (fun _ => 0)))] [(c6, .int), (c7, .int), (c8, .int), (c9, .int)] 5 55
  refine k_putF (q0 := 0) (ty := .object "LockTurns$Lock") hk hin 20 dX5_init_17 fz_X5_18 ⟨_, rfl, rfl, rfl, by decide +kernel⟩ rfl rfl rfl (Nat.le_of_ble_eq_true rfl) rfl ?_
  show WK X mX5_init 20 [(0, .ref h), (1, .ref tp)] [] [(h, .inr (5, [.ref q1, .int 0, .ref tp, .int 0, .int 0])), (q1, .inr (1, [.ref a2, .ref a3, .int 0, .int 0, .int 0, .ref a4, .ref a5])), (a2, .inl (c6, 6, .inl k_f0)), (a3, .inl (c7, 30, .inl (fun _ => 0))), (a4, .inl (c8, 6, .inl (fun _ => 0))), (a5, .inl (c9, 6, .inl (fun _ => 0)))] [(c6, .int), (c7, .int), (c8, .int), (c9, .int)] 5 55
  exact k_ret hk hT dX5_init_20 rfl (by decide) (by decide) ⟨q1, a2, a3, a4, a5, c6, c7, c8, c9, rfl, rfl⟩

/-! ===== the class: its tape ===== -/
/-- the tape holds t, of length T -/
def tpW (w : zW) (T : Nat) (t : Nat → Nat) : Prop := w 27 1 = nI T ∧ T ≤ 160 ∧ ∀ i, i < T → w 28 i = nI (t i) ∧ t i < 128
/-- the latest token -/
def tkW (w : zW) (k : tkT) : Prop := w 27 2 = nI (tk_a k) ∧ w 27 3 = nI (tk_k k) ∧ w 27 4 = nI (tk_s k) ∧ w 27 5 = nI (tk_n k)
def frT (w w' : zW) : Prop := (∀ q, q < 2 ∨ 5 < q → w' 27 q = w 27 q) ∧ ∀ a, a ≠ 27 → w' a = w a
theorem frT.rfl {w : zW} : frT w w := ⟨fun _ _ => Eq.refl _, fun _ _ => Eq.refl _⟩
theorem frT.trans {w w' w'' : zW} (h : frT w w') (h' : frT w' w'') : frT w w'' := ⟨fun q hq => (h'.1 q hq).trans (h.1 q hq), fun a ha => (h'.2 a ha).trans (h.2 a ha)⟩
theorem frT.up {w w' : zW} {q : Nat} {v : Int32} (h : frT w w') (h1 : 2 ≤ q ∧ q ≤ 5) : frT w (z_up w' 27 q v) := ⟨fun j hj => by rw [z_up_i (by omega)]; exact h.1 j hj, fun a ha => by rw [z_up_o ha]; exact h.2 a ha⟩
theorem tpW.fr {w w' : zW} {T : Nat} {t : Nat → Nat} (h : tpW w T t) (f : frT w w') : tpW w' T t := ⟨by rw [f.1 1 (by omega)]; exact h.1, h.2.1, fun i hi => by rw [f.2 28 (by decide)]; exact h.2.2 i hi⟩
theorem kd_lt (c : Nat) : kd c ≤ 4 := by unfold kd; (repeat' split) <;> omega
theorem kdR {c : Nat} {w : zW} (k : Nat) (h : kd c = k) : nI (kd c) = nI k ∧ w = w := ⟨by rw [h], rfl⟩
set_option maxRecDepth 20000 in
set_option maxHeartbeats 4000000 in
theorem c_kindOf {d c : Nat} {w : zW} (hc : c < 128) : CT mX4_kindOf d [.int (nI c)] w (z_i fun x w' => nI (kd c) = x ∧ w = w') := by
  refine CT.of [some (.int (nI c))] rfl (Nat.le_of_ble_eq_true rfl) rfl ?_
  refine r_iload_n 1 dX4_kindOf_0 rfl rfl ?_
  refine r_bipush 3 (v := 97) dX4_kindOf_1 (by decide) rfl ?_
  refine r_icmp_lt 14 6 dX4_kindOf_3 (by decide) rfl (fun g3 => ?_) (fun g3 => ?_)
  · have g3 : c < 97 := (nI_lt' (b := 97) (by omega) (by decide)).mp g3
    refine r_iload_n 15 dX4_kindOf_14 rfl rfl ?_
    refine r_bipush 17 (v := 48) dX4_kindOf_15 (by decide) rfl ?_
    refine r_icmp_lt 28 20 dX4_kindOf_17 (by decide) rfl (fun g17 => ?_) (fun g17 => ?_)
    · have g17 : c < 48 := (nI_lt' (b := 48) (by omega) (by decide)).mp g17
      refine r_iload_n 29 dX4_kindOf_28 rfl rfl ?_
      refine r_bipush 31 (v := 59) dX4_kindOf_29 (by decide) rfl ?_
      refine r_icmp_ne 38 34 dX4_kindOf_31 (by decide) rfl (fun g31 => ?_) (fun g31 => ?_)
      · have g31 : ¬ c = 59 := fun z => g31 (by rw [z]; rfl)
        refine r_iconst 39 (v := 4) dX4_kindOf_38 (by decide) rfl ?_
        exact r_iret .int dX4_kindOf_39 rfl (rfl) (by first | exact kdR 2 (by unfold kd; (repeat' split) <;> omega) | exact kdR 4 (by unfold kd; (repeat' split) <;> omega))
      · have g31 : c = 59 := (nI_inj (b := 59) (by omega) (by decide)).mp g31
        refine r_iconst 35 (v := 2) dX4_kindOf_34 (by decide) rfl ?_
        refine r_goto 39 dX4_kindOf_35 (by decide) ?_
        exact r_iret .int dX4_kindOf_39 rfl (rfl) (by first | exact kdR 2 (by unfold kd; (repeat' split) <;> omega) | exact kdR 4 (by unfold kd; (repeat' split) <;> omega))
    · have g17 : ¬ c < 48 := fun z => g17 ((nI_lt' (b := 48) (by omega) (by decide)).mpr z)
      refine r_iload_n 21 dX4_kindOf_20 rfl rfl ?_
      refine r_bipush 23 (v := 57) dX4_kindOf_21 (by decide) rfl ?_
      refine r_icmp_gt 28 26 dX4_kindOf_23 (by decide) rfl (fun g23 => ?_) (fun g23 => ?_)
      · have g23 : 57 < c := (nI_lt' (a := 57) (by decide) (by omega)).mp g23
        refine r_iload_n 29 dX4_kindOf_28 rfl rfl ?_
        refine r_bipush 31 (v := 59) dX4_kindOf_29 (by decide) rfl ?_
        refine r_icmp_ne 38 34 dX4_kindOf_31 (by decide) rfl (fun g31 => ?_) (fun g31 => ?_)
        · have g31 : ¬ c = 59 := fun z => g31 (by rw [z]; rfl)
          refine r_iconst 39 (v := 4) dX4_kindOf_38 (by decide) rfl ?_
          exact r_iret .int dX4_kindOf_39 rfl (rfl) (by first | exact kdR 2 (by unfold kd; (repeat' split) <;> omega) | exact kdR 4 (by unfold kd; (repeat' split) <;> omega))
        · have g31 : c = 59 := (nI_inj (b := 59) (by omega) (by decide)).mp g31
          refine r_iconst 35 (v := 2) dX4_kindOf_34 (by decide) rfl ?_
          refine r_goto 39 dX4_kindOf_35 (by decide) ?_
          exact r_iret .int dX4_kindOf_39 rfl (rfl) (by first | exact kdR 2 (by unfold kd; (repeat' split) <;> omega) | exact kdR 4 (by unfold kd; (repeat' split) <;> omega))
      · have g23 : ¬ 57 < c := fun z => g23 ((nI_lt' (a := 57) (by decide) (by omega)).mpr z)
        refine r_iconst 27 (v := 1) dX4_kindOf_26 (by decide) rfl ?_
        exact r_iret .int dX4_kindOf_27 rfl (rfl) (kdR 1 (by unfold kd; (repeat' split) <;> omega))
  · have g3 : ¬ c < 97 := fun z => g3 ((nI_lt' (b := 97) (by omega) (by decide)).mpr z)
    refine r_iload_n 7 dX4_kindOf_6 rfl rfl ?_
    refine r_bipush 9 (v := 122) dX4_kindOf_7 (by decide) rfl ?_
    refine r_icmp_gt 14 12 dX4_kindOf_9 (by decide) rfl (fun g9 => ?_) (fun g9 => ?_)
    · have g9 : 122 < c := (nI_lt' (a := 122) (by decide) (by omega)).mp g9
      refine r_iload_n 15 dX4_kindOf_14 rfl rfl ?_
      refine r_bipush 17 (v := 48) dX4_kindOf_15 (by decide) rfl ?_
      refine r_icmp_lt 28 20 dX4_kindOf_17 (by decide) rfl (fun g17 => ?_) (fun g17 => ?_)
      · have g17 : c < 48 := (nI_lt' (b := 48) (by omega) (by decide)).mp g17
        refine r_iload_n 29 dX4_kindOf_28 rfl rfl ?_
        refine r_bipush 31 (v := 59) dX4_kindOf_29 (by decide) rfl ?_
        refine r_icmp_ne 38 34 dX4_kindOf_31 (by decide) rfl (fun g31 => ?_) (fun g31 => ?_)
        · have g31 : ¬ c = 59 := fun z => g31 (by rw [z]; rfl)
          refine r_iconst 39 (v := 4) dX4_kindOf_38 (by decide) rfl ?_
          exact r_iret .int dX4_kindOf_39 rfl (rfl) (by first | exact kdR 2 (by unfold kd; (repeat' split) <;> omega) | exact kdR 4 (by unfold kd; (repeat' split) <;> omega))
        · have g31 : c = 59 := (nI_inj (b := 59) (by omega) (by decide)).mp g31
          refine r_iconst 35 (v := 2) dX4_kindOf_34 (by decide) rfl ?_
          refine r_goto 39 dX4_kindOf_35 (by decide) ?_
          exact r_iret .int dX4_kindOf_39 rfl (rfl) (by first | exact kdR 2 (by unfold kd; (repeat' split) <;> omega) | exact kdR 4 (by unfold kd; (repeat' split) <;> omega))
      · have g17 : ¬ c < 48 := fun z => g17 ((nI_lt' (b := 48) (by omega) (by decide)).mpr z)
        refine r_iload_n 21 dX4_kindOf_20 rfl rfl ?_
        refine r_bipush 23 (v := 57) dX4_kindOf_21 (by decide) rfl ?_
        refine r_icmp_gt 28 26 dX4_kindOf_23 (by decide) rfl (fun g23 => ?_) (fun g23 => ?_)
        · have g23 : 57 < c := (nI_lt' (a := 57) (by decide) (by omega)).mp g23
          refine r_iload_n 29 dX4_kindOf_28 rfl rfl ?_
          refine r_bipush 31 (v := 59) dX4_kindOf_29 (by decide) rfl ?_
          refine r_icmp_ne 38 34 dX4_kindOf_31 (by decide) rfl (fun g31 => ?_) (fun g31 => ?_)
          · have g31 : ¬ c = 59 := fun z => g31 (by rw [z]; rfl)
            refine r_iconst 39 (v := 4) dX4_kindOf_38 (by decide) rfl ?_
            exact r_iret .int dX4_kindOf_39 rfl (rfl) (by first | exact kdR 2 (by unfold kd; (repeat' split) <;> omega) | exact kdR 4 (by unfold kd; (repeat' split) <;> omega))
          · have g31 : c = 59 := (nI_inj (b := 59) (by omega) (by decide)).mp g31
            refine r_iconst 35 (v := 2) dX4_kindOf_34 (by decide) rfl ?_
            refine r_goto 39 dX4_kindOf_35 (by decide) ?_
            exact r_iret .int dX4_kindOf_39 rfl (rfl) (by first | exact kdR 2 (by unfold kd; (repeat' split) <;> omega) | exact kdR 4 (by unfold kd; (repeat' split) <;> omega))
        · have g23 : ¬ 57 < c := fun z => g23 ((nI_lt' (a := 57) (by decide) (by omega)).mpr z)
          refine r_iconst 27 (v := 1) dX4_kindOf_26 (by decide) rfl ?_
          exact r_iret .int dX4_kindOf_27 rfl (rfl) (kdR 1 (by unfold kd; (repeat' split) <;> omega))
    · have g9 : ¬ 122 < c := fun z => g9 ((nI_lt' (a := 122) (by decide) (by omega)).mpr z)
      refine r_iconst 13 (v := 0) dX4_kindOf_12 (by decide) rfl ?_
      exact r_iret .int dX4_kindOf_13 rfl (rfl) (kdR 0 (by unfold kd; (repeat' split) <;> omega))
def vv (t : Nat → Nat) (s : Nat) : Nat → Nat
  | 0 => 0
  | m + 1 => vv t s m * 10 + (t (s + m) - 48)
theorem vv_tk {t : Nat → Nat} {s a : Nat} (h : s < a) (h2 : a - s ≤ 2) : vv t s (a - s) = tk_v t s a := by
  rcases (by omega : a - s = 1 ∨ a - s = 2) with e | e
  · rw [tk_v, e, if_pos rfl, vv, vv, Nat.zero_mul, Nat.zero_add, Nat.add_zero]
  · rw [tk_v, e, if_neg (by decide), vv, vv, vv, Nat.zero_mul, Nat.zero_add, Nat.add_zero]
set_option maxRecDepth 20000 in
set_option maxHeartbeats 4000000 in
theorem l_val {d T a s : Nat} {t : Nat → Nat} {w0 : zW} {X : zX → Prop} (hT : tpW w0 T t) (ha : a ≤ T) (hs : s < a) (hdg : ∀ j, s ≤ j → j < a → 48 ≤ t j ∧ t j ≤ 57) (h2 : w0 27 2 = nI a) (hx : ∀ w, w 27 5 = nI (vv t s (a - s)) → (∀ q, q ≠ 5 → w 27 q = w0 27 q) → (∀ b, b ≠ 27 → w b = w0 b) → WP mX4_valueNumber d X 59 [some (.ref 27), some (.int (nI a))] [] w) : ∀ k m (w : zW), s + m + k = a → w 27 5 = nI (vv t s m) → (∀ q, q ≠ 5 → w 27 q = w0 27 q) → (∀ b, b ≠ 27 → w b = w0 b) → WP mX4_valueNumber d X 24 [some (.ref 27), some (.int (nI (s + m)))] [] w := by
  have hT0 := hT.2.1
  intro k
  induction k with
  | zero =>
    intro m w hm h5 hq hb
    have e : s + m = a := by omega
    rw [e]
    have e2 : m = a - s := by omega
    rw [e2] at h5
    refine r_iload_n 25 dX4_valueNumber_24 rfl rfl ?_
    refine r_aload_n 26 dX4_valueNumber_25 rfl rfl ?_
    refine r_geti 29 dX4_valueNumber_26 fz_X4_17 sh_27 rfl rfl ?_
    refine r_eq (z := nI a) (by rw [hq 2 (by decide)]; exact h2) ?_
    refine r_icmp_ge 59 32 dX4_valueNumber_29 (by decide) rfl (fun _ => ?_) (fun z => absurd (Int32.le_refl _) z)
    exact hx w h5 hq hb
  | succ k ih =>
    intro m w hm h5 hq hb
    have h48 := hdg (s + m) (by omega) (by omega)
    refine r_iload_n 25 dX4_valueNumber_24 rfl rfl ?_
    refine r_aload_n 26 dX4_valueNumber_25 rfl rfl ?_
    refine r_geti 29 dX4_valueNumber_26 fz_X4_17 sh_27 rfl rfl ?_
    refine r_eq (z := nI a) (by rw [hq 2 (by decide)]; exact h2) ?_
    refine r_icmp_ge 59 32 dX4_valueNumber_29 (by decide) rfl (fun z => absurd z (fun z => absurd ((nI_le' (by omega) (by omega)).mp z) (by omega))) (fun _ => ?_)
    refine r_aload_n 33 dX4_valueNumber_32 rfl rfl ?_
    refine r_aload_n 34 dX4_valueNumber_33 rfl rfl ?_
    refine r_geti 37 dX4_valueNumber_34 fz_X4_23 sh_27 rfl rfl ?_
    refine r_eq h5 ?_
    refine r_bipush 39 (v := 10) dX4_valueNumber_37 (by decide) rfl ?_
    refine r_imul 40 dX4_valueNumber_39 rfl ?_
    refine r_eq (z := nI (vv t s m * 10)) (nI_mul _ 10) ?_
    refine r_aload_n 41 dX4_valueNumber_40 rfl rfl ?_
    refine r_getr 44 dX4_valueNumber_41 fz_X4_9 sh_27 rfl rfl ?_
    refine r_iload_n 45 dX4_valueNumber_44 rfl rfl ?_
    refine rj_bald 46 (s + m) dX4_valueNumber_45 sh_28 (rfl) (by omega) (by decide) rfl ?_
    refine r_eq (z := nI (t (s + m))) (by rw [hb 28 (by decide)]; exact (hT.2.2 (s + m) (by omega)).1) ?_
    refine r_iadd 47 dX4_valueNumber_46 rfl ?_
    refine r_eq (nI_add _ _) ?_
    refine r_bipush 49 (v := 48) dX4_valueNumber_47 (by decide) rfl ?_
    refine r_isub 50 dX4_valueNumber_49 rfl ?_
    refine r_eq (z := nI (vv t s (m + 1))) ((nI_sub (b := 48) (by omega)).trans (by rw [vv]; congr 1; omega)) ?_
    refine r_puti 53 dX4_valueNumber_50 fz_X4_23 fw_4_5 sh_27 rfl rfl ?_
    refine r_iinc 56 (L' := [_, _]) (v := nI (s + (m + 1))) dX4_valueNumber_53 rfl (nI_1 (s + m)) (by decide) rfl rfl rfl ?_
    refine r_goto 24 dX4_valueNumber_56 (by decide) ?_
    exact ih (m + 1) _ (by omega) z_up_s (fun q h => by rw [z_up_i h]; exact hq q h) (fun b h => by rw [z_up_o h]; exact hb b h)
set_option maxRecDepth 20000 in
set_option maxHeartbeats 4000000 in
theorem c_valueNumber {d T a s : Nat} {t : Nat → Nat} {w : zW} (hT : tpW w T t) (ha : a ≤ T) (hs : s < a) (hdg : ∀ j, s ≤ j → j < a → 48 ≤ t j ∧ t j ≤ 57) (h2 : w 27 2 = nI a) (h4 : w 27 4 = nI s) (h5 : w 27 5 = 0) : CT mX4_valueNumber d [.ref 27] w (z_v fun w' => (2 < a - s → z_up w 27 3 4 = w') ∧ (¬ 2 < a - s → w' 27 5 = nI (tk_v t s a) ∧ (∀ q, q ≠ 5 → w' 27 q = w 27 q) ∧ ∀ b, b ≠ 27 → w' b = w b)) := by
  have hT0 := hT.2.1
  refine CT.of [some (.ref 27), none] rfl (Nat.le_of_ble_eq_true rfl) rfl ?_
  refine r_aload_n 1 dX4_valueNumber_0 rfl rfl ?_
  refine r_geti 4 dX4_valueNumber_1 fz_X4_17 sh_27 rfl rfl ?_
  refine r_eq h2 ?_
  refine r_aload_n 5 dX4_valueNumber_4 rfl rfl ?_
  refine r_geti 8 dX4_valueNumber_5 fz_X4_20 sh_27 rfl rfl ?_
  refine r_eq h4 ?_
  refine r_isub 9 dX4_valueNumber_8 rfl ?_
  refine r_eq (nI_sub (by omega)) ?_
  refine r_iconst 10 (v := 2) dX4_valueNumber_9 (by decide) rfl ?_
  refine r_icmp_le 19 13 dX4_valueNumber_10 (by decide) rfl (fun g10 => ?_) (fun g10 => ?_)
  · have g10 : a - s ≤ 2 := (nI_le' (b := 2) (by omega) (by decide)).mp g10
    refine r_aload_n 20 dX4_valueNumber_19 rfl rfl ?_
    refine r_geti 23 dX4_valueNumber_20 fz_X4_20 sh_27 rfl rfl ?_
    refine r_eq h4 ?_
    refine r_istore_n 24 (L' := [_, _]) dX4_valueNumber_23 (by decide) rfl rfl rfl ?_
    refine l_val (w0 := w) hT ha hs hdg h2 (fun w1 q5 qq qb => ?_) (a - s) 0 w (by omega) h5 (fun _ _ => rfl) (fun _ _ => rfl)
    exact r_vret dX4_valueNumber_59 rfl (⟨fun z => absurd z (by omega), fun _ => ⟨by rw [q5, vv_tk hs g10], qq, qb⟩⟩)
  · have g10 : ¬ a - s ≤ 2 := fun z => g10 ((nI_le' (b := 2) (by omega) (by decide)).mpr z)
    refine r_aload_n 14 dX4_valueNumber_13 rfl rfl ?_
    refine r_iconst 15 (v := 4) dX4_valueNumber_14 (by decide) rfl ?_
    refine r_puti 18 dX4_valueNumber_15 fz_X4_30 fw_4_3 sh_27 rfl rfl ?_
    exact r_vret dX4_valueNumber_18 rfl (⟨fun _ => rfl, fun z => absurd (by omega) z⟩)
set_option maxRecDepth 20000 in
set_option maxHeartbeats 4000000 in
theorem l_nx1 {d T p0 : Nat} {t : Nat → Nat} {w0 : zW} {X : zX → Prop} (hT : tpW w0 T t) (hx : ∀ w, w 27 2 = nI (tk_st T t p0) → frT w0 w → WP mX4_next d X 38 [some (.ref 27)] [] w) : ∀ k p (w : zW), p + k = T → tk_st T t p = tk_st T t p0 → w 27 2 = nI p → frT w0 w → WP mX4_next d X 0 [some (.ref 27)] [] w := by
  have hT0 := hT.2.1
  intro k
  induction k with
  | zero =>
    intro p w hp he h2 hf
    have hT1 := hT.fr hf
    have e : tk_st T t p = p := wh_st (by decide) (fun z => by have := spP_lt z; omega)
    refine r_aload_n 1 dX4_next_0 rfl rfl ?_
    refine r_geti 4 dX4_next_1 fz_X4_17 sh_27 rfl rfl ?_
    refine r_eq h2 ?_
    refine r_aload_n 5 dX4_next_4 rfl rfl ?_
    refine r_geti 8 dX4_next_5 fz_X4_13 sh_27 rfl rfl ?_
    refine r_eq hT1.1 ?_
    refine r_icmp_ge 38 11 dX4_next_8 (by decide) rfl (fun _ => ?_) (fun z => absurd ((nI_le' (by omega) (by omega)).mpr (by omega)) z)
    exact hx w (by rw [← he, e]; exact h2) hf
  | succ k ih =>
    intro p w hp he h2 hf
    have hT1 := hT.fr hf
    have hb := hT1.2.2 p (by omega)
    refine r_aload_n 1 dX4_next_0 rfl rfl ?_
    refine r_geti 4 dX4_next_1 fz_X4_17 sh_27 rfl rfl ?_
    refine r_eq h2 ?_
    refine r_aload_n 5 dX4_next_4 rfl rfl ?_
    refine r_geti 8 dX4_next_5 fz_X4_13 sh_27 rfl rfl ?_
    refine r_eq hT1.1 ?_
    refine r_icmp_ge 38 11 dX4_next_8 (by decide) rfl (fun z => absurd z (fun z => absurd ((nI_le' (by omega) (by omega)).mp z) (by omega))) (fun _ => ?_)
    refine r_aload_n 12 dX4_next_11 rfl rfl ?_
    refine r_getr 15 dX4_next_12 fz_X4_9 sh_27 rfl rfl ?_
    refine r_aload_n 16 dX4_next_15 rfl rfl ?_
    refine r_geti 19 dX4_next_16 fz_X4_17 sh_27 rfl rfl ?_
    refine r_eq h2 ?_
    refine rj_bald 20 (p) dX4_next_19 sh_28 (rfl) (by omega) (by decide) rfl ?_
    refine r_eq hb.1 ?_
    refine r_bipush 22 (v := 32) dX4_next_20 (by decide) rfl ?_
    refine r_icmp_ne 38 25 dX4_next_22 (by decide) rfl (fun g22 => ?_) (fun g22 => ?_)
    · have g22 : ¬ t p = 32 := fun z => g22 (by rw [z]; rfl)
      have e : tk_st T t p = p := wh_st (by decide) (fun z => by simp [spP] at z; exact g22 z.2)
      exact hx w (by rw [← he, e]; exact h2) hf
    · have g22 : t p = 32 := (nI_inj (b := 32) (by omega) (by decide)).mp g22
      have e : tk_st T t p = tk_st T t (p + 1) := wh_go (fun q hq => by have := spP_lt hq; omega) (by decide) (by simp [spP, g22]; omega)
      refine r_aload_n 26 dX4_next_25 rfl rfl ?_
      refine r_dup 27 dX4_next_26 rfl rfl ?_
      refine r_geti 30 dX4_next_27 fz_X4_17 sh_27 rfl rfl ?_
      refine r_eq h2 ?_
      refine r_iconst 31 (v := 1) dX4_next_30 (by decide) rfl ?_
      refine r_iadd 32 dX4_next_31 rfl ?_
      refine r_eq (nI_1 p) ?_
      refine r_puti 35 dX4_next_32 fz_X4_17 fw_4_2 sh_27 rfl rfl ?_
      refine r_goto 0 dX4_next_35 (by decide) ?_
      exact ih (p + 1) _ (by omega) (by rw [← e]; exact he) z_up_s (hf.up (by decide))
set_option maxRecDepth 20000 in
set_option maxHeartbeats 4000000 in
theorem l_nx2 {d T p0 c : Nat} {t : Nat → Nat} {w0 : zW} {X : zX → Prop} (hd : 1 ≤ d) (hT : tpW w0 T t) (hc : c ≤ 4) (hk : w0 27 3 = nI c) (hx : ∀ w, w 27 2 = nI (wh (kdP T t c) 161 p0) → (∀ q, q ≠ 2 → w 27 q = w0 27 q) → (∀ a, a ≠ 27 → w a = w0 a) → WP mX4_next d X 158 [some (.ref 27)] [] w) : ∀ k p (w : zW), p + k = T → wh (kdP T t c) 161 p = wh (kdP T t c) 161 p0 → w 27 2 = nI p → (∀ q, q ≠ 2 → w 27 q = w0 27 q) → (∀ a, a ≠ 27 → w a = w0 a) → WP mX4_next d X 115 [some (.ref 27)] [] w := by
  have hT0 := hT.2.1
  intro k
  induction k with
  | zero =>
    intro p w hp he h2 hq ha
    have e : wh (kdP T t c) 161 p = p := wh_st (by decide) (fun z => by have := kdP_lt z; omega)
    refine r_aload_n 116 dX4_next_115 rfl rfl ?_
    refine r_geti 119 dX4_next_116 fz_X4_17 sh_27 rfl rfl ?_
    refine r_eq h2 ?_
    refine r_aload_n 120 dX4_next_119 rfl rfl ?_
    refine r_geti 123 dX4_next_120 fz_X4_13 sh_27 rfl rfl ?_
    refine r_eq (z := nI T) (by rw [hq 1 (by decide)]; exact hT.1) ?_
    refine r_icmp_ge 158 126 dX4_next_123 (by decide) rfl (fun _ => ?_) (fun z => absurd ((nI_le' (by omega) (by omega)).mpr (by omega)) z)
    exact hx w (by rw [← he, e]; exact h2) hq ha
  | succ k ih =>
    intro p w hp he h2 hq ha
    have hb := hT.2.2 p (by omega)
    have hk4 := kd_lt (t p)
    refine r_aload_n 116 dX4_next_115 rfl rfl ?_
    refine r_geti 119 dX4_next_116 fz_X4_17 sh_27 rfl rfl ?_
    refine r_eq h2 ?_
    refine r_aload_n 120 dX4_next_119 rfl rfl ?_
    refine r_geti 123 dX4_next_120 fz_X4_13 sh_27 rfl rfl ?_
    refine r_eq (z := nI T) (by rw [hq 1 (by decide)]; exact hT.1) ?_
    refine r_icmp_ge 158 126 dX4_next_123 (by decide) rfl (fun z => absurd z (fun z => absurd ((nI_le' (by omega) (by omega)).mp z) (by omega))) (fun _ => ?_)
    refine r_aload_n 127 dX4_next_126 rfl rfl ?_
    refine r_getr 130 dX4_next_127 fz_X4_9 sh_27 rfl rfl ?_
    refine r_aload_n 131 dX4_next_130 rfl rfl ?_
    refine r_geti 134 dX4_next_131 fz_X4_17 sh_27 rfl rfl ?_
    refine r_eq h2 ?_
    refine rj_bald 135 (p) dX4_next_134 sh_28 (rfl) (by omega) (by decide) rfl ?_
    refine r_eq (z := nI (t p)) (by rw [ha 28 (by decide)]; exact hb.1) ?_
    refine r_callS (y2 := mX4_kindOf) (as := [_]) 138 dX4_next_135 ml_X4_26 ms_X4_kindOf (c_kindOf (d := d - 1) hb.2) (by omega) rfl (Nat.le_of_ble_eq_true rfl) rfl (kk_i ?_)
    rintro _ _ ⟨rfl, rfl⟩
    refine r_aload_n 139 dX4_next_138 rfl rfl ?_
    refine r_geti 142 dX4_next_139 fz_X4_30 sh_27 rfl rfl ?_
    refine r_eq (z := nI c) (by rw [hq 3 (by decide)]; exact hk) ?_
    refine r_icmp_ne 158 145 dX4_next_142 (by decide) rfl (fun g142 => ?_) (fun g142 => ?_)
    · have g142 : ¬ kd (t p) = c := fun z => g142 (by rw [z])
      have e : wh (kdP T t c) 161 p = p := wh_st (by decide) (fun z => by simp [kdP] at z; exact g142 z.2)
      exact hx w (by rw [← he, e]; exact h2) hq ha
    · have g142 : kd (t p) = c := (nI_inj (by omega) (by omega)).mp g142
      have e : wh (kdP T t c) 161 p = wh (kdP T t c) 161 (p + 1) := wh_go (fun q hq => by have := kdP_lt hq; omega) (by decide) (by simp [kdP, g142]; omega)
      refine r_aload_n 146 dX4_next_145 rfl rfl ?_
      refine r_dup 147 dX4_next_146 rfl rfl ?_
      refine r_geti 150 dX4_next_147 fz_X4_17 sh_27 rfl rfl ?_
      refine r_eq h2 ?_
      refine r_iconst 151 (v := 1) dX4_next_150 (by decide) rfl ?_
      refine r_iadd 152 dX4_next_151 rfl ?_
      refine r_eq (nI_1 p) ?_
      refine r_puti 155 dX4_next_152 fz_X4_17 fw_4_2 sh_27 rfl rfl ?_
      refine r_goto 115 dX4_next_155 (by decide) ?_
      exact ih (p + 1) _ (by omega) (by rw [← e]; exact he) z_up_s (fun q h => by rw [z_up_i h]; exact hq q h) (fun a h => by rw [z_up_o h]; exact ha a h)
theorem tkW_c {T s : Nat} {t : Nat → Nat} {w : zW} (h : s < T) (hk : kd (t s) ≠ 1) (h2 : w 27 2 = nI (tk_at T t s)) (h3 : w 27 3 = nI (kd (t s))) (h4 : w 27 4 = nI s) (h5 : w 27 5 = 0) : tkW w (tkS T t s) := by
  unfold tkS
  rw [if_neg (by omega), if_neg hk]
  exact ⟨h2, h3, h4, h5⟩
theorem tk_at_c {T s : Nat} {t : Nat → Nat} (h : ¬ (kd (t s) = 0 ∨ kd (t s) = 1)) : tk_at T t s = s + 1 := by unfold tk_at; rw [if_neg h]
theorem tk_at_w {T s : Nat} {t : Nat → Nat} (h : kd (t s) = 0 ∨ kd (t s) = 1) : tk_at T t s = wh (kdP T t (kd (t s))) 161 (s + 1) := by unfold tk_at; rw [if_pos h]
theorem kd_dig {c : Nat} (h : kd c = 1) : 48 ≤ c ∧ c ≤ 57 := by
  unfold kd at h
  split at h
  · cases h
  · split at h
    · assumption
    · split at h <;> cases h
set_option maxRecDepth 20000 in
set_option maxHeartbeats 4000000 in
theorem l_nx4 {d T s : Nat} {t : Nat → Nat} {w w0 : zW} (hd : 2 ≤ d) (hT : tpW w T t) (hs : s < T) (hk : kd (t s) = 0 ∨ kd (t s) = 1) (h2 : w 27 2 = nI (s + 1)) (h3 : w 27 3 = nI (kd (t s))) (h4 : w 27 4 = nI s) (h5 : w 27 5 = 0) (hf : frT w0 w) : WP mX4_next d (z_T (z_v fun w' => tkW w' (tkS T t s) ∧ frT w0 w')) 115 [some (.ref 27)] [] w := by
  have hT0 := hT.2.1
  have k4 := kd_lt (t s)
  have eat := tk_at_w (T := T) hk
  have a1 := tk_at_lt (T := T) (s := s) (t := t)
  have a2 := tk_at_T (t := t) hs
  refine l_nx2 (c := kd (t s)) (p0 := s + 1) (by omega) hT k4 h3 (fun w1 q2 qq qa => ?_) (T - (s + 1)) (s + 1) w (by omega) rfl h2 (fun _ _ => rfl) (fun _ _ => rfl)
  rw [← eat] at q2
  have v3 := (qq 3 (by decide)).trans h3
  have v4 := (qq 4 (by decide)).trans h4
  have v5 := (qq 5 (by decide)).trans h5
  have f1 : frT w w1 := ⟨fun q hq => qq q (by omega), qa⟩
  have f2 := hf.trans f1
  refine r_aload_n 159 dX4_next_158 rfl rfl ?_
  refine r_geti 162 dX4_next_159 fz_X4_30 sh_27 rfl rfl ?_
  refine r_eq v3 ?_
  refine r_iconst 163 (v := 1) dX4_next_162 (by decide) rfl ?_
  refine r_icmp_ne 170 166 dX4_next_163 (by decide) rfl (fun g163 => ?_) (fun g163 => ?_)
  · have g163 : ¬ kd (t s) = 1 := fun z => g163 (by rw [z]; rfl)
    exact r_vret dX4_next_170 rfl (⟨tkW_c hs g163 q2 v3 v4 v5, f2⟩)
  · have g163 : kd (t s) = 1 := (nI_inj (b := 1) (by omega) (by decide)).mp g163
    refine r_aload_n 167 dX4_next_166 rfl rfl ?_
    refine r_callV (y2 := mX4_valueNumber) (as := []) 170 dX4_next_167 ml_X4_33 mv_X4_valueNumber (c_valueNumber (d := d - 1) (hT.fr f1) a2 a1 (fun j j1 j2 => kd_dig (by by_cases e : j = s; (rw [e]; exact g163); (rw [eat] at j2; have := wh_all 161 (s + 1) j (by omega) j2; simp [kdP] at this; rw [this.2]; exact g163))) q2 v4 v5) (by omega) sh_27 ⟨_, rfl, rfl⟩ rfl (Nat.le_of_ble_eq_true rfl) rfl (kk_v ?_)
    rintro w2 ⟨r1, r2⟩
    unfold tkS
    rw [if_neg (by omega), if_pos g163]
    rw [g163] at v3
    by_cases g : 2 < tk_at T t s - s
    · have e := r1 g
      rw [if_pos g, ← e]
      exact r_vret dX4_next_170 rfl (⟨⟨by rw [z_up_i (by decide)]; exact q2, by rw [z_up_s]; rfl, by rw [z_up_i (by decide)]; exact v4, by rw [z_up_i (by decide)]; exact v5⟩, f2.up (by decide)⟩)
    obtain ⟨r5, rq, ra⟩ := r2 g
    rw [if_neg g]
    exact r_vret dX4_next_170 rfl (⟨⟨by rw [rq 2 (by decide)]; exact q2, by rw [rq 3 (by decide)]; exact v3, by rw [rq 4 (by decide)]; exact v4, r5⟩, f2.trans ⟨fun q hq => rq q (by omega), ra⟩⟩)
set_option maxRecDepth 20000 in
set_option maxHeartbeats 4000000 in
theorem l_nx3 {d T s : Nat} {t : Nat → Nat} {w w0 : zW} (hd : 2 ≤ d) (hT : tpW w T t) (hs : s ≤ T) (h2 : w 27 2 = nI s) (hf : frT w0 w) : WP mX4_next d (z_T (z_v fun w' => tkW w' (tkS T t s) ∧ frT w0 w')) 38 [some (.ref 27)] [] w := by
  have hT0 := hT.2.1
  by_cases hc : T ≤ s
  · refine r_aload_n 39 dX4_next_38 rfl rfl ?_
    refine r_aload_n 40 dX4_next_39 rfl rfl ?_
    refine r_geti 43 dX4_next_40 fz_X4_17 sh_27 rfl rfl ?_
    refine r_eq h2 ?_
    refine r_puti 46 dX4_next_43 fz_X4_20 fw_4_4 sh_27 rfl rfl ?_
    refine r_nw (fun w1 e1 => ?_)
    refine r_aload_n 47 dX4_next_46 rfl rfl ?_
    refine r_iconst 48 (v := 0) dX4_next_47 (by decide) rfl ?_
    refine r_puti 51 dX4_next_48 fz_X4_23 fw_4_5 sh_27 rfl rfl ?_
    refine r_nw (fun w2 e2 => ?_)
    refine r_aload_n 52 dX4_next_51 rfl rfl ?_
    refine r_aload_n 53 dX4_next_52 rfl rfl ?_
    refine r_geti 56 dX4_next_53 fz_X4_17 sh_27 rfl rfl ?_
    refine r_eq (z := nI s) (by rw [e2, z_up_i (by decide), e1, z_up_i (by decide)]; exact h2) ?_
    refine r_aload_n 57 dX4_next_56 rfl rfl ?_
    refine r_geti 60 dX4_next_57 fz_X4_13 sh_27 rfl rfl ?_
    refine r_eq (z := nI T) (by rw [e2, z_up_i (by decide), e1, z_up_i (by decide)]; exact hT.1) ?_
    refine r_icmp_ge 78 63 dX4_next_60 (by decide) rfl (fun _ => ?_) (fun z => absurd ((nI_le' (by omega) (by omega)).mpr hc) z)
    refine r_iconst 79 (v := 3) dX4_next_78 (by decide) rfl ?_
    refine r_puti 82 dX4_next_79 fz_X4_30 fw_4_3 sh_27 rfl rfl ?_
    refine r_nw (fun w3 e3 => ?_)
    have q3 : w3 27 3 = 3 := by rw [e3, z_up_s]
    refine r_aload_n 83 dX4_next_82 rfl rfl ?_
    refine r_geti 86 dX4_next_83 fz_X4_30 sh_27 rfl rfl ?_
    refine r_eq q3 ?_
    refine r_iconst 87 (v := 3) dX4_next_86 (by decide) rfl ?_
    refine r_icmp_eq 100 90 dX4_next_87 (by decide) rfl (fun _ => ?_) (fun z => absurd (rfl) z)
    refine r_aload_n 101 dX4_next_100 rfl rfl ?_
    refine r_geti 104 dX4_next_101 fz_X4_30 sh_27 rfl rfl ?_
    refine r_eq q3 ?_
    refine r_if_eq 115 107 dX4_next_104 (by decide) rfl (fun z => absurd z (by decide)) (fun _ => ?_)
    refine r_aload_n 108 dX4_next_107 rfl rfl ?_
    refine r_geti 111 dX4_next_108 fz_X4_30 sh_27 rfl rfl ?_
    refine r_eq q3 ?_
    refine r_iconst 112 (v := 1) dX4_next_111 (by decide) rfl ?_
    refine r_icmp_ne 158 115 dX4_next_112 (by decide) rfl (fun _ => ?_) (fun z => absurd z (by decide))
    refine r_aload_n 159 dX4_next_158 rfl rfl ?_
    refine r_geti 162 dX4_next_159 fz_X4_30 sh_27 rfl rfl ?_
    refine r_eq q3 ?_
    refine r_iconst 163 (v := 1) dX4_next_162 (by decide) rfl ?_
    refine r_icmp_ne 170 166 dX4_next_163 (by decide) rfl (fun _ => ?_) (fun z => absurd z (by decide))
    have f3 : frT w0 w3 := by rw [e3, e2, e1]; exact ((hf.up (by decide)).up (by decide)).up (by decide)
    exact r_vret dX4_next_170 rfl (⟨by unfold tkS; rw [if_pos hc]; exact ⟨by rw [e3, z_up_i (by decide), e2, z_up_i (by decide), e1, z_up_i (by decide)]; exact h2, q3, by rw [e3, z_up_i (by decide), e2, z_up_i (by decide), e1, z_up_s], by rw [e3, z_up_i (by decide), e2, z_up_s]; rfl⟩, f3⟩)
  · have hb := hT.2.2 s (by omega)
    have k3 : kd (t s) ≠ 3 := by unfold kd; (repeat' split) <;> decide
    have k4 := kd_lt (t s)
    refine r_aload_n 39 dX4_next_38 rfl rfl ?_
    refine r_aload_n 40 dX4_next_39 rfl rfl ?_
    refine r_geti 43 dX4_next_40 fz_X4_17 sh_27 rfl rfl ?_
    refine r_eq h2 ?_
    refine r_puti 46 dX4_next_43 fz_X4_20 fw_4_4 sh_27 rfl rfl ?_
    refine r_nw (fun w1 e1 => ?_)
    refine r_aload_n 47 dX4_next_46 rfl rfl ?_
    refine r_iconst 48 (v := 0) dX4_next_47 (by decide) rfl ?_
    refine r_puti 51 dX4_next_48 fz_X4_23 fw_4_5 sh_27 rfl rfl ?_
    refine r_nw (fun w2 e2 => ?_)
    refine r_aload_n 52 dX4_next_51 rfl rfl ?_
    refine r_aload_n 53 dX4_next_52 rfl rfl ?_
    refine r_geti 56 dX4_next_53 fz_X4_17 sh_27 rfl rfl ?_
    refine r_eq (z := nI s) (by rw [e2, z_up_i (by decide), e1, z_up_i (by decide)]; exact h2) ?_
    refine r_aload_n 57 dX4_next_56 rfl rfl ?_
    refine r_geti 60 dX4_next_57 fz_X4_13 sh_27 rfl rfl ?_
    refine r_eq (z := nI T) (by rw [e2, z_up_i (by decide), e1, z_up_i (by decide)]; exact hT.1) ?_
    refine r_icmp_ge 78 63 dX4_next_60 (by decide) rfl (fun z => absurd z (fun z => hc ((nI_le' (by omega) (by omega)).mp z))) (fun _ => ?_)
    refine r_aload_n 64 dX4_next_63 rfl rfl ?_
    refine r_getr 67 dX4_next_64 fz_X4_9 sh_27 rfl rfl ?_
    refine r_aload_n 68 dX4_next_67 rfl rfl ?_
    refine r_geti 71 dX4_next_68 fz_X4_17 sh_27 rfl rfl ?_
    refine r_eq (z := nI s) (by rw [e2, z_up_i (by decide), e1, z_up_i (by decide)]; exact h2) ?_
    refine rj_bald 72 (s) dX4_next_71 sh_28 (rfl) (by omega) (by decide) rfl ?_
    refine r_eq (z := nI (t s)) (by rw [e2, z_up_a (by decide), e1, z_up_a (by decide)]; exact hb.1) ?_
    refine r_callS (y2 := mX4_kindOf) (as := [_]) 75 dX4_next_72 ml_X4_26 ms_X4_kindOf (c_kindOf (d := d - 1) hb.2) (by omega) rfl (Nat.le_of_ble_eq_true rfl) rfl (kk_i ?_)
    rintro _ _ ⟨rfl, rfl⟩
    refine r_goto 79 dX4_next_75 (by decide) ?_
    refine r_puti 82 dX4_next_79 fz_X4_30 fw_4_3 sh_27 rfl rfl ?_
    refine r_nw (fun w3 e3 => ?_)
    have q3 : w3 27 3 = nI (kd (t s)) := by rw [e3, z_up_s]
    refine r_aload_n 83 dX4_next_82 rfl rfl ?_
    refine r_geti 86 dX4_next_83 fz_X4_30 sh_27 rfl rfl ?_
    refine r_eq q3 ?_
    refine r_iconst 87 (v := 3) dX4_next_86 (by decide) rfl ?_
    refine r_icmp_eq 100 90 dX4_next_87 (by decide) rfl (fun z => absurd z (fun z => k3 ((nI_inj (b := 3) (by omega) (by decide)).mp z))) (fun _ => ?_)
    refine r_aload_n 91 dX4_next_90 rfl rfl ?_
    refine r_dup 92 dX4_next_91 rfl rfl ?_
    refine r_geti 95 dX4_next_92 fz_X4_17 sh_27 rfl rfl ?_
    refine r_eq (z := nI s) (by rw [e3, z_up_i (by decide), e2, z_up_i (by decide), e1, z_up_i (by decide)]; exact h2) ?_
    refine r_iconst 96 (v := 1) dX4_next_95 (by decide) rfl ?_
    refine r_iadd 97 dX4_next_96 rfl ?_
    refine r_eq (nI_1 s) ?_
    refine r_puti 100 dX4_next_97 fz_X4_17 fw_4_2 sh_27 rfl rfl ?_
    refine r_nw (fun w4 e4 => ?_)
    have u2 : w4 27 2 = nI (s + 1) := by rw [e4, z_up_s]
    have u3 : w4 27 3 = nI (kd (t s)) := by rw [e4, z_up_i (by decide)]; exact q3
    have u4 : w4 27 4 = nI s := by rw [e4, z_up_i (by decide), e3, z_up_i (by decide), e2, z_up_i (by decide), e1, z_up_s]
    have u5 : w4 27 5 = 0 := by rw [e4, z_up_i (by decide), e3, z_up_i (by decide), e2, z_up_s]
    have uf : frT w0 w4 := by rw [e4, e3, e2, e1]; exact (((hf.up (by decide)).up (by decide)).up (by decide)).up (by decide)
    have uT : tpW w4 T t := by
      have f1 : frT w w4 := by rw [e4, e3, e2, e1]; exact (((frT.rfl.up (by decide)).up (by decide)).up (by decide)).up (by decide)
      exact hT.fr f1
    clear e1 e2 e3 e4 q3
    refine r_aload_n 101 dX4_next_100 rfl rfl ?_
    refine r_geti 104 dX4_next_101 fz_X4_30 sh_27 rfl rfl ?_
    refine r_eq u3 ?_
    refine r_if_eq 115 107 dX4_next_104 (by decide) rfl (fun g104 => ?_) (fun g104 => ?_)
    · have g104 : kd (t s) = 0 := (nI_inj (b := 0) (by omega) (by decide)).mp g104
      exact l_nx4 hd uT (by omega) (Or.inl g104) u2 u3 u4 u5 uf
    · have g104 : ¬ kd (t s) = 0 := fun z => g104 (by rw [z]; rfl)
      refine r_aload_n 108 dX4_next_107 rfl rfl ?_
      refine r_geti 111 dX4_next_108 fz_X4_30 sh_27 rfl rfl ?_
      refine r_eq u3 ?_
      refine r_iconst 112 (v := 1) dX4_next_111 (by decide) rfl ?_
      refine r_icmp_ne 158 115 dX4_next_112 (by decide) rfl (fun g112 => ?_) (fun g112 => ?_)
      · have g112 : ¬ kd (t s) = 1 := fun z => g112 (by rw [z]; rfl)
        refine r_aload_n 159 dX4_next_158 rfl rfl ?_
        refine r_geti 162 dX4_next_159 fz_X4_30 sh_27 rfl rfl ?_
        refine r_eq u3 ?_
        refine r_iconst 163 (v := 1) dX4_next_162 (by decide) rfl ?_
        refine r_icmp_ne 170 166 dX4_next_163 (by decide) rfl (fun _ => ?_) (fun z => absurd z (fun z => g112 ((nI_inj (b := 1) (by omega) (by decide)).mp z)))
        exact r_vret dX4_next_170 rfl (⟨tkW_c (by omega) g112 (by rw [tk_at_c (by omega)]; exact u2) u3 u4 u5, uf⟩)
      · have g112 : kd (t s) = 1 := (nI_inj (b := 1) (by omega) (by decide)).mp g112
        exact l_nx4 hd uT (by omega) (Or.inr g112) u2 u3 u4 u5 uf
set_option maxRecDepth 20000 in
set_option maxHeartbeats 4000000 in
theorem c_next {d T p : Nat} {t : Nat → Nat} {w : zW} (hd : 2 ≤ d) (hT : tpW w T t) (hp : p ≤ T) (h2 : w 27 2 = nI p) : CT mX4_next d [.ref 27] w (z_v fun w' => tkW w' (tok T t p) ∧ frT w w') := by
  refine CT.of [some (.ref 27)] rfl (Nat.le_of_ble_eq_true rfl) rfl ?_
  refine l_nx1 (w0 := w) (p0 := p) hT (fun w1 q2 qf => ?_) (T - p) p w (by omega) rfl h2 frT.rfl
  exact l_nx3 hd (hT.fr qf) (tk_st_T hp) q2 qf
set_option maxRecDepth 20000 in
set_option maxHeartbeats 4000000 in
theorem l_isName {d T i : Nat} {t : Nat → Nat} {k : tkT} {w : zW} (hd : 4 ≤ d) (hi : i < 16) (hT : tpW w T t) (hk : tkW w k) (ha : tk_a k ≤ T) (hsa : tk_s k ≤ tk_a k) (g1 : tk_k k = 0) (g2 : tk_a k - tk_s k = z_sln.getD i 0) : ∀ m j, j + m = z_sln.getD i 0 → (∀ q, q < j → nI (t (tk_s k + q)) = (z_sby.getD i []).getD q 0) → WP mX4_isName d (z_T (z_i fun x w' => z_b (isN t k i = true) = x ∧ w = w')) 27 [some (.ref 27), some (.ref (200 + i)), some (.int (nI j))] [] w := by
  have hT0 := hT.2.1
  have h5 := sln_5 i hi
  intro m
  induction m with
  | zero =>
    intro j hj hq
    have e : j = z_sln.getD i 0 := by omega
    refine r_iload_n 28 dX4_isName_27 rfl rfl ?_
    refine r_aload_n 29 dX4_isName_28 rfl rfl ?_
    refine r_callK (y2 := mJ0_length_8abf5) (as := []) 32 dX4_isName_29 ml_X4_36 mv_J0_length_8abf5 rfl hi (c_length (d := d - 1) (by omega) hi) (by omega) rfl (Nat.le_of_ble_eq_true rfl) rfl (kk_i ?_)
    rintro _ _ ⟨rfl, rfl⟩
    refine r_icmp_ge 62 35 dX4_isName_32 (by decide) rfl (fun _ => ?_) (fun z => absurd (by rw [e]; exact Int32.le_refl _) z)
    refine r_iconst 63 (v := 1) dX4_isName_62 (by decide) rfl ?_
    exact r_iret .boolean dX4_isName_63 rfl (rfl) (⟨z_bp (decide_eq_true ⟨g1, g2, by rw [← e]; exact hq⟩), rfl⟩)
  | succ m ih =>
    intro j hj hq
    have hb := hT.2.2 (tk_s k + j) (by omega)
    refine r_iload_n 28 dX4_isName_27 rfl rfl ?_
    refine r_aload_n 29 dX4_isName_28 rfl rfl ?_
    refine r_callK (y2 := mJ0_length_8abf5) (as := []) 32 dX4_isName_29 ml_X4_36 mv_J0_length_8abf5 rfl hi (c_length (d := d - 1) (by omega) hi) (by omega) rfl (Nat.le_of_ble_eq_true rfl) rfl (kk_i ?_)
    rintro _ _ ⟨rfl, rfl⟩
    refine r_icmp_ge 62 35 dX4_isName_32 (by decide) rfl (fun z => absurd z (fun z => absurd ((nI_le' (by omega) (by omega)).mp z) (by omega))) (fun _ => ?_)
    refine r_aload_n 36 dX4_isName_35 rfl rfl ?_
    refine r_getr 39 dX4_isName_36 fz_X4_9 sh_27 rfl rfl ?_
    refine r_aload_n 40 dX4_isName_39 rfl rfl ?_
    refine r_geti 43 dX4_isName_40 fz_X4_20 sh_27 rfl rfl ?_
    refine r_eq hk.2.2.1 ?_
    refine r_iload_n 44 dX4_isName_43 rfl rfl ?_
    refine r_iadd 45 dX4_isName_44 rfl ?_
    refine r_eq (nI_add _ _) ?_
    refine rj_bald 46 (tk_s k + j) dX4_isName_45 sh_28 (rfl) (by omega) (by decide) rfl ?_
    refine r_eq hb.1 ?_
    refine r_aload_n 47 dX4_isName_46 rfl rfl ?_
    refine r_iload_n 48 dX4_isName_47 rfl rfl ?_
    refine r_callK (y2 := mJ0_charAt_5068e) (as := [_]) 51 dX4_isName_48 ml_X4_41 mv_J0_charAt_5068e rfl hi (c_charAt (d := d - 1) (by omega) hi (by omega)) (by omega) rfl (Nat.le_of_ble_eq_true rfl) rfl (kk_i ?_)
    rintro _ _ ⟨rfl, rfl⟩
    refine r_icmp_eq 56 54 dX4_isName_51 (by decide) rfl (fun g51 => ?_) (fun g51 => ?_)
    · refine r_iinc 59 (L' := [_, _, _]) (v := nI (j + 1)) dX4_isName_56 rfl (nI_1 j) (by decide) rfl rfl rfl ?_
      refine r_goto 27 dX4_isName_59 (by decide) ?_
      exact ih (j + 1) (by omega) (fun q hq2 => by by_cases e : q = j; (rw [e]; exact g51); (exact hq q (by omega)))
    · refine r_iconst 55 (v := 0) dX4_isName_54 (by decide) rfl ?_
      exact r_iret .boolean dX4_isName_55 rfl (rfl) (⟨z_bn (fun z => g51 ((of_decide_eq_true z).2.2 j (by omega))), rfl⟩)
set_option maxRecDepth 20000 in
set_option maxHeartbeats 4000000 in
theorem c_isName {d T i : Nat} {t : Nat → Nat} {k : tkT} {w : zW} (hd : 4 ≤ d) (hi : i < 16) (hT : tpW w T t) (hk : tkW w k) (ha : tk_a k ≤ T) (hsa : tk_s k ≤ tk_a k) (hk4 : tk_k k ≤ 4) : CT mX4_isName d [.ref 27, .ref (200 + i)] w (z_i fun x w' => z_b (isN t k i = true) = x ∧ w = w') := by
  have hT0 := hT.2.1
  have h5 := sln_5 i hi
  refine CT.of [some (.ref 27), some (.ref (200 + i)), none] rfl (Nat.le_of_ble_eq_true rfl) rfl ?_
  refine r_aload_n 1 dX4_isName_0 rfl rfl ?_
  refine r_geti 4 dX4_isName_1 fz_X4_30 sh_27 rfl rfl ?_
  refine r_eq hk.2.1 ?_
  refine r_if_ne 23 7 dX4_isName_4 (by decide) rfl (fun g4 => ?_) (fun g4 => ?_)
  · have g4 : ¬ tk_k k = 0 := fun z => g4 (by rw [z]; rfl)
    refine r_iconst 24 (v := 0) dX4_isName_23 (by decide) rfl ?_
    exact r_iret .boolean dX4_isName_24 rfl (rfl) (by first | exact ⟨z_bn (fun z => g4 (of_decide_eq_true z).1), rfl⟩ | exact ⟨z_bn (fun z => g20 (of_decide_eq_true z).2.1), rfl⟩)
  · have g4 : tk_k k = 0 := (nI_inj (b := 0) (by omega) (by decide)).mp g4
    refine r_aload_n 8 dX4_isName_7 rfl rfl ?_
    refine r_geti 11 dX4_isName_8 fz_X4_17 sh_27 rfl rfl ?_
    refine r_eq hk.1 ?_
    refine r_aload_n 12 dX4_isName_11 rfl rfl ?_
    refine r_geti 15 dX4_isName_12 fz_X4_20 sh_27 rfl rfl ?_
    refine r_eq hk.2.2.1 ?_
    refine r_isub 16 dX4_isName_15 rfl ?_
    refine r_eq (nI_sub hsa) ?_
    refine r_aload_n 17 dX4_isName_16 rfl rfl ?_
    refine r_callK (y2 := mJ0_length_8abf5) (as := []) 20 dX4_isName_17 ml_X4_36 mv_J0_length_8abf5 rfl hi (c_length (d := d - 1) (by omega) hi) (by omega) rfl (Nat.le_of_ble_eq_true rfl) rfl (kk_i ?_)
    rintro _ _ ⟨rfl, rfl⟩
    refine r_icmp_eq 25 23 dX4_isName_20 (by decide) rfl (fun g20 => ?_) (fun g20 => ?_)
    · have g20 : tk_a k - tk_s k = z_sln.getD i 0 := (nI_inj (by omega) (by omega)).mp g20
      refine r_iconst 26 (v := 0) dX4_isName_25 (by decide) rfl ?_
      refine r_istore_n 27 (L' := [_, _, _]) dX4_isName_26 (by decide) rfl rfl rfl ?_
      exact l_isName hd hi hT hk ha hsa g4 g20 (z_sln.getD i 0) 0 (Nat.zero_add _) (fun q hq => absurd hq (Nat.not_lt_zero q))
    · have g20 : ¬ tk_a k - tk_s k = z_sln.getD i 0 := fun z => g20 (by rw [z])
      refine r_iconst 24 (v := 0) dX4_isName_23 (by decide) rfl ?_
      exact r_iret .boolean dX4_isName_24 rfl (rfl) (by first | exact ⟨z_bn (fun z => g4 (of_decide_eq_true z).1), rfl⟩ | exact ⟨z_bn (fun z => g20 (of_decide_eq_true z).2.1), rfl⟩)

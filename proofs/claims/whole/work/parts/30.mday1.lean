/-! ===== the reference: a day, its leaves ===== -/
/-- the lock at hand: n boats, the numbers K -/
def atD (w : zW) (n : Nat) (K : Nat → Nat) : Prop := (∀ k, k < 55 → w 52 k = nI (K k)) ∧ w 50 3 = nI n
theorem atD.congr {w w' : zW} {n : Nat} {K : Nat → Nat} (h : atD w n K) (h0 : w' 50 3 = w 50 3) (h1 : w' 52 = w 52) : atD w' n K := ⟨fun k hk => by rw [h1]; exact h.1 k hk, by rw [h0]; exact h.2⟩
theorem s_le {a b : Nat} (ha : a < 1000) (hb : b < 1000) : nI a - nI b ≤ 0 ↔ a ≤ b := by
  rw [ti_le, pk_sub_toInt (by omega) (by omega)]
  show _ ≤ (0 : Int) ↔ _
  omega
set_option maxRecDepth 20000 in
set_option maxHeartbeats 4000000 in
theorem l_starts {d : Nat} {w : zW} {T : zX → Prop} (hx : WP mX7_starts d T 26 [some (.ref 50), some (.int (nI 55))] [] (z_ua w 52 (fun j => if j < 55 then w 51 j else w 52 j))) : ∀ k i, i + k = 55 → WP mX7_starts d T 2 [some (.ref 50), some (.int (nI i))] [] (z_ua w 52 (fun j => if j < i then w 51 j else w 52 j)) := by
  intro k
  induction k with
  | zero =>
    intro i hi
    have e : i = 55 := by omega
    subst e
    refine r_iload_n 3 dX7_starts_2 rfl rfl ?_
    refine r_bipush 5 (v := 55) dX7_starts_3 (by decide) rfl ?_
    refine r_icmp_ge 26 8 dX7_starts_5 (by decide) rfl (fun _ => ?_) (fun z => absurd (by decide) z)
    exact hx
  | succ k ih =>
    intro i hi
    refine r_iload_n 3 dX7_starts_2 rfl rfl ?_
    refine r_bipush 5 (v := 55) dX7_starts_3 (by decide) rfl ?_
    refine r_icmp_ge 26 8 dX7_starts_5 (by decide) rfl (fun z => absurd z (fun z => by have := (nI_le' (a := 55) (by decide) (by omega)).mp z; omega)) (fun _ => ?_)
    refine r_aload_n 9 dX7_starts_8 rfl rfl ?_
    refine r_getr 12 dX7_starts_9 fz_X7_13 sh_50 rfl rfl ?_
    refine r_iload_n 13 dX7_starts_12 rfl rfl ?_
    refine r_aload_n 14 dX7_starts_13 rfl rfl ?_
    refine r_getr 17 dX7_starts_14 fz_X7_7 sh_50 rfl rfl ?_
    refine r_iload_n 18 dX7_starts_17 rfl rfl ?_
    refine rj_iald 19 (i) dX7_starts_18 sh_51 (rfl) (by omega) (by decide) rfl ?_
    refine r_eq (z := w 51 i) (by rw [z_ua_o (by decide)]) ?_
    refine rj_iast 20 (i) dX7_starts_19 sh_52 (rfl) (by omega) (by decide) rfl ?_
    refine r_iinc 23 (L' := [_, _]) (v := nI (i + 1)) dX7_starts_20 rfl (nI_1 i) (by decide) rfl rfl rfl ?_
    refine r_goto 2 dX7_starts_23 (by decide) ?_
    refine r_eqw ?_ (ih (i + 1) (by omega))
    funext a b
    by_cases ha : a = 52
    · subst ha
      rw [z_ua_k, z_up_k, z_ua_k]
      simp only [upd]
      by_cases hb : b = i
      · subst hb; simp
      · rw [if_neg hb]
        by_cases hbi : b < i
        · rw [if_pos hbi, if_pos (by omega)]
        · rw [if_neg hbi, if_neg (by omega)]
    · rw [z_up_a ha, z_ua_o ha, z_ua_o ha]
set_option maxRecDepth 20000 in
set_option maxHeartbeats 4000000 in
theorem m_starts {d : Nat} {w : zW} : CT mX7_starts d [.ref 50] w (z_v fun w' => z_up (z_ua w 52 (fun j => if j < 55 then w 51 j else w 52 j)) 50 17 0 = w') := by
  refine CT.of [some (.ref 50), none] rfl (Nat.le_of_ble_eq_true rfl) rfl ?_
  refine r_iconst 1 (v := 0) dX7_starts_0 (by decide) rfl ?_
  refine r_istore_n 2 (L' := [_, _]) dX7_starts_1 (by decide) rfl rfl rfl ?_
  refine r_eqw (w' := (z_ua w 52 (fun j => if j < 0 then w 51 j else w 52 j))) ?_ (l_starts ?_ 55 0 rfl)
  · funext a b
    by_cases ha : a = 52
    · subst ha; rw [z_ua_k]; simp
    · rw [z_ua_o ha]
  refine r_aload_n 27 dX7_starts_26 rfl rfl ?_
  refine r_iconst 28 (v := 0) dX7_starts_27 (by decide) rfl ?_
  refine r_puti 31 dX7_starts_28 fz_X7_163 fw_7_17 sh_50 rfl rfl ?_
  exact r_vret dX7_starts_31 rfl (rfl)
set_option maxRecDepth 20000 in
set_option maxHeartbeats 4000000 in
theorem m_countsFrom {d n b A : Nat} {w : zW} {K : Nat → Nat} (hd : 2 ≤ d) (hV : kV A n K) (hA : A < 1000) (hL : atD w n K) (hb : b < n) : CT mX7_countsFrom d [.ref 50, .int (nI b)] w (z_i fun x w' => nI (k_ct K b) = x ∧ w = w') := by
  obtain ⟨v1, v2, v3, v4, v5, v6, v7, v8⟩ := id hV
  obtain ⟨u1, u2, u3, u4, u5, u6⟩ := v8 b hb
  refine CT.of [some (.ref 50), some (.int (nI b)), none, none] rfl (Nat.le_of_ble_eq_true rfl) rfl ?_
  refine r_aload_n 1 dX7_countsFrom_0 rfl rfl ?_
  refine r_getr 4 dX7_countsFrom_1 fz_X7_13 sh_50 rfl rfl ?_
  refine r_iconst 5 (v := 5) dX7_countsFrom_4 (by decide) rfl ?_
  refine rj_iald 6 (5) dX7_countsFrom_5 sh_52 (rfl) (by decide) (by decide) rfl ?_
  refine r_eq (hL.1 5 (by decide)) ?_
  refine r_iconst 7 (v := 1) dX7_countsFrom_6 (by decide) rfl ?_
  refine r_icmp_ne 29 10 dX7_countsFrom_7 (by decide) rfl (fun g7 => ?_) (fun g7 => ?_)
  · have g7 : ¬ K 5 = 1 := fun z => g7 (by rw [z]; rfl)
    refine r_iconst 30 (v := 0) dX7_countsFrom_29 (by decide) rfl ?_
    refine r_istore_n 31 (L' := [_, _, _, _]) dX7_countsFrom_30 (by decide) rfl rfl rfl ?_
    refine r_aload_n 32 dX7_countsFrom_31 rfl rfl ?_
    refine r_iload_n 33 dX7_countsFrom_32 rfl rfl ?_
    refine r_iconst 34 (v := 2) dX7_countsFrom_33 (by decide) rfl ?_
    refine r_callV (y2 := mX7_of) (as := [_, _]) 37 dX7_countsFrom_34 ml_X7_166 mv_X7_of (m_of (d := d - 1) (i := b) (j := 2) (by omega) (by decide)) (by omega) sh_50 ⟨_, rfl, rfl⟩ rfl (Nat.le_of_ble_eq_true rfl) rfl (kk_i ?_)
    rintro _ _ ⟨rfl, rfl⟩
    refine r_eq (z := nI (K (6 + 6 * b + 2))) (hL.1 _ (by omega)) ?_
    refine r_iload_n 38 dX7_countsFrom_37 rfl rfl ?_
    refine r_if_eq 50 41 dX7_countsFrom_38 (by decide) rfl (fun _ => ?_) (fun z => absurd (by decide) z)
    refine r_aload_n 51 dX7_countsFrom_50 rfl rfl ?_
    refine r_getr 54 dX7_countsFrom_51 fz_X7_13 sh_50 rfl rfl ?_
    refine r_iconst 55 (v := 4) dX7_countsFrom_54 (by decide) rfl ?_
    refine rj_iald 56 (4) dX7_countsFrom_55 sh_52 (rfl) (by decide) (by decide) rfl ?_
    refine r_eq (hL.1 4 (by decide)) ?_
    refine r_isub 57 dX7_countsFrom_56 rfl ?_
    refine r_istore_n 58 (L' := [_, _, _, _]) dX7_countsFrom_57 (by decide) rfl rfl rfl ?_
    refine r_iload_n 59 dX7_countsFrom_58 rfl rfl ?_
    refine r_if_le 66 62 dX7_countsFrom_59 (by decide) rfl (fun g59 => ?_) (fun g59 => ?_)
    · have g59 := (s_le (by omega) (by omega)).mp g59
      refine r_iconst 67 (v := 0) dX7_countsFrom_66 (by decide) rfl ?_
      exact r_iret .int dX7_countsFrom_67 rfl (rfl) (⟨by unfold k_ct; split <;> first | (exfalso; omega) | (rw [← nI_0]; congr 1; omega) | (rw [nI_sub (by omega)]), rfl⟩)
    · have g59 : ¬ (_ ≤ _) := fun z => g59 ((s_le (by omega) (by omega)).mpr z)
      refine r_iload_n 63 dX7_countsFrom_62 rfl rfl ?_
      refine r_goto 67 dX7_countsFrom_63 (by decide) ?_
      exact r_iret .int dX7_countsFrom_67 rfl (rfl) (⟨by unfold k_ct; split <;> first | (exfalso; omega) | (rw [← nI_0]; congr 1; omega) | (rw [nI_sub (by omega)]), rfl⟩)
  · have g7 : K 5 = 1 := (nI_inj (b := 1) (by omega) (by decide)).mp g7
    refine r_aload_n 11 dX7_countsFrom_10 rfl rfl ?_
    refine r_iload_n 12 dX7_countsFrom_11 rfl rfl ?_
    refine r_iconst 13 (v := 4) dX7_countsFrom_12 (by decide) rfl ?_
    refine r_callV (y2 := mX7_of) (as := [_, _]) 16 dX7_countsFrom_13 ml_X7_166 mv_X7_of (m_of (d := d - 1) (i := b) (j := 4) (by omega) (by decide)) (by omega) sh_50 ⟨_, rfl, rfl⟩ rfl (Nat.le_of_ble_eq_true rfl) rfl (kk_i ?_)
    rintro _ _ ⟨rfl, rfl⟩
    refine r_eq (z := nI (K (6 + 6 * b + 4))) (hL.1 _ (by omega)) ?_
    refine r_aload_n 17 dX7_countsFrom_16 rfl rfl ?_
    refine r_getr 20 dX7_countsFrom_17 fz_X7_13 sh_50 rfl rfl ?_
    refine r_iconst 21 (v := 4) dX7_countsFrom_20 (by decide) rfl ?_
    refine rj_iald 22 (4) dX7_countsFrom_21 sh_52 (rfl) (by decide) (by decide) rfl ?_
    refine r_eq (hL.1 4 (by decide)) ?_
    refine r_icmp_le 29 25 dX7_countsFrom_22 (by decide) rfl (fun g22 => ?_) (fun g22 => ?_)
    · have g22 : K (6 + 6 * b + 4) ≤ K 4 := (nI_le' (by omega) (by omega)).mp g22
      refine r_iconst 30 (v := 0) dX7_countsFrom_29 (by decide) rfl ?_
      refine r_istore_n 31 (L' := [_, _, _, _]) dX7_countsFrom_30 (by decide) rfl rfl rfl ?_
      refine r_aload_n 32 dX7_countsFrom_31 rfl rfl ?_
      refine r_iload_n 33 dX7_countsFrom_32 rfl rfl ?_
      refine r_iconst 34 (v := 2) dX7_countsFrom_33 (by decide) rfl ?_
      refine r_callV (y2 := mX7_of) (as := [_, _]) 37 dX7_countsFrom_34 ml_X7_166 mv_X7_of (m_of (d := d - 1) (i := b) (j := 2) (by omega) (by decide)) (by omega) sh_50 ⟨_, rfl, rfl⟩ rfl (Nat.le_of_ble_eq_true rfl) rfl (kk_i ?_)
      rintro _ _ ⟨rfl, rfl⟩
      refine r_eq (z := nI (K (6 + 6 * b + 2))) (hL.1 _ (by omega)) ?_
      refine r_iload_n 38 dX7_countsFrom_37 rfl rfl ?_
      refine r_if_eq 50 41 dX7_countsFrom_38 (by decide) rfl (fun _ => ?_) (fun z => absurd (by decide) z)
      refine r_aload_n 51 dX7_countsFrom_50 rfl rfl ?_
      refine r_getr 54 dX7_countsFrom_51 fz_X7_13 sh_50 rfl rfl ?_
      refine r_iconst 55 (v := 4) dX7_countsFrom_54 (by decide) rfl ?_
      refine rj_iald 56 (4) dX7_countsFrom_55 sh_52 (rfl) (by decide) (by decide) rfl ?_
      refine r_eq (hL.1 4 (by decide)) ?_
      refine r_isub 57 dX7_countsFrom_56 rfl ?_
      refine r_istore_n 58 (L' := [_, _, _, _]) dX7_countsFrom_57 (by decide) rfl rfl rfl ?_
      refine r_iload_n 59 dX7_countsFrom_58 rfl rfl ?_
      refine r_if_le 66 62 dX7_countsFrom_59 (by decide) rfl (fun g59 => ?_) (fun g59 => ?_)
      · have g59 := (s_le (by omega) (by omega)).mp g59
        refine r_iconst 67 (v := 0) dX7_countsFrom_66 (by decide) rfl ?_
        exact r_iret .int dX7_countsFrom_67 rfl (rfl) (⟨by unfold k_ct; split <;> first | (exfalso; omega) | (rw [← nI_0]; congr 1; omega) | (rw [nI_sub (by omega)]), rfl⟩)
      · have g59 : ¬ (_ ≤ _) := fun z => g59 ((s_le (by omega) (by omega)).mpr z)
        refine r_iload_n 63 dX7_countsFrom_62 rfl rfl ?_
        refine r_goto 67 dX7_countsFrom_63 (by decide) ?_
        exact r_iret .int dX7_countsFrom_67 rfl (rfl) (⟨by unfold k_ct; split <;> first | (exfalso; omega) | (rw [← nI_0]; congr 1; omega) | (rw [nI_sub (by omega)]), rfl⟩)
    · have g22 : ¬ K (6 + 6 * b + 4) ≤ K 4 := fun z => g22 ((nI_le' (by omega) (by omega)).mpr z)
      refine r_iconst 26 (v := 1) dX7_countsFrom_25 (by decide) rfl ?_
      refine r_goto 30 dX7_countsFrom_26 (by decide) ?_
      refine r_istore_n 31 (L' := [_, _, _, _]) dX7_countsFrom_30 (by decide) rfl rfl rfl ?_
      refine r_aload_n 32 dX7_countsFrom_31 rfl rfl ?_
      refine r_iload_n 33 dX7_countsFrom_32 rfl rfl ?_
      refine r_iconst 34 (v := 2) dX7_countsFrom_33 (by decide) rfl ?_
      refine r_callV (y2 := mX7_of) (as := [_, _]) 37 dX7_countsFrom_34 ml_X7_166 mv_X7_of (m_of (d := d - 1) (i := b) (j := 2) (by omega) (by decide)) (by omega) sh_50 ⟨_, rfl, rfl⟩ rfl (Nat.le_of_ble_eq_true rfl) rfl (kk_i ?_)
      rintro _ _ ⟨rfl, rfl⟩
      refine r_eq (z := nI (K (6 + 6 * b + 2))) (hL.1 _ (by omega)) ?_
      refine r_iload_n 38 dX7_countsFrom_37 rfl rfl ?_
      refine r_if_eq 50 41 dX7_countsFrom_38 (by decide) rfl (fun z => absurd z (by decide)) (fun _ => ?_)
      refine r_aload_n 42 dX7_countsFrom_41 rfl rfl ?_
      refine r_iload_n 43 dX7_countsFrom_42 rfl rfl ?_
      refine r_iconst 44 (v := 4) dX7_countsFrom_43 (by decide) rfl ?_
      refine r_callV (y2 := mX7_of) (as := [_, _]) 47 dX7_countsFrom_44 ml_X7_166 mv_X7_of (m_of (d := d - 1) (i := b) (j := 4) (by omega) (by decide)) (by omega) sh_50 ⟨_, rfl, rfl⟩ rfl (Nat.le_of_ble_eq_true rfl) rfl (kk_i ?_)
      rintro _ _ ⟨rfl, rfl⟩
      refine r_eq (z := nI (K (6 + 6 * b + 4))) (hL.1 _ (by omega)) ?_
      refine r_goto 56 dX7_countsFrom_47 (by decide) ?_
      refine r_isub 57 dX7_countsFrom_56 rfl ?_
      refine r_istore_n 58 (L' := [_, _, _, _]) dX7_countsFrom_57 (by decide) rfl rfl rfl ?_
      refine r_iload_n 59 dX7_countsFrom_58 rfl rfl ?_
      refine r_if_le 66 62 dX7_countsFrom_59 (by decide) rfl (fun g59 => ?_) (fun g59 => ?_)
      · have g59 := (s_le (by omega) (by omega)).mp g59
        refine r_iconst 67 (v := 0) dX7_countsFrom_66 (by decide) rfl ?_
        exact r_iret .int dX7_countsFrom_67 rfl (rfl) (⟨by unfold k_ct; split <;> first | (exfalso; omega) | (rw [← nI_0]; congr 1; omega) | (rw [nI_sub (by omega)]), rfl⟩)
      · have g59 : ¬ (_ ≤ _) := fun z => g59 ((s_le (by omega) (by omega)).mpr z)
        refine r_iload_n 63 dX7_countsFrom_62 rfl rfl ?_
        refine r_goto 67 dX7_countsFrom_63 (by decide) ?_
        exact r_iret .int dX7_countsFrom_67 rfl (rfl) (⟨by unfold k_ct; split <;> first | (exfalso; omega) | (rw [← nI_0]; congr 1; omega) | (rw [nI_sub (by omega)]), rfl⟩)
set_option maxRecDepth 20000 in
set_option maxHeartbeats 4000000 in
theorem m_cargoTold {d n b cg A : Nat} {w : zW} {K : Nat → Nat} (hd : 2 ≤ d) (hV : kV A n K) (hA : A < 1000) (hL : atD w n K) (hb : b < n) (hcg : cg < 64) (hc : w 50 17 = nI cg) : CT mX7_cargoTold d [.ref 50, .int (nI b)] w (z_i fun x w' => nI (k_tl K cg b) = x ∧ w = w') := by
  obtain ⟨v1, v2, v3, v4, v5, v6, v7, v8⟩ := id hV
  obtain ⟨u1, u2, u3, u4, u5, u6⟩ := v8 b hb
  refine CT.of [some (.ref 50), some (.int (nI b))] rfl (Nat.le_of_ble_eq_true rfl) rfl ?_
  refine r_aload_n 1 dX7_cargoTold_0 rfl rfl ?_
  refine r_iload_n 2 dX7_cargoTold_1 rfl rfl ?_
  refine r_iconst 3 (v := 5) dX7_cargoTold_2 (by decide) rfl ?_
  refine r_callV (y2 := mX7_of) (as := [_, _]) 6 dX7_cargoTold_3 ml_X7_166 mv_X7_of (m_of (d := d - 1) (i := b) (j := 5) (by omega) (by decide)) (by omega) sh_50 ⟨_, rfl, rfl⟩ rfl (Nat.le_of_ble_eq_true rfl) rfl (kk_i ?_)
  rintro _ _ ⟨rfl, rfl⟩
  refine r_eq (z := nI (K (6 + 6 * b + 5))) (hL.1 _ (by omega)) ?_
  refine r_if_ne 18 9 dX7_cargoTold_6 (by decide) rfl (fun g6 => ?_) (fun g6 => ?_)
  · have g6 : ¬ K (6 + 6 * b + 5) = 0 := fun z => g6 (by rw [z]; rfl)
    refine r_aload_n 19 dX7_cargoTold_18 rfl rfl ?_
    refine r_geti 22 dX7_cargoTold_19 fz_X7_163 sh_50 rfl rfl ?_
    refine r_eq hc ?_
    refine r_iload_n 23 dX7_cargoTold_22 rfl rfl ?_
    refine r_ishr 24 dX7_cargoTold_23 rfl ?_
    refine r_iconst 25 (v := 1) dX7_cargoTold_24 (by decide) rfl ?_
    refine r_iand 26 dX7_cargoTold_25 rfl ?_
    refine r_eq (b_sh cg hcg b (by omega)) ?_
    refine r_iconst 27 (v := 1) dX7_cargoTold_26 (by decide) rfl ?_
    refine r_icmp_ne 34 30 dX7_cargoTold_27 (by decide) rfl (fun g27 => ?_) (fun g27 => ?_)
    · have g27 : ¬ bi cg b = 1 := fun z => g27 (by rw [z]; rfl)
      refine r_iconst 35 (v := 0) dX7_cargoTold_34 (by decide) rfl ?_
      exact r_iret .int dX7_cargoTold_35 rfl (rfl) (⟨by first | (rw [k_tl, if_pos g6]; done) | (rw [k_tl, if_neg g6, if_pos g27]; rfl) | (rw [k_tl, if_neg g6, if_neg g27]; rfl), rfl⟩)
    · have g27 : bi cg b = 1 := (nI_inj (b := 1) (by have := bi_lt cg b; omega) (by decide)).mp g27
      refine r_iconst 31 (v := 4) dX7_cargoTold_30 (by decide) rfl ?_
      refine r_goto 35 dX7_cargoTold_31 (by decide) ?_
      exact r_iret .int dX7_cargoTold_35 rfl (rfl) (⟨by first | (rw [k_tl, if_pos g6]; done) | (rw [k_tl, if_neg g6, if_pos g27]; rfl) | (rw [k_tl, if_neg g6, if_neg g27]; rfl), rfl⟩)
  · have g6 : K (6 + 6 * b + 5) = 0 := (nI_inj (b := 0) (by omega) (by decide)).mp g6
    refine r_aload_n 10 dX7_cargoTold_9 rfl rfl ?_
    refine r_iload_n 11 dX7_cargoTold_10 rfl rfl ?_
    refine r_iconst 12 (v := 1) dX7_cargoTold_11 (by decide) rfl ?_
    refine r_callV (y2 := mX7_of) (as := [_, _]) 15 dX7_cargoTold_12 ml_X7_166 mv_X7_of (m_of (d := d - 1) (i := b) (j := 1) (by omega) (by decide)) (by omega) sh_50 ⟨_, rfl, rfl⟩ rfl (Nat.le_of_ble_eq_true rfl) rfl (kk_i ?_)
    rintro _ _ ⟨rfl, rfl⟩
    refine r_eq (z := nI (K (6 + 6 * b + 1))) (hL.1 _ (by omega)) ?_
    refine r_goto 35 dX7_cargoTold_15 (by decide) ?_
    exact r_iret .int dX7_cargoTold_35 rfl (rfl) (⟨by first | (rw [k_tl, if_pos g6]; done) | (rw [k_tl, if_neg g6, if_pos g27]; rfl) | (rw [k_tl, if_neg g6, if_neg g27]; rfl), rfl⟩)
set_option maxRecDepth 20000 in
set_option maxHeartbeats 4000000 in
theorem m_opens {d : Nat} {w : zW} : CT mX7_opens d [.ref 50] w (z_v fun w' => w' 50 21 = 0 ∧ w' 50 22 = 0 ∧ w' 50 23 = w 52 2 ∧ w' 50 24 = 0 ∧ w' 50 25 = 0 ∧ (∀ q, q < 21 ∨ 25 < q → w' 50 q = w 50 q) ∧ ∀ a, a ≠ 50 → w' a = w a) := by
  refine CT.of [some (.ref 50)] rfl (Nat.le_of_ble_eq_true rfl) rfl ?_
  refine r_aload_n 1 dX7_opens_0 rfl rfl ?_
  refine r_iconst 2 (v := 0) dX7_opens_1 (by decide) rfl ?_
  refine r_puti 5 dX7_opens_2 fz_X7_169 fw_7_21 sh_50 rfl rfl ?_
  refine r_nw (fun w1 e1 => ?_)
  refine r_aload_n 6 dX7_opens_5 rfl rfl ?_
  refine r_iconst 7 (v := 0) dX7_opens_6 (by decide) rfl ?_
  refine r_puti 10 dX7_opens_7 fz_X7_172 fw_7_22 sh_50 rfl rfl ?_
  refine r_nw (fun w2 e2 => ?_)
  refine r_aload_n 11 dX7_opens_10 rfl rfl ?_
  refine r_aload_n 12 dX7_opens_11 rfl rfl ?_
  refine r_getr 15 dX7_opens_12 fz_X7_13 sh_50 rfl rfl ?_
  refine r_iconst 16 (v := 2) dX7_opens_15 (by decide) rfl ?_
  refine rj_iald 17 (2) dX7_opens_16 sh_52 (rfl) (by decide) (by decide) rfl ?_
  refine r_puti 20 dX7_opens_17 fz_X7_175 fw_7_23 sh_50 rfl rfl ?_
  refine r_nw (fun w3 e3 => ?_)
  refine r_aload_n 21 dX7_opens_20 rfl rfl ?_
  refine r_iconst 22 (v := 0) dX7_opens_21 (by decide) rfl ?_
  refine r_puti 25 dX7_opens_22 fz_X7_178 fw_7_24 sh_50 rfl rfl ?_
  refine r_nw (fun w4 e4 => ?_)
  refine r_aload_n 26 dX7_opens_25 rfl rfl ?_
  refine r_iconst 27 (v := 0) dX7_opens_26 (by decide) rfl ?_
  refine r_puti 30 dX7_opens_27 fz_X7_181 fw_7_25 sh_50 rfl rfl ?_
  refine r_nw (fun w5 e5 => ?_)
  exact r_vret dX7_opens_30 rfl (⟨by rw [e5, z_up_i (by decide), e4, z_up_i (by decide), e3, z_up_i (by decide), e2, z_up_i (by decide), e1, z_up_s], by rw [e5, z_up_i (by decide), e4, z_up_i (by decide), e3, z_up_i (by decide), e2, z_up_s], by rw [e5, z_up_i (by decide), e4, z_up_i (by decide), e3, z_up_s, e2, z_up_a (by decide), e1, z_up_a (by decide)], by rw [e5, z_up_i (by decide), e4, z_up_s], by rw [e5, z_up_s], fun q hq => by rw [e5, z_up_i (by omega), e4, z_up_i (by omega), e3, z_up_i (by omega), e2, z_up_i (by omega), e1, z_up_i (by omega)], fun a ha => by rw [e5, z_up_o ha, e4, z_up_o ha, e3, z_up_o ha, e2, z_up_o ha, e1, z_up_o ha]⟩)
set_option maxRecDepth 20000 in
set_option maxHeartbeats 4000000 in
theorem m_sideOf {d n i b A : Nat} {w : zW} {K : Nat → Nat} (hd : 2 ≤ d) (hV : kV A n K) (hA : A < 1000) (hL : atD w n K) (hi : i < 6) (hp : w 56 i = nI b) (hb : b < n) : CT mX7_sideOf d [.ref 50, .int (nI i)] w (z_i fun x w' => nI (k_sd K b) = x ∧ w = w') := by
  have hn := hV.n
  refine CT.of [some (.ref 50), some (.int (nI i))] rfl (Nat.le_of_ble_eq_true rfl) rfl ?_
  refine r_aload_n 1 dX7_sideOf_0 rfl rfl ?_
  refine r_aload_n 2 dX7_sideOf_1 rfl rfl ?_
  refine r_getr 5 dX7_sideOf_2 fz_X7_26 sh_50 rfl rfl ?_
  refine r_iload_n 6 dX7_sideOf_5 rfl rfl ?_
  refine rj_iald 7 (i) dX7_sideOf_6 sh_56 (rfl) (hi) (by decide) rfl ?_
  refine r_eq hp ?_
  refine r_iconst 8 (v := 0) dX7_sideOf_7 (by decide) rfl ?_
  refine r_callV (y2 := mX7_of) (as := [_, _]) 11 dX7_sideOf_8 ml_X7_166 mv_X7_of (m_of (d := d - 1) (i := b) (j := 0) (by omega) (by decide)) (by omega) sh_50 ⟨_, rfl, rfl⟩ rfl (Nat.le_of_ble_eq_true rfl) rfl (kk_i ?_)
  rintro _ _ ⟨rfl, rfl⟩
  refine r_eq (z := nI (k_sd K b)) (hL.1 _ (by have := hV.n; omega)) ?_
  exact r_iret .int dX7_sideOf_11 rfl (rfl) (⟨rfl, rfl⟩)
set_option maxRecDepth 20000 in
set_option maxHeartbeats 4000000 in
theorem l_comeFrom {d n g s A : Nat} {w : zW} {K : Nat → Nat} {T : zX → Prop} (hd : 2 ≤ d) (hV : kV A n K) (hA : A < 1000) (hL : atD w n K) (hg : g < 64) (hs : s < 2) (hx : WP mX7_comeFrom d T 55 [some (.ref 50), some (.int (nI g)), some (.int (nI s)), some (.int (nI (mk n (fun b => bi g b == 1 && (k_sd K b == s))))), some (.int (nI n))] [] w) : ∀ k i, i + k = n → WP mX7_comeFrom d T 5 [some (.ref 50), some (.int (nI g)), some (.int (nI s)), some (.int (nI (mk i (fun b => bi g b == 1 && (k_sd K b == s))))), some (.int (nI i))] [] w := by
  have hn := hV.n
  intro k
  induction k with
  | zero =>
    intro i hi
    have e : i = n := by omega
    subst e
    refine r_iload 7 dX7_comeFrom_5 rfl rfl ?_
    refine r_aload_n 8 dX7_comeFrom_7 rfl rfl ?_
    refine r_geti 11 dX7_comeFrom_8 fz_X7_69 sh_50 rfl rfl ?_
    refine r_icmp_ge 55 14 dX7_comeFrom_11 (by decide) rfl (fun _ => ?_) (fun z => absurd (by rw [hL.2]; exact Int32.le_refl _) z)
    exact hx
  | succ k ih =>
    intro i hi
    refine r_iload 7 dX7_comeFrom_5 rfl rfl ?_
    refine r_aload_n 8 dX7_comeFrom_7 rfl rfl ?_
    refine r_geti 11 dX7_comeFrom_8 fz_X7_69 sh_50 rfl rfl ?_
    refine r_icmp_ge 55 14 dX7_comeFrom_11 (by decide) rfl (fun z => absurd z (by rw [hL.2, nI_le' (by omega) (by omega)]; omega)) (fun _ => ?_)
    refine r_iload_n 15 dX7_comeFrom_14 rfl rfl ?_
    refine r_iload_n 16 dX7_comeFrom_15 rfl rfl ?_
    refine r_iload 18 dX7_comeFrom_16 rfl rfl ?_
    refine r_ishr 19 dX7_comeFrom_18 rfl ?_
    refine r_iconst 20 (v := 1) dX7_comeFrom_19 (by decide) rfl ?_
    refine r_iand 21 dX7_comeFrom_20 rfl ?_
    refine r_eq (b_sh g hg i (by omega)) ?_
    refine r_iconst 22 (v := 1) dX7_comeFrom_21 (by decide) rfl ?_
    refine r_icmp_ne 40 25 dX7_comeFrom_22 (by decide) rfl (fun g22 => ?_) (fun g22 => ?_)
    · have g22 : ¬ bi g i = 1 := fun z => g22 (by rw [z]; rfl)
      refine r_iconst 41 (v := 0) dX7_comeFrom_40 (by decide) rfl ?_
      first
        | refine r_eq (z_b1 (p := bi g i = 1 ∧ k_sd K i = s) ⟨g22, g33⟩) ?_
        | refine r_eq (z_b0 (p := bi g i = 1 ∧ k_sd K i = s) (fun z => by first | exact g22 z.1 | exact g33 z.2)) ?_
      refine r_callS (y2 := mX7_flag) (as := [_]) 44 dX7_comeFrom_41 ml_X7_184 ms_X7_flag (m_flag (d := d - 1) _) (by omega) rfl (Nat.le_of_ble_eq_true rfl) rfl (kk_i ?_)
      rintro _ _ ⟨rfl, rfl⟩
      refine r_iload 46 dX7_comeFrom_44 rfl rfl ?_
      refine r_ishl 47 dX7_comeFrom_46 rfl ?_
      refine r_ior 48 dX7_comeFrom_47 rfl ?_
      refine r_eq (z := nI (mk (i + 1) (fun b => bi g b == 1 && (k_sd K b == s)))) (by rw [or_step (mk_64 (by omega)) (by omega) (mk_top (by omega)), mk]; congr 2; simp) ?_
      refine r_istore_n 49 (L' := [_, _, _, _, _]) dX7_comeFrom_48 (by decide) rfl rfl rfl ?_
      refine r_iinc 52 (L' := [_, _, _, _, _]) (v := nI (i + 1)) dX7_comeFrom_49 rfl (nI_1 i) (by decide) rfl rfl rfl ?_
      refine r_goto 5 dX7_comeFrom_52 (by decide) ?_
      exact ih (i + 1) (by omega)
    · have g22 : bi g i = 1 := (nI_inj (b := 1) (by have := bi_lt g i; omega) (by decide)).mp g22
      refine r_aload_n 26 dX7_comeFrom_25 rfl rfl ?_
      refine r_iload 28 dX7_comeFrom_26 rfl rfl ?_
      refine r_iconst 29 (v := 0) dX7_comeFrom_28 (by decide) rfl ?_
      refine r_callV (y2 := mX7_of) (as := [_, _]) 32 dX7_comeFrom_29 ml_X7_166 mv_X7_of (m_of (d := d - 1) (i := i) (j := 0) (by omega) (by decide)) (by omega) sh_50 ⟨_, rfl, rfl⟩ rfl (Nat.le_of_ble_eq_true rfl) rfl (kk_i ?_)
      rintro _ _ ⟨rfl, rfl⟩
      refine r_eq (z := nI (k_sd K i)) (hL.1 _ (by omega)) ?_
      refine r_iload_n 33 dX7_comeFrom_32 rfl rfl ?_
      refine r_icmp_ne 40 36 dX7_comeFrom_33 (by decide) rfl (fun g33 => ?_) (fun g33 => ?_)
      · have g33 : ¬ k_sd K i = s := fun z => g33 (by rw [z])
        refine r_iconst 41 (v := 0) dX7_comeFrom_40 (by decide) rfl ?_
        first
          | refine r_eq (z_b1 (p := bi g i = 1 ∧ k_sd K i = s) ⟨g22, g33⟩) ?_
          | refine r_eq (z_b0 (p := bi g i = 1 ∧ k_sd K i = s) (fun z => by first | exact g22 z.1 | exact g33 z.2)) ?_
        refine r_callS (y2 := mX7_flag) (as := [_]) 44 dX7_comeFrom_41 ml_X7_184 ms_X7_flag (m_flag (d := d - 1) _) (by omega) rfl (Nat.le_of_ble_eq_true rfl) rfl (kk_i ?_)
        rintro _ _ ⟨rfl, rfl⟩
        refine r_iload 46 dX7_comeFrom_44 rfl rfl ?_
        refine r_ishl 47 dX7_comeFrom_46 rfl ?_
        refine r_ior 48 dX7_comeFrom_47 rfl ?_
        refine r_eq (z := nI (mk (i + 1) (fun b => bi g b == 1 && (k_sd K b == s)))) (by rw [or_step (mk_64 (by omega)) (by omega) (mk_top (by omega)), mk]; congr 2; simp) ?_
        refine r_istore_n 49 (L' := [_, _, _, _, _]) dX7_comeFrom_48 (by decide) rfl rfl rfl ?_
        refine r_iinc 52 (L' := [_, _, _, _, _]) (v := nI (i + 1)) dX7_comeFrom_49 rfl (nI_1 i) (by decide) rfl rfl rfl ?_
        refine r_goto 5 dX7_comeFrom_52 (by decide) ?_
        exact ih (i + 1) (by omega)
      · have g33 : k_sd K i = s := (nI_inj (by have := hV.sd (b := i) (by omega); omega) (by omega)).mp g33
        refine r_iconst 37 (v := 1) dX7_comeFrom_36 (by decide) rfl ?_
        refine r_goto 41 dX7_comeFrom_37 (by decide) ?_
        first
          | refine r_eq (z_b1 (p := bi g i = 1 ∧ k_sd K i = s) ⟨g22, g33⟩) ?_
          | refine r_eq (z_b0 (p := bi g i = 1 ∧ k_sd K i = s) (fun z => by first | exact g22 z.1 | exact g33 z.2)) ?_
        refine r_callS (y2 := mX7_flag) (as := [_]) 44 dX7_comeFrom_41 ml_X7_184 ms_X7_flag (m_flag (d := d - 1) _) (by omega) rfl (Nat.le_of_ble_eq_true rfl) rfl (kk_i ?_)
        rintro _ _ ⟨rfl, rfl⟩
        refine r_iload 46 dX7_comeFrom_44 rfl rfl ?_
        refine r_ishl 47 dX7_comeFrom_46 rfl ?_
        refine r_ior 48 dX7_comeFrom_47 rfl ?_
        refine r_eq (z := nI (mk (i + 1) (fun b => bi g b == 1 && (k_sd K b == s)))) (by rw [or_step (mk_64 (by omega)) (by omega) (mk_top (by omega)), mk]; congr 2; simp) ?_
        refine r_istore_n 49 (L' := [_, _, _, _, _]) dX7_comeFrom_48 (by decide) rfl rfl rfl ?_
        refine r_iinc 52 (L' := [_, _, _, _, _]) (v := nI (i + 1)) dX7_comeFrom_49 rfl (nI_1 i) (by decide) rfl rfl rfl ?_
        refine r_goto 5 dX7_comeFrom_52 (by decide) ?_
        exact ih (i + 1) (by omega)
set_option maxRecDepth 20000 in
set_option maxHeartbeats 4000000 in
theorem m_comeFrom {d n g s A : Nat} {w : zW} {K : Nat → Nat} (hd : 2 ≤ d) (hV : kV A n K) (hA : A < 1000) (hL : atD w n K) (hg : g < 64) (hs : s < 2) : CT mX7_comeFrom d [.ref 50, .int (nI g), .int (nI s)] w (z_i fun x w' => nI (mk n (fun b => bi g b == 1 && (k_sd K b == s))) = x ∧ w = w') := by
  refine CT.of [some (.ref 50), some (.int (nI g)), some (.int (nI s)), none, none] rfl (Nat.le_of_ble_eq_true rfl) rfl ?_
  refine r_iconst 1 (v := 0) dX7_comeFrom_0 (by decide) rfl ?_
  refine r_istore_n 2 (L' := [_, _, _, _, _]) dX7_comeFrom_1 (by decide) rfl rfl rfl ?_
  refine r_iconst 3 (v := 0) dX7_comeFrom_2 (by decide) rfl ?_
  refine r_istore 5 (L' := [_, _, _, _, _]) dX7_comeFrom_3 (by decide) rfl rfl rfl ?_
  refine l_comeFrom hd hV hA hL hg hs ?_ n 0 (Nat.zero_add n)
  refine r_iload_n 56 dX7_comeFrom_55 rfl rfl ?_
  exact r_iret .int dX7_comeFrom_56 rfl (rfl) (⟨rfl, rfl⟩)
set_option maxRecDepth 20000 in
set_option maxHeartbeats 4000000 in
theorem l_bitsOf {d g : Nat} {w : zW} {T : zX → Prop} (hg : g < 64) (hx : WP mX7_bitsOf d T 24 [some (.int (nI g)), some (.int (nI (sm 6 (bi g)))), some (.int (nI 6))] [] w) : ∀ k i, i + k = 6 → WP mX7_bitsOf d T 4 [some (.int (nI g)), some (.int (nI (sm i (bi g)))), some (.int (nI i))] [] w := by
  intro k
  induction k with
  | zero =>
    intro i hi
    have e : i = 6 := by omega
    subst e
    refine r_iload_n 5 dX7_bitsOf_4 rfl rfl ?_
    refine r_bipush 7 (v := 6) dX7_bitsOf_5 (by decide) rfl ?_
    refine r_icmp_ge 24 10 dX7_bitsOf_7 (by decide) rfl (fun _ => ?_) (fun z => absurd (by decide) z)
    exact hx
  | succ k ih =>
    intro i hi
    refine r_iload_n 5 dX7_bitsOf_4 rfl rfl ?_
    refine r_bipush 7 (v := 6) dX7_bitsOf_5 (by decide) rfl ?_
    refine r_icmp_ge 24 10 dX7_bitsOf_7 (by decide) rfl (fun z => absurd z (fun z => by have := (nI_le' (a := 6) (by decide) (by omega)).mp z; omega)) (fun _ => ?_)
    refine r_iload_n 11 dX7_bitsOf_10 rfl rfl ?_
    refine r_iload_n 12 dX7_bitsOf_11 rfl rfl ?_
    refine r_iload_n 13 dX7_bitsOf_12 rfl rfl ?_
    refine r_ishr 14 dX7_bitsOf_13 rfl ?_
    refine r_iconst 15 (v := 1) dX7_bitsOf_14 (by decide) rfl ?_
    refine r_iand 16 dX7_bitsOf_15 rfl ?_
    refine r_eq (b_sh g hg i (by omega)) ?_
    refine r_iadd 17 dX7_bitsOf_16 rfl ?_
    refine r_eq (nI_add _ _) ?_
    refine r_istore_n 18 (L' := [_, _, _]) dX7_bitsOf_17 (by decide) rfl rfl rfl ?_
    refine r_iinc 21 (L' := [_, _, _]) (v := nI (i + 1)) dX7_bitsOf_18 rfl (nI_1 i) (by decide) rfl rfl rfl ?_
    refine r_goto 4 dX7_bitsOf_21 (by decide) ?_
    exact ih (i + 1) (by omega)
set_option maxRecDepth 20000 in
set_option maxHeartbeats 4000000 in
theorem m_bitsOf {d g : Nat} {w : zW} (hg : g < 64) : CT mX7_bitsOf d [.int (nI g)] w (z_i fun x w' => nI (sm 6 (bi g)) = x ∧ w = w') := by
  refine CT.of [some (.int (nI g)), none, none] rfl (Nat.le_of_ble_eq_true rfl) rfl ?_
  refine r_iconst 1 (v := 0) dX7_bitsOf_0 (by decide) rfl ?_
  refine r_istore_n 2 (L' := [_, _, _]) dX7_bitsOf_1 (by decide) rfl rfl rfl ?_
  refine r_iconst 3 (v := 0) dX7_bitsOf_2 (by decide) rfl ?_
  refine r_istore_n 4 (L' := [_, _, _]) dX7_bitsOf_3 (by decide) rfl rfl rfl ?_
  refine l_bitsOf hg ?_ 6 0 rfl
  refine r_iload_n 25 dX7_bitsOf_24 rfl rfl ?_
  exact r_iret .int dX7_bitsOf_25 rfl (rfl) (⟨rfl, rfl⟩)
set_option maxRecDepth 20000 in
set_option maxHeartbeats 4000000 in
theorem m_preferred {d n g s A : Nat} {w : zW} {K : Nat → Nat} (hd : 3 ≤ d) (hV : kV A n K) (hA : A < 1000) (hL : atD w n K) (hg : g < 64) (hs : s < 2) : CT mX7_preferred d [.ref 50, .int (nI g), .int (nI s)] w (z_i fun x w' => nI (if mk n (fun b => bi g b == 1 && (k_sd K b == s)) = 0 then g else mk n (fun b => bi g b == 1 && (k_sd K b == s))) = x ∧ w = w') := by
  refine CT.of [some (.ref 50), some (.int (nI g)), some (.int (nI s)), none] rfl (Nat.le_of_ble_eq_true rfl) rfl ?_
  refine r_aload_n 1 dX7_preferred_0 rfl rfl ?_
  refine r_iload_n 2 dX7_preferred_1 rfl rfl ?_
  refine r_iload_n 3 dX7_preferred_2 rfl rfl ?_
  refine r_callV (y2 := mX7_comeFrom) (as := [_, _]) 6 dX7_preferred_3 ml_X7_188 mv_X7_comeFrom (m_comeFrom (d := d - 1) (by omega) hV hA hL hg hs) (by omega) sh_50 ⟨_, rfl, rfl⟩ rfl (Nat.le_of_ble_eq_true rfl) rfl (kk_i ?_)
  rintro _ _ ⟨rfl, rfl⟩
  refine r_istore_n 7 (L' := [_, _, _, _]) dX7_preferred_6 (by decide) rfl rfl rfl ?_
  refine r_iload_n 8 dX7_preferred_7 rfl rfl ?_
  refine r_if_ne 15 11 dX7_preferred_8 (by decide) rfl (fun g8 => ?_) (fun g8 => ?_)
  · have g8 : ¬ mk n (fun b => bi g b == 1 && (k_sd K b == s)) = 0 := fun z => g8 (by rw [z]; rfl)
    refine r_iload_n 16 dX7_preferred_15 rfl rfl ?_
    exact r_iret .int dX7_preferred_16 rfl (rfl) (⟨by first | (rw [if_pos g8]; done) | rw [if_neg g8], rfl⟩)
  · have g8 : mk n (fun b => bi g b == 1 && (k_sd K b == s)) = 0 := (nI_inj (b := 0) (by have := mk_64 (p := (fun b => bi g b == 1 && (k_sd K b == s))) hV.n; omega) (by decide)).mp g8
    refine r_iload_n 12 dX7_preferred_11 rfl rfl ?_
    refine r_goto 16 dX7_preferred_12 (by decide) ?_
    exact r_iret .int dX7_preferred_16 rfl (rfl) (⟨by first | (rw [if_pos g8]; done) | rw [if_neg g8], rfl⟩)
set_option maxRecDepth 20000 in
set_option maxHeartbeats 4000000 in
theorem l_counting {d n g f A : Nat} {w : zW} {K : Nat → Nat} {T : zX → Prop} (hd : 3 ≤ d) (hV : kV A n K) (hA : A < 1000) (hL : atD w n K) (hg : g < 64) (hf : w 50 22 = nI f) (hf1 : f < 1000) (hx : WP mX7_counting d T 52 [some (.ref 50), some (.int (nI g)), some (.int (nI (mk n (fun b => bi g b == 1 && decide (k_ct K b ≤ f))))), some (.int (nI n))] [] w) : ∀ k i, i + k = n → WP mX7_counting d T 4 [some (.ref 50), some (.int (nI g)), some (.int (nI (mk i (fun b => bi g b == 1 && decide (k_ct K b ≤ f))))), some (.int (nI i))] [] w := by
  have hn := hV.n
  intro k
  induction k with
  | zero =>
    intro i hi
    have e : i = n := by omega
    subst e
    refine r_iload_n 5 dX7_counting_4 rfl rfl ?_
    refine r_aload_n 6 dX7_counting_5 rfl rfl ?_
    refine r_geti 9 dX7_counting_6 fz_X7_69 sh_50 rfl rfl ?_
    refine r_icmp_ge 52 12 dX7_counting_9 (by decide) rfl (fun _ => ?_) (fun z => absurd (by rw [hL.2]; exact Int32.le_refl _) z)
    exact hx
  | succ k ih =>
    intro i hi
    refine r_iload_n 5 dX7_counting_4 rfl rfl ?_
    refine r_aload_n 6 dX7_counting_5 rfl rfl ?_
    refine r_geti 9 dX7_counting_6 fz_X7_69 sh_50 rfl rfl ?_
    refine r_icmp_ge 52 12 dX7_counting_9 (by decide) rfl (fun z => absurd z (by rw [hL.2, nI_le' (by omega) (by omega)]; omega)) (fun _ => ?_)
    refine r_iload_n 13 dX7_counting_12 rfl rfl ?_
    refine r_iload_n 14 dX7_counting_13 rfl rfl ?_
    refine r_iload_n 15 dX7_counting_14 rfl rfl ?_
    refine r_ishr 16 dX7_counting_15 rfl ?_
    refine r_iconst 17 (v := 1) dX7_counting_16 (by decide) rfl ?_
    refine r_iand 18 dX7_counting_17 rfl ?_
    refine r_eq (b_sh g hg i (by omega)) ?_
    refine r_iconst 19 (v := 1) dX7_counting_18 (by decide) rfl ?_
    refine r_icmp_ne 38 22 dX7_counting_19 (by decide) rfl (fun g19 => ?_) (fun g19 => ?_)
    · have g19 : ¬ bi g i = 1 := fun z => g19 (by rw [z]; rfl)
      refine r_iconst 39 (v := 0) dX7_counting_38 (by decide) rfl ?_
      first
        | refine r_eq (z_b1 (p := bi g i = 1 ∧ k_ct K i ≤ f) ⟨g19, g31⟩) ?_
        | refine r_eq (z_b0 (p := bi g i = 1 ∧ k_ct K i ≤ f) (fun z => by first | exact g19 z.1 | exact g31 z.2)) ?_
      refine r_callS (y2 := mX7_flag) (as := [_]) 42 dX7_counting_39 ml_X7_184 ms_X7_flag (m_flag (d := d - 1) _) (by omega) rfl (Nat.le_of_ble_eq_true rfl) rfl (kk_i ?_)
      rintro _ _ ⟨rfl, rfl⟩
      refine r_iload_n 43 dX7_counting_42 rfl rfl ?_
      refine r_ishl 44 dX7_counting_43 rfl ?_
      refine r_ior 45 dX7_counting_44 rfl ?_
      refine r_eq (z := nI (mk (i + 1) (fun b => bi g b == 1 && decide (k_ct K b ≤ f)))) (by rw [or_step (mk_64 (by omega)) (by omega) (mk_top (by omega)), mk]; congr 2; simp) ?_
      refine r_istore_n 46 (L' := [_, _, _, _]) dX7_counting_45 (by decide) rfl rfl rfl ?_
      refine r_iinc 49 (L' := [_, _, _, _]) (v := nI (i + 1)) dX7_counting_46 rfl (nI_1 i) (by decide) rfl rfl rfl ?_
      refine r_goto 4 dX7_counting_49 (by decide) ?_
      exact ih (i + 1) (by omega)
    · have g19 : bi g i = 1 := (nI_inj (b := 1) (by have := bi_lt g i; omega) (by decide)).mp g19
      refine r_aload_n 23 dX7_counting_22 rfl rfl ?_
      refine r_iload_n 24 dX7_counting_23 rfl rfl ?_
      refine r_callV (y2 := mX7_countsFrom) (as := [_]) 27 dX7_counting_24 ml_X7_207 mv_X7_countsFrom (m_countsFrom (d := d - 1) (by omega) hV hA hL (b := i) (by omega)) (by omega) sh_50 ⟨_, rfl, rfl⟩ rfl (Nat.le_of_ble_eq_true rfl) rfl (kk_i ?_)
      rintro _ _ ⟨rfl, rfl⟩
      refine r_aload_n 28 dX7_counting_27 rfl rfl ?_
      refine r_geti 31 dX7_counting_28 fz_X7_172 sh_50 rfl rfl ?_
      refine r_eq hf ?_
      refine r_icmp_gt 38 34 dX7_counting_31 (by decide) rfl (fun g31 => ?_) (fun g31 => ?_)
      · have g31 : ¬ k_ct K i ≤ f := by
          have := (nI_lt' (by omega) (by have := hV.ct (b := i) (by omega); omega)).mp g31
          omega
        refine r_iconst 39 (v := 0) dX7_counting_38 (by decide) rfl ?_
        first
          | refine r_eq (z_b1 (p := bi g i = 1 ∧ k_ct K i ≤ f) ⟨g19, g31⟩) ?_
          | refine r_eq (z_b0 (p := bi g i = 1 ∧ k_ct K i ≤ f) (fun z => by first | exact g19 z.1 | exact g31 z.2)) ?_
        refine r_callS (y2 := mX7_flag) (as := [_]) 42 dX7_counting_39 ml_X7_184 ms_X7_flag (m_flag (d := d - 1) _) (by omega) rfl (Nat.le_of_ble_eq_true rfl) rfl (kk_i ?_)
        rintro _ _ ⟨rfl, rfl⟩
        refine r_iload_n 43 dX7_counting_42 rfl rfl ?_
        refine r_ishl 44 dX7_counting_43 rfl ?_
        refine r_ior 45 dX7_counting_44 rfl ?_
        refine r_eq (z := nI (mk (i + 1) (fun b => bi g b == 1 && decide (k_ct K b ≤ f)))) (by rw [or_step (mk_64 (by omega)) (by omega) (mk_top (by omega)), mk]; congr 2; simp) ?_
        refine r_istore_n 46 (L' := [_, _, _, _]) dX7_counting_45 (by decide) rfl rfl rfl ?_
        refine r_iinc 49 (L' := [_, _, _, _]) (v := nI (i + 1)) dX7_counting_46 rfl (nI_1 i) (by decide) rfl rfl rfl ?_
        refine r_goto 4 dX7_counting_49 (by decide) ?_
        exact ih (i + 1) (by omega)
      · have g31 : k_ct K i ≤ f := by
          have : ¬ f < k_ct K i := fun z => g31 ((nI_lt' (by omega) (by have := hV.ct (b := i) (by omega); omega)).mpr z)
          omega
        refine r_iconst 35 (v := 1) dX7_counting_34 (by decide) rfl ?_
        refine r_goto 39 dX7_counting_35 (by decide) ?_
        first
          | refine r_eq (z_b1 (p := bi g i = 1 ∧ k_ct K i ≤ f) ⟨g19, g31⟩) ?_
          | refine r_eq (z_b0 (p := bi g i = 1 ∧ k_ct K i ≤ f) (fun z => by first | exact g19 z.1 | exact g31 z.2)) ?_
        refine r_callS (y2 := mX7_flag) (as := [_]) 42 dX7_counting_39 ml_X7_184 ms_X7_flag (m_flag (d := d - 1) _) (by omega) rfl (Nat.le_of_ble_eq_true rfl) rfl (kk_i ?_)
        rintro _ _ ⟨rfl, rfl⟩
        refine r_iload_n 43 dX7_counting_42 rfl rfl ?_
        refine r_ishl 44 dX7_counting_43 rfl ?_
        refine r_ior 45 dX7_counting_44 rfl ?_
        refine r_eq (z := nI (mk (i + 1) (fun b => bi g b == 1 && decide (k_ct K b ≤ f)))) (by rw [or_step (mk_64 (by omega)) (by omega) (mk_top (by omega)), mk]; congr 2; simp) ?_
        refine r_istore_n 46 (L' := [_, _, _, _]) dX7_counting_45 (by decide) rfl rfl rfl ?_
        refine r_iinc 49 (L' := [_, _, _, _]) (v := nI (i + 1)) dX7_counting_46 rfl (nI_1 i) (by decide) rfl rfl rfl ?_
        refine r_goto 4 dX7_counting_49 (by decide) ?_
        exact ih (i + 1) (by omega)
set_option maxRecDepth 20000 in
set_option maxHeartbeats 4000000 in
theorem m_counting {d n g f A : Nat} {w : zW} {K : Nat → Nat} (hd : 3 ≤ d) (hV : kV A n K) (hA : A < 1000) (hL : atD w n K) (hg : g < 64) (hf : w 50 22 = nI f) (hf1 : f < 1000) : CT mX7_counting d [.ref 50, .int (nI g)] w (z_i fun x w' => nI (mk n (fun b => bi g b == 1 && decide (k_ct K b ≤ f))) = x ∧ w = w') := by
  refine CT.of [some (.ref 50), some (.int (nI g)), none, none] rfl (Nat.le_of_ble_eq_true rfl) rfl ?_
  refine r_iconst 1 (v := 0) dX7_counting_0 (by decide) rfl ?_
  refine r_istore_n 2 (L' := [_, _, _, _]) dX7_counting_1 (by decide) rfl rfl rfl ?_
  refine r_iconst 3 (v := 0) dX7_counting_2 (by decide) rfl ?_
  refine r_istore_n 4 (L' := [_, _, _, _]) dX7_counting_3 (by decide) rfl rfl rfl ?_
  refine l_counting hd hV hA hL hg hf hf1 ?_ n 0 (Nat.zero_add n)
  refine r_iload_n 53 dX7_counting_52 rfl rfl ?_
  exact r_iret .int dX7_counting_53 rfl (rfl) (⟨rfl, rfl⟩)
set_option maxRecDepth 20000 in
set_option maxHeartbeats 4000000 in
theorem l_earliest {d n g A : Nat} {w : zW} {K : Nat → Nat} {T : zX → Prop} (hd : 3 ≤ d) (hV : kV A n K) (hA : A < 1000) (hL : atD w n K) (hg : g < 64) (hx : WP mX7_earliest d T 65 [some (.ref 50), some (.int (nI g)), some (.int (fbO (am n (fun b => bi g b == 1) (k_ct K)))), some (.int (nI n)), none] [] w) : ∀ k i, i + k = n → WP mX7_earliest d T 5 [some (.ref 50), some (.int (nI g)), some (.int (fbO (am i (fun b => bi g b == 1) (k_ct K)))), some (.int (nI i)), none] [] w := by
  have hn := hV.n
  intro k
  induction k with
  | zero =>
    intro i hi
    have e : i = n := by omega
    subst e
    refine r_iload_n 6 dX7_earliest_5 rfl rfl ?_
    refine r_aload_n 7 dX7_earliest_6 rfl rfl ?_
    refine r_geti 10 dX7_earliest_7 fz_X7_69 sh_50 rfl rfl ?_
    refine r_icmp_ge 65 13 dX7_earliest_10 (by decide) rfl (fun _ => ?_) (fun z => absurd (by rw [hL.2]; exact Int32.le_refl _) z)
    exact hx
  | succ k ih =>
    intro i hi
    have hct := hV.ct (b := i) (by omega)
    have nx := ih (i + 1) (by omega)
    rw [am] at nx
    cases h0 : (am i (fun b => bi g b == 1) (k_ct K)) with
    | none =>
      rw [h0] at nx
      refine r_iload_n 6 dX7_earliest_5 rfl rfl ?_
      refine r_aload_n 7 dX7_earliest_6 rfl rfl ?_
      refine r_geti 10 dX7_earliest_7 fz_X7_69 sh_50 rfl rfl ?_
      refine r_icmp_ge 65 13 dX7_earliest_10 (by decide) rfl (fun z => absurd z (by rw [hL.2, nI_le' (by omega) (by omega)]; omega)) (fun _ => ?_)
      refine r_iload_n 14 dX7_earliest_13 rfl rfl ?_
      refine r_iload_n 15 dX7_earliest_14 rfl rfl ?_
      refine r_ishr 16 dX7_earliest_15 rfl ?_
      refine r_iconst 17 (v := 1) dX7_earliest_16 (by decide) rfl ?_
      refine r_iand 18 dX7_earliest_17 rfl ?_
      refine r_eq (b_sh g hg i (by omega)) ?_
      refine r_iconst 19 (v := 1) dX7_earliest_18 (by decide) rfl ?_
      refine r_icmp_ne 45 22 dX7_earliest_19 (by decide) rfl (fun g19 => ?_) (fun g19 => ?_)
      · have g19 : ¬ bi g i = 1 := fun z => g19 (by rw [z]; rfl)
        simp only [beq_iff_eq, g19] at nx
        refine r_iconst 46 (v := 0) dX7_earliest_45 (by decide) rfl ?_
        refine r_istore 48 (L' := [_, _, _, _, _]) dX7_earliest_46 (by decide) rfl rfl rfl ?_
        refine r_iload 50 dX7_earliest_48 rfl rfl ?_
        refine r_if_eq 57 53 dX7_earliest_50 (by decide) rfl (fun _ => ?_) (fun z => absurd (by decide) z)
        refine r_iload_n 58 dX7_earliest_57 rfl rfl ?_
        refine r_istore_n 59 (L' := [_, _, _, _, _]) dX7_earliest_58 (by decide) rfl rfl rfl ?_
        refine r_iinc 62 (L' := [_, _, _, _, _]) (v := nI (i + 1)) dX7_earliest_59 rfl (nI_1 i) (by decide) rfl rfl rfl ?_
        refine r_goto 5 dX7_earliest_62 (by decide) ?_
        refine r_drop 4 (L' := [_, _, _, _, _]) rfl ?_
        exact nx
      · have g19 : bi g i = 1 := (nI_inj (b := 1) (by have := bi_lt g i; omega) (by decide)).mp g19
        simp only [beq_iff_eq, g19] at nx
        refine r_iload_n 23 dX7_earliest_22 rfl rfl ?_
        refine r_bipush 25 (v := -4) dX7_earliest_23 (by decide) rfl ?_
        refine r_icmp_eq 41 28 dX7_earliest_25 (by decide) rfl (fun _ => ?_) (fun z => absurd ((rfl : fbO none = -4)) z)
        refine r_iconst 42 (v := 1) dX7_earliest_41 (by decide) rfl ?_
        refine r_goto 46 dX7_earliest_42 (by decide) ?_
        refine r_istore 48 (L' := [_, _, _, _, _]) dX7_earliest_46 (by decide) rfl rfl rfl ?_
        refine r_iload 50 dX7_earliest_48 rfl rfl ?_
        refine r_if_eq 57 53 dX7_earliest_50 (by decide) rfl (fun z => absurd z (by decide)) (fun _ => ?_)
        refine r_iload_n 54 dX7_earliest_53 rfl rfl ?_
        refine r_goto 58 dX7_earliest_54 (by decide) ?_
        refine r_istore_n 59 (L' := [_, _, _, _, _]) dX7_earliest_58 (by decide) rfl rfl rfl ?_
        refine r_iinc 62 (L' := [_, _, _, _, _]) (v := nI (i + 1)) dX7_earliest_59 rfl (nI_1 i) (by decide) rfl rfl rfl ?_
        refine r_goto 5 dX7_earliest_62 (by decide) ?_
        refine r_drop 4 (L' := [_, _, _, _, _]) rfl ?_
        exact nx
    | some b0 =>
      rw [h0] at nx
      obtain ⟨z1, z2, z3, z4⟩ := am_some h0
      have hct0 := hV.ct (b := b0) (by omega)
      refine r_iload_n 6 dX7_earliest_5 rfl rfl ?_
      refine r_aload_n 7 dX7_earliest_6 rfl rfl ?_
      refine r_geti 10 dX7_earliest_7 fz_X7_69 sh_50 rfl rfl ?_
      refine r_icmp_ge 65 13 dX7_earliest_10 (by decide) rfl (fun z => absurd z (by rw [hL.2, nI_le' (by omega) (by omega)]; omega)) (fun _ => ?_)
      refine r_iload_n 14 dX7_earliest_13 rfl rfl ?_
      refine r_iload_n 15 dX7_earliest_14 rfl rfl ?_
      refine r_ishr 16 dX7_earliest_15 rfl ?_
      refine r_iconst 17 (v := 1) dX7_earliest_16 (by decide) rfl ?_
      refine r_iand 18 dX7_earliest_17 rfl ?_
      refine r_eq (b_sh g hg i (by omega)) ?_
      refine r_iconst 19 (v := 1) dX7_earliest_18 (by decide) rfl ?_
      refine r_icmp_ne 45 22 dX7_earliest_19 (by decide) rfl (fun g19 => ?_) (fun g19 => ?_)
      · have g19 : ¬ bi g i = 1 := fun z => g19 (by rw [z]; rfl)
        simp only [beq_iff_eq, g19, false_and, if_false] at nx
        refine r_iconst 46 (v := 0) dX7_earliest_45 (by decide) rfl ?_
        refine r_istore 48 (L' := [_, _, _, _, _]) dX7_earliest_46 (by decide) rfl rfl rfl ?_
        refine r_iload 50 dX7_earliest_48 rfl rfl ?_
        refine r_if_eq 57 53 dX7_earliest_50 (by decide) rfl (fun _ => ?_) (fun z => absurd (by decide) z)
        refine r_iload_n 58 dX7_earliest_57 rfl rfl ?_
        refine r_istore_n 59 (L' := [_, _, _, _, _]) dX7_earliest_58 (by decide) rfl rfl rfl ?_
        refine r_iinc 62 (L' := [_, _, _, _, _]) (v := nI (i + 1)) dX7_earliest_59 rfl (nI_1 i) (by decide) rfl rfl rfl ?_
        refine r_goto 5 dX7_earliest_62 (by decide) ?_
        refine r_drop 4 (L' := [_, _, _, _, _]) rfl ?_
        exact nx
      · have g19 : bi g i = 1 := (nI_inj (b := 1) (by have := bi_lt g i; omega) (by decide)).mp g19
        refine r_iload_n 23 dX7_earliest_22 rfl rfl ?_
        refine r_bipush 25 (v := -4) dX7_earliest_23 (by decide) rfl ?_
        refine r_icmp_eq 41 28 dX7_earliest_25 (by decide) rfl (fun z => absurd z ((show ¬ nI b0 = -4 from fun z => nI_pos (n := b0) (by omega) (by rw [z]; decide)))) (fun _ => ?_)
        refine r_aload_n 29 dX7_earliest_28 rfl rfl ?_
        refine r_iload_n 30 dX7_earliest_29 rfl rfl ?_
        refine r_callV (y2 := mX7_countsFrom) (as := [_]) 33 dX7_earliest_30 ml_X7_207 mv_X7_countsFrom (m_countsFrom (d := d - 1) (by omega) hV hA hL (b := i) (by omega)) (by omega) sh_50 ⟨_, rfl, rfl⟩ rfl (Nat.le_of_ble_eq_true rfl) rfl (kk_i ?_)
        rintro _ _ ⟨rfl, rfl⟩
        refine r_aload_n 34 dX7_earliest_33 rfl rfl ?_
        refine r_iload_n 35 dX7_earliest_34 rfl rfl ?_
        refine r_callV (y2 := mX7_countsFrom) (as := [_]) 38 dX7_earliest_35 ml_X7_207 mv_X7_countsFrom (m_countsFrom (d := d - 1) (by omega) hV hA hL (b := b0) (by omega)) (by omega) sh_50 ⟨_, rfl, rfl⟩ rfl (Nat.le_of_ble_eq_true rfl) rfl (kk_i ?_)
        rintro _ _ ⟨rfl, rfl⟩
        refine r_icmp_ge 45 41 dX7_earliest_38 (by decide) rfl (fun g38 => ?_) (fun g38 => ?_)
        · have g38 : ¬ k_ct K i < k_ct K b0 := by
            have := (nI_le' (by omega) (by omega)).mp g38
            omega
          simp only [g38, and_false, if_false] at nx
          refine r_iconst 46 (v := 0) dX7_earliest_45 (by decide) rfl ?_
          refine r_istore 48 (L' := [_, _, _, _, _]) dX7_earliest_46 (by decide) rfl rfl rfl ?_
          refine r_iload 50 dX7_earliest_48 rfl rfl ?_
          refine r_if_eq 57 53 dX7_earliest_50 (by decide) rfl (fun _ => ?_) (fun z => absurd (by decide) z)
          refine r_iload_n 58 dX7_earliest_57 rfl rfl ?_
          refine r_istore_n 59 (L' := [_, _, _, _, _]) dX7_earliest_58 (by decide) rfl rfl rfl ?_
          refine r_iinc 62 (L' := [_, _, _, _, _]) (v := nI (i + 1)) dX7_earliest_59 rfl (nI_1 i) (by decide) rfl rfl rfl ?_
          refine r_goto 5 dX7_earliest_62 (by decide) ?_
          refine r_drop 4 (L' := [_, _, _, _, _]) rfl ?_
          exact nx
        · have g38 : k_ct K i < k_ct K b0 := by
            have : ¬ k_ct K b0 ≤ k_ct K i := fun z => g38 ((nI_le' (by omega) (by omega)).mpr z)
            omega
          simp only [beq_iff_eq, g19, g38, and_self, if_true] at nx
          refine r_iconst 42 (v := 1) dX7_earliest_41 (by decide) rfl ?_
          refine r_goto 46 dX7_earliest_42 (by decide) ?_
          refine r_istore 48 (L' := [_, _, _, _, _]) dX7_earliest_46 (by decide) rfl rfl rfl ?_
          refine r_iload 50 dX7_earliest_48 rfl rfl ?_
          refine r_if_eq 57 53 dX7_earliest_50 (by decide) rfl (fun z => absurd z (by decide)) (fun _ => ?_)
          refine r_iload_n 54 dX7_earliest_53 rfl rfl ?_
          refine r_goto 58 dX7_earliest_54 (by decide) ?_
          refine r_istore_n 59 (L' := [_, _, _, _, _]) dX7_earliest_58 (by decide) rfl rfl rfl ?_
          refine r_iinc 62 (L' := [_, _, _, _, _]) (v := nI (i + 1)) dX7_earliest_59 rfl (nI_1 i) (by decide) rfl rfl rfl ?_
          refine r_goto 5 dX7_earliest_62 (by decide) ?_
          refine r_drop 4 (L' := [_, _, _, _, _]) rfl ?_
          exact nx
set_option maxRecDepth 20000 in
set_option maxHeartbeats 4000000 in
theorem m_earliest {d n g A : Nat} {w : zW} {K : Nat → Nat} {b : Nat} (hd : 3 ≤ d) (hV : kV A n K) (hA : A < 1000) (hL : atD w n K) (hg : g < 64) (hb : (am n (fun b => bi g b == 1) (k_ct K)) = some b) : CT mX7_earliest d [.ref 50, .int (nI g)] w (z_i fun x w' => nI b = x ∧ w = w') := by
  refine CT.of [some (.ref 50), some (.int (nI g)), none, none, none] rfl (Nat.le_of_ble_eq_true rfl) rfl ?_
  refine r_bipush 2 (v := -4) dX7_earliest_0 (by decide) rfl ?_
  refine r_istore_n 3 (L' := [_, _, _, _, _]) dX7_earliest_2 (by decide) rfl rfl rfl ?_
  refine r_iconst 4 (v := 0) dX7_earliest_3 (by decide) rfl ?_
  refine r_istore_n 5 (L' := [_, _, _, _, _]) dX7_earliest_4 (by decide) rfl rfl rfl ?_
  refine l_earliest hd hV hA hL hg ?_ n 0 (Nat.zero_add n)
  refine r_iload_n 66 dX7_earliest_65 rfl rfl ?_
  exact r_iret .int dX7_earliest_66 rfl (rfl) (⟨by rw [hb]; rfl, rfl⟩)

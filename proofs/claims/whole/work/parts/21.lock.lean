/-! ===== the class: Lock ===== -/
/-- the lock at B has n boats and the numbers K (the law aside) -/
def lkD (w : zW) (B n : Nat) (K : Nat → Nat) : Prop := (∀ k, k < 6 → k ≠ 3 → w (B + 1) k = nI (K k)) ∧ (∀ b q, b < n → q < 5 → w (B + 2) (b * 5 + q) = nI (K (6 + 6 * b + q))) ∧ w B 2 = nI n
theorem lkD.congr {w w' : zW} {B n : Nat} {K : Nat → Nat} (h : lkD w B n K) (h0 : w' B 2 = w B 2) (h1 : w' (B + 1) = w (B + 1)) (h2 : w' (B + 2) = w (B + 2)) : lkD w' B n K :=
  ⟨fun k hk hk3 => by rw [h1]; exact h.1 k hk hk3, fun b q hb hq => by rw [h2]; exact h.2.1 b q hb hq, by rw [h0]; exact h.2.2⟩
theorem z_isL.lt {B : Nat} (h : z_isL B) : B < 22 := by rcases h with rfl | rfl | rfl | rfl | rfl <;> decide
theorem z_isL.pos {B : Nat} (h : z_isL B) : 1 ≤ B := by rcases h with rfl | rfl | rfl | rfl | rfl <;> decide
set_option maxRecDepth 20000 in
set_option maxHeartbeats 4000000 in
theorem c_countsFrom {d B n b A : Nat} {w : zW} {K : Nat → Nat} (hd : 2 ≤ d) (hB : z_isL B) (hA : A < 1000) (hV : kV A n K) (hL : lkD w B n K) (hb : b < n) : CT mX1_countsFrom d [.ref B, .int (nI b)] w (z_i fun x w' => nI (k_ct K b) = x ∧ w = w') := by
  obtain ⟨v1, v2, v3, v4, v5, v6, v7, v8⟩ := id hV
  obtain ⟨u1, u2, u3, u4, u5, u6⟩ := v8 b hb
  refine CT.of [some (.ref B), some (.int (nI b)), none] rfl (Nat.le_of_ble_eq_true rfl) rfl ?_
  refine r_aload_n 1 dX1_countsFrom_0 rfl rfl ?_
  refine r_getr 4 dX1_countsFrom_1 fz_X1_18 (z_L0 hB) rfl rfl ?_
  refine r_iconst 5 (v := 4) dX1_countsFrom_4 (by decide) rfl ?_
  refine rj_iald 6 (4) dX1_countsFrom_5 (z_L1 hB) (rfl) (by decide) (by decide) rfl ?_
  refine r_eq (hL.1 4 (by decide) (by decide)) ?_
  refine r_istore_n 7 (L' := [_, _, _]) dX1_countsFrom_6 (by decide) rfl rfl rfl ?_
  refine r_aload_n 8 dX1_countsFrom_7 rfl rfl ?_
  refine r_getr 11 dX1_countsFrom_8 fz_X1_18 (z_L0 hB) rfl rfl ?_
  refine r_iconst 12 (v := 5) dX1_countsFrom_11 (by decide) rfl ?_
  refine rj_iald 13 (5) dX1_countsFrom_12 (z_L1 hB) (rfl) (by decide) (by decide) rfl ?_
  refine r_eq (hL.1 5 (by decide) (by decide)) ?_
  refine r_iconst 14 (v := 1) dX1_countsFrom_13 (by decide) rfl ?_
  refine r_icmp_ne 28 17 dX1_countsFrom_14 (by decide) rfl (fun h14 => ?_) (fun h14 => ?_)
  · have h14 : ¬ K 5 = 1 := fun z => h14 (by rw [z]; rfl)
    refine r_iconst 29 (v := 0) dX1_countsFrom_28 (by decide) rfl ?_
    refine r_aload_n 30 dX1_countsFrom_29 rfl rfl ?_
    refine r_iload_n 31 dX1_countsFrom_30 rfl rfl ?_
    refine r_iconst 32 (v := 2) dX1_countsFrom_31 (by decide) rfl ?_
    refine r_callV (y2 := mX1_mark) (as := [_, _]) 35 dX1_countsFrom_32 ml_X1_48 mv_X1_mark (c_mark (d := d - 1) hB (i := b) (j := 2) (by omega) (by decide)) (by omega) (z_L0 hB) ⟨_, rfl, rfl⟩ rfl (Nat.le_of_ble_eq_true rfl) rfl (kk_i ?_)
    rintro _ _ ⟨rfl, rfl⟩
    refine r_eq (hL.2.1 b 2 hb (by decide)) ?_
    refine r_iload_n 36 dX1_countsFrom_35 rfl rfl ?_
    refine r_isub 37 dX1_countsFrom_36 rfl ?_
    refine r_mmax 40 dX1_countsFrom_37 ml_X1_52 (by omega) (Nat.le_of_ble_eq_true rfl) rfl ?_
    refine r_eq (n0_max (by omega) (by omega)) ?_
    exact r_iret .int dX1_countsFrom_40 rfl (rfl) (⟨by rw [k_ct]; first | (rw [if_neg (fun z => h14 z.1)]; done) | (congr 1; split <;> omega), rfl⟩)
  · have h14 : K 5 = 1 := by
      have : nI (K 5) = nI 1 := h14
      exact (nI_inj (by omega) (by decide)).mp this
    refine r_iload_n 18 dX1_countsFrom_17 rfl rfl ?_
    refine r_aload_n 19 dX1_countsFrom_18 rfl rfl ?_
    refine r_iload_n 20 dX1_countsFrom_19 rfl rfl ?_
    refine r_iconst 21 (v := 4) dX1_countsFrom_20 (by decide) rfl ?_
    refine r_callV (y2 := mX1_mark) (as := [_, _]) 24 dX1_countsFrom_21 ml_X1_48 mv_X1_mark (c_mark (d := d - 1) hB (i := b) (j := 4) (by omega) (by decide)) (by omega) (z_L0 hB) ⟨_, rfl, rfl⟩ rfl (Nat.le_of_ble_eq_true rfl) rfl (kk_i ?_)
    rintro _ _ ⟨rfl, rfl⟩
    refine r_eq (hL.2.1 b 4 hb (by decide)) ?_
    refine r_mmax 27 dX1_countsFrom_24 ml_X1_52 (by omega) (Nat.le_of_ble_eq_true rfl) rfl ?_
    refine r_eq (n_max (by omega) (by omega)) ?_
    refine r_istore_n 28 (L' := [_, _, _]) dX1_countsFrom_27 (by decide) rfl rfl rfl ?_
    refine r_iconst 29 (v := 0) dX1_countsFrom_28 (by decide) rfl ?_
    refine r_aload_n 30 dX1_countsFrom_29 rfl rfl ?_
    refine r_iload_n 31 dX1_countsFrom_30 rfl rfl ?_
    refine r_iconst 32 (v := 2) dX1_countsFrom_31 (by decide) rfl ?_
    refine r_callV (y2 := mX1_mark) (as := [_, _]) 35 dX1_countsFrom_32 ml_X1_48 mv_X1_mark (c_mark (d := d - 1) hB (i := b) (j := 2) (by omega) (by decide)) (by omega) (z_L0 hB) ⟨_, rfl, rfl⟩ rfl (Nat.le_of_ble_eq_true rfl) rfl (kk_i ?_)
    rintro _ _ ⟨rfl, rfl⟩
    refine r_eq (hL.2.1 b 2 hb (by decide)) ?_
    refine r_iload_n 36 dX1_countsFrom_35 rfl rfl ?_
    refine r_isub 37 dX1_countsFrom_36 rfl ?_
    refine r_mmax 40 dX1_countsFrom_37 ml_X1_52 (by omega) (Nat.le_of_ble_eq_true rfl) rfl ?_
    refine r_eq (n0_max (by omega) (by omega)) ?_
    exact r_iret .int dX1_countsFrom_40 rfl (rfl) (⟨by rw [k_ct]; first | (rw [if_neg (fun z => h14 z.1)]; done) | (congr 1; split <;> omega), rfl⟩)

/-! ===== the class: Lock ===== -/
/-- the lock at B has n boats and the numbers K (the law aside) -/
def lkD (w : zW) (B n : Nat) (K : Nat → Nat) : Prop := (∀ k, k < 6 → k ≠ 3 → w (B + 1) k = nI (K k)) ∧ (∀ b q, b < n → q < 5 → w (B + 2) (b * 5 + q) = nI (K (6 + 6 * b + q))) ∧ w B 2 = nI n
theorem lkD.congr {w w' : zW} {B n : Nat} {K : Nat → Nat} (h : lkD w B n K) (h0 : w' B 2 = w B 2) (h1 : w' (B + 1) = w (B + 1)) (h2 : w' (B + 2) = w (B + 2)) : lkD w' B n K :=
  ⟨fun k hk hk3 => by rw [h1]; exact h.1 k hk hk3, fun b q hb hq => by rw [h2]; exact h.2.1 b q hb hq, by rw [h0]; exact h.2.2⟩
theorem z_isL.lt {B : Nat} (h : z_isL B) : B < 22 := by rcases h with rfl | rfl | rfl | rfl | rfl <;> decide
theorem z_isL.pos {B : Nat} (h : z_isL B) : 1 ≤ B := by rcases h with rfl | rfl | rfl | rfl | rfl <;> decide
set_option maxRecDepth 20000 in
set_option maxHeartbeats 4000000 in
theorem c_countsFrom {d B n b A : Nat} {w : zW} {K : Nat → Nat} (hd : 2 ≤ d) (hB : z_isL B) (hA : A < 1000) (hV : kV A n K) (hL : lkD w B n K) (hb : b < n) : CT mX1_countsFrom d [.ref B, .int (nI b)] w (z_i fun x w' => nI (k_ct K b) = x ∧ w = w') := by
  obtain ⟨v1, v2, v3, v4, v5, v6, v7, v8⟩ := id hV
  obtain ⟨u1, u2, u3, u4, u5, u6⟩ := v8 b hb
  refine CT.of [some (.ref B), some (.int (nI b)), none] rfl (Nat.le_of_ble_eq_true rfl) rfl ?_
  refine r_aload_n 1 dX1_countsFrom_0 rfl rfl ?_
  refine r_getr 4 dX1_countsFrom_1 fz_X1_18 (z_L0 hB) rfl rfl ?_
  refine r_iconst 5 (v := 4) dX1_countsFrom_4 (by decide) rfl ?_
  refine rj_iald 6 (4) dX1_countsFrom_5 (z_L1 hB) (rfl) (by decide) (by decide) rfl ?_
  refine r_eq (hL.1 4 (by decide) (by decide)) ?_
  refine r_istore_n 7 (L' := [_, _, _]) dX1_countsFrom_6 (by decide) rfl rfl rfl ?_
  refine r_aload_n 8 dX1_countsFrom_7 rfl rfl ?_
  refine r_getr 11 dX1_countsFrom_8 fz_X1_18 (z_L0 hB) rfl rfl ?_
  refine r_iconst 12 (v := 5) dX1_countsFrom_11 (by decide) rfl ?_
  refine rj_iald 13 (5) dX1_countsFrom_12 (z_L1 hB) (rfl) (by decide) (by decide) rfl ?_
  refine r_eq (hL.1 5 (by decide) (by decide)) ?_
  refine r_iconst 14 (v := 1) dX1_countsFrom_13 (by decide) rfl ?_
  refine r_icmp_ne 28 17 dX1_countsFrom_14 (by decide) rfl (fun h14 => ?_) (fun h14 => ?_)
  · have h14 : ¬ K 5 = 1 := fun z => h14 (by rw [z]; rfl)
    refine r_iconst 29 (v := 0) dX1_countsFrom_28 (by decide) rfl ?_
    refine r_aload_n 30 dX1_countsFrom_29 rfl rfl ?_
    refine r_iload_n 31 dX1_countsFrom_30 rfl rfl ?_
    refine r_iconst 32 (v := 2) dX1_countsFrom_31 (by decide) rfl ?_
    refine r_callV (y2 := mX1_mark) (as := [_, _]) 35 dX1_countsFrom_32 ml_X1_48 mv_X1_mark (c_mark (d := d - 1) hB (i := b) (j := 2) (by omega) (by decide)) (by omega) (z_L0 hB) ⟨_, rfl, rfl⟩ rfl (Nat.le_of_ble_eq_true rfl) rfl (kk_i ?_)
    rintro _ _ ⟨rfl, rfl⟩
    refine r_eq (hL.2.1 b 2 hb (by decide)) ?_
    refine r_iload_n 36 dX1_countsFrom_35 rfl rfl ?_
    refine r_isub 37 dX1_countsFrom_36 rfl ?_
    refine r_mmax 40 dX1_countsFrom_37 ml_X1_52 (by omega) (Nat.le_of_ble_eq_true rfl) rfl ?_
    refine r_eq (n0_max (by omega) (by omega)) ?_
    exact r_iret .int dX1_countsFrom_40 rfl (rfl) (⟨by rw [k_ct]; first | (rw [if_neg (fun z => h14 z.1)]; done) | (congr 1; split <;> omega), rfl⟩)
  · have h14 : K 5 = 1 := by
      have : nI (K 5) = nI 1 := h14
      exact (nI_inj (by omega) (by decide)).mp this
    refine r_iload_n 18 dX1_countsFrom_17 rfl rfl ?_
    refine r_aload_n 19 dX1_countsFrom_18 rfl rfl ?_
    refine r_iload_n 20 dX1_countsFrom_19 rfl rfl ?_
    refine r_iconst 21 (v := 4) dX1_countsFrom_20 (by decide) rfl ?_
    refine r_callV (y2 := mX1_mark) (as := [_, _]) 24 dX1_countsFrom_21 ml_X1_48 mv_X1_mark (c_mark (d := d - 1) hB (i := b) (j := 4) (by omega) (by decide)) (by omega) (z_L0 hB) ⟨_, rfl, rfl⟩ rfl (Nat.le_of_ble_eq_true rfl) rfl (kk_i ?_)
    rintro _ _ ⟨rfl, rfl⟩
    refine r_eq (hL.2.1 b 4 hb (by decide)) ?_
    refine r_mmax 27 dX1_countsFrom_24 ml_X1_52 (by omega) (Nat.le_of_ble_eq_true rfl) rfl ?_
    refine r_eq (n_max (by omega) (by omega)) ?_
    refine r_istore_n 28 (L' := [_, _, _]) dX1_countsFrom_27 (by decide) rfl rfl rfl ?_
    refine r_iconst 29 (v := 0) dX1_countsFrom_28 (by decide) rfl ?_
    refine r_aload_n 30 dX1_countsFrom_29 rfl rfl ?_
    refine r_iload_n 31 dX1_countsFrom_30 rfl rfl ?_
    refine r_iconst 32 (v := 2) dX1_countsFrom_31 (by decide) rfl ?_
    refine r_callV (y2 := mX1_mark) (as := [_, _]) 35 dX1_countsFrom_32 ml_X1_48 mv_X1_mark (c_mark (d := d - 1) hB (i := b) (j := 2) (by omega) (by decide)) (by omega) (z_L0 hB) ⟨_, rfl, rfl⟩ rfl (Nat.le_of_ble_eq_true rfl) rfl (kk_i ?_)
    rintro _ _ ⟨rfl, rfl⟩
    refine r_eq (hL.2.1 b 2 hb (by decide)) ?_
    refine r_iload_n 36 dX1_countsFrom_35 rfl rfl ?_
    refine r_isub 37 dX1_countsFrom_36 rfl ?_
    refine r_mmax 40 dX1_countsFrom_37 ml_X1_52 (by omega) (Nat.le_of_ble_eq_true rfl) rfl ?_
    refine r_eq (n0_max (by omega) (by omega)) ?_
    exact r_iret .int dX1_countsFrom_40 rfl (rfl) (⟨by rw [k_ct]; first | (rw [if_neg (fun z => h14 z.1)]; done) | (congr 1; split <;> omega), rfl⟩)
/-- lock B is as lock C was -/
def cpR (w : zW) (B C : Nat) (w' : zW) : Prop := (∀ k, k < 6 → w' (B + 1) k = w (C + 1) k) ∧ (∀ k, k < 30 → w' (B + 2) k = w (C + 2) k) ∧ (∀ k, k < 6 → w' (B + 3) k = w (C + 3) k) ∧ (∀ k, k < 6 → w' (B + 4) k = w (C + 4) k) ∧ w' B 2 = w C 2 ∧ w' B 3 = w C 3 ∧ w' B 4 = w C 4 ∧ ∀ a, a < B ∨ B + 4 < a → w' a = w a
set_option maxRecDepth 20000 in
set_option maxHeartbeats 4000000 in
theorem c_clear {d B : Nat} {w : zW} (hd : 1 ≤ d) (hB : z_isL B) : CT mX1_clear d [.ref B] w (z_v fun w' => (∀ k, k < 6 → w' (B + 1) k = (z_sar.getD 2 []).getD k 0) ∧ w' B 2 = 0 ∧ w' B 3 = 0 ∧ w' B 4 = 0 ∧ ∀ a, a < B ∨ B + 1 < a → w' a = w a) := by
  refine CT.of [some (.ref B)] rfl (Nat.le_of_ble_eq_true rfl) rfl ?_
  refine r_getsN (j := 2) 3 dX1_clear_0 (by decide) nx_X1_9 rfl ?_
  refine r_iconst 4 (v := 0) dX1_clear_3 (by decide) rfl ?_
  refine r_aload_n 5 dX1_clear_4 rfl rfl ?_
  refine r_getr 8 dX1_clear_5 fz_X1_18 (z_L0 hB) rfl rfl ?_
  refine r_iconst 9 (v := 0) dX1_clear_8 (by decide) rfl ?_
  refine r_bipush 11 (v := 6) dX1_clear_9 (by decide) rfl ?_
  refine rj_copyT (j := 2) 14 dX1_clear_11 ml_X1_32 (by omega) (by decide) rfl (z_L1 hB) 0 0 6 (rfl) (rfl) (rfl) (by decide) (by decide) (Nat.le_of_ble_eq_true rfl) rfl ?_
  refine r_nw (fun w1 e1 => ?_)
  refine r_aload_n 15 dX1_clear_14 rfl rfl ?_
  refine r_iconst 16 (v := 0) dX1_clear_15 (by decide) rfl ?_
  refine r_puti 19 dX1_clear_16 fz_X1_38 fw_1_2 (z_L0 hB) rfl rfl ?_
  refine r_nw (fun w2 e2 => ?_)
  refine r_aload_n 20 dX1_clear_19 rfl rfl ?_
  refine r_iconst 21 (v := 0) dX1_clear_20 (by decide) rfl ?_
  refine r_puti 24 dX1_clear_21 fz_X1_42 fw_1_3 (z_L0 hB) rfl rfl ?_
  refine r_nw (fun w3 e3 => ?_)
  refine r_aload_n 25 dX1_clear_24 rfl rfl ?_
  refine r_iconst 26 (v := 0) dX1_clear_25 (by decide) rfl ?_
  refine r_puti 29 dX1_clear_26 fz_X1_45 fw_1_4 (z_L0 hB) rfl rfl ?_
  refine r_nw (fun w4 e4 => ?_)
  exact r_vret dX1_clear_29 rfl (⟨fun k hk => by rw [e4, z_up_a (by omega), e3, z_up_a (by omega), e2, z_up_a (by omega), e1, z_ua_k, pk_cpy_in (by omega) (by omega)]; congr 1; omega, by rw [e4, z_up_i (by decide), e3, z_up_i (by decide), e2, z_up_s], by rw [e4, z_up_i (by decide), e3, z_up_s], by rw [e4, z_up_s], fun a ha => by rw [e4, z_up_o (by omega), e3, z_up_o (by omega), e2, z_up_o (by omega), e1, z_ua_o (by omega)]⟩)
set_option maxRecDepth 20000 in
set_option maxHeartbeats 4000000 in
theorem c_copyFrom {d B C : Nat} {w : zW} (hd : 1 ≤ d) (hB : z_isL B) (hC : z_isL C) (hBC : B ≠ C) : CT mX1_copyFrom d [.ref B, .ref C] w (z_v fun w' => cpR w B C w') := by
  refine CT.of [some (.ref B), some (.ref C)] rfl (Nat.le_of_ble_eq_true rfl) rfl ?_
  refine r_aload_n 1 dX1_copyFrom_0 rfl rfl ?_
  refine r_getr 4 dX1_copyFrom_1 fz_X1_18 (z_L0 hC) rfl rfl ?_
  refine r_iconst 5 (v := 0) dX1_copyFrom_4 (by decide) rfl ?_
  refine r_aload_n 6 dX1_copyFrom_5 rfl rfl ?_
  refine r_getr 9 dX1_copyFrom_6 fz_X1_18 (z_L0 hB) rfl rfl ?_
  refine r_iconst 10 (v := 0) dX1_copyFrom_9 (by decide) rfl ?_
  refine r_bipush 12 (v := 6) dX1_copyFrom_10 (by decide) rfl ?_
  refine rj_copy 15 dX1_copyFrom_12 ml_X1_32 (by omega) (z_L1 hC) (z_L1 hB) 0 0 6 (rfl) (rfl) (rfl) (by decide) (by decide) (Nat.le_of_ble_eq_true rfl) rfl ?_
  refine r_nw (fun w1 e1 => ?_)
  refine r_aload_n 16 dX1_copyFrom_15 rfl rfl ?_
  refine r_getr 19 dX1_copyFrom_16 fz_X1_23 (z_L0 hC) rfl rfl ?_
  refine r_iconst 20 (v := 0) dX1_copyFrom_19 (by decide) rfl ?_
  refine r_aload_n 21 dX1_copyFrom_20 rfl rfl ?_
  refine r_getr 24 dX1_copyFrom_21 fz_X1_23 (z_L0 hB) rfl rfl ?_
  refine r_iconst 25 (v := 0) dX1_copyFrom_24 (by decide) rfl ?_
  refine r_bipush 27 (v := 30) dX1_copyFrom_25 (by decide) rfl ?_
  refine rj_copy 30 dX1_copyFrom_27 ml_X1_32 (by omega) (z_L2 hC) (z_L2 hB) 0 0 30 (rfl) (rfl) (rfl) (by decide) (by decide) (Nat.le_of_ble_eq_true rfl) rfl ?_
  refine r_nw (fun w2 e2 => ?_)
  refine r_aload_n 31 dX1_copyFrom_30 rfl rfl ?_
  refine r_getr 34 dX1_copyFrom_31 fz_X1_26 (z_L0 hC) rfl rfl ?_
  refine r_iconst 35 (v := 0) dX1_copyFrom_34 (by decide) rfl ?_
  refine r_aload_n 36 dX1_copyFrom_35 rfl rfl ?_
  refine r_getr 39 dX1_copyFrom_36 fz_X1_26 (z_L0 hB) rfl rfl ?_
  refine r_iconst 40 (v := 0) dX1_copyFrom_39 (by decide) rfl ?_
  refine r_bipush 42 (v := 6) dX1_copyFrom_40 (by decide) rfl ?_
  refine rj_copy 45 dX1_copyFrom_42 ml_X1_32 (by omega) (z_L3 hC) (z_L3 hB) 0 0 6 (rfl) (rfl) (rfl) (by decide) (by decide) (Nat.le_of_ble_eq_true rfl) rfl ?_
  refine r_nw (fun w3 e3 => ?_)
  refine r_aload_n 46 dX1_copyFrom_45 rfl rfl ?_
  refine r_getr 49 dX1_copyFrom_46 fz_X1_29 (z_L0 hC) rfl rfl ?_
  refine r_iconst 50 (v := 0) dX1_copyFrom_49 (by decide) rfl ?_
  refine r_aload_n 51 dX1_copyFrom_50 rfl rfl ?_
  refine r_getr 54 dX1_copyFrom_51 fz_X1_29 (z_L0 hB) rfl rfl ?_
  refine r_iconst 55 (v := 0) dX1_copyFrom_54 (by decide) rfl ?_
  refine r_bipush 57 (v := 6) dX1_copyFrom_55 (by decide) rfl ?_
  refine rj_copy 60 dX1_copyFrom_57 ml_X1_32 (by omega) (z_L4 hC) (z_L4 hB) 0 0 6 (rfl) (rfl) (rfl) (by decide) (by decide) (Nat.le_of_ble_eq_true rfl) rfl ?_
  refine r_nw (fun w4 e4 => ?_)
  refine r_aload_n 61 dX1_copyFrom_60 rfl rfl ?_
  refine r_aload_n 62 dX1_copyFrom_61 rfl rfl ?_
  refine r_geti 65 dX1_copyFrom_62 fz_X1_38 (z_L0 hC) rfl rfl ?_
  refine r_puti 68 dX1_copyFrom_65 fz_X1_38 fw_1_2 (z_L0 hB) rfl rfl ?_
  refine r_nw (fun w5 e5 => ?_)
  refine r_aload_n 69 dX1_copyFrom_68 rfl rfl ?_
  refine r_aload_n 70 dX1_copyFrom_69 rfl rfl ?_
  refine r_geti 73 dX1_copyFrom_70 fz_X1_42 (z_L0 hC) rfl rfl ?_
  refine r_puti 76 dX1_copyFrom_73 fz_X1_42 fw_1_3 (z_L0 hB) rfl rfl ?_
  refine r_nw (fun w6 e6 => ?_)
  refine r_aload_n 77 dX1_copyFrom_76 rfl rfl ?_
  refine r_aload_n 78 dX1_copyFrom_77 rfl rfl ?_
  refine r_geti 81 dX1_copyFrom_78 fz_X1_45 (z_L0 hC) rfl rfl ?_
  refine r_puti 84 dX1_copyFrom_81 fz_X1_45 fw_1_4 (z_L0 hB) rfl rfl ?_
  refine r_nw (fun w7 e7 => ?_)
  have ap : B + 5 ≤ C ∨ C + 5 ≤ B := by
    rcases hB with rfl | rfl | rfl | rfl | rfl <;> rcases hC with rfl | rfl | rfl | rfl | rfl <;> first | (exact absurd rfl hBC) | decide
  have u : ∀ a, a ≠ B → w7 a = w4 a := fun a ha => by rw [e7, z_up_o ha, e6, z_up_o ha, e5, z_up_o ha]
  have v : ∀ a, (a < B ∨ B + 4 < a) → w4 a = w a := fun a ha => by rw [e4, z_ua_o (by omega), e3, z_ua_o (by omega), e2, z_ua_o (by omega), e1, z_ua_o (by omega)]
  have v1 : w1 (C + 2) = w (C + 2) := by rw [e1, z_ua_o (by omega)]
  have v2 : w2 (C + 3) = w (C + 3) := by rw [e2, z_ua_o (by omega), e1, z_ua_o (by omega)]
  have v3 : w3 (C + 4) = w (C + 4) := by rw [e3, z_ua_o (by omega), e2, z_ua_o (by omega), e1, z_ua_o (by omega)]
  have c4 : w4 C = w C := v C (by omega)
  have c5 : w5 C = w C := by rw [e5, z_up_o (by omega)]; exact c4
  have c6 : w6 C = w C := by rw [e6, z_up_o (by omega)]; exact c5
  exact r_vret dX1_copyFrom_84 rfl (⟨fun k hk => by rw [u _ (by omega), e4, z_ua_o (by omega), e3, z_ua_o (by omega), e2, z_ua_o (by omega), e1, z_ua_k, pk_cpy_in (by omega) (by omega)]; congr 1; omega, fun k hk => by rw [u _ (by omega), e4, z_ua_o (by omega), e3, z_ua_o (by omega), e2, z_ua_k, pk_cpy_in (by omega) (by omega), v1]; congr 1; omega, fun k hk => by rw [u _ (by omega), e4, z_ua_o (by omega), e3, z_ua_k, pk_cpy_in (by omega) (by omega), v2]; congr 1; omega, fun k hk => by rw [u _ (by omega), e4, z_ua_k, pk_cpy_in (by omega) (by omega), v3]; congr 1; omega, by rw [e7, z_up_i (by decide), e6, z_up_i (by decide), e5, z_up_s, c4], by rw [e7, z_up_i (by decide), e6, z_up_s, c5], by rw [e7, z_up_s, c6], fun a ha => by rw [u a (by omega)]; exact v a ha⟩)
set_option maxRecDepth 20000 in
set_option maxHeartbeats 4000000 in
theorem l_boatsFrom {d B n s A : Nat} {w : zW} {K : Nat → Nat} {T : zX → Prop} (hd : 2 ≤ d) (hB : z_isL B) (hA : A < 1000) (hV : kV A n K) (hL : lkD w B n K) (hs : s < 2) (hx : WP mX1_boatsFrom d T 36 [some (.ref B), some (.int (nI s)), some (.int (nI (cn n (fun b => k_sd K b == s)))), some (.int (nI n))] [] w) : ∀ k i, i + k = n → WP mX1_boatsFrom d T 4 [some (.ref B), some (.int (nI s)), some (.int (nI (cn i (fun b => k_sd K b == s)))), some (.int (nI i))] [] w := by
  have hn := hV.n
  intro k
  induction k with
  | zero =>
    intro i hi
    have e : i = n := by omega
    subst e
    refine r_iload_n 5 dX1_boatsFrom_4 rfl rfl ?_
    refine r_aload_n 6 dX1_boatsFrom_5 rfl rfl ?_
    refine r_geti 9 dX1_boatsFrom_6 fz_X1_38 (z_L0 hB) rfl rfl ?_
    refine r_icmp_ge 36 12 dX1_boatsFrom_9 (by decide) rfl (fun _ => ?_) (fun z => absurd (by rw [hL.2.2]; exact Int32.le_refl _) z)
    exact hx
  | succ k ih =>
    intro i hi
    have hu := hV.sd (b := i) (by omega)
    refine r_iload_n 5 dX1_boatsFrom_4 rfl rfl ?_
    refine r_aload_n 6 dX1_boatsFrom_5 rfl rfl ?_
    refine r_geti 9 dX1_boatsFrom_6 fz_X1_38 (z_L0 hB) rfl rfl ?_
    refine r_icmp_ge 36 12 dX1_boatsFrom_9 (by decide) rfl (fun z => absurd z (by rw [hL.2.2, nI_le' (by omega) (by omega)]; omega)) (fun _ => ?_)
    refine r_iload_n 13 dX1_boatsFrom_12 rfl rfl ?_
    refine r_aload_n 14 dX1_boatsFrom_13 rfl rfl ?_
    refine r_iload_n 15 dX1_boatsFrom_14 rfl rfl ?_
    refine r_iconst 16 (v := 0) dX1_boatsFrom_15 (by decide) rfl ?_
    refine r_callV (y2 := mX1_mark) (as := [_, _]) 19 dX1_boatsFrom_16 ml_X1_48 mv_X1_mark (c_mark (d := d - 1) hB (i := i) (j := 0) (by omega) (by decide)) (by omega) (z_L0 hB) ⟨_, rfl, rfl⟩ rfl (Nat.le_of_ble_eq_true rfl) rfl (kk_i ?_)
    rintro _ _ ⟨rfl, rfl⟩
    refine r_eq (hL.2.1 i 0 (by omega) (by decide)) ?_
    refine r_iload_n 20 dX1_boatsFrom_19 rfl rfl ?_
    refine rt_icmp_ne (a := 1) (b := 0) (j := 28) 27 23 dX1_boatsFrom_20 (by decide) rfl (fun k => r_iconst 28 dX1_boatsFrom_27 (by decide) rfl k) (fun k => r_iconst 24 dX1_boatsFrom_23 (by decide) rfl (r_goto 28 dX1_boatsFrom_24 (by decide) k)) ?_
    refine r_iadd 29 dX1_boatsFrom_28 rfl ?_
    refine r_eq (z := nI (cn (i + 1) (fun b => k_sd K b == s))) ?_ ?_
    · rw [cn]
      by_cases e : K (6 + 6 * i + 0) = s
      · rw [if_pos (by rw [e]), if_pos (by simpa [k_sd] using e)]
        exact nI_1 _
      · have hu2 : K (6 + 6 * i + 0) ≤ 1 := hu
        rw [if_neg (fun z => e ((nI_inj (by omega) (by omega)).mp z)), if_neg (by simpa [k_sd] using e)]
        exact Int32.add_zero _
    refine r_istore_n 30 (L' := [_, _, _, _]) dX1_boatsFrom_29 (by decide) rfl rfl rfl ?_
    refine r_iinc 33 (L' := [_, _, _, _]) (v := nI (i + 1)) dX1_boatsFrom_30 rfl (nI_1 i) (by decide) rfl rfl rfl ?_
    refine r_goto 4 dX1_boatsFrom_33 (by decide) ?_
    exact ih (i + 1) (by omega)
set_option maxRecDepth 20000 in
set_option maxHeartbeats 4000000 in
theorem c_boatsFrom {d B n s A : Nat} {w : zW} {K : Nat → Nat} (hd : 2 ≤ d) (hB : z_isL B) (hA : A < 1000) (hV : kV A n K) (hL : lkD w B n K) (hs : s < 2) : CT mX1_boatsFrom d [.ref B, .int (nI s)] w (z_i fun x w' => nI (cn n (fun b => k_sd K b == s)) = x ∧ w = w') := by
  refine CT.of [some (.ref B), some (.int (nI s)), none, none] rfl (Nat.le_of_ble_eq_true rfl) rfl ?_
  refine r_iconst 1 (v := 0) dX1_boatsFrom_0 (by decide) rfl ?_
  refine r_istore_n 2 (L' := [_, _, _, _]) dX1_boatsFrom_1 (by decide) rfl rfl rfl ?_
  refine r_iconst 3 (v := 0) dX1_boatsFrom_2 (by decide) rfl ?_
  refine r_istore_n 4 (L' := [_, _, _, _]) dX1_boatsFrom_3 (by decide) rfl rfl rfl ?_
  refine l_boatsFrom hd hB hA hV hL hs ?_ n 0 (Nat.zero_add n)
  refine r_iload_n 37 dX1_boatsFrom_36 rfl rfl ?_
  exact r_iret .int dX1_boatsFrom_37 rfl (rfl) (⟨rfl, rfl⟩)
set_option maxRecDepth 20000 in
set_option maxHeartbeats 4000000 in
theorem c_addSeen {d B m : Nat} {w : zW} {i b : Int32} (hB : z_isL B) (hm : m ≤ 6) (hw : w B 4 = nI m) : CT mX1_addSeen d [.ref B, .int i, .int b] w (z_i fun x w' => z_b (m < 6) = x ∧ (if m < 6 then z_up (z_up (z_up w (B + 3) m i) (B + 4) m b) B 4 (nI (m + 1)) else w) = w') := by
  refine CT.of [some (.ref B), some (.int i), some (.int b)] rfl (Nat.le_of_ble_eq_true rfl) rfl ?_
  refine r_aload_n 1 dX1_addSeen_0 rfl rfl ?_
  refine r_geti 4 dX1_addSeen_1 fz_X1_45 (z_L0 hB) rfl rfl ?_
  refine r_eq hw ?_
  refine r_bipush 6 (v := 6) dX1_addSeen_4 (by decide) rfl ?_
  refine r_icmp_lt 11 9 dX1_addSeen_6 (by decide) rfl (fun h6 => ?_) (fun h6 => ?_)
  · have h6 : m < 6 := (nI_lt' (by omega) (by decide)).mp h6
    refine r_aload_n 12 dX1_addSeen_11 rfl rfl ?_
    refine r_getr 15 dX1_addSeen_12 fz_X1_26 (z_L0 hB) rfl rfl ?_
    refine r_aload_n 16 dX1_addSeen_15 rfl rfl ?_
    refine r_geti 19 dX1_addSeen_16 fz_X1_45 (z_L0 hB) rfl rfl ?_
    refine r_iload_n 20 dX1_addSeen_19 rfl rfl ?_
    refine rj_iast 21 (m) dX1_addSeen_20 (z_L3 hB) (hw) (h6) (by decide) rfl ?_
    refine r_aload_n 22 dX1_addSeen_21 rfl rfl ?_
    refine r_getr 25 dX1_addSeen_22 fz_X1_29 (z_L0 hB) rfl rfl ?_
    refine r_aload_n 26 dX1_addSeen_25 rfl rfl ?_
    refine r_geti 29 dX1_addSeen_26 fz_X1_45 (z_L0 hB) rfl rfl ?_
    refine r_iload_n 30 dX1_addSeen_29 rfl rfl ?_
    refine rj_iast 31 (m) dX1_addSeen_30 (z_L4 hB) (by rw [z_up_a (by omega)]; exact hw) (h6) (by decide) rfl ?_
    refine r_aload_n 32 dX1_addSeen_31 rfl rfl ?_
    refine r_dup 33 dX1_addSeen_32 rfl rfl ?_
    refine r_geti 36 dX1_addSeen_33 fz_X1_45 (z_L0 hB) rfl rfl ?_
    refine r_eq (z := nI m) (by rw [z_up_a (by omega), z_up_a (by omega)]; exact hw) ?_
    refine r_iconst 37 (v := 1) dX1_addSeen_36 (by decide) rfl ?_
    refine r_iadd 38 dX1_addSeen_37 rfl ?_
    refine r_eq (nI_1 m) ?_
    refine r_puti 41 dX1_addSeen_38 fz_X1_45 fw_1_4 (z_L0 hB) rfl rfl ?_
    refine r_iconst 42 (v := 1) dX1_addSeen_41 (by decide) rfl ?_
    exact r_iret .boolean dX1_addSeen_42 rfl (rfl) (⟨z_bp h6, if_pos h6⟩)
  · have h6 : ¬ m < 6 := fun z => h6 ((nI_lt' (by omega) (by decide)).mpr z)
    refine r_iconst 10 (v := 0) dX1_addSeen_9 (by decide) rfl ?_
    exact r_iret .boolean dX1_addSeen_10 rfl (rfl) (⟨z_bn h6, if_neg h6⟩)

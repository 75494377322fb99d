/-! ===== the reference: taken, lets ===== -/
/-- T is those of g of the least rank -/
def tkR (n g T : Nat) (r : Nat → Nat) : Prop := T < 64 ∧ ∀ b, b < n → (bi T b = 1 ↔ bi g b = 1 ∧ ∀ e, e < n → bi g e = 1 → r b ≤ r e)
theorem tk_all {n g : Nat} {r : Nat → Nat} (hg : g < 64) (hr : ∀ b, r b = 0) : tkR n g g r := ⟨hg, fun b _ => ⟨fun h => ⟨h, fun e _ _ => by rw [hr, hr]; exact Nat.le_refl _⟩, fun h => h.1⟩⟩
theorem tk_pref {n g s : Nat} {K r : Nat → Nat} (hn : n ≤ 6) (hg : g < 64) (hr : ∀ b, r b = if k_sd K b = s then 0 else 1) : tkR n g (if mk n (fun b => bi g b == 1 && (k_sd K b == s)) = 0 then g else mk n (fun b => bi g b == 1 && (k_sd K b == s))) r := by
  have hb := bi_mk (p := fun b => bi g b == 1 && (k_sd K b == s)) hn
  by_cases h : mk n (fun b => bi g b == 1 && (k_sd K b == s)) = 0
  · rw [if_pos h]
    have hno : ∀ b, b < n → bi g b = 1 → ¬ k_sd K b = s := by
      intro b hbn h1 h2
      have := hb b (by omega)
      rw [if_pos ⟨hbn, by simp [h1, h2]⟩, h] at this
      have z : bi 0 b = 0 := by show (0 : Nat) / 2 ^ b % 2 = 0; simp
      rw [z] at this
      cases this
    refine ⟨hg, fun b hbn => ⟨fun h1 => ⟨h1, fun e he h2 => ?_⟩, fun h1 => h1.1⟩⟩
    rw [hr, hr, if_neg (hno b hbn h1), if_neg (hno e he h2)]
    exact Nat.le_refl _
  · rw [if_neg h]
    have hex : ∃ b, b < n ∧ bi g b = 1 ∧ k_sd K b = s := by
      apply Classical.byContradiction
      intro hno
      apply h
      have : mk n (fun b => bi g b == 1 && (k_sd K b == s)) = mk n (fun _ => false) := mk_congr (fun b hbn => by
        by_cases h1 : bi g b = 1
        · by_cases h2 : k_sd K b = s
          · exact absurd ⟨b, hbn, h1, h2⟩ hno
          · simp [h2]
        · simp [h1])
      rw [this]
      have z2 : ∀ m, mk m (fun _ => false) = 0 := fun m => by
        induction m with
        | zero => rfl
        | succ m ih => rw [mk, ih]; rfl
      exact z2 n
    refine ⟨mk_64 hn, fun b hbn => ?_⟩
    rw [hb b (by omega)]
    obtain ⟨b0, b1, b2, b3⟩ := hex
    constructor
    · intro h1
      by_cases q : b < n ∧ (bi g b == 1 && (k_sd K b == s)) = true
      · have q2 := q.2
        simp only [Bool.and_eq_true, beq_iff_eq] at q2
        exact ⟨q2.1, fun e _ _ => by rw [hr b, if_pos q2.2]; exact Nat.zero_le _⟩
      · rw [if_neg q] at h1; cases h1
    · intro h1
      have h2 := h1.2 b0 b1 b2
      rw [hr b, hr b0, if_pos b3] at h2
      by_cases q : k_sd K b = s
      · rw [if_pos ⟨hbn, by simp [h1.1, q]⟩]
      · rw [if_neg q] at h2; omega
theorem tk_lc {n g : Nat} {t r : Nat → Nat} (hn : n ≤ 6) (hr : ∀ b, r b = t b) : tkR n g (mk n (fun b => bi g b == 1 && (t b == mt g t n))) r := by
  refine ⟨mk_64 hn, fun b hbn => ?_⟩
  rw [bi_mk hn b (by omega)]
  constructor
  · intro h1
    by_cases q : b < n ∧ (bi g b == 1 && (t b == mt g t n)) = true
    · have q2 := q.2
      simp only [Bool.and_eq_true, beq_iff_eq] at q2
      exact ⟨q2.1, fun e he h2 => by rw [hr, hr, q2.2]; exact mt_le e he h2⟩
    · rw [if_neg q] at h1; cases h1
  · intro h1
    obtain ⟨b0, b1, b2, b3⟩ := mt_at (g := g) (i := n) (t := t) ⟨b, hbn, h1.1⟩
    have h2 := h1.2 b0 b1 b2
    rw [hr, hr, b3] at h2
    have h3 := mt_le (g := g) (t := t) b hbn h1.1
    rw [if_pos ⟨hbn, by simp [h1.1]; omega⟩]
/-- the side ahead, as the reference has it -/
def tS (n : Nat) (K : Nat → Nat) (g i : Nat) (p : Nat → Nat) (r : Nat) : Nat := if K 3 = 2 then (if i = 0 then K 2 else if i = 1 then k_sd K (p 0) else if k_sd K (p (i - 1)) = k_sd K (p (i - 2)) then 1 - k_sd K (p (i - 1)) else k_sd K (p (i - 1))) else if K 3 = 4 then (if (cn n (fun b => bi g b == 1 && (k_sd K b == 1))) < (cn n (fun b => bi g b == 1 && (k_sd K b == 0))) then 0 else if (cn n (fun b => bi g b == 1 && (k_sd K b == 0))) < (cn n (fun b => bi g b == 1 && (k_sd K b == 1))) then 1 else r) else r
set_option maxRecDepth 20000 in
set_option maxHeartbeats 4000000 in
theorem m_taken_0 {d n g i r cg A : Nat} {w : zW} {K p : Nat → Nat} (hd : 4 ≤ d) (hV : kV A n K) (hA : A < 1000) (hL : atD w n K) (hg : g < 64) (h21 : w 50 21 = nI i) (hi : i < 6) (h23 : w 50 23 = nI r) (hr : r < 2) (hp : ∀ j, j < i → w 56 j = nI (p j) ∧ p j < n) (hcg : cg < 64) (hc : w 50 17 = nI cg) (hl : K 3 = 0) : CT mX7_taken d [.ref 50, .int (nI g)] w (z_i fun x w' => (∃ T, nI T = x ∧ tkR n g T (d_rk K cg (tS n K g i p r))) ∧ w = w') := by
  have hn := hV.n
  have hK2 := hV.2.2.2.1
  have c0 := cn_le (n := n) (p := fun b => bi g b == 1 && (k_sd K b == 0))
  have c1 := cn_le (n := n) (p := fun b => bi g b == 1 && (k_sd K b == 1))
  refine CT.of [some (.ref 50), some (.int (nI g)), none, none, none] rfl (Nat.le_of_ble_eq_true rfl) rfl ?_
  refine r_aload_n 1 dX7_taken_0 rfl rfl ?_
  refine r_geti 4 dX7_taken_1 fz_X7_169 sh_50 rfl rfl ?_
  refine r_eq h21 ?_
  refine r_istore_n 5 (L' := [_, _, _, _, _]) dX7_taken_4 (by decide) rfl rfl rfl ?_
  refine r_aload_n 6 dX7_taken_5 rfl rfl ?_
  refine r_iload_n 7 dX7_taken_6 rfl rfl ?_
  refine r_iconst 8 (v := 0) dX7_taken_7 (by decide) rfl ?_
  refine r_callV (y2 := mX7_comeFrom) (as := [_, _]) 11 dX7_taken_8 ml_X7_188 mv_X7_comeFrom (m_comeFrom (d := d - 1) (s := 0) (by omega) hV hA hL hg (by decide)) (by omega) sh_50 ⟨_, rfl, rfl⟩ rfl (Nat.le_of_ble_eq_true rfl) rfl (kk_i ?_)
  rintro _ _ ⟨rfl, rfl⟩
  refine r_callS (y2 := mX7_bitsOf) (as := [_]) 14 dX7_taken_11 ml_X7_195 ms_X7_bitsOf (m_bitsOf (d := d - 1) (mk_64 hn)) (by omega) rfl (Nat.le_of_ble_eq_true rfl) rfl (kk_i ?_)
  rintro _ _ ⟨rfl, rfl⟩
  refine r_eq (by rw [sm_bi hn]) ?_
  refine r_istore_n 15 (L' := [_, _, _, _, _]) dX7_taken_14 (by decide) rfl rfl rfl ?_
  refine r_aload_n 16 dX7_taken_15 rfl rfl ?_
  refine r_iload_n 17 dX7_taken_16 rfl rfl ?_
  refine r_iconst 18 (v := 1) dX7_taken_17 (by decide) rfl ?_
  refine r_callV (y2 := mX7_comeFrom) (as := [_, _]) 21 dX7_taken_18 ml_X7_188 mv_X7_comeFrom (m_comeFrom (d := d - 1) (s := 1) (by omega) hV hA hL hg (by decide)) (by omega) sh_50 ⟨_, rfl, rfl⟩ rfl (Nat.le_of_ble_eq_true rfl) rfl (kk_i ?_)
  rintro _ _ ⟨rfl, rfl⟩
  refine r_callS (y2 := mX7_bitsOf) (as := [_]) 24 dX7_taken_21 ml_X7_195 ms_X7_bitsOf (m_bitsOf (d := d - 1) (mk_64 hn)) (by omega) rfl (Nat.le_of_ble_eq_true rfl) rfl (kk_i ?_)
  rintro _ _ ⟨rfl, rfl⟩
  refine r_eq (by rw [sm_bi hn]) ?_
  refine r_istore 26 (L' := [_, _, _, _, _]) dX7_taken_24 (by decide) rfl rfl rfl ?_
  refine r_aload_n 27 dX7_taken_26 rfl rfl ?_
  refine r_getr 30 dX7_taken_27 fz_X7_13 sh_50 rfl rfl ?_
  refine r_iconst 31 (v := 3) dX7_taken_30 (by decide) rfl ?_
  refine rj_iald 32 (3) dX7_taken_31 sh_52 (rfl) (by decide) (by decide) rfl ?_
  refine r_eq (z := nI 0) (by rw [hL.1 3 (by decide), hl]) ?_
  refine r_tout 170 dX7_taken_32 (by decide) (by decide) ?_
  refine r_iload_n 171 dX7_taken_170 rfl rfl ?_
  exact r_iret .int dX7_taken_171 rfl (rfl) (⟨⟨_, rfl, tk_all hg (fun b => by simp [d_rk, hl])⟩, rfl⟩)
set_option maxRecDepth 20000 in
set_option maxHeartbeats 4000000 in
theorem m_taken_1 {d n g i r cg A : Nat} {w : zW} {K p : Nat → Nat} (hd : 4 ≤ d) (hV : kV A n K) (hA : A < 1000) (hL : atD w n K) (hg : g < 64) (h21 : w 50 21 = nI i) (hi : i < 6) (h23 : w 50 23 = nI r) (hr : r < 2) (hp : ∀ j, j < i → w 56 j = nI (p j) ∧ p j < n) (hcg : cg < 64) (hc : w 50 17 = nI cg) (hl : K 3 = 1) : CT mX7_taken d [.ref 50, .int (nI g)] w (z_i fun x w' => (∃ T, nI T = x ∧ tkR n g T (d_rk K cg (tS n K g i p r))) ∧ w = w') := by
  have hn := hV.n
  have hK2 := hV.2.2.2.1
  have c0 := cn_le (n := n) (p := fun b => bi g b == 1 && (k_sd K b == 0))
  have c1 := cn_le (n := n) (p := fun b => bi g b == 1 && (k_sd K b == 1))
  refine CT.of [some (.ref 50), some (.int (nI g)), none, none, none] rfl (Nat.le_of_ble_eq_true rfl) rfl ?_
  refine r_aload_n 1 dX7_taken_0 rfl rfl ?_
  refine r_geti 4 dX7_taken_1 fz_X7_169 sh_50 rfl rfl ?_
  refine r_eq h21 ?_
  refine r_istore_n 5 (L' := [_, _, _, _, _]) dX7_taken_4 (by decide) rfl rfl rfl ?_
  refine r_aload_n 6 dX7_taken_5 rfl rfl ?_
  refine r_iload_n 7 dX7_taken_6 rfl rfl ?_
  refine r_iconst 8 (v := 0) dX7_taken_7 (by decide) rfl ?_
  refine r_callV (y2 := mX7_comeFrom) (as := [_, _]) 11 dX7_taken_8 ml_X7_188 mv_X7_comeFrom (m_comeFrom (d := d - 1) (s := 0) (by omega) hV hA hL hg (by decide)) (by omega) sh_50 ⟨_, rfl, rfl⟩ rfl (Nat.le_of_ble_eq_true rfl) rfl (kk_i ?_)
  rintro _ _ ⟨rfl, rfl⟩
  refine r_callS (y2 := mX7_bitsOf) (as := [_]) 14 dX7_taken_11 ml_X7_195 ms_X7_bitsOf (m_bitsOf (d := d - 1) (mk_64 hn)) (by omega) rfl (Nat.le_of_ble_eq_true rfl) rfl (kk_i ?_)
  rintro _ _ ⟨rfl, rfl⟩
  refine r_eq (by rw [sm_bi hn]) ?_
  refine r_istore_n 15 (L' := [_, _, _, _, _]) dX7_taken_14 (by decide) rfl rfl rfl ?_
  refine r_aload_n 16 dX7_taken_15 rfl rfl ?_
  refine r_iload_n 17 dX7_taken_16 rfl rfl ?_
  refine r_iconst 18 (v := 1) dX7_taken_17 (by decide) rfl ?_
  refine r_callV (y2 := mX7_comeFrom) (as := [_, _]) 21 dX7_taken_18 ml_X7_188 mv_X7_comeFrom (m_comeFrom (d := d - 1) (s := 1) (by omega) hV hA hL hg (by decide)) (by omega) sh_50 ⟨_, rfl, rfl⟩ rfl (Nat.le_of_ble_eq_true rfl) rfl (kk_i ?_)
  rintro _ _ ⟨rfl, rfl⟩
  refine r_callS (y2 := mX7_bitsOf) (as := [_]) 24 dX7_taken_21 ml_X7_195 ms_X7_bitsOf (m_bitsOf (d := d - 1) (mk_64 hn)) (by omega) rfl (Nat.le_of_ble_eq_true rfl) rfl (kk_i ?_)
  rintro _ _ ⟨rfl, rfl⟩
  refine r_eq (by rw [sm_bi hn]) ?_
  refine r_istore 26 (L' := [_, _, _, _, _]) dX7_taken_24 (by decide) rfl rfl rfl ?_
  refine r_aload_n 27 dX7_taken_26 rfl rfl ?_
  refine r_getr 30 dX7_taken_27 fz_X7_13 sh_50 rfl rfl ?_
  refine r_iconst 31 (v := 3) dX7_taken_30 (by decide) rfl ?_
  refine rj_iald 32 (3) dX7_taken_31 sh_52 (rfl) (by decide) (by decide) rfl ?_
  refine r_eq (z := nI 1) (by rw [hL.1 3 (by decide), hl]) ?_
  refine r_tin 64 dX7_taken_32 (by decide) (by decide) rfl (by decide) ?_
  refine r_aload_n 65 dX7_taken_64 rfl rfl ?_
  refine r_iload_n 66 dX7_taken_65 rfl rfl ?_
  refine r_aload_n 67 dX7_taken_66 rfl rfl ?_
  refine r_geti 70 dX7_taken_67 fz_X7_175 sh_50 rfl rfl ?_
  refine r_eq h23 ?_
  refine r_callV (y2 := mX7_preferred) (as := [_, _]) 73 dX7_taken_70 ml_X7_198 mv_X7_preferred (m_preferred (d := d - 1) (by omega) hV hA hL hg (s := r) (by omega)) (by omega) sh_50 ⟨_, rfl, rfl⟩ rfl (Nat.le_of_ble_eq_true rfl) rfl (kk_i ?_)
  rintro _ _ ⟨rfl, rfl⟩
  exact r_iret .int dX7_taken_73 rfl (rfl) (⟨⟨_, rfl, tk_pref hn hg (fun b => by simp only [d_rk, tS, hl]; simp)⟩, rfl⟩)
set_option maxRecDepth 20000 in
set_option maxHeartbeats 4000000 in
theorem m_taken_2 {d n g i r cg A : Nat} {w : zW} {K p : Nat → Nat} (hd : 4 ≤ d) (hV : kV A n K) (hA : A < 1000) (hL : atD w n K) (hg : g < 64) (h21 : w 50 21 = nI i) (hi : i < 6) (h23 : w 50 23 = nI r) (hr : r < 2) (hp : ∀ j, j < i → w 56 j = nI (p j) ∧ p j < n) (hcg : cg < 64) (hc : w 50 17 = nI cg) (hl : K 3 = 2) : CT mX7_taken d [.ref 50, .int (nI g)] w (z_i fun x w' => (∃ T, nI T = x ∧ tkR n g T (d_rk K cg (tS n K g i p r))) ∧ w = w') := by
  have hn := hV.n
  have hK2 := hV.2.2.2.1
  have c0 := cn_le (n := n) (p := fun b => bi g b == 1 && (k_sd K b == 0))
  have c1 := cn_le (n := n) (p := fun b => bi g b == 1 && (k_sd K b == 1))
  refine CT.of [some (.ref 50), some (.int (nI g)), none, none, none] rfl (Nat.le_of_ble_eq_true rfl) rfl ?_
  refine r_aload_n 1 dX7_taken_0 rfl rfl ?_
  refine r_geti 4 dX7_taken_1 fz_X7_169 sh_50 rfl rfl ?_
  refine r_eq h21 ?_
  refine r_istore_n 5 (L' := [_, _, _, _, _]) dX7_taken_4 (by decide) rfl rfl rfl ?_
  refine r_aload_n 6 dX7_taken_5 rfl rfl ?_
  refine r_iload_n 7 dX7_taken_6 rfl rfl ?_
  refine r_iconst 8 (v := 0) dX7_taken_7 (by decide) rfl ?_
  refine r_callV (y2 := mX7_comeFrom) (as := [_, _]) 11 dX7_taken_8 ml_X7_188 mv_X7_comeFrom (m_comeFrom (d := d - 1) (s := 0) (by omega) hV hA hL hg (by decide)) (by omega) sh_50 ⟨_, rfl, rfl⟩ rfl (Nat.le_of_ble_eq_true rfl) rfl (kk_i ?_)
  rintro _ _ ⟨rfl, rfl⟩
  refine r_callS (y2 := mX7_bitsOf) (as := [_]) 14 dX7_taken_11 ml_X7_195 ms_X7_bitsOf (m_bitsOf (d := d - 1) (mk_64 hn)) (by omega) rfl (Nat.le_of_ble_eq_true rfl) rfl (kk_i ?_)
  rintro _ _ ⟨rfl, rfl⟩
  refine r_eq (by rw [sm_bi hn]) ?_
  refine r_istore_n 15 (L' := [_, _, _, _, _]) dX7_taken_14 (by decide) rfl rfl rfl ?_
  refine r_aload_n 16 dX7_taken_15 rfl rfl ?_
  refine r_iload_n 17 dX7_taken_16 rfl rfl ?_
  refine r_iconst 18 (v := 1) dX7_taken_17 (by decide) rfl ?_
  refine r_callV (y2 := mX7_comeFrom) (as := [_, _]) 21 dX7_taken_18 ml_X7_188 mv_X7_comeFrom (m_comeFrom (d := d - 1) (s := 1) (by omega) hV hA hL hg (by decide)) (by omega) sh_50 ⟨_, rfl, rfl⟩ rfl (Nat.le_of_ble_eq_true rfl) rfl (kk_i ?_)
  rintro _ _ ⟨rfl, rfl⟩
  refine r_callS (y2 := mX7_bitsOf) (as := [_]) 24 dX7_taken_21 ml_X7_195 ms_X7_bitsOf (m_bitsOf (d := d - 1) (mk_64 hn)) (by omega) rfl (Nat.le_of_ble_eq_true rfl) rfl (kk_i ?_)
  rintro _ _ ⟨rfl, rfl⟩
  refine r_eq (by rw [sm_bi hn]) ?_
  refine r_istore 26 (L' := [_, _, _, _, _]) dX7_taken_24 (by decide) rfl rfl rfl ?_
  refine r_aload_n 27 dX7_taken_26 rfl rfl ?_
  refine r_getr 30 dX7_taken_27 fz_X7_13 sh_50 rfl rfl ?_
  refine r_iconst 31 (v := 3) dX7_taken_30 (by decide) rfl ?_
  refine rj_iald 32 (3) dX7_taken_31 sh_52 (rfl) (by decide) (by decide) rfl ?_
  refine r_eq (z := nI 2) (by rw [hL.1 3 (by decide), hl]) ?_
  refine r_tin 74 dX7_taken_32 (by decide) (by decide) rfl (by decide) ?_
  refine r_aload_n 75 dX7_taken_74 rfl rfl ?_
  refine r_iload_n 76 dX7_taken_75 rfl rfl ?_
  refine r_iload_n 77 dX7_taken_76 rfl rfl ?_
  refine r_if_ne 89 80 dX7_taken_77 (by decide) rfl (fun g77 => ?_) (fun g77 => ?_)
  · have g77 : ¬ i = 0 := fun z => g77 (by rw [z]; rfl)
    have sd1 := hV.sd (hp (i - 1) (by omega)).2
    refine r_iload_n 90 dX7_taken_89 rfl rfl ?_
    refine r_iconst 91 (v := 1) dX7_taken_90 (by decide) rfl ?_
    refine r_icmp_le 123 94 dX7_taken_91 (by decide) rfl (fun g91 => ?_) (fun g91 => ?_)
    · have g91 : i = 1 := by
        have := (nI_le' (b := 1) (by omega) (by decide)).mp g91
        omega
      have hS : (if i = 0 then K 2 else if i = 1 then k_sd K (p 0) else if k_sd K (p (i - 1)) = k_sd K (p (i - 2)) then 1 - k_sd K (p (i - 1)) else k_sd K (p (i - 1))) = k_sd K (p (i - 1)) := by
        rw [if_neg g77, if_pos g91, show p 0 = p (i - 1) by rw [show i - 1 = 0 by omega]]
      refine r_aload_n 124 dX7_taken_123 rfl rfl ?_
      refine r_iload_n 125 dX7_taken_124 rfl rfl ?_
      refine r_iconst 126 (v := 1) dX7_taken_125 (by decide) rfl ?_
      refine r_isub 127 dX7_taken_126 rfl ?_
      refine r_eq (nI_sub (b := 1) (by omega)) ?_
      refine r_callV (y2 := mX7_sideOf) (as := [_]) 130 dX7_taken_127 ml_X7_201 mv_X7_sideOf (m_sideOf (d := d - 1) (by omega) hV hA hL (i := i - 1) (b := p (i - 1)) (by omega) (hp _ (by omega)).1 (hp _ (by omega)).2) (by omega) sh_50 ⟨_, rfl, rfl⟩ rfl (Nat.le_of_ble_eq_true rfl) rfl (kk_i ?_)
      rintro _ _ ⟨rfl, rfl⟩
      refine r_callV (y2 := mX7_preferred) (as := [_, _]) 133 dX7_taken_130 ml_X7_198 mv_X7_preferred (m_preferred (d := d - 1) (by omega) hV hA hL hg (s := k_sd K (p (i - 1))) (by omega)) (by omega) sh_50 ⟨_, rfl, rfl⟩ rfl (Nat.le_of_ble_eq_true rfl) rfl (kk_i ?_)
      rintro _ _ ⟨rfl, rfl⟩
      exact r_iret .int dX7_taken_133 rfl (rfl) (⟨⟨_, rfl, tk_pref hn hg (fun b => by simp only [d_rk, tS, hl]; simp [hS])⟩, rfl⟩)
    · have g91 : 2 ≤ i := by
        have : ¬ i ≤ 1 := fun z => g91 ((nI_le' (b := 1) (by omega) (by decide)).mpr z)
        omega
      have sd2 := hV.sd (hp (i - 2) (by omega)).2
      refine r_aload_n 95 dX7_taken_94 rfl rfl ?_
      refine r_iload_n 96 dX7_taken_95 rfl rfl ?_
      refine r_iconst 97 (v := 1) dX7_taken_96 (by decide) rfl ?_
      refine r_isub 98 dX7_taken_97 rfl ?_
      refine r_eq (nI_sub (b := 1) (by omega)) ?_
      refine r_callV (y2 := mX7_sideOf) (as := [_]) 101 dX7_taken_98 ml_X7_201 mv_X7_sideOf (m_sideOf (d := d - 1) (by omega) hV hA hL (i := i - 1) (b := p (i - 1)) (by omega) (hp _ (by omega)).1 (hp _ (by omega)).2) (by omega) sh_50 ⟨_, rfl, rfl⟩ rfl (Nat.le_of_ble_eq_true rfl) rfl (kk_i ?_)
      rintro _ _ ⟨rfl, rfl⟩
      refine r_aload_n 102 dX7_taken_101 rfl rfl ?_
      refine r_iload_n 103 dX7_taken_102 rfl rfl ?_
      refine r_iconst 104 (v := 2) dX7_taken_103 (by decide) rfl ?_
      refine r_isub 105 dX7_taken_104 rfl ?_
      refine r_eq (nI_sub (b := 2) (by omega)) ?_
      refine r_callV (y2 := mX7_sideOf) (as := [_]) 108 dX7_taken_105 ml_X7_201 mv_X7_sideOf (m_sideOf (d := d - 1) (by omega) hV hA hL (i := i - 2) (b := p (i - 2)) (by omega) (hp _ (by omega)).1 (hp _ (by omega)).2) (by omega) sh_50 ⟨_, rfl, rfl⟩ rfl (Nat.le_of_ble_eq_true rfl) rfl (kk_i ?_)
      rintro _ _ ⟨rfl, rfl⟩
      refine r_icmp_ne 123 111 dX7_taken_108 (by decide) rfl (fun g108 => ?_) (fun g108 => ?_)
      · have g108 : ¬ k_sd K (p (i - 1)) = k_sd K (p (i - 2)) := fun z => g108 (by rw [z])
        have hS : (if i = 0 then K 2 else if i = 1 then k_sd K (p 0) else if k_sd K (p (i - 1)) = k_sd K (p (i - 2)) then 1 - k_sd K (p (i - 1)) else k_sd K (p (i - 1))) = k_sd K (p (i - 1)) := by
          rw [if_neg g77, if_neg (by omega), if_neg g108]
        refine r_aload_n 124 dX7_taken_123 rfl rfl ?_
        refine r_iload_n 125 dX7_taken_124 rfl rfl ?_
        refine r_iconst 126 (v := 1) dX7_taken_125 (by decide) rfl ?_
        refine r_isub 127 dX7_taken_126 rfl ?_
        refine r_eq (nI_sub (b := 1) (by omega)) ?_
        refine r_callV (y2 := mX7_sideOf) (as := [_]) 130 dX7_taken_127 ml_X7_201 mv_X7_sideOf (m_sideOf (d := d - 1) (by omega) hV hA hL (i := i - 1) (b := p (i - 1)) (by omega) (hp _ (by omega)).1 (hp _ (by omega)).2) (by omega) sh_50 ⟨_, rfl, rfl⟩ rfl (Nat.le_of_ble_eq_true rfl) rfl (kk_i ?_)
        rintro _ _ ⟨rfl, rfl⟩
        refine r_callV (y2 := mX7_preferred) (as := [_, _]) 133 dX7_taken_130 ml_X7_198 mv_X7_preferred (m_preferred (d := d - 1) (by omega) hV hA hL hg (s := k_sd K (p (i - 1))) (by omega)) (by omega) sh_50 ⟨_, rfl, rfl⟩ rfl (Nat.le_of_ble_eq_true rfl) rfl (kk_i ?_)
        rintro _ _ ⟨rfl, rfl⟩
        exact r_iret .int dX7_taken_133 rfl (rfl) (⟨⟨_, rfl, tk_pref hn hg (fun b => by simp only [d_rk, tS, hl]; simp [hS])⟩, rfl⟩)
      · have g108 : k_sd K (p (i - 1)) = k_sd K (p (i - 2)) := (nI_inj (by omega) (by omega)).mp g108
        have hS : (if i = 0 then K 2 else if i = 1 then k_sd K (p 0) else if k_sd K (p (i - 1)) = k_sd K (p (i - 2)) then 1 - k_sd K (p (i - 1)) else k_sd K (p (i - 1))) = 1 - k_sd K (p (i - 1)) := by
          rw [if_neg g77, if_neg (by omega), if_pos g108]
        refine r_iconst 112 (v := 1) dX7_taken_111 (by decide) rfl ?_
        refine r_aload_n 113 dX7_taken_112 rfl rfl ?_
        refine r_iload_n 114 dX7_taken_113 rfl rfl ?_
        refine r_iconst 115 (v := 1) dX7_taken_114 (by decide) rfl ?_
        refine r_isub 116 dX7_taken_115 rfl ?_
        refine r_eq (nI_sub (b := 1) (by omega)) ?_
        refine r_callV (y2 := mX7_sideOf) (as := [_]) 119 dX7_taken_116 ml_X7_201 mv_X7_sideOf (m_sideOf (d := d - 1) (by omega) hV hA hL (i := i - 1) (b := p (i - 1)) (by omega) (hp _ (by omega)).1 (hp _ (by omega)).2) (by omega) sh_50 ⟨_, rfl, rfl⟩ rfl (Nat.le_of_ble_eq_true rfl) rfl (kk_i ?_)
        rintro _ _ ⟨rfl, rfl⟩
        refine r_isub 120 dX7_taken_119 rfl ?_
        refine r_eq (nI_sub (a := 1) (by omega)) ?_
        refine r_goto 130 dX7_taken_120 (by decide) ?_
        refine r_callV (y2 := mX7_preferred) (as := [_, _]) 133 dX7_taken_130 ml_X7_198 mv_X7_preferred (m_preferred (d := d - 1) (by omega) hV hA hL hg (s := 1 - k_sd K (p (i - 1))) (by omega)) (by omega) sh_50 ⟨_, rfl, rfl⟩ rfl (Nat.le_of_ble_eq_true rfl) rfl (kk_i ?_)
        rintro _ _ ⟨rfl, rfl⟩
        exact r_iret .int dX7_taken_133 rfl (rfl) (⟨⟨_, rfl, tk_pref hn hg (fun b => by simp only [d_rk, tS, hl]; simp [hS])⟩, rfl⟩)
  · have g77 : i = 0 := (nI_inj (b := 0) (by omega) (by decide)).mp g77
    have hS : (if i = 0 then K 2 else if i = 1 then k_sd K (p 0) else if k_sd K (p (i - 1)) = k_sd K (p (i - 2)) then 1 - k_sd K (p (i - 1)) else k_sd K (p (i - 1))) = K 2 := if_pos g77
    refine r_aload_n 81 dX7_taken_80 rfl rfl ?_
    refine r_getr 84 dX7_taken_81 fz_X7_13 sh_50 rfl rfl ?_
    refine r_iconst 85 (v := 2) dX7_taken_84 (by decide) rfl ?_
    refine rj_iald 86 (2) dX7_taken_85 sh_52 (rfl) (by decide) (by decide) rfl ?_
    refine r_eq (hL.1 2 (by decide)) ?_
    refine r_goto 130 dX7_taken_86 (by decide) ?_
    refine r_callV (y2 := mX7_preferred) (as := [_, _]) 133 dX7_taken_130 ml_X7_198 mv_X7_preferred (m_preferred (d := d - 1) (by omega) hV hA hL hg (s := K 2) (by omega)) (by omega) sh_50 ⟨_, rfl, rfl⟩ rfl (Nat.le_of_ble_eq_true rfl) rfl (kk_i ?_)
    rintro _ _ ⟨rfl, rfl⟩
    exact r_iret .int dX7_taken_133 rfl (rfl) (⟨⟨_, rfl, tk_pref hn hg (fun b => by simp only [d_rk, tS, hl]; simp [hS])⟩, rfl⟩)
set_option maxRecDepth 20000 in
set_option maxHeartbeats 4000000 in
theorem m_taken_3 {d n g i r cg A : Nat} {w : zW} {K p : Nat → Nat} (hd : 4 ≤ d) (hV : kV A n K) (hA : A < 1000) (hL : atD w n K) (hg : g < 64) (h21 : w 50 21 = nI i) (hi : i < 6) (h23 : w 50 23 = nI r) (hr : r < 2) (hp : ∀ j, j < i → w 56 j = nI (p j) ∧ p j < n) (hcg : cg < 64) (hc : w 50 17 = nI cg) (hl : K 3 = 3) : CT mX7_taken d [.ref 50, .int (nI g)] w (z_i fun x w' => (∃ T, nI T = x ∧ tkR n g T (d_rk K cg (tS n K g i p r))) ∧ w = w') := by
  have hn := hV.n
  have hK2 := hV.2.2.2.1
  have c0 := cn_le (n := n) (p := fun b => bi g b == 1 && (k_sd K b == 0))
  have c1 := cn_le (n := n) (p := fun b => bi g b == 1 && (k_sd K b == 1))
  refine CT.of [some (.ref 50), some (.int (nI g)), none, none, none] rfl (Nat.le_of_ble_eq_true rfl) rfl ?_
  refine r_aload_n 1 dX7_taken_0 rfl rfl ?_
  refine r_geti 4 dX7_taken_1 fz_X7_169 sh_50 rfl rfl ?_
  refine r_eq h21 ?_
  refine r_istore_n 5 (L' := [_, _, _, _, _]) dX7_taken_4 (by decide) rfl rfl rfl ?_
  refine r_aload_n 6 dX7_taken_5 rfl rfl ?_
  refine r_iload_n 7 dX7_taken_6 rfl rfl ?_
  refine r_iconst 8 (v := 0) dX7_taken_7 (by decide) rfl ?_
  refine r_callV (y2 := mX7_comeFrom) (as := [_, _]) 11 dX7_taken_8 ml_X7_188 mv_X7_comeFrom (m_comeFrom (d := d - 1) (s := 0) (by omega) hV hA hL hg (by decide)) (by omega) sh_50 ⟨_, rfl, rfl⟩ rfl (Nat.le_of_ble_eq_true rfl) rfl (kk_i ?_)
  rintro _ _ ⟨rfl, rfl⟩
  refine r_callS (y2 := mX7_bitsOf) (as := [_]) 14 dX7_taken_11 ml_X7_195 ms_X7_bitsOf (m_bitsOf (d := d - 1) (mk_64 hn)) (by omega) rfl (Nat.le_of_ble_eq_true rfl) rfl (kk_i ?_)
  rintro _ _ ⟨rfl, rfl⟩
  refine r_eq (by rw [sm_bi hn]) ?_
  refine r_istore_n 15 (L' := [_, _, _, _, _]) dX7_taken_14 (by decide) rfl rfl rfl ?_
  refine r_aload_n 16 dX7_taken_15 rfl rfl ?_
  refine r_iload_n 17 dX7_taken_16 rfl rfl ?_
  refine r_iconst 18 (v := 1) dX7_taken_17 (by decide) rfl ?_
  refine r_callV (y2 := mX7_comeFrom) (as := [_, _]) 21 dX7_taken_18 ml_X7_188 mv_X7_comeFrom (m_comeFrom (d := d - 1) (s := 1) (by omega) hV hA hL hg (by decide)) (by omega) sh_50 ⟨_, rfl, rfl⟩ rfl (Nat.le_of_ble_eq_true rfl) rfl (kk_i ?_)
  rintro _ _ ⟨rfl, rfl⟩
  refine r_callS (y2 := mX7_bitsOf) (as := [_]) 24 dX7_taken_21 ml_X7_195 ms_X7_bitsOf (m_bitsOf (d := d - 1) (mk_64 hn)) (by omega) rfl (Nat.le_of_ble_eq_true rfl) rfl (kk_i ?_)
  rintro _ _ ⟨rfl, rfl⟩
  refine r_eq (by rw [sm_bi hn]) ?_
  refine r_istore 26 (L' := [_, _, _, _, _]) dX7_taken_24 (by decide) rfl rfl rfl ?_
  refine r_aload_n 27 dX7_taken_26 rfl rfl ?_
  refine r_getr 30 dX7_taken_27 fz_X7_13 sh_50 rfl rfl ?_
  refine r_iconst 31 (v := 3) dX7_taken_30 (by decide) rfl ?_
  refine rj_iald 32 (3) dX7_taken_31 sh_52 (rfl) (by decide) (by decide) rfl ?_
  refine r_eq (z := nI 3) (by rw [hL.1 3 (by decide), hl]) ?_
  refine r_tin 134 dX7_taken_32 (by decide) (by decide) rfl (by decide) ?_
  refine r_aload_n 135 dX7_taken_134 rfl rfl ?_
  refine r_iload_n 136 dX7_taken_135 rfl rfl ?_
  refine r_callV (y2 := mX7_leastCargo) (as := [_]) 139 dX7_taken_136 ml_X7_204 mv_X7_leastCargo (m_leastCargo (d := d - 1) (by omega) hV hA hL hg hcg hc) (by omega) sh_50 ⟨_, rfl, rfl⟩ rfl (Nat.le_of_ble_eq_true rfl) rfl (kk_i ?_)
  rintro _ _ ⟨rfl, rfl⟩
  exact r_iret .int dX7_taken_139 rfl (rfl) (⟨⟨_, rfl, tk_lc hn (fun b => by simp [d_rk, hl])⟩, rfl⟩)
set_option maxRecDepth 20000 in
set_option maxHeartbeats 4000000 in
theorem m_taken_4 {d n g i r cg A : Nat} {w : zW} {K p : Nat → Nat} (hd : 4 ≤ d) (hV : kV A n K) (hA : A < 1000) (hL : atD w n K) (hg : g < 64) (h21 : w 50 21 = nI i) (hi : i < 6) (h23 : w 50 23 = nI r) (hr : r < 2) (hp : ∀ j, j < i → w 56 j = nI (p j) ∧ p j < n) (hcg : cg < 64) (hc : w 50 17 = nI cg) (hl : K 3 = 4) : CT mX7_taken d [.ref 50, .int (nI g)] w (z_i fun x w' => (∃ T, nI T = x ∧ tkR n g T (d_rk K cg (tS n K g i p r))) ∧ w = w') := by
  have hn := hV.n
  have hK2 := hV.2.2.2.1
  have c0 := cn_le (n := n) (p := fun b => bi g b == 1 && (k_sd K b == 0))
  have c1 := cn_le (n := n) (p := fun b => bi g b == 1 && (k_sd K b == 1))
  refine CT.of [some (.ref 50), some (.int (nI g)), none, none, none] rfl (Nat.le_of_ble_eq_true rfl) rfl ?_
  refine r_aload_n 1 dX7_taken_0 rfl rfl ?_
  refine r_geti 4 dX7_taken_1 fz_X7_169 sh_50 rfl rfl ?_
  refine r_eq h21 ?_
  refine r_istore_n 5 (L' := [_, _, _, _, _]) dX7_taken_4 (by decide) rfl rfl rfl ?_
  refine r_aload_n 6 dX7_taken_5 rfl rfl ?_
  refine r_iload_n 7 dX7_taken_6 rfl rfl ?_
  refine r_iconst 8 (v := 0) dX7_taken_7 (by decide) rfl ?_
  refine r_callV (y2 := mX7_comeFrom) (as := [_, _]) 11 dX7_taken_8 ml_X7_188 mv_X7_comeFrom (m_comeFrom (d := d - 1) (s := 0) (by omega) hV hA hL hg (by decide)) (by omega) sh_50 ⟨_, rfl, rfl⟩ rfl (Nat.le_of_ble_eq_true rfl) rfl (kk_i ?_)
  rintro _ _ ⟨rfl, rfl⟩
  refine r_callS (y2 := mX7_bitsOf) (as := [_]) 14 dX7_taken_11 ml_X7_195 ms_X7_bitsOf (m_bitsOf (d := d - 1) (mk_64 hn)) (by omega) rfl (Nat.le_of_ble_eq_true rfl) rfl (kk_i ?_)
  rintro _ _ ⟨rfl, rfl⟩
  refine r_eq (by rw [sm_bi hn]) ?_
  refine r_istore_n 15 (L' := [_, _, _, _, _]) dX7_taken_14 (by decide) rfl rfl rfl ?_
  refine r_aload_n 16 dX7_taken_15 rfl rfl ?_
  refine r_iload_n 17 dX7_taken_16 rfl rfl ?_
  refine r_iconst 18 (v := 1) dX7_taken_17 (by decide) rfl ?_
  refine r_callV (y2 := mX7_comeFrom) (as := [_, _]) 21 dX7_taken_18 ml_X7_188 mv_X7_comeFrom (m_comeFrom (d := d - 1) (s := 1) (by omega) hV hA hL hg (by decide)) (by omega) sh_50 ⟨_, rfl, rfl⟩ rfl (Nat.le_of_ble_eq_true rfl) rfl (kk_i ?_)
  rintro _ _ ⟨rfl, rfl⟩
  refine r_callS (y2 := mX7_bitsOf) (as := [_]) 24 dX7_taken_21 ml_X7_195 ms_X7_bitsOf (m_bitsOf (d := d - 1) (mk_64 hn)) (by omega) rfl (Nat.le_of_ble_eq_true rfl) rfl (kk_i ?_)
  rintro _ _ ⟨rfl, rfl⟩
  refine r_eq (by rw [sm_bi hn]) ?_
  refine r_istore 26 (L' := [_, _, _, _, _]) dX7_taken_24 (by decide) rfl rfl rfl ?_
  refine r_aload_n 27 dX7_taken_26 rfl rfl ?_
  refine r_getr 30 dX7_taken_27 fz_X7_13 sh_50 rfl rfl ?_
  refine r_iconst 31 (v := 3) dX7_taken_30 (by decide) rfl ?_
  refine rj_iald 32 (3) dX7_taken_31 sh_52 (rfl) (by decide) (by decide) rfl ?_
  refine r_eq (z := nI 4) (by rw [hL.1 3 (by decide), hl]) ?_
  refine r_tin 140 dX7_taken_32 (by decide) (by decide) rfl (by decide) ?_
  refine r_aload_n 141 dX7_taken_140 rfl rfl ?_
  refine r_iload_n 142 dX7_taken_141 rfl rfl ?_
  refine r_iload_n 143 dX7_taken_142 rfl rfl ?_
  refine r_iload 145 dX7_taken_143 rfl rfl ?_
  refine r_icmp_le 152 148 dX7_taken_145 (by decide) rfl (fun g145 => ?_) (fun g145 => ?_)
  · have g145 : (cn n (fun b => bi g b == 1 && (k_sd K b == 0))) ≤ (cn n (fun b => bi g b == 1 && (k_sd K b == 1))) := (nI_le' (by omega) (by omega)).mp g145
    refine r_iload 154 dX7_taken_152 rfl rfl ?_
    refine r_iload_n 155 dX7_taken_154 rfl rfl ?_
    refine r_icmp_le 162 158 dX7_taken_155 (by decide) rfl (fun g155 => ?_) (fun g155 => ?_)
    · have g155 : (cn n (fun b => bi g b == 1 && (k_sd K b == 1))) ≤ (cn n (fun b => bi g b == 1 && (k_sd K b == 0))) := (nI_le' (by omega) (by omega)).mp g155
      have hS : (if (cn n (fun b => bi g b == 1 && (k_sd K b == 1))) < (cn n (fun b => bi g b == 1 && (k_sd K b == 0))) then 0 else if (cn n (fun b => bi g b == 1 && (k_sd K b == 0))) < (cn n (fun b => bi g b == 1 && (k_sd K b == 1))) then 1 else r) = r := by rw [if_neg (by omega), if_neg (by omega)]
      refine r_aload_n 163 dX7_taken_162 rfl rfl ?_
      refine r_geti 166 dX7_taken_163 fz_X7_175 sh_50 rfl rfl ?_
      refine r_eq h23 ?_
      refine r_callV (y2 := mX7_preferred) (as := [_, _]) 169 dX7_taken_166 ml_X7_198 mv_X7_preferred (m_preferred (d := d - 1) (by omega) hV hA hL hg (s := r) (by omega)) (by omega) sh_50 ⟨_, rfl, rfl⟩ rfl (Nat.le_of_ble_eq_true rfl) rfl (kk_i ?_)
      rintro _ _ ⟨rfl, rfl⟩
      exact r_iret .int dX7_taken_169 rfl (rfl) (⟨⟨_, rfl, tk_pref hn hg (fun b => by simp only [d_rk, tS, hl]; simp [hS])⟩, rfl⟩)
    · have g155 : ¬ (cn n (fun b => bi g b == 1 && (k_sd K b == 1))) ≤ (cn n (fun b => bi g b == 1 && (k_sd K b == 0))) := fun z => g155 ((nI_le' (by omega) (by omega)).mpr z)
      have hS : (if (cn n (fun b => bi g b == 1 && (k_sd K b == 1))) < (cn n (fun b => bi g b == 1 && (k_sd K b == 0))) then 0 else if (cn n (fun b => bi g b == 1 && (k_sd K b == 0))) < (cn n (fun b => bi g b == 1 && (k_sd K b == 1))) then 1 else r) = 1 := by rw [if_neg (by omega), if_pos (by omega)]
      refine r_iconst 159 (v := 1) dX7_taken_158 (by decide) rfl ?_
      refine r_goto 166 dX7_taken_159 (by decide) ?_
      refine r_callV (y2 := mX7_preferred) (as := [_, _]) 169 dX7_taken_166 ml_X7_198 mv_X7_preferred (m_preferred (d := d - 1) (by omega) hV hA hL hg (s := 1) (by omega)) (by omega) sh_50 ⟨_, rfl, rfl⟩ rfl (Nat.le_of_ble_eq_true rfl) rfl (kk_i ?_)
      rintro _ _ ⟨rfl, rfl⟩
      exact r_iret .int dX7_taken_169 rfl (rfl) (⟨⟨_, rfl, tk_pref hn hg (fun b => by simp only [d_rk, tS, hl]; simp [hS])⟩, rfl⟩)
  · have g145 : ¬ (cn n (fun b => bi g b == 1 && (k_sd K b == 0))) ≤ (cn n (fun b => bi g b == 1 && (k_sd K b == 1))) := fun z => g145 ((nI_le' (by omega) (by omega)).mpr z)
    have hS : (if (cn n (fun b => bi g b == 1 && (k_sd K b == 1))) < (cn n (fun b => bi g b == 1 && (k_sd K b == 0))) then 0 else if (cn n (fun b => bi g b == 1 && (k_sd K b == 0))) < (cn n (fun b => bi g b == 1 && (k_sd K b == 1))) then 1 else r) = 0 := if_pos (by omega)
    refine r_iconst 149 (v := 0) dX7_taken_148 (by decide) rfl ?_
    refine r_goto 166 dX7_taken_149 (by decide) ?_
    refine r_callV (y2 := mX7_preferred) (as := [_, _]) 169 dX7_taken_166 ml_X7_198 mv_X7_preferred (m_preferred (d := d - 1) (by omega) hV hA hL hg (s := 0) (by omega)) (by omega) sh_50 ⟨_, rfl, rfl⟩ rfl (Nat.le_of_ble_eq_true rfl) rfl (kk_i ?_)
    rintro _ _ ⟨rfl, rfl⟩
    exact r_iret .int dX7_taken_169 rfl (rfl) (⟨⟨_, rfl, tk_pref hn hg (fun b => by simp only [d_rk, tS, hl]; simp [hS])⟩, rfl⟩)
theorem m_taken {d n g i r cg A : Nat} {w : zW} {K p : Nat → Nat} (hd : 4 ≤ d) (hV : kV A n K) (hA : A < 1000) (hL : atD w n K) (hg : g < 64) (h21 : w 50 21 = nI i) (hi : i < 6) (h23 : w 50 23 = nI r) (hr : r < 2) (hp : ∀ j, j < i → w 56 j = nI (p j) ∧ p j < n) (hcg : cg < 64) (hc : w 50 17 = nI cg) : CT mX7_taken d [.ref 50, .int (nI g)] w (z_i fun x w' => (∃ T, nI T = x ∧ tkR n g T (d_rk K cg (tS n K g i p r))) ∧ w = w') := by
  have h3 := hV.2.2.2.2.1
  rcases (by omega : K 3 = 0 ∨ K 3 = 1 ∨ K 3 = 2 ∨ K 3 = 3 ∨ K 3 = 4) with hl | hl | hl | hl | hl
  · exact m_taken_0 hd hV hA hL hg h21 hi h23 hr hp hcg hc hl
  · exact m_taken_1 hd hV hA hL hg h21 hi h23 hr hp hcg hc hl
  · exact m_taken_2 hd hV hA hL hg h21 hi h23 hr hp hcg hc hl
  · exact m_taken_3 hd hV hA hL hg h21 hi h23 hr hp hcg hc hl
  · exact m_taken_4 hd hV hA hL hg h21 hi h23 hr hp hcg hc hl

/-! ===== the reference: lets, dayGoes ===== -/
/-- the day so far, in the reference -/
def dyM (w : zW) (n i : Nat) (s : dT) : Prop := w 50 21 = nI i ∧ w 50 22 = nI (d_f s) ∧ w 50 23 = nI (d_r s) ∧ w 50 24 = nI (d_w s) ∧ w 50 25 = nI (d_t s) ∧ (∀ j, j < i → w 56 j = nI (d_p s j)) ∧ ∀ b, b < n → bi (d_g s) b = 1 → w 57 b = nI (d_d s b) ∧ w 58 b = nI (d_s s b)
/-- nothing else has changed -/
def frM (w w' : zW) : Prop := (∀ q, q < 21 ∨ 25 < q → w' 50 q = w 50 q) ∧ ∀ a, a ≠ 50 → a ≠ 56 → a ≠ 57 → a ≠ 58 → w' a = w a
theorem frM.trans {w w' w'' : zW} (h : frM w w') (h' : frM w' w'') : frM w w'' := ⟨fun q hq => (h'.1 q hq).trans (h.1 q hq), fun a h1 h2 h3 h4 => (h'.2 a h1 h2 h3 h4).trans (h.2 a h1 h2 h3 h4)⟩
theorem atD.fr {w w' : zW} {n : Nat} {K : Nat → Nat} (h : atD w n K) (f : frM w w') : atD w' n K := h.congr (f.1 3 (by omega)) (f.2 52 (by decide) (by decide) (by decide) (by decide))
set_option maxRecDepth 20000 in
set_option maxHeartbeats 4000000 in
theorem l_lets2 {d n i b A : Nat} {w : zW} {K : Nat → Nat} {s : dT} {w1 : zW} (hd : 2 ≤ d) (hA : A ≤ 200) (hV : kV A n K) (hL : atD w n K) (hI : dI n i s) (hC : dyM w n i s) (hi : i < n) (hb : b < n) (h0 : bi (d_g s) b = 0) (u22 : w1 50 22 = nI (if d_r s = k_sd K b then d_f s else d_f s + K 1)) (u24 : w1 50 24 = nI (d_w s + (if d_r s = k_sd K b then 0 else if k_sd K b = 1 then 1 else 0))) (u25 : w1 50 25 = nI (d_t s + (if d_r s = k_sd K b then 0 else 1))) (uq : ∀ q, q ≠ 22 → q ≠ 24 → q ≠ 25 → w1 50 q = w 50 q) (ua : ∀ a, a ≠ 50 → w1 a = w a) : WP mX7_lets d (z_T (z_v fun w' => dyM w' n (i + 1) (d_let K i b s) ∧ frM w w')) 89 [some (.ref 50), some (.int (nI b)), some (.int (nI (k_sd K b))), some (.int (nI (max (if d_r s = k_sd K b then d_f s else d_f s + K 1) (k_ar K b))))] [] w1 := by
  have hn := hV.n
  have hsd := hV.sd hb
  have har := hV.ar hb
  have hK0 := hV.2.1
  have hK1 := hV.2.2.1
  obtain ⟨I1, I2, I3, I4, I5, I6, I7, I8⟩ := id hI
  have hg64 : d_g s < 64 := Nat.lt_of_lt_of_le I1 (p2_le n (by omega))
  obtain ⟨C21, C22, C23, C24, C25, Cp, Cs⟩ := id hC
  have hF : (if d_r s = k_sd K b then d_f s else d_f s + K 1) ≤ 209 + 18 * i := by split <;> omega
  have hM : (max (if d_r s = k_sd K b then d_f s else d_f s + K 1) (k_ar K b)) ≤ 409 := by omega
  have hL1 : atD w1 n K := hL.congr (uq 3 (by decide) (by decide) (by decide)) (ua 52 (by decide))
  have v21 : w1 50 21 = nI i := (uq 21 (by decide) (by decide) (by decide)).trans C21
  refine r_aload_n 90 dX7_lets_89 rfl rfl ?_
  refine r_getr 93 dX7_lets_90 fz_X7_32 sh_50 rfl rfl ?_
  refine r_iload_n 94 dX7_lets_93 rfl rfl ?_
  refine r_iload_n 95 dX7_lets_94 rfl rfl ?_
  refine r_aload_n 96 dX7_lets_95 rfl rfl ?_
  refine r_iload_n 97 dX7_lets_96 rfl rfl ?_
  refine r_iconst 98 (v := 2) dX7_lets_97 (by decide) rfl ?_
  refine r_callV (y2 := mX7_of) (as := [_, _]) 101 dX7_lets_98 ml_X7_166 mv_X7_of (m_of (d := d - 1) (i := b) (j := 2) (by omega) (by decide)) (by omega) sh_50 ⟨_, rfl, rfl⟩ rfl (Nat.le_of_ble_eq_true rfl) rfl (kk_i ?_)
  rintro _ _ ⟨rfl, rfl⟩
  refine r_eq (z := nI (k_ar K b)) (by  exact hL1.1 _ (by omega)) ?_
  refine r_isub 102 dX7_lets_101 rfl ?_
  refine r_eq (nI_sub (by omega)) ?_
  refine rj_iast 103 (b) dX7_lets_102 sh_58 (rfl) (by omega) (by decide) rfl ?_
  refine r_nw (fun w2 e2 => ?_)
  refine r_aload_n 104 dX7_lets_103 rfl rfl ?_
  refine r_iload_n 105 dX7_lets_104 rfl rfl ?_
  refine r_aload_n 106 dX7_lets_105 rfl rfl ?_
  refine r_getr 109 dX7_lets_106 fz_X7_13 sh_50 rfl rfl ?_
  refine r_iconst 110 (v := 0) dX7_lets_109 (by decide) rfl ?_
  refine rj_iald 111 (0) dX7_lets_110 sh_52 (rfl) (by decide) (by decide) rfl ?_
  refine r_eq (z := nI (K 0)) (by rw [e2, z_up_a (by decide)]; exact hL1.1 0 (by decide)) ?_
  refine r_iadd 112 dX7_lets_111 rfl ?_
  refine r_eq (nI_add _ _) ?_
  refine r_puti 115 dX7_lets_112 fz_X7_172 fw_7_22 sh_50 rfl rfl ?_
  refine r_nw (fun w3 e3 => ?_)
  refine r_aload_n 116 dX7_lets_115 rfl rfl ?_
  refine r_getr 119 dX7_lets_116 fz_X7_29 sh_50 rfl rfl ?_
  refine r_iload_n 120 dX7_lets_119 rfl rfl ?_
  refine r_aload_n 121 dX7_lets_120 rfl rfl ?_
  refine r_geti 124 dX7_lets_121 fz_X7_172 sh_50 rfl rfl ?_
  refine r_eq (z := nI ((max (if d_r s = k_sd K b then d_f s else d_f s + K 1) (k_ar K b)) + K 0)) (by rw [e3, z_up_s]) ?_
  refine rj_iast 125 (b) dX7_lets_124 sh_57 (rfl) (by omega) (by decide) rfl ?_
  refine r_nw (fun w4 e4 => ?_)
  refine r_aload_n 126 dX7_lets_125 rfl rfl ?_
  refine r_iconst 127 (v := 1) dX7_lets_126 (by decide) rfl ?_
  refine r_iload_n 128 dX7_lets_127 rfl rfl ?_
  refine r_isub 129 dX7_lets_128 rfl ?_
  refine r_eq (nI_sub (a := 1) (by omega)) ?_
  refine r_puti 132 dX7_lets_129 fz_X7_175 fw_7_23 sh_50 rfl rfl ?_
  refine r_nw (fun w5 e5 => ?_)
  refine r_aload_n 133 dX7_lets_132 rfl rfl ?_
  refine r_dup 134 dX7_lets_133 rfl rfl ?_
  refine r_geti 137 dX7_lets_134 fz_X7_178 sh_50 rfl rfl ?_
  refine r_eq (z := nI (d_w s + (if d_r s = k_sd K b then 0 else if k_sd K b = 1 then 1 else 0))) (by simp only [e5, e4, e3, e2, z_up]; simpa using u24) ?_
  refine r_iload_n 138 dX7_lets_137 rfl rfl ?_
  refine rt_if_ne (a := 1) (b := 0) (j := 146) 145 141 dX7_lets_138 (by decide) rfl (fun k => r_iconst 146 dX7_lets_145 (by decide) rfl k) (fun k => r_iconst 142 dX7_lets_141 (by decide) rfl (r_goto 146 dX7_lets_142 (by decide) k)) ?_
  refine r_eq (z := z_b (k_sd K b = 0)) (by rcases (by omega : k_sd K b = 0 ∨ k_sd K b = 1) with q | q <;> rw [q] <;> rfl) ?_
  refine r_callS (y2 := mX7_flag) (as := [_]) 149 dX7_lets_146 ml_X7_184 ms_X7_flag (m_flag (d := d - 1) _) (by omega) rfl (Nat.le_of_ble_eq_true rfl) rfl (kk_i ?_)
  rintro _ _ ⟨rfl, rfl⟩
  refine r_iadd 150 dX7_lets_149 rfl ?_
  refine r_eq (z := nI ((d_w s + (if d_r s = k_sd K b then 0 else if k_sd K b = 1 then 1 else 0)) + (if k_sd K b = 0 then 1 else 0))) ?_ ?_
  · refine Eq.trans ?_ (nI_add _ _)
    congr 1
    by_cases q : k_sd K b = 0
    · rw [z_bp q, if_pos q]; rfl
    · rw [z_bn q, if_neg q]; rfl
  refine r_puti 153 dX7_lets_150 fz_X7_178 fw_7_24 sh_50 rfl rfl ?_
  refine r_nw (fun w6 e6 => ?_)
  refine r_aload_n 154 dX7_lets_153 rfl rfl ?_
  refine r_getr 157 dX7_lets_154 fz_X7_26 sh_50 rfl rfl ?_
  refine r_aload_n 158 dX7_lets_157 rfl rfl ?_
  refine r_geti 161 dX7_lets_158 fz_X7_169 sh_50 rfl rfl ?_
  refine r_eq (z := nI i) (by simp only [e6, e5, e4, e3, e2, z_up]; simpa using v21) ?_
  refine r_iload_n 162 dX7_lets_161 rfl rfl ?_
  refine rj_iast 163 (i) dX7_lets_162 sh_56 (rfl) (by omega) (by decide) rfl ?_
  refine r_nw (fun w7 e7 => ?_)
  refine r_aload_n 164 dX7_lets_163 rfl rfl ?_
  refine r_dup 165 dX7_lets_164 rfl rfl ?_
  refine r_geti 168 dX7_lets_165 fz_X7_169 sh_50 rfl rfl ?_
  refine r_eq (z := nI i) (by simp only [e7, e6, e5, e4, e3, e2, z_up]; simpa using v21) ?_
  refine r_iconst 169 (v := 1) dX7_lets_168 (by decide) rfl ?_
  refine r_iadd 170 dX7_lets_169 rfl ?_
  refine r_eq (nI_1 i) ?_
  refine r_puti 173 dX7_lets_170 fz_X7_169 fw_7_21 sh_50 rfl rfl ?_
  refine r_nw (fun w8 e8 => ?_)
  have hbi := bi_add (d_g s) hg64 b (by omega) h0
  have fr : frM w w8 := by
    refine ⟨fun q hq => ?_, fun a a1 a2 a3 a4 => ?_⟩
    · rw [e8, z_up_i (by omega), e7, z_up_a (by decide), e6, z_up_i (by omega), e5, z_up_i (by omega), e4, z_up_a (by decide), e3, z_up_i (by omega), e2, z_up_a (by decide)]
      exact uq q (by omega) (by omega) (by omega)
    · rw [e8, z_up_o a1, e7, z_up_o a2, e6, z_up_o a1, e5, z_up_o a1, e4, z_up_o a3, e3, z_up_o a1, e2, z_up_o a4]
      exact ua a a1
  have q56 : ∀ j, j < i + 1 → w8 56 j = nI (d_p (d_let K i b s) j) := by
    intro j hj
    show _ = nI (un (d_p s) i b j)
    by_cases hji : j = i
    · rw [hji, un_s]; simp [e8, e7, z_up]
    · rw [un_n hji, ← Cp j (by omega), ← ua 56 (by decide)]; simp [e8, e7, e6, e5, e4, e3, e2, z_up, hji]
  have q57 : ∀ c, c < n → bi (d_g (d_let K i b s)) c = 1 → w8 57 c = nI (d_d (d_let K i b s) c) ∧ w8 58 c = nI (d_s (d_let K i b s) c) := by
    intro c hc h1
    show _ = nI (un (d_d s) b _ c) ∧ _ = nI (un (d_s s) b _ c)
    by_cases hcb : c = b
    · rw [hcb, un_s, un_s]; constructor <;> simp [e8, e7, e6, e5, e4, e3, e2, z_up]
    · have h2 : bi (d_g s) c = 1 := by
        have h3 := hbi c (by omega)
        rw [if_neg hcb] at h3
        rw [← h3]; exact h1
      obtain ⟨y1, y2⟩ := Cs c hc h2
      rw [un_n hcb, un_n hcb, ← y1, ← y2, ← ua 57 (by decide), ← ua 58 (by decide)]
      constructor <;> simp [e8, e7, e6, e5, e4, e3, e2, z_up, hcb]
  have z21 : w8 50 21 = nI (i + 1) := by rw [e8, z_up_s]
  have z22 : w8 50 22 = nI ((max (if d_r s = k_sd K b then d_f s else d_f s + K 1) (k_ar K b)) + K 0) := by simp [e8, e7, e6, e5, e4, e3, z_up]
  have z23 : w8 50 23 = nI (1 - k_sd K b) := by simp [e8, e7, e6, e5, z_up]
  have z24 : w8 50 24 = nI ((d_w s + (if d_r s = k_sd K b then 0 else if k_sd K b = 1 then 1 else 0)) + (if k_sd K b = 0 then 1 else 0)) := by simp only [e8, e7, e6, z_up]; simp
  have z25 : w8 50 25 = nI (d_t s + (if d_r s = k_sd K b then 0 else 1)) := by rw [← u25]; simp [e8, e7, e6, e5, e4, e3, e2, z_up]
  exact r_vret dX7_lets_173 rfl (⟨⟨z21, z22, z23, z24, z25, q56, q57⟩, fr⟩)
set_option maxRecDepth 20000 in
set_option maxHeartbeats 4000000 in
theorem l_lets1 {d n i b A : Nat} {w : zW} {K : Nat → Nat} {s : dT} {w1 : zW} (hd : 2 ≤ d) (hA : A ≤ 200) (hV : kV A n K) (hL : atD w n K) (hI : dI n i s) (hC : dyM w n i s) (hi : i < n) (hb : b < n) (h0 : bi (d_g s) b = 0) (u22 : w1 50 22 = nI (if d_r s = k_sd K b then d_f s else d_f s + K 1)) (u24 : w1 50 24 = nI (d_w s + (if d_r s = k_sd K b then 0 else if k_sd K b = 1 then 1 else 0))) (u25 : w1 50 25 = nI (d_t s + (if d_r s = k_sd K b then 0 else 1))) (uq : ∀ q, q ≠ 22 → q ≠ 24 → q ≠ 25 → w1 50 q = w 50 q) (ua : ∀ a, a ≠ 50 → w1 a = w a) : WP mX7_lets d (z_T (z_v fun w' => dyM w' n (i + 1) (d_let K i b s) ∧ frM w w')) 62 [some (.ref 50), some (.int (nI b)), some (.int (nI (k_sd K b))), none] [] w1 := by
  have hn := hV.n
  have hsd := hV.sd hb
  have har := hV.ar hb
  have hK0 := hV.2.1
  have hK1 := hV.2.2.1
  obtain ⟨I1, I2, I3, I4, I5, I6, I7, I8⟩ := id hI
  have hg64 : d_g s < 64 := Nat.lt_of_lt_of_le I1 (p2_le n (by omega))
  obtain ⟨C21, C22, C23, C24, C25, Cp, Cs⟩ := id hC
  have hF : (if d_r s = k_sd K b then d_f s else d_f s + K 1) ≤ 209 + 18 * i := by split <;> omega
  have hM : (max (if d_r s = k_sd K b then d_f s else d_f s + K 1) (k_ar K b)) ≤ 409 := by omega
  have hL1 : atD w1 n K := hL.congr (uq 3 (by decide) (by decide) (by decide)) (ua 52 (by decide))
  have v21 : w1 50 21 = nI i := (uq 21 (by decide) (by decide) (by decide)).trans C21
  refine r_aload_n 63 dX7_lets_62 rfl rfl ?_
  refine r_geti 66 dX7_lets_63 fz_X7_172 sh_50 rfl rfl ?_
  refine r_eq u22 ?_
  refine r_aload_n 67 dX7_lets_66 rfl rfl ?_
  refine r_iload_n 68 dX7_lets_67 rfl rfl ?_
  refine r_iconst 69 (v := 2) dX7_lets_68 (by decide) rfl ?_
  refine r_callV (y2 := mX7_of) (as := [_, _]) 72 dX7_lets_69 ml_X7_166 mv_X7_of (m_of (d := d - 1) (i := b) (j := 2) (by omega) (by decide)) (by omega) sh_50 ⟨_, rfl, rfl⟩ rfl (Nat.le_of_ble_eq_true rfl) rfl (kk_i ?_)
  rintro _ _ ⟨rfl, rfl⟩
  refine r_eq (z := nI (k_ar K b)) (by  exact hL1.1 _ (by omega)) ?_
  refine r_icmp_le 82 75 dX7_lets_72 (by decide) rfl (fun g72 => ?_) (fun g72 => ?_)
  · have g72 : (if d_r s = k_sd K b then d_f s else d_f s + K 1) ≤ k_ar K b := (nI_le' (by omega) (by omega)).mp g72
    have em : k_ar K b = (max (if d_r s = k_sd K b then d_f s else d_f s + K 1) (k_ar K b)) := by omega
    refine r_aload_n 83 dX7_lets_82 rfl rfl ?_
    refine r_iload_n 84 dX7_lets_83 rfl rfl ?_
    refine r_iconst 85 (v := 2) dX7_lets_84 (by decide) rfl ?_
    refine r_callV (y2 := mX7_of) (as := [_, _]) 88 dX7_lets_85 ml_X7_166 mv_X7_of (m_of (d := d - 1) (i := b) (j := 2) (by omega) (by decide)) (by omega) sh_50 ⟨_, rfl, rfl⟩ rfl (Nat.le_of_ble_eq_true rfl) rfl (kk_i ?_)
    rintro _ _ ⟨rfl, rfl⟩
    refine r_eq (z := nI (k_ar K b)) (by  exact hL1.1 _ (by omega)) ?_
    rw [em]
    refine r_istore_n 89 (L' := [_, _, _, _]) dX7_lets_88 (by decide) rfl rfl rfl ?_
    exact l_lets2 hd hA hV hL hI hC hi hb h0 u22 u24 u25 uq ua
  · have g72 : ¬ (if d_r s = k_sd K b then d_f s else d_f s + K 1) ≤ k_ar K b := fun z => g72 ((nI_le' (by omega) (by omega)).mpr z)
    have em : (if d_r s = k_sd K b then d_f s else d_f s + K 1) = (max (if d_r s = k_sd K b then d_f s else d_f s + K 1) (k_ar K b)) := by omega
    refine r_aload_n 76 dX7_lets_75 rfl rfl ?_
    refine r_geti 79 dX7_lets_76 fz_X7_172 sh_50 rfl rfl ?_
    refine r_eq u22 ?_
    refine r_goto 88 dX7_lets_79 (by decide) ?_
    rw [em]
    refine r_istore_n 89 (L' := [_, _, _, _]) dX7_lets_88 (by decide) rfl rfl rfl ?_
    exact l_lets2 hd hA hV hL hI hC hi hb h0 u22 u24 u25 uq ua
set_option maxRecDepth 20000 in
set_option maxHeartbeats 4000000 in
theorem m_lets {d n i b A : Nat} {w : zW} {K : Nat → Nat} {s : dT} (hd : 2 ≤ d) (hA : A ≤ 200) (hV : kV A n K) (hL : atD w n K) (hI : dI n i s) (hC : dyM w n i s) (hi : i < n) (hb : b < n) (h0 : bi (d_g s) b = 0) : CT mX7_lets d [.ref 50, .int (nI b)] w (z_v fun w' => dyM w' n (i + 1) (d_let K i b s) ∧ frM w w') := by
  have hn := hV.n
  have hsd := hV.sd hb
  have har := hV.ar hb
  have hK0 := hV.2.1
  have hK1 := hV.2.2.1
  obtain ⟨I1, I2, I3, I4, I5, I6, I7, I8⟩ := id hI
  have hg64 : d_g s < 64 := Nat.lt_of_lt_of_le I1 (p2_le n (by omega))
  obtain ⟨C21, C22, C23, C24, C25, Cp, Cs⟩ := id hC
  refine CT.of [some (.ref 50), some (.int (nI b)), none, none] rfl (Nat.le_of_ble_eq_true rfl) rfl ?_
  refine r_aload_n 1 dX7_lets_0 rfl rfl ?_
  refine r_iload_n 2 dX7_lets_1 rfl rfl ?_
  refine r_iconst 3 (v := 0) dX7_lets_2 (by decide) rfl ?_
  refine r_callV (y2 := mX7_of) (as := [_, _]) 6 dX7_lets_3 ml_X7_166 mv_X7_of (m_of (d := d - 1) (i := b) (j := 0) (by omega) (by decide)) (by omega) sh_50 ⟨_, rfl, rfl⟩ rfl (Nat.le_of_ble_eq_true rfl) rfl (kk_i ?_)
  rintro _ _ ⟨rfl, rfl⟩
  refine r_eq (z := nI (k_sd K b)) (hL.1 _ (by omega)) ?_
  refine r_istore_n 7 (L' := [_, _, _, _]) dX7_lets_6 (by decide) rfl rfl rfl ?_
  refine r_iload_n 8 dX7_lets_7 rfl rfl ?_
  refine r_aload_n 9 dX7_lets_8 rfl rfl ?_
  refine r_geti 12 dX7_lets_9 fz_X7_175 sh_50 rfl rfl ?_
  refine r_eq C23 ?_
  refine r_icmp_eq 62 15 dX7_lets_12 (by decide) rfl (fun g12 => ?_) (fun g12 => ?_)
  · have g12 : d_r s = k_sd K b := ((nI_inj (by omega) (by omega)).mp g12).symm
    first
      | exact l_lets1 hd hA hV hL hI hC hi hb h0 (by rw [if_pos g12]; exact C22) (by rw [if_pos g12]; exact C24) (by rw [if_pos g12]; exact C25) (fun _ _ _ _ => rfl) (fun _ _ => rfl)
      | exact l_lets1 hd hA hV hL hI hC hi hb h0 (by rw [if_neg g12, e3, z_up_i (by decide), e2, z_up_i (by decide), e1, z_up_s]) (by rw [if_neg g12, e3, z_up_s]) (by rw [if_neg g12, e3, z_up_i (by decide), e2, z_up_s]) (fun q h1 h2 h3 => by rw [e3, z_up_i h2, e2, z_up_i h3, e1, z_up_i h1]) (fun a ha => by rw [e3, z_up_o ha, e2, z_up_o ha, e1, z_up_o ha])
  · have g12 : ¬ d_r s = k_sd K b := fun z => g12 (by rw [z])
    refine r_aload_n 16 dX7_lets_15 rfl rfl ?_
    refine r_dup 17 dX7_lets_16 rfl rfl ?_
    refine r_geti 20 dX7_lets_17 fz_X7_172 sh_50 rfl rfl ?_
    refine r_eq C22 ?_
    refine r_aload_n 21 dX7_lets_20 rfl rfl ?_
    refine r_getr 24 dX7_lets_21 fz_X7_13 sh_50 rfl rfl ?_
    refine r_iconst 25 (v := 1) dX7_lets_24 (by decide) rfl ?_
    refine rj_iald 26 (1) dX7_lets_25 sh_52 (rfl) (by decide) (by decide) rfl ?_
    refine r_eq (hL.1 1 (by decide)) ?_
    refine r_iadd 27 dX7_lets_26 rfl ?_
    refine r_eq (nI_add _ _) ?_
    refine r_puti 30 dX7_lets_27 fz_X7_172 fw_7_22 sh_50 rfl rfl ?_
    refine r_nw (fun w1 e1 => ?_)
    refine r_aload_n 31 dX7_lets_30 rfl rfl ?_
    refine r_dup 32 dX7_lets_31 rfl rfl ?_
    refine r_geti 35 dX7_lets_32 fz_X7_181 sh_50 rfl rfl ?_
    refine r_eq (z := nI (d_t s)) (by rw [e1, z_up_i (by decide)]; exact C25) ?_
    refine r_iconst 36 (v := 1) dX7_lets_35 (by decide) rfl ?_
    refine r_iadd 37 dX7_lets_36 rfl ?_
    refine r_eq (nI_1 _) ?_
    refine r_puti 40 dX7_lets_37 fz_X7_181 fw_7_25 sh_50 rfl rfl ?_
    refine r_nw (fun w2 e2 => ?_)
    refine r_aload_n 41 dX7_lets_40 rfl rfl ?_
    refine r_dup 42 dX7_lets_41 rfl rfl ?_
    refine r_geti 45 dX7_lets_42 fz_X7_178 sh_50 rfl rfl ?_
    refine r_eq (z := nI (d_w s)) (by rw [e2, z_up_i (by decide), e1, z_up_i (by decide)]; exact C24) ?_
    refine r_iload_n 46 dX7_lets_45 rfl rfl ?_
    refine r_iconst 47 (v := 1) dX7_lets_46 (by decide) rfl ?_
    refine rt_icmp_ne (a := 1) (b := 0) (j := 55) 54 50 dX7_lets_47 (by decide) rfl (fun k => r_iconst 55 dX7_lets_54 (by decide) rfl k) (fun k => r_iconst 51 dX7_lets_50 (by decide) rfl (r_goto 55 dX7_lets_51 (by decide) k)) ?_
    refine r_eq (z := z_b (k_sd K b = 1)) (by rcases (by omega : k_sd K b = 0 ∨ k_sd K b = 1) with q | q <;> rw [q] <;> rfl) ?_
    refine r_callS (y2 := mX7_flag) (as := [_]) 58 dX7_lets_55 ml_X7_184 ms_X7_flag (m_flag (d := d - 1) _) (by omega) rfl (Nat.le_of_ble_eq_true rfl) rfl (kk_i ?_)
    rintro _ _ ⟨rfl, rfl⟩
    refine r_iadd 59 dX7_lets_58 rfl ?_
    refine r_eq (z := nI (d_w s + (if k_sd K b = 1 then 1 else 0))) ?_ ?_
    · refine Eq.trans ?_ (nI_add _ _)
      congr 1
      by_cases q : k_sd K b = 1
      · rw [z_bp q, if_pos q]; rfl
      · rw [z_bn q, if_neg q]; rfl
    refine r_puti 62 dX7_lets_59 fz_X7_178 fw_7_24 sh_50 rfl rfl ?_
    refine r_nw (fun w3 e3 => ?_)
    first
      | exact l_lets1 hd hA hV hL hI hC hi hb h0 (by rw [if_pos g12]; exact C22) (by rw [if_pos g12]; exact C24) (by rw [if_pos g12]; exact C25) (fun _ _ _ _ => rfl) (fun _ _ => rfl)
      | exact l_lets1 hd hA hV hL hI hC hi hb h0 (by rw [if_neg g12, e3, z_up_i (by decide), e2, z_up_i (by decide), e1, z_up_s]) (by rw [if_neg g12, e3, z_up_s]) (by rw [if_neg g12, e3, z_up_i (by decide), e2, z_up_s]) (fun q h1 h2 h3 => by rw [e3, z_up_i h2, e2, z_up_i h3, e1, z_up_i h1]) (fun a ha => by rw [e3, z_up_o ha, e2, z_up_o ha, e1, z_up_o ha])
theorem d_in_left {n : Nat} {K : Nat → Nat} {s : dT} {f b : Nat} (hn : n ≤ 6) (hg : d_g s < 2 ^ n) (hb : b < n) : d_in K s f b = (bi (2 ^ n - 1 - d_g s) b == 1 && decide (k_ct K b ≤ f)) := by
  rw [d_in, bi_left n (by omega) _ hg b hb]
  rcases bi_01 (d_g s) b with h | h <;> rw [h] <;> rfl
theorem d_side_tS {A n i : Nat} {K : Nat → Nat} {s : dT} {f g : Nat} (hV : kV A n K) (hI : dI n i s) (hr0 : i = 0 → d_r s = K 2) (hg : ∀ b, b < n → (bi g b == 1) = d_in K s f b) : tS n K g i (d_p s) (d_r s) = d_side n K i s f := by
  unfold tS d_side
  by_cases h2 : K 3 = 2
  · rw [if_pos h2, if_pos h2]
    by_cases h0 : i = 0
    · rw [if_pos h0, if_pos h0, hr0 h0]
    · rw [if_neg h0, if_neg h0]
  · rw [if_neg h2, if_neg h2]
    by_cases h4 : K 3 = 4
    · rw [if_pos h4, if_pos h4]
      have e0 : cn n (fun b => bi g b == 1 && (k_sd K b == 0)) = cn n (fun b => d_in K s f b && (k_sd K b == 0)) := cn_congr (fun b hb => by rw [hg b hb])
      have e1 : cn n (fun b => bi g b == 1 && (k_sd K b == 1)) = cn n (fun b => d_in K s f b && (k_sd K b == 1)) := cn_congr (fun b hb => by rw [hg b hb])
      rw [e0, e1]
    · rw [if_neg h4, if_neg h4]
set_option maxRecDepth 20000 in
set_option maxHeartbeats 4000000 in
theorem l_day2 {d n cg A : Nat} {w : zW} {K : Nat → Nat} {i : Nat} {s : dT} {w1 : zW} {T : zX → Prop} (hd : 5 ≤ d) (hA : A ≤ 200) (hV : kV A n K) (hcg : cg < 64) (hI : dI n i s) (hi : i < n) (hr0 : i = 0 → d_r s = K 2) (v1 : atD w1 n K) (v2 : w1 50 17 = nI cg) (v3 : dyM w1 n i (d_g s, d_wait n K s, s.2.2)) (v4 : frM w w1)
    (hx : ∀ w' (v1 : atD w' n K) (v2 : w' 50 17 = nI cg) (v3 : dyM w' n (i + 1) (d_step n K cg i s)) (v4 : frM w w'), WP mX7_dayGoes d T 13 [some (.ref 50), some (.int (nI (2 ^ n - 1 - d_g (d_step n K cg i s)))), none] [] w') : WP mX7_dayGoes d T 38 [some (.ref 50), some (.int (nI (2 ^ n - 1 - d_g s))), none] [] w1 := by
  have hn := hV.n
  obtain ⟨b, hb, hbn, hb0⟩ := d_pick_some (cg := cg) hV hI hi
  rw [d_step, hb] at hx
  have hwt := d_wait_le hV hA hI
  have hg64 : d_g s < 64 := Nat.lt_of_lt_of_le hI.1 (p2_le n (by omega))
  have hp2 := p2_le n (by omega)
  have hlf : (2 ^ n - 1 - d_g s) < 64 := by omega
  obtain ⟨C21, C22, C23, C24, C25, Cp, Cs⟩ := id v3
  refine r_aload_n 39 dX7_dayGoes_38 rfl rfl ?_
  refine r_aload_n 40 dX7_dayGoes_39 rfl rfl ?_
  refine r_aload_n 41 dX7_dayGoes_40 rfl rfl ?_
  refine r_iload_n 42 dX7_dayGoes_41 rfl rfl ?_
  refine r_callV (y2 := mX7_counting) (as := [_]) 45 dX7_dayGoes_42 ml_X7_213 mv_X7_counting (m_counting (d := d - 1) (f := d_wait n K s) (by omega) hV (by omega) v1 hlf C22 (by omega)) (by omega) sh_50 ⟨_, rfl, rfl⟩ rfl (Nat.le_of_ble_eq_true rfl) rfl (kk_i ?_)
  rintro _ _ ⟨rfl, rfl⟩
  refine r_callV (y2 := mX7_taken) (as := [_]) 48 dX7_dayGoes_45 ml_X7_219 mv_X7_taken (m_taken (d := d - 1) (g := mk n (fun b => bi (2 ^ n - 1 - d_g s) b == 1 && decide (k_ct K b ≤ d_wait n K s))) (p := d_p s) (by omega) hV (by omega) v1 (mk_64 hn) C21 (by omega) C23 (by have := hI.2.2.2.2.1; show d_r s < 2; omega) (fun j hj => ⟨Cp j hj, (hI.2.2.1 j hj).1⟩) hcg v2) (by omega) sh_50 ⟨_, rfl, rfl⟩ rfl (Nat.le_of_ble_eq_true rfl) rfl (kk_i ?_)
  rintro _ _ ⟨⟨T, rfl, hT⟩, rfl⟩
  have hM : ∀ b, b < n → (bi (mk n (fun b => bi (2 ^ n - 1 - d_g s) b == 1 && decide (k_ct K b ≤ d_wait n K s))) b == 1) = d_in K s (d_wait n K s) b := by
    intro b hbn
    rw [d_in_left hn hI.1 hbn, bi_mk hn b (by omega)]
    by_cases q : (bi (2 ^ n - 1 - d_g s) b == 1 && decide (k_ct K b ≤ d_wait n K s)) = true
    · rw [if_pos ⟨hbn, q⟩, q]; rfl
    · rw [if_neg (fun z => q z.2)]
      rw [Bool.not_eq_true] at q
      rw [q]; rfl
  have hs := d_side_tS hV hI hr0 hM
  have hT : tkR n (mk n (fun b => bi (2 ^ n - 1 - d_g s) b == 1 && decide (k_ct K b ≤ d_wait n K s))) T (d_rk K cg (tS n K (mk n (fun b => bi (2 ^ n - 1 - d_g s) b == 1 && decide (k_ct K b ≤ d_wait n K s))) i (d_p s) (d_r s))) := hT
  rw [hs] at hT
  have ham : am n (fun b => bi T b == 1) (k_ct K) = some b := by
    rw [← hb]
    refine am_rank (fun b hb => by have := hV.ct hb; omega) (fun b hbn => ?_)
    have h1 := hT.2 b hbn
    rw [beq_iff_eq, h1, ← hM b hbn, beq_iff_eq]
    constructor
    · rintro ⟨q1, q2⟩
      exact ⟨q1, fun e he h => q2 e he (by rw [← hM e he, beq_iff_eq] at h; exact h)⟩
    · rintro ⟨q1, q2⟩
      exact ⟨q1, fun e he h => q2 e he (by rw [← hM e he, beq_iff_eq]; exact h)⟩
  refine r_callV (y2 := mX7_earliest) (as := [_]) 51 dX7_dayGoes_48 ml_X7_216 mv_X7_earliest (m_earliest (d := d - 1) (by omega) hV (by omega) v1 hT.1 ham) (by omega) sh_50 ⟨_, rfl, rfl⟩ rfl (Nat.le_of_ble_eq_true rfl) rfl (kk_i ?_)
  rintro _ _ ⟨rfl, rfl⟩
  refine r_istore_n 52 (L' := [_, _, _]) dX7_dayGoes_51 (by decide) rfl rfl rfl ?_
  refine r_aload_n 53 dX7_dayGoes_52 rfl rfl ?_
  refine r_iload_n 54 dX7_dayGoes_53 rfl rfl ?_
  refine r_callV (y2 := mX7_lets) (as := [_]) 57 dX7_dayGoes_54 ml_X7_222 mv_X7_lets (m_lets (d := d - 1) (s := (d_g s, d_wait n K s, s.2.2)) (by omega) hA hV v1 ⟨hI.1, hI.2.1, hI.2.2.1, hwt, hI.2.2.2.2⟩ v3 hi hbn hb0) (by omega) sh_50 ⟨_, rfl, rfl⟩ rfl (Nat.le_of_ble_eq_true rfl) rfl (kk_v ?_)
  rintro w2 ⟨hC2, hF2⟩
  refine r_iload_n 58 dX7_dayGoes_57 rfl rfl ?_
  refine r_iconst 59 (v := 1) dX7_dayGoes_58 (by decide) rfl ?_
  refine r_iload_n 60 dX7_dayGoes_59 rfl rfl ?_
  refine r_ishl 61 dX7_dayGoes_60 rfl ?_
  refine r_iconst 62 (v := -1) dX7_dayGoes_61 (by decide) rfl ?_
  refine r_ixor 63 dX7_dayGoes_62 rfl ?_
  refine r_iand 64 dX7_dayGoes_63 rfl ?_
  refine r_eq (z := nI (2 ^ n - 1 - (d_g s + 2 ^ b))) ?_ ?_
  · rw [show (((1 : Int32) <<< (nI b &&& 31)) ^^^ (-1)) = (((1 : Int32) <<< (nI b &&& 31)) ^^^ (-1)) from rfl, b_rm _ hlf b (by omega) (by rw [bi_left n (by omega) _ hI.1 b hbn, hb0])]
    congr 1
    omega
  refine r_istore_n 65 (L' := [_, _, _]) dX7_dayGoes_64 (by decide) rfl rfl rfl ?_
  refine r_goto 13 dX7_dayGoes_65 (by decide) ?_
  refine r_drop 2 (L' := [_, _, _]) rfl ?_
  exact hx w2 (v1.fr hF2) ((hF2.1 17 (by omega)).trans v2) hC2 (v4.trans hF2)
set_option maxRecDepth 20000 in
set_option maxHeartbeats 4000000 in
theorem l_dayGoes {d n cg A : Nat} {w : zW} {K : Nat → Nat} {T : zX → Prop} (hd : 5 ≤ d) (hA : A ≤ 200) (hV : kV A n K) (hcg : cg < 64) (hx : ∀ w' (v1 : atD w' n K) (v2 : w' 50 17 = nI cg) (v3 : dyM w' n n (d_run n K cg n)) (v4 : frM w w'), WP mX7_dayGoes d T 68 [some (.ref 50), some (.int (nI 0)), none] [] w') : ∀ k i w', i + k = n → ∀ (v1 : atD w' n K) (v2 : w' 50 17 = nI cg) (v3 : dyM w' n i (d_run n K cg i)) (v4 : frM w w'), WP mX7_dayGoes d T 13 [some (.ref 50), some (.int (nI (2 ^ n - 1 - d_g (d_run n K cg i)))), none] [] w' := by
  have hn := hV.n
  intro k
  induction k with
  | zero =>
    intro i w' hi v1 v2 v3 v4
    have e : i = n := by omega
    subst e
    have hI := dI_run (cg := cg) hV hA i (Nat.le_refl i)
    rw [show 2 ^ i - 1 - d_g (d_run i K cg i) = 0 by have := g_full i (by omega) _ hI.1 (dI_all hI); omega]
    refine r_iload_n 14 dX7_dayGoes_13 rfl rfl ?_
    refine r_if_eq 68 17 dX7_dayGoes_14 (by decide) rfl (fun _ => ?_) (fun z => absurd (rfl) z)
    exact hx w' v1 v2 v3 v4
  | succ k ih =>
    intro i w' hi v1 v2 v3 v4
    have hI := dI_run (cg := cg) hV hA i (by omega)
    have nx := ih (i + 1)
    have hr0 : i = 0 → d_r (d_run n K cg i) = K 2 := fun z => by rw [z]; rfl
    rw [d_run] at nx
    generalize hs : d_run n K cg i = s at hI v3 nx hr0
    have hin : i < n := by omega
    have hdf := hI.2.2.2.1
    have hg64 : d_g s < 64 := Nat.lt_of_lt_of_le hI.1 (p2_le n (by omega))
    have hp2 := p2_le n (by omega)
    have hlf : (2 ^ n - 1 - d_g s) < 64 := by omega
    obtain ⟨e0, he⟩ := dI_some (f := k_ct K) hI hin
    obtain ⟨f1, f2, f3, f4⟩ := am_some he
    have f2 : bi (d_g s) e0 = 0 := by simpa using f2
    have hw : d_wait n K s = max (d_f s) (k_ct K e0) := by unfold d_wait; rw [he]
    have hl : am n (fun b => bi (2 ^ n - 1 - d_g s) b == 1) (k_ct K) = some e0 := by
      rw [← he]
      refine am_congr (fun c hc => ?_) (fun _ _ => rfl)
      rw [bi_left n (by omega) _ hI.1 c hc]
      rcases bi_01 (d_g s) c with h | h <;> rw [h] <;> rfl
    obtain ⟨C21, C22, C23, C24, C25, Cp, Cs⟩ := id v3
    refine r_iload_n 14 dX7_dayGoes_13 rfl rfl ?_
    refine r_if_eq 68 17 dX7_dayGoes_14 (by decide) rfl (fun z => absurd z (fun z => g_left0 n (by omega) _ hI.1 e0 f1 f2 ((nI_inj (b := 0) (by omega) (by decide)).mp z))) (fun _ => ?_)
    refine r_aload_n 18 dX7_dayGoes_17 rfl rfl ?_
    refine r_iload_n 19 dX7_dayGoes_18 rfl rfl ?_
    refine r_callV (y2 := mX7_counting) (as := [_]) 22 dX7_dayGoes_19 ml_X7_213 mv_X7_counting (m_counting (d := d - 1) (f := d_f s) (by omega) hV (by omega) v1 hlf C22 (by omega)) (by omega) sh_50 ⟨_, rfl, rfl⟩ rfl (Nat.le_of_ble_eq_true rfl) rfl (kk_i ?_)
    rintro _ _ ⟨rfl, rfl⟩
    refine r_if_ne 38 25 dX7_dayGoes_22 (by decide) rfl (fun g22 => ?_) (fun g22 => ?_)
    · have g22 : ¬ mk n (fun b => bi (2 ^ n - 1 - d_g s) b == 1 && decide (k_ct K b ≤ d_f s)) = 0 := fun z => g22 (by rw [z]; rfl)
      have hwe : d_wait n K s = d_f s := by
        rw [hw]
        apply Classical.byContradiction
        intro hno
        apply g22
        have z1 : mk n (fun b => bi (2 ^ n - 1 - d_g s) b == 1 && decide (k_ct K b ≤ d_f s)) = mk n (fun _ => false) := mk_congr (fun b hbn => by
          rw [bi_left n (by omega) _ hI.1 b hbn]
          rcases bi_01 (d_g s) b with h | h
          · have := f3 b hbn (by simp [h])
            rw [h]; simp; omega
          · rw [h]; rfl)
        rw [z1]
        have z2 : ∀ m, mk m (fun _ => false) = 0 := fun m => by
          induction m with
          | zero => rfl
          | succ m ih => rw [mk, ih]; rfl
        exact z2 n
      first
        | exact l_day2 (w := w) hd hA hV hcg hI hin hr0 v1 v2 (show dyM w' n i (d_g s, d_wait n K s, s.2.2) by rw [hwe]; exact v3) v4 (fun w2 p1 p2 p3 p4 => nx w2 (by omega) p1 p2 p3 p4)
        | exact l_day2 (w := w) hd hA hV hcg hI hin hr0 (v1.congr (by rw [e1, z_up_i (by decide)]) (by rw [e1, z_up_o (by decide)])) (by rw [e1, z_up_i (by decide)]; exact v2) (show dyM w1 n i (d_g s, d_wait n K s, s.2.2) from ⟨by rw [e1, z_up_i (by decide)]; exact C21, by rw [e1, z_up_s, hwe], by rw [e1, z_up_i (by decide)]; exact C23, by rw [e1, z_up_i (by decide)]; exact C24, by rw [e1, z_up_i (by decide)]; exact C25, fun j hj => by rw [e1, z_up_a (by decide)]; exact Cp j hj, fun b hb h => by rw [e1, z_up_a (by decide), z_up_a (by decide)]; exact Cs b hb h⟩) (v4.trans ⟨fun q hq => by rw [e1, z_up_i (by omega)], fun a a1 _ _ _ => by rw [e1, z_up_o a1]⟩) (fun w2 p1 p2 p3 p4 => nx w2 (by omega) p1 p2 p3 p4)
    · have g22 : mk n (fun b => bi (2 ^ n - 1 - d_g s) b == 1 && decide (k_ct K b ≤ d_f s)) = 0 := (nI_inj (b := 0) (by have := mk_64 (p := (fun b => bi (2 ^ n - 1 - d_g s) b == 1 && decide (k_ct K b ≤ d_f s))) hn; omega) (by decide)).mp g22
      have hwe : d_wait n K s = k_ct K e0 := by
        rw [hw]
        have : ¬ k_ct K e0 ≤ d_f s := by
          intro hle
          have z := bi_mk (p := (fun b => bi (2 ^ n - 1 - d_g s) b == 1 && decide (k_ct K b ≤ d_f s))) hn e0 (by omega)
          rw [g22, if_pos ⟨f1, by rw [bi_left n (by omega) _ hI.1 e0 f1, f2]; simp [hle]⟩] at z
          have z0 : bi 0 e0 = 0 := by show (0 : Nat) / 2 ^ e0 % 2 = 0; simp
          rw [z0] at z; cases z
        omega
      refine r_aload_n 26 dX7_dayGoes_25 rfl rfl ?_
      refine r_aload_n 27 dX7_dayGoes_26 rfl rfl ?_
      refine r_aload_n 28 dX7_dayGoes_27 rfl rfl ?_
      refine r_iload_n 29 dX7_dayGoes_28 rfl rfl ?_
      refine r_callV (y2 := mX7_earliest) (as := [_]) 32 dX7_dayGoes_29 ml_X7_216 mv_X7_earliest (m_earliest (d := d - 1) (by omega) hV (by omega) v1 hlf hl) (by omega) sh_50 ⟨_, rfl, rfl⟩ rfl (Nat.le_of_ble_eq_true rfl) rfl (kk_i ?_)
      rintro _ _ ⟨rfl, rfl⟩
      refine r_callV (y2 := mX7_countsFrom) (as := [_]) 35 dX7_dayGoes_32 ml_X7_207 mv_X7_countsFrom (m_countsFrom (d := d - 1) (by omega) hV (by omega) v1 f1) (by omega) sh_50 ⟨_, rfl, rfl⟩ rfl (Nat.le_of_ble_eq_true rfl) rfl (kk_i ?_)
      rintro _ _ ⟨rfl, rfl⟩
      refine r_puti 38 dX7_dayGoes_35 fz_X7_172 fw_7_22 sh_50 rfl rfl ?_
      refine r_nw (fun w1 e1 => ?_)
      first
        | exact l_day2 (w := w) hd hA hV hcg hI hin hr0 v1 v2 (show dyM w' n i (d_g s, d_wait n K s, s.2.2) by rw [hwe]; exact v3) v4 (fun w2 p1 p2 p3 p4 => nx w2 (by omega) p1 p2 p3 p4)
        | exact l_day2 (w := w) hd hA hV hcg hI hin hr0 (v1.congr (by rw [e1, z_up_i (by decide)]) (by rw [e1, z_up_o (by decide)])) (by rw [e1, z_up_i (by decide)]; exact v2) (show dyM w1 n i (d_g s, d_wait n K s, s.2.2) from ⟨by rw [e1, z_up_i (by decide)]; exact C21, by rw [e1, z_up_s, hwe], by rw [e1, z_up_i (by decide)]; exact C23, by rw [e1, z_up_i (by decide)]; exact C24, by rw [e1, z_up_i (by decide)]; exact C25, fun j hj => by rw [e1, z_up_a (by decide)]; exact Cp j hj, fun b hb h => by rw [e1, z_up_a (by decide), z_up_a (by decide)]; exact Cs b hb h⟩) (v4.trans ⟨fun q hq => by rw [e1, z_up_i (by omega)], fun a a1 _ _ _ => by rw [e1, z_up_o a1]⟩) (fun w2 p1 p2 p3 p4 => nx w2 (by omega) p1 p2 p3 p4)
set_option maxRecDepth 20000 in
set_option maxHeartbeats 4000000 in
theorem m_dayGoes {d n cg A : Nat} {w : zW} {K : Nat → Nat} (hd : 5 ≤ d) (hA : A ≤ 200) (hV : kV A n K) (hcg : cg < 64) (hL : atD w n K) (hc : w 50 17 = nI cg) : CT mX7_dayGoes d [.ref 50] w (z_v fun w' => dyM w' n n (d_run n K cg n) ∧ frM w w') := by
  have hn := hV.n
  refine CT.of [some (.ref 50), none, none] rfl (Nat.le_of_ble_eq_true rfl) rfl ?_
  refine r_iconst 1 (v := 1) dX7_dayGoes_0 (by decide) rfl ?_
  refine r_aload_n 2 dX7_dayGoes_1 rfl rfl ?_
  refine r_geti 5 dX7_dayGoes_2 fz_X7_69 sh_50 rfl rfl ?_
  refine r_eq hL.2 ?_
  refine r_ishl 6 dX7_dayGoes_5 rfl ?_
  refine r_eq (b_sl n (by omega)) ?_
  refine r_iconst 7 (v := 1) dX7_dayGoes_6 (by decide) rfl ?_
  refine r_isub 8 dX7_dayGoes_7 rfl ?_
  refine r_eq (nI_sub (b := 1) (Nat.one_le_two_pow)) ?_
  refine r_istore_n 9 (L' := [_, _, _]) dX7_dayGoes_8 (by decide) rfl rfl rfl ?_
  refine r_aload_n 10 dX7_dayGoes_9 rfl rfl ?_
  refine r_callV (y2 := mX7_opens) (as := []) 13 dX7_dayGoes_10 ml_X7_210 mv_X7_opens (m_opens (d := d - 1)) (by omega) sh_50 ⟨_, rfl, rfl⟩ rfl (Nat.le_of_ble_eq_true rfl) rfl (kk_v ?_)
  rintro w0 ⟨b21, b22, b23, b24, b25, bq, bo⟩
  refine l_dayGoes (w := w) hd hA hV hcg (fun w1 p1 p2 p3 p4 => ?_) n 0 w0 (Nat.zero_add n) (hL.congr (bq 3 (by omega)) (bo 52 (by decide))) ((bq 17 (by omega)).trans hc) ⟨b21, b22, b23.trans (hL.1 2 (by decide)), b24, b25, fun j hj => absurd hj (Nat.not_lt_zero j), fun b hb h => ?_⟩ ⟨fun q hq => bq q hq, fun a a1 _ _ _ => bo a a1⟩
  · exact r_vret dX7_dayGoes_68 rfl (⟨p3, p4⟩)
  · have z0 : bi (d_g (d_run n K cg 0)) b = 0 := by show (0 : Nat) / 2 ^ b % 2 = 0; simp
    rw [z0] at h; cases h

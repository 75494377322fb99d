/-! ===== the class: Day, a boat is let in ===== -/
set_option maxRecDepth 20000 in
set_option maxHeartbeats 4000000 in
theorem l_admit {d B n i b A : Nat} {w : zW} {K : Nat → Nat} {s : dT} {w1 : zW} (hd : 3 ≤ d) (hB : z_isL B) (hA : A ≤ 200) (hV : kV A n K) (hL : lkD w B n K) (hI : dI n i s) (hC : dyC w n K i s) (hi : i < n) (hb : b < n) (h0 : bi (d_g s) b = 0) (u7 : w1 30 7 = nI (if d_r s = k_sd K b then d_f s else d_f s + K 1)) (u10 : w1 30 10 = nI (d_w s + (if d_r s = k_sd K b then 0 else if k_sd K b = 1 then 1 else 0))) (u11 : w1 30 11 = nI (d_t s + (if d_r s = k_sd K b then 0 else 1))) (uq : ∀ q, q ≠ 7 → q ≠ 10 → q ≠ 11 → w1 30 q = w 30 q) (ua : ∀ a, a ≠ 30 → w1 a = w a) : WP mX0_admit d (z_T (z_v fun w' => dyC w' n K (i + 1) (d_let K i b s) ∧ ∀ a, (a < 30 ∨ 33 < a) → w' a = w a)) 83 [some (.ref 30), some (.ref B), some (.int (nI b)), some (.int (nI (k_sd K b))), none, none] [] w1 := by
  have hn := hV.n
  have hBl := hB.lt
  have hsd := hV.sd hb
  have har := hV.ar hb
  have hwo := hV.wo hb
  have hK0 := hV.2.1
  have hK1 := hV.2.2.1
  obtain ⟨I1, I2, I3, I4, I5, I6, I7, I8⟩ := id hI
  have hg64 : d_g s < 64 := Nat.lt_of_lt_of_le I1 (p2_le n (by omega))
  obtain ⟨C5, C6, C7, C8, C9, C10, C11, C12, Cp, Cs⟩ := id hC
  have hmx := mx_b hI
  have hsm := sm_b hV hI
  have v5 : w1 30 5 = nI i := (uq 5 (by decide) (by decide) (by decide)).trans C5
  have v6 : w1 30 6 = nI (d_g s) := (uq 6 (by decide) (by decide) (by decide)).trans C6
  have v9 := (uq 9 (by decide) (by decide) (by decide)).trans C9
  have v12 := (uq 12 (by decide) (by decide) (by decide)).trans C12
  have hF : (if d_r s = k_sd K b then d_f s else d_f s + K 1) ≤ 209 + 18 * i := by split <;> omega
  have hM : (max (if d_r s = k_sd K b then d_f s else d_f s + K 1) (k_ar K b)) ≤ 409 := by omega
  refine r_aload_n 84 dX0_admit_83 rfl rfl ?_
  refine r_dup 85 dX0_admit_84 rfl rfl ?_
  refine r_geti 88 dX0_admit_85 fz_X0_67 sh_30 rfl rfl ?_
  refine r_eq u10 ?_
  refine r_iload_n 89 dX0_admit_88 rfl rfl ?_
  refine rt_if_ne (a := 1) (b := 0) (j := 97) 96 92 dX0_admit_89 (by decide) rfl (fun k => r_iconst 97 dX0_admit_96 (by decide) rfl k) (fun k => r_iconst 93 dX0_admit_92 (by decide) rfl (r_goto 97 dX0_admit_93 (by decide) k)) ?_
  refine r_iadd 98 dX0_admit_97 rfl ?_
  refine r_eq (z := nI ((d_w s + (if d_r s = k_sd K b then 0 else if k_sd K b = 1 then 1 else 0)) + (if k_sd K b = 0 then 1 else 0))) ?_ ?_
  · refine Eq.trans ?_ (nI_add _ _)
    congr 1
    rcases (by omega : k_sd K b = 0 ∨ k_sd K b = 1) with q | q <;> rw [q] <;> rfl
  refine r_puti 101 dX0_admit_98 fz_X0_67 fw_0_10 sh_30 rfl rfl ?_
  refine r_nw (fun w2 e2 => ?_)
  refine r_aload_n 102 dX0_admit_101 rfl rfl ?_
  refine r_iload_n 103 dX0_admit_102 rfl rfl ?_
  refine r_iconst 104 (v := 2) dX0_admit_103 (by decide) rfl ?_
  refine r_callV (y2 := mX1_mark) (as := [_, _]) 107 dX0_admit_104 ml_X0_41 mv_X1_mark (c_mark (d := d - 1) hB (i := b) (j := 2) (by omega) (by decide)) (by omega) (z_L0 hB) ⟨_, rfl, rfl⟩ rfl (Nat.le_of_ble_eq_true rfl) rfl (kk_i ?_)
  rintro _ _ ⟨rfl, rfl⟩
  refine r_eq (z := nI (k_ar K b)) (by rw [e2, z_up_a (by omega), ua _ (by omega)]; exact hL.2.1 b 2 hb (by decide)) ?_
  refine r_istore 109 (L' := [_, _, _, _, _, _]) dX0_admit_107 (by decide) rfl rfl rfl ?_
  refine r_aload_n 110 dX0_admit_109 rfl rfl ?_
  refine r_geti 113 dX0_admit_110 fz_X0_70 sh_30 rfl rfl ?_
  refine r_eq (z := nI (if d_r s = k_sd K b then d_f s else d_f s + K 1)) (by rw [e2, z_up_i (by decide)]; exact u7) ?_
  refine r_iload 115 dX0_admit_113 rfl rfl ?_
  refine r_mmax 118 dX0_admit_115 ml_X0_98 (by omega) (Nat.le_of_ble_eq_true rfl) rfl ?_
  refine r_eq (n_max (by omega) (by omega)) ?_
  refine r_istore 120 (L' := [_, _, _, _, _, _]) dX0_admit_118 (by decide) rfl rfl rfl ?_
  refine r_aload_n 121 dX0_admit_120 rfl rfl ?_
  refine r_iload 123 dX0_admit_121 rfl rfl ?_
  refine r_aload_n 124 dX0_admit_123 rfl rfl ?_
  refine r_getr 127 dX0_admit_124 fz_X0_86 (z_L0 hB) rfl rfl ?_
  refine r_iconst 128 (v := 0) dX0_admit_127 (by decide) rfl ?_
  refine rj_iald 129 (0) dX0_admit_128 (z_L1 hB) (rfl) (by decide) (by decide) rfl ?_
  refine r_eq (z := nI (K 0)) (by rw [e2, z_up_a (by omega), ua _ (by omega)]; exact hL.1 0 (by decide) (by decide)) ?_
  refine r_iadd 130 dX0_admit_129 rfl ?_
  refine r_eq (nI_add _ _) ?_
  refine r_puti 133 dX0_admit_130 fz_X0_70 fw_0_7 sh_30 rfl rfl ?_
  refine r_nw (fun w3 e3 => ?_)
  refine r_aload_n 134 dX0_admit_133 rfl rfl ?_
  refine r_iload_n 135 dX0_admit_134 rfl rfl ?_
  refine r_callSN (y2 := mX6_otherSide) (as := [_]) 138 dX0_admit_135 nx_X0_116 ms_X6_otherSide (c_otherSide (d := d - 1) (k_sd K b) (by omega)) (by omega) rfl (Nat.le_of_ble_eq_true rfl) rfl (kk_i ?_)
  rintro _ _ ⟨rfl, rfl⟩
  refine r_puti 141 dX0_admit_138 fz_X0_89 fw_0_8 sh_30 rfl rfl ?_
  refine r_nw (fun w4 e4 => ?_)
  refine r_aload_n 142 dX0_admit_141 rfl rfl ?_
  refine r_getr 145 dX0_admit_142 fz_X0_18 sh_30 rfl rfl ?_
  refine r_iload_n 146 dX0_admit_145 rfl rfl ?_
  refine r_iload 148 dX0_admit_146 rfl rfl ?_
  refine r_iload 150 dX0_admit_148 rfl rfl ?_
  refine r_isub 151 dX0_admit_150 rfl ?_
  refine r_eq (nI_sub (by omega)) ?_
  refine rj_iast 152 (b) dX0_admit_151 sh_33 (rfl) (by omega) (by decide) rfl ?_
  refine r_nw (fun w5 e5 => ?_)
  refine r_aload_n 153 dX0_admit_152 rfl rfl ?_
  refine r_getr 156 dX0_admit_153 fz_X0_15 sh_30 rfl rfl ?_
  refine r_iload_n 157 dX0_admit_156 rfl rfl ?_
  refine r_aload_n 158 dX0_admit_157 rfl rfl ?_
  refine r_geti 161 dX0_admit_158 fz_X0_70 sh_30 rfl rfl ?_
  refine r_eq (z := nI ((max (if d_r s = k_sd K b then d_f s else d_f s + K 1) (k_ar K b)) + K 0)) (by simp [e5, e4, e3, z_up]) ?_
  refine rj_iast 162 (b) dX0_admit_161 sh_32 (rfl) (by omega) (by decide) rfl ?_
  refine r_nw (fun w6 e6 => ?_)
  refine r_aload_n 163 dX0_admit_162 rfl rfl ?_
  refine r_getr 166 dX0_admit_163 fz_X0_9 sh_30 rfl rfl ?_
  refine r_aload_n 167 dX0_admit_166 rfl rfl ?_
  refine r_geti 170 dX0_admit_167 fz_X0_80 sh_30 rfl rfl ?_
  refine r_eq (z := nI i) (by simp [e6, e5, e4, e3, e2, z_up, v5]) ?_
  refine r_iload_n 171 dX0_admit_170 rfl rfl ?_
  refine rj_iast 172 (i) dX0_admit_171 sh_31 (rfl) (by omega) (by decide) rfl ?_
  refine r_nw (fun w7 e7 => ?_)
  refine r_aload_n 173 dX0_admit_172 rfl rfl ?_
  refine r_dup 174 dX0_admit_173 rfl rfl ?_
  refine r_geti 177 dX0_admit_174 fz_X0_80 sh_30 rfl rfl ?_
  refine r_eq (z := nI i) (by simp [e7, e6, e5, e4, e3, e2, z_up, v5]) ?_
  refine r_iconst 178 (v := 1) dX0_admit_177 (by decide) rfl ?_
  refine r_iadd 179 dX0_admit_178 rfl ?_
  refine r_eq (nI_1 i) ?_
  refine r_puti 182 dX0_admit_179 fz_X0_80 fw_0_5 sh_30 rfl rfl ?_
  refine r_nw (fun w8 e8 => ?_)
  refine r_aload_n 183 dX0_admit_182 rfl rfl ?_
  refine r_dup 184 dX0_admit_183 rfl rfl ?_
  refine r_geti 187 dX0_admit_184 fz_X0_83 sh_30 rfl rfl ?_
  refine r_eq (z := nI (d_g s)) (by simp [e8, e7, e6, e5, e4, e3, e2, z_up, v6]) ?_
  refine r_iconst 188 (v := 1) dX0_admit_187 (by decide) rfl ?_
  refine r_iload_n 189 dX0_admit_188 rfl rfl ?_
  refine r_ishl 190 dX0_admit_189 rfl ?_
  refine r_ior 191 dX0_admit_190 rfl ?_
  refine r_eq (b_or (d_g s) hg64 b (by omega) h0) ?_
  refine r_puti 194 dX0_admit_191 fz_X0_83 fw_0_6 sh_30 rfl rfl ?_
  refine r_nw (fun w9 e9 => ?_)
  refine r_aload_n 195 dX0_admit_194 rfl rfl ?_
  refine r_aload_n 196 dX0_admit_195 rfl rfl ?_
  refine r_geti 199 dX0_admit_196 fz_X0_64 sh_30 rfl rfl ?_
  refine r_eq (z := nI (mx n fun b => if bi (d_g s) b = 1 then d_s s b else 0)) (by simp [e9, e8, e7, e6, e5, e4, e3, e2, z_up, v9]) ?_
  refine r_aload_n 200 dX0_admit_199 rfl rfl ?_
  refine r_getr 203 dX0_admit_200 fz_X0_18 sh_30 rfl rfl ?_
  refine r_iload_n 204 dX0_admit_203 rfl rfl ?_
  refine rj_iald 205 (b) dX0_admit_204 sh_33 (rfl) (by omega) (by decide) rfl ?_
  refine r_eq (z := nI ((max (if d_r s = k_sd K b then d_f s else d_f s + K 1) (k_ar K b)) - k_ar K b)) (by simp [e9, e8, e7, e6, e5, z_up]) ?_
  refine r_mmax 208 dX0_admit_205 ml_X0_98 (by omega) (Nat.le_of_ble_eq_true rfl) rfl ?_
  refine r_eq (n_max (by omega) (by omega)) ?_
  refine r_puti 211 dX0_admit_208 fz_X0_64 fw_0_9 sh_30 rfl rfl ?_
  refine r_nw (fun w10 e10 => ?_)
  refine r_aload_n 212 dX0_admit_211 rfl rfl ?_
  refine r_dup 213 dX0_admit_212 rfl rfl ?_
  refine r_geti 216 dX0_admit_213 fz_X0_61 sh_30 rfl rfl ?_
  refine r_eq (z := nI (sm n fun b => if bi (d_g s) b = 1 then d_s s b * k_wo K b else 0)) (by simp [e10, e9, e8, e7, e6, e5, e4, e3, e2, z_up, v12]) ?_
  refine r_aload_n 217 dX0_admit_216 rfl rfl ?_
  refine r_aload_n 218 dX0_admit_217 rfl rfl ?_
  refine r_iload_n 219 dX0_admit_218 rfl rfl ?_
  refine r_callV (y2 := mX0_costOf) (as := [_, _]) 222 dX0_admit_219 ml_X0_123 mv_X0_costOf (c_costOf (d := d - 1) (by omega) hB (by omega)) (by omega) sh_30 ⟨_, rfl, rfl⟩ rfl (Nat.le_of_ble_eq_true rfl) rfl (kk_i ?_)
  rintro _ _ ⟨rfl, rfl⟩
  refine r_eq (z := nI (((max (if d_r s = k_sd K b then d_f s else d_f s + K 1) (k_ar K b)) - k_ar K b) * k_wo K b)) ?_ ?_
  · rw [← nI_mul]
    congr 1
    · simp [e10, e9, e8, e7, e6, e5, z_up]
    · rw [e10, z_up_a (by omega), e9, z_up_a (by omega), e8, z_up_a (by omega), e7, z_up_a (by omega), e6, z_up_a (by omega), e5, z_up_a (by omega), e4, z_up_a (by omega), e3, z_up_a (by omega), e2, z_up_a (by omega), ua _ (by omega)]
      exact hL.2.1 b 3 hb (by decide)
  refine r_iadd 223 dX0_admit_222 rfl ?_
  refine r_eq (nI_add _ _) ?_
  refine r_puti 226 dX0_admit_223 fz_X0_61 fw_0_12 sh_30 rfl rfl ?_
  refine r_nw (fun w11 e11 => ?_)
  have hbi := bi_add (d_g s) hg64 b (by omega) h0
  have fr : ∀ a, (a < 30 ∨ 33 < a) → w11 a = w a := fun a ha => by rw [e11, z_up_o (by omega), e10, z_up_o (by omega), e9, z_up_o (by omega), e8, z_up_o (by omega), e7, z_up_o (by omega), e6, z_up_o (by omega), e5, z_up_o (by omega), e4, z_up_o (by omega), e3, z_up_o (by omega), e2, z_up_o (by omega), ua _ (by omega)]
  have q31 : ∀ j, j < i + 1 → w11 31 j = nI (d_p (d_let K i b s) j) := by
    intro j hj
    show _ = nI (un (d_p s) i b j)
    by_cases hji : j = i
    · subst hji; rw [un_s]; simp [e11, e10, e9, e8, e7, z_up]
    · rw [un_n hji, ← Cp j (by omega), ← ua 31 (by decide)]; simp [e11, e10, e9, e8, e7, e6, e5, e4, e3, e2, z_up, hji]
  have q32 : ∀ c, c < n → bi (d_g (d_let K i b s)) c = 1 → w11 32 c = nI (d_d (d_let K i b s) c) ∧ w11 33 c = nI (d_s (d_let K i b s) c) := by
    intro c hc h1
    show _ = nI (un (d_d s) b _ c) ∧ _ = nI (un (d_s s) b _ c)
    by_cases hcb : c = b
    · subst hcb; rw [un_s, un_s]; constructor <;> simp [e11, e10, e9, e8, e7, e6, e5, z_up]
    · have h2 : bi (d_g s) c = 1 := by
        have h3 := hbi c (by omega)
        rw [if_neg hcb] at h3
        rw [← h3]; exact h1
      obtain ⟨y1, y2⟩ := Cs c hc h2
      rw [un_n hcb, un_n hcb, ← y1, ← y2, ← ua 32 (by decide), ← ua 33 (by decide)]
      constructor <;> simp [e11, e10, e9, e8, e7, e6, e5, e4, e3, e2, z_up, hcb]
  have y9 : w11 30 9 = nI (mx n fun c => if bi (d_g (d_let K i b s)) c = 1 then d_s (d_let K i b s) c else 0) := by
    rw [mx_let hn hb hg64 h0, show d_s (d_let K i b s) b = (max (if d_r s = k_sd K b then d_f s else d_f s + K 1) (k_ar K b)) - k_ar K b from un_s]
    simp [e11, e10, z_up]
  have y12 : w11 30 12 = nI (sm n fun c => if bi (d_g (d_let K i b s)) c = 1 then d_s (d_let K i b s) c * k_wo K c else 0) := by
    rw [sm_let hn hb hg64 h0, show d_s (d_let K i b s) b = (max (if d_r s = k_sd K b then d_f s else d_f s + K 1) (k_ar K b)) - k_ar K b from un_s]
    simp [e11, z_up]
  have z5 : w11 30 5 = nI (i + 1) := by simp [e11, e10, e9, e8, z_up]
  have z6 : w11 30 6 = nI (d_g s + 2 ^ b) := by simp [e11, e10, e9, z_up]
  have z7 : w11 30 7 = nI ((max (if d_r s = k_sd K b then d_f s else d_f s + K 1) (k_ar K b)) + K 0) := by simp [e11, e10, e9, e8, e7, e6, e5, e4, e3, z_up]
  have z8 : w11 30 8 = nI (1 - k_sd K b) := by simp [e11, e10, e9, e8, e7, e6, e5, e4, z_up]
  have z10 : w11 30 10 = nI ((d_w s + (if d_r s = k_sd K b then 0 else if k_sd K b = 1 then 1 else 0)) + (if k_sd K b = 0 then 1 else 0)) := by simp only [e11, e10, e9, e8, e7, e6, e5, e4, e3, e2, z_up]; simp
  have z11 : w11 30 11 = nI (d_t s + (if d_r s = k_sd K b then 0 else 1)) := by rw [← u11]; simp [e11, e10, e9, e8, e7, e6, e5, e4, e3, e2, z_up]
  exact r_vret dX0_admit_226 rfl (⟨⟨z5, z6, z7, z8, y9, z10, z11, y12, q31, q32⟩, fr⟩)
set_option maxRecDepth 20000 in
set_option maxHeartbeats 4000000 in
theorem c_admit {d B n i b A : Nat} {w : zW} {K : Nat → Nat} {s : dT} (hd : 3 ≤ d) (hB : z_isL B) (hA : A ≤ 200) (hV : kV A n K) (hL : lkD w B n K) (hI : dI n i s) (hC : dyC w n K i s) (hi : i < n) (hb : b < n) (h0 : bi (d_g s) b = 0) : CT mX0_admit d [.ref 30, .ref B, .int (nI b)] w (z_v fun w' => dyC w' n K (i + 1) (d_let K i b s) ∧ ∀ a, (a < 30 ∨ 33 < a) → w' a = w a) := by
  have hn := hV.n
  have hBl := hB.lt
  have hsd := hV.sd hb
  have har := hV.ar hb
  have hwo := hV.wo hb
  have hK0 := hV.2.1
  have hK1 := hV.2.2.1
  obtain ⟨I1, I2, I3, I4, I5, I6, I7, I8⟩ := id hI
  have hg64 : d_g s < 64 := Nat.lt_of_lt_of_le I1 (p2_le n (by omega))
  obtain ⟨C5, C6, C7, C8, C9, C10, C11, C12, Cp, Cs⟩ := id hC
  have hmx := mx_b hI
  have hsm := sm_b hV hI
  refine CT.of [some (.ref 30), some (.ref B), some (.int (nI b)), none, none, none] rfl (Nat.le_of_ble_eq_true rfl) rfl ?_
  refine r_iload_n 1 dX0_admit_0 rfl rfl ?_
  refine r_iconst 2 (v := 0) dX0_admit_1 (by decide) rfl ?_
  refine r_aload_n 3 dX0_admit_2 rfl rfl ?_
  refine r_geti 6 dX0_admit_3 fz_X0_31 (z_L0 hB) rfl rfl ?_
  refine r_eq hL.2.2 ?_
  refine r_iconst 7 (v := 1) dX0_admit_6 (by decide) rfl ?_
  refine r_isub 8 dX0_admit_7 rfl ?_
  refine r_callSN (y2 := mX6_within) (as := [_, _, _]) 11 dX0_admit_8 nx_X0_119 ms_X6_within (c_within (d := d - 1) _ _ _) (by omega) rfl (Nat.le_of_ble_eq_true rfl) rfl (kk_i ?_)
  rintro _ _ ⟨rfl, rfl⟩
  refine rb_eq 23 14 dX0_admit_11 (by decide) rfl (fun g11 => ?_) (fun g11 => ?_)
  · refine absurd ⟨?_, ?_⟩ g11
    · show (0 : Int) ≤ _
      rw [ti_n (by omega)]
      omega
    · have e : nI n - 1 = nI (n - 1) := nI_sub (b := 1) (by omega)
      rw [e, ti_n (by omega), ti_n (by omega)]
      omega
  · refine r_aload_n 15 dX0_admit_14 rfl rfl ?_
    refine r_geti 18 dX0_admit_15 fz_X0_80 sh_30 rfl rfl ?_
    refine r_eq C5 ?_
    refine r_bipush 20 (v := 6) dX0_admit_18 (by decide) rfl ?_
    refine r_icmp_lt 24 23 dX0_admit_20 (by decide) rfl (fun _ => ?_) (fun z => absurd ((nI_lt' (b := 6) (by omega) (by decide)).mpr (by omega)) z)
    refine r_aload_n 25 dX0_admit_24 rfl rfl ?_
    refine r_iload_n 26 dX0_admit_25 rfl rfl ?_
    refine r_iconst 27 (v := 0) dX0_admit_26 (by decide) rfl ?_
    refine r_callV (y2 := mX1_mark) (as := [_, _]) 30 dX0_admit_27 ml_X0_41 mv_X1_mark (c_mark (d := d - 1) hB (i := b) (j := 0) (by omega) (by decide)) (by omega) (z_L0 hB) ⟨_, rfl, rfl⟩ rfl (Nat.le_of_ble_eq_true rfl) rfl (kk_i ?_)
    rintro _ _ ⟨rfl, rfl⟩
    refine r_eq (z := nI (k_sd K b)) (hL.2.1 b 0 hb (by decide)) ?_
    refine r_istore_n 31 (L' := [_, _, _, _, _, _]) dX0_admit_30 (by decide) rfl rfl rfl ?_
    refine r_aload_n 32 dX0_admit_31 rfl rfl ?_
    refine r_geti 35 dX0_admit_32 fz_X0_89 sh_30 rfl rfl ?_
    refine r_eq C8 ?_
    refine r_iload_n 36 dX0_admit_35 rfl rfl ?_
    refine r_icmp_eq 83 39 dX0_admit_36 (by decide) rfl (fun g36 => ?_) (fun g36 => ?_)
    · have g36 : d_r s = k_sd K b := (nI_inj (by omega) (by omega)).mp g36
      first
        | exact l_admit hd hB hA hV hL hI hC hi hb h0 (by rw [if_pos g36]; exact C7) (by rw [if_pos g36]; exact C10) (by rw [if_pos g36]; exact C11) (fun _ _ _ _ => rfl) (fun _ _ => rfl)
        | exact l_admit hd hB hA hV hL hI hC hi hb h0 (by rw [if_neg g36, e3, z_up_i (by decide), e2, z_up_i (by decide), e1, z_up_s]) (by rw [if_neg g36, e3, z_up_s]) (by rw [if_neg g36, e3, z_up_i (by decide), e2, z_up_s]) (fun q h1 h2 h3 => by rw [e3, z_up_i h2, e2, z_up_i h3, e1, z_up_i h1]) (fun a ha => by rw [e3, z_up_o ha, e2, z_up_o ha, e1, z_up_o ha])
    · have g36 : ¬ d_r s = k_sd K b := fun z => g36 (by rw [z])
      refine r_aload_n 40 dX0_admit_39 rfl rfl ?_
      refine r_dup 41 dX0_admit_40 rfl rfl ?_
      refine r_geti 44 dX0_admit_41 fz_X0_70 sh_30 rfl rfl ?_
      refine r_eq C7 ?_
      refine r_aload_n 45 dX0_admit_44 rfl rfl ?_
      refine r_getr 48 dX0_admit_45 fz_X0_86 (z_L0 hB) rfl rfl ?_
      refine r_iconst 49 (v := 1) dX0_admit_48 (by decide) rfl ?_
      refine rj_iald 50 (1) dX0_admit_49 (z_L1 hB) (rfl) (by decide) (by decide) rfl ?_
      refine r_eq (hL.1 1 (by decide) (by decide)) ?_
      refine r_iadd 51 dX0_admit_50 rfl ?_
      refine r_eq (nI_add _ _) ?_
      refine r_puti 54 dX0_admit_51 fz_X0_70 fw_0_7 sh_30 rfl rfl ?_
      refine r_nw (fun w1 e1 => ?_)
      refine r_aload_n 55 dX0_admit_54 rfl rfl ?_
      refine r_dup 56 dX0_admit_55 rfl rfl ?_
      refine r_geti 59 dX0_admit_56 fz_X0_73 sh_30 rfl rfl ?_
      refine r_eq (z := nI (d_t s)) (by rw [e1, z_up_i (by decide)]; exact C11) ?_
      refine r_iconst 60 (v := 1) dX0_admit_59 (by decide) rfl ?_
      refine r_iadd 61 dX0_admit_60 rfl ?_
      refine r_eq (nI_1 _) ?_
      refine r_puti 64 dX0_admit_61 fz_X0_73 fw_0_11 sh_30 rfl rfl ?_
      refine r_nw (fun w2 e2 => ?_)
      refine r_aload_n 65 dX0_admit_64 rfl rfl ?_
      refine r_dup 66 dX0_admit_65 rfl rfl ?_
      refine r_geti 69 dX0_admit_66 fz_X0_67 sh_30 rfl rfl ?_
      refine r_eq (z := nI (d_w s)) (by rw [e2, z_up_i (by decide), e1, z_up_i (by decide)]; exact C10) ?_
      refine r_iload_n 70 dX0_admit_69 rfl rfl ?_
      refine r_iconst 71 (v := 1) dX0_admit_70 (by decide) rfl ?_
      refine rt_icmp_ne (a := 1) (b := 0) (j := 79) 78 74 dX0_admit_71 (by decide) rfl (fun k => r_iconst 79 dX0_admit_78 (by decide) rfl k) (fun k => r_iconst 75 dX0_admit_74 (by decide) rfl (r_goto 79 dX0_admit_75 (by decide) k)) ?_
      refine r_iadd 80 dX0_admit_79 rfl ?_
      refine r_eq (z := nI (d_w s + (if k_sd K b = 1 then 1 else 0))) ?_ ?_
      · refine Eq.trans ?_ (nI_add _ _)
        congr 1
        rcases (by omega : k_sd K b = 0 ∨ k_sd K b = 1) with q | q <;> rw [q] <;> rfl
      refine r_puti 83 dX0_admit_80 fz_X0_67 fw_0_10 sh_30 rfl rfl ?_
      refine r_nw (fun w3 e3 => ?_)
      first
        | exact l_admit hd hB hA hV hL hI hC hi hb h0 (by rw [if_pos g36]; exact C7) (by rw [if_pos g36]; exact C10) (by rw [if_pos g36]; exact C11) (fun _ _ _ _ => rfl) (fun _ _ => rfl)
        | exact l_admit hd hB hA hV hL hI hC hi hb h0 (by rw [if_neg g36, e3, z_up_i (by decide), e2, z_up_i (by decide), e1, z_up_s]) (by rw [if_neg g36, e3, z_up_s]) (by rw [if_neg g36, e3, z_up_i (by decide), e2, z_up_s]) (fun q h1 h2 h3 => by rw [e3, z_up_i h2, e2, z_up_i h3, e1, z_up_i h1]) (fun a ha => by rw [e3, z_up_o ha, e2, z_up_o ha, e1, z_up_o ha])

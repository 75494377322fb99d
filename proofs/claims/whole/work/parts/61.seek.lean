/-! ===== the class: order, its search ===== -/
theorem orR_cut {A n k m : Nat} {K p : Nat → Nat} {w : zW} (hV : kV A n K) (hA : A ≤ 200) (hm : k + m = n) (ho : pO n k p) (h : orR w n K (nu p k * 6 ^ m)) (hc : ¬ nI (sco n K (d_ord K p k)) < w 36 0) : orR w n K ((nu p k + 1) * 6 ^ m) := by
  have hn := hV.n
  have hm2 : n - k = m := by omega
  have hb := sm_b hV (pO_I hV hA k (by omega) ho).1
  have hb : sco n K (d_ord K p k) ≤ 21600 := hb
  have h0 := h
  unfold orR at h
  cases e : orX n K (nu p k * 6 ^ m) with
  | none =>
    rw [e] at h
    have h : w 36 0 = 1000000 := h
    rw [h] at hc
    exact absurd ((nI_lt' (b := 1000000) (by omega) (by decide)).mpr (by omega)) hc
  | some x =>
    rw [e] at h
    have h1 := h.1
    rw [h1] at hc
    have b1 : oc n K x ≤ 21600 := sm_b hV (d_ord_I hV hA (isO_iff.mp (am_some e).2.1) n (Nat.le_refl n)).1
    have hle : oc n K x ≤ sco n K (d_ord K p k) := by
      apply Nat.le_of_not_lt
      intro z
      exact hc ((nI_lt' (by omega) (by omega)).mpr z)
    have hc2 := orX_cut (C := oc n K x) (p := p) hV hA (k := k) (by omega) (fun i hi => by have := ho.1 i hi; omega) ⟨x, by rw [hm2]; exact e, rfl⟩ hle
    rw [hm2] at hc2
    exact orR_same h0 hc2
theorem d_ord_un {K p : Nat → Nat} {k b : Nat} : d_ord K (un p k b) (k + 1) = d_let K k b (d_ord K p k) := by
  rw [d_ord, un_s, d_ord_congr (o := un p k b) (o' := p) k (fun j hj => un_n (by omega))]
set_option maxRecDepth 20000 in
set_option maxHeartbeats 4000000 in
theorem l_seek {A d n m k : Nat} {K p : Nat → Nat} {w0 : zW} {T : zX → Prop} (hV : kV A n K) (hA : A ≤ 200) (ihm : ∀ k d p w, k + m = n → m + 3 ≤ d → pO n k p → lkD w 1 n K → (∀ j, j < k → w 38 j = nI (p j)) → orR w n K (nu p k * 6 ^ m) → CT mX2_seek d [.ref 36, .ref 1, .int (nI k), .int (nI (d_g (d_ord K p k))), .int (nI (d_f (d_ord K p k))), .int (nI (d_r (d_ord K p k))), .int (nI (sco n K (d_ord K p k)))] w (z_v fun w' => orR w' n K ((nu p k + 1) * 6 ^ m) ∧ (∀ j, j < k → w' 38 j = w 38 j) ∧ ∀ a, a ≠ 36 → a ≠ 37 → a ≠ 38 → w' a = w a)) (hm : k + 1 + m = n) (hd : m + 4 ≤ d) (ho : pO n k p) (h38 : ∀ j, j < k → w0 38 j = nI (p j)) (hx : ∀ w v8 v9 v10 v11, lkD w 1 n K → (∀ j, j < k → w 38 j = w0 38 j) → (∀ a, a ≠ 36 → a ≠ 37 → a ≠ 38 → w a = w0 a) → orR w n K ((nu p k * 6 + n) * 6 ^ m) → WP mX2_seek d T 175 [some (.ref 36), some (.ref 1), some (.int (nI k)), some (.int (nI (d_g (d_ord K p k)))), some (.int (nI (d_f (d_ord K p k)))), some (.int (nI (d_r (d_ord K p k)))), some (.int (nI (sco n K (d_ord K p k)))), some (.int (nI n)), v8, v9, v10, v11] [] w) : ∀ t b (w : zW) v8 v9 v10 v11, b + t = n → lkD w 1 n K → (∀ j, j < k → w 38 j = w0 38 j) → (∀ a, a ≠ 36 → a ≠ 37 → a ≠ 38 → w a = w0 a) → orR w n K ((nu p k * 6 + b) * 6 ^ m) → WP mX2_seek d T 49 [some (.ref 36), some (.ref 1), some (.int (nI k)), some (.int (nI (d_g (d_ord K p k)))), some (.int (nI (d_f (d_ord K p k)))), some (.int (nI (d_r (d_ord K p k)))), some (.int (nI (sco n K (d_ord K p k)))), some (.int (nI b)), v8, v9, v10, v11] [] w := by
  have hn := hV.n
  obtain ⟨hI, -, -⟩ := pO_I hV hA k (by omega) ho
  have hg64 : d_g (d_ord K p k) < 64 := Nat.lt_of_lt_of_le hI.1 (p2_le n (by omega))
  have hr := hI.2.2.2.2.1
  have hf := hI.2.2.2.1
  have hK0 := hV.2.1
  have hK1 := hV.2.2.1
  intro t
  induction t with
  | zero =>
    intro b w v8 v9 v10 v11 hb hL h1 h2 h3
    have e : b = n := by omega
    subst e
    refine r_iload 51 dX2_seek_49 rfl rfl ?_
    refine r_aload_n 52 dX2_seek_51 rfl rfl ?_
    refine r_geti 55 dX2_seek_52 fz_X2_32 sh_1 rfl rfl ?_
    refine r_eq hL.2.2 ?_
    refine r_icmp_ge 175 58 dX2_seek_55 (by decide) rfl (fun _ => ?_) (fun z => absurd (Int32.le_refl _) z)
    exact hx w v8 v9 v10 v11 hL h1 h2 h3
  | succ t ih =>
    intro b w v8 v9 v10 v11 hb hL h1 h2 h3
    have hbn : b < n := by omega
    have hsd := hV.sd hbn
    have har := hV.ar hbn
    have hwo := hV.wo hbn
    have hF : (if d_r (d_ord K p k) = k_sd K b then d_f (d_ord K p k) else d_f (d_ord K p k) + K 1) ≤ 209 + 18 * k := by split <;> omega
    refine r_iload 51 dX2_seek_49 rfl rfl ?_
    refine r_aload_n 52 dX2_seek_51 rfl rfl ?_
    refine r_geti 55 dX2_seek_52 fz_X2_32 sh_1 rfl rfl ?_
    refine r_eq hL.2.2 ?_
    refine r_icmp_ge 175 58 dX2_seek_55 (by decide) rfl (fun z => absurd z (fun z => absurd ((nI_le' (by omega) (by omega)).mp z) (by omega))) (fun _ => ?_)
    refine r_iload_n 59 dX2_seek_58 rfl rfl ?_
    refine r_iload 61 dX2_seek_59 rfl rfl ?_
    refine r_ishr 62 dX2_seek_61 rfl ?_
    refine r_iconst 63 (v := 1) dX2_seek_62 (by decide) rfl ?_
    refine r_iand 64 dX2_seek_63 rfl ?_
    refine r_eq (b_sh _ hg64 b (by omega)) ?_
    refine r_if_ne 169 67 dX2_seek_64 (by decide) rfl (fun g64 => ?_) (fun g64 => ?_)
    · have g64 : bi (d_g (d_ord K p k)) b = 1 := by
        rcases bi_01 (d_g (d_ord K p k)) b with z | z
        · exact absurd (by rw [z]; rfl) g64
        · exact z
      refine r_iinc 172 (L' := [_, _, _, _, _, _, _, _, _, _, _, _]) (v := nI (b + 1)) dX2_seek_169 rfl (nI_1 b) (by decide) rfl rfl rfl ?_
      refine r_goto 49 dX2_seek_172 (by decide) ?_
      exact ih (b + 1) w v8 v9 v10 v11 (by omega) hL h1 h2 (orR_same h3 (orX_gone hV hA hm ho (by omega) (Or.inr g64)))
    · have g64 : bi (d_g (d_ord K p k)) b = 0 := (nI_inj (b := 0) (by have := bi_lt (d_g (d_ord K p k)) b; omega) (by decide)).mp g64
      have hs := ihm (k + 1) (d - 1) (un p k b) (z_up w 38 k (nI b)) (by omega) (by omega) (pO_un hV hA (by omega) ho hbn g64) (hL.congr (by rw [z_up_a (by decide)]) (z_up_o (by decide)) (z_up_o (by decide))) (fun j hj => by by_cases e : j = k; (rw [e, z_up_s, un_s]); (rw [z_up_i e, un_n e, h1 j (by omega)]; exact h38 j (by omega))) (by rw [nu_un]; exact h3.congr (z_up_o (by decide)) (z_up_o (by decide)))
      rw [d_ord_un, nu_un, sco_let hV hI hbn g64] at hs
      refine r_aload_n 68 dX2_seek_67 rfl rfl ?_
      refine r_iload 70 dX2_seek_68 rfl rfl ?_
      refine r_iconst 71 (v := 0) dX2_seek_70 (by decide) rfl ?_
      refine r_callV (y2 := mX1_mark) (as := [_, _]) 74 dX2_seek_71 ml_X2_41 mv_X1_mark (c_mark (d := d - 1) (B := 1) (Or.inl rfl) (i := b) (j := 0) (by omega) (by decide)) (by omega) sh_1 ⟨_, rfl, rfl⟩ rfl (Nat.le_of_ble_eq_true rfl) rfl (kk_i ?_)
      rintro _ _ ⟨rfl, rfl⟩
      refine r_eq (z := nI (k_sd K b)) (hL.2.1 b 0 hbn (by decide)) ?_
      refine r_istore 76 (L' := [_, _, _, _, _, _, _, _, _, _, _, _]) dX2_seek_74 (by decide) rfl rfl rfl ?_
      refine r_aload_n 77 dX2_seek_76 rfl rfl ?_
      refine r_iload 79 dX2_seek_77 rfl rfl ?_
      refine r_iconst 80 (v := 2) dX2_seek_79 (by decide) rfl ?_
      refine r_callV (y2 := mX1_mark) (as := [_, _]) 83 dX2_seek_80 ml_X2_41 mv_X1_mark (c_mark (d := d - 1) (B := 1) (Or.inl rfl) (i := b) (j := 2) (by omega) (by decide)) (by omega) sh_1 ⟨_, rfl, rfl⟩ rfl (Nat.le_of_ble_eq_true rfl) rfl (kk_i ?_)
      rintro _ _ ⟨rfl, rfl⟩
      refine r_eq (z := nI (k_ar K b)) (hL.2.1 b 2 hbn (by decide)) ?_
      refine r_istore 85 (L' := [_, _, _, _, _, _, _, _, _, _, _, _]) dX2_seek_83 (by decide) rfl rfl rfl ?_
      refine r_iload 87 dX2_seek_85 rfl rfl ?_
      refine r_iload 89 dX2_seek_87 rfl rfl ?_
      refine r_iload 91 dX2_seek_89 rfl rfl ?_
      refine r_icmp_ne 99 94 dX2_seek_91 (by decide) rfl (fun g91 => ?_) (fun g91 => ?_)
      · have g91 : ¬ d_r (d_ord K p k) = k_sd K b := fun z => g91 (by rw [z])
        refine r_iload 101 dX2_seek_99 rfl rfl ?_
        refine r_aload_n 102 dX2_seek_101 rfl rfl ?_
        refine r_getr 105 dX2_seek_102 fz_X2_23 sh_1 rfl rfl ?_
        refine r_iconst 106 (v := 1) dX2_seek_105 (by decide) rfl ?_
        refine rj_iald 107 (1) dX2_seek_106 sh_2 (rfl) (by decide) (by decide) rfl ?_
        refine r_eq (hL.1 1 (by decide) (by decide)) ?_
        refine r_iadd 108 dX2_seek_107 rfl ?_
        refine r_eq (z := nI (if d_r (d_ord K p k) = k_sd K b then d_f (d_ord K p k) else d_f (d_ord K p k) + K 1)) (by first | (rw [if_pos g91]; done) | (rw [if_neg g91]; exact nI_add _ _)) ?_
        refine r_mmax 111 dX2_seek_108 ml_X2_45 (by omega) (Nat.le_of_ble_eq_true rfl) rfl ?_
        refine r_eq (z := nI (max (if d_r (d_ord K p k) = k_sd K b then d_f (d_ord K p k) else d_f (d_ord K p k) + K 1) (k_ar K b))) ((n_max (by omega) (by omega)).trans (by rw [Nat.max_comm])) ?_
        refine r_istore 113 (L' := [_, _, _, _, _, _, _, _, _, _, _, _]) dX2_seek_111 (by decide) rfl rfl rfl ?_
        refine r_iload 115 dX2_seek_113 rfl rfl ?_
        refine r_iload 117 dX2_seek_115 rfl rfl ?_
        refine r_isub 118 dX2_seek_117 rfl ?_
        refine r_eq (nI_sub (by omega)) ?_
        refine r_aload_n 119 dX2_seek_118 rfl rfl ?_
        refine r_iload 121 dX2_seek_119 rfl rfl ?_
        refine r_iconst 122 (v := 3) dX2_seek_121 (by decide) rfl ?_
        refine r_callV (y2 := mX1_mark) (as := [_, _]) 125 dX2_seek_122 ml_X2_41 mv_X1_mark (c_mark (d := d - 1) (B := 1) (Or.inl rfl) (i := b) (j := 3) (by omega) (by decide)) (by omega) sh_1 ⟨_, rfl, rfl⟩ rfl (Nat.le_of_ble_eq_true rfl) rfl (kk_i ?_)
        rintro _ _ ⟨rfl, rfl⟩
        refine r_eq (z := nI (k_wo K b)) (hL.2.1 b 3 hbn (by decide)) ?_
        refine r_imul 126 dX2_seek_125 rfl ?_
        refine r_eq (nI_mul _ _) ?_
        refine r_istore 128 (L' := [_, _, _, _, _, _, _, _, _, _, _, _]) dX2_seek_126 (by decide) rfl rfl rfl ?_
        refine r_aload_n 129 dX2_seek_128 rfl rfl ?_
        refine r_getr 132 dX2_seek_129 fz_X2_15 sh_36 rfl rfl ?_
        refine r_iload_n 133 dX2_seek_132 rfl rfl ?_
        refine r_iload 135 dX2_seek_133 rfl rfl ?_
        refine rj_iast 136 (k) dX2_seek_135 sh_38 (rfl) (by omega) (by decide) rfl ?_
        refine r_aload_n 137 dX2_seek_136 rfl rfl ?_
        refine r_aload_n 138 dX2_seek_137 rfl rfl ?_
        refine r_iload_n 139 dX2_seek_138 rfl rfl ?_
        refine r_iconst 140 (v := 1) dX2_seek_139 (by decide) rfl ?_
        refine r_iadd 141 dX2_seek_140 rfl ?_
        refine r_eq (nI_1 k) ?_
        refine r_iload_n 142 dX2_seek_141 rfl rfl ?_
        refine r_iconst 143 (v := 1) dX2_seek_142 (by decide) rfl ?_
        refine r_iload 145 dX2_seek_143 rfl rfl ?_
        refine r_ishl 146 dX2_seek_145 rfl ?_
        refine r_ior 147 dX2_seek_146 rfl ?_
        refine r_eq (b_or _ hg64 b (by omega) g64) ?_
        refine r_iload 149 dX2_seek_147 rfl rfl ?_
        refine r_aload_n 150 dX2_seek_149 rfl rfl ?_
        refine r_getr 153 dX2_seek_150 fz_X2_23 sh_1 rfl rfl ?_
        refine r_iconst 154 (v := 0) dX2_seek_153 (by decide) rfl ?_
        refine rj_iald 155 (0) dX2_seek_154 sh_2 (rfl) (by decide) (by decide) rfl ?_
        refine r_eq (z := nI (K 0)) (by rw [z_up_a (by decide)]; exact hL.1 0 (by decide) (by decide)) ?_
        refine r_iadd 156 dX2_seek_155 rfl ?_
        refine r_eq (nI_add _ _) ?_
        refine r_iload 158 dX2_seek_156 rfl rfl ?_
        refine r_callSN (y2 := mX6_otherSide) (as := [_]) 161 dX2_seek_158 nx_X2_50 ms_X6_otherSide (c_otherSide (d := d - 1) (k_sd K b) (by omega)) (by omega) rfl (Nat.le_of_ble_eq_true rfl) rfl (kk_i ?_)
        rintro _ _ ⟨rfl, rfl⟩
        refine r_iload 163 dX2_seek_161 rfl rfl ?_
        refine r_iload 165 dX2_seek_163 rfl rfl ?_
        refine r_iadd 166 dX2_seek_165 rfl ?_
        refine r_eq (z := nI (sco n K (d_ord K p k) + d_s (d_let K k b (d_ord K p k)) b * k_wo K b)) ((nI_add _ _).trans (by rw [show d_s (d_let K k b (d_ord K p k)) b = (max (if d_r (d_ord K p k) = k_sd K b then d_f (d_ord K p k) else d_f (d_ord K p k) + K 1) (k_ar K b)) - k_ar K b from un_s])) ?_
        refine r_callV (y2 := mX2_seek) (as := [_, _, _, _, _, _]) 169 dX2_seek_166 ml_X2_28 mv_X2_seek (hs) (by omega) sh_36 ⟨_, rfl, rfl⟩ rfl (Nat.le_of_ble_eq_true rfl) rfl (kk_v ?_)
        rintro w2 ⟨q1, q2, q3⟩
        refine r_iinc 172 (L' := [_, _, _, _, _, _, _, _, _, _, _, _]) (v := nI (b + 1)) dX2_seek_169 rfl (nI_1 b) (by decide) rfl rfl rfl ?_
        refine r_goto 49 dX2_seek_172 (by decide) ?_
        exact ih (b + 1) w2 _ _ _ _ (by omega) (hL.congr (by rw [q3 1 (by decide) (by decide) (by decide), z_up_a (by decide)]) (by rw [q3 2 (by decide) (by decide) (by decide), z_up_o (by decide)]) (by rw [q3 3 (by decide) (by decide) (by decide), z_up_o (by decide)])) (fun j hj => by rw [q2 j (by omega), z_up_i (by omega)]; exact h1 j hj) (fun a a1 a2 a3 => by rw [q3 a a1 a2 a3, z_up_o a3]; exact h2 a a1 a2 a3) q1
      · have g91 : d_r (d_ord K p k) = k_sd K b := (nI_inj (by omega) (by omega)).mp g91
        refine r_iload 96 dX2_seek_94 rfl rfl ?_
        refine r_goto 108 dX2_seek_96 (by decide) ?_
        refine r_eq (z := nI (if d_r (d_ord K p k) = k_sd K b then d_f (d_ord K p k) else d_f (d_ord K p k) + K 1)) (by first | (rw [if_pos g91]; done) | (rw [if_neg g91]; exact nI_add _ _)) ?_
        refine r_mmax 111 dX2_seek_108 ml_X2_45 (by omega) (Nat.le_of_ble_eq_true rfl) rfl ?_
        refine r_eq (z := nI (max (if d_r (d_ord K p k) = k_sd K b then d_f (d_ord K p k) else d_f (d_ord K p k) + K 1) (k_ar K b))) ((n_max (by omega) (by omega)).trans (by rw [Nat.max_comm])) ?_
        refine r_istore 113 (L' := [_, _, _, _, _, _, _, _, _, _, _, _]) dX2_seek_111 (by decide) rfl rfl rfl ?_
        refine r_iload 115 dX2_seek_113 rfl rfl ?_
        refine r_iload 117 dX2_seek_115 rfl rfl ?_
        refine r_isub 118 dX2_seek_117 rfl ?_
        refine r_eq (nI_sub (by omega)) ?_
        refine r_aload_n 119 dX2_seek_118 rfl rfl ?_
        refine r_iload 121 dX2_seek_119 rfl rfl ?_
        refine r_iconst 122 (v := 3) dX2_seek_121 (by decide) rfl ?_
        refine r_callV (y2 := mX1_mark) (as := [_, _]) 125 dX2_seek_122 ml_X2_41 mv_X1_mark (c_mark (d := d - 1) (B := 1) (Or.inl rfl) (i := b) (j := 3) (by omega) (by decide)) (by omega) sh_1 ⟨_, rfl, rfl⟩ rfl (Nat.le_of_ble_eq_true rfl) rfl (kk_i ?_)
        rintro _ _ ⟨rfl, rfl⟩
        refine r_eq (z := nI (k_wo K b)) (hL.2.1 b 3 hbn (by decide)) ?_
        refine r_imul 126 dX2_seek_125 rfl ?_
        refine r_eq (nI_mul _ _) ?_
        refine r_istore 128 (L' := [_, _, _, _, _, _, _, _, _, _, _, _]) dX2_seek_126 (by decide) rfl rfl rfl ?_
        refine r_aload_n 129 dX2_seek_128 rfl rfl ?_
        refine r_getr 132 dX2_seek_129 fz_X2_15 sh_36 rfl rfl ?_
        refine r_iload_n 133 dX2_seek_132 rfl rfl ?_
        refine r_iload 135 dX2_seek_133 rfl rfl ?_
        refine rj_iast 136 (k) dX2_seek_135 sh_38 (rfl) (by omega) (by decide) rfl ?_
        refine r_aload_n 137 dX2_seek_136 rfl rfl ?_
        refine r_aload_n 138 dX2_seek_137 rfl rfl ?_
        refine r_iload_n 139 dX2_seek_138 rfl rfl ?_
        refine r_iconst 140 (v := 1) dX2_seek_139 (by decide) rfl ?_
        refine r_iadd 141 dX2_seek_140 rfl ?_
        refine r_eq (nI_1 k) ?_
        refine r_iload_n 142 dX2_seek_141 rfl rfl ?_
        refine r_iconst 143 (v := 1) dX2_seek_142 (by decide) rfl ?_
        refine r_iload 145 dX2_seek_143 rfl rfl ?_
        refine r_ishl 146 dX2_seek_145 rfl ?_
        refine r_ior 147 dX2_seek_146 rfl ?_
        refine r_eq (b_or _ hg64 b (by omega) g64) ?_
        refine r_iload 149 dX2_seek_147 rfl rfl ?_
        refine r_aload_n 150 dX2_seek_149 rfl rfl ?_
        refine r_getr 153 dX2_seek_150 fz_X2_23 sh_1 rfl rfl ?_
        refine r_iconst 154 (v := 0) dX2_seek_153 (by decide) rfl ?_
        refine rj_iald 155 (0) dX2_seek_154 sh_2 (rfl) (by decide) (by decide) rfl ?_
        refine r_eq (z := nI (K 0)) (by rw [z_up_a (by decide)]; exact hL.1 0 (by decide) (by decide)) ?_
        refine r_iadd 156 dX2_seek_155 rfl ?_
        refine r_eq (nI_add _ _) ?_
        refine r_iload 158 dX2_seek_156 rfl rfl ?_
        refine r_callSN (y2 := mX6_otherSide) (as := [_]) 161 dX2_seek_158 nx_X2_50 ms_X6_otherSide (c_otherSide (d := d - 1) (k_sd K b) (by omega)) (by omega) rfl (Nat.le_of_ble_eq_true rfl) rfl (kk_i ?_)
        rintro _ _ ⟨rfl, rfl⟩
        refine r_iload 163 dX2_seek_161 rfl rfl ?_
        refine r_iload 165 dX2_seek_163 rfl rfl ?_
        refine r_iadd 166 dX2_seek_165 rfl ?_
        refine r_eq (z := nI (sco n K (d_ord K p k) + d_s (d_let K k b (d_ord K p k)) b * k_wo K b)) ((nI_add _ _).trans (by rw [show d_s (d_let K k b (d_ord K p k)) b = (max (if d_r (d_ord K p k) = k_sd K b then d_f (d_ord K p k) else d_f (d_ord K p k) + K 1) (k_ar K b)) - k_ar K b from un_s])) ?_
        refine r_callV (y2 := mX2_seek) (as := [_, _, _, _, _, _]) 169 dX2_seek_166 ml_X2_28 mv_X2_seek (hs) (by omega) sh_36 ⟨_, rfl, rfl⟩ rfl (Nat.le_of_ble_eq_true rfl) rfl (kk_v ?_)
        rintro w2 ⟨q1, q2, q3⟩
        refine r_iinc 172 (L' := [_, _, _, _, _, _, _, _, _, _, _, _]) (v := nI (b + 1)) dX2_seek_169 rfl (nI_1 b) (by decide) rfl rfl rfl ?_
        refine r_goto 49 dX2_seek_172 (by decide) ?_
        exact ih (b + 1) w2 _ _ _ _ (by omega) (hL.congr (by rw [q3 1 (by decide) (by decide) (by decide), z_up_a (by decide)]) (by rw [q3 2 (by decide) (by decide) (by decide), z_up_o (by decide)]) (by rw [q3 3 (by decide) (by decide) (by decide), z_up_o (by decide)])) (fun j hj => by rw [q2 j (by omega), z_up_i (by omega)]; exact h1 j hj) (fun a a1 a2 a3 => by rw [q3 a a1 a2 a3, z_up_o a3]; exact h2 a a1 a2 a3) q1
set_option maxRecDepth 20000 in
set_option maxHeartbeats 4000000 in
theorem c_seek {A n : Nat} {K : Nat → Nat} (hV : kV A n K) (hA : A ≤ 200) : ∀ m k d p w, k + m = n → m + 3 ≤ d → pO n k p → lkD w 1 n K → (∀ j, j < k → w 38 j = nI (p j)) → orR w n K (nu p k * 6 ^ m) → CT mX2_seek d [.ref 36, .ref 1, .int (nI k), .int (nI (d_g (d_ord K p k))), .int (nI (d_f (d_ord K p k))), .int (nI (d_r (d_ord K p k))), .int (nI (sco n K (d_ord K p k)))] w (z_v fun w' => orR w' n K ((nu p k + 1) * 6 ^ m) ∧ (∀ j, j < k → w' 38 j = w 38 j) ∧ ∀ a, a ≠ 36 → a ≠ 37 → a ≠ 38 → w' a = w a) := by
  have hn := hV.n
  intro m
  induction m with
  | zero =>
    intro k d p w hm hd ho hL h38 hR
    have hk : k = n := by omega
    subst hk
    rw [Nat.pow_zero, Nat.mul_one] at hR
    rw [Nat.pow_zero, Nat.mul_one]
    refine CT.of [some (.ref 36), some (.ref 1), some (.int (nI k)), some (.int (nI (d_g (d_ord K p k)))), some (.int (nI (d_f (d_ord K p k)))), some (.int (nI (d_r (d_ord K p k)))), some (.int (nI (sco k K (d_ord K p k)))), none, none, none, none, none] rfl (Nat.le_of_ble_eq_true rfl) rfl ?_
    refine r_iload 2 dX2_seek_0 rfl rfl ?_
    refine r_aload_n 3 dX2_seek_2 rfl rfl ?_
    refine r_geti 6 dX2_seek_3 fz_X2_19 sh_36 rfl rfl ?_
    refine r_icmp_lt 10 9 dX2_seek_6 (by decide) rfl (fun g6 => ?_) (fun g6 => ?_)
    · refine r_iload_n 11 dX2_seek_10 rfl rfl ?_
      refine r_aload_n 12 dX2_seek_11 rfl rfl ?_
      refine r_geti 15 dX2_seek_12 fz_X2_32 sh_1 rfl rfl ?_
      refine r_eq hL.2.2 ?_
      refine r_icmp_ge 24 18 dX2_seek_15 (by decide) rfl (fun _ => ?_) (fun z => absurd (Int32.le_refl _) z)
      refine r_aload_n 25 dX2_seek_24 rfl rfl ?_
      refine r_iload 27 dX2_seek_25 rfl rfl ?_
      refine r_puti 30 dX2_seek_27 fz_X2_19 fw_2_0 sh_36 rfl rfl ?_
      refine r_aload_n 31 dX2_seek_30 rfl rfl ?_
      refine r_getr 34 dX2_seek_31 fz_X2_15 sh_36 rfl rfl ?_
      refine r_iconst 35 (v := 0) dX2_seek_34 (by decide) rfl ?_
      refine r_aload_n 36 dX2_seek_35 rfl rfl ?_
      refine r_getr 39 dX2_seek_36 fz_X2_9 sh_36 rfl rfl ?_
      refine r_iconst 40 (v := 0) dX2_seek_39 (by decide) rfl ?_
      refine r_bipush 42 (v := 6) dX2_seek_40 (by decide) rfl ?_
      refine rj_copy 45 dX2_seek_42 ml_X2_35 (by omega) sh_38 sh_37 0 0 6 (rfl) (rfl) (rfl) (by decide) (by decide) (Nat.le_of_ble_eq_true rfl) rfl ?_
      refine r_nw (fun w1 e1 => ?_)
      exact r_vret dX2_seek_45 rfl (⟨orR_leaf hV hA ho hR g6 (by rw [e1, z_ua_o (by decide), z_up_s]) (fun j hj => by rw [e1, z_ua_k, pk_cpy_in (by omega) (by omega), z_up_a (by decide), show 0 + (j - 0) = j by omega]; exact h38 j hj), fun j hj => by rw [e1, z_ua_o (by decide), z_up_a (by decide)], fun a a1 a2 a3 => by rw [e1, z_ua_o a2, z_up_o a1]⟩)
    · exact r_vret dX2_seek_9 rfl (⟨by have := orR_cut (m := 0) (p := p) hV hA rfl ho (by rw [Nat.pow_zero, Nat.mul_one]; exact hR) g6; rw [Nat.pow_zero, Nat.mul_one] at this; exact this, fun _ _ => rfl, fun _ _ _ _ => rfl⟩)
  | succ m ihm =>
    intro k d p w hm hd ho hL h38 hR
    have e6 : ∀ x, x * 6 ^ (m + 1) = (x * 6) * 6 ^ m := fun x => by rw [Nat.pow_succ, Nat.mul_comm (6 ^ m) 6, Nat.mul_assoc]
    refine CT.of [some (.ref 36), some (.ref 1), some (.int (nI k)), some (.int (nI (d_g (d_ord K p k)))), some (.int (nI (d_f (d_ord K p k)))), some (.int (nI (d_r (d_ord K p k)))), some (.int (nI (sco n K (d_ord K p k)))), none, none, none, none, none] rfl (Nat.le_of_ble_eq_true rfl) rfl ?_
    refine r_iload 2 dX2_seek_0 rfl rfl ?_
    refine r_aload_n 3 dX2_seek_2 rfl rfl ?_
    refine r_geti 6 dX2_seek_3 fz_X2_19 sh_36 rfl rfl ?_
    refine r_icmp_lt 10 9 dX2_seek_6 (by decide) rfl (fun g6 => ?_) (fun g6 => ?_)
    · refine r_iload_n 11 dX2_seek_10 rfl rfl ?_
      refine r_aload_n 12 dX2_seek_11 rfl rfl ?_
      refine r_geti 15 dX2_seek_12 fz_X2_32 sh_1 rfl rfl ?_
      refine r_eq hL.2.2 ?_
      refine r_icmp_ge 24 18 dX2_seek_15 (by decide) rfl (fun z => absurd z (fun z => absurd ((nI_le' (by omega) (by omega)).mp z) (by omega))) (fun _ => ?_)
      refine r_iload_n 19 dX2_seek_18 rfl rfl ?_
      refine r_bipush 21 (v := 6) dX2_seek_19 (by decide) rfl ?_
      refine r_icmp_lt 46 24 dX2_seek_21 (by decide) rfl (fun _ => ?_) (fun z => absurd ((nI_lt' (b := 6) (by omega) (by decide)).mpr (by omega)) z)
      refine r_iconst 47 (v := 0) dX2_seek_46 (by decide) rfl ?_
      refine r_istore 49 (L' := [_, _, _, _, _, _, _, _, _, _, _, _]) dX2_seek_47 (by decide) rfl rfl rfl ?_
      refine l_seek (w0 := w) hV hA ihm (by omega) (by omega) ho h38 (fun w1 v8 v9 v10 v11 hL1 h1 h2 h3 => ?_) n 0 w _ _ _ _ (Nat.zero_add n) hL (fun _ _ => rfl) (fun _ _ _ _ => rfl) (by rw [Nat.add_zero, ← e6]; exact hR)
      exact r_vret dX2_seek_175 rfl (⟨by have h4 := orX_hi hV hA (show k + 1 + m = n by omega) ho (6 - n) (by omega); rw [show n + (6 - n) = 6 by omega] at h4; rw [e6, Nat.add_mul, Nat.one_mul]; exact orR_same h3 h4, h1, h2⟩)
    · exact r_vret dX2_seek_9 rfl (⟨orR_cut hV hA hm ho hR g6, fun _ _ => rfl, fun _ _ _ _ => rfl⟩)
set_option maxRecDepth 20000 in
set_option maxHeartbeats 4000000 in
theorem c_seekLeast {A d n : Nat} {K : Nat → Nat} {w : zW} (hd : 10 ≤ d) (hV : kV A n K) (hA : A ≤ 200) (hL : lkD w 1 n K) : CT mX2_seekLeastCost d [.ref 36, .ref 1] w (z_v fun w' => orR w' n K (6 ^ n) ∧ ∀ a, a ≠ 36 → a ≠ 37 → a ≠ 38 → w' a = w a) := by
  have hn := hV.n
  refine CT.of [some (.ref 36), some (.ref 1)] rfl (Nat.le_of_ble_eq_true rfl) rfl ?_
  refine r_aload_n 1 dX2_seekLeastCost_0 rfl rfl ?_
  refine r_ldc 3 dX2_seekLeastCost_1 kc_X2_18 rfl ?_
  refine r_puti 6 dX2_seekLeastCost_3 fz_X2_19 fw_2_0 sh_36 rfl rfl ?_
  refine r_nw (fun w1 e1 => ?_)
  refine r_aload_n 7 dX2_seekLeastCost_6 rfl rfl ?_
  refine r_aload_n 8 dX2_seekLeastCost_7 rfl rfl ?_
  refine r_iconst 9 (v := 0) dX2_seekLeastCost_8 (by decide) rfl ?_
  refine r_iconst 10 (v := 0) dX2_seekLeastCost_9 (by decide) rfl ?_
  refine r_iconst 11 (v := 0) dX2_seekLeastCost_10 (by decide) rfl ?_
  refine r_aload_n 12 dX2_seekLeastCost_11 rfl rfl ?_
  refine r_getr 15 dX2_seekLeastCost_12 fz_X2_23 sh_1 rfl rfl ?_
  refine r_iconst 16 (v := 2) dX2_seekLeastCost_15 (by decide) rfl ?_
  refine rj_iald 17 (2) dX2_seekLeastCost_16 sh_2 (rfl) (by decide) (by decide) rfl ?_
  refine r_eq (z := nI (d_r (d_ord K (fun _ => 0) 0))) (by rw [e1, z_up_a (by decide)]; exact hL.1 2 (by decide) (by decide)) ?_
  refine r_iconst 18 (v := 0) dX2_seekLeastCost_17 (by decide) rfl ?_
  have s0 : sco n K (d_ord K (fun _ => 0) 0) = 0 := by
    have z : ∀ b, bi (d_g (d_nil K)) b = 0 := fun b => by show (0 : Nat) / 2 ^ b % 2 = 0; simp
    have s0 : ∀ m, (sm m fun b => if bi (d_g (d_nil K)) b = 1 then d_s (d_nil K) b * k_wo K b else 0) = 0 := by
      intro m
      induction m with
      | zero => rfl
      | succ m ih => rw [sm, ih]; simp [z]
    exact s0 n
  have hs := c_seek hV hA n 0 (d - 1) (fun _ => 0) w1 (Nat.zero_add n) (by omega) ⟨fun i hi => absurd hi (Nat.not_lt_zero i), fun i j _ hj => absurd hj (Nat.not_lt_zero j)⟩ (hL.congr (by rw [e1, z_up_a (by decide)]) (by rw [e1, z_up_o (by decide)]) (by rw [e1, z_up_o (by decide)])) (fun j hj => absurd hj (Nat.not_lt_zero j)) (show orR w1 n K (0 * 6 ^ n) by rw [Nat.zero_mul]; show w1 36 0 = _; rw [e1, z_up_s])
  rw [s0] at hs
  refine r_callV (y2 := mX2_seek) (as := [_, _, _, _, _, _]) 21 dX2_seekLeastCost_18 ml_X2_28 mv_X2_seek (hs) (by omega) sh_36 ⟨_, rfl, rfl⟩ rfl (Nat.le_of_ble_eq_true rfl) rfl (kk_v ?_)
  rintro w2 ⟨q1, -, q3⟩
  have e : (nu (fun _ => 0) 0 + 1) * 6 ^ n = 6 ^ n := by simp [nu]
  rw [e] at q1
  exact r_vret dX2_seekLeastCost_21 rfl (⟨q1, fun a a1 a2 a3 => by rw [q3 a a1 a2 a3, e1, z_up_o a1]⟩)
/-- the best order: its cost, its boats -/
def f_order (s : sT) (q : Int32) : Int32 × sT := (if q = 0 ∨ wi q 10 (9 + s_n s) = true then (match orX (s_n s) (s_K s) (6 ^ s_n s) with | none => 0 | some x => if q = 0 then nI (oc (s_n s) (s_K s) x) else nI (dg (s_n s) x (tN q - 10))) else -1, s)
/-- there is an order -/
theorem orX_ex {n : Nat} {K : Nat → Nat} (hn : n ≤ 6) : ∃ x, orX n K (6 ^ n) = some x := by
  cases e : orX n K (6 ^ n) with
  | some x => exact ⟨x, rfl⟩
  | none =>
    have h := am_none.mp e
    have hlt : ∀ k, nu (fun j => j) k < 6 ^ k ∨ 6 < k := by
      intro k
      induction k with
      | zero => exact Or.inl (by decide)
      | succ k ih =>
        rcases ih with ih | ih
        · by_cases q : 6 < k + 1
          · exact Or.inr q
          · exact Or.inl (by rw [nu, Nat.pow_succ]; omega)
        · exact Or.inr (by omega)
    have h1 := h (nu (fun j => j) n) (by have := hlt n; omega)
    have hd : ∀ j, j < n → dg n (nu (fun j => j) n) j = j := fun j hj => dg_pre (p := fun j => j) (Nat.le_refl n) hj (fun i hi => by omega) (by simp)
    have h2 : isO n (nu (fun j => j) n) = true := isO_iff.mpr ⟨fun i hi => by rw [hd i hi]; exact hi, fun i j hi hj => by rw [hd i (by omega), hd j hj]; omega⟩
    rw [h1] at h2
    cases h2
set_option maxRecDepth 20000 in
set_option maxHeartbeats 4000000 in
theorem k_order {d : Nat} {w : zW} {s : sT} {q : Int32} (hd : 11 ≤ d) (hR : RC w s) (hS : sV s) (g1b : q = 0 ∨ wi q 10 (9 + s_n s) = true) : WP mX6_order d (z_T (z_i fun v w' => (f_order s q).1 = v ∧ RC w' (f_order s q).2 ∧ ∀ a, 49 < a → w' a = w a)) 25 [some (.ref 0), some (.int q)] [] w := by
  have hn := hS.1.n
  obtain ⟨x, hx⟩ := orX_ex (K := s_K s) hn
  refine r_aload_n 26 dX6_order_25 rfl rfl ?_
  refine r_getr 29 dX6_order_26 fz_X6_49 sh_0 rfl rfl ?_
  refine r_aload_n 30 dX6_order_29 rfl rfl ?_
  refine r_getr 33 dX6_order_30 fz_X6_10 sh_0 rfl rfl ?_
  refine r_callV (y2 := mX2_seekLeastCost) (as := [_]) 36 dX6_order_33 ml_X6_161 mv_X2_seekLeastCost (c_seekLeast (d := d - 1) (by omega) hS.1.1 (by decide) hR.1.D) (by omega) sh_36 ⟨_, rfl, rfl⟩ rfl (Nat.le_of_ble_eq_true rfl) rfl (kk_v ?_)
  rintro w1 ⟨q1, q3⟩
  rw [orR, hx] at q1
  have hF : frC w w1 := fun a ha => q3 a (by omega) (by omega) (by omega)
  refine r_iload_n 37 dX6_order_36 rfl rfl ?_
  refine r_if_ne 50 40 dX6_order_37 (by decide) rfl (fun g37 => ?_) (fun g37 => ?_)
  · have gg := wi_iff.mp (g1b.resolve_left g37)
    obtain ⟨j, hq, hj⟩ : ∃ j : Nat, q = nI (10 + j) ∧ j < s_n s := ⟨q.toInt.toNat - 10, ti_of (by omega), by omega⟩
    have ht : tN q - 10 = j := by rw [hq, tN_n (by omega)]; omega
    refine r_aload_n 51 dX6_order_50 rfl rfl ?_
    refine r_getr 54 dX6_order_51 fz_X6_49 sh_0 rfl rfl ?_
    refine r_getr 57 dX6_order_54 fz_X6_167 sh_36 rfl rfl ?_
    refine r_iload_n 58 dX6_order_57 rfl rfl ?_
    refine r_bipush 60 (v := 10) dX6_order_58 (by decide) rfl ?_
    refine r_isub 61 dX6_order_60 rfl ?_
    refine r_eq (z := nI j) (by rw [hq]; exact (nI_sub (a := 10 + j) (b := 10) (by omega)).trans (by congr 1; omega)) ?_
    refine rj_iald 62 (j) dX6_order_61 sh_37 (rfl) (by omega) (by decide) rfl ?_
    refine r_eq (q1.2 _ hj) ?_
    exact r_iret .int dX6_order_62 rfl (rfl) (⟨by rw [f_order, if_pos g1b, hx]; first | exact if_pos g37 | (show (if q = 0 then _ else nI (dg (s_n s) x (tN q - 10))) = _; rw [if_neg g37, ht]), hR.fr hF, hF.hi⟩)
  · refine r_aload_n 41 dX6_order_40 rfl rfl ?_
    refine r_getr 44 dX6_order_41 fz_X6_49 sh_0 rfl rfl ?_
    refine r_geti 47 dX6_order_44 fz_X6_164 sh_36 rfl rfl ?_
    refine r_eq q1.1 ?_
    refine r_goto 62 dX6_order_47 (by decide) ?_
    exact r_iret .int dX6_order_62 rfl (rfl) (⟨by rw [f_order, if_pos g1b, hx]; first | exact if_pos g37 | (show (if q = 0 then _ else nI (dg (s_n s) x (tN q - 10))) = _; rw [if_neg g37, ht]), hR.fr hF, hF.hi⟩)
set_option maxRecDepth 20000 in
set_option maxHeartbeats 4000000 in
theorem C_order {d : Nat} {w : zW} {s : sT} {q : Int32} (hd : 11 ≤ d) (hR : RC w s) (hS : sV s) : AC mX6_order d [.int q] w (f_order s q) := by
  have hn := hS.1.n
  refine CT.of [some (.ref 0), some (.int q)] rfl (Nat.le_of_ble_eq_true rfl) rfl ?_
  refine r_iload_n 1 dX6_order_0 rfl rfl ?_
  refine r_if_eq 25 4 dX6_order_1 (by decide) rfl (fun g1 => ?_) (fun g1 => ?_)
  · have g1b : q = 0 ∨ wi q 10 (9 + s_n s) = true := Or.inl g1
    exact k_order (by omega) hR hS g1b
  · refine r_iload_n 5 dX6_order_4 rfl rfl ?_
    refine r_bipush 7 (v := 10) dX6_order_5 (by decide) rfl ?_
    refine r_bipush 9 (v := 9) dX6_order_7 (by decide) rfl ?_
    refine r_aload_n 10 dX6_order_9 rfl rfl ?_
    refine r_getr 13 dX6_order_10 fz_X6_10 sh_0 rfl rfl ?_
    refine r_geti 16 dX6_order_13 fz_X6_96 sh_1 rfl rfl ?_
    refine r_eq hR.1.2.2.1 ?_
    refine r_iadd 17 dX6_order_16 rfl ?_
    refine r_eq (z := nI (9 + s_n s)) (nI_add 9 _) ?_
    refine r_callS (y2 := mX6_within) (as := [_, _, _]) 20 dX6_order_17 ml_X6_67 ms_X6_within (c_within (d := d - 1) _ _ _) (by omega) rfl (Nat.le_of_ble_eq_true rfl) rfl (kk_i ?_)
    rintro _ _ ⟨rfl, rfl⟩
    refine rb_ne 25 23 dX6_order_20 (by decide) rfl (fun g20 => ?_) (fun g20 => ?_)
    · have g1b : q = 0 ∨ wi q 10 (9 + s_n s) = true := Or.inr (wi_iff.mpr (by rw [ti_n (by omega)] at g20; exact g20))
      exact k_order (by omega) hR hS g1b
    · have g1b : ¬ (q = 0 ∨ wi q 10 (9 + s_n s) = true) := fun z => z.elim g1 (fun z => g20 (by rw [ti_n (by omega)]; exact wi_iff.mp z))
      refine r_iconst 24 (v := -1) dX6_order_23 (by decide) rfl ?_
      exact r_iret .int dX6_order_24 rfl (rfl) (by first | exact ⟨by rw [f_order, if_neg (g1b)], by rw [f_order, if_neg (g1b)]; exact hR, fun _ _ => rfl⟩)

/-! ===== the reference: the text ===== -/
theorem pLine0_k {T p : Nat} {t : Nat → Nat} {D : pD} {x : Nat × pD} (h : pLine0 T t (tok T t p) D = .inr x) : ∀ k, 42 ≤ k → p_K x.2 k = p_K D k := by
  intro k hk
  unfold pLine0 at h
  have once : ∀ j (f : pD → sR (Nat × pD)), (∀ D' x, p_K D' = p_K D → f D' = .inr x → p_K x.2 k = p_K D k) → pOnce (tok T t p) j D f = .inr x → p_K x.2 k = p_K D k := by
    intro j f hf h
    unfold pOnce at h
    split at h
    · cases h
    · exact hf _ _ (by rfl) h
  have boat : ∀ sd, pBoat T t (tok T t p) sd D = .inr x → p_K x.2 k = p_K D k := by
    intro sd h
    unfold pBoat at h
    split at h
    · cases h
    · rename_i c
      obtain ⟨a, h1, h2⟩ := sB_r h
      obtain ⟨a2, h3, h4⟩ := sB_r h2
      cases h4
      obtain ⟨u, v, z, -, -, -, e⟩ := pMarks_3 h3
      show a2.2 k = _
      rw [e, un_n (by omega), un_n (by omega), un_n (by omega), un_n (by omega), un_n (by omega)]
  split at h
  · exact boat _ h
  split at h
  · exact boat _ h
  split at h
  · obtain ⟨a, h1, h2⟩ := sB_r h
    split at h2
    · cases h2
    · cases h2; rfl
  split at h
  · refine once _ _ (fun D' x e h => ?_) h
    obtain ⟨a, h1, h2⟩ := sB_r h
    cases h2
    show a.2 k = _
    rw [pRules_k _ _ _ _ _ h1 k (by omega), e]
  split at h
  · refine once _ _ (fun D' x e h => ?_) h
    obtain ⟨a, h1, h2⟩ := sB_r h
    cases h2
    show un (p_K D') 3 a.1 k = _
    rw [un_n (by omega), e]
  split at h
  · refine once _ _ (fun D' x e h => ?_) h
    obtain ⟨a, h1, h2⟩ := sB_r h
    cases h2
    show a.2 k = _
    rw [pRules_k _ _ _ _ _ h1 k (by omega), e]
  split at h
  · refine once _ _ (fun D' x e h => ?_) h
    cases h
    show un (p_K D') 5 1 k = _
    rw [un_n (by omega), e]
  · cases h
theorem pAll_k {T : Nat} {t : Nat → Nat} : ∀ f l p (D : pD) x, pAll T t f l p D = .inr x → ∀ k, 42 ≤ k → p_K x.2 k = p_K D k
  | 0, l, p, D, x, h, k, hk => by cases h; rfl
  | f + 1, l, p, D, x, h, k, hk => by
    rw [pAll] at h
    split at h
    · cases h; rfl
    · obtain ⟨a, h1, h2⟩ := sB_r h
      obtain ⟨b, h3, h4⟩ := sB_r h1
      obtain ⟨c, h5, h6⟩ := sB_r h4
      cases h6
      rw [pAll_k f (l + 1) _ _ x h2 k hk]
      exact pLine0_k h3 k hk
theorem nar0 : vp_nar .boolean (0 : Int32) = 0 := by decide +kernel
theorem bi_hi {l b : Nat} (hl : l < 64) (hb : 6 ≤ b) : bi l b = 0 := by
  unfold bi
  rw [Nat.div_eq_of_lt (Nat.lt_of_lt_of_le hl (Nat.pow_le_pow_right (n := 2) (by decide) hb))]
set_option maxRecDepth 20000 in
set_option maxHeartbeats 4000000 in
theorem l_firstDraft {d : Nat} {w0 : zW} {T : zX → Prop} (hx : ∀ w, (∀ q, q < 55 → w 54 q = 0) → (∀ a, a ≠ 54 → w a = w0 a) → WP mX7_firstDraft d T 21 [some (.ref 50), some (.int (nI 55))] [] w) : ∀ k i (w : zW), i + k = 55 → (∀ q, q < i → w 54 q = 0) → (∀ a, a ≠ 54 → w a = w0 a) → WP mX7_firstDraft d T 2 [some (.ref 50), some (.int (nI i))] [] w := by
  intro k
  induction k with
  | zero =>
    intro i w hi h1 h2
    have e : i = 55 := by omega
    subst e
    refine r_iload_n 3 dX7_firstDraft_2 rfl rfl ?_
    refine r_bipush 5 (v := 55) dX7_firstDraft_3 (by decide) rfl ?_
    refine r_icmp_ge 21 8 dX7_firstDraft_5 (by decide) rfl (fun _ => ?_) (fun z => absurd (Int32.le_refl _) z)
    exact hx w h1 h2
  | succ k ih =>
    intro i w hi h1 h2
    refine r_iload_n 3 dX7_firstDraft_2 rfl rfl ?_
    refine r_bipush 5 (v := 55) dX7_firstDraft_3 (by decide) rfl ?_
    refine r_icmp_ge 21 8 dX7_firstDraft_5 (by decide) rfl (fun z => absurd z (fun z => absurd ((nI_le' (a := 55) (by decide) (by omega)).mp z) (by omega))) (fun _ => ?_)
    refine r_aload_n 9 dX7_firstDraft_8 rfl rfl ?_
    refine r_getr 12 dX7_firstDraft_9 fz_X7_20 sh_50 rfl rfl ?_
    refine r_iload_n 13 dX7_firstDraft_12 rfl rfl ?_
    refine r_iconst 14 (v := 0) dX7_firstDraft_13 (by decide) rfl ?_
    refine rj_iast 15 (i) dX7_firstDraft_14 sh_54 (rfl) (by omega) (by decide) rfl ?_
    refine r_iinc 18 (L' := [_, _]) (v := nI (i + 1)) dX7_firstDraft_15 rfl (nI_1 i) (by decide) rfl rfl rfl ?_
    refine r_goto 2 dX7_firstDraft_18 (by decide) ?_
    exact ih (i + 1) _ (by omega) (fun q hq => by by_cases e : q = i; (rw [e, z_up_s]); (rw [z_up_i e]; exact h1 q (by omega))) (fun a ha => by rw [z_up_o ha]; exact h2 a ha)
set_option maxRecDepth 20000 in
set_option maxHeartbeats 4000000 in
theorem m_firstDraft {d : Nat} {w : zW} : CT mX7_firstDraft d [.ref 50] w (z_v fun w' => dM w' p_D0 ∧ (∀ q, q < 5 ∨ 8 < q → w' 50 q = w 50 q) ∧ ∀ a, a ≠ 50 → a ≠ 54 → w' a = w a) := by
  refine CT.of [some (.ref 50), none] rfl (Nat.le_of_ble_eq_true rfl) rfl ?_
  refine r_iconst 1 (v := 0) dX7_firstDraft_0 (by decide) rfl ?_
  refine r_istore_n 2 (L' := [_, _]) dX7_firstDraft_1 (by decide) rfl rfl rfl ?_
  refine l_firstDraft (w0 := w) (fun w1 h1 h2 => ?_) 55 0 w rfl (fun q hq => absurd hq (Nat.not_lt_zero q)) (fun _ _ => rfl)
  refine r_aload_n 22 dX7_firstDraft_21 rfl rfl ?_
  refine r_getr 25 dX7_firstDraft_22 fz_X7_20 sh_50 rfl rfl ?_
  refine r_iconst 26 (v := 0) dX7_firstDraft_25 (by decide) rfl ?_
  refine r_iconst 27 (v := 5) dX7_firstDraft_26 (by decide) rfl ?_
  refine rj_iast 28 (0) dX7_firstDraft_27 sh_54 (rfl) (by decide) (by decide) rfl ?_
  refine r_nw (fun w2 e2 => ?_)
  refine r_aload_n 29 dX7_firstDraft_28 rfl rfl ?_
  refine r_getr 32 dX7_firstDraft_29 fz_X7_20 sh_50 rfl rfl ?_
  refine r_iconst 33 (v := 1) dX7_firstDraft_32 (by decide) rfl ?_
  refine r_iconst 34 (v := 2) dX7_firstDraft_33 (by decide) rfl ?_
  refine rj_iast 35 (1) dX7_firstDraft_34 sh_54 (rfl) (by decide) (by decide) rfl ?_
  refine r_nw (fun w3 e3 => ?_)
  refine r_aload_n 36 dX7_firstDraft_35 rfl rfl ?_
  refine r_iconst 37 (v := 0) dX7_firstDraft_36 (by decide) rfl ?_
  refine r_puti 40 dX7_firstDraft_37 fz_X7_56 fw_7_5 sh_50 rfl rfl ?_
  refine r_nw (fun w4 e4 => ?_)
  refine r_aload_n 41 dX7_firstDraft_40 rfl rfl ?_
  refine r_iconst 42 (v := 0) dX7_firstDraft_41 (by decide) rfl ?_
  refine r_puti 45 dX7_firstDraft_42 fz_X7_60 fw_7_6 sh_50 rfl rfl ?_
  refine r_nw (fun w5 e5 => ?_)
  refine r_aload_n 46 dX7_firstDraft_45 rfl rfl ?_
  refine r_iconst 47 (v := 0) dX7_firstDraft_46 (by decide) rfl ?_
  refine r_puti 50 dX7_firstDraft_47 fz_X7_63 fw_7_7 sh_50 rfl rfl ?_
  refine r_nw (fun w6 e6 => ?_)
  refine r_aload_n 51 dX7_firstDraft_50 rfl rfl ?_
  refine r_bipush 53 (v := -4) dX7_firstDraft_51 (by decide) rfl ?_
  refine r_puti 56 dX7_firstDraft_53 fz_X7_66 fw_7_8 sh_50 rfl rfl ?_
  refine r_nw (fun w7 e7 => ?_)
  have u54 : w7 54 = w3 54 := by rw [e7, z_up_o (by decide), e6, z_up_o (by decide), e5, z_up_o (by decide), e4, z_up_o (by decide)]
  exact r_vret dX7_firstDraft_56 rfl (⟨⟨fun k hk => by rw [u54, e3]; by_cases q1 : k = 1; (rw [q1, z_up_s]; rfl); (rw [z_up_i q1, e2]; by_cases q0 : k = 0; (rw [q0, z_up_s]; rfl); (rw [z_up_i q0, h1 k hk]; show (0 : Int32) = nI (p_K0 k); unfold p_K0; rw [if_neg q0, if_neg q1]; rfl)), by rw [e7, z_up_i (by decide), e6, z_up_i (by decide), e5, z_up_i (by decide), e4, z_up_s]; rfl, by rw [e7, z_up_i (by decide), e6, z_up_i (by decide), e5, z_up_s]; rfl, by rw [e7, z_up_i (by decide), e6, z_up_s]; rfl, by rw [e7, z_up_s]; rfl⟩, fun q hq => by rw [e7, z_up_i (by omega), e6, z_up_i (by omega), e5, z_up_i (by omega), e4, z_up_i (by omega), e3, z_up_a (by decide), e2, z_up_a (by decide), h2 50 (by decide)], fun a h50 h54 => by rw [e7, z_up_o h50, e6, z_up_o h50, e5, z_up_o h50, e4, z_up_o h50, e3, z_up_o h54, e2, z_up_o h54, h2 a h54]⟩)
set_option maxRecDepth 20000 in
set_option maxHeartbeats 4000000 in
theorem l_keepD1 {d : Nat} {w0 : zW} {T : zX → Prop} (hx : ∀ w, (∀ q, q < 55 → w 51 q = w0 54 q) → (∀ q, 55 ≤ q → w 51 q = w0 51 q) → (∀ a, a ≠ 51 → w a = w0 a) → WP mX7_keepDraft d T 26 [some (.ref 50), some (.int (nI 55))] [] w) : ∀ k i (w : zW), i + k = 55 → (∀ q, q < i → w 51 q = w0 54 q) → (∀ q, 55 ≤ q → w 51 q = w0 51 q) → (∀ a, a ≠ 51 → w a = w0 a) → WP mX7_keepDraft d T 2 [some (.ref 50), some (.int (nI i))] [] w := by
  intro k
  induction k with
  | zero =>
    intro i w hi h1 h2 h3
    have e : i = 55 := by omega
    subst e
    refine r_iload_n 3 dX7_keepDraft_2 rfl rfl ?_
    refine r_bipush 5 (v := 55) dX7_keepDraft_3 (by decide) rfl ?_
    refine r_icmp_ge 26 8 dX7_keepDraft_5 (by decide) rfl (fun _ => ?_) (fun z => absurd (Int32.le_refl _) z)
    exact hx w h1 h2 h3
  | succ k ih =>
    intro i w hi h1 h2 h3
    refine r_iload_n 3 dX7_keepDraft_2 rfl rfl ?_
    refine r_bipush 5 (v := 55) dX7_keepDraft_3 (by decide) rfl ?_
    refine r_icmp_ge 26 8 dX7_keepDraft_5 (by decide) rfl (fun z => absurd z (fun z => absurd ((nI_le' (a := 55) (by decide) (by omega)).mp z) (by omega))) (fun _ => ?_)
    refine r_aload_n 9 dX7_keepDraft_8 rfl rfl ?_
    refine r_getr 12 dX7_keepDraft_9 fz_X7_7 sh_50 rfl rfl ?_
    refine r_iload_n 13 dX7_keepDraft_12 rfl rfl ?_
    refine r_aload_n 14 dX7_keepDraft_13 rfl rfl ?_
    refine r_getr 17 dX7_keepDraft_14 fz_X7_20 sh_50 rfl rfl ?_
    refine r_iload_n 18 dX7_keepDraft_17 rfl rfl ?_
    refine rj_iald 19 (i) dX7_keepDraft_18 sh_54 (rfl) (by omega) (by decide) rfl ?_
    refine r_eq (z := w0 54 i) (by rw [h3 54 (by decide)]) ?_
    refine rj_iast 20 (i) dX7_keepDraft_19 sh_51 (rfl) (by omega) (by decide) rfl ?_
    refine r_iinc 23 (L' := [_, _]) (v := nI (i + 1)) dX7_keepDraft_20 rfl (nI_1 i) (by decide) rfl rfl rfl ?_
    refine r_goto 2 dX7_keepDraft_23 (by decide) ?_
    exact ih (i + 1) _ (by omega) (fun q hq => by by_cases e : q = i; (rw [e, z_up_s]); (rw [z_up_i e]; exact h1 q (by omega))) (fun q hq => by rw [z_up_i (by omega)]; exact h2 q hq) (fun a ha => by rw [z_up_o ha]; exact h3 a ha)
set_option maxRecDepth 20000 in
set_option maxHeartbeats 4000000 in
theorem l_keepD2 {d n l : Nat} {w0 : zW} {T : zX → Prop} (hn : n ≤ 6) (hl : l < 2 ^ n) (h3 : w0 50 3 = nI n) (h7 : w0 50 7 = nI l) (hx : ∀ w, (∀ b, b < 6 → w 51 (6 + 6 * b + 5) = nI (bi l b)) → (∀ q, (∀ b, b < 6 → q ≠ 6 + 6 * b + 5) → w 51 q = w0 51 q) → (∀ a, a ≠ 51 → w a = w0 a) → WP mX7_keepDraft d T 82 [some (.ref 50), some (.int (nI 6))] [] w) : ∀ k i (w : zW), i + k = 6 → (∀ b, b < i → w 51 (6 + 6 * b + 5) = nI (bi l b)) → (∀ q, (∀ b, b < 6 → q ≠ 6 + 6 * b + 5) → w 51 q = w0 51 q) → (∀ a, a ≠ 51 → w a = w0 a) → WP mX7_keepDraft d T 36 [some (.ref 50), some (.int (nI i))] [] w := by
  have hl64 : l < 64 := Nat.lt_of_lt_of_le hl (p2_le n (by omega))
  intro k
  induction k with
  | zero =>
    intro i w hi h1 h2 ha
    have e : i = 6 := by omega
    subst e
    refine r_iload_n 37 dX7_keepDraft_36 rfl rfl ?_
    refine r_bipush 39 (v := 6) dX7_keepDraft_37 (by decide) rfl ?_
    refine r_icmp_ge 82 42 dX7_keepDraft_39 (by decide) rfl (fun _ => ?_) (fun z => absurd (Int32.le_refl _) z)
    exact hx w h1 h2 ha
  | succ k ih =>
    intro i w hi h1 h2 ha
    refine r_iload_n 37 dX7_keepDraft_36 rfl rfl ?_
    refine r_bipush 39 (v := 6) dX7_keepDraft_37 (by decide) rfl ?_
    refine r_icmp_ge 82 42 dX7_keepDraft_39 (by decide) rfl (fun z => absurd z (fun z => absurd ((nI_le' (a := 6) (by decide) (by omega)).mp z) (by omega))) (fun _ => ?_)
    refine r_aload_n 43 dX7_keepDraft_42 rfl rfl ?_
    refine r_getr 46 dX7_keepDraft_43 fz_X7_7 sh_50 rfl rfl ?_
    refine r_bipush 48 (v := 6) dX7_keepDraft_46 (by decide) rfl ?_
    refine r_bipush 50 (v := 6) dX7_keepDraft_48 (by decide) rfl ?_
    refine r_iload_n 51 dX7_keepDraft_50 rfl rfl ?_
    refine r_imul 52 dX7_keepDraft_51 rfl ?_
    refine r_eq (z := nI (6 * i)) (nI_mul 6 i) ?_
    refine r_iadd 53 dX7_keepDraft_52 rfl ?_
    refine r_eq (z := nI (6 + 6 * i)) (nI_add 6 _) ?_
    refine r_iconst 54 (v := 5) dX7_keepDraft_53 (by decide) rfl ?_
    refine r_iadd 55 dX7_keepDraft_54 rfl ?_
    refine r_eq (z := nI (6 + 6 * i + 5)) (nI_add _ 5) ?_
    refine r_iload_n 56 dX7_keepDraft_55 rfl rfl ?_
    refine r_aload_n 57 dX7_keepDraft_56 rfl rfl ?_
    refine r_geti 60 dX7_keepDraft_57 fz_X7_69 sh_50 rfl rfl ?_
    refine r_eq (z := nI n) (by rw [ha 50 (by decide)]; exact h3) ?_
    refine r_icmp_ge 74 63 dX7_keepDraft_60 (by decide) rfl (fun g60 => ?_) (fun g60 => ?_)
    · have g60 : n ≤ i := (nI_le' (by omega) (by omega)).mp g60
      refine r_iconst 75 (v := 0) dX7_keepDraft_74 (by decide) rfl ?_
      refine r_eq (z := nI (bi l i)) (by first | rfl | (rw [g_out n (by omega) l hl i (by omega) g60]; rfl)) ?_
      refine rj_iast 76 (6 + 6 * i + 5) dX7_keepDraft_75 sh_51 (rfl) (by omega) (by decide) rfl ?_
      refine r_iinc 79 (L' := [_, _]) (v := nI (i + 1)) dX7_keepDraft_76 rfl (nI_1 i) (by decide) rfl rfl rfl ?_
      refine r_goto 36 dX7_keepDraft_79 (by decide) ?_
      exact ih (i + 1) _ (by omega) (fun b hb => by by_cases e : b = i; (rw [e, z_up_s]); (rw [z_up_i (by omega)]; exact h1 b (by omega))) (fun q hq => by rw [z_up_i (hq i (by omega))]; exact h2 q hq) (fun a h => by rw [z_up_o h]; exact ha a h)
    · refine r_aload_n 64 dX7_keepDraft_63 rfl rfl ?_
      refine r_geti 67 dX7_keepDraft_64 fz_X7_63 sh_50 rfl rfl ?_
      refine r_eq (z := nI l) (by rw [ha 50 (by decide)]; exact h7) ?_
      refine r_iload_n 68 dX7_keepDraft_67 rfl rfl ?_
      refine r_ishr 69 dX7_keepDraft_68 rfl ?_
      refine r_iconst 70 (v := 1) dX7_keepDraft_69 (by decide) rfl ?_
      refine r_iand 71 dX7_keepDraft_70 rfl ?_
      refine r_eq (b_sh l hl64 i (by omega)) ?_
      refine r_goto 75 dX7_keepDraft_71 (by decide) ?_
      refine r_eq (z := nI (bi l i)) (by first | rfl | (rw [g_out n (by omega) l hl i (by omega) g60]; rfl)) ?_
      refine rj_iast 76 (6 + 6 * i + 5) dX7_keepDraft_75 sh_51 (rfl) (by omega) (by decide) rfl ?_
      refine r_iinc 79 (L' := [_, _]) (v := nI (i + 1)) dX7_keepDraft_76 rfl (nI_1 i) (by decide) rfl rfl rfl ?_
      refine r_goto 36 dX7_keepDraft_79 (by decide) ?_
      exact ih (i + 1) _ (by omega) (fun b hb => by by_cases e : b = i; (rw [e, z_up_s]); (rw [z_up_i (by omega)]; exact h1 b (by omega))) (fun q hq => by rw [z_up_i (hq i (by omega))]; exact h2 q hq) (fun a h => by rw [z_up_o h]; exact ha a h)
set_option maxRecDepth 20000 in
set_option maxHeartbeats 4000000 in
theorem m_keepDraft {d : Nat} {w : zW} {D : pD} (hD : dM w D) (hV : dV D) (hnb : p_l D < 2 ^ p_n D) (h0 : ∀ k, 42 ≤ k → p_K D k = 0) : CT mX7_keepDraft d [.ref 50] w (z_v fun w' => (∀ k, k < 55 → w' 51 k = nI (lw (p_K D) (p_l D) k)) ∧ w' 50 3 = nI (p_n D) ∧ w' 53 0 = 0 ∧ w' 53 1 = 0 ∧ (∀ q, q ≠ 3 → w' 50 q = w 50 q) ∧ ∀ a, a ≠ 50 → a ≠ 51 → a ≠ 53 → w' a = w a) := by
  refine CT.of [some (.ref 50), none] rfl (Nat.le_of_ble_eq_true rfl) rfl ?_
  refine r_iconst 1 (v := 0) dX7_keepDraft_0 (by decide) rfl ?_
  refine r_istore_n 2 (L' := [_, _]) dX7_keepDraft_1 (by decide) rfl rfl rfl ?_
  refine l_keepD1 (w0 := w) (fun w1 h1 h2 h3 => ?_) 55 0 w rfl (fun q hq => absurd hq (Nat.not_lt_zero q)) (fun _ _ => rfl) (fun _ _ => rfl)
  refine r_aload_n 27 dX7_keepDraft_26 rfl rfl ?_
  refine r_aload_n 28 dX7_keepDraft_27 rfl rfl ?_
  refine r_geti 31 dX7_keepDraft_28 fz_X7_56 sh_50 rfl rfl ?_
  refine r_eq (z := nI (p_n D)) (by rw [h3 50 (by decide)]; exact hD.2.1) ?_
  refine r_puti 34 dX7_keepDraft_31 fz_X7_69 fw_7_3 sh_50 rfl rfl ?_
  refine r_nw (fun w2 e2 => ?_)
  refine r_iconst 35 (v := 0) dX7_keepDraft_34 (by decide) rfl ?_
  refine r_istore_n 36 (L' := [_, _]) dX7_keepDraft_35 (by decide) rfl rfl rfl ?_
  refine l_keepD2 (w0 := w2) (n := p_n D) (l := p_l D) hV.n hnb (by rw [e2, z_up_s]) (by rw [e2, z_up_i (by decide), h3 50 (by decide)]; exact hD.2.2.2.1) (fun w3 k1 k2 k3 => ?_) 6 0 w2 rfl (fun b hb => absurd hb (Nat.not_lt_zero b)) (fun _ _ => rfl) (fun _ _ => rfl)
  refine r_aload_n 83 dX7_keepDraft_82 rfl rfl ?_
  refine r_getr 86 dX7_keepDraft_83 fz_X7_16 sh_50 rfl rfl ?_
  refine r_iconst 87 (v := 0) dX7_keepDraft_86 (by decide) rfl ?_
  refine r_iconst 88 (v := 0) dX7_keepDraft_87 (by decide) rfl ?_
  refine rj_zast 89 (0) dX7_keepDraft_88 sh_53 (rfl) (by decide) (by decide) rfl ?_
  rw [nar0]
  refine r_nw (fun w4 e4 => ?_)
  refine r_aload_n 90 dX7_keepDraft_89 rfl rfl ?_
  refine r_getr 93 dX7_keepDraft_90 fz_X7_16 sh_50 rfl rfl ?_
  refine r_iconst 94 (v := 1) dX7_keepDraft_93 (by decide) rfl ?_
  refine r_iconst 95 (v := 0) dX7_keepDraft_94 (by decide) rfl ?_
  refine rj_zast 96 (1) dX7_keepDraft_95 sh_53 (rfl) (by decide) (by decide) rfl ?_
  rw [nar0]
  refine r_nw (fun w5 e5 => ?_)
  have u51 : w5 51 = w3 51 := by rw [e5, z_up_o (by decide), e4, z_up_o (by decide)]
  have u50 : w5 50 = w2 50 := by rw [e5, z_up_o (by decide), e4, z_up_o (by decide), k3 50 (by decide)]
  have key : ∀ k, k < 55 → w5 51 k = nI (lw (p_K D) (p_l D) k) := by
    intro k hk
    rw [u51]
    by_cases c : ∃ b, b < 6 ∧ k = 6 + 6 * b + 5
    · obtain ⟨b, hb, rfl⟩ := c
      rw [k1 b hb, lw_l]
    · rw [k2 k (fun b hb z => c ⟨b, hb, z⟩), e2, z_up_a (by decide), h1 k hk, hD.1 k hk]
      congr 1
      by_cases c2 : 6 ≤ k ∧ k % 6 = 5
      · have hk42 : 42 ≤ k := by
          apply Nat.le_of_not_lt
          intro z
          exact c ⟨(k - 6) / 6, by omega, by omega⟩
        unfold lw
        rw [if_pos c2, bi_hi hV.1 (by omega), h0 k hk42]
      · rw [lw_n (by omega)]
  exact r_vret dX7_keepDraft_96 rfl (⟨key, by rw [u50, e2, z_up_s], by rw [e5, z_up_i (by decide), e4, z_up_s], by rw [e5, z_up_s], fun q hq => by rw [u50, e2, z_up_i hq, h3 50 (by decide)], fun a a0 a1 a3 => by rw [e5, z_up_o a3, e4, z_up_o a3, k3 a a1, e2, z_up_o a0, h3 a a1]⟩)
theorem pLine_4 {T p : Nat} {t : Nat → Nat} {D : pD} (z : tk_k (tok T t p) = 4) : pLine T t p D = .inl (1, tk_s (tok T t p)) := by
  have h0 : ¬ tk_k (tok T t p) = 0 := by omega
  rw [pLine, pLine0, if_neg (isN_k h0), if_neg (isN_k h0), if_neg (isN_k h0), if_neg (isN_k h0), if_neg (isN_k h0), if_neg (isN_k h0), if_neg (isN_k h0)]
  show (.inl (bl (tok T t p) 2) : sR (Nat × pD)) = _
  rw [bl_4 z]
set_option maxRecDepth 20000 in
set_option maxHeartbeats 4000000 in
theorem l_textM {d T : Nat} {t : Nat → Nat} {w0 : zW} {X : zX → Prop} {r : sR (Nat × pD)} (hd : 8 ≤ d) (hT : tpL w0 T t) (hx : ∀ w l D, r = .inr (l, D) → dM w D → dV D → w 50 15 = 0 → w 50 12 = nI T → frD w0 w → WP mX7_text d X 44 [some (.ref 50), some (.int (nI l))] [] w) (hb : ∀ w l e, r = .inl e → fF w e → (1 ≤ e.1 ∧ e.1 ≤ 6) → frD w0 w → WP mX7_text d X 44 [some (.ref 50), some (.int (nI l))] [] w) : ∀ F l p (D : pD) (w : zW), T + 1 ≤ p + F → p ≤ T → mT w (tok T t p) → dM w D → dV D → frD w0 w → pAll T t F l p D = r → WP mX7_text d X 20 [some (.ref 50), some (.int (nI l))] [] w := by
  have hT0 := hT.2.1
  intro F
  induction F with
  | zero => intro l p D w h1 h2; omega
  | succ F ih =>
    intro l p D w h1 hp hk hD hV hF hr
    have hk4 := tok_k4 (T := T) (t := t) (p := p)
    rw [pAll] at hr
    by_cases h4 : tk_k (tok T t p) = 4
    · rw [if_neg (by omega), pLine_4 h4] at hr
      have hr : .inl (1, tk_s (tok T t p)) = r := hr
      refine r_aload_n 21 dX7_text_20 rfl rfl ?_
      refine r_geti 24 dX7_text_21 fz_X7_81 sh_50 rfl rfl ?_
      refine r_eq (hk.2.1 h4).1 ?_
      refine r_if_ne 44 27 dX7_text_24 (by decide) rfl (fun _ => ?_) (fun z => absurd z (by decide))
      exact hb w l _ hr.symm (hk.2.1 h4) (show 1 ≤ 1 ∧ 1 ≤ 6 by decide) hF
    obtain ⟨h15, h13, h11, -⟩ := hk.2.2 h4
    by_cases h3 : tk_k (tok T t p) = 3
    · rw [if_pos h3] at hr
      have hst := tok_end.mp h3
      have hst2 := tk_st_T (t := t) hp
      have h12 : w 50 12 = nI T := by rw [hk.1, tok_s]; congr 1; omega
      refine r_aload_n 21 dX7_text_20 rfl rfl ?_
      refine r_geti 24 dX7_text_21 fz_X7_81 sh_50 rfl rfl ?_
      refine r_eq h15 ?_
      refine r_if_ne 44 27 dX7_text_24 (by decide) rfl (fun z => absurd (rfl) z) (fun _ => ?_)
      refine r_aload_n 28 dX7_text_27 rfl rfl ?_
      refine r_geti 31 dX7_text_28 fz_X7_105 sh_50 rfl rfl ?_
      refine r_eq h13 ?_
      refine r_if_eq 44 34 dX7_text_31 (by decide) rfl (fun _ => ?_) (fun z => absurd (by rw [h3]; rfl) z)
      exact hx w l D hr.symm hD hV h15 h12 hF
    rw [if_neg h3] at hr
    refine r_aload_n 21 dX7_text_20 rfl rfl ?_
    refine r_geti 24 dX7_text_21 fz_X7_81 sh_50 rfl rfl ?_
    refine r_eq h15 ?_
    refine r_if_ne 44 27 dX7_text_24 (by decide) rfl (fun z => absurd (rfl) z) (fun _ => ?_)
    refine r_aload_n 28 dX7_text_27 rfl rfl ?_
    refine r_geti 31 dX7_text_28 fz_X7_105 sh_50 rfl rfl ?_
    refine r_eq h13 ?_
    refine r_if_eq 44 34 dX7_text_31 (by decide) rfl (fun z => absurd z (fun z => by have h : ∀ k, k < 3 → ¬ nI (sN k) = 0 := by { decide +kernel }; exact h _ (by omega) z)) (fun _ => ?_)
    refine r_aload_n 35 dX7_text_34 rfl rfl ?_
    refine r_callV (y2 := mX7_readLine) (as := []) 38 dX7_text_35 ml_X7_160 mv_X7_readLine (m_readLine (d := d - 1) (by omega) (hT.D hF) hp hk h4 (n := p_n D) (K := p_K D) (l := p_l D) (m := p_m D) hD hV) (by omega) sh_50 ⟨_, rfl, rfl⟩ rfl (Nat.le_of_ble_eq_true rfl) rfl (kk_v ?_)
    rintro w1 ⟨fD, hm⟩
    rcases hc : pLine T t p (p_n D, p_K D, p_l D, p_m D) with er | v
    · rw [hc] at hm
      have hc : pLine T t p D = .inl er := hc
      rw [hc] at hr
      have hr : .inl er = r := hr
      have h16 := e16 (pLine_e hp hV hc)
      refine r_iinc 41 (L' := [_, _]) (v := nI (l + 1)) dX7_text_38 rfl (nI_1 l) (by decide) rfl rfl rfl ?_
      refine r_goto 20 dX7_text_41 (by decide) ?_
      refine r_aload_n 21 dX7_text_20 rfl rfl ?_
      refine r_geti 24 dX7_text_21 fz_X7_81 sh_50 rfl rfl ?_
      refine r_eq hm.1 ?_
      refine r_if_ne 44 27 dX7_text_24 (by decide) rfl (fun _ => ?_) (fun z => absurd z (fun z => by have := (nI_inj (b := 0) (by omega) (by decide)).mp z; omega))
      exact hb w1 (l + 1) er hr.symm hm h16 (hF.trans fD)
    rw [hc] at hm
    have hc : pLine T t p D = .inr v := hc
    rw [hc] at hr
    have hq := pLine_V hp h3 hV hc
    refine r_iinc 41 (L' := [_, _]) (v := nI (l + 1)) dX7_text_38 rfl (nI_1 l) (by decide) rfl rfl rfl ?_
    refine r_goto 20 dX7_text_41 (by decide) ?_
    exact ih (l + 1) v.1 v.2 w1 (by omega) hq.2.2 hm.1 hm.2 hq.1 (hF.trans fD) hr
set_option maxRecDepth 20000 in
set_option maxHeartbeats 4000000 in
theorem k_textM {w w2 : zW} {s : sT} {f : Nat} (hR : RM w s) (fa : ∀ a, a ≠ 50 → a ≠ 54 → w2 a = w a) (fq : ∀ q, q < 5 ∨ 16 < q → w2 50 q = w 50 q) (f10 : w2 50 10 = 0) (f15 : w2 50 15 = nI f) : RM w2 (u_ft (u_tp s 0 (s_t s)) f) := by
  obtain ⟨r1, r2, r3, r4, r5, r6⟩ := hR
  refine ⟨⟨fun k hk => by rw [fa 51 (by decide) (by decide)]; exact r1.1 k hk, by rw [fq 3 (by omega)]; exact r1.2⟩, fun k hk => by rw [fa 53 (by decide) (by decide), fa 51 (by decide) (by decide)]; exact r2 k hk, ⟨f10, fun i hi => absurd hi (Nat.not_lt_zero i)⟩, f15, fun k hk => ?_, by rw [fq 30 (by omega)]; exact r6⟩
  have := r5 k hk
  rw [fa 60 (by decide) (by decide), fa 61 (by decide) (by decide), fa 62 (by decide) (by decide)]
  exact this
set_option maxRecDepth 20000 in
set_option maxHeartbeats 4000000 in
theorem M_text {d : Nat} {w : zW} {s : sT}  (hd : 9 ≤ d) (hR : RM w s) (hS : sV s) : AM mX7_text d [] w (f_text s) := by
  have hn := hS.1.n
  have hT0 := hS.2.2.1.1
  have hTL : tpL w (s_T s) (s_t s) := ⟨hR.2.2.1.1, hT0, fun i hi => ⟨hR.2.2.1.2 i hi, hS.2.2.1.2 i hi⟩⟩
  refine CT.of [some (.ref 50), none] rfl (Nat.le_of_ble_eq_true rfl) rfl ?_
  refine r_iconst 1 (v := 0) dX7_text_0 (by decide) rfl ?_
  refine r_istore_n 2 (L' := [_, _]) dX7_text_1 (by decide) rfl rfl rfl ?_
  refine r_aload_n 3 dX7_text_2 rfl rfl ?_
  refine r_iconst 4 (v := 0) dX7_text_3 (by decide) rfl ?_
  refine r_puti 7 dX7_text_4 fz_X7_81 fw_7_15 sh_50 rfl rfl ?_
  refine r_nw (fun w1 e1 => ?_)
  refine r_aload_n 8 dX7_text_7 rfl rfl ?_
  refine r_iconst 9 (v := 0) dX7_text_8 (by decide) rfl ?_
  refine r_puti 12 dX7_text_9 fz_X7_90 fw_7_11 sh_50 rfl rfl ?_
  refine r_nw (fun w2 e2 => ?_)
  refine r_aload_n 13 dX7_text_12 rfl rfl ?_
  refine r_callV (y2 := mX7_firstDraft) (as := []) 16 dX7_text_13 ml_X7_50 mv_X7_firstDraft (m_firstDraft (d := d - 1)) (by omega) sh_50 ⟨_, rfl, rfl⟩ rfl (Nat.le_of_ble_eq_true rfl) rfl (kk_v ?_)
  rintro w3 ⟨hD3, hq3, ha3⟩
  have f3 : frD w w3 := ⟨fun q hq => by rw [hq3 q (by omega), e2, z_up_i (by omega), e1, z_up_i (by omega)], fun a h1 h2 => by rw [ha3 a h1 h2, e2, z_up_o h1, e1, z_up_o h1]⟩
  refine r_aload_n 17 dX7_text_16 rfl rfl ?_
  refine r_callV (y2 := mX7_next) (as := []) 20 dX7_text_17 ml_X7_127 mv_X7_next (m_next (d := d - 1) (p := 0) (by omega) (hTL.D f3) (Nat.zero_le _) (by rw [hq3 15 (by omega), e2, z_up_i (by decide), e1, z_up_s]) (by rw [hq3 11 (by omega), e2, z_up_s]; rfl)) (by omega) sh_50 ⟨_, rfl, rfl⟩ rfl (Nat.le_of_ble_eq_true rfl) rfl (kk_v ?_)
  rintro w4 ⟨hk4, hf4⟩
  refine l_textM (w0 := w) (r := pAll (s_T s) (s_t s) 161 0 0 p_D0) (by omega) hTL (fun w2 l D hr hD hV h15 h12 hF => ?_) (fun w2 l e hr he h16 hF => ?_) 161 0 0 p_D0 w4 (by omega) (Nat.zero_le _) hk4 (hD3.L hf4) dV_0 (f3.L hf4) rfl
  · have hlt := hi_n (p_l D) hV.1 (p_n D) (by have := hV.n; omega)
    by_cases hbd : p_bad D = true
    · refine r_aload_n 45 dX7_text_44 rfl rfl ?_
      refine r_geti 48 dX7_text_45 fz_X7_81 sh_50 rfl rfl ?_
      refine r_eq h15 ?_
      refine r_if_ne 73 51 dX7_text_48 (by decide) rfl (fun z => absurd (rfl) z) (fun _ => ?_)
      refine r_aload_n 52 dX7_text_51 rfl rfl ?_
      refine r_aload_n 53 dX7_text_52 rfl rfl ?_
      refine r_geti 56 dX7_text_53 fz_X7_66 sh_50 rfl rfl ?_
      refine r_eq hD.2.2.2.2 ?_
      refine r_aload_n 57 dX7_text_56 rfl rfl ?_
      refine r_geti 60 dX7_text_57 fz_X7_56 sh_50 rfl rfl ?_
      refine r_eq hD.2.1 ?_
      refine rt_icmp_ge (a := 1) (b := 0) (j := 68) 67 63 dX7_text_60 (by decide) rfl (fun k => r_iconst 68 dX7_text_67 (by decide) rfl k) (fun k => r_iconst 64 dX7_text_63 (by decide) rfl (r_goto 68 dX7_text_64 (by decide) k)) ?_
      refine r_eq (z := z_b (¬ p_bad D = true)) (by by_cases c : p_bad D = true; (rw [z_bn (fun z => z c), if_pos (Int32.not_lt.mp (fun z => hlt.mp z (of_decide_eq_true c)))]); (rw [z_bp c, if_neg (fun z => absurd (hlt.mpr (fun q => c (decide_eq_true q))) (Int32.not_lt.mpr z))])) ?_
      refine r_bipush 70 (v := 6) dX7_text_68 (by decide) rfl ?_
      refine r_callV (y2 := mX7_needs) (as := [_, _]) 73 dX7_text_70 ml_X7_119 mv_X7_needs (m_needs (d := d - 1) h15) (by omega) sh_50 ⟨_, rfl, rfl⟩ rfl (Nat.le_of_ble_eq_true rfl) rfl (kk_v ?_)
      rintro w4 e4
      rw [if_neg (fun z => z hbd)] at e4
      refine r_aload_n 74 dX7_text_73 rfl rfl ?_
      refine r_iconst 75 (v := 0) dX7_text_74 (by decide) rfl ?_
      refine r_puti 78 dX7_text_75 fz_X7_78 fw_7_10 sh_50 rfl rfl ?_
      refine r_nw (fun w5 e5 => ?_)
      have f15 : w5 50 15 = nI 6 := by rw [e5, z_up_i (by decide), ← e4, z_up_i (by decide), z_up_s]; rfl
      have f16 : w5 50 16 = nI (s_T s) := by rw [e5, z_up_i (by decide), ← e4, z_up_s]; exact h12
      have hRR := k_textM (f := 6) hR (w2 := w5) (fun a h1 h2 => by rw [e5, z_up_o h1, ← e4, z_up_o h1, z_up_o h1]; exact hF.2 a h1 h2) (fun q hq => by rw [e5, z_up_i (by omega), ← e4, z_up_i (by omega), z_up_i (by omega)]; exact hF.1 q (by omega)) (by rw [e5, z_up_s]) f15
      refine r_aload_n 79 dX7_text_78 rfl rfl ?_
      refine r_geti 82 dX7_text_79 fz_X7_81 sh_50 rfl rfl ?_
      refine r_eq f15 ?_
      refine r_if_le 93 85 dX7_text_82 (by decide) rfl (fun z => absurd z (by decide)) (fun _ => ?_)
      refine r_bipush 87 (v := -10) dX7_text_85 (by decide) rfl ?_
      refine r_aload_n 88 dX7_text_87 rfl rfl ?_
      refine r_geti 91 dX7_text_88 fz_X7_87 sh_50 rfl rfl ?_
      refine r_eq f16 ?_
      refine r_isub 92 dX7_text_91 rfl ?_
      exact r_iret .int dX7_text_92 rfl (rfl) (⟨by rw [f_text_b hr hbd], by rw [f_text_b hr hbd]; exact hRR, fun a ha => by rw [e5, z_up_o (by omega), ← e4, z_up_o (by omega), z_up_o (by omega)]; exact hF.2 a (by omega) (by omega)⟩)
    · refine r_aload_n 45 dX7_text_44 rfl rfl ?_
      refine r_geti 48 dX7_text_45 fz_X7_81 sh_50 rfl rfl ?_
      refine r_eq h15 ?_
      refine r_if_ne 73 51 dX7_text_48 (by decide) rfl (fun z => absurd (rfl) z) (fun _ => ?_)
      refine r_aload_n 52 dX7_text_51 rfl rfl ?_
      refine r_aload_n 53 dX7_text_52 rfl rfl ?_
      refine r_geti 56 dX7_text_53 fz_X7_66 sh_50 rfl rfl ?_
      refine r_eq hD.2.2.2.2 ?_
      refine r_aload_n 57 dX7_text_56 rfl rfl ?_
      refine r_geti 60 dX7_text_57 fz_X7_56 sh_50 rfl rfl ?_
      refine r_eq hD.2.1 ?_
      refine rt_icmp_ge (a := 1) (b := 0) (j := 68) 67 63 dX7_text_60 (by decide) rfl (fun k => r_iconst 68 dX7_text_67 (by decide) rfl k) (fun k => r_iconst 64 dX7_text_63 (by decide) rfl (r_goto 68 dX7_text_64 (by decide) k)) ?_
      refine r_eq (z := z_b (¬ p_bad D = true)) (by by_cases c : p_bad D = true; (rw [z_bn (fun z => z c), if_pos (Int32.not_lt.mp (fun z => hlt.mp z (of_decide_eq_true c)))]); (rw [z_bp c, if_neg (fun z => absurd (hlt.mpr (fun q => c (decide_eq_true q))) (Int32.not_lt.mpr z))])) ?_
      refine r_bipush 70 (v := 6) dX7_text_68 (by decide) rfl ?_
      refine r_callV (y2 := mX7_needs) (as := [_, _]) 73 dX7_text_70 ml_X7_119 mv_X7_needs (m_needs (d := d - 1) h15) (by omega) sh_50 ⟨_, rfl, rfl⟩ rfl (Nat.le_of_ble_eq_true rfl) rfl (kk_v ?_)
      rintro w4 e4
      rw [if_pos hbd] at e4
      subst e4
      refine r_aload_n 74 dX7_text_73 rfl rfl ?_
      refine r_iconst 75 (v := 0) dX7_text_74 (by decide) rfl ?_
      refine r_puti 78 dX7_text_75 fz_X7_78 fw_7_10 sh_50 rfl rfl ?_
      refine r_nw (fun w5 e5 => ?_)
      have f15 : w5 50 15 = 0 := by rw [e5, z_up_i (by decide)]; exact h15
      have hD5 : dM w5 D := ⟨fun k hk => by rw [e5, z_up_a (by decide)]; exact hD.1 k hk, by rw [e5, z_up_i (by decide)]; exact hD.2.1, by rw [e5, z_up_i (by decide)]; exact hD.2.2.1, by rw [e5, z_up_i (by decide)]; exact hD.2.2.2.1, by rw [e5, z_up_i (by decide)]; exact hD.2.2.2.2⟩
      refine r_aload_n 79 dX7_text_78 rfl rfl ?_
      refine r_geti 82 dX7_text_79 fz_X7_81 sh_50 rfl rfl ?_
      refine r_eq f15 ?_
      refine r_if_le 93 85 dX7_text_82 (by decide) rfl (fun _ => ?_) (fun z => absurd (by decide) z)
      refine r_aload_n 94 dX7_text_93 rfl rfl ?_
      refine r_callV (y2 := mX7_keepDraft) (as := []) 97 dX7_text_94 ml_X7_53 mv_X7_keepDraft (m_keepDraft (d := d - 1) hD5 hV (Nat.lt_of_not_le (fun z => hbd (decide_eq_true z))) (fun k hk => by rw [pAll_k _ _ _ _ _ hr k hk]; show p_K0 k = 0; unfold p_K0; rw [if_neg (by omega), if_neg (by omega)])) (by omega) sh_50 ⟨_, rfl, rfl⟩ rfl (Nat.le_of_ble_eq_true rfl) rfl (kk_v ?_)
      rintro w6 ⟨c1, c2, c3, c4, c5, c6⟩
      have g6 : ∀ a, a ≠ 50 → a ≠ 51 → a ≠ 53 → a ≠ 54 → w6 a = w a := fun a a0 a1 a3 a4 => by rw [c6 a a0 a1 a3, e5, z_up_o a0]; exact hF.2 a a0 a4
      obtain ⟨r1, r2, r3, r4, r5, r6⟩ := id hR
      have key : RM w6 (u_ft (u_tp (u_im (u_lk s (p_n D) (lw (p_K D) (p_l D))) 0 (s_im s)) 0 (s_t s)) 0) := by
        refine ⟨⟨fun k hk => by rw [Nat.zero_add]; exact c1 k hk, c2⟩, fun k hk => ⟨?_, fun hb => ?_⟩, ⟨?_, fun i hi => absurd hi (Nat.not_lt_zero i)⟩, ?_, fun k hk => ?_, ?_⟩
        · have z0 : bi 0 k = 0 := by show 0 / 2 ^ k % 2 = 0; simp
          show w6 53 k = nI (bi 0 k)
          rw [z0]
          rcases (by omega : k = 0 ∨ k = 1) with rfl | rfl
          · exact c3
          · exact c4
        · have z0 : bi 0 k = 0 := by show 0 / 2 ^ k % 2 = 0; simp
          have hb : bi 0 k = 1 := hb
          rw [z0] at hb; cases hb
        · show w6 50 10 = 0
          rw [c5 10 (by decide), e5, z_up_s]
        · show w6 50 15 = 0
          rw [c5 15 (by decide)]; exact f15
        · have := r5 k hk
          rw [g6 60 (by decide) (by decide) (by decide) (by decide), g6 61 (by decide) (by decide) (by decide) (by decide), g6 62 (by decide) (by decide) (by decide) (by decide)]
          exact this
        · show w6 50 30 = nI (s_tn s)
          rw [c5 30 (by decide), e5, z_up_i (by decide), hF.1 30 (by omega)]; exact r6
      refine r_iload_n 98 dX7_text_97 rfl rfl ?_
      exact r_iret .int dX7_text_98 rfl (rfl) (⟨by rw [f_text_o hr hbd], by rw [f_text_o hr hbd]; exact key, fun a ha => g6 a (by omega) (by omega) (by omega) (by omega)⟩)
  · refine r_aload_n 45 dX7_text_44 rfl rfl ?_
    refine r_geti 48 dX7_text_45 fz_X7_81 sh_50 rfl rfl ?_
    refine r_eq he.1 ?_
    refine r_if_ne 73 51 dX7_text_48 (by decide) rfl (fun _ => ?_) (fun z => absurd z (fun z => by have := (nI_inj (b := 0) (by omega) (by decide)).mp z; omega))
    refine r_aload_n 74 dX7_text_73 rfl rfl ?_
    refine r_iconst 75 (v := 0) dX7_text_74 (by decide) rfl ?_
    refine r_puti 78 dX7_text_75 fz_X7_78 fw_7_10 sh_50 rfl rfl ?_
    refine r_nw (fun w5 e5 => ?_)
    have f15 : w5 50 15 = nI e.1 := by rw [e5, z_up_i (by decide)]; exact he.1
    have f16 : w5 50 16 = nI e.2 := by rw [e5, z_up_i (by decide)]; exact he.2
    have hRR := k_textM (f := e.1) hR (w2 := w5) (fun a h1 h2 => by rw [e5, z_up_o h1]; exact hF.2 a h1 h2) (fun q hq => by rw [e5, z_up_i (by omega)]; exact hF.1 q (by omega)) (by rw [e5, z_up_s]) f15
    refine r_aload_n 79 dX7_text_78 rfl rfl ?_
    refine r_geti 82 dX7_text_79 fz_X7_81 sh_50 rfl rfl ?_
    refine r_eq f15 ?_
    refine r_if_le 93 85 dX7_text_82 (by decide) rfl (fun z => absurd z (fun z => absurd ((nI_le' (b := 0) (by omega) (by decide)).mp z) (by omega))) (fun _ => ?_)
    refine r_bipush 87 (v := -10) dX7_text_85 (by decide) rfl ?_
    refine r_aload_n 88 dX7_text_87 rfl rfl ?_
    refine r_geti 91 dX7_text_88 fz_X7_87 sh_50 rfl rfl ?_
    refine r_eq f16 ?_
    refine r_isub 92 dX7_text_91 rfl ?_
    exact r_iret .int dX7_text_92 rfl (rfl) (⟨by rw [f_text_l hr], by rw [f_text_l hr]; exact hRR, fun a ha => by rw [e5, z_up_o (by omega)]; exact hF.2 a (by omega) (by omega)⟩)

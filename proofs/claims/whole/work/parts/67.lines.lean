/-! ===== the class: lines, the text ===== -/
def frU (c : Nat) (w w' : zW) : Prop := (∀ q, q < 2 ∨ 5 < q → w' 27 q = w 27 q) ∧ ∀ a, a ≠ 27 → a ≠ 29 → a ≠ c → w' a = w a
theorem frU.X {c : Nat} {w w' : zW} (h : frU c w w') (hc : 21 ≤ c ∧ c ≤ 25) : frX w w' := ⟨h.1, fun a h1 h2 h3 => h.2 a h1 h2 (by omega)⟩
theorem frN.U {c : Nat} {w w' w'' : zW} (h : frU c w w') (h' : frN w' w'') : frU c w w'' := ⟨fun q hq => (h'.1 q hq).trans (h.1 q hq), fun a h1 h2 h3 => (h'.2 a h1 h2).trans (h.2 a h1 h2 h3)⟩
theorem frU.up {c q : Nat} {v : Int32} {w w' : zW} (h : frU c w w') (hc : 21 ≤ c ∧ c ≤ 25) : frU c w (z_up w' c q v) := ⟨fun j hj => by rw [z_up_a (by omega)]; exact h.1 j hj, fun a h1 h2 h3 => by rw [z_up_o h3]; exact h.2 a h1 h2 h3⟩
theorem frU.rfl {c : Nat} {w : zW} : frU c w w := ⟨fun _ _ => Eq.refl _, fun _ _ _ _ => Eq.refl _⟩
set_option maxRecDepth 20000 in
set_option maxHeartbeats 4000000 in
theorem l_rules {d T e : Nat} {a1 : Int32} {t : Nat → Nat} {w0 : zW} {r : sR (Nat × (Nat → Nat))} (hd : 4 ≤ d) (he : 1 ≤ e ∧ e ≤ 6) (hT : tpW w0 T t) : ∀ m q p (K : Nat → Nat) (w : zW), q + m = e → p ≤ T → w 27 2 = nI p → (∀ k, k < 6 → w 22 k = nI (K k)) → frU 22 w0 w → w 29 = w0 29 → pRules T t m q p K = r → WP mX5_takeRules d (z_T (z_i fun x w' => frU 22 w0 w' ∧ txR r (fun v => w' 27 2 = nI v.1 ∧ (∀ k, k < 6 → w' 22 k = nI (v.2 k)) ∧ w' 29 = w0 29) w' x)) 2 [some (.ref 29), some (.int a1), some (.int (nI (e - 1))), some (.int (nI q))] [] w := by
  intro m
  induction m with
  | zero =>
    intro q p K w hq hp h2 hK hF h29 hr
    refine r_iload_n 3 dX5_takeRules_2 rfl rfl ?_
    refine r_iload_n 4 dX5_takeRules_3 rfl rfl ?_
    refine r_icmp_gt 48 7 dX5_takeRules_4 (by decide) rfl (fun _ => ?_) (fun z => absurd ((nI_lt' (by omega) (by omega)).mpr (by omega)) z)
    refine r_iconst 49 (v := 1) dX5_takeRules_48 (by decide) rfl ?_
    exact r_iret .boolean dX5_takeRules_49 rfl (rfl) (⟨hF, by rw [← hr]; exact ⟨rfl, h2, hK, h29⟩⟩)
  | succ m ih =>
    intro q p K w hq hp h2 hK hF h29 hr
    have hT1 : tpW w T t := hT.X (hF.X (by decide))
    have hmr := mostR_lt q
    rw [pRules] at hr
    refine r_iload_n 3 dX5_takeRules_2 rfl rfl ?_
    refine r_iload_n 4 dX5_takeRules_3 rfl rfl ?_
    refine r_icmp_gt 48 7 dX5_takeRules_4 (by decide) rfl (fun z => absurd z (fun z => absurd ((nI_lt' (by omega) (by omega)).mp z) (by omega))) (fun _ => ?_)
    refine r_aload_n 8 dX5_takeRules_7 rfl rfl ?_
    refine r_getsN (j := 0) 11 dX5_takeRules_8 (by decide) nx_X5_131 rfl ?_
    refine r_iload_n 12 dX5_takeRules_11 rfl rfl ?_
    refine rj_tald 13 (q) 0 dX5_takeRules_12 (by decide) rfl (rfl) (by show q < 6; omega) rfl ?_
    refine r_eq (rl0 q (by omega)) ?_
    refine r_getsN (j := 1) 16 dX5_takeRules_13 (by decide) nx_X5_134 rfl ?_
    refine r_iload_n 17 dX5_takeRules_16 rfl rfl ?_
    refine rj_tald 18 (q) 1 dX5_takeRules_17 (by decide) rfl (rfl) (by show q < 6; omega) rfl ?_
    refine r_eq (rl1 q (by omega)) ?_
    refine r_callV (y2 := mX5_takeNumber) (as := [_, _]) 21 dX5_takeRules_18 ml_X5_117 mv_X5_takeNumber (c_takeNumber (d := d - 1) (by omega) (by split <;> omega) (by omega) hT1 hp h2) (by omega) sh_29 ⟨_, rfl, rfl⟩ rfl (Nat.le_of_ble_eq_true rfl) rfl (kk_i ?_)
    rintro x w1 ⟨hf, hr1⟩
    rcases hc : pNum T t p (if q = 0 then 1 else 0) (mostR q) with er | v
    · rw [hc] at hr1 hr
      obtain ⟨rfl, hE⟩ := hr1
      refine r_if_ne 26 24 dX5_takeRules_21 (by decide) rfl (fun z => absurd (by decide) z) (fun _ => ?_)
      refine r_iconst 25 (v := 0) dX5_takeRules_24 (by decide) rfl ?_
      exact r_iret .boolean dX5_takeRules_25 rfl (rfl) (⟨frN.U hF hf, by rw [← hr]; exact ⟨rfl, hE⟩⟩)
    rw [hc] at hr1 hr
    obtain ⟨rfl, hk1, h29b⟩ := hr1
    have hv := pNum_r hc
    have hva := pNum_a hp hc
    refine r_if_ne 26 24 dX5_takeRules_21 (by decide) rfl (fun _ => ?_) (fun z => absurd z (by decide))
    refine r_aload_n 27 dX5_takeRules_26 rfl rfl ?_
    refine r_getr 30 dX5_takeRules_27 fz_X5_18 sh_29 rfl rfl ?_
    refine r_getr 33 dX5_takeRules_30 fz_X5_100 sh_21 rfl rfl ?_
    refine r_iload_n 34 dX5_takeRules_33 rfl rfl ?_
    refine r_aload_n 35 dX5_takeRules_34 rfl rfl ?_
    refine r_getr 38 dX5_takeRules_35 fz_X5_9 sh_29 rfl rfl ?_
    refine r_geti 41 dX5_takeRules_38 fz_X5_120 sh_27 rfl rfl ?_
    refine r_eq (z := nI v.1) (by rw [hv.2.2.2.2]; exact hk1.2.2.2) ?_
    refine rj_iast 42 (q) dX5_takeRules_41 sh_22 (rfl) (by omega) (by decide) rfl ?_
    refine r_iinc 45 (L' := [_, _, _, _]) (v := nI (q + 1)) dX5_takeRules_42 rfl (nI_1 q) (by decide) rfl rfl rfl ?_
    refine r_goto 2 dX5_takeRules_45 (by decide) ?_
    exact ih (q + 1) v.2 (un K q v.1) _ (by omega) hva.2 (by rw [z_up_a (by decide), hv.2.2.2.1]; exact hk1.1) (fun k hk => by by_cases e : k = q; (rw [e, z_up_s, un_s]); (rw [z_up_i e, un_n e, hf.2 22 (by decide) (by decide)]; exact hK k hk)) ((frN.U hF hf).up (by decide)) (by rw [z_up_o (by decide), h29b, h29]) hr
set_option maxRecDepth 20000 in
set_option maxHeartbeats 4000000 in
theorem c_takeRules {d T p q m : Nat} {K t : Nat → Nat} {w : zW} (hd : 4 ≤ d) (hm : 1 ≤ m ∧ q + m ≤ 6) (hT : tpW w T t) (hp : p ≤ T) (h2 : w 27 2 = nI p) (hK : ∀ k, k < 6 → w 22 k = nI (K k)) : CT mX5_takeRules d [.ref 29, .int (nI q), .int (nI (q + m - 1))] w (z_i fun x w' => frU 22 w w' ∧ txR (pRules T t m q p K) (fun v => w' 27 2 = nI v.1 ∧ (∀ k, k < 6 → w' 22 k = nI (v.2 k)) ∧ w' 29 = w 29) w' x) := by
  refine CT.of [some (.ref 29), some (.int (nI q)), some (.int (nI (q + m - 1))), none] rfl (Nat.le_of_ble_eq_true rfl) rfl ?_
  refine r_iload_n 1 dX5_takeRules_0 rfl rfl ?_
  refine r_istore_n 2 (L' := [_, _, _, _]) dX5_takeRules_1 (by decide) rfl rfl rfl ?_
  exact l_rules hd (by omega) hT m q p K w rfl hp h2 hK frU.rfl rfl rfl
def frB (b : Nat) (w w' : zW) : Prop := frU 23 w w' ∧ ∀ j, j < b * 5 ∨ b * 5 + 5 ≤ j → w' 23 j = w 23 j
set_option maxRecDepth 20000 in
set_option maxHeartbeats 4000000 in
theorem l_boat {d T b : Nat} {a1 : Int32} {t : Nat → Nat} {w0 : zW} {r : sR (Nat × (Nat → Nat))} {Q : Int32 → zW → Prop} (hd : 4 ≤ d) (hb : b < 6) (hT : tpW w0 T t) (hx : ∀ x w', frB b w0 w' → txR r (fun v => w' 27 2 = nI v.1 ∧ (∀ j, j < 5 → w' 23 (b * 5 + j) = nI (v.2 (6 + 6 * b + j))) ∧ w' 29 = w0 29) w' x → Q x w') : ∀ m q p (K : Nat → Nat) (w : zW), 2 ≤ q → q + m = 5 → p ≤ T → w 27 2 = nI p → (∀ j, j < q → w 23 (b * 5 + j) = nI (K (6 + 6 * b + j))) → frB b w0 w → w 29 = w0 29 → pMarks T t b m q p K = r → WP mX5_takeBoat d (z_T (z_i Q)) 55 [some (.ref 29), some (.int a1), some (.int (nI b)), some (.int (nI q))] [] w := by
  intro m
  induction m with
  | zero =>
    intro q p K w hq2 hq hp h2 hK hF h29 hr
    have e : q = 5 := by omega
    subst e
    refine r_iload_n 56 dX5_takeBoat_55 rfl rfl ?_
    refine r_iconst 57 (v := 4) dX5_takeBoat_56 (by decide) rfl ?_
    refine r_icmp_gt 97 60 dX5_takeBoat_57 (by decide) rfl (fun _ => ?_) (fun z => absurd (by decide) z)
    refine r_iconst 98 (v := 1) dX5_takeBoat_97 (by decide) rfl ?_
    exact r_iret .boolean dX5_takeBoat_98 rfl (rfl) (hx _ _ hF (by rw [← hr]; exact ⟨rfl, h2, hK, h29⟩))
  | succ m ih =>
    intro q p K w hq2 hq hp h2 hK hF h29 hr
    have hT1 : tpW w T t := hT.X (hF.1.X (by decide))
    have hmr := mostM_lt q
    rw [pMarks] at hr
    refine r_iload_n 56 dX5_takeBoat_55 rfl rfl ?_
    refine r_iconst 57 (v := 4) dX5_takeBoat_56 (by decide) rfl ?_
    refine r_icmp_gt 97 60 dX5_takeBoat_57 (by decide) rfl (fun z => absurd z (fun z => absurd ((nI_lt' (a := 4) (by decide) (by omega)).mp z) (by omega))) (fun _ => ?_)
    refine r_aload_n 61 dX5_takeBoat_60 rfl rfl ?_
    refine r_iconst 62 (v := 0) dX5_takeBoat_61 (by decide) rfl ?_
    refine r_getsN (j := 3) 65 dX5_takeBoat_62 (by decide) nx_X5_114 rfl ?_
    refine r_iload_n 66 dX5_takeBoat_65 rfl rfl ?_
    refine rj_tald 67 (q) 3 dX5_takeBoat_66 (by decide) rfl (rfl) (by show q < 5; omega) rfl ?_
    refine r_eq (rl3 q (by omega) (by omega)) ?_
    refine r_callV (y2 := mX5_takeNumber) (as := [_, _]) 70 dX5_takeBoat_67 ml_X5_117 mv_X5_takeNumber (c_takeNumber (d := d - 1) (lo := 0) (by omega) (by decide) (by omega) hT1 hp h2) (by omega) sh_29 ⟨_, rfl, rfl⟩ rfl (Nat.le_of_ble_eq_true rfl) rfl (kk_i ?_)
    rintro x w1 ⟨hf, hr1⟩
    rcases hc : pNum T t p 0 (mostM q) with er | v
    · rw [hc] at hr1 hr
      obtain ⟨rfl, hE⟩ := hr1
      refine r_if_ne 75 73 dX5_takeBoat_70 (by decide) rfl (fun z => absurd (by decide) z) (fun _ => ?_)
      refine r_iconst 74 (v := 0) dX5_takeBoat_73 (by decide) rfl ?_
      exact r_iret .boolean dX5_takeBoat_74 rfl (rfl) (hx _ _ ⟨frN.U hF.1 hf, fun j hj => by rw [hf.2 23 (by decide) (by decide)]; exact hF.2 j hj⟩ (by rw [← hr]; exact ⟨rfl, hE⟩))
    rw [hc] at hr1 hr
    obtain ⟨rfl, hk1, h29b⟩ := hr1
    have hv := pNum_r hc
    have hva := pNum_a hp hc
    refine r_if_ne 75 73 dX5_takeBoat_70 (by decide) rfl (fun _ => ?_) (fun z => absurd z (by decide))
    refine r_aload_n 76 dX5_takeBoat_75 rfl rfl ?_
    refine r_getr 79 dX5_takeBoat_76 fz_X5_18 sh_29 rfl rfl ?_
    refine r_iload_n 80 dX5_takeBoat_79 rfl rfl ?_
    refine r_iload_n 81 dX5_takeBoat_80 rfl rfl ?_
    refine r_aload_n 82 dX5_takeBoat_81 rfl rfl ?_
    refine r_getr 85 dX5_takeBoat_82 fz_X5_9 sh_29 rfl rfl ?_
    refine r_geti 88 dX5_takeBoat_85 fz_X5_120 sh_27 rfl rfl ?_
    refine r_eq (z := nI v.1) (by rw [hv.2.2.2.2]; exact hk1.2.2.2) ?_
    refine r_callV (y2 := mX1_setMark) (as := [_, _, _]) 91 dX5_takeBoat_88 ml_X5_107 mv_X1_setMark (c_setMark (d := d - 1) (B := 21) isL21 (i := b) (j := q) hb (by omega)) (by omega) sh_21 ⟨_, rfl, rfl⟩ rfl (Nat.le_of_ble_eq_true rfl) rfl (kk_v ?_)
    rintro w2 e2
    have e2 : w2 = z_up w1 23 (b * 5 + q) (nI v.1) := e2.symm
    refine r_iinc 94 (L' := [_, _, _, _]) (v := nI (q + 1)) dX5_takeBoat_91 rfl (nI_1 q) (by decide) rfl rfl rfl ?_
    refine r_goto 55 dX5_takeBoat_94 (by decide) ?_
    exact ih (q + 1) v.2 (un K (6 + 6 * b + q) v.1) w2 (by omega) (by omega) hva.2 (by rw [e2, z_up_a (by decide), hv.2.2.2.1]; exact hk1.1) (fun k hk => by by_cases e : k = q; (rw [e, e2, z_up_s, un_s]); (rw [e2, z_up_i (by omega), un_n (by omega), hf.2 23 (by decide) (by decide)]; exact hK k (by omega))) ⟨by rw [e2]; exact (frN.U hF.1 hf).up (by decide), fun j hj => by rw [e2, z_up_i (by omega), hf.2 23 (by decide) (by decide)]; exact hF.2 j hj⟩ (by rw [e2, z_up_o (by decide), h29b, h29]) hr
set_option maxRecDepth 20000 in
set_option maxHeartbeats 4000000 in
theorem c_takeBoat {d T p sd : Nat} {t : Nat → Nat} {w : zW} {D : pD} (hd : 6 ≤ d) (hT : tpW w T t) (hp : p ≤ T) (hk : tkW w (tok T t p)) (hD : dW w D) (hV : dV D) : CT mX5_takeBoat d [.ref 29, .int (nI sd)] w (z_i fun x w' => frX w w' ∧ txR (pBoat T t (tok T t p) sd D) (fun v => w' 27 2 = nI v.1 ∧ dW w' v.2 ∧ w' 29 1 = w 29 1) w' x) := by
  have hnn := hV.n
  refine CT.of [some (.ref 29), some (.int (nI sd)), none, none] rfl (Nat.le_of_ble_eq_true rfl) rfl ?_
  refine r_aload_n 1 dX5_takeBoat_0 rfl rfl ?_
  refine r_getr 4 dX5_takeBoat_1 fz_X5_18 sh_29 rfl rfl ?_
  refine r_geti 7 dX5_takeBoat_4 fz_X5_50 sh_21 rfl rfl ?_
  refine r_eq hD.2.2.1 ?_
  refine r_istore_n 8 (L' := [_, _, _, _]) dX5_takeBoat_7 (by decide) rfl rfl rfl ?_
  refine r_iload_n 9 dX5_takeBoat_8 rfl rfl ?_
  refine r_bipush 11 (v := 6) dX5_takeBoat_9 (by decide) rfl ?_
  refine r_icmp_lt 20 14 dX5_takeBoat_11 (by decide) rfl (fun g11 => ?_) (fun g11 => ?_)
  · have g11 : p_n D < 6 := (nI_lt' (b := 6) (by omega) (by decide)).mp g11
    refine r_aload_n 21 dX5_takeBoat_20 rfl rfl ?_
    refine r_getr 24 dX5_takeBoat_21 fz_X5_18 sh_29 rfl rfl ?_
    refine r_iload_n 25 dX5_takeBoat_24 rfl rfl ?_
    refine r_iconst 26 (v := 0) dX5_takeBoat_25 (by decide) rfl ?_
    refine r_iload_n 27 dX5_takeBoat_26 rfl rfl ?_
    refine r_callV (y2 := mX1_setMark) (as := [_, _, _]) 30 dX5_takeBoat_27 ml_X5_107 mv_X1_setMark (c_setMark (d := d - 1) (B := 21) isL21 (i := p_n D) (j := 0) g11 (by decide)) (by omega) sh_21 ⟨_, rfl, rfl⟩ rfl (Nat.le_of_ble_eq_true rfl) rfl (kk_v ?_)
    rintro w1 e1
    have e1 : w1 = z_up w 23 (p_n D * 5 + 0) (nI sd) := e1.symm
    refine r_aload_n 31 dX5_takeBoat_30 rfl rfl ?_
    refine r_getr 34 dX5_takeBoat_31 fz_X5_18 sh_29 rfl rfl ?_
    refine r_dup 35 dX5_takeBoat_34 rfl rfl ?_
    refine r_geti 38 dX5_takeBoat_35 fz_X5_50 sh_21 rfl rfl ?_
    refine r_eq (z := nI (p_n D)) (by rw [e1, z_up_a (by decide)]; exact hD.2.2.1) ?_
    refine r_iconst 39 (v := 1) dX5_takeBoat_38 (by decide) rfl ?_
    refine r_iadd 40 dX5_takeBoat_39 rfl ?_
    refine r_eq (nI_1 _) ?_
    refine r_puti 43 dX5_takeBoat_40 fz_X5_50 fw_1_2 sh_21 rfl rfl ?_
    refine r_nw (fun w2 e2 => ?_)
    have fX2 : frX w w2 := by rw [e2, e1]; exact (frX.rfl.up (by decide)).up (by decide)
    have hT2 := hT.X fX2
    have hta := tok_T (t := t) hp
    have h27 : w2 27 = w 27 := by rw [e2, z_up_o (by decide), e1, z_up_o (by decide)]
    refine r_aload_n 44 dX5_takeBoat_43 rfl rfl ?_
    refine r_iload_n 45 dX5_takeBoat_44 rfl rfl ?_
    refine r_callV (y2 := mX5_takeCargo) (as := [_]) 48 dX5_takeBoat_45 ml_X5_111 mv_X5_takeCargo (c_takecargo (d := d - 1) (b := p_n D) (by omega) g11 hT2 hta.1 (hk.fr h27).1) (by omega) sh_29 ⟨_, rfl, rfl⟩ rfl (Nat.le_of_ble_eq_true rfl) rfl (kk_i ?_)
    rintro x w3 ⟨f27, fa, hr3⟩
    have fX3 : frX w w3 := fX2.trans ⟨f27, fun a h1 h2 h3 => fa a h1 h2 (by omega)⟩
    rcases hc : pCargo T t (tk_a (tok T t p)) with er | v
    · rw [hc] at hr3
      obtain ⟨rfl, hE⟩ := hr3
      refine r_if_ne 53 51 dX5_takeBoat_48 (by decide) rfl (fun z => absurd (by decide) z) (fun _ => ?_)
      refine r_iconst 52 (v := 0) dX5_takeBoat_51 (by decide) rfl ?_
      exact r_iret .boolean dX5_takeBoat_52 rfl (rfl) (⟨fX3, by rw [pBoat, if_neg (by omega), hc]; exact ⟨rfl, hE⟩⟩)
    rw [hc] at hr3
    obtain ⟨rfl, r2, r29, r23, r23o⟩ := hr3
    have hca := pCargo_a hta.1 hc
    refine r_if_ne 53 51 dX5_takeBoat_48 (by decide) rfl (fun _ => ?_) (fun z => absurd z (by decide))
    refine r_iconst 54 (v := 2) dX5_takeBoat_53 (by decide) rfl ?_
    refine r_istore_n 55 (L' := [_, _, _, _]) dX5_takeBoat_54 (by decide) rfl rfl rfl ?_
    refine l_boat (w0 := w3) (b := p_n D) (by omega) g11 (hT.X fX3) (fun x w4 hfb hr4 => ?_) 3 2 v.2 (un (un (p_K D) (6 + 6 * p_n D) sd) (6 + 6 * p_n D + 1) v.1) w3 (by decide) rfl hca.2.2 r2 (fun j hj => ?_) ⟨frU.rfl, fun _ _ => rfl⟩ rfl rfl
    · refine ⟨fX3.trans (hfb.1.X (by decide)), ?_⟩
      rw [pBoat, if_neg (by omega), hc]
      show txR (sB (pMarks T t (p_n D) 3 2 v.2 (un (un (p_K D) (6 + 6 * p_n D) sd) (6 + 6 * p_n D + 1) v.1)) _) _ _ _
      rcases hm : pMarks T t (p_n D) 3 2 v.2 (un (un (p_K D) (6 + 6 * p_n D) sd) (6 + 6 * p_n D + 1) v.1) with er | u
      · rw [hm] at hr4
        exact hr4
      · rw [hm] at hr4
        obtain ⟨rfl, s2, s23, s29⟩ := hr4
        obtain ⟨u1, u2, u3, -, -, -, hu⟩ := pMarks_3 hm
        have h29 : w4 29 = w 29 := by rw [s29, r29, e2, z_up_o (by decide), e1, z_up_o (by decide)]
        have h22 : w4 22 = w 22 := by rw [hfb.1.2 22 (by decide) (by decide) (by decide), fa 22 (by decide) (by decide) (by decide), e2, z_up_o (by decide), e1, z_up_o (by decide)]
        have h21 : ∀ q, q ≠ 2 → w4 21 q = w 21 q := fun q hq => by rw [hfb.1.2 21 (by decide) (by decide) (by decide), fa 21 (by decide) (by decide) (by decide), e2, z_up_i hq, e1, z_up_a (by decide)]
        have eK : ∀ k, k < 6 + 6 * p_n D → u.2 k = p_K D k := fun k hk => by rw [hu, un_n (by omega), un_n (by omega), un_n (by omega), un_n (by omega), un_n (by omega)]
        refine ⟨rfl, s2, ⟨fun k hk => ?_, fun b q hb hq => ?_, ?_, ?_, ?_, ?_⟩, by rw [h29]⟩
        · show w4 22 k = nI (u.2 k)
          rw [h22, eK k (by omega)]; exact hD.1 k hk
        · show w4 23 _ = nI (u.2 _)
          by_cases e : b = p_n D
          · rw [e]; exact s23 q hq
          · have hb2 : b < p_n D := by have : b < p_n D + 1 := hb; omega
            rw [hfb.2 _ (by omega), r23o _ (by omega), e2, z_up_a (by decide), e1, z_up_i (by omega), eK _ (by omega)]
            exact hD.2.1 b q hb2 hq
        · show w4 21 2 = nI (p_n D + 1)
          rw [hfb.1.2 21 (by decide) (by decide) (by decide), fa 21 (by decide) (by decide) (by decide), e2, z_up_s]
        · rw [h21 3 (by decide)]; exact hD.2.2.2.1
        · rw [h21 4 (by decide)]; exact hD.2.2.2.2.1
        · rw [h29]; exact hD.2.2.2.2.2
    · rcases (by omega : j = 0 ∨ j = 1) with rfl | rfl
      · rw [r23o _ (by omega), e2, z_up_a (by decide), e1, z_up_s, un_n (by omega)]; exact congrArg nI un_s.symm
      · rw [r23, un_s]
  · have g11 : ¬ p_n D < 6 := fun z => g11 ((nI_lt' (b := 6) (by omega) (by decide)).mpr z)
    refine r_aload_n 15 dX5_takeBoat_14 rfl rfl ?_
    refine r_iconst 16 (v := 5) dX5_takeBoat_15 (by decide) rfl ?_
    refine r_callV (y2 := mX5_blameToken) (as := [_]) 19 dX5_takeBoat_16 ml_X5_104 mv_X5_blameToken (c_blameToken (d := d - 1) (y := 5) (by omega) hk tok_k4) (by omega) sh_29 ⟨_, rfl, rfl⟩ rfl (Nat.le_of_ble_eq_true rfl) rfl (kk_i ?_)
    rintro _ _ ⟨rfl, rfl⟩
    exact r_iret .boolean dX5_takeBoat_19 rfl (rfl) (⟨(frX.rfl.up (Or.inl rfl)).up (Or.inl rfl), by rw [pBoat, if_pos (by omega)]; exact ⟨rfl, eX_up⟩⟩)
set_option maxRecDepth 20000 in
set_option maxHeartbeats 4000000 in
theorem c_takeLiar {d T p : Nat} {t : Nat → Nat} {w : zW} {D : pD} (hd : 5 ≤ d) (hT : tpW w T t) (hp : p ≤ T) (h2 : w 27 2 = nI p) (hD : dW w D) (hV : dV D) : CT mX5_takeLiar d [.ref 29] w (z_i fun x w' => frX w w' ∧ txR (pLiar T t p D) (fun v => w' 27 2 = nI v.1 ∧ dW w' v.2 ∧ w' 29 1 = w 29 1) w' x) := by
  refine CT.of [some (.ref 29)] rfl (Nat.le_of_ble_eq_true rfl) rfl ?_
  refine r_aload_n 1 dX5_takeLiar_0 rfl rfl ?_
  refine r_iconst 2 (v := 0) dX5_takeLiar_1 (by decide) rfl ?_
  refine r_iconst 3 (v := 5) dX5_takeLiar_2 (by decide) rfl ?_
  refine r_callV (y2 := mX5_takeNumber) (as := [_, _]) 6 dX5_takeLiar_3 ml_X5_117 mv_X5_takeNumber (c_takeNumber (d := d - 1) (lo := 0) (hi := 5) (by omega) (by decide) (by decide) hT hp h2) (by omega) sh_29 ⟨_, rfl, rfl⟩ rfl (Nat.le_of_ble_eq_true rfl) rfl (kk_i ?_)
  rintro x w1 ⟨hf, hr1⟩
  rcases hc : pNum T t p 0 5 with er | v
  · rw [hc] at hr1
    obtain ⟨rfl, hE⟩ := hr1
    refine r_if_ne 11 9 dX5_takeLiar_6 (by decide) rfl (fun z => absurd (by decide) z) (fun _ => ?_)
    refine r_iconst 10 (v := 0) dX5_takeLiar_9 (by decide) rfl ?_
    exact r_iret .boolean dX5_takeLiar_10 rfl (rfl) (⟨hf.X, by rw [pLiar, hc]; exact ⟨rfl, hE⟩⟩)
  rw [hc] at hr1
  obtain ⟨rfl, hk1, h29b⟩ := hr1
  have hv := pNum_r hc
  have q21 := hf.2 21 (by decide) (by decide)
  refine r_if_ne 11 9 dX5_takeLiar_6 (by decide) rfl (fun _ => ?_) (fun z => absurd z (by decide))
  refine r_aload_n 12 dX5_takeLiar_11 rfl rfl ?_
  refine r_getr 15 dX5_takeLiar_12 fz_X5_18 sh_29 rfl rfl ?_
  refine r_geti 18 dX5_takeLiar_15 fz_X5_47 sh_21 rfl rfl ?_
  refine r_eq (z := nI (p_l D)) (by rw [q21]; exact hD.2.2.2.1) ?_
  refine r_aload_n 19 dX5_takeLiar_18 rfl rfl ?_
  refine r_getr 22 dX5_takeLiar_19 fz_X5_9 sh_29 rfl rfl ?_
  refine r_geti 25 dX5_takeLiar_22 fz_X5_120 sh_27 rfl rfl ?_
  refine r_eq (z := nI v.1) (by rw [hv.2.2.2.2]; exact hk1.2.2.2) ?_
  refine r_ishr 26 dX5_takeLiar_25 rfl ?_
  refine r_iconst 27 (v := 1) dX5_takeLiar_26 (by decide) rfl ?_
  refine r_iand 28 dX5_takeLiar_27 rfl ?_
  refine r_eq (b_sh _ hV.1 v.1 (by omega)) ?_
  refine r_iconst 29 (v := 1) dX5_takeLiar_28 (by decide) rfl ?_
  refine r_icmp_ne 38 32 dX5_takeLiar_29 (by decide) rfl (fun g29 => ?_) (fun g29 => ?_)
  · have g29 : ¬ bi (p_l D) v.1 = 1 := fun z => g29 (by rw [z]; rfl)
    refine r_aload_n 39 dX5_takeLiar_38 rfl rfl ?_
    refine r_getr 42 dX5_takeLiar_39 fz_X5_18 sh_29 rfl rfl ?_
    refine r_dup 43 dX5_takeLiar_42 rfl rfl ?_
    refine r_geti 46 dX5_takeLiar_43 fz_X5_47 sh_21 rfl rfl ?_
    refine r_eq (z := nI (p_l D)) (by rw [q21]; exact hD.2.2.2.1) ?_
    refine r_iconst 47 (v := 1) dX5_takeLiar_46 (by decide) rfl ?_
    refine r_aload_n 48 dX5_takeLiar_47 rfl rfl ?_
    refine r_getr 51 dX5_takeLiar_48 fz_X5_9 sh_29 rfl rfl ?_
    refine r_geti 54 dX5_takeLiar_51 fz_X5_120 sh_27 rfl rfl ?_
    refine r_eq (z := nI v.1) (by rw [hv.2.2.2.2]; exact hk1.2.2.2) ?_
    refine r_ishl 55 dX5_takeLiar_54 rfl ?_
    refine r_ior 56 dX5_takeLiar_55 rfl ?_
    refine r_eq (b_or _ hV.1 v.1 (by omega) (by have := bi_01 (p_l D) v.1; omega)) ?_
    refine r_puti 59 dX5_takeLiar_56 fz_X5_47 fw_1_3 sh_21 rfl rfl ?_
    refine r_nw (fun w2 e2 => ?_)
    refine r_iconst 60 (v := 1) dX5_takeLiar_59 (by decide) rfl ?_
    exact r_iret .boolean dX5_takeLiar_60 rfl (rfl) (⟨by rw [e2]; exact hf.X.up (by decide), by rw [pLiar, hc]; show txR (if bi (p_l D) v.1 = 1 then _ else _) _ _ _; rw [if_neg g29]; exact ⟨rfl, by rw [e2, z_up_a (by decide), hk1.1]; show _ = nI v.2; rw [hv.2.2.2.1], ⟨fun k hk => by rw [e2, z_up_a (by decide), hf.2 22 (by decide) (by decide)]; exact hD.1 k hk, fun b q hb hq => by rw [e2, z_up_a (by decide), hf.2 23 (by decide) (by decide)]; exact hD.2.1 b q hb hq, by rw [e2, z_up_i (by decide), q21]; exact hD.2.2.1, by rw [e2, z_up_s], by rw [e2, z_up_i (by decide), q21]; exact hD.2.2.2.2.1, by rw [e2, z_up_a (by decide), h29b]; exact hD.2.2.2.2.2⟩, by rw [e2, z_up_a (by decide), h29b]⟩⟩)
  · have g29 : bi (p_l D) v.1 = 1 := (nI_inj (b := 1) (by have := bi_lt (p_l D) v.1; omega) (by decide)).mp g29
    refine r_aload_n 33 dX5_takeLiar_32 rfl rfl ?_
    refine r_iconst 34 (v := 4) dX5_takeLiar_33 (by decide) rfl ?_
    refine r_callV (y2 := mX5_blameToken) (as := [_]) 37 dX5_takeLiar_34 ml_X5_104 mv_X5_blameToken (c_blameToken (d := d - 1) (y := 4) (by omega) hk1 tok_k4) (by omega) sh_29 ⟨_, rfl, rfl⟩ rfl (Nat.le_of_ble_eq_true rfl) rfl (kk_i ?_)
    rintro _ _ ⟨rfl, rfl⟩
    exact r_iret .boolean dX5_takeLiar_37 rfl (rfl) (⟨hf.up.up.X, by rw [pLiar, hc]; show txR (if bi (p_l D) v.1 = 1 then _ else _) _ _ _; rw [if_pos g29, show (4, tk_s (tok T t p)) = bl (tok T t p) 4 by rw [bl, if_neg (by rw [hv.1]; decide)]]; exact ⟨rfl, eX_up⟩⟩)

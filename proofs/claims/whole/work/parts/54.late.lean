/-! ===== the class: late, deal, drift ===== -/
set_option maxRecDepth 20000 in
set_option maxHeartbeats 4000000 in
theorem l_late {d b m : Nat} {v3 : Option Value} {w0 : zW} {s : sT} {T : zX → Prop} (hd : 6 ≤ d) (hS : sV s) (hb : b < s_n s) (hm : m ≤ 60) (hx : ∀ w, (∀ a, (a < 6 ∨ 10 < a) → (a < 30 ∨ 35 < a) → w a = w0 a) → lst m (ltP (s_n s) (s_K s) b) = 0 → WP mX6_late d T 117 [some (.ref 0), some (.int (nI b)), some (.int (nI (d_d (dD (s_n s) (s_K s)) b))), v3, some (.int (nI (s_K s (6 + 6 * b + 2)))), some (.int (nI 0))] [] w) (hy : ∀ w i, (∀ a, (a < 6 ∨ 10 < a) → (a < 30 ∨ 35 < a) → w a = w0 a) → lst m (ltP (s_n s) (s_K s) b) = i → WP mX6_late d T 108 [some (.ref 0), some (.int (nI b)), some (.int (nI (d_d (dD (s_n s) (s_K s)) b))), v3, some (.int (nI (s_K s (6 + 6 * b + 2)))), some (.int (nI i))] [] w) : ∀ k x (w : zW), k ≤ m → (∀ a, (a < 6 ∨ 10 < a) → (a < 30 ∨ 35 < a) → w a = w0 a) → lkF w 6 (s_n s) (un (s_K s) (6 + 6 * b + 2) x) → lst k (ltP (s_n s) (s_K s) b) = lst m (ltP (s_n s) (s_K s) b) → WP mX6_late d T 68 [some (.ref 0), some (.int (nI b)), some (.int (nI (d_d (dD (s_n s) (s_K s)) b))), v3, some (.int (nI (s_K s (6 + 6 * b + 2)))), some (.int (nI k))] [] w := by
  have hn := hS.1.n
  intro k
  induction k with
  | zero =>
    intro x w hk hF hL hl
    refine r_iload 70 dX6_late_68 rfl rfl ?_
    refine r_if_le 117 73 dX6_late_70 (by decide) rfl (fun _ => ?_) (fun z => absurd (Int32.le_refl _) z)
    exact hx w hF hl.symm
  | succ k ih =>
    intro x w hk hF hL hl
    have hV := ltV (v := k + 1) hS.1.1 (by omega) hb
    have hI := dI_D hV (by decide)
    have hI0 := dI_D hS.1.1 (by decide)
    have hL1 := hL.markB hn hb (q := 2) (v := s_K s (6 + 6 * b + 2) + (k + 1)) (by decide)
    rw [un_un] at hL1
    have b1 := (hI.2.2.2.2.2.2.2 b).2
    have b2 := (hI0.2.2.2.2.2.2.2 b).2
    rw [lst] at hl
    refine r_iload 70 dX6_late_68 rfl rfl ?_
    refine r_if_le 117 73 dX6_late_70 (by decide) rfl (fun z => absurd z (fun z => absurd ((nI_le' (b := 0) (by omega) (by decide)).mp z) (by omega))) (fun _ => ?_)
    refine r_aload_n 74 dX6_late_73 rfl rfl ?_
    refine r_getr 77 dX6_late_74 fz_X6_16 sh_0 rfl rfl ?_
    refine r_iload_n 78 dX6_late_77 rfl rfl ?_
    refine r_iconst 79 (v := 2) dX6_late_78 (by decide) rfl ?_
    refine r_iload 81 dX6_late_79 rfl rfl ?_
    refine r_iload 83 dX6_late_81 rfl rfl ?_
    refine r_iadd 84 dX6_late_83 rfl ?_
    refine r_eq (nI_add _ _) ?_
    refine r_callV (y2 := mX1_setMark) (as := [_, _, _]) 87 dX6_late_84 ml_X6_125 mv_X1_setMark (c_setMark (d := d - 1) (B := 6) (Or.inr (Or.inl rfl)) (i := b) (j := 2) (by omega) (by decide)) (by omega) sh_6 ⟨_, rfl, rfl⟩ rfl (Nat.le_of_ble_eq_true rfl) rfl (kk_v ?_)
    rintro w1 e1
    rw [e1] at hL1
    refine r_aload_n 88 dX6_late_87 rfl rfl ?_
    refine r_aload_n 89 dX6_late_88 rfl rfl ?_
    refine r_getr 92 dX6_late_89 fz_X6_16 sh_0 rfl rfl ?_
    refine r_callV (y2 := mX6_runAsTold) (as := [_]) 95 dX6_late_92 ml_X6_132 mv_X6_runAsTold (c_tr (d := d - 1) (by omega) (by decide) hV hL1) (by omega) sh_0 ⟨_, rfl, rfl⟩ rfl (Nat.le_of_ble_eq_true rfl) rfl (kk_v ?_)
    rintro w2 ⟨hC, hF2⟩
    have hF3 : (∀ a, (a < 6 ∨ 10 < a) → (a < 30 ∨ 35 < a) → w2 a = w0 a) := fun a h1 h2 => by rw [hF2 a h2, ← e1, z_up_o (by omega)]; exact hF a h1 h2
    refine r_aload_n 96 dX6_late_95 rfl rfl ?_
    refine r_getr 99 dX6_late_96 fz_X6_42 sh_0 rfl rfl ?_
    refine r_getr 102 dX6_late_99 fz_X6_138 sh_30 rfl rfl ?_
    refine r_iload_n 103 dX6_late_102 rfl rfl ?_
    refine rj_iald 104 (b) dX6_late_103 sh_32 (rfl) (by omega) (by decide) rfl ?_
    refine r_eq (hC.th hI hb) ?_
    refine r_iload_n 105 dX6_late_104 rfl rfl ?_
    refine r_icmp_gt 111 108 dX6_late_105 (by decide) rfl (fun g105 => ?_) (fun g105 => ?_)
    · have g105 : ¬ ltP (s_n s) (s_K s) b (k + 1) = true := fun z => by have h1 := of_decide_eq_true z; have h2 := (nI_lt' (by omega) (by omega)).mp g105; omega
      rw [if_neg g105] at hl
      refine r_iinc 114 (L' := [_, _, _, _, _, _]) (v := nI k) dX6_late_111 rfl (nI_d1 (by omega)) (by decide) rfl rfl rfl ?_
      refine r_goto 68 dX6_late_114 (by decide) ?_
      exact ih _ w2 (by omega) hF3 (hL1.fr (fun a h1 h2 => hF2 a (by omega))) hl
    · have g105 : ltP (s_n s) (s_K s) b (k + 1) = true := decide_eq_true (by have : ¬ d_d (dD (s_n s) (s_K s)) b < _ := fun z => g105 ((nI_lt' (by omega) (by omega)).mpr z); omega)
      rw [if_pos g105] at hl
      exact hy w2 (k + 1) hF3 hl.symm
set_option maxRecDepth 20000 in
set_option maxHeartbeats 4000000 in
theorem C_late {d : Nat} {w : zW} {s : sT} {b : Int32} (hd : 7 ≤ d) (hR : RC w s) (hS : sV s) : AC mX6_late d [.int b] w (f_late s b) := by
  have hn := hS.1.n
  refine CT.of [some (.ref 0), some (.int b), none, none, none, none] rfl (Nat.le_of_ble_eq_true rfl) rfl ?_
  refine r_aload_n 1 dX6_late_0 rfl rfl ?_
  refine r_iload_n 2 dX6_late_1 rfl rfl ?_
  refine r_callV (y2 := mX6_isBoat) (as := [_]) 5 dX6_late_2 ml_X6_105 mv_X6_isBoat (c_isBoat (d := d - 1) (by omega) hn hR.1.2.2.1) (by omega) sh_0 ⟨_, rfl, rfl⟩ rfl (Nat.le_of_ble_eq_true rfl) rfl (kk_i ?_)
  rintro _ _ ⟨rfl, rfl⟩
  refine rb_ne 10 8 dX6_late_5 (by decide) rfl (fun g5 => ?_) (fun g5 => ?_)
  · obtain ⟨j, hj, rfl⟩ := iB_of g5
    have hjs : tN (nI j) = j := tN_n (by omega)
    have hI := dI_D hS.1.1 (by decide)
    have b1 := (hI.2.2.2.2.2.2.2 j).1
    refine r_aload_n 11 dX6_late_10 rfl rfl ?_
    refine r_aload_n 12 dX6_late_11 rfl rfl ?_
    refine r_getr 15 dX6_late_12 fz_X6_10 sh_0 rfl rfl ?_
    refine r_callV (y2 := mX6_runAsTold) (as := [_]) 18 dX6_late_15 ml_X6_132 mv_X6_runAsTold (c_told (d := d - 1) (by omega) hR hS) (by omega) sh_0 ⟨_, rfl, rfl⟩ rfl (Nat.le_of_ble_eq_true rfl) rfl (kk_v ?_)
    rintro w1 ⟨hC, hF1⟩
    have hR1 := hR.fr (d30 hF1)
    refine r_aload_n 19 dX6_late_18 rfl rfl ?_
    refine r_getr 22 dX6_late_19 fz_X6_42 sh_0 rfl rfl ?_
    refine r_getr 25 dX6_late_22 fz_X6_138 sh_30 rfl rfl ?_
    refine r_iload_n 26 dX6_late_25 rfl rfl ?_
    refine rj_iald 27 (j) dX6_late_26 sh_32 (rfl) (by omega) (by decide) rfl ?_
    refine r_eq (hC.th hI hj) ?_
    refine r_istore_n 28 (L' := [_, _, _, _, _, _]) dX6_late_27 (by decide) rfl rfl rfl ?_
    refine r_bipush 30 (v := 60) dX6_late_28 (by decide) rfl ?_
    refine r_aload_n 31 dX6_late_30 rfl rfl ?_
    refine r_getr 34 dX6_late_31 fz_X6_42 sh_0 rfl rfl ?_
    refine r_getr 37 dX6_late_34 fz_X6_141 sh_30 rfl rfl ?_
    refine r_iload_n 38 dX6_late_37 rfl rfl ?_
    refine rj_iald 39 (j) dX6_late_38 sh_33 (rfl) (by omega) (by decide) rfl ?_
    refine r_eq (hC.st hI hj) ?_
    refine r_mmin 42 dX6_late_39 ml_X6_200 (by omega) (Nat.le_of_ble_eq_true rfl) rfl ?_
    refine r_eq (n_min (a := 60) (by decide) (by omega)) ?_
    refine r_istore_n 43 (L' := [_, _, _, _, _, _]) dX6_late_42 (by decide) rfl rfl rfl ?_
    refine r_aload_n 44 dX6_late_43 rfl rfl ?_
    refine r_getr 47 dX6_late_44 fz_X6_10 sh_0 rfl rfl ?_
    refine r_iload_n 48 dX6_late_47 rfl rfl ?_
    refine r_iconst 49 (v := 2) dX6_late_48 (by decide) rfl ?_
    refine r_callV (y2 := mX1_mark) (as := [_, _]) 52 dX6_late_49 ml_X6_112 mv_X1_mark (c_mark (d := d - 1) (B := 1) (Or.inl rfl) (i := j) (j := 2) (by omega) (by decide)) (by omega) sh_1 ⟨_, rfl, rfl⟩ rfl (Nat.le_of_ble_eq_true rfl) rfl (kk_i ?_)
    rintro _ _ ⟨rfl, rfl⟩
    refine r_eq (z := nI (s_K s (6 + 6 * j + 2))) (hR1.1.2.1 j 2 hj (by decide)) ?_
    refine r_istore 54 (L' := [_, _, _, _, _, _]) dX6_late_52 (by decide) rfl rfl rfl ?_
    refine r_aload_n 55 dX6_late_54 rfl rfl ?_
    refine r_getr 58 dX6_late_55 fz_X6_16 sh_0 rfl rfl ?_
    refine r_aload_n 59 dX6_late_58 rfl rfl ?_
    refine r_getr 62 dX6_late_59 fz_X6_10 sh_0 rfl rfl ?_
    refine r_callV (y2 := mX1_copyFrom) (as := [_]) 65 dX6_late_62 ml_X6_86 mv_X1_copyFrom (c_copyFrom (d := d - 1) (by omega) (Or.inr (Or.inl rfl)) (Or.inl rfl) (by decide)) (by omega) sh_6 ⟨_, rfl, rfl⟩ rfl (Nat.le_of_ble_eq_true rfl) rfl (kk_v ?_)
    rintro w2 hc
    have hL := hc.F hR1.1 hn hS.1.2.1
    have hF : ∀ a, (a < 6 ∨ 10 < a) → (a < 30 ∨ 35 < a) → w2 a = w a := fun a h1 h2 => by rw [hc.2.2.2.2.2.2.2 a (by omega)]; exact hF1 a h2
    have cut : lst 60 (ltP (s_n s) (s_K s) j) = lst (min 60 (d_s (dD (s_n s) (s_K s)) j)) (ltP (s_n s) (s_K s) j) := lst_cut 60 (Nat.min_le_left _ _) (fun v h1 h2 => ltP_no hS.1.1 hj h2 (by omega))
    refine r_iload_n 66 dX6_late_65 rfl rfl ?_
    refine r_istore 68 (L' := [_, _, _, _, _, _]) dX6_late_66 (by decide) rfl rfl rfl ?_
    refine l_late (w0 := w) (b := j) (m := min 60 (d_s (dD (s_n s) (s_K s)) j)) (by omega) hS hj (Nat.min_le_left _ _) (fun w3 hF2 hl => ?_) (fun w3 i hF2 hl => ?_) _ (s_K s (6 + 6 * j + 2)) w2 (Nat.le_refl _) hF (by rw [un_id]; exact hL) rfl
    · refine r_iconst 118 (v := 0) dX6_late_117 (by decide) rfl ?_
      exact r_iret .int dX6_late_118 rfl (rfl) (⟨by rw [f_late, if_pos g5, hjs, cut, hl]; rfl, hR.fr (fun a ha => hF2 a (by omega) (by omega)), fun a ha => hF2 a (by omega) (by omega)⟩)
    · refine r_iload 110 dX6_late_108 rfl rfl ?_
      exact r_iret .int dX6_late_110 rfl (rfl) (⟨by rw [f_late, if_pos g5, hjs, cut, hl], hR.fr (fun a ha => hF2 a (by omega) (by omega)), fun a ha => hF2 a (by omega) (by omega)⟩)
  · refine r_iconst 9 (v := -1) dX6_late_8 (by decide) rfl ?_
    exact r_iret .int dX6_late_9 rfl (rfl) (by first | exact ⟨by rw [f_late, if_neg (g5)], by rw [f_late, if_neg (g5)]; exact hR, fun _ _ => rfl⟩)
/-- what is dealt for -/
def dlM (n : Nat) (K : Nat → Nat) (b c q : Nat) (D : dT) : Nat := if q = 2 then meas n K D 0 else d_s D (if q = 0 then b else c) * k_wo K (if q = 0 then b else c)
def dlO (n : Nat) (K : Nat → Nat) (b c : Nat) : dT := d_ord K (fun i => sw b c (d_p (dD n K) i)) n
def f_deal (s : sT) (b c q : Int32) : Int32 × sT := (if (iB (s_n s) b = true ∧ iB (s_n s) c = true ∧ ¬ b = c) ∧ wi q 0 2 = true then 10000 + nI (dlM (s_n s) (s_K s) (tN b) (tN c) (tN q) (dD (s_n s) (s_K s))) - nI (dlM (s_n s) (s_K s) (tN b) (tN c) (tN q) (dlO (s_n s) (s_K s) (tN b) (tN c))) else -1, s)
set_option maxRecDepth 20000 in
set_option maxHeartbeats 4000000 in
theorem l_deal {d b c : Nat} {v3 v4 v5 : Int32} {w0 : zW} {s : sT} {T : zX → Prop} (hS : sV s) (hb : b < s_n s) (hc : c < s_n s) (h1 : w0 1 2 = nI (s_n s)) (hC : dyC w0 (s_n s) (s_K s) (s_n s) (dD (s_n s) (s_K s))) (hx : ∀ w v, (∀ a, a ≠ 39 → w a = w0 a) → (∀ j, j < s_n s → w 39 j = nI (sw b c (d_p (dD (s_n s) (s_K s)) j))) → WP mX6_deal d T 131 [some (.ref 0), some (.int (nI b)), some (.int (nI c)), some (.int v3), some (.int v4), some (.int v5), some (.int (nI (s_n s))), v] [] w) : ∀ k i v (w : zW), i + k = s_n s → (∀ a, a ≠ 39 → w a = w0 a) → (∀ j, j < i → w 39 j = nI (sw b c (d_p (dD (s_n s) (s_K s)) j))) → WP mX6_deal d T 72 [some (.ref 0), some (.int (nI b)), some (.int (nI c)), some (.int v3), some (.int v4), some (.int v5), some (.int (nI i)), v] [] w := by
  have hn := hS.1.n
  intro k
  induction k with
  | zero =>
    intro i v w hi hF hp
    have e : i = s_n s := by omega
    subst e
    refine r_iload 74 dX6_deal_72 rfl rfl ?_
    refine r_aload_n 75 dX6_deal_74 rfl rfl ?_
    refine r_getr 78 dX6_deal_75 fz_X6_10 sh_0 rfl rfl ?_
    refine r_geti 81 dX6_deal_78 fz_X6_96 sh_1 rfl rfl ?_
    refine r_eq (z := nI (s_n s)) (by rw [hF 1 (by decide)]; exact h1) ?_
    refine r_icmp_ge 131 84 dX6_deal_81 (by decide) rfl (fun _ => ?_) (fun z => absurd (Int32.le_refl _) z)
    exact hx w v hF hp
  | succ k ih =>
    intro i v w hi hF hp
    have hpi := ((dI_D hS.1.1 (by decide)).2.2.1 i (by omega)).1
    have fin : ∀ x, x = nI (sw b c (d_p (dD (s_n s) (s_K s)) i)) → WP mX6_deal d T 72 [some (.ref 0), some (.int (nI b)), some (.int (nI c)), some (.int v3), some (.int v4), some (.int v5), some (.int (nI (i + 1))), some (.int (nI (d_p (dD (s_n s) (s_K s)) i)))] [] (z_up w 39 i x) := fun x hx2 => ih (i + 1) _ _ (by omega) (fun a ha => by rw [z_up_o ha]; exact hF a ha) (fun j hj => by by_cases e : j = i; (rw [e, z_up_s, hx2]); (rw [z_up_i e]; exact hp j (by omega)))
    refine r_iload 74 dX6_deal_72 rfl rfl ?_
    refine r_aload_n 75 dX6_deal_74 rfl rfl ?_
    refine r_getr 78 dX6_deal_75 fz_X6_10 sh_0 rfl rfl ?_
    refine r_geti 81 dX6_deal_78 fz_X6_96 sh_1 rfl rfl ?_
    refine r_eq (z := nI (s_n s)) (by rw [hF 1 (by decide)]; exact h1) ?_
    refine r_icmp_ge 131 84 dX6_deal_81 (by decide) rfl (fun z => absurd z (fun z => absurd ((nI_le' (by omega) (by omega)).mp z) (by omega))) (fun _ => ?_)
    refine r_aload_n 85 dX6_deal_84 rfl rfl ?_
    refine r_getr 88 dX6_deal_85 fz_X6_42 sh_0 rfl rfl ?_
    refine r_getr 91 dX6_deal_88 fz_X6_135 sh_30 rfl rfl ?_
    refine r_iload 93 dX6_deal_91 rfl rfl ?_
    refine rj_iald 94 (i) dX6_deal_93 sh_31 (rfl) (by omega) (by decide) rfl ?_
    refine r_eq (z := nI (d_p (dD (s_n s) (s_K s)) i)) (by rw [hF 31 (by decide)]; exact hC.pa (by omega)) ?_
    refine r_istore 96 (L' := [_, _, _, _, _, _, _, _]) dX6_deal_94 (by decide) rfl rfl rfl ?_
    refine r_aload_n 97 dX6_deal_96 rfl rfl ?_
    refine r_getr 100 dX6_deal_97 fz_X6_53 sh_0 rfl rfl ?_
    refine r_iload 102 dX6_deal_100 rfl rfl ?_
    refine r_iload 104 dX6_deal_102 rfl rfl ?_
    refine r_iload_n 105 dX6_deal_104 rfl rfl ?_
    refine r_icmp_ne 112 108 dX6_deal_105 (by decide) rfl (fun g105 => ?_) (fun g105 => ?_)
    · have g105 : ¬ _ := fun z => g105 ((nI_inj (a := d_p (dD (s_n s) (s_K s)) i) (b := b) (by omega) (by omega)).mpr z)
      refine r_iload 114 dX6_deal_112 rfl rfl ?_
      refine r_iload_n 115 dX6_deal_114 rfl rfl ?_
      refine r_icmp_ne 122 118 dX6_deal_115 (by decide) rfl (fun g115 => ?_) (fun g115 => ?_)
      · have g115 : ¬ _ := fun z => g115 ((nI_inj (a := d_p (dD (s_n s) (s_K s)) i) (b := c) (by omega) (by omega)).mpr z)
        refine r_iload 124 dX6_deal_122 rfl rfl ?_
        refine rj_iast 125 (i) dX6_deal_124 sh_39 (rfl) (by omega) (by decide) rfl ?_
        refine r_iinc 128 (L' := [_, _, _, _, _, _, _, _]) (v := nI (i + 1)) dX6_deal_125 rfl (nI_1 i) (by decide) rfl rfl rfl ?_
        refine r_goto 72 dX6_deal_128 (by decide) ?_
        exact fin _ (by first | (rw [sw, if_pos g105]; done) | (rw [sw, if_neg g105, if_pos g115]; done) | (rw [sw, if_neg g105, if_neg g115]; done))
      · have g115 := (nI_inj (by omega) (by omega)).mp g115
        refine r_iload_n 119 dX6_deal_118 rfl rfl ?_
        refine r_goto 124 dX6_deal_119 (by decide) ?_
        refine rj_iast 125 (i) dX6_deal_124 sh_39 (rfl) (by omega) (by decide) rfl ?_
        refine r_iinc 128 (L' := [_, _, _, _, _, _, _, _]) (v := nI (i + 1)) dX6_deal_125 rfl (nI_1 i) (by decide) rfl rfl rfl ?_
        refine r_goto 72 dX6_deal_128 (by decide) ?_
        exact fin _ (by first | (rw [sw, if_pos g105]; done) | (rw [sw, if_neg g105, if_pos g115]; done) | (rw [sw, if_neg g105, if_neg g115]; done))
    · have g105 := (nI_inj (by omega) (by omega)).mp g105
      refine r_iload_n 109 dX6_deal_108 rfl rfl ?_
      refine r_goto 124 dX6_deal_109 (by decide) ?_
      refine rj_iast 125 (i) dX6_deal_124 sh_39 (rfl) (by omega) (by decide) rfl ?_
      refine r_iinc 128 (L' := [_, _, _, _, _, _, _, _]) (v := nI (i + 1)) dX6_deal_125 rfl (nI_1 i) (by decide) rfl rfl rfl ?_
      refine r_goto 72 dX6_deal_128 (by decide) ?_
      exact fin _ (by first | (rw [sw, if_pos g105]; done) | (rw [sw, if_neg g105, if_pos g115]; done) | (rw [sw, if_neg g105, if_neg g115]; done))
set_option maxRecDepth 20000 in
set_option maxHeartbeats 4000000 in
theorem k_deal {d i j k x : Nat} {w : zW} {s : sT} (hd : 6 ≤ d) (hR : RC w s) (hS : sV s) (g6 : iB (s_n s) (nI i) = true ∧ iB (s_n s) (nI j) = true ∧ ¬ nI i = nI j) (hi : i < s_n s) (hj : j < s_n s) (wq : wi (nI k) 0 2 = true) (hk : k ≤ 2) (hx : x < s_n s) (hxe : x = if k = 0 then i else j) : WP mX6_deal d (z_T (z_i fun v w' => (f_deal s (nI i) (nI j) (nI k)).1 = v ∧ RC w' (f_deal s (nI i) (nI j) (nI k)).2 ∧ ∀ a, 49 < a → w' a = w a)) 29 [some (.ref 0), some (.int (nI i)), some (.int (nI j)), some (.int (nI k)), none, none, none, none] [.int (nI x)] w := by
  have hn := hS.1.n
  have his : tN (nI i) = i := tN_n (by omega)
  have hjs : tN (nI j) = j := tN_n (by omega)
  have hks : tN (nI k) = k := tN_n (by omega)
  have hI := dI_D hS.1.1 (by decide)
  have hO := oO_sw (b := i) (c := j) hS.1.1 (by decide) hi hj
  have hOI := d_ord_I hS.1.1 (by decide) hO
  by_cases hk2 : k = 2
  · refine r_istore 31 (L' := [_, _, _, _, _, _, _, _]) dX6_deal_29 (by decide) rfl rfl rfl ?_
    refine r_aload_n 32 dX6_deal_31 rfl rfl ?_
    refine r_aload_n 33 dX6_deal_32 rfl rfl ?_
    refine r_getr 36 dX6_deal_33 fz_X6_10 sh_0 rfl rfl ?_
    refine r_callV (y2 := mX6_runAsTold) (as := [_]) 39 dX6_deal_36 ml_X6_132 mv_X6_runAsTold (c_told (d := d - 1) (by omega) hR hS) (by omega) sh_0 ⟨_, rfl, rfl⟩ rfl (Nat.le_of_ble_eq_true rfl) rfl (kk_v ?_)
    rintro w1 ⟨hC, hF1⟩
    have hR1 := hR.fr (d30 hF1)
    refine r_iload_n 40 dX6_deal_39 rfl rfl ?_
    refine r_iconst 41 (v := 2) dX6_deal_40 (by decide) rfl ?_
    refine r_icmp_ne 54 44 dX6_deal_41 (by decide) rfl (fun z => absurd (by rw [hk2]; rfl) z) (fun _ => ?_)
    refine r_aload_n 45 dX6_deal_44 rfl rfl ?_
    refine r_getr 48 dX6_deal_45 fz_X6_42 sh_0 rfl rfl ?_
    refine r_geti 51 dX6_deal_48 fz_X6_199 sh_30 rfl rfl ?_
    refine r_eq (dyC_meas hI hC 0 (by decide)) ?_
    refine r_goto 67 dX6_deal_51 (by decide) ?_
    refine r_istore 69 (L' := [_, _, _, _, _, _, _, _]) dX6_deal_67 (by decide) rfl rfl rfl ?_
    refine r_iconst 70 (v := 0) dX6_deal_69 (by decide) rfl ?_
    refine r_istore 72 (L' := [_, _, _, _, _, _, _, _]) dX6_deal_70 (by decide) rfl rfl rfl ?_
    refine l_deal (w0 := w1) (b := i) (c := j) hS hi hj hR1.1.2.2.1 hC (fun w2 v hF2 hP => ?_) (s_n s) 0 _ w1 (Nat.zero_add _) (fun _ _ => rfl) (fun a ha => absurd ha (Nat.not_lt_zero a))
    have hR2 := hR1.fr (w' := w2) (fun a ha => hF2 a (by omega))
    refine r_aload_n 132 dX6_deal_131 rfl rfl ?_
    refine r_getr 135 dX6_deal_132 fz_X6_42 sh_0 rfl rfl ?_
    refine r_aload_n 136 dX6_deal_135 rfl rfl ?_
    refine r_getr 139 dX6_deal_136 fz_X6_10 sh_0 rfl rfl ?_
    refine r_aload_n 140 dX6_deal_139 rfl rfl ?_
    refine r_getr 143 dX6_deal_140 fz_X6_53 sh_0 rfl rfl ?_
    refine r_callV (y2 := mX0_inOrder) (as := [_, _]) 146 dX6_deal_143 ml_X6_209 mv_X0_inOrder (c_inOrder (d := d - 1) (A := 99) (B := 1) (K := s_K s) (od := fun a => sw i j (d_p (dD (s_n s) (s_K s)) a)) (by omega) (Or.inl rfl) (by decide) hS.1.1 (fun a ha => ⟨hP a ha, hO.1 a ha, d_ord_0 hS.1.1 (by decide) hO ha⟩) (fun a ha => (hOI a ha).1) hR2.1.D) (by omega) sh_30 ⟨_, rfl, rfl⟩ rfl (Nat.le_of_ble_eq_true rfl) rfl (kk_v ?_)
    rintro w3 ⟨hC3, hF3⟩
    have hI3 := (hOI (s_n s) (Nat.le_refl _)).1
    have hR3 := hR2.fr (w' := w3) (fun a ha => hF3 a (by omega))
    have hFF : frC w w3 := fun a ha => by rw [hF3 a (by omega), hF2 a (by omega)]; exact hF1 a (by omega)
    refine r_iload_n 147 dX6_deal_146 rfl rfl ?_
    refine r_iconst 148 (v := 2) dX6_deal_147 (by decide) rfl ?_
    refine r_icmp_ne 161 151 dX6_deal_148 (by decide) rfl (fun z => absurd (by rw [hk2]; rfl) z) (fun _ => ?_)
    refine r_aload_n 152 dX6_deal_151 rfl rfl ?_
    refine r_getr 155 dX6_deal_152 fz_X6_42 sh_0 rfl rfl ?_
    refine r_geti 158 dX6_deal_155 fz_X6_199 sh_30 rfl rfl ?_
    refine r_eq (dyC_meas hI3 hC3 0 (by decide)) ?_
    refine r_goto 174 dX6_deal_158 (by decide) ?_
    refine r_istore 176 (L' := [_, _, _, _, _, _, _, _]) dX6_deal_174 (by decide) rfl rfl rfl ?_
    refine r_sipush 179 (v := 10000) dX6_deal_176 (by decide) rfl ?_
    refine r_iload 181 dX6_deal_179 rfl rfl ?_
    refine r_iadd 182 dX6_deal_181 rfl ?_
    refine r_iload 184 dX6_deal_182 rfl rfl ?_
    refine r_isub 185 dX6_deal_184 rfl ?_
    exact r_iret .int dX6_deal_185 rfl (rfl) (⟨by rw [f_deal, if_pos ⟨g6, wq⟩, his, hjs, hks, dlM, dlM, if_pos hk2, if_pos hk2]; rfl, hR.fr hFF, hFF.hi⟩)
  · refine r_istore 31 (L' := [_, _, _, _, _, _, _, _]) dX6_deal_29 (by decide) rfl rfl rfl ?_
    refine r_aload_n 32 dX6_deal_31 rfl rfl ?_
    refine r_aload_n 33 dX6_deal_32 rfl rfl ?_
    refine r_getr 36 dX6_deal_33 fz_X6_10 sh_0 rfl rfl ?_
    refine r_callV (y2 := mX6_runAsTold) (as := [_]) 39 dX6_deal_36 ml_X6_132 mv_X6_runAsTold (c_told (d := d - 1) (by omega) hR hS) (by omega) sh_0 ⟨_, rfl, rfl⟩ rfl (Nat.le_of_ble_eq_true rfl) rfl (kk_v ?_)
    rintro w1 ⟨hC, hF1⟩
    have hR1 := hR.fr (d30 hF1)
    refine r_iload_n 40 dX6_deal_39 rfl rfl ?_
    refine r_iconst 41 (v := 2) dX6_deal_40 (by decide) rfl ?_
    refine r_icmp_ne 54 44 dX6_deal_41 (by decide) rfl (fun _ => ?_) (fun z => absurd z (fun z => hk2 ((nI_inj (b := 2) (by omega) (by decide)).mp z)))
    refine r_aload_n 55 dX6_deal_54 rfl rfl ?_
    refine r_getr 58 dX6_deal_55 fz_X6_42 sh_0 rfl rfl ?_
    refine r_aload_n 59 dX6_deal_58 rfl rfl ?_
    refine r_getr 62 dX6_deal_59 fz_X6_10 sh_0 rfl rfl ?_
    refine r_iload 64 dX6_deal_62 rfl rfl ?_
    refine r_callV (y2 := mX0_costOf) (as := [_, _]) 67 dX6_deal_64 ml_X6_205 mv_X0_costOf (c_costOf (d := d - 1) (B := 1) (b := x) (by omega) (Or.inl rfl) (by omega)) (by omega) sh_30 ⟨_, rfl, rfl⟩ rfl (Nat.le_of_ble_eq_true rfl) rfl (kk_i ?_)
    rintro _ _ ⟨rfl, rfl⟩
    refine r_eq (z := nI (d_s (dD (s_n s) (s_K s)) x * k_wo (s_K s) x)) ?_ ?_
    · rw [hC.st hI hx, show w1 (1 + 2) (x * 5 + 3) = nI (k_wo (s_K s) x) from hR1.1.2.1 x 3 hx (by decide)]
      exact nI_mul _ _
    refine r_istore 69 (L' := [_, _, _, _, _, _, _, _]) dX6_deal_67 (by decide) rfl rfl rfl ?_
    refine r_iconst 70 (v := 0) dX6_deal_69 (by decide) rfl ?_
    refine r_istore 72 (L' := [_, _, _, _, _, _, _, _]) dX6_deal_70 (by decide) rfl rfl rfl ?_
    refine l_deal (w0 := w1) (b := i) (c := j) hS hi hj hR1.1.2.2.1 hC (fun w2 v hF2 hP => ?_) (s_n s) 0 _ w1 (Nat.zero_add _) (fun _ _ => rfl) (fun a ha => absurd ha (Nat.not_lt_zero a))
    have hR2 := hR1.fr (w' := w2) (fun a ha => hF2 a (by omega))
    refine r_aload_n 132 dX6_deal_131 rfl rfl ?_
    refine r_getr 135 dX6_deal_132 fz_X6_42 sh_0 rfl rfl ?_
    refine r_aload_n 136 dX6_deal_135 rfl rfl ?_
    refine r_getr 139 dX6_deal_136 fz_X6_10 sh_0 rfl rfl ?_
    refine r_aload_n 140 dX6_deal_139 rfl rfl ?_
    refine r_getr 143 dX6_deal_140 fz_X6_53 sh_0 rfl rfl ?_
    refine r_callV (y2 := mX0_inOrder) (as := [_, _]) 146 dX6_deal_143 ml_X6_209 mv_X0_inOrder (c_inOrder (d := d - 1) (A := 99) (B := 1) (K := s_K s) (od := fun a => sw i j (d_p (dD (s_n s) (s_K s)) a)) (by omega) (Or.inl rfl) (by decide) hS.1.1 (fun a ha => ⟨hP a ha, hO.1 a ha, d_ord_0 hS.1.1 (by decide) hO ha⟩) (fun a ha => (hOI a ha).1) hR2.1.D) (by omega) sh_30 ⟨_, rfl, rfl⟩ rfl (Nat.le_of_ble_eq_true rfl) rfl (kk_v ?_)
    rintro w3 ⟨hC3, hF3⟩
    have hI3 := (hOI (s_n s) (Nat.le_refl _)).1
    have hR3 := hR2.fr (w' := w3) (fun a ha => hF3 a (by omega))
    have hFF : frC w w3 := fun a ha => by rw [hF3 a (by omega), hF2 a (by omega)]; exact hF1 a (by omega)
    refine r_iload_n 147 dX6_deal_146 rfl rfl ?_
    refine r_iconst 148 (v := 2) dX6_deal_147 (by decide) rfl ?_
    refine r_icmp_ne 161 151 dX6_deal_148 (by decide) rfl (fun _ => ?_) (fun z => absurd z (fun z => hk2 ((nI_inj (b := 2) (by omega) (by decide)).mp z)))
    refine r_aload_n 162 dX6_deal_161 rfl rfl ?_
    refine r_getr 165 dX6_deal_162 fz_X6_42 sh_0 rfl rfl ?_
    refine r_aload_n 166 dX6_deal_165 rfl rfl ?_
    refine r_getr 169 dX6_deal_166 fz_X6_10 sh_0 rfl rfl ?_
    refine r_iload 171 dX6_deal_169 rfl rfl ?_
    refine r_callV (y2 := mX0_costOf) (as := [_, _]) 174 dX6_deal_171 ml_X6_205 mv_X0_costOf (c_costOf (d := d - 1) (B := 1) (b := x) (by omega) (Or.inl rfl) (by omega)) (by omega) sh_30 ⟨_, rfl, rfl⟩ rfl (Nat.le_of_ble_eq_true rfl) rfl (kk_i ?_)
    rintro _ _ ⟨rfl, rfl⟩
    refine r_eq (z := nI (d_s (dlO (s_n s) (s_K s) i j) x * k_wo (s_K s) x)) ?_ ?_
    · rw [hC3.st hI3 hx, show w3 (1 + 2) (x * 5 + 3) = nI (k_wo (s_K s) x) from hR3.1.2.1 x 3 hx (by decide)]
      exact nI_mul _ _
    refine r_istore 176 (L' := [_, _, _, _, _, _, _, _]) dX6_deal_174 (by decide) rfl rfl rfl ?_
    refine r_sipush 179 (v := 10000) dX6_deal_176 (by decide) rfl ?_
    refine r_iload 181 dX6_deal_179 rfl rfl ?_
    refine r_iadd 182 dX6_deal_181 rfl ?_
    refine r_iload 184 dX6_deal_182 rfl rfl ?_
    refine r_isub 185 dX6_deal_184 rfl ?_
    exact r_iret .int dX6_deal_185 rfl (rfl) (⟨by rw [f_deal, if_pos ⟨g6, wq⟩, his, hjs, hks, dlM, dlM, if_neg hk2, if_neg hk2, ← hxe], hR.fr hFF, hFF.hi⟩)
set_option maxRecDepth 20000 in
set_option maxHeartbeats 4000000 in
theorem C_deal {d : Nat} {w : zW} {s : sT} {b c q : Int32} (hd : 6 ≤ d) (hR : RC w s) (hS : sV s) : AC mX6_deal d [.int b, .int c, .int q] w (f_deal s b c q) := by
  have hn := hS.1.n
  refine CT.of [some (.ref 0), some (.int b), some (.int c), some (.int q), none, none, none, none] rfl (Nat.le_of_ble_eq_true rfl) rfl ?_
  refine r_aload_n 1 dX6_deal_0 rfl rfl ?_
  refine r_iload_n 2 dX6_deal_1 rfl rfl ?_
  refine r_iload_n 3 dX6_deal_2 rfl rfl ?_
  refine r_callV (y2 := mX6_isPair) (as := [_, _]) 6 dX6_deal_3 ml_X6_195 mv_X6_isPair (c_isPair (d := d - 1) (by omega) hn hR.1.2.2.1) (by omega) sh_0 ⟨_, rfl, rfl⟩ rfl (Nat.le_of_ble_eq_true rfl) rfl (kk_i ?_)
  rintro _ _ ⟨rfl, rfl⟩
  refine rb_eq 18 9 dX6_deal_6 (by decide) rfl (fun g6 => ?_) (fun g6 => ?_)
  · refine r_iconst 19 (v := -1) dX6_deal_18 (by decide) rfl ?_
    exact r_iret .int dX6_deal_19 rfl (rfl) (by first | exact ⟨by rw [f_deal, if_neg (fun z => g6 z.1)], by rw [f_deal, if_neg (fun z => g6 z.1)]; exact hR, fun _ _ => rfl⟩ | exact ⟨by rw [f_deal, if_neg (fun z => wq z.2)], by rw [f_deal, if_neg (fun z => wq z.2)]; exact hR, fun _ _ => rfl⟩)
  · obtain ⟨i, hi, rfl⟩ := iB_of g6.1
    obtain ⟨j, hj, rfl⟩ := iB_of g6.2.1
    refine r_iload_n 10 dX6_deal_9 rfl rfl ?_
    refine r_iconst 11 (v := 0) dX6_deal_10 (by decide) rfl ?_
    refine r_iconst 12 (v := 2) dX6_deal_11 (by decide) rfl ?_
    refine r_callS (y2 := mX6_within) (as := [_, _, _]) 15 dX6_deal_12 ml_X6_67 ms_X6_within (c_within (d := d - 1) _ _ _) (by omega) rfl (Nat.le_of_ble_eq_true rfl) rfl (kk_i ?_)
    rintro _ _ ⟨rfl, rfl⟩
    refine rb_ne 20 18 dX6_deal_15 (by decide) rfl (fun g15 => ?_) (fun g15 => ?_)
    · have wq : wi q 0 2 = true := wi_iff.mpr g15
      obtain ⟨k, hk, rfl⟩ := wi_of (hi := 2) wq
      have hks : tN (nI k) = k := tN_n (by omega)
      refine r_iload_n 21 dX6_deal_20 rfl rfl ?_
      refine r_if_ne 28 24 dX6_deal_21 (by decide) rfl (fun g21 => ?_) (fun g21 => ?_)
      · have g21 : ¬ k = 0 := fun z => g21 (by rw [z]; rfl)
        refine r_iload_n 29 dX6_deal_28 rfl rfl ?_
        exact k_deal (by omega) hR hS g6 hi hj wq hk (by first | exact hi | exact hj) (by first | rw [if_pos g21] | rw [if_neg g21])
      · have g21 : k = 0 := (nI_inj (b := 0) (by omega) (by decide)).mp g21
        refine r_iload_n 25 dX6_deal_24 rfl rfl ?_
        refine r_goto 29 dX6_deal_25 (by decide) ?_
        exact k_deal (by omega) hR hS g6 hi hj wq hk (by first | exact hi | exact hj) (by first | rw [if_pos g21] | rw [if_neg g21])
    · have wq : ¬ wi q 0 2 = true := fun z => g15 (wi_iff.mp z)
      refine r_iconst 19 (v := -1) dX6_deal_18 (by decide) rfl ?_
      exact r_iret .int dX6_deal_19 rfl (rfl) (by first | exact ⟨by rw [f_deal, if_neg (fun z => g6 z.1)], by rw [f_deal, if_neg (fun z => g6 z.1)]; exact hR, fun _ _ => rfl⟩ | exact ⟨by rw [f_deal, if_neg (fun z => wq z.2)], by rw [f_deal, if_neg (fun z => wq z.2)]; exact hR, fun _ _ => rfl⟩)

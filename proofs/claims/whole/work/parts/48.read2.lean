/-! ===== the class: read, its loops ===== -/
theorem rd_ix {o : Option (Nat × Nat)} {l i : Nat} {f : Int32} (hi : i < 20) (hz : ∀ m z, o = some (m, z) → z ≤ 40) (h : sP o l (f.toInt + 2 * i) = 0) : f + 2 * nI i = nI (f.toInt + 2 * i).toNat ∧ (f.toInt + 2 * i).toNat + 1 < 40 ∧ ∃ z, o = some (l, z) := by
  obtain ⟨z, h1, h2, h3⟩ := sP_0 h
  have hz := hz l z h1
  rcases rd_ti (f := f) hi with e | ⟨e1, e2⟩
  · refine ⟨?_, by omega, z, h1⟩
    rw [ti_eq, ti_n (by omega), e]
    omega
  · exfalso
    omega
set_option maxRecDepth 20000 in
set_option maxHeartbeats 4000000 in
theorem l_read1 {d Sx j l N : Nat} {f : Int32} {w : zW} {s : sT} {T : zX → Prop} (hd : 6 ≤ d) (hSx : z_isH Sx) (hBe : Sx = 42 + 2 * j) (hj : j < 4) (hl : l < 3) (hN : N ≤ 20) (hR : RC w s) (hS : sV s) (hx : ∀ wh e x, rdW s j l f.toInt N 0 = (wh, e, true) → wh ≤ N → e < 4 → (∀ q : Nat, q < wh → sP (s_sh s j) l (f.toInt + 2 * q) = 0 ∧ cm s j (f.toInt + 2 * q) = true) → WP mX6_read d T 105 [some (.ref 0), some (.int (nI j)), some (.int (nI l)), some (.int f), some (.int (nI N)), some (.ref Sx), some (.int (nI (e))), some (.int (nI (wh))), some (.int (x))] [] w) (hb : ∀ i, i < N → rdW s j l f.toInt N 0 = (i, 0, false) → WP mX6_read d T 90 [some (.ref 0), some (.int (nI j)), some (.int (nI l)), some (.int f), some (.int (nI N)), some (.ref Sx), some (.int (nI (0))), some (.int (nI (i))), some (.int (nI i))] [] w) : ∀ m i, i + m = N → rdW s j l f.toInt m i = rdW s j l f.toInt N 0 → (∀ q : Nat, q < i → sP (s_sh s j) l (f.toInt + 2 * q) = 0 ∧ cm s j (f.toInt + 2 * q) = true) → WP mX6_read d T 44 [some (.ref 0), some (.int (nI j)), some (.int (nI l)), some (.int f), some (.int (nI N)), some (.ref Sx), some (.int (nI (0))), some (.int (nI (i))), some (.int (nI i))] [] w := by
  have hn := hS.1.n
  have ho := hR.so hS hj
  rw [← hBe] at ho
  have hz : ∀ m z, s_sh s j = some (m, z) → z ≤ 40 := fun m z h => (hS.2.2.2.2.1 j hj m z h).2
  intro m
  induction m with
  | zero =>
    intro i hi hr hg
    have e : i = N := by omega
    subst e
    have hx0 := hx i 0 (nI i) hr.symm (Nat.le_refl _) (by decide) hg
    refine r_iload 46 dX6_read_44 rfl rfl ?_
    refine r_iload 48 dX6_read_46 rfl rfl ?_
    refine r_icmp_ge 105 51 dX6_read_48 (by decide) rfl (fun _ => ?_) (fun z => absurd (Int32.le_refl _) z)
    exact hx0
  | succ m ih =>
    intro i hi hr hg
    have i20 : i < 20 := by omega
    rw [rdW] at hr
    refine r_iload 46 dX6_read_44 rfl rfl ?_
    refine r_iload 48 dX6_read_46 rfl rfl ?_
    refine r_icmp_ge 105 51 dX6_read_48 (by decide) rfl (fun z => absurd z (fun z => absurd ((nI_le' (by omega) (by omega)).mp z) (by omega))) (fun _ => ?_)
    refine r_iload 53 dX6_read_51 rfl rfl ?_
    refine r_if_ne 105 56 dX6_read_53 (by decide) rfl (fun z => absurd (by decide) z) (fun _ => ?_)
    refine r_aload 58 dX6_read_56 rfl rfl ?_
    refine r_iload_n 59 dX6_read_58 rfl rfl ?_
    refine r_iload_n 60 dX6_read_59 rfl rfl ?_
    refine r_iconst 61 (v := 2) dX6_read_60 (by decide) rfl ?_
    refine r_iload 63 dX6_read_61 rfl rfl ?_
    refine r_imul 64 dX6_read_63 rfl ?_
    refine r_iadd 65 dX6_read_64 rfl ?_
    refine r_callV (y2 := mX3_faultOfPair) (as := [_, _]) 68 dX6_read_65 ml_X6_263 mv_X3_faultOfPair (c_faultOfPair (d := d - 1) (by omega) hSx hl ho) (by omega) (z_H0 hSx) ⟨_, rfl, rfl⟩ rfl (Nat.le_of_ble_eq_true rfl) rfl (kk_i ?_)
    rintro _ _ ⟨rfl, rfl⟩
    refine r_eq (congrArg nI (fP_eq i20 hz)) ?_
    refine r_istore 70 (L' := [_, _, _, _, _, _, _, _, _]) dX6_read_68 (by decide) rfl rfl rfl ?_
    refine r_iload 72 dX6_read_70 rfl rfl ?_
    refine r_if_ne 99 75 dX6_read_72 (by decide) rfl (fun g72 => ?_) (fun g72 => ?_)
    · have g72 : ¬ sP (s_sh s j) l (f.toInt + 2 * i) = 0 := fun z => g72 (by rw [z]; rfl)
      rw [if_neg g72] at hr
      have hlt := sP_lt (o := s_sh s j) (l := l) (p := f.toInt + 2 * i)
      have hx0 := hx i _ (nI (i + 1)) hr.symm (by omega) hlt hg
      refine r_iinc 102 (L' := [_, _, _, _, _, _, _, _, _]) (v := nI (i + 1)) dX6_read_99 rfl (nI_1 i) (by decide) rfl rfl rfl ?_
      refine r_goto 44 dX6_read_102 (by decide) ?_
      first | exact ih (i + 1) (by omega) hr (fun q hq => by by_cases e : q = i; (rw [e]; exact ⟨g72, gc⟩); (exact hg q (by omega))) | exact r_iload 46 dX6_read_44 rfl rfl (r_iload 48 dX6_read_46 rfl rfl (r_icmp_ge 105 51 dX6_read_48 (by decide) rfl (fun _ => hx0) (fun _ => r_iload 53 dX6_read_51 rfl rfl (r_if_ne 105 56 dX6_read_53 (by decide) rfl (fun _ => hx0) (fun z => absurd ((nI_inj (b := 0) (by omega) (by decide)).mp z) g72)))))
    · have g72 : sP (s_sh s j) l (f.toInt + 2 * i) = 0 := (nI_inj (b := 0) (by have := sP_lt (o := s_sh s j) (l := l) (p := f.toInt + 2 * i); omega) (by decide)).mp g72
      rw [if_pos g72] at hr
      obtain ⟨x1, x2, z, x3⟩ := rd_ix i20 hz g72
      have c1 : w (Sx + 1) (f.toInt + 2 * i).toNat = s_c s j (f.toInt + 2 * i).toNat := by
        rw [show Sx + 1 = 43 + 2 * j by omega]
        exact hR.cell hj x3 (by omega)
      have c2 : w (Sx + 1) ((f.toInt + 2 * i).toNat + 1) = s_c s j ((f.toInt + 2 * i).toNat + 1) := by
        rw [show Sx + 1 = 43 + 2 * j by omega]
        exact hR.cell hj x3 x2
      rw [g72]
      refine r_aload_n 76 dX6_read_75 rfl rfl ?_
      refine r_aload 78 dX6_read_76 rfl rfl ?_
      refine r_iload_n 79 dX6_read_78 rfl rfl ?_
      refine r_iconst 80 (v := 2) dX6_read_79 (by decide) rfl ?_
      refine r_iload 82 dX6_read_80 rfl rfl ?_
      refine r_imul 83 dX6_read_82 rfl ?_
      refine r_iadd 84 dX6_read_83 rfl ?_
      refine r_eq x1 ?_
      refine r_callV (y2 := mX6_isComing) (as := [_, _]) 87 dX6_read_84 ml_X6_266 mv_X6_isComing (c_isComing (d := d - 1) (by omega) hSx hn hR.1.2.2.1 x2 c1 c2) (by omega) sh_0 ⟨_, rfl, rfl⟩ rfl (Nat.le_of_ble_eq_true rfl) rfl (kk_i ?_)
      rintro _ _ ⟨rfl, rfl⟩
      refine rb_ne 96 90 dX6_read_87 (by decide) rfl (fun g87 => ?_) (fun g87 => ?_)
      · have gc : cm s j (f.toInt + 2 * i) = true := by rw [cm, Bool.and_eq_true]; exact g87
        rw [if_pos gc] at hr
        refine r_iinc 99 (L' := [_, _, _, _, _, _, _, _, _]) (v := nI (i + 1)) dX6_read_96 rfl (nI_1 i) (by decide) rfl rfl rfl ?_
        refine r_iinc 102 (L' := [_, _, _, _, _, _, _, _, _]) (v := nI (i + 1)) dX6_read_99 rfl (nI_1 i) (by decide) rfl rfl rfl ?_
        refine r_goto 44 dX6_read_102 (by decide) ?_
        first | exact ih (i + 1) (by omega) hr (fun q hq => by by_cases e : q = i; (rw [e]; exact ⟨g72, gc⟩); (exact hg q (by omega))) | exact r_iload 46 dX6_read_44 rfl rfl (r_iload 48 dX6_read_46 rfl rfl (r_icmp_ge 105 51 dX6_read_48 (by decide) rfl (fun _ => hx0) (fun _ => r_iload 53 dX6_read_51 rfl rfl (r_if_ne 105 56 dX6_read_53 (by decide) rfl (fun _ => hx0) (fun z => absurd ((nI_inj (b := 0) (by omega) (by decide)).mp z) g72)))))
      · have gc : ¬ cm s j (f.toInt + 2 * i) = true := fun z => g87 (by rw [cm, Bool.and_eq_true] at z; exact z)
        rw [if_neg gc] at hr
        exact hb i (by omega) hr.symm
theorem rdK_V {s : sT} {k : Nat} {f : Int} (hS : sV s) : ∀ i : Nat, (∀ q : Nat, q < i → cm s k (f + 2 * q) = true) → sV (u_lk s (s_n s) (rdK s k f i)) := by
  intro i
  induction i with
  | zero => intro _; exact hS
  | succ i ih =>
    intro h
    have h1 := ih (fun q hq => h q (by omega))
    have h2 := h i (Nat.lt_succ_self i)
    rw [cm, Bool.and_eq_true] at h2
    have h3 := iB_iff.mp h2.1
    have h4 := wi_iff.mp h2.2
    exact h1.arr (b := tN (s_c s k (f + 2 * i).toNat)) (v := tN (s_c s k ((f + 2 * i).toNat + 1))) (show tN _ < s_n s by unfold tN; omega) (by unfold tN; omega)
theorem f_alt2 {s : sT} {K : Nat → Nat} {a b : Int32} (ha : iB (s_n s) a = true) (hb : wi b 0 99 = true) : (f_alter (u_lk s (s_n s) K) a 2 b).2 = u_lk s (s_n s) (un K (6 + 6 * tN a + 2) (tN b)) := by
  rw [f_alter, if_pos ⟨ha, by decide +kernel, hb⟩]
  rfl
set_option maxRecDepth 20000 in
set_option maxHeartbeats 4000000 in
theorem l_read2 {d Sx j l N wh e : Nat} {f : Int32} {w0 : zW} {s : sT} {T : zX → Prop} (hd : 7 ≤ d) (hSx : z_isH Sx) (hBe : Sx = 42 + 2 * j) (hj : j < 4) (hwh : wh ≤ 20) (hS : sV s) (hg : (∀ q : Nat, q < wh → sP (s_sh s j) l (f.toInt + 2 * q) = 0 ∧ cm s j (f.toInt + 2 * q) = true)) (hx : ∀ w, RC w (u_lk s (s_n s) (rdK s j f.toInt wh)) → (∀ a, 49 < a → w a = w0 a) → WP mX6_read d T 151 [some (.ref 0), some (.int (nI j)), some (.int (nI l)), some (.int f), some (.int (nI N)), some (.ref Sx), some (.int (nI (e))), some (.int (nI (wh))), some (.int (nI wh))] [] w) : ∀ m i w, i + m = wh → RC w (u_lk s (s_n s) (rdK s j f.toInt i)) → (∀ a, 49 < a → w a = w0 a) → WP mX6_read d T 108 [some (.ref 0), some (.int (nI j)), some (.int (nI l)), some (.int f), some (.int (nI N)), some (.ref Sx), some (.int (nI (e))), some (.int (nI (wh))), some (.int (nI i))] [] w := by
  have hz : ∀ m z, s_sh s j = some (m, z) → z ≤ 40 := fun m z h => (hS.2.2.2.2.1 j hj m z h).2
  intro m
  induction m with
  | zero =>
    intro i w hi hR hF
    have e : i = wh := by omega
    subst e
    refine r_iload 110 dX6_read_108 rfl rfl ?_
    refine r_iload 112 dX6_read_110 rfl rfl ?_
    refine r_icmp_ge 151 115 dX6_read_112 (by decide) rfl (fun _ => ?_) (fun z => absurd (Int32.le_refl _) z)
    exact hx w hR hF
  | succ m ih =>
    intro i w hi hR hF
    obtain ⟨g1, g2⟩ := hg i (by omega)
    obtain ⟨x1, x2, z, x3⟩ := rd_ix (i := i) (by omega) hz g1
    have hSi := rdK_V (k := j) (f := f.toInt) hS i (fun q hq => (hg q (by omega)).2)
    rw [cm, Bool.and_eq_true] at g2
    have c1 : w (Sx + 1) (f.toInt + 2 * i).toNat = s_c s j (f.toInt + 2 * i).toNat := by
      rw [show Sx + 1 = 43 + 2 * j by omega]
      exact hR.cell hj x3 (by omega)
    have c2 : w (Sx + 1) ((f.toInt + 2 * i).toNat + 1) = s_c s j ((f.toInt + 2 * i).toNat + 1) := by
      rw [show Sx + 1 = 43 + 2 * j by omega]
      exact hR.cell hj x3 x2
    refine r_iload 110 dX6_read_108 rfl rfl ?_
    refine r_iload 112 dX6_read_110 rfl rfl ?_
    refine r_icmp_ge 151 115 dX6_read_112 (by decide) rfl (fun z => absurd z (fun z => absurd ((nI_le' (by omega) (by omega)).mp z) (by omega))) (fun _ => ?_)
    refine r_aload_n 116 dX6_read_115 rfl rfl ?_
    refine r_aload 118 dX6_read_116 rfl rfl ?_
    refine r_iload_n 119 dX6_read_118 rfl rfl ?_
    refine r_iconst 120 (v := 2) dX6_read_119 (by decide) rfl ?_
    refine r_iload 122 dX6_read_120 rfl rfl ?_
    refine r_imul 123 dX6_read_122 rfl ?_
    refine r_iadd 124 dX6_read_123 rfl ?_
    refine r_eq x1 ?_
    refine r_callV (y2 := mX3_cell) (as := [_]) 127 dX6_read_124 ml_X6_270 mv_X3_cell (c_cell (d := d - 1) hSx (by omega)) (by omega) (z_H0 hSx) ⟨_, rfl, rfl⟩ rfl (Nat.le_of_ble_eq_true rfl) rfl (kk_i ?_)
    rintro _ _ ⟨rfl, rfl⟩
    refine r_eq c1 ?_
    refine r_iconst 128 (v := 2) dX6_read_127 (by decide) rfl ?_
    refine r_aload 130 dX6_read_128 rfl rfl ?_
    refine r_iload_n 131 dX6_read_130 rfl rfl ?_
    refine r_iconst 132 (v := 2) dX6_read_131 (by decide) rfl ?_
    refine r_iload 134 dX6_read_132 rfl rfl ?_
    refine r_imul 135 dX6_read_134 rfl ?_
    refine r_iadd 136 dX6_read_135 rfl ?_
    refine r_eq x1 ?_
    refine r_iconst 137 (v := 1) dX6_read_136 (by decide) rfl ?_
    refine r_iadd 138 dX6_read_137 rfl ?_
    refine r_eq (nI_1 _) ?_
    refine r_callV (y2 := mX3_cell) (as := [_]) 141 dX6_read_138 ml_X6_270 mv_X3_cell (c_cell (d := d - 1) hSx x2) (by omega) (z_H0 hSx) ⟨_, rfl, rfl⟩ rfl (Nat.le_of_ble_eq_true rfl) rfl (kk_i ?_)
    rintro _ _ ⟨rfl, rfl⟩
    refine r_eq c2 ?_
    refine r_callV (y2 := mX6_alter) (as := [_, _, _]) 144 dX6_read_141 ml_X6_273 mv_X6_alter (C_alter (d := d - 1) (by omega) hR hSi) (by omega) sh_0 ⟨_, rfl, rfl⟩ rfl (Nat.le_of_ble_eq_true rfl) rfl (kk_i ?_)
    rintro _ w1 ⟨-, hR1, hF1⟩
    rw [f_alt2 g2.1 g2.2] at hR1
    refine r_pop 145 dX6_read_144 rfl rfl ?_
    refine r_iinc 148 (L' := [_, _, _, _, _, _, _, _, _]) (v := nI (i + 1)) dX6_read_145 rfl (nI_1 i) (by decide) rfl rfl rfl ?_
    refine r_goto 108 dX6_read_148 (by decide) ?_
    exact ih (i + 1) w1 (by omega) hR1 (fun a ha => (hF1 a ha).trans (hF a ha))
theorem RC.tn {w : zW} {s : sT} {e : Nat} (h : RC w s) : RC (z_up w 0 11 (nI e)) (u_tn s e) := by
  obtain ⟨h1, h2, h3, h4, h5, h6⟩ := h
  have hf : ∀ a, a ≠ 0 → z_up w 0 11 (nI e) a = w a := fun a ha => z_up_o ha
  refine ⟨h1.fr (fun a _ _ => hf a (by omega)), h2.congr (z_up_i (by decide)) (fun a _ _ => hf a (by omega)), ?_, ?_, h5.congr (fun a _ _ => hf a (by omega)), ?_⟩
  · unfold tpC at h3 ⊢; rw [hf 27 (by omega), hf 28 (by omega)]; exact h3
  · unfold ftC at h4 ⊢; rw [hf 29 (by omega)]; exact h4
  · unfold tnC; rw [z_up_s]
set_option maxRecDepth 20000 in
set_option maxHeartbeats 4000000 in
theorem C_read {d : Nat} {w : zW} {s : sT} {k l f n : Int32} (hd : 7 ≤ d) (hR : RC w s) (hS : sV s) : AC mX6_read d [.int k, .int l, .int f, .int n] w (f_read s k l f n) := by
  have hn := hS.1.n
  refine CT.of [some (.ref 0), some (.int k), some (.int l), some (.int f), some (.int n), none, none, none, none] rfl (Nat.le_of_ble_eq_true rfl) rfl ?_
  refine r_iload_n 1 dX6_read_0 rfl rfl ?_
  refine r_callS (y2 := mX6_isSheet) (as := [_]) 4 dX6_read_1 ml_X6_247 ms_X6_isSheet (c_isSheet (d := d - 1) (by omega)) (by omega) rfl (Nat.le_of_ble_eq_true rfl) rfl (kk_i ?_)
  rintro _ _ ⟨rfl, rfl⟩
  refine rb_eq 25 7 dX6_read_4 (by decide) rfl (fun g4 => ?_) (fun g4 => ?_)
  · refine r_iconst 26 (v := -1) dX6_read_25 (by decide) rfl ?_
    exact r_iret .int dX6_read_26 rfl (rfl) (by first | exact ⟨by rw [f_read, if_neg (fun z => g4 z.1)], by rw [f_read, if_neg (fun z => g4 z.1)]; exact hR, fun _ _ => rfl⟩ | exact ⟨by rw [f_read, if_neg (fun z => g11 z.2.1)], by rw [f_read, if_neg (fun z => g11 z.2.1)]; exact hR, fun _ _ => rfl⟩ | exact ⟨by rw [f_read, if_neg (fun z => g22 z.2.2)], by rw [f_read, if_neg (fun z => g22 z.2.2)]; exact hR, fun _ _ => rfl⟩)
  · obtain ⟨j, hj, rfl⟩ := wi_of (hi := 3) g4
    have hjs : tN (nI j) = j := tN_n (by omega)
    obtain ⟨hBB, hBi⟩ := b_sh4 j (by omega)
    obtain ⟨Sx, hBe⟩ : ∃ S, S = 42 + 2 * j := ⟨_, rfl⟩
    rw [← hBe] at hBB hBi
    have hSx := hBB
    refine r_iload_n 8 dX6_read_7 rfl rfl ?_
    refine r_callS (y2 := mX3_isLane) (as := [_]) 11 dX6_read_8 ml_X6_250 ms_X3_isLane (c_isLane (d := d - 1) (by omega)) (by omega) rfl (Nat.le_of_ble_eq_true rfl) rfl (kk_i ?_)
    rintro _ _ ⟨rfl, rfl⟩
    refine rb_eq 25 14 dX6_read_11 (by decide) rfl (fun g11 => ?_) (fun g11 => ?_)
    · refine r_iconst 26 (v := -1) dX6_read_25 (by decide) rfl ?_
      exact r_iret .int dX6_read_26 rfl (rfl) (by first | exact ⟨by rw [f_read, if_neg (fun z => g4 z.1)], by rw [f_read, if_neg (fun z => g4 z.1)]; exact hR, fun _ _ => rfl⟩ | exact ⟨by rw [f_read, if_neg (fun z => g11 z.2.1)], by rw [f_read, if_neg (fun z => g11 z.2.1)]; exact hR, fun _ _ => rfl⟩ | exact ⟨by rw [f_read, if_neg (fun z => g22 z.2.2)], by rw [f_read, if_neg (fun z => g22 z.2.2)]; exact hR, fun _ _ => rfl⟩)
    · obtain ⟨l, hl, rfl⟩ := wi_of (hi := 2) g11
      have hls : tN (nI l) = l := tN_n (by omega)
      refine r_iload 16 dX6_read_14 rfl rfl ?_
      refine r_iconst 17 (v := 0) dX6_read_16 (by decide) rfl ?_
      refine r_bipush 19 (v := 20) dX6_read_17 (by decide) rfl ?_
      refine r_callS (y2 := mX6_within) (as := [_, _, _]) 22 dX6_read_19 ml_X6_67 ms_X6_within (c_within (d := d - 1) _ _ _) (by omega) rfl (Nat.le_of_ble_eq_true rfl) rfl (kk_i ?_)
      rintro _ _ ⟨rfl, rfl⟩
      refine rb_ne 27 25 dX6_read_22 (by decide) rfl (fun g22 => ?_) (fun g22 => ?_)
      · have g22 : wi n 0 20 = true := wi_iff.mpr g22
        obtain ⟨N, hN, rfl⟩ := wi_of (hi := 20) g22
        have hNs : tN (nI N) = N := tN_n (by omega)
        refine r_aload_n 28 dX6_read_27 rfl rfl ?_
        refine r_getr 31 dX6_read_28 fz_X6_62 sh_0 rfl rfl ?_
        refine r_iload_n 32 dX6_read_31 rfl rfl ?_
        refine rj_aald (r := Sx) 33 (j) dX6_read_32 sh_41 (rfl) (by omega) (by decide) (hBi) rfl ?_
        refine r_astore 35 (L' := [_, _, _, _, _, _, _, _, _]) dX6_read_33 (by decide) rfl rfl rfl ?_
        refine r_iconst 36 (v := 0) dX6_read_35 (by decide) rfl ?_
        refine r_istore 38 (L' := [_, _, _, _, _, _, _, _, _]) dX6_read_36 (by decide) rfl rfl rfl ?_
        refine r_iconst 39 (v := 0) dX6_read_38 (by decide) rfl ?_
        refine r_istore 41 (L' := [_, _, _, _, _, _, _, _, _]) dX6_read_39 (by decide) rfl rfl rfl ?_
        refine r_iconst 42 (v := 0) dX6_read_41 (by decide) rfl ?_
        refine r_istore 44 (L' := [_, _, _, _, _, _, _, _, _]) dX6_read_42 (by decide) rfl rfl rfl ?_
        refine l_read1 (l := l) (N := N) (by omega) hSx hBe (by omega) (by omega) (by omega) hR hS (fun wh e x hr hwh he hgd => ?_) (fun i hi hr => ?_) N 0 (Nat.zero_add _) rfl (fun q hq => absurd hq (Nat.not_lt_zero q))
        · refine r_iconst 106 (v := 0) dX6_read_105 (by decide) rfl ?_
          refine r_istore 108 (L' := [_, _, _, _, _, _, _, _, _]) dX6_read_106 (by decide) rfl rfl rfl ?_
          refine l_read2 (w0 := w) hd hSx hBe (by omega) (by omega) hS hgd (fun w2 hR2 hF2 => ?_) wh 0 w (Nat.zero_add _) hR (fun _ _ => rfl)
          refine r_aload_n 152 dX6_read_151 rfl rfl ?_
          refine r_iload 154 dX6_read_152 rfl rfl ?_
          refine r_puti 157 dX6_read_154 fz_X6_277 fw_6_11 sh_0 rfl rfl ?_
          refine r_iload 159 dX6_read_157 rfl rfl ?_
          exact r_iret .int dX6_read_159 rfl (rfl) (⟨by rw [f_read, if_pos ⟨g4, g11, g22⟩, hjs, hls, hNs, hr], by rw [f_read, if_pos ⟨g4, g11, g22⟩, hjs, hls, hNs, hr]; exact hR2.tn, fun a ha => by rw [z_up_o (by omega)]; exact hF2 a ha⟩)
        · refine r_bipush 92 (v := -20) dX6_read_90 (by decide) rfl ?_
          refine r_iload 94 dX6_read_92 rfl rfl ?_
          refine r_isub 95 dX6_read_94 rfl ?_
          exact r_iret .int dX6_read_95 rfl (rfl) (⟨by rw [f_read, if_pos ⟨g4, g11, g22⟩, hjs, hls, hNs, hr], by rw [f_read, if_pos ⟨g4, g11, g22⟩, hjs, hls, hNs, hr]; exact hR, fun _ _ => rfl⟩)
      · have g22 : ¬ wi n 0 20 = true := fun z => g22 (wi_iff.mp z)
        refine r_iconst 26 (v := -1) dX6_read_25 (by decide) rfl ?_
        exact r_iret .int dX6_read_26 rfl (rfl) (by first | exact ⟨by rw [f_read, if_neg (fun z => g4 z.1)], by rw [f_read, if_neg (fun z => g4 z.1)]; exact hR, fun _ _ => rfl⟩ | exact ⟨by rw [f_read, if_neg (fun z => g11 z.2.1)], by rw [f_read, if_neg (fun z => g11 z.2.1)]; exact hR, fun _ _ => rfl⟩ | exact ⟨by rw [f_read, if_neg (fun z => g22 z.2.2)], by rw [f_read, if_neg (fun z => g22 z.2.2)]; exact hR, fun _ _ => rfl⟩)

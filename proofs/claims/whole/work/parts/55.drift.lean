/-! ===== the class: drift ===== -/
theorem and15 (y : Int32) : ∃ m, m ≤ 32767 ∧ (y &&& 32767) = nI m := by
  refine ⟨(y &&& 32767).toBitVec.toNat, ?_, ?_⟩
  · rw [Int32.toBitVec_and, BitVec.toNat_and]
    exact Nat.and_le_right
  · apply Int32.toBitVec_inj.mp
    show _ = BitVec.ofNat 32 _
    rw [BitVec.ofNat_toNat, BitVec.setWidth_eq]
/-- a number out of a seed -/
def rs (x : Int32) : Int32 := x * 1103515245 + 12345
def rv (x : Int32) : Int32 := ((x >>> ((16 : Int32) &&& 31)) &&& 32767) - ((x >>> ((16 : Int32) &&& 31)) &&& 32767) / 40 * 40
theorem nI_div {m k : Nat} (hm : m < 2147483648) (hk : k < 2147483648) : nI m / nI k = nI (m / k) := by
  have h1 : m / k ≤ m := Nat.div_le_self m k
  rw [ti_eq, Int32.toInt_div, ti_n hm, ti_n hk, ti_n (by omega)]
  rw [Int.tdiv_eq_ediv_of_nonneg (by omega), ← Int.natCast_ediv]
  have key : ∀ q : Nat, q ≤ m → (q : Int).bmod (2 ^ 32) = q := fun q hq => Int.bmod_eq_of_le (by omega) (by omega)
  exact key _ h1
theorem nI_rem {m k : Nat} (hm : m < 2147483648) (hk : k < 2147483648) : nI m - nI m / nI k * nI k = nI (m % k) := by
  rw [nI_div hm hk, nI_mul, nI_sub (by rw [Nat.mul_comm]; exact Nat.mul_div_le m k)]
  congr 1
  have := Nat.div_add_mod m k
  rw [Nat.mul_comm] at this
  omega
theorem rv_n (x : Int32) : ∃ v, v < 40 ∧ rv x = nI v := by
  obtain ⟨m, hm, e⟩ := and15 (x >>> ((16 : Int32) &&& 31))
  refine ⟨m % 40, Nat.mod_lt _ (by decide), ?_⟩
  rw [rv, e]
  exact nI_rem (k := 40) (by omega) (by decide)
theorem rv_t (x : Int32) : rv x = nI (tN (rv x)) ∧ tN (rv x) < 40 := by
  obtain ⟨v, h1, h2⟩ := rv_n x
  rw [h2, tN_n (by omega)]
  exact ⟨rfl, h1⟩
def drB : Nat → Int32 × (Nat → Nat) → Int32 × (Nat → Nat)
  | 0, p => p
  | b + 1, p => (rs (drB b p).1, un (drB b p).2 (6 + 6 * b + 2) (tN (rv (rs (drB b p).1))))
def drD (n : Nat) (K : Nat → Nat) (x : Int32) : Nat → Int32 × (Nat → Nat)
  | 0 => (x, K)
  | i + 1 => drB n (drD n K x i)
def drS (n : Nat) (K : Nat → Nat) (x : Int32) (q : Nat) : Nat → Nat
  | 0 => 0
  | i + 1 => drS n K x q i + meas n K (dD n (drD n K x (i + 1)).2) q
def f_drift (s : sT) (x m q : Int32) : Int32 × sT := (if wi m 1 20 = true ∧ wi q 0 1 = true then nI (drS (s_n s) (s_K s) x (if q = 0 then 0 else 2) (tN m)) else -1, s)
theorem drB_V {A n : Nat} {p : Int32 × (Nat → Nat)} (hA : 40 ≤ A) (h : kV A n p.2) : ∀ b, kV A n (drB b p).2 := by
  intro b
  induction b with
  | zero => exact h
  | succ b ih =>
    have := (rv_t (rs (drB b p).1)).2
    exact ih.at (fun h => by omega) (fun h => by omega) (fun h => by omega) (fun h => by omega) (fun e he => by omega)
theorem drD_V {A n : Nat} {K : Nat → Nat} {x : Int32} (hA : 40 ≤ A) (h : kV A n K) : ∀ i, kV A n (drD n K x i).2 := by
  intro i
  induction i with
  | zero => exact h
  | succ i ih => exact drB_V hA ih n
theorem drB_wo {p : Int32 × (Nat → Nat)} {c : Nat} : ∀ b, k_wo (drB b p).2 c = k_wo p.2 c := by
  intro b
  induction b with
  | zero => rfl
  | succ b ih => exact (un_n (by omega)).trans ih
theorem drD_wo {n c : Nat} {K : Nat → Nat} {x : Int32} : ∀ i, k_wo (drD n K x i).2 c = k_wo K c := by
  intro i
  induction i with
  | zero => rfl
  | succ i ih => exact (drB_wo n).trans ih
theorem meas_wo {n q : Nat} {K K' : Nat → Nat} {D : dT} (h : ∀ b, b < n → k_wo K' b = k_wo K b) : meas n K' D q = meas n K D q := by
  unfold meas
  rw [sm_congr (g := fun b => d_s D b * k_wo K b) (fun c hc => by rw [h c hc])]
theorem drS_le {n q : Nat} {K : Nat → Nat} {x : Int32} (h : kV 99 n K) : ∀ i, drS n K x q i ≤ i * 100000 := by
  intro i
  induction i with
  | zero => exact Nat.zero_le _
  | succ i ih =>
    have hV := drD_V (x := x) (by decide) h (i + 1)
    have h1 := meas_lt (q := q) hV (dI_D hV (by decide))
    rw [meas_wo (K := K) (fun b _ => drD_wo (i + 1))] at h1
    rw [drS]
    omega
set_option maxRecDepth 20000 in
set_option maxHeartbeats 4000000 in
theorem l_drB {d N q i : Nat} {p : Int32 × (Nat → Nat)} {x0 sm0 : Int32} {w0 : zW} {n : Nat} {T : zX → Prop} (hd : 6 ≤ d) (hn : n ≤ 6) (hx : ∀ w, (∀ a, (a < 6 ∨ 10 < a) → (a < 30 ∨ 35 < a) → w a = w0 a) → lkF w 6 n (drB n p).2 → WP mX6_drift d T 101 [some (.ref 0), some (.int x0), some (.int (nI N)), some (.int (nI q)), some (.int (drB n p).1), some (.int sm0), some (.int (nI i)), some (.int (nI n))] [] w) : ∀ k b (w : zW), b + k = n → (∀ a, (a < 6 ∨ 10 < a) → (a < 30 ∨ 35 < a) → w a = w0 a) → lkF w 6 n (drB b p).2 → WP mX6_drift d T 50 [some (.ref 0), some (.int x0), some (.int (nI N)), some (.int (nI q)), some (.int (drB b p).1), some (.int sm0), some (.int (nI i)), some (.int (nI b))] [] w := by
  intro k
  induction k with
  | zero =>
    intro b w hi hF hL
    have e : b = n := by omega
    subst e
    refine r_iload 52 dX6_drift_50 rfl rfl ?_
    refine r_aload_n 53 dX6_drift_52 rfl rfl ?_
    refine r_getr 56 dX6_drift_53 fz_X6_16 sh_0 rfl rfl ?_
    refine r_geti 59 dX6_drift_56 fz_X6_96 sh_6 rfl rfl ?_
    refine r_eq hL.2.2.1 ?_
    refine r_icmp_ge 101 62 dX6_drift_59 (by decide) rfl (fun _ => ?_) (fun z => absurd (Int32.le_refl _) z)
    exact hx w hF hL
  | succ k ih =>
    intro b w hi hF hL
    have hv := rv_t (rs (drB b p).1)
    have hL1 := hL.markB hn (b := b) (q := 2) (v := tN (rv (rs (drB b p).1))) (by omega) (by decide)
    refine r_iload 52 dX6_drift_50 rfl rfl ?_
    refine r_aload_n 53 dX6_drift_52 rfl rfl ?_
    refine r_getr 56 dX6_drift_53 fz_X6_16 sh_0 rfl rfl ?_
    refine r_geti 59 dX6_drift_56 fz_X6_96 sh_6 rfl rfl ?_
    refine r_eq hL.2.2.1 ?_
    refine r_icmp_ge 101 62 dX6_drift_59 (by decide) rfl (fun z => absurd z (fun z => absurd ((nI_le' (by omega) (by omega)).mp z) (by omega))) (fun _ => ?_)
    refine r_iload 64 dX6_drift_62 rfl rfl ?_
    refine r_ldc 66 dX6_drift_64 kc_X6_243 rfl ?_
    refine r_imul 67 dX6_drift_66 rfl ?_
    refine r_sipush 70 (v := 12345) dX6_drift_67 (by decide) rfl ?_
    refine r_iadd 71 dX6_drift_70 rfl ?_
    refine r_istore 73 (L' := [_, _, _, _, _, _, _, _]) dX6_drift_71 (by decide) rfl rfl rfl ?_
    refine r_aload_n 74 dX6_drift_73 rfl rfl ?_
    refine r_getr 77 dX6_drift_74 fz_X6_16 sh_0 rfl rfl ?_
    refine r_iload 79 dX6_drift_77 rfl rfl ?_
    refine r_iconst 80 (v := 2) dX6_drift_79 (by decide) rfl ?_
    refine r_iload 82 dX6_drift_80 rfl rfl ?_
    refine r_bipush 84 (v := 16) dX6_drift_82 (by decide) rfl ?_
    refine r_ishr 85 dX6_drift_84 rfl ?_
    refine r_sipush 88 (v := 32767) dX6_drift_85 (by decide) rfl ?_
    refine r_iand 89 dX6_drift_88 rfl ?_
    refine r_bipush 91 (v := 40) dX6_drift_89 (by decide) rfl ?_
    refine r_irem 92 dX6_drift_91 (by decide) rfl ?_
    refine r_eq (z := nI (tN (rv (rs (drB b p).1)))) hv.1 ?_
    refine r_callV (y2 := mX1_setMark) (as := [_, _, _]) 95 dX6_drift_92 ml_X6_125 mv_X1_setMark (c_setMark (d := d - 1) (B := 6) (Or.inr (Or.inl rfl)) (i := b) (j := 2) (by omega) (by decide)) (by omega) sh_6 ⟨_, rfl, rfl⟩ rfl (Nat.le_of_ble_eq_true rfl) rfl (kk_v ?_)
    rintro w1 e1
    rw [e1] at hL1
    refine r_iinc 98 (L' := [_, _, _, _, _, _, _, _]) (v := nI (b + 1)) dX6_drift_95 rfl (nI_1 b) (by decide) rfl rfl rfl ?_
    refine r_goto 50 dX6_drift_98 (by decide) ?_
    exact ih (b + 1) w1 (by omega) (fun a h1 h2 => by rw [← e1, z_up_o (by omega)]; exact hF a h1 h2) hL1
set_option maxRecDepth 20000 in
set_option maxHeartbeats 4000000 in
theorem l_drift {d N q : Nat} {x0 : Int32} {w0 : zW} {s : sT} {T : zX → Prop} (hd : 6 ≤ d) (hS : sV s) (hq : q ≤ 1) (hN : N ≤ 20) (hx : ∀ w v, (∀ a, (a < 6 ∨ 10 < a) → (a < 30 ∨ 35 < a) → w a = w0 a) → WP mX6_drift d T 136 [some (.ref 0), some (.int x0), some (.int (nI N)), some (.int (nI q)), some (.int (drD (s_n s) (s_K s) x0 N).1), some (.int (nI (drS (s_n s) (s_K s) x0 (if q = 0 then 0 else 2) N))), some (.int (nI N)), v] [] w) : ∀ k i v (w : zW), i + k = N → (∀ a, (a < 6 ∨ 10 < a) → (a < 30 ∨ 35 < a) → w a = w0 a) → lkF w 6 (s_n s) (drD (s_n s) (s_K s) x0 i).2 → WP mX6_drift d T 41 [some (.ref 0), some (.int x0), some (.int (nI N)), some (.int (nI q)), some (.int (drD (s_n s) (s_K s) x0 i).1), some (.int (nI (drS (s_n s) (s_K s) x0 (if q = 0 then 0 else 2) i))), some (.int (nI i)), v] [] w := by
  have hn := hS.1.n
  intro k
  induction k with
  | zero =>
    intro i v w hi hF hL
    have e : i = N := by omega
    subst e
    refine r_iload 43 dX6_drift_41 rfl rfl ?_
    refine r_iload_n 44 dX6_drift_43 rfl rfl ?_
    refine r_icmp_ge 136 47 dX6_drift_44 (by decide) rfl (fun _ => ?_) (fun z => absurd (Int32.le_refl _) z)
    exact hx w v hF
  | succ k ih =>
    intro i v w hi hF hL
    have hV := drD_V (x := x0) (by decide) hS.1.1 (i + 1)
    have hI := dI_D hV (by decide)
    refine r_iload 43 dX6_drift_41 rfl rfl ?_
    refine r_iload_n 44 dX6_drift_43 rfl rfl ?_
    refine r_icmp_ge 136 47 dX6_drift_44 (by decide) rfl (fun z => absurd z (fun z => absurd ((nI_le' (by omega) (by omega)).mp z) (by omega))) (fun _ => ?_)
    refine r_iconst 48 (v := 0) dX6_drift_47 (by decide) rfl ?_
    refine r_istore 50 (L' := [_, _, _, _, _, _, _, _]) dX6_drift_48 (by decide) rfl rfl rfl ?_
    refine l_drB (p := drD (s_n s) (s_K s) x0 i) hd hn (fun w2 hF2 hL2 => ?_) (s_n s) 0 w (Nat.zero_add _) hF hL
    by_cases hq0 : q = 0
    · refine r_aload_n 102 dX6_drift_101 rfl rfl ?_
      refine r_aload_n 103 dX6_drift_102 rfl rfl ?_
      refine r_getr 106 dX6_drift_103 fz_X6_16 sh_0 rfl rfl ?_
      refine r_callV (y2 := mX6_runAsTold) (as := [_]) 109 dX6_drift_106 ml_X6_132 mv_X6_runAsTold (c_tr (d := d - 1) (by omega) (by decide) hV hL2) (by omega) sh_0 ⟨_, rfl, rfl⟩ rfl (Nat.le_of_ble_eq_true rfl) rfl (kk_v ?_)
      rintro w3 ⟨hC, hF3⟩
      have hF4 : (∀ a, (a < 6 ∨ 10 < a) → (a < 30 ∨ 35 < a) → w3 a = w0 a) := fun a h1 h2 => by rw [hF3 a h2]; exact hF2 a h1 h2
      have key := ih (i + 1) (some (.int (nI (s_n s)))) w3 (by omega) hF4 (hL2.fr (fun a h1 h2 => hF3 a (by omega)))
      have hm := dyC_meas hI hC 0 (by decide)
      rw [meas_wo (K := s_K s) (fun b _ => drD_wo (i + 1))] at hm
      rw [drS, if_pos hq0] at key
      refine r_iload 111 dX6_drift_109 rfl rfl ?_
      refine r_aload_n 112 dX6_drift_111 rfl rfl ?_
      refine r_getr 115 dX6_drift_112 fz_X6_42 sh_0 rfl rfl ?_
      refine r_iload_n 116 dX6_drift_115 rfl rfl ?_
      refine r_if_ne 123 119 dX6_drift_116 (by decide) rfl (fun z => absurd (by rw [hq0]; rfl) z) (fun _ => ?_)
      refine r_iconst 120 (v := 0) dX6_drift_119 (by decide) rfl ?_
      refine r_goto 124 dX6_drift_120 (by decide) ?_
      refine r_callV (y2 := mX0_measure) (as := [_]) 127 dX6_drift_124 ml_X6_157 mv_X0_measure (c_measure (d := d - 1) (k := 0) (by decide)) (by omega) sh_30 ⟨_, rfl, rfl⟩ rfl (Nat.le_of_ble_eq_true rfl) rfl (kk_i ?_)
      rintro _ _ ⟨rfl, rfl⟩
      refine r_eq hm ?_
      refine r_iadd 128 dX6_drift_127 rfl ?_
      rw [if_pos hq0]
      refine r_eq (nI_add _ _) ?_
      refine r_istore 130 (L' := [_, _, _, _, _, _, _, _]) dX6_drift_128 (by decide) rfl rfl rfl ?_
      refine r_iinc 133 (L' := [_, _, _, _, _, _, _, _]) (v := nI (i + 1)) dX6_drift_130 rfl (nI_1 i) (by decide) rfl rfl rfl ?_
      refine r_goto 41 dX6_drift_133 (by decide) ?_
      exact key
    · refine r_aload_n 102 dX6_drift_101 rfl rfl ?_
      refine r_aload_n 103 dX6_drift_102 rfl rfl ?_
      refine r_getr 106 dX6_drift_103 fz_X6_16 sh_0 rfl rfl ?_
      refine r_callV (y2 := mX6_runAsTold) (as := [_]) 109 dX6_drift_106 ml_X6_132 mv_X6_runAsTold (c_tr (d := d - 1) (by omega) (by decide) hV hL2) (by omega) sh_0 ⟨_, rfl, rfl⟩ rfl (Nat.le_of_ble_eq_true rfl) rfl (kk_v ?_)
      rintro w3 ⟨hC, hF3⟩
      have hF4 : (∀ a, (a < 6 ∨ 10 < a) → (a < 30 ∨ 35 < a) → w3 a = w0 a) := fun a h1 h2 => by rw [hF3 a h2]; exact hF2 a h1 h2
      have key := ih (i + 1) (some (.int (nI (s_n s)))) w3 (by omega) hF4 (hL2.fr (fun a h1 h2 => hF3 a (by omega)))
      have hm := dyC_meas hI hC 2 (by decide)
      rw [meas_wo (K := s_K s) (fun b _ => drD_wo (i + 1))] at hm
      rw [drS, if_neg hq0] at key
      refine r_iload 111 dX6_drift_109 rfl rfl ?_
      refine r_aload_n 112 dX6_drift_111 rfl rfl ?_
      refine r_getr 115 dX6_drift_112 fz_X6_42 sh_0 rfl rfl ?_
      refine r_iload_n 116 dX6_drift_115 rfl rfl ?_
      refine r_if_ne 123 119 dX6_drift_116 (by decide) rfl (fun _ => ?_) (fun z => absurd z (fun z => hq0 ((nI_inj (b := 0) (by omega) (by decide)).mp z)))
      refine r_iconst 124 (v := 2) dX6_drift_123 (by decide) rfl ?_
      refine r_callV (y2 := mX0_measure) (as := [_]) 127 dX6_drift_124 ml_X6_157 mv_X0_measure (c_measure (d := d - 1) (k := 2) (by decide)) (by omega) sh_30 ⟨_, rfl, rfl⟩ rfl (Nat.le_of_ble_eq_true rfl) rfl (kk_i ?_)
      rintro _ _ ⟨rfl, rfl⟩
      refine r_eq hm ?_
      refine r_iadd 128 dX6_drift_127 rfl ?_
      rw [if_neg hq0]
      refine r_eq (nI_add _ _) ?_
      refine r_istore 130 (L' := [_, _, _, _, _, _, _, _]) dX6_drift_128 (by decide) rfl rfl rfl ?_
      refine r_iinc 133 (L' := [_, _, _, _, _, _, _, _]) (v := nI (i + 1)) dX6_drift_130 rfl (nI_1 i) (by decide) rfl rfl rfl ?_
      refine r_goto 41 dX6_drift_133 (by decide) ?_
      exact key
set_option maxRecDepth 20000 in
set_option maxHeartbeats 4000000 in
theorem C_drift {d : Nat} {w : zW} {s : sT} {x m q : Int32} (hd : 6 ≤ d) (hR : RC w s) (hS : sV s) : AC mX6_drift d [.int x, .int m, .int q] w (f_drift s x m q) := by
  have hn := hS.1.n
  refine CT.of [some (.ref 0), some (.int x), some (.int m), some (.int q), none, none, none, none] rfl (Nat.le_of_ble_eq_true rfl) rfl ?_
  refine r_iload_n 1 dX6_drift_0 rfl rfl ?_
  refine r_iconst 2 (v := 1) dX6_drift_1 (by decide) rfl ?_
  refine r_bipush 4 (v := 20) dX6_drift_2 (by decide) rfl ?_
  refine r_callS (y2 := mX6_within) (as := [_, _, _]) 7 dX6_drift_4 ml_X6_67 ms_X6_within (c_within (d := d - 1) _ _ _) (by omega) rfl (Nat.le_of_ble_eq_true rfl) rfl (kk_i ?_)
  rintro _ _ ⟨rfl, rfl⟩
  refine rb_eq 19 10 dX6_drift_7 (by decide) rfl (fun g7 => ?_) (fun g7 => ?_)
  · have wm : ¬ wi m 1 20 = true := fun z => g7 (wi_iff.mp z)
    refine r_iconst 20 (v := -1) dX6_drift_19 (by decide) rfl ?_
    exact r_iret .int dX6_drift_20 rfl (rfl) (by first | exact ⟨by rw [f_drift, if_neg (fun z => wm z.1)], by rw [f_drift, if_neg (fun z => wm z.1)]; exact hR, fun _ _ => rfl⟩ | exact ⟨by rw [f_drift, if_neg (fun z => wq z.2)], by rw [f_drift, if_neg (fun z => wq z.2)]; exact hR, fun _ _ => rfl⟩)
  · have wm : wi m 1 20 = true := wi_iff.mpr g7
    obtain ⟨N, hN, _, rfl⟩ := wi_of2 (hi := 20) wm (by decide)
    have hNs : tN (nI N) = N := tN_n (by omega)
    refine r_iload_n 11 dX6_drift_10 rfl rfl ?_
    refine r_iconst 12 (v := 0) dX6_drift_11 (by decide) rfl ?_
    refine r_iconst 13 (v := 1) dX6_drift_12 (by decide) rfl ?_
    refine r_callS (y2 := mX6_within) (as := [_, _, _]) 16 dX6_drift_13 ml_X6_67 ms_X6_within (c_within (d := d - 1) _ _ _) (by omega) rfl (Nat.le_of_ble_eq_true rfl) rfl (kk_i ?_)
    rintro _ _ ⟨rfl, rfl⟩
    refine rb_ne 21 19 dX6_drift_16 (by decide) rfl (fun g16 => ?_) (fun g16 => ?_)
    · have wq : wi q 0 1 = true := wi_iff.mpr g16
      obtain ⟨j, hj, rfl⟩ := wi_of (hi := 1) wq
      refine r_aload_n 22 dX6_drift_21 rfl rfl ?_
      refine r_getr 25 dX6_drift_22 fz_X6_16 sh_0 rfl rfl ?_
      refine r_aload_n 26 dX6_drift_25 rfl rfl ?_
      refine r_getr 29 dX6_drift_26 fz_X6_10 sh_0 rfl rfl ?_
      refine r_callV (y2 := mX1_copyFrom) (as := [_]) 32 dX6_drift_29 ml_X6_86 mv_X1_copyFrom (c_copyFrom (d := d - 1) (by omega) (Or.inr (Or.inl rfl)) (Or.inl rfl) (by decide)) (by omega) sh_6 ⟨_, rfl, rfl⟩ rfl (Nat.le_of_ble_eq_true rfl) rfl (kk_v ?_)
      rintro w1 hc
      have hL := hc.F hR.1 hn hS.1.2.1
      have hF : ∀ a, (a < 6 ∨ 10 < a) → (a < 30 ∨ 35 < a) → w1 a = w a := fun a h1 _ => hc.2.2.2.2.2.2.2 a (by omega)
      have hj0 : (if nI j = 0 then 0 else 2) = if j = 0 then 0 else 2 := by rcases (show j = 0 ∨ j = 1 by omega) with rfl | rfl <;> rfl
      refine r_iload_n 33 dX6_drift_32 rfl rfl ?_
      refine r_istore 35 (L' := [_, _, _, _, _, _, _, _]) dX6_drift_33 (by decide) rfl rfl rfl ?_
      refine r_iconst 36 (v := 0) dX6_drift_35 (by decide) rfl ?_
      refine r_istore 38 (L' := [_, _, _, _, _, _, _, _]) dX6_drift_36 (by decide) rfl rfl rfl ?_
      refine r_iconst 39 (v := 0) dX6_drift_38 (by decide) rfl ?_
      refine r_istore 41 (L' := [_, _, _, _, _, _, _, _]) dX6_drift_39 (by decide) rfl rfl rfl ?_
      refine l_drift (w0 := w) (N := N) (q := j) (by omega) hS hj hN (fun w2 v hF2 => ?_) N 0 _ w1 (Nat.zero_add _) hF hL
      refine r_iload 138 dX6_drift_136 rfl rfl ?_
      exact r_iret .int dX6_drift_138 rfl (rfl) (⟨by rw [f_drift, if_pos ⟨wm, wq⟩, hNs, hj0], hR.fr (fun a ha => hF2 a (by omega) (by omega)), fun a ha => hF2 a (by omega) (by omega)⟩)
    · have wq : ¬ wi q 0 1 = true := fun z => g16 (wi_iff.mp z)
      refine r_iconst 20 (v := -1) dX6_drift_19 (by decide) rfl ?_
      exact r_iret .int dX6_drift_20 rfl (rfl) (by first | exact ⟨by rw [f_drift, if_neg (fun z => wm z.1)], by rw [f_drift, if_neg (fun z => wm z.1)]; exact hR, fun _ _ => rfl⟩ | exact ⟨by rw [f_drift, if_neg (fun z => wq z.2)], by rw [f_drift, if_neg (fun z => wq z.2)]; exact hR, fun _ _ => rfl⟩)

/-! ===== the reference: best, firsts, gain, calm, rests ===== -/
/-- the first of the least so far, by a row that begins far out -/
def bsF (M : Nat → Nat) (m : Nat) (x z : Int32) : Prop := match am m (fun _ => true) M with
  | none => x = 0 ∧ z = 1000000000
  | some b => b < m ∧ x = nI b ∧ z = nI (M b)
theorem bsF_s {M : Nat → Nat} {i : Nat} {x z : Int32} (hM : ∀ b, b < i + 1 → M b < 100000) (hb : bsF M i x z) : bsF M (i + 1) (if nI (M i) < z then nI i else x) (if nI (M i) < z then nI (M i) else z) := by
  have hmi := hM i (Nat.lt_succ_self i)
  unfold bsF at hb ⊢
  rw [am]
  cases e : am i (fun _ => true) M with
  | none =>
    rw [e] at hb
    obtain ⟨rfl, rfl⟩ := hb
    have h1 : nI (M i) < 1000000000 := (nI_lt' (b := 1000000000) (by omega) (by decide)).mpr (by omega)
    rw [if_pos h1, if_pos h1]
    exact ⟨Nat.lt_succ_self i, rfl, rfl⟩
  | some b =>
    rw [e] at hb
    obtain ⟨h0, rfl, rfl⟩ := hb
    have hmb := hM b (by omega)
    dsimp only
    by_cases c : M i < M b
    · rw [if_pos ⟨rfl, c⟩, if_pos ((nI_lt' (by omega) (by omega)).mpr c), if_pos ((nI_lt' (by omega) (by omega)).mpr c)]
      exact ⟨Nat.lt_succ_self i, rfl, rfl⟩
    · rw [if_neg (fun h => c h.2), if_neg (fun h => c ((nI_lt' (by omega) (by omega)).mp h)), if_neg (fun h => c ((nI_lt' (by omega) (by omega)).mp h))]
      exact ⟨by omega, rfl, rfl⟩
theorem bsF_x {M : Nat → Nat} {m : Nat} {x z : Int32} (h : bsF M m x z) : x = nI ((am m (fun _ => true) M).getD 0) := by
  unfold bsF at h
  cases e : am m (fun _ => true) M with
  | none => rw [e] at h; exact h.1
  | some b => rw [e] at h; exact h.2.1
set_option maxRecDepth 20000 in
set_option maxHeartbeats 4000000 in
theorem l_bestM {d q : Nat} {w0 : zW} {s : sT} {T : zX → Prop} (hd : 7 ≤ d) (hS : sV s) (hq : q ≤ 4) (hx : ∀ w x z, RM w s → frR w0 w → bsF (fun l => meas (s_n s) (s_K s) (dD (s_n s) (un (s_K s) 3 l)) q) 5 x z → WP mX7_best d T 75 [some (.ref 50), some (.int (nI q)), some (.int z), some (.int x), some (.int (nI 5))] [] w) : ∀ k i (w : zW) x z, i + k = 5 → RM w s → frR w0 w → bsF (fun l => meas (s_n s) (s_K s) (dD (s_n s) (un (s_K s) 3 l)) q) i x z → WP mX7_best d T 22 [some (.ref 50), some (.int (nI q)), some (.int z), some (.int x), some (.int (nI i))] [] w := by
  intro k
  induction k with
  | zero =>
    intro i w x z hi hR hF hb
    have e : i = 5 := by omega
    subst e
    refine r_iload 24 dX7_best_22 rfl rfl ?_
    refine r_iconst 25 (v := 5) dX7_best_24 (by decide) rfl ?_
    refine r_icmp_ge 75 28 dX7_best_25 (by decide) rfl (fun _ => ?_) (fun z => absurd (Int32.le_refl _) z)
    exact hx w x z hR hF hb
  | succ k ih =>
    intro i w x z hi hR hF hb
    have hVl := hS.1.1.law (l := i) (by omega)
    have key := bsF_s (i := i) (fun b hb => by have := meas_lt (q := q) (hS.1.1.law (l := b) (by omega)) (lawI hS (l := b) (by omega)); rw [meas_law] at this; exact this) hb
    refine r_iload 24 dX7_best_22 rfl rfl ?_
    refine r_iconst 25 (v := 5) dX7_best_24 (by decide) rfl ?_
    refine r_icmp_ge 75 28 dX7_best_25 (by decide) rfl (fun z => absurd z (fun z => absurd ((nI_le' (a := 5) (by decide) (by omega)).mp z) (by omega))) (fun _ => ?_)
    refine r_aload_n 29 dX7_best_28 rfl rfl ?_
    refine r_iload 31 dX7_best_29 rfl rfl ?_
    refine r_callV (y2 := mX7_dayBy) (as := [_]) 34 dX7_best_31 ml_X7_262 mv_X7_dayBy (m_dayBy (d := d - 1) (by omega) (show i ≤ 4 by omega) hR hS) (by omega) sh_50 ⟨_, rfl, rfl⟩ rfl (Nat.le_of_ble_eq_true rfl) rfl (kk_v ?_)
    rintro w1 ⟨hC, hL, hf⟩
    refine r_aload_n 35 dX7_best_34 rfl rfl ?_
    refine r_iload_n 36 dX7_best_35 rfl rfl ?_
    refine r_callV (y2 := mX7_tells) (as := [_]) 39 dX7_best_36 ml_X7_259 mv_X7_tells (m_tells (d := d - 1) (q := q) (by omega) hq hVl hL (dI_D hVl (by decide)) hC d_f0) (by omega) sh_50 ⟨_, rfl, rfl⟩ rfl (Nat.le_of_ble_eq_true rfl) rfl (kk_i ?_)
    rintro _ _ ⟨rfl, rfl⟩
    rw [meas_law]
    refine r_iload_n 40 dX7_best_39 rfl rfl ?_
    refine r_icmp_ge 48 43 dX7_best_40 (by decide) rfl (fun g40 => ?_) (fun g40 => ?_)
    · have g40 : ¬ nI (meas (s_n s) (s_K s) (dD (s_n s) (un (s_K s) 3 i)) q) < z := i_nlt g40
      rw [if_neg g40, if_neg g40] at key
      refine r_iload_n 49 dX7_best_48 rfl rfl ?_
      refine r_istore_n 50 (L' := [_, _, _, _, _]) dX7_best_49 (by decide) rfl rfl rfl ?_
      refine r_aload_n 51 dX7_best_50 rfl rfl ?_
      refine r_iload_n 52 dX7_best_51 rfl rfl ?_
      refine r_callV (y2 := mX7_tells) (as := [_]) 55 dX7_best_52 ml_X7_259 mv_X7_tells (m_tells (d := d - 1) (q := q) (by omega) hq hVl hL (dI_D hVl (by decide)) hC d_f0) (by omega) sh_50 ⟨_, rfl, rfl⟩ rfl (Nat.le_of_ble_eq_true rfl) rfl (kk_i ?_)
      rintro _ _ ⟨rfl, rfl⟩
      rw [meas_law]
      refine r_iload_n 56 dX7_best_55 rfl rfl ?_
      refine r_icmp_ge 67 59 dX7_best_56 (by decide) rfl (fun _ => ?_) (fun z => absurd (Classical.byContradiction fun y => g40 (i_lt y)) z)
      refine r_iload_n 68 dX7_best_67 rfl rfl ?_
      refine r_istore_n 69 (L' := [_, _, _, _, _]) dX7_best_68 (by decide) rfl rfl rfl ?_
      refine r_iinc 72 (L' := [_, _, _, _, _]) (v := nI (i + 1)) dX7_best_69 rfl (nI_1 i) (by decide) rfl rfl rfl ?_
      refine r_goto 22 dX7_best_72 (by decide) ?_
      exact ih (i + 1) w1 _ _ (by omega) (hR.fr hf) (hF.trans hf) key
    · have g40 : nI (meas (s_n s) (s_K s) (dD (s_n s) (un (s_K s) 3 i)) q) < z := i_lt g40
      rw [if_pos g40, if_pos g40] at key
      refine r_iload 45 dX7_best_43 rfl rfl ?_
      refine r_goto 49 dX7_best_45 (by decide) ?_
      refine r_istore_n 50 (L' := [_, _, _, _, _]) dX7_best_49 (by decide) rfl rfl rfl ?_
      refine r_aload_n 51 dX7_best_50 rfl rfl ?_
      refine r_iload_n 52 dX7_best_51 rfl rfl ?_
      refine r_callV (y2 := mX7_tells) (as := [_]) 55 dX7_best_52 ml_X7_259 mv_X7_tells (m_tells (d := d - 1) (q := q) (by omega) hq hVl hL (dI_D hVl (by decide)) hC d_f0) (by omega) sh_50 ⟨_, rfl, rfl⟩ rfl (Nat.le_of_ble_eq_true rfl) rfl (kk_i ?_)
      rintro _ _ ⟨rfl, rfl⟩
      rw [meas_law]
      refine r_iload_n 56 dX7_best_55 rfl rfl ?_
      refine r_icmp_ge 67 59 dX7_best_56 (by decide) rfl (fun z => absurd z (fun y => i_nlt y g40)) (fun _ => ?_)
      refine r_aload_n 60 dX7_best_59 rfl rfl ?_
      refine r_iload_n 61 dX7_best_60 rfl rfl ?_
      refine r_callV (y2 := mX7_tells) (as := [_]) 64 dX7_best_61 ml_X7_259 mv_X7_tells (m_tells (d := d - 1) (q := q) (by omega) hq hVl hL (dI_D hVl (by decide)) hC d_f0) (by omega) sh_50 ⟨_, rfl, rfl⟩ rfl (Nat.le_of_ble_eq_true rfl) rfl (kk_i ?_)
      rintro _ _ ⟨rfl, rfl⟩
      rw [meas_law]
      refine r_goto 68 dX7_best_64 (by decide) ?_
      refine r_istore_n 69 (L' := [_, _, _, _, _]) dX7_best_68 (by decide) rfl rfl rfl ?_
      refine r_iinc 72 (L' := [_, _, _, _, _]) (v := nI (i + 1)) dX7_best_69 rfl (nI_1 i) (by decide) rfl rfl rfl ?_
      refine r_goto 22 dX7_best_72 (by decide) ?_
      exact ih (i + 1) w1 _ _ (by omega) (hR.fr hf) (hF.trans hf) key
set_option maxRecDepth 20000 in
set_option maxHeartbeats 4000000 in
theorem M_best {d : Nat} {w : zW} {s : sT} {q : Int32} (hd : 8 ≤ d) (hR : RM w s) (hS : sV s) : AM mX7_best d [.int q] w (f_best s q) := by
  have hn := hS.1.n
  refine CT.of [some (.ref 50), some (.int q), none, none, none] rfl (Nat.le_of_ble_eq_true rfl) rfl ?_
  refine r_iload_n 1 dX7_best_0 rfl rfl ?_
  refine r_i2l 2 dX7_best_1 rfl ?_
  refine r_lconst 3 (v := 0) dX7_best_2 (by decide) rfl ?_
  refine r_ldc2 6 dX7_best_3 kl_X7_248 rfl ?_
  refine r_callS (y2 := mX7_in) (as := [_, _, _]) 9 dX7_best_6 ml_X7_74 ms_X7_in (m_in (d := d - 1) _ _ _) (by omega) rfl (Nat.le_of_ble_eq_true rfl) rfl (kk_i ?_)
  rintro _ _ ⟨rfl, rfl⟩
  refine r_eq (z_bc (in_wi (lo := 0) (hi := 4) rfl rfl)) ?_
  refine rb_ne 14 12 dX7_best_9 (by decide) rfl (fun g9 => ?_) (fun g9 => ?_)
  · obtain ⟨j, hj, rfl⟩ := wi_of (hi := 4) g9
    have hjs : tN (nI j) = j := tN_n (by omega)
    refine r_ldc 16 dX7_best_14 kc_X7_191 rfl ?_
    refine r_istore_n 17 (L' := [_, _, _, _, _]) dX7_best_16 (by decide) rfl rfl rfl ?_
    refine r_iconst 18 (v := 0) dX7_best_17 (by decide) rfl ?_
    refine r_istore_n 19 (L' := [_, _, _, _, _]) dX7_best_18 (by decide) rfl rfl rfl ?_
    refine r_iconst 20 (v := 0) dX7_best_19 (by decide) rfl ?_
    refine r_istore 22 (L' := [_, _, _, _, _]) dX7_best_20 (by decide) rfl rfl rfl ?_
    refine l_bestM (w0 := w) (q := j) (by omega) hS hj (fun w1 x z hR1 hF hb => ?_) 5 0 w _ _ rfl hR frR.rfl ⟨rfl, rfl⟩
    refine r_iload_n 76 dX7_best_75 rfl rfl ?_
    exact r_iret .int dX7_best_76 rfl (rfl) (⟨by rw [f_best, if_pos g9, hjs]; exact (bsF_x hb).symm, hR1, hF.lo⟩)
  · refine r_iconst 13 (v := -1) dX7_best_12 (by decide) rfl ?_
    exact r_iret .int dX7_best_13 rfl (rfl) (by first | exact ⟨by rw [f_best, if_neg (g9)], by rw [f_best, if_neg (g9)]; exact hR, fun _ _ => rfl⟩)
set_option maxRecDepth 20000 in
set_option maxHeartbeats 4000000 in
theorem l_firstsM {d b : Nat} {w0 : zW} {s : sT} {T : zX → Prop} (hd : 7 ≤ d) (hS : sV s) (hb : b < s_n s) (hx : ∀ w, RM w s → frR w0 w → WP mX7_firsts d T 53 [some (.ref 50), some (.int (nI b)), some (.int (nI (mk 5 (fun l => d_p (dD (s_n s) (un (s_K s) 3 l)) 0 == b)))), some (.int (nI 5))] [] w) : ∀ k i (w : zW), i + k = 5 → RM w s → frR w0 w → WP mX7_firsts d T 14 [some (.ref 50), some (.int (nI b)), some (.int (nI (mk i (fun l => d_p (dD (s_n s) (un (s_K s) 3 l)) 0 == b)))), some (.int (nI i))] [] w := by
  have hn := hS.1.n
  intro k
  induction k with
  | zero =>
    intro i w hi hR hF
    have e : i = 5 := by omega
    subst e
    refine r_iload_n 15 dX7_firsts_14 rfl rfl ?_
    refine r_iconst 16 (v := 5) dX7_firsts_15 (by decide) rfl ?_
    refine r_icmp_ge 53 19 dX7_firsts_16 (by decide) rfl (fun _ => ?_) (fun z => absurd (Int32.le_refl _) z)
    exact hx w hR hF
  | succ k ih =>
    intro i w hi hR hF
    have hVl := hS.1.1.law (l := i) (by omega)
    have hp := (dI_D hVl (by decide)).2.2.1 0 (by omega)
    have hg := mk_64 (n := i) (p := (fun l => d_p (dD (s_n s) (un (s_K s) 3 l)) 0 == b)) (by omega)
    have e1 : mk (i + 1) (fun l => d_p (dD (s_n s) (un (s_K s) 3 l)) 0 == b) = mk i (fun l => d_p (dD (s_n s) (un (s_K s) 3 l)) 0 == b) + if d_p (dD (s_n s) (un (s_K s) 3 i)) 0 = b then 2 ^ i else 0 := by
      rw [mk]
      simp only [beq_iff_eq]
    refine r_iload_n 15 dX7_firsts_14 rfl rfl ?_
    refine r_iconst 16 (v := 5) dX7_firsts_15 (by decide) rfl ?_
    refine r_icmp_ge 53 19 dX7_firsts_16 (by decide) rfl (fun z => absurd z (fun z => absurd ((nI_le' (a := 5) (by decide) (by omega)).mp z) (by omega))) (fun _ => ?_)
    refine r_aload_n 20 dX7_firsts_19 rfl rfl ?_
    refine r_iload_n 21 dX7_firsts_20 rfl rfl ?_
    refine r_callV (y2 := mX7_dayBy) (as := [_]) 24 dX7_firsts_21 ml_X7_262 mv_X7_dayBy (m_dayBy (d := d - 1) (by omega) (show i ≤ 4 by omega) hR hS) (by omega) sh_50 ⟨_, rfl, rfl⟩ rfl (Nat.le_of_ble_eq_true rfl) rfl (kk_v ?_)
    rintro w1 ⟨hC, hL, hf⟩
    refine r_iload_n 25 dX7_firsts_24 rfl rfl ?_
    refine r_aload_n 26 dX7_firsts_25 rfl rfl ?_
    refine r_getr 29 dX7_firsts_26 fz_X7_26 sh_50 rfl rfl ?_
    refine r_iconst 30 (v := 0) dX7_firsts_29 (by decide) rfl ?_
    refine rj_iald 31 (0) dX7_firsts_30 sh_56 (rfl) (by decide) (by decide) rfl ?_
    refine r_eq (hC.2.2.2.2.2.1 0 (by omega)) ?_
    refine r_iload_n 32 dX7_firsts_31 rfl rfl ?_
    refine rt_icmp_ne (a := 1) (b := 0) (j := 40) 39 35 dX7_firsts_32 (by decide) rfl (fun k => r_iconst 40 dX7_firsts_39 (by decide) rfl k) (fun k => r_iconst 36 dX7_firsts_35 (by decide) rfl (r_goto 40 dX7_firsts_36 (by decide) k)) ?_
    refine r_eq (z := z_b (d_p (dD (s_n s) (un (s_K s) 3 i)) 0 = b)) (by by_cases c : d_p (dD (s_n s) (un (s_K s) 3 i)) 0 = b; (rw [z_bp c, if_pos (by rw [c])]); (rw [z_bn c, if_neg (fun z => c ((nI_inj (by omega) (by omega)).mp z))])) ?_
    refine r_callS (y2 := mX7_flag) (as := [_]) 43 dX7_firsts_40 ml_X7_184 ms_X7_flag (m_flag (d := d - 1) _) (by omega) rfl (Nat.le_of_ble_eq_true rfl) rfl (kk_i ?_)
    rintro _ _ ⟨rfl, rfl⟩
    refine r_iload_n 44 dX7_firsts_43 rfl rfl ?_
    refine r_ishl 45 dX7_firsts_44 rfl ?_
    refine r_ior 46 dX7_firsts_45 rfl ?_
    refine r_eq (or_step hg (by omega) (mk_top (by omega))) ?_
    refine r_istore_n 47 (L' := [_, _, _, _]) dX7_firsts_46 (by decide) rfl rfl rfl ?_
    refine r_iinc 50 (L' := [_, _, _, _]) (v := nI (i + 1)) dX7_firsts_47 rfl (nI_1 i) (by decide) rfl rfl rfl ?_
    refine r_goto 14 dX7_firsts_50 (by decide) ?_
    rw [← e1]
    exact ih (i + 1) w1 (by omega) (hR.fr hf) (hF.trans hf)
set_option maxRecDepth 20000 in
set_option maxHeartbeats 4000000 in
theorem M_firsts {d : Nat} {w : zW} {s : sT} {b : Int32} (hd : 8 ≤ d) (hR : RM w s) (hS : sV s) : AM mX7_firsts d [.int b] w (f_firsts s b) := by
  have hn := hS.1.n
  refine CT.of [some (.ref 50), some (.int b), none, none] rfl (Nat.le_of_ble_eq_true rfl) rfl ?_
  refine r_aload_n 1 dX7_firsts_0 rfl rfl ?_
  refine r_iload_n 2 dX7_firsts_1 rfl rfl ?_
  refine r_callV (y2 := mX7_isBoat) (as := [_]) 5 dX7_firsts_2 ml_X7_237 mv_X7_isBoat (m_isBoat (d := d - 1) (by omega) hn hR.n) (by omega) sh_50 ⟨_, rfl, rfl⟩ rfl (Nat.le_of_ble_eq_true rfl) rfl (kk_i ?_)
  rintro _ _ ⟨rfl, rfl⟩
  refine rb_ne 10 8 dX7_firsts_5 (by decide) rfl (fun g5 => ?_) (fun g5 => ?_)
  · obtain ⟨j, hj, rfl⟩ := iB_of g5
    have hjs : tN (nI j) = j := tN_n (by omega)
    refine r_iconst 11 (v := 0) dX7_firsts_10 (by decide) rfl ?_
    refine r_istore_n 12 (L' := [_, _, _, _]) dX7_firsts_11 (by decide) rfl rfl rfl ?_
    refine r_iconst 13 (v := 0) dX7_firsts_12 (by decide) rfl ?_
    refine r_istore_n 14 (L' := [_, _, _, _]) dX7_firsts_13 (by decide) rfl rfl rfl ?_
    refine l_firstsM (w0 := w) (b := j) (by omega) hS hj (fun w1 hR1 hF => ?_) 5 0 w rfl hR frR.rfl
    refine r_iload_n 54 dX7_firsts_53 rfl rfl ?_
    exact r_iret .int dX7_firsts_54 rfl (rfl) (⟨by rw [f_firsts, if_pos g5, hjs], hR1, hF.lo⟩)
  · refine r_iconst 9 (v := -1) dX7_firsts_8 (by decide) rfl ?_
    exact r_iret .int dX7_firsts_9 rfl (rfl) (by first | exact ⟨by rw [f_firsts, if_neg (g5)], by rw [f_firsts, if_neg (g5)]; exact hR, fun _ _ => rfl⟩)
theorem fl_fl {K : Nat → Nat} {b : Nat} (h : K (6 + 6 * b + 5) ≤ 1) : un (fl K b) (6 + 6 * b + 5) (1 - fl K b (6 + 6 * b + 5)) = K := by
  funext k
  unfold fl
  by_cases e : k = 6 + 6 * b + 5
  · rw [e, un_s, un_s]; omega
  · rw [un_n e, un_n e]
set_option maxRecDepth 20000 in
set_option maxHeartbeats 4000000 in
theorem m_gainOf {d n b : Nat} {w : zW} {K : Nat → Nat} (hd : 6 ≤ d) (hV : kV 99 n K) (hL : atD w n K) (hc : w 50 17 = nI 0) (hb : b < n) : CT mX7_gainOf d [.ref 50, .int (nI b)] w (z_i fun x w' => gn n K b = x ∧ atD w' n K ∧ w' 50 17 = nI 0 ∧ frR w w') := by
  have hn := hV.n
  refine CT.of [some (.ref 50), some (.int (nI b)), none] rfl (Nat.le_of_ble_eq_true rfl) rfl ?_
  refine r_aload_n 1 dX7_gainOf_0 rfl rfl ?_
  refine r_callV (y2 := mX7_dayGoes) (as := []) 4 dX7_gainOf_1 ml_X7_231 mv_X7_dayGoes (m_go (d := d - 1) (by omega) (by decide) hV hL hc) (by omega) sh_50 ⟨_, rfl, rfl⟩ rfl (Nat.le_of_ble_eq_true rfl) rfl (kk_v ?_)
  rintro w1 ⟨hC, hL1, hc1, hf1, -⟩
  have hI := dI_D hV (by decide)
  refine r_aload_n 5 dX7_gainOf_4 rfl rfl ?_
  refine r_getr 8 dX7_gainOf_5 fz_X7_32 sh_50 rfl rfl ?_
  refine r_iload_n 9 dX7_gainOf_8 rfl rfl ?_
  refine rj_iald 10 (b) dX7_gainOf_9 sh_58 (rfl) (by omega) (by decide) rfl ?_
  refine r_eq ((hC.2.2.2.2.2.2 b hb (dI_all hI b hb)).2) ?_
  refine r_istore_n 11 (L' := [_, _, _]) dX7_gainOf_10 (by decide) rfl rfl rfl ?_
  refine r_aload_n 12 dX7_gainOf_11 rfl rfl ?_
  refine r_iload_n 13 dX7_gainOf_12 rfl rfl ?_
  refine r_iconst 14 (v := 5) dX7_gainOf_13 (by decide) rfl ?_
  refine r_iconst 15 (v := 1) dX7_gainOf_14 (by decide) rfl ?_
  refine r_aload_n 16 dX7_gainOf_15 rfl rfl ?_
  refine r_iload_n 17 dX7_gainOf_16 rfl rfl ?_
  refine r_iconst 18 (v := 5) dX7_gainOf_17 (by decide) rfl ?_
  refine r_callV (y2 := mX7_of) (as := [_, _]) 21 dX7_gainOf_18 ml_X7_166 mv_X7_of (m_of (d := d - 1) (i := b) (j := 5) (by omega) (by decide)) (by omega) sh_50 ⟨_, rfl, rfl⟩ rfl (Nat.le_of_ble_eq_true rfl) rfl (kk_i ?_)
  rintro _ _ ⟨rfl, rfl⟩
  refine r_eq (hL1.1 _ (by omega)) ?_
  refine r_isub 22 dX7_gainOf_21 rfl ?_
  refine r_eq (z := nI (1 - K (6 + 6 * b + 5))) (nI_sub (a := 1) (hV.lie hb)) ?_
  refine r_callV (y2 := mX7_becomesOf) (as := [_, _, _]) 25 dX7_gainOf_22 ml_X7_274 mv_X7_becomesOf (m_becomesOf (d := d - 1) (i := b) (j := 5) (by omega) (by decide)) (by omega) sh_50 ⟨_, rfl, rfl⟩ rfl (Nat.le_of_ble_eq_true rfl) rfl (kk_v ?_)
  rintro w2 e2
  have hL2 : atD w2 n (fl K b) := by rw [← e2]; exact hL1.up (by omega)
  have hc2 : w2 50 17 = nI 0 := by rw [← e2, z_up_a (by decide)]; exact hc1
  have hf2 : frR w w2 := by rw [← e2]; exact hf1.at
  refine r_aload_n 26 dX7_gainOf_25 rfl rfl ?_
  refine r_callV (y2 := mX7_dayGoes) (as := []) 29 dX7_gainOf_26 ml_X7_231 mv_X7_dayGoes (m_go (d := d - 1) (by omega) (by decide) hV.fl hL2 hc2) (by omega) sh_50 ⟨_, rfl, rfl⟩ rfl (Nat.le_of_ble_eq_true rfl) rfl (kk_v ?_)
  rintro w3 ⟨hC3, hL3, hc3, hf3, -⟩
  have hI3 := dI_D (hV.fl (b := b)) (by decide)
  refine r_aload_n 30 dX7_gainOf_29 rfl rfl ?_
  refine r_iload_n 31 dX7_gainOf_30 rfl rfl ?_
  refine r_iconst 32 (v := 5) dX7_gainOf_31 (by decide) rfl ?_
  refine r_iconst 33 (v := 1) dX7_gainOf_32 (by decide) rfl ?_
  refine r_aload_n 34 dX7_gainOf_33 rfl rfl ?_
  refine r_iload_n 35 dX7_gainOf_34 rfl rfl ?_
  refine r_iconst 36 (v := 5) dX7_gainOf_35 (by decide) rfl ?_
  refine r_callV (y2 := mX7_of) (as := [_, _]) 39 dX7_gainOf_36 ml_X7_166 mv_X7_of (m_of (d := d - 1) (i := b) (j := 5) (by omega) (by decide)) (by omega) sh_50 ⟨_, rfl, rfl⟩ rfl (Nat.le_of_ble_eq_true rfl) rfl (kk_i ?_)
  rintro _ _ ⟨rfl, rfl⟩
  refine r_eq (hL3.1 _ (by omega)) ?_
  refine r_isub 40 dX7_gainOf_39 rfl ?_
  refine r_eq (z := nI (1 - fl K b (6 + 6 * b + 5))) (nI_sub (a := 1) (hV.fl.lie hb)) ?_
  refine r_callV (y2 := mX7_becomesOf) (as := [_, _, _]) 43 dX7_gainOf_40 ml_X7_274 mv_X7_becomesOf (m_becomesOf (d := d - 1) (i := b) (j := 5) (by omega) (by decide)) (by omega) sh_50 ⟨_, rfl, rfl⟩ rfl (Nat.le_of_ble_eq_true rfl) rfl (kk_v ?_)
  rintro w4 e4
  have hL4 : atD w4 n K := by
    have h := hL3.up (x := 6 + 6 * b + 5) (v := 1 - fl K b (6 + 6 * b + 5)) (by omega)
    rw [fl_fl (hV.lie hb), e4] at h; exact h
  refine r_iload_n 44 dX7_gainOf_43 rfl rfl ?_
  refine r_aload_n 45 dX7_gainOf_44 rfl rfl ?_
  refine r_getr 48 dX7_gainOf_45 fz_X7_32 sh_50 rfl rfl ?_
  refine r_iload_n 49 dX7_gainOf_48 rfl rfl ?_
  refine rj_iald 50 (b) dX7_gainOf_49 sh_58 (rfl) (by omega) (by decide) rfl ?_
  refine r_eq (z := nI (d_s (dD n (fl K b)) b)) (by rw [← e4, z_up_a (by decide)]; exact (hC3.2.2.2.2.2.2 b hb (dI_all hI3 b hb)).2) ?_
  refine r_isub 51 dX7_gainOf_50 rfl ?_
  exact r_iret .int dX7_gainOf_51 rfl (rfl) (⟨rfl, hL4, by rw [← e4, z_up_a (by decide)]; exact hc3, by rw [← e4]; exact (hf2.trans hf3).at⟩)
set_option maxRecDepth 20000 in
set_option maxHeartbeats 4000000 in
theorem M_gain {d : Nat} {w : zW} {s : sT} {b : Int32} (hd : 8 ≤ d) (hR : RM w s) (hS : sV s) : AM mX7_gain d [.int b] w (f_gain s b) := by
  have hn := hS.1.n
  refine CT.of [some (.ref 50), some (.int b)] rfl (Nat.le_of_ble_eq_true rfl) rfl ?_
  refine r_aload_n 1 dX7_gain_0 rfl rfl ?_
  refine r_iload_n 2 dX7_gain_1 rfl rfl ?_
  refine r_callV (y2 := mX7_isBoat) (as := [_]) 5 dX7_gain_2 ml_X7_237 mv_X7_isBoat (m_isBoat (d := d - 1) (by omega) hn hR.n) (by omega) sh_50 ⟨_, rfl, rfl⟩ rfl (Nat.le_of_ble_eq_true rfl) rfl (kk_i ?_)
  rintro _ _ ⟨rfl, rfl⟩
  refine rb_ne 10 8 dX7_gain_5 (by decide) rfl (fun g5 => ?_) (fun g5 => ?_)
  · obtain ⟨j, hj, rfl⟩ := iB_of g5
    have hjs : tN (nI j) = j := tN_n (by omega)
    refine r_aload_n 11 dX7_gain_10 rfl rfl ?_
    refine r_callV (y2 := mX7_starts) (as := []) 14 dX7_gain_11 ml_X7_228 mv_X7_starts (m_start (d := d - 1) hR) (by omega) sh_50 ⟨_, rfl, rfl⟩ rfl (Nat.le_of_ble_eq_true rfl) rfl (kk_v ?_)
    rintro w1 ⟨hL, hc, hf⟩
    refine r_sipush 17 (v := 1000) dX7_gain_14 (by decide) rfl ?_
    refine r_aload_n 18 dX7_gain_17 rfl rfl ?_
    refine r_iload_n 19 dX7_gain_18 rfl rfl ?_
    refine r_callV (y2 := mX7_gainOf) (as := [_]) 22 dX7_gain_19 ml_X7_278 mv_X7_gainOf (m_gainOf (d := d - 1) (by omega) hS.1.1 hL hc hj) (by omega) sh_50 ⟨_, rfl, rfl⟩ rfl (Nat.le_of_ble_eq_true rfl) rfl (kk_i ?_)
    rintro _ w2 ⟨rfl, hL2, hc2, hf2⟩
    refine r_iadd 23 dX7_gain_22 rfl ?_
    exact r_iret .int dX7_gain_23 rfl (rfl) (⟨by rw [f_gain, if_pos g5, hjs], hR.fr (hf.trans hf2), (hf.trans hf2).lo⟩)
  · refine r_iconst 9 (v := -1) dX7_gain_8 (by decide) rfl ?_
    exact r_iret .int dX7_gain_9 rfl (rfl) (by first | exact ⟨by rw [f_gain, if_neg (g5)], by rw [f_gain, if_neg (g5)]; exact hR, fun _ _ => rfl⟩)
set_option maxRecDepth 20000 in
set_option maxHeartbeats 4000000 in
theorem l_isCalmM {d n : Nat} {w0 : zW} {K : Nat → Nat} {T : zX → Prop} (hd : 7 ≤ d) (hV : kV 99 n K) (hx : ∀ w, atD w n K → w 50 17 = nI 0 → frR w0 w → WP mX7_isCalm d T 36 [some (.ref 50), some (.int (z_b (∀ c, c < n → d_s (dD n K) c ≤ d_s (dD n (fl K c)) c))), some (.int (nI n))] [] w) : ∀ k i (w : zW), i + k = n → atD w n K → w 50 17 = nI 0 → frR w0 w → WP mX7_isCalm d T 4 [some (.ref 50), some (.int (z_b (∀ c, c < i → d_s (dD n K) c ≤ d_s (dD n (fl K c)) c))), some (.int (nI i))] [] w := by
  have hn := hV.n
  intro k
  induction k with
  | zero =>
    intro i w hi hL hc hF
    have e : i = n := by omega
    subst e
    refine r_iload_n 5 dX7_isCalm_4 rfl rfl ?_
    refine r_aload_n 6 dX7_isCalm_5 rfl rfl ?_
    refine r_geti 9 dX7_isCalm_6 fz_X7_69 sh_50 rfl rfl ?_
    refine r_eq hL.2 ?_
    refine r_icmp_ge 36 12 dX7_isCalm_9 (by decide) rfl (fun _ => ?_) (fun z => absurd (Int32.le_refl _) z)
    exact hx w hL hc hF
  | succ k ih =>
    intro i w hi hL hc hF
    have b1 := ((dI_D hV (by decide)).2.2.2.2.2.2.2 i).1
    have b2 := ((dI_D (hV.fl (b := i)) (by decide)).2.2.2.2.2.2.2 i).1
    have hs : (gn n K i).toInt = (d_s (dD n K) i : Int) - d_s (dD n (fl K i)) i := pk_sub_toInt (by omega) (by omega)
    refine r_iload_n 5 dX7_isCalm_4 rfl rfl ?_
    refine r_aload_n 6 dX7_isCalm_5 rfl rfl ?_
    refine r_geti 9 dX7_isCalm_6 fz_X7_69 sh_50 rfl rfl ?_
    refine r_eq hL.2 ?_
    refine r_icmp_ge 36 12 dX7_isCalm_9 (by decide) rfl (fun z => absurd z (fun z => absurd ((nI_le' (by omega) (by omega)).mp z) (by omega))) (fun _ => ?_)
    refine r_iload_n 13 dX7_isCalm_12 rfl rfl ?_
    refine rb_eq 28 16 dX7_isCalm_13 (by decide) rfl (fun g13 => ?_) (fun g13 => ?_)
    · refine r_iconst 29 (v := 0) dX7_isCalm_28 (by decide) rfl ?_
      refine r_eq (z := z_b (∀ c, c < (i + 1) → d_s (dD n K) c ≤ d_s (dD n (fl K c)) c)) (z_b0 (fun z => g13 (fun c hc => z c (by omega)))) ?_
      refine r_istore_n 30 (L' := [_, _, _]) dX7_isCalm_29 (by decide) rfl rfl rfl ?_
      refine r_iinc 33 (L' := [_, _, _]) (v := nI (i + 1)) dX7_isCalm_30 rfl (nI_1 i) (by decide) rfl rfl rfl ?_
      refine r_goto 4 dX7_isCalm_33 (by decide) ?_
      exact ih (i + 1) w (by omega) hL hc hF
    · refine r_aload_n 17 dX7_isCalm_16 rfl rfl ?_
      refine r_iload_n 18 dX7_isCalm_17 rfl rfl ?_
      refine r_callV (y2 := mX7_gainOf) (as := [_]) 21 dX7_isCalm_18 ml_X7_278 mv_X7_gainOf (m_gainOf (d := d - 1) (by omega) hV hL hc (b := i) (by omega)) (by omega) sh_50 ⟨_, rfl, rfl⟩ rfl (Nat.le_of_ble_eq_true rfl) rfl (kk_i ?_)
      rintro _ w1 ⟨rfl, hL1, hc1, hf1⟩
      refine r_if_gt 28 24 dX7_isCalm_21 (by decide) rfl (fun g21 => ?_) (fun g21 => ?_)
      · have g21 : (0 : Int) < _ := ti_lt.mp g21
        refine r_iconst 29 (v := 0) dX7_isCalm_28 (by decide) rfl ?_
        refine r_eq (z := z_b (∀ c, c < (i + 1) → d_s (dD n K) c ≤ d_s (dD n (fl K c)) c)) (by first | exact z_b1 (fun c hc2 => by by_cases e : c = i; (rw [e]; omega); (exact g13 c (by omega))) | exact z_b0 (fun z => by have := z i (by omega); omega)) ?_
        refine r_istore_n 30 (L' := [_, _, _]) dX7_isCalm_29 (by decide) rfl rfl rfl ?_
        refine r_iinc 33 (L' := [_, _, _]) (v := nI (i + 1)) dX7_isCalm_30 rfl (nI_1 i) (by decide) rfl rfl rfl ?_
        refine r_goto 4 dX7_isCalm_33 (by decide) ?_
        exact ih (i + 1) w1 (by omega) hL1 hc1 (hF.trans hf1)
      · have g21 : ¬ (0 : Int) < _ := fun z => g21 (ti_lt.mpr z)
        refine r_iconst 25 (v := 1) dX7_isCalm_24 (by decide) rfl ?_
        refine r_goto 29 dX7_isCalm_25 (by decide) ?_
        refine r_eq (z := z_b (∀ c, c < (i + 1) → d_s (dD n K) c ≤ d_s (dD n (fl K c)) c)) (by first | exact z_b1 (fun c hc2 => by by_cases e : c = i; (rw [e]; omega); (exact g13 c (by omega))) | exact z_b0 (fun z => by have := z i (by omega); omega)) ?_
        refine r_istore_n 30 (L' := [_, _, _]) dX7_isCalm_29 (by decide) rfl rfl rfl ?_
        refine r_iinc 33 (L' := [_, _, _]) (v := nI (i + 1)) dX7_isCalm_30 rfl (nI_1 i) (by decide) rfl rfl rfl ?_
        refine r_goto 4 dX7_isCalm_33 (by decide) ?_
        exact ih (i + 1) w1 (by omega) hL1 hc1 (hF.trans hf1)
theorem z_b10 {p : Prop} [Decidable p] (h : p) : (1 : Int32) = z_b p := z_b1 h
set_option maxRecDepth 20000 in
set_option maxHeartbeats 4000000 in
theorem m_isCalm {d n : Nat} {w : zW} {K : Nat → Nat} (hd : 7 ≤ d) (hV : kV 99 n K) (hL : atD w n K) (hc : w 50 17 = nI 0) : CT mX7_isCalm d [.ref 50] w (z_i fun x w' => z_b (cal n K = true) = x ∧ atD w' n K ∧ w' 50 17 = nI 0 ∧ frR w w') := by
  refine CT.of [some (.ref 50), none, none] rfl (Nat.le_of_ble_eq_true rfl) rfl ?_
  refine r_iconst 1 (v := 1) dX7_isCalm_0 (by decide) rfl ?_
  refine r_eq (z := @z_b (∀ c, c < 0 → d_s (dD n K) c ≤ d_s (dD n (fl K c)) c) (Nat.decidableBallLT 0 (fun c _ => d_s (dD n K) c ≤ d_s (dD n (fl K c)) c))) (@z_b1 _ (Nat.decidableBallLT 0 (fun c _ => d_s (dD n K) c ≤ d_s (dD n (fl K c)) c)) (fun c hc => absurd hc (Nat.not_lt_zero c))) ?_
  refine r_istore_n 2 (L' := [_, _, _]) dX7_isCalm_1 (by decide) rfl rfl rfl ?_
  refine r_iconst 3 (v := 0) dX7_isCalm_2 (by decide) rfl ?_
  refine r_istore_n 4 (L' := [_, _, _]) dX7_isCalm_3 (by decide) rfl rfl rfl ?_
  refine l_isCalmM (w0 := w) hd hV (fun w1 hL1 hc1 hF => ?_) n 0 w (Nat.zero_add n) hL hc frR.rfl
  refine r_iload_n 37 dX7_isCalm_36 rfl rfl ?_
  exact r_iret .boolean dX7_isCalm_37 rfl (z_bnar) (⟨z_bc (by unfold cal; rw [decide_eq_true_iff]), hL1, hc1, hF⟩)
set_option maxRecDepth 20000 in
set_option maxHeartbeats 4000000 in
theorem l_calmM {d : Nat} {w0 : zW} {s : sT} {T : zX → Prop} (hd : 8 ≤ d) (hS : sV s) (hx : ∀ w, RM w s → frR w0 w → WP mX7_calm d T 38 [some (.ref 50), some (.int (nI (mk 5 (fun l => cal (s_n s) (un (s_K s) 3 l))))), some (.int (nI 5))] [] w) : ∀ k i (w : zW), i + k = 5 → RM w s → frR w0 w → WP mX7_calm d T 4 [some (.ref 50), some (.int (nI (mk i (fun l => cal (s_n s) (un (s_K s) 3 l))))), some (.int (nI i))] [] w := by
  have hn := hS.1.n
  intro k
  induction k with
  | zero =>
    intro i w hi hR hF
    have e : i = 5 := by omega
    subst e
    refine r_iload_n 5 dX7_calm_4 rfl rfl ?_
    refine r_iconst 6 (v := 5) dX7_calm_5 (by decide) rfl ?_
    refine r_icmp_ge 38 9 dX7_calm_6 (by decide) rfl (fun _ => ?_) (fun z => absurd (Int32.le_refl _) z)
    exact hx w hR hF
  | succ k ih =>
    intro i w hi hR hF
    have hVl := hS.1.1.law (l := i) (by omega)
    have hg := mk_64 (n := i) (p := (fun l => cal (s_n s) (un (s_K s) 3 l))) (by omega)
    have e1 : mk (i + 1) (fun l => cal (s_n s) (un (s_K s) 3 l)) = mk i (fun l => cal (s_n s) (un (s_K s) 3 l)) + if cal (s_n s) (un (s_K s) 3 i) = true then 2 ^ i else 0 := rfl
    refine r_iload_n 5 dX7_calm_4 rfl rfl ?_
    refine r_iconst 6 (v := 5) dX7_calm_5 (by decide) rfl ?_
    refine r_icmp_ge 38 9 dX7_calm_6 (by decide) rfl (fun z => absurd z (fun z => absurd ((nI_le' (a := 5) (by decide) (by omega)).mp z) (by omega))) (fun _ => ?_)
    refine r_aload_n 10 dX7_calm_9 rfl rfl ?_
    refine r_callV (y2 := mX7_starts) (as := []) 13 dX7_calm_10 ml_X7_228 mv_X7_starts (m_start (d := d - 1) hR) (by omega) sh_50 ⟨_, rfl, rfl⟩ rfl (Nat.le_of_ble_eq_true rfl) rfl (kk_v ?_)
    rintro w1 ⟨hL, hc, hf⟩
    refine r_aload_n 14 dX7_calm_13 rfl rfl ?_
    refine r_getr 17 dX7_calm_14 fz_X7_13 sh_50 rfl rfl ?_
    refine r_iconst 18 (v := 3) dX7_calm_17 (by decide) rfl ?_
    refine r_iload_n 19 dX7_calm_18 rfl rfl ?_
    refine rj_iast 20 (3) dX7_calm_19 sh_52 (rfl) (by decide) (by decide) rfl ?_
    have hL2 := hL.up (x := 3) (v := i) (by decide)
    refine r_nw (fun w2 e2 => ?_)
    rw [← e2] at hL2
    have hc2 : w2 50 17 = nI 0 := by rw [e2, z_up_a (by decide)]; exact hc
    have hf2 : frR w w2 := by rw [e2]; exact hf.at
    refine r_iload_n 21 dX7_calm_20 rfl rfl ?_
    refine r_aload_n 22 dX7_calm_21 rfl rfl ?_
    refine r_callV (y2 := mX7_isCalm) (as := []) 25 dX7_calm_22 ml_X7_281 mv_X7_isCalm (m_isCalm (d := d - 1) (by omega) hVl hL2 hc2) (by omega) sh_50 ⟨_, rfl, rfl⟩ rfl (Nat.le_of_ble_eq_true rfl) rfl (kk_i ?_)
    rintro _ w3 ⟨rfl, hL3, hc3, hf3⟩
    refine r_callS (y2 := mX7_flag) (as := [_]) 28 dX7_calm_25 ml_X7_184 ms_X7_flag (m_flag (d := d - 1) _) (by omega) rfl (Nat.le_of_ble_eq_true rfl) rfl (kk_i ?_)
    rintro _ _ ⟨rfl, rfl⟩
    refine r_iload_n 29 dX7_calm_28 rfl rfl ?_
    refine r_ishl 30 dX7_calm_29 rfl ?_
    refine r_ior 31 dX7_calm_30 rfl ?_
    refine r_eq (or_step hg (by omega) (mk_top (by omega))) ?_
    refine r_istore_n 32 (L' := [_, _, _]) dX7_calm_31 (by decide) rfl rfl rfl ?_
    refine r_iinc 35 (L' := [_, _, _]) (v := nI (i + 1)) dX7_calm_32 rfl (nI_1 i) (by decide) rfl rfl rfl ?_
    refine r_goto 4 dX7_calm_35 (by decide) ?_
    rw [← e1]
    exact ih (i + 1) w3 (by omega) (hR.fr (hf2.trans hf3)) (hF.trans (hf2.trans hf3))
set_option maxRecDepth 20000 in
set_option maxHeartbeats 4000000 in
theorem M_calm {d : Nat} {w : zW} {s : sT}  (hd : 9 ≤ d) (hR : RM w s) (hS : sV s) : AM mX7_calm d [] w (f_calm s) := by
  have hn := hS.1.n
  refine CT.of [some (.ref 50), none, none] rfl (Nat.le_of_ble_eq_true rfl) rfl ?_
  refine r_iconst 1 (v := 0) dX7_calm_0 (by decide) rfl ?_
  refine r_istore_n 2 (L' := [_, _, _]) dX7_calm_1 (by decide) rfl rfl rfl ?_
  refine r_iconst 3 (v := 0) dX7_calm_2 (by decide) rfl ?_
  refine r_istore_n 4 (L' := [_, _, _]) dX7_calm_3 (by decide) rfl rfl rfl ?_
  refine l_calmM (w0 := w) (by omega) hS (fun w1 hR1 hF => ?_) 5 0 w rfl hR frR.rfl
  refine r_iload_n 39 dX7_calm_38 rfl rfl ?_
  exact r_iret .int dX7_calm_39 rfl (rfl) (⟨rfl, hR1, hF.lo⟩)
/-- who lies, of the first i boats -/
def lz (K : Nat → Nat) (g i : Nat) : Nat → Nat := fun k => if 6 ≤ k ∧ k % 6 = 5 ∧ (k - 6) / 6 < i then bi g ((k - 6) / 6) else K k
theorem lz_0 {K : Nat → Nat} {g : Nat} : lz K g 0 = K := by
  funext k
  unfold lz
  rw [if_neg (fun z => absurd z.2.2 (Nat.not_lt_zero _))]
theorem lz_s {K : Nat → Nat} {g i : Nat} : lz K g (i + 1) = un (lz K g i) (6 + 6 * i + 5) (bi g i) := by
  funext k
  by_cases e : k = 6 + 6 * i + 5
  · rw [e, un_s]
    unfold lz
    rw [if_pos (by omega), show (6 + 6 * i + 5 - 6) / 6 = i by omega]
  · rw [un_n e]
    unfold lz
    by_cases c : 6 ≤ k ∧ k % 6 = 5 ∧ (k - 6) / 6 < i
    · rw [if_pos c, if_pos (by omega)]
    · rw [if_neg c, if_neg (by omega)]
theorem lz_l {K : Nat → Nat} {g i b : Nat} (hb : b < i) : lz K g i (6 + 6 * b + 5) = bi g b := by
  unfold lz
  rw [if_pos (by omega), show (6 + 6 * b + 5 - 6) / 6 = b by omega]
theorem lz_n {K : Nat → Nat} {g i k : Nat} (h : k < 6 ∨ k % 6 ≠ 5) : lz K g i k = K k := by
  unfold lz
  rw [if_neg (by omega)]
theorem lz_E {n g i : Nat} {K : Nat → Nat} : kE n K (lz K g i) := ⟨fun k hk => lz_n (by omega), fun b q _ hq => lz_n (by omega)⟩
theorem kV.lz {A n g : Nat} {K : Nat → Nat} (h : kV A n K) : kV A n (lz K g n) := by
  obtain ⟨k1, k2, k3, k4, k5, k6, k7, k8⟩ := h
  refine ⟨k1, by rw [lz_n (by omega)]; exact k2, by rw [lz_n (by omega)]; exact k3, by rw [lz_n (by omega)]; exact k4, by rw [lz_n (by omega)]; exact k5, by rw [lz_n (by omega)]; exact k6, by rw [lz_n (by omega)]; exact k7, fun b hb => ?_⟩
  have h6 := k8 b hb
  rw [lz_l hb, lz_n (by omega), lz_n (by omega), lz_n (by omega), lz_n (by omega), lz_n (by omega)]
  exact ⟨h6.1, h6.2.1, h6.2.2.1, h6.2.2.2.1, h6.2.2.2.2.1, by have := bi_lt g b; omega⟩
theorem dD_lz {A n g : Nat} {K : Nat → Nat} (hV : kV A n K) (hA : A ≤ 200) : dD n (lz K g n) = dD n (lw K g) :=
  dD_E hV.lw hA (lw_E.symm.trans lz_E) (fun _ b hb => by rw [lz_l hb, lw_l])
theorem cal_lz {n g : Nat} {K : Nat → Nat} (hV : kV 99 n K) : cal n (lz K g n) = cal n (lw K g) := by
  unfold cal
  have e : ∀ b, b < n → dD n (fl (lz K g n) b) = dD n (fl (lw K g) b) := fun b hb => by
    refine dD_E (A := 99) hV.lw.fl (by decide) (fl_E.symm.trans ((lw_E.symm.trans lz_E).trans fl_E)) (fun _ c hc => ?_)
    unfold fl
    by_cases h : c = b
    · rw [h, un_s, un_s, lz_l hb, lw_l]
    · rw [un_n (by omega), un_n (by omega), lz_l hc, lw_l]
  rw [decide_eq_decide]
  exact ⟨fun h b hb => by have := h b hb; rw [e b hb, dD_lz hV (by decide)] at this; exact this, fun h b hb => by rw [e b hb, dD_lz hV (by decide)]; exact h b hb⟩
set_option maxRecDepth 20000 in
set_option maxHeartbeats 4000000 in
theorem l_liesBy {d n g : Nat} {w0 : zW} {K : Nat → Nat} {T : zX → Prop} (hd : 1 ≤ d) (hn : n ≤ 6) (hg : g < 64) (hx : ∀ w, atD w n (lz K g n) → w 50 17 = w0 50 17 → frR w0 w → WP mX7_liesBy d T 27 [some (.ref 50), some (.int (nI g)), some (.int (nI n))] [] w) : ∀ k i (w : zW), i + k = n → atD w n (lz K g i) → w 50 17 = w0 50 17 → frR w0 w → WP mX7_liesBy d T 2 [some (.ref 50), some (.int (nI g)), some (.int (nI i))] [] w := by
  intro k
  induction k with
  | zero =>
    intro i w hi hL hc hF
    have e : i = n := by omega
    subst e
    refine r_iload_n 3 dX7_liesBy_2 rfl rfl ?_
    refine r_aload_n 4 dX7_liesBy_3 rfl rfl ?_
    refine r_geti 7 dX7_liesBy_4 fz_X7_69 sh_50 rfl rfl ?_
    refine r_eq hL.2 ?_
    refine r_icmp_ge 27 10 dX7_liesBy_7 (by decide) rfl (fun _ => ?_) (fun z => absurd (Int32.le_refl _) z)
    exact hx w hL hc hF
  | succ k ih =>
    intro i w hi hL hc hF
    have hL1 := hL.up (x := 6 + 6 * i + 5) (v := bi g i) (by omega)
    rw [← lz_s] at hL1
    refine r_iload_n 3 dX7_liesBy_2 rfl rfl ?_
    refine r_aload_n 4 dX7_liesBy_3 rfl rfl ?_
    refine r_geti 7 dX7_liesBy_4 fz_X7_69 sh_50 rfl rfl ?_
    refine r_eq hL.2 ?_
    refine r_icmp_ge 27 10 dX7_liesBy_7 (by decide) rfl (fun z => absurd z (fun z => absurd ((nI_le' (by omega) (by omega)).mp z) (by omega))) (fun _ => ?_)
    refine r_aload_n 11 dX7_liesBy_10 rfl rfl ?_
    refine r_iload_n 12 dX7_liesBy_11 rfl rfl ?_
    refine r_iconst 13 (v := 5) dX7_liesBy_12 (by decide) rfl ?_
    refine r_iload_n 14 dX7_liesBy_13 rfl rfl ?_
    refine r_iload_n 15 dX7_liesBy_14 rfl rfl ?_
    refine r_ishr 16 dX7_liesBy_15 rfl ?_
    refine r_iconst 17 (v := 1) dX7_liesBy_16 (by decide) rfl ?_
    refine r_iand 18 dX7_liesBy_17 rfl ?_
    refine r_eq (b_sh g hg i (by omega)) ?_
    refine r_callV (y2 := mX7_becomesOf) (as := [_, _, _]) 21 dX7_liesBy_18 ml_X7_274 mv_X7_becomesOf (m_becomesOf (d := d - 1) (i := i) (j := 5) (by omega) (by decide)) (by omega) sh_50 ⟨_, rfl, rfl⟩ rfl (Nat.le_of_ble_eq_true rfl) rfl (kk_v ?_)
    rintro w1 e1
    rw [e1] at hL1
    refine r_iinc 24 (L' := [_, _, _]) (v := nI (i + 1)) dX7_liesBy_21 rfl (nI_1 i) (by decide) rfl rfl rfl ?_
    refine r_goto 2 dX7_liesBy_24 (by decide) ?_
    exact ih (i + 1) w1 (by omega) hL1 (by rw [← e1, z_up_a (by decide)]; exact hc) (by rw [← e1]; exact hF.at)
set_option maxRecDepth 20000 in
set_option maxHeartbeats 4000000 in
theorem m_liesBy {d n g : Nat} {w : zW} {K : Nat → Nat} (hd : 1 ≤ d) (hn : n ≤ 6) (hg : g < 64) (hL : atD w n K) : CT mX7_liesBy d [.ref 50, .int (nI g)] w (z_v fun w' => atD w' n (lz K g n) ∧ w' 50 17 = w 50 17 ∧ frR w w') := by
  refine CT.of [some (.ref 50), some (.int (nI g)), none] rfl (Nat.le_of_ble_eq_true rfl) rfl ?_
  refine r_iconst 1 (v := 0) dX7_liesBy_0 (by decide) rfl ?_
  refine r_istore_n 2 (L' := [_, _, _]) dX7_liesBy_1 (by decide) rfl rfl rfl ?_
  refine l_liesBy (w0 := w) (K := K) hd hn hg (fun w1 h1 h2 h3 => ?_) n 0 w (Nat.zero_add n) (by rw [lz_0]; exact hL) rfl frR.rfl
  exact r_vret dX7_liesBy_27 rfl (⟨h1, h2, h3⟩)
theorem fx_cn {p : Nat → Bool} : ∀ m, m < 1000 → (fx m p = -4 ↔ cn m p = 0) := by
  intro m
  induction m with
  | zero => intro _; exact ⟨fun _ => rfl, fun _ => rfl⟩
  | succ m ih =>
    intro hm
    rw [cn]
    by_cases c : p m = true
    · rw [← fx_y (by omega) c, if_pos c]
      refine ⟨fun h => ?_, fun h => by omega⟩
      by_cases q : fx m p = -4
      · rw [if_pos q] at h; exact absurd h (nI_n4 (by omega))
      · rw [if_neg q] at h; exact absurd h q
    · rw [fx_n c, if_neg c, Nat.add_zero]
      exact ih (by omega)
set_option maxRecDepth 20000 in
set_option maxHeartbeats 4000000 in
theorem l_restsM {d : Nat} {q : Int32} {w0 : zW} {s : sT} {T : zX → Prop} (hd : 8 ≤ d) (hS : sV s) (hx : ∀ w, RM w s → frR w0 w → WP mX7_rests d T 65 [some (.ref 50), some (.int q), some (.int (nI (cn (2 ^ s_n s) (fun g => cal (s_n s) (lw (s_K s) g))))), some (.int (fx (2 ^ s_n s) (fun g => cal (s_n s) (lw (s_K s) g)))), some (.int (nI (2 ^ s_n s)))] [] w) : ∀ k g (w : zW), g + k = 2 ^ s_n s → RM w s → frR w0 w → WP mX7_rests d T 17 [some (.ref 50), some (.int q), some (.int (nI (cn g (fun g => cal (s_n s) (lw (s_K s) g))))), some (.int (fx g (fun g => cal (s_n s) (lw (s_K s) g)))), some (.int (nI g))] [] w := by
  have hn := hS.1.n
  have h64 := p2_le (s_n s) (by omega)
  intro k
  induction k with
  | zero =>
    intro g w hi hR hF
    have e : g = 2 ^ s_n s := by omega
    rw [e]
    refine r_iload 19 dX7_rests_17 rfl rfl ?_
    refine r_iconst 20 (v := 1) dX7_rests_19 (by decide) rfl ?_
    refine r_aload_n 21 dX7_rests_20 rfl rfl ?_
    refine r_geti 24 dX7_rests_21 fz_X7_69 sh_50 rfl rfl ?_
    refine r_eq hR.n ?_
    refine r_ishl 25 dX7_rests_24 rfl ?_
    refine r_eq (b_sl _ (by omega)) ?_
    refine r_icmp_ge 65 28 dX7_rests_25 (by decide) rfl (fun _ => ?_) (fun z => absurd (Int32.le_refl _) z)
    exact hx w hR hF
  | succ k ih =>
    intro g w hi hR hF
    have hcn := cn_le (n := g) (p := (fun g => cal (s_n s) (lw (s_K s) g)))
    have e1 : cn (g + 1) (fun g => cal (s_n s) (lw (s_K s) g)) = cn g (fun g => cal (s_n s) (lw (s_K s) g)) + if cal (s_n s) (lw (s_K s) g) = true then 1 else 0 := rfl
    have hfc := fx_cn (p := (fun g => cal (s_n s) (lw (s_K s) g))) g (by omega)
    refine r_iload 19 dX7_rests_17 rfl rfl ?_
    refine r_iconst 20 (v := 1) dX7_rests_19 (by decide) rfl ?_
    refine r_aload_n 21 dX7_rests_20 rfl rfl ?_
    refine r_geti 24 dX7_rests_21 fz_X7_69 sh_50 rfl rfl ?_
    refine r_eq hR.n ?_
    refine r_ishl 25 dX7_rests_24 rfl ?_
    refine r_eq (b_sl _ (by omega)) ?_
    refine r_icmp_ge 65 28 dX7_rests_25 (by decide) rfl (fun z => absurd z (fun z => absurd ((nI_le' (by omega) (by omega)).mp z) (by omega))) (fun _ => ?_)
    refine r_aload_n 29 dX7_rests_28 rfl rfl ?_
    refine r_callV (y2 := mX7_starts) (as := []) 32 dX7_rests_29 ml_X7_228 mv_X7_starts (m_start (d := d - 1) hR) (by omega) sh_50 ⟨_, rfl, rfl⟩ rfl (Nat.le_of_ble_eq_true rfl) rfl (kk_v ?_)
    rintro w1 ⟨hL, hc, hf⟩
    refine r_aload_n 33 dX7_rests_32 rfl rfl ?_
    refine r_iload 35 dX7_rests_33 rfl rfl ?_
    refine r_callV (y2 := mX7_liesBy) (as := [_]) 38 dX7_rests_35 ml_X7_288 mv_X7_liesBy (m_liesBy (d := d - 1) (by omega) hn (show g < 64 by omega) hL) (by omega) sh_50 ⟨_, rfl, rfl⟩ rfl (Nat.le_of_ble_eq_true rfl) rfl (kk_v ?_)
    rintro w2 ⟨hL2, hc2, hf2⟩
    refine r_aload_n 39 dX7_rests_38 rfl rfl ?_
    refine r_callV (y2 := mX7_isCalm) (as := []) 42 dX7_rests_39 ml_X7_281 mv_X7_isCalm (m_isCalm (d := d - 1) (by omega) hS.1.1.lz hL2 (hc2.trans hc)) (by omega) sh_50 ⟨_, rfl, rfl⟩ rfl (Nat.le_of_ble_eq_true rfl) rfl (kk_i ?_)
    rintro _ w3 ⟨rfl, hL3, hc3, hf3⟩
    have hff := hf.trans (hf2.trans hf3)
    rw [cal_lz hS.1.1]
    refine rb_eq 59 45 dX7_rests_42 (by decide) rfl (fun g42 => ?_) (fun g42 => ?_)
    · rw [if_neg g42, Nat.add_zero] at e1
      have e2 : fx (g + 1) (fun g => cal (s_n s) (lw (s_K s) g)) = fx g (fun g => cal (s_n s) (lw (s_K s) g)) := fx_n g42
      have ih2 := ih (g + 1) w3 (by omega) (hR.fr hff) (hF.trans hff)
      rw [e1, e2] at ih2
      refine r_iinc 62 (L' := [_, _, _, _, _]) (v := nI (g + 1)) dX7_rests_59 rfl (nI_1 g) (by decide) rfl rfl rfl ?_
      refine r_goto 17 dX7_rests_62 (by decide) ?_
      exact ih2
    · rw [if_pos g42] at e1
      have e2 := fx_y (p := (fun g => cal (s_n s) (lw (s_K s) g))) (m := g) (by omega) g42
      have ih2 := ih (g + 1) w3 (by omega) (hR.fr hff) (hF.trans hff)
      rw [e1, ← e2] at ih2
      refine r_iload_n 46 dX7_rests_45 rfl rfl ?_
      refine r_if_ne 54 49 dX7_rests_46 (by decide) rfl (fun g46 => ?_) (fun g46 => ?_)
      · rw [if_neg (fun z => g46 (by rw [hfc.mp z]; rfl))] at ih2
        refine r_iload_n 55 dX7_rests_54 rfl rfl ?_
        refine r_istore_n 56 (L' := [_, _, _, _, _]) dX7_rests_55 (by decide) rfl rfl rfl ?_
        refine r_iinc 59 (L' := [_, _, _, _, _]) (v := nI (cn g (fun g => cal (s_n s) (lw (s_K s) g)) + 1)) dX7_rests_56 rfl (nI_1 _) (by decide) rfl rfl rfl ?_
        refine r_iinc 62 (L' := [_, _, _, _, _]) (v := nI (g + 1)) dX7_rests_59 rfl (nI_1 g) (by decide) rfl rfl rfl ?_
        refine r_goto 17 dX7_rests_62 (by decide) ?_
        exact ih2
      · have g46 : cn g (fun g => cal (s_n s) (lw (s_K s) g)) = 0 := (nI_inj (b := 0) (by omega) (by decide)).mp g46
        rw [if_pos (hfc.mpr g46)] at ih2
        refine r_iload 51 dX7_rests_49 rfl rfl ?_
        refine r_goto 55 dX7_rests_51 (by decide) ?_
        refine r_istore_n 56 (L' := [_, _, _, _, _]) dX7_rests_55 (by decide) rfl rfl rfl ?_
        refine r_iinc 59 (L' := [_, _, _, _, _]) (v := nI (cn g (fun g => cal (s_n s) (lw (s_K s) g)) + 1)) dX7_rests_56 rfl (nI_1 _) (by decide) rfl rfl rfl ?_
        refine r_iinc 62 (L' := [_, _, _, _, _]) (v := nI (g + 1)) dX7_rests_59 rfl (nI_1 g) (by decide) rfl rfl rfl ?_
        refine r_goto 17 dX7_rests_62 (by decide) ?_
        exact ih2
set_option maxRecDepth 20000 in
set_option maxHeartbeats 4000000 in
theorem M_rests {d : Nat} {w : zW} {s : sT} {q : Int32} (hd : 9 ≤ d) (hR : RM w s) (hS : sV s) : AM mX7_rests d [.int q] w (f_rests s q) := by
  have hn := hS.1.n
  refine CT.of [some (.ref 50), some (.int q), none, none, none] rfl (Nat.le_of_ble_eq_true rfl) rfl ?_
  refine r_iload_n 1 dX7_rests_0 rfl rfl ?_
  refine r_callS (y2 := mX7_isPart) (as := [_]) 4 dX7_rests_1 ml_X7_285 ms_X7_isPart (m_isPart (d := d - 1) (by omega)) (by omega) rfl (Nat.le_of_ble_eq_true rfl) rfl (kk_i ?_)
  rintro _ _ ⟨rfl, rfl⟩
  refine rb_ne 9 7 dX7_rests_4 (by decide) rfl (fun g4 => ?_) (fun g4 => ?_)
  · refine r_iconst 10 (v := 0) dX7_rests_9 (by decide) rfl ?_
    refine r_istore_n 11 (L' := [_, _, _, _, _]) dX7_rests_10 (by decide) rfl rfl rfl ?_
    refine r_bipush 13 (v := -4) dX7_rests_11 (by decide) rfl ?_
    refine r_istore_n 14 (L' := [_, _, _, _, _]) dX7_rests_13 (by decide) rfl rfl rfl ?_
    refine r_iconst 15 (v := 0) dX7_rests_14 (by decide) rfl ?_
    refine r_istore 17 (L' := [_, _, _, _, _]) dX7_rests_15 (by decide) rfl rfl rfl ?_
    refine l_restsM (w0 := w) (by omega) hS (fun w1 hR1 hF => ?_) (2 ^ s_n s) 0 w (Nat.zero_add _) hR frR.rfl
    refine r_iload_n 66 dX7_rests_65 rfl rfl ?_
    refine r_if_ne 73 69 dX7_rests_66 (by decide) rfl (fun g66 => ?_) (fun g66 => ?_)
    · refine r_iload_n 74 dX7_rests_73 rfl rfl ?_
      exact r_iret .int dX7_rests_74 rfl (rfl) (⟨by rw [f_rests, if_pos g4]; first | exact (if_pos g66) | exact (if_neg g66), hR1, hF.lo⟩)
    · refine r_iload_n 70 dX7_rests_69 rfl rfl ?_
      refine r_goto 74 dX7_rests_70 (by decide) ?_
      exact r_iret .int dX7_rests_74 rfl (rfl) (⟨by rw [f_rests, if_pos g4]; first | exact (if_pos g66) | exact (if_neg g66), hR1, hF.lo⟩)
  · refine r_iconst 8 (v := -1) dX7_rests_7 (by decide) rfl ?_
    exact r_iret .int dX7_rests_8 rfl (rfl) (by first | exact ⟨by rw [f_rests, if_neg (g4)], by rw [f_rests, if_neg (g4)]; exact hR, fun _ _ => rfl⟩)

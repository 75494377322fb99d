/-! ===== the reference: what its calls share ===== -/
theorem in_wi {v : Int32} {a b : Int64} {lo hi : Int} (ha : a.toInt = lo) (hb : b.toInt = hi) : (a.toInt ≤ v.toInt64.toInt ∧ v.toInt64.toInt ≤ b.toInt) ↔ wi v lo hi = true := by
  rw [wi_iff, tl_i, ha, hb]
theorem RM.k {w : zW} {s : sT} (h : RM w s) {k : Nat} (hk : k < 55) : w 51 k = nI (s_K s k) := by
  have := h.1.1 k hk
  rw [Nat.zero_add] at this
  exact this
theorem RM.n {w : zW} {s : sT} (h : RM w s) : w 50 3 = nI (s_n s) := h.1.2
/-- the lock at hand changes -/
theorem RM.set {w : zW} {s : sT} {x v : Nat} (h : RM w s) (hx : x < 55) : RM (z_up w 51 x (nI v)) (u_lk s (s_n s) (un (s_K s) x v)) := by
  obtain ⟨h1, h2, h3, h4, h5, h6⟩ := h
  have e : ∀ a, a ≠ 51 → z_up w 51 x (nI v) a = w a := fun a ha => z_up_o ha
  refine ⟨⟨fun k hk => ?_, by rw [e 50 (by decide)]; exact h1.2⟩, fun k hk => ⟨by rw [e 53 (by decide)]; exact (h2 k hk).1, fun hb j hj => ?_⟩, ?_, by rw [e 50 (by decide)]; exact h4, ?_, by rw [e 50 (by decide)]; exact h6⟩
  · rw [Nat.zero_add]
    show _ = nI (un (s_K s) x v k)
    by_cases q : k = x
    · rw [q, z_up_s, un_s]
    · rw [z_up_i q, un_n q]
      have := h1.1 k hk
      rw [Nat.zero_add] at this
      exact this
  · rw [z_up_i (by omega)]
    exact (h2 k hk).2 hb j hj
  · exact ⟨by rw [e 50 (by decide)]; exact h3.1, fun i hi => by rw [e 55 (by decide)]; exact h3.2 i hi⟩
  · intro k hk
    have := h5 k hk
    rw [e 60 (by decide), e 61 (by decide), e 62 (by decide)]
    exact this
set_option maxRecDepth 20000 in
set_option maxHeartbeats 4000000 in
theorem m_isBoat {d n : Nat} {w : zW} {b : Int32} (hd : 1 ≤ d) (hn : n ≤ 6) (h2 : w 50 3 = nI n) : CT mX7_isBoat d [.ref 50, .int b] w (z_i fun x w' => z_b (iB n b = true) = x ∧ w = w') := by
  refine CT.of [some (.ref 50), some (.int b)] rfl (Nat.le_of_ble_eq_true rfl) rfl ?_
  refine r_iload_n 1 dX7_isBoat_0 rfl rfl ?_
  refine r_i2l 2 dX7_isBoat_1 rfl ?_
  refine r_lconst 3 (v := 0) dX7_isBoat_2 (by decide) rfl ?_
  refine r_aload_n 4 dX7_isBoat_3 rfl rfl ?_
  refine r_geti 7 dX7_isBoat_4 fz_X7_69 sh_50 rfl rfl ?_
  refine r_eq h2 ?_
  refine r_iconst 8 (v := 1) dX7_isBoat_7 (by decide) rfl ?_
  refine r_isub 9 dX7_isBoat_8 rfl ?_
  refine r_i2l 10 dX7_isBoat_9 rfl ?_
  refine r_callS (y2 := mX7_in) (as := [_, _, _]) 13 dX7_isBoat_10 ml_X7_74 ms_X7_in (m_in (d := d - 1) _ _ _) (by omega) rfl (Nat.le_of_ble_eq_true rfl) rfl (kk_i ?_)
  rintro _ _ ⟨rfl, rfl⟩
  exact r_iret .boolean dX7_isBoat_13 rfl (z_bnar) (⟨z_bc (by rw [iB_iff, tl_i, tl_i, show (nI n - 1).toInt = (n : Int) - 1 from pk_sub_toInt (b := 1) (by omega) (by decide)]; show _ ↔ (0 : Int) ≤ _ ∧ _; omega), rfl⟩)
set_option maxRecDepth 20000 in
set_option maxHeartbeats 4000000 in
theorem m_isPart {d : Nat} {w : zW} {q : Int32} (hd : 1 ≤ d) : CT mX7_isPart d [.int q] w (z_i fun x w' => z_b (wi q 0 1 = true) = x ∧ w = w') := by
  refine CT.of [some (.int q)] rfl (Nat.le_of_ble_eq_true rfl) rfl ?_
  refine r_iload_n 1 dX7_isPart_0 rfl rfl ?_
  refine r_i2l 2 dX7_isPart_1 rfl ?_
  refine r_lconst 3 (v := 0) dX7_isPart_2 (by decide) rfl ?_
  refine r_lconst 4 (v := 1) dX7_isPart_3 (by decide) rfl ?_
  refine r_callS (y2 := mX7_in) (as := [_, _, _]) 7 dX7_isPart_4 ml_X7_74 ms_X7_in (m_in (d := d - 1) _ _ _) (by omega) rfl (Nat.le_of_ble_eq_true rfl) rfl (kk_i ?_)
  rintro _ _ ⟨rfl, rfl⟩
  exact r_iret .boolean dX7_isPart_7 rfl (z_bnar) (⟨z_bc (in_wi (lo := 0) (hi := 1) rfl rfl).symm, rfl⟩)
theorem m_start {d : Nat} {w : zW} {s : sT} (hR : RM w s) : CT mX7_starts d [.ref 50] w (z_v fun w' => atD w' (s_n s) (s_K s) ∧ w' 50 17 = nI 0 ∧ frR w w') := by
  refine r_mono m_starts (fun r w' h => ?_)
  obtain ⟨h0, h1⟩ := h
  refine ⟨h0, ?_⟩
  rw [← h1]
  refine ⟨⟨fun k hk => ?_, ?_⟩, z_up_s, fun q hq => ?_, fun a ha => ?_⟩
  · rw [z_up_a (by decide), z_ua_k, if_pos hk]
    exact hR.k hk
  · rw [z_up_i (by decide), z_ua_o (by decide)]
    exact hR.n
  · rw [z_up_i (by omega), z_ua_o (by decide)]
  · rw [z_up_o (by omega), z_ua_o (by omega)]
theorem atD.R {w w' : zW} {n : Nat} {K : Nat → Nat} (h : atD w n K) (h0 : w' 50 3 = w 50 3) (h1 : w' 52 = w 52) : atD w' n K := h.congr h0 h1
/-- a day of the lock at hand -/
theorem m_go {d A : Nat} {w : zW} {n : Nat} {K : Nat → Nat} (hd : 5 ≤ d) (hA : A ≤ 200) (hV : kV A n K) (hL : atD w n K) (hc : w 50 17 = nI 0) : CT mX7_dayGoes d [.ref 50] w (z_v fun w' => dyM w' n n (dD n K) ∧ atD w' n K ∧ w' 50 17 = nI 0 ∧ frR w w' ∧ w' 59 = w 59) := by
  refine r_mono (m_dayGoes (cg := 0) hd hA hV (by decide) hL hc) (fun r w' h => ?_)
  obtain ⟨h0, h1, h2⟩ := h
  exact ⟨h0, h1, hL.fr h2, by rw [h2.1 17 (by omega)]; exact hc, h2.R, h2.2 59 (by decide) (by decide) (by decide) (by decide)⟩
set_option maxRecDepth 20000 in
set_option maxHeartbeats 4000000 in
theorem m_dayNow {d : Nat} {w : zW} {s : sT} (hd : 6 ≤ d) (hR : RM w s) (hS : sV s) : CT mX7_dayNow d [.ref 50] w (z_v fun w' => dyM w' (s_n s) (s_n s) (dD (s_n s) (s_K s)) ∧ atD w' (s_n s) (s_K s) ∧ frR w w') := by
  refine CT.of [some (.ref 50)] rfl (Nat.le_of_ble_eq_true rfl) rfl ?_
  refine r_aload_n 1 dX7_dayNow_0 rfl rfl ?_
  refine r_callV (y2 := mX7_starts) (as := []) 4 dX7_dayNow_1 ml_X7_228 mv_X7_starts (m_start (d := d - 1) hR) (by omega) sh_50 ⟨_, rfl, rfl⟩ rfl (Nat.le_of_ble_eq_true rfl) rfl (kk_v ?_)
  rintro w1 ⟨hL, hc, hf⟩
  refine r_aload_n 5 dX7_dayNow_4 rfl rfl ?_
  refine r_callV (y2 := mX7_dayGoes) (as := []) 8 dX7_dayNow_5 ml_X7_231 mv_X7_dayGoes (m_go (d := d - 1) (by omega) (by decide) hS.1.1 hL hc) (by omega) sh_50 ⟨_, rfl, rfl⟩ rfl (Nat.le_of_ble_eq_true rfl) rfl (kk_v ?_)
  rintro w2 ⟨hC, hL2, -, hf2, -⟩
  exact r_vret dX7_dayNow_8 rfl (⟨hC, hL2, hf.trans hf2⟩)
theorem atD.up {w : zW} {n x v : Nat} {K : Nat → Nat} (h : atD w n K) (hx : x < 55) : atD (z_up w 52 x (nI v)) n (un K x v) := by
  refine ⟨fun k hk => ?_, by rw [z_up_a (by decide)]; exact h.2⟩
  by_cases q : k = x
  · rw [q, z_up_s, un_s]
  · rw [z_up_i q, un_n q]
    exact h.1 k hk
theorem frR.at {w w' : zW} {x : Nat} {v : Int32} (h : frR w w') : frR w (z_up w' 52 x v) := ⟨fun q hq => by rw [z_up_a (by decide)]; exact h.1 q hq, fun a ha => by rw [z_up_o (by omega)]; exact h.2 a ha⟩
set_option maxRecDepth 20000 in
set_option maxHeartbeats 4000000 in
theorem m_dayBy {d l : Nat} {w : zW} {s : sT} (hd : 6 ≤ d) (hl : l ≤ 4) (hR : RM w s) (hS : sV s) : CT mX7_dayBy d [.ref 50, .int (nI l)] w (z_v fun w' => dyM w' (s_n s) (s_n s) (dD (s_n s) (un (s_K s) 3 l)) ∧ atD w' (s_n s) (un (s_K s) 3 l) ∧ frR w w') := by
  refine CT.of [some (.ref 50), some (.int (nI l))] rfl (Nat.le_of_ble_eq_true rfl) rfl ?_
  refine r_aload_n 1 dX7_dayBy_0 rfl rfl ?_
  refine r_callV (y2 := mX7_starts) (as := []) 4 dX7_dayBy_1 ml_X7_228 mv_X7_starts (m_start (d := d - 1) hR) (by omega) sh_50 ⟨_, rfl, rfl⟩ rfl (Nat.le_of_ble_eq_true rfl) rfl (kk_v ?_)
  rintro w1 ⟨hL, hc, hf⟩
  refine r_aload_n 5 dX7_dayBy_4 rfl rfl ?_
  refine r_getr 8 dX7_dayBy_5 fz_X7_13 sh_50 rfl rfl ?_
  refine r_iconst 9 (v := 3) dX7_dayBy_8 (by decide) rfl ?_
  refine r_iload_n 10 dX7_dayBy_9 rfl rfl ?_
  refine rj_iast 11 (3) dX7_dayBy_10 sh_52 (rfl) (by decide) (by decide) rfl ?_
  refine r_aload_n 12 dX7_dayBy_11 rfl rfl ?_
  refine r_callV (y2 := mX7_dayGoes) (as := []) 15 dX7_dayBy_12 ml_X7_231 mv_X7_dayGoes (m_go (d := d - 1) (by omega) (by decide) (hS.1.1.law hl) (hL.up (by decide)) (by rw [z_up_a (by decide)]; exact hc)) (by omega) sh_50 ⟨_, rfl, rfl⟩ rfl (Nat.le_of_ble_eq_true rfl) rfl (kk_v ?_)
  rintro w2 ⟨hC, hL2, -, hf2, -⟩
  exact r_vret dX7_dayBy_15 rfl (⟨hC, hL2, (hf.at).trans hf2⟩)
set_option maxRecDepth 20000 in
set_option maxHeartbeats 4000000 in
theorem l_costNow {d n A : Nat} {w : zW} {K : Nat → Nat} {D : dT} {T : zX → Prop} (hd : 2 ≤ d) (hV : kV A n K) (hL : atD w n K) (hI : dI n n D) (hC : dyM w n n D) (hx : WP mX7_costNow d T 34 [some (.ref 50), some (.int (nI (sm n (fun b => d_s D b * k_wo K b)))), some (.int (nI n))] [] w) : ∀ k i, i + k = n → WP mX7_costNow d T 4 [some (.ref 50), some (.int (nI (sm i (fun b => d_s D b * k_wo K b)))), some (.int (nI i))] [] w := by
  have hn := hV.n
  intro k
  induction k with
  | zero =>
    intro i hi
    have e : i = n := by omega
    subst e
    refine r_iload_n 5 dX7_costNow_4 rfl rfl ?_
    refine r_aload_n 6 dX7_costNow_5 rfl rfl ?_
    refine r_geti 9 dX7_costNow_6 fz_X7_69 sh_50 rfl rfl ?_
    refine r_eq hL.2 ?_
    refine r_icmp_ge 34 12 dX7_costNow_9 (by decide) rfl (fun _ => ?_) (fun z => absurd (Int32.le_refl _) z)
    exact hx
  | succ k ih =>
    intro i hi
    have hs := (hC.2.2.2.2.2.2 i (by omega) (dI_all hI i (by omega))).2
    refine r_iload_n 5 dX7_costNow_4 rfl rfl ?_
    refine r_aload_n 6 dX7_costNow_5 rfl rfl ?_
    refine r_geti 9 dX7_costNow_6 fz_X7_69 sh_50 rfl rfl ?_
    refine r_eq hL.2 ?_
    refine r_icmp_ge 34 12 dX7_costNow_9 (by decide) rfl (fun z => absurd z (fun z => absurd ((nI_le' (by omega) (by omega)).mp z) (by omega))) (fun _ => ?_)
    refine r_iload_n 13 dX7_costNow_12 rfl rfl ?_
    refine r_aload_n 14 dX7_costNow_13 rfl rfl ?_
    refine r_getr 17 dX7_costNow_14 fz_X7_32 sh_50 rfl rfl ?_
    refine r_iload_n 18 dX7_costNow_17 rfl rfl ?_
    refine rj_iald 19 (i) dX7_costNow_18 sh_58 (rfl) (by omega) (by decide) rfl ?_
    refine r_eq hs ?_
    refine r_aload_n 20 dX7_costNow_19 rfl rfl ?_
    refine r_iload_n 21 dX7_costNow_20 rfl rfl ?_
    refine r_iconst 22 (v := 3) dX7_costNow_21 (by decide) rfl ?_
    refine r_callV (y2 := mX7_of) (as := [_, _]) 25 dX7_costNow_22 ml_X7_166 mv_X7_of (m_of (d := d - 1) (i := i) (j := 3) (by omega) (by decide)) (by omega) sh_50 ⟨_, rfl, rfl⟩ rfl (Nat.le_of_ble_eq_true rfl) rfl (kk_i ?_)
    rintro _ _ ⟨rfl, rfl⟩
    refine r_eq (z := nI (k_wo K i)) (hL.1 _ (by omega)) ?_
    refine r_imul 26 dX7_costNow_25 rfl ?_
    refine r_eq (nI_mul _ _) ?_
    refine r_iadd 27 dX7_costNow_26 rfl ?_
    refine r_eq (nI_add _ _) ?_
    refine r_istore_n 28 (L' := [_, _, _]) dX7_costNow_27 (by decide) rfl rfl rfl ?_
    refine r_iinc 31 (L' := [_, _, _]) (v := nI (i + 1)) dX7_costNow_28 rfl (nI_1 i) (by decide) rfl rfl rfl ?_
    refine r_goto 4 dX7_costNow_31 (by decide) ?_
    exact ih (i + 1) (by omega)
set_option maxRecDepth 20000 in
set_option maxHeartbeats 4000000 in
theorem m_costNow {d n A : Nat} {w : zW} {K : Nat → Nat} {D : dT} (hd : 2 ≤ d) (hV : kV A n K) (hL : atD w n K) (hI : dI n n D) (hC : dyM w n n D) : CT mX7_costNow d [.ref 50] w (z_i fun x w' => nI (sm n (fun b => d_s D b * k_wo K b)) = x ∧ w = w') := by
  refine CT.of [some (.ref 50), none, none] rfl (Nat.le_of_ble_eq_true rfl) rfl ?_
  refine r_iconst 1 (v := 0) dX7_costNow_0 (by decide) rfl ?_
  refine r_istore_n 2 (L' := [_, _, _]) dX7_costNow_1 (by decide) rfl rfl rfl ?_
  refine r_iconst 3 (v := 0) dX7_costNow_2 (by decide) rfl ?_
  refine r_istore_n 4 (L' := [_, _, _]) dX7_costNow_3 (by decide) rfl rfl rfl ?_
  refine l_costNow hd hV hL hI hC ?_ n 0 (Nat.zero_add n)
  refine r_iload_n 35 dX7_costNow_34 rfl rfl ?_
  exact r_iret .int dX7_costNow_35 rfl (rfl) (⟨rfl, rfl⟩)
set_option maxRecDepth 20000 in
set_option maxHeartbeats 4000000 in
theorem l_tells {d n q A : Nat} {w : zW} {K : Nat → Nat} {D : dT} {T : zX → Prop} (hV : kV A n K) (hL : atD w n K) (hI : dI n n D) (hC : dyM w n n D) (hx : WP mX7_tells d T 39 [some (.ref 50), some (.int (nI q)), some (.int (nI (mx n (d_s D)))), some (.int (nI n))] [] w) : ∀ k i, i + k = n → WP mX7_tells d T 4 [some (.ref 50), some (.int (nI q)), some (.int (nI (mx i (d_s D)))), some (.int (nI i))] [] w := by
  have hn := hV.n
  intro k
  induction k with
  | zero =>
    intro i hi
    have e : i = n := by omega
    subst e
    refine r_iload_n 5 dX7_tells_4 rfl rfl ?_
    refine r_aload_n 6 dX7_tells_5 rfl rfl ?_
    refine r_geti 9 dX7_tells_6 fz_X7_69 sh_50 rfl rfl ?_
    refine r_eq hL.2 ?_
    refine r_icmp_ge 39 12 dX7_tells_9 (by decide) rfl (fun _ => ?_) (fun z => absurd (Int32.le_refl _) z)
    exact hx
  | succ k ih =>
    intro i hi
    have hs := (hC.2.2.2.2.2.2 i (by omega) (dI_all hI i (by omega))).2
    have hs4 := (hI.2.2.2.2.2.2.2 i).1
    have hm4 : mx i (d_s D) ≤ 400 := mx_le (fun c _ => (hI.2.2.2.2.2.2.2 c).1)
    have nx := ih (i + 1) (by omega)
    rw [mx] at nx
    refine r_iload_n 5 dX7_tells_4 rfl rfl ?_
    refine r_aload_n 6 dX7_tells_5 rfl rfl ?_
    refine r_geti 9 dX7_tells_6 fz_X7_69 sh_50 rfl rfl ?_
    refine r_eq hL.2 ?_
    refine r_icmp_ge 39 12 dX7_tells_9 (by decide) rfl (fun z => absurd z (fun z => absurd ((nI_le' (by omega) (by omega)).mp z) (by omega))) (fun _ => ?_)
    refine r_aload_n 13 dX7_tells_12 rfl rfl ?_
    refine r_getr 16 dX7_tells_13 fz_X7_32 sh_50 rfl rfl ?_
    refine r_iload_n 17 dX7_tells_16 rfl rfl ?_
    refine rj_iald 18 (i) dX7_tells_17 sh_58 (rfl) (by omega) (by decide) rfl ?_
    refine r_eq hs ?_
    refine r_iload_n 19 dX7_tells_18 rfl rfl ?_
    refine r_icmp_le 31 22 dX7_tells_19 (by decide) rfl (fun g19 => ?_) (fun g19 => ?_)
    · have g19 : d_s D i ≤ mx i (d_s D) := (nI_le' (by omega) (by omega)).mp g19
      rw [Nat.max_eq_left g19] at nx
      refine r_iload_n 32 dX7_tells_31 rfl rfl ?_
      refine r_istore_n 33 (L' := [_, _, _, _]) dX7_tells_32 (by decide) rfl rfl rfl ?_
      refine r_iinc 36 (L' := [_, _, _, _]) (v := nI (i + 1)) dX7_tells_33 rfl (nI_1 i) (by decide) rfl rfl rfl ?_
      refine r_goto 4 dX7_tells_36 (by decide) ?_
      exact nx
    · have g19 : ¬ d_s D i ≤ mx i (d_s D) := fun z => g19 ((nI_le' (by omega) (by omega)).mpr z)
      rw [Nat.max_eq_right (by omega)] at nx
      refine r_aload_n 23 dX7_tells_22 rfl rfl ?_
      refine r_getr 26 dX7_tells_23 fz_X7_32 sh_50 rfl rfl ?_
      refine r_iload_n 27 dX7_tells_26 rfl rfl ?_
      refine rj_iald 28 (i) dX7_tells_27 sh_58 (rfl) (by omega) (by decide) rfl ?_
      refine r_eq hs ?_
      refine r_goto 32 dX7_tells_28 (by decide) ?_
      refine r_istore_n 33 (L' := [_, _, _, _]) dX7_tells_32 (by decide) rfl rfl rfl ?_
      refine r_iinc 36 (L' := [_, _, _, _]) (v := nI (i + 1)) dX7_tells_33 rfl (nI_1 i) (by decide) rfl rfl rfl ?_
      refine r_goto 4 dX7_tells_36 (by decide) ?_
      exact nx
set_option maxRecDepth 20000 in
set_option maxHeartbeats 4000000 in
theorem m_tells {d n q A : Nat} {w : zW} {K : Nat → Nat} {D : dT} (hd : 3 ≤ d) (hq : q ≤ 4) (hV : kV A n K) (hL : atD w n K) (hI : dI n n D) (hC : dyM w n n D) (h0 : n = 0 → d_f D = 0) : CT mX7_tells d [.ref 50, .int (nI q)] w (z_i fun x w' => nI (meas n K D q) = x ∧ w = w') := by
  have hn := hV.n
  refine CT.of [some (.ref 50), some (.int (nI q)), none, none] rfl (Nat.le_of_ble_eq_true rfl) rfl ?_
  refine r_iconst 1 (v := 0) dX7_tells_0 (by decide) rfl ?_
  refine r_istore_n 2 (L' := [_, _, _, _]) dX7_tells_1 (by decide) rfl rfl rfl ?_
  refine r_iconst 3 (v := 0) dX7_tells_2 (by decide) rfl ?_
  refine r_istore_n 4 (L' := [_, _, _, _]) dX7_tells_3 (by decide) rfl rfl rfl ?_
  refine l_tells hV hL hI hC ?_ n 0 (Nat.zero_add n)
  refine r_iload_n 40 dX7_tells_39 rfl rfl ?_
  refine r_if_ne 50 43 dX7_tells_40 (by decide) rfl (fun g40 => ?_) (fun g40 => ?_)
  · have g40 : ¬ q = 0 := fun z => g40 (by rw [z]; rfl)
    refine r_iload_n 51 dX7_tells_50 rfl rfl ?_
    refine r_iconst 52 (v := 1) dX7_tells_51 (by decide) rfl ?_
    refine r_icmp_ne 59 55 dX7_tells_52 (by decide) rfl (fun g52 => ?_) (fun g52 => ?_)
    · have g52 : ¬ q = 1 := fun z => g52 (by rw [z]; rfl)
      refine r_iload_n 60 dX7_tells_59 rfl rfl ?_
      refine r_iconst 61 (v := 2) dX7_tells_60 (by decide) rfl ?_
      refine r_icmp_ne 71 64 dX7_tells_61 (by decide) rfl (fun g61 => ?_) (fun g61 => ?_)
      · have g61 : ¬ q = 2 := fun z => g61 (by rw [z]; rfl)
        refine r_iload_n 72 dX7_tells_71 rfl rfl ?_
        refine r_iconst 73 (v := 3) dX7_tells_72 (by decide) rfl ?_
        refine r_icmp_ne 94 76 dX7_tells_73 (by decide) rfl (fun g73 => ?_) (fun g73 => ?_)
        · have g73 : ¬ q = 3 := fun z => g73 (by rw [z]; rfl)
          refine r_aload_n 95 dX7_tells_94 rfl rfl ?_
          refine r_geti 98 dX7_tells_95 fz_X7_181 sh_50 rfl rfl ?_
          refine r_eq hC.2.2.2.2.1 ?_
          exact r_iret .int dX7_tells_98 rfl (rfl) (by first | exact ⟨by rw [meas, if_pos g40], rfl⟩ | exact ⟨by rw [meas, if_neg g40, if_pos g52], rfl⟩ | exact ⟨by rw [meas, if_neg g40, if_neg g52, if_pos g61], rfl⟩ | exact ⟨by rw [meas, if_neg g40, if_neg g52, if_neg g61, if_pos g73, h0 g80]; rfl, rfl⟩ | exact ⟨by rw [meas, if_neg g40, if_neg g52, if_neg g61, if_pos g73], rfl⟩ | exact ⟨by rw [meas, if_neg g40, if_neg g52, if_neg g61, if_neg g73], rfl⟩)
        · have g73 : q = 3 := (nI_inj (b := 3) (by omega) (by decide)).mp g73
          refine r_aload_n 77 dX7_tells_76 rfl rfl ?_
          refine r_geti 80 dX7_tells_77 fz_X7_69 sh_50 rfl rfl ?_
          refine r_eq hL.2 ?_
          refine r_if_ne 87 83 dX7_tells_80 (by decide) rfl (fun g80 => ?_) (fun g80 => ?_)
          · refine r_aload_n 88 dX7_tells_87 rfl rfl ?_
            refine r_geti 91 dX7_tells_88 fz_X7_172 sh_50 rfl rfl ?_
            refine r_eq hC.2.1 ?_
            refine r_goto 98 dX7_tells_91 (by decide) ?_
            exact r_iret .int dX7_tells_98 rfl (rfl) (by first | exact ⟨by rw [meas, if_pos g40], rfl⟩ | exact ⟨by rw [meas, if_neg g40, if_pos g52], rfl⟩ | exact ⟨by rw [meas, if_neg g40, if_neg g52, if_pos g61], rfl⟩ | exact ⟨by rw [meas, if_neg g40, if_neg g52, if_neg g61, if_pos g73, h0 g80]; rfl, rfl⟩ | exact ⟨by rw [meas, if_neg g40, if_neg g52, if_neg g61, if_pos g73], rfl⟩ | exact ⟨by rw [meas, if_neg g40, if_neg g52, if_neg g61, if_neg g73], rfl⟩)
          · have g80 : n = 0 := (nI_inj (b := 0) (by omega) (by decide)).mp g80
            refine r_iconst 84 (v := 0) dX7_tells_83 (by decide) rfl ?_
            refine r_goto 98 dX7_tells_84 (by decide) ?_
            exact r_iret .int dX7_tells_98 rfl (rfl) (by first | exact ⟨by rw [meas, if_pos g40], rfl⟩ | exact ⟨by rw [meas, if_neg g40, if_pos g52], rfl⟩ | exact ⟨by rw [meas, if_neg g40, if_neg g52, if_pos g61], rfl⟩ | exact ⟨by rw [meas, if_neg g40, if_neg g52, if_neg g61, if_pos g73, h0 g80]; rfl, rfl⟩ | exact ⟨by rw [meas, if_neg g40, if_neg g52, if_neg g61, if_pos g73], rfl⟩ | exact ⟨by rw [meas, if_neg g40, if_neg g52, if_neg g61, if_neg g73], rfl⟩)
      · have g61 : q = 2 := (nI_inj (b := 2) (by omega) (by decide)).mp g61
        refine r_aload_n 65 dX7_tells_64 rfl rfl ?_
        refine r_geti 68 dX7_tells_65 fz_X7_178 sh_50 rfl rfl ?_
        refine r_eq hC.2.2.2.1 ?_
        refine r_goto 98 dX7_tells_68 (by decide) ?_
        exact r_iret .int dX7_tells_98 rfl (rfl) (by first | exact ⟨by rw [meas, if_pos g40], rfl⟩ | exact ⟨by rw [meas, if_neg g40, if_pos g52], rfl⟩ | exact ⟨by rw [meas, if_neg g40, if_neg g52, if_pos g61], rfl⟩ | exact ⟨by rw [meas, if_neg g40, if_neg g52, if_neg g61, if_pos g73, h0 g80]; rfl, rfl⟩ | exact ⟨by rw [meas, if_neg g40, if_neg g52, if_neg g61, if_pos g73], rfl⟩ | exact ⟨by rw [meas, if_neg g40, if_neg g52, if_neg g61, if_neg g73], rfl⟩)
    · have g52 : q = 1 := (nI_inj (b := 1) (by omega) (by decide)).mp g52
      refine r_iload_n 56 dX7_tells_55 rfl rfl ?_
      refine r_goto 98 dX7_tells_56 (by decide) ?_
      exact r_iret .int dX7_tells_98 rfl (rfl) (by first | exact ⟨by rw [meas, if_pos g40], rfl⟩ | exact ⟨by rw [meas, if_neg g40, if_pos g52], rfl⟩ | exact ⟨by rw [meas, if_neg g40, if_neg g52, if_pos g61], rfl⟩ | exact ⟨by rw [meas, if_neg g40, if_neg g52, if_neg g61, if_pos g73, h0 g80]; rfl, rfl⟩ | exact ⟨by rw [meas, if_neg g40, if_neg g52, if_neg g61, if_pos g73], rfl⟩ | exact ⟨by rw [meas, if_neg g40, if_neg g52, if_neg g61, if_neg g73], rfl⟩)
  · have g40 : q = 0 := (nI_inj (b := 0) (by omega) (by decide)).mp g40
    refine r_aload_n 44 dX7_tells_43 rfl rfl ?_
    refine r_callV (y2 := mX7_costNow) (as := []) 47 dX7_tells_44 ml_X7_225 mv_X7_costNow (m_costNow (d := d - 1) (by omega) hV hL hI hC) (by omega) sh_50 ⟨_, rfl, rfl⟩ rfl (Nat.le_of_ble_eq_true rfl) rfl (kk_i ?_)
    rintro _ _ ⟨rfl, rfl⟩
    refine r_goto 98 dX7_tells_47 (by decide) ?_
    exact r_iret .int dX7_tells_98 rfl (rfl) (by first | exact ⟨by rw [meas, if_pos g40], rfl⟩ | exact ⟨by rw [meas, if_neg g40, if_pos g52], rfl⟩ | exact ⟨by rw [meas, if_neg g40, if_neg g52, if_pos g61], rfl⟩ | exact ⟨by rw [meas, if_neg g40, if_neg g52, if_neg g61, if_pos g73, h0 g80]; rfl, rfl⟩ | exact ⟨by rw [meas, if_neg g40, if_neg g52, if_neg g61, if_pos g73], rfl⟩ | exact ⟨by rw [meas, if_neg g40, if_neg g52, if_neg g61, if_neg g73], rfl⟩)
/-- the place of a boat among the first m: the last one found -/
def plc (p : Nat → Nat) (b : Nat) : Nat → Int32
  | 0 => -4
  | m + 1 => if p m = b then nI m else plc p b m
set_option maxRecDepth 20000 in
set_option maxHeartbeats 4000000 in
theorem l_placeOf {d n b : Nat} {w : zW} {D : dT} {T : zX → Prop} (hn : n ≤ 6) (hb : b < 6) (hI : dI n n D) (hC : dyM w n n D) (hx : WP mX7_placeOf d T 35 [some (.ref 50), some (.int (nI b)), some (.int (plc (d_p D) b n)), some (.int (nI n))] [] w) : ∀ k i, i + k = n → WP mX7_placeOf d T 5 [some (.ref 50), some (.int (nI b)), some (.int (plc (d_p D) b i)), some (.int (nI i))] [] w := by
  intro k
  induction k with
  | zero =>
    intro i hi
    have e : i = n := by omega
    subst e
    refine r_iload_n 6 dX7_placeOf_5 rfl rfl ?_
    refine r_aload_n 7 dX7_placeOf_6 rfl rfl ?_
    refine r_geti 10 dX7_placeOf_7 fz_X7_169 sh_50 rfl rfl ?_
    refine r_eq hC.1 ?_
    refine r_icmp_ge 35 13 dX7_placeOf_10 (by decide) rfl (fun _ => ?_) (fun z => absurd (Int32.le_refl _) z)
    exact hx
  | succ k ih =>
    intro i hi
    have hp := hC.2.2.2.2.2.1 i (by omega)
    have hpl := (hI.2.2.1 i (by omega)).1
    have nx := ih (i + 1) (by omega)
    rw [plc] at nx
    refine r_iload_n 6 dX7_placeOf_5 rfl rfl ?_
    refine r_aload_n 7 dX7_placeOf_6 rfl rfl ?_
    refine r_geti 10 dX7_placeOf_7 fz_X7_169 sh_50 rfl rfl ?_
    refine r_eq hC.1 ?_
    refine r_icmp_ge 35 13 dX7_placeOf_10 (by decide) rfl (fun z => absurd z (fun z => absurd ((nI_le' (by omega) (by omega)).mp z) (by omega))) (fun _ => ?_)
    refine r_aload_n 14 dX7_placeOf_13 rfl rfl ?_
    refine r_getr 17 dX7_placeOf_14 fz_X7_26 sh_50 rfl rfl ?_
    refine r_iload_n 18 dX7_placeOf_17 rfl rfl ?_
    refine rj_iald 19 (i) dX7_placeOf_18 sh_56 (rfl) (by omega) (by decide) rfl ?_
    refine r_eq hp ?_
    refine r_iload_n 20 dX7_placeOf_19 rfl rfl ?_
    refine r_icmp_ne 27 23 dX7_placeOf_20 (by decide) rfl (fun g20 => ?_) (fun g20 => ?_)
    · have g20 : ¬ d_p D i = b := fun z => g20 (by rw [z])
      rw [if_neg g20] at nx
      refine r_iload_n 28 dX7_placeOf_27 rfl rfl ?_
      refine r_istore_n 29 (L' := [_, _, _, _]) dX7_placeOf_28 (by decide) rfl rfl rfl ?_
      refine r_iinc 32 (L' := [_, _, _, _]) (v := nI (i + 1)) dX7_placeOf_29 rfl (nI_1 i) (by decide) rfl rfl rfl ?_
      refine r_goto 5 dX7_placeOf_32 (by decide) ?_
      exact nx
    · have g20 : d_p D i = b := (nI_inj (by omega) (by omega)).mp g20
      rw [if_pos g20] at nx
      refine r_iload_n 24 dX7_placeOf_23 rfl rfl ?_
      refine r_goto 28 dX7_placeOf_24 (by decide) ?_
      refine r_istore_n 29 (L' := [_, _, _, _]) dX7_placeOf_28 (by decide) rfl rfl rfl ?_
      refine r_iinc 32 (L' := [_, _, _, _]) (v := nI (i + 1)) dX7_placeOf_29 rfl (nI_1 i) (by decide) rfl rfl rfl ?_
      refine r_goto 5 dX7_placeOf_32 (by decide) ?_
      exact nx
set_option maxRecDepth 20000 in
set_option maxHeartbeats 4000000 in
theorem m_placeOf {d n b : Nat} {w : zW} {D : dT} (hn : n ≤ 6) (hb : b < 6) (hI : dI n n D) (hC : dyM w n n D) : CT mX7_placeOf d [.ref 50, .int (nI b)] w (z_i fun x w' => plc (d_p D) b n = x ∧ w = w') := by
  refine CT.of [some (.ref 50), some (.int (nI b)), none, none] rfl (Nat.le_of_ble_eq_true rfl) rfl ?_
  refine r_bipush 2 (v := -4) dX7_placeOf_0 (by decide) rfl ?_
  refine r_istore_n 3 (L' := [_, _, _, _]) dX7_placeOf_2 (by decide) rfl rfl rfl ?_
  refine r_iconst 4 (v := 0) dX7_placeOf_3 (by decide) rfl ?_
  refine r_istore_n 5 (L' := [_, _, _, _]) dX7_placeOf_4 (by decide) rfl rfl rfl ?_
  refine l_placeOf hn hb hI hC ?_ n 0 (Nat.zero_add n)
  refine r_iload_n 36 dX7_placeOf_35 rfl rfl ?_
  exact r_iret .int dX7_placeOf_36 rfl (rfl) (⟨rfl, rfl⟩)
set_option maxRecDepth 20000 in
set_option maxHeartbeats 4000000 in
theorem l_liars {d : Nat} {w : zW} {s : sT} {T : zX → Prop} (hR : RM w s) (hS : sV s) (hx : WP mX7_liars d T 37 [some (.ref 50), some (.int (nI (lm (s_n s) (s_K s)))), some (.int (nI (s_n s)))] [] w) : ∀ k i, i + k = s_n s → WP mX7_liars d T 4 [some (.ref 50), some (.int (nI (lm i (s_K s)))), some (.int (nI i))] [] w := by
  have hn := hS.1.n
  intro k
  induction k with
  | zero =>
    intro i hi
    have e : i = s_n s := by omega
    subst e
    refine r_iload_n 5 dX7_liars_4 rfl rfl ?_
    refine r_aload_n 6 dX7_liars_5 rfl rfl ?_
    refine r_geti 9 dX7_liars_6 fz_X7_69 sh_50 rfl rfl ?_
    refine r_eq hR.n ?_
    refine r_icmp_ge 37 12 dX7_liars_9 (by decide) rfl (fun _ => ?_) (fun z => absurd (Int32.le_refl _) z)
    exact hx
  | succ k ih =>
    intro i hi
    have hl := hS.1.lie (b := i) (by omega)
    have hg : lm i (s_K s) < 64 := mk_64 (by omega)
    have e1 : lm (i + 1) (s_K s) = lm i (s_K s) + if s_K s (6 + 6 * i + 5) = 1 then 2 ^ i else 0 := by
      unfold lm
      rw [mk]
      simp only [beq_iff_eq]
    have nx := ih (i + 1) (by omega)
    rw [e1] at nx
    refine r_iload_n 5 dX7_liars_4 rfl rfl ?_
    refine r_aload_n 6 dX7_liars_5 rfl rfl ?_
    refine r_geti 9 dX7_liars_6 fz_X7_69 sh_50 rfl rfl ?_
    refine r_eq hR.n ?_
    refine r_icmp_ge 37 12 dX7_liars_9 (by decide) rfl (fun z => absurd z (fun z => absurd ((nI_le' (by omega) (by omega)).mp z) (by omega))) (fun _ => ?_)
    refine r_iload_n 13 dX7_liars_12 rfl rfl ?_
    refine r_aload_n 14 dX7_liars_13 rfl rfl ?_
    refine r_getr 17 dX7_liars_14 fz_X7_7 sh_50 rfl rfl ?_
    refine r_bipush 19 (v := 6) dX7_liars_17 (by decide) rfl ?_
    refine r_bipush 21 (v := 6) dX7_liars_19 (by decide) rfl ?_
    refine r_iload_n 22 dX7_liars_21 rfl rfl ?_
    refine r_imul 23 dX7_liars_22 rfl ?_
    refine r_eq (z := nI (6 * i)) (nI_mul 6 i) ?_
    refine r_iadd 24 dX7_liars_23 rfl ?_
    refine r_eq (z := nI (6 + 6 * i)) (nI_add 6 _) ?_
    refine r_iconst 25 (v := 5) dX7_liars_24 (by decide) rfl ?_
    refine r_iadd 26 dX7_liars_25 rfl ?_
    refine r_eq (z := nI (6 + 6 * i + 5)) (nI_add _ 5) ?_
    refine rj_iald 27 (6 + 6 * i + 5) dX7_liars_26 sh_51 (rfl) (by omega) (by decide) rfl ?_
    refine r_eq (z := z_b (s_K s (6 + 6 * i + 5) = 1)) (by rw [hR.k (by omega)]; rcases (by omega : s_K s (6 + 6 * i + 5) = 0 ∨ s_K s (6 + 6 * i + 5) = 1) with q | q <;> rw [q] <;> rfl) ?_
    refine r_iload_n 28 dX7_liars_27 rfl rfl ?_
    refine r_ishl 29 dX7_liars_28 rfl ?_
    refine r_ior 30 dX7_liars_29 rfl ?_
    refine r_eq (or_step hg (by omega) (mk_top (by omega))) ?_
    refine r_istore_n 31 (L' := [_, _, _]) dX7_liars_30 (by decide) rfl rfl rfl ?_
    refine r_iinc 34 (L' := [_, _, _]) (v := nI (i + 1)) dX7_liars_31 rfl (nI_1 i) (by decide) rfl rfl rfl ?_
    refine r_goto 4 dX7_liars_34 (by decide) ?_
    exact nx
set_option maxRecDepth 20000 in
set_option maxHeartbeats 4000000 in
theorem m_liars {d : Nat} {w : zW} {s : sT} (hR : RM w s) (hS : sV s) : CT mX7_liars d [.ref 50] w (z_i fun x w' => nI (lm (s_n s) (s_K s)) = x ∧ w = w') := by
  refine CT.of [some (.ref 50), none, none] rfl (Nat.le_of_ble_eq_true rfl) rfl ?_
  refine r_iconst 1 (v := 0) dX7_liars_0 (by decide) rfl ?_
  refine r_istore_n 2 (L' := [_, _, _]) dX7_liars_1 (by decide) rfl rfl rfl ?_
  refine r_iconst 3 (v := 0) dX7_liars_2 (by decide) rfl ?_
  refine r_istore_n 4 (L' := [_, _, _]) dX7_liars_3 (by decide) rfl rfl rfl ?_
  refine l_liars hR hS ?_ (s_n s) 0 (Nat.zero_add _)
  refine r_iload_n 38 dX7_liars_37 rfl rfl ?_
  exact r_iret .int dX7_liars_38 rfl (rfl) (⟨rfl, rfl⟩)
set_option maxRecDepth 20000 in
set_option maxHeartbeats 4000000 in
theorem m_mostOf {d j : Nat} {w : zW} (hj : j < 6) : CT mX7_mostOf d [.int (nI j)] w (z_i fun x w' => nI (mostR j) = x ∧ w = w') := by
  refine CT.of [some (.int (nI j))] rfl (Nat.le_of_ble_eq_true rfl) rfl ?_
  refine r_iload_n 1 dX7_mostOf_0 rfl rfl ?_
  refine r_iconst 2 (v := 2) dX7_mostOf_1 (by decide) rfl ?_
  refine r_icmp_eq 10 5 dX7_mostOf_2 (by decide) rfl (fun g2 => ?_) (fun g2 => ?_)
  · have g2 : j = 2 := (nI_inj (b := 2) (by omega) (by decide)).mp g2
    refine r_iconst 11 (v := 1) dX7_mostOf_10 (by decide) rfl ?_
    refine r_goto 25 dX7_mostOf_11 (by decide) ?_
    exact r_iret .int dX7_mostOf_25 rfl (rfl) (by first | exact ⟨by rw [mostR, if_pos (Or.inl g2)]; rfl, rfl⟩ | exact ⟨by rw [mostR, if_pos (Or.inr g7)]; rfl, rfl⟩ | exact ⟨by rw [mostR, if_neg (by omega), if_pos g16]; rfl, rfl⟩ | exact ⟨by rw [mostR, if_neg (by omega), if_neg g16]; rfl, rfl⟩)
  · have g2 : ¬ j = 2 := fun z => g2 (by rw [z]; rfl)
    refine r_iload_n 6 dX7_mostOf_5 rfl rfl ?_
    refine r_iconst 7 (v := 5) dX7_mostOf_6 (by decide) rfl ?_
    refine r_icmp_ne 14 10 dX7_mostOf_7 (by decide) rfl (fun g7 => ?_) (fun g7 => ?_)
    · have g7 : ¬ j = 5 := fun z => g7 (by rw [z]; rfl)
      refine r_iload_n 15 dX7_mostOf_14 rfl rfl ?_
      refine r_iconst 16 (v := 3) dX7_mostOf_15 (by decide) rfl ?_
      refine r_icmp_ne 23 19 dX7_mostOf_16 (by decide) rfl (fun g16 => ?_) (fun g16 => ?_)
      · have g16 : ¬ j = 3 := fun z => g16 (by rw [z]; rfl)
        refine r_bipush 25 (v := 9) dX7_mostOf_23 (by decide) rfl ?_
        exact r_iret .int dX7_mostOf_25 rfl (rfl) (by first | exact ⟨by rw [mostR, if_pos (Or.inl g2)]; rfl, rfl⟩ | exact ⟨by rw [mostR, if_pos (Or.inr g7)]; rfl, rfl⟩ | exact ⟨by rw [mostR, if_neg (by omega), if_pos g16]; rfl, rfl⟩ | exact ⟨by rw [mostR, if_neg (by omega), if_neg g16]; rfl, rfl⟩)
      · have g16 : j = 3 := (nI_inj (b := 3) (by omega) (by decide)).mp g16
        refine r_iconst 20 (v := 4) dX7_mostOf_19 (by decide) rfl ?_
        refine r_goto 25 dX7_mostOf_20 (by decide) ?_
        exact r_iret .int dX7_mostOf_25 rfl (rfl) (by first | exact ⟨by rw [mostR, if_pos (Or.inl g2)]; rfl, rfl⟩ | exact ⟨by rw [mostR, if_pos (Or.inr g7)]; rfl, rfl⟩ | exact ⟨by rw [mostR, if_neg (by omega), if_pos g16]; rfl, rfl⟩ | exact ⟨by rw [mostR, if_neg (by omega), if_neg g16]; rfl, rfl⟩)
    · have g7 : j = 5 := (nI_inj (b := 5) (by omega) (by decide)).mp g7
      refine r_iconst 11 (v := 1) dX7_mostOf_10 (by decide) rfl ?_
      refine r_goto 25 dX7_mostOf_11 (by decide) ?_
      exact r_iret .int dX7_mostOf_25 rfl (rfl) (by first | exact ⟨by rw [mostR, if_pos (Or.inl g2)]; rfl, rfl⟩ | exact ⟨by rw [mostR, if_pos (Or.inr g7)]; rfl, rfl⟩ | exact ⟨by rw [mostR, if_neg (by omega), if_pos g16]; rfl, rfl⟩ | exact ⟨by rw [mostR, if_neg (by omega), if_neg g16]; rfl, rfl⟩)
set_option maxRecDepth 20000 in
set_option maxHeartbeats 4000000 in
theorem l_copies {d a b : Nat} {w0 : zW} {T : zX → Prop} (ha : a + 55 ≤ 165) (hb : b + 55 ≤ 165) (hab : a + 55 ≤ b ∨ b + 55 ≤ a) (hx : ∀ w, (∀ k, k < 55 → w 51 (a + k) = w0 51 (b + k)) → (∀ k, k < a ∨ a + 55 ≤ k → w 51 k = w0 51 k) → (∀ c, c ≠ 51 → w c = w0 c) → WP mX7_copies d T 30 [some (.ref 50), some (.int (nI a)), some (.int (nI b)), some (.int (nI 55))] [] w) : ∀ k i (w : zW), i + k = 55 → (∀ k, k < i → w 51 (a + k) = w0 51 (b + k)) → (∀ k, k < a ∨ a + i ≤ k → w 51 k = w0 51 k) → (∀ c, c ≠ 51 → w c = w0 c) → WP mX7_copies d T 2 [some (.ref 50), some (.int (nI a)), some (.int (nI b)), some (.int (nI i))] [] w := by
  intro k
  induction k with
  | zero =>
    intro i w hi h1 h2 h3
    have e : i = 55 := by omega
    subst e
    refine r_iload_n 3 dX7_copies_2 rfl rfl ?_
    refine r_bipush 5 (v := 55) dX7_copies_3 (by decide) rfl ?_
    refine r_icmp_ge 30 8 dX7_copies_5 (by decide) rfl (fun _ => ?_) (fun z => absurd (Int32.le_refl _) z)
    exact hx w h1 h2 h3
  | succ k ih =>
    intro i w hi h1 h2 h3
    refine r_iload_n 3 dX7_copies_2 rfl rfl ?_
    refine r_bipush 5 (v := 55) dX7_copies_3 (by decide) rfl ?_
    refine r_icmp_ge 30 8 dX7_copies_5 (by decide) rfl (fun z => absurd z (fun z => absurd ((nI_le' (a := 55) (by decide) (by omega)).mp z) (by omega))) (fun _ => ?_)
    refine r_aload_n 9 dX7_copies_8 rfl rfl ?_
    refine r_getr 12 dX7_copies_9 fz_X7_7 sh_50 rfl rfl ?_
    refine r_iload_n 13 dX7_copies_12 rfl rfl ?_
    refine r_iload_n 14 dX7_copies_13 rfl rfl ?_
    refine r_iadd 15 dX7_copies_14 rfl ?_
    refine r_eq (nI_add _ _) ?_
    refine r_aload_n 16 dX7_copies_15 rfl rfl ?_
    refine r_getr 19 dX7_copies_16 fz_X7_7 sh_50 rfl rfl ?_
    refine r_iload_n 20 dX7_copies_19 rfl rfl ?_
    refine r_iload_n 21 dX7_copies_20 rfl rfl ?_
    refine r_iadd 22 dX7_copies_21 rfl ?_
    refine r_eq (nI_add _ _) ?_
    refine rj_iald 23 (b + i) dX7_copies_22 sh_51 (rfl) (by omega) (by decide) rfl ?_
    refine r_eq (h2 (b + i) (by omega)) ?_
    refine rj_iast 24 (a + i) dX7_copies_23 sh_51 (rfl) (by omega) (by decide) rfl ?_
    refine r_iinc 27 (L' := [_, _, _, _]) (v := nI (i + 1)) dX7_copies_24 rfl (nI_1 i) (by decide) rfl rfl rfl ?_
    refine r_goto 2 dX7_copies_27 (by decide) ?_
    exact ih (i + 1) _ (by omega) (fun k hk => by by_cases e : k = i; (rw [e, z_up_s]); (rw [z_up_i (by omega)]; exact h1 k (by omega))) (fun k hk => by rw [z_up_i (by omega)]; exact h2 k (by omega)) (fun c hc => by rw [z_up_o hc]; exact h3 c hc)
set_option maxRecDepth 20000 in
set_option maxHeartbeats 4000000 in
theorem m_copies {d a b : Nat} {w : zW} (ha : a + 55 ≤ 165) (hb : b + 55 ≤ 165) (hab : a + 55 ≤ b ∨ b + 55 ≤ a) : CT mX7_copies d [.ref 50, .int (nI a), .int (nI b)] w (z_v fun w' => (∀ k, k < 55 → w' 51 (a + k) = w 51 (b + k)) ∧ (∀ k, k < a ∨ a + 55 ≤ k → w' 51 k = w 51 k) ∧ ∀ c, c ≠ 51 → w' c = w c) := by
  refine CT.of [some (.ref 50), some (.int (nI a)), some (.int (nI b)), none] rfl (Nat.le_of_ble_eq_true rfl) rfl ?_
  refine r_iconst 1 (v := 0) dX7_copies_0 (by decide) rfl ?_
  refine r_istore_n 2 (L' := [_, _, _, _]) dX7_copies_1 (by decide) rfl rfl rfl ?_
  refine l_copies (w0 := w) ha hb hab (fun w1 h1 h2 h3 => ?_) 55 0 w rfl (fun k hk => absurd hk (Nat.not_lt_zero k)) (fun _ _ => rfl) (fun _ _ => rfl)
  exact r_vret dX7_copies_30 rfl (⟨h1, h2, h3⟩)
set_option maxRecDepth 20000 in
set_option maxHeartbeats 4000000 in
theorem m_isSheet {d : Nat} {w : zW} {k l : Int32} (hd : 1 ≤ d) : CT mX7_isSheet d [.int k, .int l] w (z_i fun x w' => z_b (wi k 0 3 = true ∧ wi l 0 2 = true) = x ∧ w = w') := by
  refine CT.of [some (.int k), some (.int l)] rfl (Nat.le_of_ble_eq_true rfl) rfl ?_
  refine r_iload_n 1 dX7_isSheet_0 rfl rfl ?_
  refine r_i2l 2 dX7_isSheet_1 rfl ?_
  refine r_lconst 3 (v := 0) dX7_isSheet_2 (by decide) rfl ?_
  refine r_ldc2 6 dX7_isSheet_3 kl_X7_250 rfl ?_
  refine r_callS (y2 := mX7_in) (as := [_, _, _]) 9 dX7_isSheet_6 ml_X7_74 ms_X7_in (m_in (d := d - 1) _ _ _) (by omega) rfl (Nat.le_of_ble_eq_true rfl) rfl (kk_i ?_)
  rintro _ _ ⟨rfl, rfl⟩
  refine r_eq (z_bc (in_wi (lo := 0) (hi := 3) rfl rfl)) ?_
  refine rb_eq 28 12 dX7_isSheet_9 (by decide) rfl (fun g9 => ?_) (fun g9 => ?_)
  · refine r_iconst 29 (v := 0) dX7_isSheet_28 (by decide) rfl ?_
    exact r_iret .boolean dX7_isSheet_29 rfl (rfl) (by first | exact ⟨z_bp ⟨g9, g21⟩, rfl⟩ | exact ⟨z_bn (fun z => g9 z.1), rfl⟩ | exact ⟨z_bn (fun z => g21 z.2), rfl⟩)
  · refine r_iload_n 13 dX7_isSheet_12 rfl rfl ?_
    refine r_i2l 14 dX7_isSheet_13 rfl ?_
    refine r_lconst 15 (v := 0) dX7_isSheet_14 (by decide) rfl ?_
    refine r_ldc2 18 dX7_isSheet_15 kl_X7_153 rfl ?_
    refine r_callS (y2 := mX7_in) (as := [_, _, _]) 21 dX7_isSheet_18 ml_X7_74 ms_X7_in (m_in (d := d - 1) _ _ _) (by omega) rfl (Nat.le_of_ble_eq_true rfl) rfl (kk_i ?_)
    rintro _ _ ⟨rfl, rfl⟩
    refine r_eq (z_bc (in_wi (lo := 0) (hi := 2) rfl rfl)) ?_
    refine rb_eq 28 24 dX7_isSheet_21 (by decide) rfl (fun g21 => ?_) (fun g21 => ?_)
    · refine r_iconst 29 (v := 0) dX7_isSheet_28 (by decide) rfl ?_
      exact r_iret .boolean dX7_isSheet_29 rfl (rfl) (by first | exact ⟨z_bp ⟨g9, g21⟩, rfl⟩ | exact ⟨z_bn (fun z => g9 z.1), rfl⟩ | exact ⟨z_bn (fun z => g21 z.2), rfl⟩)
    · refine r_iconst 25 (v := 1) dX7_isSheet_24 (by decide) rfl ?_
      refine r_goto 29 dX7_isSheet_25 (by decide) ?_
      exact r_iret .boolean dX7_isSheet_29 rfl (rfl) (by first | exact ⟨z_bp ⟨g9, g21⟩, rfl⟩ | exact ⟨z_bn (fun z => g9 z.1), rfl⟩ | exact ⟨z_bn (fun z => g21 z.2), rfl⟩)

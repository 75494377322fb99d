/-! ===== the reference: boy, post, late, deal ===== -/
theorem plc_at {p : Nat → Nat} {n j b : Nat} (hj : j < n) (hp : p j = b) (inj : ∀ a c, a < c → c < n → p a ≠ p c) : plc p b n = nI j := by
  have key : ∀ m, j < m → m ≤ n → plc p b m = nI j := by
    intro m
    induction m with
    | zero => intro h; omega
    | succ m ih =>
      intro h1 h2
      rw [plc]
      by_cases e : j = m
      · rw [← e, if_pos hp]
      · rw [if_neg (fun z => inj j m (by omega) (by omega) (hp.trans z.symm))]
        exact ih (by omega) (by omega)
  exact key n hj (Nat.le_refl n)
/-- who passes ahead is through ahead -/
theorem plc_lt {A n b c : Nat} {K : Nat → Nat} (hV : kV A n K) (hA : A ≤ 200) (hb : b < n) (hc : c < n) (hbc : b ≠ c) : plc (d_p (dD n K)) b n < plc (d_p (dD n K)) c n ↔ d_d (dD n K) b < d_d (dD n K) c := by
  have hn := hV.n
  have hI := dI_D hV hA
  have hJ := dJ_D hV hA
  obtain ⟨j, hj, e1⟩ := (hJ.2.1 b hb).mp (dI_all hI b hb)
  obtain ⟨k, hk, e2⟩ := (hJ.2.1 c hc).mp (dI_all hI c hc)
  rw [plc_at hj e1 hJ.2.2.1, plc_at hk e2 hJ.2.2.1, nI_lt' (by omega) (by omega), ← e1, ← e2]
  rcases Nat.lt_trichotomy j k with q | q | q
  · have := hJ.2.2.2.2 j k q hk
    exact ⟨fun _ => this, fun _ => q⟩
  · rw [q] at e1; exact absurd (e1.symm.trans e2) hbc
  · have := hJ.2.2.2.2 k j q hj
    exact ⟨fun z => by omega, fun z => by omega⟩
theorem boV {n b v : Nat} {K : Nat → Nat} (h : kV 99 n K) (hv : v ≤ 9) : kV 99 n (un K (6 + 6 * b + 4) v) := h.at (fun h => by omega) (fun h => by omega) (fun h => by omega) (fun h => by omega) (fun e he => by omega)
set_option maxRecDepth 20000 in
set_option maxHeartbeats 4000000 in
theorem l_boyM {d b c : Nat} {w0 : zW} {s : sT} {T : zX → Prop} (hd : 8 ≤ d) (hS : sV s) (hb : b < s_n s) (hc : c < s_n s) (hbc : b ≠ c) (hx : ∀ w, RM w s → frR w0 w → (∀ v, v < 10 → byP (s_n s) (s_K s) b c v = false) → WP mX7_boy d T 67 [some (.ref 50), some (.int (nI b)), some (.int (nI c)), some (.int (nI 10))] [] w) (hy : ∀ w i, RM w s → frR w0 w → i < 10 → byP (s_n s) (s_K s) b c i = true → (∀ v, v < i → byP (s_n s) (s_K s) b c v = false) → WP mX7_boy d T 59 [some (.ref 50), some (.int (nI b)), some (.int (nI c)), some (.int (nI i))] [] w) : ∀ k i (w : zW), i + k = 10 → RM w s → frR w0 w → (∀ v, v < i → byP (s_n s) (s_K s) b c v = false) → WP mX7_boy d T 25 [some (.ref 50), some (.int (nI b)), some (.int (nI c)), some (.int (nI i))] [] w := by
  have hn := hS.1.n
  intro k
  induction k with
  | zero =>
    intro i w hi hR hF hv
    have e : i = 10 := by omega
    subst e
    refine r_iload_n 26 dX7_boy_25 rfl rfl ?_
    refine r_bipush 28 (v := 9) dX7_boy_26 (by decide) rfl ?_
    refine r_icmp_gt 67 31 dX7_boy_28 (by decide) rfl (fun _ => ?_) (fun z => absurd (by decide) z)
    exact hx w hR hF hv
  | succ k ih =>
    intro i w hi hR hF hv
    have hV := boV (b := b) (v := i) hS.1.1 (by omega)
    refine r_iload_n 26 dX7_boy_25 rfl rfl ?_
    refine r_bipush 28 (v := 9) dX7_boy_26 (by decide) rfl ?_
    refine r_icmp_gt 67 31 dX7_boy_28 (by decide) rfl (fun z => absurd z (fun z => absurd ((nI_lt' (a := 9) (by decide) (by omega)).mp z) (by omega))) (fun _ => ?_)
    refine r_aload_n 32 dX7_boy_31 rfl rfl ?_
    refine r_callV (y2 := mX7_starts) (as := []) 35 dX7_boy_32 ml_X7_228 mv_X7_starts (m_start (d := d - 1) hR) (by omega) sh_50 ⟨_, rfl, rfl⟩ rfl (Nat.le_of_ble_eq_true rfl) rfl (kk_v ?_)
    rintro w1 ⟨hL, hc1, hf⟩
    have hL1 := hL.up (x := 6 + 6 * b + 4) (v := i) (by omega)
    refine r_aload_n 36 dX7_boy_35 rfl rfl ?_
    refine r_iload_n 37 dX7_boy_36 rfl rfl ?_
    refine r_iconst 38 (v := 4) dX7_boy_37 (by decide) rfl ?_
    refine r_iload_n 39 dX7_boy_38 rfl rfl ?_
    refine r_callV (y2 := mX7_becomesOf) (as := [_, _, _]) 42 dX7_boy_39 ml_X7_274 mv_X7_becomesOf (m_becomesOf (d := d - 1) (i := b) (j := 4) (by omega) (by decide)) (by omega) sh_50 ⟨_, rfl, rfl⟩ rfl (Nat.le_of_ble_eq_true rfl) rfl (kk_v ?_)
    rintro w2 e2
    rw [e2] at hL1
    have hf2 : frR w w2 := by rw [← e2]; exact hf.at
    refine r_aload_n 43 dX7_boy_42 rfl rfl ?_
    refine r_callV (y2 := mX7_dayGoes) (as := []) 46 dX7_boy_43 ml_X7_231 mv_X7_dayGoes (m_go (d := d - 1) (by omega) (by decide) hV hL1 (by rw [← e2, z_up_a (by decide)]; exact hc1)) (by omega) sh_50 ⟨_, rfl, rfl⟩ rfl (Nat.le_of_ble_eq_true rfl) rfl (kk_v ?_)
    rintro w3 ⟨hC, hL3, hc3, hf3, -⟩
    have hff := hf2.trans hf3
    have hI := dI_D hV (by decide)
    have hpl := plc_lt hV (by decide) hb hc hbc
    refine r_aload_n 47 dX7_boy_46 rfl rfl ?_
    refine r_iload_n 48 dX7_boy_47 rfl rfl ?_
    refine r_callV (y2 := mX7_placeOf) (as := [_]) 51 dX7_boy_48 ml_X7_291 mv_X7_placeOf (m_placeOf (d := d - 1) hn (by omega) hI hC) (by omega) sh_50 ⟨_, rfl, rfl⟩ rfl (Nat.le_of_ble_eq_true rfl) rfl (kk_i ?_)
    rintro _ _ ⟨rfl, rfl⟩
    refine r_aload_n 52 dX7_boy_51 rfl rfl ?_
    refine r_iload_n 53 dX7_boy_52 rfl rfl ?_
    refine r_callV (y2 := mX7_placeOf) (as := [_]) 56 dX7_boy_53 ml_X7_291 mv_X7_placeOf (m_placeOf (d := d - 1) hn (by omega) hI hC) (by omega) sh_50 ⟨_, rfl, rfl⟩ rfl (Nat.le_of_ble_eq_true rfl) rfl (kk_i ?_)
    rintro _ _ ⟨rfl, rfl⟩
    refine r_icmp_ge 61 59 dX7_boy_56 (by decide) rfl (fun g56 => ?_) (fun g56 => ?_)
    · have g56 : byP (s_n s) (s_K s) b c i = false := decide_eq_false (fun z => i_nlt g56 (hpl.mpr z))
      refine r_iinc 64 (L' := [_, _, _, _]) (v := nI (i + 1)) dX7_boy_61 rfl (nI_1 i) (by decide) rfl rfl rfl ?_
      refine r_goto 25 dX7_boy_64 (by decide) ?_
      exact ih (i + 1) w3 (by omega) (hR.fr hff) (hF.trans hff) (fun v hv2 => by by_cases e : v = i; (rw [e]; exact g56); (exact hv v (by omega)))
    · exact hy w3 i (hR.fr hff) (hF.trans hff) (by omega) (decide_eq_true (hpl.mp (i_lt g56))) hv
set_option maxRecDepth 20000 in
set_option maxHeartbeats 4000000 in
theorem M_boy {d : Nat} {w : zW} {s : sT} {b c : Int32} (hd : 9 ≤ d) (hR : RM w s) (hS : sV s) : AM mX7_boy d [.int b, .int c] w (f_boy s b c) := by
  have hn := hS.1.n
  refine CT.of [some (.ref 50), some (.int b), some (.int c), none] rfl (Nat.le_of_ble_eq_true rfl) rfl ?_
  refine r_aload_n 1 dX7_boy_0 rfl rfl ?_
  refine r_iload_n 2 dX7_boy_1 rfl rfl ?_
  refine r_callV (y2 := mX7_isBoat) (as := [_]) 5 dX7_boy_2 ml_X7_237 mv_X7_isBoat (m_isBoat (d := d - 1) (by omega) hn hR.n) (by omega) sh_50 ⟨_, rfl, rfl⟩ rfl (Nat.le_of_ble_eq_true rfl) rfl (kk_i ?_)
  rintro _ _ ⟨rfl, rfl⟩
  refine rb_eq 21 8 dX7_boy_5 (by decide) rfl (fun g5 => ?_) (fun g5 => ?_)
  · refine r_iconst 22 (v := -1) dX7_boy_21 (by decide) rfl ?_
    exact r_iret .int dX7_boy_22 rfl (rfl) (by first | exact ⟨by rw [f_boy, if_neg (fun z => g5 z.1)], by rw [f_boy, if_neg (fun z => g5 z.1)]; exact hR, fun _ _ => rfl⟩ | exact ⟨by rw [f_boy, if_neg (fun z => g13 z.2.1)], by rw [f_boy, if_neg (fun z => g13 z.2.1)]; exact hR, fun _ _ => rfl⟩ | exact ⟨by rw [f_boy, if_neg (fun z => z.2.2 g18)], by rw [f_boy, if_neg (fun z => z.2.2 g18)]; exact hR, fun _ _ => rfl⟩)
  · obtain ⟨j, hj, rfl⟩ := iB_of g5
    have hjs : tN (nI j) = j := tN_n (by omega)
    refine r_aload_n 9 dX7_boy_8 rfl rfl ?_
    refine r_iload_n 10 dX7_boy_9 rfl rfl ?_
    refine r_callV (y2 := mX7_isBoat) (as := [_]) 13 dX7_boy_10 ml_X7_237 mv_X7_isBoat (m_isBoat (d := d - 1) (by omega) hn hR.n) (by omega) sh_50 ⟨_, rfl, rfl⟩ rfl (Nat.le_of_ble_eq_true rfl) rfl (kk_i ?_)
    rintro _ _ ⟨rfl, rfl⟩
    refine rb_eq 21 16 dX7_boy_13 (by decide) rfl (fun g13 => ?_) (fun g13 => ?_)
    · refine r_iconst 22 (v := -1) dX7_boy_21 (by decide) rfl ?_
      exact r_iret .int dX7_boy_22 rfl (rfl) (by first | exact ⟨by rw [f_boy, if_neg (fun z => g5 z.1)], by rw [f_boy, if_neg (fun z => g5 z.1)]; exact hR, fun _ _ => rfl⟩ | exact ⟨by rw [f_boy, if_neg (fun z => g13 z.2.1)], by rw [f_boy, if_neg (fun z => g13 z.2.1)]; exact hR, fun _ _ => rfl⟩ | exact ⟨by rw [f_boy, if_neg (fun z => z.2.2 g18)], by rw [f_boy, if_neg (fun z => z.2.2 g18)]; exact hR, fun _ _ => rfl⟩)
    · obtain ⟨k, hk, rfl⟩ := iB_of g13
      have hks : tN (nI k) = k := tN_n (by omega)
      refine r_iload_n 17 dX7_boy_16 rfl rfl ?_
      refine r_iload_n 18 dX7_boy_17 rfl rfl ?_
      refine r_icmp_ne 23 21 dX7_boy_18 (by decide) rfl (fun g18 => ?_) (fun g18 => ?_)
      · have hjk : j ≠ k := fun z => g18 (by rw [z])
        refine r_iconst 24 (v := 0) dX7_boy_23 (by decide) rfl ?_
        refine r_istore_n 25 (L' := [_, _, _, _]) dX7_boy_24 (by decide) rfl rfl rfl ?_
        refine l_boyM (w0 := w) (b := j) (c := k) (by omega) hS hj hk hjk (fun w1 hR1 hF hv => ?_) (fun w1 i hR1 hF hi hp hv => ?_) 10 0 w rfl hR frR.rfl (fun v hv => absurd hv (Nat.not_lt_zero v))
        · refine r_bipush 69 (v := -4) dX7_boy_67 (by decide) rfl ?_
          exact r_iret .int dX7_boy_69 rfl (rfl) (⟨by rw [f_boy, if_pos ⟨g5, g13, g18⟩, hjs, hks, fx_no hv], hR1, hF.lo⟩)
        · refine r_iload_n 60 dX7_boy_59 rfl rfl ?_
          exact r_iret .int dX7_boy_60 rfl (rfl) (⟨by rw [f_boy, if_pos ⟨g5, g13, g18⟩, hjs, hks, fx_at hi hp hv], hR1, hF.lo⟩)
      · refine r_iconst 22 (v := -1) dX7_boy_21 (by decide) rfl ?_
        exact r_iret .int dX7_boy_22 rfl (rfl) (by first | exact ⟨by rw [f_boy, if_neg (fun z => g5 z.1)], by rw [f_boy, if_neg (fun z => g5 z.1)]; exact hR, fun _ _ => rfl⟩ | exact ⟨by rw [f_boy, if_neg (fun z => g13 z.2.1)], by rw [f_boy, if_neg (fun z => g13 z.2.1)]; exact hR, fun _ _ => rfl⟩ | exact ⟨by rw [f_boy, if_neg (fun z => z.2.2 g18)], by rw [f_boy, if_neg (fun z => z.2.2 g18)]; exact hR, fun _ _ => rfl⟩)
set_option maxRecDepth 20000 in
set_option maxHeartbeats 4000000 in
theorem l_postM {d : Nat} {q : Int32} {w0 : zW} {s : sT} {T : zX → Prop} (hd : 8 ≤ d) (hS : sV s) (hx : ∀ w x z v5, RM w s → frR w0 w → bsF (poM (s_n s) (s_K s)) 10 x z → WP mX7_post d T 78 [some (.ref 50), some (.int q), some (.int z), some (.int x), some (.int (nI 10)), v5] [] w) : ∀ k i (w : zW) x z v5, i + k = 10 → RM w s → frR w0 w → bsF (poM (s_n s) (s_K s)) i x z → WP mX7_post d T 17 [some (.ref 50), some (.int q), some (.int z), some (.int x), some (.int (nI i)), v5] [] w := by
  have hn := hS.1.n
  intro k
  induction k with
  | zero =>
    intro i w x z v5 hi hR hF hb
    have e : i = 10 := by omega
    subst e
    refine r_iload 19 dX7_post_17 rfl rfl ?_
    refine r_bipush 21 (v := 9) dX7_post_19 (by decide) rfl ?_
    refine r_icmp_gt 78 24 dX7_post_21 (by decide) rfl (fun _ => ?_) (fun z => absurd (by decide) z)
    exact hx w x z v5 hR hF hb
  | succ k ih =>
    intro i w x z v5 hi hR hF hb
    have hV := poV (v := i) hS.1.1 (by omega)
    have key := bsF_s (M := (poM (s_n s) (s_K s))) (i := i) (fun b hb => poM_lt hS.1.1 (by omega)) hb
    refine r_iload 19 dX7_post_17 rfl rfl ?_
    refine r_bipush 21 (v := 9) dX7_post_19 (by decide) rfl ?_
    refine r_icmp_gt 78 24 dX7_post_21 (by decide) rfl (fun z => absurd z (fun z => absurd ((nI_lt' (a := 9) (by decide) (by omega)).mp z) (by omega))) (fun _ => ?_)
    refine r_aload_n 25 dX7_post_24 rfl rfl ?_
    refine r_callV (y2 := mX7_starts) (as := []) 28 dX7_post_25 ml_X7_228 mv_X7_starts (m_start (d := d - 1) hR) (by omega) sh_50 ⟨_, rfl, rfl⟩ rfl (Nat.le_of_ble_eq_true rfl) rfl (kk_v ?_)
    rintro w1 ⟨hL, hc, hf⟩
    refine r_aload_n 29 dX7_post_28 rfl rfl ?_
    refine r_getr 32 dX7_post_29 fz_X7_13 sh_50 rfl rfl ?_
    refine r_iconst 33 (v := 4) dX7_post_32 (by decide) rfl ?_
    refine r_iload 35 dX7_post_33 rfl rfl ?_
    refine rj_iast 36 (4) dX7_post_35 sh_52 (rfl) (by decide) (by decide) rfl ?_
    have hL2 := hL.up (x := 4) (v := i) (by decide)
    refine r_nw (fun w2 e2 => ?_)
    rw [← e2] at hL2
    have hf2 : frR w w2 := by rw [e2]; exact hf.at
    refine r_aload_n 37 dX7_post_36 rfl rfl ?_
    refine r_callV (y2 := mX7_dayGoes) (as := []) 40 dX7_post_37 ml_X7_231 mv_X7_dayGoes (m_go (d := d - 1) (by omega) (by decide) hV hL2 (by rw [e2, z_up_a (by decide)]; exact hc)) (by omega) sh_50 ⟨_, rfl, rfl⟩ rfl (Nat.le_of_ble_eq_true rfl) rfl (kk_v ?_)
    rintro w3 ⟨hC, hL3, hc3, hf3, -⟩
    have hff := hf2.trans hf3
    refine r_aload_n 41 dX7_post_40 rfl rfl ?_
    refine r_callV (y2 := mX7_costNow) (as := []) 44 dX7_post_41 ml_X7_225 mv_X7_costNow (m_costNow (d := d - 1) (by omega) hV hL3 (dI_D hV (by decide)) hC) (by omega) sh_50 ⟨_, rfl, rfl⟩ rfl (Nat.le_of_ble_eq_true rfl) rfl (kk_i ?_)
    rintro _ _ ⟨rfl, rfl⟩
    refine r_eq (z := nI (poM (s_n s) (s_K s) i)) (by unfold poM; rw [← meas_po (v := i)]; rfl) ?_
    refine r_istore 46 (L' := [_, _, _, _, _, _]) dX7_post_44 (by decide) rfl rfl rfl ?_
    refine r_iload 48 dX7_post_46 rfl rfl ?_
    refine r_iload_n 49 dX7_post_48 rfl rfl ?_
    refine r_icmp_ge 57 52 dX7_post_49 (by decide) rfl (fun g49 => ?_) (fun g49 => ?_)
    · have g49 : ¬ nI (poM (s_n s) (s_K s) i) < z := i_nlt g49
      rw [if_neg g49, if_neg g49] at key
      refine r_iload_n 58 dX7_post_57 rfl rfl ?_
      refine r_istore_n 59 (L' := [_, _, _, _, _, _]) dX7_post_58 (by decide) rfl rfl rfl ?_
      refine r_iload 61 dX7_post_59 rfl rfl ?_
      refine r_iload_n 62 dX7_post_61 rfl rfl ?_
      refine r_icmp_ge 70 65 dX7_post_62 (by decide) rfl (fun _ => ?_) (fun z => absurd (Classical.byContradiction fun y => g49 (i_lt y)) z)
      refine r_iload_n 71 dX7_post_70 rfl rfl ?_
      refine r_istore_n 72 (L' := [_, _, _, _, _, _]) dX7_post_71 (by decide) rfl rfl rfl ?_
      refine r_iinc 75 (L' := [_, _, _, _, _, _]) (v := nI (i + 1)) dX7_post_72 rfl (nI_1 i) (by decide) rfl rfl rfl ?_
      refine r_goto 17 dX7_post_75 (by decide) ?_
      exact ih (i + 1) w3 _ _ _ (by omega) (hR.fr hff) (hF.trans hff) key
    · have g49 : nI (poM (s_n s) (s_K s) i) < z := i_lt g49
      rw [if_pos g49, if_pos g49] at key
      refine r_iload 54 dX7_post_52 rfl rfl ?_
      refine r_goto 58 dX7_post_54 (by decide) ?_
      refine r_istore_n 59 (L' := [_, _, _, _, _, _]) dX7_post_58 (by decide) rfl rfl rfl ?_
      refine r_iload 61 dX7_post_59 rfl rfl ?_
      refine r_iload_n 62 dX7_post_61 rfl rfl ?_
      refine r_icmp_ge 70 65 dX7_post_62 (by decide) rfl (fun z => absurd z (fun y => i_nlt y g49)) (fun _ => ?_)
      refine r_iload 67 dX7_post_65 rfl rfl ?_
      refine r_goto 71 dX7_post_67 (by decide) ?_
      refine r_istore_n 72 (L' := [_, _, _, _, _, _]) dX7_post_71 (by decide) rfl rfl rfl ?_
      refine r_iinc 75 (L' := [_, _, _, _, _, _]) (v := nI (i + 1)) dX7_post_72 rfl (nI_1 i) (by decide) rfl rfl rfl ?_
      refine r_goto 17 dX7_post_75 (by decide) ?_
      exact ih (i + 1) w3 _ _ _ (by omega) (hR.fr hff) (hF.trans hff) key
theorem bsF_10 {n : Nat} {K : Nat → Nat} {x z : Int32} (h : bsF (poM n K) 10 x z) : x = nI (poB n K) ∧ z = nI (poM n K (poB n K)) := by
  unfold bsF at h
  unfold poB
  cases e : am 10 (fun _ => true) (poM n K) with
  | none => have := am_none.mp e 0 (by decide); cases this
  | some b => rw [e] at h; exact ⟨h.2.1, h.2.2⟩
set_option maxRecDepth 20000 in
set_option maxHeartbeats 4000000 in
theorem M_post {d : Nat} {w : zW} {s : sT} {q : Int32} (hd : 9 ≤ d) (hR : RM w s) (hS : sV s) : AM mX7_post d [.int q] w (f_post s q) := by
  have hn := hS.1.n
  refine CT.of [some (.ref 50), some (.int q), none, none, none, none] rfl (Nat.le_of_ble_eq_true rfl) rfl ?_
  refine r_iload_n 1 dX7_post_0 rfl rfl ?_
  refine r_callS (y2 := mX7_isPart) (as := [_]) 4 dX7_post_1 ml_X7_285 ms_X7_isPart (m_isPart (d := d - 1) (by omega)) (by omega) rfl (Nat.le_of_ble_eq_true rfl) rfl (kk_i ?_)
  rintro _ _ ⟨rfl, rfl⟩
  refine rb_ne 9 7 dX7_post_4 (by decide) rfl (fun g4 => ?_) (fun g4 => ?_)
  · refine r_ldc 11 dX7_post_9 kc_X7_191 rfl ?_
    refine r_istore_n 12 (L' := [_, _, _, _, _, _]) dX7_post_11 (by decide) rfl rfl rfl ?_
    refine r_iconst 13 (v := 0) dX7_post_12 (by decide) rfl ?_
    refine r_istore_n 14 (L' := [_, _, _, _, _, _]) dX7_post_13 (by decide) rfl rfl rfl ?_
    refine r_iconst 15 (v := 0) dX7_post_14 (by decide) rfl ?_
    refine r_istore 17 (L' := [_, _, _, _, _, _]) dX7_post_15 (by decide) rfl rfl rfl ?_
    refine l_postM (w0 := w) (by omega) hS (fun w1 x z v5 hR1 hF hb => ?_) 10 0 w _ _ _ rfl hR frR.rfl ⟨rfl, rfl⟩
    obtain ⟨h1, h2⟩ := bsF_10 hb
    refine r_iload_n 79 dX7_post_78 rfl rfl ?_
    refine r_if_ne 86 82 dX7_post_79 (by decide) rfl (fun g79 => ?_) (fun g79 => ?_)
    · refine r_iload_n 87 dX7_post_86 rfl rfl ?_
      exact r_iret .int dX7_post_87 rfl (rfl) (⟨by rw [f_post, if_pos g4]; first | exact (if_pos g79).trans h1.symm | exact (if_neg g79).trans h2.symm, hR1, hF.lo⟩)
    · refine r_iload_n 83 dX7_post_82 rfl rfl ?_
      refine r_goto 87 dX7_post_83 (by decide) ?_
      exact r_iret .int dX7_post_87 rfl (rfl) (⟨by rw [f_post, if_pos g4]; first | exact (if_pos g79).trans h1.symm | exact (if_neg g79).trans h2.symm, hR1, hF.lo⟩)
  · refine r_iconst 8 (v := -1) dX7_post_7 (by decide) rfl ?_
    exact r_iret .int dX7_post_8 rfl (rfl) (by first | exact ⟨by rw [f_post, if_neg (g4)], by rw [f_post, if_neg (g4)]; exact hR, fun _ _ => rfl⟩)
set_option maxRecDepth 20000 in
set_option maxHeartbeats 4000000 in
theorem l_lateM {d b : Nat} {w0 : zW} {s : sT} {T : zX → Prop} (hd : 8 ≤ d) (hS : sV s) (hb : b < s_n s) (hx : ∀ w, RM w s → frR w0 w → WP mX7_late d T 79 [some (.ref 50), some (.int (nI b)), some (.int (nI (d_d (dD (s_n s) (s_K s)) b))), some (.int (nI (lst 60 (ltP (s_n s) (s_K s) b)))), some (.int (nI (60 + 1)))] [] w) : ∀ k i (w : zW), i + k = 60 → RM w s → frR w0 w → WP mX7_late d T 26 [some (.ref 50), some (.int (nI b)), some (.int (nI (d_d (dD (s_n s) (s_K s)) b))), some (.int (nI (lst i (ltP (s_n s) (s_K s) b)))), some (.int (nI (i + 1)))] [] w := by
  have hn := hS.1.n
  intro k
  induction k with
  | zero =>
    intro i w hi hR hF
    have e : i = 60 := by omega
    subst e
    refine r_iload 28 dX7_late_26 rfl rfl ?_
    refine r_bipush 30 (v := 60) dX7_late_28 (by decide) rfl ?_
    refine r_icmp_gt 79 33 dX7_late_30 (by decide) rfl (fun _ => ?_) (fun z => absurd (by decide) z)
    exact hx w hR hF
  | succ k ih =>
    intro i w hi hR hF
    have hV := ltV (v := i + 1) hS.1.1 (by omega) hb
    have hI := dI_D hV (by decide)
    have hI0 := dI_D hS.1.1 (by decide)
    have b1 := (hI.2.2.2.2.2.2.2 b).2
    have b2 := (hI0.2.2.2.2.2.2.2 b).2
    have e1 : lst (i + 1) (ltP (s_n s) (s_K s) b) = if ltP (s_n s) (s_K s) b (i + 1) = true then i + 1 else lst i (ltP (s_n s) (s_K s) b) := rfl
    refine r_iload 28 dX7_late_26 rfl rfl ?_
    refine r_bipush 30 (v := 60) dX7_late_28 (by decide) rfl ?_
    refine r_icmp_gt 79 33 dX7_late_30 (by decide) rfl (fun z => absurd z (fun z => absurd ((nI_lt' (a := 60) (by decide) (by omega)).mp z) (by omega))) (fun _ => ?_)
    refine r_aload_n 34 dX7_late_33 rfl rfl ?_
    refine r_callV (y2 := mX7_starts) (as := []) 37 dX7_late_34 ml_X7_228 mv_X7_starts (m_start (d := d - 1) hR) (by omega) sh_50 ⟨_, rfl, rfl⟩ rfl (Nat.le_of_ble_eq_true rfl) rfl (kk_v ?_)
    rintro w1 ⟨hL, hc, hf⟩
    have hL1 := hL.up (x := 6 + 6 * b + 2) (v := s_K s (6 + 6 * b + 2) + (i + 1)) (by omega)
    refine r_aload_n 38 dX7_late_37 rfl rfl ?_
    refine r_iload_n 39 dX7_late_38 rfl rfl ?_
    refine r_iconst 40 (v := 2) dX7_late_39 (by decide) rfl ?_
    refine r_aload_n 41 dX7_late_40 rfl rfl ?_
    refine r_iload_n 42 dX7_late_41 rfl rfl ?_
    refine r_iconst 43 (v := 2) dX7_late_42 (by decide) rfl ?_
    refine r_callV (y2 := mX7_of) (as := [_, _]) 46 dX7_late_43 ml_X7_166 mv_X7_of (m_of (d := d - 1) (i := b) (j := 2) (by omega) (by decide)) (by omega) sh_50 ⟨_, rfl, rfl⟩ rfl (Nat.le_of_ble_eq_true rfl) rfl (kk_i ?_)
    rintro _ _ ⟨rfl, rfl⟩
    refine r_eq (hL.1 _ (by omega)) ?_
    refine r_iload 48 dX7_late_46 rfl rfl ?_
    refine r_iadd 49 dX7_late_48 rfl ?_
    refine r_eq (nI_add _ _) ?_
    refine r_callV (y2 := mX7_becomesOf) (as := [_, _, _]) 52 dX7_late_49 ml_X7_274 mv_X7_becomesOf (m_becomesOf (d := d - 1) (i := b) (j := 2) (by omega) (by decide)) (by omega) sh_50 ⟨_, rfl, rfl⟩ rfl (Nat.le_of_ble_eq_true rfl) rfl (kk_v ?_)
    rintro w2 e2
    rw [e2] at hL1
    have hf2 : frR w w2 := by rw [← e2]; exact hf.at
    refine r_aload_n 53 dX7_late_52 rfl rfl ?_
    refine r_callV (y2 := mX7_dayGoes) (as := []) 56 dX7_late_53 ml_X7_231 mv_X7_dayGoes (m_go (d := d - 1) (by omega) (by decide) hV hL1 (by rw [← e2, z_up_a (by decide)]; exact hc)) (by omega) sh_50 ⟨_, rfl, rfl⟩ rfl (Nat.le_of_ble_eq_true rfl) rfl (kk_v ?_)
    rintro w3 ⟨hC, hL3, hc3, hf3, -⟩
    have hff := hf2.trans hf3
    refine r_aload_n 57 dX7_late_56 rfl rfl ?_
    refine r_getr 60 dX7_late_57 fz_X7_29 sh_50 rfl rfl ?_
    refine r_iload_n 61 dX7_late_60 rfl rfl ?_
    refine rj_iald 62 (b) dX7_late_61 sh_57 (rfl) (by omega) (by decide) rfl ?_
    refine r_eq ((hC.2.2.2.2.2.2 b hb (dI_all hI b hb)).1) ?_
    refine r_iload_n 63 dX7_late_62 rfl rfl ?_
    refine r_icmp_gt 71 66 dX7_late_63 (by decide) rfl (fun g63 => ?_) (fun g63 => ?_)
    · have g63 : ¬ ltP (s_n s) (s_K s) b (i + 1) = true := fun z => by have h1 := of_decide_eq_true z; have h2 := (nI_lt' (by omega) (by omega)).mp g63; omega
      rw [if_neg g63] at e1
      refine r_iload_n 72 dX7_late_71 rfl rfl ?_
      refine r_istore_n 73 (L' := [_, _, _, _, _]) dX7_late_72 (by decide) rfl rfl rfl ?_
      refine r_iinc 76 (L' := [_, _, _, _, _]) (v := nI (i + 1 + 1)) dX7_late_73 rfl (nI_1 (i + 1)) (by decide) rfl rfl rfl ?_
      refine r_goto 26 dX7_late_76 (by decide) ?_
      have nx := ih (i + 1) w3 (by omega) (hR.fr hff) (hF.trans hff)
      rw [e1] at nx
      exact nx
    · have g63 : ltP (s_n s) (s_K s) b (i + 1) = true := decide_eq_true (by have : ¬ d_d (dD (s_n s) (s_K s)) b < _ := fun z => g63 ((nI_lt' (by omega) (by omega)).mpr z); omega)
      rw [if_pos g63] at e1
      refine r_iload 68 dX7_late_66 rfl rfl ?_
      refine r_goto 72 dX7_late_68 (by decide) ?_
      refine r_istore_n 73 (L' := [_, _, _, _, _]) dX7_late_72 (by decide) rfl rfl rfl ?_
      refine r_iinc 76 (L' := [_, _, _, _, _]) (v := nI (i + 1 + 1)) dX7_late_73 rfl (nI_1 (i + 1)) (by decide) rfl rfl rfl ?_
      refine r_goto 26 dX7_late_76 (by decide) ?_
      have nx := ih (i + 1) w3 (by omega) (hR.fr hff) (hF.trans hff)
      rw [e1] at nx
      exact nx
set_option maxRecDepth 20000 in
set_option maxHeartbeats 4000000 in
theorem M_late {d : Nat} {w : zW} {s : sT} {b : Int32} (hd : 9 ≤ d) (hR : RM w s) (hS : sV s) : AM mX7_late d [.int b] w (f_late s b) := by
  have hn := hS.1.n
  refine CT.of [some (.ref 50), some (.int b), none, none, none] rfl (Nat.le_of_ble_eq_true rfl) rfl ?_
  refine r_aload_n 1 dX7_late_0 rfl rfl ?_
  refine r_iload_n 2 dX7_late_1 rfl rfl ?_
  refine r_callV (y2 := mX7_isBoat) (as := [_]) 5 dX7_late_2 ml_X7_237 mv_X7_isBoat (m_isBoat (d := d - 1) (by omega) hn hR.n) (by omega) sh_50 ⟨_, rfl, rfl⟩ rfl (Nat.le_of_ble_eq_true rfl) rfl (kk_i ?_)
  rintro _ _ ⟨rfl, rfl⟩
  refine rb_ne 10 8 dX7_late_5 (by decide) rfl (fun g5 => ?_) (fun g5 => ?_)
  · obtain ⟨j, hj, rfl⟩ := iB_of g5
    have hjs : tN (nI j) = j := tN_n (by omega)
    have hI := dI_D hS.1.1 (by decide)
    refine r_aload_n 11 dX7_late_10 rfl rfl ?_
    refine r_callV (y2 := mX7_dayNow) (as := []) 14 dX7_late_11 ml_X7_256 mv_X7_dayNow (m_dayNow (d := d - 1) (by omega) hR hS) (by omega) sh_50 ⟨_, rfl, rfl⟩ rfl (Nat.le_of_ble_eq_true rfl) rfl (kk_v ?_)
    rintro w1 ⟨hC, hL, hf⟩
    refine r_aload_n 15 dX7_late_14 rfl rfl ?_
    refine r_getr 18 dX7_late_15 fz_X7_29 sh_50 rfl rfl ?_
    refine r_iload_n 19 dX7_late_18 rfl rfl ?_
    refine rj_iald 20 (j) dX7_late_19 sh_57 (rfl) (by omega) (by decide) rfl ?_
    refine r_eq ((hC.2.2.2.2.2.2 j hj (dI_all hI j hj)).1) ?_
    refine r_istore_n 21 (L' := [_, _, _, _, _]) dX7_late_20 (by decide) rfl rfl rfl ?_
    refine r_iconst 22 (v := 0) dX7_late_21 (by decide) rfl ?_
    refine r_istore_n 23 (L' := [_, _, _, _, _]) dX7_late_22 (by decide) rfl rfl rfl ?_
    refine r_iconst 24 (v := 1) dX7_late_23 (by decide) rfl ?_
    refine r_istore 26 (L' := [_, _, _, _, _]) dX7_late_24 (by decide) rfl rfl rfl ?_
    refine l_lateM (w0 := w) (b := j) (by omega) hS hj (fun w2 hR2 hF => ?_) 60 0 w1 rfl (hR.fr hf) hf
    refine r_iload_n 80 dX7_late_79 rfl rfl ?_
    exact r_iret .int dX7_late_80 rfl (rfl) (⟨by rw [f_late, if_pos g5, hjs], hR2, hF.lo⟩)
  · refine r_iconst 9 (v := -1) dX7_late_8 (by decide) rfl ?_
    exact r_iret .int dX7_late_9 rfl (rfl) (by first | exact ⟨by rw [f_late, if_neg (g5)], by rw [f_late, if_neg (g5)]; exact hR, fun _ _ => rfl⟩)
set_option maxRecDepth 20000 in
set_option maxHeartbeats 4000000 in
theorem l_goesInOrder {d n A : Nat} {w0 : zW} {K od : Nat → Nat} {T : zX → Prop} (hd : 3 ≤ d) (hA : A ≤ 200) (hV : kV A n K) (ho : ∀ i, i < n → w0 59 i = nI (od i)) (hO : oO n od) (hx : ∀ w, atD w n K → dyM w n n (d_ord K od n) → frM w0 w → WP mX7_goesInOrder d T 30 [some (.ref 50), some (.int (nI n))] [] w) : ∀ k i (w : zW), i + k = n → atD w n K → dyM w n i (d_ord K od i) → frM w0 w → WP mX7_goesInOrder d T 6 [some (.ref 50), some (.int (nI i))] [] w := by
  have hn := hV.n
  intro k
  induction k with
  | zero =>
    intro i w hi hL hC hF
    have e : i = n := by omega
    subst e
    refine r_iload_n 7 dX7_goesInOrder_6 rfl rfl ?_
    refine r_aload_n 8 dX7_goesInOrder_7 rfl rfl ?_
    refine r_geti 11 dX7_goesInOrder_8 fz_X7_69 sh_50 rfl rfl ?_
    refine r_eq hL.2 ?_
    refine r_icmp_ge 30 14 dX7_goesInOrder_11 (by decide) rfl (fun _ => ?_) (fun z => absurd (Int32.le_refl _) z)
    exact hx w hL hC hF
  | succ k ih =>
    intro i w hi hL hC hF
    have hoi := hO.1 i (by omega)
    refine r_iload_n 7 dX7_goesInOrder_6 rfl rfl ?_
    refine r_aload_n 8 dX7_goesInOrder_7 rfl rfl ?_
    refine r_geti 11 dX7_goesInOrder_8 fz_X7_69 sh_50 rfl rfl ?_
    refine r_eq hL.2 ?_
    refine r_icmp_ge 30 14 dX7_goesInOrder_11 (by decide) rfl (fun z => absurd z (fun z => absurd ((nI_le' (by omega) (by omega)).mp z) (by omega))) (fun _ => ?_)
    refine r_aload_n 15 dX7_goesInOrder_14 rfl rfl ?_
    refine r_aload_n 16 dX7_goesInOrder_15 rfl rfl ?_
    refine r_getr 19 dX7_goesInOrder_16 fz_X7_35 sh_50 rfl rfl ?_
    refine r_iload_n 20 dX7_goesInOrder_19 rfl rfl ?_
    refine rj_iald 21 (i) dX7_goesInOrder_20 sh_59 (rfl) (by omega) (by decide) rfl ?_
    refine r_eq (z := nI (od i)) (by rw [hF.2 59 (by decide) (by decide) (by decide) (by decide)]; exact ho i (by omega)) ?_
    refine r_callV (y2 := mX7_lets) (as := [_]) 24 dX7_goesInOrder_21 ml_X7_222 mv_X7_lets (m_lets (d := d - 1) (by omega) hA hV hL (d_ord_I hV hA hO i (by omega)).1 hC (by omega) hoi (d_ord_0 hV hA hO (by omega))) (by omega) sh_50 ⟨_, rfl, rfl⟩ rfl (Nat.le_of_ble_eq_true rfl) rfl (kk_v ?_)
    rintro w1 ⟨hC1, hF1⟩
    refine r_iinc 27 (L' := [_, _]) (v := nI (i + 1)) dX7_goesInOrder_24 rfl (nI_1 i) (by decide) rfl rfl rfl ?_
    refine r_goto 6 dX7_goesInOrder_27 (by decide) ?_
    exact ih (i + 1) w1 (by omega) (hL.fr hF1) hC1 (hF.trans hF1)
set_option maxRecDepth 20000 in
set_option maxHeartbeats 4000000 in
theorem m_goesInOrder {d n A : Nat} {w : zW} {K od : Nat → Nat} (hd : 3 ≤ d) (hA : A ≤ 200) (hV : kV A n K) (ho : ∀ i, i < n → w 59 i = nI (od i)) (hO : oO n od) (hL : atD w n K) : CT mX7_goesInOrder d [.ref 50] w (z_v fun w' => dyM w' n n (d_ord K od n) ∧ atD w' n K ∧ frM w w') := by
  refine CT.of [some (.ref 50), none] rfl (Nat.le_of_ble_eq_true rfl) rfl ?_
  refine r_aload_n 1 dX7_goesInOrder_0 rfl rfl ?_
  refine r_callV (y2 := mX7_opens) (as := []) 4 dX7_goesInOrder_1 ml_X7_210 mv_X7_opens (m_opens (d := d - 1)) (by omega) sh_50 ⟨_, rfl, rfl⟩ rfl (Nat.le_of_ble_eq_true rfl) rfl (kk_v ?_)
  rintro w1 ⟨b21, b22, b23, b24, b25, bq, bo⟩
  refine r_iconst 5 (v := 0) dX7_goesInOrder_4 (by decide) rfl ?_
  refine r_istore_n 6 (L' := [_, _]) dX7_goesInOrder_5 (by decide) rfl rfl rfl ?_
  refine l_goesInOrder (w0 := w) hd hA hV ho hO (fun w2 h1 h2 h3 => ?_) n 0 w1 (Nat.zero_add n) (hL.congr (bq 3 (by omega)) (bo 52 (by decide))) ⟨b21, b22, b23.trans (hL.1 2 (by decide)), b24, b25, fun j hj => absurd hj (Nat.not_lt_zero j), fun b hb h => ?_⟩ ⟨fun q hq => bq q hq, fun a a1 _ _ _ => bo a a1⟩
  · exact r_vret dX7_goesInOrder_30 rfl (⟨h2, h1, h3⟩)
  · have z0 : bi (d_g (d_ord K od 0)) b = 0 := by show (0 : Nat) / 2 ^ b % 2 = 0; simp
    rw [z0] at h; cases h
theorem i_as {a b c : Int32} : a + (b - c) = a + b - c := by rw [Int32.sub_eq_add_neg, Int32.sub_eq_add_neg, Int32.add_assoc]
theorem frR.row {w w' : zW} {x : Nat} {v : Int32} (h : frR w w') : frR w (z_up w' 59 x v) := ⟨fun q hq => by rw [z_up_a (by decide)]; exact h.1 q hq, fun a ha => by rw [z_up_o (by omega)]; exact h.2 a ha⟩
set_option maxRecDepth 20000 in
set_option maxHeartbeats 4000000 in
theorem l_dealM {d b c : Nat} {v3 v4 v5 v6 : Int32} {w0 : zW} {s : sT} {T : zX → Prop} (hS : sV s) (hb : b < s_n s) (hc : c < s_n s) (hL : atD w0 (s_n s) (s_K s)) (hC : dyM w0 (s_n s) (s_n s) (dD (s_n s) (s_K s))) (hx : ∀ w, (∀ a, a ≠ 59 → w a = w0 a) → (∀ j, j < s_n s → w 59 j = nI (sw b c (d_p (dD (s_n s) (s_K s)) j))) → WP mX7_deal d T 137 [some (.ref 50), some (.int (nI b)), some (.int (nI c)), some (.int v3), some (.int v4), some (.int v5), some (.int v6), some (.int (nI (s_n s)))] [] w) : ∀ k i (w : zW), i + k = s_n s → (∀ a, a ≠ 59 → w a = w0 a) → (∀ j, j < i → w 59 j = nI (sw b c (d_p (dD (s_n s) (s_K s)) j))) → WP mX7_deal d T 78 [some (.ref 50), some (.int (nI b)), some (.int (nI c)), some (.int v3), some (.int v4), some (.int v5), some (.int v6), some (.int (nI i))] [] w := by
  have hn := hS.1.n
  intro k
  induction k with
  | zero =>
    intro i w hi hF hp
    have e : i = s_n s := by omega
    subst e
    refine r_iload 80 dX7_deal_78 rfl rfl ?_
    refine r_aload_n 81 dX7_deal_80 rfl rfl ?_
    refine r_geti 84 dX7_deal_81 fz_X7_69 sh_50 rfl rfl ?_
    refine r_eq (z := nI (s_n s)) (by rw [hF 50 (by decide)]; exact hL.2) ?_
    refine r_icmp_ge 137 87 dX7_deal_84 (by decide) rfl (fun _ => ?_) (fun z => absurd (Int32.le_refl _) z)
    exact hx w hF hp
  | succ k ih =>
    intro i w hi hF hp
    have hpi := ((dI_D hS.1.1 (by decide)).2.2.1 i (by omega)).1
    have fin : ∀ x, x = nI (sw b c (d_p (dD (s_n s) (s_K s)) i)) → WP mX7_deal d T 78 [some (.ref 50), some (.int (nI b)), some (.int (nI c)), some (.int v3), some (.int v4), some (.int v5), some (.int v6), some (.int (nI (i + 1)))] [] (z_up w 59 i x) := fun x hx2 => ih (i + 1) _ (by omega) (fun a ha => by rw [z_up_o ha]; exact hF a ha) (fun j hj => by by_cases e : j = i; (rw [e, z_up_s, hx2]); (rw [z_up_i e]; exact hp j (by omega)))
    refine r_iload 80 dX7_deal_78 rfl rfl ?_
    refine r_aload_n 81 dX7_deal_80 rfl rfl ?_
    refine r_geti 84 dX7_deal_81 fz_X7_69 sh_50 rfl rfl ?_
    refine r_eq (z := nI (s_n s)) (by rw [hF 50 (by decide)]; exact hL.2) ?_
    refine r_icmp_ge 137 87 dX7_deal_84 (by decide) rfl (fun z => absurd z (fun z => absurd ((nI_le' (by omega) (by omega)).mp z) (by omega))) (fun _ => ?_)
    refine r_aload_n 88 dX7_deal_87 rfl rfl ?_
    refine r_getr 91 dX7_deal_88 fz_X7_35 sh_50 rfl rfl ?_
    refine r_iload 93 dX7_deal_91 rfl rfl ?_
    refine r_aload_n 94 dX7_deal_93 rfl rfl ?_
    refine r_getr 97 dX7_deal_94 fz_X7_26 sh_50 rfl rfl ?_
    refine r_iload 99 dX7_deal_97 rfl rfl ?_
    refine rj_iald 100 (i) dX7_deal_99 sh_56 (rfl) (by omega) (by decide) rfl ?_
    refine r_eq (z := nI (d_p (dD (s_n s) (s_K s)) i)) (by rw [hF 56 (by decide)]; exact hC.2.2.2.2.2.1 i (by omega)) ?_
    refine r_iload_n 101 dX7_deal_100 rfl rfl ?_
    refine r_icmp_ne 108 104 dX7_deal_101 (by decide) rfl (fun g101 => ?_) (fun g101 => ?_)
    · have g101 : ¬ _ := fun z => g101 ((nI_inj (a := d_p (dD (s_n s) (s_K s)) i) (b := b) (by omega) (by omega)).mpr z)
      refine r_aload_n 109 dX7_deal_108 rfl rfl ?_
      refine r_getr 112 dX7_deal_109 fz_X7_26 sh_50 rfl rfl ?_
      refine r_iload 114 dX7_deal_112 rfl rfl ?_
      refine rj_iald 115 (i) dX7_deal_114 sh_56 (rfl) (by omega) (by decide) rfl ?_
      refine r_eq (z := nI (d_p (dD (s_n s) (s_K s)) i)) (by rw [hF 56 (by decide)]; exact hC.2.2.2.2.2.1 i (by omega)) ?_
      refine r_iload_n 116 dX7_deal_115 rfl rfl ?_
      refine r_icmp_ne 123 119 dX7_deal_116 (by decide) rfl (fun g116 => ?_) (fun g116 => ?_)
      · have g116 : ¬ _ := fun z => g116 ((nI_inj (a := d_p (dD (s_n s) (s_K s)) i) (b := c) (by omega) (by omega)).mpr z)
        refine r_aload_n 124 dX7_deal_123 rfl rfl ?_
        refine r_getr 127 dX7_deal_124 fz_X7_26 sh_50 rfl rfl ?_
        refine r_iload 129 dX7_deal_127 rfl rfl ?_
        refine rj_iald 130 (i) dX7_deal_129 sh_56 (rfl) (by omega) (by decide) rfl ?_
        refine r_eq (z := nI (d_p (dD (s_n s) (s_K s)) i)) (by rw [hF 56 (by decide)]; exact hC.2.2.2.2.2.1 i (by omega)) ?_
        refine rj_iast 131 (i) dX7_deal_130 sh_59 (rfl) (by omega) (by decide) rfl ?_
        refine r_iinc 134 (L' := [_, _, _, _, _, _, _, _]) (v := nI (i + 1)) dX7_deal_131 rfl (nI_1 i) (by decide) rfl rfl rfl ?_
        refine r_goto 78 dX7_deal_134 (by decide) ?_
        exact fin _ (by first | (rw [sw, if_pos g101]; done) | (rw [sw, if_neg g101, if_pos g116]; done) | (rw [sw, if_neg g101, if_neg g116]; done))
      · have g116 := (nI_inj (by omega) (by omega)).mp g116
        refine r_iload_n 120 dX7_deal_119 rfl rfl ?_
        refine r_goto 130 dX7_deal_120 (by decide) ?_
        refine rj_iast 131 (i) dX7_deal_130 sh_59 (rfl) (by omega) (by decide) rfl ?_
        refine r_iinc 134 (L' := [_, _, _, _, _, _, _, _]) (v := nI (i + 1)) dX7_deal_131 rfl (nI_1 i) (by decide) rfl rfl rfl ?_
        refine r_goto 78 dX7_deal_134 (by decide) ?_
        exact fin _ (by first | (rw [sw, if_pos g101]; done) | (rw [sw, if_neg g101, if_pos g116]; done) | (rw [sw, if_neg g101, if_neg g116]; done))
    · have g101 := (nI_inj (by omega) (by omega)).mp g101
      refine r_iload_n 105 dX7_deal_104 rfl rfl ?_
      refine r_goto 130 dX7_deal_105 (by decide) ?_
      refine rj_iast 131 (i) dX7_deal_130 sh_59 (rfl) (by omega) (by decide) rfl ?_
      refine r_iinc 134 (L' := [_, _, _, _, _, _, _, _]) (v := nI (i + 1)) dX7_deal_131 rfl (nI_1 i) (by decide) rfl rfl rfl ?_
      refine r_goto 78 dX7_deal_134 (by decide) ?_
      exact fin _ (by first | (rw [sw, if_pos g101]; done) | (rw [sw, if_neg g101, if_pos g116]; done) | (rw [sw, if_neg g101, if_neg g116]; done))
set_option maxRecDepth 20000 in
set_option maxHeartbeats 4000000 in
theorem M_deal {d : Nat} {w : zW} {s : sT} {b c q : Int32} (hd : 9 ≤ d) (hR : RM w s) (hS : sV s) : AM mX7_deal d [.int b, .int c, .int q] w (f_deal s b c q) := by
  have hn := hS.1.n
  refine CT.of [some (.ref 50), some (.int b), some (.int c), some (.int q), none, none, none, none] rfl (Nat.le_of_ble_eq_true rfl) rfl ?_
  refine r_aload_n 1 dX7_deal_0 rfl rfl ?_
  refine r_iload_n 2 dX7_deal_1 rfl rfl ?_
  refine r_callV (y2 := mX7_isBoat) (as := [_]) 5 dX7_deal_2 ml_X7_237 mv_X7_isBoat (m_isBoat (d := d - 1) (by omega) hn hR.n) (by omega) sh_50 ⟨_, rfl, rfl⟩ rfl (Nat.le_of_ble_eq_true rfl) rfl (kk_i ?_)
  rintro _ _ ⟨rfl, rfl⟩
  refine rb_eq 33 8 dX7_deal_5 (by decide) rfl (fun g5 => ?_) (fun g5 => ?_)
  · refine r_iconst 34 (v := -1) dX7_deal_33 (by decide) rfl ?_
    exact r_iret .int dX7_deal_34 rfl (rfl) (by first | exact ⟨by rw [f_deal, if_neg (fun z => g5 z.1.1)], by rw [f_deal, if_neg (fun z => g5 z.1.1)]; exact hR, fun _ _ => rfl⟩ | exact ⟨by rw [f_deal, if_neg (fun z => g13 z.1.2.1)], by rw [f_deal, if_neg (fun z => g13 z.1.2.1)]; exact hR, fun _ _ => rfl⟩ | exact ⟨by rw [f_deal, if_neg (fun z => g30 z.2)], by rw [f_deal, if_neg (fun z => g30 z.2)]; exact hR, fun _ _ => rfl⟩ | exact ⟨by rw [f_deal, if_neg (fun z => z.1.2.2 g18)], by rw [f_deal, if_neg (fun z => z.1.2.2 g18)]; exact hR, fun _ _ => rfl⟩)
  · obtain ⟨i, hi, rfl⟩ := iB_of g5
    have his : tN (nI i) = i := tN_n (by omega)
    refine r_aload_n 9 dX7_deal_8 rfl rfl ?_
    refine r_iload_n 10 dX7_deal_9 rfl rfl ?_
    refine r_callV (y2 := mX7_isBoat) (as := [_]) 13 dX7_deal_10 ml_X7_237 mv_X7_isBoat (m_isBoat (d := d - 1) (by omega) hn hR.n) (by omega) sh_50 ⟨_, rfl, rfl⟩ rfl (Nat.le_of_ble_eq_true rfl) rfl (kk_i ?_)
    rintro _ _ ⟨rfl, rfl⟩
    refine rb_eq 33 16 dX7_deal_13 (by decide) rfl (fun g13 => ?_) (fun g13 => ?_)
    · refine r_iconst 34 (v := -1) dX7_deal_33 (by decide) rfl ?_
      exact r_iret .int dX7_deal_34 rfl (rfl) (by first | exact ⟨by rw [f_deal, if_neg (fun z => g5 z.1.1)], by rw [f_deal, if_neg (fun z => g5 z.1.1)]; exact hR, fun _ _ => rfl⟩ | exact ⟨by rw [f_deal, if_neg (fun z => g13 z.1.2.1)], by rw [f_deal, if_neg (fun z => g13 z.1.2.1)]; exact hR, fun _ _ => rfl⟩ | exact ⟨by rw [f_deal, if_neg (fun z => g30 z.2)], by rw [f_deal, if_neg (fun z => g30 z.2)]; exact hR, fun _ _ => rfl⟩ | exact ⟨by rw [f_deal, if_neg (fun z => z.1.2.2 g18)], by rw [f_deal, if_neg (fun z => z.1.2.2 g18)]; exact hR, fun _ _ => rfl⟩)
    · obtain ⟨j, hj, rfl⟩ := iB_of g13
      have hjs : tN (nI j) = j := tN_n (by omega)
      refine r_iload_n 17 dX7_deal_16 rfl rfl ?_
      refine r_iload_n 18 dX7_deal_17 rfl rfl ?_
      refine r_icmp_eq 33 21 dX7_deal_18 (by decide) rfl (fun g18 => ?_) (fun g18 => ?_)
      · refine r_iconst 34 (v := -1) dX7_deal_33 (by decide) rfl ?_
        exact r_iret .int dX7_deal_34 rfl (rfl) (by first | exact ⟨by rw [f_deal, if_neg (fun z => g5 z.1.1)], by rw [f_deal, if_neg (fun z => g5 z.1.1)]; exact hR, fun _ _ => rfl⟩ | exact ⟨by rw [f_deal, if_neg (fun z => g13 z.1.2.1)], by rw [f_deal, if_neg (fun z => g13 z.1.2.1)]; exact hR, fun _ _ => rfl⟩ | exact ⟨by rw [f_deal, if_neg (fun z => g30 z.2)], by rw [f_deal, if_neg (fun z => g30 z.2)]; exact hR, fun _ _ => rfl⟩ | exact ⟨by rw [f_deal, if_neg (fun z => z.1.2.2 g18)], by rw [f_deal, if_neg (fun z => z.1.2.2 g18)]; exact hR, fun _ _ => rfl⟩)
      · refine r_iload_n 22 dX7_deal_21 rfl rfl ?_
        refine r_i2l 23 dX7_deal_22 rfl ?_
        refine r_lconst 24 (v := 0) dX7_deal_23 (by decide) rfl ?_
        refine r_ldc2 27 dX7_deal_24 kl_X7_153 rfl ?_
        refine r_callS (y2 := mX7_in) (as := [_, _, _]) 30 dX7_deal_27 ml_X7_74 ms_X7_in (m_in (d := d - 1) _ _ _) (by omega) rfl (Nat.le_of_ble_eq_true rfl) rfl (kk_i ?_)
        rintro _ _ ⟨rfl, rfl⟩
        refine r_eq (z_bc (in_wi (lo := 0) (hi := 2) rfl rfl)) ?_
        refine rb_ne 35 33 dX7_deal_30 (by decide) rfl (fun g30 => ?_) (fun g30 => ?_)
        · obtain ⟨k, hk, rfl⟩ := wi_of (hi := 2) g30
          have hks : tN (nI k) = k := tN_n (by omega)
          have hI := dI_D hS.1.1 (by decide)
          have hO := oO_sw (b := i) (c := j) hS.1.1 (by decide) hi hj
          have hI3 := (d_ord_I hS.1.1 (by decide) hO (s_n s) (Nat.le_refl _)).1
          refine r_aload_n 36 dX7_deal_35 rfl rfl ?_
          refine r_callV (y2 := mX7_dayNow) (as := []) 39 dX7_deal_36 ml_X7_256 mv_X7_dayNow (m_dayNow (d := d - 1) (by omega) hR hS) (by omega) sh_50 ⟨_, rfl, rfl⟩ rfl (Nat.le_of_ble_eq_true rfl) rfl (kk_v ?_)
          rintro w1 ⟨hC, hL, hf⟩
          refine r_aload_n 40 dX7_deal_39 rfl rfl ?_
          refine r_getr 43 dX7_deal_40 fz_X7_32 sh_50 rfl rfl ?_
          refine r_iload_n 44 dX7_deal_43 rfl rfl ?_
          refine rj_iald 45 (i) dX7_deal_44 sh_58 (rfl) (by omega) (by decide) rfl ?_
          refine r_eq ((hC.2.2.2.2.2.2 i hi (dI_all hI i hi)).2) ?_
          refine r_aload_n 46 dX7_deal_45 rfl rfl ?_
          refine r_iload_n 47 dX7_deal_46 rfl rfl ?_
          refine r_iconst 48 (v := 3) dX7_deal_47 (by decide) rfl ?_
          refine r_callV (y2 := mX7_of) (as := [_, _]) 51 dX7_deal_48 ml_X7_166 mv_X7_of (m_of (d := d - 1) (i := i) (j := 3) (by omega) (by decide)) (by omega) sh_50 ⟨_, rfl, rfl⟩ rfl (Nat.le_of_ble_eq_true rfl) rfl (kk_i ?_)
          rintro _ _ ⟨rfl, rfl⟩
          refine r_eq (z := nI (k_wo (s_K s) i)) (hL.1 _ (by omega)) ?_
          refine r_imul 52 dX7_deal_51 rfl ?_
          refine r_eq (nI_mul _ _) ?_
          refine r_istore 54 (L' := [_, _, _, _, _, _, _, _]) dX7_deal_52 (by decide) rfl rfl rfl ?_
          refine r_aload_n 55 dX7_deal_54 rfl rfl ?_
          refine r_getr 58 dX7_deal_55 fz_X7_32 sh_50 rfl rfl ?_
          refine r_iload_n 59 dX7_deal_58 rfl rfl ?_
          refine rj_iald 60 (j) dX7_deal_59 sh_58 (rfl) (by omega) (by decide) rfl ?_
          refine r_eq ((hC.2.2.2.2.2.2 j hj (dI_all hI j hj)).2) ?_
          refine r_aload_n 61 dX7_deal_60 rfl rfl ?_
          refine r_iload_n 62 dX7_deal_61 rfl rfl ?_
          refine r_iconst 63 (v := 3) dX7_deal_62 (by decide) rfl ?_
          refine r_callV (y2 := mX7_of) (as := [_, _]) 66 dX7_deal_63 ml_X7_166 mv_X7_of (m_of (d := d - 1) (i := j) (j := 3) (by omega) (by decide)) (by omega) sh_50 ⟨_, rfl, rfl⟩ rfl (Nat.le_of_ble_eq_true rfl) rfl (kk_i ?_)
          rintro _ _ ⟨rfl, rfl⟩
          refine r_eq (z := nI (k_wo (s_K s) j)) (hL.1 _ (by omega)) ?_
          refine r_imul 67 dX7_deal_66 rfl ?_
          refine r_eq (nI_mul _ _) ?_
          refine r_istore 69 (L' := [_, _, _, _, _, _, _, _]) dX7_deal_67 (by decide) rfl rfl rfl ?_
          refine r_aload_n 70 dX7_deal_69 rfl rfl ?_
          refine r_callV (y2 := mX7_costNow) (as := []) 73 dX7_deal_70 ml_X7_225 mv_X7_costNow (m_costNow (d := d - 1) (by omega) hS.1.1 hL hI hC) (by omega) sh_50 ⟨_, rfl, rfl⟩ rfl (Nat.le_of_ble_eq_true rfl) rfl (kk_i ?_)
          rintro _ _ ⟨rfl, rfl⟩
          refine r_istore 75 (L' := [_, _, _, _, _, _, _, _]) dX7_deal_73 (by decide) rfl rfl rfl ?_
          refine r_iconst 76 (v := 0) dX7_deal_75 (by decide) rfl ?_
          refine r_istore 78 (L' := [_, _, _, _, _, _, _, _]) dX7_deal_76 (by decide) rfl rfl rfl ?_
          refine l_dealM (w0 := w1) (b := i) (c := j) hS hi hj hL hC (fun w2 hF2 hP => ?_) (s_n s) 0 w1 (Nat.zero_add _) (fun _ _ => rfl) (fun a ha => absurd ha (Nat.not_lt_zero a))
          refine r_aload_n 138 dX7_deal_137 rfl rfl ?_
          refine r_callV (y2 := mX7_goesInOrder) (as := []) 141 dX7_deal_138 ml_X7_271 mv_X7_goesInOrder (m_goesInOrder (d := d - 1) (A := 99) (K := s_K s) (od := fun a => sw i j (d_p (dD (s_n s) (s_K s)) a)) (by omega) (by decide) hS.1.1 hP hO (hL.congr (by rw [hF2 50 (by decide)]) (hF2 52 (by decide)))) (by omega) sh_50 ⟨_, rfl, rfl⟩ rfl (Nat.le_of_ble_eq_true rfl) rfl (kk_v ?_)
          rintro w3 ⟨hC3, hL3, hF3⟩
          have hFF : frR w w3 := (hf.trans (show frR w1 w2 from ⟨fun q _ => by rw [hF2 50 (by decide)], fun a ha => hF2 a (by omega)⟩)).trans hF3.R
          refine r_iload_n 142 dX7_deal_141 rfl rfl ?_
          refine r_if_ne 164 145 dX7_deal_142 (by decide) rfl (fun g142 => ?_) (fun g142 => ?_)
          · have g142 : ¬ k = 0 := fun z => g142 (by rw [z]; rfl)
            refine r_iload_n 165 dX7_deal_164 rfl rfl ?_
            refine r_iconst 166 (v := 1) dX7_deal_165 (by decide) rfl ?_
            refine r_icmp_ne 188 169 dX7_deal_166 (by decide) rfl (fun g166 => ?_) (fun g166 => ?_)
            · have g166 : ¬ k = 1 := fun z => g166 (by rw [z]; rfl)
              refine r_iload 190 dX7_deal_188 rfl rfl ?_
              refine r_aload_n 191 dX7_deal_190 rfl rfl ?_
              refine r_callV (y2 := mX7_costNow) (as := []) 194 dX7_deal_191 ml_X7_225 mv_X7_costNow (m_costNow (d := d - 1) (by omega) hS.1.1 hL3 hI3 hC3) (by omega) sh_50 ⟨_, rfl, rfl⟩ rfl (Nat.le_of_ble_eq_true rfl) rfl (kk_i ?_)
              rintro _ _ ⟨rfl, rfl⟩
              refine r_isub 195 dX7_deal_194 rfl ?_
              refine r_istore 197 (L' := [_, _, _, _, _, _, _, _]) dX7_deal_195 (by decide) rfl rfl rfl ?_
              refine r_sipush 200 (v := 10000) dX7_deal_197 (by decide) rfl ?_
              refine r_iload 202 dX7_deal_200 rfl rfl ?_
              refine r_iadd 203 dX7_deal_202 rfl ?_
              exact r_iret .int dX7_deal_203 rfl (rfl) (by first | exact ⟨by rw [f_deal, if_pos ⟨⟨g5, g13, g18⟩, g30⟩, his, hjs, hks, i_as, dlM, dlM]; rw [if_neg (show ¬ k = 2 by omega), if_neg (show ¬ k = 2 by omega), if_pos g142]; rfl, hR.fr hFF, hFF.lo⟩ | exact ⟨by rw [f_deal, if_pos ⟨⟨g5, g13, g18⟩, g30⟩, his, hjs, hks, i_as, dlM, dlM]; rw [if_neg (show ¬ k = 2 by omega), if_neg (show ¬ k = 2 by omega), if_neg g142]; rfl, hR.fr hFF, hFF.lo⟩ | exact ⟨by rw [f_deal, if_pos ⟨⟨g5, g13, g18⟩, g30⟩, his, hjs, hks, i_as, dlM, dlM]; rw [if_pos (show k = 2 by omega), if_pos (show k = 2 by omega)]; rfl, hR.fr hFF, hFF.lo⟩)
            · have g166 : k = 1 := (nI_inj (b := 1) (by omega) (by decide)).mp g166
              refine r_iload 171 dX7_deal_169 rfl rfl ?_
              refine r_aload_n 172 dX7_deal_171 rfl rfl ?_
              refine r_getr 175 dX7_deal_172 fz_X7_32 sh_50 rfl rfl ?_
              refine r_iload_n 176 dX7_deal_175 rfl rfl ?_
              refine rj_iald 177 (j) dX7_deal_176 sh_58 (rfl) (by omega) (by decide) rfl ?_
              refine r_eq ((hC3.2.2.2.2.2.2 j hj (dI_all hI3 j hj)).2) ?_
              refine r_aload_n 178 dX7_deal_177 rfl rfl ?_
              refine r_iload_n 179 dX7_deal_178 rfl rfl ?_
              refine r_iconst 180 (v := 3) dX7_deal_179 (by decide) rfl ?_
              refine r_callV (y2 := mX7_of) (as := [_, _]) 183 dX7_deal_180 ml_X7_166 mv_X7_of (m_of (d := d - 1) (i := j) (j := 3) (by omega) (by decide)) (by omega) sh_50 ⟨_, rfl, rfl⟩ rfl (Nat.le_of_ble_eq_true rfl) rfl (kk_i ?_)
              rintro _ _ ⟨rfl, rfl⟩
              refine r_eq (z := nI (k_wo (s_K s) j)) (hL3.1 _ (by omega)) ?_
              refine r_imul 184 dX7_deal_183 rfl ?_
              refine r_eq (nI_mul _ _) ?_
              refine r_isub 185 dX7_deal_184 rfl ?_
              refine r_goto 195 dX7_deal_185 (by decide) ?_
              refine r_istore 197 (L' := [_, _, _, _, _, _, _, _]) dX7_deal_195 (by decide) rfl rfl rfl ?_
              refine r_sipush 200 (v := 10000) dX7_deal_197 (by decide) rfl ?_
              refine r_iload 202 dX7_deal_200 rfl rfl ?_
              refine r_iadd 203 dX7_deal_202 rfl ?_
              exact r_iret .int dX7_deal_203 rfl (rfl) (by first | exact ⟨by rw [f_deal, if_pos ⟨⟨g5, g13, g18⟩, g30⟩, his, hjs, hks, i_as, dlM, dlM]; rw [if_neg (show ¬ k = 2 by omega), if_neg (show ¬ k = 2 by omega), if_pos g142]; rfl, hR.fr hFF, hFF.lo⟩ | exact ⟨by rw [f_deal, if_pos ⟨⟨g5, g13, g18⟩, g30⟩, his, hjs, hks, i_as, dlM, dlM]; rw [if_neg (show ¬ k = 2 by omega), if_neg (show ¬ k = 2 by omega), if_neg g142]; rfl, hR.fr hFF, hFF.lo⟩ | exact ⟨by rw [f_deal, if_pos ⟨⟨g5, g13, g18⟩, g30⟩, his, hjs, hks, i_as, dlM, dlM]; rw [if_pos (show k = 2 by omega), if_pos (show k = 2 by omega)]; rfl, hR.fr hFF, hFF.lo⟩)
          · have g142 : k = 0 := (nI_inj (b := 0) (by omega) (by decide)).mp g142
            refine r_iload 147 dX7_deal_145 rfl rfl ?_
            refine r_aload_n 148 dX7_deal_147 rfl rfl ?_
            refine r_getr 151 dX7_deal_148 fz_X7_32 sh_50 rfl rfl ?_
            refine r_iload_n 152 dX7_deal_151 rfl rfl ?_
            refine rj_iald 153 (i) dX7_deal_152 sh_58 (rfl) (by omega) (by decide) rfl ?_
            refine r_eq ((hC3.2.2.2.2.2.2 i hi (dI_all hI3 i hi)).2) ?_
            refine r_aload_n 154 dX7_deal_153 rfl rfl ?_
            refine r_iload_n 155 dX7_deal_154 rfl rfl ?_
            refine r_iconst 156 (v := 3) dX7_deal_155 (by decide) rfl ?_
            refine r_callV (y2 := mX7_of) (as := [_, _]) 159 dX7_deal_156 ml_X7_166 mv_X7_of (m_of (d := d - 1) (i := i) (j := 3) (by omega) (by decide)) (by omega) sh_50 ⟨_, rfl, rfl⟩ rfl (Nat.le_of_ble_eq_true rfl) rfl (kk_i ?_)
            rintro _ _ ⟨rfl, rfl⟩
            refine r_eq (z := nI (k_wo (s_K s) i)) (hL3.1 _ (by omega)) ?_
            refine r_imul 160 dX7_deal_159 rfl ?_
            refine r_eq (nI_mul _ _) ?_
            refine r_isub 161 dX7_deal_160 rfl ?_
            refine r_goto 195 dX7_deal_161 (by decide) ?_
            refine r_istore 197 (L' := [_, _, _, _, _, _, _, _]) dX7_deal_195 (by decide) rfl rfl rfl ?_
            refine r_sipush 200 (v := 10000) dX7_deal_197 (by decide) rfl ?_
            refine r_iload 202 dX7_deal_200 rfl rfl ?_
            refine r_iadd 203 dX7_deal_202 rfl ?_
            exact r_iret .int dX7_deal_203 rfl (rfl) (by first | exact ⟨by rw [f_deal, if_pos ⟨⟨g5, g13, g18⟩, g30⟩, his, hjs, hks, i_as, dlM, dlM]; rw [if_neg (show ¬ k = 2 by omega), if_neg (show ¬ k = 2 by omega), if_pos g142]; rfl, hR.fr hFF, hFF.lo⟩ | exact ⟨by rw [f_deal, if_pos ⟨⟨g5, g13, g18⟩, g30⟩, his, hjs, hks, i_as, dlM, dlM]; rw [if_neg (show ¬ k = 2 by omega), if_neg (show ¬ k = 2 by omega), if_neg g142]; rfl, hR.fr hFF, hFF.lo⟩ | exact ⟨by rw [f_deal, if_pos ⟨⟨g5, g13, g18⟩, g30⟩, his, hjs, hks, i_as, dlM, dlM]; rw [if_pos (show k = 2 by omega), if_pos (show k = 2 by omega)]; rfl, hR.fr hFF, hFF.lo⟩)
        · refine r_iconst 34 (v := -1) dX7_deal_33 (by decide) rfl ?_
          exact r_iret .int dX7_deal_34 rfl (rfl) (by first | exact ⟨by rw [f_deal, if_neg (fun z => g5 z.1.1)], by rw [f_deal, if_neg (fun z => g5 z.1.1)]; exact hR, fun _ _ => rfl⟩ | exact ⟨by rw [f_deal, if_neg (fun z => g13 z.1.2.1)], by rw [f_deal, if_neg (fun z => g13 z.1.2.1)]; exact hR, fun _ _ => rfl⟩ | exact ⟨by rw [f_deal, if_neg (fun z => g30 z.2)], by rw [f_deal, if_neg (fun z => g30 z.2)]; exact hR, fun _ _ => rfl⟩ | exact ⟨by rw [f_deal, if_neg (fun z => z.1.2.2 g18)], by rw [f_deal, if_neg (fun z => z.1.2.2 g18)]; exact hR, fun _ _ => rfl⟩)

/-! ===== the class: calls that tell and change ===== -/
theorem RC.tp {w w' : zW} {s : sT} {T : Nat} {t : Nat → Nat} (h : RC w s) (hf : ∀ a, a ≠ 27 → a ≠ 28 → w' a = w a) (ht : w' 27 1 = nI T ∧ ∀ i, i < T → w' 28 i = nI (t i)) : RC w' (u_tp s T t) := by
  obtain ⟨h1, h2, h3, h4, h5, h6⟩ := h
  refine ⟨h1.fr (fun a _ _ => hf a (by omega) (by omega)), ?_, ht, ?_, ?_, ?_⟩
  · exact h2.congr (by rw [hf 0 (by decide) (by decide)]) (fun a _ _ => hf a (by omega) (by omega))
  · unfold ftC at h4 ⊢; rw [hf 29 (by decide) (by decide)]; exact h4
  · exact shC.congr h5 (fun a _ _ => hf a (by omega) (by omega))
  · unfold tnC at h6 ⊢; rw [hf 0 (by decide) (by decide)]; exact h6
theorem RC.lk {w w' : zW} {s : sT} {K : Nat → Nat} (h : RC w s) (hf : ∀ a, a < 1 ∨ 5 < a → w' a = w a) (hl : lkF w' 1 (s_n s) K) : RC w' (u_lk s (s_n s) K) := by
  obtain ⟨h1, h2, h3, h4, h5, h6⟩ := h
  refine ⟨hl, ?_, ?_, ?_, ?_, ?_⟩
  · exact h2.congr (by rw [hf 0 (by omega)]) (fun a _ _ => hf a (by omega))
  · unfold tpC at h3 ⊢; rw [hf 27 (by omega), hf 28 (by omega)]; exact h3
  · unfold ftC at h4 ⊢; rw [hf 29 (by omega)]; exact h4
  · exact shC.congr h5 (fun a _ _ => hf a (by omega))
  · unfold tnC at h6 ⊢; rw [hf 0 (by omega)]; exact h6
theorem lm_congr {n : Nat} {K K' : Nat → Nat} (h : ∀ b, b < n → K' (6 + 6 * b + 5) = K (6 + 6 * b + 5)) : lm n K' = lm n K := mk_congr (fun b hb => by rw [h b hb])
/-- a mark is written -/
theorem lkF.mark {w : zW} {n b q v : Nat} {K : Nat → Nat} (h : lkF w 1 n K) (hn : n ≤ 6) (hb : b < n) (hq : q < 5) : lkF (z_up w (1 + 2) (b * 5 + q) (nI v)) 1 n (un K (6 + 6 * b + q) v) := by
  obtain ⟨h1, h2, h3, h4, h5, h6⟩ := h
  have e42 : un K (6 + 6 * b + q) v 42 = K 42 := un_n (by omega)
  refine ⟨fun k hk => ?_, fun b' q' hb' hq' => ?_, ?_, ?_, ?_, fun j hj => ?_⟩
  · rw [z_up_a (by decide), un_n (by omega)]; exact h1 k hk
  · by_cases e : b' = b ∧ q' = q
    · obtain ⟨rfl, rfl⟩ := e; rw [z_up_s, un_s]
    · rw [z_up_i (by omega), un_n (by omega)]; exact h2 b' q' hb' hq'
  · rw [z_up_a (by decide)]; exact h3
  · rw [z_up_a (by decide), lm_congr (K := K) (fun c _ => un_n (by omega))]; exact h4
  · rw [z_up_a (by decide), e42]; exact h5
  · rw [e42] at hj
    rw [z_up_a (by decide), z_up_a (by decide), un_n (by omega), un_n (by omega)]; exact h6 j hj
/-- a rule is written -/
theorem lkF.rule {w : zW} {n q v : Nat} {K : Nat → Nat} (h : lkF w 1 n K) (hq : q < 6) : lkF (z_up w 2 q (nI v)) 1 n (un K q v) := by
  obtain ⟨h1, h2, h3, h4, h5, h6⟩ := h
  have e42 : un K q v 42 = K 42 := un_n (by omega)
  refine ⟨fun k hk => ?_, fun b' q' hb' hq' => ?_, ?_, ?_, ?_, fun j hj => ?_⟩
  · by_cases e : k = q
    · subst e; rw [un_s]; exact z_up_s
    · rw [un_n e, ← h1 k hk]; exact z_up_i e
  · rw [z_up_a (by decide), un_n (by omega)]; exact h2 b' q' hb' hq'
  · rw [z_up_a (by decide)]; exact h3
  · rw [z_up_a (by decide), lm_congr (K := K) (fun c _ => un_n (by omega))]; exact h4
  · rw [z_up_a (by decide), e42]; exact h5
  · rw [e42] at hj
    rw [z_up_a (by decide), z_up_a (by decide), un_n (by omega), un_n (by omega)]; exact h6 j hj
theorem b_orS : ∀ g, g < 64 → ∀ b, b < 6 → bi g b = 1 → nI g ||| ((1 : Int32) <<< (nI b &&& 31)) = nI g := by decide +kernel
theorem b_rmS : ∀ g, g < 64 → ∀ b, b < 6 → bi g b = 0 → nI g &&& (((1 : Int32) <<< (nI b &&& 31)) ^^^ (-1)) = nI g := by decide +kernel
theorem lm_set {n b v : Nat} {K : Nat → Nat} (hn : n ≤ 6) (hK : ∀ c, c < n → K (6 + 6 * c + 5) ≤ 1) (hb : b < n) (hv : v ≤ 1) : lm n (un K (6 + 6 * b + 5) v) = if v = 1 then (if bi (lm n K) b = 1 then lm n K else lm n K + 2 ^ b) else (if bi (lm n K) b = 1 then lm n K - 2 ^ b else lm n K) := by
  have hg := mk_64 (p := fun c => K (6 + 6 * c + 5) == 1) hn
  have hg : lm n K < 64 := hg
  have hl : ∀ c, c < 6 → bi (lm n (un K (6 + 6 * b + 5) v)) c = if c = b then v else bi (lm n K) c := by
    intro c hc
    rw [lm, lm, bi_mk hn c hc, bi_mk hn c hc]
    by_cases e : c = b
    · subst e
      rw [if_pos rfl, un_s]
      by_cases q : v = 1
      · rw [if_pos ⟨hb, by simp [q]⟩, q]
      · rw [if_neg (fun z => q (by simpa using z.2))]; omega
    · rw [if_neg e, un_n (by omega)]
  have h64 : lm n (un K (6 + 6 * b + 5) v) < 64 := mk_64 hn
  have hp : 2 ^ b ≤ 32 := by have : ∀ b, b < 6 → 2 ^ b ≤ 32 := by decide
                             exact this b (by omega)
  by_cases q : v = 1
  · rw [if_pos q]
    by_cases e : bi (lm n K) b = 1
    · rw [if_pos e]
      refine bi_ext _ h64 _ hg (fun c hc => ?_)
      rw [hl c hc]
      split
      · rename_i z; rw [z, e, q]
      · rfl
    · rw [if_neg e]
      have e0 : bi (lm n K) b = 0 := by rcases bi_01 (lm n K) b with z | z; exact z; exact absurd z e
      have ha := bi_add (lm n K) hg b (by omega) e0
      have hs : lm n K + 2 ^ b < 64 := by
        have : ∀ g, g < 64 → ∀ b, b < 6 → bi g b = 0 → g + 2 ^ b < 64 := by decide +kernel
        exact this _ hg b (by omega) e0
      refine bi_ext _ h64 _ hs (fun c hc => ?_)
      rw [hl c hc, ha c hc, q]
  · have q0 : v = 0 := by omega
    rw [if_neg q]
    by_cases e : bi (lm n K) b = 1
    · rw [if_pos e]
      have ha := bi_sub (lm n K) hg b (by omega) e
      refine bi_ext _ h64 _ (Nat.lt_of_le_of_lt (Nat.sub_le _ _) hg) (fun c hc => ?_)
      rw [hl c hc, ha c hc, q0]
    · rw [if_neg e]
      have e0 : bi (lm n K) b = 0 := by rcases bi_01 (lm n K) b with z | z; exact z; exact absurd z e
      refine bi_ext _ h64 _ hg (fun c hc => ?_)
      rw [hl c hc]
      split
      · rename_i z; rw [z, e0, q0]
      · rfl
/-- who lies is written -/
theorem lkF.lie {w : zW} {n b v : Nat} {K : Nat → Nat} (h : lkF w 1 n K) (hn : n ≤ 6) (hb : b < n) : lkF (z_up w 1 3 (nI (lm n (un K (6 + 6 * b + 5) v)))) 1 n (un K (6 + 6 * b + 5) v) := by
  obtain ⟨h1, h2, h3, h4, h5, h6⟩ := h
  have e42 : un K (6 + 6 * b + 5) v 42 = K 42 := un_n (by omega)
  refine ⟨fun k hk => ?_, fun b' q' hb' hq' => ?_, ?_, ?_, ?_, fun j hj => ?_⟩
  · rw [z_up_a (by decide), un_n (by omega)]; exact h1 k hk
  · rw [z_up_a (by decide), un_n (by omega)]; exact h2 b' q' hb' hq'
  · rw [z_up_i (by decide)]; exact h3
  · rw [z_up_s]
  · rw [z_up_i (by decide), e42]; exact h5
  · rw [e42] at hj
    rw [z_up_a (by decide), z_up_a (by decide), un_n (by omega), un_n (by omega)]; exact h6 j hj
theorem b8 : ∀ j, j < 128 → (nI j).toInt8.toInt32 = nI j := by decide +kernel
theorem rl0 : ∀ j, j < 6 → (z_sar.getD 0 []).getD j 0 = nI (if j = 0 then 1 else 0) := by decide +kernel
theorem rl1 : ∀ j, j < 6 → (z_sar.getD 1 []).getD j 0 = nI (mostR j) := by decide +kernel
theorem rl3 : ∀ j, j < 5 → 1 ≤ j → (z_sar.getD 3 []).getD j 0 = nI (mostM j) := by decide +kernel
theorem mostR_lt (j : Nat) : mostR j < 100 := by unfold mostR; split; omega; split <;> omega
theorem mostM_lt (j : Nat) : mostM j < 100 := by unfold mostM; split; omega; split <;> omega
theorem ne_lit {q : Int32} {k : Nat} (hk : k < 2147483648) (h : ¬ q = nI k) : ¬ q.toInt = (k : Int) := fun z => h (ti_of z)
set_option maxRecDepth 20000 in
set_option maxHeartbeats 4000000 in
theorem c_append {d T : Nat} {w : zW} {v : Int32} (hT : T ≤ 160) (h1 : w 27 1 = nI T) : CT mX4_append d [.ref 27, .int v] w (z_i fun x w' => z_b (T < 160) = x ∧ (if T < 160 then z_up (z_up w 28 T v.toInt8.toInt32) 27 1 (nI (T + 1)) else w) = w') := by
  refine CT.of [some (.ref 27), some (.int v)] rfl (Nat.le_of_ble_eq_true rfl) rfl ?_
  refine r_aload_n 1 dX4_append_0 rfl rfl ?_
  refine r_geti 4 dX4_append_1 fz_X4_13 sh_27 rfl rfl ?_
  refine r_eq h1 ?_
  refine r_sipush 7 (v := 160) dX4_append_4 (by decide) rfl ?_
  refine r_icmp_lt 12 10 dX4_append_7 (by decide) rfl (fun g7 => ?_) (fun g7 => ?_)
  · have g7 : T < 160 := (nI_lt' (b := 160) (by omega) (by decide)).mp g7
    refine r_aload_n 13 dX4_append_12 rfl rfl ?_
    refine r_getr 16 dX4_append_13 fz_X4_9 sh_27 rfl rfl ?_
    refine r_aload_n 17 dX4_append_16 rfl rfl ?_
    refine r_geti 20 dX4_append_17 fz_X4_13 sh_27 rfl rfl ?_
    refine r_eq h1 ?_
    refine r_iload_n 21 dX4_append_20 rfl rfl ?_
    refine r_i2b 22 dX4_append_21 rfl ?_
    refine rj_bast 23 (T) dX4_append_22 sh_28 (rfl) (g7) (by decide) rfl ?_
    rw [pk_vb]
    refine r_aload_n 24 dX4_append_23 rfl rfl ?_
    refine r_dup 25 dX4_append_24 rfl rfl ?_
    refine r_geti 28 dX4_append_25 fz_X4_13 sh_27 rfl rfl ?_
    refine r_eq (z := nI T) (by rw [z_up_a (by decide)]; exact h1) ?_
    refine r_iconst 29 (v := 1) dX4_append_28 (by decide) rfl ?_
    refine r_iadd 30 dX4_append_29 rfl ?_
    refine r_eq (nI_1 T) ?_
    refine r_puti 33 dX4_append_30 fz_X4_13 fw_4_1 sh_27 rfl rfl ?_
    refine r_iconst 34 (v := 1) dX4_append_33 (by decide) rfl ?_
    exact r_iret .boolean dX4_append_34 rfl (rfl) (⟨z_bp g7, if_pos g7⟩)
  · have g7 : ¬ T < 160 := fun z => g7 ((nI_lt' (b := 160) (by omega) (by decide)).mpr z)
    refine r_iconst 11 (v := 0) dX4_append_10 (by decide) rfl ?_
    exact r_iret .boolean dX4_append_11 rfl (rfl) (⟨z_bn g7, if_neg g7⟩)
set_option maxRecDepth 20000 in
set_option maxHeartbeats 4000000 in
theorem C_feed {d : Nat} {w : zW} {s : sT} {c : Int32} (hd : 6 ≤ d) (hR : RC w s) (hS : sV s) : AC mX6_feed d [.int c] w (f_feed s c) := by
  have hn := hS.1.n
  refine CT.of [some (.ref 0), some (.int c)] rfl (Nat.le_of_ble_eq_true rfl) rfl ?_
  refine r_iload_n 1 dX6_feed_0 rfl rfl ?_
  refine r_iconst 2 (v := 0) dX6_feed_1 (by decide) rfl ?_
  refine r_bipush 4 (v := 127) dX6_feed_2 (by decide) rfl ?_
  refine r_callS (y2 := mX6_within) (as := [_, _, _]) 7 dX6_feed_4 ml_X6_67 ms_X6_within (c_within (d := d - 1) _ _ _) (by omega) rfl (Nat.le_of_ble_eq_true rfl) rfl (kk_i ?_)
  rintro _ _ ⟨rfl, rfl⟩
  refine rb_ne 12 10 dX6_feed_7 (by decide) rfl (fun g7 => ?_) (fun g7 => ?_)
  · have wq : wi c 0 127 = true := wi_iff.mpr g7
    obtain ⟨j, hj, rfl⟩ := wi_of (hi := 127) wq
    have hjs : tN (nI j) = j := tN_n (by omega)
    refine r_aload_n 13 dX6_feed_12 rfl rfl ?_
    refine r_getr 16 dX6_feed_13 fz_X6_26 sh_0 rfl rfl ?_
    refine r_iload_n 17 dX6_feed_16 rfl rfl ?_
    refine r_callV (y2 := mX4_append) (as := [_]) 20 dX6_feed_17 ml_X6_71 mv_X4_append (c_append (d := d - 1) hS.2.2.1.1 hR.2.2.1.1) (by omega) sh_27 ⟨_, rfl, rfl⟩ rfl (Nat.le_of_ble_eq_true rfl) rfl (kk_i ?_)
    rintro _ w1 ⟨rfl, hw⟩
    refine rb_eq 33 23 dX6_feed_20 (by decide) rfl (fun g20 => ?_) (fun g20 => ?_)
    · rw [if_neg g20] at hw
      subst hw
      refine r_bipush 35 (v := -3) dX6_feed_33 (by decide) rfl ?_
      exact r_iret .int dX6_feed_35 rfl (rfl) (by first | exact ⟨by rw [f_feed, if_pos wq, if_neg g20], by rw [f_feed, if_pos wq, if_neg g20]; exact hR, fun _ _ => rfl⟩ | exact ⟨by rw [f_feed, if_pos wq, if_pos g20], by rw [f_feed, if_pos wq, if_pos g20]; exact hR.tp (fun a h1 h2 => by rw [← hw, z_up_o h1, z_up_o h2]) ⟨by rw [← hw, z_up_s], fun i hi => by rw [← hw, z_up_a (by decide), hjs]; by_cases e : i = s_T s; (rw [e, z_up_s, un_s]; exact b8 j (by omega)); (rw [z_up_i e, un_n e]; exact hR.2.2.1.2 i (by omega))⟩, fun a ha => by rw [← hw, z_up_o (by omega), z_up_o (by omega)]⟩)
    · rw [if_pos g20] at hw
      refine r_aload_n 24 dX6_feed_23 rfl rfl ?_
      refine r_getr 27 dX6_feed_24 fz_X6_26 sh_0 rfl rfl ?_
      refine r_geti 30 dX6_feed_27 fz_X6_75 sh_27 rfl rfl ?_
      refine r_eq (z := nI (s_T s + 1)) (by rw [← hw, z_up_s]) ?_
      refine r_goto 35 dX6_feed_30 (by decide) ?_
      exact r_iret .int dX6_feed_35 rfl (rfl) (by first | exact ⟨by rw [f_feed, if_pos wq, if_neg g20], by rw [f_feed, if_pos wq, if_neg g20]; exact hR, fun _ _ => rfl⟩ | exact ⟨by rw [f_feed, if_pos wq, if_pos g20], by rw [f_feed, if_pos wq, if_pos g20]; exact hR.tp (fun a h1 h2 => by rw [← hw, z_up_o h1, z_up_o h2]) ⟨by rw [← hw, z_up_s], fun i hi => by rw [← hw, z_up_a (by decide), hjs]; by_cases e : i = s_T s; (rw [e, z_up_s, un_s]; exact b8 j (by omega)); (rw [z_up_i e, un_n e]; exact hR.2.2.1.2 i (by omega))⟩, fun a ha => by rw [← hw, z_up_o (by omega), z_up_o (by omega)]⟩)
  · have wq : ¬ wi c 0 127 = true := fun z => g7 (wi_iff.mp z)
    refine r_iconst 11 (v := -1) dX6_feed_10 (by decide) rfl ?_
    exact r_iret .int dX6_feed_11 rfl (rfl) (⟨by rw [f_feed, if_neg wq], by rw [f_feed, if_neg wq]; exact hR, fun _ _ => rfl⟩)
set_option maxRecDepth 20000 in
set_option maxHeartbeats 4000000 in
theorem C_end {d : Nat} {w : zW} {s : sT} {m : Int32} (hd : 6 ≤ d) (hR : RC w s) (hS : sV s) : AC mX6_end d [.int m] w (f_end s m) := by
  have hn := hS.1.n
  refine CT.of [some (.ref 0), some (.int m), none] rfl (Nat.le_of_ble_eq_true rfl) rfl ?_
  refine r_iload_n 1 dX6_end_0 rfl rfl ?_
  refine r_iconst 2 (v := 0) dX6_end_1 (by decide) rfl ?_
  refine r_aload_n 3 dX6_end_2 rfl rfl ?_
  refine r_getr 6 dX6_end_3 fz_X6_26 sh_0 rfl rfl ?_
  refine r_geti 9 dX6_end_6 fz_X6_75 sh_27 rfl rfl ?_
  refine r_eq hR.2.2.1.1 ?_
  refine r_callS (y2 := mX6_within) (as := [_, _, _]) 12 dX6_end_9 ml_X6_67 ms_X6_within (c_within (d := d - 1) _ _ _) (by omega) rfl (Nat.le_of_ble_eq_true rfl) rfl (kk_i ?_)
  rintro _ _ ⟨rfl, rfl⟩
  refine rb_ne 17 15 dX6_end_12 (by decide) rfl (fun g12 => ?_) (fun g12 => ?_)
  · have wq : wi m 0 (s_T s) = true := wi_iff.mpr (by rw [ti_n (by have := hS.2.2.1.1; omega)] at g12; exact g12)
    obtain ⟨j, hj, rfl⟩ := wi_of (hi := s_T s) wq
    have hT := hS.2.2.1.1
    have hjs : tN (nI j) = j := tN_n (by omega)
    refine r_aload_n 18 dX6_end_17 rfl rfl ?_
    refine r_getr 21 dX6_end_18 fz_X6_26 sh_0 rfl rfl ?_
    refine r_geti 24 dX6_end_21 fz_X6_75 sh_27 rfl rfl ?_
    refine r_eq hR.2.2.1.1 ?_
    refine r_istore_n 25 (L' := [_, _, _]) dX6_end_24 (by decide) rfl rfl rfl ?_
    refine r_aload_n 26 dX6_end_25 rfl rfl ?_
    refine r_getr 29 dX6_end_26 fz_X6_26 sh_0 rfl rfl ?_
    refine r_iload_n 30 dX6_end_29 rfl rfl ?_
    refine r_puti 33 dX6_end_30 fz_X6_75 fw_4_1 sh_27 rfl rfl ?_
    refine r_nw (fun w1 e1 => ?_)
    refine r_iload_n 34 dX6_end_33 rfl rfl ?_
    exact r_iret .int dX6_end_34 rfl (rfl) (⟨by rw [f_end, if_pos wq], by rw [f_end, if_pos wq, hjs]; exact hR.tp (fun a h1 h2 => by rw [e1, z_up_o h1]) ⟨by rw [e1, z_up_s], fun i hi => by rw [e1, z_up_a (by decide)]; exact hR.2.2.1.2 i (by omega)⟩, fun a ha => by rw [e1, z_up_o (by omega)]⟩)
  · have wq : ¬ wi m 0 (s_T s) = true := fun z => g12 (by rw [ti_n (by have := hS.2.2.1.1; omega)]; exact wi_iff.mp z)
    refine r_iconst 16 (v := -1) dX6_end_15 (by decide) rfl ?_
    exact r_iret .int dX6_end_16 rfl (rfl) (⟨by rw [f_end, if_neg wq], by rw [f_end, if_neg wq]; exact hR, fun _ _ => rfl⟩)
set_option maxRecDepth 20000 in
set_option maxHeartbeats 4000000 in
theorem C_fault {d : Nat} {w : zW} {s : sT}  (hd : 6 ≤ d) (hR : RC w s) (hS : sV s) : AC mX6_fault d [] w (f_fault s) := by
  have hn := hS.1.n
  refine CT.of [some (.ref 0)] rfl (Nat.le_of_ble_eq_true rfl) rfl ?_
  refine r_aload_n 1 dX6_fault_0 rfl rfl ?_
  refine r_getr 4 dX6_fault_1 fz_X6_35 sh_0 rfl rfl ?_
  refine r_geti 7 dX6_fault_4 fz_X6_93 sh_29 rfl rfl ?_
  refine r_eq hR.2.2.2.1 ?_
  exact r_iret .int dX6_fault_7 rfl (rfl) (⟨rfl, hR, fun _ _ => rfl⟩)
set_option maxRecDepth 20000 in
set_option maxHeartbeats 4000000 in
theorem C_torn {d : Nat} {w : zW} {s : sT}  (hd : 6 ≤ d) (hR : RC w s) (hS : sV s) : AC mX6_torn d [] w (f_torn s) := by
  have hn := hS.1.n
  refine CT.of [some (.ref 0)] rfl (Nat.le_of_ble_eq_true rfl) rfl ?_
  refine r_aload_n 1 dX6_torn_0 rfl rfl ?_
  refine r_geti 4 dX6_torn_1 fz_X6_277 sh_0 rfl rfl ?_
  refine r_eq hR.2.2.2.2.2 ?_
  exact r_iret .int dX6_torn_4 rfl (rfl) (⟨rfl, hR, fun _ _ => rfl⟩)
set_option maxRecDepth 20000 in
set_option maxHeartbeats 4000000 in
theorem C_rule {d : Nat} {w : zW} {s : sT} {q : Int32} (hd : 6 ≤ d) (hR : RC w s) (hS : sV s) : AC mX6_rule d [.int q] w (f_rule s q) := by
  have hn := hS.1.n
  refine CT.of [some (.ref 0), some (.int q)] rfl (Nat.le_of_ble_eq_true rfl) rfl ?_
  refine r_iload_n 1 dX6_rule_0 rfl rfl ?_
  refine r_iconst 2 (v := 0) dX6_rule_1 (by decide) rfl ?_
  refine r_bipush 4 (v := 7) dX6_rule_2 (by decide) rfl ?_
  refine r_callS (y2 := mX6_within) (as := [_, _, _]) 7 dX6_rule_4 ml_X6_67 ms_X6_within (c_within (d := d - 1) _ _ _) (by omega) rfl (Nat.le_of_ble_eq_true rfl) rfl (kk_i ?_)
  rintro _ _ ⟨rfl, rfl⟩
  refine rb_ne 12 10 dX6_rule_7 (by decide) rfl (fun g7 => ?_) (fun g7 => ?_)
  · have g7 : 0 ≤ q.toInt ∧ q.toInt ≤ 7 := g7
    refine r_iload_n 13 dX6_rule_12 rfl rfl ?_
    refine r_bipush 15 (v := 6) dX6_rule_13 (by decide) rfl ?_
    refine r_icmp_ne 26 18 dX6_rule_15 (by decide) rfl (fun g15 => ?_) (fun g15 => ?_)
    · refine r_iload_n 27 dX6_rule_26 rfl rfl ?_
      refine r_bipush 29 (v := 7) dX6_rule_27 (by decide) rfl ?_
      refine r_icmp_ne 42 32 dX6_rule_29 (by decide) rfl (fun g29 => ?_) (fun g29 => ?_)
      · have n6 := ne_lit (k := 6) (by decide) g15
        have n7 := ne_lit (k := 7) (by decide) g29
        have w5 : wi q 0 5 = true := wi_iff.mpr (by omega)
        obtain ⟨j, hj, rfl⟩ := wi_of (hi := 5) w5
        have hjs : tN (nI j) = j := tN_n (by omega)
        refine r_aload_n 43 dX6_rule_42 rfl rfl ?_
        refine r_getr 46 dX6_rule_43 fz_X6_10 sh_0 rfl rfl ?_
        refine r_getr 49 dX6_rule_46 fz_X6_102 sh_1 rfl rfl ?_
        refine r_iload_n 50 dX6_rule_49 rfl rfl ?_
        refine rj_iald 51 (j) dX6_rule_50 sh_2 (rfl) (by omega) (by decide) rfl ?_
        refine r_eq (hR.1.1 j (by omega)) ?_
        exact r_iret .int dX6_rule_51 rfl (rfl) (by first | exact ⟨by rw [f_rule, if_pos w5, hjs], hR, fun _ _ => rfl⟩ | exact ⟨by rw [f_rule, if_neg w5, if_neg g15, if_pos g29], hR, fun _ _ => rfl⟩)
      · have w5 : ¬ wi q 0 5 = true := by rw [g29]; decide +kernel
        refine r_aload_n 33 dX6_rule_32 rfl rfl ?_
        refine r_getr 36 dX6_rule_33 fz_X6_10 sh_0 rfl rfl ?_
        refine r_geti 39 dX6_rule_36 fz_X6_99 sh_1 rfl rfl ?_
        refine r_eq hR.1.2.2.2.1 ?_
        refine r_goto 51 dX6_rule_39 (by decide) ?_
        exact r_iret .int dX6_rule_51 rfl (rfl) (by first | exact ⟨by rw [f_rule, if_pos w5, hjs], hR, fun _ _ => rfl⟩ | exact ⟨by rw [f_rule, if_neg w5, if_neg g15, if_pos g29], hR, fun _ _ => rfl⟩)
    · have w5 : ¬ wi q 0 5 = true := by rw [g15]; decide +kernel
      refine r_aload_n 19 dX6_rule_18 rfl rfl ?_
      refine r_getr 22 dX6_rule_19 fz_X6_10 sh_0 rfl rfl ?_
      refine r_geti 25 dX6_rule_22 fz_X6_96 sh_1 rfl rfl ?_
      refine r_eq hR.1.2.2.1 ?_
      exact r_iret .int dX6_rule_25 rfl (rfl) (⟨by rw [f_rule, if_neg w5, if_pos g15], hR, fun _ _ => rfl⟩)
  · have g7 : ¬ (0 ≤ q.toInt ∧ q.toInt ≤ 7) := g7
    have n5 : ¬ wi q 0 5 = true := fun z => by have := wi_iff.mp z; omega
    have n6 : ¬ q = 6 := fun z => g7 (by rw [z]; decide +kernel)
    have n7 : ¬ q = 7 := fun z => g7 (by rw [z]; decide +kernel)
    refine r_iconst 11 (v := -1) dX6_rule_10 (by decide) rfl ?_
    exact r_iret .int dX6_rule_11 rfl (rfl) (⟨by rw [f_rule, if_neg n5, if_neg n6, if_neg n7], hR, fun _ _ => rfl⟩)
set_option maxRecDepth 20000 in
set_option maxHeartbeats 4000000 in
theorem C_boat {d : Nat} {w : zW} {s : sT} {b q : Int32} (hd : 6 ≤ d) (hR : RC w s) (hS : sV s) : AC mX6_boat d [.int b, .int q] w (f_boat s b q) := by
  have hn := hS.1.n
  refine CT.of [some (.ref 0), some (.int b), some (.int q)] rfl (Nat.le_of_ble_eq_true rfl) rfl ?_
  refine r_aload_n 1 dX6_boat_0 rfl rfl ?_
  refine r_iload_n 2 dX6_boat_1 rfl rfl ?_
  refine r_callV (y2 := mX6_isBoat) (as := [_]) 5 dX6_boat_2 ml_X6_105 mv_X6_isBoat (c_isBoat (d := d - 1) (by omega) hn hR.1.2.2.1) (by omega) sh_0 ⟨_, rfl, rfl⟩ rfl (Nat.le_of_ble_eq_true rfl) rfl (kk_i ?_)
  rintro _ _ ⟨rfl, rfl⟩
  refine rb_eq 18 8 dX6_boat_5 (by decide) rfl (fun g5 => ?_) (fun g5 => ?_)
  · refine r_iconst 19 (v := -1) dX6_boat_18 (by decide) rfl ?_
    exact r_iret .int dX6_boat_19 rfl (rfl) (⟨by rw [f_boat, if_neg (fun z => by first | exact g5 z.1 | exact w6 z.2)], hR, fun _ _ => rfl⟩)
  · obtain ⟨j, hj, rfl⟩ := iB_of g5
    have hjs : tN (nI j) = j := tN_n (by omega)
    refine r_iload_n 9 dX6_boat_8 rfl rfl ?_
    refine r_iconst 10 (v := 0) dX6_boat_9 (by decide) rfl ?_
    refine r_bipush 12 (v := 6) dX6_boat_10 (by decide) rfl ?_
    refine r_callS (y2 := mX6_within) (as := [_, _, _]) 15 dX6_boat_12 ml_X6_67 ms_X6_within (c_within (d := d - 1) _ _ _) (by omega) rfl (Nat.le_of_ble_eq_true rfl) rfl (kk_i ?_)
    rintro _ _ ⟨rfl, rfl⟩
    refine rb_ne 20 18 dX6_boat_15 (by decide) rfl (fun g15 => ?_) (fun g15 => ?_)
    · have w6 : wi q 0 6 = true := wi_iff.mpr g15
      obtain ⟨k, hk, rfl⟩ := wi_of (hi := 6) w6
      have hks : tN (nI k) = k := tN_n (by omega)
      refine r_iload_n 21 dX6_boat_20 rfl rfl ?_
      refine r_iconst 22 (v := 5) dX6_boat_21 (by decide) rfl ?_
      refine r_icmp_ne 37 25 dX6_boat_22 (by decide) rfl (fun g22 => ?_) (fun g22 => ?_)
      · refine r_iload_n 38 dX6_boat_37 rfl rfl ?_
        refine r_bipush 40 (v := 6) dX6_boat_38 (by decide) rfl ?_
        refine r_icmp_ne 54 43 dX6_boat_40 (by decide) rfl (fun g40 => ?_) (fun g40 => ?_)
        · have n5 : ¬ k = 5 := fun z => g22 (by rw [z]; rfl)
          have n6 : ¬ k = 6 := fun z => g40 (by rw [z]; rfl)
          have k5 : k < 5 := by omega
          refine r_aload_n 55 dX6_boat_54 rfl rfl ?_
          refine r_getr 58 dX6_boat_55 fz_X6_10 sh_0 rfl rfl ?_
          refine r_iload_n 59 dX6_boat_58 rfl rfl ?_
          refine r_iload_n 60 dX6_boat_59 rfl rfl ?_
          refine r_callV (y2 := mX1_mark) (as := [_, _]) 63 dX6_boat_60 ml_X6_112 mv_X1_mark (c_mark (d := d - 1) (B := 1) (Or.inl rfl) (i := j) (j := k) (by omega) k5) (by omega) sh_1 ⟨_, rfl, rfl⟩ rfl (Nat.le_of_ble_eq_true rfl) rfl (kk_i ?_)
          rintro _ _ ⟨rfl, rfl⟩
          refine r_eq (z := nI (s_K s (6 + 6 * j + k))) (hR.1.2.1 j k hj k5) ?_
          exact r_iret .int dX6_boat_63 rfl (rfl) (by first | exact ⟨by rw [f_boat, if_pos ⟨g5, w6⟩, if_pos g40, hjs], hR, fun _ _ => rfl⟩ | exact ⟨by rw [f_boat, if_pos ⟨g5, w6⟩, if_neg g40, hjs, hks], hR, fun _ _ => rfl⟩)
        · refine r_aload_n 44 dX6_boat_43 rfl rfl ?_
          refine r_getr 47 dX6_boat_44 fz_X6_10 sh_0 rfl rfl ?_
          refine r_iload_n 48 dX6_boat_47 rfl rfl ?_
          refine r_callV (y2 := mX1_countsFrom) (as := [_]) 51 dX6_boat_48 ml_X6_108 mv_X1_countsFrom (c_countsFrom (d := d - 1) (A := 99) (by omega) (Or.inl rfl) (by decide) hS.1.1 hR.1.D (b := j) hj) (by omega) sh_1 ⟨_, rfl, rfl⟩ rfl (Nat.le_of_ble_eq_true rfl) rfl (kk_i ?_)
          rintro _ _ ⟨rfl, rfl⟩
          refine r_goto 63 dX6_boat_51 (by decide) ?_
          exact r_iret .int dX6_boat_63 rfl (rfl) (by first | exact ⟨by rw [f_boat, if_pos ⟨g5, w6⟩, if_pos g40, hjs], hR, fun _ _ => rfl⟩ | exact ⟨by rw [f_boat, if_pos ⟨g5, w6⟩, if_neg g40, hjs, hks], hR, fun _ _ => rfl⟩)
      · have g22 : k = 5 := (nI_inj (b := 5) (by omega) (by decide)).mp g22
        refine r_aload_n 26 dX6_boat_25 rfl rfl ?_
        refine r_getr 29 dX6_boat_26 fz_X6_10 sh_0 rfl rfl ?_
        refine r_geti 32 dX6_boat_29 fz_X6_99 sh_1 rfl rfl ?_
        refine r_eq hR.1.2.2.2.1 ?_
        refine r_iload_n 33 dX6_boat_32 rfl rfl ?_
        refine r_ishr 34 dX6_boat_33 rfl ?_
        refine r_iconst 35 (v := 1) dX6_boat_34 (by decide) rfl ?_
        refine r_iand 36 dX6_boat_35 rfl ?_
        refine r_eq (b_sh _ (mk_64 hn) j (by omega)) ?_
        refine r_eq (z := nI (s_K s (6 + 6 * j + 5))) (congrArg nI (lm_b hn (fun b hb => hS.1.lie hb) j hj)) ?_
        exact r_iret .int dX6_boat_36 rfl (rfl) (⟨by rw [f_boat, if_pos ⟨g5, w6⟩, if_neg (by rw [g22]; decide +kernel), hjs, hks, g22], hR, fun _ _ => rfl⟩)
    · have w6 : ¬ wi q 0 6 = true := fun z => g15 (wi_iff.mp z)
      refine r_iconst 19 (v := -1) dX6_boat_18 (by decide) rfl ?_
      exact r_iret .int dX6_boat_19 rfl (rfl) (⟨by rw [f_boat, if_neg (fun z => by first | exact g5 z.1 | exact w6 z.2)], hR, fun _ _ => rfl⟩)

/-! ===== what is right of the state stays right ===== -/
theorem RC.lo {w w' : zW} {s : sT} (h : RC w s) (hf : ∀ a, a < 50 → w' a = w a) : RC w' s := by
  obtain ⟨h1, h2, h3, h4, h5, h6⟩ := h
  have e0 : w' 0 = w 0 := hf 0 (by omega)
  have e27 : w' 27 = w 27 := hf 27 (by omega)
  have e28 : w' 28 = w 28 := hf 28 (by omega)
  have e29 : w' 29 = w 29 := hf 29 (by omega)
  refine ⟨h1.fr (fun a _ _ => hf a (by omega)), h2.congr (by rw [e0]) (fun a _ _ => hf a (by omega)), ?_, ?_, h5.congr (fun a _ _ => hf a (by omega)), ?_⟩
  · unfold tpC at h3 ⊢; rw [e27, e28]; exact h3
  · unfold ftC at h4 ⊢; rw [e29]; exact h4
  · unfold tnC at h6 ⊢; rw [e0]; exact h6
theorem RM.hi {w w' : zW} {s : sT} (h : RM w s) (hf : ∀ a, 49 < a → w' a = w a) : RM w' s := by
  obtain ⟨h1, h2, h3, h4, h5, h6⟩ := h
  have e50 : w' 50 = w 50 := hf 50 (by omega)
  have e51 : w' 51 = w 51 := hf 51 (by omega)
  have e53 : w' 53 = w 53 := hf 53 (by omega)
  have e55 : w' 55 = w 55 := hf 55 (by omega)
  have e60 : w' 60 = w 60 := hf 60 (by omega)
  have e61 : w' 61 = w 61 := hf 61 (by omega)
  have e62 : w' 62 = w 62 := hf 62 (by omega)
  refine ⟨?_, ?_, ?_, ?_, ?_, ?_⟩
  · unfold lkM at h1 ⊢; rw [e51, e50]; exact h1
  · unfold imM at h2 ⊢; rw [e51, e53]; exact h2
  · unfold tpM at h3 ⊢; rw [e55, e50]; exact h3
  · rw [e50]; exact h4
  · unfold shM at h5 ⊢; rw [e60, e61, e62]; exact h5
  · rw [e50]; exact h6
theorem wi_tN {v : Int32} {lo hi : Int} (h : wi v lo hi = true) : lo ≤ v.toInt ∧ v.toInt ≤ hi := by
  simpa only [wi, Bool.and_eq_true, decide_eq_true_eq] using h
theorem iB_tN {n : Nat} {b : Int32} (h : iB n b = true) : tN b < n := by
  simp only [iB, Bool.and_eq_true, decide_eq_true_eq] at h
  unfold tN; omega
theorem v_feed {s : sT} {c : Int32} (h : sV s) : sV (f_feed s c).2 := by
  unfold f_feed
  split
  · rename_i c1
    have c1 := wi_tN c1
    split
    · rename_i c2
      refine ⟨h.1, h.2.1, ⟨c2, fun i hi => ?_⟩, h.2.2.2⟩
      show un (s_t s) (s_T s) (tN c) i < 128
      have hi : i < s_T s + 1 := hi
      by_cases e : i = s_T s
      · rw [e, un_s]; unfold tN; omega
      · rw [un_n e]; exact h.2.2.1.2 i (by omega)
    · exact h
  · exact h
theorem v_end {s : sT} {m : Int32} (h : sV s) : sV (f_end s m).2 := by
  unfold f_end
  split
  · rename_i c1
    have c1 := wi_tN c1
    have h3 := h.2.2.1.1
    exact ⟨h.1, h.2.1, ⟨show tN m ≤ 160 by unfold tN; omega, fun i hi => h.2.2.1.2 i (Nat.lt_of_lt_of_le hi (show tN m ≤ s_T s by unfold tN; omega))⟩, h.2.2.2⟩
  · exact h
theorem ti_0 {q : Int32} (h : q.toInt.toNat = 0) (h0 : 0 ≤ q.toInt) : q = 0 := ti_eq.mpr (by show q.toInt = 0; omega)
theorem v_set {s : sT} {q v : Int32} (h : sV s) : sV (f_set s q v).2 := by
  unfold f_set
  by_cases c : wi q 0 5 = true ∧ wi v (if q = 0 then 1 else 0) (mostR (tN q)) = true
  · rw [if_pos c]
    have c1 := wi_tN c.1
    have c2 := wi_tN c.2
    refine h.lk (h.1.at (show tN q < 42 by unfold tN; omega) (fun e => ?_) (fun e => ?_) (fun e => ?_) (fun e => ?_) (fun b hb => ?_))
    · rw [if_pos (ti_0 e c1.1)] at c2
      unfold tN; omega
    · have : mostR (tN q) = 9 := by unfold mostR; rw [if_neg (by omega), if_neg (by omega)]
      rw [this] at c2
      unfold tN; omega
    · have : mostR (tN q) = 1 := by unfold mostR; rw [if_pos e]
      rw [this] at c2
      unfold tN; omega
    · have : mostR (tN q) = 4 := by unfold mostR; rw [e]; decide
      rw [this] at c2
      unfold tN; omega
    · have : tN q < 6 := by unfold tN; omega
      omega
  · rw [if_neg c]; exact h
theorem v_alter {s : sT} {b q v : Int32} (h : sV s) : sV (f_alter s b q v).2 := by
  unfold f_alter
  split
  · rename_i c
    have c0 := iB_tN c.1
    have c1 := wi_tN c.2.1
    have c2 := wi_tN c.2.2
    have hn := h.1.n
    have hq : 1 ≤ tN q ∧ tN q ≤ 4 := by unfold tN; omega
    have hv : tN v ≤ mostM (tN q) := by show v.toInt.toNat ≤ _; omega
    refine h.lk (h.1.at (by omega) (by omega) (by omega) (by omega) (by omega) (fun d hd => ⟨by omega, fun e => ?_, fun e => ?_, fun e => ?_, fun e => ?_, by omega⟩))
    · rw [show tN q = 1 by omega] at hv; exact hv
    · rw [show tN q = 2 by omega] at hv; exact hv
    · rw [show tN q = 3 by omega] at hv; exact hv
    · rw [show tN q = 4 by omega] at hv; exact hv
  · exact h
theorem v_lie {s : sT} {b : Int32} {p : Bool} (h : sV s) : sV (f_lie s b p).2 := by
  unfold f_lie
  split
  · rename_i c
    have c0 := iB_tN c
    have hn := h.1.n
    have : (if p = true then 1 else 0 : Nat) ≤ 1 := by split <;> omega
    exact h.lk (h.1.at (by omega) (by omega) (by omega) (by omega) (by omega) (fun d hd => ⟨by omega, by omega, by omega, by omega, by omega, fun _ => this⟩))
  · exact h
theorem v_cross {s : sT} {b : Int32} (h : sV s) : sV (f_cross s b).2 := by
  unfold f_cross
  split
  · rename_i c
    have c0 := iB_tN c
    have hn := h.1.n
    exact h.lk (h.1.at (by omega) (by omega) (by omega) (by omega) (by omega) (fun d hd => ⟨fun _ => by omega, by omega, by omega, by omega, by omega, by omega⟩))
  · exact h
theorem kV.hi {A n : Nat} {K K' : Nat → Nat} (h : kV A n K) (he : ∀ k, k < 42 → K' k = K k) : kV A n K' := by
  obtain ⟨k1, k2, k3, k4, k5, k6, k7, k8⟩ := h
  refine ⟨k1, by rw [he 0 (by omega)]; exact k2, by rw [he 1 (by omega)]; exact k3, by rw [he 2 (by omega)]; exact k4, by rw [he 3 (by omega)]; exact k5, by rw [he 4 (by omega)]; exact k6, by rw [he 5 (by omega)]; exact k7, fun b hb => ?_⟩
  rw [he _ (by omega), he _ (by omega), he _ (by omega), he _ (by omega), he _ (by omega), he _ (by omega)]
  exact k8 b hb
theorem v_see {s : sT} {i b : Int32} (h : sV s) : sV (f_see s i b).2 := by
  unfold f_see
  split
  · rename_i c
    have c0 := iB_tN c.1
    have c1 := iB_tN c.2
    split
    · rename_i c2
      have h2 := h.1.2.2
      refine h.lk ⟨h.1.1.hi (fun k hk => by rw [un_n (by omega), un_n (by omega), un_n (by omega)]), by rw [un_s]; omega, fun j hj => ?_⟩
      rw [un_s] at hj
      by_cases e : j = s_K s 42
      · rw [e, un_n (by omega), un_n (by omega), un_s, un_n (by omega), un_s]
        exact ⟨c0, c1⟩
      · rw [un_n (by omega), un_n (by omega), un_n (by omega), un_n (by omega), un_n (by omega), un_n (by omega)]
        exact h2 j (by omega)
    · exact h
  · exact h
theorem v_forget {s : sT} {m : Int32} (h : sV s) : sV (f_forget s m).2 := by
  unfold f_forget
  split
  · rename_i c
    have c1 := wi_tN c
    have h2 := h.1.2.1
    have hm : tN m ≤ s_K s 42 := by unfold tN; omega
    refine h.lk ⟨h.1.1.hi (fun k hk => un_n (by omega)), by rw [un_s]; omega, fun j hj => ?_⟩
    rw [un_s] at hj
    rw [un_n (by omega), un_n (by omega)]
    exact h.1.2.2 j (by omega)
  · exact h
theorem v_keep {s : sT} {k : Int32} (h : sV s) : sV (f_keep s k).2 := by
  unfold f_keep
  split
  · rename_i c
    have c1 := wi_tN c
    have hk : tN k < 2 := by unfold tN; omega
    refine ⟨h.1, ⟨kp_lt _ h.2.1.1 _ hk, fun j hj hb => ?_⟩, h.2.2⟩
    have hb : bi (if bi (s_kp s) (tN k) = 1 then s_kp s else s_kp s + 2 ^ tN k) j = 1 := hb
    rw [bi_kp _ h.2.1.1 _ hk j hj] at hb
    show lV (s_n s) (if j = tN k then s_K s else s_im s j)
    by_cases e : j = tN k
    · rw [if_pos e]; exact h.1
    · rw [if_neg e] at hb ⊢; exact h.2.1.2 j hj hb
  · exact h
theorem v_back {s : sT} {k : Int32} (h : sV s) : sV (f_back s k).2 := by
  unfold f_back
  split
  · rename_i c
    have c1 := wi_tN c
    have hk : tN k < 2 := by unfold tN; omega
    split
    · rename_i c2
      exact h.lk (h.2.1.2 _ hk c2)
    · exact h
  · exact h
theorem v_sheet {s : sT} {k l n : Int32} (h : sV s) : sV (f_sheet s k l n).2 := by
  unfold f_sheet
  split
  · rename_i c
    have c1 := wi_tN c.2.1
    split
    · exact h
    · refine ⟨h.1, h.2.1, h.2.2.1, h.2.2.2.1, fun j hj a z e => ?_, h.2.2.2.2.2⟩
      have e : (if j = tN k then some (tN l, tN n) else s_sh s j) = some (a, z) := e
      by_cases q : j = tN k
      · rw [if_pos q] at e
        have e1 := congrArg Prod.fst (Option.some.inj e)
        have e2 := congrArg Prod.snd (Option.some.inj e)
        have e1 : tN l = a := e1
        have e2 : tN n = z := e2
        have := c.2.2
        rw [← e1, ← e2]; unfold tN; omega
      · rw [if_neg q] at e
        exact h.2.2.2.2.1 j hj a z e
  · exact h
theorem v_lay {s : sT} {k i v : Int32} (h : sV s) : sV (f_lay s k i v).2 := by
  unfold f_lay
  split
  · split
    · exact h
    · split
      · exact ⟨h.1, h.2.1, h.2.2.1, h.2.2.2.1, h.2.2.2.2.1, h.2.2.2.2.2⟩
      · exact h
  · exact h
theorem rdW_ok {s : sT} {k l : Nat} {f : Int} : ∀ m i0 : Nat, (rdW s k l f m i0).2.1 ≤ 4 ∧ ∀ q : Nat, i0 ≤ q → q < (rdW s k l f m i0).1 → cm s k (f + 2 * q) = true
  | 0, i0 => ⟨by show 0 ≤ 4; omega, fun q h1 h2 => by have h2 : q < i0 := h2; omega⟩
  | m + 1, i0 => by
    rw [rdW]
    by_cases c : sP (s_sh s k) l (f + 2 * i0) = 0
    · rw [if_pos c]
      by_cases c2 : cm s k (f + 2 * i0) = true
      · rw [if_pos c2]
        have ih := rdW_ok (s := s) (k := k) (l := l) (f := f) m (i0 + 1)
        refine ⟨ih.1, fun q h1 h2 => ?_⟩
        by_cases e : q = i0
        · rw [e]; exact c2
        · exact ih.2 q (by omega) h2
      · rw [if_neg c2]
        exact ⟨by show 0 ≤ 4; omega, fun q h1 h2 => by have h2 : q < i0 := h2; omega⟩
    · rw [if_neg c]
      exact ⟨Nat.le_of_lt sP_lt, fun q h1 h2 => by have h2 : q < i0 := h2; omega⟩
theorem v_read {s : sT} {k l f n : Int32} (h : sV s) : sV (f_read s k l f n).2 := by
  unfold f_read
  split
  · have q := rdW_ok (s := s) (k := tN k) (l := tN l) (f := f.toInt) (tN n) 0
    split
    · rename_i i e he
      rw [he] at q
      have h1 := rdK_V (k := tN k) (f := f.toInt) h i (fun a ha => q.2 a (Nat.zero_le _) ha)
      exact ⟨h1.1, h1.2.1, h1.2.2.1, h1.2.2.2.1, h1.2.2.2.2.1, q.1⟩
    · exact h
  · exact h
theorem v_text {s : sT} (h : sV s) : sV (f_text s).2 := by
  have h0 : ∀ f, f ≤ 6 → sV (u_ft (u_tp s 0 (s_t s)) f) := fun f hf => ⟨h.1, h.2.1, ⟨Nat.zero_le _, fun i hi => absurd hi (Nat.not_lt_zero i)⟩, hf, h.2.2.2.2⟩
  unfold f_text
  split
  · rename_i f a he
    have e := pAll_e 161 0 0 p_D0 (f, a) (Nat.zero_le _) dV_0 he
    exact h0 f e.2.1
  · rename_i l D he
    have hV := pAll_V 161 0 0 p_D0 (l, D) (Nat.zero_le _) dV_0 he
    split
    · exact h0 6 (Nat.le_refl _)
    · obtain ⟨v1, v2, v3, v4, v5⟩ := hV
      have h42 : lw (p_K D) (p_l D) 42 = 0 := by rw [lw_n (by omega)]; exact v4
      refine ⟨⟨v3.lw, ?_, fun j hj => ?_⟩, ⟨show 0 < 4 by omega, fun k _ hb => ?_⟩, ⟨Nat.zero_le _, fun i hi => absurd hi (Nat.not_lt_zero i)⟩, Nat.zero_le _, h.2.2.2.2⟩
      · show lw (p_K D) (p_l D) 42 ≤ 6
        omega
      · have hj : j < lw (p_K D) (p_l D) 42 := hj
        omega
      · have hb : bi 0 k = 1 := hb
        unfold bi at hb
        simp at hb

/-! ===== the class: rests ===== -/
/-- the first with p, or none -/
def fx (m : Nat) (p : Nat → Bool) : Int32 := match am m p (fun _ => 0) with
  | none => -4
  | some g => nI g
def f_rests (s : sT) (q : Int32) : Int32 × sT := (if wi q 0 1 = true then (if q = 0 then nI (cn (2 ^ s_n s) (fun g => cal (s_n s) (lw (s_K s) g))) else fx (2 ^ s_n s) (fun g => cal (s_n s) (lw (s_K s) g))) else -1, s)
theorem nI_n4 {z : Nat} (hz : z < 1000) : ¬ nI z = -4 := fun h => by
  have := ti_n (n := z) (by omega)
  rw [h] at this
  have e : (-4 : Int32).toInt = -4 := rfl
  rw [e] at this
  omega
theorem fx_y {m : Nat} {p : Nat → Bool} (hm : m < 1000) (h : p m = true) : (if fx m p = -4 then nI m else fx m p) = fx (m + 1) p := by
  unfold fx
  rw [am]
  cases e : am m p (fun _ => 0) with
  | none => simp [h]
  | some g =>
    have hg := (am_some e).1
    simp [nI_n4 (z := g) (by omega)]
theorem fx_n {m : Nat} {p : Nat → Bool} (h : ¬ p m = true) : fx (m + 1) p = fx m p := by
  unfold fx
  rw [am]
  cases e : am m p (fun _ => 0) with
  | none => simp [h]
  | some g => simp
set_option maxRecDepth 20000 in
set_option maxHeartbeats 4000000 in
theorem l_fillS {d : Nat} {w0 : zW} {s : sT} {T : zX → Prop} (hd : 5 ≤ d) (hS : sV s) (hx : ∀ w, RC w s → frC w0 w → (∀ g, g < 2 ^ s_n s → ∀ b, b < s_n s → w 40 (g * 6 + b) = nI (d_s (dD (s_n s) (lw (s_K s) g)) b)) → WP mX6_fillStoodBySet d T 62 [some (.ref 0), some (.int (nI (s_K s 3))), some (.int (nI (2 ^ s_n s)))] [] w) : ∀ k i (w : zW), i + k = 2 ^ s_n s → RC w s → frC w0 w → (∀ g, g < i → ∀ b, b < s_n s → w 40 (g * 6 + b) = nI (d_s (dD (s_n s) (lw (s_K s) g)) b)) → (i = 0 ∨ ∀ b, b < s_n s → w 33 b = nI (d_s (dD (s_n s) (lw (s_K s) (i - 1))) b)) → WP mX6_fillStoodBySet d T 2 [some (.ref 0), some (.int (nI (s_K s 3))), some (.int (nI i))] [] w := by
  have hn := hS.1.n
  have h64 : 2 ^ s_n s ≤ 64 := p2_le _ (by omega)
  have h3 := hS.1.1.2.2.2.2.1
  intro k
  induction k with
  | zero =>
    intro i w hi hR hF ht hp
    have e : i = 2 ^ s_n s := by omega
    subst e
    refine r_iload_n 3 dX6_fillStoodBySet_2 rfl rfl ?_
    refine r_aload_n 4 dX6_fillStoodBySet_3 rfl rfl ?_
    refine r_callV (y2 := mX6_liarSets) (as := []) 7 dX6_fillStoodBySet_4 ml_X6_180 mv_X6_liarSets (c_liarSets (d := d - 1) hn hR.1.2.2.1) (by omega) sh_0 ⟨_, rfl, rfl⟩ rfl (Nat.le_of_ble_eq_true rfl) rfl (kk_i ?_)
    rintro _ _ ⟨rfl, rfl⟩
    refine r_icmp_ge 62 10 dX6_fillStoodBySet_7 (by decide) rfl (fun _ => ?_) (fun z => absurd (Int32.le_refl _) z)
    exact hx w hR hF ht
  | succ k ih =>
    intro i w hi hR hF ht hp
    have tail : ∀ w1 : zW, RC w1 s → frC w0 w1 → (∀ g, g < i → ∀ b, b < s_n s → w1 40 (g * 6 + b) = nI (d_s (dD (s_n s) (lw (s_K s) g)) b)) → (∀ b, b < s_n s → w1 33 b = nI (d_s (dD (s_n s) (lw (s_K s) i)) b)) → WP mX6_fillStoodBySet d T 35 [some (.ref 0), some (.int (nI (s_K s 3))), some (.int (nI i))] [] w1 := by
      intro w1 hR1 hF1 ht1 hp1
      refine r_aload_n 36 dX6_fillStoodBySet_35 rfl rfl ?_
      refine r_getr 39 dX6_fillStoodBySet_36 fz_X6_42 sh_0 rfl rfl ?_
      refine r_getr 42 dX6_fillStoodBySet_39 fz_X6_141 sh_30 rfl rfl ?_
      refine r_iconst 43 (v := 0) dX6_fillStoodBySet_42 (by decide) rfl ?_
      refine r_aload_n 44 dX6_fillStoodBySet_43 rfl rfl ?_
      refine r_getr 47 dX6_fillStoodBySet_44 fz_X6_57 sh_0 rfl rfl ?_
      refine r_iload_n 48 dX6_fillStoodBySet_47 rfl rfl ?_
      refine r_bipush 50 (v := 6) dX6_fillStoodBySet_48 (by decide) rfl ?_
      refine r_imul 51 dX6_fillStoodBySet_50 rfl ?_
      refine r_eq (nI_mul i 6) ?_
      refine r_bipush 53 (v := 6) dX6_fillStoodBySet_51 (by decide) rfl ?_
      refine rj_copy 56 dX6_fillStoodBySet_53 ml_X6_189 (by omega) sh_33 sh_40 0 (i * 6) 6 (rfl) (rfl) (rfl) (by decide) (by omega) (Nat.le_of_ble_eq_true rfl) rfl ?_
      refine r_nw (fun w2 e2 => ?_)
      have hf2 : frC w1 w2 := fun a ha => by rw [e2, z_ua_o (by omega)]
      refine r_iinc 59 (L' := [_, _, _]) (v := nI (i + 1)) dX6_fillStoodBySet_56 rfl (nI_1 i) (by decide) rfl rfl rfl ?_
      refine r_goto 2 dX6_fillStoodBySet_59 (by decide) ?_
      exact ih (i + 1) w2 (by omega) (hR1.fr hf2) (hF1.trans hf2) (fun g hg b hb => by rw [e2, z_ua_k]; by_cases e : g = i; (rw [e, pk_cpy_in (by omega) (by omega), show 0 + (i * 6 + b - i * 6) = b by omega]; exact hp1 b hb); (rw [pk_cpy_out (by omega)]; exact ht1 g (by omega) b hb)) (Or.inr (fun b hb => by rw [e2, z_ua_o (by decide)]; exact hp1 b hb))
    refine r_iload_n 3 dX6_fillStoodBySet_2 rfl rfl ?_
    refine r_aload_n 4 dX6_fillStoodBySet_3 rfl rfl ?_
    refine r_callV (y2 := mX6_liarSets) (as := []) 7 dX6_fillStoodBySet_4 ml_X6_180 mv_X6_liarSets (c_liarSets (d := d - 1) hn hR.1.2.2.1) (by omega) sh_0 ⟨_, rfl, rfl⟩ rfl (Nat.le_of_ble_eq_true rfl) rfl (kk_i ?_)
    rintro _ _ ⟨rfl, rfl⟩
    refine r_icmp_ge 62 10 dX6_fillStoodBySet_7 (by decide) rfl (fun z => absurd z (fun z => absurd ((nI_le' (by omega) (by omega)).mp z) (by omega))) (fun _ => ?_)
    refine r_iload_n 11 dX6_fillStoodBySet_10 rfl rfl ?_
    refine r_if_eq 21 14 dX6_fillStoodBySet_11 (by decide) rfl (fun g11 => ?_) (fun g11 => ?_)
    · refine r_aload_n 22 dX6_fillStoodBySet_21 rfl rfl ?_
      refine r_getr 25 dX6_fillStoodBySet_22 fz_X6_42 sh_0 rfl rfl ?_
      refine r_aload_n 26 dX6_fillStoodBySet_25 rfl rfl ?_
      refine r_getr 29 dX6_fillStoodBySet_26 fz_X6_10 sh_0 rfl rfl ?_
      refine r_iload_n 30 dX6_fillStoodBySet_29 rfl rfl ?_
      refine r_iload_n 31 dX6_fillStoodBySet_30 rfl rfl ?_
      refine r_iconst 32 (v := 0) dX6_fillStoodBySet_31 (by decide) rfl ?_
      refine r_callV (y2 := mX0_by) (as := [_, _, _, _]) 35 dX6_fillStoodBySet_32 ml_X6_153 mv_X0_by (c_dayG (d := d - 1) (l := s_K s 3) (g := i) (cg := 0) (by omega) hR hS h3 (by omega) (by decide)) (by omega) sh_30 ⟨_, rfl, rfl⟩ rfl (Nat.le_of_ble_eq_true rfl) rfl (kk_v ?_)
      rintro w1 ⟨hC, hF1⟩
      rw [un_id] at hC
      have hI : dI (s_n s) (s_n s) (dD (s_n s) (lw (s_K s) i)) := dI_D hS.1.1.lw (by decide)
      exact tail w1 (hR.fr (d30 hF1)) (hF.trans (d30 hF1)) (fun g hg b hb => by rw [hF1 40 (by omega)]; exact ht g hg b hb) (fun b hb => hC.st hI hb)
    · refine r_iload_n 15 dX6_fillStoodBySet_14 rfl rfl ?_
      refine r_callS (y2 := mX6_hearsLies) (as := [_]) 18 dX6_fillStoodBySet_15 ml_X6_186 ms_X6_hearsLies (c_hearsLies (d := d - 1) (l := s_K s 3) (by omega)) (by omega) rfl (Nat.le_of_ble_eq_true rfl) rfl (kk_i ?_)
      rintro _ _ ⟨rfl, rfl⟩
      refine rb_eq 35 21 dX6_fillStoodBySet_18 (by decide) rfl (fun g18 => ?_) (fun g18 => ?_)
      · have i0 : ¬ i = 0 := fun z => g11 (by rw [z]; rfl)
        refine tail w hR hF ht (fun b hb => ?_)
        have e : dD (s_n s) (lw (s_K s) i) = dD (s_n s) (lw (s_K s) (i - 1)) := dD_E hS.1.1.lw (by decide) (lw_E.symm.trans lw_E) (fun h => absurd (by rw [lw_n (by omega)] at h; exact h) g18)
        rw [e]
        exact (hp.resolve_left i0) b hb
      · refine r_aload_n 22 dX6_fillStoodBySet_21 rfl rfl ?_
        refine r_getr 25 dX6_fillStoodBySet_22 fz_X6_42 sh_0 rfl rfl ?_
        refine r_aload_n 26 dX6_fillStoodBySet_25 rfl rfl ?_
        refine r_getr 29 dX6_fillStoodBySet_26 fz_X6_10 sh_0 rfl rfl ?_
        refine r_iload_n 30 dX6_fillStoodBySet_29 rfl rfl ?_
        refine r_iload_n 31 dX6_fillStoodBySet_30 rfl rfl ?_
        refine r_iconst 32 (v := 0) dX6_fillStoodBySet_31 (by decide) rfl ?_
        refine r_callV (y2 := mX0_by) (as := [_, _, _, _]) 35 dX6_fillStoodBySet_32 ml_X6_153 mv_X0_by (c_dayG (d := d - 1) (l := s_K s 3) (g := i) (cg := 0) (by omega) hR hS h3 (by omega) (by decide)) (by omega) sh_30 ⟨_, rfl, rfl⟩ rfl (Nat.le_of_ble_eq_true rfl) rfl (kk_v ?_)
        rintro w1 ⟨hC, hF1⟩
        rw [un_id] at hC
        have hI : dI (s_n s) (s_n s) (dD (s_n s) (lw (s_K s) i)) := dI_D hS.1.1.lw (by decide)
        exact tail w1 (hR.fr (d30 hF1)) (hF.trans (d30 hF1)) (fun g hg b hb => by rw [hF1 40 (by omega)]; exact ht g hg b hb) (fun b hb => hC.st hI hb)
set_option maxRecDepth 20000 in
set_option maxHeartbeats 4000000 in
theorem c_fillS {d : Nat} {w : zW} {s : sT} (hd : 5 ≤ d) (hR : RC w s) (hS : sV s) : CT mX6_fillStoodBySet d [.ref 0, .int (nI (s_K s 3))] w (z_v fun w' => frC w w' ∧ (∀ g, g < 2 ^ s_n s → ∀ b, b < s_n s → w' 40 (g * 6 + b) = nI (d_s (dD (s_n s) (lw (s_K s) g)) b))) := by
  refine CT.of [some (.ref 0), some (.int (nI (s_K s 3))), none] rfl (Nat.le_of_ble_eq_true rfl) rfl ?_
  refine r_iconst 1 (v := 0) dX6_fillStoodBySet_0 (by decide) rfl ?_
  refine r_istore_n 2 (L' := [_, _, _]) dX6_fillStoodBySet_1 (by decide) rfl rfl rfl ?_
  refine l_fillS (w0 := w) hd hS (fun w1 hR1 hF ht => ?_) (2 ^ s_n s) 0 w (Nat.zero_add _) hR frC.rfl (fun g hg => absurd hg (Nat.not_lt_zero g)) (Or.inl rfl)
  exact r_vret dX6_fillStoodBySet_62 rfl ⟨hF, ht⟩
set_option maxRecDepth 20000 in
set_option maxHeartbeats 4000000 in
theorem l_isRest {d g : Nat} {w : zW} {s : sT} {T : zX → Prop} (hR : RC w s) (hS : sV s) (hg : g < 2 ^ s_n s) (ht : (∀ g, g < 2 ^ s_n s → ∀ b, b < s_n s → w 40 (g * 6 + b) = nI (d_s (dD (s_n s) (lw (s_K s) g)) b))) (hx : ∀ v, (∀ c, c < s_n s → d_s (dD (s_n s) (lw (s_K s) g)) c ≤ d_s (dD (s_n s) (fl (lw (s_K s) g) c)) c) → WP mX6_isRest d T 52 [some (.ref 0), some (.int (nI g)), some (.int (nI (s_n s))), v] [] w) (hb : ∀ c v, c < s_n s → ¬ d_s (dD (s_n s) (lw (s_K s) g)) c ≤ d_s (dD (s_n s) (fl (lw (s_K s) g) c)) c → WP mX6_isRest d T 44 [some (.ref 0), some (.int (nI g)), some (.int (nI c)), v] [] w) : ∀ k i v, i + k = s_n s → (∀ c, c < i → d_s (dD (s_n s) (lw (s_K s) g)) c ≤ d_s (dD (s_n s) (fl (lw (s_K s) g) c)) c) → WP mX6_isRest d T 2 [some (.ref 0), some (.int (nI g)), some (.int (nI i)), v] [] w := by
  have hn := hS.1.n
  have h64 : 2 ^ s_n s ≤ 64 := p2_le _ (by omega)
  intro k
  induction k with
  | zero =>
    intro i v hi hc
    have e : i = s_n s := by omega
    subst e
    refine r_iload_n 3 dX6_isRest_2 rfl rfl ?_
    refine r_aload_n 4 dX6_isRest_3 rfl rfl ?_
    refine r_getr 7 dX6_isRest_4 fz_X6_10 sh_0 rfl rfl ?_
    refine r_geti 10 dX6_isRest_7 fz_X6_96 sh_1 rfl rfl ?_
    refine r_eq hR.1.2.2.1 ?_
    refine r_icmp_ge 52 13 dX6_isRest_10 (by decide) rfl (fun _ => ?_) (fun z => absurd (Int32.le_refl _) z)
    exact hx v hc
  | succ k ih =>
    intro i v hi hc
    have hV : kV 99 (s_n s) (lw (s_K s) g) := hS.1.1.lw
    have b1 := ((dI_D hV (by decide)).2.2.2.2.2.2.2 i).1
    have b2 := ((dI_D (hV.fl (b := i)) (by decide)).2.2.2.2.2.2.2 i).1
    have hgx := gx_lt (s_n s) (by omega) g hg i (by omega)
    have t1 := ht g hg i (by omega)
    have t2 := ht (gx g i) hgx i (by omega)
    rw [dD_gx hS.1.1 (by decide) (by omega) (by omega)] at t2
    refine r_iload_n 3 dX6_isRest_2 rfl rfl ?_
    refine r_aload_n 4 dX6_isRest_3 rfl rfl ?_
    refine r_getr 7 dX6_isRest_4 fz_X6_10 sh_0 rfl rfl ?_
    refine r_geti 10 dX6_isRest_7 fz_X6_96 sh_1 rfl rfl ?_
    refine r_eq hR.1.2.2.1 ?_
    refine r_icmp_ge 52 13 dX6_isRest_10 (by decide) rfl (fun z => absurd z (fun z => absurd ((nI_le' (by omega) (by omega)).mp z) (by omega))) (fun _ => ?_)
    refine r_iload_n 14 dX6_isRest_13 rfl rfl ?_
    refine r_iconst 15 (v := 1) dX6_isRest_14 (by decide) rfl ?_
    refine r_iload_n 16 dX6_isRest_15 rfl rfl ?_
    refine r_ishl 17 dX6_isRest_16 rfl ?_
    refine r_ixor 18 dX6_isRest_17 rfl ?_
    refine r_eq (b_xor g (by omega) i (by omega)) ?_
    refine r_istore_n 19 (L' := [_, _, _, _]) dX6_isRest_18 (by decide) rfl rfl rfl ?_
    refine r_aload_n 20 dX6_isRest_19 rfl rfl ?_
    refine r_getr 23 dX6_isRest_20 fz_X6_57 sh_0 rfl rfl ?_
    refine r_iload_n 24 dX6_isRest_23 rfl rfl ?_
    refine r_bipush 26 (v := 6) dX6_isRest_24 (by decide) rfl ?_
    refine r_imul 27 dX6_isRest_26 rfl ?_
    refine r_eq (nI_mul (gx g i) 6) ?_
    refine r_iload_n 28 dX6_isRest_27 rfl rfl ?_
    refine r_iadd 29 dX6_isRest_28 rfl ?_
    refine r_eq (z := nI (gx g i * 6 + i)) (nI_add _ _) ?_
    refine rj_iald 30 (gx g i * 6 + i) dX6_isRest_29 sh_40 (rfl) (by omega) (by decide) rfl ?_
    refine r_eq t2 ?_
    refine r_aload_n 31 dX6_isRest_30 rfl rfl ?_
    refine r_getr 34 dX6_isRest_31 fz_X6_57 sh_0 rfl rfl ?_
    refine r_iload_n 35 dX6_isRest_34 rfl rfl ?_
    refine r_bipush 37 (v := 6) dX6_isRest_35 (by decide) rfl ?_
    refine r_imul 38 dX6_isRest_37 rfl ?_
    refine r_eq (nI_mul g 6) ?_
    refine r_iload_n 39 dX6_isRest_38 rfl rfl ?_
    refine r_iadd 40 dX6_isRest_39 rfl ?_
    refine r_eq (z := nI (g * 6 + i)) (nI_add _ _) ?_
    refine rj_iald 41 (g * 6 + i) dX6_isRest_40 sh_40 (rfl) (by omega) (by decide) rfl ?_
    refine r_eq t1 ?_
    refine r_icmp_ge 46 44 dX6_isRest_41 (by decide) rfl (fun g41 => ?_) (fun g41 => ?_)
    · have g41 := (nI_le' (by omega) (by omega)).mp g41
      refine r_iinc 49 (L' := [_, _, _, _]) (v := nI (i + 1)) dX6_isRest_46 rfl (nI_1 i) (by decide) rfl rfl rfl ?_
      refine r_goto 2 dX6_isRest_49 (by decide) ?_
      exact ih (i + 1) _ (by omega) (fun c hc2 => by by_cases e : c = i; (rw [e]; exact g41); (exact hc c (by omega)))
    · have g41 : ¬ d_s (dD (s_n s) (lw (s_K s) g)) i ≤ d_s (dD (s_n s) (fl (lw (s_K s) g) i)) i := fun z => g41 ((nI_le' (by omega) (by omega)).mpr z)
      exact hb i _ (by omega) g41
set_option maxRecDepth 20000 in
set_option maxHeartbeats 4000000 in
theorem c_isRest {d g : Nat} {w : zW} {s : sT} (hR : RC w s) (hS : sV s) (hg : g < 2 ^ s_n s) (ht : (∀ g, g < 2 ^ s_n s → ∀ b, b < s_n s → w 40 (g * 6 + b) = nI (d_s (dD (s_n s) (lw (s_K s) g)) b))) : CT mX6_isRest d [.ref 0, .int (nI g)] w (z_i fun x w' => z_b (cal (s_n s) (lw (s_K s) g) = true) = x ∧ w = w') := by
  refine CT.of [some (.ref 0), some (.int (nI g)), none, none] rfl (Nat.le_of_ble_eq_true rfl) rfl ?_
  refine r_iconst 1 (v := 0) dX6_isRest_0 (by decide) rfl ?_
  refine r_istore_n 2 (L' := [_, _, _, _]) dX6_isRest_1 (by decide) rfl rfl rfl ?_
  refine l_isRest hR hS hg ht (fun v hc => ?_) (fun c v hc1 hc2 => ?_) (s_n s) 0 _ (Nat.zero_add _) (fun c hc => absurd hc (Nat.not_lt_zero c))
  · refine r_iconst 53 (v := 1) dX6_isRest_52 (by decide) rfl ?_
    exact r_iret .boolean dX6_isRest_53 rfl (rfl) (⟨z_bp (decide_eq_true hc), rfl⟩)
  · refine r_iconst 45 (v := 0) dX6_isRest_44 (by decide) rfl ?_
    exact r_iret .boolean dX6_isRest_45 rfl (rfl) (⟨z_bn (fun z => hc2 (of_decide_eq_true z c hc1)), rfl⟩)
set_option maxRecDepth 20000 in
set_option maxHeartbeats 4000000 in
theorem l_rests {d : Nat} {q : Int32} {w : zW} {s : sT} {T : zX → Prop} (hd : 5 ≤ d) (hR : RC w s) (hS : sV s) (ht : (∀ g, g < 2 ^ s_n s → ∀ b, b < s_n s → w 40 (g * 6 + b) = nI (d_s (dD (s_n s) (lw (s_K s) g)) b))) (hx : WP mX6_rests d T 72 [some (.ref 0), some (.int q), some (.int (nI (cn (2 ^ s_n s) (fun g => cal (s_n s) (lw (s_K s) g))))), some (.int (fx (2 ^ s_n s) (fun g => cal (s_n s) (lw (s_K s) g)))), some (.int (nI (2 ^ s_n s)))] [] w) : ∀ k i, i + k = 2 ^ s_n s → WP mX6_rests d T 32 [some (.ref 0), some (.int q), some (.int (nI (cn i (fun g => cal (s_n s) (lw (s_K s) g))))), some (.int (fx i (fun g => cal (s_n s) (lw (s_K s) g)))), some (.int (nI i))] [] w := by
  have hn := hS.1.n
  have h64 : 2 ^ s_n s ≤ 64 := p2_le _ (by omega)
  intro k
  induction k with
  | zero =>
    intro i hi
    have e : i = 2 ^ s_n s := by omega
    subst e
    refine r_iload 34 dX6_rests_32 rfl rfl ?_
    refine r_aload_n 35 dX6_rests_34 rfl rfl ?_
    refine r_callV (y2 := mX6_liarSets) (as := []) 38 dX6_rests_35 ml_X6_180 mv_X6_liarSets (c_liarSets (d := d - 1) hn hR.1.2.2.1) (by omega) sh_0 ⟨_, rfl, rfl⟩ rfl (Nat.le_of_ble_eq_true rfl) rfl (kk_i ?_)
    rintro _ _ ⟨rfl, rfl⟩
    refine r_icmp_ge 72 41 dX6_rests_38 (by decide) rfl (fun _ => ?_) (fun z => absurd (Int32.le_refl _) z)
    exact hx
  | succ k ih =>
    intro i hi
    have ih1 := ih (i + 1) (by omega)
    refine r_iload 34 dX6_rests_32 rfl rfl ?_
    refine r_aload_n 35 dX6_rests_34 rfl rfl ?_
    refine r_callV (y2 := mX6_liarSets) (as := []) 38 dX6_rests_35 ml_X6_180 mv_X6_liarSets (c_liarSets (d := d - 1) hn hR.1.2.2.1) (by omega) sh_0 ⟨_, rfl, rfl⟩ rfl (Nat.le_of_ble_eq_true rfl) rfl (kk_i ?_)
    rintro _ _ ⟨rfl, rfl⟩
    refine r_icmp_ge 72 41 dX6_rests_38 (by decide) rfl (fun z => absurd z (fun z => absurd ((nI_le' (by omega) (by omega)).mp z) (by omega))) (fun _ => ?_)
    refine r_aload_n 42 dX6_rests_41 rfl rfl ?_
    refine r_iload 44 dX6_rests_42 rfl rfl ?_
    refine r_callV (y2 := mX6_isRest) (as := [_]) 47 dX6_rests_44 ml_X6_183 mv_X6_isRest (c_isRest (d := d - 1) hR hS (g := i) (by omega) ht) (by omega) sh_0 ⟨_, rfl, rfl⟩ rfl (Nat.le_of_ble_eq_true rfl) rfl (kk_i ?_)
    rintro _ _ ⟨rfl, rfl⟩
    refine rb_eq 66 50 dX6_rests_47 (by decide) rfl (fun g47 => ?_) (fun g47 => ?_)
    · rw [cn, if_neg g47, fx_n g47] at ih1
      refine r_iinc 69 (L' := [_, _, _, _, _]) (v := nI (i + 1)) dX6_rests_66 rfl (nI_1 i) (by decide) rfl rfl rfl ?_
      refine r_goto 32 dX6_rests_69 (by decide) ?_
      exact ih1
    · rw [cn, if_pos g47, ← fx_y (by omega) g47] at ih1
      refine r_iinc 53 (L' := [_, _, _, _, _]) (v := nI (cn i (fun g => cal (s_n s) (lw (s_K s) g)) + 1)) dX6_rests_50 rfl (nI_1 _) (by decide) rfl rfl rfl ?_
      refine r_iload_n 54 dX6_rests_53 rfl rfl ?_
      refine r_bipush 56 (v := -4) dX6_rests_54 (by decide) rfl ?_
      refine r_icmp_ne 64 59 dX6_rests_56 (by decide) rfl (fun g56 => ?_) (fun g56 => ?_)
      · rw [if_neg g56] at ih1
        refine r_iload_n 65 dX6_rests_64 rfl rfl ?_
        refine r_istore_n 66 (L' := [_, _, _, _, _]) dX6_rests_65 (by decide) rfl rfl rfl ?_
        refine r_iinc 69 (L' := [_, _, _, _, _]) (v := nI (i + 1)) dX6_rests_66 rfl (nI_1 i) (by decide) rfl rfl rfl ?_
        refine r_goto 32 dX6_rests_69 (by decide) ?_
        exact ih1
      · rw [if_pos g56] at ih1
        refine r_iload 61 dX6_rests_59 rfl rfl ?_
        refine r_goto 65 dX6_rests_61 (by decide) ?_
        refine r_istore_n 66 (L' := [_, _, _, _, _]) dX6_rests_65 (by decide) rfl rfl rfl ?_
        refine r_iinc 69 (L' := [_, _, _, _, _]) (v := nI (i + 1)) dX6_rests_66 rfl (nI_1 i) (by decide) rfl rfl rfl ?_
        refine r_goto 32 dX6_rests_69 (by decide) ?_
        exact ih1
set_option maxRecDepth 20000 in
set_option maxHeartbeats 4000000 in
theorem C_rests {d : Nat} {w : zW} {s : sT} {q : Int32} (hd : 6 ≤ d) (hR : RC w s) (hS : sV s) : AC mX6_rests d [.int q] w (f_rests s q) := by
  have hn := hS.1.n
  refine CT.of [some (.ref 0), some (.int q), none, none, none] rfl (Nat.le_of_ble_eq_true rfl) rfl ?_
  refine r_iload_n 1 dX6_rests_0 rfl rfl ?_
  refine r_iconst 2 (v := 0) dX6_rests_1 (by decide) rfl ?_
  refine r_iconst 3 (v := 1) dX6_rests_2 (by decide) rfl ?_
  refine r_callS (y2 := mX6_within) (as := [_, _, _]) 6 dX6_rests_3 ml_X6_67 ms_X6_within (c_within (d := d - 1) _ _ _) (by omega) rfl (Nat.le_of_ble_eq_true rfl) rfl (kk_i ?_)
  rintro _ _ ⟨rfl, rfl⟩
  refine rb_ne 11 9 dX6_rests_6 (by decide) rfl (fun g6 => ?_) (fun g6 => ?_)
  · have wq : wi q 0 1 = true := wi_iff.mpr g6
    refine r_aload_n 12 dX6_rests_11 rfl rfl ?_
    refine r_aload_n 13 dX6_rests_12 rfl rfl ?_
    refine r_getr 16 dX6_rests_13 fz_X6_10 sh_0 rfl rfl ?_
    refine r_getr 19 dX6_rests_16 fz_X6_102 sh_1 rfl rfl ?_
    refine r_iconst 20 (v := 3) dX6_rests_19 (by decide) rfl ?_
    refine rj_iald 21 (3) dX6_rests_20 sh_2 (rfl) (by decide) (by decide) rfl ?_
    refine r_eq (hR.1.1 3 (by decide)) ?_
    refine r_callV (y2 := mX6_fillStoodBySet) (as := [_]) 24 dX6_rests_21 ml_X6_176 mv_X6_fillStoodBySet (c_fillS (d := d - 1) (by omega) hR hS) (by omega) sh_0 ⟨_, rfl, rfl⟩ rfl (Nat.le_of_ble_eq_true rfl) rfl (kk_v ?_)
    rintro w1 ⟨hF, ht⟩
    refine r_iconst 25 (v := 0) dX6_rests_24 (by decide) rfl ?_
    refine r_istore_n 26 (L' := [_, _, _, _, _]) dX6_rests_25 (by decide) rfl rfl rfl ?_
    refine r_bipush 28 (v := -4) dX6_rests_26 (by decide) rfl ?_
    refine r_istore_n 29 (L' := [_, _, _, _, _]) dX6_rests_28 (by decide) rfl rfl rfl ?_
    refine r_iconst 30 (v := 0) dX6_rests_29 (by decide) rfl ?_
    refine r_istore 32 (L' := [_, _, _, _, _]) dX6_rests_30 (by decide) rfl rfl rfl ?_
    refine l_rests (by omega) (hR.fr hF) hS ht ?_ (2 ^ s_n s) 0 (Nat.zero_add _)
    refine r_iload_n 73 dX6_rests_72 rfl rfl ?_
    refine r_if_ne 80 76 dX6_rests_73 (by decide) rfl (fun g73 => ?_) (fun g73 => ?_)
    · refine r_iload_n 81 dX6_rests_80 rfl rfl ?_
      exact r_iret .int dX6_rests_81 rfl (rfl) (by first | exact ⟨by rw [f_rests, if_pos wq, if_pos g73], hR.fr hF, hF.hi⟩ | exact ⟨by rw [f_rests, if_pos wq, if_neg g73], hR.fr hF, hF.hi⟩)
    · refine r_iload_n 77 dX6_rests_76 rfl rfl ?_
      refine r_goto 81 dX6_rests_77 (by decide) ?_
      exact r_iret .int dX6_rests_81 rfl (rfl) (by first | exact ⟨by rw [f_rests, if_pos wq, if_pos g73], hR.fr hF, hF.hi⟩ | exact ⟨by rw [f_rests, if_pos wq, if_neg g73], hR.fr hF, hF.hi⟩)
  · have wq : ¬ wi q 0 1 = true := fun z => g6 (wi_iff.mp z)
    refine r_iconst 10 (v := -1) dX6_rests_9 (by decide) rfl ?_
    exact r_iret .int dX6_rests_10 rfl (rfl) (by first | exact ⟨by rw [f_rests, if_neg (wq)], by rw [f_rests, if_neg (wq)]; exact hR, fun _ _ => rfl⟩)

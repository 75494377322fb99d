/-! ===== the class: Day, chosen, and who is let in ===== -/
def fbO (a : Option Nat) : Int32 := match a with
  | none => -4
  | some b => nI b
def frO (r : Nat → Nat) (a : Option Nat) : Int32 := match a with
  | none => 0
  | some b => nI (r b)
theorem k_tl_le {A n cg b : Nat} {K : Nat → Nat} (hV : kV A n K) (hb : b < n) : k_tl K cg b ≤ 4 := by
  have := (hV.2.2.2.2.2.2.2 b hb).2.1
  unfold k_tl
  split
  · omega
  · split <;> omega
theorem d_rk_le {A n cg s b : Nat} {K : Nat → Nat} (hV : kV A n K) (hb : b < n) : d_rk K cg s b ≤ 4 := by
  have := k_tl_le (cg := cg) hV hb
  unfold d_rk
  split
  · exact this
  · split
    · omega
    · split <;> omega
set_option maxRecDepth 20000 in
set_option maxHeartbeats 4000000 in
theorem l_chosen {d B n f cg s0 A : Nat} {w : zW} {K : Nat → Nat} {s : dT} {T : zX → Prop} (hd : 3 ≤ d) (hB : z_isL B) (hA : A < 1000) (hV : kV A n K) (hL : lkD w B n K) (h6 : w 30 6 = nI (d_g s)) (hg : d_g s < 64) (hc : ∀ b, b < n → w 34 b = nI (k_ct K b) ∧ w 35 b = nI (k_tl K cg b)) (hf : w 30 7 = nI f) (hf1 : f < 1000) (hs0 : s0 < 2) (hx : WP mX0_chosen d T 89 [some (.ref 30), some (.ref B), some (.int (nI (K 3))), some (.int (nI s0)), some (.int (fbO (am n (d_in K s f) (fun b => d_rk K cg s0 b * 1000 + k_ct K b)))), some (.int (frO (d_rk K cg s0) (am n (d_in K s f) (fun b => d_rk K cg s0 b * 1000 + k_ct K b)))), some (.int (nI n)), none] [] w) : ∀ k i, i + k = n → WP mX0_chosen d T 10 [some (.ref 30), some (.ref B), some (.int (nI (K 3))), some (.int (nI s0)), some (.int (fbO (am i (d_in K s f) (fun b => d_rk K cg s0 b * 1000 + k_ct K b)))), some (.int (frO (d_rk K cg s0) (am i (d_in K s f) (fun b => d_rk K cg s0 b * 1000 + k_ct K b)))), some (.int (nI i)), none] [] w := by
  have hn := hV.n
  have hK3 := hV.2.2.2.2.1
  intro k
  induction k with
  | zero =>
    intro i hi
    have e : i = n := by omega
    subst e
    refine r_iload 12 dX0_chosen_10 rfl rfl ?_
    refine r_aload_n 13 dX0_chosen_12 rfl rfl ?_
    refine r_geti 16 dX0_chosen_13 fz_X0_31 (z_L0 hB) rfl rfl ?_
    refine r_icmp_ge 89 19 dX0_chosen_16 (by decide) rfl (fun _ => ?_) (fun z => absurd (by rw [hL.2.2]; exact Int32.le_refl _) z)
    exact hx
  | succ k ih =>
    intro i hi
    have hct := hV.ct (b := i) (by omega)
    have hrk := d_rk_le (cg := cg) (s := s0) hV (b := i) (by omega)
    have hci := hc i (by omega)
    have nx := ih (i + 1) (by omega)
    rw [am] at nx
    cases h0 : (am i (d_in K s f) (fun b => d_rk K cg s0 b * 1000 + k_ct K b)) with
    | none =>
      rw [h0] at nx
      refine r_iload 12 dX0_chosen_10 rfl rfl ?_
      refine r_aload_n 13 dX0_chosen_12 rfl rfl ?_
      refine r_geti 16 dX0_chosen_13 fz_X0_31 (z_L0 hB) rfl rfl ?_
      refine r_icmp_ge 89 19 dX0_chosen_16 (by decide) rfl (fun z => absurd z (by rw [hL.2.2, nI_le' (by omega) (by omega)]; omega)) (fun _ => ?_)
      refine r_aload_n 20 dX0_chosen_19 rfl rfl ?_
      refine r_iload 22 dX0_chosen_20 rfl rfl ?_
      refine r_callV (y2 := mX0_waits) (as := [_]) 25 dX0_chosen_22 ml_X0_101 mv_X0_waits (c_waits (d := d - 1) h6 hg (b := i) (by omega) hci.1 (by omega) hf hf1) (by omega) sh_30 ⟨_, rfl, rfl⟩ rfl (Nat.le_of_ble_eq_true rfl) rfl (kk_i ?_)
      rintro _ _ ⟨rfl, rfl⟩
      refine rb_eq 83 28 dX0_chosen_25 (by decide) rfl (fun g25 => ?_) (fun g25 => ?_)
      · have di : d_in K s f i = false := by
          simp only [d_in, Bool.and_eq_false_iff, beq_eq_false_iff_ne, decide_eq_false_iff_not]
          omega
        simp only [di] at nx
        refine r_iinc 86 (L' := [_, _, _, _, _, _, _, _]) (v := nI (i + 1)) dX0_chosen_83 rfl (nI_1 i) (by decide) rfl rfl rfl ?_
        refine r_goto 10 dX0_chosen_86 (by decide) ?_
        refine r_drop 7 (L' := [_, _, _, _, _, _, _, _]) rfl ?_
        exact nx
      · have di : d_in K s f i = true := by simp [d_in, g25.1, g25.2]
        simp only [di, if_true] at nx
        refine r_aload_n 29 dX0_chosen_28 rfl rfl ?_
        refine r_aload_n 30 dX0_chosen_29 rfl rfl ?_
        refine r_iload_n 31 dX0_chosen_30 rfl rfl ?_
        refine r_iload_n 32 dX0_chosen_31 rfl rfl ?_
        refine r_iload 34 dX0_chosen_32 rfl rfl ?_
        refine r_callV (y2 := mX0_rank) (as := [_, _, _, _]) 37 dX0_chosen_34 ml_X0_105 mv_X0_rank (c_rank (d := d - 1) (by omega) hB hA hV hL (b := i) (by omega) hs0 hci.2 (l := K 3) (by omega)) (by omega) sh_30 ⟨_, rfl, rfl⟩ rfl (Nat.le_of_ble_eq_true rfl) rfl (kk_i ?_)
        rintro _ _ ⟨rfl, rfl⟩
        refine r_eq (z := nI (d_rk K cg s0 i)) rfl ?_
        refine r_istore 39 (L' := [_, _, _, _, _, _, _, _]) dX0_chosen_37 (by decide) rfl rfl rfl ?_
        refine r_iload 41 dX0_chosen_39 rfl rfl ?_
        refine r_if_lt 75 44 dX0_chosen_41 (by decide) rfl (fun _ => ?_) (fun z => absurd ((show fbO none < 0 by decide)) z)
        refine r_iload 77 dX0_chosen_75 rfl rfl ?_
        refine r_istore 79 (L' := [_, _, _, _, _, _, _, _]) dX0_chosen_77 (by decide) rfl rfl rfl ?_
        refine r_iload 81 dX0_chosen_79 rfl rfl ?_
        refine r_istore 83 (L' := [_, _, _, _, _, _, _, _]) dX0_chosen_81 (by decide) rfl rfl rfl ?_
        refine r_iinc 86 (L' := [_, _, _, _, _, _, _, _]) (v := nI (i + 1)) dX0_chosen_83 rfl (nI_1 i) (by decide) rfl rfl rfl ?_
        refine r_goto 10 dX0_chosen_86 (by decide) ?_
        refine r_drop 7 (L' := [_, _, _, _, _, _, _, _]) rfl ?_
        exact nx
    | some b0 =>
      rw [h0] at nx
      obtain ⟨z1, z2, z3, z4⟩ := am_some h0
      have hct0 := hV.ct (b := b0) (by omega)
      have hrk0 := d_rk_le (cg := cg) (s := s0) hV (b := b0) (by omega)
      have hc0 := hc b0 (by omega)
      refine r_iload 12 dX0_chosen_10 rfl rfl ?_
      refine r_aload_n 13 dX0_chosen_12 rfl rfl ?_
      refine r_geti 16 dX0_chosen_13 fz_X0_31 (z_L0 hB) rfl rfl ?_
      refine r_icmp_ge 89 19 dX0_chosen_16 (by decide) rfl (fun z => absurd z (by rw [hL.2.2, nI_le' (by omega) (by omega)]; omega)) (fun _ => ?_)
      refine r_aload_n 20 dX0_chosen_19 rfl rfl ?_
      refine r_iload 22 dX0_chosen_20 rfl rfl ?_
      refine r_callV (y2 := mX0_waits) (as := [_]) 25 dX0_chosen_22 ml_X0_101 mv_X0_waits (c_waits (d := d - 1) h6 hg (b := i) (by omega) hci.1 (by omega) hf hf1) (by omega) sh_30 ⟨_, rfl, rfl⟩ rfl (Nat.le_of_ble_eq_true rfl) rfl (kk_i ?_)
      rintro _ _ ⟨rfl, rfl⟩
      refine rb_eq 83 28 dX0_chosen_25 (by decide) rfl (fun g25 => ?_) (fun g25 => ?_)
      · have di : d_in K s f i = false := by
          simp only [d_in, Bool.and_eq_false_iff, beq_eq_false_iff_ne, decide_eq_false_iff_not]
          omega
        have nk : ¬ ((d_in K s f i = true) ∧ d_rk K cg s0 i * 1000 + k_ct K i < d_rk K cg s0 b0 * 1000 + k_ct K b0) := fun z => by rw [di] at z; cases z.1
        simp only [if_neg nk] at nx
        refine r_iinc 86 (L' := [_, _, _, _, _, _, _, _]) (v := nI (i + 1)) dX0_chosen_83 rfl (nI_1 i) (by decide) rfl rfl rfl ?_
        refine r_goto 10 dX0_chosen_86 (by decide) ?_
        refine r_drop 7 (L' := [_, _, _, _, _, _, _, _]) rfl ?_
        exact nx
      · have di : d_in K s f i = true := by simp [d_in, g25.1, g25.2]
        refine r_aload_n 29 dX0_chosen_28 rfl rfl ?_
        refine r_aload_n 30 dX0_chosen_29 rfl rfl ?_
        refine r_iload_n 31 dX0_chosen_30 rfl rfl ?_
        refine r_iload_n 32 dX0_chosen_31 rfl rfl ?_
        refine r_iload 34 dX0_chosen_32 rfl rfl ?_
        refine r_callV (y2 := mX0_rank) (as := [_, _, _, _]) 37 dX0_chosen_34 ml_X0_105 mv_X0_rank (c_rank (d := d - 1) (by omega) hB hA hV hL (b := i) (by omega) hs0 hci.2 (l := K 3) (by omega)) (by omega) sh_30 ⟨_, rfl, rfl⟩ rfl (Nat.le_of_ble_eq_true rfl) rfl (kk_i ?_)
        rintro _ _ ⟨rfl, rfl⟩
        refine r_eq (z := nI (d_rk K cg s0 i)) rfl ?_
        refine r_istore 39 (L' := [_, _, _, _, _, _, _, _]) dX0_chosen_37 (by decide) rfl rfl rfl ?_
        refine r_iload 41 dX0_chosen_39 rfl rfl ?_
        refine r_if_lt 75 44 dX0_chosen_41 (by decide) rfl (fun z => absurd z ((show ¬ nI b0 < 0 from nI_pos (by omega)))) (fun _ => ?_)
        refine r_iload 46 dX0_chosen_44 rfl rfl ?_
        refine r_iload 48 dX0_chosen_46 rfl rfl ?_
        refine r_icmp_lt 75 51 dX0_chosen_48 (by decide) rfl (fun g48 => ?_) (fun g48 => ?_)
        · have g48 : d_rk K cg s0 i < d_rk K cg s0 b0 := (nI_lt' (by omega) (by omega)).mp g48
          have nk : (d_in K s f i = true) ∧ d_rk K cg s0 i * 1000 + k_ct K i < d_rk K cg s0 b0 * 1000 + k_ct K b0 := ⟨di, by omega⟩
          simp only [if_pos nk] at nx
          refine r_iload 77 dX0_chosen_75 rfl rfl ?_
          refine r_istore 79 (L' := [_, _, _, _, _, _, _, _]) dX0_chosen_77 (by decide) rfl rfl rfl ?_
          refine r_iload 81 dX0_chosen_79 rfl rfl ?_
          refine r_istore 83 (L' := [_, _, _, _, _, _, _, _]) dX0_chosen_81 (by decide) rfl rfl rfl ?_
          refine r_iinc 86 (L' := [_, _, _, _, _, _, _, _]) (v := nI (i + 1)) dX0_chosen_83 rfl (nI_1 i) (by decide) rfl rfl rfl ?_
          refine r_goto 10 dX0_chosen_86 (by decide) ?_
          refine r_drop 7 (L' := [_, _, _, _, _, _, _, _]) rfl ?_
          exact nx
        · have g48 : ¬ d_rk K cg s0 i < d_rk K cg s0 b0 := fun z => g48 ((nI_lt' (by omega) (by omega)).mpr z)
          refine r_iload 53 dX0_chosen_51 rfl rfl ?_
          refine r_iload 55 dX0_chosen_53 rfl rfl ?_
          refine r_icmp_ne 83 58 dX0_chosen_55 (by decide) rfl (fun g55 => ?_) (fun g55 => ?_)
          · have g55 : ¬ d_rk K cg s0 i = d_rk K cg s0 b0 := fun z => g55 (show nI _ = nI _ by rw [z])
            have nk : ¬ ((d_in K s f i = true) ∧ d_rk K cg s0 i * 1000 + k_ct K i < d_rk K cg s0 b0 * 1000 + k_ct K b0) := fun z => by omega
            simp only [if_neg nk] at nx
            refine r_iinc 86 (L' := [_, _, _, _, _, _, _, _]) (v := nI (i + 1)) dX0_chosen_83 rfl (nI_1 i) (by decide) rfl rfl rfl ?_
            refine r_goto 10 dX0_chosen_86 (by decide) ?_
            refine r_drop 7 (L' := [_, _, _, _, _, _, _, _]) rfl ?_
            exact nx
          · have g55 : d_rk K cg s0 i = d_rk K cg s0 b0 := (nI_inj (by omega) (by omega)).mp g55
            refine r_aload_n 59 dX0_chosen_58 rfl rfl ?_
            refine r_getr 62 dX0_chosen_59 fz_X0_21 sh_30 rfl rfl ?_
            refine r_iload 64 dX0_chosen_62 rfl rfl ?_
            refine rj_iald 65 (i) dX0_chosen_64 sh_34 (rfl) (by omega) (by decide) rfl ?_
            refine r_eq hci.1 ?_
            refine r_aload_n 66 dX0_chosen_65 rfl rfl ?_
            refine r_getr 69 dX0_chosen_66 fz_X0_21 sh_30 rfl rfl ?_
            refine r_iload 71 dX0_chosen_69 rfl rfl ?_
            refine rj_iald 72 (b0) dX0_chosen_71 sh_34 (rfl) (by omega) (by decide) rfl ?_
            refine r_eq hc0.1 ?_
            refine r_icmp_ge 83 75 dX0_chosen_72 (by decide) rfl (fun g72 => ?_) (fun g72 => ?_)
            · have g72 : k_ct K b0 ≤ k_ct K i := (nI_le' (by omega) (by omega)).mp g72
              have nk : ¬ ((d_in K s f i = true) ∧ d_rk K cg s0 i * 1000 + k_ct K i < d_rk K cg s0 b0 * 1000 + k_ct K b0) := fun z => by omega
              simp only [if_neg nk] at nx
              refine r_iinc 86 (L' := [_, _, _, _, _, _, _, _]) (v := nI (i + 1)) dX0_chosen_83 rfl (nI_1 i) (by decide) rfl rfl rfl ?_
              refine r_goto 10 dX0_chosen_86 (by decide) ?_
              refine r_drop 7 (L' := [_, _, _, _, _, _, _, _]) rfl ?_
              exact nx
            · have g72 : ¬ k_ct K b0 ≤ k_ct K i := fun z => g72 ((nI_le' (by omega) (by omega)).mpr z)
              have nk : (d_in K s f i = true) ∧ d_rk K cg s0 i * 1000 + k_ct K i < d_rk K cg s0 b0 * 1000 + k_ct K b0 := ⟨di, by omega⟩
              simp only [if_pos nk] at nx
              refine r_iload 77 dX0_chosen_75 rfl rfl ?_
              refine r_istore 79 (L' := [_, _, _, _, _, _, _, _]) dX0_chosen_77 (by decide) rfl rfl rfl ?_
              refine r_iload 81 dX0_chosen_79 rfl rfl ?_
              refine r_istore 83 (L' := [_, _, _, _, _, _, _, _]) dX0_chosen_81 (by decide) rfl rfl rfl ?_
              refine r_iinc 86 (L' := [_, _, _, _, _, _, _, _]) (v := nI (i + 1)) dX0_chosen_83 rfl (nI_1 i) (by decide) rfl rfl rfl ?_
              refine r_goto 10 dX0_chosen_86 (by decide) ?_
              refine r_drop 7 (L' := [_, _, _, _, _, _, _, _]) rfl ?_
              exact nx
set_option maxRecDepth 20000 in
set_option maxHeartbeats 4000000 in
theorem c_chosen {d B n f cg s0 A b : Nat} {w : zW} {K : Nat → Nat} {s : dT} (hd : 3 ≤ d) (hB : z_isL B) (hA : A < 1000) (hV : kV A n K) (hL : lkD w B n K) (h6 : w 30 6 = nI (d_g s)) (hg : d_g s < 64) (hc : ∀ b, b < n → w 34 b = nI (k_ct K b) ∧ w 35 b = nI (k_tl K cg b)) (hf : w 30 7 = nI f) (hf1 : f < 1000) (hs0 : s0 < 2) (hb : (am n (d_in K s f) (fun b => d_rk K cg s0 b * 1000 + k_ct K b)) = some b) : CT mX0_chosen d [.ref 30, .ref B, .int (nI (K 3)), .int (nI s0)] w (z_i fun x w' => nI b = x ∧ w = w') := by
  refine CT.of [some (.ref 30), some (.ref B), some (.int (nI (K 3))), some (.int (nI s0)), none, none, none, none] rfl (Nat.le_of_ble_eq_true rfl) rfl ?_
  refine r_bipush 2 (v := -4) dX0_chosen_0 (by decide) rfl ?_
  refine r_istore 4 (L' := [_, _, _, _, _, _, _, _]) dX0_chosen_2 (by decide) rfl rfl rfl ?_
  refine r_iconst 5 (v := 0) dX0_chosen_4 (by decide) rfl ?_
  refine r_istore 7 (L' := [_, _, _, _, _, _, _, _]) dX0_chosen_5 (by decide) rfl rfl rfl ?_
  refine r_iconst 8 (v := 0) dX0_chosen_7 (by decide) rfl ?_
  refine r_istore 10 (L' := [_, _, _, _, _, _, _, _]) dX0_chosen_8 (by decide) rfl rfl rfl ?_
  refine l_chosen hd hB hA hV hL h6 hg hc hf hf1 hs0 ?_ n 0 (Nat.zero_add n)
  refine r_iload 91 dX0_chosen_89 rfl rfl ?_
  exact r_iret .int dX0_chosen_91 rfl (rfl) (⟨by rw [hb]; rfl, rfl⟩)
/-- the day so far, in the class -/
def dyC (w : zW) (n : Nat) (K : Nat → Nat) (i : Nat) (s : dT) : Prop := w 30 5 = nI i ∧ w 30 6 = nI (d_g s) ∧ w 30 7 = nI (d_f s) ∧ w 30 8 = nI (d_r s) ∧ w 30 9 = nI (mx n fun b => if bi (d_g s) b = 1 then d_s s b else 0) ∧ w 30 10 = nI (d_w s) ∧ w 30 11 = nI (d_t s) ∧ w 30 12 = nI (sm n fun b => if bi (d_g s) b = 1 then d_s s b * k_wo K b else 0) ∧ (∀ j, j < i → w 31 j = nI (d_p s j)) ∧ ∀ b, b < n → bi (d_g s) b = 1 → w 32 b = nI (d_d s b) ∧ w 33 b = nI (d_s s b)
theorem mx_let {n i b : Nat} {K : Nat → Nat} {s : dT} (hn : n ≤ 6) (hb : b < n) (hg : d_g s < 64) (h0 : bi (d_g s) b = 0) : (mx n fun c => if bi (d_g (d_let K i b s)) c = 1 then d_s (d_let K i b s) c else 0) = max (mx n fun c => if bi (d_g s) c = 1 then d_s s c else 0) (d_s (d_let K i b s) b) := by
  have hbi := bi_add (d_g s) hg b (by omega) h0
  have e : ∀ c, c < n → bi (d_g (d_let K i b s)) c = if c = b then 1 else bi (d_g s) c := fun c hc => hbi c (by omega)
  rw [mx_set (f := fun c => if bi (d_g s) c = 1 then d_s s c else 0) hb (by simp [h0])]
  · simp only [e b hb, if_true]
  · intro c hc hcb
    simp only [e c hc, if_neg hcb]
    have : d_s (d_let K i b s) c = d_s s c := un_n hcb
    rw [this]
theorem sm_let {n i b : Nat} {K : Nat → Nat} {s : dT} (hn : n ≤ 6) (hb : b < n) (hg : d_g s < 64) (h0 : bi (d_g s) b = 0) : (sm n fun c => if bi (d_g (d_let K i b s)) c = 1 then d_s (d_let K i b s) c * k_wo K c else 0) = (sm n fun c => if bi (d_g s) c = 1 then d_s s c * k_wo K c else 0) + d_s (d_let K i b s) b * k_wo K b := by
  have hbi := bi_add (d_g s) hg b (by omega) h0
  have e : ∀ c, c < n → bi (d_g (d_let K i b s)) c = if c = b then 1 else bi (d_g s) c := fun c hc => hbi c (by omega)
  have h := sm_set (n := n) (b := b) (f := fun c => if bi (d_g s) c = 1 then d_s s c * k_wo K c else 0) (g := fun c => if bi (d_g (d_let K i b s)) c = 1 then d_s (d_let K i b s) c * k_wo K c else 0) hb (fun c hc hcb => by
    simp only [e c hc, if_neg hcb]
    have : d_s (d_let K i b s) c = d_s s c := un_n hcb
    rw [this])
  simp only [e b hb, h0] at h
  simp at h
  omega
theorem mx_b {n i : Nat} {s : dT} (h : dI n i s) : (mx n fun b => if bi (d_g s) b = 1 then d_s s b else 0) ≤ 400 := mx_le (fun c _ => by
  have := (h.2.2.2.2.2.2.2 c).1
  show (if _ then _ else _) ≤ 400
  split <;> omega)
theorem sm_b {A n i : Nat} {K : Nat → Nat} {s : dT} (hV : kV A n K) (h : dI n i s) : (sm n fun b => if bi (d_g s) b = 1 then d_s s b * k_wo K b else 0) ≤ 21600 := by
  have hn := hV.n
  have := sm_le (n := n) (M := 3600) (f := fun b => if bi (d_g s) b = 1 then d_s s b * k_wo K b else 0) (fun c hc => by
    have h1 := (h.2.2.2.2.2.2.2 c).1
    have h2 := hV.wo hc
    show (if _ then _ else _) ≤ 3600
    split
    · have := Nat.mul_le_mul h1 h2
      omega
    · omega)
  have h3 : n * 3600 ≤ 6 * 3600 := Nat.mul_le_mul hn (Nat.le_refl _)
  omega

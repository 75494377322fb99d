/-! ===== the reference: leastCargo, taken ===== -/
/-- the least cargo told of some -/
def mt (g : Nat) (t : Nat → Nat) (i : Nat) : Nat := match am i (fun b => bi g b == 1) t with
  | none => 1000000000
  | some b => t b
theorem mt_skip {g i : Nat} {t : Nat → Nat} (h : ¬ bi g i = 1) : mt g t (i + 1) = mt g t i := by
  unfold mt
  rw [am]
  cases h0 : am i (fun b => bi g b == 1) t with
  | none => simp [h]
  | some b => simp [h]
theorem mt_lt {g i : Nat} {t : Nat → Nat} (ht : t i < 1000) (h : bi g i = 1) : mt g t (i + 1) = if t i < mt g t i then t i else mt g t i := by
  unfold mt
  rw [am]
  cases h0 : am i (fun b => bi g b == 1) t with
  | none =>
    simp only [h]
    rw [if_pos (show t i < 1000000000 by omega)]
    rfl
  | some b =>
    simp only [h]
    by_cases q : t i < t b
    · simp [q]
    · simp [q]
theorem mt_le {g i : Nat} {t : Nat → Nat} : ∀ b, b < i → bi g b = 1 → mt g t i ≤ t b := by
  intro b hb h
  unfold mt
  cases h0 : am i (fun b => bi g b == 1) t with
  | none =>
    have := am_none.mp h0 b hb
    simp [h] at this
  | some c => exact (am_some h0).2.2.1 b hb (by simp [h])
theorem mt_b {g i : Nat} {t : Nat → Nat} (ht : ∀ b, b < i → t b < 1000) : mt g t i ≤ 1000000000 := by
  unfold mt
  cases h0 : am i (fun b => bi g b == 1) t with
  | none => exact Nat.le_refl _
  | some c => have := ht c (am_some h0).1; show t c ≤ _; omega
theorem mt_at {g i : Nat} {t : Nat → Nat} (h : ∃ b, b < i ∧ bi g b = 1) : ∃ b, b < i ∧ bi g b = 1 ∧ t b = mt g t i := by
  obtain ⟨b, hb, h1⟩ := h
  unfold mt
  cases h0 : am i (fun b => bi g b == 1) t with
  | none =>
    have := am_none.mp h0 b hb
    simp [h1] at this
  | some c =>
    obtain ⟨c1, c2, -⟩ := am_some h0
    exact ⟨c, c1, by simpa using c2, rfl⟩
set_option maxRecDepth 20000 in
set_option maxHeartbeats 4000000 in
theorem l_leastCargo {d n g cg A : Nat} {w : zW} {K : Nat → Nat} {T : zX → Prop} (hd : 3 ≤ d) (hV : kV A n K) (hA : A < 1000) (hL : atD w n K) (hg : g < 64) (hcg : cg < 64) (hc : w 50 17 = nI cg) (hx : WP mX7_leastCargo d T 84 [some (.ref 50), some (.int (nI g)), some (.int (nI (mt g (k_tl K cg) n))), some (.int (nI (mk n (fun b => bi g b == 1 && (k_tl K cg b == (mt g (k_tl K cg) n)))))), some (.int (nI n)), none] [] w) : ∀ k i, i + k = n → WP mX7_leastCargo d T 8 [some (.ref 50), some (.int (nI g)), some (.int (nI (mt g (k_tl K cg) i))), some (.int (nI (mk i (fun b => bi g b == 1 && (k_tl K cg b == (mt g (k_tl K cg) i)))))), some (.int (nI i)), none] [] w := by
  have hn := hV.n
  intro k
  induction k with
  | zero =>
    intro i hi
    have e : i = n := by omega
    subst e
    refine r_iload 10 dX7_leastCargo_8 rfl rfl ?_
    refine r_aload_n 11 dX7_leastCargo_10 rfl rfl ?_
    refine r_geti 14 dX7_leastCargo_11 fz_X7_69 sh_50 rfl rfl ?_
    refine r_icmp_ge 84 17 dX7_leastCargo_14 (by decide) rfl (fun _ => ?_) (fun z => absurd (by rw [hL.2]; exact Int32.le_refl _) z)
    exact hx
  | succ k ih =>
    intro i hi
    have nx := ih (i + 1) (by omega)
    have htl : ∀ b, b < i + 1 → k_tl K cg b < 1000 := fun b hb => by have := k_tl_le (cg := cg) hV (b := b) (by omega); omega
    have hmt := mt_b (g := g) (i := i) (t := k_tl K cg) (fun b hb => htl b (by omega))
    have hti := htl i (Nat.lt_succ_self i)
    refine r_iload 10 dX7_leastCargo_8 rfl rfl ?_
    refine r_aload_n 11 dX7_leastCargo_10 rfl rfl ?_
    refine r_geti 14 dX7_leastCargo_11 fz_X7_69 sh_50 rfl rfl ?_
    refine r_icmp_ge 84 17 dX7_leastCargo_14 (by decide) rfl (fun z => absurd z (by rw [hL.2, nI_le' (by omega) (by omega)]; omega)) (fun _ => ?_)
    refine r_iload_n 18 dX7_leastCargo_17 rfl rfl ?_
    refine r_iload 20 dX7_leastCargo_18 rfl rfl ?_
    refine r_ishr 21 dX7_leastCargo_20 rfl ?_
    refine r_iconst 22 (v := 1) dX7_leastCargo_21 (by decide) rfl ?_
    refine r_iand 23 dX7_leastCargo_22 rfl ?_
    refine r_eq (b_sh g hg i (by omega)) ?_
    refine r_iconst 24 (v := 1) dX7_leastCargo_23 (by decide) rfl ?_
    refine r_icmp_ne 78 27 dX7_leastCargo_24 (by decide) rfl (fun g24 => ?_) (fun g24 => ?_)
    · have g24 : ¬ bi g i = 1 := fun z => g24 (by rw [z]; rfl)
      have q1 : mt g (k_tl K cg) (i + 1) = mt g (k_tl K cg) i := mt_skip g24
      have q2 : mk (i + 1) (fun b => bi g b == 1 && (k_tl K cg b == (mt g (k_tl K cg) i))) = mk i (fun b => bi g b == 1 && (k_tl K cg b == (mt g (k_tl K cg) i))) := by
        rw [mk, if_neg (by simp [g24])]
        rfl
      rw [q1, q2] at nx
      refine r_iinc 81 (L' := [_, _, _, _, _, _]) (v := nI (i + 1)) dX7_leastCargo_78 rfl (nI_1 i) (by decide) rfl rfl rfl ?_
      refine r_goto 8 dX7_leastCargo_81 (by decide) ?_
      exact nx
    · have g24 : bi g i = 1 := (nI_inj (b := 1) (by have := bi_lt g i; omega) (by decide)).mp g24
      refine r_aload_n 28 dX7_leastCargo_27 rfl rfl ?_
      refine r_iload 30 dX7_leastCargo_28 rfl rfl ?_
      refine r_callV (y2 := mX7_cargoTold) (as := [_]) 33 dX7_leastCargo_30 ml_X7_192 mv_X7_cargoTold (m_cargoTold (d := d - 1) (by omega) hV hA hL (b := i) (by omega) hcg hc) (by omega) sh_50 ⟨_, rfl, rfl⟩ rfl (Nat.le_of_ble_eq_true rfl) rfl (kk_i ?_)
      rintro _ _ ⟨rfl, rfl⟩
      refine r_istore 35 (L' := [_, _, _, _, _, _]) dX7_leastCargo_33 (by decide) rfl rfl rfl ?_
      rcases Nat.lt_trichotomy (k_tl K cg i) (mt g (k_tl K cg) i) with tri | tri | tri
      · have q1 : mt g (k_tl K cg) (i + 1) = k_tl K cg i := by rw [mt_lt hti g24, if_pos tri]
        have q2 : mk (i + 1) (fun b => bi g b == 1 && (k_tl K cg b == (k_tl K cg i))) = 2 ^ i := by
          rw [mk, if_pos (by simp [g24])]
          have z : mk i (fun b => bi g b == 1 && (k_tl K cg b == (k_tl K cg i))) = mk i (fun _ => false) := mk_congr (fun b hb => by
            by_cases h1 : bi g b = 1
            · have := mt_le (t := k_tl K cg) b hb h1
              simp; intro _; omega
            · simp [h1])
          have z2 : ∀ m, mk m (fun _ => false) = 0 := fun m => by
            induction m with
            | zero => rfl
            | succ m ih => rw [mk, ih]; rfl
          rw [z, z2, Nat.zero_add]
        rw [q1, q2] at nx
        refine r_iload 37 dX7_leastCargo_35 rfl rfl ?_
        refine r_iload_n 38 dX7_leastCargo_37 rfl rfl ?_
        refine r_icmp_ge 48 41 dX7_leastCargo_38 (by decide) rfl (fun z => absurd z (by rw [nI_le' (by omega) (by omega)]; omega)) (fun _ => ?_)
        refine r_iconst 42 (v := 1) dX7_leastCargo_41 (by decide) rfl ?_
        refine r_iload 44 dX7_leastCargo_42 rfl rfl ?_
        refine r_ishl 45 dX7_leastCargo_44 rfl ?_
        refine r_eq (b_sl i (by omega)) ?_
        refine r_goto 64 dX7_leastCargo_45 (by decide) ?_
        refine r_istore_n 65 (L' := [_, _, _, _, _, _]) dX7_leastCargo_64 (by decide) rfl rfl rfl ?_
        refine r_iload 67 dX7_leastCargo_65 rfl rfl ?_
        refine r_iload_n 68 dX7_leastCargo_67 rfl rfl ?_
        refine r_icmp_ge 76 71 dX7_leastCargo_68 (by decide) rfl (fun z => absurd z (by rw [nI_le' (by omega) (by omega)]; omega)) (fun _ => ?_)
        refine r_iload 73 dX7_leastCargo_71 rfl rfl ?_
        refine r_goto 77 dX7_leastCargo_73 (by decide) ?_
        refine r_istore_n 78 (L' := [_, _, _, _, _, _]) dX7_leastCargo_77 (by decide) rfl rfl rfl ?_
        refine r_iinc 81 (L' := [_, _, _, _, _, _]) (v := nI (i + 1)) dX7_leastCargo_78 rfl (nI_1 i) (by decide) rfl rfl rfl ?_
        refine r_goto 8 dX7_leastCargo_81 (by decide) ?_
        refine r_drop 5 (L' := [_, _, _, _, _, _]) rfl ?_
        exact nx
      · have q1 : mt g (k_tl K cg) (i + 1) = mt g (k_tl K cg) i := by rw [mt_lt hti g24, if_neg (by omega)]
        have q2 : mk (i + 1) (fun b => bi g b == 1 && (k_tl K cg b == (mt g (k_tl K cg) i))) = mk i (fun b => bi g b == 1 && (k_tl K cg b == (mt g (k_tl K cg) i))) + 2 ^ i := by rw [mk, if_pos (by simp [g24, tri])]
        rw [q1, q2] at nx
        refine r_iload 37 dX7_leastCargo_35 rfl rfl ?_
        refine r_iload_n 38 dX7_leastCargo_37 rfl rfl ?_
        refine r_icmp_ge 48 41 dX7_leastCargo_38 (by decide) rfl (fun _ => ?_) (fun z => absurd (by rw [nI_le' (by omega) (by omega)]; omega) z)
        refine r_iload 50 dX7_leastCargo_48 rfl rfl ?_
        refine r_iload_n 51 dX7_leastCargo_50 rfl rfl ?_
        refine r_icmp_ne 63 54 dX7_leastCargo_51 (by decide) rfl (fun z => absurd (by rw [tri]) z) (fun _ => ?_)
        refine r_iload_n 55 dX7_leastCargo_54 rfl rfl ?_
        refine r_iconst 56 (v := 1) dX7_leastCargo_55 (by decide) rfl ?_
        refine r_iload 58 dX7_leastCargo_56 rfl rfl ?_
        refine r_ishl 59 dX7_leastCargo_58 rfl ?_
        refine r_ior 60 dX7_leastCargo_59 rfl ?_
        refine r_eq (b_or _ (mk_64 (by omega)) i (by omega) (mk_top (by omega))) ?_
        refine r_goto 64 dX7_leastCargo_60 (by decide) ?_
        refine r_istore_n 65 (L' := [_, _, _, _, _, _]) dX7_leastCargo_64 (by decide) rfl rfl rfl ?_
        refine r_iload 67 dX7_leastCargo_65 rfl rfl ?_
        refine r_iload_n 68 dX7_leastCargo_67 rfl rfl ?_
        refine r_icmp_ge 76 71 dX7_leastCargo_68 (by decide) rfl (fun _ => ?_) (fun z => absurd (by rw [nI_le' (by omega) (by omega)]; omega) z)
        refine r_iload_n 77 dX7_leastCargo_76 rfl rfl ?_
        refine r_istore_n 78 (L' := [_, _, _, _, _, _]) dX7_leastCargo_77 (by decide) rfl rfl rfl ?_
        refine r_iinc 81 (L' := [_, _, _, _, _, _]) (v := nI (i + 1)) dX7_leastCargo_78 rfl (nI_1 i) (by decide) rfl rfl rfl ?_
        refine r_goto 8 dX7_leastCargo_81 (by decide) ?_
        refine r_drop 5 (L' := [_, _, _, _, _, _]) rfl ?_
        exact nx
      · have q1 : mt g (k_tl K cg) (i + 1) = mt g (k_tl K cg) i := by rw [mt_lt hti g24, if_neg (by omega)]
        have q2 : mk (i + 1) (fun b => bi g b == 1 && (k_tl K cg b == (mt g (k_tl K cg) i))) = mk i (fun b => bi g b == 1 && (k_tl K cg b == (mt g (k_tl K cg) i))) := by
          rw [mk, if_neg (by simp; intro _; omega)]
          rfl
        rw [q1, q2] at nx
        refine r_iload 37 dX7_leastCargo_35 rfl rfl ?_
        refine r_iload_n 38 dX7_leastCargo_37 rfl rfl ?_
        refine r_icmp_ge 48 41 dX7_leastCargo_38 (by decide) rfl (fun _ => ?_) (fun z => absurd (by rw [nI_le' (by omega) (by omega)]; omega) z)
        refine r_iload 50 dX7_leastCargo_48 rfl rfl ?_
        refine r_iload_n 51 dX7_leastCargo_50 rfl rfl ?_
        refine r_icmp_ne 63 54 dX7_leastCargo_51 (by decide) rfl (fun _ => ?_) (fun z => absurd z (fun z => by have := (nI_inj (by omega) (by omega)).mp z; omega))
        refine r_iload_n 64 dX7_leastCargo_63 rfl rfl ?_
        refine r_istore_n 65 (L' := [_, _, _, _, _, _]) dX7_leastCargo_64 (by decide) rfl rfl rfl ?_
        refine r_iload 67 dX7_leastCargo_65 rfl rfl ?_
        refine r_iload_n 68 dX7_leastCargo_67 rfl rfl ?_
        refine r_icmp_ge 76 71 dX7_leastCargo_68 (by decide) rfl (fun _ => ?_) (fun z => absurd (by rw [nI_le' (by omega) (by omega)]; omega) z)
        refine r_iload_n 77 dX7_leastCargo_76 rfl rfl ?_
        refine r_istore_n 78 (L' := [_, _, _, _, _, _]) dX7_leastCargo_77 (by decide) rfl rfl rfl ?_
        refine r_iinc 81 (L' := [_, _, _, _, _, _]) (v := nI (i + 1)) dX7_leastCargo_78 rfl (nI_1 i) (by decide) rfl rfl rfl ?_
        refine r_goto 8 dX7_leastCargo_81 (by decide) ?_
        refine r_drop 5 (L' := [_, _, _, _, _, _]) rfl ?_
        exact nx
set_option maxRecDepth 20000 in
set_option maxHeartbeats 4000000 in
theorem m_leastCargo {d n g cg A : Nat} {w : zW} {K : Nat → Nat} (hd : 3 ≤ d) (hV : kV A n K) (hA : A < 1000) (hL : atD w n K) (hg : g < 64) (hcg : cg < 64) (hc : w 50 17 = nI cg) : CT mX7_leastCargo d [.ref 50, .int (nI g)] w (z_i fun x w' => nI (mk n (fun b => bi g b == 1 && (k_tl K cg b == (mt g (k_tl K cg) n)))) = x ∧ w = w') := by
  refine CT.of [some (.ref 50), some (.int (nI g)), none, none, none, none] rfl (Nat.le_of_ble_eq_true rfl) rfl ?_
  refine r_ldc 2 dX7_leastCargo_0 kc_X7_191 rfl ?_
  refine r_eq (z := nI (mt g (k_tl K cg) 0)) rfl ?_
  refine r_istore_n 3 (L' := [_, _, _, _, _, _]) dX7_leastCargo_2 (by decide) rfl rfl rfl ?_
  refine r_iconst 4 (v := 0) dX7_leastCargo_3 (by decide) rfl ?_
  refine r_istore_n 5 (L' := [_, _, _, _, _, _]) dX7_leastCargo_4 (by decide) rfl rfl rfl ?_
  refine r_iconst 6 (v := 0) dX7_leastCargo_5 (by decide) rfl ?_
  refine r_istore 8 (L' := [_, _, _, _, _, _]) dX7_leastCargo_6 (by decide) rfl rfl rfl ?_
  refine l_leastCargo hd hV hA hL hg hcg hc ?_ n 0 (Nat.zero_add n)
  refine r_iload_n 85 dX7_leastCargo_84 rfl rfl ?_
  exact r_iret .int dX7_leastCargo_85 rfl (rfl) (⟨rfl, rfl⟩)

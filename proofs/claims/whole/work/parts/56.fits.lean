/-! ===== the class: fits ===== -/
/-- it fits what was seen -/
def ft (n : Nat) (K : Nat → Nat) (l g : Nat) : Bool := decide (∀ j, j < K 42 → d_p (dD n (lw (un K 3 l) g)) (K (43 + 2 * j)) = K (44 + 2 * j))
abbrev fR : Type := Nat × Nat × Nat × Nat
def ftG (n : Nat) (K : Nat → Nat) (l : Nat) : Nat → fR → fR
  | 0, t => t
  | g + 1, t => if ft n K l g = true then ((ftG n K l g t).1 + 1, (ftG n K l g t).2.1 ||| 2 ^ l, (ftG n K l g t).2.2.1 &&& g, (ftG n K l g t).2.2.2 &&& (63 - g)) else ftG n K l g t
def ftL (n : Nat) (K : Nat → Nat) : Nat → fR
  | 0 => (0, 0, 2 ^ n - 1, 2 ^ n - 1)
  | l + 1 => ftG n K l (2 ^ n) (ftL n K l)
def f_fits (s : sT) (q : Int32) : Int32 × sT := (if wi q 0 3 = true then (if q = 0 then nI (ftL (s_n s) (s_K s) 5).1 else if q = 1 then nI (ftL (s_n s) (s_K s) 5).2.1 else if (ftL (s_n s) (s_K s) 5).1 = 0 then -4 else if q = 2 then nI (ftL (s_n s) (s_K s) 5).2.2.1 else nI (ftL (s_n s) (s_K s) 5).2.2.2) else -1, s)
def fB (t : fR) (i : Nat) : Prop := t.1 ≤ i ∧ t.2.1 < 32 ∧ t.2.2.1 < 64 ∧ t.2.2.2 < 64
theorem f_or : ∀ L, L < 32 → ∀ l, l < 5 → nI L ||| ((1 : Int32) <<< (nI l &&& 31)) = nI (L ||| 2 ^ l) ∧ L ||| 2 ^ l < 32 := by decide +kernel
theorem f_an : ∀ a, a < 64 → ∀ g, g < 64 → nI a &&& nI g = nI (a &&& g) ∧ a &&& g < 64 ∧ nI a &&& (nI g ^^^ (-1)) = nI (a &&& (63 - g)) ∧ a &&& (63 - g) < 64 := by decide +kernel
theorem ftG_B {n l : Nat} {K : Nat → Nat} {t : fR} {i : Nat} (hl : l < 5) (h : fB t i) : ∀ g, g ≤ 64 → fB (ftG n K l g t) (i + g) := by
  intro g
  induction g with
  | zero => intro _; exact h
  | succ g ih =>
    intro hg
    obtain ⟨h1, h2, h3, h4⟩ := ih (by omega)
    rw [ftG]
    by_cases c : ft n K l g = true
    · rw [if_pos c]
      exact ⟨by show _ + 1 ≤ _; omega, (f_or _ h2 l hl).2, (f_an _ h3 g (by omega)).2.1, (f_an _ h4 g (by omega)).2.2.2⟩
    · rw [if_neg c]
      exact ⟨by omega, h2, h3, h4⟩
theorem ftL_B {n : Nat} {K : Nat → Nat} (hn : n ≤ 6) : ∀ l, l ≤ 5 → fB (ftL n K l) (64 * l) := by
  have h64 : 2 ^ n ≤ 64 := p2_le n (by omega)
  intro l
  induction l with
  | zero => intro _; exact ⟨Nat.le_refl _, by show 0 < 32; decide, by show 2 ^ n - 1 < 64; omega, by show 2 ^ n - 1 < 64; omega⟩
  | succ l ih =>
    intro hl
    have h := ftG_B (n := n) (l := l) (K := K) (by omega) (ih (by omega)) (2 ^ n) h64
    exact ⟨by have := h.1; show (ftG n K l (2 ^ n) (ftL n K l)).1 ≤ _; omega, h.2⟩
theorem c_fit {d l g : Nat} {w : zW} {s : sT} (hd : 1 ≤ d) (hR : RC w s) (hS : sV s) (hC : dyC w (s_n s) (lw (un (s_K s) 3 l) g) (s_n s) (d_run (s_n s) (lw (un (s_K s) 3 l) g) 0 (s_n s))) (hI : dI (s_n s) (s_n s) (dD (s_n s) (lw (un (s_K s) 3 l) g))) : CT mX0_isAsSeen d [.ref 30, .ref 1] w (z_i fun x w' => z_b (ft (s_n s) (s_K s) l g = true) = x ∧ w = w') := by
  have hn := hS.1.n
  have h := c_isAsSeen (B := 1) (m := s_K s 42) (w := w) (p := d_p (dD (s_n s) (lw (un (s_K s) 3 l) g))) (sp := fun j => s_K s (43 + 2 * j)) (sb := fun j => s_K s (44 + 2 * j)) hd (Or.inl rfl) hS.1.2.1 hR.1.2.2.2.2.1 (fun j hj => by
    have h1 := hR.1.2.2.2.2.2 j hj
    have h2 := hS.1.2.2 j hj
    have h3 := (hI.2.2.1 _ h2.1).1
    exact ⟨h1.1, by show s_K s (43 + 2 * j) < 6; omega, h1.2, by show s_K s (44 + 2 * j) < 1000; omega, hC.pa h2.1, by show d_p _ (s_K s (43 + 2 * j)) < 1000; omega⟩)
  rw [z_bc (p := ft (s_n s) (s_K s) l g = true) decide_eq_true_iff]
  exact h
set_option maxRecDepth 20000 in
set_option maxHeartbeats 4000000 in
theorem l_fitG {d l i0 : Nat} {q : Int32} {t : fR} {w0 : zW} {s : sT} {T : zX → Prop} (hd : 6 ≤ d) (hS : sV s) (hl : l < 5) (ht : fB t i0) (hi0 : i0 < 1000) (hx : ∀ w f g, RC w s → frC w0 w → WP mX6_fits d T 134 [some (.ref 0), some (.int q), some (.int (nI (ftG (s_n s) (s_K s) l (2 ^ s_n s) t).1)), some (.int (nI (ftG (s_n s) (s_K s) l (2 ^ s_n s) t).2.1)), some (.int (nI (ftG (s_n s) (s_K s) l (2 ^ s_n s) t).2.2.1)), some (.int (nI (ftG (s_n s) (s_K s) l (2 ^ s_n s) t).2.2.2)), some (.int (nI l)), f, g] [] w) : ∀ k g (p : Bool) (w : zW), g + k = 2 ^ s_n s → RC w s → frC w0 w → (g = 0 ∨ p = ft (s_n s) (s_K s) l (g - 1)) → WP mX6_fits d T 46 [some (.ref 0), some (.int q), some (.int (nI (ftG (s_n s) (s_K s) l (g) t).1)), some (.int (nI (ftG (s_n s) (s_K s) l (g) t).2.1)), some (.int (nI (ftG (s_n s) (s_K s) l (g) t).2.2.1)), some (.int (nI (ftG (s_n s) (s_K s) l (g) t).2.2.2)), some (.int (nI l)), some (.int (z_b (p = true))), some (.int (nI g))] [] w := by
  have hn := hS.1.n
  have h64 : 2 ^ s_n s ≤ 64 := p2_le _ (by omega)
  intro k
  induction k with
  | zero =>
    intro g p w hi hR hF hp
    have e : g = 2 ^ s_n s := by omega
    subst e
    refine r_iload 48 dX6_fits_46 rfl rfl ?_
    refine r_aload_n 49 dX6_fits_48 rfl rfl ?_
    refine r_callV (y2 := mX6_liarSets) (as := []) 52 dX6_fits_49 ml_X6_180 mv_X6_liarSets (c_liarSets (d := d - 1) hn hR.1.2.2.1) (by omega) sh_0 ⟨_, rfl, rfl⟩ rfl (Nat.le_of_ble_eq_true rfl) rfl (kk_i ?_)
    rintro _ _ ⟨rfl, rfl⟩
    refine r_icmp_ge 134 55 dX6_fits_52 (by decide) rfl (fun _ => ?_) (fun z => absurd (Int32.le_refl _) z)
    exact hx w _ _ hR hF
  | succ k ih =>
    intro g p w hi hR hF hp
    have hB := ftG_B (n := s_n s) (K := s_K s) hl ht g (by omega)
    have tail : ∀ (p1 : Bool) (w1 : zW), RC w1 s → frC w0 w1 → p1 = ft (s_n s) (s_K s) l g → WP mX6_fits d T 97 [some (.ref 0), some (.int q), some (.int (nI (ftG (s_n s) (s_K s) l (g) t).1)), some (.int (nI (ftG (s_n s) (s_K s) l (g) t).2.1)), some (.int (nI (ftG (s_n s) (s_K s) l (g) t).2.2.1)), some (.int (nI (ftG (s_n s) (s_K s) l (g) t).2.2.2)), some (.int (nI l)), some (.int (z_b (p1 = true))), some (.int (nI g))] [] w1 := by
      intro p1 w1 hR1 hF1 hp1
      have key := ih (g + 1) p1 w1 (by omega) hR1 hF1 (Or.inr (by rw [hp1]; rfl))
      rw [ftG, ← hp1] at key
      obtain ⟨b1, b2, b3, b4⟩ := hB
      refine r_iload 99 dX6_fits_97 rfl rfl ?_
      refine rb_eq 128 102 dX6_fits_99 (by decide) rfl (fun g99 => ?_) (fun g99 => ?_)
      · rw [if_neg g99] at key
        refine r_iinc 131 (L' := [_, _, _, _, _, _, _, _, _]) (v := nI (g + 1)) dX6_fits_128 rfl (nI_1 g) (by decide) rfl rfl rfl ?_
        refine r_goto 46 dX6_fits_131 (by decide) ?_
        exact key
      · rw [if_pos g99] at key
        refine r_iinc 105 (L' := [_, _, _, _, _, _, _, _, _]) (v := nI ((ftG (s_n s) (s_K s) l (g) t).1 + 1)) dX6_fits_102 rfl (nI_1 _) (by decide) rfl rfl rfl ?_
        refine r_iload_n 106 dX6_fits_105 rfl rfl ?_
        refine r_iconst 107 (v := 1) dX6_fits_106 (by decide) rfl ?_
        refine r_iload 109 dX6_fits_107 rfl rfl ?_
        refine r_ishl 110 dX6_fits_109 rfl ?_
        refine r_ior 111 dX6_fits_110 rfl ?_
        refine r_eq (f_or _ b2 l hl).1 ?_
        refine r_istore_n 112 (L' := [_, _, _, _, _, _, _, _, _]) dX6_fits_111 (by decide) rfl rfl rfl ?_
        refine r_iload 114 dX6_fits_112 rfl rfl ?_
        refine r_iload 116 dX6_fits_114 rfl rfl ?_
        refine r_iand 117 dX6_fits_116 rfl ?_
        refine r_eq (f_an _ b3 g (by omega)).1 ?_
        refine r_istore 119 (L' := [_, _, _, _, _, _, _, _, _]) dX6_fits_117 (by decide) rfl rfl rfl ?_
        refine r_iload 121 dX6_fits_119 rfl rfl ?_
        refine r_iload 123 dX6_fits_121 rfl rfl ?_
        refine r_iconst 124 (v := -1) dX6_fits_123 (by decide) rfl ?_
        refine r_ixor 125 dX6_fits_124 rfl ?_
        refine r_iand 126 dX6_fits_125 rfl ?_
        refine r_eq (f_an _ b4 g (by omega)).2.2.1 ?_
        refine r_istore 128 (L' := [_, _, _, _, _, _, _, _, _]) dX6_fits_126 (by decide) rfl rfl rfl ?_
        refine r_iinc 131 (L' := [_, _, _, _, _, _, _, _, _]) (v := nI (g + 1)) dX6_fits_128 rfl (nI_1 g) (by decide) rfl rfl rfl ?_
        refine r_goto 46 dX6_fits_131 (by decide) ?_
        exact key
    refine r_iload 48 dX6_fits_46 rfl rfl ?_
    refine r_aload_n 49 dX6_fits_48 rfl rfl ?_
    refine r_callV (y2 := mX6_liarSets) (as := []) 52 dX6_fits_49 ml_X6_180 mv_X6_liarSets (c_liarSets (d := d - 1) hn hR.1.2.2.1) (by omega) sh_0 ⟨_, rfl, rfl⟩ rfl (Nat.le_of_ble_eq_true rfl) rfl (kk_i ?_)
    rintro _ _ ⟨rfl, rfl⟩
    refine r_icmp_ge 134 55 dX6_fits_52 (by decide) rfl (fun z => absurd z (fun z => absurd ((nI_le' (by omega) (by omega)).mp z) (by omega))) (fun _ => ?_)
    refine r_iload 57 dX6_fits_55 rfl rfl ?_
    refine r_if_eq 68 60 dX6_fits_57 (by decide) rfl (fun g57 => ?_) (fun g57 => ?_)
    · refine r_aload_n 69 dX6_fits_68 rfl rfl ?_
      refine r_getr 72 dX6_fits_69 fz_X6_42 sh_0 rfl rfl ?_
      refine r_aload_n 73 dX6_fits_72 rfl rfl ?_
      refine r_getr 76 dX6_fits_73 fz_X6_10 sh_0 rfl rfl ?_
      refine r_iload 78 dX6_fits_76 rfl rfl ?_
      refine r_iload 80 dX6_fits_78 rfl rfl ?_
      refine r_iconst 81 (v := 0) dX6_fits_80 (by decide) rfl ?_
      refine r_callV (y2 := mX0_by) (as := [_, _, _, _]) 84 dX6_fits_81 ml_X6_153 mv_X0_by (c_dayG (d := d - 1) (l := l) (g := g) (cg := 0) (by omega) hR hS (by omega) (by omega) (by decide)) (by omega) sh_30 ⟨_, rfl, rfl⟩ rfl (Nat.le_of_ble_eq_true rfl) rfl (kk_v ?_)
      rintro w1 ⟨hC, hF1⟩
      have hR1 := hR.fr (d30 hF1)
      have hI : dI (s_n s) (s_n s) (dD (s_n s) (lw (un (s_K s) 3 l) g)) := dI_D (hS.1.1.law (by omega)).lw (by decide)
      refine r_aload_n 85 dX6_fits_84 rfl rfl ?_
      refine r_getr 88 dX6_fits_85 fz_X6_42 sh_0 rfl rfl ?_
      refine r_aload_n 89 dX6_fits_88 rfl rfl ?_
      refine r_getr 92 dX6_fits_89 fz_X6_10 sh_0 rfl rfl ?_
      refine r_callV (y2 := mX0_isAsSeen) (as := [_]) 95 dX6_fits_92 ml_X6_239 mv_X0_isAsSeen (c_fit (d := d - 1) (by omega) hR1 hS hC hI) (by omega) sh_30 ⟨_, rfl, rfl⟩ rfl (Nat.le_of_ble_eq_true rfl) rfl (kk_i ?_)
      rintro _ _ ⟨rfl, rfl⟩
      refine r_istore 97 (L' := [_, _, _, _, _, _, _, _, _]) dX6_fits_95 (by decide) rfl rfl rfl ?_
      exact tail _ w1 hR1 (hF.trans (d30 hF1)) rfl
    · refine r_iload 62 dX6_fits_60 rfl rfl ?_
      refine r_callS (y2 := mX6_hearsLies) (as := [_]) 65 dX6_fits_62 ml_X6_186 ms_X6_hearsLies (c_hearsLies (d := d - 1) (l := l) (by omega)) (by omega) rfl (Nat.le_of_ble_eq_true rfl) rfl (kk_i ?_)
      rintro _ _ ⟨rfl, rfl⟩
      refine rb_eq 97 68 dX6_fits_65 (by decide) rfl (fun g65 => ?_) (fun g65 => ?_)
      · have i0 : ¬ g = 0 := fun z => g57 (by rw [z]; rfl)
        refine tail p w hR hF ?_
        have e : dD (s_n s) (lw (un (s_K s) 3 l) g) = dD (s_n s) (lw (un (s_K s) 3 l) (g - 1)) := dD_E (hS.1.1.law (by omega)).lw (by decide) (lw_E.symm.trans lw_E) (fun h => absurd (by rw [lw_n (by omega), un_s] at h; exact h) g65)
        rw [hp.resolve_left i0, ft, ft, e]
      · refine r_aload_n 69 dX6_fits_68 rfl rfl ?_
        refine r_getr 72 dX6_fits_69 fz_X6_42 sh_0 rfl rfl ?_
        refine r_aload_n 73 dX6_fits_72 rfl rfl ?_
        refine r_getr 76 dX6_fits_73 fz_X6_10 sh_0 rfl rfl ?_
        refine r_iload 78 dX6_fits_76 rfl rfl ?_
        refine r_iload 80 dX6_fits_78 rfl rfl ?_
        refine r_iconst 81 (v := 0) dX6_fits_80 (by decide) rfl ?_
        refine r_callV (y2 := mX0_by) (as := [_, _, _, _]) 84 dX6_fits_81 ml_X6_153 mv_X0_by (c_dayG (d := d - 1) (l := l) (g := g) (cg := 0) (by omega) hR hS (by omega) (by omega) (by decide)) (by omega) sh_30 ⟨_, rfl, rfl⟩ rfl (Nat.le_of_ble_eq_true rfl) rfl (kk_v ?_)
        rintro w1 ⟨hC, hF1⟩
        have hR1 := hR.fr (d30 hF1)
        have hI : dI (s_n s) (s_n s) (dD (s_n s) (lw (un (s_K s) 3 l) g)) := dI_D (hS.1.1.law (by omega)).lw (by decide)
        refine r_aload_n 85 dX6_fits_84 rfl rfl ?_
        refine r_getr 88 dX6_fits_85 fz_X6_42 sh_0 rfl rfl ?_
        refine r_aload_n 89 dX6_fits_88 rfl rfl ?_
        refine r_getr 92 dX6_fits_89 fz_X6_10 sh_0 rfl rfl ?_
        refine r_callV (y2 := mX0_isAsSeen) (as := [_]) 95 dX6_fits_92 ml_X6_239 mv_X0_isAsSeen (c_fit (d := d - 1) (by omega) hR1 hS hC hI) (by omega) sh_30 ⟨_, rfl, rfl⟩ rfl (Nat.le_of_ble_eq_true rfl) rfl (kk_i ?_)
        rintro _ _ ⟨rfl, rfl⟩
        refine r_istore 97 (L' := [_, _, _, _, _, _, _, _, _]) dX6_fits_95 (by decide) rfl rfl rfl ?_
        exact tail _ w1 hR1 (hF.trans (d30 hF1)) rfl
set_option maxRecDepth 20000 in
set_option maxHeartbeats 4000000 in
theorem l_fitL {d : Nat} {q : Int32} {w0 : zW} {s : sT} {T : zX → Prop} (hd : 6 ≤ d) (hS : sV s) (hx : ∀ w f g, RC w s → frC w0 w → WP mX6_fits d T 140 [some (.ref 0), some (.int q), some (.int (nI (ftL (s_n s) (s_K s) 5).1)), some (.int (nI (ftL (s_n s) (s_K s) 5).2.1)), some (.int (nI (ftL (s_n s) (s_K s) 5).2.2.1)), some (.int (nI (ftL (s_n s) (s_K s) 5).2.2.2)), some (.int (nI 5)), f, g] [] w) : ∀ k l f g (w : zW), l + k = 5 → RC w s → frC w0 w → WP mX6_fits d T 34 [some (.ref 0), some (.int q), some (.int (nI (ftL (s_n s) (s_K s) l).1)), some (.int (nI (ftL (s_n s) (s_K s) l).2.1)), some (.int (nI (ftL (s_n s) (s_K s) l).2.2.1)), some (.int (nI (ftL (s_n s) (s_K s) l).2.2.2)), some (.int (nI l)), f, g] [] w := by
  have hn := hS.1.n
  intro k
  induction k with
  | zero =>
    intro l f g w hi hR hF
    have e : l = 5 := by omega
    subst e
    refine r_iload 36 dX6_fits_34 rfl rfl ?_
    refine r_iconst 37 (v := 5) dX6_fits_36 (by decide) rfl ?_
    refine r_icmp_ge 140 40 dX6_fits_37 (by decide) rfl (fun _ => ?_) (fun z => absurd (Int32.le_refl _) z)
    exact hx w f g hR hF
  | succ k ih =>
    intro l f g w hi hR hF
    refine r_iload 36 dX6_fits_34 rfl rfl ?_
    refine r_iconst 37 (v := 5) dX6_fits_36 (by decide) rfl ?_
    refine r_icmp_ge 140 40 dX6_fits_37 (by decide) rfl (fun z => absurd z (fun z => absurd ((nI_le' (a := 5) (by decide) (by omega)).mp z) (by omega))) (fun _ => ?_)
    refine r_iconst 41 (v := 0) dX6_fits_40 (by decide) rfl ?_
    refine r_istore 43 (L' := [_, _, _, _, _, _, _, _, _]) dX6_fits_41 (by decide) rfl rfl rfl ?_
    refine r_iconst 44 (v := 0) dX6_fits_43 (by decide) rfl ?_
    refine r_istore 46 (L' := [_, _, _, _, _, _, _, _, _]) dX6_fits_44 (by decide) rfl rfl rfl ?_
    refine l_fitG (i0 := 64 * l) (w0 := w0) (t := ftL (s_n s) (s_K s) l) hd hS (by omega) (ftL_B hn l (by omega)) (by omega) (fun w1 f1 g1 hR1 hF1 => ?_) (2 ^ s_n s) 0 false w (Nat.zero_add _) hR hF (Or.inl rfl)
    refine r_iinc 137 (L' := [_, _, _, _, _, _, _, _, _]) (v := nI (l + 1)) dX6_fits_134 rfl (nI_1 l) (by decide) rfl rfl rfl ?_
    refine r_goto 34 dX6_fits_137 (by decide) ?_
    exact ih (l + 1) f1 g1 w1 (by omega) hR1 hF1
set_option maxRecDepth 20000 in
set_option maxHeartbeats 4000000 in
theorem C_fits {d : Nat} {w : zW} {s : sT} {q : Int32} (hd : 7 ≤ d) (hR : RC w s) (hS : sV s) : AC mX6_fits d [.int q] w (f_fits s q) := by
  have hn := hS.1.n
  refine CT.of [some (.ref 0), some (.int q), none, none, none, none, none, none, none] rfl (Nat.le_of_ble_eq_true rfl) rfl ?_
  refine r_iload_n 1 dX6_fits_0 rfl rfl ?_
  refine r_iconst 2 (v := 0) dX6_fits_1 (by decide) rfl ?_
  refine r_iconst 3 (v := 3) dX6_fits_2 (by decide) rfl ?_
  refine r_callS (y2 := mX6_within) (as := [_, _, _]) 6 dX6_fits_3 ml_X6_67 ms_X6_within (c_within (d := d - 1) _ _ _) (by omega) rfl (Nat.le_of_ble_eq_true rfl) rfl (kk_i ?_)
  rintro _ _ ⟨rfl, rfl⟩
  refine rb_ne 11 9 dX6_fits_6 (by decide) rfl (fun g6 => ?_) (fun g6 => ?_)
  · have wq : wi q 0 3 = true := wi_iff.mpr g6
    obtain ⟨j, hj, rfl⟩ := wi_of (hi := 3) wq
    have h64 : 2 ^ s_n s ≤ 64 := p2_le _ (by omega)
    have hp2 : 1 ≤ 2 ^ s_n s := Nat.one_le_two_pow
    refine r_iconst 12 (v := 0) dX6_fits_11 (by decide) rfl ?_
    refine r_istore_n 13 (L' := [_, _, _, _, _, _, _, _, _]) dX6_fits_12 (by decide) rfl rfl rfl ?_
    refine r_iconst 14 (v := 0) dX6_fits_13 (by decide) rfl ?_
    refine r_istore_n 15 (L' := [_, _, _, _, _, _, _, _, _]) dX6_fits_14 (by decide) rfl rfl rfl ?_
    refine r_aload_n 16 dX6_fits_15 rfl rfl ?_
    refine r_callV (y2 := mX6_liarSets) (as := []) 19 dX6_fits_16 ml_X6_180 mv_X6_liarSets (c_liarSets (d := d - 1) hn hR.1.2.2.1) (by omega) sh_0 ⟨_, rfl, rfl⟩ rfl (Nat.le_of_ble_eq_true rfl) rfl (kk_i ?_)
    rintro _ _ ⟨rfl, rfl⟩
    refine r_iconst 20 (v := 1) dX6_fits_19 (by decide) rfl ?_
    refine r_isub 21 dX6_fits_20 rfl ?_
    refine r_eq (nI_sub (b := 1) hp2) ?_
    refine r_istore 23 (L' := [_, _, _, _, _, _, _, _, _]) dX6_fits_21 (by decide) rfl rfl rfl ?_
    refine r_aload_n 24 dX6_fits_23 rfl rfl ?_
    refine r_callV (y2 := mX6_liarSets) (as := []) 27 dX6_fits_24 ml_X6_180 mv_X6_liarSets (c_liarSets (d := d - 1) hn hR.1.2.2.1) (by omega) sh_0 ⟨_, rfl, rfl⟩ rfl (Nat.le_of_ble_eq_true rfl) rfl (kk_i ?_)
    rintro _ _ ⟨rfl, rfl⟩
    refine r_iconst 28 (v := 1) dX6_fits_27 (by decide) rfl ?_
    refine r_isub 29 dX6_fits_28 rfl ?_
    refine r_eq (nI_sub (b := 1) hp2) ?_
    refine r_istore 31 (L' := [_, _, _, _, _, _, _, _, _]) dX6_fits_29 (by decide) rfl rfl rfl ?_
    refine r_iconst 32 (v := 0) dX6_fits_31 (by decide) rfl ?_
    refine r_istore 34 (L' := [_, _, _, _, _, _, _, _, _]) dX6_fits_32 (by decide) rfl rfl rfl ?_
    refine l_fitL (w0 := w) (by omega) hS (fun w1 f g hR1 hF => ?_) 5 0 _ _ w (by decide) hR frC.rfl
    have hB := (ftL_B (K := s_K s) hn 5 (by decide)).1
    refine r_iload_n 141 dX6_fits_140 rfl rfl ?_
    refine r_iconst 142 (v := 2) dX6_fits_141 (by decide) rfl ?_
    refine r_icmp_ge 155 145 dX6_fits_142 (by decide) rfl (fun g142 => ?_) (fun g142 => ?_)
    · have g142 := (nI_le' (a := 2) (by decide) (by omega)).mp g142
      have j0 : ¬ nI j = 0 := fun z => by have := (nI_inj (b := 0) (by omega) (by decide)).mp z; omega
      have j1 : ¬ nI j = 1 := fun z => by have := (nI_inj (b := 1) (by omega) (by decide)).mp z; omega
      refine r_iload_n 156 dX6_fits_155 rfl rfl ?_
      refine r_if_ne 162 159 dX6_fits_156 (by decide) rfl (fun g156 => ?_) (fun g156 => ?_)
      · have g156 : ¬ (ftL (s_n s) (s_K s) 5).1 = 0 := fun z => g156 (by rw [z]; rfl)
        refine r_iload_n 163 dX6_fits_162 rfl rfl ?_
        refine r_iconst 164 (v := 2) dX6_fits_163 (by decide) rfl ?_
        refine r_icmp_ne 172 167 dX6_fits_164 (by decide) rfl (fun g164 => ?_) (fun g164 => ?_)
        · refine r_iload 174 dX6_fits_172 rfl rfl ?_
          exact r_iret .int dX6_fits_174 rfl (rfl) (by first | exact ⟨by rw [f_fits, if_pos wq, if_neg j0, if_neg j1, if_neg g156, if_pos g164], hR1, hF.hi⟩ | exact ⟨by rw [f_fits, if_pos wq, if_neg j0, if_neg j1, if_neg g156, if_neg g164], hR1, hF.hi⟩)
        · refine r_iload 169 dX6_fits_167 rfl rfl ?_
          refine r_goto 174 dX6_fits_169 (by decide) ?_
          exact r_iret .int dX6_fits_174 rfl (rfl) (by first | exact ⟨by rw [f_fits, if_pos wq, if_neg j0, if_neg j1, if_neg g156, if_pos g164], hR1, hF.hi⟩ | exact ⟨by rw [f_fits, if_pos wq, if_neg j0, if_neg j1, if_neg g156, if_neg g164], hR1, hF.hi⟩)
      · have g156 := (nI_inj (b := 0) (by omega) (by decide)).mp g156
        refine r_bipush 161 (v := -4) dX6_fits_159 (by decide) rfl ?_
        exact r_iret .int dX6_fits_161 rfl (rfl) (⟨by rw [f_fits, if_pos wq, if_neg j0, if_neg j1, if_pos g156], hR1, hF.hi⟩)
    · have g142 : ¬ 2 ≤ j := fun z => g142 ((nI_le' (a := 2) (by decide) (by omega)).mpr z)
      refine r_iload_n 146 dX6_fits_145 rfl rfl ?_
      refine r_if_ne 153 149 dX6_fits_146 (by decide) rfl (fun g146 => ?_) (fun g146 => ?_)
      · have j1 : nI j = 1 := by have : ¬ j = 0 := fun z => g146 (by rw [z]; rfl); rw [show j = 1 by omega]; rfl
        refine r_iload_n 154 dX6_fits_153 rfl rfl ?_
        exact r_iret .int dX6_fits_154 rfl (rfl) (by first | exact ⟨by rw [f_fits, if_pos wq, if_pos g146], hR1, hF.hi⟩ | exact ⟨by rw [f_fits, if_pos wq, if_neg g146, if_pos j1], hR1, hF.hi⟩)
      · refine r_iload_n 150 dX6_fits_149 rfl rfl ?_
        refine r_goto 154 dX6_fits_150 (by decide) ?_
        exact r_iret .int dX6_fits_154 rfl (rfl) (by first | exact ⟨by rw [f_fits, if_pos wq, if_pos g146], hR1, hF.hi⟩ | exact ⟨by rw [f_fits, if_pos wq, if_neg g146, if_pos j1], hR1, hF.hi⟩)
  · have wq : ¬ wi q 0 3 = true := fun z => g6 (wi_iff.mp z)
    refine r_iconst 10 (v := -1) dX6_fits_9 (by decide) rfl ?_
    exact r_iret .int dX6_fits_10 rfl (rfl) (by first | exact ⟨by rw [f_fits, if_neg (wq)], by rw [f_fits, if_neg (wq)]; exact hR, fun _ _ => rfl⟩)

/-! ===== the reference: boats, liars, rules as they are told ===== -/
/-- the highest that lies, or -4 -/
def hiB (l : Nat) : Int32 := if l = 0 then -4 else if l < 2 then 0 else if l < 4 then 1 else if l < 8 then 2 else if l < 16 then 3 else if l < 32 then 4 else 5
theorem hi_y : ∀ l, l < 64 → ∀ b, b < 6 → bi l b = 0 → (if nI b ≤ hiB l then hiB l else nI b) = hiB (l + 2 ^ b) := by decide +kernel
theorem hi_n : ∀ l, l < 64 → ∀ n, n < 7 → (hiB l < nI n ↔ ¬ 2 ^ n ≤ l) := by decide +kernel
/-- what is told so far, in the reference -/
def dM (w : zW) (D : pD) : Prop := (∀ k, k < 55 → w 54 k = nI (p_K D k)) ∧ w 50 5 = nI (p_n D) ∧ w 50 6 = nI (4 * p_m D) ∧ w 50 7 = nI (p_l D) ∧ w 50 8 = hiB (p_l D)
def frD (w w' : zW) : Prop := (∀ q, q < 5 ∨ (8 < q ∧ q < 11) ∨ 16 < q → w' 50 q = w 50 q) ∧ ∀ a, a ≠ 50 → a ≠ 54 → w' a = w a
theorem frD.rfl {w : zW} : frD w w := ⟨fun _ _ => Eq.refl _, fun _ _ _ => Eq.refl _⟩
theorem frD.trans {w w' w'' : zW} (h : frD w w') (h' : frD w' w'') : frD w w'' := ⟨fun q hq => (h'.1 q hq).trans (h.1 q hq), fun a h1 h2 => (h'.2 a h1 h2).trans (h.2 a h1 h2)⟩
theorem frL.D {w w' : zW} (h : frL w w') : frD w w' := ⟨fun q hq => h.1 q (by omega), fun a h1 _ => h.2 a h1⟩
theorem frD.L {w w' w'' : zW} (h : frD w w') (h' : frL w' w'') : frD w w'' := h.trans h'.D
theorem frD.up {w w' : zW} {k q : Nat} {v : Int32} (h : frD w w') (hk : k = 54 ∨ k = 50 ∧ (5 ≤ q ∧ q ≤ 8 ∨ 11 ≤ q ∧ q ≤ 16)) : frD w (z_up w' k q v) := by
  refine ⟨fun j hj => ?_, fun a h1 h2 => by rw [z_up_o (by omega)]; exact h.2 a h1 h2⟩
  rcases hk with e | ⟨e, hq⟩
  · rw [e, z_up_a (by decide)]; exact h.1 j hj
  · rw [e, z_up_i (by omega)]; exact h.1 j hj
theorem tpL.D {w w' : zW} {T : Nat} {t : Nat → Nat} (h : tpL w T t) (f : frD w w') : tpL w' T t := ⟨by rw [f.1 10 (by omega)]; exact h.1, h.2.1, fun i hi => by rw [f.2 55 (by decide) (by decide)]; exact h.2.2 i hi⟩
theorem dM.L {w w' : zW} {D : pD} (h : dM w D) (f : frL w w') : dM w' D := ⟨fun k hk => by rw [f.2 54 (by decide)]; exact h.1 k hk, by rw [f.1 5 (by omega)]; exact h.2.1, by rw [f.1 6 (by omega)]; exact h.2.2.1, by rw [f.1 7 (by omega)]; exact h.2.2.2.1, by rw [f.1 8 (by omega)]; exact h.2.2.2.2⟩
theorem dM.up {w : zW} {n l m x v : Nat} {K : Nat → Nat} (h : dM w (n, K, l, m)) (hx : x < 55) : dM (z_up w 54 x (nI v)) (n, un K x v, l, m) := by
  refine ⟨fun k hk => ?_, by rw [z_up_a (by decide)]; exact h.2.1, by rw [z_up_a (by decide)]; exact h.2.2.1, by rw [z_up_a (by decide)]; exact h.2.2.2.1, by rw [z_up_a (by decide)]; exact h.2.2.2.2⟩
  show _ = nI (un K x v k)
  by_cases e : k = x
  · rw [e, z_up_s, un_s]
  · rw [z_up_i e, un_n e]; exact h.1 k hk
theorem mT.up {w : zW} {k : tkT} {x : Nat} {v : Int32} (h : mT w k) : mT (z_up w 54 x v) k := by unfold mT at h ⊢; rw [z_up_o (show (50 : Nat) ≠ 54 by decide)]; exact h
theorem fF.up {w : zW} {e : Nat × Nat} {x : Nat} {v : Int32} (h : fF w e) : fF (z_up w 54 x v) e := by unfold fF at h ⊢; rw [z_up_o (show (50 : Nat) ≠ 54 by decide)]; exact h
theorem fF.up5 {w : zW} {e : Nat × Nat} {x : Nat} {v : Int32} (h : fF w e) (hx : 5 ≤ x ∧ x ≤ 8) : fF (z_up w 50 x v) e := by unfold fF at h ⊢; rw [z_up_i (by omega), z_up_i (by omega)]; exact h
theorem mT.up5 {w : zW} {k : tkT} {x : Nat} {v : Int32} (h : mT w k) (hx : 5 ≤ x ∧ x ≤ 8) : mT (z_up w 50 x v) k := by unfold mT at h ⊢; rw [z_up_i (by omega), z_up_i (by omega), z_up_i (by omega), z_up_i (by omega), z_up_i (by omega), z_up_i (by omega)]; exact h
/-- what a line's reading leaves -/
def mrs (T : Nat) (t : Nat → Nat) (r : sR (Nat × pD)) (w : zW) : Prop := match r with
  | .inl e => fF w e
  | .inr v => mT w (tok T t v.1) ∧ dM w v.2
theorem e16 {T : Nat} {e : Nat × Nat} (h : eV T e) : 1 ≤ e.1 ∧ e.1 ≤ 6 := ⟨h.1, h.2.1⟩
theorem cg_eq {T : Nat} {t : Nat → Nat} {k : tkT} (hk : tk_k k = 0) (ha : tk_a k ≤ T) : cgC T t k = (match cgN t k with | none => -4 | some c => nI c) := by
  unfold cgC cgN
  by_cases h7 : isN t k 7 = true
  · rw [if_pos ((isXN hk ha).mpr h7), if_pos h7]; rfl
  rw [if_neg (fun z => h7 ((isXN hk ha).mp z)), if_neg h7]
  by_cases h8 : isN t k 8 = true
  · rw [if_pos ((isXN hk ha).mpr h8), if_pos h8]; rfl
  rw [if_neg (fun z => h8 ((isXN hk ha).mp z)), if_neg h8]
  by_cases h9 : isN t k 9 = true
  · rw [if_pos ((isXN hk ha).mpr h9), if_pos h9]; rfl
  rw [if_neg (fun z => h9 ((isXN hk ha).mp z)), if_neg h9]
  by_cases h10 : isN t k 10 = true
  · rw [if_pos ((isXN hk ha).mpr h10), if_pos h10]; rfl
  rw [if_neg (fun z => h10 ((isXN hk ha).mp z)), if_neg h10]
theorem cg_k {t : Nat → Nat} {k : tkT} (hk : ¬ tk_k k = 0) : cgN t k = none := by
  have h : ∀ i, ¬ isN t k i = true := fun i z => hk (of_decide_eq_true z).1
  unfold cgN
  rw [if_neg (h 7), if_neg (h 8), if_neg (h 9), if_neg (h 10)]
theorem cg_r {T p : Nat} {t : Nat → Nat} {w : zW} {y : Int32} (hp : p ≤ T) (h : if tk_k (tok T t p) = 0 ∧ ¬ cgC T t (tok T t p) = -4 then cgC T t (tok T t p) = y ∧ mT w (tok T t (tk_a (tok T t p))) else fF w (bl (tok T t p) 2)) : match pCargo T t p with | .inl e => fF w e | .inr v => nI v.1 = y ∧ mT w (tok T t v.2) := by
  have hta := tok_T (t := t) hp
  unfold pCargo
  by_cases h0 : tk_k (tok T t p) = 0
  · rw [cg_eq h0 hta.1] at h
    cases e : cgN t (tok T t p) with
    | none => rw [e] at h; rw [if_neg (fun z => z.2 rfl)] at h; exact h
    | some c =>
      rw [e] at h
      have hc := cgN_lt e
      rw [if_pos ⟨h0, nI_m4 (by omega)⟩] at h
      exact h
  · rw [if_neg (fun z => h0 z.1)] at h
    rw [cg_k h0]
    exact h
theorem lw_eq {T : Nat} {t : Nat → Nat} {k : tkT} (hk : tk_k k = 0) (ha : tk_a k ≤ T) : lwC T t k = (match lwN t k with | none => -4 | some c => nI c) := by
  unfold lwC lwN
  by_cases h11 : isN t k 11 = true
  · rw [if_pos ((isXN hk ha).mpr h11), if_pos h11]; rfl
  rw [if_neg (fun z => h11 ((isXN hk ha).mp z)), if_neg h11]
  by_cases h12 : isN t k 12 = true
  · rw [if_pos ((isXN hk ha).mpr h12), if_pos h12]; rfl
  rw [if_neg (fun z => h12 ((isXN hk ha).mp z)), if_neg h12]
  by_cases h13 : isN t k 13 = true
  · rw [if_pos ((isXN hk ha).mpr h13), if_pos h13]; rfl
  rw [if_neg (fun z => h13 ((isXN hk ha).mp z)), if_neg h13]
  by_cases h14 : isN t k 14 = true
  · rw [if_pos ((isXN hk ha).mpr h14), if_pos h14]; rfl
  rw [if_neg (fun z => h14 ((isXN hk ha).mp z)), if_neg h14]
  by_cases h15 : isN t k 15 = true
  · rw [if_pos ((isXN hk ha).mpr h15), if_pos h15]; rfl
  rw [if_neg (fun z => h15 ((isXN hk ha).mp z)), if_neg h15]
theorem lw_k {t : Nat → Nat} {k : tkT} (hk : ¬ tk_k k = 0) : lwN t k = none := by
  have h : ∀ i, ¬ isN t k i = true := fun i z => hk (of_decide_eq_true z).1
  unfold lwN
  rw [if_neg (h 11), if_neg (h 12), if_neg (h 13), if_neg (h 14), if_neg (h 15)]
theorem lw_r {T p : Nat} {t : Nat → Nat} {w : zW} {y : Int32} (hp : p ≤ T) (h : if tk_k (tok T t p) = 0 ∧ ¬ lwC T t (tok T t p) = -4 then lwC T t (tok T t p) = y ∧ mT w (tok T t (tk_a (tok T t p))) else fF w (bl (tok T t p) 2)) : match pLaw T t p with | .inl e => fF w e | .inr v => nI v.1 = y ∧ mT w (tok T t v.2) := by
  have hta := tok_T (t := t) hp
  unfold pLaw
  by_cases h0 : tk_k (tok T t p) = 0
  · rw [lw_eq h0 hta.1] at h
    cases e : lwN t (tok T t p) with
    | none => rw [e] at h; rw [if_neg (fun z => z.2 rfl)] at h; exact h
    | some c =>
      rw [e] at h
      have hc := lwN_lt e
      rw [if_pos ⟨h0, nI_m4 (by omega)⟩] at h
      exact h
  · rw [if_neg (fun z => h0 z.1)] at h
    rw [lw_k h0]
    exact h
set_option maxRecDepth 20000 in
set_option maxHeartbeats 4000000 in
theorem m_rlLock {d T p : Nat} {t : Nat → Nat} {w : zW} {n l m : Nat} {K : Nat → Nat} (hd : 5 ≤ d) (hT : tpL w T t) (hp : p ≤ T) (hk : mT w (tok T t p)) (h4 : tk_k (tok T t p) ≠ 4) (hD : dM w (n, K, l, m)) : CT mX7_readLineOf d [.ref 50, .int 2] w (z_v fun w' => frD w w' ∧ mrs T t (sB (pRules T t 3 0 p K) (pK (n, K, l, m))) w') := by
  have sp : pRules T t 3 0 p K = sB (pNum T t p 1 9) (fun x => sB (pNum T t x.2 0 9) fun y => sB (pNum T t y.2 0 1) fun z => .inr (z.2, un (un (un K 0 x.1) 1 y.1) 2 z.1)) := rfl
  refine CT.of [some (.ref 50), some (.int 2)] rfl (Nat.le_of_ble_eq_true rfl) rfl ?_
  refine r_iload_n 1 dX7_readLineOf_0 rfl rfl ?_
  refine r_tin 36 dX7_readLineOf_1 (by decide) (by decide) rfl (by decide) ?_
  refine r_aload_n 37 dX7_readLineOf_36 rfl rfl ?_
  refine r_getr 40 dX7_readLineOf_37 fz_X7_20 sh_50 rfl rfl ?_
  refine r_iconst 41 (v := 0) dX7_readLineOf_40 (by decide) rfl ?_
  refine r_aload_n 42 dX7_readLineOf_41 rfl rfl ?_
  refine r_iconst 43 (v := 1) dX7_readLineOf_42 (by decide) rfl ?_
  refine r_bipush 45 (v := 9) dX7_readLineOf_43 (by decide) rfl ?_
  have hT0 := hT.D frD.rfl
  refine r_callV (y2 := mX7_readNumber) (as := [_, _]) 48 dX7_readLineOf_45 ml_X7_137 mv_X7_readNumber (m_readNumber (d := d - 1) (lo := 1) (hi := 9) (by omega) (by decide) (by decide) hT0 hp hk) (by omega) sh_50 ⟨_, rfl, rfl⟩ rfl (Nat.le_of_ble_eq_true rfl) rfl (kk_i ?_)
  rintro x0 wa0 ⟨hf1, hr⟩
  have fD1 := frD.rfl.L hf1
  rcases hc0 : pNum T t p 1 9 with er | v0
  · rw [hc0] at hr
    have hev := e16 (pNum_e hp hc0)
    refine rj_iast 49 (0) dX7_readLineOf_48 sh_54 (rfl) (by decide) (by decide) rfl ?_
    refine r_nw (fun wx0 ewx0 => ?_)
    have hr_wx0 : fF wx0 er := by rw [ewx0]; exact hr.up
    have fD_wx0 : frD w wx0 := by rw [ewx0]; exact fD1.up (Or.inl rfl)
    refine r_aload_n 50 dX7_readLineOf_49 rfl rfl ?_
    refine r_getr 53 dX7_readLineOf_50 fz_X7_20 sh_50 rfl rfl ?_
    refine r_iconst 54 (v := 1) dX7_readLineOf_53 (by decide) rfl ?_
    refine r_aload_n 55 dX7_readLineOf_54 rfl rfl ?_
    refine r_iconst 56 (v := 0) dX7_readLineOf_55 (by decide) rfl ?_
    refine r_bipush 58 (v := 9) dX7_readLineOf_56 (by decide) rfl ?_
    refine r_callV (y2 := mX7_readNumber) (as := [_, _]) 61 dX7_readLineOf_58 ml_X7_137 mv_X7_readNumber (m_readNumF (d := d - 1) (by omega) hev hr_wx0.1) (by omega) sh_50 ⟨_, rfl, rfl⟩ rfl (Nat.le_of_ble_eq_true rfl) rfl (kk_i ?_)
    rintro y1 _ rfl
    refine rj_iast 62 (1) dX7_readLineOf_61 sh_54 (rfl) (by decide) (by decide) rfl ?_
    refine r_nw (fun wx1 ewx1 => ?_)
    have hr_wx1 : fF wx1 er := by rw [ewx1]; exact hr_wx0.up
    have fD_wx1 : frD w wx1 := by rw [ewx1]; exact fD_wx0.up (Or.inl rfl)
    refine r_aload_n 63 dX7_readLineOf_62 rfl rfl ?_
    refine r_getr 66 dX7_readLineOf_63 fz_X7_20 sh_50 rfl rfl ?_
    refine r_iconst 67 (v := 2) dX7_readLineOf_66 (by decide) rfl ?_
    refine r_aload_n 68 dX7_readLineOf_67 rfl rfl ?_
    refine r_iconst 69 (v := 0) dX7_readLineOf_68 (by decide) rfl ?_
    refine r_iconst 70 (v := 1) dX7_readLineOf_69 (by decide) rfl ?_
    refine r_callV (y2 := mX7_readNumber) (as := [_, _]) 73 dX7_readLineOf_70 ml_X7_137 mv_X7_readNumber (m_readNumF (d := d - 1) (by omega) hev hr_wx1.1) (by omega) sh_50 ⟨_, rfl, rfl⟩ rfl (Nat.le_of_ble_eq_true rfl) rfl (kk_i ?_)
    rintro y2 _ rfl
    refine rj_iast 74 (2) dX7_readLineOf_73 sh_54 (rfl) (by decide) (by decide) rfl ?_
    refine r_nw (fun wx2 ewx2 => ?_)
    have hr_wx2 : fF wx2 er := by rw [ewx2]; exact hr_wx1.up
    have fD_wx2 : frD w wx2 := by rw [ewx2]; exact fD_wx1.up (Or.inl rfl)
    refine r_goto 132 dX7_readLineOf_74 (by decide) ?_
    exact r_vret dX7_readLineOf_132 rfl (⟨fD_wx2, by rw [sp]; rw [hc0]; exact hr_wx2⟩)
  rw [hc0] at hr
  obtain ⟨rfl, hk0⟩ := hr
  have fDa0 := fD1
  have hD0a := hD.L hf1
  have hp0 := (pNum_a hp hc0).2
  refine rj_iast 49 (0) dX7_readLineOf_48 sh_54 (rfl) (by decide) (by decide) rfl ?_
  refine r_nw (fun wb0 ewb0 => ?_)
  have fD0b : frD w wb0 := by rw [ewb0]; exact fDa0.up (Or.inl rfl)
  have hD0b := hD0a.up (x := 0) (v := v0.1) (by omega)
  rw [← ewb0] at hD0b
  have hk0b : mT wb0 (tok T t v0.2) := by rw [ewb0]; exact hk0.up
  refine r_aload_n 50 dX7_readLineOf_49 rfl rfl ?_
  refine r_getr 53 dX7_readLineOf_50 fz_X7_20 sh_50 rfl rfl ?_
  refine r_iconst 54 (v := 1) dX7_readLineOf_53 (by decide) rfl ?_
  refine r_aload_n 55 dX7_readLineOf_54 rfl rfl ?_
  refine r_iconst 56 (v := 0) dX7_readLineOf_55 (by decide) rfl ?_
  refine r_bipush 58 (v := 9) dX7_readLineOf_56 (by decide) rfl ?_
  have hT1 := hT.D fD0b
  refine r_callV (y2 := mX7_readNumber) (as := [_, _]) 61 dX7_readLineOf_58 ml_X7_137 mv_X7_readNumber (m_readNumber (d := d - 1) (lo := 0) (hi := 9) (by omega) (by decide) (by decide) hT1 hp0 hk0b) (by omega) sh_50 ⟨_, rfl, rfl⟩ rfl (Nat.le_of_ble_eq_true rfl) rfl (kk_i ?_)
  rintro x1 wa1 ⟨hf1, hr⟩
  have fD1 := fD0b.L hf1
  rcases hc1 : pNum T t v0.2 0 9 with er | v1
  · rw [hc1] at hr
    have hev := e16 (pNum_e hp0 hc1)
    refine rj_iast 62 (1) dX7_readLineOf_61 sh_54 (rfl) (by decide) (by decide) rfl ?_
    refine r_nw (fun wx1 ewx1 => ?_)
    have hr_wx1 : fF wx1 er := by rw [ewx1]; exact hr.up
    have fD_wx1 : frD w wx1 := by rw [ewx1]; exact fD1.up (Or.inl rfl)
    refine r_aload_n 63 dX7_readLineOf_62 rfl rfl ?_
    refine r_getr 66 dX7_readLineOf_63 fz_X7_20 sh_50 rfl rfl ?_
    refine r_iconst 67 (v := 2) dX7_readLineOf_66 (by decide) rfl ?_
    refine r_aload_n 68 dX7_readLineOf_67 rfl rfl ?_
    refine r_iconst 69 (v := 0) dX7_readLineOf_68 (by decide) rfl ?_
    refine r_iconst 70 (v := 1) dX7_readLineOf_69 (by decide) rfl ?_
    refine r_callV (y2 := mX7_readNumber) (as := [_, _]) 73 dX7_readLineOf_70 ml_X7_137 mv_X7_readNumber (m_readNumF (d := d - 1) (by omega) hev hr_wx1.1) (by omega) sh_50 ⟨_, rfl, rfl⟩ rfl (Nat.le_of_ble_eq_true rfl) rfl (kk_i ?_)
    rintro y2 _ rfl
    refine rj_iast 74 (2) dX7_readLineOf_73 sh_54 (rfl) (by decide) (by decide) rfl ?_
    refine r_nw (fun wx2 ewx2 => ?_)
    have hr_wx2 : fF wx2 er := by rw [ewx2]; exact hr_wx1.up
    have fD_wx2 : frD w wx2 := by rw [ewx2]; exact fD_wx1.up (Or.inl rfl)
    refine r_goto 132 dX7_readLineOf_74 (by decide) ?_
    exact r_vret dX7_readLineOf_132 rfl (⟨fD_wx2, by rw [sp]; rw [hc0]; show mrs T t (sB (sB (pNum T t v0.2 0 9) fun y => sB (pNum T t y.2 0 1) fun z => .inr (z.2, un (un (un K 0 v0.1) 1 y.1) 2 z.1)) (pK (n, K, l, m))) _; rw [hc1]; exact hr_wx2⟩)
  rw [hc1] at hr
  obtain ⟨rfl, hk1⟩ := hr
  have fDa1 := fD1
  have hD1a := hD0b.L hf1
  have hp1 := (pNum_a hp0 hc1).2
  refine rj_iast 62 (1) dX7_readLineOf_61 sh_54 (rfl) (by decide) (by decide) rfl ?_
  refine r_nw (fun wb1 ewb1 => ?_)
  have fD1b : frD w wb1 := by rw [ewb1]; exact fDa1.up (Or.inl rfl)
  have hD1b := hD1a.up (x := 1) (v := v1.1) (by omega)
  rw [← ewb1] at hD1b
  have hk1b : mT wb1 (tok T t v1.2) := by rw [ewb1]; exact hk1.up
  refine r_aload_n 63 dX7_readLineOf_62 rfl rfl ?_
  refine r_getr 66 dX7_readLineOf_63 fz_X7_20 sh_50 rfl rfl ?_
  refine r_iconst 67 (v := 2) dX7_readLineOf_66 (by decide) rfl ?_
  refine r_aload_n 68 dX7_readLineOf_67 rfl rfl ?_
  refine r_iconst 69 (v := 0) dX7_readLineOf_68 (by decide) rfl ?_
  refine r_iconst 70 (v := 1) dX7_readLineOf_69 (by decide) rfl ?_
  have hT2 := hT.D fD1b
  refine r_callV (y2 := mX7_readNumber) (as := [_, _]) 73 dX7_readLineOf_70 ml_X7_137 mv_X7_readNumber (m_readNumber (d := d - 1) (lo := 0) (hi := 1) (by omega) (by decide) (by decide) hT2 hp1 hk1b) (by omega) sh_50 ⟨_, rfl, rfl⟩ rfl (Nat.le_of_ble_eq_true rfl) rfl (kk_i ?_)
  rintro x2 wa2 ⟨hf1, hr⟩
  have fD1 := fD1b.L hf1
  rcases hc2 : pNum T t v1.2 0 1 with er | v2
  · rw [hc2] at hr
    have hev := e16 (pNum_e hp1 hc2)
    refine rj_iast 74 (2) dX7_readLineOf_73 sh_54 (rfl) (by decide) (by decide) rfl ?_
    refine r_nw (fun wx2 ewx2 => ?_)
    have hr_wx2 : fF wx2 er := by rw [ewx2]; exact hr.up
    have fD_wx2 : frD w wx2 := by rw [ewx2]; exact fD1.up (Or.inl rfl)
    refine r_goto 132 dX7_readLineOf_74 (by decide) ?_
    exact r_vret dX7_readLineOf_132 rfl (⟨fD_wx2, by rw [sp]; rw [hc0]; show mrs T t (sB (sB (pNum T t v0.2 0 9) fun y => sB (pNum T t y.2 0 1) fun z => .inr (z.2, un (un (un K 0 v0.1) 1 y.1) 2 z.1)) (pK (n, K, l, m))) _; rw [hc1]; show mrs T t (sB (sB (pNum T t v1.2 0 1) fun z => .inr (z.2, un (un (un K 0 v0.1) 1 v1.1) 2 z.1)) (pK (n, K, l, m))) _; rw [hc2]; exact hr_wx2⟩)
  rw [hc2] at hr
  obtain ⟨rfl, hk2⟩ := hr
  have fDa2 := fD1
  have hD2a := hD1b.L hf1
  have hp2 := (pNum_a hp1 hc2).2
  refine rj_iast 74 (2) dX7_readLineOf_73 sh_54 (rfl) (by decide) (by decide) rfl ?_
  refine r_nw (fun wb2 ewb2 => ?_)
  have fD2b : frD w wb2 := by rw [ewb2]; exact fDa2.up (Or.inl rfl)
  have hD2b := hD2a.up (x := 2) (v := v2.1) (by omega)
  rw [← ewb2] at hD2b
  have hk2b : mT wb2 (tok T t v2.2) := by rw [ewb2]; exact hk2.up
  refine r_goto 132 dX7_readLineOf_74 (by decide) ?_
  exact r_vret dX7_readLineOf_132 rfl (⟨fD2b, by rw [sp, hc0]; show mrs T t (sB (sB (pNum T t v0.2 0 9) fun y => sB (pNum T t y.2 0 1) fun z => .inr (z.2, un (un (un K 0 v0.1) 1 y.1) 2 z.1)) (pK (n, K, l, m))) _; rw [hc1]; show mrs T t (sB (sB (pNum T t v1.2 0 1) fun z => .inr (z.2, un (un (un K 0 v0.1) 1 v1.1) 2 z.1)) (pK (n, K, l, m))) _; rw [hc2]; exact ⟨hk2b, hD2b⟩⟩)
set_option maxRecDepth 20000 in
set_option maxHeartbeats 4000000 in
theorem m_rlPost {d T p : Nat} {t : Nat → Nat} {w : zW} {n l m : Nat} {K : Nat → Nat} (hd : 5 ≤ d) (hT : tpL w T t) (hp : p ≤ T) (hk : mT w (tok T t p)) (h4 : tk_k (tok T t p) ≠ 4) (hD : dM w (n, K, l, m)) : CT mX7_readLineOf d [.ref 50, .int 4] w (z_v fun w' => frD w w' ∧ mrs T t (sB (pRules T t 1 4 p K) (pK (n, K, l, m))) w') := by
  have sp : pRules T t 1 4 p K = sB (pNum T t p 0 9) (fun x => .inr (x.2, un K 4 x.1)) := rfl
  refine CT.of [some (.ref 50), some (.int 4)] rfl (Nat.le_of_ble_eq_true rfl) rfl ?_
  refine r_iload_n 1 dX7_readLineOf_0 rfl rfl ?_
  refine r_tin 94 dX7_readLineOf_1 (by decide) (by decide) rfl (by decide) ?_
  refine r_aload_n 95 dX7_readLineOf_94 rfl rfl ?_
  refine r_getr 98 dX7_readLineOf_95 fz_X7_20 sh_50 rfl rfl ?_
  refine r_iconst 99 (v := 4) dX7_readLineOf_98 (by decide) rfl ?_
  refine r_aload_n 100 dX7_readLineOf_99 rfl rfl ?_
  refine r_iconst 101 (v := 0) dX7_readLineOf_100 (by decide) rfl ?_
  refine r_bipush 103 (v := 9) dX7_readLineOf_101 (by decide) rfl ?_
  have hT0 := hT.D frD.rfl
  refine r_callV (y2 := mX7_readNumber) (as := [_, _]) 106 dX7_readLineOf_103 ml_X7_137 mv_X7_readNumber (m_readNumber (d := d - 1) (lo := 0) (hi := 9) (by omega) (by decide) (by decide) hT0 hp hk) (by omega) sh_50 ⟨_, rfl, rfl⟩ rfl (Nat.le_of_ble_eq_true rfl) rfl (kk_i ?_)
  rintro x0 wa0 ⟨hf1, hr⟩
  have fD1 := frD.rfl.L hf1
  rcases hc0 : pNum T t p 0 9 with er | v0
  · rw [hc0] at hr
    have hev := e16 (pNum_e hp hc0)
    refine rj_iast 107 (4) dX7_readLineOf_106 sh_54 (rfl) (by decide) (by decide) rfl ?_
    refine r_nw (fun wx0 ewx0 => ?_)
    have hr_wx0 : fF wx0 er := by rw [ewx0]; exact hr.up
    have fD_wx0 : frD w wx0 := by rw [ewx0]; exact fD1.up (Or.inl rfl)
    refine r_goto 132 dX7_readLineOf_107 (by decide) ?_
    exact r_vret dX7_readLineOf_132 rfl (⟨fD_wx0, by rw [sp]; rw [hc0]; exact hr_wx0⟩)
  rw [hc0] at hr
  obtain ⟨rfl, hk0⟩ := hr
  have fDa0 := fD1
  have hD0a := hD.L hf1
  have hp0 := (pNum_a hp hc0).2
  refine rj_iast 107 (4) dX7_readLineOf_106 sh_54 (rfl) (by decide) (by decide) rfl ?_
  refine r_nw (fun wb0 ewb0 => ?_)
  have fD0b : frD w wb0 := by rw [ewb0]; exact fDa0.up (Or.inl rfl)
  have hD0b := hD0a.up (x := 4) (v := v0.1) (by omega)
  rw [← ewb0] at hD0b
  have hk0b : mT wb0 (tok T t v0.2) := by rw [ewb0]; exact hk0.up
  refine r_goto 132 dX7_readLineOf_107 (by decide) ?_
  exact r_vret dX7_readLineOf_132 rfl (⟨fD0b, by rw [sp, hc0]; exact ⟨hk0b, hD0b⟩⟩)
set_option maxRecDepth 20000 in
set_option maxHeartbeats 4000000 in
theorem m_rlLaw {d T p : Nat} {t : Nat → Nat} {w : zW} {n l m : Nat} {K : Nat → Nat} (hd : 5 ≤ d) (hT : tpL w T t) (hp : p ≤ T) (hk : mT w (tok T t p)) (h4 : tk_k (tok T t p) ≠ 4) (hD : dM w (n, K, l, m)) : CT mX7_readLineOf d [.ref 50, .int 3] w (z_v fun w' => frD w w' ∧ mrs T t (sB (pLaw T t p) fun x => pK (n, K, l, m) (x.2, un K 3 x.1)) w') := by
  refine CT.of [some (.ref 50), some (.int 3)] rfl (Nat.le_of_ble_eq_true rfl) rfl ?_
  refine r_iload_n 1 dX7_readLineOf_0 rfl rfl ?_
  refine r_tin 77 dX7_readLineOf_1 (by decide) (by decide) rfl (by decide) ?_
  refine r_aload_n 78 dX7_readLineOf_77 rfl rfl ?_
  refine r_getr 81 dX7_readLineOf_78 fz_X7_20 sh_50 rfl rfl ?_
  refine r_iconst 82 (v := 3) dX7_readLineOf_81 (by decide) rfl ?_
  refine r_aload_n 83 dX7_readLineOf_82 rfl rfl ?_
  refine r_aload_n 84 dX7_readLineOf_83 rfl rfl ?_
  have hTn := hT.D frD.rfl
  refine r_callV (y2 := mX7_lawNow) (as := []) 87 dX7_readLineOf_84 ml_X7_140 mv_X7_lawNow (m_lawNow (d := d - 1) (k := tok T t p) (by omega) hTn hk.1 (hk.2.2 h4).2.2.1 (tok_T hp).2.2 (by have := (tok_T (t := t) hp).1; have := hT.2.1; omega)) (by omega) sh_50 ⟨_, rfl, rfl⟩ rfl (Nat.le_of_ble_eq_true rfl) rfl (kk_i ?_)
  rintro _ _ ⟨rfl, rfl⟩
  have hT0 := hT.D frD.rfl
  refine r_callV (y2 := mX7_readName) (as := [_]) 90 dX7_readLineOf_87 ml_X7_134 mv_X7_readName (m_readName (d := d - 1) (by omega) hT0 hp hk h4) (by omega) sh_50 ⟨_, rfl, rfl⟩ rfl (Nat.le_of_ble_eq_true rfl) rfl (kk_i ?_)
  rintro x0 wa0 ⟨hf1, hr⟩
  have fD1 := frD.rfl.L hf1
  have hr := lw_r hp hr
  rcases hc0 : pLaw T t p with er | v0
  · rw [hc0] at hr
    have hev := e16 (pLaw_e hp hc0)
    refine rj_iast 91 (3) dX7_readLineOf_90 sh_54 (rfl) (by decide) (by decide) rfl ?_
    refine r_nw (fun wx0 ewx0 => ?_)
    have hr_wx0 : fF wx0 er := by rw [ewx0]; exact hr.up
    have fD_wx0 : frD w wx0 := by rw [ewx0]; exact fD1.up (Or.inl rfl)
    refine r_goto 132 dX7_readLineOf_91 (by decide) ?_
    exact r_vret dX7_readLineOf_132 rfl (⟨fD_wx0, hr_wx0⟩)
  rw [hc0] at hr
  obtain ⟨rfl, hk0⟩ := hr
  have fDa0 := fD1
  have hD0a := hD.L hf1
  have hp0 := (pLaw_a hp hc0).2.2
  refine rj_iast 91 (3) dX7_readLineOf_90 sh_54 (rfl) (by decide) (by decide) rfl ?_
  refine r_nw (fun wb0 ewb0 => ?_)
  have fD0b : frD w wb0 := by rw [ewb0]; exact fDa0.up (Or.inl rfl)
  have hD0b := hD0a.up (x := 3) (v := v0.1) (by omega)
  rw [← ewb0] at hD0b
  have hk0b : mT wb0 (tok T t v0.2) := by rw [ewb0]; exact hk0.up
  refine r_goto 132 dX7_readLineOf_91 (by decide) ?_
  exact r_vret dX7_readLineOf_132 rfl (⟨fD0b, ⟨hk0b, hD0b⟩⟩)
set_option maxRecDepth 20000 in
set_option maxHeartbeats 4000000 in
theorem m_rlHand {d T p : Nat} {t : Nat → Nat} {w : zW} {n l m : Nat} {K : Nat → Nat} (hd : 5 ≤ d) (hT : tpL w T t) (hp : p ≤ T) (hk : mT w (tok T t p)) (h4 : tk_k (tok T t p) ≠ 4) (hD : dM w (n, K, l, m)) : CT mX7_readLineOf d [.ref 50, .int 5] w (z_v fun w' => frD w w' ∧ mrs T t (pK (n, K, l, m) (p, un K 5 1)) w') := by
  refine CT.of [some (.ref 50), some (.int 5)] rfl (Nat.le_of_ble_eq_true rfl) rfl ?_
  refine r_iload_n 1 dX7_readLineOf_0 rfl rfl ?_
  refine r_tin 110 dX7_readLineOf_1 (by decide) (by decide) rfl (by decide) ?_
  refine r_aload_n 111 dX7_readLineOf_110 rfl rfl ?_
  refine r_getr 114 dX7_readLineOf_111 fz_X7_20 sh_50 rfl rfl ?_
  refine r_iconst 115 (v := 5) dX7_readLineOf_114 (by decide) rfl ?_
  refine r_iconst 116 (v := 1) dX7_readLineOf_115 (by decide) rfl ?_
  refine rj_iast 117 (5) dX7_readLineOf_116 sh_54 (rfl) (by decide) (by decide) rfl ?_
  refine r_nw (fun w1 e1 => ?_)
  refine r_goto 132 dX7_readLineOf_117 (by decide) ?_
  exact r_vret dX7_readLineOf_132 rfl (⟨by rw [e1]; exact frD.rfl.up (Or.inl rfl), by rw [e1]; exact ⟨hk.up, hD.up (by decide)⟩⟩)
set_option maxRecDepth 20000 in
set_option maxHeartbeats 4000000 in
theorem m_readBoat {d T p : Nat} {t : Nat → Nat} {w : zW} {n l m : Nat} {K : Nat → Nat} {sd : Nat} (hd : 4 ≤ d) (hn : n < 6) (hT : tpL w T t) (hp : p ≤ T) (hk : mT w (tok T t p)) (h4 : tk_k (tok T t p) ≠ 4) (hD : dM w (n, K, l, m)) : CT mX7_readBoat d [.ref 50, .int (nI sd)] w (z_v fun w' => frD w w' ∧ mrs T t (sB (pCargo T t p) fun x => sB (pMarks T t n 3 2 x.2 (un (un K (6 + 6 * n) sd) (6 + 6 * n + 1) x.1)) fun y => .inr (y.1, (n + 1, y.2, l, m))) w') := by
  refine CT.of [some (.ref 50), some (.int (nI sd)), none] rfl (Nat.le_of_ble_eq_true rfl) rfl ?_
  refine r_bipush 2 (v := 6) dX7_readBoat_0 (by decide) rfl ?_
  refine r_bipush 4 (v := 6) dX7_readBoat_2 (by decide) rfl ?_
  refine r_aload_n 5 dX7_readBoat_4 rfl rfl ?_
  refine r_geti 8 dX7_readBoat_5 fz_X7_56 sh_50 rfl rfl ?_
  refine r_imul 9 dX7_readBoat_8 rfl ?_
  refine r_eq (z := nI (6 * n)) (by rw [hD.2.1]; exact nI_mul 6 n) ?_
  refine r_iadd 10 dX7_readBoat_9 rfl ?_
  refine r_eq (z := nI (6 + 6 * n)) (nI_add 6 _) ?_
  refine r_istore_n 11 (L' := [_, _, _]) dX7_readBoat_10 (by decide) rfl rfl rfl ?_
  refine r_aload_n 12 dX7_readBoat_11 rfl rfl ?_
  refine r_getr 15 dX7_readBoat_12 fz_X7_20 sh_50 rfl rfl ?_
  refine r_iload_n 16 dX7_readBoat_15 rfl rfl ?_
  refine r_iconst 17 (v := 0) dX7_readBoat_16 (by decide) rfl ?_
  refine r_iadd 18 dX7_readBoat_17 rfl ?_
  refine r_eq (Int32.add_zero _) ?_
  refine r_iload_n 19 dX7_readBoat_18 rfl rfl ?_
  refine rj_iast 20 (6 + 6 * n) dX7_readBoat_19 sh_54 (rfl) (by omega) (by decide) rfl ?_
  refine r_nw (fun w0 e0 => ?_)
  have fD0 : frD w w0 := by rw [e0]; exact frD.rfl.up (Or.inl rfl)
  have hD0 := hD.up (x := 6 + 6 * n) (v := sd) (by omega)
  rw [← e0] at hD0
  have hk0 : mT w0 (tok T t p) := by rw [e0]; exact hk.up
  refine r_aload_n 21 dX7_readBoat_20 rfl rfl ?_
  refine r_getr 24 dX7_readBoat_21 fz_X7_20 sh_50 rfl rfl ?_
  refine r_iload_n 25 dX7_readBoat_24 rfl rfl ?_
  refine r_iconst 26 (v := 1) dX7_readBoat_25 (by decide) rfl ?_
  refine r_iadd 27 dX7_readBoat_26 rfl ?_
  refine r_eq (z := nI (6 + 6 * n + 1)) (nI_1 _) ?_
  refine r_aload_n 28 dX7_readBoat_27 rfl rfl ?_
  refine r_aload_n 29 dX7_readBoat_28 rfl rfl ?_
  have hTn := hT.D fD0
  refine r_callV (y2 := mX7_cargoNow) (as := []) 32 dX7_readBoat_29 ml_X7_130 mv_X7_cargoNow (m_cargoNow (d := d - 1) (k := tok T t p) (by omega) hTn hk0.1 (hk0.2.2 h4).2.2.1 (tok_T hp).2.2 (by have := (tok_T (t := t) hp).1; have := hT.2.1; omega)) (by omega) sh_50 ⟨_, rfl, rfl⟩ rfl (Nat.le_of_ble_eq_true rfl) rfl (kk_i ?_)
  rintro _ _ ⟨rfl, rfl⟩
  have hT0 := hT.D fD0
  refine r_callV (y2 := mX7_readName) (as := [_]) 35 dX7_readBoat_32 ml_X7_134 mv_X7_readName (m_readName (d := d - 1) (by omega) hT0 hp hk0 h4) (by omega) sh_50 ⟨_, rfl, rfl⟩ rfl (Nat.le_of_ble_eq_true rfl) rfl (kk_i ?_)
  rintro x0 wa0 ⟨hf1, hr⟩
  have fD1 := fD0.L hf1
  have hr := cg_r hp hr
  rcases hc0 : pCargo T t p with er | v0
  · rw [hc0] at hr
    have hev := e16 (pCargo_e hp hc0)
    refine rj_iast 36 (6 + 6 * n + 1) dX7_readBoat_35 sh_54 (rfl) (by omega) (by decide) rfl ?_
    refine r_nw (fun wx0 ewx0 => ?_)
    have hr_wx0 : fF wx0 er := by rw [ewx0]; exact hr.up
    have fD_wx0 : frD w wx0 := by rw [ewx0]; exact fD1.up (Or.inl rfl)
    refine r_aload_n 37 dX7_readBoat_36 rfl rfl ?_
    refine r_getr 40 dX7_readBoat_37 fz_X7_20 sh_50 rfl rfl ?_
    refine r_iload_n 41 dX7_readBoat_40 rfl rfl ?_
    refine r_iconst 42 (v := 2) dX7_readBoat_41 (by decide) rfl ?_
    refine r_iadd 43 dX7_readBoat_42 rfl ?_
    refine r_eq (z := nI (6 + 6 * n + 2)) (nI_add _ 2) ?_
    refine r_aload_n 44 dX7_readBoat_43 rfl rfl ?_
    refine r_iconst 45 (v := 0) dX7_readBoat_44 (by decide) rfl ?_
    refine r_bipush 47 (v := 99) dX7_readBoat_45 (by decide) rfl ?_
    refine r_callV (y2 := mX7_readNumber) (as := [_, _]) 50 dX7_readBoat_47 ml_X7_137 mv_X7_readNumber (m_readNumF (d := d - 1) (by omega) hev hr_wx0.1) (by omega) sh_50 ⟨_, rfl, rfl⟩ rfl (Nat.le_of_ble_eq_true rfl) rfl (kk_i ?_)
    rintro y1 _ rfl
    refine rj_iast 51 (6 + 6 * n + 2) dX7_readBoat_50 sh_54 (rfl) (by omega) (by decide) rfl ?_
    refine r_nw (fun wx1 ewx1 => ?_)
    have hr_wx1 : fF wx1 er := by rw [ewx1]; exact hr_wx0.up
    have fD_wx1 : frD w wx1 := by rw [ewx1]; exact fD_wx0.up (Or.inl rfl)
    refine r_aload_n 52 dX7_readBoat_51 rfl rfl ?_
    refine r_getr 55 dX7_readBoat_52 fz_X7_20 sh_50 rfl rfl ?_
    refine r_iload_n 56 dX7_readBoat_55 rfl rfl ?_
    refine r_iconst 57 (v := 3) dX7_readBoat_56 (by decide) rfl ?_
    refine r_iadd 58 dX7_readBoat_57 rfl ?_
    refine r_eq (z := nI (6 + 6 * n + 3)) (nI_add _ 3) ?_
    refine r_aload_n 59 dX7_readBoat_58 rfl rfl ?_
    refine r_iconst 60 (v := 0) dX7_readBoat_59 (by decide) rfl ?_
    refine r_bipush 62 (v := 9) dX7_readBoat_60 (by decide) rfl ?_
    refine r_callV (y2 := mX7_readNumber) (as := [_, _]) 65 dX7_readBoat_62 ml_X7_137 mv_X7_readNumber (m_readNumF (d := d - 1) (by omega) hev hr_wx1.1) (by omega) sh_50 ⟨_, rfl, rfl⟩ rfl (Nat.le_of_ble_eq_true rfl) rfl (kk_i ?_)
    rintro y2 _ rfl
    refine rj_iast 66 (6 + 6 * n + 3) dX7_readBoat_65 sh_54 (rfl) (by omega) (by decide) rfl ?_
    refine r_nw (fun wx2 ewx2 => ?_)
    have hr_wx2 : fF wx2 er := by rw [ewx2]; exact hr_wx1.up
    have fD_wx2 : frD w wx2 := by rw [ewx2]; exact fD_wx1.up (Or.inl rfl)
    refine r_aload_n 67 dX7_readBoat_66 rfl rfl ?_
    refine r_getr 70 dX7_readBoat_67 fz_X7_20 sh_50 rfl rfl ?_
    refine r_iload_n 71 dX7_readBoat_70 rfl rfl ?_
    refine r_iconst 72 (v := 4) dX7_readBoat_71 (by decide) rfl ?_
    refine r_iadd 73 dX7_readBoat_72 rfl ?_
    refine r_eq (z := nI (6 + 6 * n + 4)) (nI_add _ 4) ?_
    refine r_aload_n 74 dX7_readBoat_73 rfl rfl ?_
    refine r_iconst 75 (v := 0) dX7_readBoat_74 (by decide) rfl ?_
    refine r_bipush 77 (v := 9) dX7_readBoat_75 (by decide) rfl ?_
    refine r_callV (y2 := mX7_readNumber) (as := [_, _]) 80 dX7_readBoat_77 ml_X7_137 mv_X7_readNumber (m_readNumF (d := d - 1) (by omega) hev hr_wx2.1) (by omega) sh_50 ⟨_, rfl, rfl⟩ rfl (Nat.le_of_ble_eq_true rfl) rfl (kk_i ?_)
    rintro y3 _ rfl
    refine rj_iast 81 (6 + 6 * n + 4) dX7_readBoat_80 sh_54 (rfl) (by omega) (by decide) rfl ?_
    refine r_nw (fun wx3 ewx3 => ?_)
    have hr_wx3 : fF wx3 er := by rw [ewx3]; exact hr_wx2.up
    have fD_wx3 : frD w wx3 := by rw [ewx3]; exact fD_wx2.up (Or.inl rfl)
    refine r_aload_n 82 dX7_readBoat_81 rfl rfl ?_
    refine r_dup 83 dX7_readBoat_82 rfl rfl ?_
    refine r_geti 86 dX7_readBoat_83 fz_X7_56 sh_50 rfl rfl ?_
    refine r_iconst 87 (v := 1) dX7_readBoat_86 (by decide) rfl ?_
    refine r_iadd 88 dX7_readBoat_87 rfl ?_
    refine r_puti 91 dX7_readBoat_88 fz_X7_56 fw_7_5 sh_50 rfl rfl ?_
    refine r_nw (fun wZ eZ => ?_)
    exact r_vret dX7_readBoat_91 rfl (⟨by rw [eZ]; exact fD_wx3.up (by decide), by show fF wZ er; rw [eZ]; exact hr_wx3.up5 (by decide)⟩)
  rw [hc0] at hr
  obtain ⟨rfl, hk0⟩ := hr
  have fDa0 := fD1
  have hD0a := hD0.L hf1
  have hp0 := (pCargo_a hp hc0).2.2
  refine rj_iast 36 (6 + 6 * n + 1) dX7_readBoat_35 sh_54 (rfl) (by omega) (by decide) rfl ?_
  refine r_nw (fun wb0 ewb0 => ?_)
  have fD0b : frD w wb0 := by rw [ewb0]; exact fDa0.up (Or.inl rfl)
  have hD0b := hD0a.up (x := 6 + 6 * n + 1) (v := v0.1) (by omega)
  rw [← ewb0] at hD0b
  have hk0b : mT wb0 (tok T t v0.2) := by rw [ewb0]; exact hk0.up
  refine r_aload_n 37 dX7_readBoat_36 rfl rfl ?_
  refine r_getr 40 dX7_readBoat_37 fz_X7_20 sh_50 rfl rfl ?_
  refine r_iload_n 41 dX7_readBoat_40 rfl rfl ?_
  refine r_iconst 42 (v := 2) dX7_readBoat_41 (by decide) rfl ?_
  refine r_iadd 43 dX7_readBoat_42 rfl ?_
  refine r_eq (z := nI (6 + 6 * n + 2)) (nI_add _ 2) ?_
  refine r_aload_n 44 dX7_readBoat_43 rfl rfl ?_
  refine r_iconst 45 (v := 0) dX7_readBoat_44 (by decide) rfl ?_
  refine r_bipush 47 (v := 99) dX7_readBoat_45 (by decide) rfl ?_
  have hT1 := hT.D fD0b
  refine r_callV (y2 := mX7_readNumber) (as := [_, _]) 50 dX7_readBoat_47 ml_X7_137 mv_X7_readNumber (m_readNumber (d := d - 1) (lo := 0) (hi := 99) (by omega) (by decide) (by decide) hT1 hp0 hk0b) (by omega) sh_50 ⟨_, rfl, rfl⟩ rfl (Nat.le_of_ble_eq_true rfl) rfl (kk_i ?_)
  rintro x1 wa1 ⟨hf1, hr⟩
  have fD1 := fD0b.L hf1
  rcases hc1 : pNum T t v0.2 0 99 with er | v1
  · rw [hc1] at hr
    have hev := e16 (pNum_e hp0 hc1)
    refine rj_iast 51 (6 + 6 * n + 2) dX7_readBoat_50 sh_54 (rfl) (by omega) (by decide) rfl ?_
    refine r_nw (fun wx1 ewx1 => ?_)
    have hr_wx1 : fF wx1 er := by rw [ewx1]; exact hr.up
    have fD_wx1 : frD w wx1 := by rw [ewx1]; exact fD1.up (Or.inl rfl)
    refine r_aload_n 52 dX7_readBoat_51 rfl rfl ?_
    refine r_getr 55 dX7_readBoat_52 fz_X7_20 sh_50 rfl rfl ?_
    refine r_iload_n 56 dX7_readBoat_55 rfl rfl ?_
    refine r_iconst 57 (v := 3) dX7_readBoat_56 (by decide) rfl ?_
    refine r_iadd 58 dX7_readBoat_57 rfl ?_
    refine r_eq (z := nI (6 + 6 * n + 3)) (nI_add _ 3) ?_
    refine r_aload_n 59 dX7_readBoat_58 rfl rfl ?_
    refine r_iconst 60 (v := 0) dX7_readBoat_59 (by decide) rfl ?_
    refine r_bipush 62 (v := 9) dX7_readBoat_60 (by decide) rfl ?_
    refine r_callV (y2 := mX7_readNumber) (as := [_, _]) 65 dX7_readBoat_62 ml_X7_137 mv_X7_readNumber (m_readNumF (d := d - 1) (by omega) hev hr_wx1.1) (by omega) sh_50 ⟨_, rfl, rfl⟩ rfl (Nat.le_of_ble_eq_true rfl) rfl (kk_i ?_)
    rintro y2 _ rfl
    refine rj_iast 66 (6 + 6 * n + 3) dX7_readBoat_65 sh_54 (rfl) (by omega) (by decide) rfl ?_
    refine r_nw (fun wx2 ewx2 => ?_)
    have hr_wx2 : fF wx2 er := by rw [ewx2]; exact hr_wx1.up
    have fD_wx2 : frD w wx2 := by rw [ewx2]; exact fD_wx1.up (Or.inl rfl)
    refine r_aload_n 67 dX7_readBoat_66 rfl rfl ?_
    refine r_getr 70 dX7_readBoat_67 fz_X7_20 sh_50 rfl rfl ?_
    refine r_iload_n 71 dX7_readBoat_70 rfl rfl ?_
    refine r_iconst 72 (v := 4) dX7_readBoat_71 (by decide) rfl ?_
    refine r_iadd 73 dX7_readBoat_72 rfl ?_
    refine r_eq (z := nI (6 + 6 * n + 4)) (nI_add _ 4) ?_
    refine r_aload_n 74 dX7_readBoat_73 rfl rfl ?_
    refine r_iconst 75 (v := 0) dX7_readBoat_74 (by decide) rfl ?_
    refine r_bipush 77 (v := 9) dX7_readBoat_75 (by decide) rfl ?_
    refine r_callV (y2 := mX7_readNumber) (as := [_, _]) 80 dX7_readBoat_77 ml_X7_137 mv_X7_readNumber (m_readNumF (d := d - 1) (by omega) hev hr_wx2.1) (by omega) sh_50 ⟨_, rfl, rfl⟩ rfl (Nat.le_of_ble_eq_true rfl) rfl (kk_i ?_)
    rintro y3 _ rfl
    refine rj_iast 81 (6 + 6 * n + 4) dX7_readBoat_80 sh_54 (rfl) (by omega) (by decide) rfl ?_
    refine r_nw (fun wx3 ewx3 => ?_)
    have hr_wx3 : fF wx3 er := by rw [ewx3]; exact hr_wx2.up
    have fD_wx3 : frD w wx3 := by rw [ewx3]; exact fD_wx2.up (Or.inl rfl)
    refine r_aload_n 82 dX7_readBoat_81 rfl rfl ?_
    refine r_dup 83 dX7_readBoat_82 rfl rfl ?_
    refine r_geti 86 dX7_readBoat_83 fz_X7_56 sh_50 rfl rfl ?_
    refine r_iconst 87 (v := 1) dX7_readBoat_86 (by decide) rfl ?_
    refine r_iadd 88 dX7_readBoat_87 rfl ?_
    refine r_puti 91 dX7_readBoat_88 fz_X7_56 fw_7_5 sh_50 rfl rfl ?_
    refine r_nw (fun wZ eZ => ?_)
    exact r_vret dX7_readBoat_91 rfl (⟨by rw [eZ]; exact fD_wx3.up (by decide), by show mrs T t (sB (pMarks T t n 3 2 v0.2 (un (un K (6 + 6 * n) sd) (6 + 6 * n + 1) v0.1)) (fun y => .inr (y.1, (n + 1, y.2, l, m)))) _; rw [(show pMarks T t n 3 2 v0.2 (un (un K (6 + 6 * n) sd) (6 + 6 * n + 1) v0.1) = sB (pNum T t v0.2 0 99) (fun x => sB (pNum T t x.2 0 9) fun y => sB (pNum T t y.2 0 9) fun z => .inr (z.2, un (un (un (un (un K (6 + 6 * n) sd) (6 + 6 * n + 1) v0.1) (6 + 6 * n + 2) x.1) (6 + 6 * n + 3) y.1) (6 + 6 * n + 4) z.1)) from rfl), hc1]; show fF wZ er; rw [eZ]; exact hr_wx3.up5 (by decide)⟩)
  rw [hc1] at hr
  obtain ⟨rfl, hk1⟩ := hr
  have fDa1 := fD1
  have hD1a := hD0b.L hf1
  have hp1 := (pNum_a hp0 hc1).2
  refine rj_iast 51 (6 + 6 * n + 2) dX7_readBoat_50 sh_54 (rfl) (by omega) (by decide) rfl ?_
  refine r_nw (fun wb1 ewb1 => ?_)
  have fD1b : frD w wb1 := by rw [ewb1]; exact fDa1.up (Or.inl rfl)
  have hD1b := hD1a.up (x := 6 + 6 * n + 2) (v := v1.1) (by omega)
  rw [← ewb1] at hD1b
  have hk1b : mT wb1 (tok T t v1.2) := by rw [ewb1]; exact hk1.up
  refine r_aload_n 52 dX7_readBoat_51 rfl rfl ?_
  refine r_getr 55 dX7_readBoat_52 fz_X7_20 sh_50 rfl rfl ?_
  refine r_iload_n 56 dX7_readBoat_55 rfl rfl ?_
  refine r_iconst 57 (v := 3) dX7_readBoat_56 (by decide) rfl ?_
  refine r_iadd 58 dX7_readBoat_57 rfl ?_
  refine r_eq (z := nI (6 + 6 * n + 3)) (nI_add _ 3) ?_
  refine r_aload_n 59 dX7_readBoat_58 rfl rfl ?_
  refine r_iconst 60 (v := 0) dX7_readBoat_59 (by decide) rfl ?_
  refine r_bipush 62 (v := 9) dX7_readBoat_60 (by decide) rfl ?_
  have hT2 := hT.D fD1b
  refine r_callV (y2 := mX7_readNumber) (as := [_, _]) 65 dX7_readBoat_62 ml_X7_137 mv_X7_readNumber (m_readNumber (d := d - 1) (lo := 0) (hi := 9) (by omega) (by decide) (by decide) hT2 hp1 hk1b) (by omega) sh_50 ⟨_, rfl, rfl⟩ rfl (Nat.le_of_ble_eq_true rfl) rfl (kk_i ?_)
  rintro x2 wa2 ⟨hf1, hr⟩
  have fD1 := fD1b.L hf1
  rcases hc2 : pNum T t v1.2 0 9 with er | v2
  · rw [hc2] at hr
    have hev := e16 (pNum_e hp1 hc2)
    refine rj_iast 66 (6 + 6 * n + 3) dX7_readBoat_65 sh_54 (rfl) (by omega) (by decide) rfl ?_
    refine r_nw (fun wx2 ewx2 => ?_)
    have hr_wx2 : fF wx2 er := by rw [ewx2]; exact hr.up
    have fD_wx2 : frD w wx2 := by rw [ewx2]; exact fD1.up (Or.inl rfl)
    refine r_aload_n 67 dX7_readBoat_66 rfl rfl ?_
    refine r_getr 70 dX7_readBoat_67 fz_X7_20 sh_50 rfl rfl ?_
    refine r_iload_n 71 dX7_readBoat_70 rfl rfl ?_
    refine r_iconst 72 (v := 4) dX7_readBoat_71 (by decide) rfl ?_
    refine r_iadd 73 dX7_readBoat_72 rfl ?_
    refine r_eq (z := nI (6 + 6 * n + 4)) (nI_add _ 4) ?_
    refine r_aload_n 74 dX7_readBoat_73 rfl rfl ?_
    refine r_iconst 75 (v := 0) dX7_readBoat_74 (by decide) rfl ?_
    refine r_bipush 77 (v := 9) dX7_readBoat_75 (by decide) rfl ?_
    refine r_callV (y2 := mX7_readNumber) (as := [_, _]) 80 dX7_readBoat_77 ml_X7_137 mv_X7_readNumber (m_readNumF (d := d - 1) (by omega) hev hr_wx2.1) (by omega) sh_50 ⟨_, rfl, rfl⟩ rfl (Nat.le_of_ble_eq_true rfl) rfl (kk_i ?_)
    rintro y3 _ rfl
    refine rj_iast 81 (6 + 6 * n + 4) dX7_readBoat_80 sh_54 (rfl) (by omega) (by decide) rfl ?_
    refine r_nw (fun wx3 ewx3 => ?_)
    have hr_wx3 : fF wx3 er := by rw [ewx3]; exact hr_wx2.up
    have fD_wx3 : frD w wx3 := by rw [ewx3]; exact fD_wx2.up (Or.inl rfl)
    refine r_aload_n 82 dX7_readBoat_81 rfl rfl ?_
    refine r_dup 83 dX7_readBoat_82 rfl rfl ?_
    refine r_geti 86 dX7_readBoat_83 fz_X7_56 sh_50 rfl rfl ?_
    refine r_iconst 87 (v := 1) dX7_readBoat_86 (by decide) rfl ?_
    refine r_iadd 88 dX7_readBoat_87 rfl ?_
    refine r_puti 91 dX7_readBoat_88 fz_X7_56 fw_7_5 sh_50 rfl rfl ?_
    refine r_nw (fun wZ eZ => ?_)
    exact r_vret dX7_readBoat_91 rfl (⟨by rw [eZ]; exact fD_wx3.up (by decide), by show mrs T t (sB (pMarks T t n 3 2 v0.2 (un (un K (6 + 6 * n) sd) (6 + 6 * n + 1) v0.1)) (fun y => .inr (y.1, (n + 1, y.2, l, m)))) _; rw [(show pMarks T t n 3 2 v0.2 (un (un K (6 + 6 * n) sd) (6 + 6 * n + 1) v0.1) = sB (pNum T t v0.2 0 99) (fun x => sB (pNum T t x.2 0 9) fun y => sB (pNum T t y.2 0 9) fun z => .inr (z.2, un (un (un (un (un K (6 + 6 * n) sd) (6 + 6 * n + 1) v0.1) (6 + 6 * n + 2) x.1) (6 + 6 * n + 3) y.1) (6 + 6 * n + 4) z.1)) from rfl), hc1]; show mrs T t (sB (sB (pNum T t v1.2 0 9) fun y => sB (pNum T t y.2 0 9) fun z => .inr (z.2, un (un (un (un (un K (6 + 6 * n) sd) (6 + 6 * n + 1) v0.1) (6 + 6 * n + 2) v1.1) (6 + 6 * n + 3) y.1) (6 + 6 * n + 4) z.1)) (fun y => .inr (y.1, (n + 1, y.2, l, m)))) _; rw [hc2]; show fF wZ er; rw [eZ]; exact hr_wx3.up5 (by decide)⟩)
  rw [hc2] at hr
  obtain ⟨rfl, hk2⟩ := hr
  have fDa2 := fD1
  have hD2a := hD1b.L hf1
  have hp2 := (pNum_a hp1 hc2).2
  refine rj_iast 66 (6 + 6 * n + 3) dX7_readBoat_65 sh_54 (rfl) (by omega) (by decide) rfl ?_
  refine r_nw (fun wb2 ewb2 => ?_)
  have fD2b : frD w wb2 := by rw [ewb2]; exact fDa2.up (Or.inl rfl)
  have hD2b := hD2a.up (x := 6 + 6 * n + 3) (v := v2.1) (by omega)
  rw [← ewb2] at hD2b
  have hk2b : mT wb2 (tok T t v2.2) := by rw [ewb2]; exact hk2.up
  refine r_aload_n 67 dX7_readBoat_66 rfl rfl ?_
  refine r_getr 70 dX7_readBoat_67 fz_X7_20 sh_50 rfl rfl ?_
  refine r_iload_n 71 dX7_readBoat_70 rfl rfl ?_
  refine r_iconst 72 (v := 4) dX7_readBoat_71 (by decide) rfl ?_
  refine r_iadd 73 dX7_readBoat_72 rfl ?_
  refine r_eq (z := nI (6 + 6 * n + 4)) (nI_add _ 4) ?_
  refine r_aload_n 74 dX7_readBoat_73 rfl rfl ?_
  refine r_iconst 75 (v := 0) dX7_readBoat_74 (by decide) rfl ?_
  refine r_bipush 77 (v := 9) dX7_readBoat_75 (by decide) rfl ?_
  have hT3 := hT.D fD2b
  refine r_callV (y2 := mX7_readNumber) (as := [_, _]) 80 dX7_readBoat_77 ml_X7_137 mv_X7_readNumber (m_readNumber (d := d - 1) (lo := 0) (hi := 9) (by omega) (by decide) (by decide) hT3 hp2 hk2b) (by omega) sh_50 ⟨_, rfl, rfl⟩ rfl (Nat.le_of_ble_eq_true rfl) rfl (kk_i ?_)
  rintro x3 wa3 ⟨hf1, hr⟩
  have fD1 := fD2b.L hf1
  rcases hc3 : pNum T t v2.2 0 9 with er | v3
  · rw [hc3] at hr
    have hev := e16 (pNum_e hp2 hc3)
    refine rj_iast 81 (6 + 6 * n + 4) dX7_readBoat_80 sh_54 (rfl) (by omega) (by decide) rfl ?_
    refine r_nw (fun wx3 ewx3 => ?_)
    have hr_wx3 : fF wx3 er := by rw [ewx3]; exact hr.up
    have fD_wx3 : frD w wx3 := by rw [ewx3]; exact fD1.up (Or.inl rfl)
    refine r_aload_n 82 dX7_readBoat_81 rfl rfl ?_
    refine r_dup 83 dX7_readBoat_82 rfl rfl ?_
    refine r_geti 86 dX7_readBoat_83 fz_X7_56 sh_50 rfl rfl ?_
    refine r_iconst 87 (v := 1) dX7_readBoat_86 (by decide) rfl ?_
    refine r_iadd 88 dX7_readBoat_87 rfl ?_
    refine r_puti 91 dX7_readBoat_88 fz_X7_56 fw_7_5 sh_50 rfl rfl ?_
    refine r_nw (fun wZ eZ => ?_)
    exact r_vret dX7_readBoat_91 rfl (⟨by rw [eZ]; exact fD_wx3.up (by decide), by show mrs T t (sB (pMarks T t n 3 2 v0.2 (un (un K (6 + 6 * n) sd) (6 + 6 * n + 1) v0.1)) (fun y => .inr (y.1, (n + 1, y.2, l, m)))) _; rw [(show pMarks T t n 3 2 v0.2 (un (un K (6 + 6 * n) sd) (6 + 6 * n + 1) v0.1) = sB (pNum T t v0.2 0 99) (fun x => sB (pNum T t x.2 0 9) fun y => sB (pNum T t y.2 0 9) fun z => .inr (z.2, un (un (un (un (un K (6 + 6 * n) sd) (6 + 6 * n + 1) v0.1) (6 + 6 * n + 2) x.1) (6 + 6 * n + 3) y.1) (6 + 6 * n + 4) z.1)) from rfl), hc1]; show mrs T t (sB (sB (pNum T t v1.2 0 9) fun y => sB (pNum T t y.2 0 9) fun z => .inr (z.2, un (un (un (un (un K (6 + 6 * n) sd) (6 + 6 * n + 1) v0.1) (6 + 6 * n + 2) v1.1) (6 + 6 * n + 3) y.1) (6 + 6 * n + 4) z.1)) (fun y => .inr (y.1, (n + 1, y.2, l, m)))) _; rw [hc2]; show mrs T t (sB (sB (pNum T t v2.2 0 9) fun z => .inr (z.2, un (un (un (un (un K (6 + 6 * n) sd) (6 + 6 * n + 1) v0.1) (6 + 6 * n + 2) v1.1) (6 + 6 * n + 3) v2.1) (6 + 6 * n + 4) z.1)) (fun y => .inr (y.1, (n + 1, y.2, l, m)))) _; rw [hc3]; show fF wZ er; rw [eZ]; exact hr_wx3.up5 (by decide)⟩)
  rw [hc3] at hr
  obtain ⟨rfl, hk3⟩ := hr
  have fDa3 := fD1
  have hD3a := hD2b.L hf1
  have hp3 := (pNum_a hp2 hc3).2
  refine rj_iast 81 (6 + 6 * n + 4) dX7_readBoat_80 sh_54 (rfl) (by omega) (by decide) rfl ?_
  refine r_nw (fun wb3 ewb3 => ?_)
  have fD3b : frD w wb3 := by rw [ewb3]; exact fDa3.up (Or.inl rfl)
  have hD3b := hD3a.up (x := 6 + 6 * n + 4) (v := v3.1) (by omega)
  rw [← ewb3] at hD3b
  have hk3b : mT wb3 (tok T t v3.2) := by rw [ewb3]; exact hk3.up
  refine r_aload_n 82 dX7_readBoat_81 rfl rfl ?_
  refine r_dup 83 dX7_readBoat_82 rfl rfl ?_
  refine r_geti 86 dX7_readBoat_83 fz_X7_56 sh_50 rfl rfl ?_
  refine r_eq hD3b.2.1 ?_
  refine r_iconst 87 (v := 1) dX7_readBoat_86 (by decide) rfl ?_
  refine r_iadd 88 dX7_readBoat_87 rfl ?_
  refine r_eq (z := nI (n + 1)) (nI_1 _) ?_
  refine r_puti 91 dX7_readBoat_88 fz_X7_56 fw_7_5 sh_50 rfl rfl ?_
  refine r_nw (fun wZ eZ => ?_)
  exact r_vret dX7_readBoat_91 rfl (⟨by rw [eZ]; exact fD3b.up (by decide), by show mrs T t (sB (pMarks T t n 3 2 v0.2 (un (un K (6 + 6 * n) sd) (6 + 6 * n + 1) v0.1)) (fun y => .inr (y.1, (n + 1, y.2, l, m)))) _; rw [(show pMarks T t n 3 2 v0.2 (un (un K (6 + 6 * n) sd) (6 + 6 * n + 1) v0.1) = sB (pNum T t v0.2 0 99) (fun x => sB (pNum T t x.2 0 9) fun y => sB (pNum T t y.2 0 9) fun z => .inr (z.2, un (un (un (un (un K (6 + 6 * n) sd) (6 + 6 * n + 1) v0.1) (6 + 6 * n + 2) x.1) (6 + 6 * n + 3) y.1) (6 + 6 * n + 4) z.1)) from rfl), hc1]; show mrs T t (sB (sB (pNum T t v1.2 0 9) fun y => sB (pNum T t y.2 0 9) fun z => .inr (z.2, un (un (un (un (un K (6 + 6 * n) sd) (6 + 6 * n + 1) v0.1) (6 + 6 * n + 2) v1.1) (6 + 6 * n + 3) y.1) (6 + 6 * n + 4) z.1)) (fun y => .inr (y.1, (n + 1, y.2, l, m)))) _; rw [hc2]; show mrs T t (sB (sB (pNum T t v2.2 0 9) fun z => .inr (z.2, un (un (un (un (un K (6 + 6 * n) sd) (6 + 6 * n + 1) v0.1) (6 + 6 * n + 2) v1.1) (6 + 6 * n + 3) v2.1) (6 + 6 * n + 4) z.1)) (fun y => .inr (y.1, (n + 1, y.2, l, m)))) _; rw [hc3]; exact ⟨by rw [eZ]; exact hk3b.up5 (by decide), ⟨fun k hk => by rw [eZ, z_up_a (by decide)]; exact hD3b.1 k hk, by rw [eZ, z_up_s], by rw [eZ, z_up_i (by decide)]; exact hD3b.2.2.1, by rw [eZ, z_up_i (by decide)]; exact hD3b.2.2.2.1, by rw [eZ, z_up_i (by decide)]; exact hD3b.2.2.2.2⟩⟩⟩)
set_option maxRecDepth 20000 in
set_option maxHeartbeats 4000000 in
theorem m_readLiar {d T p : Nat} {t : Nat → Nat} {w : zW} {n l m : Nat} {K : Nat → Nat} (hd : 4 ≤ d) (hl : l < 64) (hT : tpL w T t) (hp : p ≤ T) (hk : mT w (tok T t p)) (h4 : tk_k (tok T t p) ≠ 4) (hD : dM w (n, K, l, m)) : CT mX7_readLiar d [.ref 50] w (z_v fun w' => frD w w' ∧ mrs T t (pLiar T t p (n, K, l, m)) w') := by
  refine CT.of [some (.ref 50), none] rfl (Nat.le_of_ble_eq_true rfl) rfl ?_
  refine r_aload_n 1 dX7_readLiar_0 rfl rfl ?_
  refine r_iconst 2 (v := 0) dX7_readLiar_1 (by decide) rfl ?_
  refine r_iconst 3 (v := 5) dX7_readLiar_2 (by decide) rfl ?_
  refine r_callV (y2 := mX7_looked) (as := [_, _]) 6 dX7_readLiar_3 ml_X7_123 mv_X7_looked (m_looked (d := d - 1) (lo := 0) (hi := 5) (by omega) (by decide) (by decide) hk tok_k4 (tok_nL hT)) (by omega) sh_50 ⟨_, rfl, rfl⟩ rfl (Nat.le_of_ble_eq_true rfl) rfl (kk_i ?_)
  rintro x w1 ⟨hf, h11, hr⟩
  have hta := tok_T (t := t) hp
  by_cases c : tk_k (tok T t p) = 1 ∧ 0 ≤ tk_n (tok T t p) ∧ tk_n (tok T t p) ≤ 5
  rotate_left
  · rw [if_neg c] at hr
    have h16 := bl_16 (k := (tok T t p)) (y := if tk_k (tok T t p) = 1 then 3 else 2) (by split <;> decide)
    refine r_istore_n 7 (L' := [_, _]) dX7_readLiar_6 (by decide) rfl rfl rfl ?_
    refine r_aload_n 8 dX7_readLiar_7 rfl rfl ?_
    refine r_geti 11 dX7_readLiar_8 fz_X7_81 sh_50 rfl rfl ?_
    refine r_eq hr.1 ?_
    refine r_if_ne 67 14 dX7_readLiar_11 (by decide) rfl (fun _ => ?_) (fun z => absurd z (fun z => by have := (nI_inj (b := 0) (by omega) (by decide)).mp z; omega))
    refine r_aload_n 68 dX7_readLiar_67 rfl rfl ?_
    refine r_callV (y2 := mX7_next) (as := []) 71 dX7_readLiar_68 ml_X7_127 mv_X7_next (m_nextF (d := d - 1) h16 hr.1) (by omega) sh_50 ⟨_, rfl, rfl⟩ rfl (Nat.le_of_ble_eq_true rfl) rfl (kk_v ?_)
    rintro _ rfl
    exact r_vret dX7_readLiar_71 rfl (⟨hf.D, by rw [pLiar, show pNum T t p 0 5 = .inl (bl (tok T t p) (if tk_k (tok T t p) = 1 then 3 else 2)) by { unfold pNum; by_cases h1 : tk_k (tok T t p) = 1; (rw [if_pos h1, if_neg (fun z => c ⟨h1, z⟩), if_pos h1]); (rw [if_neg h1, if_neg h1]) }]; exact hr⟩)
  rw [if_pos c] at hr
  obtain ⟨rfl, rfl⟩ := hr
  have ho := hk.2.2 h4
  have hb : (tk_n (tok T t p)) < 6 := by omega
  by_cases hbi : bi l (tk_n (tok T t p)) = 1
  · refine r_istore_n 7 (L' := [_, _]) dX7_readLiar_6 (by decide) rfl rfl rfl ?_
    refine r_aload_n 8 dX7_readLiar_7 rfl rfl ?_
    refine r_geti 11 dX7_readLiar_8 fz_X7_81 sh_50 rfl rfl ?_
    refine r_eq ho.1 ?_
    refine r_if_ne 67 14 dX7_readLiar_11 (by decide) rfl (fun z => absurd (rfl) z) (fun _ => ?_)
    refine r_aload_n 15 dX7_readLiar_14 rfl rfl ?_
    refine r_aload_n 16 dX7_readLiar_15 rfl rfl ?_
    refine r_geti 19 dX7_readLiar_16 fz_X7_63 sh_50 rfl rfl ?_
    refine r_eq hD.2.2.2.1 ?_
    refine r_iload_n 20 dX7_readLiar_19 rfl rfl ?_
    refine r_ishr 21 dX7_readLiar_20 rfl ?_
    refine r_iconst 22 (v := 1) dX7_readLiar_21 (by decide) rfl ?_
    refine r_iand 23 dX7_readLiar_22 rfl ?_
    refine r_eq (b_sh _ hl (tk_n (tok T t p)) hb) ?_
    refine rt_if_ne (a := 1) (b := 0) (j := 31) 30 26 dX7_readLiar_23 (by decide) rfl (fun k => r_iconst 31 dX7_readLiar_30 (by decide) rfl k) (fun k => r_iconst 27 dX7_readLiar_26 (by decide) rfl (r_goto 31 dX7_readLiar_27 (by decide) k)) ?_
    refine r_eq (z := z_b (bi l (tk_n (tok T t p)) = 0)) (by rcases bi_01 l (tk_n (tok T t p)) with z | z; (rw [z]; rfl); (rw [z]; rfl)) ?_
    refine r_iconst 32 (v := 4) dX7_readLiar_31 (by decide) rfl ?_
    refine r_callV (y2 := mX7_needs) (as := [_, _]) 35 dX7_readLiar_32 ml_X7_119 mv_X7_needs (m_needs (d := d - 1) ho.1) (by omega) sh_50 ⟨_, rfl, rfl⟩ rfl (Nat.le_of_ble_eq_true rfl) rfl (kk_v ?_)
    rintro w2 e2
    rw [if_neg (by omega)] at e2
    have f2 : fF w2 (4, tk_s (tok T t p)) := by rw [← e2]; exact ⟨by rw [z_up_i (by decide), z_up_s]; rfl, by rw [z_up_s]; exact hk.1⟩
    have fr2 : frD w w2 := by rw [← e2]; exact (frD.rfl.up (by decide)).up (by decide)
    refine r_aload_n 36 dX7_readLiar_35 rfl rfl ?_
    refine r_dup 37 dX7_readLiar_36 rfl rfl ?_
    refine r_geti 40 dX7_readLiar_37 fz_X7_63 sh_50 rfl rfl ?_
    refine r_iconst 41 (v := 1) dX7_readLiar_40 (by decide) rfl ?_
    refine r_iload_n 42 dX7_readLiar_41 rfl rfl ?_
    refine r_ishl 43 dX7_readLiar_42 rfl ?_
    refine r_ior 44 dX7_readLiar_43 rfl ?_
    refine r_puti 47 dX7_readLiar_44 fz_X7_63 fw_7_7 sh_50 rfl rfl ?_
    refine r_nw (fun w3 e3 => ?_)
    refine r_aload_n 48 dX7_readLiar_47 rfl rfl ?_
    refine r_iload_n 49 dX7_readLiar_48 rfl rfl ?_
    refine r_aload_n 50 dX7_readLiar_49 rfl rfl ?_
    refine r_geti 53 dX7_readLiar_50 fz_X7_66 sh_50 rfl rfl ?_
    refine r_icmp_le 60 56 dX7_readLiar_53 (by decide) rfl (fun g53 => ?_) (fun g53 => ?_)
    · refine r_aload_n 61 dX7_readLiar_60 rfl rfl ?_
      refine r_geti 64 dX7_readLiar_61 fz_X7_66 sh_50 rfl rfl ?_
      refine r_puti 67 dX7_readLiar_64 fz_X7_66 fw_7_8 sh_50 rfl rfl ?_
      refine r_nw (fun w4 e4 => ?_)
      refine r_aload_n 68 dX7_readLiar_67 rfl rfl ?_
      refine r_callV (y2 := mX7_next) (as := []) 71 dX7_readLiar_68 ml_X7_127 mv_X7_next (m_nextF (d := d - 1) (e := 4) (by decide) (by rw [e4, z_up_i (by decide), e3, z_up_i (by decide)]; exact f2.1)) (by omega) sh_50 ⟨_, rfl, rfl⟩ rfl (Nat.le_of_ble_eq_true rfl) rfl (kk_v ?_)
      rintro _ rfl
      exact r_vret dX7_readLiar_71 rfl (⟨by rw [e4, e3]; exact (fr2.up (by decide)).up (by decide), by rw [pLiar, show pNum T t p 0 5 = .inr (tk_n (tok T t p), tk_a (tok T t p)) by { unfold pNum; rw [if_pos c.1, if_pos c.2] }]; show mrs T t (if bi l (tk_n (tok T t p)) = 1 then _ else _) _; rw [if_pos hbi, e4, e3]; exact (f2.up5 (by decide)).up5 (by decide)⟩)
    · refine r_iload_n 57 dX7_readLiar_56 rfl rfl ?_
      refine r_goto 64 dX7_readLiar_57 (by decide) ?_
      refine r_puti 67 dX7_readLiar_64 fz_X7_66 fw_7_8 sh_50 rfl rfl ?_
      refine r_nw (fun w4 e4 => ?_)
      refine r_aload_n 68 dX7_readLiar_67 rfl rfl ?_
      refine r_callV (y2 := mX7_next) (as := []) 71 dX7_readLiar_68 ml_X7_127 mv_X7_next (m_nextF (d := d - 1) (e := 4) (by decide) (by rw [e4, z_up_i (by decide), e3, z_up_i (by decide)]; exact f2.1)) (by omega) sh_50 ⟨_, rfl, rfl⟩ rfl (Nat.le_of_ble_eq_true rfl) rfl (kk_v ?_)
      rintro _ rfl
      exact r_vret dX7_readLiar_71 rfl (⟨by rw [e4, e3]; exact (fr2.up (by decide)).up (by decide), by rw [pLiar, show pNum T t p 0 5 = .inr (tk_n (tok T t p), tk_a (tok T t p)) by { unfold pNum; rw [if_pos c.1, if_pos c.2] }]; show mrs T t (if bi l (tk_n (tok T t p)) = 1 then _ else _) _; rw [if_pos hbi, e4, e3]; exact (f2.up5 (by decide)).up5 (by decide)⟩)
  have hb0 : bi l (tk_n (tok T t p)) = 0 := by have := bi_01 l (tk_n (tok T t p)); omega
  have hhi := hi_y l hl (tk_n (tok T t p)) hb hb0
  refine r_istore_n 7 (L' := [_, _]) dX7_readLiar_6 (by decide) rfl rfl rfl ?_
  refine r_aload_n 8 dX7_readLiar_7 rfl rfl ?_
  refine r_geti 11 dX7_readLiar_8 fz_X7_81 sh_50 rfl rfl ?_
  refine r_eq ho.1 ?_
  refine r_if_ne 67 14 dX7_readLiar_11 (by decide) rfl (fun z => absurd (rfl) z) (fun _ => ?_)
  refine r_aload_n 15 dX7_readLiar_14 rfl rfl ?_
  refine r_aload_n 16 dX7_readLiar_15 rfl rfl ?_
  refine r_geti 19 dX7_readLiar_16 fz_X7_63 sh_50 rfl rfl ?_
  refine r_eq hD.2.2.2.1 ?_
  refine r_iload_n 20 dX7_readLiar_19 rfl rfl ?_
  refine r_ishr 21 dX7_readLiar_20 rfl ?_
  refine r_iconst 22 (v := 1) dX7_readLiar_21 (by decide) rfl ?_
  refine r_iand 23 dX7_readLiar_22 rfl ?_
  refine r_eq (b_sh _ hl (tk_n (tok T t p)) hb) ?_
  refine rt_if_ne (a := 1) (b := 0) (j := 31) 30 26 dX7_readLiar_23 (by decide) rfl (fun k => r_iconst 31 dX7_readLiar_30 (by decide) rfl k) (fun k => r_iconst 27 dX7_readLiar_26 (by decide) rfl (r_goto 31 dX7_readLiar_27 (by decide) k)) ?_
  refine r_eq (z := z_b (bi l (tk_n (tok T t p)) = 0)) (by rcases bi_01 l (tk_n (tok T t p)) with z | z; (rw [z]; rfl); (rw [z]; rfl)) ?_
  refine r_iconst 32 (v := 4) dX7_readLiar_31 (by decide) rfl ?_
  refine r_callV (y2 := mX7_needs) (as := [_, _]) 35 dX7_readLiar_32 ml_X7_119 mv_X7_needs (m_needs (d := d - 1) ho.1) (by omega) sh_50 ⟨_, rfl, rfl⟩ rfl (Nat.le_of_ble_eq_true rfl) rfl (kk_v ?_)
  rintro w2 e2
  rw [if_pos hb0] at e2
  subst e2
  refine r_aload_n 36 dX7_readLiar_35 rfl rfl ?_
  refine r_dup 37 dX7_readLiar_36 rfl rfl ?_
  refine r_geti 40 dX7_readLiar_37 fz_X7_63 sh_50 rfl rfl ?_
  refine r_eq hD.2.2.2.1 ?_
  refine r_iconst 41 (v := 1) dX7_readLiar_40 (by decide) rfl ?_
  refine r_iload_n 42 dX7_readLiar_41 rfl rfl ?_
  refine r_ishl 43 dX7_readLiar_42 rfl ?_
  refine r_ior 44 dX7_readLiar_43 rfl ?_
  refine r_eq (b_or l hl (tk_n (tok T t p)) hb hb0) ?_
  refine r_puti 47 dX7_readLiar_44 fz_X7_63 fw_7_7 sh_50 rfl rfl ?_
  refine r_nw (fun w3 e3 => ?_)
  have q8 : w3 50 8 = hiB l := by rw [e3, z_up_i (by decide)]; exact hD.2.2.2.2
  refine r_aload_n 48 dX7_readLiar_47 rfl rfl ?_
  refine r_iload_n 49 dX7_readLiar_48 rfl rfl ?_
  refine r_aload_n 50 dX7_readLiar_49 rfl rfl ?_
  refine r_geti 53 dX7_readLiar_50 fz_X7_66 sh_50 rfl rfl ?_
  refine r_eq q8 ?_
  refine r_icmp_le 60 56 dX7_readLiar_53 (by decide) rfl (fun g53 => ?_) (fun g53 => ?_)
  · rw [if_pos g53] at hhi
    refine r_aload_n 61 dX7_readLiar_60 rfl rfl ?_
    refine r_geti 64 dX7_readLiar_61 fz_X7_66 sh_50 rfl rfl ?_
    refine r_eq q8 ?_
    refine r_eq hhi ?_
    refine r_puti 67 dX7_readLiar_64 fz_X7_66 fw_7_8 sh_50 rfl rfl ?_
    refine r_nw (fun w4 e4 => ?_)
    have fr4 : frD w w4 := by rw [e4, e3]; exact (frD.rfl.up (by decide)).up (by decide)
    have q4 : ∀ q, q ≠ 7 → q ≠ 8 → w4 50 q = w 50 q := fun q h1 h2 => by rw [e4, z_up_i h2, e3, z_up_i h1]
    refine r_aload_n 68 dX7_readLiar_67 rfl rfl ?_
    refine r_callV (y2 := mX7_next) (as := []) 71 dX7_readLiar_68 ml_X7_127 mv_X7_next (m_next (d := d - 1) (by omega) (hT.D fr4) hta.1 (by rw [q4 15 (by decide) (by decide)]; exact ho.1) (by rw [q4 11 (by decide) (by decide)]; exact ho.2.2.1)) (by omega) sh_50 ⟨_, rfl, rfl⟩ rfl (Nat.le_of_ble_eq_true rfl) rfl (kk_v ?_)
    rintro w5 ⟨hk5, hf5⟩
    have hD4 : dM w4 (n, K, l + 2 ^ (tk_n (tok T t p)), m) := ⟨fun k hk => by rw [e4, z_up_a (by decide), e3, z_up_a (by decide)]; exact hD.1 k hk, by rw [q4 5 (by decide) (by decide)]; exact hD.2.1, by rw [q4 6 (by decide) (by decide)]; exact hD.2.2.1, by rw [e4, z_up_i (by decide), e3, z_up_s], by rw [e4, z_up_s]⟩
    exact r_vret dX7_readLiar_71 rfl (⟨fr4.L hf5, by rw [pLiar, show pNum T t p 0 5 = .inr (tk_n (tok T t p), tk_a (tok T t p)) by { unfold pNum; rw [if_pos c.1, if_pos c.2] }]; show mrs T t (if bi l (tk_n (tok T t p)) = 1 then _ else _) _; rw [if_neg hbi]; exact ⟨hk5, hD4.L hf5⟩⟩)
  · rw [if_neg g53] at hhi
    refine r_iload_n 57 dX7_readLiar_56 rfl rfl ?_
    refine r_goto 64 dX7_readLiar_57 (by decide) ?_
    refine r_eq hhi ?_
    refine r_puti 67 dX7_readLiar_64 fz_X7_66 fw_7_8 sh_50 rfl rfl ?_
    refine r_nw (fun w4 e4 => ?_)
    have fr4 : frD w w4 := by rw [e4, e3]; exact (frD.rfl.up (by decide)).up (by decide)
    have q4 : ∀ q, q ≠ 7 → q ≠ 8 → w4 50 q = w 50 q := fun q h1 h2 => by rw [e4, z_up_i h2, e3, z_up_i h1]
    refine r_aload_n 68 dX7_readLiar_67 rfl rfl ?_
    refine r_callV (y2 := mX7_next) (as := []) 71 dX7_readLiar_68 ml_X7_127 mv_X7_next (m_next (d := d - 1) (by omega) (hT.D fr4) hta.1 (by rw [q4 15 (by decide) (by decide)]; exact ho.1) (by rw [q4 11 (by decide) (by decide)]; exact ho.2.2.1)) (by omega) sh_50 ⟨_, rfl, rfl⟩ rfl (Nat.le_of_ble_eq_true rfl) rfl (kk_v ?_)
    rintro w5 ⟨hk5, hf5⟩
    have hD4 : dM w4 (n, K, l + 2 ^ (tk_n (tok T t p)), m) := ⟨fun k hk => by rw [e4, z_up_a (by decide), e3, z_up_a (by decide)]; exact hD.1 k hk, by rw [q4 5 (by decide) (by decide)]; exact hD.2.1, by rw [q4 6 (by decide) (by decide)]; exact hD.2.2.1, by rw [e4, z_up_i (by decide), e3, z_up_s], by rw [e4, z_up_s]⟩
    exact r_vret dX7_readLiar_71 rfl (⟨fr4.L hf5, by rw [pLiar, show pNum T t p 0 5 = .inr (tk_n (tok T t p), tk_a (tok T t p)) by { unfold pNum; rw [if_pos c.1, if_pos c.2] }]; show mrs T t (if bi l (tk_n (tok T t p)) = 1 then _ else _) _; rw [if_neg hbi]; exact ⟨hk5, hD4.L hf5⟩⟩)

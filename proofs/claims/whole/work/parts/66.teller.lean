/-! ===== the class: its teller ===== -/
theorem isL21 : z_isL 21 := Or.inr (Or.inr (Or.inr (Or.inr rfl)))
/-- what is told so far, in the class -/
def dW (w : zW) (D : pD) : Prop := (∀ k, k < 6 → w 22 k = nI (p_K D k)) ∧ (∀ b q, b < p_n D → q < 5 → w 23 (b * 5 + q) = nI (p_K D (6 + 6 * b + q))) ∧ w 21 2 = nI (p_n D) ∧ w 21 3 = nI (p_l D) ∧ w 21 4 = 0 ∧ w 29 4 = nI (p_m D)
theorem dW.fr {w w' : zW} {D : pD} (h : dW w D) (h21 : w' 21 = w 21) (h22 : w' 22 = w 22) (h23 : w' 23 = w 23) (h29 : w' 29 4 = w 29 4) : dW w' D := by
  unfold dW at h ⊢
  rw [h21, h22, h23, h29]
  exact h
def frX (w w' : zW) : Prop := (∀ q, q < 2 ∨ 5 < q → w' 27 q = w 27 q) ∧ ∀ a, a ≠ 27 → a ≠ 29 → (a < 21 ∨ 25 < a) → w' a = w a
theorem frX.rfl {w : zW} : frX w w := ⟨fun _ _ => Eq.refl _, fun _ _ _ _ => Eq.refl _⟩
theorem frX.trans {w w' w'' : zW} (h : frX w w') (h' : frX w' w'') : frX w w'' := ⟨fun q hq => (h'.1 q hq).trans (h.1 q hq), fun a h1 h2 h3 => (h'.2 a h1 h2 h3).trans (h.2 a h1 h2 h3)⟩
def frN (w w' : zW) : Prop := (∀ q, q < 2 ∨ 5 < q → w' 27 q = w 27 q) ∧ ∀ a, a ≠ 27 → a ≠ 29 → w' a = w a
theorem frN.X {w w' : zW} (h : frN w w') : frX w w' := ⟨h.1, fun a h1 h2 _ => h.2 a h1 h2⟩
theorem frT.N {w w' : zW} (h : frT w w') : frN w w' := ⟨h.1, fun a h1 _ => h.2 a h1⟩
theorem frN.up {w w' : zW} {q : Nat} {v : Int32} (h : frN w w') : frN w (z_up w' 29 q v) := ⟨fun j hj => by rw [z_up_a (by decide)]; exact h.1 j hj, fun a h1 h2 => by rw [z_up_o h2]; exact h.2 a h1 h2⟩
theorem frX.up {w w' : zW} {k q : Nat} {v : Int32} (h : frX w w') (hk : k = 29 ∨ 21 ≤ k ∧ k ≤ 25) : frX w (z_up w' k q v) := ⟨fun j hj => by rw [z_up_a (by omega)]; exact h.1 j hj, fun a h1 h2 h3 => by rw [z_up_o (by omega)]; exact h.2 a h1 h2 h3⟩
theorem tpW.X {w w' : zW} {T : Nat} {t : Nat → Nat} (h : tpW w T t) (f : frX w w') : tpW w' T t := ⟨by rw [f.1 1 (by omega)]; exact h.1, h.2.1, fun i hi => by rw [f.2 28 (by decide) (by decide) (by omega)]; exact h.2.2 i hi⟩
theorem tkW.fr {w w' : zW} {k : tkT} (h : tkW w k) (f : w' 27 = w 27) : tkW w' k := by unfold tkW at h ⊢; rw [f]; exact h
def eX (w : zW) (e : Nat × Nat) : Prop := w 29 1 = nI e.1 ∧ w 29 3 = nI e.2
/-- a yes or no, and what is told -/
def txR {α : Type} (r : sR α) (P : α → Prop) (w : zW) (x : Int32) : Prop := match r with
  | .inl e => x = 0 ∧ eX w e
  | .inr a => x = 1 ∧ P a
theorem eX_up {w : zW} {k : tkT} {y : Nat} : eX (z_up (z_up w 29 1 (nI (bl k y).1)) 29 3 (nI (bl k y).2)) (bl k y) := ⟨by rw [z_up_i (by decide), z_up_s], z_up_s⟩
theorem tok_k4 {T p : Nat} {t : Nat → Nat} : tk_k (tok T t p) ≤ 4 := by
  unfold tok tkS
  split
  · exact Nat.le_of_ble_eq_true rfl
  · split
    · split <;> exact Nat.le_of_ble_eq_true rfl
    · exact kd_lt _
theorem kkN {k : Nat} (c : Nat) (hk : k ≤ 4) (hc : c ≤ 4) (h : nI k = nI c) : k = c := (nI_inj (by omega) (by omega)).mp h
theorem tok_n {T p : Nat} {t : Nat → Nat} (ht : ∀ i, t i < 128 ∨ T ≤ i) : tk_n (tok T t p) < 10000 := by
  unfold tok tkS
  split
  · exact Nat.le_of_ble_eq_true rfl
  · split
    · split
      · exact Nat.le_of_ble_eq_true rfl
      · rename_i h1 h2 h3
        show tk_v _ _ _ < 10000
        have a1 := ht (tk_st T t p)
        have a2 := tk_at_T (t := t) (show tk_st T t p < T by omega)
        have a3 := tk_at_lt (T := T) (t := t) (s := tk_st T t p)
        have a4 := ht (tk_st T t p + 1)
        unfold tk_v
        split <;> omega
    · show (0 : Nat) < 10000
      decide
set_option maxRecDepth 20000 in
set_option maxHeartbeats 4000000 in
theorem c_blame {d : Nat} {w : zW} {a b : Int32} : CT mX5_blame d [.ref 29, .int a, .int b] w (z_i fun x w' => 0 = x ∧ z_up (z_up w 29 1 a) 29 3 b = w') := by
  refine CT.of [some (.ref 29), some (.int a), some (.int b)] rfl (Nat.le_of_ble_eq_true rfl) rfl ?_
  refine r_aload_n 1 dX5_blame_0 rfl rfl ?_
  refine r_iload_n 2 dX5_blame_1 rfl rfl ?_
  refine r_puti 5 dX5_blame_2 fz_X5_30 fw_5_1 sh_29 rfl rfl ?_
  refine r_aload_n 6 dX5_blame_5 rfl rfl ?_
  refine r_iload_n 7 dX5_blame_6 rfl rfl ?_
  refine r_puti 10 dX5_blame_7 fz_X5_60 fw_5_3 sh_29 rfl rfl ?_
  refine r_iconst 11 (v := 0) dX5_blame_10 (by decide) rfl ?_
  exact r_iret .boolean dX5_blame_11 rfl (rfl) (⟨rfl, rfl⟩)
set_option maxRecDepth 20000 in
set_option maxHeartbeats 4000000 in
theorem c_blameToken {d y : Nat} {w : zW} {k : tkT} (hd : 1 ≤ d) (hk : tkW w k) (hk4 : tk_k k ≤ 4) : CT mX5_blameToken d [.ref 29, .int (nI y)] w (z_i fun x w' => 0 = x ∧ z_up (z_up w 29 1 (nI (bl k y).1)) 29 3 (nI (bl k y).2) = w') := by
  refine CT.of [some (.ref 29), some (.int (nI y))] rfl (Nat.le_of_ble_eq_true rfl) rfl ?_
  refine r_aload_n 1 dX5_blameToken_0 rfl rfl ?_
  refine r_aload_n 2 dX5_blameToken_1 rfl rfl ?_
  refine r_getr 5 dX5_blameToken_2 fz_X5_9 sh_29 rfl rfl ?_
  refine r_geti 8 dX5_blameToken_5 fz_X5_40 sh_27 rfl rfl ?_
  refine r_eq hk.2.1 ?_
  refine r_iconst 9 (v := 4) dX5_blameToken_8 (by decide) rfl ?_
  refine r_icmp_ne 16 12 dX5_blameToken_9 (by decide) rfl (fun g9 => ?_) (fun g9 => ?_)
  · have g9 : ¬ tk_k k = 4 := fun z => g9 (by rw [z]; rfl)
    refine r_iload_n 17 dX5_blameToken_16 rfl rfl ?_
    refine r_aload_n 18 dX5_blameToken_17 rfl rfl ?_
    refine r_getr 21 dX5_blameToken_18 fz_X5_9 sh_29 rfl rfl ?_
    refine r_geti 24 dX5_blameToken_21 fz_X5_151 sh_27 rfl rfl ?_
    refine r_eq hk.2.2.1 ?_
    refine r_callV (y2 := mX5_blame) (as := [_, _]) 27 dX5_blameToken_24 ml_X5_56 mv_X5_blame (c_blame (d := d - 1)) (by omega) sh_29 ⟨_, rfl, rfl⟩ rfl (Nat.le_of_ble_eq_true rfl) rfl (kk_i ?_)
    rintro _ _ ⟨rfl, rfl⟩
    exact r_iret .boolean dX5_blameToken_27 rfl (rfl) (⟨rfl, by first | (rw [bl, if_pos g9]; rfl) | (rw [bl, if_neg g9])⟩)
  · have g9 : tk_k k = 4 := kkN 4 hk4 (by decide) g9
    refine r_iconst 13 (v := 1) dX5_blameToken_12 (by decide) rfl ?_
    refine r_goto 17 dX5_blameToken_13 (by decide) ?_
    refine r_aload_n 18 dX5_blameToken_17 rfl rfl ?_
    refine r_getr 21 dX5_blameToken_18 fz_X5_9 sh_29 rfl rfl ?_
    refine r_geti 24 dX5_blameToken_21 fz_X5_151 sh_27 rfl rfl ?_
    refine r_eq hk.2.2.1 ?_
    refine r_callV (y2 := mX5_blame) (as := [_, _]) 27 dX5_blameToken_24 ml_X5_56 mv_X5_blame (c_blame (d := d - 1)) (by omega) sh_29 ⟨_, rfl, rfl⟩ rfl (Nat.le_of_ble_eq_true rfl) rfl (kk_i ?_)
    rintro _ _ ⟨rfl, rfl⟩
    exact r_iret .boolean dX5_blameToken_27 rfl (rfl) (⟨rfl, by first | (rw [bl, if_pos g9]; rfl) | (rw [bl, if_neg g9])⟩)
set_option maxRecDepth 20000 in
set_option maxHeartbeats 4000000 in
theorem c_takeNumber {d T p lo hi : Nat} {t : Nat → Nat} {w : zW} (hd : 3 ≤ d) (hlo : lo < 1000) (hhi : hi < 1000) (hT : tpW w T t) (hp : p ≤ T) (h2 : w 27 2 = nI p) : CT mX5_takeNumber d [.ref 29, .int (nI lo), .int (nI hi)] w (z_i fun x w' => frN w w' ∧ txR (pNum T t p lo hi) (fun v => tkW w' (tok T t p) ∧ w' 29 = w 29) w' x) := by
  refine CT.of [some (.ref 29), some (.int (nI lo)), some (.int (nI hi))] rfl (Nat.le_of_ble_eq_true rfl) rfl ?_
  refine r_aload_n 1 dX5_takeNumber_0 rfl rfl ?_
  refine r_getr 4 dX5_takeNumber_1 fz_X5_9 sh_29 rfl rfl ?_
  refine r_callV (y2 := mX4_next) (as := []) 7 dX5_takeNumber_4 ml_X5_37 mv_X4_next (c_next (d := d - 1) (by omega) hT hp h2) (by omega) sh_27 ⟨_, rfl, rfl⟩ rfl (Nat.le_of_ble_eq_true rfl) rfl (kk_v ?_)
  rintro w1 ⟨hk, hf⟩
  have hn := tok_n (p := p) (T := T) (t := t) (fun i => by by_cases q : i < T; exact Or.inl (hT.2.2 i q).2; exact Or.inr (by omega))
  refine r_aload_n 8 dX5_takeNumber_7 rfl rfl ?_
  refine r_getr 11 dX5_takeNumber_8 fz_X5_9 sh_29 rfl rfl ?_
  refine r_geti 14 dX5_takeNumber_11 fz_X5_40 sh_27 rfl rfl ?_
  refine r_eq hk.2.1 ?_
  refine r_iconst 15 (v := 1) dX5_takeNumber_14 (by decide) rfl ?_
  refine r_icmp_eq 24 18 dX5_takeNumber_15 (by decide) rfl (fun g15 => ?_) (fun g15 => ?_)
  · have g15 : tk_k (tok T t p) = 1 := kkN 1 tok_k4 (by decide) g15
    refine r_aload_n 25 dX5_takeNumber_24 rfl rfl ?_
    refine r_getr 28 dX5_takeNumber_25 fz_X5_9 sh_29 rfl rfl ?_
    refine r_geti 31 dX5_takeNumber_28 fz_X5_120 sh_27 rfl rfl ?_
    refine r_eq hk.2.2.2 ?_
    refine r_iload_n 32 dX5_takeNumber_31 rfl rfl ?_
    refine r_iload_n 33 dX5_takeNumber_32 rfl rfl ?_
    refine r_callSN (y2 := mX6_within) (as := [_, _, _]) 36 dX5_takeNumber_33 nx_X5_147 ms_X6_within (c_within (d := d - 1) _ _ _) (by omega) rfl (Nat.le_of_ble_eq_true rfl) rfl (kk_i ?_)
    rintro _ _ ⟨rfl, rfl⟩
    refine rb_ne 47 39 dX5_takeNumber_36 (by decide) rfl (fun g36 => ?_) (fun g36 => ?_)
    · have e : pNum T t p lo hi = .inr (tk_n (tok T t p), tk_a (tok T t p)) := by rw [pNum, if_pos g15, if_pos (by rw [ti_n (by omega), ti_n (by omega), ti_n (by omega)] at g36; omega)]
      refine r_iconst 48 (v := 1) dX5_takeNumber_47 (by decide) rfl ?_
      refine r_goto 52 dX5_takeNumber_48 (by decide) ?_
      exact r_iret .boolean dX5_takeNumber_52 rfl (rfl) (by first | exact ⟨frT.N hf, by rw [e]; exact ⟨rfl, hk, hf.2 29 (by decide)⟩⟩ | exact ⟨(frT.N hf).up.up, by rw [e]; exact ⟨rfl, eX_up⟩⟩)
    · have e : pNum T t p lo hi = .inl (bl (tok T t p) 3) := by rw [pNum, if_pos g15, if_neg (by rw [ti_n (by omega), ti_n (by omega), ti_n (by omega)] at g36; omega)]
      refine r_aload_n 40 dX5_takeNumber_39 rfl rfl ?_
      refine r_iconst 41 (v := 3) dX5_takeNumber_40 (by decide) rfl ?_
      refine r_callV (y2 := mX5_blameToken) (as := [_]) 44 dX5_takeNumber_41 ml_X5_104 mv_X5_blameToken (c_blameToken (d := d - 1) (y := 3) (by omega) hk tok_k4) (by omega) sh_29 ⟨_, rfl, rfl⟩ rfl (Nat.le_of_ble_eq_true rfl) rfl (kk_i ?_)
      rintro _ _ ⟨rfl, rfl⟩
      refine r_if_eq 51 47 dX5_takeNumber_44 (by decide) rfl (fun _ => ?_) (fun z => absurd (by decide) z)
      refine r_iconst 52 (v := 0) dX5_takeNumber_51 (by decide) rfl ?_
      exact r_iret .boolean dX5_takeNumber_52 rfl (rfl) (by first | exact ⟨frT.N hf, by rw [e]; exact ⟨rfl, hk, hf.2 29 (by decide)⟩⟩ | exact ⟨(frT.N hf).up.up, by rw [e]; exact ⟨rfl, eX_up⟩⟩)
  · have g15 : ¬ tk_k (tok T t p) = 1 := fun z => g15 (by rw [z]; rfl)
    have e : pNum T t p lo hi = .inl (bl (tok T t p) 2) := by rw [pNum, if_neg g15]
    refine r_aload_n 19 dX5_takeNumber_18 rfl rfl ?_
    refine r_iconst 20 (v := 2) dX5_takeNumber_19 (by decide) rfl ?_
    refine r_callV (y2 := mX5_blameToken) (as := [_]) 23 dX5_takeNumber_20 ml_X5_104 mv_X5_blameToken (c_blameToken (d := d - 1) (y := 2) (by omega) hk tok_k4) (by omega) sh_29 ⟨_, rfl, rfl⟩ rfl (Nat.le_of_ble_eq_true rfl) rfl (kk_i ?_)
    rintro _ _ ⟨rfl, rfl⟩
    exact r_iret .boolean dX5_takeNumber_23 rfl (rfl) (⟨(frT.N hf).up.up, by rw [e]; exact ⟨rfl, eX_up⟩⟩)
set_option maxRecDepth 20000 in
set_option maxHeartbeats 4000000 in
theorem c_takeStop {d T p : Nat} {t : Nat → Nat} {w : zW} (hd : 3 ≤ d) (hT : tpW w T t) (hp : p ≤ T) (h2 : w 27 2 = nI p) : CT mX5_takeStop d [.ref 29] w (z_i fun x w' => frN w w' ∧ txR (pStop T t p) (fun v => w' 27 2 = nI v ∧ w' 29 = w 29) w' x) := by
  refine CT.of [some (.ref 29)] rfl (Nat.le_of_ble_eq_true rfl) rfl ?_
  refine r_aload_n 1 dX5_takeStop_0 rfl rfl ?_
  refine r_getr 4 dX5_takeStop_1 fz_X5_9 sh_29 rfl rfl ?_
  refine r_callV (y2 := mX4_next) (as := []) 7 dX5_takeStop_4 ml_X5_37 mv_X4_next (c_next (d := d - 1) (by omega) hT hp h2) (by omega) sh_27 ⟨_, rfl, rfl⟩ rfl (Nat.le_of_ble_eq_true rfl) rfl (kk_v ?_)
  rintro w1 ⟨hk, hf⟩
  refine r_aload_n 8 dX5_takeStop_7 rfl rfl ?_
  refine r_getr 11 dX5_takeStop_8 fz_X5_9 sh_29 rfl rfl ?_
  refine r_geti 14 dX5_takeStop_11 fz_X5_40 sh_27 rfl rfl ?_
  refine r_eq hk.2.1 ?_
  refine r_iconst 15 (v := 2) dX5_takeStop_14 (by decide) rfl ?_
  refine r_icmp_eq 26 18 dX5_takeStop_15 (by decide) rfl (fun g15 => ?_) (fun g15 => ?_)
  · have g15 : tk_k (tok T t p) = 2 := kkN 2 tok_k4 (by decide) g15
    have e : pStop T t p = .inr (tk_a (tok T t p)) := by rw [pStop, if_pos g15]
    refine r_iconst 27 (v := 1) dX5_takeStop_26 (by decide) rfl ?_
    refine r_goto 31 dX5_takeStop_27 (by decide) ?_
    exact r_iret .boolean dX5_takeStop_31 rfl (rfl) (by first | exact ⟨frT.N hf, by rw [e]; exact ⟨rfl, hk.1, hf.2 29 (by decide)⟩⟩ | exact ⟨(frT.N hf).up.up, by rw [e]; exact ⟨rfl, eX_up⟩⟩)
  · have g15 : ¬ tk_k (tok T t p) = 2 := fun z => g15 (by rw [z]; rfl)
    have e : pStop T t p = .inl (bl (tok T t p) 2) := by rw [pStop, if_neg g15]
    refine r_aload_n 19 dX5_takeStop_18 rfl rfl ?_
    refine r_iconst 20 (v := 2) dX5_takeStop_19 (by decide) rfl ?_
    refine r_callV (y2 := mX5_blameToken) (as := [_]) 23 dX5_takeStop_20 ml_X5_104 mv_X5_blameToken (c_blameToken (d := d - 1) (y := 2) (by omega) hk tok_k4) (by omega) sh_29 ⟨_, rfl, rfl⟩ rfl (Nat.le_of_ble_eq_true rfl) rfl (kk_i ?_)
    rintro _ _ ⟨rfl, rfl⟩
    refine r_if_eq 30 26 dX5_takeStop_23 (by decide) rfl (fun _ => ?_) (fun z => absurd (by decide) z)
    refine r_iconst 31 (v := 0) dX5_takeStop_30 (by decide) rfl ?_
    exact r_iret .boolean dX5_takeStop_31 rfl (rfl) (by first | exact ⟨frT.N hf, by rw [e]; exact ⟨rfl, hk.1, hf.2 29 (by decide)⟩⟩ | exact ⟨(frT.N hf).up.up, by rw [e]; exact ⟨rfl, eX_up⟩⟩)
set_option maxRecDepth 20000 in
set_option maxHeartbeats 4000000 in
theorem l_cargo1 {d T p b : Nat} {t : Nat → Nat} {w w1 : zW} {c : Nat} (hc : c < 10) (hd : 5 ≤ d) (hb : b < 6) (h29 : w1 29 = w 29) (hf : frT w w1) (hk : tkW w1 (tok T t p)) (e : pCargo T t p = .inr (c, tk_a (tok T t p))) : WP mX5_takeCargo d (z_T (z_i fun x w' => (∀ q, q < 2 ∨ 5 < q → w' 27 q = w 27 q) ∧ (∀ a, a ≠ 27 → a ≠ 29 → a ≠ 23 → w' a = w a) ∧ txR (pCargo T t p) (fun v => w' 27 2 = nI v.2 ∧ w' 29 = w 29 ∧ w' 23 (b * 5 + 1) = nI v.1 ∧ ∀ j, j ≠ b * 5 + 1 → w' 23 j = w 23 j) w' x)) 73 [some (.ref 29), some (.int (nI b)), none] [.int (nI c)] w1 := by
  refine r_istore_n 74 (L' := [_, _, _]) dX5_takeCargo_73 (by decide) rfl rfl rfl ?_
  refine r_iload_n 75 dX5_takeCargo_74 rfl rfl ?_
  refine r_bipush 77 (v := -4) dX5_takeCargo_75 (by decide) rfl ?_
  refine r_icmp_ne 86 80 dX5_takeCargo_77 (by decide) rfl (fun _ => ?_) (fun z => absurd z (fun z => by rcases (by omega : c = 0 ∨ c = 1 ∨ c = 2 ∨ c = 3 ∨ c = 4 ∨ c = 5 ∨ c = 6 ∨ c = 7 ∨ c = 8 ∨ c = 9) with rfl | rfl | rfl | rfl | rfl | rfl | rfl | rfl | rfl | rfl <;> exact absurd z (by decide)))
  refine r_aload_n 87 dX5_takeCargo_86 rfl rfl ?_
  refine r_getr 90 dX5_takeCargo_87 fz_X5_18 sh_29 rfl rfl ?_
  refine r_iload_n 91 dX5_takeCargo_90 rfl rfl ?_
  refine r_iconst 92 (v := 1) dX5_takeCargo_91 (by decide) rfl ?_
  refine r_iload_n 93 dX5_takeCargo_92 rfl rfl ?_
  refine r_callV (y2 := mX1_setMark) (as := [_, _, _]) 96 dX5_takeCargo_93 ml_X5_107 mv_X1_setMark (c_setMark (d := d - 1) (B := 21) isL21 (i := b) (j := 1) hb (by decide)) (by omega) sh_21 ⟨_, rfl, rfl⟩ rfl (Nat.le_of_ble_eq_true rfl) rfl (kk_v ?_)
  rintro w2 e2
  have e2 : w2 = z_up w1 23 (b * 5 + 1) (nI c) := e2.symm
  refine r_iconst 97 (v := 1) dX5_takeCargo_96 (by decide) rfl ?_
  exact r_iret .boolean dX5_takeCargo_97 rfl (rfl) (⟨fun q hq => by rw [e2, z_up_a (by decide)]; exact hf.1 q hq, fun a h1 h2 h3 => by rw [e2, z_up_o h3]; exact hf.2 a h1, by rw [e]; exact ⟨rfl, by rw [e2, z_up_a (by decide)]; exact hk.1, by rw [e2, z_up_o (by decide)]; exact h29, by rw [e2, z_up_s], fun j hj => by rw [e2, z_up_i hj, hf.2 23 (by decide)]⟩⟩)
set_option maxRecDepth 20000 in
set_option maxHeartbeats 4000000 in
theorem l_cargo0 {d T p b : Nat} {t : Nat → Nat} {w w1 : zW} (hd : 5 ≤ d) (hb : b < 6) (h29 : w1 29 = w 29) (hf : frT w w1) (hk : tkW w1 (tok T t p)) (e : pCargo T t p = .inl (bl (tok T t p) 2)) : WP mX5_takeCargo d (z_T (z_i fun x w' => (∀ q, q < 2 ∨ 5 < q → w' 27 q = w 27 q) ∧ (∀ a, a ≠ 27 → a ≠ 29 → a ≠ 23 → w' a = w a) ∧ txR (pCargo T t p) (fun v => w' 27 2 = nI v.2 ∧ w' 29 = w 29 ∧ w' 23 (b * 5 + 1) = nI v.1 ∧ ∀ j, j ≠ b * 5 + 1 → w' 23 j = w 23 j) w' x)) 73 [some (.ref 29), some (.int (nI b)), none] [.int (-4)] w1 := by
  refine r_istore_n 74 (L' := [_, _, _]) dX5_takeCargo_73 (by decide) rfl rfl rfl ?_
  refine r_iload_n 75 dX5_takeCargo_74 rfl rfl ?_
  refine r_bipush 77 (v := -4) dX5_takeCargo_75 (by decide) rfl ?_
  refine r_icmp_ne 86 80 dX5_takeCargo_77 (by decide) rfl (fun z => absurd (rfl) z) (fun _ => ?_)
  refine r_aload_n 81 dX5_takeCargo_80 rfl rfl ?_
  refine r_iconst 82 (v := 2) dX5_takeCargo_81 (by decide) rfl ?_
  refine r_callV (y2 := mX5_blameToken) (as := [_]) 85 dX5_takeCargo_82 ml_X5_104 mv_X5_blameToken (c_blameToken (d := d - 1) (y := 2) (by omega) hk tok_k4) (by omega) sh_29 ⟨_, rfl, rfl⟩ rfl (Nat.le_of_ble_eq_true rfl) rfl (kk_i ?_)
  rintro _ _ ⟨rfl, rfl⟩
  exact r_iret .boolean dX5_takeCargo_85 rfl (rfl) (⟨(frT.N hf).up.up.1, fun a h1 h2 _ => (frT.N hf).up.up.2 a h1 h2, by rw [e]; exact ⟨rfl, eX_up⟩⟩)
set_option maxRecDepth 20000 in
set_option maxHeartbeats 4000000 in
theorem c_takecargo {d T p b : Nat} {t : Nat → Nat} {w : zW} (hd : 5 ≤ d) (hb : b < 6) (hT : tpW w T t) (hp : p ≤ T) (h2 : w 27 2 = nI p) : CT mX5_takeCargo d [.ref 29, .int (nI b)] w (z_i fun x w' => (∀ q, q < 2 ∨ 5 < q → w' 27 q = w 27 q) ∧ (∀ a, a ≠ 27 → a ≠ 29 → a ≠ 23 → w' a = w a) ∧ txR (pCargo T t p) (fun v => w' 27 2 = nI v.2 ∧ w' 29 = w 29 ∧ w' 23 (b * 5 + 1) = nI v.1 ∧ ∀ j, j ≠ b * 5 + 1 → w' 23 j = w 23 j) w' x) := by
  refine CT.of [some (.ref 29), some (.int (nI b)), none] rfl (Nat.le_of_ble_eq_true rfl) rfl ?_
  refine r_aload_n 1 dX5_takeCargo_0 rfl rfl ?_
  refine r_getr 4 dX5_takeCargo_1 fz_X5_9 sh_29 rfl rfl ?_
  refine r_callV (y2 := mX4_next) (as := []) 7 dX5_takeCargo_4 ml_X5_37 mv_X4_next (c_next (d := d - 1) (by omega) hT hp h2) (by omega) sh_27 ⟨_, rfl, rfl⟩ rfl (Nat.le_of_ble_eq_true rfl) rfl (kk_v ?_)
  rintro w1 ⟨hk, hf⟩
  have hT1 := hT.fr hf
  have hta := tok_T (t := t) hp
  have h29 := hf.2 29 (by decide)
  refine r_aload_n 8 dX5_takeCargo_7 rfl rfl ?_
  refine r_getr 11 dX5_takeCargo_8 fz_X5_9 sh_29 rfl rfl ?_
  refine r_ldcS (i := 7) 13 dX5_takeCargo_11 rfl (by decide) rfl rfl ?_
  refine r_callV (y2 := mX4_isName) (as := [_]) 16 dX5_takeCargo_13 ml_X5_65 mv_X4_isName (c_isName (d := d - 1) (i := 7) (t := t) (k := tok T t p) (T := T) (by omega) (by decide) hT1 hk hta.1 hta.2.2 tok_k4) (by omega) sh_27 ⟨_, rfl, rfl⟩ rfl (Nat.le_of_ble_eq_true rfl) rfl (kk_i ?_)
  rintro _ _ ⟨rfl, rfl⟩
  refine rb_eq 23 19 dX5_takeCargo_16 (by decide) rfl (fun g16 => ?_) (fun g16 => ?_)
  · refine r_aload_n 24 dX5_takeCargo_23 rfl rfl ?_
    refine r_getr 27 dX5_takeCargo_24 fz_X5_9 sh_29 rfl rfl ?_
    refine r_ldcS (i := 8) 29 dX5_takeCargo_27 rfl (by decide) rfl rfl ?_
    refine r_callV (y2 := mX4_isName) (as := [_]) 32 dX5_takeCargo_29 ml_X5_65 mv_X4_isName (c_isName (d := d - 1) (i := 8) (t := t) (k := tok T t p) (T := T) (by omega) (by decide) hT1 hk hta.1 hta.2.2 tok_k4) (by omega) sh_27 ⟨_, rfl, rfl⟩ rfl (Nat.le_of_ble_eq_true rfl) rfl (kk_i ?_)
    rintro _ _ ⟨rfl, rfl⟩
    refine rb_eq 39 35 dX5_takeCargo_32 (by decide) rfl (fun g32 => ?_) (fun g32 => ?_)
    · refine r_aload_n 40 dX5_takeCargo_39 rfl rfl ?_
      refine r_getr 43 dX5_takeCargo_40 fz_X5_9 sh_29 rfl rfl ?_
      refine r_ldcS (i := 9) 45 dX5_takeCargo_43 rfl (by decide) rfl rfl ?_
      refine r_callV (y2 := mX4_isName) (as := [_]) 48 dX5_takeCargo_45 ml_X5_65 mv_X4_isName (c_isName (d := d - 1) (i := 9) (t := t) (k := tok T t p) (T := T) (by omega) (by decide) hT1 hk hta.1 hta.2.2 tok_k4) (by omega) sh_27 ⟨_, rfl, rfl⟩ rfl (Nat.le_of_ble_eq_true rfl) rfl (kk_i ?_)
      rintro _ _ ⟨rfl, rfl⟩
      refine rb_eq 55 51 dX5_takeCargo_48 (by decide) rfl (fun g48 => ?_) (fun g48 => ?_)
      · refine r_aload_n 56 dX5_takeCargo_55 rfl rfl ?_
        refine r_getr 59 dX5_takeCargo_56 fz_X5_9 sh_29 rfl rfl ?_
        refine r_ldcS (i := 10) 61 dX5_takeCargo_59 rfl (by decide) rfl rfl ?_
        refine r_callV (y2 := mX4_isName) (as := [_]) 64 dX5_takeCargo_61 ml_X5_65 mv_X4_isName (c_isName (d := d - 1) (i := 10) (t := t) (k := tok T t p) (T := T) (by omega) (by decide) hT1 hk hta.1 hta.2.2 tok_k4) (by omega) sh_27 ⟨_, rfl, rfl⟩ rfl (Nat.le_of_ble_eq_true rfl) rfl (kk_i ?_)
        rintro _ _ ⟨rfl, rfl⟩
        refine rb_eq 71 67 dX5_takeCargo_64 (by decide) rfl (fun g64 => ?_) (fun g64 => ?_)
        · refine r_bipush 73 (v := -4) dX5_takeCargo_71 (by decide) rfl ?_
          exact l_cargo0 hd hb h29 hf hk (by rw [pCargo, show cgN t (tok T t p) = none by rw [cgN, if_neg g16, if_neg g32, if_neg g48, if_neg g64]])
        · refine r_iconst 68 (v := 3) dX5_takeCargo_67 (by decide) rfl ?_
          refine r_goto 73 dX5_takeCargo_68 (by decide) ?_
          exact l_cargo1 (c := 3) (by decide) hd hb h29 hf hk (by rw [pCargo, show cgN t (tok T t p) = some 3 by rw [cgN, if_neg g16, if_neg g32, if_neg g48, if_pos g64]])
      · refine r_iconst 52 (v := 2) dX5_takeCargo_51 (by decide) rfl ?_
        refine r_goto 73 dX5_takeCargo_52 (by decide) ?_
        exact l_cargo1 (c := 2) (by decide) hd hb h29 hf hk (by rw [pCargo, show cgN t (tok T t p) = some 2 by rw [cgN, if_neg g16, if_neg g32, if_pos g48]])
    · refine r_iconst 36 (v := 1) dX5_takeCargo_35 (by decide) rfl ?_
      refine r_goto 73 dX5_takeCargo_36 (by decide) ?_
      exact l_cargo1 (c := 1) (by decide) hd hb h29 hf hk (by rw [pCargo, show cgN t (tok T t p) = some 1 by rw [cgN, if_neg g16, if_pos g32]])
  · refine r_iconst 20 (v := 0) dX5_takeCargo_19 (by decide) rfl ?_
    refine r_goto 73 dX5_takeCargo_20 (by decide) ?_
    exact l_cargo1 (c := 0) (by decide) hd hb h29 hf hk (by rw [pCargo, show cgN t (tok T t p) = some 0 by rw [cgN, if_pos g16]])
set_option maxRecDepth 20000 in
set_option maxHeartbeats 4000000 in
theorem l_law1 {d T p : Nat} {t : Nat → Nat} {w w1 : zW} {c : Nat} (hc : c < 10) (hd : 5 ≤ d) (h29 : w1 29 = w 29) (hf : frT w w1) (hk : tkW w1 (tok T t p)) (e : pLaw T t p = .inr (c, tk_a (tok T t p))) : WP mX5_takeLaw d (z_T (z_i fun x w' => (∀ q, q < 2 ∨ 5 < q → w' 27 q = w 27 q) ∧ (∀ a, a ≠ 27 → a ≠ 29 → a ≠ 22 → w' a = w a) ∧ txR (pLaw T t p) (fun v => w' 27 2 = nI v.2 ∧ w' 29 = w 29 ∧ w' 22 3 = nI v.1 ∧ ∀ j, j ≠ 3 → w' 22 j = w 22 j) w' x)) 89 [some (.ref 29), none] [.int (nI c)] w1 := by
  refine r_istore_n 90 (L' := [_, _]) dX5_takeLaw_89 (by decide) rfl rfl rfl ?_
  refine r_iload_n 91 dX5_takeLaw_90 rfl rfl ?_
  refine r_bipush 93 (v := -4) dX5_takeLaw_91 (by decide) rfl ?_
  refine r_icmp_ne 102 96 dX5_takeLaw_93 (by decide) rfl (fun _ => ?_) (fun z => absurd z (fun z => by rcases (by omega : c = 0 ∨ c = 1 ∨ c = 2 ∨ c = 3 ∨ c = 4 ∨ c = 5 ∨ c = 6 ∨ c = 7 ∨ c = 8 ∨ c = 9) with rfl | rfl | rfl | rfl | rfl | rfl | rfl | rfl | rfl | rfl <;> exact absurd z (by decide)))
  refine r_aload_n 103 dX5_takeLaw_102 rfl rfl ?_
  refine r_getr 106 dX5_takeLaw_103 fz_X5_18 sh_29 rfl rfl ?_
  refine r_getr 109 dX5_takeLaw_106 fz_X5_100 sh_21 rfl rfl ?_
  refine r_iconst 110 (v := 3) dX5_takeLaw_109 (by decide) rfl ?_
  refine r_iload_n 111 dX5_takeLaw_110 rfl rfl ?_
  refine rj_iast 112 (3) dX5_takeLaw_111 sh_22 (rfl) (by decide) (by decide) rfl ?_
  refine r_nw (fun w2 e2 => ?_)
  refine r_iconst 113 (v := 1) dX5_takeLaw_112 (by decide) rfl ?_
  exact r_iret .boolean dX5_takeLaw_113 rfl (rfl) (⟨fun q hq => by rw [e2, z_up_a (by decide)]; exact hf.1 q hq, fun a h1 h2 h3 => by rw [e2, z_up_o h3]; exact hf.2 a h1, by rw [e]; exact ⟨rfl, by rw [e2, z_up_a (by decide)]; exact hk.1, by rw [e2, z_up_o (by decide)]; exact h29, by rw [e2, z_up_s], fun j hj => by rw [e2, z_up_i hj, hf.2 22 (by decide)]⟩⟩)
set_option maxRecDepth 20000 in
set_option maxHeartbeats 4000000 in
theorem l_law0 {d T p : Nat} {t : Nat → Nat} {w w1 : zW} (hd : 5 ≤ d) (h29 : w1 29 = w 29) (hf : frT w w1) (hk : tkW w1 (tok T t p)) (e : pLaw T t p = .inl (bl (tok T t p) 2)) : WP mX5_takeLaw d (z_T (z_i fun x w' => (∀ q, q < 2 ∨ 5 < q → w' 27 q = w 27 q) ∧ (∀ a, a ≠ 27 → a ≠ 29 → a ≠ 22 → w' a = w a) ∧ txR (pLaw T t p) (fun v => w' 27 2 = nI v.2 ∧ w' 29 = w 29 ∧ w' 22 3 = nI v.1 ∧ ∀ j, j ≠ 3 → w' 22 j = w 22 j) w' x)) 89 [some (.ref 29), none] [.int (-4)] w1 := by
  refine r_istore_n 90 (L' := [_, _]) dX5_takeLaw_89 (by decide) rfl rfl rfl ?_
  refine r_iload_n 91 dX5_takeLaw_90 rfl rfl ?_
  refine r_bipush 93 (v := -4) dX5_takeLaw_91 (by decide) rfl ?_
  refine r_icmp_ne 102 96 dX5_takeLaw_93 (by decide) rfl (fun z => absurd (rfl) z) (fun _ => ?_)
  refine r_aload_n 97 dX5_takeLaw_96 rfl rfl ?_
  refine r_iconst 98 (v := 2) dX5_takeLaw_97 (by decide) rfl ?_
  refine r_callV (y2 := mX5_blameToken) (as := [_]) 101 dX5_takeLaw_98 ml_X5_104 mv_X5_blameToken (c_blameToken (d := d - 1) (y := 2) (by omega) hk tok_k4) (by omega) sh_29 ⟨_, rfl, rfl⟩ rfl (Nat.le_of_ble_eq_true rfl) rfl (kk_i ?_)
  rintro _ _ ⟨rfl, rfl⟩
  exact r_iret .boolean dX5_takeLaw_101 rfl (rfl) (⟨(frT.N hf).up.up.1, fun a h1 h2 _ => (frT.N hf).up.up.2 a h1 h2, by rw [e]; exact ⟨rfl, eX_up⟩⟩)
set_option maxRecDepth 20000 in
set_option maxHeartbeats 4000000 in
theorem c_takelaw {d T p : Nat} {t : Nat → Nat} {w : zW} (hd : 5 ≤ d) (hT : tpW w T t) (hp : p ≤ T) (h2 : w 27 2 = nI p) : CT mX5_takeLaw d [.ref 29] w (z_i fun x w' => (∀ q, q < 2 ∨ 5 < q → w' 27 q = w 27 q) ∧ (∀ a, a ≠ 27 → a ≠ 29 → a ≠ 22 → w' a = w a) ∧ txR (pLaw T t p) (fun v => w' 27 2 = nI v.2 ∧ w' 29 = w 29 ∧ w' 22 3 = nI v.1 ∧ ∀ j, j ≠ 3 → w' 22 j = w 22 j) w' x) := by
  refine CT.of [some (.ref 29), none] rfl (Nat.le_of_ble_eq_true rfl) rfl ?_
  refine r_aload_n 1 dX5_takeLaw_0 rfl rfl ?_
  refine r_getr 4 dX5_takeLaw_1 fz_X5_9 sh_29 rfl rfl ?_
  refine r_callV (y2 := mX4_next) (as := []) 7 dX5_takeLaw_4 ml_X5_37 mv_X4_next (c_next (d := d - 1) (by omega) hT hp h2) (by omega) sh_27 ⟨_, rfl, rfl⟩ rfl (Nat.le_of_ble_eq_true rfl) rfl (kk_v ?_)
  rintro w1 ⟨hk, hf⟩
  have hT1 := hT.fr hf
  have hta := tok_T (t := t) hp
  have h29 := hf.2 29 (by decide)
  refine r_aload_n 8 dX5_takeLaw_7 rfl rfl ?_
  refine r_getr 11 dX5_takeLaw_8 fz_X5_9 sh_29 rfl rfl ?_
  refine r_ldcS (i := 11) 13 dX5_takeLaw_11 rfl (by decide) rfl rfl ?_
  refine r_callV (y2 := mX4_isName) (as := [_]) 16 dX5_takeLaw_13 ml_X5_65 mv_X4_isName (c_isName (d := d - 1) (i := 11) (t := t) (k := tok T t p) (T := T) (by omega) (by decide) hT1 hk hta.1 hta.2.2 tok_k4) (by omega) sh_27 ⟨_, rfl, rfl⟩ rfl (Nat.le_of_ble_eq_true rfl) rfl (kk_i ?_)
  rintro _ _ ⟨rfl, rfl⟩
  refine rb_eq 23 19 dX5_takeLaw_16 (by decide) rfl (fun g16 => ?_) (fun g16 => ?_)
  · refine r_aload_n 24 dX5_takeLaw_23 rfl rfl ?_
    refine r_getr 27 dX5_takeLaw_24 fz_X5_9 sh_29 rfl rfl ?_
    refine r_ldcS (i := 12) 29 dX5_takeLaw_27 rfl (by decide) rfl rfl ?_
    refine r_callV (y2 := mX4_isName) (as := [_]) 32 dX5_takeLaw_29 ml_X5_65 mv_X4_isName (c_isName (d := d - 1) (i := 12) (t := t) (k := tok T t p) (T := T) (by omega) (by decide) hT1 hk hta.1 hta.2.2 tok_k4) (by omega) sh_27 ⟨_, rfl, rfl⟩ rfl (Nat.le_of_ble_eq_true rfl) rfl (kk_i ?_)
    rintro _ _ ⟨rfl, rfl⟩
    refine rb_eq 39 35 dX5_takeLaw_32 (by decide) rfl (fun g32 => ?_) (fun g32 => ?_)
    · refine r_aload_n 40 dX5_takeLaw_39 rfl rfl ?_
      refine r_getr 43 dX5_takeLaw_40 fz_X5_9 sh_29 rfl rfl ?_
      refine r_ldcS (i := 13) 45 dX5_takeLaw_43 rfl (by decide) rfl rfl ?_
      refine r_callV (y2 := mX4_isName) (as := [_]) 48 dX5_takeLaw_45 ml_X5_65 mv_X4_isName (c_isName (d := d - 1) (i := 13) (t := t) (k := tok T t p) (T := T) (by omega) (by decide) hT1 hk hta.1 hta.2.2 tok_k4) (by omega) sh_27 ⟨_, rfl, rfl⟩ rfl (Nat.le_of_ble_eq_true rfl) rfl (kk_i ?_)
      rintro _ _ ⟨rfl, rfl⟩
      refine rb_eq 55 51 dX5_takeLaw_48 (by decide) rfl (fun g48 => ?_) (fun g48 => ?_)
      · refine r_aload_n 56 dX5_takeLaw_55 rfl rfl ?_
        refine r_getr 59 dX5_takeLaw_56 fz_X5_9 sh_29 rfl rfl ?_
        refine r_ldcS (i := 14) 61 dX5_takeLaw_59 rfl (by decide) rfl rfl ?_
        refine r_callV (y2 := mX4_isName) (as := [_]) 64 dX5_takeLaw_61 ml_X5_65 mv_X4_isName (c_isName (d := d - 1) (i := 14) (t := t) (k := tok T t p) (T := T) (by omega) (by decide) hT1 hk hta.1 hta.2.2 tok_k4) (by omega) sh_27 ⟨_, rfl, rfl⟩ rfl (Nat.le_of_ble_eq_true rfl) rfl (kk_i ?_)
        rintro _ _ ⟨rfl, rfl⟩
        refine rb_eq 71 67 dX5_takeLaw_64 (by decide) rfl (fun g64 => ?_) (fun g64 => ?_)
        · refine r_aload_n 72 dX5_takeLaw_71 rfl rfl ?_
          refine r_getr 75 dX5_takeLaw_72 fz_X5_9 sh_29 rfl rfl ?_
          refine r_ldcS (i := 15) 77 dX5_takeLaw_75 rfl (by decide) rfl rfl ?_
          refine r_callV (y2 := mX4_isName) (as := [_]) 80 dX5_takeLaw_77 ml_X5_65 mv_X4_isName (c_isName (d := d - 1) (i := 15) (t := t) (k := tok T t p) (T := T) (by omega) (by decide) hT1 hk hta.1 hta.2.2 tok_k4) (by omega) sh_27 ⟨_, rfl, rfl⟩ rfl (Nat.le_of_ble_eq_true rfl) rfl (kk_i ?_)
          rintro _ _ ⟨rfl, rfl⟩
          refine rb_eq 87 83 dX5_takeLaw_80 (by decide) rfl (fun g80 => ?_) (fun g80 => ?_)
          · refine r_bipush 89 (v := -4) dX5_takeLaw_87 (by decide) rfl ?_
            exact l_law0 hd  h29 hf hk (by rw [pLaw, show lwN t (tok T t p) = none by rw [lwN, if_neg g16, if_neg g32, if_neg g48, if_neg g64, if_neg g80]])
          · refine r_iconst 84 (v := 4) dX5_takeLaw_83 (by decide) rfl ?_
            refine r_goto 89 dX5_takeLaw_84 (by decide) ?_
            exact l_law1 (c := 4) (by decide) hd  h29 hf hk (by rw [pLaw, show lwN t (tok T t p) = some 4 by rw [lwN, if_neg g16, if_neg g32, if_neg g48, if_neg g64, if_pos g80]])
        · refine r_iconst 68 (v := 3) dX5_takeLaw_67 (by decide) rfl ?_
          refine r_goto 89 dX5_takeLaw_68 (by decide) ?_
          exact l_law1 (c := 3) (by decide) hd  h29 hf hk (by rw [pLaw, show lwN t (tok T t p) = some 3 by rw [lwN, if_neg g16, if_neg g32, if_neg g48, if_pos g64]])
      · refine r_iconst 52 (v := 2) dX5_takeLaw_51 (by decide) rfl ?_
        refine r_goto 89 dX5_takeLaw_52 (by decide) ?_
        exact l_law1 (c := 2) (by decide) hd  h29 hf hk (by rw [pLaw, show lwN t (tok T t p) = some 2 by rw [lwN, if_neg g16, if_neg g32, if_pos g48]])
    · refine r_iconst 36 (v := 1) dX5_takeLaw_35 (by decide) rfl ?_
      refine r_goto 89 dX5_takeLaw_36 (by decide) ?_
      exact l_law1 (c := 1) (by decide) hd  h29 hf hk (by rw [pLaw, show lwN t (tok T t p) = some 1 by rw [lwN, if_neg g16, if_pos g32]])
  · refine r_iconst 20 (v := 0) dX5_takeLaw_19 (by decide) rfl ?_
    refine r_goto 89 dX5_takeLaw_20 (by decide) ?_
    exact l_law1 (c := 0) (by decide) hd  h29 hf hk (by rw [pLaw, show lwN t (tok T t p) = some 0 by rw [lwN, if_pos g16]])
theorem m_and : ∀ m, m < 16 → ∀ j, j < 4 → (nI m &&& nI (2 ^ j) = 0 ↔ ¬ bi m j = 1) := by decide +kernel
theorem m_or : ∀ m, m < 16 → ∀ j, j < 4 → ¬ bi m j = 1 → nI m ||| nI (2 ^ j) = nI (m + 2 ^ j) := by decide +kernel
set_option maxRecDepth 20000 in
set_option maxHeartbeats 4000000 in
theorem c_isFirst {d m j T p : Nat} {t : Nat → Nat} {w : zW} (hd : 2 ≤ d) (hm : m < 16) (hj : j < 4) (hk : tkW w (tok T t p)) (h4 : w 29 4 = nI m) : CT mX5_isFirst d [.ref 29, .int (nI (2 ^ j))] w (z_i fun x w' => (∀ a, a ≠ 29 → w' a = w a) ∧ txR (if bi m j = 1 then .inl (bl (tok T t p) 4) else .inr 0) (fun (_ : Nat) => w' 29 4 = nI (m + 2 ^ j) ∧ w' 29 1 = w 29 1) w' x) := by
  refine CT.of [some (.ref 29), some (.int (nI (2 ^ j)))] rfl (Nat.le_of_ble_eq_true rfl) rfl ?_
  refine r_aload_n 1 dX5_isFirst_0 rfl rfl ?_
  refine r_geti 4 dX5_isFirst_1 fz_X5_34 sh_29 rfl rfl ?_
  refine r_eq h4 ?_
  refine r_iload_n 5 dX5_isFirst_4 rfl rfl ?_
  refine r_iand 6 dX5_isFirst_5 rfl ?_
  refine r_if_eq 15 9 dX5_isFirst_6 (by decide) rfl (fun g6 => ?_) (fun g6 => ?_)
  · have g6 := (m_and m hm j hj).mp g6
    refine r_aload_n 16 dX5_isFirst_15 rfl rfl ?_
    refine r_dup 17 dX5_isFirst_16 rfl rfl ?_
    refine r_geti 20 dX5_isFirst_17 fz_X5_34 sh_29 rfl rfl ?_
    refine r_eq h4 ?_
    refine r_iload_n 21 dX5_isFirst_20 rfl rfl ?_
    refine r_ior 22 dX5_isFirst_21 rfl ?_
    refine r_eq (m_or m hm j hj g6) ?_
    refine r_puti 25 dX5_isFirst_22 fz_X5_34 fw_5_4 sh_29 rfl rfl ?_
    refine r_iconst 26 (v := 1) dX5_isFirst_25 (by decide) rfl ?_
    exact r_iret .boolean dX5_isFirst_26 rfl (rfl) (⟨fun a ha => z_up_o ha, by rw [if_neg g6]; exact ⟨rfl, z_up_s, z_up_i (by decide)⟩⟩)
  · have g6 : bi m j = 1 := Classical.byContradiction fun z => g6 ((m_and m hm j hj).mpr z)
    refine r_aload_n 10 dX5_isFirst_9 rfl rfl ?_
    refine r_iconst 11 (v := 4) dX5_isFirst_10 (by decide) rfl ?_
    refine r_callV (y2 := mX5_blameToken) (as := [_]) 14 dX5_isFirst_11 ml_X5_104 mv_X5_blameToken (c_blameToken (d := d - 1) (y := 4) (by omega) hk tok_k4) (by omega) sh_29 ⟨_, rfl, rfl⟩ rfl (Nat.le_of_ble_eq_true rfl) rfl (kk_i ?_)
    rintro _ _ ⟨rfl, rfl⟩
    exact r_iret .boolean dX5_isFirst_14 rfl (rfl) (⟨fun a ha => by rw [z_up_o ha, z_up_o ha], by rw [if_pos g6]; exact ⟨rfl, eX_up⟩⟩)

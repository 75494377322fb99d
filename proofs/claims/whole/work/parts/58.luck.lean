/-! ===== the class: mean, luck, by their cases ===== -/
def ACl (y : zM) (d : Nat) (as : List Value) (w : zW) (r : Int64 × sT) : Prop := CT y d (.ref 0 :: as) w (z_l fun x w' => r.1 = x ∧ RC w' r.2 ∧ ∀ a, 49 < a → w' a = w a)
def AMl (y : zM) (d : Nat) (as : List Value) (w : zW) (r : Int64 × sT) : Prop := CT y d (.ref 50 :: as) w (z_l fun x w' => r.1 = x ∧ RM w' r.2 ∧ ∀ a, a < 50 → w' a = w a)
/-- in how many of ten to the liars: just these -/
def wtP (L v g : Nat) : Nat → Nat
  | 0 => 1
  | b + 1 => wtP L v g b * (if bi L b = 1 then (if bi g b = 1 then v else 10 - v) else 1)
def wtA (L : Nat) : Nat → Nat
  | 0 => 1
  | b + 1 => wtA L b * (if bi L b = 1 then 10 else 1)
def sb (L g : Nat) : Bool := (g &&& (63 - L)) == 0
theorem wtP_le {L v g : Nat} (hv : v ≤ 10) : ∀ b, wtP L v g b ≤ 10 ^ b := by
  intro b
  induction b with
  | zero => exact Nat.le_refl _
  | succ b ih =>
    rw [wtP, Nat.pow_succ]
    exact Nat.mul_le_mul ih (by split; (split <;> omega); omega)
theorem wtA_le {L : Nat} : ∀ b, 1 ≤ wtA L b ∧ wtA L b ≤ 10 ^ b := by
  intro b
  induction b with
  | zero => exact ⟨Nat.le_refl _, Nat.le_refl _⟩
  | succ b ih =>
    rw [wtA, Nat.pow_succ]
    refine ⟨?_, Nat.mul_le_mul ih.2 (by split <;> omega)⟩
    have : 1 * 1 ≤ wtA L b * (if bi L b = 1 then 10 else 1) := Nat.mul_le_mul ih.1 (by split <;> omega)
    omega
theorem p10_6 {n : Nat} (hn : n ≤ 6) : 10 ^ n ≤ 1000000 := Nat.pow_le_pow_right (n := 10) (by decide) hn
theorem sb_le : ∀ L, L < 64 → ∀ g, g < 64 → sb L g = true → g ≤ L := by decide +kernel
/-- all that is weighed -/
def wsM (n L v : Nat) (F : Nat → Nat) (m : Nat) : Nat := sm m (fun g => if sb L g = true then wtP L v g n * F g else 0)
theorem wsM_cut {n L v : Nat} {F : Nat → Nat} (hn : n ≤ 6) (hL : L < 2 ^ n) : wsM n L v F (2 ^ n) = wsM n L v F (L + 1) := by
  have h64 : 2 ^ n ≤ 64 := p2_le n (by omega)
  have key : ∀ k, L + 1 + k ≤ 2 ^ n → wsM n L v F (L + 1 + k) = wsM n L v F (L + 1) := by
    intro k
    induction k with
    | zero => intro _; rfl
    | succ k ih =>
      intro hk
      have e : wsM n L v F (L + 1 + (k + 1)) = wsM n L v F (L + 1 + k) + (if sb L (L + 1 + k) = true then wtP L v (L + 1 + k) n * F (L + 1 + k) else 0) := rfl
      rw [e, if_neg (fun z => by have := sb_le L (by omega) _ (by omega) z; omega), Nat.add_zero]
      exact ih (by omega)
  have := key (2 ^ n - (L + 1)) (by omega)
  rw [show L + 1 + (2 ^ n - (L + 1)) = 2 ^ n by omega] at this
  exact this
theorem wsM_le {n L v : Nat} {F : Nat → Nat} (hn : n ≤ 6) (hv : v ≤ 10) (hF : ∀ g, F g ≤ 400) : ∀ m, wsM n L v F m ≤ m * 400000000 := by
  intro m
  induction m with
  | zero => exact Nat.zero_le _
  | succ m ih =>
    have e : wsM n L v F (m + 1) = wsM n L v F m + (if sb L m = true then wtP L v m n * F m else 0) := rfl
    rw [e]
    have h1 : wtP L v m n ≤ 1000000 := Nat.le_trans (wtP_le hv n) (p10_6 hn)
    have h2 : wtP L v m n * F m ≤ 1000000 * 400 := Nat.mul_le_mul h1 (hF m)
    rw [Nat.succ_mul]
    refine Nat.add_le_add ih ?_
    by_cases c : sb L m = true
    · rw [if_pos c]; exact h2
    · rw [if_neg c]; exact Nat.zero_le _
def stF (n : Nat) (K : Nat → Nat) (b g : Nat) : Nat := d_s (d_run n K g n) b
def paF (n : Nat) (K : Nat → Nat) (b i g : Nat) : Nat := if d_p (d_run n K g n) i = b then 1 else 0
def f_mean (s : sT) (v b q : Int32) : Int64 × sT := (if wi v 0 10 = true ∧ iB (s_n s) b = true ∧ wi q 0 1 = true then lI (low (wsM (s_n s) (lm (s_n s) (s_K s)) (tN v) (stF (s_n s) (s_K s) (tN b)) (2 ^ s_n s)) (wtA (lm (s_n s) (s_K s)) (s_n s)) (tN q)) else -1, s)
def f_luck (s : sT) (v b i q : Int32) : Int64 × sT := (if wi v 0 10 = true ∧ iB (s_n s) b = true ∧ iB (s_n s) i = true ∧ wi q 0 1 = true then lI (low (wsM (s_n s) (lm (s_n s) (s_K s)) (tN v) (paF (s_n s) (s_K s) (tN b) (tN i)) (2 ^ s_n s)) (wtA (lm (s_n s) (s_K s)) (s_n s)) (tN q)) else -1, s)
theorem bi_1 {g b : Nat} : nI (bi g b) = 1 ↔ bi g b = 1 := by
  have := bi_lt g b
  exact nI_inj (b := 1) (by omega) (by decide)
set_option maxRecDepth 20000 in
set_option maxHeartbeats 4000000 in
theorem l_weight {d v g : Nat} {w : zW} {s : sT} {T : zX → Prop} (hR : RC w s) (hS : sV s) (hv : v ≤ 10) (hg : g < 64) (hx : WP mX6_weight d T 78 [some (.ref 0), some (.int (nI v)), some (.int (nI g)), some (.long (lI (wtP (lm (s_n s) (s_K s)) v g (s_n s)))), none, some (.int (nI (s_n s)))] [] w) : ∀ k i, i + k = s_n s → WP mX6_weight d T 21 [some (.ref 0), some (.int (nI v)), some (.int (nI g)), some (.long (lI (wtP (lm (s_n s) (s_K s)) v g i))), none, some (.int (nI i))] [] w := by
  have hn := hS.1.n
  have hL : lm (s_n s) (s_K s) < 64 := mk_64 hn
  intro k
  induction k with
  | zero =>
    intro i hi
    have e : i = s_n s := by omega
    subst e
    refine r_iload 23 dX6_weight_21 rfl rfl ?_
    refine r_aload_n 24 dX6_weight_23 rfl rfl ?_
    refine r_getr 27 dX6_weight_24 fz_X6_10 sh_0 rfl rfl ?_
    refine r_geti 30 dX6_weight_27 fz_X6_96 sh_1 rfl rfl ?_
    refine r_eq hR.1.2.2.1 ?_
    refine r_icmp_ge 78 33 dX6_weight_30 (by decide) rfl (fun _ => ?_) (fun z => absurd (Int32.le_refl _) z)
    exact hx
  | succ k ih =>
    intro i hi
    have key := ih (i + 1) (by omega)
    rw [wtP] at key
    refine r_iload 23 dX6_weight_21 rfl rfl ?_
    refine r_aload_n 24 dX6_weight_23 rfl rfl ?_
    refine r_getr 27 dX6_weight_24 fz_X6_10 sh_0 rfl rfl ?_
    refine r_geti 30 dX6_weight_27 fz_X6_96 sh_1 rfl rfl ?_
    refine r_eq hR.1.2.2.1 ?_
    refine r_icmp_ge 78 33 dX6_weight_30 (by decide) rfl (fun z => absurd z (fun z => absurd ((nI_le' (by omega) (by omega)).mp z) (by omega))) (fun _ => ?_)
    refine r_aload_n 34 dX6_weight_33 rfl rfl ?_
    refine r_getr 37 dX6_weight_34 fz_X6_10 sh_0 rfl rfl ?_
    refine r_geti 40 dX6_weight_37 fz_X6_99 sh_1 rfl rfl ?_
    refine r_eq hR.1.2.2.2.1 ?_
    refine r_iload 42 dX6_weight_40 rfl rfl ?_
    refine r_ishr 43 dX6_weight_42 rfl ?_
    refine r_iconst 44 (v := 1) dX6_weight_43 (by decide) rfl ?_
    refine r_iand 45 dX6_weight_44 rfl ?_
    refine r_eq (b_sh _ hL i (by omega)) ?_
    refine r_iconst 46 (v := 1) dX6_weight_45 (by decide) rfl ?_
    refine r_icmp_ne 72 49 dX6_weight_46 (by decide) rfl (fun g46 => ?_) (fun g46 => ?_)
    · have g46 : ¬ bi (lm (s_n s) (s_K s)) i = 1 := fun z => g46 (bi_1.mpr z)
      rw [if_neg g46, Nat.mul_one] at key
      refine r_iinc 75 (L' := [_, _, _, _, _, _]) (v := nI (i + 1)) dX6_weight_72 rfl (nI_1 i) (by decide) rfl rfl rfl ?_
      refine r_goto 21 dX6_weight_75 (by decide) ?_
      exact key
    · have g46 := bi_1.mp g46
      rw [if_pos g46] at key
      refine r_lload_n 50 dX6_weight_49 rfl rfl ?_
      refine r_iload_n 51 dX6_weight_50 rfl rfl ?_
      refine r_iload 53 dX6_weight_51 rfl rfl ?_
      refine r_ishr 54 dX6_weight_53 rfl ?_
      refine r_iconst 55 (v := 1) dX6_weight_54 (by decide) rfl ?_
      refine r_iand 56 dX6_weight_55 rfl ?_
      refine r_eq (b_sh _ hg i (by omega)) ?_
      refine r_iconst 57 (v := 1) dX6_weight_56 (by decide) rfl ?_
      refine r_icmp_ne 65 60 dX6_weight_57 (by decide) rfl (fun g57 => ?_) (fun g57 => ?_)
      · have g57 : ¬ bi g i = 1 := fun z => g57 (bi_1.mpr z)
        rw [if_neg g57] at key
        refine r_bipush 67 (v := 10) dX6_weight_65 (by decide) rfl ?_
        refine r_iload_n 68 dX6_weight_67 rfl rfl ?_
        refine r_isub 69 dX6_weight_68 rfl ?_
        refine r_eq (nI_sub (a := 10) hv) ?_
        refine r_i2l 70 dX6_weight_69 rfl ?_
        refine r_leq (nI_lI (by omega)) ?_
        refine r_lmul 71 dX6_weight_70 rfl ?_
        refine r_leq (lI_mul _ _) ?_
        refine r_lstore_n 72 (L' := [_, _, _, _, _, _]) dX6_weight_71 (by decide) rfl rfl rfl ?_
        refine r_iinc 75 (L' := [_, _, _, _, _, _]) (v := nI (i + 1)) dX6_weight_72 rfl (nI_1 i) (by decide) rfl rfl rfl ?_
        refine r_goto 21 dX6_weight_75 (by decide) ?_
        exact key
      · have g57 := bi_1.mp g57
        rw [if_pos g57] at key
        refine r_iload_n 61 dX6_weight_60 rfl rfl ?_
        refine r_i2l 62 dX6_weight_61 rfl ?_
        refine r_leq (nI_lI (by omega)) ?_
        refine r_goto 70 dX6_weight_62 (by decide) ?_
        refine r_lmul 71 dX6_weight_70 rfl ?_
        refine r_leq (lI_mul _ _) ?_
        refine r_lstore_n 72 (L' := [_, _, _, _, _, _]) dX6_weight_71 (by decide) rfl rfl rfl ?_
        refine r_iinc 75 (L' := [_, _, _, _, _, _]) (v := nI (i + 1)) dX6_weight_72 rfl (nI_1 i) (by decide) rfl rfl rfl ?_
        refine r_goto 21 dX6_weight_75 (by decide) ?_
        exact key
set_option maxRecDepth 20000 in
set_option maxHeartbeats 4000000 in
theorem c_weight {d v g : Nat} {w : zW} {s : sT} (hR : RC w s) (hS : sV s) (hv : v ≤ 10) (hg : g < 64) : CT mX6_weight d [.ref 0, .int (nI v), .int (nI g)] w (z_l fun x w' => lI (if sb (lm (s_n s) (s_K s)) g = true then wtP (lm (s_n s) (s_K s)) v g (s_n s) else 0) = x ∧ w = w') := by
  have hL : lm (s_n s) (s_K s) < 64 := mk_64 hS.1.n
  have hb : g &&& (63 - lm (s_n s) (s_K s)) < 64 := (f_an g hg _ (mk_64 hS.1.n)).2.2.2
  refine CT.of [some (.ref 0), some (.int (nI v)), some (.int (nI g)), none, none, none] rfl (Nat.le_of_ble_eq_true rfl) rfl ?_
  refine r_iload_n 1 dX6_weight_0 rfl rfl ?_
  refine r_aload_n 2 dX6_weight_1 rfl rfl ?_
  refine r_getr 5 dX6_weight_2 fz_X6_10 sh_0 rfl rfl ?_
  refine r_geti 8 dX6_weight_5 fz_X6_99 sh_1 rfl rfl ?_
  refine r_eq hR.1.2.2.2.1 ?_
  refine r_iconst 9 (v := -1) dX6_weight_8 (by decide) rfl ?_
  refine r_ixor 10 dX6_weight_9 rfl ?_
  refine r_iand 11 dX6_weight_10 rfl ?_
  refine r_eq (f_an g hg (lm (s_n s) (s_K s)) hL).2.2.1 ?_
  refine r_if_eq 16 14 dX6_weight_11 (by decide) rfl (fun g11 => ?_) (fun g11 => ?_)
  · have g11 := (nI_inj (b := 0) (by omega) (by decide)).mp g11
    have gs : sb (lm (s_n s) (s_K s)) g = true := by rw [sb, g11]; rfl
    refine r_lconst 17 (v := 1) dX6_weight_16 (by decide) rfl ?_
    refine r_lstore_n 18 (L' := [_, _, _, _, _, _]) dX6_weight_17 (by decide) rfl rfl rfl ?_
    refine r_iconst 19 (v := 0) dX6_weight_18 (by decide) rfl ?_
    refine r_istore 21 (L' := [_, _, _, _, _, _]) dX6_weight_19 (by decide) rfl rfl rfl ?_
    refine l_weight (v := v) (g := g) hR hS hv hg ?_ (s_n s) 0 (Nat.zero_add _)
    refine r_lload_n 79 dX6_weight_78 rfl rfl ?_
    exact r_lret dX6_weight_79 rfl (⟨by rw [if_pos gs], rfl⟩)
  · have gs : ¬ sb (lm (s_n s) (s_K s)) g = true := fun z => g11 (by rw [sb, beq_iff_eq] at z; rw [z]; rfl)
    refine r_lconst 15 (v := 0) dX6_weight_14 (by decide) rfl ?_
    exact r_lret dX6_weight_15 rfl (⟨by rw [if_neg gs]; rfl, rfl⟩)
set_option maxRecDepth 20000 in
set_option maxHeartbeats 4000000 in
theorem l_weightA {d : Nat} {w : zW} {s : sT} {T : zX → Prop} (hR : RC w s) (hS : sV s) (hx : WP mX6_weightOfAll d T 46 [some (.ref 0), some (.long (lI (wtA (lm (s_n s) (s_K s)) (s_n s)))), none, some (.int (nI (s_n s)))] [] w) : ∀ k i, i + k = s_n s → WP mX6_weightOfAll d T 4 [some (.ref 0), some (.long (lI (wtA (lm (s_n s) (s_K s)) i))), none, some (.int (nI i))] [] w := by
  have hn := hS.1.n
  have hL : lm (s_n s) (s_K s) < 64 := mk_64 hn
  intro k
  induction k with
  | zero =>
    intro i hi
    have e : i = s_n s := by omega
    subst e
    refine r_iload_n 5 dX6_weightOfAll_4 rfl rfl ?_
    refine r_aload_n 6 dX6_weightOfAll_5 rfl rfl ?_
    refine r_getr 9 dX6_weightOfAll_6 fz_X6_10 sh_0 rfl rfl ?_
    refine r_geti 12 dX6_weightOfAll_9 fz_X6_96 sh_1 rfl rfl ?_
    refine r_eq hR.1.2.2.1 ?_
    refine r_icmp_ge 46 15 dX6_weightOfAll_12 (by decide) rfl (fun _ => ?_) (fun z => absurd (Int32.le_refl _) z)
    exact hx
  | succ k ih =>
    intro i hi
    have key := ih (i + 1) (by omega)
    rw [wtA] at key
    refine r_iload_n 5 dX6_weightOfAll_4 rfl rfl ?_
    refine r_aload_n 6 dX6_weightOfAll_5 rfl rfl ?_
    refine r_getr 9 dX6_weightOfAll_6 fz_X6_10 sh_0 rfl rfl ?_
    refine r_geti 12 dX6_weightOfAll_9 fz_X6_96 sh_1 rfl rfl ?_
    refine r_eq hR.1.2.2.1 ?_
    refine r_icmp_ge 46 15 dX6_weightOfAll_12 (by decide) rfl (fun z => absurd z (fun z => absurd ((nI_le' (by omega) (by omega)).mp z) (by omega))) (fun _ => ?_)
    refine r_lload_n 16 dX6_weightOfAll_15 rfl rfl ?_
    refine r_aload_n 17 dX6_weightOfAll_16 rfl rfl ?_
    refine r_getr 20 dX6_weightOfAll_17 fz_X6_10 sh_0 rfl rfl ?_
    refine r_geti 23 dX6_weightOfAll_20 fz_X6_99 sh_1 rfl rfl ?_
    refine r_eq hR.1.2.2.2.1 ?_
    refine r_iload_n 24 dX6_weightOfAll_23 rfl rfl ?_
    refine r_ishr 25 dX6_weightOfAll_24 rfl ?_
    refine r_iconst 26 (v := 1) dX6_weightOfAll_25 (by decide) rfl ?_
    refine r_iand 27 dX6_weightOfAll_26 rfl ?_
    refine r_eq (b_sh _ hL i (by omega)) ?_
    refine r_iconst 28 (v := 1) dX6_weightOfAll_27 (by decide) rfl ?_
    refine r_icmp_ne 37 31 dX6_weightOfAll_28 (by decide) rfl (fun g28 => ?_) (fun g28 => ?_)
    · have g28 : ¬ bi (lm (s_n s) (s_K s)) i = 1 := fun z => g28 (bi_1.mpr z)
      rw [if_neg g28] at key
      refine r_lconst 38 (v := 1) dX6_weightOfAll_37 (by decide) rfl ?_
      refine r_lmul 39 dX6_weightOfAll_38 rfl ?_
      first | refine r_leq (lI_mul _ 10) ?_ | refine r_leq (lI_mul _ 1) ?_
      refine r_lstore_n 40 (L' := [_, _, _, _]) dX6_weightOfAll_39 (by decide) rfl rfl rfl ?_
      refine r_iinc 43 (L' := [_, _, _, _]) (v := nI (i + 1)) dX6_weightOfAll_40 rfl (nI_1 i) (by decide) rfl rfl rfl ?_
      refine r_goto 4 dX6_weightOfAll_43 (by decide) ?_
      exact key
    · have g28 := bi_1.mp g28
      rw [if_pos g28] at key
      refine r_ldc2 34 dX6_weightOfAll_31 kl_X6_227 rfl ?_
      refine r_goto 38 dX6_weightOfAll_34 (by decide) ?_
      refine r_lmul 39 dX6_weightOfAll_38 rfl ?_
      first | refine r_leq (lI_mul _ 10) ?_ | refine r_leq (lI_mul _ 1) ?_
      refine r_lstore_n 40 (L' := [_, _, _, _]) dX6_weightOfAll_39 (by decide) rfl rfl rfl ?_
      refine r_iinc 43 (L' := [_, _, _, _]) (v := nI (i + 1)) dX6_weightOfAll_40 rfl (nI_1 i) (by decide) rfl rfl rfl ?_
      refine r_goto 4 dX6_weightOfAll_43 (by decide) ?_
      exact key
set_option maxRecDepth 20000 in
set_option maxHeartbeats 4000000 in
theorem c_weightA {d : Nat} {w : zW} {s : sT} (hR : RC w s) (hS : sV s) : CT mX6_weightOfAll d [.ref 0] w (z_l fun x w' => lI (wtA (lm (s_n s) (s_K s)) (s_n s)) = x ∧ w = w') := by
  refine CT.of [some (.ref 0), none, none, none] rfl (Nat.le_of_ble_eq_true rfl) rfl ?_
  refine r_lconst 1 (v := 1) dX6_weightOfAll_0 (by decide) rfl ?_
  refine r_lstore_n 2 (L' := [_, _, _, _]) dX6_weightOfAll_1 (by decide) rfl rfl rfl ?_
  refine r_iconst 3 (v := 0) dX6_weightOfAll_2 (by decide) rfl ?_
  refine r_istore_n 4 (L' := [_, _, _, _]) dX6_weightOfAll_3 (by decide) rfl rfl rfl ?_
  refine l_weightA hR hS ?_ (s_n s) 0 (Nat.zero_add _)
  refine r_lload_n 47 dX6_weightOfAll_46 rfl rfl ?_
  exact r_lret dX6_weightOfAll_47 rfl (⟨rfl, rfl⟩)
/-- a day as it is told, some caught -/
theorem c_caught {d g : Nat} {w : zW} {s : sT} (hd : 4 ≤ d) (hR : RC w s) (hS : sV s) (hg : g < 64) : CT mX0_by d [.ref 30, .ref 1, .int (nI (s_K s 3)), .int (nI (lm (s_n s) (s_K s))), .int (nI g)] w (z_v fun w' => dyC w' (s_n s) (s_K s) (s_n s) (d_run (s_n s) (s_K s) g (s_n s)) ∧ ∀ a, (a < 30 ∨ 35 < a) → w' a = w a) :=
  c_by (A := 99) (B := 1) hd (Or.inl rfl) (by decide) hS.1.1 (mk_64 hS.1.n) (lm_b hS.1.n (fun b hb => hS.1.lie hb)) hg hR.1.D
theorem wsM_s {n L v m : Nat} {F : Nat → Nat} : wsM n L v F (m + 1) = wsM n L v F m + (if sb L m = true then wtP L v m n else 0) * F m := by
  have e : wsM n L v F (m + 1) = wsM n L v F m + (if sb L m = true then wtP L v m n * F m else 0) := rfl
  rw [e]
  split
  · rfl
  · rw [Nat.zero_mul]
theorem wt_lt {s : sT} {L v g : Nat} (hS : sV s) (hv : v ≤ 10) : (if sb L g = true then wtP L v g (s_n s) else 0) < 9223372036854775808 := by
  have := Nat.le_trans (wtP_le (L := L) (g := g) hv (s_n s)) (p10_6 hS.1.n)
  split <;> omega
set_option maxRecDepth 20000 in
set_option maxHeartbeats 4000000 in
theorem l_mean {d v b q : Nat} {w0 : zW} {s : sT} {T : zX → Prop} (hd : 6 ≤ d) (hS : sV s) (hv : v ≤ 10) (hb : b < s_n s) (hx : ∀ w x, RC w s → frC w0 w → WP mX6_mean d T 118 [some (.ref 0), some (.int (nI v)), some (.int (nI b)), some (.int (nI q)), some (.long (lI (wsM (s_n s) (lm (s_n s) (s_K s)) v (stF (s_n s) (s_K s) b) ((lm (s_n s) (s_K s)) + 1)))), none, some (.int (nI ((lm (s_n s) (s_K s)) + 1))), x, none] [] w) : ∀ k i x (w : zW), i + k = (lm (s_n s) (s_K s)) + 1 → RC w s → frC w0 w → WP mX6_mean d T 37 [some (.ref 0), some (.int (nI v)), some (.int (nI b)), some (.int (nI q)), some (.long (lI (wsM (s_n s) (lm (s_n s) (s_K s)) v (stF (s_n s) (s_K s) b) (i)))), none, some (.int (nI i)), x, none] [] w := by
  have hn := hS.1.n
  have hL : lm (s_n s) (s_K s) < 64 := mk_64 hn
  intro k
  induction k with
  | zero =>
    intro i x w hi hR hF
    have e : i = lm (s_n s) (s_K s) + 1 := by omega
    subst e
    refine r_iload 39 dX6_mean_37 rfl rfl ?_
    refine r_aload_n 40 dX6_mean_39 rfl rfl ?_
    refine r_getr 43 dX6_mean_40 fz_X6_10 sh_0 rfl rfl ?_
    refine r_geti 46 dX6_mean_43 fz_X6_99 sh_1 rfl rfl ?_
    refine r_eq hR.1.2.2.2.1 ?_
    refine r_icmp_gt 118 49 dX6_mean_46 (by decide) rfl (fun _ => ?_) (fun z => absurd ((nI_lt' (by omega) (by omega)).mpr (Nat.lt_succ_self _)) z)
    exact hx w x hR hF
  | succ k ih =>
    intro i x w hi hR hF
    have hI := dI_run (cg := i) hS.1.1 (by decide) (s_n s) (Nat.le_refl _)
    refine r_iload 39 dX6_mean_37 rfl rfl ?_
    refine r_aload_n 40 dX6_mean_39 rfl rfl ?_
    refine r_getr 43 dX6_mean_40 fz_X6_10 sh_0 rfl rfl ?_
    refine r_geti 46 dX6_mean_43 fz_X6_99 sh_1 rfl rfl ?_
    refine r_eq hR.1.2.2.2.1 ?_
    refine r_icmp_gt 118 49 dX6_mean_46 (by decide) rfl (fun z => absurd z (fun z => absurd ((nI_lt' (by omega) (by omega)).mp z) (by omega))) (fun _ => ?_)
    refine r_aload_n 50 dX6_mean_49 rfl rfl ?_
    refine r_iload_n 51 dX6_mean_50 rfl rfl ?_
    refine r_iload 53 dX6_mean_51 rfl rfl ?_
    refine r_callV (y2 := mX6_weight) (as := [_, _]) 56 dX6_mean_53 ml_X6_215 mv_X6_weight (c_weight (d := d - 1) (v := v) (g := i) hR hS hv (by omega)) (by omega) sh_0 ⟨_, rfl, rfl⟩ rfl (Nat.le_of_ble_eq_true rfl) rfl (kk_l ?_)
    rintro _ _ ⟨rfl, rfl⟩
    refine r_lstore 58 (L' := [_, _, _, _, _, _, _, _, _]) dX6_mean_56 (by decide) rfl rfl rfl ?_
    refine r_lload 60 dX6_mean_58 rfl rfl ?_
    refine r_lconst 61 (v := 0) dX6_mean_60 (by decide) rfl ?_
    refine r_lcmp 62 dX6_mean_61 rfl ?_
    refine r_if_le 112 65 dX6_mean_62 (by decide) rfl (fun gle => ?_) (fun gle => ?_)
    · have gle := cmp_le.mp gle
      rw [lI_t (wt_lt hS hv)] at gle
      have g0 : (if sb (lm (s_n s) (s_K s)) i = true then wtP (lm (s_n s) (s_K s)) v i (s_n s) else 0) = 0 := by have : (0 : Int64).toInt = 0 := rfl; omega
      have key := ih (i + 1) (some (.long (lI (if sb (lm (s_n s) (s_K s)) i = true then wtP (lm (s_n s) (s_K s)) v i (s_n s) else 0)))) w (by omega) hR hF
      rw [wsM_s, g0, Nat.zero_mul, Nat.add_zero] at key
      rw [g0]
      refine r_iinc 115 (L' := [_, _, _, _, _, _, _, _, _]) (v := nI (i + 1)) dX6_mean_112 rfl (nI_1 i) (by decide) rfl rfl rfl ?_
      refine r_goto 37 dX6_mean_115 (by decide) ?_
      exact key
    · refine r_aload_n 66 dX6_mean_65 rfl rfl ?_
      refine r_getr 69 dX6_mean_66 fz_X6_42 sh_0 rfl rfl ?_
      refine r_aload_n 70 dX6_mean_69 rfl rfl ?_
      refine r_getr 73 dX6_mean_70 fz_X6_10 sh_0 rfl rfl ?_
      refine r_aload_n 74 dX6_mean_73 rfl rfl ?_
      refine r_getr 77 dX6_mean_74 fz_X6_10 sh_0 rfl rfl ?_
      refine r_getr 80 dX6_mean_77 fz_X6_102 sh_1 rfl rfl ?_
      refine r_iconst 81 (v := 3) dX6_mean_80 (by decide) rfl ?_
      refine rj_iald 82 (3) dX6_mean_81 sh_2 (rfl) (by decide) (by decide) rfl ?_
      refine r_eq (hR.1.1 3 (by decide)) ?_
      refine r_aload_n 83 dX6_mean_82 rfl rfl ?_
      refine r_getr 86 dX6_mean_83 fz_X6_10 sh_0 rfl rfl ?_
      refine r_geti 89 dX6_mean_86 fz_X6_99 sh_1 rfl rfl ?_
      refine r_eq hR.1.2.2.2.1 ?_
      refine r_iload 91 dX6_mean_89 rfl rfl ?_
      refine r_callV (y2 := mX0_by) (as := [_, _, _, _]) 94 dX6_mean_91 ml_X6_153 mv_X0_by (c_caught (d := d - 1) (by omega) hR hS (g := i) (by omega)) (by omega) sh_30 ⟨_, rfl, rfl⟩ rfl (Nat.le_of_ble_eq_true rfl) rfl (kk_v ?_)
      rintro w1 ⟨hC, hF1⟩
      have key := ih (i + 1) (some (.long (lI (if sb (lm (s_n s) (s_K s)) i = true then wtP (lm (s_n s) (s_K s)) v i (s_n s) else 0)))) w1 (by omega) (hR.fr (d30 hF1)) (hF.trans (d30 hF1))
      rw [wsM_s] at key
      refine r_lload 96 dX6_mean_94 rfl rfl ?_
      refine r_lload 98 dX6_mean_96 rfl rfl ?_
      refine r_aload_n 99 dX6_mean_98 rfl rfl ?_
      refine r_getr 102 dX6_mean_99 fz_X6_42 sh_0 rfl rfl ?_
      refine r_getr 105 dX6_mean_102 fz_X6_141 sh_30 rfl rfl ?_
      refine r_iload_n 106 dX6_mean_105 rfl rfl ?_
      refine rj_iald 107 (b) dX6_mean_106 sh_33 (rfl) (by omega) (by decide) rfl ?_
      refine r_eq (z := nI (stF (s_n s) (s_K s) b i)) (hC.st hI hb) ?_
      refine r_i2l 108 dX6_mean_107 rfl ?_
      refine r_leq (nI_lI (by have : stF (s_n s) (s_K s) b i ≤ 400 := (hI.2.2.2.2.2.2.2 b).1; omega)) ?_
      refine r_lmul 109 dX6_mean_108 rfl ?_
      refine r_leq (lI_mul _ _) ?_
      refine r_ladd 110 dX6_mean_109 rfl ?_
      refine r_leq (lI_add _ _) ?_
      refine r_lstore 112 (L' := [_, _, _, _, _, _, _, _, _]) dX6_mean_110 (by decide) rfl rfl rfl ?_
      refine r_iinc 115 (L' := [_, _, _, _, _, _, _, _, _]) (v := nI (i + 1)) dX6_mean_112 rfl (nI_1 i) (by decide) rfl rfl rfl ?_
      refine r_goto 37 dX6_mean_115 (by decide) ?_
      exact key
set_option maxRecDepth 20000 in
set_option maxHeartbeats 4000000 in
theorem l_luck {d v b j q : Nat} {w0 : zW} {s : sT} {T : zX → Prop} (hd : 6 ≤ d) (hS : sV s) (hv : v ≤ 10) (hb : b < s_n s) (hj : j < s_n s) (hx : ∀ w x, RC w s → frC w0 w → WP mX6_luck d T 133 [some (.ref 0), some (.int (nI v)), some (.int (nI b)), some (.int (nI j)), some (.int (nI q)), some (.long (lI (wsM (s_n s) (lm (s_n s) (s_K s)) v (paF (s_n s) (s_K s) b j) ((lm (s_n s) (s_K s)) + 1)))), none, some (.int (nI ((lm (s_n s) (s_K s)) + 1))), x, none] [] w) : ∀ k i x (w : zW), i + k = (lm (s_n s) (s_K s)) + 1 → RC w s → frC w0 w → WP mX6_luck d T 46 [some (.ref 0), some (.int (nI v)), some (.int (nI b)), some (.int (nI j)), some (.int (nI q)), some (.long (lI (wsM (s_n s) (lm (s_n s) (s_K s)) v (paF (s_n s) (s_K s) b j) (i)))), none, some (.int (nI i)), x, none] [] w := by
  have hn := hS.1.n
  have hL : lm (s_n s) (s_K s) < 64 := mk_64 hn
  intro k
  induction k with
  | zero =>
    intro i x w hi hR hF
    have e : i = lm (s_n s) (s_K s) + 1 := by omega
    subst e
    refine r_iload 48 dX6_luck_46 rfl rfl ?_
    refine r_aload_n 49 dX6_luck_48 rfl rfl ?_
    refine r_getr 52 dX6_luck_49 fz_X6_10 sh_0 rfl rfl ?_
    refine r_geti 55 dX6_luck_52 fz_X6_99 sh_1 rfl rfl ?_
    refine r_eq hR.1.2.2.2.1 ?_
    refine r_icmp_gt 133 58 dX6_luck_55 (by decide) rfl (fun _ => ?_) (fun z => absurd ((nI_lt' (by omega) (by omega)).mpr (Nat.lt_succ_self _)) z)
    exact hx w x hR hF
  | succ k ih =>
    intro i x w hi hR hF
    have hI := dI_run (cg := i) hS.1.1 (by decide) (s_n s) (Nat.le_refl _)
    refine r_iload 48 dX6_luck_46 rfl rfl ?_
    refine r_aload_n 49 dX6_luck_48 rfl rfl ?_
    refine r_getr 52 dX6_luck_49 fz_X6_10 sh_0 rfl rfl ?_
    refine r_geti 55 dX6_luck_52 fz_X6_99 sh_1 rfl rfl ?_
    refine r_eq hR.1.2.2.2.1 ?_
    refine r_icmp_gt 133 58 dX6_luck_55 (by decide) rfl (fun z => absurd z (fun z => absurd ((nI_lt' (by omega) (by omega)).mp z) (by omega))) (fun _ => ?_)
    refine r_aload_n 59 dX6_luck_58 rfl rfl ?_
    refine r_iload_n 60 dX6_luck_59 rfl rfl ?_
    refine r_iload 62 dX6_luck_60 rfl rfl ?_
    refine r_callV (y2 := mX6_weight) (as := [_, _]) 65 dX6_luck_62 ml_X6_215 mv_X6_weight (c_weight (d := d - 1) (v := v) (g := i) hR hS hv (by omega)) (by omega) sh_0 ⟨_, rfl, rfl⟩ rfl (Nat.le_of_ble_eq_true rfl) rfl (kk_l ?_)
    rintro _ _ ⟨rfl, rfl⟩
    refine r_lstore 67 (L' := [_, _, _, _, _, _, _, _, _, _]) dX6_luck_65 (by decide) rfl rfl rfl ?_
    refine r_lload 69 dX6_luck_67 rfl rfl ?_
    refine r_lconst 70 (v := 0) dX6_luck_69 (by decide) rfl ?_
    refine r_lcmp 71 dX6_luck_70 rfl ?_
    refine r_if_le 127 74 dX6_luck_71 (by decide) rfl (fun gle => ?_) (fun gle => ?_)
    · have gle := cmp_le.mp gle
      rw [lI_t (wt_lt hS hv)] at gle
      have g0 : (if sb (lm (s_n s) (s_K s)) i = true then wtP (lm (s_n s) (s_K s)) v i (s_n s) else 0) = 0 := by have : (0 : Int64).toInt = 0 := rfl; omega
      have key := ih (i + 1) (some (.long (lI (if sb (lm (s_n s) (s_K s)) i = true then wtP (lm (s_n s) (s_K s)) v i (s_n s) else 0)))) w (by omega) hR hF
      rw [wsM_s, g0, Nat.zero_mul, Nat.add_zero] at key
      rw [g0]
      refine r_iinc 130 (L' := [_, _, _, _, _, _, _, _, _, _]) (v := nI (i + 1)) dX6_luck_127 rfl (nI_1 i) (by decide) rfl rfl rfl ?_
      refine r_goto 46 dX6_luck_130 (by decide) ?_
      exact key
    · refine r_aload_n 75 dX6_luck_74 rfl rfl ?_
      refine r_getr 78 dX6_luck_75 fz_X6_42 sh_0 rfl rfl ?_
      refine r_aload_n 79 dX6_luck_78 rfl rfl ?_
      refine r_getr 82 dX6_luck_79 fz_X6_10 sh_0 rfl rfl ?_
      refine r_aload_n 83 dX6_luck_82 rfl rfl ?_
      refine r_getr 86 dX6_luck_83 fz_X6_10 sh_0 rfl rfl ?_
      refine r_getr 89 dX6_luck_86 fz_X6_102 sh_1 rfl rfl ?_
      refine r_iconst 90 (v := 3) dX6_luck_89 (by decide) rfl ?_
      refine rj_iald 91 (3) dX6_luck_90 sh_2 (rfl) (by decide) (by decide) rfl ?_
      refine r_eq (hR.1.1 3 (by decide)) ?_
      refine r_aload_n 92 dX6_luck_91 rfl rfl ?_
      refine r_getr 95 dX6_luck_92 fz_X6_10 sh_0 rfl rfl ?_
      refine r_geti 98 dX6_luck_95 fz_X6_99 sh_1 rfl rfl ?_
      refine r_eq hR.1.2.2.2.1 ?_
      refine r_iload 100 dX6_luck_98 rfl rfl ?_
      refine r_callV (y2 := mX0_by) (as := [_, _, _, _]) 103 dX6_luck_100 ml_X6_153 mv_X0_by (c_caught (d := d - 1) (by omega) hR hS (g := i) (by omega)) (by omega) sh_30 ⟨_, rfl, rfl⟩ rfl (Nat.le_of_ble_eq_true rfl) rfl (kk_v ?_)
      rintro w1 ⟨hC, hF1⟩
      have key := ih (i + 1) (some (.long (lI (if sb (lm (s_n s) (s_K s)) i = true then wtP (lm (s_n s) (s_K s)) v i (s_n s) else 0)))) w1 (by omega) (hR.fr (d30 hF1)) (hF.trans (d30 hF1))
      rw [wsM_s] at key
      refine r_lload 105 dX6_luck_103 rfl rfl ?_
      refine r_aload_n 106 dX6_luck_105 rfl rfl ?_
      refine r_getr 109 dX6_luck_106 fz_X6_42 sh_0 rfl rfl ?_
      refine r_getr 112 dX6_luck_109 fz_X6_135 sh_30 rfl rfl ?_
      refine r_iload_n 113 dX6_luck_112 rfl rfl ?_
      refine rj_iald 114 (j) dX6_luck_113 sh_31 (rfl) (by omega) (by decide) rfl ?_
      refine r_eq (hC.pa hj) ?_
      have hpj := (hI.2.2.1 j hj).1
      refine r_iload_n 115 dX6_luck_114 rfl rfl ?_
      refine r_icmp_ne 123 118 dX6_luck_115 (by decide) rfl (fun gp => ?_) (fun gp => ?_)
      · have gp : ¬ _ := fun z => gp ((nI_inj (a := d_p (d_run (s_n s) (s_K s) i (s_n s)) j) (b := b) (by omega) (by omega)).mpr z)
        rw [paF, if_neg gp, Nat.mul_zero] at key
        refine r_lconst 124 (v := 0) dX6_luck_123 (by decide) rfl ?_
        refine r_ladd 125 dX6_luck_124 rfl ?_
        first | refine r_leq (lI_add _ 0) ?_ | refine r_leq (lI_add _ _) ?_
        refine r_lstore 127 (L' := [_, _, _, _, _, _, _, _, _, _]) dX6_luck_125 (by decide) rfl rfl rfl ?_
        refine r_iinc 130 (L' := [_, _, _, _, _, _, _, _, _, _]) (v := nI (i + 1)) dX6_luck_127 rfl (nI_1 i) (by decide) rfl rfl rfl ?_
        refine r_goto 46 dX6_luck_130 (by decide) ?_
        exact key
      · have gp := (nI_inj (by omega) (by omega)).mp gp
        rw [paF, if_pos gp, Nat.mul_one] at key
        refine r_lload 120 dX6_luck_118 rfl rfl ?_
        refine r_goto 124 dX6_luck_120 (by decide) ?_
        refine r_ladd 125 dX6_luck_124 rfl ?_
        first | refine r_leq (lI_add _ 0) ?_ | refine r_leq (lI_add _ _) ?_
        refine r_lstore 127 (L' := [_, _, _, _, _, _, _, _, _, _]) dX6_luck_125 (by decide) rfl rfl rfl ?_
        refine r_iinc 130 (L' := [_, _, _, _, _, _, _, _, _, _]) (v := nI (i + 1)) dX6_luck_127 rfl (nI_1 i) (by decide) rfl rfl rfl ?_
        refine r_goto 46 dX6_luck_130 (by decide) ?_
        exact key
set_option maxRecDepth 20000 in
set_option maxHeartbeats 4000000 in
theorem C_mean {d : Nat} {w : zW} {s : sT} {v b q : Int32} (hd : 7 ≤ d) (hR : RC w s) (hS : sV s) : ACl mX6_mean d [.int v, .int b, .int q] w (f_mean s v b q) := by
  have hn := hS.1.n
  refine CT.of [some (.ref 0), some (.int v), some (.int b), some (.int q), none, none, none, none, none] rfl (Nat.le_of_ble_eq_true rfl) rfl ?_
  refine r_iload_n 1 dX6_mean_0 rfl rfl ?_
  refine r_iconst 2 (v := 0) dX6_mean_1 (by decide) rfl ?_
  refine r_bipush 4 (v := 10) dX6_mean_2 (by decide) rfl ?_
  refine r_callS (y2 := mX6_within) (as := [_, _, _]) 7 dX6_mean_4 ml_X6_67 ms_X6_within (c_within (d := d - 1) _ _ _) (by omega) rfl (Nat.le_of_ble_eq_true rfl) rfl (kk_i ?_)
  rintro _ _ ⟨rfl, rfl⟩
  refine rb_eq 27 10 dX6_mean_7 (by decide) rfl (fun g7 => ?_) (fun g7 => ?_)
  · have wv : ¬ wi v 0 10 = true := fun z => g7 (wi_iff.mp z)
    refine r_ldc2 30 dX6_mean_27 kl_X6_213 rfl ?_
    exact r_lret dX6_mean_30 rfl (by first | exact ⟨by rw [f_mean, if_neg (fun z => wv z.1)], by rw [f_mean, if_neg (fun z => wv z.1)]; exact hR, fun _ _ => rfl⟩ | exact ⟨by rw [f_mean, if_neg (fun z => g15 z.2.1)], by rw [f_mean, if_neg (fun z => g15 z.2.1)]; exact hR, fun _ _ => rfl⟩ | exact ⟨by rw [f_mean, if_neg (fun z => wq z.2.2)], by rw [f_mean, if_neg (fun z => wq z.2.2)]; exact hR, fun _ _ => rfl⟩)
  · have wv : wi v 0 10 = true := wi_iff.mpr g7
    obtain ⟨v, hv, rfl⟩ := wi_of (hi := 10) wv
    have hvs : tN (nI v) = v := tN_n (by omega)
    refine r_aload_n 11 dX6_mean_10 rfl rfl ?_
    refine r_iload_n 12 dX6_mean_11 rfl rfl ?_
    refine r_callV (y2 := mX6_isBoat) (as := [_]) 15 dX6_mean_12 ml_X6_105 mv_X6_isBoat (c_isBoat (d := d - 1) (by omega) hn hR.1.2.2.1) (by omega) sh_0 ⟨_, rfl, rfl⟩ rfl (Nat.le_of_ble_eq_true rfl) rfl (kk_i ?_)
    rintro _ _ ⟨rfl, rfl⟩
    refine rb_eq 27 18 dX6_mean_15 (by decide) rfl (fun g15 => ?_) (fun g15 => ?_)
    · refine r_ldc2 30 dX6_mean_27 kl_X6_213 rfl ?_
      exact r_lret dX6_mean_30 rfl (by first | exact ⟨by rw [f_mean, if_neg (fun z => wv z.1)], by rw [f_mean, if_neg (fun z => wv z.1)]; exact hR, fun _ _ => rfl⟩ | exact ⟨by rw [f_mean, if_neg (fun z => g15 z.2.1)], by rw [f_mean, if_neg (fun z => g15 z.2.1)]; exact hR, fun _ _ => rfl⟩ | exact ⟨by rw [f_mean, if_neg (fun z => wq z.2.2)], by rw [f_mean, if_neg (fun z => wq z.2.2)]; exact hR, fun _ _ => rfl⟩)
    · obtain ⟨b, hb, rfl⟩ := iB_of g15
      have hbs : tN (nI b) = b := tN_n (by omega)
      refine r_iload_n 19 dX6_mean_18 rfl rfl ?_
      refine r_iconst 20 (v := 0) dX6_mean_19 (by decide) rfl ?_
      refine r_iconst 21 (v := 1) dX6_mean_20 (by decide) rfl ?_
      refine r_callS (y2 := mX6_within) (as := [_, _, _]) 24 dX6_mean_21 ml_X6_67 ms_X6_within (c_within (d := d - 1) _ _ _) (by omega) rfl (Nat.le_of_ble_eq_true rfl) rfl (kk_i ?_)
      rintro _ _ ⟨rfl, rfl⟩
      refine rb_ne 31 27 dX6_mean_24 (by decide) rfl (fun g24 => ?_) (fun g24 => ?_)
      · have wq : wi q 0 1 = true := wi_iff.mpr g24
        obtain ⟨q, hq, rfl⟩ := wi_of (hi := 1) wq
        have hqs : tN (nI q) = q := tN_n (by omega)
        have hLm : lm (s_n s) (s_K s) < 2 ^ s_n s := mk_lt
        have hLn : lm (s_n s) (s_K s) < 64 := mk_64 hn
        have hA := wtA_le (L := lm (s_n s) (s_K s)) (s_n s)
        have hA6 := p10_6 hn
        refine r_lconst 32 (v := 0) dX6_mean_31 (by decide) rfl ?_
        refine r_lstore 34 (L' := [_, _, _, _, _, _, _, _, _]) dX6_mean_32 (by decide) rfl rfl rfl ?_
        refine r_iconst 35 (v := 0) dX6_mean_34 (by decide) rfl ?_
        refine r_istore 37 (L' := [_, _, _, _, _, _, _, _, _]) dX6_mean_35 (by decide) rfl rfl rfl ?_
        have hW := wsM_le (L := lm (s_n s) (s_K s)) (F := stF (s_n s) (s_K s) b) hn hv (fun g => ((dI_run (cg := g) hS.1.1 (by decide) (s_n s) (Nat.le_refl _)).2.2.2.2.2.2.2 b).1) (lm (s_n s) (s_K s) + 1)
        refine l_mean (w0 := w) (v := v) (b := b) (q := q) (by omega) hS hv hb (fun w1 x hR1 hF => ?_) (lm (s_n s) (s_K s) + 1) 0 _ w (Nat.zero_add _) hR frC.rfl
        refine r_lload 120 dX6_mean_118 rfl rfl ?_
        refine r_aload_n 121 dX6_mean_120 rfl rfl ?_
        refine r_callV (y2 := mX6_weightOfAll) (as := []) 124 dX6_mean_121 ml_X6_219 mv_X6_weightOfAll (c_weightA (d := d - 1) hR1 hS) (by omega) sh_0 ⟨_, rfl, rfl⟩ rfl (Nat.le_of_ble_eq_true rfl) rfl (kk_l ?_)
        rintro _ _ ⟨rfl, rfl⟩
        refine r_iload_n 125 dX6_mean_124 rfl rfl ?_
        refine r_callS (y2 := mX6_lowest) (as := [_, _, _]) 128 dX6_mean_125 ml_X6_223 ms_X6_lowest (c_lowest (d := d - 1) (by omega) (by omega) (by omega) (by omega) hq) (by omega) rfl (Nat.le_of_ble_eq_true rfl) rfl (kk_l ?_)
        rintro _ _ ⟨rfl, rfl⟩
        exact r_lret dX6_mean_128 rfl (⟨by rw [f_mean, if_pos ⟨wv, g15, wq⟩, hvs, hbs, hqs, wsM_cut hn hLm], hR1, hF.hi⟩)
      · have wq : ¬ wi q 0 1 = true := fun z => g24 (wi_iff.mp z)
        refine r_ldc2 30 dX6_mean_27 kl_X6_213 rfl ?_
        exact r_lret dX6_mean_30 rfl (by first | exact ⟨by rw [f_mean, if_neg (fun z => wv z.1)], by rw [f_mean, if_neg (fun z => wv z.1)]; exact hR, fun _ _ => rfl⟩ | exact ⟨by rw [f_mean, if_neg (fun z => g15 z.2.1)], by rw [f_mean, if_neg (fun z => g15 z.2.1)]; exact hR, fun _ _ => rfl⟩ | exact ⟨by rw [f_mean, if_neg (fun z => wq z.2.2)], by rw [f_mean, if_neg (fun z => wq z.2.2)]; exact hR, fun _ _ => rfl⟩)
set_option maxRecDepth 20000 in
set_option maxHeartbeats 4000000 in
theorem C_luck {d : Nat} {w : zW} {s : sT} {v b i q : Int32} (hd : 7 ≤ d) (hR : RC w s) (hS : sV s) : ACl mX6_luck d [.int v, .int b, .int i, .int q] w (f_luck s v b i q) := by
  have hn := hS.1.n
  refine CT.of [some (.ref 0), some (.int v), some (.int b), some (.int i), some (.int q), none, none, none, none, none] rfl (Nat.le_of_ble_eq_true rfl) rfl ?_
  refine r_iload_n 1 dX6_luck_0 rfl rfl ?_
  refine r_iconst 2 (v := 0) dX6_luck_1 (by decide) rfl ?_
  refine r_bipush 4 (v := 10) dX6_luck_2 (by decide) rfl ?_
  refine r_callS (y2 := mX6_within) (as := [_, _, _]) 7 dX6_luck_4 ml_X6_67 ms_X6_within (c_within (d := d - 1) _ _ _) (by omega) rfl (Nat.le_of_ble_eq_true rfl) rfl (kk_i ?_)
  rintro _ _ ⟨rfl, rfl⟩
  refine rb_eq 36 10 dX6_luck_7 (by decide) rfl (fun g7 => ?_) (fun g7 => ?_)
  · have wv : ¬ wi v 0 10 = true := fun z => g7 (wi_iff.mp z)
    refine r_ldc2 39 dX6_luck_36 kl_X6_213 rfl ?_
    exact r_lret dX6_luck_39 rfl (by first | exact ⟨by rw [f_luck, if_neg (fun z => wv z.1)], by rw [f_luck, if_neg (fun z => wv z.1)]; exact hR, fun _ _ => rfl⟩ | exact ⟨by rw [f_luck, if_neg (fun z => g15 z.2.1)], by rw [f_luck, if_neg (fun z => g15 z.2.1)]; exact hR, fun _ _ => rfl⟩ | exact ⟨by rw [f_luck, if_neg (fun z => g23 z.2.2.1)], by rw [f_luck, if_neg (fun z => g23 z.2.2.1)]; exact hR, fun _ _ => rfl⟩ | exact ⟨by rw [f_luck, if_neg (fun z => wq z.2.2.2)], by rw [f_luck, if_neg (fun z => wq z.2.2.2)]; exact hR, fun _ _ => rfl⟩)
  · have wv : wi v 0 10 = true := wi_iff.mpr g7
    obtain ⟨v, hv, rfl⟩ := wi_of (hi := 10) wv
    have hvs : tN (nI v) = v := tN_n (by omega)
    refine r_aload_n 11 dX6_luck_10 rfl rfl ?_
    refine r_iload_n 12 dX6_luck_11 rfl rfl ?_
    refine r_callV (y2 := mX6_isBoat) (as := [_]) 15 dX6_luck_12 ml_X6_105 mv_X6_isBoat (c_isBoat (d := d - 1) (by omega) hn hR.1.2.2.1) (by omega) sh_0 ⟨_, rfl, rfl⟩ rfl (Nat.le_of_ble_eq_true rfl) rfl (kk_i ?_)
    rintro _ _ ⟨rfl, rfl⟩
    refine rb_eq 36 18 dX6_luck_15 (by decide) rfl (fun g15 => ?_) (fun g15 => ?_)
    · refine r_ldc2 39 dX6_luck_36 kl_X6_213 rfl ?_
      exact r_lret dX6_luck_39 rfl (by first | exact ⟨by rw [f_luck, if_neg (fun z => wv z.1)], by rw [f_luck, if_neg (fun z => wv z.1)]; exact hR, fun _ _ => rfl⟩ | exact ⟨by rw [f_luck, if_neg (fun z => g15 z.2.1)], by rw [f_luck, if_neg (fun z => g15 z.2.1)]; exact hR, fun _ _ => rfl⟩ | exact ⟨by rw [f_luck, if_neg (fun z => g23 z.2.2.1)], by rw [f_luck, if_neg (fun z => g23 z.2.2.1)]; exact hR, fun _ _ => rfl⟩ | exact ⟨by rw [f_luck, if_neg (fun z => wq z.2.2.2)], by rw [f_luck, if_neg (fun z => wq z.2.2.2)]; exact hR, fun _ _ => rfl⟩)
    · obtain ⟨b, hb, rfl⟩ := iB_of g15
      have hbs : tN (nI b) = b := tN_n (by omega)
      refine r_aload_n 19 dX6_luck_18 rfl rfl ?_
      refine r_iload_n 20 dX6_luck_19 rfl rfl ?_
      refine r_callV (y2 := mX6_isBoat) (as := [_]) 23 dX6_luck_20 ml_X6_105 mv_X6_isBoat (c_isBoat (d := d - 1) (by omega) hn hR.1.2.2.1) (by omega) sh_0 ⟨_, rfl, rfl⟩ rfl (Nat.le_of_ble_eq_true rfl) rfl (kk_i ?_)
      rintro _ _ ⟨rfl, rfl⟩
      refine rb_eq 36 26 dX6_luck_23 (by decide) rfl (fun g23 => ?_) (fun g23 => ?_)
      · refine r_ldc2 39 dX6_luck_36 kl_X6_213 rfl ?_
        exact r_lret dX6_luck_39 rfl (by first | exact ⟨by rw [f_luck, if_neg (fun z => wv z.1)], by rw [f_luck, if_neg (fun z => wv z.1)]; exact hR, fun _ _ => rfl⟩ | exact ⟨by rw [f_luck, if_neg (fun z => g15 z.2.1)], by rw [f_luck, if_neg (fun z => g15 z.2.1)]; exact hR, fun _ _ => rfl⟩ | exact ⟨by rw [f_luck, if_neg (fun z => g23 z.2.2.1)], by rw [f_luck, if_neg (fun z => g23 z.2.2.1)]; exact hR, fun _ _ => rfl⟩ | exact ⟨by rw [f_luck, if_neg (fun z => wq z.2.2.2)], by rw [f_luck, if_neg (fun z => wq z.2.2.2)]; exact hR, fun _ _ => rfl⟩)
      · obtain ⟨j, hj, rfl⟩ := iB_of g23
        have hjs : tN (nI j) = j := tN_n (by omega)
        refine r_iload 28 dX6_luck_26 rfl rfl ?_
        refine r_iconst 29 (v := 0) dX6_luck_28 (by decide) rfl ?_
        refine r_iconst 30 (v := 1) dX6_luck_29 (by decide) rfl ?_
        refine r_callS (y2 := mX6_within) (as := [_, _, _]) 33 dX6_luck_30 ml_X6_67 ms_X6_within (c_within (d := d - 1) _ _ _) (by omega) rfl (Nat.le_of_ble_eq_true rfl) rfl (kk_i ?_)
        rintro _ _ ⟨rfl, rfl⟩
        refine rb_ne 40 36 dX6_luck_33 (by decide) rfl (fun g33 => ?_) (fun g33 => ?_)
        · have wq : wi q 0 1 = true := wi_iff.mpr g33
          obtain ⟨q, hq, rfl⟩ := wi_of (hi := 1) wq
          have hqs : tN (nI q) = q := tN_n (by omega)
          have hLm : lm (s_n s) (s_K s) < 2 ^ s_n s := mk_lt
          have hLn : lm (s_n s) (s_K s) < 64 := mk_64 hn
          have hA := wtA_le (L := lm (s_n s) (s_K s)) (s_n s)
          have hA6 := p10_6 hn
          refine r_lconst 41 (v := 0) dX6_luck_40 (by decide) rfl ?_
          refine r_lstore 43 (L' := [_, _, _, _, _, _, _, _, _, _]) dX6_luck_41 (by decide) rfl rfl rfl ?_
          refine r_iconst 44 (v := 0) dX6_luck_43 (by decide) rfl ?_
          refine r_istore 46 (L' := [_, _, _, _, _, _, _, _, _, _]) dX6_luck_44 (by decide) rfl rfl rfl ?_
          have hW := wsM_le (L := lm (s_n s) (s_K s)) (F := paF (s_n s) (s_K s) b j) hn hv (fun g => by unfold paF; split <;> decide) (lm (s_n s) (s_K s) + 1)
          refine l_luck (w0 := w) (v := v) (b := b) (j := j) (q := q) (by omega) hS hv hb hj (fun w1 x hR1 hF => ?_) (lm (s_n s) (s_K s) + 1) 0 _ w (Nat.zero_add _) hR frC.rfl
          refine r_lload 135 dX6_luck_133 rfl rfl ?_
          refine r_aload_n 136 dX6_luck_135 rfl rfl ?_
          refine r_callV (y2 := mX6_weightOfAll) (as := []) 139 dX6_luck_136 ml_X6_219 mv_X6_weightOfAll (c_weightA (d := d - 1) hR1 hS) (by omega) sh_0 ⟨_, rfl, rfl⟩ rfl (Nat.le_of_ble_eq_true rfl) rfl (kk_l ?_)
          rintro _ _ ⟨rfl, rfl⟩
          refine r_iload 141 dX6_luck_139 rfl rfl ?_
          refine r_callS (y2 := mX6_lowest) (as := [_, _, _]) 144 dX6_luck_141 ml_X6_223 ms_X6_lowest (c_lowest (d := d - 1) (by omega) (by omega) (by omega) (by omega) hq) (by omega) rfl (Nat.le_of_ble_eq_true rfl) rfl (kk_l ?_)
          rintro _ _ ⟨rfl, rfl⟩
          exact r_lret dX6_luck_144 rfl (⟨by rw [f_luck, if_pos ⟨wv, g15, g23, wq⟩, hvs, hbs, hjs, hqs, wsM_cut hn hLm], hR1, hF.hi⟩)
        · have wq : ¬ wi q 0 1 = true := fun z => g33 (wi_iff.mp z)
          refine r_ldc2 39 dX6_luck_36 kl_X6_213 rfl ?_
          exact r_lret dX6_luck_39 rfl (by first | exact ⟨by rw [f_luck, if_neg (fun z => wv z.1)], by rw [f_luck, if_neg (fun z => wv z.1)]; exact hR, fun _ _ => rfl⟩ | exact ⟨by rw [f_luck, if_neg (fun z => g15 z.2.1)], by rw [f_luck, if_neg (fun z => g15 z.2.1)]; exact hR, fun _ _ => rfl⟩ | exact ⟨by rw [f_luck, if_neg (fun z => g23 z.2.2.1)], by rw [f_luck, if_neg (fun z => g23 z.2.2.1)]; exact hR, fun _ _ => rfl⟩ | exact ⟨by rw [f_luck, if_neg (fun z => wq z.2.2.2)], by rw [f_luck, if_neg (fun z => wq z.2.2.2)]; exact hR, fun _ _ => rfl⟩)

/-! ===== numbers, yes and no ===== -/
theorem nx_X1_9 : Cond.fieldLinkNest RX1 9 RX6 "RULE_AT_FIRST" "[I" RX6 ∈ z_nst := by simp [z_nst]
theorem nx_X5_114 : Cond.fieldLinkNest RX5 114 RX6 "MARK_MOST" "[I" RX6 ∈ z_nst := by simp [z_nst]
theorem nx_X5_131 : Cond.fieldLinkNest RX5 131 RX6 "RULE_LEAST" "[I" RX6 ∈ z_nst := by simp [z_nst]
theorem nx_X5_134 : Cond.fieldLinkNest RX5 134 RX6 "RULE_MOST" "[I" RX6 ∈ z_nst := by simp [z_nst]
theorem nx_X5_147 : Cond.methodLinkNest RX5 147 yX6_within RX6 ∈ z_nst := by simp [z_nst]
theorem nx_X0_116 : Cond.methodLinkNest RX0 116 yX6_otherSide RX6 ∈ z_nst := by simp [z_nst]
theorem nx_X0_119 : Cond.methodLinkNest RX0 119 yX6_within RX6 ∈ z_nst := by simp [z_nst]
theorem nx_X2_50 : Cond.methodLinkNest RX2 50 yX6_otherSide RX6 ∈ z_nst := by simp [z_nst]
theorem nx_X3_19 : Cond.methodLinkNest RX3 19 yX6_within RX6 ∈ z_nst := by simp [z_nst]
/-- yes is 1 -/
def z_b (p : Prop) [Decidable p] : Int32 := if p then 1 else 0
theorem z_b1 {p : Prop} [Decidable p] (h : p) : 1 = z_b p := by rw [z_b, if_pos h]
theorem z_b0 {p : Prop} [Decidable p] (h : ¬ p) : 0 = z_b p := by rw [z_b, if_neg h]
theorem z_bp {p : Prop} [Decidable p] (h : p) : z_b p = 1 := if_pos h
theorem z_bn {p : Prop} [Decidable p] (h : ¬ p) : z_b p = 0 := if_neg h
theorem z_be {p : Prop} [Decidable p] : z_b p = 0 ↔ ¬ p := by
  by_cases h : p
  · rw [z_bp h]; exact ⟨fun z => absurd z (by decide), fun z => absurd h z⟩
  · rw [z_bn h]; exact ⟨fun _ => h, fun _ => rfl⟩
theorem z_bc {p q : Prop} [Decidable p] [Decidable q] (h : p ↔ q) : z_b p = z_b q := by
  by_cases hp : p
  · rw [z_bp hp, z_bp (h.mp hp)]
  · rw [z_bn hp, z_bn (fun z => hp (h.mpr z))]
theorem z_bnar {p : Prop} [Decidable p] : narrow .boolean (.int (z_b p)) = .int (z_b p) := by
  by_cases h : p
  · rw [z_bp h]; rfl
  · rw [z_bn h]; rfl
section ZB
variable {y : zM} {d : Nat} {T : zX → Prop} {pc : Nat} {L : List (Option Value)} {st : List Value} {w : zW}
theorem rb_eq {p : Prop} [Decidable p] {off : Int} (t n : Nat) (hd : decode y.2.1 pc = .ok (.ifCond .eq off, 3)) (ht : (pc : Int) + off = (t : Int)) (hn : pc + 3 = n) (kt : ¬ p → WP y d T t L st w) (kf : p → WP y d T n L st w) : WP y d T pc L (.int (z_b p) :: st) w :=
  r_if_eq t n hd ht hn (fun h => kt (z_be.mp h)) (fun h => kf (Classical.byContradiction fun z => h (z_be.mpr z)))
theorem rb_ne {p : Prop} [Decidable p] {off : Int} (t n : Nat) (hd : decode y.2.1 pc = .ok (.ifCond .ne off, 3)) (ht : (pc : Int) + off = (t : Int)) (hn : pc + 3 = n) (kt : p → WP y d T t L st w) (kf : ¬ p → WP y d T n L st w) : WP y d T pc L (.int (z_b p) :: st) w :=
  r_if_ne t n hd ht hn (fun h => kt (Classical.byContradiction fun z => h (z_be.mpr z))) (fun h => kf (z_be.mp h))
end ZB
/-! ints as integers -/
theorem ti_lt {a b : Int32} : a < b ↔ a.toInt < b.toInt := Int32.lt_iff_toInt_lt
theorem ti_le {a b : Int32} : a ≤ b ↔ a.toInt ≤ b.toInt := Int32.le_iff_toInt_le
theorem ti_eq {a b : Int32} : a = b ↔ a.toInt = b.toInt := ⟨fun h => by rw [h], fun h => Int32.toInt_inj.mp h⟩
theorem ti_n {n : Nat} (h : n < 2147483648) : (nI n).toInt = (n : Int) := nI_toInt (by omega)
theorem ti_b (x : Int32) : -2147483648 ≤ x.toInt ∧ x.toInt < 2147483648 := ⟨Int32.le_toInt x, Int32.toInt_lt x⟩
/-- a number between 0 and N -/
theorem ti_nI {x : Int32} (h0 : 0 ≤ x.toInt) : x = nI x.toInt.toNat := by
  rw [ti_eq, ti_n (by have := ti_b x; omega)]
  omega
theorem ti_of {x : Int32} {n : Nat} (h : x.toInt = (n : Int)) : x = nI n := by
  have hb := ti_b x
  rw [ti_eq, ti_n (by omega)]
  exact h
theorem ti_add {x z : Int32} (h : -2147483648 ≤ x.toInt + z.toInt ∧ x.toInt + z.toInt < 2147483648) : (x + z).toInt = x.toInt + z.toInt := by
  rw [Int32.toInt_add]
  exact Int.bmod_eq_of_le (by omega) (by omega)
theorem ti_sub {x z : Int32} (h : -2147483648 ≤ x.toInt - z.toInt ∧ x.toInt - z.toInt < 2147483648) : (x - z).toInt = x.toInt - z.toInt := by
  rw [Int32.toInt_sub]
  exact Int.bmod_eq_of_le (by omega) (by omega)
theorem ti_mul {x z : Int32} (h : -2147483648 ≤ x.toInt * z.toInt ∧ x.toInt * z.toInt < 2147483648) : (x * z).toInt = x.toInt * z.toInt := by
  rw [Int32.toInt_mul]
  exact Int.bmod_eq_of_le (by omega) (by omega)
theorem nI_sub {a b : Nat} (h : b ≤ a) : nI a - nI b = nI (a - b) := pk_sub h
theorem nI_mul (a b : Nat) : nI a * nI b = nI (a * b) := pk_mul a b
theorem nI_inj {a b : Nat} (ha : a < 2147483648) (hb : b < 2147483648) : nI a = nI b ↔ a = b := nI_eq (by omega) (by omega)
theorem nI_le' {a b : Nat} (ha : a < 2147483648) (hb : b < 2147483648) : nI a ≤ nI b ↔ a ≤ b := nI_leI (by omega) (by omega)
theorem nI_lt' {a b : Nat} (ha : a < 2147483648) (hb : b < 2147483648) : nI a < nI b ↔ a < b := nI_ltI (by omega) (by omega)
/-! long ints -/
theorem tl_lt {a b : Int64} : a < b ↔ a.toInt < b.toInt := Int64.lt_iff_toInt_lt
theorem tl_le {a b : Int64} : a ≤ b ↔ a.toInt ≤ b.toInt := Int64.le_iff_toInt_le
theorem tl_eq {a b : Int64} : a = b ↔ a.toInt = b.toInt := ⟨fun h => by rw [h], fun h => Int64.toInt_inj.mp h⟩
theorem tl_i (x : Int32) : x.toInt64.toInt = x.toInt := Int32.toInt_toInt64 x
theorem cmp_ge {a b : Int64} : 0 ≤ lg_cmp a b ↔ b.toInt ≤ a.toInt := by
  unfold lg_cmp
  by_cases h1 : b < a
  · rw [if_pos h1]
    have := tl_lt.mp h1
    exact ⟨fun _ => by omega, fun _ => by decide⟩
  · rw [if_neg h1]
    by_cases h2 : a = b
    · rw [if_pos h2]
      exact ⟨fun _ => by rw [h2]; exact Int.le_refl _, fun _ => by decide⟩
    · rw [if_neg h2]
      have h3 : ¬ b.toInt < a.toInt := fun z => h1 (tl_lt.mpr z)
      have h4 : ¬ a.toInt = b.toInt := fun z => h2 (tl_eq.mpr z)
      exact ⟨fun z => absurd z (by decide), fun z => by omega⟩
theorem cmp_gt {a b : Int64} : 0 < lg_cmp a b ↔ b.toInt < a.toInt := by
  unfold lg_cmp
  by_cases h1 : b < a
  · rw [if_pos h1]
    exact ⟨fun _ => tl_lt.mp h1, fun _ => by decide⟩
  · rw [if_neg h1]
    have h3 : ¬ b.toInt < a.toInt := fun z => h1 (tl_lt.mpr z)
    by_cases h2 : a = b
    · rw [if_pos h2]
      exact ⟨fun z => absurd z (by decide), fun z => absurd z h3⟩
    · rw [if_neg h2]
      exact ⟨fun z => absurd z (by decide), fun z => absurd z h3⟩
theorem cmp_eq {a b : Int64} : lg_cmp a b = 0 ↔ a = b := by
  unfold lg_cmp
  by_cases h1 : b < a
  · rw [if_pos h1]
    exact ⟨fun z => absurd z (by decide), fun z => by rw [z] at h1; exact absurd h1 (Int64.lt_irrefl)⟩
  · rw [if_neg h1]
    by_cases h2 : a = b
    · rw [if_pos h2]
      exact ⟨fun _ => h2, fun _ => rfl⟩
    · rw [if_neg h2]
      exact ⟨fun z => absurd z (by decide), fun z => absurd z h2⟩
theorem cmp_lt {a b : Int64} : lg_cmp a b < 0 ↔ a.toInt < b.toInt := by
  have h := cmp_ge (a := a) (b := b)
  rw [ti_le] at h
  rw [ti_lt]
  have e : (0 : Int32).toInt = 0 := rfl
  rw [e] at h ⊢
  omega
theorem cmp_le {a b : Int64} : lg_cmp a b ≤ 0 ↔ a.toInt ≤ b.toInt := by
  have h := cmp_gt (a := a) (b := b)
  rw [ti_lt] at h
  rw [ti_le]
  have e : (0 : Int32).toInt = 0 := rfl
  rw [e] at h ⊢
  omega

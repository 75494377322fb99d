/-! ===== the class: mean, luck ===== -/
def lI (n : Nat) : Int64 := Int64.ofNat n
theorem lI_t {n : Nat} (h : n < 9223372036854775808) : (lI n).toInt = (n : Int) := Int64.toInt_ofNat_of_lt h
theorem lI_add (a b : Nat) : lI a + lI b = lI (a + b) := (Int64.ofNat_add a b).symm
theorem lI_mul (a b : Nat) : lI a * lI b = lI (a * b) := (Int64.ofNat_mul a b).symm
theorem lI_sub {a b : Nat} (h : b ≤ a) : lI a - lI b = lI (a - b) := (Int64.ofNat_sub a b h).symm
theorem lI_inj {a b : Nat} (ha : a < 9223372036854775808) (hb : b < 9223372036854775808) : lI a = lI b ↔ a = b := by
  rw [tl_eq, lI_t ha, lI_t hb]
  omega
theorem lI_div {m k : Nat} (hm : m < 9223372036854775808) (hk : k < 9223372036854775808) : lI m / lI k = lI (m / k) := by
  have h1 : m / k ≤ m := Nat.div_le_self m k
  rw [tl_eq, Int64.toInt_div, lI_t hm, lI_t hk, lI_t (by omega)]
  rw [Int.tdiv_eq_ediv_of_nonneg (by omega), ← Int.natCast_ediv]
  have key : ∀ q : Nat, q ≤ m → (q : Int).bmod (2 ^ 64) = q := fun q hq => Int.bmod_eq_of_le (by omega) (by omega)
  exact key _ h1
theorem lI_rem {m k : Nat} (hm : m < 9223372036854775808) (hk : k < 9223372036854775808) : lI m - lI m / lI k * lI k = lI (m % k) := by
  rw [lI_div hm hk, lI_mul, lI_sub (by rw [Nat.mul_comm]; exact Nat.mul_div_le m k)]
  congr 1
  have := Nat.div_add_mod m k
  rw [Nat.mul_comm] at this
  omega
theorem nI_lI {n : Nat} (h : n < 2147483648) : (nI n).toInt64 = lI n := by
  rw [tl_eq, tl_i, ti_n h, lI_t (by omega)]
section RL
variable {y : zM} {d : Nat} {T : zX → Prop} {pc : Nat} {L : List (Option Value)} {st : List Value} {w : zW}
theorem r_leq {x z : Int64} (h : x = z) (k : WP y d T pc L (.long z :: st) w) : WP y d T pc L (.long x :: st) w := by
  subst h
  exact k
end RL
theorem rem_half {a b : Nat} (hb : 0 < a % b) (h0 : 0 < b) : 2 * (b % (a % b)) < b := by
  have h1 : a % b < b := Nat.mod_lt _ h0
  have h2 : b % (a % b) < a % b := Nat.mod_lt _ hb
  have h3 := Nat.div_add_mod b (a % b)
  have h4 : 1 ≤ b / (a % b) := (Nat.one_le_div_iff hb).mpr (by omega)
  have h5 : (a % b) * 1 ≤ (a % b) * (b / (a % b)) := Nat.mul_le_mul_left _ h4
  omega
theorem gcd_st {a b : Nat} : Nat.gcd b (a % b) = Nat.gcd a b := by
  rw [Nat.gcd_comm a b, Nat.gcd_rec b a, Nat.gcd_comm]
set_option maxRecDepth 20000 in
set_option maxHeartbeats 4000000 in
theorem l_gcd {d G : Nat} {T : zX → Prop} {w : zW} (hx : ∀ i v, WP mX6_commonDivisor d T 33 [some (.long (lI G)), none, some (.long (lI 0)), none, some (.int (nI i)), v, none] [] w) : ∀ m a b i v, Nat.gcd a b = G → a < 9223372036854775808 → b < 2 ^ m → m < 63 → i + 2 * m < 200 → WP mX6_commonDivisor d T 3 [some (.long (lI a)), none, some (.long (lI b)), none, some (.int (nI i)), v, none] [] w := by
  intro m
  induction m with
  | zero =>
    intro a b i v hg ha hb hm hi
    have e : b = 0 := by omega
    subst e
    rw [Nat.gcd_zero_right] at hg
    subst hg
    refine r_iload 5 dX6_commonDivisor_3 rfl rfl ?_
    refine r_sipush 8 (v := 200) dX6_commonDivisor_5 (by decide) rfl ?_
    refine r_icmp_ge 33 11 dX6_commonDivisor_8 (by decide) rfl (fun z => absurd z (fun z => absurd ((nI_le' (a := 200) (by decide) (by omega)).mp z) (by omega))) (fun _ => ?_)
    refine r_lload_n 12 dX6_commonDivisor_11 rfl rfl ?_
    refine r_lconst 13 (v := 0) dX6_commonDivisor_12 (by decide) rfl ?_
    refine r_lcmp 14 dX6_commonDivisor_13 rfl ?_
    refine r_if_eq 33 17 dX6_commonDivisor_14 (by decide) rfl (fun _ => ?_) (fun z => absurd (cmp_eq.mpr rfl) z)
    exact hx i v
  | succ m ih =>
    intro a b i v hg ha hb hm hi
    have hp : 2 ^ (m + 1) ≤ 2 ^ 62 := Nat.pow_le_pow_right (by decide) (by omega)
    have hb63 : b < 9223372036854775808 := by omega
    by_cases hb0 : b = 0
    · subst hb0
      rw [Nat.gcd_zero_right] at hg
      subst hg
      refine r_iload 5 dX6_commonDivisor_3 rfl rfl ?_
      refine r_sipush 8 (v := 200) dX6_commonDivisor_5 (by decide) rfl ?_
      refine r_icmp_ge 33 11 dX6_commonDivisor_8 (by decide) rfl (fun z => absurd z (fun z => absurd ((nI_le' (a := 200) (by decide) (by omega)).mp z) (by omega))) (fun _ => ?_)
      refine r_lload_n 12 dX6_commonDivisor_11 rfl rfl ?_
      refine r_lconst 13 (v := 0) dX6_commonDivisor_12 (by decide) rfl ?_
      refine r_lcmp 14 dX6_commonDivisor_13 rfl ?_
      refine r_if_eq 33 17 dX6_commonDivisor_14 (by decide) rfl (fun _ => ?_) (fun z => absurd (cmp_eq.mpr rfl) z)
      exact hx i v
    · have hr := Nat.mod_lt a (Nat.pos_of_ne_zero hb0)
      have n0 : ∀ x, ¬ x = 0 → x < 9223372036854775808 → ¬ lI x = 0 := fun x h1 h2 z => h1 ((lI_inj (b := 0) h2 (by decide)).mp z)
      by_cases hr0 : a % b = 0
      · have eG : b = G := by rw [← hg, ← gcd_st, hr0, Nat.gcd_zero_right]
        refine r_iload 5 dX6_commonDivisor_3 rfl rfl ?_
        refine r_sipush 8 (v := 200) dX6_commonDivisor_5 (by decide) rfl ?_
        refine r_icmp_ge 33 11 dX6_commonDivisor_8 (by decide) rfl (fun z => absurd z (fun z => absurd ((nI_le' (a := 200) (by decide) (by omega)).mp z) (by omega))) (fun _ => ?_)
        refine r_lload_n 12 dX6_commonDivisor_11 rfl rfl ?_
        refine r_lconst 13 (v := 0) dX6_commonDivisor_12 (by decide) rfl ?_
        refine r_lcmp 14 dX6_commonDivisor_13 rfl ?_
        refine r_if_eq 33 17 dX6_commonDivisor_14 (by decide) rfl (fun z => absurd z (fun z => n0 b hb0 hb63 (cmp_eq.mp z))) (fun _ => ?_)
        refine r_lload_n 18 dX6_commonDivisor_17 rfl rfl ?_
        refine r_lload_n 19 dX6_commonDivisor_18 rfl rfl ?_
        refine r_lrem 20 dX6_commonDivisor_19 (n0 b hb0 hb63) rfl ?_
        refine r_leq (lI_rem ha hb63) ?_
        refine r_lstore 22 (L' := [_, _, _, _, _, _, _]) dX6_commonDivisor_20 (by decide) rfl rfl rfl ?_
        refine r_lload_n 23 dX6_commonDivisor_22 rfl rfl ?_
        refine r_lstore_n 24 (L' := [_, _, _, _, _, _, _]) dX6_commonDivisor_23 (by decide) rfl rfl rfl ?_
        refine r_lload 26 dX6_commonDivisor_24 rfl rfl ?_
        refine r_lstore_n 27 (L' := [_, _, _, _, _, _, _]) dX6_commonDivisor_26 (by decide) rfl rfl rfl ?_
        refine r_iinc 30 (L' := [_, _, _, _, _, _, _]) (v := nI (i + 1)) dX6_commonDivisor_27 rfl (nI_1 i) (by decide) rfl rfl rfl ?_
        refine r_goto 3 dX6_commonDivisor_30 (by decide) ?_
        rw [hr0, eG]
        refine r_iload 5 dX6_commonDivisor_3 rfl rfl ?_
        refine r_sipush 8 (v := 200) dX6_commonDivisor_5 (by decide) rfl ?_
        refine r_icmp_ge 33 11 dX6_commonDivisor_8 (by decide) rfl (fun z => absurd z (fun z => absurd ((nI_le' (a := 200) (by decide) (by omega)).mp z) (by omega))) (fun _ => ?_)
        refine r_lload_n 12 dX6_commonDivisor_11 rfl rfl ?_
        refine r_lconst 13 (v := 0) dX6_commonDivisor_12 (by decide) rfl ?_
        refine r_lcmp 14 dX6_commonDivisor_13 rfl ?_
        refine r_if_eq 33 17 dX6_commonDivisor_14 (by decide) rfl (fun _ => ?_) (fun z => absurd (cmp_eq.mpr rfl) z)
        exact hx _ _
      · have hh := rem_half (Nat.pos_of_ne_zero hr0) (Nat.pos_of_ne_zero hb0)
        have key := ih (a % b) (b % (a % b)) (i + 2) (some (.long (lI (b % (a % b))))) (by rw [gcd_st, gcd_st]; exact hg) (by omega) (by rw [Nat.pow_succ] at hb; omega) (by omega) (by omega)
        refine r_iload 5 dX6_commonDivisor_3 rfl rfl ?_
        refine r_sipush 8 (v := 200) dX6_commonDivisor_5 (by decide) rfl ?_
        refine r_icmp_ge 33 11 dX6_commonDivisor_8 (by decide) rfl (fun z => absurd z (fun z => absurd ((nI_le' (a := 200) (by decide) (by omega)).mp z) (by omega))) (fun _ => ?_)
        refine r_lload_n 12 dX6_commonDivisor_11 rfl rfl ?_
        refine r_lconst 13 (v := 0) dX6_commonDivisor_12 (by decide) rfl ?_
        refine r_lcmp 14 dX6_commonDivisor_13 rfl ?_
        refine r_if_eq 33 17 dX6_commonDivisor_14 (by decide) rfl (fun z => absurd z (fun z => n0 b hb0 hb63 (cmp_eq.mp z))) (fun _ => ?_)
        refine r_lload_n 18 dX6_commonDivisor_17 rfl rfl ?_
        refine r_lload_n 19 dX6_commonDivisor_18 rfl rfl ?_
        refine r_lrem 20 dX6_commonDivisor_19 (n0 b hb0 hb63) rfl ?_
        refine r_leq (lI_rem ha hb63) ?_
        refine r_lstore 22 (L' := [_, _, _, _, _, _, _]) dX6_commonDivisor_20 (by decide) rfl rfl rfl ?_
        refine r_lload_n 23 dX6_commonDivisor_22 rfl rfl ?_
        refine r_lstore_n 24 (L' := [_, _, _, _, _, _, _]) dX6_commonDivisor_23 (by decide) rfl rfl rfl ?_
        refine r_lload 26 dX6_commonDivisor_24 rfl rfl ?_
        refine r_lstore_n 27 (L' := [_, _, _, _, _, _, _]) dX6_commonDivisor_26 (by decide) rfl rfl rfl ?_
        refine r_iinc 30 (L' := [_, _, _, _, _, _, _]) (v := nI (i + 1)) dX6_commonDivisor_27 rfl (nI_1 i) (by decide) rfl rfl rfl ?_
        refine r_goto 3 dX6_commonDivisor_30 (by decide) ?_
        refine r_iload 5 dX6_commonDivisor_3 rfl rfl ?_
        refine r_sipush 8 (v := 200) dX6_commonDivisor_5 (by decide) rfl ?_
        refine r_icmp_ge 33 11 dX6_commonDivisor_8 (by decide) rfl (fun z => absurd z (fun z => absurd ((nI_le' (a := 200) (by decide) (by omega)).mp z) (by omega))) (fun _ => ?_)
        refine r_lload_n 12 dX6_commonDivisor_11 rfl rfl ?_
        refine r_lconst 13 (v := 0) dX6_commonDivisor_12 (by decide) rfl ?_
        refine r_lcmp 14 dX6_commonDivisor_13 rfl ?_
        refine r_if_eq 33 17 dX6_commonDivisor_14 (by decide) rfl (fun z => absurd z (fun z => n0 (a % b) hr0 (by omega) (cmp_eq.mp z))) (fun _ => ?_)
        refine r_lload_n 18 dX6_commonDivisor_17 rfl rfl ?_
        refine r_lload_n 19 dX6_commonDivisor_18 rfl rfl ?_
        refine r_lrem 20 dX6_commonDivisor_19 (n0 (a % b) hr0 (by omega)) rfl ?_
        refine r_leq (lI_rem hb63 (by omega)) ?_
        refine r_lstore 22 (L' := [_, _, _, _, _, _, _]) dX6_commonDivisor_20 (by decide) rfl rfl rfl ?_
        refine r_lload_n 23 dX6_commonDivisor_22 rfl rfl ?_
        refine r_lstore_n 24 (L' := [_, _, _, _, _, _, _]) dX6_commonDivisor_23 (by decide) rfl rfl rfl ?_
        refine r_lload 26 dX6_commonDivisor_24 rfl rfl ?_
        refine r_lstore_n 27 (L' := [_, _, _, _, _, _, _]) dX6_commonDivisor_26 (by decide) rfl rfl rfl ?_
        refine r_iinc 30 (L' := [_, _, _, _, _, _, _]) (v := nI (i + 1 + 1)) dX6_commonDivisor_27 rfl (nI_1 (i + 1)) (by decide) rfl rfl rfl ?_
        refine r_goto 3 dX6_commonDivisor_30 (by decide) ?_
        exact key
set_option maxRecDepth 20000 in
set_option maxHeartbeats 4000000 in
theorem c_gcd {d a b : Nat} {w : zW} (ha : a < 9223372036854775808) (hb : b < 2 ^ 60) : CT mX6_commonDivisor d [.long (lI a), .long (lI b)] w (z_l fun x w' => lI (Nat.gcd a b) = x ∧ w = w') := by
  refine CT.of [some (.long (lI a)), none, some (.long (lI b)), none, none, none, none] rfl (Nat.le_of_ble_eq_true rfl) rfl ?_
  refine r_iconst 1 (v := 0) dX6_commonDivisor_0 (by decide) rfl ?_
  refine r_istore 3 (L' := [_, _, _, _, _, _, _]) dX6_commonDivisor_1 (by decide) rfl rfl rfl ?_
  refine l_gcd (fun i v => ?_) 60 a b 0 _ rfl ha hb (by decide) (by decide)
  refine r_lload_n 34 dX6_commonDivisor_33 rfl rfl ?_
  exact r_lret dX6_commonDivisor_34 rfl (⟨rfl, rfl⟩)
/-- in lowest terms -/
def low (S W q : Nat) : Nat := if q = 0 then S / Nat.gcd S W else W / Nat.gcd S W
set_option maxRecDepth 20000 in
set_option maxHeartbeats 4000000 in
theorem c_lowest {d S W q : Nat} {w : zW} (hd : 1 ≤ d) (hS : S < 9223372036854775808) (hW : W < 2 ^ 60) (h0 : 0 < W) (hq : q ≤ 1) : CT mX6_lowest d [.long (lI S), .long (lI W), .int (nI q)] w (z_l fun x w' => lI (low S W q) = x ∧ w = w') := by
  have hg1 : 0 < Nat.gcd S W := Nat.gcd_pos_of_pos_right _ h0
  have hg3 : Nat.gcd S W ≤ W := Nat.gcd_le_right _ h0
  have hg2 : Nat.gcd S W < 9223372036854775808 := by omega
  refine CT.of [some (.long (lI S)), none, some (.long (lI W)), none, some (.int (nI q)), none, none] rfl (Nat.le_of_ble_eq_true rfl) rfl ?_
  refine r_lload_n 1 dX6_lowest_0 rfl rfl ?_
  refine r_lload_n 2 dX6_lowest_1 rfl rfl ?_
  refine r_callS (y2 := mX6_commonDivisor) (as := [_, _]) 5 dX6_lowest_2 ml_X6_229 ms_X6_commonDivisor (c_gcd (d := d - 1) hS hW) (by omega) rfl (Nat.le_of_ble_eq_true rfl) rfl (kk_l ?_)
  rintro _ _ ⟨rfl, rfl⟩
  refine r_lstore 7 (L' := [_, _, _, _, _, _, _]) dX6_lowest_5 (by decide) rfl rfl rfl ?_
  refine r_lload 9 dX6_lowest_7 rfl rfl ?_
  refine r_lconst 10 (v := 1) dX6_lowest_9 (by decide) rfl ?_
  refine r_lcmp 11 dX6_lowest_10 rfl ?_
  refine r_if_ge 16 14 dX6_lowest_11 (by decide) rfl (fun _ => ?_) (fun z => absurd (cmp_ge.mpr (by rw [lI_t hg2]; show (1 : Int) ≤ _; omega)) z)
  refine r_iload 18 dX6_lowest_16 rfl rfl ?_
  refine r_if_ne 28 21 dX6_lowest_18 (by decide) rfl (fun g18 => ?_) (fun g18 => ?_)
  · have g18 : ¬ q = 0 := fun z => g18 (by rw [z]; rfl)
    refine r_lload_n 29 dX6_lowest_28 rfl rfl ?_
    refine r_lload 31 dX6_lowest_29 rfl rfl ?_
    refine r_ldiv 32 dX6_lowest_31 (fun z => absurd ((lI_inj (b := 0) hg2 (by decide)).mp z) (by omega)) rfl ?_
    refine r_leq (lI_div (by omega) hg2) ?_
    exact r_lret dX6_lowest_32 rfl (by first | exact ⟨by rw [low, if_pos g18], rfl⟩ | exact ⟨by rw [low, if_neg g18], rfl⟩)
  · have g18 := (nI_inj (b := 0) (by omega) (by decide)).mp g18
    refine r_lload_n 22 dX6_lowest_21 rfl rfl ?_
    refine r_lload 24 dX6_lowest_22 rfl rfl ?_
    refine r_ldiv 25 dX6_lowest_24 (fun z => absurd ((lI_inj (b := 0) hg2 (by decide)).mp z) (by omega)) rfl ?_
    refine r_leq (lI_div hS hg2) ?_
    refine r_goto 32 dX6_lowest_25 (by decide) ?_
    exact r_lret dX6_lowest_32 rfl (by first | exact ⟨by rw [low, if_pos g18], rfl⟩ | exact ⟨by rw [low, if_neg g18], rfl⟩)

/-! ===== ternaries: a branch to two constants that meet ===== -/
section TERN
variable {y : zM} {d : Nat} {T : zX → Prop} {pc : Nat} {L : List (Option Value)} {st : List Value} {w : zW}
theorem rt_if_eq {x a b : Int32} {off : Int} {j : Nat} (t n : Nat) (hd : decode y.2.1 pc = .ok (.ifCond .eq off, 3)) (ht : (pc : Int) + off = (t : Int)) (hn : pc + 3 = n) (kb : WP y d T j L (.int b :: st) w → WP y d T t L st w) (ka : WP y d T j L (.int a :: st) w → WP y d T n L st w) (k : WP y d T j L (.int (if x = 0 then b else a) :: st) w) : WP y d T pc L (.int x :: st) w :=
  r_if_eq t n hd ht hn (fun q => kb (by rw [if_pos q] at k; exact k)) (fun q => ka (by rw [if_neg q] at k; exact k))
theorem rt_icmp_eq {x z a b : Int32} {off : Int} {j : Nat} (t n : Nat) (hd : decode y.2.1 pc = .ok (.if_icmp .eq off, 3)) (ht : (pc : Int) + off = (t : Int)) (hn : pc + 3 = n) (kb : WP y d T j L (.int b :: st) w → WP y d T t L st w) (ka : WP y d T j L (.int a :: st) w → WP y d T n L st w) (k : WP y d T j L (.int (if x = z then b else a) :: st) w) : WP y d T pc L (.int z :: .int x :: st) w :=
  r_icmp_eq t n hd ht hn (fun q => kb (by rw [if_pos q] at k; exact k)) (fun q => ka (by rw [if_neg q] at k; exact k))
theorem rt_if_ne {x a b : Int32} {off : Int} {j : Nat} (t n : Nat) (hd : decode y.2.1 pc = .ok (.ifCond .ne off, 3)) (ht : (pc : Int) + off = (t : Int)) (hn : pc + 3 = n) (kb : WP y d T j L (.int b :: st) w → WP y d T t L st w) (ka : WP y d T j L (.int a :: st) w → WP y d T n L st w) (k : WP y d T j L (.int (if x = 0 then a else b) :: st) w) : WP y d T pc L (.int x :: st) w :=
  r_if_ne t n hd ht hn (fun q => kb (by rw [if_neg q] at k; exact k)) (fun q => ka (by rw [if_pos q] at k; exact k))
theorem rt_icmp_ne {x z a b : Int32} {off : Int} {j : Nat} (t n : Nat) (hd : decode y.2.1 pc = .ok (.if_icmp .ne off, 3)) (ht : (pc : Int) + off = (t : Int)) (hn : pc + 3 = n) (kb : WP y d T j L (.int b :: st) w → WP y d T t L st w) (ka : WP y d T j L (.int a :: st) w → WP y d T n L st w) (k : WP y d T j L (.int (if x = z then a else b) :: st) w) : WP y d T pc L (.int z :: .int x :: st) w :=
  r_icmp_ne t n hd ht hn (fun q => kb (by rw [if_neg q] at k; exact k)) (fun q => ka (by rw [if_pos q] at k; exact k))
theorem rt_if_lt {x a b : Int32} {off : Int} {j : Nat} (t n : Nat) (hd : decode y.2.1 pc = .ok (.ifCond .lt off, 3)) (ht : (pc : Int) + off = (t : Int)) (hn : pc + 3 = n) (kb : WP y d T j L (.int b :: st) w → WP y d T t L st w) (ka : WP y d T j L (.int a :: st) w → WP y d T n L st w) (k : WP y d T j L (.int (if x < 0 then b else a) :: st) w) : WP y d T pc L (.int x :: st) w :=
  r_if_lt t n hd ht hn (fun q => kb (by rw [if_pos q] at k; exact k)) (fun q => ka (by rw [if_neg q] at k; exact k))
theorem rt_icmp_lt {x z a b : Int32} {off : Int} {j : Nat} (t n : Nat) (hd : decode y.2.1 pc = .ok (.if_icmp .lt off, 3)) (ht : (pc : Int) + off = (t : Int)) (hn : pc + 3 = n) (kb : WP y d T j L (.int b :: st) w → WP y d T t L st w) (ka : WP y d T j L (.int a :: st) w → WP y d T n L st w) (k : WP y d T j L (.int (if x < z then b else a) :: st) w) : WP y d T pc L (.int z :: .int x :: st) w :=
  r_icmp_lt t n hd ht hn (fun q => kb (by rw [if_pos q] at k; exact k)) (fun q => ka (by rw [if_neg q] at k; exact k))
theorem rt_if_ge {x a b : Int32} {off : Int} {j : Nat} (t n : Nat) (hd : decode y.2.1 pc = .ok (.ifCond .ge off, 3)) (ht : (pc : Int) + off = (t : Int)) (hn : pc + 3 = n) (kb : WP y d T j L (.int b :: st) w → WP y d T t L st w) (ka : WP y d T j L (.int a :: st) w → WP y d T n L st w) (k : WP y d T j L (.int (if 0 ≤ x then b else a) :: st) w) : WP y d T pc L (.int x :: st) w :=
  r_if_ge t n hd ht hn (fun q => kb (by rw [if_pos q] at k; exact k)) (fun q => ka (by rw [if_neg q] at k; exact k))
theorem rt_icmp_ge {x z a b : Int32} {off : Int} {j : Nat} (t n : Nat) (hd : decode y.2.1 pc = .ok (.if_icmp .ge off, 3)) (ht : (pc : Int) + off = (t : Int)) (hn : pc + 3 = n) (kb : WP y d T j L (.int b :: st) w → WP y d T t L st w) (ka : WP y d T j L (.int a :: st) w → WP y d T n L st w) (k : WP y d T j L (.int (if z ≤ x then b else a) :: st) w) : WP y d T pc L (.int z :: .int x :: st) w :=
  r_icmp_ge t n hd ht hn (fun q => kb (by rw [if_pos q] at k; exact k)) (fun q => ka (by rw [if_neg q] at k; exact k))
theorem rt_if_gt {x a b : Int32} {off : Int} {j : Nat} (t n : Nat) (hd : decode y.2.1 pc = .ok (.ifCond .gt off, 3)) (ht : (pc : Int) + off = (t : Int)) (hn : pc + 3 = n) (kb : WP y d T j L (.int b :: st) w → WP y d T t L st w) (ka : WP y d T j L (.int a :: st) w → WP y d T n L st w) (k : WP y d T j L (.int (if 0 < x then b else a) :: st) w) : WP y d T pc L (.int x :: st) w :=
  r_if_gt t n hd ht hn (fun q => kb (by rw [if_pos q] at k; exact k)) (fun q => ka (by rw [if_neg q] at k; exact k))
theorem rt_icmp_gt {x z a b : Int32} {off : Int} {j : Nat} (t n : Nat) (hd : decode y.2.1 pc = .ok (.if_icmp .gt off, 3)) (ht : (pc : Int) + off = (t : Int)) (hn : pc + 3 = n) (kb : WP y d T j L (.int b :: st) w → WP y d T t L st w) (ka : WP y d T j L (.int a :: st) w → WP y d T n L st w) (k : WP y d T j L (.int (if z < x then b else a) :: st) w) : WP y d T pc L (.int z :: .int x :: st) w :=
  r_icmp_gt t n hd ht hn (fun q => kb (by rw [if_pos q] at k; exact k)) (fun q => ka (by rw [if_neg q] at k; exact k))
theorem rt_if_le {x a b : Int32} {off : Int} {j : Nat} (t n : Nat) (hd : decode y.2.1 pc = .ok (.ifCond .le off, 3)) (ht : (pc : Int) + off = (t : Int)) (hn : pc + 3 = n) (kb : WP y d T j L (.int b :: st) w → WP y d T t L st w) (ka : WP y d T j L (.int a :: st) w → WP y d T n L st w) (k : WP y d T j L (.int (if x ≤ 0 then b else a) :: st) w) : WP y d T pc L (.int x :: st) w :=
  r_if_le t n hd ht hn (fun q => kb (by rw [if_pos q] at k; exact k)) (fun q => ka (by rw [if_neg q] at k; exact k))
theorem rt_icmp_le {x z a b : Int32} {off : Int} {j : Nat} (t n : Nat) (hd : decode y.2.1 pc = .ok (.if_icmp .le off, 3)) (ht : (pc : Int) + off = (t : Int)) (hn : pc + 3 = n) (kb : WP y d T j L (.int b :: st) w → WP y d T t L st w) (ka : WP y d T j L (.int a :: st) w → WP y d T n L st w) (k : WP y d T j L (.int (if x ≤ z then b else a) :: st) w) : WP y d T pc L (.int z :: .int x :: st) w :=
  r_icmp_le t n hd ht hn (fun q => kb (by rw [if_pos q] at k; exact k)) (fun q => ka (by rw [if_neg q] at k; exact k))
theorem rt_b_eq {p : Prop} [Decidable p] {a b : Int32} {off : Int} {j : Nat} (t n : Nat) (hd : decode y.2.1 pc = .ok (.ifCond .eq off, 3)) (ht : (pc : Int) + off = (t : Int)) (hn : pc + 3 = n) (kb : WP y d T j L (.int b :: st) w → WP y d T t L st w) (ka : WP y d T j L (.int a :: st) w → WP y d T n L st w) (k : WP y d T j L (.int (if p then a else b) :: st) w) : WP y d T pc L (.int (z_b p) :: st) w :=
  rb_eq t n hd ht hn (fun q => kb (by rw [if_neg q] at k; exact k)) (fun q => ka (by rw [if_pos q] at k; exact k))
theorem rt_b_ne {p : Prop} [Decidable p] {a b : Int32} {off : Int} {j : Nat} (t n : Nat) (hd : decode y.2.1 pc = .ok (.ifCond .ne off, 3)) (ht : (pc : Int) + off = (t : Int)) (hn : pc + 3 = n) (kb : WP y d T j L (.int b :: st) w → WP y d T t L st w) (ka : WP y d T j L (.int a :: st) w → WP y d T n L st w) (k : WP y d T j L (.int (if p then b else a) :: st) w) : WP y d T pc L (.int (z_b p) :: st) w :=
  rb_ne t n hd ht hn (fun q => kb (by rw [if_pos q] at k; exact k)) (fun q => ka (by rw [if_neg q] at k; exact k))
end TERN
/-! ===== bits of small sets ===== -/
theorem b_sh : ∀ g, g < 64 → ∀ b, b < 6 → ((nI g >>> (nI b &&& 31)) &&& 1) = nI (bi g b) := by decide +kernel
theorem b_or : ∀ g, g < 64 → ∀ b, b < 6 → bi g b = 0 → nI g ||| ((1 : Int32) <<< (nI b &&& 31)) = nI (g + 2 ^ b) := by decide +kernel
theorem b_rm : ∀ g, g < 64 → ∀ b, b < 6 → bi g b = 1 → nI g &&& (((1 : Int32) <<< (nI b &&& 31)) ^^^ (-1)) = nI (g - 2 ^ b) := by decide +kernel
theorem b_sl : ∀ b, b < 7 → ((1 : Int32) <<< (nI b &&& 31)) = nI (2 ^ b) := by decide +kernel
theorem bi_add : ∀ g, g < 64 → ∀ b, b < 6 → bi g b = 0 → ∀ c, c < 6 → bi (g + 2 ^ b) c = if c = b then 1 else bi g c := by decide +kernel
theorem bi_sub : ∀ g, g < 64 → ∀ b, b < 6 → bi g b = 1 → ∀ c, c < 6 → bi (g - 2 ^ b) c = if c = b then 0 else bi g c := by decide +kernel
theorem g_add : ∀ n, n < 7 → ∀ g, g < 2 ^ n → ∀ b, b < n → bi g b = 0 → g + 2 ^ b < 2 ^ n := by decide +kernel
theorem g_out : ∀ n, n < 7 → ∀ g, g < 2 ^ n → ∀ b, b < 6 → n ≤ b → bi g b = 0 := by decide +kernel
theorem p2_le : ∀ n, n < 7 → 2 ^ n ≤ 64 := by decide
theorem bi_ext : ∀ g, g < 64 → ∀ h, h < 64 → (∀ c, c < 6 → bi g c = bi h c) → g = h := by decide +kernel
/-! small sums -/
theorem n0_max {a b : Nat} (ha : a < 1073741824) (hb : b < 1073741824) : (if (0 : Int32) < nI a - nI b then nI a - nI b else 0) = nI (a - b) := by
  rcases Nat.lt_or_ge b a with h | h
  · rw [nI_sub (by omega), if_pos]
    rw [ti_lt, ti_n (by omega)]
    show (0 : Int) < _
    omega
  · rw [if_neg, show a - b = 0 by omega, nI_0]
    rw [ti_lt, pk_sub_toInt (by omega) (by omega)]
    show ¬ (0 : Int) < _
    omega
theorem n_max {a b : Nat} (ha : a < 2147483648) (hb : b < 2147483648) : (if nI a < nI b then nI b else nI a) = nI (max a b) := by
  by_cases h : a < b
  · rw [if_pos ((nI_lt' ha hb).mpr h), Nat.max_eq_right (by omega)]
  · rw [if_neg (fun z => h ((nI_lt' ha hb).mp z)), Nat.max_eq_left (by omega)]
theorem n_min {a b : Nat} (ha : a < 2147483648) (hb : b < 2147483648) : (if nI b < nI a then nI b else nI a) = nI (min a b) := by
  by_cases h : b < a
  · rw [if_pos ((nI_lt' hb ha).mpr h), Nat.min_eq_right (by omega)]
  · rw [if_neg (fun z => h ((nI_lt' hb ha).mp z)), Nat.min_eq_left (by omega)]
theorem n_ite {p : Prop} [Decidable p] {a b : Nat} : (if p then nI a else nI b) = nI (if p then a else b) := by split <;> rfl
section CPJ
variable {y : zM} {d : Nat} {T : zX → Prop} {pc : Nat} {L : List (Option Value)} {st : List Value} {w : zW} {idx : Nat}
theorem rj_copy {k0 k1 n0 n1 : Nat} {sp dp m : Int32} (n : Nat) (hd : decode y.2.1 pc = .ok (.invokestatic idx, 3)) (hl : Cond.methodLink y.1.cls idx arraycopyName ∈ z_WS) (hd1 : 1 ≤ d) (hs0 : z_shp[k0]? = some (.inl (.int, n0, none))) (hs1 : z_shp[k1]? = some (.inl (.int, n1, none))) (a b c : Nat) (ha : sp = nI a) (hb : dp = nI b) (hc : m = nI c) (h4 : a + c ≤ n0 ∧ n0 < 1000) (h5 : b + c ≤ n1 ∧ n1 < 1000)
    (hr : (st.map fun v => v.category).sum ≤ 8) (hn : pc + 3 = n) (kk : WP y d T n L st (z_ua w k1 (va_cpy (w k0) (w k1) a b c))) : WP y d T pc L (.int m :: .int dp :: .ref k1 :: .int sp :: .ref k0 :: st) w := by
  subst ha
  subst hb
  subst hc
  have e : ∀ q, q < 1000 → (nI q).toNatClampNeg = q := fun q h => nI_clamp (by omega)
  refine r_copy n hd hl hd1 hs0 hs1 (nI_pos (by omega)) (nI_pos (by omega)) (nI_pos (by omega)) (by rw [e a (by omega), e c (by omega)]; exact h4.1) (by rw [e b (by omega), e c (by omega)]; exact h5.1) hr hn ?_
  rw [e a (by omega), e b (by omega), e c (by omega)]
  exact kk
theorem rj_copyT {j k0 k1 n1 : Nat} {sp dp m : Int32} (n : Nat) (hd : decode y.2.1 pc = .ok (.invokestatic idx, 3)) (hl : Cond.methodLink y.1.cls idx arraycopyName ∈ z_WS) (hd1 : 1 ≤ d) (hj : j < 4) (hk0 : k0 = 100 + j) (hs1 : z_shp[k1]? = some (.inl (.int, n1, none))) (a b c : Nat) (ha : sp = nI a) (hb : dp = nI b) (hc : m = nI c) (h4 : a + c ≤ (z_sar.getD j []).length ∧ (z_sar.getD j []).length < 1000) (h5 : b + c ≤ n1 ∧ n1 < 1000)
    (hr : (st.map fun v => v.category).sum ≤ 8) (hn : pc + 3 = n) (kk : WP y d T n L st (z_ua w k1 (va_cpy (fun i => (z_sar.getD j []).getD i 0) (w k1) a b c))) : WP y d T pc L (.int m :: .int dp :: .ref k1 :: .int sp :: .ref k0 :: st) w := by
  subst ha
  subst hb
  subst hc
  have e : ∀ q, q < 1000 → (nI q).toNatClampNeg = q := fun q h => nI_clamp (by omega)
  refine r_copyT n hd hl hd1 hj hk0 hs1 (nI_pos (by omega)) (nI_pos (by omega)) (nI_pos (by omega)) (by rw [e a (by omega), e c (by omega)]; exact h4.1) (by rw [e b (by omega), e c (by omega)]; exact h5.1) hr hn ?_
  rw [e a (by omega), e b (by omega), e c (by omega)]
  exact kk
/-- a name for the world -/
theorem r_nw (k : ∀ w' : zW, w' = w → WP y d T pc L st w') : WP y d T pc L st w := k w rfl
/-- what is on top is a number -/
theorem r_n {x : Int32} (k : ∀ z : Int32, z = x → WP y d T pc L (.int z :: st) w) : WP y d T pc L (.int x :: st) w := k x rfl
end CPJ

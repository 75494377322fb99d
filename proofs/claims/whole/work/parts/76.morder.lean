/-! ===== the reference: order ===== -/
/-- the boats that a number names, from its end -/
def og (x : Nat) : Nat → Nat
  | 0 => 0
  | m + 1 => og x m ||| 2 ^ (x / 6 ^ m % 6)
theorem or_b : ∀ g, g < 64 → ∀ b, b < 6 → nI g ||| ((1 : Int32) <<< (nI b &&& 31)) = nI (g ||| 2 ^ b) ∧ g ||| 2 ^ b < 64 := by decide +kernel
theorem or_bi : ∀ g, g < 64 → ∀ b, b < 6 → ∀ c, c < 6 → bi (g ||| 2 ^ b) c = if c = b then 1 else bi g c := by decide +kernel
theorem og_lt {x : Nat} : ∀ m, og x m < 64
  | 0 => by show 0 < 64; decide
  | m + 1 => (or_b _ (og_lt m) _ (Nat.mod_lt _ (by decide))).2
theorem og_bi {x c : Nat} (hc : c < 6) : ∀ m, bi (og x m) c = 1 ↔ ∃ j, j < m ∧ x / 6 ^ j % 6 = c := by
  intro m
  induction m with
  | zero =>
    have z0 : bi (og x 0) c = 0 := by show 0 / 2 ^ c % 2 = 0; simp
    rw [z0]
    exact ⟨fun h => absurd h (by decide), fun ⟨j, hj, _⟩ => absurd hj (Nat.not_lt_zero j)⟩
  | succ m ih =>
    rw [og, or_bi _ (og_lt m) _ (Nat.mod_lt _ (by decide)) c hc]
    by_cases e : c = x / 6 ^ m % 6
    · rw [if_pos e]
      exact ⟨fun _ => ⟨m, Nat.lt_succ_self m, e.symm⟩, fun _ => rfl⟩
    · rw [if_neg e, ih]
      exact ⟨fun ⟨j, hj, h⟩ => ⟨j, by omega, h⟩, fun ⟨j, hj, h⟩ => ⟨j, by
        rcases Nat.lt_succ_iff_lt_or_eq.mp hj with q | q
        · exact q
        · rw [q] at h; exact absurd h.symm e, h⟩⟩
/-- how many boats it names -/
def oN (n x m : Nat) : Nat := cn n (fun b => bi (og x m) b == 1)
theorem oN_y {n x m : Nat} (hn : n ≤ 6) (h1 : x / 6 ^ m % 6 < n) (h2 : bi (og x m) (x / 6 ^ m % 6) = 0) : oN n x (m + 1) = oN n x m + 1 := by
  unfold oN
  refine cn_add h1 (by simp [h2]) ?_ (fun c hc hcb => ?_)
  · rw [og, or_bi _ (og_lt m) _ (Nat.mod_lt _ (by decide)) _ (by omega), if_pos rfl]; rfl
  · rw [og, or_bi _ (og_lt m) _ (Nat.mod_lt _ (by decide)) _ (by omega), if_neg hcb]
theorem oN_n {n x m : Nat} (hn : n ≤ 6) (h : ¬ (x / 6 ^ m % 6 < n ∧ bi (og x m) (x / 6 ^ m % 6) = 0)) : oN n x (m + 1) = oN n x m := by
  unfold oN
  refine cn_congr (fun c hc => ?_)
  rw [og, or_bi _ (og_lt m) _ (Nat.mod_lt _ (by decide)) _ (by omega)]
  by_cases e : c = x / 6 ^ m % 6
  · rw [if_pos e]
    have := bi_01 (og x m) (x / 6 ^ m % 6)
    have h1 : bi (og x m) (x / 6 ^ m % 6) = 1 := by
      rcases this with q | q
      · exact absurd ⟨by omega, q⟩ h
      · exact q
    rw [e, h1]
  · rw [if_neg e]
theorem oN_le {n x : Nat} (hn : n ≤ 6) : ∀ m k, oN n x (m + k) ≤ oN n x m + k := by
  intro m k
  induction k with
  | zero => exact Nat.le_refl _
  | succ k ih =>
    rw [show m + (k + 1) = m + k + 1 by omega]
    by_cases c : x / 6 ^ (m + k) % 6 < n ∧ bi (og x (m + k)) (x / 6 ^ (m + k) % 6) = 0
    · rw [oN_y hn c.1 c.2]; omega
    · rw [oN_n hn c]; omega
theorem oN_0 {n x : Nat} : oN n x 0 = 0 := by
  have e : ∀ m, cn m (fun b => bi (og x 0) b == 1) = 0 := by
    intro m
    induction m with
    | zero => rfl
    | succ m ih =>
      rw [cn, ih]
      show 0 + (if ((0 : Nat) / 2 ^ m % 2 == 1) = true then 1 else 0) = 0
      simp
  exact e n
theorem dg_e {n x m : Nat} (h : m < n) : dg n x (n - 1 - m) = x / 6 ^ m % 6 := by
  unfold dg
  rw [show n - 1 - (n - 1 - m) = m by omega]
theorem isO_e {n x : Nat} : isO n x = true ↔ (∀ m, m < n → x / 6 ^ m % 6 < n) ∧ ∀ m, m < n → ∀ j, j < m → x / 6 ^ j % 6 ≠ x / 6 ^ m % 6 := by
  rw [isO_iff]
  constructor
  · intro h
    refine ⟨fun m hm => by rw [← dg_e hm]; exact h.1 _ (by omega), fun m hm j hj => ?_⟩
    rw [← dg_e hm, ← dg_e (show j < n by omega)]
    exact fun z => h.2 (n - 1 - m) (n - 1 - j) (by omega) (by omega) z.symm
  · intro h
    have e : ∀ i, i < n → dg n x i = x / 6 ^ (n - 1 - i) % 6 := fun i hi => rfl
    refine ⟨fun i hi => by rw [e i hi]; exact h.1 _ (by omega), fun j k hj hk => ?_⟩
    rw [e j (by omega), e k hk]
    exact fun z => h.2 (n - 1 - j) (by omega) (n - 1 - k) (by omega) z.symm
/-- it names each once: all are named -/
theorem og_iso {n x : Nat} (hn : n ≤ 6) : og x n = 2 ^ n - 1 ↔ isO n x = true := by
  rw [isO_e]
  have c0 := oN_0 (n := n) (x := x)
  constructor
  · intro h
    have cn_ : oN n x n = n := by
      unfold oN
      rw [h]
      have : ∀ k, k ≤ n → cn k (fun b => bi (2 ^ n - 1) b == 1) = k := by
        intro k hk
        induction k with
        | zero => rfl
        | succ k ih => rw [cn, ih (by omega), bi_full n (by omega) k (by omega)]; rfl
      exact this n (Nat.le_refl n)
    have cm : ∀ m, m ≤ n → oN n x m = m := by
      intro m hm
      have h1 := oN_le (x := x) hn m (n - m)
      rw [show m + (n - m) = n by omega, cn_] at h1
      have h2 := oN_le (x := x) hn 0 m
      rw [Nat.zero_add, c0] at h2
      omega
    have st : ∀ m, m < n → x / 6 ^ m % 6 < n ∧ bi (og x m) (x / 6 ^ m % 6) = 0 := by
      intro m hm
      apply Classical.byContradiction
      intro z
      have h1 := oN_n hn z
      rw [cm (m + 1) (by omega), cm m (by omega)] at h1
      omega
    refine ⟨fun m hm => (st m hm).1, fun m hm j hj z => ?_⟩
    have h1 := (og_bi (x := x) (c := x / 6 ^ m % 6) (Nat.mod_lt _ (by decide)) m).mpr ⟨j, hj, z⟩
    rw [(st m hm).2] at h1
    cases h1
  · intro h
    have cm : ∀ m, m ≤ n → oN n x m = m := by
      intro m
      induction m with
      | zero => intro _; exact c0
      | succ m ih =>
        intro hm
        rw [oN_y hn (h.1 m (by omega)) ?_, ih (by omega)]
        rcases bi_01 (og x m) (x / 6 ^ m % 6) with q | q
        · exact q
        · obtain ⟨j, hj, e⟩ := (og_bi (x := x) (Nat.mod_lt _ (by decide)) m).mp q
          exact absurd e (h.2 m (by omega) j hj)
    have all : ∀ b, b < n → bi (og x n) b = 1 := fun b hb => by
      have := cn_all (cm n (Nat.le_refl n)) b hb
      simpa using this
    have p64 := p2_le n (by omega)
    have p1 : 1 ≤ 2 ^ n := Nat.one_le_two_pow
    refine bi_ext _ (og_lt n) _ (by omega) (fun c hc => ?_)
    by_cases q : c < n
    · rw [all c q, bi_full n (by omega) c q]
    · rw [g_out n (by omega) (2 ^ n - 1) (by omega) c hc (by omega)]
      rcases bi_01 (og x n) c with z | z
      · exact z
      · obtain ⟨j, hj, e⟩ := (og_bi hc n).mp z
        have := h.1 j hj
        omega
theorem i_m1 {a : Int32} : a + (-1) = a - 1 := (Int32.sub_eq_add_neg a 1).symm
set_option maxRecDepth 20000 in
set_option maxHeartbeats 4000000 in
theorem l_rows {d n : Nat} {w : zW} {T : zX → Prop} (hn : n ≤ 6) (h3 : w 50 3 = nI n) (hx : WP mX7_rows d T 23 [some (.ref 50), some (.int (nI (6 ^ n))), some (.int (nI n))] [] w) : ∀ k i, i + k = n → WP mX7_rows d T 4 [some (.ref 50), some (.int (nI (6 ^ i))), some (.int (nI i))] [] w := by
  intro k
  induction k with
  | zero =>
    intro i hi
    have e : i = n := by omega
    subst e
    refine r_iload_n 5 dX7_rows_4 rfl rfl ?_
    refine r_aload_n 6 dX7_rows_5 rfl rfl ?_
    refine r_geti 9 dX7_rows_6 fz_X7_69 sh_50 rfl rfl ?_
    refine r_eq h3 ?_
    refine r_icmp_ge 23 12 dX7_rows_9 (by decide) rfl (fun _ => ?_) (fun z => absurd (Int32.le_refl _) z)
    exact hx
  | succ k ih =>
    intro i hi
    refine r_iload_n 5 dX7_rows_4 rfl rfl ?_
    refine r_aload_n 6 dX7_rows_5 rfl rfl ?_
    refine r_geti 9 dX7_rows_6 fz_X7_69 sh_50 rfl rfl ?_
    refine r_eq h3 ?_
    refine r_icmp_ge 23 12 dX7_rows_9 (by decide) rfl (fun z => absurd z (fun z => absurd ((nI_le' (by omega) (by omega)).mp z) (by omega))) (fun _ => ?_)
    refine r_iload_n 13 dX7_rows_12 rfl rfl ?_
    refine r_bipush 15 (v := 6) dX7_rows_13 (by decide) rfl ?_
    refine r_imul 16 dX7_rows_15 rfl ?_
    refine r_eq (z := nI (6 ^ (i + 1))) ((nI_mul _ 6).trans (by rw [Nat.pow_succ])) ?_
    refine r_istore_n 17 (L' := [_, _, _]) dX7_rows_16 (by decide) rfl rfl rfl ?_
    refine r_iinc 20 (L' := [_, _, _]) (v := nI (i + 1)) dX7_rows_17 rfl (nI_1 i) (by decide) rfl rfl rfl ?_
    refine r_goto 4 dX7_rows_20 (by decide) ?_
    exact ih (i + 1) (by omega)
set_option maxRecDepth 20000 in
set_option maxHeartbeats 4000000 in
theorem m_rows {d n : Nat} {w : zW} (hn : n ≤ 6) (h3 : w 50 3 = nI n) : CT mX7_rows d [.ref 50] w (z_i fun x w' => nI (6 ^ n) = x ∧ w = w') := by
  refine CT.of [some (.ref 50), none, none] rfl (Nat.le_of_ble_eq_true rfl) rfl ?_
  refine r_iconst 1 (v := 1) dX7_rows_0 (by decide) rfl ?_
  refine r_istore_n 2 (L' := [_, _, _]) dX7_rows_1 (by decide) rfl rfl rfl ?_
  refine r_iconst 3 (v := 0) dX7_rows_2 (by decide) rfl ?_
  refine r_istore_n 4 (L' := [_, _, _]) dX7_rows_3 (by decide) rfl rfl rfl ?_
  refine l_rows hn h3 ?_ n 0 (Nat.zero_add n)
  refine r_iload_n 24 dX7_rows_23 rfl rfl ?_
  exact r_iret .int dX7_rows_24 rfl (rfl) (⟨rfl, rfl⟩)
set_option maxRecDepth 20000 in
set_option maxHeartbeats 4000000 in
theorem l_isOrder {d n x : Nat} {w0 : zW} {T : zX → Prop} (hn : n ≤ 6) (hX : x < 50000) (hx : ∀ w, (∀ i, n - n ≤ i → i < n → w 59 i = nI (dg n x i)) → (∀ a, a ≠ 59 → w a = w0 a) → WP mX7_isOrder d T 51 [some (.ref 50), some (.int (nI x)), some (.int (nI (x / 6 ^ n))), some (.int (nI (og x n))), some (.int (nI (n - n) - 1))] [] w) : ∀ k m (w : zW), m + k = n → (∀ i, n - m ≤ i → i < n → w 59 i = nI (dg n x i)) → (∀ a, a ≠ 59 → w a = w0 a) → WP mX7_isOrder d T 12 [some (.ref 50), some (.int (nI x)), some (.int (nI (x / 6 ^ m))), some (.int (nI (og x m))), some (.int (nI (n - m) - 1))] [] w := by
  intro k
  induction k with
  | zero =>
    intro m w hm h1 h2
    have e : m = n := by omega
    subst e
    refine r_iload 14 dX7_isOrder_12 rfl rfl ?_
    refine r_if_lt 51 17 dX7_isOrder_14 (by decide) rfl (fun _ => ?_) (fun z => absurd (by rw [Nat.sub_self]; decide) z)
    exact hx w h1 h2
  | succ k ih =>
    intro m w hm h1 h2
    have hdv : x / 6 ^ m ≤ x := Nat.div_le_self _ _
    have ei : nI (n - m) - 1 = nI (n - (m + 1)) := (nI_sub (b := 1) (by omega)).trans (by congr 1)
    have ed : x / 6 ^ m / 6 = x / 6 ^ (m + 1) := by rw [Nat.div_div_eq_div_mul, Nat.pow_succ]
    have eg : dg n x (n - (m + 1)) = x / 6 ^ m % 6 := by rw [← dg_e (show m < n by omega)]; congr 1; omega
    have hob := or_b (og x m) (og_lt m) (x / 6 ^ m % 6) (Nat.mod_lt _ (by decide))
    rw [ei]
    refine r_iload 14 dX7_isOrder_12 rfl rfl ?_
    refine r_if_lt 51 17 dX7_isOrder_14 (by decide) rfl (fun z => absurd z (nI_pos (by omega))) (fun _ => ?_)
    refine r_aload_n 18 dX7_isOrder_17 rfl rfl ?_
    refine r_getr 21 dX7_isOrder_18 fz_X7_35 sh_50 rfl rfl ?_
    refine r_iload 23 dX7_isOrder_21 rfl rfl ?_
    refine r_iload_n 24 dX7_isOrder_23 rfl rfl ?_
    refine r_bipush 26 (v := 6) dX7_isOrder_24 (by decide) rfl ?_
    refine r_irem 27 dX7_isOrder_26 (by decide) rfl ?_
    refine r_eq (z := nI (x / 6 ^ m % 6)) (nI_rem (k := 6) (by omega) (by decide)) ?_
    refine rj_iast 28 (n - (m + 1)) dX7_isOrder_27 sh_59 (rfl) (by omega) (by decide) rfl ?_
    refine r_nw (fun w1 e1 => ?_)
    refine r_iload_n 29 dX7_isOrder_28 rfl rfl ?_
    refine r_bipush 31 (v := 6) dX7_isOrder_29 (by decide) rfl ?_
    refine r_idiv 32 dX7_isOrder_31 (by decide) rfl ?_
    refine r_eq (z := nI (x / 6 ^ (m + 1))) ((nI_div (k := 6) (by omega) (by decide)).trans (by rw [ed])) ?_
    refine r_istore_n 33 (L' := [_, _, _, _, _]) dX7_isOrder_32 (by decide) rfl rfl rfl ?_
    refine r_iload_n 34 dX7_isOrder_33 rfl rfl ?_
    refine r_iconst 35 (v := 1) dX7_isOrder_34 (by decide) rfl ?_
    refine r_aload_n 36 dX7_isOrder_35 rfl rfl ?_
    refine r_getr 39 dX7_isOrder_36 fz_X7_35 sh_50 rfl rfl ?_
    refine r_iload 41 dX7_isOrder_39 rfl rfl ?_
    refine rj_iald 42 (n - (m + 1)) dX7_isOrder_41 sh_59 (rfl) (by omega) (by decide) rfl ?_
    refine r_eq (z := nI (x / 6 ^ m % 6)) (by rw [e1, z_up_s]) ?_
    refine r_ishl 43 dX7_isOrder_42 rfl ?_
    refine r_ior 44 dX7_isOrder_43 rfl ?_
    refine r_eq (z := nI (og x (m + 1))) hob.1 ?_
    refine r_istore_n 45 (L' := [_, _, _, _, _]) dX7_isOrder_44 (by decide) rfl rfl rfl ?_
    refine r_iinc 48 (L' := [_, _, _, _, _]) (v := nI (n - (m + 1)) - 1) dX7_isOrder_45 rfl (i_m1) (by decide) rfl rfl rfl ?_
    refine r_goto 12 dX7_isOrder_48 (by decide) ?_
    exact ih (m + 1) w1 (by omega) (fun i hi1 hi2 => by by_cases e : i = n - (m + 1); (rw [e, e1, z_up_s, eg]); (rw [e1, z_up_i e]; exact h1 i (by omega) hi2)) (fun a ha => by rw [e1, z_up_o ha]; exact h2 a ha)
set_option maxRecDepth 20000 in
set_option maxHeartbeats 4000000 in
theorem m_isOrder {d n x : Nat} {w : zW} (hn : n ≤ 6) (hX : x < 50000) (h3 : w 50 3 = nI n) : CT mX7_isOrder d [.ref 50, .int (nI x)] w (z_i fun v w' => z_b (isO n x = true) = v ∧ (∀ i, i < n → w' 59 i = nI (dg n x i)) ∧ ∀ a, a ≠ 59 → w' a = w a) := by
  refine CT.of [some (.ref 50), some (.int (nI x)), none, none, none] rfl (Nat.le_of_ble_eq_true rfl) rfl ?_
  refine r_iload_n 1 dX7_isOrder_0 rfl rfl ?_
  refine r_eq (z := nI (x / 6 ^ 0)) (by rw [Nat.pow_zero, Nat.div_one]) ?_
  refine r_istore_n 2 (L' := [_, _, _, _, _]) dX7_isOrder_1 (by decide) rfl rfl rfl ?_
  refine r_iconst 3 (v := 0) dX7_isOrder_2 (by decide) rfl ?_
  refine r_istore_n 4 (L' := [_, _, _, _, _]) dX7_isOrder_3 (by decide) rfl rfl rfl ?_
  refine r_aload_n 5 dX7_isOrder_4 rfl rfl ?_
  refine r_geti 8 dX7_isOrder_5 fz_X7_69 sh_50 rfl rfl ?_
  refine r_eq h3 ?_
  refine r_iconst 9 (v := 1) dX7_isOrder_8 (by decide) rfl ?_
  refine r_isub 10 dX7_isOrder_9 rfl ?_
  refine r_istore 12 (L' := [_, _, _, _, _]) dX7_isOrder_10 (by decide) rfl rfl rfl ?_
  refine l_isOrder (w0 := w) hn hX (fun w1 h1 h2 => ?_) n 0 w (Nat.zero_add n) (fun i hi1 hi2 => by omega) (fun _ _ => rfl)
  have hoi := og_iso (x := x) hn
  have hgl := og_lt (x := x) n
  have p64 := p2_le n (by omega)
  refine r_iload_n 52 dX7_isOrder_51 rfl rfl ?_
  refine r_iconst 53 (v := 1) dX7_isOrder_52 (by decide) rfl ?_
  refine r_aload_n 54 dX7_isOrder_53 rfl rfl ?_
  refine r_geti 57 dX7_isOrder_54 fz_X7_69 sh_50 rfl rfl ?_
  refine r_eq (z := nI n) (by rw [h2 50 (by decide)]; exact h3) ?_
  refine r_ishl 58 dX7_isOrder_57 rfl ?_
  refine r_eq (b_sl n (by omega)) ?_
  refine r_iconst 59 (v := 1) dX7_isOrder_58 (by decide) rfl ?_
  refine r_isub 60 dX7_isOrder_59 rfl ?_
  refine r_eq (nI_sub (b := 1) (Nat.one_le_two_pow)) ?_
  refine r_icmp_ne 67 63 dX7_isOrder_60 (by decide) rfl (fun g60 => ?_) (fun g60 => ?_)
  · have g60 : ¬ isO n x = true := fun z => g60 (by rw [hoi.mpr z])
    refine r_iconst 68 (v := 0) dX7_isOrder_67 (by decide) rfl ?_
    exact r_iret .boolean dX7_isOrder_68 rfl (rfl) (⟨by first | exact z_bp g60 | exact z_bn g60, fun i hi => h1 i (by omega) hi, h2⟩)
  · have g60 : isO n x = true := hoi.mp ((nI_inj (by omega) (by omega)).mp g60)
    refine r_iconst 64 (v := 1) dX7_isOrder_63 (by decide) rfl ?_
    refine r_goto 68 dX7_isOrder_64 (by decide) ?_
    exact r_iret .boolean dX7_isOrder_68 rfl (rfl) (⟨by first | exact z_bp g60 | exact z_bn g60, fun i hi => h1 i (by omega) hi, h2⟩)
def orF (n : Nat) (K : Nat → Nat) (X : Nat) (x z : Int32) : Prop := match orX n K X with
  | none => x = 0 ∧ z = 1000000000
  | some y => y < X ∧ x = nI y ∧ z = nI (oc n K y)
theorem oc_b {n y : Nat} {K : Nat → Nat} (hV : kV 99 n K) (hy : isO n y = true) : oc n K y ≤ 21600 := sm_b hV (d_ord_I hV (by decide) (isO_iff.mp hy) n (Nat.le_refl n)).1
theorem orX_s {n X : Nat} {K : Nat → Nat} : orX n K (X + 1) = match orX n K X with | none => if isO n X = true then some X else none | some b => if isO n X = true ∧ oc n K X < oc n K b then some X else some b := by
  unfold orX
  rw [am]
  cases am X (isO n) (oc n K) <;> rfl
theorem orF_n {n X : Nat} {K : Nat → Nat} {x z : Int32} (h : ¬ isO n X = true) (hb : orF n K X x z) : orF n K (X + 1) x z := by
  unfold orF at hb ⊢
  rw [orX_s]
  cases e : orX n K X with
  | none => rw [e] at hb; dsimp only; rw [if_neg h]; exact hb
  | some b => rw [e] at hb; dsimp only; rw [if_neg (fun q => h q.1)]; exact ⟨by have := hb.1; omega, hb.2⟩
theorem orF_y {n X : Nat} {K : Nat → Nat} {x z : Int32} (hV : kV 99 n K) (h : isO n X = true) (hb : orF n K X x z) : orF n K (X + 1) (if nI (oc n K X) < z then nI X else x) (if nI (oc n K X) < z then nI (oc n K X) else z) := by
  have hm := oc_b hV h
  unfold orF at hb ⊢
  rw [orX_s]
  cases e : orX n K X with
  | none =>
    rw [e] at hb
    obtain ⟨rfl, rfl⟩ := hb
    have h1 : nI (oc n K X) < 1000000000 := (nI_lt' (b := 1000000000) (by omega) (by decide)).mpr (by omega)
    dsimp only
    rw [if_pos h1, if_pos h1, if_pos h]
    exact ⟨Nat.lt_succ_self X, rfl, rfl⟩
  | some b =>
    rw [e] at hb
    obtain ⟨h0, rfl, rfl⟩ := hb
    have hmb := oc_b hV (am_some e).2.1
    dsimp only
    by_cases c : oc n K X < oc n K b
    · rw [if_pos ⟨h, c⟩, if_pos ((nI_lt' (by omega) (by omega)).mpr c), if_pos ((nI_lt' (by omega) (by omega)).mpr c)]
      exact ⟨Nat.lt_succ_self X, rfl, rfl⟩
    · rw [if_neg (fun h => c h.2), if_neg (fun h => c ((nI_lt' (by omega) (by omega)).mp h)), if_neg (fun h => c ((nI_lt' (by omega) (by omega)).mp h))]
      exact ⟨by omega, rfl, rfl⟩
theorem p6_6 {n : Nat} (hn : n ≤ 6) : 6 ^ n ≤ 46656 := Nat.pow_le_pow_right (n := 6) (by decide) hn
theorem frR.o59 {w w' : zW} (h : ∀ a, a ≠ 59 → w' a = w a) : frR w w' := ⟨fun q _ => by rw [h 50 (by decide)], fun a ha => h a (by omega)⟩
set_option maxRecDepth 20000 in
set_option maxHeartbeats 4000000 in
theorem l_orderM {d : Nat} {q : Int32} {w0 : zW} {s : sT} {T : zX → Prop} (hd : 6 ≤ d) (hS : sV s) (hx : ∀ w x z v5, RM w s → frR w0 w → orF (s_n s) (s_K s) (6 ^ s_n s) x z → WP mX7_order d T 89 [some (.ref 50), some (.int q), some (.int z), some (.int x), some (.int (nI (6 ^ s_n s))), v5] [] w) : ∀ k X (w : zW) x z v5, X + k = 6 ^ s_n s → RM w s → atD w (s_n s) (s_K s) → frR w0 w → orF (s_n s) (s_K s) X x z → WP mX7_order d T 29 [some (.ref 50), some (.int q), some (.int z), some (.int x), some (.int (nI X)), v5] [] w := by
  have hn := hS.1.n
  have hp6 := p6_6 hn
  intro k
  induction k with
  | zero =>
    intro X w x z v5 hX hR hL hF hb
    have e : X = 6 ^ s_n s := by omega
    rw [e] at hb ⊢
    refine r_iload 31 dX7_order_29 rfl rfl ?_
    refine r_aload_n 32 dX7_order_31 rfl rfl ?_
    refine r_callV (y2 := mX7_rows) (as := []) 35 dX7_order_32 ml_X7_265 mv_X7_rows (m_rows (d := d - 1) hn hR.n) (by omega) sh_50 ⟨_, rfl, rfl⟩ rfl (Nat.le_of_ble_eq_true rfl) rfl (kk_i ?_)
    rintro _ _ ⟨rfl, rfl⟩
    refine r_icmp_ge 89 38 dX7_order_35 (by decide) rfl (fun _ => ?_) (fun z => absurd (Int32.le_refl _) z)
    exact hx w x z v5 hR hF hb
  | succ k ih =>
    intro X w x z v5 hX hR hL hF hb
    refine r_iload 31 dX7_order_29 rfl rfl ?_
    refine r_aload_n 32 dX7_order_31 rfl rfl ?_
    refine r_callV (y2 := mX7_rows) (as := []) 35 dX7_order_32 ml_X7_265 mv_X7_rows (m_rows (d := d - 1) hn hR.n) (by omega) sh_50 ⟨_, rfl, rfl⟩ rfl (Nat.le_of_ble_eq_true rfl) rfl (kk_i ?_)
    rintro _ _ ⟨rfl, rfl⟩
    refine r_icmp_ge 89 38 dX7_order_35 (by decide) rfl (fun z => absurd z (fun z => absurd ((nI_le' (by omega) (by omega)).mp z) (by omega))) (fun _ => ?_)
    refine r_aload_n 39 dX7_order_38 rfl rfl ?_
    refine r_iload 41 dX7_order_39 rfl rfl ?_
    refine r_callV (y2 := mX7_isOrder) (as := [_]) 44 dX7_order_41 ml_X7_268 mv_X7_isOrder (m_isOrder (d := d - 1) (x := X) hn (by omega) hR.n) (by omega) sh_50 ⟨_, rfl, rfl⟩ rfl (Nat.le_of_ble_eq_true rfl) rfl (kk_i ?_)
    rintro _ w1 ⟨rfl, h1, h2⟩
    have hf1 := frR.o59 h2
    refine rb_eq 83 47 dX7_order_44 (by decide) rfl (fun g44 => ?_) (fun g44 => ?_)
    · refine r_iinc 86 (L' := [_, _, _, _, _, _]) (v := nI (X + 1)) dX7_order_83 rfl (nI_1 X) (by decide) rfl rfl rfl ?_
      refine r_goto 29 dX7_order_86 (by decide) ?_
      exact ih (X + 1) w1 _ _ _ (by omega) (hR.fr hf1) (hL.congr (by rw [h2 50 (by decide)]) (h2 52 (by decide))) (hF.trans hf1) (orF_n g44 hb)
    · have hO := isO_iff.mp g44
      have key := orF_y hS.1.1 g44 hb
      have hI := (d_ord_I hS.1.1 (by decide) hO (s_n s) (Nat.le_refl _)).1
      refine r_aload_n 48 dX7_order_47 rfl rfl ?_
      refine r_callV (y2 := mX7_goesInOrder) (as := []) 51 dX7_order_48 ml_X7_271 mv_X7_goesInOrder (m_goesInOrder (d := d - 1) (A := 99) (K := s_K s) (od := dg (s_n s) X) (by omega) (by decide) hS.1.1 h1 hO (hL.congr (by rw [h2 50 (by decide)]) (h2 52 (by decide)))) (by omega) sh_50 ⟨_, rfl, rfl⟩ rfl (Nat.le_of_ble_eq_true rfl) rfl (kk_v ?_)
      rintro w2 ⟨hC2, hL2, hF2⟩
      have hff := hf1.trans hF2.R
      refine r_aload_n 52 dX7_order_51 rfl rfl ?_
      refine r_callV (y2 := mX7_costNow) (as := []) 55 dX7_order_52 ml_X7_225 mv_X7_costNow (m_costNow (d := d - 1) (by omega) hS.1.1 hL2 hI hC2) (by omega) sh_50 ⟨_, rfl, rfl⟩ rfl (Nat.le_of_ble_eq_true rfl) rfl (kk_i ?_)
      rintro _ _ ⟨rfl, rfl⟩
      refine r_eq (z := nI (oc (s_n s) (s_K s) X)) (congrArg nI (dyC_sm hI).symm) ?_
      refine r_istore 57 (L' := [_, _, _, _, _, _]) dX7_order_55 (by decide) rfl rfl rfl ?_
      refine r_iload 59 dX7_order_57 rfl rfl ?_
      refine r_iload_n 60 dX7_order_59 rfl rfl ?_
      refine r_icmp_ge 68 63 dX7_order_60 (by decide) rfl (fun g60 => ?_) (fun g60 => ?_)
      · have g60 : ¬ nI (oc (s_n s) (s_K s) X) < z := i_nlt g60
        rw [if_neg g60, if_neg g60] at key
        refine r_iload_n 69 dX7_order_68 rfl rfl ?_
        refine r_istore_n 70 (L' := [_, _, _, _, _, _]) dX7_order_69 (by decide) rfl rfl rfl ?_
        refine r_iload 72 dX7_order_70 rfl rfl ?_
        refine r_iload_n 73 dX7_order_72 rfl rfl ?_
        refine r_icmp_ge 81 76 dX7_order_73 (by decide) rfl (fun _ => ?_) (fun z => absurd (Classical.byContradiction fun y => g60 (i_lt y)) z)
        refine r_iload_n 82 dX7_order_81 rfl rfl ?_
        refine r_istore_n 83 (L' := [_, _, _, _, _, _]) dX7_order_82 (by decide) rfl rfl rfl ?_
        refine r_iinc 86 (L' := [_, _, _, _, _, _]) (v := nI (X + 1)) dX7_order_83 rfl (nI_1 X) (by decide) rfl rfl rfl ?_
        refine r_goto 29 dX7_order_86 (by decide) ?_
        exact ih (X + 1) w2 _ _ _ (by omega) (hR.fr hff) hL2 (hF.trans hff) key
      · have g60 : nI (oc (s_n s) (s_K s) X) < z := i_lt g60
        rw [if_pos g60, if_pos g60] at key
        refine r_iload 65 dX7_order_63 rfl rfl ?_
        refine r_goto 69 dX7_order_65 (by decide) ?_
        refine r_istore_n 70 (L' := [_, _, _, _, _, _]) dX7_order_69 (by decide) rfl rfl rfl ?_
        refine r_iload 72 dX7_order_70 rfl rfl ?_
        refine r_iload_n 73 dX7_order_72 rfl rfl ?_
        refine r_icmp_ge 81 76 dX7_order_73 (by decide) rfl (fun z => absurd z (fun y => i_nlt y g60)) (fun _ => ?_)
        refine r_iload 78 dX7_order_76 rfl rfl ?_
        refine r_goto 82 dX7_order_78 (by decide) ?_
        refine r_istore_n 83 (L' := [_, _, _, _, _, _]) dX7_order_82 (by decide) rfl rfl rfl ?_
        refine r_iinc 86 (L' := [_, _, _, _, _, _]) (v := nI (X + 1)) dX7_order_83 rfl (nI_1 X) (by decide) rfl rfl rfl ?_
        refine r_goto 29 dX7_order_86 (by decide) ?_
        exact ih (X + 1) w2 _ _ _ (by omega) (hR.fr hff) hL2 (hF.trans hff) key
theorem q_10 {n : Nat} {q : Int32} (hn : n ≤ 6) : iB n (q - 10) = true ↔ wi q 10 (9 + n) = true := by
  rw [iB_iff, wi_iff]
  have hb := ti_b q
  have e10 : (10 : Int32).toInt = 10 := rfl
  by_cases c : -2147483648 ≤ q.toInt - 10
  · rw [ti_sub (by rw [e10]; omega), e10]
    omega
  · have e : (q - 10).toInt = q.toInt - 10 + 4294967296 := by
      rw [Int32.toInt_sub, e10, Int.bmod_def]
      omega
    rw [e]
    omega
set_option maxRecDepth 20000 in
set_option maxHeartbeats 4000000 in
theorem k_orderM {d : Nat} {w : zW} {s : sT} {q : Int32} (hd : 7 ≤ d) (hR : RM w s) (hS : sV s) (g1b : q = 0 ∨ wi q 10 (9 + s_n s) = true) : WP mX7_order d (z_T (z_i fun v w' => (f_order s q).1 = v ∧ RM w' (f_order s q).2 ∧ ∀ a, a < 50 → w' a = w a)) 17 [some (.ref 50), some (.int q), none, none, none, none] [] w := by
  have hn := hS.1.n
  have hp6 := p6_6 hn
  obtain ⟨y, hy⟩ := orX_ex (K := s_K s) hn
  refine r_ldc 19 dX7_order_17 kc_X7_191 rfl ?_
  refine r_istore_n 20 (L' := [_, _, _, _, _, _]) dX7_order_19 (by decide) rfl rfl rfl ?_
  refine r_iconst 21 (v := 0) dX7_order_20 (by decide) rfl ?_
  refine r_istore_n 22 (L' := [_, _, _, _, _, _]) dX7_order_21 (by decide) rfl rfl rfl ?_
  refine r_aload_n 23 dX7_order_22 rfl rfl ?_
  refine r_callV (y2 := mX7_starts) (as := []) 26 dX7_order_23 ml_X7_228 mv_X7_starts (m_start (d := d - 1) hR) (by omega) sh_50 ⟨_, rfl, rfl⟩ rfl (Nat.le_of_ble_eq_true rfl) rfl (kk_v ?_)
  rintro w1 ⟨hL, hc, hf⟩
  refine r_iconst 27 (v := 0) dX7_order_26 (by decide) rfl ?_
  refine r_istore 29 (L' := [_, _, _, _, _, _]) dX7_order_27 (by decide) rfl rfl rfl ?_
  refine l_orderM (w0 := w) (by omega) hS (fun w2 x z v5 hR2 hF hb => ?_) (6 ^ s_n s) 0 w1 _ _ _ (Nat.zero_add _) (hR.fr hf) hL hf ⟨rfl, rfl⟩
  unfold orF at hb
  rw [hy] at hb
  obtain ⟨hylt, rfl, rfl⟩ := hb
  refine r_aload_n 90 dX7_order_89 rfl rfl ?_
  refine r_iload_n 91 dX7_order_90 rfl rfl ?_
  refine r_callV (y2 := mX7_isOrder) (as := [_]) 94 dX7_order_91 ml_X7_268 mv_X7_isOrder (m_isOrder (d := d - 1) (x := y) hn (by omega) hR2.n) (by omega) sh_50 ⟨_, rfl, rfl⟩ rfl (Nat.le_of_ble_eq_true rfl) rfl (kk_i ?_)
  rintro _ w3 ⟨rfl, h1, h2⟩
  have hf3 := hF.trans (frR.o59 h2)
  have hR3 := hR2.fr (frR.o59 h2)
  refine r_pop 95 dX7_order_94 rfl rfl ?_
  refine r_iload_n 96 dX7_order_95 rfl rfl ?_
  refine r_if_ne 103 99 dX7_order_96 (by decide) rfl (fun g96 => ?_) (fun g96 => ?_)
  · have gg := wi_iff.mp (g1b.resolve_left g96)
    obtain ⟨j, hq, hj⟩ : ∃ j : Nat, q = nI (10 + j) ∧ j < s_n s := ⟨q.toInt.toNat - 10, ti_of (by omega), by omega⟩
    have ht : tN q - 10 = j := by rw [hq, tN_n (by omega)]; omega
    refine r_aload_n 104 dX7_order_103 rfl rfl ?_
    refine r_getr 107 dX7_order_104 fz_X7_35 sh_50 rfl rfl ?_
    refine r_iload_n 108 dX7_order_107 rfl rfl ?_
    refine r_bipush 110 (v := 10) dX7_order_108 (by decide) rfl ?_
    refine r_isub 111 dX7_order_110 rfl ?_
    refine r_eq (z := nI j) (by rw [hq]; exact (nI_sub (a := 10 + j) (b := 10) (by omega)).trans (by congr 1; omega)) ?_
    refine rj_iald 112 (j) dX7_order_111 sh_59 (rfl) (by omega) (by decide) rfl ?_
    refine r_eq (h1 j hj) ?_
    exact r_iret .int dX7_order_112 rfl (rfl) (⟨by rw [f_order, if_pos g1b, hy]; first | exact if_pos g96 | (show (if q = 0 then _ else nI (dg (s_n s) y (tN q - 10))) = _; rw [if_neg g96, ht]), hR3, hf3.lo⟩)
  · refine r_iload_n 100 dX7_order_99 rfl rfl ?_
    refine r_goto 112 dX7_order_100 (by decide) ?_
    exact r_iret .int dX7_order_112 rfl (rfl) (⟨by rw [f_order, if_pos g1b, hy]; first | exact if_pos g96 | (show (if q = 0 then _ else nI (dg (s_n s) y (tN q - 10))) = _; rw [if_neg g96, ht]), hR3, hf3.lo⟩)
set_option maxRecDepth 20000 in
set_option maxHeartbeats 4000000 in
theorem M_order {d : Nat} {w : zW} {s : sT} {q : Int32} (hd : 8 ≤ d) (hR : RM w s) (hS : sV s) : AM mX7_order d [.int q] w (f_order s q) := by
  have hn := hS.1.n
  refine CT.of [some (.ref 50), some (.int q), none, none, none, none] rfl (Nat.le_of_ble_eq_true rfl) rfl ?_
  refine r_iload_n 1 dX7_order_0 rfl rfl ?_
  refine r_if_eq 17 4 dX7_order_1 (by decide) rfl (fun g1 => ?_) (fun g1 => ?_)
  · have g1b : q = 0 ∨ wi q 10 (9 + s_n s) = true := Or.inl g1
    exact k_orderM (by omega) hR hS g1b
  · refine r_aload_n 5 dX7_order_4 rfl rfl ?_
    refine r_iload_n 6 dX7_order_5 rfl rfl ?_
    refine r_bipush 8 (v := 10) dX7_order_6 (by decide) rfl ?_
    refine r_isub 9 dX7_order_8 rfl ?_
    refine r_callV (y2 := mX7_isBoat) (as := [_]) 12 dX7_order_9 ml_X7_237 mv_X7_isBoat (m_isBoat (d := d - 1) (by omega) hn hR.n) (by omega) sh_50 ⟨_, rfl, rfl⟩ rfl (Nat.le_of_ble_eq_true rfl) rfl (kk_i ?_)
    rintro _ _ ⟨rfl, rfl⟩
    refine rb_ne 17 15 dX7_order_12 (by decide) rfl (fun g12 => ?_) (fun g12 => ?_)
    · have g1b : q = 0 ∨ wi q 10 (9 + s_n s) = true := Or.inr ((q_10 hn).mp g12)
      exact k_orderM (by omega) hR hS g1b
    · have g1b : ¬ (q = 0 ∨ wi q 10 (9 + s_n s) = true) := fun z => z.elim g1 (fun z => g12 ((q_10 hn).mpr z))
      refine r_iconst 16 (v := -1) dX7_order_15 (by decide) rfl ?_
      exact r_iret .int dX7_order_16 rfl (rfl) (by first | exact ⟨by rw [f_order, if_neg (g1b)], by rw [f_order, if_neg (g1b)]; exact hR, fun _ _ => rfl⟩)

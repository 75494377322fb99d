/-! ===== the class: boy, post ===== -/
theorem lkF.markB {w : zW} {B n b q v : Nat} {K : Nat → Nat} (h : lkF w B n K) (hn : n ≤ 6) (hb : b < n) (hq : q < 5) : lkF (z_up w (B + 2) (b * 5 + q) (nI v)) B n (un K (6 + 6 * b + q) v) := by
  obtain ⟨h1, h2, h3, h4, h5, h6⟩ := h
  refine ⟨fun k hk => ?_, fun b' q' hb' hq' => ?_, ?_, ?_, ?_, fun j hj => ?_⟩
  · rw [z_up_a (by omega), un_n (by omega)]; exact h1 k hk
  · by_cases e : b' = b ∧ q' = q
    · rw [e.1, e.2, z_up_s, un_s]
    · rw [z_up_i (by omega), un_n (by omega)]; exact h2 b' q' hb' hq'
  · rw [z_up_a (by omega)]; exact h3
  · rw [z_up_a (by omega), lm_congr (K := K) (fun c _ => un_n (by omega))]; exact h4
  · rw [z_up_a (by omega), un_n (by omega)]; exact h5
  · rw [un_n (by omega)] at hj
    rw [z_up_a (by omega), z_up_a (by omega), un_n (by omega), un_n (by omega)]; exact h6 j hj
theorem lkF.ruleB {w : zW} {B n q v : Nat} {K : Nat → Nat} (h : lkF w B n K) (hq : q < 6) : lkF (z_up w (B + 1) q (nI v)) B n (un K q v) := by
  obtain ⟨h1, h2, h3, h4, h5, h6⟩ := h
  refine ⟨fun k hk => ?_, fun b' q' hb' hq' => ?_, ?_, ?_, ?_, fun j hj => ?_⟩
  · by_cases e : k = q
    · rw [e, z_up_s, un_s]
    · rw [z_up_i e, un_n e]; exact h1 k hk
  · rw [z_up_a (by omega), un_n (by omega)]; exact h2 b' q' hb' hq'
  · rw [z_up_a (by omega)]; exact h3
  · rw [z_up_a (by omega), lm_congr (K := K) (fun c _ => un_n (by omega))]; exact h4
  · rw [z_up_a (by omega), un_n (by omega)]; exact h5
  · rw [un_n (by omega)] at hj
    rw [z_up_a (by omega), z_up_a (by omega), un_n (by omega), un_n (by omega)]; exact h6 j hj
theorem un_un {K : Nat → Nat} {k x v : Nat} : un (un K k x) k v = un K k v := by
  funext j
  by_cases h : j = k
  · rw [h, un_s, un_s]
  · rw [un_n h, un_n h, un_n h]
/-- a day of the lock that is tried -/
theorem c_tr {d n A : Nat} {w : zW} {K : Nat → Nat} (hd : 5 ≤ d) (hA : A ≤ 200) (hV : kV A n K) (hL : lkF w 6 n K) : CT mX6_runAsTold d [.ref 0, .ref 6] w (z_v fun w' => dyC w' n K n (dD n K) ∧ ∀ a, (a < 30 ∨ 35 < a) → w' a = w a) :=
  c_runAsTold hd (Or.inr (Or.inl rfl)) hA hV hL.D (hL.1 3 (by decide)) hL.2.2.2.1 (mk_64 hV.n) (lm_b hV.n (fun b hb => hV.lie hb))
theorem fx_at {m i : Nat} {p : Nat → Bool} (hi : i < m) (h : p i = true) (hb : ∀ v, v < i → p v = false) : fx m p = nI i := by
  unfold fx
  rw [am_of hi h (fun _ _ _ => Nat.le_refl _) (fun c hc hp => by rw [hb c hc] at hp; cases hp)]
theorem fx_no {m : Nat} {p : Nat → Bool} (hb : ∀ v, v < m → p v = false) : fx m p = -4 := by
  unfold fx
  rw [am_none.mpr hb]
/-- before him with that boy -/
def byP (n : Nat) (K : Nat → Nat) (b c v : Nat) : Bool := decide (d_d (dD n (un K (6 + 6 * b + 4) v)) b < d_d (dD n (un K (6 + 6 * b + 4) v)) c)
def f_boy (s : sT) (b c : Int32) : Int32 × sT := (if iB (s_n s) b = true ∧ iB (s_n s) c = true ∧ ¬ b = c then fx 10 (byP (s_n s) (s_K s) (tN b) (tN c)) else -1, s)
set_option maxRecDepth 20000 in
set_option maxHeartbeats 4000000 in
theorem l_boy {d b c : Nat} {w0 : zW} {s : sT} {T : zX → Prop} (hd : 6 ≤ d) (hS : sV s) (hb : b < s_n s) (hc : c < s_n s) (hx : ∀ w, (∀ a, (a < 6 ∨ 10 < a) → (a < 30 ∨ 35 < a) → w a = w0 a) → (∀ v, v < 10 → byP (s_n s) (s_K s) b c v = false) → WP mX6_boy d T 77 [some (.ref 0), some (.int (nI b)), some (.int (nI c)), some (.int (nI 10))] [] w) (hy : ∀ w i, (∀ a, (a < 6 ∨ 10 < a) → (a < 30 ∨ 35 < a) → w a = w0 a) → i < 10 → byP (s_n s) (s_K s) b c i = true → (∀ v, v < i → byP (s_n s) (s_K s) b c v = false) → WP mX6_boy d T 69 [some (.ref 0), some (.int (nI b)), some (.int (nI c)), some (.int (nI i))] [] w) : ∀ k i x (w : zW), i + k = 10 → (∀ a, (a < 6 ∨ 10 < a) → (a < 30 ∨ 35 < a) → w a = w0 a) → lkF w 6 (s_n s) (un (s_K s) (6 + 6 * b + 4) x) → (∀ v, v < i → byP (s_n s) (s_K s) b c v = false) → WP mX6_boy d T 24 [some (.ref 0), some (.int (nI b)), some (.int (nI c)), some (.int (nI i))] [] w := by
  have hn := hS.1.n
  intro k
  induction k with
  | zero =>
    intro i x w hi hF hL hp
    have e : i = 10 := by omega
    subst e
    refine r_iload_n 25 dX6_boy_24 rfl rfl ?_
    refine r_bipush 27 (v := 9) dX6_boy_25 (by decide) rfl ?_
    refine r_icmp_gt 77 30 dX6_boy_27 (by decide) rfl (fun _ => ?_) (fun z => absurd (by decide) z)
    exact hx w hF hp
  | succ k ih =>
    intro i x w hi hF hL hp
    have hV : kV 99 (s_n s) (un (s_K s) (6 + 6 * b + 4) i) := hS.1.1.at (fun h => by omega) (fun h => by omega) (fun h => by omega) (fun h => by omega) (fun e he => by omega)
    have hI := dI_D hV (by decide)
    have hL1 := hL.markB hn hb (q := 4) (v := i) (by decide)
    rw [un_un] at hL1
    have bd : ∀ e, d_d (dD (s_n s) (un (s_K s) (6 + 6 * b + 4) i)) e ≤ 400 := fun e => (hI.2.2.2.2.2.2.2 e).2
    have bb := bd b
    have bc := bd c
    refine r_iload_n 25 dX6_boy_24 rfl rfl ?_
    refine r_bipush 27 (v := 9) dX6_boy_25 (by decide) rfl ?_
    refine r_icmp_gt 77 30 dX6_boy_27 (by decide) rfl (fun z => absurd z (fun z => absurd ((nI_lt' (a := 9) (by decide) (by omega)).mp z) (by omega))) (fun _ => ?_)
    refine r_aload_n 31 dX6_boy_30 rfl rfl ?_
    refine r_getr 34 dX6_boy_31 fz_X6_16 sh_0 rfl rfl ?_
    refine r_iload_n 35 dX6_boy_34 rfl rfl ?_
    refine r_iconst 36 (v := 4) dX6_boy_35 (by decide) rfl ?_
    refine r_iload_n 37 dX6_boy_36 rfl rfl ?_
    refine r_callV (y2 := mX1_setMark) (as := [_, _, _]) 40 dX6_boy_37 ml_X6_125 mv_X1_setMark (c_setMark (d := d - 1) (B := 6) (Or.inr (Or.inl rfl)) (i := b) (j := 4) (by omega) (by decide)) (by omega) sh_6 ⟨_, rfl, rfl⟩ rfl (Nat.le_of_ble_eq_true rfl) rfl (kk_v ?_)
    rintro w1 e1
    rw [e1] at hL1
    refine r_aload_n 41 dX6_boy_40 rfl rfl ?_
    refine r_aload_n 42 dX6_boy_41 rfl rfl ?_
    refine r_getr 45 dX6_boy_42 fz_X6_16 sh_0 rfl rfl ?_
    refine r_callV (y2 := mX6_runAsTold) (as := [_]) 48 dX6_boy_45 ml_X6_132 mv_X6_runAsTold (c_tr (d := d - 1) (by omega) (by decide) hV hL1) (by omega) sh_0 ⟨_, rfl, rfl⟩ rfl (Nat.le_of_ble_eq_true rfl) rfl (kk_v ?_)
    rintro w2 ⟨hC, hF2⟩
    have hF3 : (∀ a, (a < 6 ∨ 10 < a) → (a < 30 ∨ 35 < a) → w2 a = w0 a) := fun a h1 h2 => by rw [hF2 a h2, ← e1, z_up_o (by omega)]; exact hF a h1 h2
    refine r_aload_n 49 dX6_boy_48 rfl rfl ?_
    refine r_getr 52 dX6_boy_49 fz_X6_42 sh_0 rfl rfl ?_
    refine r_getr 55 dX6_boy_52 fz_X6_138 sh_30 rfl rfl ?_
    refine r_iload_n 56 dX6_boy_55 rfl rfl ?_
    refine rj_iald 57 (b) dX6_boy_56 sh_32 (rfl) (by omega) (by decide) rfl ?_
    refine r_eq (hC.th hI hb) ?_
    refine r_aload_n 58 dX6_boy_57 rfl rfl ?_
    refine r_getr 61 dX6_boy_58 fz_X6_42 sh_0 rfl rfl ?_
    refine r_getr 64 dX6_boy_61 fz_X6_138 sh_30 rfl rfl ?_
    refine r_iload_n 65 dX6_boy_64 rfl rfl ?_
    refine rj_iald 66 (c) dX6_boy_65 sh_32 (rfl) (by omega) (by decide) rfl ?_
    refine r_eq (hC.th hI hc) ?_
    refine r_icmp_ge 71 69 dX6_boy_66 (by decide) rfl (fun g66 => ?_) (fun g66 => ?_)
    · have g66 := (nI_le' (by omega) (by omega)).mp g66
      refine r_iinc 74 (L' := [_, _, _, _]) (v := nI (i + 1)) dX6_boy_71 rfl (nI_1 i) (by decide) rfl rfl rfl ?_
      refine r_goto 24 dX6_boy_74 (by decide) ?_
      exact ih (i + 1) i w2 (by omega) hF3 (hL1.fr (fun a h1 h2 => hF2 a (by omega))) (fun v hv => by by_cases e : v = i; (rw [e]; exact decide_eq_false (by omega)); (exact hp v (by omega)))
    · have g66 := (nI_lt' (by omega) (by omega)).mp (i_lt g66)
      exact hy w2 i hF3 (by omega) (decide_eq_true g66) hp
set_option maxRecDepth 20000 in
set_option maxHeartbeats 4000000 in
theorem C_boy {d : Nat} {w : zW} {s : sT} {b c : Int32} (hd : 6 ≤ d) (hR : RC w s) (hS : sV s) : AC mX6_boy d [.int b, .int c] w (f_boy s b c) := by
  have hn := hS.1.n
  refine CT.of [some (.ref 0), some (.int b), some (.int c), none] rfl (Nat.le_of_ble_eq_true rfl) rfl ?_
  refine r_aload_n 1 dX6_boy_0 rfl rfl ?_
  refine r_iload_n 2 dX6_boy_1 rfl rfl ?_
  refine r_iload_n 3 dX6_boy_2 rfl rfl ?_
  refine r_callV (y2 := mX6_isPair) (as := [_, _]) 6 dX6_boy_3 ml_X6_195 mv_X6_isPair (c_isPair (d := d - 1) (by omega) hn hR.1.2.2.1) (by omega) sh_0 ⟨_, rfl, rfl⟩ rfl (Nat.le_of_ble_eq_true rfl) rfl (kk_i ?_)
  rintro _ _ ⟨rfl, rfl⟩
  refine rb_ne 11 9 dX6_boy_6 (by decide) rfl (fun g6 => ?_) (fun g6 => ?_)
  · obtain ⟨i, hi, rfl⟩ := iB_of g6.1
    have his : tN (nI i) = i := tN_n (by omega)
    obtain ⟨j, hj, rfl⟩ := iB_of g6.2.1
    have hjs : tN (nI j) = j := tN_n (by omega)
    refine r_aload_n 12 dX6_boy_11 rfl rfl ?_
    refine r_getr 15 dX6_boy_12 fz_X6_16 sh_0 rfl rfl ?_
    refine r_aload_n 16 dX6_boy_15 rfl rfl ?_
    refine r_getr 19 dX6_boy_16 fz_X6_10 sh_0 rfl rfl ?_
    refine r_callV (y2 := mX1_copyFrom) (as := [_]) 22 dX6_boy_19 ml_X6_86 mv_X1_copyFrom (c_copyFrom (d := d - 1) (by omega) (Or.inr (Or.inl rfl)) (Or.inl rfl) (by decide)) (by omega) sh_6 ⟨_, rfl, rfl⟩ rfl (Nat.le_of_ble_eq_true rfl) rfl (kk_v ?_)
    rintro w1 hc
    have hL := hc.F hR.1 hn hS.1.2.1
    have hF : ∀ a, (a < 6 ∨ 10 < a) → (a < 30 ∨ 35 < a) → w1 a = w a := fun a h1 _ => hc.2.2.2.2.2.2.2 a (by omega)
    refine r_iconst 23 (v := 0) dX6_boy_22 (by decide) rfl ?_
    refine r_istore_n 24 (L' := [_, _, _, _]) dX6_boy_23 (by decide) rfl rfl rfl ?_
    refine l_boy (w0 := w) (b := i) (c := j) (by omega) hS hi hj (fun w2 hF2 hp => ?_) (fun w2 v hF2 hv hp hq => ?_) 10 0 (s_K s (6 + 6 * i + 4)) w1 (by decide) hF (by rw [un_id]; exact hL) (fun v hv => absurd hv (Nat.not_lt_zero v))
    · refine r_bipush 79 (v := -4) dX6_boy_77 (by decide) rfl ?_
      exact r_iret .int dX6_boy_79 rfl (rfl) (⟨by rw [f_boy, if_pos g6, his, hjs, fx_no hp], hR.fr (fun a ha => hF2 a (by omega) (by omega)), fun a ha => hF2 a (by omega) (by omega)⟩)
    · refine r_iload_n 70 dX6_boy_69 rfl rfl ?_
      exact r_iret .int dX6_boy_70 rfl (rfl) (⟨by rw [f_boy, if_pos g6, his, hjs, fx_at hv hp hq], hR.fr (fun a ha => hF2 a (by omega) (by omega)), fun a ha => hF2 a (by omega) (by omega)⟩)
  · refine r_iconst 10 (v := -1) dX6_boy_9 (by decide) rfl ?_
    exact r_iret .int dX6_boy_10 rfl (rfl) (by first | exact ⟨by rw [f_boy, if_neg (g6)], by rw [f_boy, if_neg (g6)]; exact hR, fun _ _ => rfl⟩)
/-- the first of the least so far, and the least -/
def bsG (M : Nat → Nat) (m : Nat) (x z : Int32) : Prop := match am m (fun _ => true) M with
  | none => x = 0 ∧ z = 1000000
  | some b => b < m ∧ x = nI b ∧ z = nI (M b)
theorem bsG_s {M : Nat → Nat} {i : Nat} {x z : Int32} (hM : ∀ b, b < i + 1 → M b < 100000) (hb : bsG M i x z) : bsG M (i + 1) (if nI (M i) < z then nI i else x) (if nI (M i) < z then nI (M i) else z) := by
  have hmi := hM i (Nat.lt_succ_self i)
  unfold bsG at hb ⊢
  rw [am]
  cases e : am i (fun _ => true) M with
  | none =>
    rw [e] at hb
    obtain ⟨rfl, rfl⟩ := hb
    have h1 : nI (M i) < 1000000 := (nI_lt' (b := 1000000) (by omega) (by decide)).mpr (by omega)
    rw [if_pos h1, if_pos h1]
    exact ⟨Nat.lt_succ_self i, rfl, rfl⟩
  | some b =>
    rw [e] at hb
    obtain ⟨h0, rfl, rfl⟩ := hb
    have hmb := hM b (by omega)
    by_cases c : M i < M b
    · have c2 := (nI_lt' (a := M i) (b := M b) (by omega) (by omega)).mpr c
      simp only [c, and_self, if_true]
      rw [if_pos c2, if_pos c2]
      exact ⟨Nat.lt_succ_self i, rfl, rfl⟩
    · have c2 : ¬ nI (M i) < nI (M b) := fun h => c ((nI_lt' (by omega) (by omega)).mp h)
      simp only [c, and_false, if_false]
      rw [if_neg c2, if_neg c2]
      exact ⟨by omega, rfl, rfl⟩
def poM (n : Nat) (K : Nat → Nat) (v : Nat) : Nat := meas n K (dD n (un K 4 v)) 0
def poB (n : Nat) (K : Nat → Nat) : Nat := (am 10 (fun _ => true) (poM n K)).getD 0
def f_post (s : sT) (q : Int32) : Int32 × sT := (if wi q 0 1 = true then (if q = 0 then nI (poB (s_n s) (s_K s)) else nI (poM (s_n s) (s_K s) (poB (s_n s) (s_K s)))) else -1, s)
theorem bsG_10 {n : Nat} {K : Nat → Nat} {x z : Int32} (h : bsG (poM n K) 10 x z) : x = nI (poB n K) ∧ z = nI (poM n K (poB n K)) := by
  unfold bsG at h
  unfold poB
  cases e : am 10 (fun _ => true) (poM n K) with
  | none => have := am_none.mp e 0 (by decide); cases this
  | some b => rw [e] at h; exact h.2
theorem poV {n v : Nat} {K : Nat → Nat} (h : kV 99 n K) (hv : v ≤ 9) : kV 99 n (un K 4 v) := h.at (fun h => by omega) (fun h => by omega) (fun h => by omega) (fun h => by omega) (fun e he => by omega)
theorem meas_po {n v q : Nat} {K : Nat → Nat} {D : dT} : meas n (un K 4 v) D q = meas n K D q := by
  unfold meas
  rw [sm_congr (g := fun b => d_s D b * k_wo K b) (fun c hc => by rw [show k_wo (un K 4 v) c = k_wo K c from un_n (by omega)])]
theorem poM_lt {n v : Nat} {K : Nat → Nat} (h : kV 99 n K) (hv : v ≤ 9) : poM n K v < 100000 := by
  have h1 := meas_lt (q := 0) (poV h hv) (dI_D (poV h hv) (by decide))
  rw [meas_po] at h1
  exact h1
set_option maxRecDepth 20000 in
set_option maxHeartbeats 4000000 in
theorem l_post {d : Nat} {q : Int32} {w0 : zW} {s : sT} {T : zX → Prop} (hd : 6 ≤ d) (hS : sV s) (hx : ∀ w x z, (∀ a, (a < 6 ∨ 10 < a) → (a < 30 ∨ 35 < a) → w a = w0 a) → bsG (poM (s_n s) (s_K s)) 10 x z → WP mX6_post d T 84 [some (.ref 0), some (.int q), some (.int x), some (.int z), some (.int (nI 10))] [] w) : ∀ k i v x z (w : zW), i + k = 10 → (∀ a, (a < 6 ∨ 10 < a) → (a < 30 ∨ 35 < a) → w a = w0 a) → lkF w 6 (s_n s) (un (s_K s) 4 v) → bsG (poM (s_n s) (s_K s)) i x z → WP mX6_post d T 30 [some (.ref 0), some (.int q), some (.int x), some (.int z), some (.int (nI i))] [] w := by
  have hn := hS.1.n
  intro k
  induction k with
  | zero =>
    intro i v x z w hi hF hL hb
    have e : i = 10 := by omega
    subst e
    refine r_iload 32 dX6_post_30 rfl rfl ?_
    refine r_bipush 34 (v := 9) dX6_post_32 (by decide) rfl ?_
    refine r_icmp_gt 84 37 dX6_post_34 (by decide) rfl (fun _ => ?_) (fun z => absurd (by decide) z)
    exact hx w x z hF hb
  | succ k ih =>
    intro i v x z w hi hF hL hb
    have hV := poV (v := i) hS.1.1 (by omega)
    have hI := dI_D hV (by decide)
    have hL1 := hL.ruleB (q := 4) (v := i) (by decide)
    rw [un_un] at hL1
    have key := bsG_s (fun b hb => poM_lt hS.1.1 (by omega)) hb
    refine r_iload 32 dX6_post_30 rfl rfl ?_
    refine r_bipush 34 (v := 9) dX6_post_32 (by decide) rfl ?_
    refine r_icmp_gt 84 37 dX6_post_34 (by decide) rfl (fun z => absurd z (fun z => absurd ((nI_lt' (a := 9) (by decide) (by omega)).mp z) (by omega))) (fun _ => ?_)
    refine r_aload_n 38 dX6_post_37 rfl rfl ?_
    refine r_getr 41 dX6_post_38 fz_X6_16 sh_0 rfl rfl ?_
    refine r_getr 44 dX6_post_41 fz_X6_102 sh_6 rfl rfl ?_
    refine r_iconst 45 (v := 4) dX6_post_44 (by decide) rfl ?_
    refine r_iload 47 dX6_post_45 rfl rfl ?_
    refine rj_iast 48 (4) dX6_post_47 sh_7 (rfl) (by decide) (by decide) rfl ?_
    refine r_nw (fun w1 e1 => ?_)
    have hL1 : lkF w1 6 (s_n s) (un (s_K s) 4 i) := by rw [e1]; exact hL1
    refine r_aload_n 49 dX6_post_48 rfl rfl ?_
    refine r_aload_n 50 dX6_post_49 rfl rfl ?_
    refine r_getr 53 dX6_post_50 fz_X6_16 sh_0 rfl rfl ?_
    refine r_callV (y2 := mX6_runAsTold) (as := [_]) 56 dX6_post_53 ml_X6_132 mv_X6_runAsTold (c_tr (d := d - 1) (by omega) (by decide) hV hL1) (by omega) sh_0 ⟨_, rfl, rfl⟩ rfl (Nat.le_of_ble_eq_true rfl) rfl (kk_v ?_)
    rintro w2 ⟨hC, hF2⟩
    have hF3 : (∀ a, (a < 6 ∨ 10 < a) → (a < 30 ∨ 35 < a) → w2 a = w0 a) := fun a h1 h2 => by rw [hF2 a h2, e1, z_up_o (by omega)]; exact hF a h1 h2
    have hm : w2 30 12 = nI (poM (s_n s) (s_K s) i) := by
      have h1 := dyC_meas hI hC 0 (by decide)
      rw [meas_po] at h1
      exact h1
    refine r_aload_n 57 dX6_post_56 rfl rfl ?_
    refine r_getr 60 dX6_post_57 fz_X6_42 sh_0 rfl rfl ?_
    refine r_geti 63 dX6_post_60 fz_X6_199 sh_30 rfl rfl ?_
    refine r_eq hm ?_
    refine r_iload_n 64 dX6_post_63 rfl rfl ?_
    refine r_icmp_ge 78 67 dX6_post_64 (by decide) rfl (fun g64 => ?_) (fun g64 => ?_)
    · have g64 := i_nlt g64
      rw [if_neg g64, if_neg g64] at key
      refine r_iinc 81 (L' := [_, _, _, _, _]) (v := nI (i + 1)) dX6_post_78 rfl (nI_1 i) (by decide) rfl rfl rfl ?_
      refine r_goto 30 dX6_post_81 (by decide) ?_
      exact ih (i + 1) i _ _ w2 (by omega) hF3 (hL1.fr (fun a h1 h2 => hF2 a (by omega))) key
    · have g64 := i_lt g64
      rw [if_pos g64, if_pos g64] at key
      refine r_aload_n 68 dX6_post_67 rfl rfl ?_
      refine r_getr 71 dX6_post_68 fz_X6_42 sh_0 rfl rfl ?_
      refine r_geti 74 dX6_post_71 fz_X6_199 sh_30 rfl rfl ?_
      refine r_eq hm ?_
      refine r_istore_n 75 (L' := [_, _, _, _, _]) dX6_post_74 (by decide) rfl rfl rfl ?_
      refine r_iload 77 dX6_post_75 rfl rfl ?_
      refine r_istore_n 78 (L' := [_, _, _, _, _]) dX6_post_77 (by decide) rfl rfl rfl ?_
      refine r_iinc 81 (L' := [_, _, _, _, _]) (v := nI (i + 1)) dX6_post_78 rfl (nI_1 i) (by decide) rfl rfl rfl ?_
      refine r_goto 30 dX6_post_81 (by decide) ?_
      exact ih (i + 1) i _ _ w2 (by omega) hF3 (hL1.fr (fun a h1 h2 => hF2 a (by omega))) key
set_option maxRecDepth 20000 in
set_option maxHeartbeats 4000000 in
theorem C_post {d : Nat} {w : zW} {s : sT} {q : Int32} (hd : 6 ≤ d) (hR : RC w s) (hS : sV s) : AC mX6_post d [.int q] w (f_post s q) := by
  have hn := hS.1.n
  refine CT.of [some (.ref 0), some (.int q), none, none, none] rfl (Nat.le_of_ble_eq_true rfl) rfl ?_
  refine r_iload_n 1 dX6_post_0 rfl rfl ?_
  refine r_iconst 2 (v := 0) dX6_post_1 (by decide) rfl ?_
  refine r_iconst 3 (v := 1) dX6_post_2 (by decide) rfl ?_
  refine r_callS (y2 := mX6_within) (as := [_, _, _]) 6 dX6_post_3 ml_X6_67 ms_X6_within (c_within (d := d - 1) _ _ _) (by omega) rfl (Nat.le_of_ble_eq_true rfl) rfl (kk_i ?_)
  rintro _ _ ⟨rfl, rfl⟩
  refine rb_ne 11 9 dX6_post_6 (by decide) rfl (fun g6 => ?_) (fun g6 => ?_)
  · have wq : wi q 0 1 = true := wi_iff.mpr g6
    refine r_aload_n 12 dX6_post_11 rfl rfl ?_
    refine r_getr 15 dX6_post_12 fz_X6_16 sh_0 rfl rfl ?_
    refine r_aload_n 16 dX6_post_15 rfl rfl ?_
    refine r_getr 19 dX6_post_16 fz_X6_10 sh_0 rfl rfl ?_
    refine r_callV (y2 := mX1_copyFrom) (as := [_]) 22 dX6_post_19 ml_X6_86 mv_X1_copyFrom (c_copyFrom (d := d - 1) (by omega) (Or.inr (Or.inl rfl)) (Or.inl rfl) (by decide)) (by omega) sh_6 ⟨_, rfl, rfl⟩ rfl (Nat.le_of_ble_eq_true rfl) rfl (kk_v ?_)
    rintro w1 hc
    have hL := hc.F hR.1 hn hS.1.2.1
    have hF : ∀ a, (a < 6 ∨ 10 < a) → (a < 30 ∨ 35 < a) → w1 a = w a := fun a h1 _ => hc.2.2.2.2.2.2.2 a (by omega)
    refine r_iconst 23 (v := 0) dX6_post_22 (by decide) rfl ?_
    refine r_istore_n 24 (L' := [_, _, _, _, _]) dX6_post_23 (by decide) rfl rfl rfl ?_
    refine r_ldc 26 dX6_post_24 kc_X6_160 rfl ?_
    refine r_istore_n 27 (L' := [_, _, _, _, _]) dX6_post_26 (by decide) rfl rfl rfl ?_
    refine r_iconst 28 (v := 0) dX6_post_27 (by decide) rfl ?_
    refine r_istore 30 (L' := [_, _, _, _, _]) dX6_post_28 (by decide) rfl rfl rfl ?_
    refine l_post (w0 := w) (by omega) hS (fun w2 x z hF2 hb => ?_) 10 0 (s_K s 4) _ _ w1 (by decide) hF (by rw [un_id]; exact hL) ⟨rfl, rfl⟩
    obtain ⟨hx, hz⟩ := bsG_10 hb
    refine r_iload_n 85 dX6_post_84 rfl rfl ?_
    refine r_if_ne 92 88 dX6_post_85 (by decide) rfl (fun g85 => ?_) (fun g85 => ?_)
    · refine r_iload_n 93 dX6_post_92 rfl rfl ?_
      exact r_iret .int dX6_post_93 rfl (rfl) (by first | exact ⟨by rw [f_post, if_pos wq, if_pos g85, hx], hR.fr (fun a ha => hF2 a (by omega) (by omega)), fun a ha => hF2 a (by omega) (by omega)⟩ | exact ⟨by rw [f_post, if_pos wq, if_neg g85, hz], hR.fr (fun a ha => hF2 a (by omega) (by omega)), fun a ha => hF2 a (by omega) (by omega)⟩)
    · refine r_iload_n 89 dX6_post_88 rfl rfl ?_
      refine r_goto 93 dX6_post_89 (by decide) ?_
      exact r_iret .int dX6_post_93 rfl (rfl) (by first | exact ⟨by rw [f_post, if_pos wq, if_pos g85, hx], hR.fr (fun a ha => hF2 a (by omega) (by omega)), fun a ha => hF2 a (by omega) (by omega)⟩ | exact ⟨by rw [f_post, if_pos wq, if_neg g85, hz], hR.fr (fun a ha => hF2 a (by omega) (by omega)), fun a ha => hF2 a (by omega) (by omega)⟩)
  · have wq : ¬ wi q 0 1 = true := fun z => g6 (wi_iff.mp z)
    refine r_iconst 10 (v := -1) dX6_post_9 (by decide) rfl ?_
    exact r_iret .int dX6_post_10 rfl (rfl) (by first | exact ⟨by rw [f_post, if_neg (wq)], by rw [f_post, if_neg (wq)]; exact hR, fun _ _ => rfl⟩)

/-! ===== what each call answers and does ===== -/
abbrev tN (v : Int32) : Nat := v.toInt.toNat
theorem tN_n {j : Nat} (h : j < 2147483648) : tN (nI j) = j := by rw [tN, ti_n h]; omega
abbrev u_lk (s : sT) (n : Nat) (K : Nat → Nat) : sT := ((n, K), s.2)
abbrev u_im (s : sT) (k : Nat) (I : Nat → Nat → Nat) : sT := (s.1, (k, I), s.2.2)
abbrev u_tp (s : sT) (T : Nat) (t : Nat → Nat) : sT := (s.1, s.2.1, (T, t), s.2.2.2)
abbrev u_ft (s : sT) (f : Nat) : sT := (s.1, s.2.1, s.2.2.1, f, s.2.2.2.2)
abbrev u_sh (s : sT) (sh : Nat → Option (Nat × Nat)) (c : Nat → Nat → Int32) : sT := (s.1, s.2.1, s.2.2.1, s.2.2.2.1, (sh, c), s.2.2.2.2.2)
abbrev u_tn (s : sT) (t : Nat) : sT := (s.1, s.2.1, s.2.2.1, s.2.2.2.1, s.2.2.2.2.1, t)
/-- the day as it is told -/
def dD (n : Nat) (K : Nat → Nat) : dT := d_run n K 0 n
def meas (n : Nat) (K : Nat → Nat) (D : dT) (q : Nat) : Nat := if q = 0 then sm n (fun b => d_s D b * k_wo K b) else if q = 1 then mx n (d_s D) else if q = 2 then d_w D else if q = 3 then d_f D else d_t D
def f_feed (s : sT) (c : Int32) : Int32 × sT := if wi c 0 127 = true then (if s_T s < 160 then (nI (s_T s + 1), u_tp s (s_T s + 1) (un (s_t s) (s_T s) (tN c))) else (-3, s)) else (-1, s)
def f_end (s : sT) (m : Int32) : Int32 × sT := if wi m 0 (s_T s) = true then (nI (s_T s), u_tp s (tN m) (s_t s)) else (-1, s)
def f_fault (s : sT) : Int32 × sT := (nI (s_f s), s)
def f_rule (s : sT) (q : Int32) : Int32 × sT := (if wi q 0 5 = true then nI (s_K s (tN q)) else if q = 6 then nI (s_n s) else if q = 7 then nI (lm (s_n s) (s_K s)) else -1, s)
def f_boat (s : sT) (b q : Int32) : Int32 × sT := (if iB (s_n s) b = true ∧ wi q 0 6 = true then (if q = 6 then nI (k_ct (s_K s) (tN b)) else nI (s_K s (6 + 6 * tN b + tN q))) else -1, s)
def mostR (q : Nat) : Nat := if q = 2 ∨ q = 5 then 1 else if q = 3 then 4 else 9
def f_set (s : sT) (q v : Int32) : Int32 × sT := if wi q 0 5 = true ∧ wi v (if q = 0 then 1 else 0) (mostR (tN q)) = true then (nI (s_K s (tN q)), u_lk s (s_n s) (un (s_K s) (tN q) (tN v))) else (-1, s)
def mostM (q : Nat) : Nat := if q = 1 then 3 else if q = 2 then 99 else 9
def f_alter (s : sT) (b q v : Int32) : Int32 × sT := if iB (s_n s) b = true ∧ wi q 1 4 = true ∧ wi v 0 (mostM (tN q)) = true then (nI (s_K s (6 + 6 * tN b + tN q)), u_lk s (s_n s) (un (s_K s) (6 + 6 * tN b + tN q) (tN v))) else (-1, s)
def f_lie (s : sT) (b : Int32) (p : Bool) : Int32 × sT := if iB (s_n s) b = true then (nI (s_K s (6 + 6 * tN b + 5)), u_lk s (s_n s) (un (s_K s) (6 + 6 * tN b + 5) (if p = true then 1 else 0))) else (-1, s)
def f_cross (s : sT) (b : Int32) : Int32 × sT := if iB (s_n s) b = true then (nI (s_K s (6 + 6 * tN b)), u_lk s (s_n s) (un (s_K s) (6 + 6 * tN b) (1 - s_K s (6 + 6 * tN b)))) else (-1, s)
def f_passes (s : sT) (i : Int32) : Int32 × sT := (if iB (s_n s) i = true then nI (d_p (dD (s_n s) (s_K s)) (tN i)) else -1, s)
def f_through (s : sT) (b : Int32) : Int32 × sT := (if iB (s_n s) b = true then nI (d_d (dD (s_n s) (s_K s)) (tN b)) else -1, s)
def f_stood (s : sT) (b : Int32) : Int32 × sT := (if iB (s_n s) b = true then nI (d_s (dD (s_n s) (s_K s)) (tN b)) else -1, s)
def f_table (s : sT) (l q : Int32) : Int32 × sT := (if wi l 0 4 = true ∧ wi q 0 4 = true then nI (meas (s_n s) (s_K s) (dD (s_n s) (un (s_K s) 3 (tN l))) (tN q)) else -1, s)
def f_day (s : sT) (q : Int32) : Int32 × sT := (if wi q 0 4 = true then nI (meas (s_n s) (s_K s) (dD (s_n s) (s_K s)) (tN q)) else -1, s)
def f_see (s : sT) (i b : Int32) : Int32 × sT := if iB (s_n s) i = true ∧ iB (s_n s) b = true then (if s_K s 42 < 6 then (nI (s_K s 42 + 1), u_lk s (s_n s) (un (un (un (s_K s) (43 + 2 * s_K s 42) (tN i)) (44 + 2 * s_K s 42) (tN b)) 42 (s_K s 42 + 1))) else (-3, s)) else (-1, s)
def f_forget (s : sT) (m : Int32) : Int32 × sT := if wi m 0 (s_K s 42) = true then (nI (s_K s 42), u_lk s (s_n s) (un (s_K s) 42 (tN m))) else (-1, s)
def f_keep (s : sT) (k : Int32) : Int32 × sT := if wi k 0 1 = true then (nI (bi (s_kp s) (tN k)), u_im s (if bi (s_kp s) (tN k) = 1 then s_kp s else s_kp s + 2 ^ tN k) (fun j => if j = tN k then s_K s else s_im s j)) else (-1, s)
def f_back (s : sT) (k : Int32) : Int32 × sT := if wi k 0 1 = true then (if bi (s_kp s) (tN k) = 1 then (nI (d_f (dD (s_n s) (s_im s (tN k)))), u_lk s (s_n s) (s_im s (tN k))) else (-2, s)) else (-1, s)
def f_torn (s : sT) : Int32 × sT := (nI (s_tn s), s)
def f_count (s : sT) (q : Int32) : Int32 × sT := (if q = 0 then nI (cn (s_n s) (fun b => k_sd (s_K s) b == 0)) else if q = 1 then nI (s_K s 42) else if q = 2 then nI (bi (s_kp s) 0 + bi (s_kp s) 1) else if q = 3 then nI (s_T s) else if q = 4 then (match s_sh s 0 with | none => -4 | some (_, z) => nI z) else if q = 5 then nI (cn (s_n s) (fun b => s_K s (6 + 6 * b + 5) == 1)) else -1, s)
/-- a call of the class, of the reference -/
def AC (y : zM) (d : Nat) (as : List Value) (w : zW) (r : Int32 × sT) : Prop := CT y d (.ref 0 :: as) w (z_i fun x w' => r.1 = x ∧ RC w' r.2 ∧ ∀ a, 49 < a → w' a = w a)
def AM (y : zM) (d : Nat) (as : List Value) (w : zW) (r : Int32 × sT) : Prop := CT y d (.ref 50 :: as) w (z_i fun x w' => r.1 = x ∧ RM w' r.2 ∧ ∀ a, a < 50 → w' a = w a)
/-! facts -/
theorem lm_b {n : Nat} {K : Nat → Nat} (hn : n ≤ 6) (hK : ∀ b, b < n → K (6 + 6 * b + 5) ≤ 1) : ∀ b, b < n → bi (lm n K) b = K (6 + 6 * b + 5) := by
  intro b hb
  rw [lm, bi_mk hn b (by omega)]
  have := hK b hb
  by_cases h : K (6 + 6 * b + 5) = 1
  · rw [if_pos ⟨hb, by simp [h]⟩, h]
  · rw [if_neg (fun z => h (by simpa using z.2))]
    omega
theorem lV.k {n : Nat} {K : Nat → Nat} (h : lV n K) : kV 99 n K := h.1
theorem lV.n {n : Nat} {K : Nat → Nat} (h : lV n K) : n ≤ 6 := h.1.1
theorem lV.lie {n b : Nat} {K : Nat → Nat} (h : lV n K) (hb : b < n) : K (6 + 6 * b + 5) ≤ 1 := (h.1.2.2.2.2.2.2.2 b hb).2.2.2.2.2
theorem kV.lie {A n b : Nat} {K : Nat → Nat} (h : kV A n K) (hb : b < n) : K (6 + 6 * b + 5) ≤ 1 := (h.2.2.2.2.2.2.2 b hb).2.2.2.2.2
theorem RC.a {w : zW} {s : sT} (h : RC w s) : lkF w 1 (s_n s) (s_K s) := h.1
theorem frC.hi {w w' : zW} (h : frC w w') : ∀ a, 49 < a → w' a = w a := fun a ha => h a (by omega)
theorem frR.lo {w w' : zW} (h : frR w w') : ∀ a, a < 50 → w' a = w a := fun a ha => h.2 a (by omega)
theorem wi_iff {v : Int32} {lo hi : Int} : wi v lo hi = true ↔ lo ≤ v.toInt ∧ v.toInt ≤ hi := by simp [wi]
theorem iB_iff {n : Nat} {v : Int32} : iB n v = true ↔ 0 ≤ v.toInt ∧ v.toInt < (n : Int) := by simp [iB]
/-- where all are gone the sums are whole -/
theorem dyC_mx {n i : Nat} {s : dT} (h : dI n n s) : (mx n fun b => if bi (d_g s) b = 1 then d_s s b else 0) = mx n (d_s s) := mx_congr (fun c hc => by rw [if_pos (dI_all h c hc)])
theorem dyC_sm {n : Nat} {K : Nat → Nat} {s : dT} (h : dI n n s) : (sm n fun b => if bi (d_g s) b = 1 then d_s s b * k_wo K b else 0) = sm n (fun b => d_s s b * k_wo K b) := sm_congr (fun c hc => by rw [if_pos (dI_all h c hc)])
/-- a day's numbers by their kinds, in the class -/
theorem dyC_meas {w : zW} {n : Nat} {K : Nat → Nat} {s : dT} (h : dI n n s) (hC : dyC w n K n s) : ∀ q, q < 5 → w 30 ([12, 9, 10, 7, 11].getD q 0) = nI (meas n K s q) := by
  intro q hq
  obtain ⟨C5, C6, C7, C8, C9, C10, C11, C12, -⟩ := hC
  match q, hq with
  | 0, _ => show w 30 12 = _; rw [C12, dyC_sm h]; rfl
  | 1, _ => show w 30 9 = _; rw [C9, dyC_mx (i := 0) h]; rfl
  | 2, _ => exact C10
  | 3, _ => exact C7
  | 4, _ => exact C11

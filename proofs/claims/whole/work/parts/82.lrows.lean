/-! ===== the law's own rows ===== -/
abbrev mL_law : zM := (yL_law, cL_law, 4, some .boolean)
def lwT (b N : Nat) (xs : Nat → Int32) : zX → Prop := fun X => x_R X = room_1 ∧ x_a X = #[.ref b] ∧ x_Q X = lw_Z (x_b X) #[.ref b] (x_s X) ∧ va_X b N xs (x_s X) (x_s X).heap ∧ b < (x_s X).heap.size ∧ ¬ x_A X b ∧ (x_G X).2.1 400 = b ∧ (∀ q, x_A X q → (x_s X).heap.size ≤ q) ∧ (x_n X).1 ≤ 600000 ∧ (x_n X).2 ≤ 7302250
section LAW
variable {d b N : Nat} {xs : Nat → Int32} {pc : Nat} {L : List (Option Value)} {st : List Value} {w : zW}
theorem r_slenL (n : Nat) (hd : decode cL_law pc = .ok (.arraylength, 1)) (hn : pc + 1 = n) (kk : WP mL_law d (lwT b N xs) n L (.int (nI N) :: st) w) : WP mL_law d (lwT b N xs) pc L (.ref 400 :: st) w := by
  subst hn
  intro X h hT H locs ls hD
  obtain ⟨t1, t2, t3, t4, t5, t6, t7, t8, t9, t10⟩ := id hT
  have e : (Value.ref 400 :: st).map (z_cv (x_G X)) = .ref b :: st.map (z_cv (x_G X)) := by rw [← t7]; rfl
  rw [e]
  exact va_slen h.exec h.code t4 t5 t6 hD.2.2.1 hd (kk X h hT H locs ls hD)
theorem r_sld {i : Int32} {j : Nat} (n : Nat) (hd : decode cL_law pc = .ok (.iaload, 1)) (hi : i = nI j) (hj : j < N) (hN : N ≤ 320) (hn : pc + 1 = n) (kk : WP mL_law d (lwT b N xs) n L (.int (xs j) :: st) w) : WP mL_law d (lwT b N xs) pc L (.int i :: .ref 400 :: st) w := by
  subst hn
  subst hi
  intro X h hT H locs ls hD
  obtain ⟨t1, t2, t3, t4, t5, t6, t7, t8, t9, t10⟩ := id hT
  have e : (Value.int (nI j) :: Value.ref 400 :: st).map (z_cv (x_G X)) = .int (nI j) :: .ref b :: st.map (z_cv (x_G X)) := by rw [← t7]; rfl
  rw [e]
  refine va_sld h.exec h.code t4 t5 t6 hD.2.2.1 (vp_in_nI hj (by omega)) hd ?_
  rw [nI_clamp (by omega)]
  exact kk X h hT H locs ls hD
theorem r_lend (hd : decode cL_law pc = .ok (.ireturn, 1)) : WP mL_law d (lwT b N xs) pc L [.int 1] w := by
  intro X h hT H locs ls hD
  obtain ⟨t1, t2, t3, -, -, -, -, t8, t9, t10⟩ := hT
  have key : W (x_p X) (x_l X) (x_e X) room_1 (x_s X) (x_m X) #[Value.ref b] (x_b X) (x_h X) (x_c X) H [] 600000 7302250 (lw_Z (x_b X) #[Value.ref b] (x_s X)) (F0 (x_m X) pc ls [.int 1]) := lw_ret h.exec h.code h.ret h.locks hd
  have key2 := va_forget (locs := locs) (fun q hq => t8 _ (hD.2.2.1.2.2 q hq)) (W.widen t9 t10 key)
  show W (x_p X) (x_l X) (x_e X) (x_R X) (x_s X) (x_m X) (x_a X) (x_b X) (x_h X) (x_c X) H locs (x_n X).1 (x_n X).2 (x_Q X) _
  rw [t1, t2, t3]
  exact key2
/-- an int of the script -/
theorem r_arg {i a : Nat} {c : Int} {ws : Nat} (p1 p2 p3 p4 p5 : Nat) (h0 : decode cL_law pc = .ok (.aload_n 0, 1)) (h1 : decode cL_law p1 = .ok (.iload_n 3, 1)) (h2 : decode cL_law p2 = .ok (.iconst c, 1)) (h3 : decode cL_law p3 = .ok (.iadd, 1)) (h4 : decode cL_law p4 = .ok (.iaload, 1)) (e1 : pc + 1 = p1) (e2 : p1 + 1 = p2) (e3 : p2 + 1 = p3) (e4 : p3 + 1 = p4) (e5 : p4 + 1 = p5) (hc : Int32.ofInt c = nI a) (hj : i + a < N) (hN : N ≤ 320)
    (kk : WP mL_law d (lwT b N xs) p5 [some (.ref 400), some (.ref 0), some (.ref ws), some (.int (nI i))] (.int (xs (i + a)) :: st) w) : WP mL_law d (lwT b N xs) pc [some (.ref 400), some (.ref 0), some (.ref ws), some (.int (nI i))] st w := by
  refine r_aload_n p1 h0 rfl e1 ?_
  refine r_iload_n p2 h1 rfl e2 ?_
  refine r_iconst p3 h2 hc e3 ?_
  refine r_iadd p4 h3 e4 ?_
  exact r_sld p5 h4 (nI_add i a) hj hN e5 kk
/-- what holds at the loop's head -/
def lwI (w : zW) (s : sT) : Prop := RC w s ∧ RM w s ∧ sV s
end LAW

/-! ===== LockTurnsModel() ===== -/
abbrev w50 (a : Nat → Nat) (c : Nat → ClassId) : va_W := [((a 0), .inr (6, [.ref (a 1), .ref (a 6), .ref (a 26), .int 0, .ref (a 27), .ref (a 29), .ref (a 30), .ref (a 36), .ref (a 39), .ref (a 40), .ref (a 41), .int 0])), ((a 1), .inr (1, [.ref (a 2), .ref (a 3), .int 0, .int 0, .int 0, .ref (a 4), .ref (a 5)])), ((a 2), .inl ((c 2), 6, .inl k_f0)), ((a 3), .inl ((c 3), 30, .inl (fun _ => 0))), ((a 4), .inl ((c 4), 6, .inl (fun _ => 0))), ((a 5), .inl ((c 5), 6, .inl (fun _ => 0))), ((a 6), .inr (1, [.ref (a 7), .ref (a 8), .int 0, .int 0, .int 0, .ref (a 9), .ref (a 10)])), ((a 7), .inl ((c 7), 6, .inl k_f0)), ((a 8), .inl ((c 8), 30, .inl (fun _ => 0))), ((a 9), .inl ((c 9), 6, .inl (fun _ => 0))), ((a 10), .inl ((c 10), 6, .inl (fun _ => 0))), ((a 11), .inr (1, [.ref (a 12), .ref (a 13), .int 0, .int 0, .int 0, .ref (a 14), .ref (a 15)])), ((a 12), .inl ((c 12), 6, .inl k_f0)), ((a 13), .inl ((c 13), 30, .inl (fun _ => 0))), ((a 14), .inl ((c 14), 6, .inl (fun _ => 0))), ((a 15), .inl ((c 15), 6, .inl (fun _ => 0))), ((a 16), .inr (1, [.ref (a 17), .ref (a 18), .int 0, .int 0, .int 0, .ref (a 19), .ref (a 20)])), ((a 17), .inl ((c 17), 6, .inl k_f0)), ((a 18), .inl ((c 18), 30, .inl (fun _ => 0))), ((a 19), .inl ((c 19), 6, .inl (fun _ => 0))), ((a 20), .inl ((c 20), 6, .inl (fun _ => 0))), ((a 21), .inr (1, [.ref (a 22), .ref (a 23), .int 0, .int 0, .int 0, .ref (a 24), .ref (a 25)])), ((a 22), .inl ((c 22), 6, .inl k_f0)), ((a 23), .inl ((c 23), 30, .inl (fun _ => 0))), ((a 24), .inl ((c 24), 6, .inl (fun _ => 0))), ((a 25), .inl ((c 25), 6, .inl (fun _ => 0))), ((a 26), .inl ((c 26), 2, .inr (.inr (.inr (.inr (fun j => ([11, 16][j]?).map a)))))), ((a 27), .inr (4, [.ref (a 28), .int 0, .int 0, .int 0, .int 0, .int 0])), ((a 28), .inl ((c 28), 160, .inl (fun _ => 0))), ((a 29), .inr (5, [.ref (a 21), .int 0, .ref (a 27), .int 0, .int 0])), ((a 30), .inr (0, [.ref (a 31), .ref (a 32), .ref (a 33), .ref (a 34), .ref (a 35), .int 0, .int 0, .int 0, .int 0, .int 0, .int 0, .int 0, .int 0])), ((a 31), .inl ((c 31), 6, .inl (fun _ => 0))), ((a 32), .inl ((c 32), 6, .inl (fun _ => 0))), ((a 33), .inl ((c 33), 6, .inl (fun _ => 0))), ((a 34), .inl ((c 34), 6, .inl (fun _ => 0))), ((a 35), .inl ((c 35), 6, .inl (fun _ => 0))), ((a 36), .inr (2, [.int 0, .ref (a 37), .ref (a 38)])), ((a 37), .inl ((c 37), 6, .inl (fun _ => 0))), ((a 38), .inl ((c 38), 6, .inl (fun _ => 0))), ((a 39), .inl ((c 39), 6, .inl (fun _ => 0))), ((a 40), .inl ((c 40), 384, .inl (fun _ => 0))), ((a 41), .inl ((c 41), 4, .inr (.inr (.inr (.inr (fun j => ([42, 44, 46, 48][j]?).map a)))))), ((a 42), .inr (3, [.ref (a 43), .int 0, .int (-1)])), ((a 43), .inl ((c 43), 40, .inl (fun _ => 0))), ((a 44), .inr (3, [.ref (a 45), .int 0, .int (-1)])), ((a 45), .inl ((c 45), 40, .inl (fun _ => 0))), ((a 46), .inr (3, [.ref (a 47), .int 0, .int (-1)])), ((a 47), .inl ((c 47), 40, .inl (fun _ => 0))), ((a 48), .inr (3, [.ref (a 49), .int 0, .int (-1)])), ((a 49), .inl ((c 49), 40, .inl (fun _ => 0)))]
def k_a (a : Nat → Nat) (l : List Nat) : Nat → Nat := fun k => if k < 50 then a k else if k < 64 then l.getD (k - 50) 0 else a k
def k_c (c : Nat → ClassId) (l : List ClassId) : Nat → ClassId := fun k => if k < 51 then c k else if k < 64 then l.getD (k - 51) 0 else c k
def s_0 : sT := ((0, lw p_K0 0), (0, fun _ _ => 0), (0, fun _ => 0), 0, (fun _ => none, fun _ _ => 0), 0)
def t7 (c' : Nat → ClassId) : kTy := [(c' 51, .int), (c' 52, .int), (c' 53, .boolean), (c' 54, .int), (c' 55, .int), (c' 56, .int), (c' 57, .int), (c' 58, .int), (c' 59, .int), (c' 60, .int), (c' 61, .int), (c' 62, .int), (c' 63, .int)]
def F_X7 (g : va_G) (v : Value) (a : Nat → Nat) (c : Nat → ClassId) (h : Nat) (ws : va_W) (tys : kTy) : Prop := ∃ (a' : Nat → Nat) (c' : Nat → ClassId) (w' : zW), (∀ k, k < 50 ∨ 63 < k → a' k = a k) ∧ (∀ k, k < 50 → c' k = c k) ∧ a' 50 = h ∧ ws = z_cw (g, a', c', v) w' ∧ tys = t7 c' ∧ RM w' s_0 ∧ ∀ k, k < 50 → w' k = w_0 k
def k_T7 (F : va_W → kTy → Prop) (G0 G1 : zG) (X : zX) : Prop := x_Q X = MQ (x_b X) (k_Qc G0 (x_A X) F) (x_a X) (x_s X) (x_n X).1 (x_n X).2 (x_A X) ∧ x_G X = G1
set_option maxRecDepth 100000 in
theorem z_K7 {G : zG} {U : State} (h : z_K G U) : va_K G.1 vwCl (t7 G.2.2.1) U := by
  refine ⟨h.1.1, fun k q hq => ?_⟩
  match k, hq with
  | 0, hq => cases hq; exact h.2.1 51 _ _ _ sh_51
  | 1, hq => cases hq; exact h.2.1 52 _ _ _ sh_52
  | 2, hq => cases hq; exact h.2.1 53 _ _ _ sh_53
  | 3, hq => cases hq; exact h.2.1 54 _ _ _ sh_54
  | 4, hq => cases hq; exact h.2.1 55 _ _ _ sh_55
  | 5, hq => cases hq; exact h.2.1 56 _ _ _ sh_56
  | 6, hq => cases hq; exact h.2.1 57 _ _ _ sh_57
  | 7, hq => cases hq; exact h.2.1 58 _ _ _ sh_58
  | 8, hq => cases hq; exact h.2.1 59 _ _ _ sh_59
  | 9, hq => cases hq; exact h.2.1 60 _ _ _ sh_60
  | 10, hq => cases hq; exact h.2.1 61 _ _ _ sh_61
  | 11, hq => cases hq; exact h.2.1 62 _ _ _ sh_62
  | 12, hq => cases hq; exact h.2.1 63 _ _ _ sh_63
  | k + 13, hq => cases hq
theorem r_vret7 {y : zM} {d pc : Nat} {F : va_W → kTy → Prop} {G0 G1 : zG} {L : List (Option Value)} {w : zW} (hg : G0.1 = G1.1) (hd : decode y.2.1 pc = .ok (.return_, 1)) (hy : y.2.2.2 = none) (hF : F (z_cw G1 w) (t7 G1.2.2.1)) : WP y d (k_T7 F G0 G1) pc L [] w := by
  intro X h hT H locs ls hD
  obtain ⟨e, eG⟩ := hT
  have hK := z_K7 h.K
  have hP := hD.1
  have hDD := hD.2.1
  have hS := hD.2.2.1
  rw [eG] at hP hDD hK
  rw [← hg] at hP hK
  clear hD
  generalize z_cw G1 w = ws at hP hDD hF
  generalize t7 G1.2.2.1 = ts at hK hF
  have key : ∀ t : State, t.heap = H → (x_s X).WarmedH t.vm → k_Qc G0 (x_A X) F (x_a X) (x_s X) (.returned none) t := fun t ht hW => by
    refine ⟨⟨(ws, ts), rfl, hF, ?_, hDD, va_K.moved hW.alike hK⟩, hS.F ht⟩
    rw [ht]
    exact hP
  show W (x_p X) (x_l X) (x_e X) (x_R X) (x_s X) (x_m X) (x_a X) (x_b X) (x_h X) (x_c X) H locs (x_n X).1 (x_n X).2 (x_Q X) _
  rw [e]
  exact W.vret h.exec h.code (h.ret.trans hy) key hS.2.2 hd h.locks
theorem l_X7 {d : Nat} {F : va_W → kTy → Prop} {g : va_G} {v : Value} {a0 a1 : Nat → Nat} {c0 c1 : Nat → ClassId} (hd : 2 ≤ d) (hF : ∀ w', RM w' s_0 → (∀ k, k < 50 → w' k = w_0 k) → F (z_cw (g, a1, c1, v) w') (t7 c1)) : WP mX7_init d (k_T7 F (g, a0, c0, v) (g, a1, c1, v)) 108 [some (.ref 50), none] [] w_0 := by
  refine r_iconst 109 dX7_init_108 (v := nI 0) rfl rfl ?_
  refine r_istore_n 110 dX7_init_109 (by decide) rfl rfl rfl ?_
  refine r_iload_n 111 dX7_init_110 rfl rfl ?_
  refine r_iconst 112 dX7_init_111 (v := nI 4) rfl rfl ?_
  refine r_icmp_ge 129 115 dX7_init_112 (by decide) rfl (fun z => absurd z (by decide +kernel)) (fun _ => ?_)
  refine r_aload_n 116 dX7_init_115 rfl rfl ?_
  refine r_getr 119 dX7_init_116 fz_X7_38 sh_50 rfl rfl ?_
  refine r_iload_n 120 dX7_init_119 rfl rfl ?_
  refine r_bipush 122 dX7_init_120 (v := -4) (by decide +kernel) rfl ?_
  refine r_iast 123 dX7_init_122 sh_60 (vp_in_nI (by decide) (by decide)) rfl ?_
  rw [nI_clamp (by decide)]
  refine r_iinc (v := nI 1) 126 dX7_init_123 rfl (by decide +kernel) (by decide) rfl rfl rfl ?_
  refine r_goto 110 dX7_init_126 (by decide) ?_
  refine r_iload_n 111 dX7_init_110 rfl rfl ?_
  refine r_iconst 112 dX7_init_111 (v := nI 4) rfl rfl ?_
  refine r_icmp_ge 129 115 dX7_init_112 (by decide) rfl (fun z => absurd z (by decide +kernel)) (fun _ => ?_)
  refine r_aload_n 116 dX7_init_115 rfl rfl ?_
  refine r_getr 119 dX7_init_116 fz_X7_38 sh_50 rfl rfl ?_
  refine r_iload_n 120 dX7_init_119 rfl rfl ?_
  refine r_bipush 122 dX7_init_120 (v := -4) (by decide +kernel) rfl ?_
  refine r_iast 123 dX7_init_122 sh_60 (vp_in_nI (by decide) (by decide)) rfl ?_
  rw [nI_clamp (by decide)]
  refine r_iinc (v := nI 2) 126 dX7_init_123 rfl (by decide +kernel) (by decide) rfl rfl rfl ?_
  refine r_goto 110 dX7_init_126 (by decide) ?_
  refine r_iload_n 111 dX7_init_110 rfl rfl ?_
  refine r_iconst 112 dX7_init_111 (v := nI 4) rfl rfl ?_
  refine r_icmp_ge 129 115 dX7_init_112 (by decide) rfl (fun z => absurd z (by decide +kernel)) (fun _ => ?_)
  refine r_aload_n 116 dX7_init_115 rfl rfl ?_
  refine r_getr 119 dX7_init_116 fz_X7_38 sh_50 rfl rfl ?_
  refine r_iload_n 120 dX7_init_119 rfl rfl ?_
  refine r_bipush 122 dX7_init_120 (v := -4) (by decide +kernel) rfl ?_
  refine r_iast 123 dX7_init_122 sh_60 (vp_in_nI (by decide) (by decide)) rfl ?_
  rw [nI_clamp (by decide)]
  refine r_iinc (v := nI 3) 126 dX7_init_123 rfl (by decide +kernel) (by decide) rfl rfl rfl ?_
  refine r_goto 110 dX7_init_126 (by decide) ?_
  refine r_iload_n 111 dX7_init_110 rfl rfl ?_
  refine r_iconst 112 dX7_init_111 (v := nI 4) rfl rfl ?_
  refine r_icmp_ge 129 115 dX7_init_112 (by decide) rfl (fun z => absurd z (by decide +kernel)) (fun _ => ?_)
  refine r_aload_n 116 dX7_init_115 rfl rfl ?_
  refine r_getr 119 dX7_init_116 fz_X7_38 sh_50 rfl rfl ?_
  refine r_iload_n 120 dX7_init_119 rfl rfl ?_
  refine r_bipush 122 dX7_init_120 (v := -4) (by decide +kernel) rfl ?_
  refine r_iast 123 dX7_init_122 sh_60 (vp_in_nI (by decide) (by decide)) rfl ?_
  rw [nI_clamp (by decide)]
  refine r_iinc (v := nI 4) 126 dX7_init_123 rfl (by decide +kernel) (by decide) rfl rfl rfl ?_
  refine r_goto 110 dX7_init_126 (by decide) ?_
  refine r_iload_n 111 dX7_init_110 rfl rfl ?_
  refine r_iconst 112 dX7_init_111 (v := nI 4) rfl rfl ?_
  refine r_icmp_ge 129 115 dX7_init_112 (by decide) rfl (fun _ => ?_) (fun z => absurd (by decide +kernel) z)
  obtain ⟨w1, e1⟩ : ∃ w1 : zW, w1 = z_up (z_up (z_up (z_up w_0 60 0 (-4)) 60 1 (-4)) 60 2 (-4)) 60 3 (-4) := ⟨_, rfl⟩
  rw [← e1]
  have h60 : ∀ k, k < 4 → w1 60 k = -4 := fun k hk => by
    rw [e1]
    match k, hk with
    | 0, _ => rfl
    | 1, _ => rfl
    | 2, _ => rfl
    | 3, _ => rfl
    | k + 4, hk => omega
  have ho : ∀ a, a ≠ 60 → w1 a = w_0 a := fun a ha => by rw [e1, z_up_o ha, z_up_o ha, z_up_o ha, z_up_o ha]
  refine r_aload_n 130 dX7_init_129 rfl rfl ?_
  refine r_callV (y2 := mX7_firstDraft) (as := []) 133 dX7_init_130 ml_X7_50 mv_X7_firstDraft (m_firstDraft (d := d - 1)) (by omega) sh_50 ⟨_, rfl, rfl⟩ rfl (Nat.le_of_ble_eq_true rfl) rfl (kk_v ?_)
  rintro w2 ⟨hD2, g1, g2⟩
  refine r_aload_n 134 dX7_init_133 rfl rfl ?_
  refine r_callV (y2 := mX7_keepDraft) (as := []) 137 dX7_init_134 ml_X7_53 mv_X7_keepDraft (m_keepDraft (d := d - 1) hD2 dV_0 (by decide) (fun k hk => by show p_K0 k = 0; unfold p_K0; rw [if_neg (by omega), if_neg (by omega)])) (by omega) sh_50 ⟨_, rfl, rfl⟩ rfl (Nat.le_of_ble_eq_true rfl) rfl (kk_v ?_)
  rintro w3 ⟨k1, k2, k3, k4, k5, k6⟩
  have z50 : ∀ q, q = 10 ∨ q = 15 ∨ q = 30 → w3 50 q = 0 := fun q hq => by
    rw [k5 q (by omega), g1 q (by omega), ho 50 (by omega)]
    rfl
  have hRM : RM w3 s_0 := by
    refine ⟨⟨fun k hk => ?_, k2⟩, fun k hk => ⟨?_, fun q => ?_⟩, ⟨z50 10 (by omega), fun i hi => absurd hi (Nat.not_lt_zero i)⟩, z50 15 (by omega), fun k hk => ?_, z50 30 (by omega)⟩
    · rw [Nat.zero_add]
      exact k1 k hk
    · match k, hk with
      | 0, _ => exact k3
      | 1, _ => exact k4
      | k + 2, hk => omega
    · have q : bi 0 k = 1 := q
      unfold bi at q
      simp at q
    · show w3 60 k = -4
      rw [k6 60 (by omega) (by omega) (by omega), g2 60 (by omega) (by omega)]
      exact h60 k hk
  exact r_vret7 rfl dX7_init_137 rfl (hF w3 hRM (fun k hk => by rw [k6 k (by omega) (by omega) (by omega), g2 k (by omega) (by omega), ho k (by omega)]))

/-! ===== the reference: read ===== -/
set_option maxRecDepth 20000 in
set_option maxHeartbeats 4000000 in
theorem l_had {d j l N : Nat} {f : Int32} {w0 : zW} {T : zX → Prop} (hx : ∀ w, (∀ q, q < 55 → w 63 q = w0 51 q) → (∀ a, a ≠ 63 → w a = w0 a) → WP mX7_read d T 53 [some (.ref 50), some (.int (nI j)), some (.int (nI l)), some (.int f), some (.int (nI N)), some (.int (nI 55)), none, none, none, none, none] [] w) : ∀ k c (w : zW), c + k = 55 → (∀ q, q < c → w 63 q = w0 51 q) → (∀ a, a ≠ 63 → w a = w0 a) → WP mX7_read d T 26 [some (.ref 50), some (.int (nI j)), some (.int (nI l)), some (.int f), some (.int (nI N)), some (.int (nI c)), none, none, none, none, none] [] w := by
  intro k
  induction k with
  | zero =>
    intro c w hc h1 h2
    have e : c = 55 := by omega
    subst e
    refine r_iload 28 dX7_read_26 rfl rfl ?_
    refine r_bipush 30 (v := 55) dX7_read_28 (by decide) rfl ?_
    refine r_icmp_ge 53 33 dX7_read_30 (by decide) rfl (fun _ => ?_) (fun z => absurd (Int32.le_refl _) z)
    exact hx w h1 h2
  | succ k ih =>
    intro c w hc h1 h2
    refine r_iload 28 dX7_read_26 rfl rfl ?_
    refine r_bipush 30 (v := 55) dX7_read_28 (by decide) rfl ?_
    refine r_icmp_ge 53 33 dX7_read_30 (by decide) rfl (fun z => absurd z (fun z => absurd ((nI_le' (a := 55) (by decide) (by omega)).mp z) (by omega))) (fun _ => ?_)
    refine r_aload_n 34 dX7_read_33 rfl rfl ?_
    refine r_getr 37 dX7_read_34 fz_X7_47 sh_50 rfl rfl ?_
    refine r_iload 39 dX7_read_37 rfl rfl ?_
    refine r_aload_n 40 dX7_read_39 rfl rfl ?_
    refine r_getr 43 dX7_read_40 fz_X7_7 sh_50 rfl rfl ?_
    refine r_iload 45 dX7_read_43 rfl rfl ?_
    refine rj_iald 46 (c) dX7_read_45 sh_51 (rfl) (by omega) (by decide) rfl ?_
    refine r_eq (z := w0 51 c) (by rw [h2 51 (by decide)]) ?_
    refine rj_iast 47 (c) dX7_read_46 sh_63 (rfl) (by omega) (by decide) rfl ?_
    refine r_iinc 50 (L' := [_, _, _, _, _, _, _, _, _, _, _]) (v := nI (c + 1)) dX7_read_47 rfl (nI_1 c) (by decide) rfl rfl rfl ?_
    refine r_goto 26 dX7_read_50 (by decide) ?_
    exact ih (c + 1) _ (by omega) (fun q hq => by by_cases e : q = c; (rw [e, z_up_s]); (rw [z_up_i e]; exact h1 q (by omega))) (fun a ha => by rw [z_up_o ha]; exact h2 a ha)
set_option maxRecDepth 20000 in
set_option maxHeartbeats 4000000 in
theorem l_undo {d j l N i : Nat} {f v8 : Int32} {w0 : zW} {T : zX → Prop} (hx : ∀ w, (∀ q, q < 55 → w 51 q = w0 63 q) → (∀ q, 55 ≤ q → w 51 q = w0 51 q) → (∀ a, a ≠ 51 → w a = w0 a) → WP mX7_read d T 237 [some (.ref 50), some (.int (nI j)), some (.int (nI l)), some (.int f), some (.int (nI N)), some (.int 0), some (.int (nI i)), some (.int (nI i)), some (.int v8), some (.int (nI 55)), none] [] w) : ∀ k c (w : zW), c + k = 55 → (∀ q, q < c → w 51 q = w0 63 q) → (∀ q, 55 ≤ q → w 51 q = w0 51 q) → (∀ a, a ≠ 51 → w a = w0 a) → WP mX7_read d T 210 [some (.ref 50), some (.int (nI j)), some (.int (nI l)), some (.int f), some (.int (nI N)), some (.int 0), some (.int (nI i)), some (.int (nI i)), some (.int v8), some (.int (nI c)), none] [] w := by
  intro k
  induction k with
  | zero =>
    intro c w hc h1 h2 h3
    have e : c = 55 := by omega
    subst e
    refine r_iload 212 dX7_read_210 rfl rfl ?_
    refine r_bipush 214 (v := 55) dX7_read_212 (by decide) rfl ?_
    refine r_icmp_ge 237 217 dX7_read_214 (by decide) rfl (fun _ => ?_) (fun z => absurd (Int32.le_refl _) z)
    exact hx w h1 h2 h3
  | succ k ih =>
    intro c w hc h1 h2 h3
    refine r_iload 212 dX7_read_210 rfl rfl ?_
    refine r_bipush 214 (v := 55) dX7_read_212 (by decide) rfl ?_
    refine r_icmp_ge 237 217 dX7_read_214 (by decide) rfl (fun z => absurd z (fun z => absurd ((nI_le' (a := 55) (by decide) (by omega)).mp z) (by omega))) (fun _ => ?_)
    refine r_aload_n 218 dX7_read_217 rfl rfl ?_
    refine r_getr 221 dX7_read_218 fz_X7_7 sh_50 rfl rfl ?_
    refine r_iload 223 dX7_read_221 rfl rfl ?_
    refine r_aload_n 224 dX7_read_223 rfl rfl ?_
    refine r_getr 227 dX7_read_224 fz_X7_47 sh_50 rfl rfl ?_
    refine r_iload 229 dX7_read_227 rfl rfl ?_
    refine rj_iald 230 (c) dX7_read_229 sh_63 (rfl) (by omega) (by decide) rfl ?_
    refine r_eq (z := w0 63 c) (by rw [h3 63 (by decide)]) ?_
    refine rj_iast 231 (c) dX7_read_230 sh_51 (rfl) (by omega) (by decide) rfl ?_
    refine r_iinc 234 (L' := [_, _, _, _, _, _, _, _, _, _, _]) (v := nI (c + 1)) dX7_read_231 rfl (nI_1 c) (by decide) rfl rfl rfl ?_
    refine r_goto 210 dX7_read_234 (by decide) ?_
    exact ih (c + 1) _ (by omega) (fun q hq => by by_cases e : q = c; (rw [e, z_up_s]); (rw [z_up_i e]; exact h1 q (by omega))) (fun q hq => by rw [z_up_i (by omega)]; exact h2 q hq) (fun a ha => by rw [z_up_o ha]; exact h3 a ha)
/-- what the machine says of one cell -/
def rcs (o : Option (Nat × Nat)) (l : Nat) (p : Int) : Nat := match o with
  | none => 1
  | some (m, z) => if m = l then (if 0 ≤ p ∧ p < (z : Int) then 0 else 2) else 3
theorem rcs_lt {o : Option (Nat × Nat)} {l : Nat} {p : Int} : rcs o l p < 4 := by
  unfold rcs
  cases o with
  | none => show 1 < 4; decide
  | some q => dsimp only; split; (split <;> decide); decide
theorem rcs_2 {o : Option (Nat × Nat)} {l : Nat} {p : Int} : sP o l p = if rcs o l p = 0 then rcs o l (p + 1) else rcs o l p := by
  cases o with
  | none => rfl
  | some q =>
    obtain ⟨m, z⟩ := q
    by_cases hm : m = l
    · have a : ∀ p, rcs (some (m, z)) l p = if 0 ≤ p ∧ p < (z : Int) then 0 else 2 := fun p => if_pos hm
      have b : sP (some (m, z)) l p = if 0 ≤ p ∧ p + 1 < (z : Int) then 0 else 2 := if_pos hm
      rw [b]
      by_cases c1 : 0 ≤ p ∧ p < (z : Int)
      · have r0 : rcs (some (m, z)) l p = 0 := by rw [a, if_pos c1]
        rw [if_pos r0, a]
        by_cases c2 : p + 1 < (z : Int)
        · rw [if_pos ⟨c1.1, c2⟩, if_pos ⟨by omega, c2⟩]
        · rw [if_neg (fun z => c2 z.2), if_neg (fun z => c2 z.2)]
      · have r0 : rcs (some (m, z)) l p = 2 := by rw [a, if_neg c1]
        rw [if_neg (fun z => c1 (by omega)), if_neg (by rw [r0]; decide), r0]
    · have a : ∀ p, rcs (some (m, z)) l p = 3 := fun p => if_neg hm
      rw [show sP (some (m, z)) l p = 3 from if_neg hm, if_neg (by rw [a]; decide), a]
theorem tl_add {x z : Int64} (h : -9223372036854775808 ≤ x.toInt + z.toInt ∧ x.toInt + z.toInt < 9223372036854775808) : (x + z).toInt = x.toInt + z.toInt := by
  rw [Int64.toInt_add]
  exact Int.bmod_eq_of_le (by omega) (by omega)
set_option maxRecDepth 20000 in
set_option maxHeartbeats 4000000 in
theorem l_rd1 {d j l N i c wh : Nat} {f : Int32} {w : zW} {s : sT} {T : zX → Prop} (hj : j < 4) (hl : l < 3) (hi : i < 20) (hc : c < 2) (h5 : shM w s) (hS : sV s) (hx : WP mX7_read d T 77 [some (.ref 50), some (.int (nI j)), some (.int (nI l)), some (.int f), some (.int (nI N)), some (.int (nI (rcs (s_sh s j) l (f.toInt + 2 * i + c)))), some (.int (nI (wh))), some (.int (nI (i))), some (.int (nI (c + 1))), none, none] [] w) : WP mX7_read d T 88 [some (.ref 50), some (.int (nI j)), some (.int (nI l)), some (.int f), some (.int (nI N)), some (.int (0)), some (.int (nI (wh))), some (.int (nI (i))), some (.int (nI c)), none, none] [] w := by
  have hk2 := h5 j hj
  have hk3 := hS.2.2.2.2.1 j hj
  have fb := ti_b f
  have hP : (f.toInt64 + (2 * nI i).toInt64 + (nI c).toInt64).toInt = f.toInt + 2 * i + c := by
    have e1 : (2 * nI i).toInt64.toInt = 2 * i := by rw [tl_i, show (2 : Int32) * nI i = nI (2 * i) from nI_mul 2 i, ti_n (by omega)]; omega
    have e2 : (nI c).toInt64.toInt = c := by rw [tl_i, ti_n (by omega)]
    have e3 : (f.toInt64 + (2 * nI i).toInt64).toInt = f.toInt + 2 * i := by rw [tl_add (by rw [tl_i, e1]; omega), tl_i, e1]
    rw [tl_add (by rw [e3, e2]; omega), e3, e2]
  obtain ⟨P, hPe⟩ : ∃ P, (f.toInt64 + (2 * nI i).toInt64 + (nI c).toInt64) = P := ⟨_, rfl⟩
  rw [hPe] at hP
  refine r_iload_n 89 dX7_read_88 rfl rfl ?_
  refine r_i2l 90 dX7_read_89 rfl ?_
  refine r_iconst 91 (v := 2) dX7_read_90 (by decide) rfl ?_
  refine r_iload 93 dX7_read_91 rfl rfl ?_
  refine r_imul 94 dX7_read_93 rfl ?_
  refine r_i2l 95 dX7_read_94 rfl ?_
  refine r_ladd 96 dX7_read_95 rfl ?_
  refine r_iload 98 dX7_read_96 rfl rfl ?_
  refine r_i2l 99 dX7_read_98 rfl ?_
  refine r_ladd 100 dX7_read_99 rfl ?_
  refine r_leq (z := P) hPe ?_
  refine r_lstore 102 (L' := [_, _, _, _, _, _, _, _, _, _, _]) dX7_read_100 (by decide) rfl rfl rfl ?_
  refine r_aload_n 103 dX7_read_102 rfl rfl ?_
  refine r_getr 106 dX7_read_103 fz_X7_38 sh_50 rfl rfl ?_
  refine r_iload_n 107 dX7_read_106 rfl rfl ?_
  refine rj_iald 108 (j) dX7_read_107 sh_60 (rfl) (by omega) (by decide) rfl ?_
  rcases hs : s_sh s j with _ | ⟨m, z⟩
  · rw [hs] at hk2
    refine r_eq hk2 ?_
    refine r_bipush 110 (v := -4) dX7_read_108 (by decide) rfl ?_
    refine r_icmp_ne 117 113 dX7_read_110 (by decide) rfl (fun z => absurd (rfl) z) (fun _ => ?_)
    refine r_iconst 114 (v := 1) dX7_read_113 (by decide) rfl ?_
    refine r_goto 156 dX7_read_114 (by decide) ?_
    refine r_eq (z := nI (rcs (s_sh s j) l (f.toInt + 2 * i + c))) (by unfold rcs; rw [hs]; rfl) ?_
    refine r_istore 158 (L' := [_, _, _, _, _, _, _, _, _, _, _]) dX7_read_156 (by decide) rfl rfl rfl ?_
    refine r_iinc 161 (L' := [_, _, _, _, _, _, _, _, _, _, _]) (v := nI (c + 1)) dX7_read_158 rfl (nI_1 c) (by decide) rfl rfl rfl ?_
    refine r_goto 77 dX7_read_161 (by decide) ?_
    refine r_drop 9 (L' := [_, _, _, _, _, _, _, _, _, _, _]) rfl ?_
    exact hx
  rw [hs] at hk2
  have hmz := hk3 m z hs
  refine r_eq hk2.1 ?_
  refine r_bipush 110 (v := -4) dX7_read_108 (by decide) rfl ?_
  refine r_icmp_ne 117 113 dX7_read_110 (by decide) rfl (fun _ => ?_) (fun z => absurd z (nI_m4 (by omega)))
  refine r_aload_n 118 dX7_read_117 rfl rfl ?_
  refine r_getr 121 dX7_read_118 fz_X7_38 sh_50 rfl rfl ?_
  refine r_iload_n 122 dX7_read_121 rfl rfl ?_
  refine rj_iald 123 (j) dX7_read_122 sh_60 (rfl) (by omega) (by decide) rfl ?_
  refine r_eq hk2.1 ?_
  refine r_iload_n 124 dX7_read_123 rfl rfl ?_
  refine r_icmp_eq 131 127 dX7_read_124 (by decide) rfl (fun g124 => ?_) (fun g124 => ?_)
  · have g124 : m = l := (nI_inj (by omega) (by omega)).mp g124
    refine r_lload 133 dX7_read_131 rfl rfl ?_
    refine r_lconst 134 (v := 0) dX7_read_133 (by decide) rfl ?_
    refine r_lcmp 135 dX7_read_134 rfl ?_
    refine r_if_lt 151 138 dX7_read_135 (by decide) rfl (fun g135 => ?_) (fun g135 => ?_)
    · have g135 : P.toInt < 0 := cmp_lt.mp g135
      refine r_iconst 152 (v := 2) dX7_read_151 (by decide) rfl ?_
      refine r_goto 156 dX7_read_152 (by decide) ?_
      refine r_eq (z := nI (rcs (s_sh s j) l (f.toInt + 2 * i + c))) (by unfold rcs; rw [hs]; dsimp only; first | (rw [if_neg g124]; rfl) | (rw [if_pos g124, if_neg (by omega)]; rfl) | (rw [if_pos g124, if_pos (by omega)]; rfl)) ?_
      refine r_istore 158 (L' := [_, _, _, _, _, _, _, _, _, _, _]) dX7_read_156 (by decide) rfl rfl rfl ?_
      refine r_iinc 161 (L' := [_, _, _, _, _, _, _, _, _, _, _]) (v := nI (c + 1)) dX7_read_158 rfl (nI_1 c) (by decide) rfl rfl rfl ?_
      refine r_goto 77 dX7_read_161 (by decide) ?_
      refine r_drop 9 (L' := [_, _, _, _, _, _, _, _, _, _, _]) rfl ?_
      exact hx
    · have g135 : ¬ P.toInt < 0 := fun z => g135 (cmp_lt.mpr z)
      refine r_lload 140 dX7_read_138 rfl rfl ?_
      refine r_aload_n 141 dX7_read_140 rfl rfl ?_
      refine r_getr 144 dX7_read_141 fz_X7_41 sh_50 rfl rfl ?_
      refine r_iload_n 145 dX7_read_144 rfl rfl ?_
      refine rj_iald 146 (j) dX7_read_145 sh_61 (rfl) (by omega) (by decide) rfl ?_
      refine r_eq hk2.2.1 ?_
      refine r_i2l 147 dX7_read_146 rfl ?_
      refine r_lcmp 148 dX7_read_147 rfl ?_
      refine r_if_lt 155 151 dX7_read_148 (by decide) rfl (fun g148 => ?_) (fun g148 => ?_)
      · have g148 : P.toInt < z := by have := cmp_lt.mp g148; rw [tl_i, ti_n (by omega)] at this; exact this
        refine r_iconst 156 (v := 0) dX7_read_155 (by decide) rfl ?_
        refine r_eq (z := nI (rcs (s_sh s j) l (f.toInt + 2 * i + c))) (by unfold rcs; rw [hs]; dsimp only; first | (rw [if_neg g124]; rfl) | (rw [if_pos g124, if_neg (by omega)]; rfl) | (rw [if_pos g124, if_pos (by omega)]; rfl)) ?_
        refine r_istore 158 (L' := [_, _, _, _, _, _, _, _, _, _, _]) dX7_read_156 (by decide) rfl rfl rfl ?_
        refine r_iinc 161 (L' := [_, _, _, _, _, _, _, _, _, _, _]) (v := nI (c + 1)) dX7_read_158 rfl (nI_1 c) (by decide) rfl rfl rfl ?_
        refine r_goto 77 dX7_read_161 (by decide) ?_
        refine r_drop 9 (L' := [_, _, _, _, _, _, _, _, _, _, _]) rfl ?_
        exact hx
      · have g148 : ¬ P.toInt < z := fun q => g148 (cmp_lt.mpr (by rw [tl_i, ti_n (by omega)]; exact q))
        refine r_iconst 152 (v := 2) dX7_read_151 (by decide) rfl ?_
        refine r_goto 156 dX7_read_152 (by decide) ?_
        refine r_eq (z := nI (rcs (s_sh s j) l (f.toInt + 2 * i + c))) (by unfold rcs; rw [hs]; dsimp only; first | (rw [if_neg g124]; rfl) | (rw [if_pos g124, if_neg (by omega)]; rfl) | (rw [if_pos g124, if_pos (by omega)]; rfl)) ?_
        refine r_istore 158 (L' := [_, _, _, _, _, _, _, _, _, _, _]) dX7_read_156 (by decide) rfl rfl rfl ?_
        refine r_iinc 161 (L' := [_, _, _, _, _, _, _, _, _, _, _]) (v := nI (c + 1)) dX7_read_158 rfl (nI_1 c) (by decide) rfl rfl rfl ?_
        refine r_goto 77 dX7_read_161 (by decide) ?_
        refine r_drop 9 (L' := [_, _, _, _, _, _, _, _, _, _, _]) rfl ?_
        exact hx
  · have g124 : ¬ m = l := fun z => g124 (by rw [z])
    refine r_iconst 128 (v := 3) dX7_read_127 (by decide) rfl ?_
    refine r_goto 156 dX7_read_128 (by decide) ?_
    refine r_eq (z := nI (rcs (s_sh s j) l (f.toInt + 2 * i + c))) (by unfold rcs; rw [hs]; dsimp only; first | (rw [if_neg g124]; rfl) | (rw [if_pos g124, if_neg (by omega)]; rfl) | (rw [if_pos g124, if_pos (by omega)]; rfl)) ?_
    refine r_istore 158 (L' := [_, _, _, _, _, _, _, _, _, _, _]) dX7_read_156 (by decide) rfl rfl rfl ?_
    refine r_iinc 161 (L' := [_, _, _, _, _, _, _, _, _, _, _]) (v := nI (c + 1)) dX7_read_158 rfl (nI_1 c) (by decide) rfl rfl rfl ?_
    refine r_goto 77 dX7_read_161 (by decide) ?_
    refine r_drop 9 (L' := [_, _, _, _, _, _, _, _, _, _, _]) rfl ?_
    exact hx
set_option maxRecDepth 20000 in
set_option maxHeartbeats 4000000 in
theorem l_rd2 {d j l N i wh : Nat} {f : Int32} {w : zW} {s : sT} {T : zX → Prop} (hj : j < 4) (hl : l < 3) (hi : i < 20) (h5 : shM w s) (hS : sV s) (hx : ∀ v8, WP mX7_read d T 164 [some (.ref 50), some (.int (nI j)), some (.int (nI l)), some (.int f), some (.int (nI N)), some (.int (nI (sP (s_sh s j) l (f.toInt + 2 * i)))), some (.int (nI (wh))), some (.int (nI (i))), some (.int v8), none, none] [] w) : WP mX7_read d T 74 [some (.ref 50), some (.int (nI j)), some (.int (nI l)), some (.int f), some (.int (nI N)), some (.int (0)), some (.int (nI (wh))), some (.int (nI (i))), none, none, none] [] w := by
  have e2 := rcs_2 (o := s_sh s j) (l := l) (p := f.toInt + 2 * i)
  have b0 := rcs_lt (o := s_sh s j) (l := l) (p := f.toInt + 2 * i)
  have z0 : f.toInt + 2 * i + (0 : Nat) = f.toInt + 2 * i := by omega
  refine r_iconst 75 (v := 0) dX7_read_74 (by decide) rfl ?_
  refine r_istore 77 (L' := [_, _, _, _, _, _, _, _, _, _, _]) dX7_read_75 (by decide) rfl rfl rfl ?_
  refine r_iload 79 dX7_read_77 rfl rfl ?_
  refine r_iconst 80 (v := 2) dX7_read_79 (by decide) rfl ?_
  refine r_icmp_ge 164 83 dX7_read_80 (by decide) rfl (fun z => absurd z (by decide)) (fun _ => ?_)
  refine r_iload 85 dX7_read_83 rfl rfl ?_
  refine r_if_ne 164 88 dX7_read_85 (by decide) rfl (fun z => absurd (by decide) z) (fun _ => ?_)
  refine l_rd1 (c := 0) hj hl hi (by decide) h5 hS ?_
  rw [z0]
  refine r_iload 79 dX7_read_77 rfl rfl ?_
  refine r_iconst 80 (v := 2) dX7_read_79 (by decide) rfl ?_
  refine r_icmp_ge 164 83 dX7_read_80 (by decide) rfl (fun z => absurd z (by decide)) (fun _ => ?_)
  refine r_iload 85 dX7_read_83 rfl rfl ?_
  refine r_if_ne 164 88 dX7_read_85 (by decide) rfl (fun g85 => ?_) (fun g85 => ?_)
  · have g85 : ¬ rcs (s_sh s j) l (f.toInt + 2 * i) = 0 := fun z => g85 (by rw [z]; rfl)
    rw [if_neg g85] at e2
    rw [← e2]
    exact hx _
  · have g85 : rcs (s_sh s j) l (f.toInt + 2 * i) = 0 := (nI_inj (b := 0) (by omega) (by decide)).mp g85
    rw [if_pos g85] at e2
    rw [g85]
    refine l_rd1 (c := 1) hj hl hi (by decide) h5 hS ?_
    have z1 : f.toInt + 2 * i + (1 : Nat) = f.toInt + 2 * i + 1 := by omega
    rw [z1, ← e2]
    refine r_iload 79 dX7_read_77 rfl rfl ?_
    refine r_iconst 80 (v := 2) dX7_read_79 (by decide) rfl ?_
    refine r_icmp_ge 164 83 dX7_read_80 (by decide) rfl (fun _ => ?_) (fun z => absurd (by decide) z)
    exact hx _
set_option maxRecDepth 20000 in
set_option maxHeartbeats 4000000 in
theorem m_alterF {d : Nat} {w : zW} {s : sT} {b q v : Int32} (hd : 8 ≤ d) (hR : RM w s) (hS : sV s) : CT mX7_alter d [.ref 50, .int b, .int q, .int v] w (z_i fun x w' => (f_alter s b q v).1 = x ∧ RM w' (f_alter s b q v).2 ∧ (∀ a, a < 50 → w' a = w a) ∧ w' 63 = w 63) := by
  have hn := hS.1.n
  refine CT.of [some (.ref 50), some (.int b), some (.int q), some (.int v)] rfl (Nat.le_of_ble_eq_true rfl) rfl ?_
  refine r_aload_n 1 dX7_alter_0 rfl rfl ?_
  refine r_iload_n 2 dX7_alter_1 rfl rfl ?_
  refine r_callV (y2 := mX7_isBoat) (as := [_]) 5 dX7_alter_2 ml_X7_237 mv_X7_isBoat (m_isBoat (d := d - 1) (by omega) hn hR.n) (by omega) sh_50 ⟨_, rfl, rfl⟩ rfl (Nat.le_of_ble_eq_true rfl) rfl (kk_i ?_)
  rintro _ _ ⟨rfl, rfl⟩
  refine rb_eq 54 8 dX7_alter_5 (by decide) rfl (fun g5 => ?_) (fun g5 => ?_)
  · refine r_iconst 55 (v := -1) dX7_alter_54 (by decide) rfl ?_
    exact r_iret .int dX7_alter_55 rfl (rfl) (by first | exact ⟨by rw [f_alter, if_neg (fun z => g5 z.1)], by rw [f_alter, if_neg (fun z => g5 z.1)]; exact hR, fun _ _ => rfl, rfl⟩ | exact ⟨by rw [f_alter, if_neg (fun z => g17 z.2.1)], by rw [f_alter, if_neg (fun z => g17 z.2.1)]; exact hR, fun _ _ => rfl, rfl⟩ | exact ⟨by rw [f_alter, if_neg (fun z => g51 z.2.2)], by rw [f_alter, if_neg (fun z => g51 z.2.2)]; exact hR, fun _ _ => rfl, rfl⟩)
  · obtain ⟨j, hj, rfl⟩ := iB_of g5
    have hjs : tN (nI j) = j := tN_n (by omega)
    refine r_iload_n 9 dX7_alter_8 rfl rfl ?_
    refine r_i2l 10 dX7_alter_9 rfl ?_
    refine r_lconst 11 (v := 1) dX7_alter_10 (by decide) rfl ?_
    refine r_ldc2 14 dX7_alter_11 kl_X7_248 rfl ?_
    refine r_callS (y2 := mX7_in) (as := [_, _, _]) 17 dX7_alter_14 ml_X7_74 ms_X7_in (m_in (d := d - 1) _ _ _) (by omega) rfl (Nat.le_of_ble_eq_true rfl) rfl (kk_i ?_)
    rintro _ _ ⟨rfl, rfl⟩
    refine r_eq (z_bc (in_wi (lo := 1) (hi := 4) rfl rfl)) ?_
    refine rb_eq 54 20 dX7_alter_17 (by decide) rfl (fun g17 => ?_) (fun g17 => ?_)
    · refine r_iconst 55 (v := -1) dX7_alter_54 (by decide) rfl ?_
      exact r_iret .int dX7_alter_55 rfl (rfl) (by first | exact ⟨by rw [f_alter, if_neg (fun z => g5 z.1)], by rw [f_alter, if_neg (fun z => g5 z.1)]; exact hR, fun _ _ => rfl, rfl⟩ | exact ⟨by rw [f_alter, if_neg (fun z => g17 z.2.1)], by rw [f_alter, if_neg (fun z => g17 z.2.1)]; exact hR, fun _ _ => rfl, rfl⟩ | exact ⟨by rw [f_alter, if_neg (fun z => g51 z.2.2)], by rw [f_alter, if_neg (fun z => g51 z.2.2)]; exact hR, fun _ _ => rfl, rfl⟩)
    · obtain ⟨k, hk, hk1, rfl⟩ := wi_of2 (hi := 4) g17 (by decide)
      have hks : tN (nI k) = k := tN_n (by omega)
      refine r_iload_n 21 dX7_alter_20 rfl rfl ?_
      refine r_i2l 22 dX7_alter_21 rfl ?_
      refine r_lconst 23 (v := 0) dX7_alter_22 (by decide) rfl ?_
      refine r_iload_n 24 dX7_alter_23 rfl rfl ?_
      refine r_iconst 25 (v := 1) dX7_alter_24 (by decide) rfl ?_
      refine r_icmp_ne 34 28 dX7_alter_25 (by decide) rfl (fun g25 => ?_) (fun g25 => ?_)
      · have g25 : ¬ k = 1 := fun z => g25 (by rw [z]; rfl)
        refine r_iload_n 35 dX7_alter_34 rfl rfl ?_
        refine r_iconst 36 (v := 2) dX7_alter_35 (by decide) rfl ?_
        refine r_icmp_ne 45 39 dX7_alter_36 (by decide) rfl (fun g36 => ?_) (fun g36 => ?_)
        · have g36 : ¬ k = 2 := fun z => g36 (by rw [z]; rfl)
          refine r_ldc2 48 dX7_alter_45 kl_X7_254 rfl ?_
          refine r_callS (y2 := mX7_in) (as := [_, _, _]) 51 dX7_alter_48 ml_X7_74 ms_X7_in (m_in (d := d - 1) _ _ _) (by omega) rfl (Nat.le_of_ble_eq_true rfl) rfl (kk_i ?_)
          rintro _ _ ⟨rfl, rfl⟩
          refine r_eq (z_bc (in_wi (lo := 0) (hi := mostM (tN (nI k))) rfl (by rw [hks, mostM]; first | (rw [if_pos g25]; rfl) | (rw [if_neg g25, if_pos g36]; rfl) | (rw [if_neg g25, if_neg g36]; rfl)))) ?_
          refine rb_ne 56 54 dX7_alter_51 (by decide) rfl (fun g51 => ?_) (fun g51 => ?_)
          · obtain ⟨u, hu, rfl⟩ := wi_of (hi := mostM (tN (nI k))) g51
            have hmm := mostM_lt k
            rw [hks] at hu
            have hvs : tN (nI u) = u := tN_n (by omega)
            refine r_aload_n 57 dX7_alter_56 rfl rfl ?_
            refine r_bipush 59 (v := 6) dX7_alter_57 (by decide) rfl ?_
            refine r_bipush 61 (v := 6) dX7_alter_59 (by decide) rfl ?_
            refine r_iload_n 62 dX7_alter_61 rfl rfl ?_
            refine r_imul 63 dX7_alter_62 rfl ?_
            refine r_eq (z := nI (6 * j)) (nI_mul 6 j) ?_
            refine r_iadd 64 dX7_alter_63 rfl ?_
            refine r_eq (z := nI (6 + 6 * j)) (nI_add 6 _) ?_
            refine r_iload_n 65 dX7_alter_64 rfl rfl ?_
            refine r_iadd 66 dX7_alter_65 rfl ?_
            refine r_eq (nI_add _ _) ?_
            refine r_iload_n 67 dX7_alter_66 rfl rfl ?_
            refine r_callV (y2 := mX7_becomes) (as := [_, _]) 70 dX7_alter_67 ml_X7_245 mv_X7_becomes (m_becomes (d := d - 1) (i := 6 + 6 * j + k) (by omega)) (by omega) sh_50 ⟨_, rfl, rfl⟩ rfl (Nat.le_of_ble_eq_true rfl) rfl (kk_i ?_)
            rintro _ _ ⟨rfl, rfl⟩
            exact r_iret .int dX7_alter_70 rfl (rfl) (⟨by rw [f_alter, if_pos ⟨g5, g17, g51⟩, hjs, hks]; exact (hR.k (by omega)).symm, by rw [f_alter, if_pos ⟨g5, g17, g51⟩, hjs, hks, hvs]; exact hR.set (by omega), fun a ha => z_up_o (by omega), z_up_o (by decide)⟩)
          · refine r_iconst 55 (v := -1) dX7_alter_54 (by decide) rfl ?_
            exact r_iret .int dX7_alter_55 rfl (rfl) (by first | exact ⟨by rw [f_alter, if_neg (fun z => g5 z.1)], by rw [f_alter, if_neg (fun z => g5 z.1)]; exact hR, fun _ _ => rfl, rfl⟩ | exact ⟨by rw [f_alter, if_neg (fun z => g17 z.2.1)], by rw [f_alter, if_neg (fun z => g17 z.2.1)]; exact hR, fun _ _ => rfl, rfl⟩ | exact ⟨by rw [f_alter, if_neg (fun z => g51 z.2.2)], by rw [f_alter, if_neg (fun z => g51 z.2.2)]; exact hR, fun _ _ => rfl, rfl⟩)
        · have g36 : k = 2 := (nI_inj (b := 2) (by omega) (by decide)).mp g36
          refine r_ldc2 42 dX7_alter_39 kl_X7_252 rfl ?_
          refine r_goto 48 dX7_alter_42 (by decide) ?_
          refine r_callS (y2 := mX7_in) (as := [_, _, _]) 51 dX7_alter_48 ml_X7_74 ms_X7_in (m_in (d := d - 1) _ _ _) (by omega) rfl (Nat.le_of_ble_eq_true rfl) rfl (kk_i ?_)
          rintro _ _ ⟨rfl, rfl⟩
          refine r_eq (z_bc (in_wi (lo := 0) (hi := mostM (tN (nI k))) rfl (by rw [hks, mostM]; first | (rw [if_pos g25]; rfl) | (rw [if_neg g25, if_pos g36]; rfl) | (rw [if_neg g25, if_neg g36]; rfl)))) ?_
          refine rb_ne 56 54 dX7_alter_51 (by decide) rfl (fun g51 => ?_) (fun g51 => ?_)
          · obtain ⟨u, hu, rfl⟩ := wi_of (hi := mostM (tN (nI k))) g51
            have hmm := mostM_lt k
            rw [hks] at hu
            have hvs : tN (nI u) = u := tN_n (by omega)
            refine r_aload_n 57 dX7_alter_56 rfl rfl ?_
            refine r_bipush 59 (v := 6) dX7_alter_57 (by decide) rfl ?_
            refine r_bipush 61 (v := 6) dX7_alter_59 (by decide) rfl ?_
            refine r_iload_n 62 dX7_alter_61 rfl rfl ?_
            refine r_imul 63 dX7_alter_62 rfl ?_
            refine r_eq (z := nI (6 * j)) (nI_mul 6 j) ?_
            refine r_iadd 64 dX7_alter_63 rfl ?_
            refine r_eq (z := nI (6 + 6 * j)) (nI_add 6 _) ?_
            refine r_iload_n 65 dX7_alter_64 rfl rfl ?_
            refine r_iadd 66 dX7_alter_65 rfl ?_
            refine r_eq (nI_add _ _) ?_
            refine r_iload_n 67 dX7_alter_66 rfl rfl ?_
            refine r_callV (y2 := mX7_becomes) (as := [_, _]) 70 dX7_alter_67 ml_X7_245 mv_X7_becomes (m_becomes (d := d - 1) (i := 6 + 6 * j + k) (by omega)) (by omega) sh_50 ⟨_, rfl, rfl⟩ rfl (Nat.le_of_ble_eq_true rfl) rfl (kk_i ?_)
            rintro _ _ ⟨rfl, rfl⟩
            exact r_iret .int dX7_alter_70 rfl (rfl) (⟨by rw [f_alter, if_pos ⟨g5, g17, g51⟩, hjs, hks]; exact (hR.k (by omega)).symm, by rw [f_alter, if_pos ⟨g5, g17, g51⟩, hjs, hks, hvs]; exact hR.set (by omega), fun a ha => z_up_o (by omega), z_up_o (by decide)⟩)
          · refine r_iconst 55 (v := -1) dX7_alter_54 (by decide) rfl ?_
            exact r_iret .int dX7_alter_55 rfl (rfl) (by first | exact ⟨by rw [f_alter, if_neg (fun z => g5 z.1)], by rw [f_alter, if_neg (fun z => g5 z.1)]; exact hR, fun _ _ => rfl, rfl⟩ | exact ⟨by rw [f_alter, if_neg (fun z => g17 z.2.1)], by rw [f_alter, if_neg (fun z => g17 z.2.1)]; exact hR, fun _ _ => rfl, rfl⟩ | exact ⟨by rw [f_alter, if_neg (fun z => g51 z.2.2)], by rw [f_alter, if_neg (fun z => g51 z.2.2)]; exact hR, fun _ _ => rfl, rfl⟩)
      · have g25 : k = 1 := (nI_inj (b := 1) (by omega) (by decide)).mp g25
        refine r_ldc2 31 dX7_alter_28 kl_X7_250 rfl ?_
        refine r_goto 48 dX7_alter_31 (by decide) ?_
        refine r_callS (y2 := mX7_in) (as := [_, _, _]) 51 dX7_alter_48 ml_X7_74 ms_X7_in (m_in (d := d - 1) _ _ _) (by omega) rfl (Nat.le_of_ble_eq_true rfl) rfl (kk_i ?_)
        rintro _ _ ⟨rfl, rfl⟩
        refine r_eq (z_bc (in_wi (lo := 0) (hi := mostM (tN (nI k))) rfl (by rw [hks, mostM]; first | (rw [if_pos g25]; rfl) | (rw [if_neg g25, if_pos g36]; rfl) | (rw [if_neg g25, if_neg g36]; rfl)))) ?_
        refine rb_ne 56 54 dX7_alter_51 (by decide) rfl (fun g51 => ?_) (fun g51 => ?_)
        · obtain ⟨u, hu, rfl⟩ := wi_of (hi := mostM (tN (nI k))) g51
          have hmm := mostM_lt k
          rw [hks] at hu
          have hvs : tN (nI u) = u := tN_n (by omega)
          refine r_aload_n 57 dX7_alter_56 rfl rfl ?_
          refine r_bipush 59 (v := 6) dX7_alter_57 (by decide) rfl ?_
          refine r_bipush 61 (v := 6) dX7_alter_59 (by decide) rfl ?_
          refine r_iload_n 62 dX7_alter_61 rfl rfl ?_
          refine r_imul 63 dX7_alter_62 rfl ?_
          refine r_eq (z := nI (6 * j)) (nI_mul 6 j) ?_
          refine r_iadd 64 dX7_alter_63 rfl ?_
          refine r_eq (z := nI (6 + 6 * j)) (nI_add 6 _) ?_
          refine r_iload_n 65 dX7_alter_64 rfl rfl ?_
          refine r_iadd 66 dX7_alter_65 rfl ?_
          refine r_eq (nI_add _ _) ?_
          refine r_iload_n 67 dX7_alter_66 rfl rfl ?_
          refine r_callV (y2 := mX7_becomes) (as := [_, _]) 70 dX7_alter_67 ml_X7_245 mv_X7_becomes (m_becomes (d := d - 1) (i := 6 + 6 * j + k) (by omega)) (by omega) sh_50 ⟨_, rfl, rfl⟩ rfl (Nat.le_of_ble_eq_true rfl) rfl (kk_i ?_)
          rintro _ _ ⟨rfl, rfl⟩
          exact r_iret .int dX7_alter_70 rfl (rfl) (⟨by rw [f_alter, if_pos ⟨g5, g17, g51⟩, hjs, hks]; exact (hR.k (by omega)).symm, by rw [f_alter, if_pos ⟨g5, g17, g51⟩, hjs, hks, hvs]; exact hR.set (by omega), fun a ha => z_up_o (by omega), z_up_o (by decide)⟩)
        · refine r_iconst 55 (v := -1) dX7_alter_54 (by decide) rfl ?_
          exact r_iret .int dX7_alter_55 rfl (rfl) (by first | exact ⟨by rw [f_alter, if_neg (fun z => g5 z.1)], by rw [f_alter, if_neg (fun z => g5 z.1)]; exact hR, fun _ _ => rfl, rfl⟩ | exact ⟨by rw [f_alter, if_neg (fun z => g17 z.2.1)], by rw [f_alter, if_neg (fun z => g17 z.2.1)]; exact hR, fun _ _ => rfl, rfl⟩ | exact ⟨by rw [f_alter, if_neg (fun z => g51 z.2.2)], by rw [f_alter, if_neg (fun z => g51 z.2.2)]; exact hR, fun _ _ => rfl, rfl⟩)
set_option maxRecDepth 20000 in
set_option maxHeartbeats 4000000 in
theorem l_rdM {d j l N : Nat} {f : Int32} {w0 : zW} {s : sT} {T : zX → Prop} (hd : 9 ≤ d) (hj : j < 4) (hl : l < 3) (hN : N ≤ 20) (hS : sV s) (hx : ∀ w wh e i v8, rdW s j l f.toInt N 0 = (wh, e, true) → e < 4 → RM w (u_lk s (s_n s) (rdK s j f.toInt wh)) → (∀ q, q < 55 → w 63 q = nI (s_K s q)) → (∀ a, a < 50 → w a = w0 a) → WP mX7_read d T 252 [some (.ref 50), some (.int (nI j)), some (.int (nI l)), some (.int f), some (.int (nI N)), some (.int (nI e)), some (.int (nI (wh))), some (.int (nI (i))), v8, none, none] [] w) (hb : ∀ w i v8 v9, i < N → rdW s j l f.toInt N 0 = (i, 0, false) → RM w s → (∀ a, a < 50 → w a = w0 a) → WP mX7_read d T 237 [some (.ref 50), some (.int (nI j)), some (.int (nI l)), some (.int f), some (.int (nI N)), some (.int 0), some (.int (nI i)), some (.int (nI i)), some (.int v8), some (.int v9), none] [] w) : ∀ m i (w : zW), i + m = N → rdW s j l f.toInt m i = rdW s j l f.toInt N 0 → (∀ q : Nat, q < i → sP (s_sh s j) l (f.toInt + 2 * q) = 0 ∧ cm s j (f.toInt + 2 * q) = true) → RM w (u_lk s (s_n s) (rdK s j f.toInt i)) → (∀ q, q < 55 → w 63 q = nI (s_K s q)) → (∀ a, a < 50 → w a = w0 a) → WP mX7_read d T 62 [some (.ref 50), some (.int (nI j)), some (.int (nI l)), some (.int f), some (.int (nI N)), some (.int (0)), some (.int (nI (i))), some (.int (nI (i))), none, none, none] [] w := by
  have hn := hS.1.n
  have hz : ∀ m z, s_sh s j = some (m, z) → z ≤ 40 := fun m z h => (hS.2.2.2.2.1 j hj m z h).2
  intro m
  induction m with
  | zero =>
    intro i w hi hr hg hR h63 hF
    have e : i = N := by omega
    subst e
    refine r_iload 64 dX7_read_62 rfl rfl ?_
    refine r_iload 66 dX7_read_64 rfl rfl ?_
    refine r_icmp_ge 252 69 dX7_read_66 (by decide) rfl (fun _ => ?_) (fun z => absurd (Int32.le_refl _) z)
    exact hx w i 0 i none hr.symm (by decide) hR h63 hF
  | succ m ih =>
    intro i w hi hr hg hR h63 hF
    have i20 : i < 20 := by omega
    rw [rdW] at hr
    have h5 : shM w s := hR.2.2.2.2.1
    have hSi : sV (u_lk s (s_n s) (rdK s j f.toInt i)) := rdK_V hS i (fun q hq => (hg q hq).2)
    have hlt := sP_lt (o := s_sh s j) (l := l) (p := f.toInt + 2 * i)
    refine r_iload 64 dX7_read_62 rfl rfl ?_
    refine r_iload 66 dX7_read_64 rfl rfl ?_
    refine r_icmp_ge 252 69 dX7_read_66 (by decide) rfl (fun z => absurd z (fun z => absurd ((nI_le' (by omega) (by omega)).mp z) (by omega))) (fun _ => ?_)
    refine r_iload 71 dX7_read_69 rfl rfl ?_
    refine r_if_ne 252 74 dX7_read_71 (by decide) rfl (fun z => absurd (by decide) z) (fun _ => ?_)
    refine l_rd2 hj hl i20 h5 hS (fun v8 => ?_)
    refine r_iload 166 dX7_read_164 rfl rfl ?_
    refine r_if_ne 246 169 dX7_read_166 (by decide) rfl (fun g166 => ?_) (fun g166 => ?_)
    · have g166 : ¬ sP (s_sh s j) l (f.toInt + 2 * i) = 0 := fun z => g166 (by rw [z]; rfl)
      rw [if_neg g166] at hr
      refine r_iinc 249 (L' := [_, _, _, _, _, _, _, _, _, _, _]) (v := nI (i + 1)) dX7_read_246 rfl (nI_1 i) (by decide) rfl rfl rfl ?_
      refine r_goto 62 dX7_read_249 (by decide) ?_
      refine r_iload 64 dX7_read_62 rfl rfl ?_
      refine r_iload 66 dX7_read_64 rfl rfl ?_
      refine r_icmp_ge 252 69 dX7_read_66 (by decide) rfl (fun g66 => ?_) (fun g66 => ?_)
      · exact hx w i _ (i + 1) _ hr.symm hlt hR h63 hF
      · refine r_iload 71 dX7_read_69 rfl rfl ?_
        refine r_if_ne 252 74 dX7_read_71 (by decide) rfl (fun _ => ?_) (fun z => absurd z (fun z => g166 ((nI_inj (b := 0) (by omega) (by decide)).mp z)))
        exact hx w i _ (i + 1) _ hr.symm hlt hR h63 hF
    · have g166 : sP (s_sh s j) l (f.toInt + 2 * i) = 0 := (nI_inj (b := 0) (by omega) (by decide)).mp g166
      rw [if_pos g166] at hr
      rw [g166]
      obtain ⟨x1, x2, z, x3⟩ := rd_ix i20 hz g166
      have hk2 := h5 j hj
      rw [x3] at hk2
      have c1 := hk2.2.2 (f.toInt + 2 * i).toNat (by omega)
      have c2 := hk2.2.2 ((f.toInt + 2 * i).toNat + 1) x2
      have ep : 40 * nI j + f + 2 * nI i = nI (40 * j + (f.toInt + 2 * i).toNat) := by rw [Int32.add_assoc, x1, show (40 : Int32) * nI j = nI (40 * j) from nI_mul 40 j]; exact nI_add _ _
      refine r_bipush 171 (v := 40) dX7_read_169 (by decide) rfl ?_
      refine r_iload_n 172 dX7_read_171 rfl rfl ?_
      refine r_imul 173 dX7_read_172 rfl ?_
      refine r_iload_n 174 dX7_read_173 rfl rfl ?_
      refine r_iadd 175 dX7_read_174 rfl ?_
      refine r_iconst 176 (v := 2) dX7_read_175 (by decide) rfl ?_
      refine r_iload 178 dX7_read_176 rfl rfl ?_
      refine r_imul 179 dX7_read_178 rfl ?_
      refine r_iadd 180 dX7_read_179 rfl ?_
      refine r_eq ep ?_
      refine r_istore 182 (L' := [_, _, _, _, _, _, _, _, _, _, _]) dX7_read_180 (by decide) rfl rfl rfl ?_
      refine r_aload_n 183 dX7_read_182 rfl rfl ?_
      refine r_aload_n 184 dX7_read_183 rfl rfl ?_
      refine r_getr 187 dX7_read_184 fz_X7_44 sh_50 rfl rfl ?_
      refine r_iload 189 dX7_read_187 rfl rfl ?_
      refine rj_iald 190 (40 * j + (f.toInt + 2 * i).toNat) dX7_read_189 sh_62 (rfl) (by omega) (by decide) rfl ?_
      refine r_eq c1 ?_
      refine r_iconst 191 (v := 2) dX7_read_190 (by decide) rfl ?_
      refine r_aload_n 192 dX7_read_191 rfl rfl ?_
      refine r_getr 195 dX7_read_192 fz_X7_44 sh_50 rfl rfl ?_
      refine r_iload 197 dX7_read_195 rfl rfl ?_
      refine r_iconst 198 (v := 1) dX7_read_197 (by decide) rfl ?_
      refine r_iadd 199 dX7_read_198 rfl ?_
      refine r_eq (z := nI (40 * j + ((f.toInt + 2 * i).toNat + 1))) ((nI_1 _).trans (by congr 1)) ?_
      refine rj_iald 200 (40 * j + ((f.toInt + 2 * i).toNat + 1)) dX7_read_199 sh_62 (rfl) (by omega) (by decide) rfl ?_
      refine r_eq c2 ?_
      refine r_callV (y2 := mX7_alter) (as := [_, _, _]) 203 dX7_read_200 ml_X7_331 mv_X7_alter (m_alterF (d := d - 1) (by omega) hR hSi) (by omega) sh_50 ⟨_, rfl, rfl⟩ rfl (Nat.le_of_ble_eq_true rfl) rfl (kk_i ?_)
      rintro x w1 ⟨hx1, hR1, g1, g63⟩
      have hcm : cm s j (f.toInt + 2 * i) = true ↔ iB (s_n s) (s_c s j (f.toInt + 2 * i).toNat) = true ∧ wi (s_c s j ((f.toInt + 2 * i).toNat + 1)) 0 99 = true := by rw [cm, Bool.and_eq_true]
      by_cases gc : cm s j (f.toInt + 2 * i) = true
      rotate_left
      · rw [if_neg gc] at hr
        have efa : (f_alter (u_lk s (s_n s) (rdK s j f.toInt i)) (s_c s j (f.toInt + 2 * i).toNat) 2 (s_c s j ((f.toInt + 2 * i).toNat + 1))) = (-1, (u_lk s (s_n s) (rdK s j f.toInt i))) := by rw [f_alter, if_neg (fun z => gc (hcm.mpr ⟨z.1, z.2.2⟩))]
        rw [efa] at hx1 hR1
        have hx1 : -1 = x := hx1
        subst hx1
        refine r_iconst 204 (v := -1) dX7_read_203 (by decide) rfl ?_
        refine r_icmp_ne 243 207 dX7_read_204 (by decide) rfl (fun z => absurd (rfl) z) (fun _ => ?_)
        refine r_iconst 208 (v := 0) dX7_read_207 (by decide) rfl ?_
        refine r_istore 210 (L' := [_, _, _, _, _, _, _, _, _, _, _]) dX7_read_208 (by decide) rfl rfl rfl ?_
        refine l_undo (w0 := w1) (fun w2 u1 u2 u3 => ?_) 55 0 w1 rfl (fun q hq => absurd hq (Nat.not_lt_zero q)) (fun _ _ => rfl) (fun _ _ => rfl)
        refine hb w2 i _ _ (by omega) hr.symm ?_ (fun a ha => by rw [u3 a (by omega), g1 a ha]; exact hF a ha)
        obtain ⟨r1, r2, r3, r4, r5, r6⟩ := hR1
        refine ⟨⟨fun k hk => by rw [Nat.zero_add, u1 k hk, g63]; exact h63 k hk, by rw [u3 50 (by decide)]; exact r1.2⟩, fun k hk => ⟨by rw [u3 53 (by decide)]; exact (r2 k hk).1, fun hb i hi => by rw [u2 _ (by omega)]; exact (r2 k hk).2 hb i hi⟩, ⟨by rw [u3 50 (by decide)]; exact r3.1, fun i hi => by rw [u3 55 (by decide)]; exact r3.2 i hi⟩, by rw [u3 50 (by decide)]; exact r4, fun k hk => ?_, by rw [u3 50 (by decide)]; exact r6⟩
        have := r5 k hk
        rw [u3 60 (by decide), u3 61 (by decide), u3 62 (by decide)]
        exact this
      obtain ⟨gb, gv⟩ := hcm.mp gc
      rw [if_pos gc] at hr
      have efa : (f_alter (u_lk s (s_n s) (rdK s j f.toInt i)) (s_c s j (f.toInt + 2 * i).toNat) 2 (s_c s j ((f.toInt + 2 * i).toNat + 1))).2 = (u_lk s (s_n s) (rdK s j f.toInt (i + 1))) := f_alt2 gb gv
      have efb : ¬ (f_alter (u_lk s (s_n s) (rdK s j f.toInt i)) (s_c s j (f.toInt + 2 * i).toNat) 2 (s_c s j ((f.toInt + 2 * i).toNat + 1))).1 = -1 := by
        rw [f_alter, if_pos ⟨gb, by decide +kernel, gv⟩]
        have h3 := iB_iff.mp gb
        have h9 := hSi.1.1.ar (b := tN (s_c s j (f.toInt + 2 * i).toNat)) (show tN _ < s_n s by unfold tN; omega)
        have h9 : rdK s j f.toInt i (6 + 6 * tN (s_c s j (f.toInt + 2 * i).toNat) + 2) ≤ 99 := h9
        exact nI_n1 (show rdK s j f.toInt i (6 + 6 * tN (s_c s j (f.toInt + 2 * i).toNat) + 2) < 1000 by omega)
      rw [hx1] at efb
      rw [efa] at hR1
      refine r_iconst 204 (v := -1) dX7_read_203 (by decide) rfl ?_
      refine r_icmp_ne 243 207 dX7_read_204 (by decide) rfl (fun _ => ?_) (fun z => absurd z (efb))
      refine r_iinc 246 (L' := [_, _, _, _, _, _, _, _, _, _, _]) (v := nI (i + 1)) dX7_read_243 rfl (nI_1 i) (by decide) rfl rfl rfl ?_
      refine r_iinc 249 (L' := [_, _, _, _, _, _, _, _, _, _, _]) (v := nI (i + 1)) dX7_read_246 rfl (nI_1 i) (by decide) rfl rfl rfl ?_
      refine r_goto 62 dX7_read_249 (by decide) ?_
      refine r_drop 8 (L' := [_, _, _, _, _, _, _, _, _, _, _]) rfl ?_
      exact ih (i + 1) w1 (by omega) hr (fun q hq => by by_cases e : q = i; (rw [e]; exact ⟨g166, gc⟩); (exact hg q (by omega))) hR1 (fun q hq => by rw [g63]; exact h63 q hq) (fun a ha => by rw [g1 a ha]; exact hF a ha)
theorem RM.tn {w w' : zW} {s : sT} {e : Nat} (h : RM w s) (h0 : ∀ q, q ≠ 30 → w' 50 q = w 50 q) (h1 : w' 50 30 = nI e) (h3 : ∀ a, a ≠ 50 → w' a = w a) : RM w' (u_tn s e) := by
  obtain ⟨r1, r2, r3, r4, r5, r6⟩ := h
  refine ⟨⟨fun k hk => by rw [h3 51 (by decide)]; exact r1.1 k hk, by rw [h0 3 (by decide)]; exact r1.2⟩, fun k hk => by rw [h3 53 (by decide), h3 51 (by decide)]; exact r2 k hk, ⟨by rw [h0 10 (by decide)]; exact r3.1, fun i hi => by rw [h3 55 (by decide)]; exact r3.2 i hi⟩, by rw [h0 15 (by decide)]; exact r4, fun k hk => ?_, h1⟩
  have := r5 k hk
  rw [h3 60 (by decide), h3 61 (by decide), h3 62 (by decide)]
  exact this
theorem RM.frh {w w' : zW} {s : sT} (h : RM w s) (h3 : ∀ a, a ≠ 63 → w' a = w a) : RM w' s := by
  obtain ⟨r1, r2, r3, r4, r5, r6⟩ := h
  refine ⟨⟨fun k hk => by rw [h3 51 (by decide)]; exact r1.1 k hk, by rw [h3 50 (by decide)]; exact r1.2⟩, fun k hk => by rw [h3 53 (by decide), h3 51 (by decide)]; exact r2 k hk, ⟨by rw [h3 50 (by decide)]; exact r3.1, fun i hi => by rw [h3 55 (by decide)]; exact r3.2 i hi⟩, by rw [h3 50 (by decide)]; exact r4, fun k hk => ?_, by rw [h3 50 (by decide)]; exact r6⟩
  have := r5 k hk
  rw [h3 60 (by decide), h3 61 (by decide), h3 62 (by decide)]
  exact this
set_option maxRecDepth 20000 in
set_option maxHeartbeats 4000000 in
theorem M_read {d : Nat} {w : zW} {s : sT} {k la f n : Int32} (hd : 10 ≤ d) (hR : RM w s) (hS : sV s) : AM mX7_read d [.int k, .int la, .int f, .int n] w (f_read s k la f n) := by
  have hn := hS.1.n
  refine CT.of [some (.ref 50), some (.int k), some (.int la), some (.int f), some (.int n), none, none, none, none, none, none] rfl (Nat.le_of_ble_eq_true rfl) rfl ?_
  refine r_iload_n 1 dX7_read_0 rfl rfl ?_
  refine r_iload_n 2 dX7_read_1 rfl rfl ?_
  refine r_callS (y2 := mX7_isSheet) (as := [_, _]) 5 dX7_read_2 ml_X7_328 ms_X7_isSheet (m_isSheet (d := d - 1) (by omega)) (by omega) rfl (Nat.le_of_ble_eq_true rfl) rfl (kk_i ?_)
  rintro _ _ ⟨rfl, rfl⟩
  refine rb_eq 21 8 dX7_read_5 (by decide) rfl (fun g5 => ?_) (fun g5 => ?_)
  · refine r_iconst 22 (v := -1) dX7_read_21 (by decide) rfl ?_
    exact r_iret .int dX7_read_22 rfl (rfl) (by first | exact ⟨by rw [f_read, if_neg (fun z => g5 ⟨z.1, z.2.1⟩)], by rw [f_read, if_neg (fun z => g5 ⟨z.1, z.2.1⟩)]; exact hR, fun _ _ => rfl⟩ | exact ⟨by rw [f_read, if_neg (fun z => g18 z.2.2)], by rw [f_read, if_neg (fun z => g18 z.2.2)]; exact hR, fun _ _ => rfl⟩)
  · obtain ⟨j, hj, rfl⟩ := wi_of (hi := 3) g5.1
    have hjs : tN (nI j) = j := tN_n (by omega)
    obtain ⟨l, hl, rfl⟩ := wi_of (hi := 2) g5.2
    have hls : tN (nI l) = l := tN_n (by omega)
    refine r_iload 10 dX7_read_8 rfl rfl ?_
    refine r_i2l 11 dX7_read_10 rfl ?_
    refine r_lconst 12 (v := 0) dX7_read_11 (by decide) rfl ?_
    refine r_ldc2 15 dX7_read_12 kl_X7_321 rfl ?_
    refine r_callS (y2 := mX7_in) (as := [_, _, _]) 18 dX7_read_15 ml_X7_74 ms_X7_in (m_in (d := d - 1) _ _ _) (by omega) rfl (Nat.le_of_ble_eq_true rfl) rfl (kk_i ?_)
    rintro _ _ ⟨rfl, rfl⟩
    refine r_eq (z_bc (in_wi (lo := 0) (hi := 20) rfl rfl)) ?_
    refine rb_ne 23 21 dX7_read_18 (by decide) rfl (fun g18 => ?_) (fun g18 => ?_)
    · obtain ⟨N, hN, rfl⟩ := wi_of (hi := 20) g18
      have hNs : tN (nI N) = N := tN_n (by omega)
      refine r_iconst 24 (v := 0) dX7_read_23 (by decide) rfl ?_
      refine r_istore 26 (L' := [_, _, _, _, _, _, _, _, _, _, _]) dX7_read_24 (by decide) rfl rfl rfl ?_
      refine l_had (w0 := w) (fun w1 h1 h2 => ?_) 55 0 w rfl (fun q hq => absurd hq (Nat.not_lt_zero q)) (fun _ _ => rfl)
      have hRh : RM w1 (u_lk s (s_n s) (rdK s j f.toInt 0)) := hR.frh h2
      refine r_iconst 54 (v := 0) dX7_read_53 (by decide) rfl ?_
      refine r_istore 56 (L' := [_, _, _, _, _, _, _, _, _, _, _]) dX7_read_54 (by decide) rfl rfl rfl ?_
      refine r_iconst 57 (v := 0) dX7_read_56 (by decide) rfl ?_
      refine r_istore 59 (L' := [_, _, _, _, _, _, _, _, _, _, _]) dX7_read_57 (by decide) rfl rfl rfl ?_
      refine r_iconst 60 (v := 0) dX7_read_59 (by decide) rfl ?_
      refine r_istore 62 (L' := [_, _, _, _, _, _, _, _, _, _, _]) dX7_read_60 (by decide) rfl rfl rfl ?_
      refine l_rdM (w0 := w) (j := j) (l := l) (N := N) (by omega) (by omega) (by omega) hN hS (fun w2 wh e i v8 hr he hR2 h632 hF2 => ?_) (fun w2 i v8 v9 hi hr hR2 hF2 => ?_) N 0 w1 (Nat.zero_add N) rfl (fun q hq => absurd hq (Nat.not_lt_zero q)) hRh (fun q hq => by rw [h1 q hq]; exact hR.k hq) (fun a ha => h2 a (by omega))
      · refine r_aload_n 253 dX7_read_252 rfl rfl ?_
        refine r_iload 255 dX7_read_253 rfl rfl ?_
        refine r_puti 258 dX7_read_255 fz_X7_335 fw_7_30 sh_50 rfl rfl ?_
        refine r_nw (fun w3 e3 => ?_)
        refine r_iload 260 dX7_read_258 rfl rfl ?_
        exact r_iret .int dX7_read_260 rfl (rfl) (⟨by rw [f_read, if_pos ⟨g5.1, g5.2, g18⟩, hjs, hls, hNs, hr], by rw [f_read, if_pos ⟨g5.1, g5.2, g18⟩, hjs, hls, hNs, hr]; exact hR2.tn (fun q hq => by rw [e3, z_up_i hq]) (by rw [e3, z_up_s]) (fun a ha => by rw [e3, z_up_o ha]), fun a ha => by rw [e3, z_up_o (by omega)]; exact hF2 a ha⟩)
      · refine r_bipush 239 (v := -20) dX7_read_237 (by decide) rfl ?_
        refine r_iload 241 dX7_read_239 rfl rfl ?_
        refine r_isub 242 dX7_read_241 rfl ?_
        exact r_iret .int dX7_read_242 rfl (rfl) (⟨by rw [f_read, if_pos ⟨g5.1, g5.2, g18⟩, hjs, hls, hNs, hr], by rw [f_read, if_pos ⟨g5.1, g5.2, g18⟩, hjs, hls, hNs, hr]; exact hR2, hF2⟩)
    · refine r_iconst 22 (v := -1) dX7_read_21 (by decide) rfl ?_
      exact r_iret .int dX7_read_22 rfl (rfl) (by first | exact ⟨by rw [f_read, if_neg (fun z => g5 ⟨z.1, z.2.1⟩)], by rw [f_read, if_neg (fun z => g5 ⟨z.1, z.2.1⟩)]; exact hR, fun _ _ => rfl⟩ | exact ⟨by rw [f_read, if_neg (fun z => g18 z.2.2)], by rw [f_read, if_neg (fun z => g18 z.2.2)]; exact hR, fun _ _ => rfl⟩)

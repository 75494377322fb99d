/-! ===== the class: a line, the text ===== -/
theorem pRules_k {T : Nat} {t : Nat → Nat} : ∀ m q p (K : Nat → Nat) x, pRules T t m q p K = .inr x → ∀ k, q + m ≤ k → x.2 k = K k
  | 0, q, p, K, x, h, k, hk => by cases h; rfl
  | m + 1, q, p, K, x, h, k, hk => by
    obtain ⟨a, h1, h2⟩ := sB_r h
    rw [pRules_k m (q + 1) a.2 _ x h2 k (by omega), un_n (by omega)]
set_option maxRecDepth 20000 in
set_option maxHeartbeats 4000000 in
theorem c_takeLine {d T p : Nat} {t : Nat → Nat} {w : zW} {D : pD} (hd : 7 ≤ d) (hT : tpW w T t) (hp : p ≤ T) (hk : tkW w (tok T t p)) (hD : dW w D) (hV : dV D) : CT mX5_takeLine d [.ref 29] w (z_i fun x w' => frX w w' ∧ txR (pLine T t p D) (fun v => w' 27 2 = nI v.1 ∧ dW w' v.2 ∧ w' 29 1 = w 29 1) w' x) := by
  have hta := tok_T (t := t) hp
  refine CT.of [some (.ref 29)] rfl (Nat.le_of_ble_eq_true rfl) rfl ?_
  refine r_aload_n 1 dX5_takeLine_0 rfl rfl ?_
  refine r_getr 4 dX5_takeLine_1 fz_X5_9 sh_29 rfl rfl ?_
  refine r_ldcS (i := 0) 6 dX5_takeLine_4 rfl (by decide) rfl rfl ?_
  refine r_callV (y2 := mX4_isName) (as := [_]) 9 dX5_takeLine_6 ml_X5_65 mv_X4_isName (c_isName (d := d - 1) (i := 0) (t := t) (k := tok T t p) (T := T) (by omega) (by decide) hT hk hta.1 hta.2.2 tok_k4) (by omega) sh_27 ⟨_, rfl, rfl⟩ rfl (Nat.le_of_ble_eq_true rfl) rfl (kk_i ?_)
  rintro _ _ ⟨rfl, rfl⟩
  refine rb_eq 33 12 dX5_takeLine_9 (by decide) rfl (fun g9 => ?_) (fun g9 => ?_)
  · refine r_aload_n 34 dX5_takeLine_33 rfl rfl ?_
    refine r_getr 37 dX5_takeLine_34 fz_X5_9 sh_29 rfl rfl ?_
    refine r_ldcS (i := 1) 39 dX5_takeLine_37 rfl (by decide) rfl rfl ?_
    refine r_callV (y2 := mX4_isName) (as := [_]) 42 dX5_takeLine_39 ml_X5_65 mv_X4_isName (c_isName (d := d - 1) (i := 1) (t := t) (k := tok T t p) (T := T) (by omega) (by decide) hT hk hta.1 hta.2.2 tok_k4) (by omega) sh_27 ⟨_, rfl, rfl⟩ rfl (Nat.le_of_ble_eq_true rfl) rfl (kk_i ?_)
    rintro _ _ ⟨rfl, rfl⟩
    refine rb_eq 66 45 dX5_takeLine_42 (by decide) rfl (fun g42 => ?_) (fun g42 => ?_)
    · refine r_aload_n 67 dX5_takeLine_66 rfl rfl ?_
      refine r_getr 70 dX5_takeLine_67 fz_X5_9 sh_29 rfl rfl ?_
      refine r_ldcS (i := 2) 72 dX5_takeLine_70 rfl (by decide) rfl rfl ?_
      refine r_callV (y2 := mX4_isName) (as := [_]) 75 dX5_takeLine_72 ml_X5_65 mv_X4_isName (c_isName (d := d - 1) (i := 2) (t := t) (k := tok T t p) (T := T) (by omega) (by decide) hT hk hta.1 hta.2.2 tok_k4) (by omega) sh_27 ⟨_, rfl, rfl⟩ rfl (Nat.le_of_ble_eq_true rfl) rfl (kk_i ?_)
      rintro _ _ ⟨rfl, rfl⟩
      refine rb_eq 98 78 dX5_takeLine_75 (by decide) rfl (fun g75 => ?_) (fun g75 => ?_)
      · refine r_aload_n 99 dX5_takeLine_98 rfl rfl ?_
        refine r_getr 102 dX5_takeLine_99 fz_X5_9 sh_29 rfl rfl ?_
        refine r_ldcS (i := 3) 104 dX5_takeLine_102 rfl (by decide) rfl rfl ?_
        refine r_callV (y2 := mX4_isName) (as := [_]) 107 dX5_takeLine_104 ml_X5_65 mv_X4_isName (c_isName (d := d - 1) (i := 3) (t := t) (k := tok T t p) (T := T) (by omega) (by decide) hT hk hta.1 hta.2.2 tok_k4) (by omega) sh_27 ⟨_, rfl, rfl⟩ rfl (Nat.le_of_ble_eq_true rfl) rfl (kk_i ?_)
        rintro _ _ ⟨rfl, rfl⟩
        refine rb_eq 140 110 dX5_takeLine_107 (by decide) rfl (fun g107 => ?_) (fun g107 => ?_)
        · refine r_aload_n 141 dX5_takeLine_140 rfl rfl ?_
          refine r_getr 144 dX5_takeLine_141 fz_X5_9 sh_29 rfl rfl ?_
          refine r_ldcS (i := 4) 146 dX5_takeLine_144 rfl (by decide) rfl rfl ?_
          refine r_callV (y2 := mX4_isName) (as := [_]) 149 dX5_takeLine_146 ml_X5_65 mv_X4_isName (c_isName (d := d - 1) (i := 4) (t := t) (k := tok T t p) (T := T) (by omega) (by decide) hT hk hta.1 hta.2.2 tok_k4) (by omega) sh_27 ⟨_, rfl, rfl⟩ rfl (Nat.le_of_ble_eq_true rfl) rfl (kk_i ?_)
          rintro _ _ ⟨rfl, rfl⟩
          refine rb_eq 180 152 dX5_takeLine_149 (by decide) rfl (fun g149 => ?_) (fun g149 => ?_)
          · refine r_aload_n 181 dX5_takeLine_180 rfl rfl ?_
            refine r_getr 184 dX5_takeLine_181 fz_X5_9 sh_29 rfl rfl ?_
            refine r_ldcS (i := 5) 186 dX5_takeLine_184 rfl (by decide) rfl rfl ?_
            refine r_callV (y2 := mX4_isName) (as := [_]) 189 dX5_takeLine_186 ml_X5_65 mv_X4_isName (c_isName (d := d - 1) (i := 5) (t := t) (k := tok T t p) (T := T) (by omega) (by decide) hT hk hta.1 hta.2.2 tok_k4) (by omega) sh_27 ⟨_, rfl, rfl⟩ rfl (Nat.le_of_ble_eq_true rfl) rfl (kk_i ?_)
            rintro _ _ ⟨rfl, rfl⟩
            refine rb_eq 222 192 dX5_takeLine_189 (by decide) rfl (fun g189 => ?_) (fun g189 => ?_)
            · refine r_aload_n 223 dX5_takeLine_222 rfl rfl ?_
              refine r_getr 226 dX5_takeLine_223 fz_X5_9 sh_29 rfl rfl ?_
              refine r_ldcS (i := 6) 228 dX5_takeLine_226 rfl (by decide) rfl rfl ?_
              refine r_callV (y2 := mX4_isName) (as := [_]) 231 dX5_takeLine_228 ml_X5_65 mv_X4_isName (c_isName (d := d - 1) (i := 6) (t := t) (k := tok T t p) (T := T) (by omega) (by decide) hT hk hta.1 hta.2.2 tok_k4) (by omega) sh_27 ⟨_, rfl, rfl⟩ rfl (Nat.le_of_ble_eq_true rfl) rfl (kk_i ?_)
              rintro _ _ ⟨rfl, rfl⟩
              refine rb_eq 266 234 dX5_takeLine_231 (by decide) rfl (fun g231 => ?_) (fun g231 => ?_)
              · refine r_aload_n 267 dX5_takeLine_266 rfl rfl ?_
                refine r_iconst 268 (v := 2) dX5_takeLine_267 (by decide) rfl ?_
                refine r_callV (y2 := mX5_blameToken) (as := [_]) 271 dX5_takeLine_268 ml_X5_104 mv_X5_blameToken (c_blameToken (d := d - 1) (y := 2) (by omega) hk tok_k4) (by omega) sh_29 ⟨_, rfl, rfl⟩ rfl (Nat.le_of_ble_eq_true rfl) rfl (kk_i ?_)
                rintro _ _ ⟨rfl, rfl⟩
                exact r_iret .boolean dX5_takeLine_271 rfl (rfl) (⟨(frX.rfl.up (Or.inl rfl)).up (Or.inl rfl), by rw [pLine, show pLine0 T t (tok T t p) D = .inl (bl (tok T t p) 2) by rw [pLine0, if_neg g9, if_neg g42, if_neg g75, if_neg g107, if_neg g149, if_neg g189, if_neg g231]]; exact ⟨rfl, eX_up⟩⟩)
              · refine r_aload_n 235 dX5_takeLine_234 rfl rfl ?_
                refine r_getr 238 dX5_takeLine_235 fz_X5_18 sh_29 rfl rfl ?_
                refine r_getr 241 dX5_takeLine_238 fz_X5_100 sh_21 rfl rfl ?_
                refine r_iconst 242 (v := 5) dX5_takeLine_241 (by decide) rfl ?_
                refine r_iconst 243 (v := 1) dX5_takeLine_242 (by decide) rfl ?_
                refine rj_iast 244 (5) dX5_takeLine_243 sh_22 (rfl) (by decide) (by decide) rfl ?_
                refine r_nw (fun w0 e00 => ?_)
                have f0 : frX w w0 := by rw [e00]; exact frX.rfl.up (by decide)
                have h27 : w0 27 = w 27 := by rw [e00, z_up_o (by decide)]
                have h290 : w0 29 = w 29 := by rw [e00, z_up_o (by decide)]
                refine r_aload_n 245 dX5_takeLine_244 rfl rfl ?_
                refine r_bipush 247 (v := 8) dX5_takeLine_245 (by decide) rfl ?_
                refine r_callV (y2 := mX5_isFirst) (as := [_]) 250 dX5_takeLine_247 ml_X5_85 mv_X5_isFirst (c_isFirst (d := d - 1) (j := 3) (by omega) hV.2.1 (by decide) (hk.fr h27) (by rw [h290]; exact hD.2.2.2.2.2)) (by omega) sh_29 ⟨_, rfl, rfl⟩ rfl (Nat.le_of_ble_eq_true rfl) rfl (kk_i ?_)
                rintro x w1 ⟨fa, hr1⟩
                have fX1 : frX w w1 := f0.trans ⟨fun q _ => by rw [fa 27 (by decide)], fun a _ h2 _ => fa a h2⟩
                by_cases hb : bi (p_m D) 3 = 1
                · rw [if_pos hb] at hr1
                  obtain ⟨rfl, hE⟩ := hr1
                  refine r_if_eq 264 253 dX5_takeLine_250 (by decide) rfl (fun _ => ?_) (fun z => absurd (by decide) z)
                  refine r_iconst 265 (v := 0) dX5_takeLine_264 (by decide) rfl ?_
                  exact r_iret .boolean dX5_takeLine_265 rfl (rfl) (⟨fX1, by rw [pLine, show pLine0 T t (tok T t p) D = .inl (bl (tok T t p) 4) by rw [pLine0, if_neg g9, if_neg g42, if_neg g75, if_neg g107, if_neg g149, if_neg g189, if_pos g231, pOnce, if_pos hb]]; exact ⟨rfl, hE⟩⟩)
                rw [if_neg hb] at hr1
                obtain ⟨rfl, i4, i1⟩ := hr1
                obtain ⟨v, hve⟩ : ∃ v : Nat × pD, v = (tk_a (tok T t p), (p_n D, un (p_K D) 5 1, p_l D, p_m D + 2 ^ 3)) := ⟨_, rfl⟩
                have e0 : pLine0 T t (tok T t p) D = .inr v := by rw [pLine0, if_neg g9, if_neg g42, if_neg g75, if_neg g107, if_neg g149, if_neg g189, if_pos g231, pOnce, if_neg hb]; rw [hve]; rfl
                have hv := pLine0_V hp hV e0
                have qD : dW w1 v.2 := by
                  rw [hve]
                  refine ⟨fun k hk => ?_, fun b q hb hq => ?_, ?_, ?_, ?_, i4⟩
                  · show w1 22 k = nI (un (p_K D) 5 1 k)
                    by_cases e : k = 5
                    · rw [e, un_s, fa 22 (by decide), e00, z_up_s]; rfl
                    · rw [un_n e, fa 22 (by decide), e00, z_up_i e]; exact hD.1 k hk
                  · show w1 23 _ = nI (un (p_K D) 5 1 _)
                    rw [fa 23 (by decide), e00, z_up_a (by decide), un_n (by omega)]
                    exact hD.2.1 b q hb hq
                  · rw [fa 21 (by decide), e00, z_up_a (by decide)]; exact hD.2.2.1
                  · rw [fa 21 (by decide), e00, z_up_a (by decide)]; exact hD.2.2.2.1
                  · rw [fa 21 (by decide), e00, z_up_a (by decide)]; exact hD.2.2.2.2.1
                have q1 : w1 29 1 = w 29 1 := by rw [i1, h290]
                have q2v : w1 27 2 = nI v.1 := by rw [hve, fa 27 (by decide), h27]; exact hk.1
                refine r_if_eq 264 253 dX5_takeLine_250 (by decide) rfl (fun z => absurd z (by decide)) (fun _ => ?_)
                refine r_aload_n 254 dX5_takeLine_253 rfl rfl ?_
                refine r_callV (y2 := mX5_takeStop) (as := []) 257 dX5_takeLine_254 ml_X5_73 mv_X5_takeStop (c_takeStop (d := d - 1) (by omega) (hT.X fX1) hv.2.2 q2v) (by omega) sh_29 ⟨_, rfl, rfl⟩ rfl (Nat.le_of_ble_eq_true rfl) rfl (kk_i ?_)
                rintro x w9 ⟨hf2, hr2⟩
                rcases hs : pStop T t v.1 with er | a
                · rw [hs] at hr2
                  obtain ⟨rfl, hE⟩ := hr2
                  refine r_if_eq 264 260 dX5_takeLine_257 (by decide) rfl (fun _ => ?_) (fun z => absurd (by decide) z)
                  refine r_iconst 265 (v := 0) dX5_takeLine_264 (by decide) rfl ?_
                  exact r_iret .boolean dX5_takeLine_265 rfl (rfl) (⟨fX1.trans hf2.X, by rw [pLine, e0]; show txR (sB (pStop T t v.1) _) _ _ _; rw [hs]; exact ⟨rfl, hE⟩⟩)
                rw [hs] at hr2
                obtain ⟨rfl, r2, r29⟩ := hr2
                refine r_if_eq 264 260 dX5_takeLine_257 (by decide) rfl (fun z => absurd z (by decide)) (fun _ => ?_)
                refine r_iconst 261 (v := 1) dX5_takeLine_260 (by decide) rfl ?_
                refine r_goto 265 dX5_takeLine_261 (by decide) ?_
                exact r_iret .boolean dX5_takeLine_265 rfl (rfl) (⟨fX1.trans hf2.X, by rw [pLine, e0]; show txR (sB (pStop T t v.1) _) _ _ _; rw [hs]; exact ⟨rfl, r2, qD.fr (hf2.2 21 (by decide) (by decide)) (hf2.2 22 (by decide) (by decide)) (hf2.2 23 (by decide) (by decide)) (by rw [r29]), by rw [r29]; exact q1⟩⟩)
            · refine r_aload_n 193 dX5_takeLine_192 rfl rfl ?_
              refine r_iconst 194 (v := 4) dX5_takeLine_193 (by decide) rfl ?_
              refine r_callV (y2 := mX5_isFirst) (as := [_]) 197 dX5_takeLine_194 ml_X5_85 mv_X5_isFirst (c_isFirst (d := d - 1) (j := 2) (by omega) hV.2.1 (by decide) hk hD.2.2.2.2.2) (by omega) sh_29 ⟨_, rfl, rfl⟩ rfl (Nat.le_of_ble_eq_true rfl) rfl (kk_i ?_)
              rintro x w1 ⟨fa, hr1⟩
              have fX1 : frX w w1 := frX.rfl.trans ⟨fun q _ => by rw [fa 27 (by decide)], fun a _ h2 _ => fa a h2⟩
              by_cases hb : bi (p_m D) 2 = 1
              · rw [if_pos hb] at hr1
                obtain ⟨rfl, hE⟩ := hr1
                refine r_if_eq 220 200 dX5_takeLine_197 (by decide) rfl (fun _ => ?_) (fun z => absurd (by decide) z)
                refine r_iconst 221 (v := 0) dX5_takeLine_220 (by decide) rfl ?_
                exact r_iret .boolean dX5_takeLine_221 rfl (rfl) (⟨fX1, by rw [pLine, show pLine0 T t (tok T t p) D = .inl (bl (tok T t p) 4) by rw [pLine0, if_neg g9, if_neg g42, if_neg g75, if_neg g107, if_neg g149, if_pos g189, pOnce, if_pos hb]]; exact ⟨rfl, hE⟩⟩)
              rw [if_neg hb] at hr1
              obtain ⟨rfl, i4, i1⟩ := hr1
              refine r_if_eq 220 200 dX5_takeLine_197 (by decide) rfl (fun z => absurd z (by decide)) (fun _ => ?_)
              refine r_aload_n 201 dX5_takeLine_200 rfl rfl ?_
              refine r_iconst 202 (v := 4) dX5_takeLine_201 (by decide) rfl ?_
              refine r_iconst 203 (v := 4) dX5_takeLine_202 (by decide) rfl ?_
              refine r_callV (y2 := mX5_takeRules) (as := [_, _]) 206 dX5_takeLine_203 ml_X5_88 mv_X5_takeRules (c_takeRules (d := d - 1) (q := 4) (m := 1) (K := p_K D) (by omega) (by decide) (hT.X fX1) hta.1 (by rw [fa 27 (by decide)]; exact hk.1) (fun k hk => by rw [fa 22 (by decide)]; exact hD.1 k hk)) (by omega) sh_29 ⟨_, rfl, rfl⟩ rfl (Nat.le_of_ble_eq_true rfl) rfl (kk_i ?_)
              rintro x w2 ⟨fU, hr3⟩
              have fX2 := fX1.trans (fU.X (by decide))
              rcases hc : pRules T t 1 4 (tk_a (tok T t p)) (p_K D) with er | u
              · rw [hc] at hr3
                obtain ⟨rfl, hE⟩ := hr3
                refine r_if_eq 220 209 dX5_takeLine_206 (by decide) rfl (fun _ => ?_) (fun z => absurd (by decide) z)
                refine r_iconst 221 (v := 0) dX5_takeLine_220 (by decide) rfl ?_
                exact r_iret .boolean dX5_takeLine_221 rfl (rfl) (⟨fX2, by rw [pLine, show pLine0 T t (tok T t p) D = .inl er by rw [pLine0, if_neg g9, if_neg g42, if_neg g75, if_neg g107, if_neg g149, if_pos g189, pOnce, if_neg hb]; show sB (pRules T t 1 4 (tk_a (tok T t p)) (p_K D)) _ = _; rw [hc]; rfl]; exact ⟨rfl, hE⟩⟩)
              rw [hc] at hr3
              obtain ⟨rfl, q2, qK, q29⟩ := hr3
              obtain ⟨v, hve⟩ : ∃ v : Nat × pD, v = (u.1, (p_n D, u.2, p_l D, p_m D + 2 ^ 2)) := ⟨_, rfl⟩
              have e0 : pLine0 T t (tok T t p) D = .inr v := by rw [pLine0, if_neg g9, if_neg g42, if_neg g75, if_neg g107, if_neg g149, if_pos g189, pOnce, if_neg hb]; show sB (pRules T t 1 4 (tk_a (tok T t p)) (p_K D)) _ = _; rw [hc, hve]; rfl
              have hv := pLine0_V hp hV e0
              have ek := pRules_k _ _ _ _ _ hc
              have qD : dW w2 v.2 := by
                rw [hve]
                refine ⟨qK, fun b q hb hq => ?_, ?_, ?_, ?_, ?_⟩
                · show w2 23 _ = nI (u.2 _)
                  rw [fU.2 23 (by decide) (by decide) (by decide), fa 23 (by decide), ek _ (by omega)]
                  exact hD.2.1 b q hb hq
                · rw [fU.2 21 (by decide) (by decide) (by decide), fa 21 (by decide)]; exact hD.2.2.1
                · rw [fU.2 21 (by decide) (by decide) (by decide), fa 21 (by decide)]; exact hD.2.2.2.1
                · rw [fU.2 21 (by decide) (by decide) (by decide), fa 21 (by decide)]; exact hD.2.2.2.2.1
                · rw [q29]; exact i4
              have q1 : w2 29 1 = w 29 1 := by rw [q29]; exact i1
              have q2v : w2 27 2 = nI v.1 := by rw [hve]; exact q2
              refine r_if_eq 220 209 dX5_takeLine_206 (by decide) rfl (fun z => absurd z (by decide)) (fun _ => ?_)
              refine r_aload_n 210 dX5_takeLine_209 rfl rfl ?_
              refine r_callV (y2 := mX5_takeStop) (as := []) 213 dX5_takeLine_210 ml_X5_73 mv_X5_takeStop (c_takeStop (d := d - 1) (by omega) (hT.X fX2) hv.2.2 q2v) (by omega) sh_29 ⟨_, rfl, rfl⟩ rfl (Nat.le_of_ble_eq_true rfl) rfl (kk_i ?_)
              rintro x w9 ⟨hf2, hr2⟩
              rcases hs : pStop T t v.1 with er | a
              · rw [hs] at hr2
                obtain ⟨rfl, hE⟩ := hr2
                refine r_if_eq 220 216 dX5_takeLine_213 (by decide) rfl (fun _ => ?_) (fun z => absurd (by decide) z)
                refine r_iconst 221 (v := 0) dX5_takeLine_220 (by decide) rfl ?_
                exact r_iret .boolean dX5_takeLine_221 rfl (rfl) (⟨fX2.trans hf2.X, by rw [pLine, e0]; show txR (sB (pStop T t v.1) _) _ _ _; rw [hs]; exact ⟨rfl, hE⟩⟩)
              rw [hs] at hr2
              obtain ⟨rfl, r2, r29⟩ := hr2
              refine r_if_eq 220 216 dX5_takeLine_213 (by decide) rfl (fun z => absurd z (by decide)) (fun _ => ?_)
              refine r_iconst 217 (v := 1) dX5_takeLine_216 (by decide) rfl ?_
              refine r_goto 221 dX5_takeLine_217 (by decide) ?_
              exact r_iret .boolean dX5_takeLine_221 rfl (rfl) (⟨fX2.trans hf2.X, by rw [pLine, e0]; show txR (sB (pStop T t v.1) _) _ _ _; rw [hs]; exact ⟨rfl, r2, qD.fr (hf2.2 21 (by decide) (by decide)) (hf2.2 22 (by decide) (by decide)) (hf2.2 23 (by decide) (by decide)) (by rw [r29]), by rw [r29]; exact q1⟩⟩)
          · refine r_aload_n 153 dX5_takeLine_152 rfl rfl ?_
            refine r_iconst 154 (v := 2) dX5_takeLine_153 (by decide) rfl ?_
            refine r_callV (y2 := mX5_isFirst) (as := [_]) 157 dX5_takeLine_154 ml_X5_85 mv_X5_isFirst (c_isFirst (d := d - 1) (j := 1) (by omega) hV.2.1 (by decide) hk hD.2.2.2.2.2) (by omega) sh_29 ⟨_, rfl, rfl⟩ rfl (Nat.le_of_ble_eq_true rfl) rfl (kk_i ?_)
            rintro x w1 ⟨fa, hr1⟩
            have fX1 : frX w w1 := frX.rfl.trans ⟨fun q _ => by rw [fa 27 (by decide)], fun a _ h2 _ => fa a h2⟩
            by_cases hb : bi (p_m D) 1 = 1
            · rw [if_pos hb] at hr1
              obtain ⟨rfl, hE⟩ := hr1
              refine r_if_eq 178 160 dX5_takeLine_157 (by decide) rfl (fun _ => ?_) (fun z => absurd (by decide) z)
              refine r_iconst 179 (v := 0) dX5_takeLine_178 (by decide) rfl ?_
              exact r_iret .boolean dX5_takeLine_179 rfl (rfl) (⟨fX1, by rw [pLine, show pLine0 T t (tok T t p) D = .inl (bl (tok T t p) 4) by rw [pLine0, if_neg g9, if_neg g42, if_neg g75, if_neg g107, if_pos g149, pOnce, if_pos hb]]; exact ⟨rfl, hE⟩⟩)
            rw [if_neg hb] at hr1
            obtain ⟨rfl, i4, i1⟩ := hr1
            refine r_if_eq 178 160 dX5_takeLine_157 (by decide) rfl (fun z => absurd z (by decide)) (fun _ => ?_)
            refine r_aload_n 161 dX5_takeLine_160 rfl rfl ?_
            refine r_callV (y2 := mX5_takeLaw) (as := []) 164 dX5_takeLine_161 ml_X5_93 mv_X5_takeLaw (c_takelaw (d := d - 1) (by omega) (hT.X fX1) hta.1 (by rw [fa 27 (by decide)]; exact hk.1)) (by omega) sh_29 ⟨_, rfl, rfl⟩ rfl (Nat.le_of_ble_eq_true rfl) rfl (kk_i ?_)
            rintro x w2 ⟨f27, fU, hr3⟩
            have fX2 := fX1.trans (show frX w1 w2 from ⟨f27, fun a h1 h2 h3 => fU a h1 h2 (by omega)⟩)
            rcases hc : pLaw T t (tk_a (tok T t p)) with er | u
            · rw [hc] at hr3
              obtain ⟨rfl, hE⟩ := hr3
              refine r_if_eq 178 167 dX5_takeLine_164 (by decide) rfl (fun _ => ?_) (fun z => absurd (by decide) z)
              refine r_iconst 179 (v := 0) dX5_takeLine_178 (by decide) rfl ?_
              exact r_iret .boolean dX5_takeLine_179 rfl (rfl) (⟨fX2, by rw [pLine, show pLine0 T t (tok T t p) D = .inl er by rw [pLine0, if_neg g9, if_neg g42, if_neg g75, if_neg g107, if_pos g149, pOnce, if_neg hb]; show sB (pLaw T t (tk_a (tok T t p))) _ = _; rw [hc]; rfl]; exact ⟨rfl, hE⟩⟩)
            rw [hc] at hr3
            obtain ⟨rfl, q2, q29, q3, qo⟩ := hr3
            obtain ⟨v, hve⟩ : ∃ v : Nat × pD, v = (u.2, (p_n D, un (p_K D) 3 u.1, p_l D, p_m D + 2 ^ 1)) := ⟨_, rfl⟩
            have e0 : pLine0 T t (tok T t p) D = .inr v := by rw [pLine0, if_neg g9, if_neg g42, if_neg g75, if_neg g107, if_pos g149, pOnce, if_neg hb]; show sB (pLaw T t (tk_a (tok T t p))) _ = _; rw [hc, hve]; rfl
            have hv := pLine0_V hp hV e0
            have qD : dW w2 v.2 := by
              rw [hve]
              refine ⟨fun k hk => ?_, fun b q hb hq => ?_, ?_, ?_, ?_, ?_⟩
              · show w2 22 k = nI (un (p_K D) 3 u.1 k)
                by_cases e : k = 3
                · rw [e, un_s]; exact q3
                · rw [un_n e, qo k e, fa 22 (by decide)]; exact hD.1 k hk
              · show w2 23 _ = nI (un (p_K D) 3 u.1 _)
                rw [fU 23 (by decide) (by decide) (by decide), fa 23 (by decide), un_n (by omega)]
                exact hD.2.1 b q hb hq
              · rw [fU 21 (by decide) (by decide) (by decide), fa 21 (by decide)]; exact hD.2.2.1
              · rw [fU 21 (by decide) (by decide) (by decide), fa 21 (by decide)]; exact hD.2.2.2.1
              · rw [fU 21 (by decide) (by decide) (by decide), fa 21 (by decide)]; exact hD.2.2.2.2.1
              · rw [q29]; exact i4
            have q1 : w2 29 1 = w 29 1 := by rw [q29]; exact i1
            have q2v : w2 27 2 = nI v.1 := by rw [hve]; exact q2
            refine r_if_eq 178 167 dX5_takeLine_164 (by decide) rfl (fun z => absurd z (by decide)) (fun _ => ?_)
            refine r_aload_n 168 dX5_takeLine_167 rfl rfl ?_
            refine r_callV (y2 := mX5_takeStop) (as := []) 171 dX5_takeLine_168 ml_X5_73 mv_X5_takeStop (c_takeStop (d := d - 1) (by omega) (hT.X fX2) hv.2.2 q2v) (by omega) sh_29 ⟨_, rfl, rfl⟩ rfl (Nat.le_of_ble_eq_true rfl) rfl (kk_i ?_)
            rintro x w9 ⟨hf2, hr2⟩
            rcases hs : pStop T t v.1 with er | a
            · rw [hs] at hr2
              obtain ⟨rfl, hE⟩ := hr2
              refine r_if_eq 178 174 dX5_takeLine_171 (by decide) rfl (fun _ => ?_) (fun z => absurd (by decide) z)
              refine r_iconst 179 (v := 0) dX5_takeLine_178 (by decide) rfl ?_
              exact r_iret .boolean dX5_takeLine_179 rfl (rfl) (⟨fX2.trans hf2.X, by rw [pLine, e0]; show txR (sB (pStop T t v.1) _) _ _ _; rw [hs]; exact ⟨rfl, hE⟩⟩)
            rw [hs] at hr2
            obtain ⟨rfl, r2, r29⟩ := hr2
            refine r_if_eq 178 174 dX5_takeLine_171 (by decide) rfl (fun z => absurd z (by decide)) (fun _ => ?_)
            refine r_iconst 175 (v := 1) dX5_takeLine_174 (by decide) rfl ?_
            refine r_goto 179 dX5_takeLine_175 (by decide) ?_
            exact r_iret .boolean dX5_takeLine_179 rfl (rfl) (⟨fX2.trans hf2.X, by rw [pLine, e0]; show txR (sB (pStop T t v.1) _) _ _ _; rw [hs]; exact ⟨rfl, r2, qD.fr (hf2.2 21 (by decide) (by decide)) (hf2.2 22 (by decide) (by decide)) (hf2.2 23 (by decide) (by decide)) (by rw [r29]), by rw [r29]; exact q1⟩⟩)
        · refine r_aload_n 111 dX5_takeLine_110 rfl rfl ?_
          refine r_iconst 112 (v := 1) dX5_takeLine_111 (by decide) rfl ?_
          refine r_callV (y2 := mX5_isFirst) (as := [_]) 115 dX5_takeLine_112 ml_X5_85 mv_X5_isFirst (c_isFirst (d := d - 1) (j := 0) (by omega) hV.2.1 (by decide) hk hD.2.2.2.2.2) (by omega) sh_29 ⟨_, rfl, rfl⟩ rfl (Nat.le_of_ble_eq_true rfl) rfl (kk_i ?_)
          rintro x w1 ⟨fa, hr1⟩
          have fX1 : frX w w1 := frX.rfl.trans ⟨fun q _ => by rw [fa 27 (by decide)], fun a _ h2 _ => fa a h2⟩
          by_cases hb : bi (p_m D) 0 = 1
          · rw [if_pos hb] at hr1
            obtain ⟨rfl, hE⟩ := hr1
            refine r_if_eq 138 118 dX5_takeLine_115 (by decide) rfl (fun _ => ?_) (fun z => absurd (by decide) z)
            refine r_iconst 139 (v := 0) dX5_takeLine_138 (by decide) rfl ?_
            exact r_iret .boolean dX5_takeLine_139 rfl (rfl) (⟨fX1, by rw [pLine, show pLine0 T t (tok T t p) D = .inl (bl (tok T t p) 4) by rw [pLine0, if_neg g9, if_neg g42, if_neg g75, if_pos g107, pOnce, if_pos hb]]; exact ⟨rfl, hE⟩⟩)
          rw [if_neg hb] at hr1
          obtain ⟨rfl, i4, i1⟩ := hr1
          refine r_if_eq 138 118 dX5_takeLine_115 (by decide) rfl (fun z => absurd z (by decide)) (fun _ => ?_)
          refine r_aload_n 119 dX5_takeLine_118 rfl rfl ?_
          refine r_iconst 120 (v := 0) dX5_takeLine_119 (by decide) rfl ?_
          refine r_iconst 121 (v := 2) dX5_takeLine_120 (by decide) rfl ?_
          refine r_callV (y2 := mX5_takeRules) (as := [_, _]) 124 dX5_takeLine_121 ml_X5_88 mv_X5_takeRules (c_takeRules (d := d - 1) (q := 0) (m := 3) (K := p_K D) (by omega) (by decide) (hT.X fX1) hta.1 (by rw [fa 27 (by decide)]; exact hk.1) (fun k hk => by rw [fa 22 (by decide)]; exact hD.1 k hk)) (by omega) sh_29 ⟨_, rfl, rfl⟩ rfl (Nat.le_of_ble_eq_true rfl) rfl (kk_i ?_)
          rintro x w2 ⟨fU, hr3⟩
          have fX2 := fX1.trans (fU.X (by decide))
          rcases hc : pRules T t 3 0 (tk_a (tok T t p)) (p_K D) with er | u
          · rw [hc] at hr3
            obtain ⟨rfl, hE⟩ := hr3
            refine r_if_eq 138 127 dX5_takeLine_124 (by decide) rfl (fun _ => ?_) (fun z => absurd (by decide) z)
            refine r_iconst 139 (v := 0) dX5_takeLine_138 (by decide) rfl ?_
            exact r_iret .boolean dX5_takeLine_139 rfl (rfl) (⟨fX2, by rw [pLine, show pLine0 T t (tok T t p) D = .inl er by rw [pLine0, if_neg g9, if_neg g42, if_neg g75, if_pos g107, pOnce, if_neg hb]; show sB (pRules T t 3 0 (tk_a (tok T t p)) (p_K D)) _ = _; rw [hc]; rfl]; exact ⟨rfl, hE⟩⟩)
          rw [hc] at hr3
          obtain ⟨rfl, q2, qK, q29⟩ := hr3
          obtain ⟨v, hve⟩ : ∃ v : Nat × pD, v = (u.1, (p_n D, u.2, p_l D, p_m D + 2 ^ 0)) := ⟨_, rfl⟩
          have e0 : pLine0 T t (tok T t p) D = .inr v := by rw [pLine0, if_neg g9, if_neg g42, if_neg g75, if_pos g107, pOnce, if_neg hb]; show sB (pRules T t 3 0 (tk_a (tok T t p)) (p_K D)) _ = _; rw [hc, hve]; rfl
          have hv := pLine0_V hp hV e0
          have ek := pRules_k _ _ _ _ _ hc
          have qD : dW w2 v.2 := by
            rw [hve]
            refine ⟨qK, fun b q hb hq => ?_, ?_, ?_, ?_, ?_⟩
            · show w2 23 _ = nI (u.2 _)
              rw [fU.2 23 (by decide) (by decide) (by decide), fa 23 (by decide), ek _ (by omega)]
              exact hD.2.1 b q hb hq
            · rw [fU.2 21 (by decide) (by decide) (by decide), fa 21 (by decide)]; exact hD.2.2.1
            · rw [fU.2 21 (by decide) (by decide) (by decide), fa 21 (by decide)]; exact hD.2.2.2.1
            · rw [fU.2 21 (by decide) (by decide) (by decide), fa 21 (by decide)]; exact hD.2.2.2.2.1
            · rw [q29]; exact i4
          have q1 : w2 29 1 = w 29 1 := by rw [q29]; exact i1
          have q2v : w2 27 2 = nI v.1 := by rw [hve]; exact q2
          refine r_if_eq 138 127 dX5_takeLine_124 (by decide) rfl (fun z => absurd z (by decide)) (fun _ => ?_)
          refine r_aload_n 128 dX5_takeLine_127 rfl rfl ?_
          refine r_callV (y2 := mX5_takeStop) (as := []) 131 dX5_takeLine_128 ml_X5_73 mv_X5_takeStop (c_takeStop (d := d - 1) (by omega) (hT.X fX2) hv.2.2 q2v) (by omega) sh_29 ⟨_, rfl, rfl⟩ rfl (Nat.le_of_ble_eq_true rfl) rfl (kk_i ?_)
          rintro x w9 ⟨hf2, hr2⟩
          rcases hs : pStop T t v.1 with er | a
          · rw [hs] at hr2
            obtain ⟨rfl, hE⟩ := hr2
            refine r_if_eq 138 134 dX5_takeLine_131 (by decide) rfl (fun _ => ?_) (fun z => absurd (by decide) z)
            refine r_iconst 139 (v := 0) dX5_takeLine_138 (by decide) rfl ?_
            exact r_iret .boolean dX5_takeLine_139 rfl (rfl) (⟨fX2.trans hf2.X, by rw [pLine, e0]; show txR (sB (pStop T t v.1) _) _ _ _; rw [hs]; exact ⟨rfl, hE⟩⟩)
          rw [hs] at hr2
          obtain ⟨rfl, r2, r29⟩ := hr2
          refine r_if_eq 138 134 dX5_takeLine_131 (by decide) rfl (fun z => absurd z (by decide)) (fun _ => ?_)
          refine r_iconst 135 (v := 1) dX5_takeLine_134 (by decide) rfl ?_
          refine r_goto 139 dX5_takeLine_135 (by decide) ?_
          exact r_iret .boolean dX5_takeLine_139 rfl (rfl) (⟨fX2.trans hf2.X, by rw [pLine, e0]; show txR (sB (pStop T t v.1) _) _ _ _; rw [hs]; exact ⟨rfl, r2, qD.fr (hf2.2 21 (by decide) (by decide)) (hf2.2 22 (by decide) (by decide)) (hf2.2 23 (by decide) (by decide)) (by rw [r29]), by rw [r29]; exact q1⟩⟩)
      · refine r_aload_n 79 dX5_takeLine_78 rfl rfl ?_
        refine r_callV (y2 := mX5_takeLiar) (as := []) 82 dX5_takeLine_79 ml_X5_80 mv_X5_takeLiar (c_takeLiar (d := d - 1) (by omega) hT hta.1 hk.1 hD hV) (by omega) sh_29 ⟨_, rfl, rfl⟩ rfl (Nat.le_of_ble_eq_true rfl) rfl (kk_i ?_)
        rintro x w1 ⟨fX, hr1⟩
        rcases hc : pLiar T t (tk_a (tok T t p)) D with er | v
        · rw [hc] at hr1
          obtain ⟨rfl, hE⟩ := hr1
          refine r_if_eq 96 85 dX5_takeLine_82 (by decide) rfl (fun _ => ?_) (fun z => absurd (by decide) z)
          refine r_iconst 97 (v := 0) dX5_takeLine_96 (by decide) rfl ?_
          exact r_iret .boolean dX5_takeLine_97 rfl (rfl) (⟨fX, by rw [pLine, show pLine0 T t (tok T t p) D = .inl er by rw [pLine0, if_neg g9, if_neg g42, if_pos g75]; exact hc]; exact ⟨rfl, hE⟩⟩)
        rw [hc] at hr1
        obtain ⟨rfl, q2, qD, q1⟩ := hr1
        have e0 : pLine0 T t (tok T t p) D = .inr v := by rw [pLine0, if_neg g9, if_neg g42, if_pos g75]; exact hc
        have hv := pLine0_V hp hV e0
        refine r_if_eq 96 85 dX5_takeLine_82 (by decide) rfl (fun z => absurd z (by decide)) (fun _ => ?_)
        refine r_aload_n 86 dX5_takeLine_85 rfl rfl ?_
        refine r_callV (y2 := mX5_takeStop) (as := []) 89 dX5_takeLine_86 ml_X5_73 mv_X5_takeStop (c_takeStop (d := d - 1) (by omega) (hT.X fX) hv.2.2 q2) (by omega) sh_29 ⟨_, rfl, rfl⟩ rfl (Nat.le_of_ble_eq_true rfl) rfl (kk_i ?_)
        rintro x w9 ⟨hf2, hr2⟩
        rcases hs : pStop T t v.1 with er | a
        · rw [hs] at hr2
          obtain ⟨rfl, hE⟩ := hr2
          refine r_if_eq 96 92 dX5_takeLine_89 (by decide) rfl (fun _ => ?_) (fun z => absurd (by decide) z)
          refine r_iconst 97 (v := 0) dX5_takeLine_96 (by decide) rfl ?_
          exact r_iret .boolean dX5_takeLine_97 rfl (rfl) (⟨fX.trans hf2.X, by rw [pLine, e0]; show txR (sB (pStop T t v.1) _) _ _ _; rw [hs]; exact ⟨rfl, hE⟩⟩)
        rw [hs] at hr2
        obtain ⟨rfl, r2, r29⟩ := hr2
        refine r_if_eq 96 92 dX5_takeLine_89 (by decide) rfl (fun z => absurd z (by decide)) (fun _ => ?_)
        refine r_iconst 93 (v := 1) dX5_takeLine_92 (by decide) rfl ?_
        refine r_goto 97 dX5_takeLine_93 (by decide) ?_
        exact r_iret .boolean dX5_takeLine_97 rfl (rfl) (⟨fX.trans hf2.X, by rw [pLine, e0]; show txR (sB (pStop T t v.1) _) _ _ _; rw [hs]; exact ⟨rfl, r2, qD.fr (hf2.2 21 (by decide) (by decide)) (hf2.2 22 (by decide) (by decide)) (hf2.2 23 (by decide) (by decide)) (by rw [r29]), by rw [r29]; exact q1⟩⟩)
    · refine r_aload_n 46 dX5_takeLine_45 rfl rfl ?_
      refine r_iconst 47 (v := 1) dX5_takeLine_46 (by decide) rfl ?_
      refine r_callV (y2 := mX5_takeBoat) (as := [_]) 50 dX5_takeLine_47 ml_X5_69 mv_X5_takeBoat (c_takeBoat (d := d - 1) (sd := 1) (by omega) hT hp hk hD hV) (by omega) sh_29 ⟨_, rfl, rfl⟩ rfl (Nat.le_of_ble_eq_true rfl) rfl (kk_i ?_)
      rintro x w1 ⟨fX, hr1⟩
      rcases hc : pBoat T t (tok T t p) 1 D with er | v
      · rw [hc] at hr1
        obtain ⟨rfl, hE⟩ := hr1
        refine r_if_eq 64 53 dX5_takeLine_50 (by decide) rfl (fun _ => ?_) (fun z => absurd (by decide) z)
        refine r_iconst 65 (v := 0) dX5_takeLine_64 (by decide) rfl ?_
        exact r_iret .boolean dX5_takeLine_65 rfl (rfl) (⟨fX, by rw [pLine, show pLine0 T t (tok T t p) D = .inl er by rw [pLine0, if_neg g9, if_pos g42]; exact hc]; exact ⟨rfl, hE⟩⟩)
      rw [hc] at hr1
      obtain ⟨rfl, q2, qD, q1⟩ := hr1
      have e0 : pLine0 T t (tok T t p) D = .inr v := by rw [pLine0, if_neg g9, if_pos g42]; exact hc
      have hv := pLine0_V hp hV e0
      refine r_if_eq 64 53 dX5_takeLine_50 (by decide) rfl (fun z => absurd z (by decide)) (fun _ => ?_)
      refine r_aload_n 54 dX5_takeLine_53 rfl rfl ?_
      refine r_callV (y2 := mX5_takeStop) (as := []) 57 dX5_takeLine_54 ml_X5_73 mv_X5_takeStop (c_takeStop (d := d - 1) (by omega) (hT.X fX) hv.2.2 q2) (by omega) sh_29 ⟨_, rfl, rfl⟩ rfl (Nat.le_of_ble_eq_true rfl) rfl (kk_i ?_)
      rintro x w9 ⟨hf2, hr2⟩
      rcases hs : pStop T t v.1 with er | a
      · rw [hs] at hr2
        obtain ⟨rfl, hE⟩ := hr2
        refine r_if_eq 64 60 dX5_takeLine_57 (by decide) rfl (fun _ => ?_) (fun z => absurd (by decide) z)
        refine r_iconst 65 (v := 0) dX5_takeLine_64 (by decide) rfl ?_
        exact r_iret .boolean dX5_takeLine_65 rfl (rfl) (⟨fX.trans hf2.X, by rw [pLine, e0]; show txR (sB (pStop T t v.1) _) _ _ _; rw [hs]; exact ⟨rfl, hE⟩⟩)
      rw [hs] at hr2
      obtain ⟨rfl, r2, r29⟩ := hr2
      refine r_if_eq 64 60 dX5_takeLine_57 (by decide) rfl (fun z => absurd z (by decide)) (fun _ => ?_)
      refine r_iconst 61 (v := 1) dX5_takeLine_60 (by decide) rfl ?_
      refine r_goto 65 dX5_takeLine_61 (by decide) ?_
      exact r_iret .boolean dX5_takeLine_65 rfl (rfl) (⟨fX.trans hf2.X, by rw [pLine, e0]; show txR (sB (pStop T t v.1) _) _ _ _; rw [hs]; exact ⟨rfl, r2, qD.fr (hf2.2 21 (by decide) (by decide)) (hf2.2 22 (by decide) (by decide)) (hf2.2 23 (by decide) (by decide)) (by rw [r29]), by rw [r29]; exact q1⟩⟩)
  · refine r_aload_n 13 dX5_takeLine_12 rfl rfl ?_
    refine r_iconst 14 (v := 0) dX5_takeLine_13 (by decide) rfl ?_
    refine r_callV (y2 := mX5_takeBoat) (as := [_]) 17 dX5_takeLine_14 ml_X5_69 mv_X5_takeBoat (c_takeBoat (d := d - 1) (sd := 0) (by omega) hT hp hk hD hV) (by omega) sh_29 ⟨_, rfl, rfl⟩ rfl (Nat.le_of_ble_eq_true rfl) rfl (kk_i ?_)
    rintro x w1 ⟨fX, hr1⟩
    rcases hc : pBoat T t (tok T t p) 0 D with er | v
    · rw [hc] at hr1
      obtain ⟨rfl, hE⟩ := hr1
      refine r_if_eq 31 20 dX5_takeLine_17 (by decide) rfl (fun _ => ?_) (fun z => absurd (by decide) z)
      refine r_iconst 32 (v := 0) dX5_takeLine_31 (by decide) rfl ?_
      exact r_iret .boolean dX5_takeLine_32 rfl (rfl) (⟨fX, by rw [pLine, show pLine0 T t (tok T t p) D = .inl er by rw [pLine0, if_pos g9]; exact hc]; exact ⟨rfl, hE⟩⟩)
    rw [hc] at hr1
    obtain ⟨rfl, q2, qD, q1⟩ := hr1
    have e0 : pLine0 T t (tok T t p) D = .inr v := by rw [pLine0, if_pos g9]; exact hc
    have hv := pLine0_V hp hV e0
    refine r_if_eq 31 20 dX5_takeLine_17 (by decide) rfl (fun z => absurd z (by decide)) (fun _ => ?_)
    refine r_aload_n 21 dX5_takeLine_20 rfl rfl ?_
    refine r_callV (y2 := mX5_takeStop) (as := []) 24 dX5_takeLine_21 ml_X5_73 mv_X5_takeStop (c_takeStop (d := d - 1) (by omega) (hT.X fX) hv.2.2 q2) (by omega) sh_29 ⟨_, rfl, rfl⟩ rfl (Nat.le_of_ble_eq_true rfl) rfl (kk_i ?_)
    rintro x w9 ⟨hf2, hr2⟩
    rcases hs : pStop T t v.1 with er | a
    · rw [hs] at hr2
      obtain ⟨rfl, hE⟩ := hr2
      refine r_if_eq 31 27 dX5_takeLine_24 (by decide) rfl (fun _ => ?_) (fun z => absurd (by decide) z)
      refine r_iconst 32 (v := 0) dX5_takeLine_31 (by decide) rfl ?_
      exact r_iret .boolean dX5_takeLine_32 rfl (rfl) (⟨fX.trans hf2.X, by rw [pLine, e0]; show txR (sB (pStop T t v.1) _) _ _ _; rw [hs]; exact ⟨rfl, hE⟩⟩)
    rw [hs] at hr2
    obtain ⟨rfl, r2, r29⟩ := hr2
    refine r_if_eq 31 27 dX5_takeLine_24 (by decide) rfl (fun z => absurd z (by decide)) (fun _ => ?_)
    refine r_iconst 28 (v := 1) dX5_takeLine_27 (by decide) rfl ?_
    refine r_goto 32 dX5_takeLine_28 (by decide) ?_
    exact r_iret .boolean dX5_takeLine_32 rfl (rfl) (⟨fX.trans hf2.X, by rw [pLine, e0]; show txR (sB (pStop T t v.1) _) _ _ _; rw [hs]; exact ⟨rfl, r2, qD.fr (hf2.2 21 (by decide) (by decide)) (hf2.2 22 (by decide) (by decide)) (hf2.2 23 (by decide) (by decide)) (by rw [r29]), by rw [r29]; exact q1⟩⟩)
set_option maxRecDepth 20000 in
set_option maxHeartbeats 4000000 in
theorem c_rewind {d : Nat} {w : zW} : CT mX4_rewind d [.ref 27] w (z_v fun w' => z_up w 27 2 0 = w') := by
  refine CT.of [some (.ref 27)] rfl (Nat.le_of_ble_eq_true rfl) rfl ?_
  refine r_aload_n 1 dX4_rewind_0 rfl rfl ?_
  refine r_iconst 2 (v := 0) dX4_rewind_1 (by decide) rfl ?_
  refine r_puti 5 dX4_rewind_2 fz_X4_17 fw_4_2 sh_27 rfl rfl ?_
  exact r_vret dX4_rewind_5 rfl (rfl)
set_option maxRecDepth 20000 in
set_option maxHeartbeats 4000000 in
theorem l_tell {d T : Nat} {t : Nat → Nat} {w0 : zW} {X : zX → Prop} {r : sR (Nat × pD)} (hd : 8 ≤ d) (hT : tpW w0 T t) (hx : ∀ w l D, r = .inr (l, D) → dW w D → dV D → w 29 1 = 0 → frX w0 w → WP mX5_tell d X 71 [some (.ref 29), some (.int (nI l))] [] w) (hb : ∀ w l e, r = .inl e → eX w e → frX w0 w → WP mX5_tell d X 71 [some (.ref 29), some (.int (nI l))] [] w) : ∀ F l p (D : pD) (w : zW), T + 1 ≤ p + F → l ≤ p → p ≤ T → tkW w (tok T t p) → dW w D → dV D → w 29 1 = 0 → frX w0 w → pAll T t F l p D = r → WP mX5_tell d X 33 [some (.ref 29), some (.int (nI l))] [] w := by
  have hT0 := hT.2.1
  intro F
  induction F with
  | zero => intro l p D w h1 h2 h3; omega
  | succ F ih =>
    intro l p D w h1 h2 hp hk hD hV hf hF hr
    have hk4 := tok_k4 (T := T) (t := t) (p := p)
    have hta := tok_T (t := t) hp
    rw [pAll] at hr
    by_cases hE : tk_k (tok T t p) = 3
    · rw [if_pos hE] at hr
      refine r_iload_n 34 dX5_tell_33 rfl rfl ?_
      refine r_sipush 37 (v := 160) dX5_tell_34 (by decide) rfl ?_
      refine r_icmp_ge 71 40 dX5_tell_37 (by decide) rfl (fun g37 => ?_) (fun g37 => ?_)
      · exact hx w l D hr.symm hD hV hf hF
      · refine r_aload_n 41 dX5_tell_40 rfl rfl ?_
        refine r_getr 44 dX5_tell_41 fz_X5_9 sh_29 rfl rfl ?_
        refine r_geti 47 dX5_tell_44 fz_X5_40 sh_27 rfl rfl ?_
        refine r_eq hk.2.1 ?_
        refine r_iconst 48 (v := 3) dX5_tell_47 (by decide) rfl ?_
        refine r_icmp_eq 71 51 dX5_tell_48 (by decide) rfl (fun _ => ?_) (fun z => absurd (by rw [hE]; rfl) z)
        exact hx w l D hr.symm hD hV hf hF
    rw [if_neg hE] at hr
    have hs : tk_st T t p < T := by
      apply Nat.lt_of_not_le
      intro z
      exact hE (tok_end.mpr z)
    have hs2 := tk_st_le (T := T) (p := p) (t := t)
    refine r_iload_n 34 dX5_tell_33 rfl rfl ?_
    refine r_sipush 37 (v := 160) dX5_tell_34 (by decide) rfl ?_
    refine r_icmp_ge 71 40 dX5_tell_37 (by decide) rfl (fun z => absurd z (fun z => absurd ((nI_le' (a := 160) (by decide) (by omega)).mp z) (by omega))) (fun _ => ?_)
    refine r_aload_n 41 dX5_tell_40 rfl rfl ?_
    refine r_getr 44 dX5_tell_41 fz_X5_9 sh_29 rfl rfl ?_
    refine r_geti 47 dX5_tell_44 fz_X5_40 sh_27 rfl rfl ?_
    refine r_eq hk.2.1 ?_
    refine r_iconst 48 (v := 3) dX5_tell_47 (by decide) rfl ?_
    refine r_icmp_eq 71 51 dX5_tell_48 (by decide) rfl (fun z => absurd z (fun z => hE (kkN 3 hk4 (by decide) z))) (fun _ => ?_)
    refine r_aload_n 52 dX5_tell_51 rfl rfl ?_
    refine r_callV (y2 := mX5_takeLine) (as := []) 55 dX5_tell_52 ml_X5_43 mv_X5_takeLine (c_takeLine (d := d - 1) (by omega) (hT.X hF) hp hk hD hV) (by omega) sh_29 ⟨_, rfl, rfl⟩ rfl (Nat.le_of_ble_eq_true rfl) rfl (kk_i ?_)
    rintro x w1 ⟨hf1, hr1⟩
    rcases hc : pLine T t p D with er | v
    · rw [hc] at hr1 hr
      obtain ⟨rfl, hE2⟩ := hr1
      have hr : .inl er = r := hr
      refine r_if_eq 71 58 dX5_tell_55 (by decide) rfl (fun _ => ?_) (fun z => absurd (by decide) z)
      exact hb w1 l er hr.symm hE2 (hF.trans hf1)
    rw [hc] at hr1 hr
    obtain ⟨rfl, q2, qD, q1⟩ := hr1
    have hv := pLine_V hp hE hV hc
    have hF1 := hF.trans hf1
    refine r_if_eq 71 58 dX5_tell_55 (by decide) rfl (fun z => absurd z (by decide)) (fun _ => ?_)
    refine r_iinc 61 (L' := [_, _]) (v := nI (l + 1)) dX5_tell_58 rfl (nI_1 l) (by decide) rfl rfl rfl ?_
    refine r_aload_n 62 dX5_tell_61 rfl rfl ?_
    refine r_getr 65 dX5_tell_62 fz_X5_9 sh_29 rfl rfl ?_
    refine r_callV (y2 := mX4_next) (as := []) 68 dX5_tell_65 ml_X5_37 mv_X4_next (c_next (d := d - 1) (by omega) (hT.X hF1) hv.2.2 q2) (by omega) sh_27 ⟨_, rfl, rfl⟩ rfl (Nat.le_of_ble_eq_true rfl) rfl (kk_v ?_)
    rintro w2 ⟨hk2, hf2⟩
    refine r_goto 33 dX5_tell_68 (by decide) ?_
    exact ih (l + 1) v.1 v.2 w2 (by omega) (by omega) hv.2.2 hk2 (qD.fr (hf2.2 21 (by decide)) (hf2.2 22 (by decide)) (hf2.2 23 (by decide)) (by rw [hf2.2 29 (by decide)])) hv.1 (by rw [hf2.2 29 (by decide), q1]; exact hf) (hF1.trans hf2.N.X) hr
theorem l_sh : ∀ g, g < 64 → ∀ n, n < 7 → (nI g >>> (nI n &&& 31) = 0 ↔ ¬ 2 ^ n ≤ g) := by decide +kernel
/-- what tell answers -/
def teR (T : Nat) (r : sR (Nat × pD)) (w : zW) (x : Int32) : Prop := match r with
  | .inl e => x = -10 - nI e.2 ∧ w 29 1 = nI e.1
  | .inr v => if p_bad v.2 = true then x = -10 - nI T ∧ w 29 1 = 6 else x = nI v.1 ∧ w 29 1 = 0 ∧ dW w v.2
theorem sar2 : ∀ k, k < 6 → (z_sar.getD 2 []).getD k 0 = nI (p_K0 k) := by decide +kernel
set_option maxRecDepth 20000 in
set_option maxHeartbeats 4000000 in
theorem c_tell {d T : Nat} {t : Nat → Nat} {w : zW} (hd : 8 ≤ d) (hT : tpW w T t) : CT mX5_tell d [.ref 29] w (z_i fun x w' => frX w w' ∧ teR T (pAll T t 161 0 0 p_D0) w' x) := by
  refine CT.of [some (.ref 29), none] rfl (Nat.le_of_ble_eq_true rfl) rfl ?_
  refine r_aload_n 1 dX5_tell_0 rfl rfl ?_
  refine r_getr 4 dX5_tell_1 fz_X5_18 sh_29 rfl rfl ?_
  refine r_callV (y2 := mX1_clear) (as := []) 7 dX5_tell_4 ml_X5_22 mv_X1_clear (c_clear (d := d - 1) (B := 21) (by omega) isL21) (by omega) sh_21 ⟨_, rfl, rfl⟩ rfl (Nat.le_of_ble_eq_true rfl) rfl (kk_v ?_)
  rintro w1 ⟨a1, a2, a3, a4, aF⟩
  refine r_aload_n 8 dX5_tell_7 rfl rfl ?_
  refine r_getr 11 dX5_tell_8 fz_X5_9 sh_29 rfl rfl ?_
  refine r_callV (y2 := mX4_rewind) (as := []) 14 dX5_tell_11 ml_X5_25 mv_X4_rewind (c_rewind (d := d - 1)) (by omega) sh_27 ⟨_, rfl, rfl⟩ rfl (Nat.le_of_ble_eq_true rfl) rfl (kk_v ?_)
  rintro w2 e2
  have e2 : w2 = z_up w1 27 2 0 := e2.symm
  refine r_aload_n 15 dX5_tell_14 rfl rfl ?_
  refine r_iconst 16 (v := 0) dX5_tell_15 (by decide) rfl ?_
  refine r_puti 19 dX5_tell_16 fz_X5_30 fw_5_1 sh_29 rfl rfl ?_
  refine r_nw (fun w3 e3 => ?_)
  refine r_aload_n 20 dX5_tell_19 rfl rfl ?_
  refine r_iconst 21 (v := 0) dX5_tell_20 (by decide) rfl ?_
  refine r_puti 24 dX5_tell_21 fz_X5_34 fw_5_4 sh_29 rfl rfl ?_
  refine r_nw (fun w4 e4 => ?_)
  have u : ∀ a, a ≠ 27 → a ≠ 29 → w4 a = w1 a := fun a h1 h2 => by rw [e4, z_up_o h2, e3, z_up_o h2, e2, z_up_o h1]
  have fX : frX w w4 := ⟨fun q hq => by rw [e4, z_up_a (by decide), e3, z_up_a (by decide), e2, z_up_i (by omega), aF 27 (by omega)], fun a h1 h2 h3 => by rw [u a h1 h2, aF a (by omega)]⟩
  have h2 : w4 27 2 = nI 0 := by rw [e4, z_up_a (by decide), e3, z_up_a (by decide), e2, z_up_s]; rfl
  have dD4 : dW w4 p_D0 := ⟨fun k hk => by rw [u 22 (by decide) (by decide)]; exact (a1 k hk).trans (sar2 k hk), fun b q hb _ => absurd hb (Nat.not_lt_zero b), by rw [u 21 (by decide) (by decide)]; exact a2, by rw [u 21 (by decide) (by decide)]; exact a3, by rw [u 21 (by decide) (by decide)]; exact a4, by rw [e4, z_up_s]; rfl⟩
  have hf4 : w4 29 1 = 0 := by rw [e4, z_up_i (by decide), e3, z_up_s]
  refine r_iconst 25 (v := 0) dX5_tell_24 (by decide) rfl ?_
  refine r_istore_n 26 (L' := [_, _]) dX5_tell_25 (by decide) rfl rfl rfl ?_
  refine r_aload_n 27 dX5_tell_26 rfl rfl ?_
  refine r_getr 30 dX5_tell_27 fz_X5_9 sh_29 rfl rfl ?_
  refine r_callV (y2 := mX4_next) (as := []) 33 dX5_tell_30 ml_X5_37 mv_X4_next (c_next (d := d - 1) (by omega) (hT.X fX) (Nat.zero_le T) h2) (by omega) sh_27 ⟨_, rfl, rfl⟩ rfl (Nat.le_of_ble_eq_true rfl) rfl (kk_v ?_)
  rintro w5 ⟨hk5, f5⟩
  refine l_tell (w0 := w) (r := pAll T t 161 0 0 p_D0) (by omega) hT (fun w l D hr hD hV hf hF => ?_) (fun w l e hr he hF => ?_) 161 0 0 p_D0 w5 (by have := hT.2.1; omega) (Nat.le_refl 0) (Nat.zero_le T) hk5 (dD4.fr (f5.2 21 (by decide)) (f5.2 22 (by decide)) (f5.2 23 (by decide)) (by rw [f5.2 29 (by decide)])) dV_0 (by rw [f5.2 29 (by decide)]; exact hf4) (fX.trans f5.N.X) rfl
  · refine r_aload_n 72 dX5_tell_71 rfl rfl ?_
    refine r_geti 75 dX5_tell_72 fz_X5_30 sh_29 rfl rfl ?_
    refine r_eq hf ?_
    refine r_if_ne 110 78 dX5_tell_75 (by decide) rfl (fun z => absurd (rfl) z) (fun _ => ?_)
    refine r_aload_n 79 dX5_tell_78 rfl rfl ?_
    refine r_getr 82 dX5_tell_79 fz_X5_18 sh_29 rfl rfl ?_
    refine r_geti 85 dX5_tell_82 fz_X5_47 sh_21 rfl rfl ?_
    refine r_eq hD.2.2.2.1 ?_
    refine r_aload_n 86 dX5_tell_85 rfl rfl ?_
    refine r_getr 89 dX5_tell_86 fz_X5_18 sh_29 rfl rfl ?_
    refine r_geti 92 dX5_tell_89 fz_X5_50 sh_21 rfl rfl ?_
    refine r_eq hD.2.2.1 ?_
    refine r_ishr 93 dX5_tell_92 rfl ?_
    refine r_if_eq 110 96 dX5_tell_93 (by decide) rfl (fun g93 => ?_) (fun g93 => ?_)
    · have g93 : ¬ p_bad D = true := fun z => (l_sh _ hV.1 _ (by have := hV.n; omega)).mp g93 (of_decide_eq_true z)
      refine r_aload_n 111 dX5_tell_110 rfl rfl ?_
      refine r_geti 114 dX5_tell_111 fz_X5_30 sh_29 rfl rfl ?_
      refine r_eq hf ?_
      refine r_if_ne 121 117 dX5_tell_114 (by decide) rfl (fun z => absurd (rfl) z) (fun _ => ?_)
      refine r_iload_n 118 dX5_tell_117 rfl rfl ?_
      refine r_goto 128 dX5_tell_118 (by decide) ?_
      exact r_iret .int dX5_tell_128 rfl (rfl) (⟨hF, by rw [hr]; show (if p_bad D = true then _ else _); rw [if_neg g93]; exact ⟨rfl, hf, hD⟩⟩)
    · have g93 : p_bad D = true := decide_eq_true (Classical.byContradiction fun z => g93 ((l_sh _ hV.1 _ (by have := hV.n; omega)).mpr z))
      refine r_aload_n 97 dX5_tell_96 rfl rfl ?_
      refine r_bipush 99 (v := 6) dX5_tell_97 (by decide) rfl ?_
      refine r_aload_n 100 dX5_tell_99 rfl rfl ?_
      refine r_getr 103 dX5_tell_100 fz_X5_9 sh_29 rfl rfl ?_
      refine r_geti 106 dX5_tell_103 fz_X5_53 sh_27 rfl rfl ?_
      refine r_eq (z := nI T) (by rw [hF.1 1 (by omega)]; exact hT.1) ?_
      refine r_callV (y2 := mX5_blame) (as := [_, _]) 109 dX5_tell_106 ml_X5_56 mv_X5_blame (c_blame (d := d - 1)) (by omega) sh_29 ⟨_, rfl, rfl⟩ rfl (Nat.le_of_ble_eq_true rfl) rfl (kk_i ?_)
      rintro _ w5 ⟨rfl, e5⟩
      refine r_pop 110 dX5_tell_109 rfl rfl ?_
      refine r_aload_n 111 dX5_tell_110 rfl rfl ?_
      refine r_geti 114 dX5_tell_111 fz_X5_30 sh_29 rfl rfl ?_
      refine r_eq (z := 6) (by rw [← e5, z_up_i (by decide), z_up_s]) ?_
      refine r_if_ne 121 117 dX5_tell_114 (by decide) rfl (fun _ => ?_) (fun z => absurd z (by decide))
      refine r_bipush 123 (v := -10) dX5_tell_121 (by decide) rfl ?_
      refine r_aload_n 124 dX5_tell_123 rfl rfl ?_
      refine r_geti 127 dX5_tell_124 fz_X5_60 sh_29 rfl rfl ?_
      refine r_eq (z := nI T) (by rw [← e5, z_up_s]) ?_
      refine r_isub 128 dX5_tell_127 rfl ?_
      exact r_iret .int dX5_tell_128 rfl (rfl) (⟨by rw [← e5]; exact (hF.up (Or.inl rfl)).up (Or.inl rfl), by rw [hr]; show (if p_bad D = true then _ else _); rw [if_pos g93]; exact ⟨rfl, by rw [← e5, z_up_i (by decide), z_up_s]⟩⟩)
  · have heV := pAll_e 161 0 0 p_D0 e (Nat.zero_le T) dV_0 hr
    have b1 := heV.1
    have b2 := heV.2.1
    refine r_aload_n 72 dX5_tell_71 rfl rfl ?_
    refine r_geti 75 dX5_tell_72 fz_X5_30 sh_29 rfl rfl ?_
    refine r_eq he.1 ?_
    refine r_if_ne 110 78 dX5_tell_75 (by decide) rfl (fun _ => ?_) (fun z => absurd z (fun z => by have := (nI_inj (b := 0) (by omega) (by decide)).mp z; omega))
    refine r_aload_n 111 dX5_tell_110 rfl rfl ?_
    refine r_geti 114 dX5_tell_111 fz_X5_30 sh_29 rfl rfl ?_
    refine r_eq he.1 ?_
    refine r_if_ne 121 117 dX5_tell_114 (by decide) rfl (fun _ => ?_) (fun z => absurd z (fun z => by have := (nI_inj (b := 0) (by omega) (by decide)).mp z; omega))
    refine r_bipush 123 (v := -10) dX5_tell_121 (by decide) rfl ?_
    refine r_aload_n 124 dX5_tell_123 rfl rfl ?_
    refine r_geti 127 dX5_tell_124 fz_X5_60 sh_29 rfl rfl ?_
    refine r_eq he.2 ?_
    refine r_isub 128 dX5_tell_127 rfl ?_
    exact r_iret .int dX5_tell_128 rfl (rfl) (⟨hF, by rw [hr]; exact ⟨rfl, he.1⟩⟩)
theorem lm_lw {n g : Nat} {K : Nat → Nat} (hn : n ≤ 6) (hg : g < 2 ^ n) : lm n (lw K g) = g := by
  unfold lm
  rw [mk_congr (q := fun b => bi g b == 1) (fun b _ => by rw [lw_l])]
  exact mk_bi n (by omega) g hg
/-- what is told becomes a lock -/
theorem dW.F {w : zW} {D : pD} (h : dW w D) (hV : dV D) (hb : ¬ p_bad D = true) : lkF w 21 (p_n D) (lw (p_K D) (p_l D)) := by
  have hn := hV.n
  have h42 : lw (p_K D) (p_l D) 42 = 0 := by rw [lw_n (by omega)]; exact hV.2.2.2.1
  have hl : p_l D < 2 ^ p_n D := Nat.lt_of_not_le (fun z => hb (decide_eq_true z))
  refine ⟨fun k hk => by rw [lw_n (by omega)]; exact h.1 k hk, fun b q hb hq => by rw [lw_n (by omega)]; exact h.2.1 b q hb hq, h.2.2.1, by rw [lm_lw hn hl]; exact h.2.2.2.1, by rw [h42]; exact h.2.2.2.2.1, fun j hj => by rw [h42] at hj; omega⟩
theorem f_text_l {s : sT} {e : Nat × Nat} (h : pAll (s_T s) (s_t s) 161 0 0 p_D0 = .inl e) : f_text s = (-10 - nI e.2, u_ft (u_tp s 0 (s_t s)) e.1) := by
  unfold f_text
  rw [h]
theorem f_text_b {s : sT} {l : Nat} {D : pD} (h : pAll (s_T s) (s_t s) 161 0 0 p_D0 = .inr (l, D)) (hb : p_bad D = true) : f_text s = (-10 - nI (s_T s), u_ft (u_tp s 0 (s_t s)) 6) := by
  unfold f_text
  rw [h]
  exact if_pos hb
theorem f_text_o {s : sT} {l : Nat} {D : pD} (h : pAll (s_T s) (s_t s) 161 0 0 p_D0 = .inr (l, D)) (hb : ¬ p_bad D = true) : f_text s = (nI l, u_ft (u_tp (u_im (u_lk s (p_n D) (lw (p_K D) (p_l D))) 0 (s_im s)) 0 (s_t s)) 0) := by
  unfold f_text
  rw [h]
  exact if_neg hb
theorem m10_neg : ∀ a, a < 161 → (-10 - nI a : Int32) < 0 := by decide +kernel
set_option maxRecDepth 20000 in
set_option maxHeartbeats 4000000 in
theorem k_text0 {w w2 : zW} {s : sT} {f : Nat} (hR : RC w s) (fa : ∀ a, a ≠ 27 → a ≠ 29 → (a < 21 ∨ 25 < a) → w2 a = w a) (f27 : w2 27 1 = 0) (h29 : w2 29 1 = nI f) : RC w2 (u_ft (u_tp s 0 (s_t s)) f) := by
  obtain ⟨r1, r2, r3, r4, r5, r6⟩ := hR
  refine ⟨r1.fr (fun a _ _ => fa a (by omega) (by omega) (by omega)), ?_, ⟨f27, fun i hi => absurd hi (Nat.not_lt_zero i)⟩, h29, ?_, ?_⟩
  · exact imC.congr (s := s) r2 (by rw [fa 0 (by decide) (by decide) (by omega)]) (fun a _ _ => fa a (by omega) (by omega) (by omega))
  · exact shC.congr (s := s) r5 (fun a _ _ => fa a (by omega) (by omega) (by omega))
  · unfold tnC at r6 ⊢; rw [fa 0 (by decide) (by decide) (by omega)]; exact r6
theorem pAll_l {T : Nat} {t : Nat → Nat} : ∀ f l p (D : pD) x, l ≤ p → p ≤ T → pAll T t f l p D = .inr x → dV D → x.1 ≤ T
  | 0, l, p, D, x, h1, h2, h, _ => by cases h; exact Nat.le_trans h1 h2
  | f + 1, l, p, D, x, h1, h2, h, hD => by
    rw [pAll] at h
    split at h
    · cases h; exact Nat.le_trans h1 h2
    · rename_i c
      obtain ⟨a, q1, q2⟩ := sB_r h
      have q := pLine_V h2 c hD q1
      exact pAll_l f (l + 1) a.1 a.2 x (by omega) q.2.2 q2 q.1
set_option maxRecDepth 20000 in
set_option maxHeartbeats 4000000 in
theorem C_text {d : Nat} {w : zW} {s : sT}  (hd : 9 ≤ d) (hR : RC w s) (hS : sV s) : AC mX6_text d [] w (f_text s) := by
  have hn := hS.1.n
  have hT0 := hS.2.2.1.1
  have hTW : tpW w (s_T s) (s_t s) := ⟨hR.2.2.1.1, hT0, fun i hi => ⟨hR.2.2.1.2 i hi, hS.2.2.1.2 i hi⟩⟩
  refine CT.of [some (.ref 0), none] rfl (Nat.le_of_ble_eq_true rfl) rfl ?_
  refine r_aload_n 1 dX6_text_0 rfl rfl ?_
  refine r_getr 4 dX6_text_1 fz_X6_35 sh_0 rfl rfl ?_
  refine r_callV (y2 := mX5_tell) (as := []) 7 dX6_text_4 ml_X6_79 mv_X5_tell (c_tell (d := d - 1) (by omega) hTW) (by omega) sh_29 ⟨_, rfl, rfl⟩ rfl (Nat.le_of_ble_eq_true rfl) rfl (kk_i ?_)
  rintro x w1 ⟨fX, hr⟩
  refine r_istore_n 8 (L' := [_, _]) dX6_text_7 (by decide) rfl rfl rfl ?_
  refine r_aload_n 9 dX6_text_8 rfl rfl ?_
  refine r_getr 12 dX6_text_9 fz_X6_26 sh_0 rfl rfl ?_
  refine r_iconst 13 (v := 0) dX6_text_12 (by decide) rfl ?_
  refine r_puti 16 dX6_text_13 fz_X6_75 fw_4_1 sh_27 rfl rfl ?_
  refine r_nw (fun w2 e2 => ?_)
  have fa : ∀ a, a ≠ 27 → a ≠ 29 → (a < 21 ∨ 25 < a) → w2 a = w a := fun a h1 h2 h3 => by rw [e2, z_up_o h1]; exact fX.2 a h1 h2 h3
  have h29 : w2 29 = w1 29 := by rw [e2, z_up_o (by decide)]
  have f27 : w2 27 1 = 0 := by rw [e2, z_up_s]
  rcases hc : pAll (s_T s) (s_t s) 161 0 0 p_D0 with e | ⟨l, D⟩
  · rw [hc] at hr
    obtain ⟨rfl, hr2⟩ := id hr
    have heV := pAll_e 161 0 0 p_D0 e (Nat.zero_le _) dV_0 hc
    have b1 := heV.2.2
    refine r_iload_n 17 dX6_text_16 rfl rfl ?_
    refine r_if_lt 39 20 dX6_text_17 (by decide) rfl (fun _ => ?_) (fun z => absurd (m10_neg _ (by omega)) z)
    refine r_iload_n 40 dX6_text_39 rfl rfl ?_
    exact r_iret .int dX6_text_40 rfl (rfl) (⟨by rw [f_text_l hc], by rw [f_text_l hc]; exact k_text0 hR fa f27 (by rw [h29]; exact hr.2), fun a ha => fa a (by omega) (by omega) (by omega)⟩)
  rw [hc] at hr
  have hV := pAll_V 161 0 0 p_D0 (l, D) (Nat.zero_le _) dV_0 hc
  have hl := pAll_l 161 0 0 p_D0 (l, D) (Nat.le_refl 0) (Nat.zero_le _) hc dV_0
  by_cases hb : p_bad D = true
  · have hr : x = -10 - nI (s_T s) ∧ w1 29 1 = 6 := by
      have hr : (if p_bad D = true then x = -10 - nI (s_T s) ∧ w1 29 1 = 6 else _) := hr
      rw [if_pos hb] at hr; exact hr
    obtain ⟨rfl, hr2⟩ := id hr
    refine r_iload_n 17 dX6_text_16 rfl rfl ?_
    refine r_if_lt 39 20 dX6_text_17 (by decide) rfl (fun _ => ?_) (fun z => absurd (m10_neg _ (by omega)) z)
    refine r_iload_n 40 dX6_text_39 rfl rfl ?_
    exact r_iret .int dX6_text_40 rfl (rfl) (⟨by rw [f_text_b hc hb], by rw [f_text_b hc hb]; exact k_text0 hR fa f27 (by rw [h29]; exact hr.2), fun a ha => fa a (by omega) (by omega) (by omega)⟩)
  have hr : x = nI l ∧ w1 29 1 = 0 ∧ dW w1 D := by
    have hr : (if p_bad D = true then _ else x = nI l ∧ w1 29 1 = 0 ∧ dW w1 D) := hr
    rw [if_neg hb] at hr; exact hr
  obtain ⟨rfl, hr1, hrD⟩ := hr
  have hLF : lkF w2 21 (p_n D) (lw (p_K D) (p_l D)) := (hrD.F hV hb).fr (fun a _ _ => by rw [e2, z_up_o (by omega)])
  refine r_iload_n 17 dX6_text_16 rfl rfl ?_
  refine r_if_lt 39 20 dX6_text_17 (by decide) rfl (fun z => absurd z (nI_pos (by omega))) (fun _ => ?_)
  refine r_aload_n 21 dX6_text_20 rfl rfl ?_
  refine r_getr 24 dX6_text_21 fz_X6_10 sh_0 rfl rfl ?_
  refine r_aload_n 25 dX6_text_24 rfl rfl ?_
  refine r_getr 28 dX6_text_25 fz_X6_35 sh_0 rfl rfl ?_
  refine r_getr 31 dX6_text_28 fz_X6_83 sh_29 rfl rfl ?_
  refine r_callV (y2 := mX1_copyFrom) (as := [_]) 34 dX6_text_31 ml_X6_86 mv_X1_copyFrom (c_copyFrom (d := d - 1) (B := 1) (C := 21) (by omega) (Or.inl rfl) isL21 (by decide)) (by omega) sh_1 ⟨_, rfl, rfl⟩ rfl (Nat.le_of_ble_eq_true rfl) rfl (kk_v ?_)
  rintro w3 hcp
  have hL3 := hcp.F hLF hV.n (by rw [lw_n (by omega), hV.2.2.2.1]; decide)
  have f3 := hcp.2.2.2.2.2.2.2
  refine r_aload_n 35 dX6_text_34 rfl rfl ?_
  refine r_iconst 36 (v := 0) dX6_text_35 (by decide) rfl ?_
  refine r_puti 39 dX6_text_36 fz_X6_90 fw_6_3 sh_0 rfl rfl ?_
  refine r_nw (fun w4 e4 => ?_)
  have g4 : ∀ a, a ≠ 0 → a ≠ 27 → a ≠ 29 → (5 < a ∧ a < 21 ∨ 25 < a) → w4 a = w a := fun a h0 h1 h2 h3 => by rw [e4, z_up_o h0, f3 a (by omega)]; exact fa a h1 h2 (by omega)
  refine r_iload_n 40 dX6_text_39 rfl rfl ?_
  exact r_iret .int dX6_text_40 rfl (rfl) (⟨by rw [f_text_o hc hb], by rw [f_text_o hc hb]; exact ⟨hL3.fr (fun a h1 h2 => by rw [e4, z_up_o (by omega)]), ⟨by rw [e4, z_up_s]; rfl, fun k hk hb => by have : bi 0 k = 0 := by { show 0 / 2 ^ k % 2 = 0; simp }; rw [show s_kp _ = 0 from rfl, this] at hb; cases hb⟩, ⟨by rw [e4, z_up_a (by decide), f3 27 (by omega)]; exact f27, fun i hi => absurd hi (Nat.not_lt_zero i)⟩, by (show w4 29 1 = 0; rw [e4, z_up_a (by decide), f3 29 (by omega), h29]; exact hr1), shC.congr (s := s) hR.2.2.2.2.1 (fun a h1 h2 => g4 a (by omega) (by omega) (by omega) (by omega)), by (show w4 0 11 = _; rw [e4, z_up_i (by decide), f3 0 (by omega), fa 0 (by decide) (by decide) (by omega)]; exact hR.2.2.2.2.2)⟩, fun a ha => g4 a (by omega) (by omega) (by omega) (by omega)⟩)

theorem f_ne_0 : ∀ j, j < 16 → 0 ≠ j → Cond.not (Cond.eq (Term.string RX5 (z_six.getD 0 0)) (Term.string RX5 (z_six.getD j 0))) ∈ flatC (Jvm.Cond.and given_1 narrow_1) ∨ Cond.not (Cond.eq (Term.string RX5 (z_six.getD j 0)) (Term.string RX5 (z_six.getD 0 0))) ∈ flatC (Jvm.Cond.and given_1 narrow_1) := by
  intro j hj hn
  match j, hj with
  | 0, _ => exact absurd rfl hn
  | 1, _ => exact Or.inl (List.mem_of_getElem? (i := 120) (by decide +kernel))
  | 2, _ => exact Or.inl (List.mem_of_getElem? (i := 133) (by decide +kernel))
  | 3, _ => exact Or.inl (List.mem_of_getElem? (i := 147) (by decide +kernel))
  | 4, _ => exact Or.inl (List.mem_of_getElem? (i := 161) (by decide +kernel))
  | 5, _ => exact Or.inl (List.mem_of_getElem? (i := 275) (by decide +kernel))
  | 6, _ => exact Or.inl (List.mem_of_getElem? (i := 297) (by decide +kernel))
  | 7, _ => exact Or.inl (List.mem_of_getElem? (i := 77) (by decide +kernel))
  | 8, _ => exact Or.inl (List.mem_of_getElem? (i := 86) (by decide +kernel))
  | 9, _ => exact Or.inl (List.mem_of_getElem? (i := 96) (by decide +kernel))
  | 10, _ => exact Or.inl (List.mem_of_getElem? (i := 107) (by decide +kernel))
  | 11, _ => exact Or.inl (List.mem_of_getElem? (i := 177) (by decide +kernel))
  | 12, _ => exact Or.inl (List.mem_of_getElem? (i := 195) (by decide +kernel))
  | 13, _ => exact Or.inl (List.mem_of_getElem? (i := 213) (by decide +kernel))
  | 14, _ => exact Or.inl (List.mem_of_getElem? (i := 233) (by decide +kernel))
  | 15, _ => exact Or.inl (List.mem_of_getElem? (i := 254) (by decide +kernel))
  | j + 16, hj => omega
theorem f_ne_1 : ∀ j, j < 16 → 1 ≠ j → Cond.not (Cond.eq (Term.string RX5 (z_six.getD 1 0)) (Term.string RX5 (z_six.getD j 0))) ∈ flatC (Jvm.Cond.and given_1 narrow_1) ∨ Cond.not (Cond.eq (Term.string RX5 (z_six.getD j 0)) (Term.string RX5 (z_six.getD 1 0))) ∈ flatC (Jvm.Cond.and given_1 narrow_1) := by
  intro j hj hn
  match j, hj with
  | 0, _ => exact Or.inr (List.mem_of_getElem? (i := 120) (by decide +kernel))
  | 1, _ => exact absurd rfl hn
  | 2, _ => exact Or.inl (List.mem_of_getElem? (i := 138) (by decide +kernel))
  | 3, _ => exact Or.inl (List.mem_of_getElem? (i := 152) (by decide +kernel))
  | 4, _ => exact Or.inl (List.mem_of_getElem? (i := 166) (by decide +kernel))
  | 5, _ => exact Or.inl (List.mem_of_getElem? (i := 280) (by decide +kernel))
  | 6, _ => exact Or.inl (List.mem_of_getElem? (i := 302) (by decide +kernel))
  | 7, _ => exact Or.inr (List.mem_of_getElem? (i := 121) (by decide +kernel))
  | 8, _ => exact Or.inr (List.mem_of_getElem? (i := 122) (by decide +kernel))
  | 9, _ => exact Or.inr (List.mem_of_getElem? (i := 123) (by decide +kernel))
  | 10, _ => exact Or.inr (List.mem_of_getElem? (i := 124) (by decide +kernel))
  | 11, _ => exact Or.inl (List.mem_of_getElem? (i := 182) (by decide +kernel))
  | 12, _ => exact Or.inl (List.mem_of_getElem? (i := 200) (by decide +kernel))
  | 13, _ => exact Or.inl (List.mem_of_getElem? (i := 218) (by decide +kernel))
  | 14, _ => exact Or.inl (List.mem_of_getElem? (i := 238) (by decide +kernel))
  | 15, _ => exact Or.inl (List.mem_of_getElem? (i := 259) (by decide +kernel))
  | j + 16, hj => omega
theorem f_ne_2 : ∀ j, j < 16 → 2 ≠ j → Cond.not (Cond.eq (Term.string RX5 (z_six.getD 2 0)) (Term.string RX5 (z_six.getD j 0))) ∈ flatC (Jvm.Cond.and given_1 narrow_1) ∨ Cond.not (Cond.eq (Term.string RX5 (z_six.getD j 0)) (Term.string RX5 (z_six.getD 2 0))) ∈ flatC (Jvm.Cond.and given_1 narrow_1) := by
  intro j hj hn
  match j, hj with
  | 0, _ => exact Or.inr (List.mem_of_getElem? (i := 133) (by decide +kernel))
  | 1, _ => exact Or.inr (List.mem_of_getElem? (i := 138) (by decide +kernel))
  | 2, _ => exact absurd rfl hn
  | 3, _ => exact Or.inl (List.mem_of_getElem? (i := 153) (by decide +kernel))
  | 4, _ => exact Or.inl (List.mem_of_getElem? (i := 167) (by decide +kernel))
  | 5, _ => exact Or.inl (List.mem_of_getElem? (i := 281) (by decide +kernel))
  | 6, _ => exact Or.inl (List.mem_of_getElem? (i := 303) (by decide +kernel))
  | 7, _ => exact Or.inr (List.mem_of_getElem? (i := 134) (by decide +kernel))
  | 8, _ => exact Or.inr (List.mem_of_getElem? (i := 135) (by decide +kernel))
  | 9, _ => exact Or.inr (List.mem_of_getElem? (i := 136) (by decide +kernel))
  | 10, _ => exact Or.inr (List.mem_of_getElem? (i := 137) (by decide +kernel))
  | 11, _ => exact Or.inl (List.mem_of_getElem? (i := 183) (by decide +kernel))
  | 12, _ => exact Or.inl (List.mem_of_getElem? (i := 201) (by decide +kernel))
  | 13, _ => exact Or.inl (List.mem_of_getElem? (i := 219) (by decide +kernel))
  | 14, _ => exact Or.inl (List.mem_of_getElem? (i := 239) (by decide +kernel))
  | 15, _ => exact Or.inl (List.mem_of_getElem? (i := 260) (by decide +kernel))
  | j + 16, hj => omega
theorem f_ne_3 : ∀ j, j < 16 → 3 ≠ j → Cond.not (Cond.eq (Term.string RX5 (z_six.getD 3 0)) (Term.string RX5 (z_six.getD j 0))) ∈ flatC (Jvm.Cond.and given_1 narrow_1) ∨ Cond.not (Cond.eq (Term.string RX5 (z_six.getD j 0)) (Term.string RX5 (z_six.getD 3 0))) ∈ flatC (Jvm.Cond.and given_1 narrow_1) := by
  intro j hj hn
  match j, hj with
  | 0, _ => exact Or.inr (List.mem_of_getElem? (i := 147) (by decide +kernel))
  | 1, _ => exact Or.inr (List.mem_of_getElem? (i := 152) (by decide +kernel))
  | 2, _ => exact Or.inr (List.mem_of_getElem? (i := 153) (by decide +kernel))
  | 3, _ => exact absurd rfl hn
  | 4, _ => exact Or.inl (List.mem_of_getElem? (i := 168) (by decide +kernel))
  | 5, _ => exact Or.inl (List.mem_of_getElem? (i := 282) (by decide +kernel))
  | 6, _ => exact Or.inl (List.mem_of_getElem? (i := 304) (by decide +kernel))
  | 7, _ => exact Or.inr (List.mem_of_getElem? (i := 148) (by decide +kernel))
  | 8, _ => exact Or.inr (List.mem_of_getElem? (i := 149) (by decide +kernel))
  | 9, _ => exact Or.inr (List.mem_of_getElem? (i := 150) (by decide +kernel))
  | 10, _ => exact Or.inr (List.mem_of_getElem? (i := 151) (by decide +kernel))
  | 11, _ => exact Or.inl (List.mem_of_getElem? (i := 184) (by decide +kernel))
  | 12, _ => exact Or.inl (List.mem_of_getElem? (i := 202) (by decide +kernel))
  | 13, _ => exact Or.inl (List.mem_of_getElem? (i := 220) (by decide +kernel))
  | 14, _ => exact Or.inl (List.mem_of_getElem? (i := 240) (by decide +kernel))
  | 15, _ => exact Or.inl (List.mem_of_getElem? (i := 261) (by decide +kernel))
  | j + 16, hj => omega
theorem f_ne_4 : ∀ j, j < 16 → 4 ≠ j → Cond.not (Cond.eq (Term.string RX5 (z_six.getD 4 0)) (Term.string RX5 (z_six.getD j 0))) ∈ flatC (Jvm.Cond.and given_1 narrow_1) ∨ Cond.not (Cond.eq (Term.string RX5 (z_six.getD j 0)) (Term.string RX5 (z_six.getD 4 0))) ∈ flatC (Jvm.Cond.and given_1 narrow_1) := by
  intro j hj hn
  match j, hj with
  | 0, _ => exact Or.inr (List.mem_of_getElem? (i := 161) (by decide +kernel))
  | 1, _ => exact Or.inr (List.mem_of_getElem? (i := 166) (by decide +kernel))
  | 2, _ => exact Or.inr (List.mem_of_getElem? (i := 167) (by decide +kernel))
  | 3, _ => exact Or.inr (List.mem_of_getElem? (i := 168) (by decide +kernel))
  | 4, _ => exact absurd rfl hn
  | 5, _ => exact Or.inl (List.mem_of_getElem? (i := 283) (by decide +kernel))
  | 6, _ => exact Or.inl (List.mem_of_getElem? (i := 305) (by decide +kernel))
  | 7, _ => exact Or.inr (List.mem_of_getElem? (i := 162) (by decide +kernel))
  | 8, _ => exact Or.inr (List.mem_of_getElem? (i := 163) (by decide +kernel))
  | 9, _ => exact Or.inr (List.mem_of_getElem? (i := 164) (by decide +kernel))
  | 10, _ => exact Or.inr (List.mem_of_getElem? (i := 165) (by decide +kernel))
  | 11, _ => exact Or.inl (List.mem_of_getElem? (i := 185) (by decide +kernel))
  | 12, _ => exact Or.inl (List.mem_of_getElem? (i := 203) (by decide +kernel))
  | 13, _ => exact Or.inl (List.mem_of_getElem? (i := 221) (by decide +kernel))
  | 14, _ => exact Or.inl (List.mem_of_getElem? (i := 241) (by decide +kernel))
  | 15, _ => exact Or.inl (List.mem_of_getElem? (i := 262) (by decide +kernel))
  | j + 16, hj => omega
theorem f_ne_5 : ∀ j, j < 16 → 5 ≠ j → Cond.not (Cond.eq (Term.string RX5 (z_six.getD 5 0)) (Term.string RX5 (z_six.getD j 0))) ∈ flatC (Jvm.Cond.and given_1 narrow_1) ∨ Cond.not (Cond.eq (Term.string RX5 (z_six.getD j 0)) (Term.string RX5 (z_six.getD 5 0))) ∈ flatC (Jvm.Cond.and given_1 narrow_1) := by
  intro j hj hn
  match j, hj with
  | 0, _ => exact Or.inr (List.mem_of_getElem? (i := 275) (by decide +kernel))
  | 1, _ => exact Or.inr (List.mem_of_getElem? (i := 280) (by decide +kernel))
  | 2, _ => exact Or.inr (List.mem_of_getElem? (i := 281) (by decide +kernel))
  | 3, _ => exact Or.inr (List.mem_of_getElem? (i := 282) (by decide +kernel))
  | 4, _ => exact Or.inr (List.mem_of_getElem? (i := 283) (by decide +kernel))
  | 5, _ => exact absurd rfl hn
  | 6, _ => exact Or.inl (List.mem_of_getElem? (i := 311) (by decide +kernel))
  | 7, _ => exact Or.inr (List.mem_of_getElem? (i := 276) (by decide +kernel))
  | 8, _ => exact Or.inr (List.mem_of_getElem? (i := 277) (by decide +kernel))
  | 9, _ => exact Or.inr (List.mem_of_getElem? (i := 278) (by decide +kernel))
  | 10, _ => exact Or.inr (List.mem_of_getElem? (i := 279) (by decide +kernel))
  | 11, _ => exact Or.inr (List.mem_of_getElem? (i := 284) (by decide +kernel))
  | 12, _ => exact Or.inr (List.mem_of_getElem? (i := 285) (by decide +kernel))
  | 13, _ => exact Or.inr (List.mem_of_getElem? (i := 286) (by decide +kernel))
  | 14, _ => exact Or.inr (List.mem_of_getElem? (i := 287) (by decide +kernel))
  | 15, _ => exact Or.inr (List.mem_of_getElem? (i := 288) (by decide +kernel))
  | j + 16, hj => omega
theorem f_ne_6 : ∀ j, j < 16 → 6 ≠ j → Cond.not (Cond.eq (Term.string RX5 (z_six.getD 6 0)) (Term.string RX5 (z_six.getD j 0))) ∈ flatC (Jvm.Cond.and given_1 narrow_1) ∨ Cond.not (Cond.eq (Term.string RX5 (z_six.getD j 0)) (Term.string RX5 (z_six.getD 6 0))) ∈ flatC (Jvm.Cond.and given_1 narrow_1) := by
  intro j hj hn
  match j, hj with
  | 0, _ => exact Or.inr (List.mem_of_getElem? (i := 297) (by decide +kernel))
  | 1, _ => exact Or.inr (List.mem_of_getElem? (i := 302) (by decide +kernel))
  | 2, _ => exact Or.inr (List.mem_of_getElem? (i := 303) (by decide +kernel))
  | 3, _ => exact Or.inr (List.mem_of_getElem? (i := 304) (by decide +kernel))
  | 4, _ => exact Or.inr (List.mem_of_getElem? (i := 305) (by decide +kernel))
  | 5, _ => exact Or.inr (List.mem_of_getElem? (i := 311) (by decide +kernel))
  | 6, _ => exact absurd rfl hn
  | 7, _ => exact Or.inr (List.mem_of_getElem? (i := 298) (by decide +kernel))
  | 8, _ => exact Or.inr (List.mem_of_getElem? (i := 299) (by decide +kernel))
  | 9, _ => exact Or.inr (List.mem_of_getElem? (i := 300) (by decide +kernel))
  | 10, _ => exact Or.inr (List.mem_of_getElem? (i := 301) (by decide +kernel))
  | 11, _ => exact Or.inr (List.mem_of_getElem? (i := 306) (by decide +kernel))
  | 12, _ => exact Or.inr (List.mem_of_getElem? (i := 307) (by decide +kernel))
  | 13, _ => exact Or.inr (List.mem_of_getElem? (i := 308) (by decide +kernel))
  | 14, _ => exact Or.inr (List.mem_of_getElem? (i := 309) (by decide +kernel))
  | 15, _ => exact Or.inr (List.mem_of_getElem? (i := 310) (by decide +kernel))
  | j + 16, hj => omega
theorem f_ne_7 : ∀ j, j < 16 → 7 ≠ j → Cond.not (Cond.eq (Term.string RX5 (z_six.getD 7 0)) (Term.string RX5 (z_six.getD j 0))) ∈ flatC (Jvm.Cond.and given_1 narrow_1) ∨ Cond.not (Cond.eq (Term.string RX5 (z_six.getD j 0)) (Term.string RX5 (z_six.getD 7 0))) ∈ flatC (Jvm.Cond.and given_1 narrow_1) := by
  intro j hj hn
  match j, hj with
  | 0, _ => exact Or.inr (List.mem_of_getElem? (i := 77) (by decide +kernel))
  | 1, _ => exact Or.inl (List.mem_of_getElem? (i := 121) (by decide +kernel))
  | 2, _ => exact Or.inl (List.mem_of_getElem? (i := 134) (by decide +kernel))
  | 3, _ => exact Or.inl (List.mem_of_getElem? (i := 148) (by decide +kernel))
  | 4, _ => exact Or.inl (List.mem_of_getElem? (i := 162) (by decide +kernel))
  | 5, _ => exact Or.inl (List.mem_of_getElem? (i := 276) (by decide +kernel))
  | 6, _ => exact Or.inl (List.mem_of_getElem? (i := 298) (by decide +kernel))
  | 7, _ => exact absurd rfl hn
  | 8, _ => exact Or.inl (List.mem_of_getElem? (i := 87) (by decide +kernel))
  | 9, _ => exact Or.inl (List.mem_of_getElem? (i := 97) (by decide +kernel))
  | 10, _ => exact Or.inl (List.mem_of_getElem? (i := 108) (by decide +kernel))
  | 11, _ => exact Or.inl (List.mem_of_getElem? (i := 178) (by decide +kernel))
  | 12, _ => exact Or.inl (List.mem_of_getElem? (i := 196) (by decide +kernel))
  | 13, _ => exact Or.inl (List.mem_of_getElem? (i := 214) (by decide +kernel))
  | 14, _ => exact Or.inl (List.mem_of_getElem? (i := 234) (by decide +kernel))
  | 15, _ => exact Or.inl (List.mem_of_getElem? (i := 255) (by decide +kernel))
  | j + 16, hj => omega
theorem f_ne_8 : ∀ j, j < 16 → 8 ≠ j → Cond.not (Cond.eq (Term.string RX5 (z_six.getD 8 0)) (Term.string RX5 (z_six.getD j 0))) ∈ flatC (Jvm.Cond.and given_1 narrow_1) ∨ Cond.not (Cond.eq (Term.string RX5 (z_six.getD j 0)) (Term.string RX5 (z_six.getD 8 0))) ∈ flatC (Jvm.Cond.and given_1 narrow_1) := by
  intro j hj hn
  match j, hj with
  | 0, _ => exact Or.inr (List.mem_of_getElem? (i := 86) (by decide +kernel))
  | 1, _ => exact Or.inl (List.mem_of_getElem? (i := 122) (by decide +kernel))
  | 2, _ => exact Or.inl (List.mem_of_getElem? (i := 135) (by decide +kernel))
  | 3, _ => exact Or.inl (List.mem_of_getElem? (i := 149) (by decide +kernel))
  | 4, _ => exact Or.inl (List.mem_of_getElem? (i := 163) (by decide +kernel))
  | 5, _ => exact Or.inl (List.mem_of_getElem? (i := 277) (by decide +kernel))
  | 6, _ => exact Or.inl (List.mem_of_getElem? (i := 299) (by decide +kernel))
  | 7, _ => exact Or.inr (List.mem_of_getElem? (i := 87) (by decide +kernel))
  | 8, _ => exact absurd rfl hn
  | 9, _ => exact Or.inl (List.mem_of_getElem? (i := 98) (by decide +kernel))
  | 10, _ => exact Or.inl (List.mem_of_getElem? (i := 109) (by decide +kernel))
  | 11, _ => exact Or.inl (List.mem_of_getElem? (i := 179) (by decide +kernel))
  | 12, _ => exact Or.inl (List.mem_of_getElem? (i := 197) (by decide +kernel))
  | 13, _ => exact Or.inl (List.mem_of_getElem? (i := 215) (by decide +kernel))
  | 14, _ => exact Or.inl (List.mem_of_getElem? (i := 235) (by decide +kernel))
  | 15, _ => exact Or.inl (List.mem_of_getElem? (i := 256) (by decide +kernel))
  | j + 16, hj => omega
theorem f_ne_9 : ∀ j, j < 16 → 9 ≠ j → Cond.not (Cond.eq (Term.string RX5 (z_six.getD 9 0)) (Term.string RX5 (z_six.getD j 0))) ∈ flatC (Jvm.Cond.and given_1 narrow_1) ∨ Cond.not (Cond.eq (Term.string RX5 (z_six.getD j 0)) (Term.string RX5 (z_six.getD 9 0))) ∈ flatC (Jvm.Cond.and given_1 narrow_1) := by
  intro j hj hn
  match j, hj with
  | 0, _ => exact Or.inr (List.mem_of_getElem? (i := 96) (by decide +kernel))
  | 1, _ => exact Or.inl (List.mem_of_getElem? (i := 123) (by decide +kernel))
  | 2, _ => exact Or.inl (List.mem_of_getElem? (i := 136) (by decide +kernel))
  | 3, _ => exact Or.inl (List.mem_of_getElem? (i := 150) (by decide +kernel))
  | 4, _ => exact Or.inl (List.mem_of_getElem? (i := 164) (by decide +kernel))
  | 5, _ => exact Or.inl (List.mem_of_getElem? (i := 278) (by decide +kernel))
  | 6, _ => exact Or.inl (List.mem_of_getElem? (i := 300) (by decide +kernel))
  | 7, _ => exact Or.inr (List.mem_of_getElem? (i := 97) (by decide +kernel))
  | 8, _ => exact Or.inr (List.mem_of_getElem? (i := 98) (by decide +kernel))
  | 9, _ => exact absurd rfl hn
  | 10, _ => exact Or.inl (List.mem_of_getElem? (i := 110) (by decide +kernel))
  | 11, _ => exact Or.inl (List.mem_of_getElem? (i := 180) (by decide +kernel))
  | 12, _ => exact Or.inl (List.mem_of_getElem? (i := 198) (by decide +kernel))
  | 13, _ => exact Or.inl (List.mem_of_getElem? (i := 216) (by decide +kernel))
  | 14, _ => exact Or.inl (List.mem_of_getElem? (i := 236) (by decide +kernel))
  | 15, _ => exact Or.inl (List.mem_of_getElem? (i := 257) (by decide +kernel))
  | j + 16, hj => omega
theorem f_ne_10 : ∀ j, j < 16 → 10 ≠ j → Cond.not (Cond.eq (Term.string RX5 (z_six.getD 10 0)) (Term.string RX5 (z_six.getD j 0))) ∈ flatC (Jvm.Cond.and given_1 narrow_1) ∨ Cond.not (Cond.eq (Term.string RX5 (z_six.getD j 0)) (Term.string RX5 (z_six.getD 10 0))) ∈ flatC (Jvm.Cond.and given_1 narrow_1) := by
  intro j hj hn
  match j, hj with
  | 0, _ => exact Or.inr (List.mem_of_getElem? (i := 107) (by decide +kernel))
  | 1, _ => exact Or.inl (List.mem_of_getElem? (i := 124) (by decide +kernel))
  | 2, _ => exact Or.inl (List.mem_of_getElem? (i := 137) (by decide +kernel))
  | 3, _ => exact Or.inl (List.mem_of_getElem? (i := 151) (by decide +kernel))
  | 4, _ => exact Or.inl (List.mem_of_getElem? (i := 165) (by decide +kernel))
  | 5, _ => exact Or.inl (List.mem_of_getElem? (i := 279) (by decide +kernel))
  | 6, _ => exact Or.inl (List.mem_of_getElem? (i := 301) (by decide +kernel))
  | 7, _ => exact Or.inr (List.mem_of_getElem? (i := 108) (by decide +kernel))
  | 8, _ => exact Or.inr (List.mem_of_getElem? (i := 109) (by decide +kernel))
  | 9, _ => exact Or.inr (List.mem_of_getElem? (i := 110) (by decide +kernel))
  | 10, _ => exact absurd rfl hn
  | 11, _ => exact Or.inl (List.mem_of_getElem? (i := 181) (by decide +kernel))
  | 12, _ => exact Or.inl (List.mem_of_getElem? (i := 199) (by decide +kernel))
  | 13, _ => exact Or.inl (List.mem_of_getElem? (i := 217) (by decide +kernel))
  | 14, _ => exact Or.inl (List.mem_of_getElem? (i := 237) (by decide +kernel))
  | 15, _ => exact Or.inl (List.mem_of_getElem? (i := 258) (by decide +kernel))
  | j + 16, hj => omega
theorem f_ne_11 : ∀ j, j < 16 → 11 ≠ j → Cond.not (Cond.eq (Term.string RX5 (z_six.getD 11 0)) (Term.string RX5 (z_six.getD j 0))) ∈ flatC (Jvm.Cond.and given_1 narrow_1) ∨ Cond.not (Cond.eq (Term.string RX5 (z_six.getD j 0)) (Term.string RX5 (z_six.getD 11 0))) ∈ flatC (Jvm.Cond.and given_1 narrow_1) := by
  intro j hj hn
  match j, hj with
  | 0, _ => exact Or.inr (List.mem_of_getElem? (i := 177) (by decide +kernel))
  | 1, _ => exact Or.inr (List.mem_of_getElem? (i := 182) (by decide +kernel))
  | 2, _ => exact Or.inr (List.mem_of_getElem? (i := 183) (by decide +kernel))
  | 3, _ => exact Or.inr (List.mem_of_getElem? (i := 184) (by decide +kernel))
  | 4, _ => exact Or.inr (List.mem_of_getElem? (i := 185) (by decide +kernel))
  | 5, _ => exact Or.inl (List.mem_of_getElem? (i := 284) (by decide +kernel))
  | 6, _ => exact Or.inl (List.mem_of_getElem? (i := 306) (by decide +kernel))
  | 7, _ => exact Or.inr (List.mem_of_getElem? (i := 178) (by decide +kernel))
  | 8, _ => exact Or.inr (List.mem_of_getElem? (i := 179) (by decide +kernel))
  | 9, _ => exact Or.inr (List.mem_of_getElem? (i := 180) (by decide +kernel))
  | 10, _ => exact Or.inr (List.mem_of_getElem? (i := 181) (by decide +kernel))
  | 11, _ => exact absurd rfl hn
  | 12, _ => exact Or.inl (List.mem_of_getElem? (i := 204) (by decide +kernel))
  | 13, _ => exact Or.inl (List.mem_of_getElem? (i := 222) (by decide +kernel))
  | 14, _ => exact Or.inl (List.mem_of_getElem? (i := 242) (by decide +kernel))
  | 15, _ => exact Or.inl (List.mem_of_getElem? (i := 263) (by decide +kernel))
  | j + 16, hj => omega
theorem f_ne_12 : ∀ j, j < 16 → 12 ≠ j → Cond.not (Cond.eq (Term.string RX5 (z_six.getD 12 0)) (Term.string RX5 (z_six.getD j 0))) ∈ flatC (Jvm.Cond.and given_1 narrow_1) ∨ Cond.not (Cond.eq (Term.string RX5 (z_six.getD j 0)) (Term.string RX5 (z_six.getD 12 0))) ∈ flatC (Jvm.Cond.and given_1 narrow_1) := by
  intro j hj hn
  match j, hj with
  | 0, _ => exact Or.inr (List.mem_of_getElem? (i := 195) (by decide +kernel))
  | 1, _ => exact Or.inr (List.mem_of_getElem? (i := 200) (by decide +kernel))
  | 2, _ => exact Or.inr (List.mem_of_getElem? (i := 201) (by decide +kernel))
  | 3, _ => exact Or.inr (List.mem_of_getElem? (i := 202) (by decide +kernel))
  | 4, _ => exact Or.inr (List.mem_of_getElem? (i := 203) (by decide +kernel))
  | 5, _ => exact Or.inl (List.mem_of_getElem? (i := 285) (by decide +kernel))
  | 6, _ => exact Or.inl (List.mem_of_getElem? (i := 307) (by decide +kernel))
  | 7, _ => exact Or.inr (List.mem_of_getElem? (i := 196) (by decide +kernel))
  | 8, _ => exact Or.inr (List.mem_of_getElem? (i := 197) (by decide +kernel))
  | 9, _ => exact Or.inr (List.mem_of_getElem? (i := 198) (by decide +kernel))
  | 10, _ => exact Or.inr (List.mem_of_getElem? (i := 199) (by decide +kernel))
  | 11, _ => exact Or.inr (List.mem_of_getElem? (i := 204) (by decide +kernel))
  | 12, _ => exact absurd rfl hn
  | 13, _ => exact Or.inl (List.mem_of_getElem? (i := 223) (by decide +kernel))
  | 14, _ => exact Or.inl (List.mem_of_getElem? (i := 243) (by decide +kernel))
  | 15, _ => exact Or.inl (List.mem_of_getElem? (i := 264) (by decide +kernel))
  | j + 16, hj => omega
theorem f_ne_13 : ∀ j, j < 16 → 13 ≠ j → Cond.not (Cond.eq (Term.string RX5 (z_six.getD 13 0)) (Term.string RX5 (z_six.getD j 0))) ∈ flatC (Jvm.Cond.and given_1 narrow_1) ∨ Cond.not (Cond.eq (Term.string RX5 (z_six.getD j 0)) (Term.string RX5 (z_six.getD 13 0))) ∈ flatC (Jvm.Cond.and given_1 narrow_1) := by
  intro j hj hn
  match j, hj with
  | 0, _ => exact Or.inr (List.mem_of_getElem? (i := 213) (by decide +kernel))
  | 1, _ => exact Or.inr (List.mem_of_getElem? (i := 218) (by decide +kernel))
  | 2, _ => exact Or.inr (List.mem_of_getElem? (i := 219) (by decide +kernel))
  | 3, _ => exact Or.inr (List.mem_of_getElem? (i := 220) (by decide +kernel))
  | 4, _ => exact Or.inr (List.mem_of_getElem? (i := 221) (by decide +kernel))
  | 5, _ => exact Or.inl (List.mem_of_getElem? (i := 286) (by decide +kernel))
  | 6, _ => exact Or.inl (List.mem_of_getElem? (i := 308) (by decide +kernel))
  | 7, _ => exact Or.inr (List.mem_of_getElem? (i := 214) (by decide +kernel))
  | 8, _ => exact Or.inr (List.mem_of_getElem? (i := 215) (by decide +kernel))
  | 9, _ => exact Or.inr (List.mem_of_getElem? (i := 216) (by decide +kernel))
  | 10, _ => exact Or.inr (List.mem_of_getElem? (i := 217) (by decide +kernel))
  | 11, _ => exact Or.inr (List.mem_of_getElem? (i := 222) (by decide +kernel))
  | 12, _ => exact Or.inr (List.mem_of_getElem? (i := 223) (by decide +kernel))
  | 13, _ => exact absurd rfl hn
  | 14, _ => exact Or.inl (List.mem_of_getElem? (i := 244) (by decide +kernel))
  | 15, _ => exact Or.inl (List.mem_of_getElem? (i := 265) (by decide +kernel))
  | j + 16, hj => omega
theorem f_ne_14 : ∀ j, j < 16 → 14 ≠ j → Cond.not (Cond.eq (Term.string RX5 (z_six.getD 14 0)) (Term.string RX5 (z_six.getD j 0))) ∈ flatC (Jvm.Cond.and given_1 narrow_1) ∨ Cond.not (Cond.eq (Term.string RX5 (z_six.getD j 0)) (Term.string RX5 (z_six.getD 14 0))) ∈ flatC (Jvm.Cond.and given_1 narrow_1) := by
  intro j hj hn
  match j, hj with
  | 0, _ => exact Or.inr (List.mem_of_getElem? (i := 233) (by decide +kernel))
  | 1, _ => exact Or.inr (List.mem_of_getElem? (i := 238) (by decide +kernel))
  | 2, _ => exact Or.inr (List.mem_of_getElem? (i := 239) (by decide +kernel))
  | 3, _ => exact Or.inr (List.mem_of_getElem? (i := 240) (by decide +kernel))
  | 4, _ => exact Or.inr (List.mem_of_getElem? (i := 241) (by decide +kernel))
  | 5, _ => exact Or.inl (List.mem_of_getElem? (i := 287) (by decide +kernel))
  | 6, _ => exact Or.inl (List.mem_of_getElem? (i := 309) (by decide +kernel))
  | 7, _ => exact Or.inr (List.mem_of_getElem? (i := 234) (by decide +kernel))
  | 8, _ => exact Or.inr (List.mem_of_getElem? (i := 235) (by decide +kernel))
  | 9, _ => exact Or.inr (List.mem_of_getElem? (i := 236) (by decide +kernel))
  | 10, _ => exact Or.inr (List.mem_of_getElem? (i := 237) (by decide +kernel))
  | 11, _ => exact Or.inr (List.mem_of_getElem? (i := 242) (by decide +kernel))
  | 12, _ => exact Or.inr (List.mem_of_getElem? (i := 243) (by decide +kernel))
  | 13, _ => exact Or.inr (List.mem_of_getElem? (i := 244) (by decide +kernel))
  | 14, _ => exact absurd rfl hn
  | 15, _ => exact Or.inl (List.mem_of_getElem? (i := 266) (by decide +kernel))
  | j + 16, hj => omega
theorem f_ne_15 : ∀ j, j < 16 → 15 ≠ j → Cond.not (Cond.eq (Term.string RX5 (z_six.getD 15 0)) (Term.string RX5 (z_six.getD j 0))) ∈ flatC (Jvm.Cond.and given_1 narrow_1) ∨ Cond.not (Cond.eq (Term.string RX5 (z_six.getD j 0)) (Term.string RX5 (z_six.getD 15 0))) ∈ flatC (Jvm.Cond.and given_1 narrow_1) := by
  intro j hj hn
  match j, hj with
  | 0, _ => exact Or.inr (List.mem_of_getElem? (i := 254) (by decide +kernel))
  | 1, _ => exact Or.inr (List.mem_of_getElem? (i := 259) (by decide +kernel))
  | 2, _ => exact Or.inr (List.mem_of_getElem? (i := 260) (by decide +kernel))
  | 3, _ => exact Or.inr (List.mem_of_getElem? (i := 261) (by decide +kernel))
  | 4, _ => exact Or.inr (List.mem_of_getElem? (i := 262) (by decide +kernel))
  | 5, _ => exact Or.inl (List.mem_of_getElem? (i := 288) (by decide +kernel))
  | 6, _ => exact Or.inl (List.mem_of_getElem? (i := 310) (by decide +kernel))
  | 7, _ => exact Or.inr (List.mem_of_getElem? (i := 255) (by decide +kernel))
  | 8, _ => exact Or.inr (List.mem_of_getElem? (i := 256) (by decide +kernel))
  | 9, _ => exact Or.inr (List.mem_of_getElem? (i := 257) (by decide +kernel))
  | 10, _ => exact Or.inr (List.mem_of_getElem? (i := 258) (by decide +kernel))
  | 11, _ => exact Or.inr (List.mem_of_getElem? (i := 263) (by decide +kernel))
  | 12, _ => exact Or.inr (List.mem_of_getElem? (i := 264) (by decide +kernel))
  | 13, _ => exact Or.inr (List.mem_of_getElem? (i := 265) (by decide +kernel))
  | 14, _ => exact Or.inr (List.mem_of_getElem? (i := 266) (by decide +kernel))
  | 15, _ => exact absurd rfl hn
  | j + 16, hj => omega
theorem f_ne : ∀ i, i < 16 → ∀ j, j < 16 → i ≠ j → Cond.not (Cond.eq (Term.string RX5 (z_six.getD i 0)) (Term.string RX5 (z_six.getD j 0))) ∈ flatC (Jvm.Cond.and given_1 narrow_1) ∨ Cond.not (Cond.eq (Term.string RX5 (z_six.getD j 0)) (Term.string RX5 (z_six.getD i 0))) ∈ flatC (Jvm.Cond.and given_1 narrow_1) := by
  intro i hi
  match i, hi with
  | 0, _ => exact f_ne_0
  | 1, _ => exact f_ne_1
  | 2, _ => exact f_ne_2
  | 3, _ => exact f_ne_3
  | 4, _ => exact f_ne_4
  | 5, _ => exact f_ne_5
  | 6, _ => exact f_ne_6
  | 7, _ => exact f_ne_7
  | 8, _ => exact f_ne_8
  | 9, _ => exact f_ne_9
  | 10, _ => exact f_ne_10
  | 11, _ => exact f_ne_11
  | 12, _ => exact f_ne_12
  | 13, _ => exact f_ne_13
  | 14, _ => exact f_ne_14
  | 15, _ => exact f_ne_15
  | i + 16, hi => omega

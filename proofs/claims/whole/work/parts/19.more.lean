/-! ===== more rows ===== -/
section MORE
variable {y : zM} {d : Nat} {T : zX → Prop} {pc : Nat} {L : List (Option Value)} {st : List Value} {w : zW}
/-- a local is forgotten -/
theorem r_drop (i : Nat) {L' : List (Option Value)} (hL : L.set i none = L') (k : WP y d T pc L' st w) : WP y d T pc L st w := by
  subst hL
  intro X h hT H locs ls hD
  refine k X h hT H locs ls ⟨hD.1, hD.2.1, hD.2.2.1, hD.2.2.2.1, hD.2.2.2.2.1, fun j v hj => hD.2.2.2.2.2 j v ?_⟩
  by_cases hji : j = i
  · subst hji
    by_cases hl : j < L.length
    · rw [List.getElem?_set_self hl] at hj
      cases hj
    · rw [List.getElem?_eq_none (by rw [List.length_set]; omega)] at hj
      cases hj
  · rw [List.getElem?_set_ne (Ne.symm hji)] at hj
    exact hj
end MORE
theorem q_sub {a b : Nat} (ha : a < 100) (hb : b < 100) : (nI a - nI b).toInt = (a : Int) - b := pk_sub_toInt (by omega) (by omega)
theorem q_up {a b : Nat} (ha : a < 50) (hb : b < 50) : nI a - nI b + 1 = nI (a + 1) - nI b := by
  rw [ti_eq, ti_add (by rw [q_sub (by omega) (by omega)]; show _ ≤ _ + (1 : Int) ∧ _ + (1 : Int) < _; omega), q_sub (by omega) (by omega), q_sub (by omega) (by omega)]
  show _ + (1 : Int) = _
  omega
theorem q_dn {a b : Nat} (ha : a < 50) (hb : b < 50) : nI a - nI b + (-1) = nI a - nI (b + 1) := by
  rw [ti_eq, ti_add (by rw [q_sub (by omega) (by omega)]; show _ ≤ _ + (-1 : Int) ∧ _ + (-1 : Int) < _; omega), q_sub (by omega) (by omega), q_sub (by omega) (by omega)]
  show _ + (-1 : Int) = _
  omega

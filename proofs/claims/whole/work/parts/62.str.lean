/-! ===== names: strings that are constants ===== -/
section STR
variable {y y2 : zM} {d d2 : Nat} {T : zX → Prop} {pc : Nat} {L : List (Option Value)} {st : List Value} {w : zW} {idx i : Nat} {as rest : List Value}
theorem r_sval (n : Nat) (hd : decode y.2.1 pc = .ok (.getfield 9, 3)) (hy : y.1.cls = RJ0) (hi : i < 16) (hn : pc + 3 = n) (kk : WP y d T n L (.ref (300 + i) :: st) w) : WP y d T pc L (.ref (200 + i) :: st) w := by
  subst hn
  intro X h hT H locs ls hD
  exact vk_getf h.exec h.code (h.S.2.1.1 i hi).2.2.1 hD.2.2.1 h.own (by rw [hy]; exact h.words _ fl_J0_9) (fun x hx => hx) hd (kk X h hT H locs ls hD)
theorem r_scod (n : Nat) (hd : decode y.2.1 pc = .ok (.getfield 15, 3)) (hy : y.1.cls = RJ0) (hi : i < 16) (hn : pc + 3 = n) (kk : WP y d T n L (.int 0 :: st) w) : WP y d T pc L (.ref (200 + i) :: st) w := by
  subst hn
  intro X h hT H locs ls hD
  exact vk_getf h.exec h.code (h.S.2.1.1 i hi).2.1 hD.2.2.1 h.own (by rw [hy]; exact h.words _ fl_J0_15) (fun x hx => hx) hd (kk X h hT H locs ls hD)
theorem r_scmp (n : Nat) (hd : decode y.2.1 pc = .ok (.getstatic 38, 3)) (hy : y.1.cls = RJ0) (hn : pc + 3 = n) (kk : WP y d T n L (.int 1 :: st) w) : WP y d T pc L st w := by
  subst hn
  intro X h hT H locs ls hD
  exact va_gets h.exec h.code h.S.2.2.1 hD.2.2.1 h.own (by rw [hy]; exact h.words _ fl_J0_38) (fun x hx => hx) hd (kk X h hT H locs ls hD)
theorem r_sfmt (n : Nat) (hd : decode y.2.1 pc = .ok (.getstatic 1053, 3)) (hy : y.1.cls = RJ0) (hn : pc + 3 = n) (kk : WP y d T n L (.null :: st) w) : WP y d T pc L st w := by
  subst hn
  intro X h hT H locs ls hD
  exact va_gets h.exec h.code h.S.2.2.2 hD.2.2.1 h.own (by rw [hy]; exact h.words _ fl_J0_1053) (fun x hx => hx) hd (kk X h hT H locs ls hD)
theorem r_slen (n : Nat) (hd : decode y.2.1 pc = .ok (.arraylength, 1)) (hi : i < 16) (hn : pc + 1 = n) (kk : WP y d T n L (.int (nI (z_sln.getD i 0)) :: st) w) : WP y d T pc L (.ref (300 + i) :: st) w := by
  subst hn
  intro X h hT H locs ls hD
  exact va_tlen h.exec h.code (h.S.2.1.1 i hi).2.2.2 hD.2.2.1 (v := nI (z_sln.getD i 0)) rfl hd (kk X h hT H locs ls hD)
theorem r_sbal {j : Nat} (n : Nat) (hd : decode y.2.1 pc = .ok (.baload, 1)) (hi : i < 16) (hj : j < z_sln.getD i 0) (hj5 : j < 5) (hn : pc + 1 = n) (kk : WP y d T n L (.int ((z_sby.getD i []).getD j 0) :: st) w) : WP y d T pc L (.int (nI j) :: .ref (300 + i) :: st) w := by
  subst hn
  intro X h hT H locs ls hD
  have e : (nI j).toNatClampNeg = j := nI_clamp (by omega)
  refine va_tb h.exec h.code (h.S.2.1.1 i hi).2.2.2 hD.2.2.1 (i := nI j) ?_ (v := .int ((z_sby.getD i []).getD j 0)) (by rw [e]) hd (kk X h hT H locs ls hD)
  intro z
  rcases z with z | z
  · exact absurd z (nI_pos (by omega))
  · rw [e] at z; omega
theorem r_callK {P : Option Value → zW → Prop} (n : Nat) (hd : decode y.2.1 pc = .ok (.invokevirtual idx, 3)) (hl : Cond.methodLink y.1.cls idx y2.1 ∈ z_WS) (hm : z_mV y2 as.length) (hy2 : y2.1.cls = RJ0) (hi : i < 16) (hc : CT y2 d2 (.ref (200 + i) :: as) w P) (hd2 : d2 + 1 ≤ d)
    (hst : as.reverse ++ .ref (200 + i) :: rest = st) (hr : (rest.map fun v => v.category).sum ≤ 8) (hn : pc + 3 = n) (kk : ∀ r w', P r w' → WP y d T n L (r.toList ++ rest) w') : WP y d T pc L st w := by
  subst hn
  subst hst
  intro X h hT H locs ls hD
  obtain ⟨hm0, hmi, hms⟩ := hm
  refine z_after h hT hD (a := (Value.ref ((x_G X).2.1 (200 + i)) :: as.map (z_cv (x_G X))).toArray) ?_ kk
  refine va_runV (As := as.map (z_cv (x_G X))) (b := (x_G X).2.1 (200 + i)) (rest := rest.map (z_cv (x_G X))) (C := y2.1.cls) ⟨h.exec, h.code, h.maxL, h.own, h.words⟩ (hc (x_l X) (x_G X) H.size) ⟨callB_of as.length h.words (z_gi hm0) rfl rfl rfl (h.words _ hm0.2.1) (h.words _ hl) hm0.2.2.1 (z_rmo h hm0 hd2), h.words _ hmi, h.words _ hms⟩ ⟨z_fb, ?_, z_pre h hD (.ref (200 + i) :: as)⟩ rfl (List.length_map _) hD.2.2.2.1 ?_ ?_ hd ⟨h.room.2.2.1, h.room.2.2.2⟩
  · rw [hy2]
    exact vk_recv (i := i) (adK := fun i => (x_G X).2.1 (200 + i)) h.S.2.1 hi hD.2.2.1
  · simp [List.map_append, List.map_reverse, z_cv]
  · refine lv_room ?_
    rw [z_cats h.K.2.2]
    exact hr
end STR
theorem sby_c : ∀ i, i < 16 → ∀ j, j < 5 → (((z_sby.getD i []).getD j 0 &&& 255).toUInt32 % 65536).toInt32 = (z_sby.getD i []).getD j 0 := by decide +kernel
theorem sby_n : ∀ i, i < 16 → ∀ j, j < 5 → narrow .char (.int ((z_sby.getD i []).getD j 0)) = .int ((z_sby.getD i []).getD j 0) := by
  have h : ∀ i, i < 16 → ∀ j, j < 5 → ((z_sby.getD i []).getD j 0).toUInt32.toUInt16.toUInt32.toInt32 = (z_sby.getD i []).getD j 0 := by decide +kernel
  intro i hi j hj
  show Value.int _ = _
  rw [show ((z_sby.getD i []).getD j 0).toUInt32.toUInt16.toUInt32.toInt32 = (z_sby.getD i []).getD j 0 from h i hi j hj]
theorem sln_5 : ∀ i, i < 16 → z_sln.getD i 0 ≤ 5 := by decide +kernel
theorem sln_s : ∀ i, i < 16 → nI (z_sln.getD i 0) >>> ((0 : Int32) &&& 31) = nI (z_sln.getD i 0) := by decide +kernel
set_option maxRecDepth 20000 in
set_option maxHeartbeats 4000000 in
theorem c_coder {d i : Nat} {w : zW} (hi : i < 16) : CT mJ0_coder_7d493 d [.ref (200 + i)] w (z_i fun x w' => 0 = x ∧ w = w') := by
  refine CT.of [some (.ref (200 + i))] rfl (Nat.le_of_ble_eq_true rfl) rfl ?_
  refine r_scmp 3 dJ0_coder_7d493_0 rfl rfl ?_
  refine r_if_eq 13 6 dJ0_coder_7d493_3 (by decide) rfl (fun z => absurd z (by decide)) (fun _ => ?_)
  refine r_aload_n 7 dJ0_coder_7d493_6 rfl rfl ?_
  refine r_scod 10 dJ0_coder_7d493_7 rfl hi rfl ?_
  refine r_goto 14 dJ0_coder_7d493_10 (by decide) ?_
  exact r_iret .byte dJ0_coder_7d493_14 rfl rfl ⟨rfl, rfl⟩
set_option maxRecDepth 20000 in
set_option maxHeartbeats 4000000 in
theorem c_length {d i : Nat} {w : zW} (hd : 1 ≤ d) (hi : i < 16) : CT mJ0_length_8abf5 d [.ref (200 + i)] w (z_i fun x w' => nI (z_sln.getD i 0) = x ∧ w = w') := by
  refine CT.of [some (.ref (200 + i))] rfl (Nat.le_of_ble_eq_true rfl) rfl ?_
  refine r_aload_n 1 dJ0_length_8abf5_0 rfl rfl ?_
  refine r_sval 4 dJ0_length_8abf5_1 rfl hi rfl ?_
  refine r_slen 5 dJ0_length_8abf5_4 hi rfl ?_
  refine r_aload_n 6 dJ0_length_8abf5_5 rfl rfl ?_
  refine r_callK (y2 := mJ0_coder_7d493) (as := []) 9 dJ0_length_8abf5_6 ml_J0_335 mv_J0_coder_7d493 rfl hi (c_coder (d := d - 1) hi) (by omega) rfl (Nat.le_of_ble_eq_true rfl) rfl (kk_i ?_)
  rintro _ _ ⟨rfl, rfl⟩
  refine r_ishr 10 dJ0_length_8abf5_9 rfl ?_
  refine r_eq (sln_s i hi) ?_
  exact r_iret .int dJ0_length_8abf5_10 rfl rfl ⟨rfl, rfl⟩
set_option maxRecDepth 20000 in
set_option maxHeartbeats 4000000 in
theorem c_isLatin1 {d i : Nat} {w : zW} (hi : i < 16) : CT mJ0_isLatin1_aae02 d [.ref (200 + i)] w (z_i fun x w' => 1 = x ∧ w = w') := by
  refine CT.of [some (.ref (200 + i))] rfl (Nat.le_of_ble_eq_true rfl) rfl ?_
  refine r_scmp 3 dJ0_isLatin1_aae02_0 rfl rfl ?_
  refine r_if_eq 17 6 dJ0_isLatin1_aae02_3 (by decide) rfl (fun z => absurd z (by decide)) (fun _ => ?_)
  refine r_aload_n 7 dJ0_isLatin1_aae02_6 rfl rfl ?_
  refine r_scod 10 dJ0_isLatin1_aae02_7 rfl hi rfl ?_
  refine r_if_ne 17 13 dJ0_isLatin1_aae02_10 (by decide) rfl (fun z => absurd rfl z) (fun _ => ?_)
  refine r_iconst 14 (v := 1) dJ0_isLatin1_aae02_13 (by decide) rfl ?_
  refine r_goto 18 dJ0_isLatin1_aae02_14 (by decide) ?_
  exact r_iret .boolean dJ0_isLatin1_aae02_18 rfl rfl ⟨rfl, rfl⟩
set_option maxRecDepth 20000 in
set_option maxHeartbeats 4000000 in
theorem c_ckI {d j m : Nat} {w : zW} (hj : j < m) (hm : m < 1000) : CT mJ3_checkIndex_8e157 d [.int (nI j), .int (nI m), .null] w (z_i fun x w' => nI j = x ∧ w = w') := by
  refine CT.of [some (.int (nI j)), some (.int (nI m)), some .null] rfl (Nat.le_of_ble_eq_true rfl) rfl ?_
  refine r_iload_n 1 dJ3_checkIndex_8e157_0 rfl rfl ?_
  refine r_if_lt 9 4 dJ3_checkIndex_8e157_1 (by decide) rfl (fun z => absurd z (nI_pos (by omega))) (fun _ => ?_)
  refine r_iload_n 5 dJ3_checkIndex_8e157_4 rfl rfl ?_
  refine r_iload_n 6 dJ3_checkIndex_8e157_5 rfl rfl ?_
  refine r_icmp_lt 16 9 dJ3_checkIndex_8e157_6 (by decide) rfl (fun _ => ?_) (fun z => absurd ((nI_lt' (by omega) (by omega)).mpr hj) z)
  refine r_iload_n 17 dJ3_checkIndex_8e157_16 rfl rfl ?_
  exact r_iret .int dJ3_checkIndex_8e157_17 rfl rfl ⟨rfl, rfl⟩
set_option maxRecDepth 20000 in
set_option maxHeartbeats 4000000 in
theorem c_ckJ {d j m : Nat} {w : zW} (hd : 1 ≤ d) (hj : j < m) (hm : m < 1000) : CT mJ0_checkIndex_df160 d [.int (nI j), .int (nI m)] w (z_v fun w' => w = w') := by
  refine CT.of [some (.int (nI j)), some (.int (nI m))] rfl (Nat.le_of_ble_eq_true rfl) rfl ?_
  refine r_iload_n 1 dJ0_checkIndex_df160_0 rfl rfl ?_
  refine r_iload_n 2 dJ0_checkIndex_df160_1 rfl rfl ?_
  refine r_sfmt 5 dJ0_checkIndex_df160_2 rfl rfl ?_
  refine r_callS (y2 := mJ3_checkIndex_8e157) (as := [_, _, _]) 8 dJ0_checkIndex_df160_5 ml_J0_1059 ms_J3_checkIndex_8e157 (c_ckI (d := d - 1) hj hm) (by omega) rfl (Nat.le_of_ble_eq_true rfl) rfl (kk_i ?_)
  rintro _ _ ⟨rfl, rfl⟩
  refine r_pop 9 dJ0_checkIndex_df160_8 rfl rfl ?_
  exact r_vret dJ0_checkIndex_df160_9 rfl rfl
set_option maxRecDepth 20000 in
set_option maxHeartbeats 4000000 in
theorem c_ch1 {d i j : Nat} {w : zW} (hd : 2 ≤ d) (hi : i < 16) (hj : j < z_sln.getD i 0) : CT mJ1_charAt_3b067 d [.ref (300 + i), .int (nI j)] w (z_i fun x w' => (z_sby.getD i []).getD j 0 = x ∧ w = w') := by
  refine CT.of [some (.ref (300 + i)), some (.int (nI j))] rfl (Nat.le_of_ble_eq_true rfl) rfl ?_
  have h5 := sln_5 i hi
  refine r_iload_n 1 dJ1_charAt_3b067_0 rfl rfl ?_
  refine r_aload_n 2 dJ1_charAt_3b067_1 rfl rfl ?_
  refine r_slen 3 dJ1_charAt_3b067_2 hi rfl ?_
  refine r_callS (y2 := mJ0_checkIndex_df160) (as := [_, _]) 6 dJ1_charAt_3b067_3 ml_J1_9 ms_J0_checkIndex_df160 (c_ckJ (d := d - 1) (by omega) hj (by omega)) (by omega) rfl (Nat.le_of_ble_eq_true rfl) rfl (kk_v ?_)
  rintro _ rfl
  refine r_aload_n 7 dJ1_charAt_3b067_6 rfl rfl ?_
  refine r_iload_n 8 dJ1_charAt_3b067_7 rfl rfl ?_
  refine r_sbal 9 dJ1_charAt_3b067_8 hi hj (by omega) rfl ?_
  refine r_sipush 12 (v := 255) dJ1_charAt_3b067_9 (by decide) rfl ?_
  refine r_iand 13 dJ1_charAt_3b067_12 rfl ?_
  refine r_i2c 14 dJ1_charAt_3b067_13 rfl ?_
  refine r_eq (sby_c i hi j (by omega)) ?_
  exact r_iret .char dJ1_charAt_3b067_14 rfl (sby_n i hi j (by omega)) ⟨rfl, rfl⟩
set_option maxRecDepth 20000 in
set_option maxHeartbeats 4000000 in
theorem c_charAt {d i j : Nat} {w : zW} (hd : 3 ≤ d) (hi : i < 16) (hj : j < z_sln.getD i 0) : CT mJ0_charAt_5068e d [.ref (200 + i), .int (nI j)] w (z_i fun x w' => (z_sby.getD i []).getD j 0 = x ∧ w = w') := by
  refine CT.of [some (.ref (200 + i)), some (.int (nI j))] rfl (Nat.le_of_ble_eq_true rfl) rfl ?_
  have h5 := sln_5 i hi
  refine r_aload_n 1 dJ0_charAt_5068e_0 rfl rfl ?_
  refine r_callK (y2 := mJ0_isLatin1_aae02) (as := []) 4 dJ0_charAt_5068e_1 ml_J0_492 mv_J0_isLatin1_aae02 rfl hi (c_isLatin1 (d := d - 1) hi) (by omega) rfl (Nat.le_of_ble_eq_true rfl) rfl (kk_i ?_)
  rintro _ _ ⟨rfl, rfl⟩
  refine r_if_eq 16 7 dJ0_charAt_5068e_4 (by decide) rfl (fun z => absurd z (by decide)) (fun _ => ?_)
  refine r_aload_n 8 dJ0_charAt_5068e_7 rfl rfl ?_
  refine r_sval 11 dJ0_charAt_5068e_8 rfl hi rfl ?_
  refine r_iload_n 12 dJ0_charAt_5068e_11 rfl rfl ?_
  refine r_callS (y2 := mJ1_charAt_3b067) (as := [_, _]) 15 dJ0_charAt_5068e_12 ml_J0_495 ms_J1_charAt_3b067 (c_ch1 (d := d - 1) (by omega) hi hj) (by omega) rfl (Nat.le_of_ble_eq_true rfl) rfl (kk_i ?_)
  rintro _ _ ⟨rfl, rfl⟩
  exact r_iret .char dJ0_charAt_5068e_15 rfl (sby_n i hi j (by omega)) ⟨rfl, rfl⟩

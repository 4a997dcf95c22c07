theorem y_fell (l : Launch) (G : fw_G) (M : fw_M) (N : Nat) (b : Nat) (hD : md0 G M b) (z1 : Int) (hz1 : -2147483648 ≤ z1 ∧ z1 < 2147483648) : fMet l yX10_fell cX10_fell 4 (some .int) 8 170 0 0 G M N [.ref b, .int (iI z1)] (fw_pi (fun r M1 n1 => mth M1 b (1) ∧ (1 = 0 → r = iI (0)) ∧ ∀ q, b + 7 ≤ q → q < N → M1 q = M q)) := by
  refine fw_met RX10 rfl (by decide +kernel) (Nat.le_of_ble_eq_true rfl) ?_
  intro p e s m args below meth c ls E hr hlk hnm hK hH hz hl
  obtain ⟨hb, m0, _, _, _, _, _⟩ := id hD
  refine lv_aload_n E.1 E.2.1 dX10_fell_0 rfl (lv_at hl 0 rfl) ?_
  refine lv_iconst (v := iI 0) E.1 E.2.1 dX10_fell_1 (by decide) ?_
  refine fw_put E hK hH (by omega) m0 fc_X10 1 (by decide) ql_RX10_163 rfl rfl rfl rfl (Nat.le_of_ble_eq_true rfl) dX10_fell_2 (fun H1 locs1 hH hz1 => ?_)
  replace hz := hz1.trans hz; clear hz1
  obtain ⟨M1, hM2⟩ : ∃ MX, MX = fw_up M b (.inr (10, [.ref (b + 1), .int (iI 0), .ref (b + 2), .int (iI 0), .int (iI 0), .ref (b + 3), .int (iI 0), .ref (b + 4), .ref (b + 5), .int (iI 0), .int (iI 1), .int (iI 0), .ref (b + 6), .int (iI 0), .int (iI 70), .int (iI 20), .int (iI 5), .int (iI 2), .int (iI 1), .int (iI 0), .int (iI 0)])) := ⟨_, rfl⟩
  replace hH := fw_H.nm hM2 hH
  have fr3 : ∀ q, q ≠ b → M1 q = M q := fun q h => by rw [hM2]; exact fw_up_ne h
  have m0 : M1 b = some (.inr (10, [.ref (b + 1), .int (iI 0), .ref (b + 2), .int (iI 0), .int (iI 0), .ref (b + 3), .int (iI 0), .ref (b + 4), .ref (b + 5), .int (iI 0), .int (iI 1), .int (iI 0), .ref (b + 6), .int (iI 0), .int (iI 70), .int (iI 20), .int (iI 5), .int (iI 2), .int (iI 1), .int (iI 0), .int (iI 0)])) := by rw [hM2]; exact fw_up_eq
  refine lv_aload_n E.1 E.2.1 dX10_fell_5 rfl (lv_at hl 0 rfl) ?_
  refine lv_iload_n E.1 E.2.1 dX10_fell_6 rfl (lv_at hl 1 rfl) ?_
  refine fw_cV (As := [.int (iI z1)]) (rest := []) E hK hH hl m0 fc_X10 fL_X10_isTree ql_RX10_169 qi_yX10_isTree qv_yX10_isTree (m_isTree l G _ _ b m0 z1 (by omega)) rfl rfl (Nat.le_of_ble_eq_true rfl) ⟨Nat.le_of_ble_eq_true rfl, Nat.le_of_ble_eq_true rfl⟩ ⟨by show _ ≤ (0 : Nat); omega, by show _ ≤ (0 : Nat); omega⟩ dX10_fell_7 (fw_ki fun r6 M5 H1 locs1 hp4 hH hz1 => ?_)
  obtain ⟨rfl, hM9, hz2⟩ := hp4
  replace hz := hz2.trans hz
  clear hz1 hz2
  rw [hM9] at hH
  refine fw_if_ne (tgt := 19) E dX10_fell_10 (by decide) (by omega) (by omega) (fun c7 => ?_) (fun c7 => ?_)
  · exact absurd c7 (by omega)
  · refine lv_aload_n E.1 E.2.1 dX10_fell_13 rfl (lv_at hl 0 rfl) ?_
    refine lv_iconst (v := iI 1) E.1 E.2.1 dX10_fell_14 (by decide) ?_
    refine fw_cV (As := [.int (iI 1)]) (rest := []) E hK hH hl m0 fc_X10 fL_X10_no ql_RX10_176 qi_yX10_no qv_yX10_no (m_no l G _ _ b (by omega) m0 1) rfl rfl (Nat.le_of_ble_eq_true rfl) ⟨Nat.le_of_ble_eq_true rfl, Nat.le_of_ble_eq_true rfl⟩ ⟨by show _ ≤ (0 : Nat); omega, by show _ ≤ (0 : Nat); omega⟩ dX10_fell_15 (fw_ki fun r10 M9 H1 locs1 hp8 hH hz1 => ?_)
    obtain ⟨rfl, ⟨hmt, hfr⟩, hz2⟩ := hp8
    replace hz := hz2.trans hz
    clear hz1 hz2
    have fr11 := hfr
    refine W.widen (k := 0) (n := 0) (by omega) (by omega) ?_
    refine fw_iret E hr hlk hH ?_ dX10_fell_18
    exact ⟨hmt, fun h => absurd h (by decide), (fun q hq hq2 => by rw [fr11 q (by omega), fr3 q (by omega)])⟩
theorem y_cross (l : Launch) (G : fw_G) (M : fw_M) (N : Nat) (b : Nat) (hD : md0 G M b) (z1 z2 z3 z4 : Int) (hz1 : -2147483648 ≤ z1 ∧ z1 < 2147483648) (hz2 : -2147483648 ≤ z2 ∧ z2 < 2147483648) (hz3 : -2147483648 ≤ z3 ∧ z3 < 2147483648) (hz4 : -2147483648 ≤ z4 ∧ z4 < 2147483648) : fMet l yX10_cross cX10_cross 5 (some .int) 8 170 0 0 G M N [.ref b, .int (iI z1), .int (iI z2), .int (iI z3), .int (iI z4)] (fw_pi (fun r M1 n1 => mth M1 b (1) ∧ (1 = 0 → r = iI (0)) ∧ ∀ q, b + 7 ≤ q → q < N → M1 q = M q)) := by
  refine fw_met RX10 rfl (by decide +kernel) (Nat.le_of_ble_eq_true rfl) ?_
  intro p e s m args below meth c ls E hr hlk hnm hK hH hz hl
  obtain ⟨hb, m0, _, _, _, _, _⟩ := id hD
  refine lv_aload_n E.1 E.2.1 dX10_cross_0 rfl (lv_at hl 0 rfl) ?_
  refine lv_iconst (v := iI 0) E.1 E.2.1 dX10_cross_1 (by decide) ?_
  refine fw_put E hK hH (by omega) m0 fc_X10 1 (by decide) ql_RX10_163 rfl rfl rfl rfl (Nat.le_of_ble_eq_true rfl) dX10_cross_2 (fun H1 locs1 hH hz1 => ?_)
  replace hz := hz1.trans hz; clear hz1
  obtain ⟨M1, hM2⟩ : ∃ MX, MX = fw_up M b (.inr (10, [.ref (b + 1), .int (iI 0), .ref (b + 2), .int (iI 0), .int (iI 0), .ref (b + 3), .int (iI 0), .ref (b + 4), .ref (b + 5), .int (iI 0), .int (iI 1), .int (iI 0), .ref (b + 6), .int (iI 0), .int (iI 70), .int (iI 20), .int (iI 5), .int (iI 2), .int (iI 1), .int (iI 0), .int (iI 0)])) := ⟨_, rfl⟩
  replace hH := fw_H.nm hM2 hH
  have fr3 : ∀ q, q ≠ b → M1 q = M q := fun q h => by rw [hM2]; exact fw_up_ne h
  have m0 : M1 b = some (.inr (10, [.ref (b + 1), .int (iI 0), .ref (b + 2), .int (iI 0), .int (iI 0), .ref (b + 3), .int (iI 0), .ref (b + 4), .ref (b + 5), .int (iI 0), .int (iI 1), .int (iI 0), .ref (b + 6), .int (iI 0), .int (iI 70), .int (iI 20), .int (iI 5), .int (iI 2), .int (iI 1), .int (iI 0), .int (iI 0)])) := by rw [hM2]; exact fw_up_eq
  refine lv_aload_n E.1 E.2.1 dX10_cross_5 rfl (lv_at hl 0 rfl) ?_
  refine lv_iload_n E.1 E.2.1 dX10_cross_6 rfl (lv_at hl 1 rfl) ?_
  refine lv_iload_n E.1 E.2.1 dX10_cross_7 rfl (lv_at hl 2 rfl) ?_
  refine fw_cV (As := [.int (iI z1), .int (iI z2)]) (rest := []) E hK hH hl m0 fc_X10 fL_X10_isPlace ql_RX10_199 qi_yX10_isPlace qv_yX10_isPlace (m_isPlace l G _ _ b m0 z1 z2 (by omega) (by omega)) rfl rfl (Nat.le_of_ble_eq_true rfl) ⟨Nat.le_of_ble_eq_true rfl, Nat.le_of_ble_eq_true rfl⟩ ⟨by show _ ≤ (0 : Nat); omega, by show _ ≤ (0 : Nat); omega⟩ dX10_cross_8 (fw_ki fun r6 M5 H1 locs1 hp4 hH hz1 => ?_)
  obtain ⟨rfl, hM9, hz2⟩ := hp4
  replace hz := hz2.trans hz
  clear hz1 hz2
  rw [hM9] at hH
  refine fw_if_eq (tgt := 24) E dX10_cross_11 (by decide) (by omega) (by omega) (fun c7 => ?_) (fun c7 => ?_)
  · refine lv_aload_n E.1 E.2.1 dX10_cross_24 rfl (lv_at hl 0 rfl) ?_
    refine lv_iconst (v := iI 1) E.1 E.2.1 dX10_cross_25 (by decide) ?_
    refine fw_cV (As := [.int (iI 1)]) (rest := []) E hK hH hl m0 fc_X10 fL_X10_no ql_RX10_176 qi_yX10_no qv_yX10_no (m_no l G _ _ b (by omega) m0 1) rfl rfl (Nat.le_of_ble_eq_true rfl) ⟨Nat.le_of_ble_eq_true rfl, Nat.le_of_ble_eq_true rfl⟩ ⟨by show _ ≤ (0 : Nat); omega, by show _ ≤ (0 : Nat); omega⟩ dX10_cross_26 (fw_ki fun r10 M9 H1 locs1 hp8 hH hz1 => ?_)
    obtain ⟨rfl, ⟨hmt, hfr⟩, hz2⟩ := hp8
    replace hz := hz2.trans hz
    clear hz1 hz2
    have fr11 := hfr
    refine W.widen (k := 0) (n := 0) (by omega) (by omega) ?_
    refine fw_iret E hr hlk hH ?_ dX10_cross_29
    exact ⟨hmt, fun h => absurd h (by decide), (fun q hq hq2 => by rw [fr11 q (by omega), fr3 q (by omega)])⟩
  · exact absurd c7 (by omega)
theorem y_hoist (l : Launch) (G : fw_G) (M : fw_M) (N : Nat) (b : Nat) (hD : md0 G M b) (z1 z2 : Int) (hz1 : -2147483648 ≤ z1 ∧ z1 < 2147483648) (hz2 : -2147483648 ≤ z2 ∧ z2 < 2147483648) : fMet l yX10_hoist cX10_hoist 3 (some .int) 8 170 0 0 G M N [.ref b, .int (iI z1), .int (iI z2)] (fw_pi (fun r M1 n1 => mth M1 b (1) ∧ (1 = 0 → r = iI (0)) ∧ ∀ q, b + 7 ≤ q → q < N → M1 q = M q)) := by
  refine fw_met RX10 rfl (by decide +kernel) (Nat.le_of_ble_eq_true rfl) ?_
  intro p e s m args below meth c ls E hr hlk hnm hK hH hz hl
  obtain ⟨hb, m0, _, _, _, _, _⟩ := id hD
  refine lv_aload_n E.1 E.2.1 dX10_hoist_0 rfl (lv_at hl 0 rfl) ?_
  refine lv_iconst (v := iI 0) E.1 E.2.1 dX10_hoist_1 (by decide) ?_
  refine fw_put E hK hH (by omega) m0 fc_X10 1 (by decide) ql_RX10_163 rfl rfl rfl rfl (Nat.le_of_ble_eq_true rfl) dX10_hoist_2 (fun H1 locs1 hH hz1 => ?_)
  replace hz := hz1.trans hz; clear hz1
  obtain ⟨M1, hM2⟩ : ∃ MX, MX = fw_up M b (.inr (10, [.ref (b + 1), .int (iI 0), .ref (b + 2), .int (iI 0), .int (iI 0), .ref (b + 3), .int (iI 0), .ref (b + 4), .ref (b + 5), .int (iI 0), .int (iI 1), .int (iI 0), .ref (b + 6), .int (iI 0), .int (iI 70), .int (iI 20), .int (iI 5), .int (iI 2), .int (iI 1), .int (iI 0), .int (iI 0)])) := ⟨_, rfl⟩
  replace hH := fw_H.nm hM2 hH
  have fr3 : ∀ q, q ≠ b → M1 q = M q := fun q h => by rw [hM2]; exact fw_up_ne h
  have m0 : M1 b = some (.inr (10, [.ref (b + 1), .int (iI 0), .ref (b + 2), .int (iI 0), .int (iI 0), .ref (b + 3), .int (iI 0), .ref (b + 4), .ref (b + 5), .int (iI 0), .int (iI 1), .int (iI 0), .ref (b + 6), .int (iI 0), .int (iI 70), .int (iI 20), .int (iI 5), .int (iI 2), .int (iI 1), .int (iI 0), .int (iI 0)])) := by rw [hM2]; exact fw_up_eq
  refine lv_aload_n E.1 E.2.1 dX10_hoist_5 rfl (lv_at hl 0 rfl) ?_
  refine lv_iload_n E.1 E.2.1 dX10_hoist_6 rfl (lv_at hl 1 rfl) ?_
  refine lv_iload_n E.1 E.2.1 dX10_hoist_7 rfl (lv_at hl 2 rfl) ?_
  refine fw_cV (As := [.int (iI z1), .int (iI z2)]) (rest := []) E hK hH hl m0 fc_X10 fL_X10_isPlace ql_RX10_199 qi_yX10_isPlace qv_yX10_isPlace (m_isPlace l G _ _ b m0 z1 z2 (by omega) (by omega)) rfl rfl (Nat.le_of_ble_eq_true rfl) ⟨Nat.le_of_ble_eq_true rfl, Nat.le_of_ble_eq_true rfl⟩ ⟨by show _ ≤ (0 : Nat); omega, by show _ ≤ (0 : Nat); omega⟩ dX10_hoist_8 (fw_ki fun r6 M5 H1 locs1 hp4 hH hz1 => ?_)
  obtain ⟨rfl, hM9, hz2⟩ := hp4
  replace hz := hz2.trans hz
  clear hz1 hz2
  rw [hM9] at hH
  refine fw_if_eq (tgt := 32) E dX10_hoist_11 (by decide) (by omega) (by omega) (fun c7 => ?_) (fun c7 => ?_)
  · refine lv_aload_n E.1 E.2.1 dX10_hoist_32 rfl (lv_at hl 0 rfl) ?_
    refine lv_iconst (v := iI 1) E.1 E.2.1 dX10_hoist_33 (by decide) ?_
    refine fw_cV (As := [.int (iI 1)]) (rest := []) E hK hH hl m0 fc_X10 fL_X10_no ql_RX10_176 qi_yX10_no qv_yX10_no (m_no l G _ _ b (by omega) m0 1) rfl rfl (Nat.le_of_ble_eq_true rfl) ⟨Nat.le_of_ble_eq_true rfl, Nat.le_of_ble_eq_true rfl⟩ ⟨by show _ ≤ (0 : Nat); omega, by show _ ≤ (0 : Nat); omega⟩ dX10_hoist_34 (fw_ki fun r10 M9 H1 locs1 hp8 hH hz1 => ?_)
    obtain ⟨rfl, ⟨hmt, hfr⟩, hz2⟩ := hp8
    replace hz := hz2.trans hz
    clear hz1 hz2
    have fr11 := hfr
    refine W.widen (k := 0) (n := 0) (by omega) (by omega) ?_
    refine fw_iret E hr hlk hH ?_ dX10_hoist_37
    exact ⟨hmt, fun h => absurd h (by decide), (fun q hq hq2 => by rw [fr11 q (by omega), fr3 q (by omega)])⟩
  · exact absurd c7 (by omega)
theorem y_recode (l : Launch) (G : fw_G) (M : fw_M) (N : Nat) (b : Nat) (hD : md0 G M b) (z1 z2 z3 z4 : Int) (hz1 : -2147483648 ≤ z1 ∧ z1 < 2147483648) (hz2 : -2147483648 ≤ z2 ∧ z2 < 2147483648) (hz3 : -2147483648 ≤ z3 ∧ z3 < 2147483648) (hz4 : -2147483648 ≤ z4 ∧ z4 < 2147483648) : fMet l yX10_recode cX10_recode 6 (some .int) 8 170 0 0 G M N [.ref b, .int (iI z1), .int (iI z2), .int (iI z3), .int (iI z4)] (fw_pi (fun r M1 n1 => mth M1 b (1) ∧ (1 = 0 → r = iI (0)) ∧ ∀ q, b + 7 ≤ q → q < N → M1 q = M q)) := by
  refine fw_met RX10 rfl (by decide +kernel) (Nat.le_of_ble_eq_true rfl) ?_
  intro p e s m args below meth c ls E hr hlk hnm hK hH hz hl
  obtain ⟨hb, m0, _, _, _, _, _⟩ := id hD
  refine lv_aload_n E.1 E.2.1 dX10_recode_0 rfl (lv_at hl 0 rfl) ?_
  refine lv_iconst (v := iI 0) E.1 E.2.1 dX10_recode_1 (by decide) ?_
  refine fw_put E hK hH (by omega) m0 fc_X10 1 (by decide) ql_RX10_163 rfl rfl rfl rfl (Nat.le_of_ble_eq_true rfl) dX10_recode_2 (fun H1 locs1 hH hz1 => ?_)
  replace hz := hz1.trans hz; clear hz1
  obtain ⟨M1, hM2⟩ : ∃ MX, MX = fw_up M b (.inr (10, [.ref (b + 1), .int (iI 0), .ref (b + 2), .int (iI 0), .int (iI 0), .ref (b + 3), .int (iI 0), .ref (b + 4), .ref (b + 5), .int (iI 0), .int (iI 1), .int (iI 0), .ref (b + 6), .int (iI 0), .int (iI 70), .int (iI 20), .int (iI 5), .int (iI 2), .int (iI 1), .int (iI 0), .int (iI 0)])) := ⟨_, rfl⟩
  replace hH := fw_H.nm hM2 hH
  have fr3 : ∀ q, q ≠ b → M1 q = M q := fun q h => by rw [hM2]; exact fw_up_ne h
  have m0 : M1 b = some (.inr (10, [.ref (b + 1), .int (iI 0), .ref (b + 2), .int (iI 0), .int (iI 0), .ref (b + 3), .int (iI 0), .ref (b + 4), .ref (b + 5), .int (iI 0), .int (iI 1), .int (iI 0), .ref (b + 6), .int (iI 0), .int (iI 70), .int (iI 20), .int (iI 5), .int (iI 2), .int (iI 1), .int (iI 0), .int (iI 0)])) := by rw [hM2]; exact fw_up_eq
  refine lv_aload_n E.1 E.2.1 dX10_recode_5 rfl (lv_at hl 0 rfl) ?_
  refine lv_iload_n E.1 E.2.1 dX10_recode_6 rfl (lv_at hl 1 rfl) ?_
  refine lv_iload_n E.1 E.2.1 dX10_recode_7 rfl (lv_at hl 2 rfl) ?_
  refine fw_cV (As := [.int (iI z1), .int (iI z2)]) (rest := []) E hK hH hl m0 fc_X10 fL_X10_isPlace ql_RX10_199 qi_yX10_isPlace qv_yX10_isPlace (m_isPlace l G _ _ b m0 z1 z2 (by omega) (by omega)) rfl rfl (Nat.le_of_ble_eq_true rfl) ⟨Nat.le_of_ble_eq_true rfl, Nat.le_of_ble_eq_true rfl⟩ ⟨by show _ ≤ (0 : Nat); omega, by show _ ≤ (0 : Nat); omega⟩ dX10_recode_8 (fw_ki fun r6 M5 H1 locs1 hp4 hH hz1 => ?_)
  obtain ⟨rfl, hM9, hz2⟩ := hp4
  replace hz := hz2.trans hz
  clear hz1 hz2
  rw [hM9] at hH
  refine fw_if_ne (tgt := 20) E dX10_recode_11 (by decide) (by omega) (by omega) (fun c7 => ?_) (fun c7 => ?_)
  · exact absurd c7 (by omega)
  · refine lv_aload_n E.1 E.2.1 dX10_recode_14 rfl (lv_at hl 0 rfl) ?_
    refine lv_iconst (v := iI 1) E.1 E.2.1 dX10_recode_15 (by decide) ?_
    refine fw_cV (As := [.int (iI 1)]) (rest := []) E hK hH hl m0 fc_X10 fL_X10_no ql_RX10_176 qi_yX10_no qv_yX10_no (m_no l G _ _ b (by omega) m0 1) rfl rfl (Nat.le_of_ble_eq_true rfl) ⟨Nat.le_of_ble_eq_true rfl, Nat.le_of_ble_eq_true rfl⟩ ⟨by show _ ≤ (0 : Nat); omega, by show _ ≤ (0 : Nat); omega⟩ dX10_recode_16 (fw_ki fun r10 M9 H1 locs1 hp8 hH hz1 => ?_)
    obtain ⟨rfl, ⟨hmt, hfr⟩, hz2⟩ := hp8
    replace hz := hz2.trans hz
    clear hz1 hz2
    have fr11 := hfr
    refine W.widen (k := 0) (n := 0) (by omega) (by omega) ?_
    refine fw_iret E hr hlk hH ?_ dX10_recode_19
    exact ⟨hmt, fun h => absurd h (by decide), (fun q hq hq2 => by rw [fr11 q (by omega), fr3 q (by omega)])⟩
theorem y_wither (l : Launch) (G : fw_G) (M : fw_M) (N : Nat) (b : Nat) (hD : md0 G M b) (z1 z2 z3 : Int) (hz1 : -2147483648 ≤ z1 ∧ z1 < 2147483648) (hz2 : -2147483648 ≤ z2 ∧ z2 < 2147483648) (hz3 : -2147483648 ≤ z3 ∧ z3 < 2147483648) : fMet l yX10_wither cX10_wither 4 (some .int) 8 170 0 0 G M N [.ref b, .int (iI z1), .int (iI z2), .int (iI z3)] (fw_pi (fun r M1 n1 => mth M1 b (1) ∧ (1 = 0 → r = iI (0)) ∧ ∀ q, b + 7 ≤ q → q < N → M1 q = M q)) := by
  refine fw_met RX10 rfl (by decide +kernel) (Nat.le_of_ble_eq_true rfl) ?_
  intro p e s m args below meth c ls E hr hlk hnm hK hH hz hl
  obtain ⟨hb, m0, _, _, _, _, _⟩ := id hD
  refine lv_aload_n E.1 E.2.1 dX10_wither_0 rfl (lv_at hl 0 rfl) ?_
  refine lv_iconst (v := iI 0) E.1 E.2.1 dX10_wither_1 (by decide) ?_
  refine fw_put E hK hH (by omega) m0 fc_X10 1 (by decide) ql_RX10_163 rfl rfl rfl rfl (Nat.le_of_ble_eq_true rfl) dX10_wither_2 (fun H1 locs1 hH hz1 => ?_)
  replace hz := hz1.trans hz; clear hz1
  obtain ⟨M1, hM2⟩ : ∃ MX, MX = fw_up M b (.inr (10, [.ref (b + 1), .int (iI 0), .ref (b + 2), .int (iI 0), .int (iI 0), .ref (b + 3), .int (iI 0), .ref (b + 4), .ref (b + 5), .int (iI 0), .int (iI 1), .int (iI 0), .ref (b + 6), .int (iI 0), .int (iI 70), .int (iI 20), .int (iI 5), .int (iI 2), .int (iI 1), .int (iI 0), .int (iI 0)])) := ⟨_, rfl⟩
  replace hH := fw_H.nm hM2 hH
  have fr3 : ∀ q, q ≠ b → M1 q = M q := fun q h => by rw [hM2]; exact fw_up_ne h
  have m0 : M1 b = some (.inr (10, [.ref (b + 1), .int (iI 0), .ref (b + 2), .int (iI 0), .int (iI 0), .ref (b + 3), .int (iI 0), .ref (b + 4), .ref (b + 5), .int (iI 0), .int (iI 1), .int (iI 0), .ref (b + 6), .int (iI 0), .int (iI 70), .int (iI 20), .int (iI 5), .int (iI 2), .int (iI 1), .int (iI 0), .int (iI 0)])) := by rw [hM2]; exact fw_up_eq
  refine lv_aload_n E.1 E.2.1 dX10_wither_5 rfl (lv_at hl 0 rfl) ?_
  refine lv_iload_n E.1 E.2.1 dX10_wither_6 rfl (lv_at hl 1 rfl) ?_
  refine lv_iload_n E.1 E.2.1 dX10_wither_7 rfl (lv_at hl 2 rfl) ?_
  refine fw_cV (As := [.int (iI z1), .int (iI z2)]) (rest := []) E hK hH hl m0 fc_X10 fL_X10_isPlace ql_RX10_199 qi_yX10_isPlace qv_yX10_isPlace (m_isPlace l G _ _ b m0 z1 z2 (by omega) (by omega)) rfl rfl (Nat.le_of_ble_eq_true rfl) ⟨Nat.le_of_ble_eq_true rfl, Nat.le_of_ble_eq_true rfl⟩ ⟨by show _ ≤ (0 : Nat); omega, by show _ ≤ (0 : Nat); omega⟩ dX10_wither_8 (fw_ki fun r6 M5 H1 locs1 hp4 hH hz1 => ?_)
  obtain ⟨rfl, hM9, hz2⟩ := hp4
  replace hz := hz2.trans hz
  clear hz1 hz2
  rw [hM9] at hH
  refine fw_if_ne (tgt := 20) E dX10_wither_11 (by decide) (by omega) (by omega) (fun c7 => ?_) (fun c7 => ?_)
  · exact absurd c7 (by omega)
  · refine lv_aload_n E.1 E.2.1 dX10_wither_14 rfl (lv_at hl 0 rfl) ?_
    refine lv_iconst (v := iI 1) E.1 E.2.1 dX10_wither_15 (by decide) ?_
    refine fw_cV (As := [.int (iI 1)]) (rest := []) E hK hH hl m0 fc_X10 fL_X10_no ql_RX10_176 qi_yX10_no qv_yX10_no (m_no l G _ _ b (by omega) m0 1) rfl rfl (Nat.le_of_ble_eq_true rfl) ⟨Nat.le_of_ble_eq_true rfl, Nat.le_of_ble_eq_true rfl⟩ ⟨by show _ ≤ (0 : Nat); omega, by show _ ≤ (0 : Nat); omega⟩ dX10_wither_16 (fw_ki fun r10 M9 H1 locs1 hp8 hH hz1 => ?_)
    obtain ⟨rfl, ⟨hmt, hfr⟩, hz2⟩ := hp8
    replace hz := hz2.trans hz
    clear hz1 hz2
    have fr11 := hfr
    refine W.widen (k := 0) (n := 0) (by omega) (by omega) ?_
    refine fw_iret E hr hlk hH ?_ dX10_wither_19
    exact ⟨hmt, fun h => absurd h (by decide), (fun q hq hq2 => by rw [fr11 q (by omega), fr3 q (by omega)])⟩
theorem y_simplify (l : Launch) (G : fw_G) (M : fw_M) (N : Nat) (b : Nat) (hD : md0 G M b) (z1 : Int) (hz1 : -2147483648 ≤ z1 ∧ z1 < 2147483648) : fMet l yX10_simplify cX10_simplify 3 (some .int) 8 170 0 0 G M N [.ref b, .int (iI z1)] (fw_pi (fun r M1 n1 => mth M1 b (1) ∧ (1 = 0 → r = iI (0)) ∧ ∀ q, b + 7 ≤ q → q < N → M1 q = M q)) := by
  refine fw_met RX10 rfl (by decide +kernel) (Nat.le_of_ble_eq_true rfl) ?_
  intro p e s m args below meth c ls E hr hlk hnm hK hH hz hl
  obtain ⟨hb, m0, _, _, _, _, _⟩ := id hD
  refine lv_aload_n E.1 E.2.1 dX10_simplify_0 rfl (lv_at hl 0 rfl) ?_
  refine lv_iconst (v := iI 0) E.1 E.2.1 dX10_simplify_1 (by decide) ?_
  refine fw_put E hK hH (by omega) m0 fc_X10 1 (by decide) ql_RX10_163 rfl rfl rfl rfl (Nat.le_of_ble_eq_true rfl) dX10_simplify_2 (fun H1 locs1 hH hz1 => ?_)
  replace hz := hz1.trans hz; clear hz1
  obtain ⟨M1, hM2⟩ : ∃ MX, MX = fw_up M b (.inr (10, [.ref (b + 1), .int (iI 0), .ref (b + 2), .int (iI 0), .int (iI 0), .ref (b + 3), .int (iI 0), .ref (b + 4), .ref (b + 5), .int (iI 0), .int (iI 1), .int (iI 0), .ref (b + 6), .int (iI 0), .int (iI 70), .int (iI 20), .int (iI 5), .int (iI 2), .int (iI 1), .int (iI 0), .int (iI 0)])) := ⟨_, rfl⟩
  replace hH := fw_H.nm hM2 hH
  have fr3 : ∀ q, q ≠ b → M1 q = M q := fun q h => by rw [hM2]; exact fw_up_ne h
  have m0 : M1 b = some (.inr (10, [.ref (b + 1), .int (iI 0), .ref (b + 2), .int (iI 0), .int (iI 0), .ref (b + 3), .int (iI 0), .ref (b + 4), .ref (b + 5), .int (iI 0), .int (iI 1), .int (iI 0), .ref (b + 6), .int (iI 0), .int (iI 70), .int (iI 20), .int (iI 5), .int (iI 2), .int (iI 1), .int (iI 0), .int (iI 0)])) := by rw [hM2]; exact fw_up_eq
  refine lv_aload_n E.1 E.2.1 dX10_simplify_5 rfl (lv_at hl 0 rfl) ?_
  refine lv_iload_n E.1 E.2.1 dX10_simplify_6 rfl (lv_at hl 1 rfl) ?_
  refine fw_cV (As := [.int (iI z1)]) (rest := []) E hK hH hl m0 fc_X10 fL_X10_isTree ql_RX10_169 qi_yX10_isTree qv_yX10_isTree (m_isTree l G _ _ b m0 z1 (by omega)) rfl rfl (Nat.le_of_ble_eq_true rfl) ⟨Nat.le_of_ble_eq_true rfl, Nat.le_of_ble_eq_true rfl⟩ ⟨by show _ ≤ (0 : Nat); omega, by show _ ≤ (0 : Nat); omega⟩ dX10_simplify_7 (fw_ki fun r6 M5 H1 locs1 hp4 hH hz1 => ?_)
  obtain ⟨rfl, hM9, hz2⟩ := hp4
  replace hz := hz2.trans hz
  clear hz1 hz2
  rw [hM9] at hH
  refine fw_if_ne (tgt := 19) E dX10_simplify_10 (by decide) (by omega) (by omega) (fun c7 => ?_) (fun c7 => ?_)
  · exact absurd c7 (by omega)
  · refine lv_aload_n E.1 E.2.1 dX10_simplify_13 rfl (lv_at hl 0 rfl) ?_
    refine lv_iconst (v := iI 1) E.1 E.2.1 dX10_simplify_14 (by decide) ?_
    refine fw_cV (As := [.int (iI 1)]) (rest := []) E hK hH hl m0 fc_X10 fL_X10_no ql_RX10_176 qi_yX10_no qv_yX10_no (m_no l G _ _ b (by omega) m0 1) rfl rfl (Nat.le_of_ble_eq_true rfl) ⟨Nat.le_of_ble_eq_true rfl, Nat.le_of_ble_eq_true rfl⟩ ⟨by show _ ≤ (0 : Nat); omega, by show _ ≤ (0 : Nat); omega⟩ dX10_simplify_15 (fw_ki fun r10 M9 H1 locs1 hp8 hH hz1 => ?_)
    obtain ⟨rfl, ⟨hmt, hfr⟩, hz2⟩ := hp8
    replace hz := hz2.trans hz
    clear hz1 hz2
    have fr11 := hfr
    refine W.widen (k := 0) (n := 0) (by omega) (by omega) ?_
    refine fw_iret E hr hlk hH ?_ dX10_simplify_18
    exact ⟨hmt, fun h => absurd h (by decide), (fun q hq hq2 => by rw [fr11 q (by omega), fr3 q (by omega)])⟩
theorem y_size (l : Launch) (G : fw_G) (M : fw_M) (N : Nat) (b : Nat) (hD : md0 G M b) (z1 : Int) (hz1 : -2147483648 ≤ z1 ∧ z1 < 2147483648) : fMet l yX10_size cX10_size 2 (some .int) 8 170 0 0 G M N [.ref b, .int (iI z1)] (fw_pi (fun r M1 n1 => mth M1 b (1) ∧ (1 = 0 → r = iI (0)) ∧ ∀ q, b + 7 ≤ q → q < N → M1 q = M q)) := by
  refine fw_met RX10 rfl (by decide +kernel) (Nat.le_of_ble_eq_true rfl) ?_
  intro p e s m args below meth c ls E hr hlk hnm hK hH hz hl
  obtain ⟨hb, m0, _, _, _, _, _⟩ := id hD
  refine lv_aload_n E.1 E.2.1 dX10_size_0 rfl (lv_at hl 0 rfl) ?_
  refine lv_iconst (v := iI 0) E.1 E.2.1 dX10_size_1 (by decide) ?_
  refine fw_put E hK hH (by omega) m0 fc_X10 1 (by decide) ql_RX10_163 rfl rfl rfl rfl (Nat.le_of_ble_eq_true rfl) dX10_size_2 (fun H1 locs1 hH hz1 => ?_)
  replace hz := hz1.trans hz; clear hz1
  obtain ⟨M1, hM2⟩ : ∃ MX, MX = fw_up M b (.inr (10, [.ref (b + 1), .int (iI 0), .ref (b + 2), .int (iI 0), .int (iI 0), .ref (b + 3), .int (iI 0), .ref (b + 4), .ref (b + 5), .int (iI 0), .int (iI 1), .int (iI 0), .ref (b + 6), .int (iI 0), .int (iI 70), .int (iI 20), .int (iI 5), .int (iI 2), .int (iI 1), .int (iI 0), .int (iI 0)])) := ⟨_, rfl⟩
  replace hH := fw_H.nm hM2 hH
  have fr3 : ∀ q, q ≠ b → M1 q = M q := fun q h => by rw [hM2]; exact fw_up_ne h
  have m0 : M1 b = some (.inr (10, [.ref (b + 1), .int (iI 0), .ref (b + 2), .int (iI 0), .int (iI 0), .ref (b + 3), .int (iI 0), .ref (b + 4), .ref (b + 5), .int (iI 0), .int (iI 1), .int (iI 0), .ref (b + 6), .int (iI 0), .int (iI 70), .int (iI 20), .int (iI 5), .int (iI 2), .int (iI 1), .int (iI 0), .int (iI 0)])) := by rw [hM2]; exact fw_up_eq
  refine lv_aload_n E.1 E.2.1 dX10_size_5 rfl (lv_at hl 0 rfl) ?_
  refine lv_iload_n E.1 E.2.1 dX10_size_6 rfl (lv_at hl 1 rfl) ?_
  refine fw_cV (As := [.int (iI z1)]) (rest := []) E hK hH hl m0 fc_X10 fL_X10_isTree ql_RX10_169 qi_yX10_isTree qv_yX10_isTree (m_isTree l G _ _ b m0 z1 (by omega)) rfl rfl (Nat.le_of_ble_eq_true rfl) ⟨Nat.le_of_ble_eq_true rfl, Nat.le_of_ble_eq_true rfl⟩ ⟨by show _ ≤ (0 : Nat); omega, by show _ ≤ (0 : Nat); omega⟩ dX10_size_7 (fw_ki fun r6 M5 H1 locs1 hp4 hH hz1 => ?_)
  obtain ⟨rfl, hM9, hz2⟩ := hp4
  replace hz := hz2.trans hz
  clear hz1 hz2
  rw [hM9] at hH
  refine fw_if_eq (tgt := 23) E dX10_size_10 (by decide) (by omega) (by omega) (fun c7 => ?_) (fun c7 => ?_)
  · refine lv_aload_n E.1 E.2.1 dX10_size_23 rfl (lv_at hl 0 rfl) ?_
    refine lv_iconst (v := iI 1) E.1 E.2.1 dX10_size_24 (by decide) ?_
    refine fw_cV (As := [.int (iI 1)]) (rest := []) E hK hH hl m0 fc_X10 fL_X10_no ql_RX10_176 qi_yX10_no qv_yX10_no (m_no l G _ _ b (by omega) m0 1) rfl rfl (Nat.le_of_ble_eq_true rfl) ⟨Nat.le_of_ble_eq_true rfl, Nat.le_of_ble_eq_true rfl⟩ ⟨by show _ ≤ (0 : Nat); omega, by show _ ≤ (0 : Nat); omega⟩ dX10_size_25 (fw_ki fun r10 M9 H1 locs1 hp8 hH hz1 => ?_)
    obtain ⟨rfl, ⟨hmt, hfr⟩, hz2⟩ := hp8
    replace hz := hz2.trans hz
    clear hz1 hz2
    have fr11 := hfr
    refine W.widen (k := 0) (n := 0) (by omega) (by omega) ?_
    refine fw_iret E hr hlk hH ?_ dX10_size_28
    exact ⟨hmt, fun h => absurd h (by decide), (fun q hq hq2 => by rw [fr11 q (by omega), fr3 q (by omega)])⟩
  · exact absurd c7 (by omega)
theorem y_depth (l : Launch) (G : fw_G) (M : fw_M) (N : Nat) (b : Nat) (hD : md0 G M b) (z1 : Int) (hz1 : -2147483648 ≤ z1 ∧ z1 < 2147483648) : fMet l yX10_depth cX10_depth 2 (some .int) 8 170 0 0 G M N [.ref b, .int (iI z1)] (fw_pi (fun r M1 n1 => mth M1 b (1) ∧ (1 = 0 → r = iI (0)) ∧ ∀ q, b + 7 ≤ q → q < N → M1 q = M q)) := by
  refine fw_met RX10 rfl (by decide +kernel) (Nat.le_of_ble_eq_true rfl) ?_
  intro p e s m args below meth c ls E hr hlk hnm hK hH hz hl
  obtain ⟨hb, m0, _, _, _, _, _⟩ := id hD
  refine lv_aload_n E.1 E.2.1 dX10_depth_0 rfl (lv_at hl 0 rfl) ?_
  refine lv_iconst (v := iI 0) E.1 E.2.1 dX10_depth_1 (by decide) ?_
  refine fw_put E hK hH (by omega) m0 fc_X10 1 (by decide) ql_RX10_163 rfl rfl rfl rfl (Nat.le_of_ble_eq_true rfl) dX10_depth_2 (fun H1 locs1 hH hz1 => ?_)
  replace hz := hz1.trans hz; clear hz1
  obtain ⟨M1, hM2⟩ : ∃ MX, MX = fw_up M b (.inr (10, [.ref (b + 1), .int (iI 0), .ref (b + 2), .int (iI 0), .int (iI 0), .ref (b + 3), .int (iI 0), .ref (b + 4), .ref (b + 5), .int (iI 0), .int (iI 1), .int (iI 0), .ref (b + 6), .int (iI 0), .int (iI 70), .int (iI 20), .int (iI 5), .int (iI 2), .int (iI 1), .int (iI 0), .int (iI 0)])) := ⟨_, rfl⟩
  replace hH := fw_H.nm hM2 hH
  have fr3 : ∀ q, q ≠ b → M1 q = M q := fun q h => by rw [hM2]; exact fw_up_ne h
  have m0 : M1 b = some (.inr (10, [.ref (b + 1), .int (iI 0), .ref (b + 2), .int (iI 0), .int (iI 0), .ref (b + 3), .int (iI 0), .ref (b + 4), .ref (b + 5), .int (iI 0), .int (iI 1), .int (iI 0), .ref (b + 6), .int (iI 0), .int (iI 70), .int (iI 20), .int (iI 5), .int (iI 2), .int (iI 1), .int (iI 0), .int (iI 0)])) := by rw [hM2]; exact fw_up_eq
  refine lv_aload_n E.1 E.2.1 dX10_depth_5 rfl (lv_at hl 0 rfl) ?_
  refine lv_iload_n E.1 E.2.1 dX10_depth_6 rfl (lv_at hl 1 rfl) ?_
  refine fw_cV (As := [.int (iI z1)]) (rest := []) E hK hH hl m0 fc_X10 fL_X10_isTree ql_RX10_169 qi_yX10_isTree qv_yX10_isTree (m_isTree l G _ _ b m0 z1 (by omega)) rfl rfl (Nat.le_of_ble_eq_true rfl) ⟨Nat.le_of_ble_eq_true rfl, Nat.le_of_ble_eq_true rfl⟩ ⟨by show _ ≤ (0 : Nat); omega, by show _ ≤ (0 : Nat); omega⟩ dX10_depth_7 (fw_ki fun r6 M5 H1 locs1 hp4 hH hz1 => ?_)
  obtain ⟨rfl, hM9, hz2⟩ := hp4
  replace hz := hz2.trans hz
  clear hz1 hz2
  rw [hM9] at hH
  refine fw_if_eq (tgt := 25) E dX10_depth_10 (by decide) (by omega) (by omega) (fun c7 => ?_) (fun c7 => ?_)
  · refine lv_aload_n E.1 E.2.1 dX10_depth_25 rfl (lv_at hl 0 rfl) ?_
    refine lv_iconst (v := iI 1) E.1 E.2.1 dX10_depth_26 (by decide) ?_
    refine fw_cV (As := [.int (iI 1)]) (rest := []) E hK hH hl m0 fc_X10 fL_X10_no ql_RX10_176 qi_yX10_no qv_yX10_no (m_no l G _ _ b (by omega) m0 1) rfl rfl (Nat.le_of_ble_eq_true rfl) ⟨Nat.le_of_ble_eq_true rfl, Nat.le_of_ble_eq_true rfl⟩ ⟨by show _ ≤ (0 : Nat); omega, by show _ ≤ (0 : Nat); omega⟩ dX10_depth_27 (fw_ki fun r10 M9 H1 locs1 hp8 hH hz1 => ?_)
    obtain ⟨rfl, ⟨hmt, hfr⟩, hz2⟩ := hp8
    replace hz := hz2.trans hz
    clear hz1 hz2
    have fr11 := hfr
    refine W.widen (k := 0) (n := 0) (by omega) (by omega) ?_
    refine fw_iret E hr hlk hH ?_ dX10_depth_30
    exact ⟨hmt, fun h => absurd h (by decide), (fun q hq hq2 => by rw [fr11 q (by omega), fr3 q (by omega)])⟩
  · exact absurd c7 (by omega)
theorem y_codeAt (l : Launch) (G : fw_G) (M : fw_M) (N : Nat) (b : Nat) (hD : md0 G M b) (z1 z2 : Int) (hz1 : -2147483648 ≤ z1 ∧ z1 < 2147483648) (hz2 : -2147483648 ≤ z2 ∧ z2 < 2147483648) : fMet l yX10_codeAt cX10_codeAt 3 (some .int) 8 170 0 0 G M N [.ref b, .int (iI z1), .int (iI z2)] (fw_pi (fun r M1 n1 => mth M1 b (1) ∧ (1 = 0 → r = iI (0)) ∧ ∀ q, b + 7 ≤ q → q < N → M1 q = M q)) := by
  refine fw_met RX10 rfl (by decide +kernel) (Nat.le_of_ble_eq_true rfl) ?_
  intro p e s m args below meth c ls E hr hlk hnm hK hH hz hl
  obtain ⟨hb, m0, _, _, _, _, _⟩ := id hD
  refine lv_aload_n E.1 E.2.1 dX10_codeAt_0 rfl (lv_at hl 0 rfl) ?_
  refine lv_iconst (v := iI 0) E.1 E.2.1 dX10_codeAt_1 (by decide) ?_
  refine fw_put E hK hH (by omega) m0 fc_X10 1 (by decide) ql_RX10_163 rfl rfl rfl rfl (Nat.le_of_ble_eq_true rfl) dX10_codeAt_2 (fun H1 locs1 hH hz1 => ?_)
  replace hz := hz1.trans hz; clear hz1
  obtain ⟨M1, hM2⟩ : ∃ MX, MX = fw_up M b (.inr (10, [.ref (b + 1), .int (iI 0), .ref (b + 2), .int (iI 0), .int (iI 0), .ref (b + 3), .int (iI 0), .ref (b + 4), .ref (b + 5), .int (iI 0), .int (iI 1), .int (iI 0), .ref (b + 6), .int (iI 0), .int (iI 70), .int (iI 20), .int (iI 5), .int (iI 2), .int (iI 1), .int (iI 0), .int (iI 0)])) := ⟨_, rfl⟩
  replace hH := fw_H.nm hM2 hH
  have fr3 : ∀ q, q ≠ b → M1 q = M q := fun q h => by rw [hM2]; exact fw_up_ne h
  have m0 : M1 b = some (.inr (10, [.ref (b + 1), .int (iI 0), .ref (b + 2), .int (iI 0), .int (iI 0), .ref (b + 3), .int (iI 0), .ref (b + 4), .ref (b + 5), .int (iI 0), .int (iI 1), .int (iI 0), .ref (b + 6), .int (iI 0), .int (iI 70), .int (iI 20), .int (iI 5), .int (iI 2), .int (iI 1), .int (iI 0), .int (iI 0)])) := by rw [hM2]; exact fw_up_eq
  refine lv_aload_n E.1 E.2.1 dX10_codeAt_5 rfl (lv_at hl 0 rfl) ?_
  refine lv_iload_n E.1 E.2.1 dX10_codeAt_6 rfl (lv_at hl 1 rfl) ?_
  refine lv_iload_n E.1 E.2.1 dX10_codeAt_7 rfl (lv_at hl 2 rfl) ?_
  refine fw_cV (As := [.int (iI z1), .int (iI z2)]) (rest := []) E hK hH hl m0 fc_X10 fL_X10_isPlace ql_RX10_199 qi_yX10_isPlace qv_yX10_isPlace (m_isPlace l G _ _ b m0 z1 z2 (by omega) (by omega)) rfl rfl (Nat.le_of_ble_eq_true rfl) ⟨Nat.le_of_ble_eq_true rfl, Nat.le_of_ble_eq_true rfl⟩ ⟨by show _ ≤ (0 : Nat); omega, by show _ ≤ (0 : Nat); omega⟩ dX10_codeAt_8 (fw_ki fun r6 M5 H1 locs1 hp4 hH hz1 => ?_)
  obtain ⟨rfl, hM9, hz2⟩ := hp4
  replace hz := hz2.trans hz
  clear hz1 hz2
  rw [hM9] at hH
  refine fw_if_eq (tgt := 28) E dX10_codeAt_11 (by decide) (by omega) (by omega) (fun c7 => ?_) (fun c7 => ?_)
  · refine lv_aload_n E.1 E.2.1 dX10_codeAt_28 rfl (lv_at hl 0 rfl) ?_
    refine lv_iconst (v := iI 1) E.1 E.2.1 dX10_codeAt_29 (by decide) ?_
    refine fw_cV (As := [.int (iI 1)]) (rest := []) E hK hH hl m0 fc_X10 fL_X10_no ql_RX10_176 qi_yX10_no qv_yX10_no (m_no l G _ _ b (by omega) m0 1) rfl rfl (Nat.le_of_ble_eq_true rfl) ⟨Nat.le_of_ble_eq_true rfl, Nat.le_of_ble_eq_true rfl⟩ ⟨by show _ ≤ (0 : Nat); omega, by show _ ≤ (0 : Nat); omega⟩ dX10_codeAt_30 (fw_ki fun r10 M9 H1 locs1 hp8 hH hz1 => ?_)
    obtain ⟨rfl, ⟨hmt, hfr⟩, hz2⟩ := hp8
    replace hz := hz2.trans hz
    clear hz1 hz2
    have fr11 := hfr
    refine W.widen (k := 0) (n := 0) (by omega) (by omega) ?_
    refine fw_iret E hr hlk hH ?_ dX10_codeAt_33
    exact ⟨hmt, fun h => absurd h (by decide), (fun q hq hq2 => by rw [fr11 q (by omega), fr3 q (by omega)])⟩
  · exact absurd c7 (by omega)
theorem y_valueAt (l : Launch) (G : fw_G) (M : fw_M) (N : Nat) (b : Nat) (hD : md0 G M b) (z1 z2 : Int) (hz1 : -2147483648 ≤ z1 ∧ z1 < 2147483648) (hz2 : -2147483648 ≤ z2 ∧ z2 < 2147483648) : fMet l yX10_valueAt cX10_valueAt 3 (some .int) 8 170 0 0 G M N [.ref b, .int (iI z1), .int (iI z2)] (fw_pi (fun r M1 n1 => mth M1 b (1) ∧ (1 = 0 → r = iI (0)) ∧ ∀ q, b + 7 ≤ q → q < N → M1 q = M q)) := by
  refine fw_met RX10 rfl (by decide +kernel) (Nat.le_of_ble_eq_true rfl) ?_
  intro p e s m args below meth c ls E hr hlk hnm hK hH hz hl
  obtain ⟨hb, m0, _, _, _, _, _⟩ := id hD
  refine lv_aload_n E.1 E.2.1 dX10_valueAt_0 rfl (lv_at hl 0 rfl) ?_
  refine lv_iconst (v := iI 0) E.1 E.2.1 dX10_valueAt_1 (by decide) ?_
  refine fw_put E hK hH (by omega) m0 fc_X10 1 (by decide) ql_RX10_163 rfl rfl rfl rfl (Nat.le_of_ble_eq_true rfl) dX10_valueAt_2 (fun H1 locs1 hH hz1 => ?_)
  replace hz := hz1.trans hz; clear hz1
  obtain ⟨M1, hM2⟩ : ∃ MX, MX = fw_up M b (.inr (10, [.ref (b + 1), .int (iI 0), .ref (b + 2), .int (iI 0), .int (iI 0), .ref (b + 3), .int (iI 0), .ref (b + 4), .ref (b + 5), .int (iI 0), .int (iI 1), .int (iI 0), .ref (b + 6), .int (iI 0), .int (iI 70), .int (iI 20), .int (iI 5), .int (iI 2), .int (iI 1), .int (iI 0), .int (iI 0)])) := ⟨_, rfl⟩
  replace hH := fw_H.nm hM2 hH
  have fr3 : ∀ q, q ≠ b → M1 q = M q := fun q h => by rw [hM2]; exact fw_up_ne h
  have m0 : M1 b = some (.inr (10, [.ref (b + 1), .int (iI 0), .ref (b + 2), .int (iI 0), .int (iI 0), .ref (b + 3), .int (iI 0), .ref (b + 4), .ref (b + 5), .int (iI 0), .int (iI 1), .int (iI 0), .ref (b + 6), .int (iI 0), .int (iI 70), .int (iI 20), .int (iI 5), .int (iI 2), .int (iI 1), .int (iI 0), .int (iI 0)])) := by rw [hM2]; exact fw_up_eq
  refine lv_aload_n E.1 E.2.1 dX10_valueAt_5 rfl (lv_at hl 0 rfl) ?_
  refine lv_iload_n E.1 E.2.1 dX10_valueAt_6 rfl (lv_at hl 1 rfl) ?_
  refine lv_iload_n E.1 E.2.1 dX10_valueAt_7 rfl (lv_at hl 2 rfl) ?_
  refine fw_cV (As := [.int (iI z1), .int (iI z2)]) (rest := []) E hK hH hl m0 fc_X10 fL_X10_isPlace ql_RX10_199 qi_yX10_isPlace qv_yX10_isPlace (m_isPlace l G _ _ b m0 z1 z2 (by omega) (by omega)) rfl rfl (Nat.le_of_ble_eq_true rfl) ⟨Nat.le_of_ble_eq_true rfl, Nat.le_of_ble_eq_true rfl⟩ ⟨by show _ ≤ (0 : Nat); omega, by show _ ≤ (0 : Nat); omega⟩ dX10_valueAt_8 (fw_ki fun r6 M5 H1 locs1 hp4 hH hz1 => ?_)
  obtain ⟨rfl, hM9, hz2⟩ := hp4
  replace hz := hz2.trans hz
  clear hz1 hz2
  rw [hM9] at hH
  refine fw_if_eq (tgt := 28) E dX10_valueAt_11 (by decide) (by omega) (by omega) (fun c7 => ?_) (fun c7 => ?_)
  · refine lv_aload_n E.1 E.2.1 dX10_valueAt_28 rfl (lv_at hl 0 rfl) ?_
    refine lv_iconst (v := iI 1) E.1 E.2.1 dX10_valueAt_29 (by decide) ?_
    refine fw_cV (As := [.int (iI 1)]) (rest := []) E hK hH hl m0 fc_X10 fL_X10_no ql_RX10_176 qi_yX10_no qv_yX10_no (m_no l G _ _ b (by omega) m0 1) rfl rfl (Nat.le_of_ble_eq_true rfl) ⟨Nat.le_of_ble_eq_true rfl, Nat.le_of_ble_eq_true rfl⟩ ⟨by show _ ≤ (0 : Nat); omega, by show _ ≤ (0 : Nat); omega⟩ dX10_valueAt_30 (fw_ki fun r10 M9 H1 locs1 hp8 hH hz1 => ?_)
    obtain ⟨rfl, ⟨hmt, hfr⟩, hz2⟩ := hp8
    replace hz := hz2.trans hz
    clear hz1 hz2
    have fr11 := hfr
    refine W.widen (k := 0) (n := 0) (by omega) (by omega) ?_
    refine fw_iret E hr hlk hH ?_ dX10_valueAt_33
    exact ⟨hmt, fun h => absurd h (by decide), (fun q hq hq2 => by rw [fr11 q (by omega), fr3 q (by omega)])⟩
  · exact absurd c7 (by omega)
theorem y_sizeAt (l : Launch) (G : fw_G) (M : fw_M) (N : Nat) (b : Nat) (hD : md0 G M b) (z1 z2 : Int) (hz1 : -2147483648 ≤ z1 ∧ z1 < 2147483648) (hz2 : -2147483648 ≤ z2 ∧ z2 < 2147483648) : fMet l yX10_sizeAt cX10_sizeAt 3 (some .int) 8 170 0 0 G M N [.ref b, .int (iI z1), .int (iI z2)] (fw_pi (fun r M1 n1 => mth M1 b (1) ∧ (1 = 0 → r = iI (0)) ∧ ∀ q, b + 7 ≤ q → q < N → M1 q = M q)) := by
  refine fw_met RX10 rfl (by decide +kernel) (Nat.le_of_ble_eq_true rfl) ?_
  intro p e s m args below meth c ls E hr hlk hnm hK hH hz hl
  obtain ⟨hb, m0, _, _, _, _, _⟩ := id hD
  refine lv_aload_n E.1 E.2.1 dX10_sizeAt_0 rfl (lv_at hl 0 rfl) ?_
  refine lv_iconst (v := iI 0) E.1 E.2.1 dX10_sizeAt_1 (by decide) ?_
  refine fw_put E hK hH (by omega) m0 fc_X10 1 (by decide) ql_RX10_163 rfl rfl rfl rfl (Nat.le_of_ble_eq_true rfl) dX10_sizeAt_2 (fun H1 locs1 hH hz1 => ?_)
  replace hz := hz1.trans hz; clear hz1
  obtain ⟨M1, hM2⟩ : ∃ MX, MX = fw_up M b (.inr (10, [.ref (b + 1), .int (iI 0), .ref (b + 2), .int (iI 0), .int (iI 0), .ref (b + 3), .int (iI 0), .ref (b + 4), .ref (b + 5), .int (iI 0), .int (iI 1), .int (iI 0), .ref (b + 6), .int (iI 0), .int (iI 70), .int (iI 20), .int (iI 5), .int (iI 2), .int (iI 1), .int (iI 0), .int (iI 0)])) := ⟨_, rfl⟩
  replace hH := fw_H.nm hM2 hH
  have fr3 : ∀ q, q ≠ b → M1 q = M q := fun q h => by rw [hM2]; exact fw_up_ne h
  have m0 : M1 b = some (.inr (10, [.ref (b + 1), .int (iI 0), .ref (b + 2), .int (iI 0), .int (iI 0), .ref (b + 3), .int (iI 0), .ref (b + 4), .ref (b + 5), .int (iI 0), .int (iI 1), .int (iI 0), .ref (b + 6), .int (iI 0), .int (iI 70), .int (iI 20), .int (iI 5), .int (iI 2), .int (iI 1), .int (iI 0), .int (iI 0)])) := by rw [hM2]; exact fw_up_eq
  refine lv_aload_n E.1 E.2.1 dX10_sizeAt_5 rfl (lv_at hl 0 rfl) ?_
  refine lv_iload_n E.1 E.2.1 dX10_sizeAt_6 rfl (lv_at hl 1 rfl) ?_
  refine lv_iload_n E.1 E.2.1 dX10_sizeAt_7 rfl (lv_at hl 2 rfl) ?_
  refine fw_cV (As := [.int (iI z1), .int (iI z2)]) (rest := []) E hK hH hl m0 fc_X10 fL_X10_isPlace ql_RX10_199 qi_yX10_isPlace qv_yX10_isPlace (m_isPlace l G _ _ b m0 z1 z2 (by omega) (by omega)) rfl rfl (Nat.le_of_ble_eq_true rfl) ⟨Nat.le_of_ble_eq_true rfl, Nat.le_of_ble_eq_true rfl⟩ ⟨by show _ ≤ (0 : Nat); omega, by show _ ≤ (0 : Nat); omega⟩ dX10_sizeAt_8 (fw_ki fun r6 M5 H1 locs1 hp4 hH hz1 => ?_)
  obtain ⟨rfl, hM9, hz2⟩ := hp4
  replace hz := hz2.trans hz
  clear hz1 hz2
  rw [hM9] at hH
  refine fw_if_eq (tgt := 29) E dX10_sizeAt_11 (by decide) (by omega) (by omega) (fun c7 => ?_) (fun c7 => ?_)
  · refine lv_aload_n E.1 E.2.1 dX10_sizeAt_29 rfl (lv_at hl 0 rfl) ?_
    refine lv_iconst (v := iI 1) E.1 E.2.1 dX10_sizeAt_30 (by decide) ?_
    refine fw_cV (As := [.int (iI 1)]) (rest := []) E hK hH hl m0 fc_X10 fL_X10_no ql_RX10_176 qi_yX10_no qv_yX10_no (m_no l G _ _ b (by omega) m0 1) rfl rfl (Nat.le_of_ble_eq_true rfl) ⟨Nat.le_of_ble_eq_true rfl, Nat.le_of_ble_eq_true rfl⟩ ⟨by show _ ≤ (0 : Nat); omega, by show _ ≤ (0 : Nat); omega⟩ dX10_sizeAt_31 (fw_ki fun r10 M9 H1 locs1 hp8 hH hz1 => ?_)
    obtain ⟨rfl, ⟨hmt, hfr⟩, hz2⟩ := hp8
    replace hz := hz2.trans hz
    clear hz1 hz2
    have fr11 := hfr
    refine W.widen (k := 0) (n := 0) (by omega) (by omega) ?_
    refine fw_iret E hr hlk hH ?_ dX10_sizeAt_34
    exact ⟨hmt, fun h => absurd h (by decide), (fun q hq hq2 => by rw [fr11 q (by omega), fr3 q (by omega)])⟩
  · exact absurd c7 (by omega)
theorem y_above (l : Launch) (G : fw_G) (M : fw_M) (N : Nat) (b : Nat) (hD : md0 G M b) (z1 z2 : Int) (hz1 : -2147483648 ≤ z1 ∧ z1 < 2147483648) (hz2 : -2147483648 ≤ z2 ∧ z2 < 2147483648) : fMet l yX10_above cX10_above 3 (some .int) 8 170 0 0 G M N [.ref b, .int (iI z1), .int (iI z2)] (fw_pi (fun r M1 n1 => mth M1 b (1) ∧ (1 = 0 → r = iI (0)) ∧ ∀ q, b + 7 ≤ q → q < N → M1 q = M q)) := by
  refine fw_met RX10 rfl (by decide +kernel) (Nat.le_of_ble_eq_true rfl) ?_
  intro p e s m args below meth c ls E hr hlk hnm hK hH hz hl
  obtain ⟨hb, m0, _, _, _, _, _⟩ := id hD
  refine lv_aload_n E.1 E.2.1 dX10_above_0 rfl (lv_at hl 0 rfl) ?_
  refine lv_iconst (v := iI 0) E.1 E.2.1 dX10_above_1 (by decide) ?_
  refine fw_put E hK hH (by omega) m0 fc_X10 1 (by decide) ql_RX10_163 rfl rfl rfl rfl (Nat.le_of_ble_eq_true rfl) dX10_above_2 (fun H1 locs1 hH hz1 => ?_)
  replace hz := hz1.trans hz; clear hz1
  obtain ⟨M1, hM2⟩ : ∃ MX, MX = fw_up M b (.inr (10, [.ref (b + 1), .int (iI 0), .ref (b + 2), .int (iI 0), .int (iI 0), .ref (b + 3), .int (iI 0), .ref (b + 4), .ref (b + 5), .int (iI 0), .int (iI 1), .int (iI 0), .ref (b + 6), .int (iI 0), .int (iI 70), .int (iI 20), .int (iI 5), .int (iI 2), .int (iI 1), .int (iI 0), .int (iI 0)])) := ⟨_, rfl⟩
  replace hH := fw_H.nm hM2 hH
  have fr3 : ∀ q, q ≠ b → M1 q = M q := fun q h => by rw [hM2]; exact fw_up_ne h
  have m0 : M1 b = some (.inr (10, [.ref (b + 1), .int (iI 0), .ref (b + 2), .int (iI 0), .int (iI 0), .ref (b + 3), .int (iI 0), .ref (b + 4), .ref (b + 5), .int (iI 0), .int (iI 1), .int (iI 0), .ref (b + 6), .int (iI 0), .int (iI 70), .int (iI 20), .int (iI 5), .int (iI 2), .int (iI 1), .int (iI 0), .int (iI 0)])) := by rw [hM2]; exact fw_up_eq
  refine lv_aload_n E.1 E.2.1 dX10_above_5 rfl (lv_at hl 0 rfl) ?_
  refine lv_iload_n E.1 E.2.1 dX10_above_6 rfl (lv_at hl 1 rfl) ?_
  refine lv_iload_n E.1 E.2.1 dX10_above_7 rfl (lv_at hl 2 rfl) ?_
  refine fw_cV (As := [.int (iI z1), .int (iI z2)]) (rest := []) E hK hH hl m0 fc_X10 fL_X10_isPlace ql_RX10_199 qi_yX10_isPlace qv_yX10_isPlace (m_isPlace l G _ _ b m0 z1 z2 (by omega) (by omega)) rfl rfl (Nat.le_of_ble_eq_true rfl) ⟨Nat.le_of_ble_eq_true rfl, Nat.le_of_ble_eq_true rfl⟩ ⟨by show _ ≤ (0 : Nat); omega, by show _ ≤ (0 : Nat); omega⟩ dX10_above_8 (fw_ki fun r6 M5 H1 locs1 hp4 hH hz1 => ?_)
  obtain ⟨rfl, hM9, hz2⟩ := hp4
  replace hz := hz2.trans hz
  clear hz1 hz2
  rw [hM9] at hH
  refine fw_if_eq (tgt := 27) E dX10_above_11 (by decide) (by omega) (by omega) (fun c7 => ?_) (fun c7 => ?_)
  · refine lv_aload_n E.1 E.2.1 dX10_above_27 rfl (lv_at hl 0 rfl) ?_
    refine lv_iconst (v := iI 1) E.1 E.2.1 dX10_above_28 (by decide) ?_
    refine fw_cV (As := [.int (iI 1)]) (rest := []) E hK hH hl m0 fc_X10 fL_X10_no ql_RX10_176 qi_yX10_no qv_yX10_no (m_no l G _ _ b (by omega) m0 1) rfl rfl (Nat.le_of_ble_eq_true rfl) ⟨Nat.le_of_ble_eq_true rfl, Nat.le_of_ble_eq_true rfl⟩ ⟨by show _ ≤ (0 : Nat); omega, by show _ ≤ (0 : Nat); omega⟩ dX10_above_29 (fw_ki fun r10 M9 H1 locs1 hp8 hH hz1 => ?_)
    obtain ⟨rfl, ⟨hmt, hfr⟩, hz2⟩ := hp8
    replace hz := hz2.trans hz
    clear hz1 hz2
    have fr11 := hfr
    refine W.widen (k := 0) (n := 0) (by omega) (by omega) ?_
    refine fw_iret E hr hlk hH ?_ dX10_above_32
    exact ⟨hmt, fun h => absurd h (by decide), (fun q hq hq2 => by rw [fr11 q (by omega), fr3 q (by omega)])⟩
  · exact absurd c7 (by omega)
theorem y_gives (l : Launch) (G : fw_G) (M : fw_M) (N : Nat) (b : Nat) (hD : md0 G M b) (z1 z2 z3 z4 : Int) (hz1 : -2147483648 ≤ z1 ∧ z1 < 2147483648) (hz2 : -2147483648 ≤ z2 ∧ z2 < 2147483648) (hz3 : -2147483648 ≤ z3 ∧ z3 < 2147483648) (hz4 : -2147483648 ≤ z4 ∧ z4 < 2147483648) : fMet l yX10_gives_ cX10_gives_ 5 (some .int) 8 170 0 0 G M N [.ref b, .int (iI z1), .int (iI z2), .int (iI z3), .int (iI z4)] (fw_pi (fun r M1 n1 => mth M1 b (1) ∧ (1 = 0 → r = iI (0)) ∧ ∀ q, b + 7 ≤ q → q < N → M1 q = M q)) := by
  refine fw_met RX10 rfl (by decide +kernel) (Nat.le_of_ble_eq_true rfl) ?_
  intro p e s m args below meth c ls E hr hlk hnm hK hH hz hl
  obtain ⟨hb, m0, _, _, _, _, _⟩ := id hD
  refine lv_aload_n E.1 E.2.1 dX10_gives__0 rfl (lv_at hl 0 rfl) ?_
  refine lv_iconst (v := iI 0) E.1 E.2.1 dX10_gives__1 (by decide) ?_
  refine fw_put E hK hH (by omega) m0 fc_X10 1 (by decide) ql_RX10_163 rfl rfl rfl rfl (Nat.le_of_ble_eq_true rfl) dX10_gives__2 (fun H1 locs1 hH hz1 => ?_)
  replace hz := hz1.trans hz; clear hz1
  obtain ⟨M1, hM2⟩ : ∃ MX, MX = fw_up M b (.inr (10, [.ref (b + 1), .int (iI 0), .ref (b + 2), .int (iI 0), .int (iI 0), .ref (b + 3), .int (iI 0), .ref (b + 4), .ref (b + 5), .int (iI 0), .int (iI 1), .int (iI 0), .ref (b + 6), .int (iI 0), .int (iI 70), .int (iI 20), .int (iI 5), .int (iI 2), .int (iI 1), .int (iI 0), .int (iI 0)])) := ⟨_, rfl⟩
  replace hH := fw_H.nm hM2 hH
  have fr3 : ∀ q, q ≠ b → M1 q = M q := fun q h => by rw [hM2]; exact fw_up_ne h
  have m0 : M1 b = some (.inr (10, [.ref (b + 1), .int (iI 0), .ref (b + 2), .int (iI 0), .int (iI 0), .ref (b + 3), .int (iI 0), .ref (b + 4), .ref (b + 5), .int (iI 0), .int (iI 1), .int (iI 0), .ref (b + 6), .int (iI 0), .int (iI 70), .int (iI 20), .int (iI 5), .int (iI 2), .int (iI 1), .int (iI 0), .int (iI 0)])) := by rw [hM2]; exact fw_up_eq
  refine lv_aload_n E.1 E.2.1 dX10_gives__5 rfl (lv_at hl 0 rfl) ?_
  refine lv_iload_n E.1 E.2.1 dX10_gives__6 rfl (lv_at hl 1 rfl) ?_
  refine fw_cV (As := [.int (iI z1)]) (rest := []) E hK hH hl m0 fc_X10 fL_X10_isTree ql_RX10_169 qi_yX10_isTree qv_yX10_isTree (m_isTree l G _ _ b m0 z1 (by omega)) rfl rfl (Nat.le_of_ble_eq_true rfl) ⟨Nat.le_of_ble_eq_true rfl, Nat.le_of_ble_eq_true rfl⟩ ⟨by show _ ≤ (0 : Nat); omega, by show _ ≤ (0 : Nat); omega⟩ dX10_gives__7 (fw_ki fun r6 M5 H1 locs1 hp4 hH hz1 => ?_)
  obtain ⟨rfl, hM9, hz2⟩ := hp4
  replace hz := hz2.trans hz
  clear hz1 hz2
  rw [hM9] at hH
  refine fw_if_ne (tgt := 19) E dX10_gives__10 (by decide) (by omega) (by omega) (fun c7 => ?_) (fun c7 => ?_)
  · exact absurd c7 (by omega)
  · refine lv_aload_n E.1 E.2.1 dX10_gives__13 rfl (lv_at hl 0 rfl) ?_
    refine lv_iconst (v := iI 1) E.1 E.2.1 dX10_gives__14 (by decide) ?_
    refine fw_cV (As := [.int (iI 1)]) (rest := []) E hK hH hl m0 fc_X10 fL_X10_no ql_RX10_176 qi_yX10_no qv_yX10_no (m_no l G _ _ b (by omega) m0 1) rfl rfl (Nat.le_of_ble_eq_true rfl) ⟨Nat.le_of_ble_eq_true rfl, Nat.le_of_ble_eq_true rfl⟩ ⟨by show _ ≤ (0 : Nat); omega, by show _ ≤ (0 : Nat); omega⟩ dX10_gives__15 (fw_ki fun r10 M9 H1 locs1 hp8 hH hz1 => ?_)
    obtain ⟨rfl, ⟨hmt, hfr⟩, hz2⟩ := hp8
    replace hz := hz2.trans hz
    clear hz1 hz2
    have fr11 := hfr
    refine W.widen (k := 0) (n := 0) (by omega) (by omega) ?_
    refine fw_iret E hr hlk hH ?_ dX10_gives__18
    exact ⟨hmt, fun h => absurd h (by decide), (fun q hq hq2 => by rw [fr11 q (by omega), fr3 q (by omega)])⟩
theorem y_error (l : Launch) (G : fw_G) (M : fw_M) (N : Nat) (b : Nat) (hD : md0 G M b) (z1 : Int) (hz1 : -2147483648 ≤ z1 ∧ z1 < 2147483648) : fMet l yX10_error cX10_error 2 (some .int) 8 170 0 0 G M N [.ref b, .int (iI z1)] (fw_pi (fun r M1 n1 => mth M1 b (1) ∧ (1 = 0 → r = iI (0)) ∧ ∀ q, b + 7 ≤ q → q < N → M1 q = M q)) := by
  refine fw_met RX10 rfl (by decide +kernel) (Nat.le_of_ble_eq_true rfl) ?_
  intro p e s m args below meth c ls E hr hlk hnm hK hH hz hl
  obtain ⟨hb, m0, _, _, _, _, _⟩ := id hD
  refine lv_aload_n E.1 E.2.1 dX10_error_0 rfl (lv_at hl 0 rfl) ?_
  refine lv_iconst (v := iI 0) E.1 E.2.1 dX10_error_1 (by decide) ?_
  refine fw_put E hK hH (by omega) m0 fc_X10 1 (by decide) ql_RX10_163 rfl rfl rfl rfl (Nat.le_of_ble_eq_true rfl) dX10_error_2 (fun H1 locs1 hH hz1 => ?_)
  replace hz := hz1.trans hz; clear hz1
  obtain ⟨M1, hM2⟩ : ∃ MX, MX = fw_up M b (.inr (10, [.ref (b + 1), .int (iI 0), .ref (b + 2), .int (iI 0), .int (iI 0), .ref (b + 3), .int (iI 0), .ref (b + 4), .ref (b + 5), .int (iI 0), .int (iI 1), .int (iI 0), .ref (b + 6), .int (iI 0), .int (iI 70), .int (iI 20), .int (iI 5), .int (iI 2), .int (iI 1), .int (iI 0), .int (iI 0)])) := ⟨_, rfl⟩
  replace hH := fw_H.nm hM2 hH
  have fr3 : ∀ q, q ≠ b → M1 q = M q := fun q h => by rw [hM2]; exact fw_up_ne h
  have m0 : M1 b = some (.inr (10, [.ref (b + 1), .int (iI 0), .ref (b + 2), .int (iI 0), .int (iI 0), .ref (b + 3), .int (iI 0), .ref (b + 4), .ref (b + 5), .int (iI 0), .int (iI 1), .int (iI 0), .ref (b + 6), .int (iI 0), .int (iI 70), .int (iI 20), .int (iI 5), .int (iI 2), .int (iI 1), .int (iI 0), .int (iI 0)])) := by rw [hM2]; exact fw_up_eq
  refine lv_aload_n E.1 E.2.1 dX10_error_5 rfl (lv_at hl 0 rfl) ?_
  refine lv_iload_n E.1 E.2.1 dX10_error_6 rfl (lv_at hl 1 rfl) ?_
  refine fw_cV (As := [.int (iI z1)]) (rest := []) E hK hH hl m0 fc_X10 fL_X10_isTree ql_RX10_169 qi_yX10_isTree qv_yX10_isTree (m_isTree l G _ _ b m0 z1 (by omega)) rfl rfl (Nat.le_of_ble_eq_true rfl) ⟨Nat.le_of_ble_eq_true rfl, Nat.le_of_ble_eq_true rfl⟩ ⟨by show _ ≤ (0 : Nat); omega, by show _ ≤ (0 : Nat); omega⟩ dX10_error_7 (fw_ki fun r6 M5 H1 locs1 hp4 hH hz1 => ?_)
  obtain ⟨rfl, hM9, hz2⟩ := hp4
  replace hz := hz2.trans hz
  clear hz1 hz2
  rw [hM9] at hH
  refine fw_if_eq (tgt := 26) E dX10_error_10 (by decide) (by omega) (by omega) (fun c7 => ?_) (fun c7 => ?_)
  · refine lv_aload_n E.1 E.2.1 dX10_error_26 rfl (lv_at hl 0 rfl) ?_
    refine lv_iconst (v := iI 1) E.1 E.2.1 dX10_error_27 (by decide) ?_
    refine fw_cV (As := [.int (iI 1)]) (rest := []) E hK hH hl m0 fc_X10 fL_X10_no ql_RX10_176 qi_yX10_no qv_yX10_no (m_no l G _ _ b (by omega) m0 1) rfl rfl (Nat.le_of_ble_eq_true rfl) ⟨Nat.le_of_ble_eq_true rfl, Nat.le_of_ble_eq_true rfl⟩ ⟨by show _ ≤ (0 : Nat); omega, by show _ ≤ (0 : Nat); omega⟩ dX10_error_28 (fw_ki fun r10 M9 H1 locs1 hp8 hH hz1 => ?_)
    obtain ⟨rfl, ⟨hmt, hfr⟩, hz2⟩ := hp8
    replace hz := hz2.trans hz
    clear hz1 hz2
    have fr11 := hfr
    refine W.widen (k := 0) (n := 0) (by omega) (by omega) ?_
    refine fw_iret E hr hlk hH ?_ dX10_error_31
    exact ⟨hmt, fun h => absurd h (by decide), (fun q hq hq2 => by rw [fr11 q (by omega), fr3 q (by omega)])⟩
  · exact absurd c7 (by omega)
theorem y_merit (l : Launch) (G : fw_G) (M : fw_M) (N : Nat) (b : Nat) (hD : md0 G M b) (z1 : Int) (hz1 : -2147483648 ≤ z1 ∧ z1 < 2147483648) : fMet l yX10_merit cX10_merit 2 (some .int) 8 170 0 0 G M N [.ref b, .int (iI z1)] (fw_pi (fun r M1 n1 => mth M1 b (1) ∧ (1 = 0 → r = iI (0)) ∧ ∀ q, b + 7 ≤ q → q < N → M1 q = M q)) := by
  refine fw_met RX10 rfl (by decide +kernel) (Nat.le_of_ble_eq_true rfl) ?_
  intro p e s m args below meth c ls E hr hlk hnm hK hH hz hl
  obtain ⟨hb, m0, _, _, _, _, _⟩ := id hD
  refine lv_aload_n E.1 E.2.1 dX10_merit_0 rfl (lv_at hl 0 rfl) ?_
  refine lv_iconst (v := iI 0) E.1 E.2.1 dX10_merit_1 (by decide) ?_
  refine fw_put E hK hH (by omega) m0 fc_X10 1 (by decide) ql_RX10_163 rfl rfl rfl rfl (Nat.le_of_ble_eq_true rfl) dX10_merit_2 (fun H1 locs1 hH hz1 => ?_)
  replace hz := hz1.trans hz; clear hz1
  obtain ⟨M1, hM2⟩ : ∃ MX, MX = fw_up M b (.inr (10, [.ref (b + 1), .int (iI 0), .ref (b + 2), .int (iI 0), .int (iI 0), .ref (b + 3), .int (iI 0), .ref (b + 4), .ref (b + 5), .int (iI 0), .int (iI 1), .int (iI 0), .ref (b + 6), .int (iI 0), .int (iI 70), .int (iI 20), .int (iI 5), .int (iI 2), .int (iI 1), .int (iI 0), .int (iI 0)])) := ⟨_, rfl⟩
  replace hH := fw_H.nm hM2 hH
  have fr3 : ∀ q, q ≠ b → M1 q = M q := fun q h => by rw [hM2]; exact fw_up_ne h
  have m0 : M1 b = some (.inr (10, [.ref (b + 1), .int (iI 0), .ref (b + 2), .int (iI 0), .int (iI 0), .ref (b + 3), .int (iI 0), .ref (b + 4), .ref (b + 5), .int (iI 0), .int (iI 1), .int (iI 0), .ref (b + 6), .int (iI 0), .int (iI 70), .int (iI 20), .int (iI 5), .int (iI 2), .int (iI 1), .int (iI 0), .int (iI 0)])) := by rw [hM2]; exact fw_up_eq
  refine lv_aload_n E.1 E.2.1 dX10_merit_5 rfl (lv_at hl 0 rfl) ?_
  refine lv_iload_n E.1 E.2.1 dX10_merit_6 rfl (lv_at hl 1 rfl) ?_
  refine fw_cV (As := [.int (iI z1)]) (rest := []) E hK hH hl m0 fc_X10 fL_X10_isTree ql_RX10_169 qi_yX10_isTree qv_yX10_isTree (m_isTree l G _ _ b m0 z1 (by omega)) rfl rfl (Nat.le_of_ble_eq_true rfl) ⟨Nat.le_of_ble_eq_true rfl, Nat.le_of_ble_eq_true rfl⟩ ⟨by show _ ≤ (0 : Nat); omega, by show _ ≤ (0 : Nat); omega⟩ dX10_merit_7 (fw_ki fun r6 M5 H1 locs1 hp4 hH hz1 => ?_)
  obtain ⟨rfl, hM9, hz2⟩ := hp4
  replace hz := hz2.trans hz
  clear hz1 hz2
  rw [hM9] at hH
  refine fw_if_eq (tgt := 26) E dX10_merit_10 (by decide) (by omega) (by omega) (fun c7 => ?_) (fun c7 => ?_)
  · refine lv_aload_n E.1 E.2.1 dX10_merit_26 rfl (lv_at hl 0 rfl) ?_
    refine lv_iconst (v := iI 1) E.1 E.2.1 dX10_merit_27 (by decide) ?_
    refine fw_cV (As := [.int (iI 1)]) (rest := []) E hK hH hl m0 fc_X10 fL_X10_no ql_RX10_176 qi_yX10_no qv_yX10_no (m_no l G _ _ b (by omega) m0 1) rfl rfl (Nat.le_of_ble_eq_true rfl) ⟨Nat.le_of_ble_eq_true rfl, Nat.le_of_ble_eq_true rfl⟩ ⟨by show _ ≤ (0 : Nat); omega, by show _ ≤ (0 : Nat); omega⟩ dX10_merit_28 (fw_ki fun r10 M9 H1 locs1 hp8 hH hz1 => ?_)
    obtain ⟨rfl, ⟨hmt, hfr⟩, hz2⟩ := hp8
    replace hz := hz2.trans hz
    clear hz1 hz2
    have fr11 := hfr
    refine W.widen (k := 0) (n := 0) (by omega) (by omega) ?_
    refine fw_iret E hr hlk hH ?_ dX10_merit_31
    exact ⟨hmt, fun h => absurd h (by decide), (fun q hq hq2 => by rw [fr11 q (by omega), fr3 q (by omega)])⟩
  · exact absurd c7 (by omega)
theorem y_hits (l : Launch) (G : fw_G) (M : fw_M) (N : Nat) (b : Nat) (hD : md0 G M b) (z1 : Int) (hz1 : -2147483648 ≤ z1 ∧ z1 < 2147483648) : fMet l yX10_hits cX10_hits 2 (some .int) 8 170 0 0 G M N [.ref b, .int (iI z1)] (fw_pi (fun r M1 n1 => mth M1 b (1) ∧ (1 = 0 → r = iI (0)) ∧ ∀ q, b + 7 ≤ q → q < N → M1 q = M q)) := by
  refine fw_met RX10 rfl (by decide +kernel) (Nat.le_of_ble_eq_true rfl) ?_
  intro p e s m args below meth c ls E hr hlk hnm hK hH hz hl
  obtain ⟨hb, m0, _, _, _, _, _⟩ := id hD
  refine lv_aload_n E.1 E.2.1 dX10_hits_0 rfl (lv_at hl 0 rfl) ?_
  refine lv_iconst (v := iI 0) E.1 E.2.1 dX10_hits_1 (by decide) ?_
  refine fw_put E hK hH (by omega) m0 fc_X10 1 (by decide) ql_RX10_163 rfl rfl rfl rfl (Nat.le_of_ble_eq_true rfl) dX10_hits_2 (fun H1 locs1 hH hz1 => ?_)
  replace hz := hz1.trans hz; clear hz1
  obtain ⟨M1, hM2⟩ : ∃ MX, MX = fw_up M b (.inr (10, [.ref (b + 1), .int (iI 0), .ref (b + 2), .int (iI 0), .int (iI 0), .ref (b + 3), .int (iI 0), .ref (b + 4), .ref (b + 5), .int (iI 0), .int (iI 1), .int (iI 0), .ref (b + 6), .int (iI 0), .int (iI 70), .int (iI 20), .int (iI 5), .int (iI 2), .int (iI 1), .int (iI 0), .int (iI 0)])) := ⟨_, rfl⟩
  replace hH := fw_H.nm hM2 hH
  have fr3 : ∀ q, q ≠ b → M1 q = M q := fun q h => by rw [hM2]; exact fw_up_ne h
  have m0 : M1 b = some (.inr (10, [.ref (b + 1), .int (iI 0), .ref (b + 2), .int (iI 0), .int (iI 0), .ref (b + 3), .int (iI 0), .ref (b + 4), .ref (b + 5), .int (iI 0), .int (iI 1), .int (iI 0), .ref (b + 6), .int (iI 0), .int (iI 70), .int (iI 20), .int (iI 5), .int (iI 2), .int (iI 1), .int (iI 0), .int (iI 0)])) := by rw [hM2]; exact fw_up_eq
  refine lv_aload_n E.1 E.2.1 dX10_hits_5 rfl (lv_at hl 0 rfl) ?_
  refine lv_iload_n E.1 E.2.1 dX10_hits_6 rfl (lv_at hl 1 rfl) ?_
  refine fw_cV (As := [.int (iI z1)]) (rest := []) E hK hH hl m0 fc_X10 fL_X10_isTree ql_RX10_169 qi_yX10_isTree qv_yX10_isTree (m_isTree l G _ _ b m0 z1 (by omega)) rfl rfl (Nat.le_of_ble_eq_true rfl) ⟨Nat.le_of_ble_eq_true rfl, Nat.le_of_ble_eq_true rfl⟩ ⟨by show _ ≤ (0 : Nat); omega, by show _ ≤ (0 : Nat); omega⟩ dX10_hits_7 (fw_ki fun r6 M5 H1 locs1 hp4 hH hz1 => ?_)
  obtain ⟨rfl, hM9, hz2⟩ := hp4
  replace hz := hz2.trans hz
  clear hz1 hz2
  rw [hM9] at hH
  refine fw_if_eq (tgt := 26) E dX10_hits_10 (by decide) (by omega) (by omega) (fun c7 => ?_) (fun c7 => ?_)
  · refine lv_aload_n E.1 E.2.1 dX10_hits_26 rfl (lv_at hl 0 rfl) ?_
    refine lv_iconst (v := iI 1) E.1 E.2.1 dX10_hits_27 (by decide) ?_
    refine fw_cV (As := [.int (iI 1)]) (rest := []) E hK hH hl m0 fc_X10 fL_X10_no ql_RX10_176 qi_yX10_no qv_yX10_no (m_no l G _ _ b (by omega) m0 1) rfl rfl (Nat.le_of_ble_eq_true rfl) ⟨Nat.le_of_ble_eq_true rfl, Nat.le_of_ble_eq_true rfl⟩ ⟨by show _ ≤ (0 : Nat); omega, by show _ ≤ (0 : Nat); omega⟩ dX10_hits_28 (fw_ki fun r10 M9 H1 locs1 hp8 hH hz1 => ?_)
    obtain ⟨rfl, ⟨hmt, hfr⟩, hz2⟩ := hp8
    replace hz := hz2.trans hz
    clear hz1 hz2
    have fr11 := hfr
    refine W.widen (k := 0) (n := 0) (by omega) (by omega) ?_
    refine fw_iret E hr hlk hH ?_ dX10_hits_31
    exact ⟨hmt, fun h => absurd h (by decide), (fun q hq hq2 => by rw [fr11 q (by omega), fr3 q (by omega)])⟩
  · exact absurd c7 (by omega)
theorem y_alike (l : Launch) (G : fw_G) (M : fw_M) (N : Nat) (b : Nat) (hD : md0 G M b) (z1 z2 : Int) (hz1 : -2147483648 ≤ z1 ∧ z1 < 2147483648) (hz2 : -2147483648 ≤ z2 ∧ z2 < 2147483648) : fMet l yX10_alike cX10_alike 4 (some .int) 8 170 0 0 G M N [.ref b, .int (iI z1), .int (iI z2)] (fw_pi (fun r M1 n1 => mth M1 b (1) ∧ (1 = 0 → r = iI (0)) ∧ ∀ q, b + 7 ≤ q → q < N → M1 q = M q)) := by
  refine fw_met RX10 rfl (by decide +kernel) (Nat.le_of_ble_eq_true rfl) ?_
  intro p e s m args below meth c ls E hr hlk hnm hK hH hz hl
  obtain ⟨hb, m0, _, _, _, _, _⟩ := id hD
  refine lv_aload_n E.1 E.2.1 dX10_alike_0 rfl (lv_at hl 0 rfl) ?_
  refine lv_iconst (v := iI 0) E.1 E.2.1 dX10_alike_1 (by decide) ?_
  refine fw_put E hK hH (by omega) m0 fc_X10 1 (by decide) ql_RX10_163 rfl rfl rfl rfl (Nat.le_of_ble_eq_true rfl) dX10_alike_2 (fun H1 locs1 hH hz1 => ?_)
  replace hz := hz1.trans hz; clear hz1
  obtain ⟨M1, hM2⟩ : ∃ MX, MX = fw_up M b (.inr (10, [.ref (b + 1), .int (iI 0), .ref (b + 2), .int (iI 0), .int (iI 0), .ref (b + 3), .int (iI 0), .ref (b + 4), .ref (b + 5), .int (iI 0), .int (iI 1), .int (iI 0), .ref (b + 6), .int (iI 0), .int (iI 70), .int (iI 20), .int (iI 5), .int (iI 2), .int (iI 1), .int (iI 0), .int (iI 0)])) := ⟨_, rfl⟩
  replace hH := fw_H.nm hM2 hH
  have fr3 : ∀ q, q ≠ b → M1 q = M q := fun q h => by rw [hM2]; exact fw_up_ne h
  have m0 : M1 b = some (.inr (10, [.ref (b + 1), .int (iI 0), .ref (b + 2), .int (iI 0), .int (iI 0), .ref (b + 3), .int (iI 0), .ref (b + 4), .ref (b + 5), .int (iI 0), .int (iI 1), .int (iI 0), .ref (b + 6), .int (iI 0), .int (iI 70), .int (iI 20), .int (iI 5), .int (iI 2), .int (iI 1), .int (iI 0), .int (iI 0)])) := by rw [hM2]; exact fw_up_eq
  refine lv_aload_n E.1 E.2.1 dX10_alike_5 rfl (lv_at hl 0 rfl) ?_
  refine lv_iload_n E.1 E.2.1 dX10_alike_6 rfl (lv_at hl 1 rfl) ?_
  refine fw_cV (As := [.int (iI z1)]) (rest := []) E hK hH hl m0 fc_X10 fL_X10_isTree ql_RX10_169 qi_yX10_isTree qv_yX10_isTree (m_isTree l G _ _ b m0 z1 (by omega)) rfl rfl (Nat.le_of_ble_eq_true rfl) ⟨Nat.le_of_ble_eq_true rfl, Nat.le_of_ble_eq_true rfl⟩ ⟨by show _ ≤ (0 : Nat); omega, by show _ ≤ (0 : Nat); omega⟩ dX10_alike_7 (fw_ki fun r6 M5 H1 locs1 hp4 hH hz1 => ?_)
  obtain ⟨rfl, hM9, hz2⟩ := hp4
  replace hz := hz2.trans hz
  clear hz1 hz2
  rw [hM9] at hH
  refine fw_if_eq (tgt := 21) E dX10_alike_10 (by decide) (by omega) (by omega) (fun c7 => ?_) (fun c7 => ?_)
  · refine lv_aload_n E.1 E.2.1 dX10_alike_21 rfl (lv_at hl 0 rfl) ?_
    refine lv_iconst (v := iI 1) E.1 E.2.1 dX10_alike_22 (by decide) ?_
    refine fw_cV (As := [.int (iI 1)]) (rest := []) E hK hH hl m0 fc_X10 fL_X10_no ql_RX10_176 qi_yX10_no qv_yX10_no (m_no l G _ _ b (by omega) m0 1) rfl rfl (Nat.le_of_ble_eq_true rfl) ⟨Nat.le_of_ble_eq_true rfl, Nat.le_of_ble_eq_true rfl⟩ ⟨by show _ ≤ (0 : Nat); omega, by show _ ≤ (0 : Nat); omega⟩ dX10_alike_23 (fw_ki fun r10 M9 H1 locs1 hp8 hH hz1 => ?_)
    obtain ⟨rfl, ⟨hmt, hfr⟩, hz2⟩ := hp8
    replace hz := hz2.trans hz
    clear hz1 hz2
    have fr11 := hfr
    refine W.widen (k := 0) (n := 0) (by omega) (by omega) ?_
    refine fw_iret E hr hlk hH ?_ dX10_alike_26
    exact ⟨hmt, fun h => absurd h (by decide), (fun q hq hq2 => by rw [fr11 q (by omega), fr3 q (by omega)])⟩
  · exact absurd c7 (by omega)
theorem y_errorCrossed (l : Launch) (G : fw_G) (M : fw_M) (N : Nat) (b : Nat) (hD : md0 G M b) (z1 z2 z3 z4 : Int) (hz1 : -2147483648 ≤ z1 ∧ z1 < 2147483648) (hz2 : -2147483648 ≤ z2 ∧ z2 < 2147483648) (hz3 : -2147483648 ≤ z3 ∧ z3 < 2147483648) (hz4 : -2147483648 ≤ z4 ∧ z4 < 2147483648) : fMet l yX10_errorCrossed cX10_errorCrossed 6 (some .int) 8 170 0 0 G M N [.ref b, .int (iI z1), .int (iI z2), .int (iI z3), .int (iI z4)] (fw_pi (fun r M1 n1 => mth M1 b (1) ∧ (1 = 0 → r = iI (0)) ∧ ∀ q, b + 7 ≤ q → q < N → M1 q = M q)) := by
  refine fw_met RX10 rfl (by decide +kernel) (Nat.le_of_ble_eq_true rfl) ?_
  intro p e s m args below meth c ls E hr hlk hnm hK hH hz hl
  obtain ⟨hb, m0, _, _, _, _, _⟩ := id hD
  refine lv_aload_n E.1 E.2.1 dX10_errorCrossed_0 rfl (lv_at hl 0 rfl) ?_
  refine lv_iconst (v := iI 0) E.1 E.2.1 dX10_errorCrossed_1 (by decide) ?_
  refine fw_put E hK hH (by omega) m0 fc_X10 1 (by decide) ql_RX10_163 rfl rfl rfl rfl (Nat.le_of_ble_eq_true rfl) dX10_errorCrossed_2 (fun H1 locs1 hH hz1 => ?_)
  replace hz := hz1.trans hz; clear hz1
  obtain ⟨M1, hM2⟩ : ∃ MX, MX = fw_up M b (.inr (10, [.ref (b + 1), .int (iI 0), .ref (b + 2), .int (iI 0), .int (iI 0), .ref (b + 3), .int (iI 0), .ref (b + 4), .ref (b + 5), .int (iI 0), .int (iI 1), .int (iI 0), .ref (b + 6), .int (iI 0), .int (iI 70), .int (iI 20), .int (iI 5), .int (iI 2), .int (iI 1), .int (iI 0), .int (iI 0)])) := ⟨_, rfl⟩
  replace hH := fw_H.nm hM2 hH
  have fr3 : ∀ q, q ≠ b → M1 q = M q := fun q h => by rw [hM2]; exact fw_up_ne h
  have m0 : M1 b = some (.inr (10, [.ref (b + 1), .int (iI 0), .ref (b + 2), .int (iI 0), .int (iI 0), .ref (b + 3), .int (iI 0), .ref (b + 4), .ref (b + 5), .int (iI 0), .int (iI 1), .int (iI 0), .ref (b + 6), .int (iI 0), .int (iI 70), .int (iI 20), .int (iI 5), .int (iI 2), .int (iI 1), .int (iI 0), .int (iI 0)])) := by rw [hM2]; exact fw_up_eq
  refine lv_aload_n E.1 E.2.1 dX10_errorCrossed_5 rfl (lv_at hl 0 rfl) ?_
  refine lv_iload_n E.1 E.2.1 dX10_errorCrossed_6 rfl (lv_at hl 1 rfl) ?_
  refine lv_iload_n E.1 E.2.1 dX10_errorCrossed_7 rfl (lv_at hl 2 rfl) ?_
  refine fw_cV (As := [.int (iI z1), .int (iI z2)]) (rest := []) E hK hH hl m0 fc_X10 fL_X10_isPlace ql_RX10_199 qi_yX10_isPlace qv_yX10_isPlace (m_isPlace l G _ _ b m0 z1 z2 (by omega) (by omega)) rfl rfl (Nat.le_of_ble_eq_true rfl) ⟨Nat.le_of_ble_eq_true rfl, Nat.le_of_ble_eq_true rfl⟩ ⟨by show _ ≤ (0 : Nat); omega, by show _ ≤ (0 : Nat); omega⟩ dX10_errorCrossed_8 (fw_ki fun r6 M5 H1 locs1 hp4 hH hz1 => ?_)
  obtain ⟨rfl, hM9, hz2⟩ := hp4
  replace hz := hz2.trans hz
  clear hz1 hz2
  rw [hM9] at hH
  refine fw_if_eq (tgt := 24) E dX10_errorCrossed_11 (by decide) (by omega) (by omega) (fun c7 => ?_) (fun c7 => ?_)
  · refine lv_aload_n E.1 E.2.1 dX10_errorCrossed_24 rfl (lv_at hl 0 rfl) ?_
    refine lv_iconst (v := iI 1) E.1 E.2.1 dX10_errorCrossed_25 (by decide) ?_
    refine fw_cV (As := [.int (iI 1)]) (rest := []) E hK hH hl m0 fc_X10 fL_X10_no ql_RX10_176 qi_yX10_no qv_yX10_no (m_no l G _ _ b (by omega) m0 1) rfl rfl (Nat.le_of_ble_eq_true rfl) ⟨Nat.le_of_ble_eq_true rfl, Nat.le_of_ble_eq_true rfl⟩ ⟨by show _ ≤ (0 : Nat); omega, by show _ ≤ (0 : Nat); omega⟩ dX10_errorCrossed_26 (fw_ki fun r10 M9 H1 locs1 hp8 hH hz1 => ?_)
    obtain ⟨rfl, ⟨hmt, hfr⟩, hz2⟩ := hp8
    replace hz := hz2.trans hz
    clear hz1 hz2
    have fr11 := hfr
    refine W.widen (k := 0) (n := 0) (by omega) (by omega) ?_
    refine fw_iret E hr hlk hH ?_ dX10_errorCrossed_29
    exact ⟨hmt, fun h => absurd h (by decide), (fun q hq hq2 => by rw [fr11 q (by omega), fr3 q (by omega)])⟩
  · exact absurd c7 (by omega)
theorem y_bestHoist (l : Launch) (G : fw_G) (M : fw_M) (N : Nat) (b : Nat) (hD : md0 G M b) (z1 : Int) (hz1 : -2147483648 ≤ z1 ∧ z1 < 2147483648) : fMet l yX10_bestHoist cX10_bestHoist 7 (some .int) 8 170 0 0 G M N [.ref b, .int (iI z1)] (fw_pi (fun r M1 n1 => mth M1 b (1) ∧ (1 = 0 → r = iI (0)) ∧ ∀ q, b + 7 ≤ q → q < N → M1 q = M q)) := by
  refine fw_met RX10 rfl (by decide +kernel) (Nat.le_of_ble_eq_true rfl) ?_
  intro p e s m args below meth c ls E hr hlk hnm hK hH hz hl
  obtain ⟨hb, m0, _, _, _, _, _⟩ := id hD
  refine lv_aload_n E.1 E.2.1 dX10_bestHoist_0 rfl (lv_at hl 0 rfl) ?_
  refine lv_iconst (v := iI 0) E.1 E.2.1 dX10_bestHoist_1 (by decide) ?_
  refine fw_put E hK hH (by omega) m0 fc_X10 1 (by decide) ql_RX10_163 rfl rfl rfl rfl (Nat.le_of_ble_eq_true rfl) dX10_bestHoist_2 (fun H1 locs1 hH hz1 => ?_)
  replace hz := hz1.trans hz; clear hz1
  obtain ⟨M1, hM2⟩ : ∃ MX, MX = fw_up M b (.inr (10, [.ref (b + 1), .int (iI 0), .ref (b + 2), .int (iI 0), .int (iI 0), .ref (b + 3), .int (iI 0), .ref (b + 4), .ref (b + 5), .int (iI 0), .int (iI 1), .int (iI 0), .ref (b + 6), .int (iI 0), .int (iI 70), .int (iI 20), .int (iI 5), .int (iI 2), .int (iI 1), .int (iI 0), .int (iI 0)])) := ⟨_, rfl⟩
  replace hH := fw_H.nm hM2 hH
  have fr3 : ∀ q, q ≠ b → M1 q = M q := fun q h => by rw [hM2]; exact fw_up_ne h
  have m0 : M1 b = some (.inr (10, [.ref (b + 1), .int (iI 0), .ref (b + 2), .int (iI 0), .int (iI 0), .ref (b + 3), .int (iI 0), .ref (b + 4), .ref (b + 5), .int (iI 0), .int (iI 1), .int (iI 0), .ref (b + 6), .int (iI 0), .int (iI 70), .int (iI 20), .int (iI 5), .int (iI 2), .int (iI 1), .int (iI 0), .int (iI 0)])) := by rw [hM2]; exact fw_up_eq
  refine lv_aload_n E.1 E.2.1 dX10_bestHoist_5 rfl (lv_at hl 0 rfl) ?_
  refine lv_iload_n E.1 E.2.1 dX10_bestHoist_6 rfl (lv_at hl 1 rfl) ?_
  refine fw_cV (As := [.int (iI z1)]) (rest := []) E hK hH hl m0 fc_X10 fL_X10_isTree ql_RX10_169 qi_yX10_isTree qv_yX10_isTree (m_isTree l G _ _ b m0 z1 (by omega)) rfl rfl (Nat.le_of_ble_eq_true rfl) ⟨Nat.le_of_ble_eq_true rfl, Nat.le_of_ble_eq_true rfl⟩ ⟨by show _ ≤ (0 : Nat); omega, by show _ ≤ (0 : Nat); omega⟩ dX10_bestHoist_7 (fw_ki fun r6 M5 H1 locs1 hp4 hH hz1 => ?_)
  obtain ⟨rfl, hM9, hz2⟩ := hp4
  replace hz := hz2.trans hz
  clear hz1 hz2
  rw [hM9] at hH
  refine fw_if_ne (tgt := 19) E dX10_bestHoist_10 (by decide) (by omega) (by omega) (fun c7 => ?_) (fun c7 => ?_)
  · exact absurd c7 (by omega)
  · refine lv_aload_n E.1 E.2.1 dX10_bestHoist_13 rfl (lv_at hl 0 rfl) ?_
    refine lv_iconst (v := iI 1) E.1 E.2.1 dX10_bestHoist_14 (by decide) ?_
    refine fw_cV (As := [.int (iI 1)]) (rest := []) E hK hH hl m0 fc_X10 fL_X10_no ql_RX10_176 qi_yX10_no qv_yX10_no (m_no l G _ _ b (by omega) m0 1) rfl rfl (Nat.le_of_ble_eq_true rfl) ⟨Nat.le_of_ble_eq_true rfl, Nat.le_of_ble_eq_true rfl⟩ ⟨by show _ ≤ (0 : Nat); omega, by show _ ≤ (0 : Nat); omega⟩ dX10_bestHoist_15 (fw_ki fun r10 M9 H1 locs1 hp8 hH hz1 => ?_)
    obtain ⟨rfl, ⟨hmt, hfr⟩, hz2⟩ := hp8
    replace hz := hz2.trans hz
    clear hz1 hz2
    have fr11 := hfr
    refine W.widen (k := 0) (n := 0) (by omega) (by omega) ?_
    refine fw_iret E hr hlk hH ?_ dX10_bestHoist_18
    exact ⟨hmt, fun h => absurd h (by decide), (fun q hq hq2 => by rw [fr11 q (by omega), fr3 q (by omega)])⟩
theorem y_ranked (l : Launch) (G : fw_G) (M : fw_M) (N : Nat) (b : Nat) (hD : md0 G M b) (z1 : Int) (hz1 : -2147483648 ≤ z1 ∧ z1 < 2147483648) : fMet l yX10_ranked cX10_ranked 2 (some .int) 8 170 0 0 G M N [.ref b, .int (iI z1)] (fw_pi (fun r M1 n1 => mth M1 b (1) ∧ (1 = 0 → r = iI (0)) ∧ ∀ q, b + 7 ≤ q → q < N → M1 q = M q)) := by
  refine fw_met RX10 rfl (by decide +kernel) (Nat.le_of_ble_eq_true rfl) ?_
  intro p e s m args below meth c ls E hr hlk hnm hK hH hz hl
  obtain ⟨hb, m0, _, _, _, _, _⟩ := id hD
  refine lv_aload_n E.1 E.2.1 dX10_ranked_0 rfl (lv_at hl 0 rfl) ?_
  refine lv_iconst (v := iI 0) E.1 E.2.1 dX10_ranked_1 (by decide) ?_
  refine fw_put E hK hH (by omega) m0 fc_X10 1 (by decide) ql_RX10_163 rfl rfl rfl rfl (Nat.le_of_ble_eq_true rfl) dX10_ranked_2 (fun H1 locs1 hH hz1 => ?_)
  replace hz := hz1.trans hz; clear hz1
  obtain ⟨M1, hM2⟩ : ∃ MX, MX = fw_up M b (.inr (10, [.ref (b + 1), .int (iI 0), .ref (b + 2), .int (iI 0), .int (iI 0), .ref (b + 3), .int (iI 0), .ref (b + 4), .ref (b + 5), .int (iI 0), .int (iI 1), .int (iI 0), .ref (b + 6), .int (iI 0), .int (iI 70), .int (iI 20), .int (iI 5), .int (iI 2), .int (iI 1), .int (iI 0), .int (iI 0)])) := ⟨_, rfl⟩
  replace hH := fw_H.nm hM2 hH
  have fr3 : ∀ q, q ≠ b → M1 q = M q := fun q h => by rw [hM2]; exact fw_up_ne h
  have m0 : M1 b = some (.inr (10, [.ref (b + 1), .int (iI 0), .ref (b + 2), .int (iI 0), .int (iI 0), .ref (b + 3), .int (iI 0), .ref (b + 4), .ref (b + 5), .int (iI 0), .int (iI 1), .int (iI 0), .ref (b + 6), .int (iI 0), .int (iI 70), .int (iI 20), .int (iI 5), .int (iI 2), .int (iI 1), .int (iI 0), .int (iI 0)])) := by rw [hM2]; exact fw_up_eq
  refine lv_iload_n E.1 E.2.1 dX10_ranked_5 rfl (lv_at hl 1 rfl) ?_
  refine lv_iconst (v := iI 0) E.1 E.2.1 dX10_ranked_6 (by decide) ?_
  refine lv_aload_n E.1 E.2.1 dX10_ranked_7 rfl (lv_at hl 0 rfl) ?_
  refine fw_get E hK hH m0 fc_X10 4 (by decide) ql_RX10_166 rfl rfl dX10_ranked_8 ?_
  refine lv_iconst (v := iI 1) E.1 E.2.1 dX10_ranked_11 (by decide) ?_
  refine fw_isub E dX10_ranked_12 ?_
  refine fw_cv (y := iI (-1)) (by decide) ?_
  refine fw_cS (As := [.int (iI z1), .int (iI 0), .int (iI (-1))]) (rest := []) E hK hH hl fL_X10_isIn ql_RX10_94 qs_yX10_isIn (m_isIn l G _ _ z1 0 (-1) (by omega) (by omega) (by omega)) rfl rfl (Nat.le_of_ble_eq_true rfl) ⟨Nat.le_of_ble_eq_true rfl, Nat.le_of_ble_eq_true rfl⟩ ⟨by show _ ≤ (0 : Nat); omega, by show _ ≤ (0 : Nat); omega⟩ dX10_ranked_13 (fw_ki fun r7 M6 H1 locs1 hp5 hH hz1 => ?_)
  obtain ⟨b4, rfl, hb4, hM9, hz2⟩ := hp5
  replace hz := hz2.trans hz
  clear hz1 hz2
  rw [hM9] at hH
  refine fw_if_eq (tgt := 28) E dX10_ranked_16 (by decide) (by omega) (by omega) (fun c8 => ?_) (fun c8 => ?_)
  · refine lv_aload_n E.1 E.2.1 dX10_ranked_28 rfl (lv_at hl 0 rfl) ?_
    refine lv_iconst (v := iI 1) E.1 E.2.1 dX10_ranked_29 (by decide) ?_
    refine fw_cV (As := [.int (iI 1)]) (rest := []) E hK hH hl m0 fc_X10 fL_X10_no ql_RX10_176 qi_yX10_no qv_yX10_no (m_no l G _ _ b (by omega) m0 1) rfl rfl (Nat.le_of_ble_eq_true rfl) ⟨Nat.le_of_ble_eq_true rfl, Nat.le_of_ble_eq_true rfl⟩ ⟨by show _ ≤ (0 : Nat); omega, by show _ ≤ (0 : Nat); omega⟩ dX10_ranked_30 (fw_ki fun r11 M10 H1 locs1 hp9 hH hz1 => ?_)
    obtain ⟨rfl, ⟨hmt, hfr⟩, hz2⟩ := hp9
    replace hz := hz2.trans hz
    clear hz1 hz2
    have fr12 := hfr
    refine W.widen (k := 0) (n := 0) (by omega) (by omega) ?_
    refine fw_iret E hr hlk hH ?_ dX10_ranked_33
    exact ⟨hmt, fun h => absurd h (by decide), (fun q hq hq2 => by rw [fr12 q (by omega), fr3 q (by omega)])⟩
  · exact absurd c8 (by omega)

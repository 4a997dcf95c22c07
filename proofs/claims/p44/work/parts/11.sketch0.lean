theorem k_needOf (l : Launch) (G : fw_G) (M : fw_M) (N : Nat) (b : Int) (hb0 : 0 ≤ b) (hb1 : b ≤ 1) : fMet l yX7_needOf cX7_needOf 1 (some .int) 0 0 0 0 G M N [.int (iI b)] (fw_pi (fun r M1 n1 => r = iI (if b = 0 then 3 else 1) ∧ M1 = M ∧ n1 = N)) := by
  refine fw_met RX7 rfl (by decide +kernel) (Nat.le_of_ble_eq_true rfl) ?_
  intro pG e s m args below meth cG ls E hr hlk hnm hK hH hz hl
  refine lv_iload_n E.1 E.2.1 dX7_needOf_0 rfl (lv_at hl 0 rfl) ?_
  refine fw_if_eq (tgt := 8) E dX7_needOf_1 (by decide) (by omega) (by omega) (fun c1 => ?_) (fun c1 => ?_)
  · refine lv_iconst (v := iI 3) E.1 E.2.1 dX7_needOf_8 (by decide) ?_
    refine fw_iret E hr hlk hH ?_ dX7_needOf_9
    exact ⟨by congr 1; split <;> omega, rfl, hz⟩
  · refine lv_iconst (v := iI 1) E.1 E.2.1 dX7_needOf_4 (by decide) ?_
    refine lv_goto (tgt := 9) E.1 E.2.1 dX7_needOf_5 (by decide) ?_
    refine fw_iret E hr hlk hH ?_ dX7_needOf_9
    exact ⟨by congr 1; split <;> omega, rfl, hz⟩
/-- one more is missing -/
theorem k_miss (l : Launch) (G : fw_G) (M : fw_M) (N : Nat) (a : Nat) (cs vs ss hs : Nat → Int) (n lv : Int) (nd lw : Nat → Int) (ms le : Int) (k : Nat) (b w : Int) (hS : skAt G M a cs vs ss hs n lv nd lw ms le) (hms : ms = ↑k) (hk : k < 40) (hb0 : 0 ≤ b) (hb1 : b ≤ 1) : fMet l yX7_miss cX7_miss 3 none 1 30 0 0 G M N [.ref a, .int (iI b), .int (iI w)] (fw_pv (fun M1 n1 => skAt G M1 a cs vs ss hs n lv (zup nd k (if b = 0 then 3 else 1)) (zup lw k w) (ms + 1) (le + (if b = 0 then 3 else 1)) ∧ n1 = N ∧ ∀ q, q < a ∨ a + 8 ≤ q → M1 q = M q)) := by
  refine fw_met RX7 rfl (by decide +kernel) (Nat.le_of_ble_eq_true rfl) ?_
  intro pG e s m args below meth cG ls E hr hlk hnm hK hH hz hl
  obtain ⟨hb, h0, h1, h6, h7⟩ := hS
  refine lv_aload_n E.1 E.2.1 dX7_miss_0 rfl (lv_at hl 0 rfl) ?_
  refine fw_get E hK hH h0 fc_X7 1 (by decide) ql_RX7_18 rfl rfl dX7_miss_1 ?_
  refine lv_aload_n E.1 E.2.1 dX7_miss_4 rfl (lv_at hl 0 rfl) ?_
  refine fw_get E hK hH h0 fc_X7 3 (by decide) ql_RX7_32 rfl rfl dX7_miss_5 ?_
  refine lv_iload_n E.1 E.2.1 dX7_miss_8 rfl (lv_at hl 1 rfl) ?_
  refine fw_cS (As := [.int (iI b)]) (rest := [.int (iI ms), .ref (a + 6)]) E hK hH hl fL_X7_needOf ql_RX7_46 qs_yX7_needOf (k_needOf l G _ _ b (by omega) (by omega)) rfl rfl (Nat.le_of_ble_eq_true rfl) ⟨Nat.le_of_ble_eq_true rfl, Nat.le_of_ble_eq_true rfl⟩ ⟨Nat.le_of_ble_eq_true rfl, Nat.le_of_ble_eq_true rfl⟩ dX7_miss_9 (fw_ki fun r3 M2 H1 locs1 hp1 hH hz1 => ?_)
  obtain ⟨rfl, hM9, hz2⟩ := hp1
  replace hz := hz2.trans hz
  clear hz1 hz2
  rw [hM9] at hH
  refine fw_cSN (As := [.ref (a + 6), .int (iI ms), .int (iI (if b = 0 then 3 else 1))]) (rest := []) E hK hH hl fL_X9_put ql_RX7_61 qs_yX9_put (k_put l G _ _ (a + 6) 40 nd ms k (if b = 0 then 3 else 1) h6 (by omega) (by omega) (by omega) (by omega)) rfl rfl (Nat.le_of_ble_eq_true rfl) ⟨Nat.le_of_ble_eq_true rfl, Nat.le_of_ble_eq_true rfl⟩ ⟨Nat.le_of_ble_eq_true rfl, Nat.le_of_ble_eq_true rfl⟩ dX7_miss_12 (fw_kv fun M5 H1 locs1 hp4 hH hz1 => ?_)
  obtain ⟨hM8, hz2⟩ := hp4
  have hfr : ∀ q, q ≠ a + 6 → M5 q = M q := fun q h => by rw [hM8]; exact fw_up_ne h
  have h6 : M5 (a + 6) = some (fI G 40 (fun j0 => iI ((zup nd k (if b = 0 then 3 else 1)) j0))) := by rw [hM8]; exact fw_up_eq
  replace hz := hz2.trans hz
  clear hz1 hz2
  have fr6 := hfr
  replace h0 : M5 a = some (.inr (7, [.ref (a + 1), .ref (a + 6), .ref (a + 7), .int (iI ms), .int (iI le)])) := (fr6 _ (by omega)).trans h0
  replace h1 := trAt.fr h1 (fun q h1 h2 => fr6 q (by omega))
  replace h7 : M5 (a + 7) = some (fI G 40 (fun j0 => iI (lw j0))) := (fr6 _ (by omega)).trans h7
  refine lv_aload_n E.1 E.2.1 dX7_miss_15 rfl (lv_at hl 0 rfl) ?_
  refine fw_get E hK hH h0 fc_X7 2 (by decide) ql_RX7_22 rfl rfl dX7_miss_16 ?_
  refine lv_aload_n E.1 E.2.1 dX7_miss_19 rfl (lv_at hl 0 rfl) ?_
  refine fw_get E hK hH h0 fc_X7 3 (by decide) ql_RX7_32 rfl rfl dX7_miss_20 ?_
  refine lv_iload_n E.1 E.2.1 dX7_miss_23 rfl (lv_at hl 2 rfl) ?_
  refine fw_cSN (As := [.ref (a + 7), .int (iI ms), .int (iI w)]) (rest := []) E hK hH hl fL_X9_put ql_RX7_61 qs_yX9_put (k_put l G _ _ (a + 7) 40 lw ms k w h7 (by omega) (by omega) (by omega) (by omega)) rfl rfl (Nat.le_of_ble_eq_true rfl) ⟨Nat.le_of_ble_eq_true rfl, Nat.le_of_ble_eq_true rfl⟩ ⟨Nat.le_of_ble_eq_true rfl, Nat.le_of_ble_eq_true rfl⟩ dX7_miss_24 (fw_kv fun M8 H1 locs1 hp7 hH hz1 => ?_)
  obtain ⟨hM8, hz2⟩ := hp7
  have hfr : ∀ q, q ≠ a + 7 → M8 q = M5 q := fun q h => by rw [hM8]; exact fw_up_ne h
  have h7 : M8 (a + 7) = some (fI G 40 (fun j0 => iI ((zup lw k w) j0))) := by rw [hM8]; exact fw_up_eq
  replace hz := hz2.trans hz
  clear hz1 hz2
  have fr9 := hfr
  replace h0 : M8 a = some (.inr (7, [.ref (a + 1), .ref (a + 6), .ref (a + 7), .int (iI ms), .int (iI le)])) := (fr9 _ (by omega)).trans h0
  replace h1 := trAt.fr h1 (fun q h1 h2 => fr9 q (by omega))
  replace h6 : M8 (a + 6) = some (fI G 40 (fun j0 => iI ((zup nd k (if b = 0 then 3 else 1)) j0))) := (fr9 _ (by omega)).trans h6
  refine lv_aload_n E.1 E.2.1 dX7_miss_27 rfl (lv_at hl 0 rfl) ?_
  refine lv_dup E.1 E.2.1 dX7_miss_28 rfl ?_
  refine fw_get E hK hH h0 fc_X7 3 (by decide) ql_RX7_32 rfl rfl dX7_miss_29 ?_
  refine lv_iconst (v := iI 1) E.1 E.2.1 dX7_miss_32 (by decide) ?_
  refine fw_iadd E dX7_miss_33 ?_
  refine fw_put E hK hH (by omega) h0 fc_X7 3 (by decide) ql_RX7_32 rfl rfl rfl rfl (Nat.le_of_ble_eq_true rfl) dX7_miss_34 (fun H1 locs1 hH hz1 => ?_)
  replace hz := hz1.trans hz; clear hz1
  obtain ⟨M10, hM11⟩ : ∃ MX, MX = fw_up M8 a (.inr (7, [.ref (a + 1), .ref (a + 6), .ref (a + 7), .int (iI (ms + 1)), .int (iI le)])) := ⟨_, rfl⟩
  replace hH := fw_H.nm hM11 hH
  have fr12 : ∀ q, q ≠ a → M10 q = M8 q := fun q h => by rw [hM11]; exact fw_up_ne h
  replace h1 := trAt.fr h1 (fun q h1 h2 => fr12 q (by omega))
  replace h6 : M10 (a + 6) = some (fI G 40 (fun j0 => iI ((zup nd k (if b = 0 then 3 else 1)) j0))) := (fr12 _ (by omega)).trans h6
  replace h7 : M10 (a + 7) = some (fI G 40 (fun j0 => iI ((zup lw k w) j0))) := (fr12 _ (by omega)).trans h7
  have h0 : M10 a = some (.inr (7, [.ref (a + 1), .ref (a + 6), .ref (a + 7), .int (iI (ms + 1)), .int (iI le)])) := by rw [hM11]; exact fw_up_eq
  refine lv_aload_n E.1 E.2.1 dX7_miss_37 rfl (lv_at hl 0 rfl) ?_
  refine lv_dup E.1 E.2.1 dX7_miss_38 rfl ?_
  refine fw_get E hK hH h0 fc_X7 4 (by decide) ql_RX7_35 rfl rfl dX7_miss_39 ?_
  refine lv_iload_n E.1 E.2.1 dX7_miss_42 rfl (lv_at hl 1 rfl) ?_
  refine fw_cS (As := [.int (iI b)]) (rest := [.int (iI le), .ref a]) E hK hH hl fL_X7_needOf ql_RX7_46 qs_yX7_needOf (k_needOf l G _ _ b (by omega) (by omega)) rfl rfl (Nat.le_of_ble_eq_true rfl) ⟨Nat.le_of_ble_eq_true rfl, Nat.le_of_ble_eq_true rfl⟩ ⟨Nat.le_of_ble_eq_true rfl, Nat.le_of_ble_eq_true rfl⟩ dX7_miss_43 (fw_ki fun r15 M14 H1 locs1 hp13 hH hz1 => ?_)
  obtain ⟨rfl, hM9, hz2⟩ := hp13
  replace hz := hz2.trans hz
  clear hz1 hz2
  rw [hM9] at hH
  refine fw_iadd E dX7_miss_46 ?_
  refine fw_put E hK hH (by omega) h0 fc_X7 4 (by decide) ql_RX7_35 rfl rfl rfl rfl (Nat.le_of_ble_eq_true rfl) dX7_miss_47 (fun H1 locs1 hH hz1 => ?_)
  replace hz := hz1.trans hz; clear hz1
  obtain ⟨M16, hM17⟩ : ∃ MX, MX = fw_up M10 a (.inr (7, [.ref (a + 1), .ref (a + 6), .ref (a + 7), .int (iI (ms + 1)), .int (iI (le + (if b = 0 then 3 else 1)))])) := ⟨_, rfl⟩
  replace hH := fw_H.nm hM17 hH
  have fr18 : ∀ q, q ≠ a → M16 q = M10 q := fun q h => by rw [hM17]; exact fw_up_ne h
  replace h1 := trAt.fr h1 (fun q h1 h2 => fr18 q (by omega))
  replace h6 : M16 (a + 6) = some (fI G 40 (fun j0 => iI ((zup nd k (if b = 0 then 3 else 1)) j0))) := (fr18 _ (by omega)).trans h6
  replace h7 : M16 (a + 7) = some (fI G 40 (fun j0 => iI ((zup lw k w) j0))) := (fr18 _ (by omega)).trans h7
  have h0 : M16 a = some (.inr (7, [.ref (a + 1), .ref (a + 6), .ref (a + 7), .int (iI (ms + 1)), .int (iI (le + (if b = 0 then 3 else 1)))])) := by rw [hM17]; exact fw_up_eq
  refine fw_vret E hr hlk hH ?_ dX7_miss_50
  exact ⟨⟨hb, h0, h1, h6, h7⟩, hz, by intro q hq; rw [fr18 q (by omega), fr12 q (by omega), fr9 q (by omega), fr6 q (by omega)]⟩
/-- an empty SKETCH -/
theorem k_clear (l : Launch) (G : fw_G) (M : fw_M) (N : Nat) (a : Nat) (cs vs ss hs : Nat → Int) (n lv : Int) (nd lw : Nat → Int) (ms le : Int) (hS : skAt G M a cs vs ss hs n lv nd lw ms le) : fMet l yX7_clear cX7_clear 1 none 2 60 0 0 G M N [.ref a] (fw_pv (fun M1 n1 => skAt G M1 a cs vs ss hs 0 lv (zup nd 0 1) (zup lw 0 1) 1 1 ∧ n1 = N ∧ ∀ q, q < a ∨ a + 8 ≤ q → M1 q = M q)) := by
  refine fw_met RX7 rfl (by decide +kernel) (Nat.le_of_ble_eq_true rfl) ?_
  intro pG e s m args below meth cG ls E hr hlk hnm hK hH hz hl
  obtain ⟨hb, h0, h1, h6, h7⟩ := hS
  refine lv_aload_n E.1 E.2.1 dX7_clear_0 rfl (lv_at hl 0 rfl) ?_
  refine fw_get E hK hH h0 fc_X7 0 (by decide) ql_RX7_12 rfl rfl dX7_clear_1 ?_
  refine lv_iconst (v := iI 0) E.1 E.2.1 dX7_clear_4 (by decide) ?_
  obtain ⟨_, t0, t1, t2, t3, t4⟩ := h1
  refine fw_putN E hK hH (by omega) t0 fc_X8 4 (by decide) ql_RX7_28 rfl rfl rfl rfl (Nat.le_of_ble_eq_true rfl) dX7_clear_5 (fun H1 locs1 hH hz1 => ?_)
  replace hz := hz1.trans hz; clear hz1
  obtain ⟨M1, hM2⟩ : ∃ MX, MX = fw_up M (a + 1) (.inr (8, [.ref (a + 1 + 1), .ref (a + 1 + 2), .ref (a + 1 + 3), .ref (a + 1 + 4), .int (iI 0), .int (iI lv)])) := ⟨_, rfl⟩
  replace hH := fw_H.nm hM2 hH
  have fr3 : ∀ q, q ≠ (a + 1) → M1 q = M q := fun q h => by rw [hM2]; exact fw_up_ne h
  replace h0 : M1 a = some (.inr (7, [.ref (a + 1), .ref (a + 6), .ref (a + 7), .int (iI ms), .int (iI le)])) := (fr3 _ (by omega)).trans h0
  replace h6 : M1 (a + 6) = some (fI G 40 (fun j0 => iI (nd j0))) := (fr3 _ (by omega)).trans h6
  replace h7 : M1 (a + 7) = some (fI G 40 (fun j0 => iI (lw j0))) := (fr3 _ (by omega)).trans h7
  replace t1 : M1 (a + 1 + 1) = some (fI G 40 (fun j0 => iI (cs j0))) := (fr3 _ (by omega)).trans t1
  replace t2 : M1 (a + 1 + 2) = some (fI G 40 (fun j0 => iI (vs j0))) := (fr3 _ (by omega)).trans t2
  replace t3 : M1 (a + 1 + 3) = some (fI G 40 (fun j0 => iI (ss j0))) := (fr3 _ (by omega)).trans t3
  replace t4 : M1 (a + 1 + 4) = some (fI G 40 (fun j0 => iI (hs j0))) := (fr3 _ (by omega)).trans t4
  have t0 : M1 (a + 1) = some (.inr (8, [.ref (a + 1 + 1), .ref (a + 1 + 2), .ref (a + 1 + 3), .ref (a + 1 + 4), .int (iI 0), .int (iI lv)])) := by rw [hM2]; exact fw_up_eq
  refine lv_aload_n E.1 E.2.1 dX7_clear_8 rfl (lv_at hl 0 rfl) ?_
  refine lv_iconst (v := iI 0) E.1 E.2.1 dX7_clear_9 (by decide) ?_
  refine fw_put E hK hH (by omega) h0 fc_X7 3 (by decide) ql_RX7_32 rfl rfl rfl rfl (Nat.le_of_ble_eq_true rfl) dX7_clear_10 (fun H1 locs1 hH hz1 => ?_)
  replace hz := hz1.trans hz; clear hz1
  obtain ⟨M4, hM5⟩ : ∃ MX, MX = fw_up M1 a (.inr (7, [.ref (a + 1), .ref (a + 6), .ref (a + 7), .int (iI 0), .int (iI le)])) := ⟨_, rfl⟩
  replace hH := fw_H.nm hM5 hH
  have fr6 : ∀ q, q ≠ a → M4 q = M1 q := fun q h => by rw [hM5]; exact fw_up_ne h
  replace h6 : M4 (a + 6) = some (fI G 40 (fun j0 => iI (nd j0))) := (fr6 _ (by omega)).trans h6
  replace h7 : M4 (a + 7) = some (fI G 40 (fun j0 => iI (lw j0))) := (fr6 _ (by omega)).trans h7
  replace t1 : M4 (a + 1 + 1) = some (fI G 40 (fun j0 => iI (cs j0))) := (fr6 _ (by omega)).trans t1
  replace t2 : M4 (a + 1 + 2) = some (fI G 40 (fun j0 => iI (vs j0))) := (fr6 _ (by omega)).trans t2
  replace t3 : M4 (a + 1 + 3) = some (fI G 40 (fun j0 => iI (ss j0))) := (fr6 _ (by omega)).trans t3
  replace t4 : M4 (a + 1 + 4) = some (fI G 40 (fun j0 => iI (hs j0))) := (fr6 _ (by omega)).trans t4
  replace t0 : M4 (a + 1) = some (.inr (8, [.ref (a + 1 + 1), .ref (a + 1 + 2), .ref (a + 1 + 3), .ref (a + 1 + 4), .int (iI 0), .int (iI lv)])) := (fr6 _ (by omega)).trans t0
  have h0 : M4 a = some (.inr (7, [.ref (a + 1), .ref (a + 6), .ref (a + 7), .int (iI 0), .int (iI le)])) := by rw [hM5]; exact fw_up_eq
  refine lv_aload_n E.1 E.2.1 dX7_clear_13 rfl (lv_at hl 0 rfl) ?_
  refine lv_iconst (v := iI 0) E.1 E.2.1 dX7_clear_14 (by decide) ?_
  refine fw_put E hK hH (by omega) h0 fc_X7 4 (by decide) ql_RX7_35 rfl rfl rfl rfl (Nat.le_of_ble_eq_true rfl) dX7_clear_15 (fun H1 locs1 hH hz1 => ?_)
  replace hz := hz1.trans hz; clear hz1
  obtain ⟨M7, hM8⟩ : ∃ MX, MX = fw_up M4 a (.inr (7, [.ref (a + 1), .ref (a + 6), .ref (a + 7), .int (iI 0), .int (iI 0)])) := ⟨_, rfl⟩
  replace hH := fw_H.nm hM8 hH
  have fr9 : ∀ q, q ≠ a → M7 q = M4 q := fun q h => by rw [hM8]; exact fw_up_ne h
  replace h6 : M7 (a + 6) = some (fI G 40 (fun j0 => iI (nd j0))) := (fr9 _ (by omega)).trans h6
  replace h7 : M7 (a + 7) = some (fI G 40 (fun j0 => iI (lw j0))) := (fr9 _ (by omega)).trans h7
  replace t1 : M7 (a + 1 + 1) = some (fI G 40 (fun j0 => iI (cs j0))) := (fr9 _ (by omega)).trans t1
  replace t2 : M7 (a + 1 + 2) = some (fI G 40 (fun j0 => iI (vs j0))) := (fr9 _ (by omega)).trans t2
  replace t3 : M7 (a + 1 + 3) = some (fI G 40 (fun j0 => iI (ss j0))) := (fr9 _ (by omega)).trans t3
  replace t4 : M7 (a + 1 + 4) = some (fI G 40 (fun j0 => iI (hs j0))) := (fr9 _ (by omega)).trans t4
  replace t0 : M7 (a + 1) = some (.inr (8, [.ref (a + 1 + 1), .ref (a + 1 + 2), .ref (a + 1 + 3), .ref (a + 1 + 4), .int (iI 0), .int (iI lv)])) := (fr9 _ (by omega)).trans t0
  have h0 : M7 a = some (.inr (7, [.ref (a + 1), .ref (a + 6), .ref (a + 7), .int (iI 0), .int (iI 0)])) := by rw [hM8]; exact fw_up_eq
  refine lv_aload_n E.1 E.2.1 dX7_clear_18 rfl (lv_at hl 0 rfl) ?_
  refine lv_iconst (v := iI 1) E.1 E.2.1 dX7_clear_19 (by decide) ?_
  refine lv_iconst (v := iI 1) E.1 E.2.1 dX7_clear_20 (by decide) ?_
  have h1 : trAt G M7 (a + 1) cs vs ss hs 0 lv := ⟨by omega, t0, t1, t2, t3, t4⟩
  have hS : skAt G M7 a cs vs ss hs 0 lv nd lw 0 0 := ⟨hb, h0, h1, h6, h7⟩
  refine fw_cV (As := [.int (iI 1), .int (iI 1)]) (rest := []) E hK hH hl hS.2.1 fc_X7 fL_X7_miss ql_RX7_38 qi_yX7_miss qv_yX7_miss (k_miss l G _ _ a cs vs ss hs 0 lv nd lw 0 0 0 1 1 hS (by omega) (by omega) (by omega) (by omega)) rfl rfl (Nat.le_of_ble_eq_true rfl) ⟨Nat.le_of_ble_eq_true rfl, Nat.le_of_ble_eq_true rfl⟩ ⟨Nat.le_of_ble_eq_true rfl, Nat.le_of_ble_eq_true rfl⟩ dX7_clear_21 (fw_kv fun M11 H1 locs1 hp10 hH hz1 => ?_)
  obtain ⟨hS, hz2, hfr⟩ := hp10
  replace hz := hz2.trans hz
  clear hz1 hz2
  have fr12 := hfr
  refine fw_vret E hr hlk hH ?_ dX7_clear_24
  exact ⟨hS, hz, by intro q hq; rw [fr12 q (by omega), fr9 q (by omega), fr6 q (by omega), fr3 q (by omega)]⟩
/-- a new SKETCH -/
theorem k_Sketch_init (l : Launch) (G : fw_G) (M : fw_M) (N : Nat) (a : Nat) (hb : G.2.2.1 ≤ a) (ha : M a = some (.inr (7, [.null, .null, .null, .int 0, .int 0]))) (hN : N = a + 1) : fMet l yX7_init cX7_init 1 none 3 90 7 246 G M N [.ref a] (fw_pv (fun M1 n1 => skAt G M1 a z0 z0 z0 z0 0 0 (zup z0 0 1) (zup z0 0 1) 1 1 ∧ n1 = N + 7 ∧ ∀ q, q < a → M1 q = M q)) := by
  refine fw_met RX7 rfl (by decide +kernel) (Nat.le_of_ble_eq_true rfl) ?_
  intro pG e s m args below meth cG ls E hr hlk hnm hK hH hz hl
  have hz := hz.trans hN
  refine lv_aload_n E.1 E.2.1 dX7_init_0 rfl (lv_at hl 0 rfl) ?_
  refine fw_obj E ql_RX7_3 qi_obj qc_obj hl dX7_init_1 ⟨by decide, by decide⟩ ?_
  refine lv_aload_n E.1 E.2.1 dX7_init_4 rfl (lv_at hl 0 rfl) ?_
  refine fw_new (fs := [.null, .null, .null, .null, .int 0, .int 0]) E hK hH hz fc_X8 ql_RX7_9 qt_RX8 qn_RX8 (fun j hj => by rcases (show j = 0 ∨ j = 1 ∨ j = 2 ∨ j = 3 ∨ j = 4 ∨ j = 5 by omega) with rfl | rfl | rfl | rfl | rfl | rfl <;> rfl) ⟨Nat.le_of_ble_eq_true rfl, Nat.le_of_ble_eq_true rfl⟩ dX7_init_5 (fun H1 hH hz1 => ?_)
  replace hz : H1.size = a + 2 := by omega
  clear hz1
  obtain ⟨M1, hM2⟩ : ∃ MX, MX = fw_up M (a + 1) (.inr (8, [.null, .null, .null, .null, .int 0, .int 0])) := ⟨_, rfl⟩
  replace hH := fw_H.nm hM2 hH
  have fr3 : ∀ q, q ≠ a + 1 → M1 q = M q := fun q h => by rw [hM2]; exact fw_up_ne h
  replace ha : M1 a = some (.inr (7, [.null, .null, .null, .int 0, .int 0])) := (fr3 _ (by omega)).trans ha
  have hn0 : M1 (a + 1) = some (.inr (8, [.null, .null, .null, .null, .int 0, .int 0])) := by rw [hM2]; exact fw_up_eq
  refine lv_dup E.1 E.2.1 dX7_init_8 rfl ?_
  refine fw_cIN (As := []) (rest := [.ref (a + 1), .ref a]) E hK hH hl fL_X8_init rfl ql_RX7_11 qi_yX8_init (k_Tree_init l G _ _ (a + 1) (by omega) hn0 (by omega)) rfl rfl (Nat.le_of_ble_eq_true rfl) ⟨Nat.le_of_ble_eq_true rfl, Nat.le_of_ble_eq_true rfl⟩ ⟨Nat.le_of_ble_eq_true rfl, Nat.le_of_ble_eq_true rfl⟩ dX7_init_9 (fw_kv fun M5 H1 locs1 hp4 hH hz1 => ?_)
  obtain ⟨htrAt2, hz2, hfr⟩ := hp4
  replace hz : H1.size = a + 6 := by omega
  clear hz1 hz2
  have fr6 := hfr
  replace ha : M5 a = some (.inr (7, [.null, .null, .null, .int 0, .int 0])) := (fr6 _ (by omega)).trans ha
  refine fw_putF E hK hH (by omega) ha fc_X7 0 (by decide) ql_RX7_12 rfl rfl hnm rfl rfl (Nat.le_of_ble_eq_true rfl) dX7_init_12 (fun H1 locs1 hH hz1 => ?_)
  replace hz := hz1.trans hz; clear hz1
  obtain ⟨M7, hM8⟩ : ∃ MX, MX = fw_up M5 a (.inr (7, [.ref (a + 1), .null, .null, .int 0, .int 0])) := ⟨_, rfl⟩
  replace hH := fw_H.nm hM8 hH
  have fr9 : ∀ q, q ≠ a → M7 q = M5 q := fun q h => by rw [hM8]; exact fw_up_ne h
  replace htrAt2 := trAt.fr htrAt2 (fun q h1 h2 => fr9 q (by omega))
  have ha : M7 a = some (.inr (7, [.ref (a + 1), .null, .null, .int 0, .int 0])) := by rw [hM8]; exact fw_up_eq
  refine lv_aload_n E.1 E.2.1 dX7_init_15 rfl (lv_at hl 0 rfl) ?_
  refine lv_bipush (v := iI 40) E.1 E.2.1 dX7_init_16 (by decide) ?_
  refine fw_newI (N := 40) E hK hH hz qa_int (by decide) (by decide) (by decide) ⟨Nat.le_of_ble_eq_true rfl, Nat.le_of_ble_eq_true rfl⟩ dX7_init_18 (fun H1 hH hz1 => ?_)
  replace hz : H1.size = a + 7 := by omega
  clear hz1
  obtain ⟨M10, hM11⟩ : ∃ MX, MX = fw_up M7 (a + 6) (fI G 40 (fun j0 => iI (z0 j0))) := ⟨_, rfl⟩
  replace hH := fw_H.nm hM11 hH
  have fr12 : ∀ q, q ≠ a + 6 → M10 q = M7 q := fun q h => by rw [hM11]; exact fw_up_ne h
  replace htrAt2 := trAt.fr htrAt2 (fun q h1 h2 => fr12 q (by omega))
  replace ha : M10 a = some (.inr (7, [.ref (a + 1), .null, .null, .int 0, .int 0])) := (fr12 _ (by omega)).trans ha
  have hn2 : M10 (a + 6) = some (fI G 40 (fun j0 => iI (z0 j0))) := by rw [hM11]; exact fw_up_eq
  refine fw_putF E hK hH (by omega) ha fc_X7 1 (by decide) ql_RX7_18 rfl rfl hnm rfl rfl (Nat.le_of_ble_eq_true rfl) dX7_init_20 (fun H1 locs1 hH hz1 => ?_)
  replace hz := hz1.trans hz; clear hz1
  obtain ⟨M13, hM14⟩ : ∃ MX, MX = fw_up M10 a (.inr (7, [.ref (a + 1), .ref (a + 6), .null, .int 0, .int 0])) := ⟨_, rfl⟩
  replace hH := fw_H.nm hM14 hH
  have fr15 : ∀ q, q ≠ a → M13 q = M10 q := fun q h => by rw [hM14]; exact fw_up_ne h
  replace htrAt2 := trAt.fr htrAt2 (fun q h1 h2 => fr15 q (by omega))
  replace hn2 : M13 (a + 6) = some (fI G 40 (fun j0 => iI (z0 j0))) := (fr15 _ (by omega)).trans hn2
  have ha : M13 a = some (.inr (7, [.ref (a + 1), .ref (a + 6), .null, .int 0, .int 0])) := by rw [hM14]; exact fw_up_eq
  refine lv_aload_n E.1 E.2.1 dX7_init_23 rfl (lv_at hl 0 rfl) ?_
  refine lv_bipush (v := iI 40) E.1 E.2.1 dX7_init_24 (by decide) ?_
  refine fw_newI (N := 40) E hK hH hz qa_int (by decide) (by decide) (by decide) ⟨Nat.le_of_ble_eq_true rfl, Nat.le_of_ble_eq_true rfl⟩ dX7_init_26 (fun H1 hH hz1 => ?_)
  replace hz : H1.size = a + 8 := by omega
  clear hz1
  obtain ⟨M16, hM17⟩ : ∃ MX, MX = fw_up M13 (a + 7) (fI G 40 (fun j0 => iI (z0 j0))) := ⟨_, rfl⟩
  replace hH := fw_H.nm hM17 hH
  have fr18 : ∀ q, q ≠ a + 7 → M16 q = M13 q := fun q h => by rw [hM17]; exact fw_up_ne h
  replace htrAt2 := trAt.fr htrAt2 (fun q h1 h2 => fr18 q (by omega))
  replace hn2 : M16 (a + 6) = some (fI G 40 (fun j0 => iI (z0 j0))) := (fr18 _ (by omega)).trans hn2
  replace ha : M16 a = some (.inr (7, [.ref (a + 1), .ref (a + 6), .null, .int 0, .int 0])) := (fr18 _ (by omega)).trans ha
  have hn3 : M16 (a + 7) = some (fI G 40 (fun j0 => iI (z0 j0))) := by rw [hM17]; exact fw_up_eq
  refine fw_putF E hK hH (by omega) ha fc_X7 2 (by decide) ql_RX7_22 rfl rfl hnm rfl rfl (Nat.le_of_ble_eq_true rfl) dX7_init_28 (fun H1 locs1 hH hz1 => ?_)
  replace hz := hz1.trans hz; clear hz1
  obtain ⟨M19, hM20⟩ : ∃ MX, MX = fw_up M16 a (.inr (7, [.ref (a + 1), .ref (a + 6), .ref (a + 7), .int 0, .int 0])) := ⟨_, rfl⟩
  replace hH := fw_H.nm hM20 hH
  have fr21 : ∀ q, q ≠ a → M19 q = M16 q := fun q h => by rw [hM20]; exact fw_up_ne h
  replace htrAt2 := trAt.fr htrAt2 (fun q h1 h2 => fr21 q (by omega))
  replace hn2 : M19 (a + 6) = some (fI G 40 (fun j0 => iI (z0 j0))) := (fr21 _ (by omega)).trans hn2
  replace hn3 : M19 (a + 7) = some (fI G 40 (fun j0 => iI (z0 j0))) := (fr21 _ (by omega)).trans hn3
  have ha : M19 a = some (.inr (7, [.ref (a + 1), .ref (a + 6), .ref (a + 7), .int 0, .int 0])) := by rw [hM20]; exact fw_up_eq
  refine lv_aload_n E.1 E.2.1 dX7_init_31 rfl (lv_at hl 0 rfl) ?_
  have hS : skAt G M19 a z0 z0 z0 z0 0 0 z0 z0 0 0 := ⟨by omega, ha, htrAt2, hn2, hn3⟩
  refine fw_cV (As := []) (rest := []) E hK hH hl hS.2.1 fc_X7 fL_X7_clear ql_RX7_25 qi_yX7_clear qv_yX7_clear (k_clear l G _ _ a z0 z0 z0 z0 0 0 z0 z0 0 0 hS) rfl rfl (Nat.le_of_ble_eq_true rfl) ⟨Nat.le_of_ble_eq_true rfl, Nat.le_of_ble_eq_true rfl⟩ ⟨Nat.le_of_ble_eq_true rfl, Nat.le_of_ble_eq_true rfl⟩ dX7_init_32 (fw_kv fun M23 H1 locs1 hp22 hH hz1 => ?_)
  obtain ⟨hS, hz2, hfr⟩ := hp22
  replace hz := hz2.trans hz
  clear hz1 hz2
  have fr24 := hfr
  refine fw_vret E hr hlk hH ?_ dX7_init_35
  exact ⟨hS, by omega, by intro q hq; rw [fr24 q (by omega), fr21 q (by omega), fr18 q (by omega), fr15 q (by omega), fr12 q (by omega), fr9 q (by omega), fr6 q (by omega), fr3 q (by omega)]⟩

def z0 : Nat → Int := fun _ => 0
/-- a TREE of the class: its object and its four rows, one behind the other -/
def trAt (G : fw_G) (M : fw_M) (a : Nat) (cs vs ss hs : Nat → Int) (n lv : Int) : Prop := G.2.2.1 ≤ a ∧ M a = some (.inr (8, [.ref (a + 1), .ref (a + 2), .ref (a + 3), .ref (a + 4), .int (iI n), .int (iI lv)])) ∧ M (a + 1) = some (fI G 40 (fun j0 => iI (cs j0))) ∧ M (a + 2) = some (fI G 40 (fun j0 => iI (vs j0))) ∧ M (a + 3) = some (fI G 40 (fun j0 => iI (ss j0))) ∧ M (a + 4) = some (fI G 40 (fun j0 => iI (hs j0)))
theorem trAt.fr {G : fw_G} {M M1 : fw_M} {a : Nat} {cs vs ss hs : Nat → Int} {n lv : Int} (h : trAt G M a cs vs ss hs n lv) (hf : ∀ q, a ≤ q → q < a + 5 → M1 q = M q) : trAt G M1 a cs vs ss hs n lv := by
  obtain ⟨h0, h1, h2, h3, h4, h5⟩ := h
  exact ⟨h0, (hf _ (by omega) (by omega)).trans h1, (hf _ (by omega) (by omega)).trans h2, (hf _ (by omega) (by omega)).trans h3, (hf _ (by omega) (by omega)).trans h4, (hf _ (by omega) (by omega)).trans h5⟩
theorem k_code (l : Launch) (G : fw_G) (M : fw_M) (N : Nat) (a : Nat) (cs vs ss hs : Nat → Int) (n lv : Int) (z : Int) (k : Nat) (hT : trAt G M a cs vs ss hs n lv) (hzk : z = ↑k) (hk : k < 40) : fMet l yX8_code cX8_code 2 (some .int) 1 30 0 0 G M N [.ref a, .int (iI z)] (fw_pi (fun r M1 n1 => r = iI (cs k) ∧ M1 = M ∧ n1 = N)) := by
  refine fw_met RX8 rfl (by decide +kernel) (Nat.le_of_ble_eq_true rfl) ?_
  intro pG e s m args below meth cG ls E hr hlk hnm hK hH hz hl
  refine lv_aload_n E.1 E.2.1 dX8_code_0 rfl (lv_at hl 0 rfl) ?_
  refine fw_get E hK hH hT.2.1 fc_X8 0 (by decide) ql_RX8_9 rfl rfl dX8_code_1 ?_
  refine lv_iload_n E.1 E.2.1 dX8_code_4 rfl (lv_at hl 1 rfl) ?_
  refine fw_cSN (As := [.ref (a + 1), .int (iI z)]) (rest := []) E hK hH hl fL_X9_at ql_RX8_24 qs_yX9_at (k_at l G _ _ (a + 1) 40 cs z k hT.2.2.1 (by omega) (by omega) (by omega)) rfl rfl (Nat.le_of_ble_eq_true rfl) ⟨Nat.le_of_ble_eq_true rfl, Nat.le_of_ble_eq_true rfl⟩ ⟨Nat.le_of_ble_eq_true rfl, Nat.le_of_ble_eq_true rfl⟩ dX8_code_5 (fw_ki fun r3 M2 H1 locs1 hp1 hH hz1 => ?_)
  obtain ⟨rfl, hM9, hz2⟩ := hp1
  replace hz := hz2.trans hz
  clear hz1 hz2
  rw [hM9] at hH
  refine fw_iret E hr hlk hH ?_ dX8_code_8
  exact ⟨rfl, rfl, hz⟩
theorem k_value (l : Launch) (G : fw_G) (M : fw_M) (N : Nat) (a : Nat) (cs vs ss hs : Nat → Int) (n lv : Int) (z : Int) (k : Nat) (hT : trAt G M a cs vs ss hs n lv) (hzk : z = ↑k) (hk : k < 40) : fMet l yX8_value cX8_value 2 (some .int) 1 30 0 0 G M N [.ref a, .int (iI z)] (fw_pi (fun r M1 n1 => r = iI (vs k) ∧ M1 = M ∧ n1 = N)) := by
  refine fw_met RX8 rfl (by decide +kernel) (Nat.le_of_ble_eq_true rfl) ?_
  intro pG e s m args below meth cG ls E hr hlk hnm hK hH hz hl
  refine lv_aload_n E.1 E.2.1 dX8_value_0 rfl (lv_at hl 0 rfl) ?_
  refine fw_get E hK hH hT.2.1 fc_X8 1 (by decide) ql_RX8_15 rfl rfl dX8_value_1 ?_
  refine lv_iload_n E.1 E.2.1 dX8_value_4 rfl (lv_at hl 1 rfl) ?_
  refine fw_cSN (As := [.ref (a + 2), .int (iI z)]) (rest := []) E hK hH hl fL_X9_at ql_RX8_24 qs_yX9_at (k_at l G _ _ (a + 2) 40 vs z k hT.2.2.2.1 (by omega) (by omega) (by omega)) rfl rfl (Nat.le_of_ble_eq_true rfl) ⟨Nat.le_of_ble_eq_true rfl, Nat.le_of_ble_eq_true rfl⟩ ⟨Nat.le_of_ble_eq_true rfl, Nat.le_of_ble_eq_true rfl⟩ dX8_value_5 (fw_ki fun r3 M2 H1 locs1 hp1 hH hz1 => ?_)
  obtain ⟨rfl, hM9, hz2⟩ := hp1
  replace hz := hz2.trans hz
  clear hz1 hz2
  rw [hM9] at hH
  refine fw_iret E hr hlk hH ?_ dX8_value_8
  exact ⟨rfl, rfl, hz⟩
theorem k_span (l : Launch) (G : fw_G) (M : fw_M) (N : Nat) (a : Nat) (cs vs ss hs : Nat → Int) (n lv : Int) (z : Int) (k : Nat) (hT : trAt G M a cs vs ss hs n lv) (hzk : z = ↑k) (hk : k < 40) : fMet l yX8_span cX8_span 2 (some .int) 1 30 0 0 G M N [.ref a, .int (iI z)] (fw_pi (fun r M1 n1 => r = iI (ss k) ∧ M1 = M ∧ n1 = N)) := by
  refine fw_met RX8 rfl (by decide +kernel) (Nat.le_of_ble_eq_true rfl) ?_
  intro pG e s m args below meth cG ls E hr hlk hnm hK hH hz hl
  refine lv_aload_n E.1 E.2.1 dX8_span_0 rfl (lv_at hl 0 rfl) ?_
  refine fw_get E hK hH hT.2.1 fc_X8 2 (by decide) ql_RX8_18 rfl rfl dX8_span_1 ?_
  refine lv_iload_n E.1 E.2.1 dX8_span_4 rfl (lv_at hl 1 rfl) ?_
  refine fw_cSN (As := [.ref (a + 3), .int (iI z)]) (rest := []) E hK hH hl fL_X9_at ql_RX8_24 qs_yX9_at (k_at l G _ _ (a + 3) 40 ss z k hT.2.2.2.2.1 (by omega) (by omega) (by omega)) rfl rfl (Nat.le_of_ble_eq_true rfl) ⟨Nat.le_of_ble_eq_true rfl, Nat.le_of_ble_eq_true rfl⟩ ⟨Nat.le_of_ble_eq_true rfl, Nat.le_of_ble_eq_true rfl⟩ dX8_span_5 (fw_ki fun r3 M2 H1 locs1 hp1 hH hz1 => ?_)
  obtain ⟨rfl, hM9, hz2⟩ := hp1
  replace hz := hz2.trans hz
  clear hz1 hz2
  rw [hM9] at hH
  refine fw_iret E hr hlk hH ?_ dX8_span_8
  exact ⟨rfl, rfl, hz⟩
theorem k_isNumber (l : Launch) (G : fw_G) (M : fw_M) (N : Nat) (a : Nat) (cs vs ss hs : Nat → Int) (n lv : Int) (z : Int) (k : Nat) (hT : trAt G M a cs vs ss hs n lv) (hzk : z = ↑k) (hk : k < 40) (hc : 0 ≤ cs k ∧ cs k ≤ 13) : fMet l yX8_isNumber cX8_isNumber 2 (some .boolean) 1 30 0 0 G M N [.ref a, .int (iI z)] (fw_pi (fun r M1 n1 => r = iI (if cs k ≤ 8 then 1 else 0) ∧ M1 = M ∧ n1 = N)) := by
  refine fw_met RX8 rfl (by decide +kernel) (Nat.le_of_ble_eq_true rfl) ?_
  intro pG e s m args below meth cG ls E hr hlk hnm hK hH hz hl
  have hc1 := hc.1
  have hc2 := hc.2
  refine lv_aload_n E.1 E.2.1 dX8_isNumber_0 rfl (lv_at hl 0 rfl) ?_
  refine fw_get E hK hH hT.2.1 fc_X8 0 (by decide) ql_RX8_9 rfl rfl dX8_isNumber_1 ?_
  refine lv_iload_n E.1 E.2.1 dX8_isNumber_4 rfl (lv_at hl 1 rfl) ?_
  refine fw_cSN (As := [.ref (a + 1), .int (iI z)]) (rest := []) E hK hH hl fL_X9_at ql_RX8_24 qs_yX9_at (k_at l G _ _ (a + 1) 40 cs z k hT.2.2.1 (by omega) (by omega) (by omega)) rfl rfl (Nat.le_of_ble_eq_true rfl) ⟨Nat.le_of_ble_eq_true rfl, Nat.le_of_ble_eq_true rfl⟩ ⟨Nat.le_of_ble_eq_true rfl, Nat.le_of_ble_eq_true rfl⟩ dX8_isNumber_5 (fw_ki fun r3 M2 H1 locs1 hp1 hH hz1 => ?_)
  obtain ⟨rfl, hM9, hz2⟩ := hp1
  replace hz := hz2.trans hz
  clear hz1 hz2
  rw [hM9] at hH
  refine lv_bipush (v := iI 8) E.1 E.2.1 dX8_isNumber_8 (by decide) ?_
  refine fw_icmp_gt (tgt := 17) E dX8_isNumber_10 (by decide) (by omega) (by omega) (by omega) (by omega) (fun c4 => ?_) (fun c4 => ?_)
  · refine lv_iconst (v := iI 0) E.1 E.2.1 dX8_isNumber_17 (by decide) ?_
    refine fw_zret (r := (iI 0)) E hr hlk hH (by rfl) ?_ dX8_isNumber_18
    exact ⟨by congr 1; split <;> omega, rfl, hz⟩
  · refine lv_iconst (v := iI 1) E.1 E.2.1 dX8_isNumber_13 (by decide) ?_
    refine lv_goto (tgt := 18) E.1 E.2.1 dX8_isNumber_14 (by decide) ?_
    refine fw_zret (r := (iI 1)) E hr hlk hH (by rfl) ?_ dX8_isNumber_18
    exact ⟨by congr 1; split <;> omega, rfl, hz⟩
theorem k_behind (l : Launch) (G : fw_G) (M : fw_M) (N : Nat) (a : Nat) (cs vs ss hs : Nat → Int) (n lv : Int) (z : Int) (k : Nat) (hT : trAt G M a cs vs ss hs n lv) (hzk : z = ↑k) (hk : k < 40) : fMet l yX8_behind cX8_behind 2 (some .int) 1 30 0 0 G M N [.ref a, .int (iI z)] (fw_pi (fun r M1 n1 => r = iI (z + ss k) ∧ M1 = M ∧ n1 = N)) := by
  refine fw_met RX8 rfl (by decide +kernel) (Nat.le_of_ble_eq_true rfl) ?_
  intro pG e s m args below meth cG ls E hr hlk hnm hK hH hz hl
  refine lv_iload_n E.1 E.2.1 dX8_behind_0 rfl (lv_at hl 1 rfl) ?_
  refine lv_aload_n E.1 E.2.1 dX8_behind_1 rfl (lv_at hl 0 rfl) ?_
  refine fw_get E hK hH hT.2.1 fc_X8 2 (by decide) ql_RX8_18 rfl rfl dX8_behind_2 ?_
  refine lv_iload_n E.1 E.2.1 dX8_behind_5 rfl (lv_at hl 1 rfl) ?_
  refine fw_cSN (As := [.ref (a + 3), .int (iI z)]) (rest := [.int (iI z)]) E hK hH hl fL_X9_at ql_RX8_24 qs_yX9_at (k_at l G _ _ (a + 3) 40 ss z k hT.2.2.2.2.1 (by omega) (by omega) (by omega)) rfl rfl (Nat.le_of_ble_eq_true rfl) ⟨Nat.le_of_ble_eq_true rfl, Nat.le_of_ble_eq_true rfl⟩ ⟨Nat.le_of_ble_eq_true rfl, Nat.le_of_ble_eq_true rfl⟩ dX8_behind_6 (fw_ki fun r3 M2 H1 locs1 hp1 hH hz1 => ?_)
  obtain ⟨rfl, hM9, hz2⟩ := hp1
  replace hz := hz2.trans hz
  clear hz1 hz2
  rw [hM9] at hH
  refine fw_iadd E dX8_behind_9 ?_
  refine fw_iret E hr hlk hH ?_ dX8_behind_10
  exact ⟨rfl, rfl, hz⟩

theorem b_trees (l : Launch) (G : fw_G) (M : fw_M) (N : Nat) (b o cn : Nat) (lk gn mi : Int) (T : Nat → aT) (hbn : bnAt G M b) (hG : gcW G M (b + 33) o lk cn gn mi T) : fMet l yX9_trees cX9_trees 1 (some .int) 4 140 0 0 G M N [.ref b] (fw_pi (fun r M1 n1 => r = iI (↑cn) ∧ M1 = M ∧ n1 = N)) := by
  refine fw_met RX9 rfl (by decide +kernel) (Nat.le_of_ble_eq_true rfl) ?_
  intro pG e s m args below meth cG ls E hr hlk hnm hK hH hz hl
  obtain ⟨hgb, ho1, hcn⟩ := hG.o1
  refine lv_aload_n E.1 E.2.1 dX9_trees_0 rfl (lv_at hl 0 rfl) ?_
  refine fw_get E hK hH hbn.2 fc_X9 6 (by decide) ql_RX9_54 rfl rfl dX9_trees_1 ?_
  refine fw_getN E hK hH hG.2.1 fc_X2 4 (by decide) ql_RX9_99 rfl rfl dX9_trees_4 ?_
  refine fw_iret E hr hlk hH ?_ dX9_trees_7
  exact ⟨rfl, rfl, hz⟩
theorem b_size (l : Launch) (G : fw_G) (M : fw_M) (N : Nat) (b o cn : Nat) (lk gn mi : Int) (T : Nat → aT) (hbn : bnAt G M b) (hG : gcW G M (b + 33) o lk cn gn mi T) (x : Nat) (hx : x < cn) (hv : vtOK (T x).1 (T x).2.1 (T x).2.2.1 (T x).2.2.2) : fMet l yX9_size cX9_size 2 (some .int) 4 140 0 0 G M N [.ref b, .int (iI ↑x)] (fw_pi (fun r M1 n1 => r = iI (↑(T x).1) ∧ M1 = M ∧ n1 = N)) := by
  refine fw_met RX9 rfl (by decide +kernel) (Nat.le_of_ble_eq_true rfl) ?_
  intro pG e s m args below meth cG ls E hr hlk hnm hK hH hz hl
  obtain ⟨hgb, ho1, hcn⟩ := hG.o1
  have hv1 := hv.1
  refine lv_aload_n E.1 E.2.1 dX9_size_0 rfl (lv_at hl 0 rfl) ?_
  refine lv_iload_n E.1 E.2.1 dX9_size_1 rfl (lv_at hl 1 rfl) ?_
  refine fw_cV (As := [.int (iI ↑x)]) (rest := []) E hK hH hl hbn.2 fc_X9 fL_X9_requireTree ql_RX9_108 qi_yX9_requireTree qv_yX9_requireTree (k_reqTree l G _ _ b o cn lk gn mi T hbn hG x (by omega)) rfl rfl (Nat.le_of_ble_eq_true rfl) ⟨Nat.le_of_ble_eq_true rfl, Nat.le_of_ble_eq_true rfl⟩ ⟨Nat.le_of_ble_eq_true rfl, Nat.le_of_ble_eq_true rfl⟩ dX9_size_2 (fw_kr fun r3 M2 H1 locs1 hp1 hH hz1 => ?_)
  obtain ⟨rfl, hM9, hz2⟩ := hp1
  have hT7 := hG.tr (j := x) (by omega)
  replace hz := hz2.trans hz
  clear hz1 hz2
  rw [hM9] at hH
  refine fw_getN E hK hH hT7.c fc_X8 4 (by decide) ql_RX9_93 rfl rfl dX9_size_5 ?_
  refine fw_iret E hr hlk hH ?_ dX9_size_8
  exact ⟨rfl, rfl, hz⟩
theorem b_depth (l : Launch) (G : fw_G) (M : fw_M) (N : Nat) (b o cn : Nat) (lk gn mi : Int) (T : Nat → aT) (hbn : bnAt G M b) (hG : gcW G M (b + 33) o lk cn gn mi T) (x : Nat) (hx : x < cn) (hv : vtOK (T x).1 (T x).2.1 (T x).2.2.1 (T x).2.2.2) : fMet l yX9_depth cX9_depth 2 (some .int) 4 140 0 0 G M N [.ref b, .int (iI ↑x)] (fw_pi (fun r M1 n1 => r = iI (↑(lvF (T x).1 (T x).2.1 (T x).2.2.2)) ∧ M1 = M ∧ n1 = N)) := by
  refine fw_met RX9 rfl (by decide +kernel) (Nat.le_of_ble_eq_true rfl) ?_
  intro pG e s m args below meth cG ls E hr hlk hnm hK hH hz hl
  obtain ⟨hgb, ho1, hcn⟩ := hG.o1
  have hv1 := hv.1
  refine lv_aload_n E.1 E.2.1 dX9_depth_0 rfl (lv_at hl 0 rfl) ?_
  refine lv_iload_n E.1 E.2.1 dX9_depth_1 rfl (lv_at hl 1 rfl) ?_
  refine fw_cV (As := [.int (iI ↑x)]) (rest := []) E hK hH hl hbn.2 fc_X9 fL_X9_requireTree ql_RX9_108 qi_yX9_requireTree qv_yX9_requireTree (k_reqTree l G _ _ b o cn lk gn mi T hbn hG x (by omega)) rfl rfl (Nat.le_of_ble_eq_true rfl) ⟨Nat.le_of_ble_eq_true rfl, Nat.le_of_ble_eq_true rfl⟩ ⟨Nat.le_of_ble_eq_true rfl, Nat.le_of_ble_eq_true rfl⟩ dX9_depth_2 (fw_kr fun r3 M2 H1 locs1 hp1 hH hz1 => ?_)
  obtain ⟨rfl, hM9, hz2⟩ := hp1
  have hT7 := hG.tr (j := x) (by omega)
  replace hz := hz2.trans hz
  clear hz1 hz2
  rw [hM9] at hH
  refine fw_getN E hK hH hT7.c fc_X8 5 (by decide) ql_RX9_230 rfl rfl dX9_depth_5 ?_
  refine fw_iret E hr hlk hH ?_ dX9_depth_8
  exact ⟨rfl, rfl, hz⟩
theorem b_codeAt (l : Launch) (G : fw_G) (M : fw_M) (N : Nat) (b o cn : Nat) (lk gn mi : Int) (T : Nat → aT) (hbn : bnAt G M b) (hG : gcW G M (b + 33) o lk cn gn mi T) (x : Nat) (hx : x < cn) (hv : vtOK (T x).1 (T x).2.1 (T x).2.2.1 (T x).2.2.2) (p : Nat) (hp : p < (T x).1) : fMet l yX9_codeAt cX9_codeAt 3 (some .int) 4 140 0 0 G M N [.ref b, .int (iI ↑x), .int (iI ↑p)] (fw_pi (fun r M1 n1 => r = iI ((T x).2.1 p) ∧ M1 = M ∧ n1 = N)) := by
  refine fw_met RX9 rfl (by decide +kernel) (Nat.le_of_ble_eq_true rfl) ?_
  intro pG e s m args below meth cG ls E hr hlk hnm hK hH hz hl
  obtain ⟨hgb, ho1, hcn⟩ := hG.o1
  have hv1 := hv.1
  refine lv_aload_n E.1 E.2.1 dX9_codeAt_0 rfl (lv_at hl 0 rfl) ?_
  refine lv_iload_n E.1 E.2.1 dX9_codeAt_1 rfl (lv_at hl 1 rfl) ?_
  refine lv_iload_n E.1 E.2.1 dX9_codeAt_2 rfl (lv_at hl 2 rfl) ?_
  refine fw_cV (As := [.int (iI ↑x), .int (iI ↑p)]) (rest := []) E hK hH hl hbn.2 fc_X9 fL_X9_requirePlace ql_RX9_141 qi_yX9_requirePlace qv_yX9_requirePlace (k_reqPlace l G _ _ b o cn lk gn mi T hbn hG x p (by omega) (by omega) (by omega)) rfl rfl (Nat.le_of_ble_eq_true rfl) ⟨Nat.le_of_ble_eq_true rfl, Nat.le_of_ble_eq_true rfl⟩ ⟨Nat.le_of_ble_eq_true rfl, Nat.le_of_ble_eq_true rfl⟩ dX9_codeAt_3 (fw_kr fun r3 M2 H1 locs1 hp1 hH hz1 => ?_)
  obtain ⟨rfl, hM9, hz2⟩ := hp1
  have hT8 := hG.tr (j := x) (by omega)
  replace hz := hz2.trans hz
  clear hz1 hz2
  rw [hM9] at hH
  refine lv_iload_n E.1 E.2.1 dX9_codeAt_6 rfl (lv_at hl 2 rfl) ?_
  refine fw_cV (As := [.int (iI ↑p)]) (rest := []) E hK hH hl hT8.c fc_X8 fL_X8_code ql_RX9_158 qi_yX8_code qv_yX8_code (k_codeG l G _ _ (b + 33 + 10 + 80 * o + 5 * x) (T x) hT8 hv p (by omega)) rfl rfl (Nat.le_of_ble_eq_true rfl) ⟨Nat.le_of_ble_eq_true rfl, Nat.le_of_ble_eq_true rfl⟩ ⟨Nat.le_of_ble_eq_true rfl, Nat.le_of_ble_eq_true rfl⟩ dX9_codeAt_7 (fw_ki fun r6 M5 H1 locs1 hp4 hH hz1 => ?_)
  obtain ⟨rfl, hM9, hz2⟩ := hp4
  replace hz := hz2.trans hz
  clear hz1 hz2
  rw [hM9] at hH
  refine fw_iret E hr hlk hH ?_ dX9_codeAt_10
  exact ⟨rfl, rfl, hz⟩
theorem b_valueAt (l : Launch) (G : fw_G) (M : fw_M) (N : Nat) (b o cn : Nat) (lk gn mi : Int) (T : Nat → aT) (hbn : bnAt G M b) (hG : gcW G M (b + 33) o lk cn gn mi T) (x : Nat) (hx : x < cn) (hv : vtOK (T x).1 (T x).2.1 (T x).2.2.1 (T x).2.2.2) (p : Nat) (hp : p < (T x).1) : fMet l yX9_valueAt cX9_valueAt 3 (some .int) 4 140 0 0 G M N [.ref b, .int (iI ↑x), .int (iI ↑p)] (fw_pi (fun r M1 n1 => r = iI ((T x).2.2.1 p) ∧ M1 = M ∧ n1 = N)) := by
  refine fw_met RX9 rfl (by decide +kernel) (Nat.le_of_ble_eq_true rfl) ?_
  intro pG e s m args below meth cG ls E hr hlk hnm hK hH hz hl
  obtain ⟨hgb, ho1, hcn⟩ := hG.o1
  have hv1 := hv.1
  refine lv_aload_n E.1 E.2.1 dX9_valueAt_0 rfl (lv_at hl 0 rfl) ?_
  refine lv_iload_n E.1 E.2.1 dX9_valueAt_1 rfl (lv_at hl 1 rfl) ?_
  refine lv_iload_n E.1 E.2.1 dX9_valueAt_2 rfl (lv_at hl 2 rfl) ?_
  refine fw_cV (As := [.int (iI ↑x), .int (iI ↑p)]) (rest := []) E hK hH hl hbn.2 fc_X9 fL_X9_requirePlace ql_RX9_141 qi_yX9_requirePlace qv_yX9_requirePlace (k_reqPlace l G _ _ b o cn lk gn mi T hbn hG x p (by omega) (by omega) (by omega)) rfl rfl (Nat.le_of_ble_eq_true rfl) ⟨Nat.le_of_ble_eq_true rfl, Nat.le_of_ble_eq_true rfl⟩ ⟨Nat.le_of_ble_eq_true rfl, Nat.le_of_ble_eq_true rfl⟩ dX9_valueAt_3 (fw_kr fun r3 M2 H1 locs1 hp1 hH hz1 => ?_)
  obtain ⟨rfl, hM9, hz2⟩ := hp1
  have hT8 := hG.tr (j := x) (by omega)
  replace hz := hz2.trans hz
  clear hz1 hz2
  rw [hM9] at hH
  refine lv_iload_n E.1 E.2.1 dX9_valueAt_6 rfl (lv_at hl 2 rfl) ?_
  refine fw_cV (As := [.int (iI ↑p)]) (rest := []) E hK hH hl hT8.c fc_X8 fL_X8_value ql_RX9_233 qi_yX8_value qv_yX8_value (k_valueG l G _ _ (b + 33 + 10 + 80 * o + 5 * x) (T x) hT8 hv p (by omega)) rfl rfl (Nat.le_of_ble_eq_true rfl) ⟨Nat.le_of_ble_eq_true rfl, Nat.le_of_ble_eq_true rfl⟩ ⟨Nat.le_of_ble_eq_true rfl, Nat.le_of_ble_eq_true rfl⟩ dX9_valueAt_7 (fw_ki fun r6 M5 H1 locs1 hp4 hH hz1 => ?_)
  obtain ⟨rfl, hM9, hz2⟩ := hp4
  replace hz := hz2.trans hz
  clear hz1 hz2
  rw [hM9] at hH
  refine fw_iret E hr hlk hH ?_ dX9_valueAt_10
  exact ⟨rfl, rfl, hz⟩
theorem b_sizeAt (l : Launch) (G : fw_G) (M : fw_M) (N : Nat) (b o cn : Nat) (lk gn mi : Int) (T : Nat → aT) (hbn : bnAt G M b) (hG : gcW G M (b + 33) o lk cn gn mi T) (x : Nat) (hx : x < cn) (hv : vtOK (T x).1 (T x).2.1 (T x).2.2.1 (T x).2.2.2) (p : Nat) (hp : p < (T x).1) : fMet l yX9_sizeAt cX9_sizeAt 3 (some .int) 4 140 0 0 G M N [.ref b, .int (iI ↑x), .int (iI ↑p)] (fw_pi (fun r M1 n1 => r = iI (↑((T x).2.2.2 p)) ∧ M1 = M ∧ n1 = N)) := by
  refine fw_met RX9 rfl (by decide +kernel) (Nat.le_of_ble_eq_true rfl) ?_
  intro pG e s m args below meth cG ls E hr hlk hnm hK hH hz hl
  obtain ⟨hgb, ho1, hcn⟩ := hG.o1
  have hv1 := hv.1
  refine lv_aload_n E.1 E.2.1 dX9_sizeAt_0 rfl (lv_at hl 0 rfl) ?_
  refine lv_iload_n E.1 E.2.1 dX9_sizeAt_1 rfl (lv_at hl 1 rfl) ?_
  refine lv_iload_n E.1 E.2.1 dX9_sizeAt_2 rfl (lv_at hl 2 rfl) ?_
  refine fw_cV (As := [.int (iI ↑x), .int (iI ↑p)]) (rest := []) E hK hH hl hbn.2 fc_X9 fL_X9_requirePlace ql_RX9_141 qi_yX9_requirePlace qv_yX9_requirePlace (k_reqPlace l G _ _ b o cn lk gn mi T hbn hG x p (by omega) (by omega) (by omega)) rfl rfl (Nat.le_of_ble_eq_true rfl) ⟨Nat.le_of_ble_eq_true rfl, Nat.le_of_ble_eq_true rfl⟩ ⟨Nat.le_of_ble_eq_true rfl, Nat.le_of_ble_eq_true rfl⟩ dX9_sizeAt_3 (fw_kr fun r3 M2 H1 locs1 hp1 hH hz1 => ?_)
  obtain ⟨rfl, hM9, hz2⟩ := hp1
  have hT8 := hG.tr (j := x) (by omega)
  replace hz := hz2.trans hz
  clear hz1 hz2
  rw [hM9] at hH
  refine lv_iload_n E.1 E.2.1 dX9_sizeAt_6 rfl (lv_at hl 2 rfl) ?_
  refine fw_cV (As := [.int (iI ↑p)]) (rest := []) E hK hH hl hT8.c fc_X8 fL_X8_span ql_RX9_236 qi_yX8_span qv_yX8_span (k_spanG l G _ _ (b + 33 + 10 + 80 * o + 5 * x) (T x) hT8 hv p (by omega)) rfl rfl (Nat.le_of_ble_eq_true rfl) ⟨Nat.le_of_ble_eq_true rfl, Nat.le_of_ble_eq_true rfl⟩ ⟨Nat.le_of_ble_eq_true rfl, Nat.le_of_ble_eq_true rfl⟩ dX9_sizeAt_7 (fw_ki fun r6 M5 H1 locs1 hp4 hH hz1 => ?_)
  obtain ⟨rfl, hM9, hz2⟩ := hp4
  replace hz := hz2.trans hz
  clear hz1 hz2
  rw [hM9] at hH
  refine fw_iret E hr hlk hH ?_ dX9_sizeAt_10
  exact ⟨rfl, rfl, hz⟩
theorem b_above (l : Launch) (G : fw_G) (M : fw_M) (N : Nat) (b o cn : Nat) (lk gn mi : Int) (T : Nat → aT) (hbn : bnAt G M b) (hG : gcW G M (b + 33) o lk cn gn mi T) (x : Nat) (hx : x < cn) (hv : vtOK (T x).1 (T x).2.1 (T x).2.2.1 (T x).2.2.2) (p : Nat) (hp : p < (T x).1) (hp0 : 0 < p) : fMet l yX9_above cX9_above 3 (some .int) 4 140 0 0 G M N [.ref b, .int (iI ↑x), .int (iI ↑p)] (fw_pi (fun r M1 n1 => (∃ k : Nat, r = iI ↑k ∧ k < p ∧ p < k + (T x).2.2.2 k ∧ ∀ i, k < i → i < p → i + (T x).2.2.2 i ≤ p) ∧ M1 = M ∧ n1 = N)) := by
  refine fw_met RX9 rfl (by decide +kernel) (Nat.le_of_ble_eq_true rfl) ?_
  intro pG e s m args below meth cG ls E hr hlk hnm hK hH hz hl
  obtain ⟨hgb, ho1, hcn⟩ := hG.o1
  have hv1 := hv.1
  refine lv_aload_n E.1 E.2.1 dX9_above_0 rfl (lv_at hl 0 rfl) ?_
  refine lv_iload_n E.1 E.2.1 dX9_above_1 rfl (lv_at hl 1 rfl) ?_
  refine lv_iload_n E.1 E.2.1 dX9_above_2 rfl (lv_at hl 2 rfl) ?_
  refine fw_cV (As := [.int (iI ↑x), .int (iI ↑p)]) (rest := []) E hK hH hl hbn.2 fc_X9 fL_X9_requirePlace ql_RX9_141 qi_yX9_requirePlace qv_yX9_requirePlace (k_reqPlace l G _ _ b o cn lk gn mi T hbn hG x p (by omega) (by omega) (by omega)) rfl rfl (Nat.le_of_ble_eq_true rfl) ⟨Nat.le_of_ble_eq_true rfl, Nat.le_of_ble_eq_true rfl⟩ ⟨Nat.le_of_ble_eq_true rfl, Nat.le_of_ble_eq_true rfl⟩ dX9_above_3 (fw_kr fun r3 M2 H1 locs1 hp1 hH hz1 => ?_)
  obtain ⟨rfl, hM9, hz2⟩ := hp1
  have hT8 := hG.tr (j := x) (by omega)
  replace hz := hz2.trans hz
  clear hz1 hz2
  rw [hM9] at hH
  refine lv_iload_n E.1 E.2.1 dX9_above_6 rfl (lv_at hl 2 rfl) ?_
  refine fw_cV (As := [.int (iI ↑p)]) (rest := []) E hK hH hl hT8.c fc_X8 fL_X8_placeAbove ql_RX9_239 qi_yX8_placeAbove qv_yX8_placeAbove (k_placeAbove l G _ _ (b + 33 + 10 + 80 * o + 5 * x) ((T x).1) ((T x).2.1) ((T x).2.2.1) ((T x).2.2.2) hT8 hv p (by omega)) rfl rfl (Nat.le_of_ble_eq_true rfl) ⟨Nat.le_of_ble_eq_true rfl, Nat.le_of_ble_eq_true rfl⟩ ⟨Nat.le_of_ble_eq_true rfl, Nat.le_of_ble_eq_true rfl⟩ dX9_above_7 (fw_ki fun r6 M5 H1 locs1 hp4 hH hz1 => ?_)
  obtain ⟨⟨z9, rfl, hab⟩, hM9, hz2⟩ := hp4
  replace hz := hz2.trans hz
  clear hz1 hz2
  rw [hM9] at hH
  refine fw_iret E hr hlk hH ?_ dX9_above_10
  rcases hab with ⟨-, h⟩ | ⟨k, hk0, h1, h2, h3⟩
  · have := h 0 hp0; have := hv.2.1; omega
  · exact ⟨⟨k, by rw [hk0], h1, h2, h3⟩, rfl, hz⟩
theorem b_alike (l : Launch) (G : fw_G) (M : fw_M) (N : Nat) (b o cn : Nat) (lk gn mi : Int) (T : Nat → aT) (hbn : bnAt G M b) (hG : gcW G M (b + 33) o lk cn gn mi T) (x : Nat) (hx : x < cn) (hv : vtOK (T x).1 (T x).2.1 (T x).2.2.1 (T x).2.2.2) : fMet l yX9_alike cX9_alike 3 (some .int) 4 140 0 0 G M N [.ref b, .int (iI ↑x), .int (iI ↑x)] (fw_pi (fun r M1 n1 => r = iI (↑(T x).1) ∧ M1 = M ∧ n1 = N)) := by
  refine fw_met RX9 rfl (by decide +kernel) (Nat.le_of_ble_eq_true rfl) ?_
  intro pG e s m args below meth cG ls E hr hlk hnm hK hH hz hl
  obtain ⟨hgb, ho1, hcn⟩ := hG.o1
  have hv1 := hv.1
  refine lv_aload_n E.1 E.2.1 dX9_alike_0 rfl (lv_at hl 0 rfl) ?_
  refine lv_iload_n E.1 E.2.1 dX9_alike_1 rfl (lv_at hl 1 rfl) ?_
  refine fw_cV (As := [.int (iI ↑x)]) (rest := []) E hK hH hl hbn.2 fc_X9 fL_X9_requireTree ql_RX9_108 qi_yX9_requireTree qv_yX9_requireTree (k_reqTree l G _ _ b o cn lk gn mi T hbn hG x (by omega)) rfl rfl (Nat.le_of_ble_eq_true rfl) ⟨Nat.le_of_ble_eq_true rfl, Nat.le_of_ble_eq_true rfl⟩ ⟨Nat.le_of_ble_eq_true rfl, Nat.le_of_ble_eq_true rfl⟩ dX9_alike_2 (fw_kr fun r3 M2 H1 locs1 hp1 hH hz1 => ?_)
  obtain ⟨rfl, hM9, hz2⟩ := hp1
  have hT7 := hG.tr (j := x) (by omega)
  replace hz := hz2.trans hz
  clear hz1 hz2
  rw [hM9] at hH
  refine lv_aload_n E.1 E.2.1 dX9_alike_5 rfl (lv_at hl 0 rfl) ?_
  refine lv_iload_n E.1 E.2.1 dX9_alike_6 rfl (lv_at hl 2 rfl) ?_
  refine fw_cV (As := [.int (iI ↑x)]) (rest := [.ref (b + 33 + 10 + 80 * o + 5 * x)]) E hK hH hl hbn.2 fc_X9 fL_X9_requireTree ql_RX9_108 qi_yX9_requireTree qv_yX9_requireTree (k_reqTree l G _ _ b o cn lk gn mi T hbn hG x (by omega)) rfl rfl (Nat.le_of_ble_eq_true rfl) ⟨Nat.le_of_ble_eq_true rfl, Nat.le_of_ble_eq_true rfl⟩ ⟨Nat.le_of_ble_eq_true rfl, Nat.le_of_ble_eq_true rfl⟩ dX9_alike_7 (fw_kr fun r6 M5 H1 locs1 hp4 hH hz1 => ?_)
  obtain ⟨rfl, hM9, hz2⟩ := hp4
  have hT15 := hG.tr (j := x) (by omega)
  replace hz := hz2.trans hz
  clear hz1 hz2
  rw [hM9] at hH
  refine fw_cV (As := [.ref (b + 33 + 10 + 80 * o + 5 * x)]) (rest := []) E hK hH hl hT7.c fc_X8 fL_X8_sameNodes ql_RX9_274 qi_yX8_sameNodes qv_yX8_sameNodes (k_sameNodes l G _ _ (b + 33 + 10 + 80 * o + 5 * x) ((T x).1) ((T x).2.1) ((T x).2.2.1) ((T x).2.2.2) hT7 hv (b + 33 + 10 + 80 * o + 5 * x) ((T x).1) ((T x).2.1) ((T x).2.2.1) ((T x).2.2.2) hT7 hv) rfl rfl (Nat.le_of_ble_eq_true rfl) ⟨Nat.le_of_ble_eq_true rfl, Nat.le_of_ble_eq_true rfl⟩ ⟨Nat.le_of_ble_eq_true rfl, Nat.le_of_ble_eq_true rfl⟩ dX9_alike_10 (fw_ki fun r9 M8 H1 locs1 hp7 hH hz1 => ?_)
  obtain ⟨rfl, hM9, hz2⟩ := hp7
  have hsn21 := snF_le (T x).2.1 (T x).2.2.1 (T x).2.1 (T x).2.2.1 (min (T x).1 (T x).1)
  replace hz := hz2.trans hz
  clear hz1 hz2
  rw [hM9] at hH
  refine fw_iret E hr hlk hH ?_ dX9_alike_13
  exact ⟨congrArg iI (by rw [Nat.min_self, snF_eq (T x).1 (T x).1 (Nat.le_refl _) (fun k _ => ⟨rfl, rfl⟩) (fun h => absurd h (Nat.lt_irrefl _))]), rfl, hz⟩

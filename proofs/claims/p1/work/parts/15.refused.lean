theorem x_fell (l : Launch) (hlt : l.stackTraces = false) (G : fw_G) (M : fw_M) (N : Nat) (a : Nat) (hB : bn0 G M a) (z1 : Int) (hz1 : -2147483648 ≤ z1 ∧ z1 < 2147483648) : fxMet l yX9_fell cX9_fell 3 (some .int) 8 170 1 6 G M N [.ref a, .int (iI z1)] (fun _ _ _ => False) (fun E9 M1 n1 => E9 = "java/lang/IndexOutOfBoundsException" ∧ M1 = M) := by
  refine fx_met RX9 rfl (by decide +kernel) (Nat.le_of_ble_eq_true rfl) ?_
  intro p e s m args below meth c ls E hr hlk hxt hK hH hz hl
  have hH0 := hH
  obtain ⟨hb, c0, _, _, _, _, _, _, _, _, _, _, _, _, _, _, _, _, _, _⟩ := hB.c
  refine lv_aload_n E.1 E.2.1 dX9_fell_0 rfl (lv_at hl 0 rfl) ?_
  refine lv_iload_n E.1 E.2.1 dX9_fell_1 rfl (lv_at hl 1 rfl) ?_
  refine fx_cV (As := [.int (iI z1)]) (rest := []) E hK hH hl c0 fc_X9 fL_X9_requireTree ql_RX9_108 qi_yX9_requireTree qv_yX9_requireTree (k_requireTree l hlt G _ _ a hB z1 (by omega)) rfl rfl (Nat.le_of_ble_eq_true rfl) ⟨Nat.le_of_ble_eq_true rfl, Nat.le_of_ble_eq_true rfl⟩ ⟨by show _ ≤ (1 : Nat); omega, by show _ ≤ (6 : Nat); omega⟩ dX9_fell_2 (fun E9 ce q9 M1 H1 locs1 hp hH hz1 hcell hv9 hcl9 => ?_) ?_
  · obtain ⟨hE, hM9⟩ := hp
    exact fx_out hxt hlk hH hcell hv9 hcl9 ⟨hE, hM9⟩ (by omega) (by omega)
  · exact fun v M1 H1 locs1 hp => hp.elim
theorem x_cross (l : Launch) (hlt : l.stackTraces = false) (G : fw_G) (M : fw_M) (N : Nat) (a : Nat) (hB : bn0 G M a) (z1 z2 z3 z4 : Int) (hz1 : -2147483648 ≤ z1 ∧ z1 < 2147483648) (hz2 : -2147483648 ≤ z2 ∧ z2 < 2147483648) (hz3 : -2147483648 ≤ z3 ∧ z3 < 2147483648) (hz4 : -2147483648 ≤ z4 ∧ z4 < 2147483648) : fxMet l yX9_cross cX9_cross 7 (some .int) 8 170 1 6 G M N [.ref a, .int (iI z1), .int (iI z2), .int (iI z3), .int (iI z4)] (fun _ _ _ => False) (fun E9 M1 n1 => E9 = "java/lang/IndexOutOfBoundsException" ∧ M1 = M) := by
  refine fx_met RX9 rfl (by decide +kernel) (Nat.le_of_ble_eq_true rfl) ?_
  intro p e s m args below meth c ls E hr hlk hxt hK hH hz hl
  have hH0 := hH
  obtain ⟨hb, c0, _, _, _, _, _, _, _, _, _, _, _, _, _, _, _, _, _, _⟩ := hB.c
  refine lv_aload_n E.1 E.2.1 dX9_cross_0 rfl (lv_at hl 0 rfl) ?_
  refine lv_iload_n E.1 E.2.1 dX9_cross_1 rfl (lv_at hl 1 rfl) ?_
  refine lv_iload_n E.1 E.2.1 dX9_cross_2 rfl (lv_at hl 2 rfl) ?_
  refine fx_cV (As := [.int (iI z1), .int (iI z2)]) (rest := []) E hK hH hl c0 fc_X9 fL_X9_requirePlace ql_RX9_141 qi_yX9_requirePlace qv_yX9_requirePlace (k_requirePlace l hlt G _ _ a hB z1 z2 (by omega) (by omega)) rfl rfl (Nat.le_of_ble_eq_true rfl) ⟨Nat.le_of_ble_eq_true rfl, Nat.le_of_ble_eq_true rfl⟩ ⟨by show _ ≤ (1 : Nat); omega, by show _ ≤ (6 : Nat); omega⟩ dX9_cross_3 (fun E9 ce q9 M1 H1 locs1 hp hH hz1 hcell hv9 hcl9 => ?_) ?_
  · obtain ⟨hE, hM9⟩ := hp
    exact fx_out hxt hlk hH hcell hv9 hcl9 ⟨hE, hM9⟩ (by omega) (by omega)
  · exact fun v M1 H1 locs1 hp => hp.elim
theorem x_hoist (l : Launch) (hlt : l.stackTraces = false) (G : fw_G) (M : fw_M) (N : Nat) (a : Nat) (hB : bn0 G M a) (z1 z2 : Int) (hz1 : -2147483648 ≤ z1 ∧ z1 < 2147483648) (hz2 : -2147483648 ≤ z2 ∧ z2 < 2147483648) : fxMet l yX9_hoist cX9_hoist 4 (some .int) 8 170 1 6 G M N [.ref a, .int (iI z1), .int (iI z2)] (fun _ _ _ => False) (fun E9 M1 n1 => E9 = "java/lang/IndexOutOfBoundsException" ∧ M1 = M) := by
  refine fx_met RX9 rfl (by decide +kernel) (Nat.le_of_ble_eq_true rfl) ?_
  intro p e s m args below meth c ls E hr hlk hxt hK hH hz hl
  have hH0 := hH
  obtain ⟨hb, c0, _, _, _, _, _, _, _, _, _, _, _, _, _, _, _, _, _, _⟩ := hB.c
  refine lv_aload_n E.1 E.2.1 dX9_hoist_0 rfl (lv_at hl 0 rfl) ?_
  refine lv_iload_n E.1 E.2.1 dX9_hoist_1 rfl (lv_at hl 1 rfl) ?_
  refine lv_iload_n E.1 E.2.1 dX9_hoist_2 rfl (lv_at hl 2 rfl) ?_
  refine fx_cV (As := [.int (iI z1), .int (iI z2)]) (rest := []) E hK hH hl c0 fc_X9 fL_X9_requirePlace ql_RX9_141 qi_yX9_requirePlace qv_yX9_requirePlace (k_requirePlace l hlt G _ _ a hB z1 z2 (by omega) (by omega)) rfl rfl (Nat.le_of_ble_eq_true rfl) ⟨Nat.le_of_ble_eq_true rfl, Nat.le_of_ble_eq_true rfl⟩ ⟨by show _ ≤ (1 : Nat); omega, by show _ ≤ (6 : Nat); omega⟩ dX9_hoist_3 (fun E9 ce q9 M1 H1 locs1 hp hH hz1 hcell hv9 hcl9 => ?_) ?_
  · obtain ⟨hE, hM9⟩ := hp
    exact fx_out hxt hlk hH hcell hv9 hcl9 ⟨hE, hM9⟩ (by omega) (by omega)
  · exact fun v M1 H1 locs1 hp => hp.elim
theorem x_recode (l : Launch) (hlt : l.stackTraces = false) (G : fw_G) (M : fw_M) (N : Nat) (a : Nat) (hB : bn0 G M a) (z1 z2 z3 z4 : Int) (hz1 : -2147483648 ≤ z1 ∧ z1 < 2147483648) (hz2 : -2147483648 ≤ z2 ∧ z2 < 2147483648) (hz3 : -2147483648 ≤ z3 ∧ z3 < 2147483648) (hz4 : -2147483648 ≤ z4 ∧ z4 < 2147483648) : fxMet l yX9_recode cX9_recode 7 (some .int) 8 170 1 6 G M N [.ref a, .int (iI z1), .int (iI z2), .int (iI z3), .int (iI z4)] (fun _ _ _ => False) (fun E9 M1 n1 => E9 = "java/lang/IndexOutOfBoundsException" ∧ M1 = M) := by
  refine fx_met RX9 rfl (by decide +kernel) (Nat.le_of_ble_eq_true rfl) ?_
  intro p e s m args below meth c ls E hr hlk hxt hK hH hz hl
  have hH0 := hH
  obtain ⟨hb, c0, _, _, _, _, _, _, _, _, _, _, _, _, _, _, _, _, _, _⟩ := hB.c
  refine lv_aload_n E.1 E.2.1 dX9_recode_0 rfl (lv_at hl 0 rfl) ?_
  refine lv_iload_n E.1 E.2.1 dX9_recode_1 rfl (lv_at hl 1 rfl) ?_
  refine lv_iload_n E.1 E.2.1 dX9_recode_2 rfl (lv_at hl 2 rfl) ?_
  refine fx_cV (As := [.int (iI z1), .int (iI z2)]) (rest := []) E hK hH hl c0 fc_X9 fL_X9_requirePlace ql_RX9_141 qi_yX9_requirePlace qv_yX9_requirePlace (k_requirePlace l hlt G _ _ a hB z1 z2 (by omega) (by omega)) rfl rfl (Nat.le_of_ble_eq_true rfl) ⟨Nat.le_of_ble_eq_true rfl, Nat.le_of_ble_eq_true rfl⟩ ⟨by show _ ≤ (1 : Nat); omega, by show _ ≤ (6 : Nat); omega⟩ dX9_recode_3 (fun E9 ce q9 M1 H1 locs1 hp hH hz1 hcell hv9 hcl9 => ?_) ?_
  · obtain ⟨hE, hM9⟩ := hp
    exact fx_out hxt hlk hH hcell hv9 hcl9 ⟨hE, hM9⟩ (by omega) (by omega)
  · exact fun v M1 H1 locs1 hp => hp.elim
theorem x_wither (l : Launch) (hlt : l.stackTraces = false) (G : fw_G) (M : fw_M) (N : Nat) (a : Nat) (hB : bn0 G M a) (z1 z2 z3 : Int) (hz1 : -2147483648 ≤ z1 ∧ z1 < 2147483648) (hz2 : -2147483648 ≤ z2 ∧ z2 < 2147483648) (hz3 : -2147483648 ≤ z3 ∧ z3 < 2147483648) : fxMet l yX9_wither cX9_wither 5 (some .int) 8 170 1 6 G M N [.ref a, .int (iI z1), .int (iI z2), .int (iI z3)] (fun _ _ _ => False) (fun E9 M1 n1 => E9 = "java/lang/IndexOutOfBoundsException" ∧ M1 = M) := by
  refine fx_met RX9 rfl (by decide +kernel) (Nat.le_of_ble_eq_true rfl) ?_
  intro p e s m args below meth c ls E hr hlk hxt hK hH hz hl
  have hH0 := hH
  obtain ⟨hb, c0, _, _, _, _, _, _, _, _, _, _, _, _, _, _, _, _, _, _⟩ := hB.c
  refine lv_aload_n E.1 E.2.1 dX9_wither_0 rfl (lv_at hl 0 rfl) ?_
  refine lv_iload_n E.1 E.2.1 dX9_wither_1 rfl (lv_at hl 1 rfl) ?_
  refine lv_iload_n E.1 E.2.1 dX9_wither_2 rfl (lv_at hl 2 rfl) ?_
  refine fx_cV (As := [.int (iI z1), .int (iI z2)]) (rest := []) E hK hH hl c0 fc_X9 fL_X9_requirePlace ql_RX9_141 qi_yX9_requirePlace qv_yX9_requirePlace (k_requirePlace l hlt G _ _ a hB z1 z2 (by omega) (by omega)) rfl rfl (Nat.le_of_ble_eq_true rfl) ⟨Nat.le_of_ble_eq_true rfl, Nat.le_of_ble_eq_true rfl⟩ ⟨by show _ ≤ (1 : Nat); omega, by show _ ≤ (6 : Nat); omega⟩ dX9_wither_3 (fun E9 ce q9 M1 H1 locs1 hp hH hz1 hcell hv9 hcl9 => ?_) ?_
  · obtain ⟨hE, hM9⟩ := hp
    exact fx_out hxt hlk hH hcell hv9 hcl9 ⟨hE, hM9⟩ (by omega) (by omega)
  · exact fun v M1 H1 locs1 hp => hp.elim
theorem x_simplify (l : Launch) (hlt : l.stackTraces = false) (G : fw_G) (M : fw_M) (N : Nat) (a : Nat) (hB : bn0 G M a) (z1 : Int) (hz1 : -2147483648 ≤ z1 ∧ z1 < 2147483648) : fxMet l yX9_simplify cX9_simplify 4 (some .int) 8 170 1 6 G M N [.ref a, .int (iI z1)] (fun _ _ _ => False) (fun E9 M1 n1 => E9 = "java/lang/IndexOutOfBoundsException" ∧ M1 = M) := by
  refine fx_met RX9 rfl (by decide +kernel) (Nat.le_of_ble_eq_true rfl) ?_
  intro p e s m args below meth c ls E hr hlk hxt hK hH hz hl
  have hH0 := hH
  obtain ⟨hb, c0, _, _, _, _, _, _, _, _, _, _, _, _, _, _, _, _, _, _⟩ := hB.c
  refine lv_aload_n E.1 E.2.1 dX9_simplify_0 rfl (lv_at hl 0 rfl) ?_
  refine lv_iload_n E.1 E.2.1 dX9_simplify_1 rfl (lv_at hl 1 rfl) ?_
  refine fx_cV (As := [.int (iI z1)]) (rest := []) E hK hH hl c0 fc_X9 fL_X9_requireTree ql_RX9_108 qi_yX9_requireTree qv_yX9_requireTree (k_requireTree l hlt G _ _ a hB z1 (by omega)) rfl rfl (Nat.le_of_ble_eq_true rfl) ⟨Nat.le_of_ble_eq_true rfl, Nat.le_of_ble_eq_true rfl⟩ ⟨by show _ ≤ (1 : Nat); omega, by show _ ≤ (6 : Nat); omega⟩ dX9_simplify_2 (fun E9 ce q9 M1 H1 locs1 hp hH hz1 hcell hv9 hcl9 => ?_) ?_
  · obtain ⟨hE, hM9⟩ := hp
    exact fx_out hxt hlk hH hcell hv9 hcl9 ⟨hE, hM9⟩ (by omega) (by omega)
  · exact fun v M1 H1 locs1 hp => hp.elim
theorem x_size (l : Launch) (hlt : l.stackTraces = false) (G : fw_G) (M : fw_M) (N : Nat) (a : Nat) (hB : bn0 G M a) (z1 : Int) (hz1 : -2147483648 ≤ z1 ∧ z1 < 2147483648) : fxMet l yX9_size cX9_size 2 (some .int) 8 170 1 6 G M N [.ref a, .int (iI z1)] (fun _ _ _ => False) (fun E9 M1 n1 => E9 = "java/lang/IndexOutOfBoundsException" ∧ M1 = M) := by
  refine fx_met RX9 rfl (by decide +kernel) (Nat.le_of_ble_eq_true rfl) ?_
  intro p e s m args below meth c ls E hr hlk hxt hK hH hz hl
  have hH0 := hH
  obtain ⟨hb, c0, _, _, _, _, _, _, _, _, _, _, _, _, _, _, _, _, _, _⟩ := hB.c
  refine lv_aload_n E.1 E.2.1 dX9_size_0 rfl (lv_at hl 0 rfl) ?_
  refine lv_iload_n E.1 E.2.1 dX9_size_1 rfl (lv_at hl 1 rfl) ?_
  refine fx_cV (As := [.int (iI z1)]) (rest := []) E hK hH hl c0 fc_X9 fL_X9_requireTree ql_RX9_108 qi_yX9_requireTree qv_yX9_requireTree (k_requireTree l hlt G _ _ a hB z1 (by omega)) rfl rfl (Nat.le_of_ble_eq_true rfl) ⟨Nat.le_of_ble_eq_true rfl, Nat.le_of_ble_eq_true rfl⟩ ⟨by show _ ≤ (1 : Nat); omega, by show _ ≤ (6 : Nat); omega⟩ dX9_size_2 (fun E9 ce q9 M1 H1 locs1 hp hH hz1 hcell hv9 hcl9 => ?_) ?_
  · obtain ⟨hE, hM9⟩ := hp
    exact fx_out hxt hlk hH hcell hv9 hcl9 ⟨hE, hM9⟩ (by omega) (by omega)
  · exact fun v M1 H1 locs1 hp => hp.elim
theorem x_depth (l : Launch) (hlt : l.stackTraces = false) (G : fw_G) (M : fw_M) (N : Nat) (a : Nat) (hB : bn0 G M a) (z1 : Int) (hz1 : -2147483648 ≤ z1 ∧ z1 < 2147483648) : fxMet l yX9_depth cX9_depth 2 (some .int) 8 170 1 6 G M N [.ref a, .int (iI z1)] (fun _ _ _ => False) (fun E9 M1 n1 => E9 = "java/lang/IndexOutOfBoundsException" ∧ M1 = M) := by
  refine fx_met RX9 rfl (by decide +kernel) (Nat.le_of_ble_eq_true rfl) ?_
  intro p e s m args below meth c ls E hr hlk hxt hK hH hz hl
  have hH0 := hH
  obtain ⟨hb, c0, _, _, _, _, _, _, _, _, _, _, _, _, _, _, _, _, _, _⟩ := hB.c
  refine lv_aload_n E.1 E.2.1 dX9_depth_0 rfl (lv_at hl 0 rfl) ?_
  refine lv_iload_n E.1 E.2.1 dX9_depth_1 rfl (lv_at hl 1 rfl) ?_
  refine fx_cV (As := [.int (iI z1)]) (rest := []) E hK hH hl c0 fc_X9 fL_X9_requireTree ql_RX9_108 qi_yX9_requireTree qv_yX9_requireTree (k_requireTree l hlt G _ _ a hB z1 (by omega)) rfl rfl (Nat.le_of_ble_eq_true rfl) ⟨Nat.le_of_ble_eq_true rfl, Nat.le_of_ble_eq_true rfl⟩ ⟨by show _ ≤ (1 : Nat); omega, by show _ ≤ (6 : Nat); omega⟩ dX9_depth_2 (fun E9 ce q9 M1 H1 locs1 hp hH hz1 hcell hv9 hcl9 => ?_) ?_
  · obtain ⟨hE, hM9⟩ := hp
    exact fx_out hxt hlk hH hcell hv9 hcl9 ⟨hE, hM9⟩ (by omega) (by omega)
  · exact fun v M1 H1 locs1 hp => hp.elim
theorem x_codeAt (l : Launch) (hlt : l.stackTraces = false) (G : fw_G) (M : fw_M) (N : Nat) (a : Nat) (hB : bn0 G M a) (z1 z2 : Int) (hz1 : -2147483648 ≤ z1 ∧ z1 < 2147483648) (hz2 : -2147483648 ≤ z2 ∧ z2 < 2147483648) : fxMet l yX9_codeAt cX9_codeAt 3 (some .int) 8 170 1 6 G M N [.ref a, .int (iI z1), .int (iI z2)] (fun _ _ _ => False) (fun E9 M1 n1 => E9 = "java/lang/IndexOutOfBoundsException" ∧ M1 = M) := by
  refine fx_met RX9 rfl (by decide +kernel) (Nat.le_of_ble_eq_true rfl) ?_
  intro p e s m args below meth c ls E hr hlk hxt hK hH hz hl
  have hH0 := hH
  obtain ⟨hb, c0, _, _, _, _, _, _, _, _, _, _, _, _, _, _, _, _, _, _⟩ := hB.c
  refine lv_aload_n E.1 E.2.1 dX9_codeAt_0 rfl (lv_at hl 0 rfl) ?_
  refine lv_iload_n E.1 E.2.1 dX9_codeAt_1 rfl (lv_at hl 1 rfl) ?_
  refine lv_iload_n E.1 E.2.1 dX9_codeAt_2 rfl (lv_at hl 2 rfl) ?_
  refine fx_cV (As := [.int (iI z1), .int (iI z2)]) (rest := []) E hK hH hl c0 fc_X9 fL_X9_requirePlace ql_RX9_141 qi_yX9_requirePlace qv_yX9_requirePlace (k_requirePlace l hlt G _ _ a hB z1 z2 (by omega) (by omega)) rfl rfl (Nat.le_of_ble_eq_true rfl) ⟨Nat.le_of_ble_eq_true rfl, Nat.le_of_ble_eq_true rfl⟩ ⟨by show _ ≤ (1 : Nat); omega, by show _ ≤ (6 : Nat); omega⟩ dX9_codeAt_3 (fun E9 ce q9 M1 H1 locs1 hp hH hz1 hcell hv9 hcl9 => ?_) ?_
  · obtain ⟨hE, hM9⟩ := hp
    exact fx_out hxt hlk hH hcell hv9 hcl9 ⟨hE, hM9⟩ (by omega) (by omega)
  · exact fun v M1 H1 locs1 hp => hp.elim
theorem x_valueAt (l : Launch) (hlt : l.stackTraces = false) (G : fw_G) (M : fw_M) (N : Nat) (a : Nat) (hB : bn0 G M a) (z1 z2 : Int) (hz1 : -2147483648 ≤ z1 ∧ z1 < 2147483648) (hz2 : -2147483648 ≤ z2 ∧ z2 < 2147483648) : fxMet l yX9_valueAt cX9_valueAt 3 (some .int) 8 170 1 6 G M N [.ref a, .int (iI z1), .int (iI z2)] (fun _ _ _ => False) (fun E9 M1 n1 => E9 = "java/lang/IndexOutOfBoundsException" ∧ M1 = M) := by
  refine fx_met RX9 rfl (by decide +kernel) (Nat.le_of_ble_eq_true rfl) ?_
  intro p e s m args below meth c ls E hr hlk hxt hK hH hz hl
  have hH0 := hH
  obtain ⟨hb, c0, _, _, _, _, _, _, _, _, _, _, _, _, _, _, _, _, _, _⟩ := hB.c
  refine lv_aload_n E.1 E.2.1 dX9_valueAt_0 rfl (lv_at hl 0 rfl) ?_
  refine lv_iload_n E.1 E.2.1 dX9_valueAt_1 rfl (lv_at hl 1 rfl) ?_
  refine lv_iload_n E.1 E.2.1 dX9_valueAt_2 rfl (lv_at hl 2 rfl) ?_
  refine fx_cV (As := [.int (iI z1), .int (iI z2)]) (rest := []) E hK hH hl c0 fc_X9 fL_X9_requirePlace ql_RX9_141 qi_yX9_requirePlace qv_yX9_requirePlace (k_requirePlace l hlt G _ _ a hB z1 z2 (by omega) (by omega)) rfl rfl (Nat.le_of_ble_eq_true rfl) ⟨Nat.le_of_ble_eq_true rfl, Nat.le_of_ble_eq_true rfl⟩ ⟨by show _ ≤ (1 : Nat); omega, by show _ ≤ (6 : Nat); omega⟩ dX9_valueAt_3 (fun E9 ce q9 M1 H1 locs1 hp hH hz1 hcell hv9 hcl9 => ?_) ?_
  · obtain ⟨hE, hM9⟩ := hp
    exact fx_out hxt hlk hH hcell hv9 hcl9 ⟨hE, hM9⟩ (by omega) (by omega)
  · exact fun v M1 H1 locs1 hp => hp.elim
theorem x_sizeAt (l : Launch) (hlt : l.stackTraces = false) (G : fw_G) (M : fw_M) (N : Nat) (a : Nat) (hB : bn0 G M a) (z1 z2 : Int) (hz1 : -2147483648 ≤ z1 ∧ z1 < 2147483648) (hz2 : -2147483648 ≤ z2 ∧ z2 < 2147483648) : fxMet l yX9_sizeAt cX9_sizeAt 3 (some .int) 8 170 1 6 G M N [.ref a, .int (iI z1), .int (iI z2)] (fun _ _ _ => False) (fun E9 M1 n1 => E9 = "java/lang/IndexOutOfBoundsException" ∧ M1 = M) := by
  refine fx_met RX9 rfl (by decide +kernel) (Nat.le_of_ble_eq_true rfl) ?_
  intro p e s m args below meth c ls E hr hlk hxt hK hH hz hl
  have hH0 := hH
  obtain ⟨hb, c0, _, _, _, _, _, _, _, _, _, _, _, _, _, _, _, _, _, _⟩ := hB.c
  refine lv_aload_n E.1 E.2.1 dX9_sizeAt_0 rfl (lv_at hl 0 rfl) ?_
  refine lv_iload_n E.1 E.2.1 dX9_sizeAt_1 rfl (lv_at hl 1 rfl) ?_
  refine lv_iload_n E.1 E.2.1 dX9_sizeAt_2 rfl (lv_at hl 2 rfl) ?_
  refine fx_cV (As := [.int (iI z1), .int (iI z2)]) (rest := []) E hK hH hl c0 fc_X9 fL_X9_requirePlace ql_RX9_141 qi_yX9_requirePlace qv_yX9_requirePlace (k_requirePlace l hlt G _ _ a hB z1 z2 (by omega) (by omega)) rfl rfl (Nat.le_of_ble_eq_true rfl) ⟨Nat.le_of_ble_eq_true rfl, Nat.le_of_ble_eq_true rfl⟩ ⟨by show _ ≤ (1 : Nat); omega, by show _ ≤ (6 : Nat); omega⟩ dX9_sizeAt_3 (fun E9 ce q9 M1 H1 locs1 hp hH hz1 hcell hv9 hcl9 => ?_) ?_
  · obtain ⟨hE, hM9⟩ := hp
    exact fx_out hxt hlk hH hcell hv9 hcl9 ⟨hE, hM9⟩ (by omega) (by omega)
  · exact fun v M1 H1 locs1 hp => hp.elim
theorem x_above (l : Launch) (hlt : l.stackTraces = false) (G : fw_G) (M : fw_M) (N : Nat) (a : Nat) (hB : bn0 G M a) (z1 z2 : Int) (hz1 : -2147483648 ≤ z1 ∧ z1 < 2147483648) (hz2 : -2147483648 ≤ z2 ∧ z2 < 2147483648) : fxMet l yX9_above cX9_above 3 (some .int) 8 170 1 6 G M N [.ref a, .int (iI z1), .int (iI z2)] (fun _ _ _ => False) (fun E9 M1 n1 => E9 = "java/lang/IndexOutOfBoundsException" ∧ M1 = M) := by
  refine fx_met RX9 rfl (by decide +kernel) (Nat.le_of_ble_eq_true rfl) ?_
  intro p e s m args below meth c ls E hr hlk hxt hK hH hz hl
  have hH0 := hH
  obtain ⟨hb, c0, _, _, _, _, _, _, _, _, _, _, _, _, _, _, _, _, _, _⟩ := hB.c
  refine lv_aload_n E.1 E.2.1 dX9_above_0 rfl (lv_at hl 0 rfl) ?_
  refine lv_iload_n E.1 E.2.1 dX9_above_1 rfl (lv_at hl 1 rfl) ?_
  refine lv_iload_n E.1 E.2.1 dX9_above_2 rfl (lv_at hl 2 rfl) ?_
  refine fx_cV (As := [.int (iI z1), .int (iI z2)]) (rest := []) E hK hH hl c0 fc_X9 fL_X9_requirePlace ql_RX9_141 qi_yX9_requirePlace qv_yX9_requirePlace (k_requirePlace l hlt G _ _ a hB z1 z2 (by omega) (by omega)) rfl rfl (Nat.le_of_ble_eq_true rfl) ⟨Nat.le_of_ble_eq_true rfl, Nat.le_of_ble_eq_true rfl⟩ ⟨by show _ ≤ (1 : Nat); omega, by show _ ≤ (6 : Nat); omega⟩ dX9_above_3 (fun E9 ce q9 M1 H1 locs1 hp hH hz1 hcell hv9 hcl9 => ?_) ?_
  · obtain ⟨hE, hM9⟩ := hp
    exact fx_out hxt hlk hH hcell hv9 hcl9 ⟨hE, hM9⟩ (by omega) (by omega)
  · exact fun v M1 H1 locs1 hp => hp.elim
theorem x_gives (l : Launch) (hlt : l.stackTraces = false) (G : fw_G) (M : fw_M) (N : Nat) (a : Nat) (hB : bn0 G M a) (z1 z2 z3 z4 : Int) (hz1 : -2147483648 ≤ z1 ∧ z1 < 2147483648) (hz2 : -2147483648 ≤ z2 ∧ z2 < 2147483648) (hz3 : -2147483648 ≤ z3 ∧ z3 < 2147483648) (hz4 : -2147483648 ≤ z4 ∧ z4 < 2147483648) : fxMet l yX9_gives cX9_gives 6 (some .int) 8 170 1 6 G M N [.ref a, .int (iI z1), .int (iI z2), .int (iI z3), .int (iI z4)] (fun _ _ _ => False) (fun E9 M1 n1 => E9 = "java/lang/IndexOutOfBoundsException" ∧ M1 = M) := by
  refine fx_met RX9 rfl (by decide +kernel) (Nat.le_of_ble_eq_true rfl) ?_
  intro p e s m args below meth c ls E hr hlk hxt hK hH hz hl
  have hH0 := hH
  obtain ⟨hb, c0, _, _, _, _, _, _, _, _, _, _, _, _, _, _, _, _, _, _⟩ := hB.c
  refine lv_aload_n E.1 E.2.1 dX9_gives_0 rfl (lv_at hl 0 rfl) ?_
  refine lv_iload_n E.1 E.2.1 dX9_gives_1 rfl (lv_at hl 1 rfl) ?_
  refine fx_cV (As := [.int (iI z1)]) (rest := []) E hK hH hl c0 fc_X9 fL_X9_requireTree ql_RX9_108 qi_yX9_requireTree qv_yX9_requireTree (k_requireTree l hlt G _ _ a hB z1 (by omega)) rfl rfl (Nat.le_of_ble_eq_true rfl) ⟨Nat.le_of_ble_eq_true rfl, Nat.le_of_ble_eq_true rfl⟩ ⟨by show _ ≤ (1 : Nat); omega, by show _ ≤ (6 : Nat); omega⟩ dX9_gives_2 (fun E9 ce q9 M1 H1 locs1 hp hH hz1 hcell hv9 hcl9 => ?_) ?_
  · obtain ⟨hE, hM9⟩ := hp
    exact fx_out hxt hlk hH hcell hv9 hcl9 ⟨hE, hM9⟩ (by omega) (by omega)
  · exact fun v M1 H1 locs1 hp => hp.elim
theorem x_error (l : Launch) (hlt : l.stackTraces = false) (G : fw_G) (M : fw_M) (N : Nat) (a : Nat) (hB : bn0 G M a) (z1 : Int) (hz1 : -2147483648 ≤ z1 ∧ z1 < 2147483648) : fxMet l yX9_error cX9_error 2 (some .int) 8 170 1 6 G M N [.ref a, .int (iI z1)] (fun _ _ _ => False) (fun E9 M1 n1 => E9 = "java/lang/IndexOutOfBoundsException" ∧ M1 = M) := by
  refine fx_met RX9 rfl (by decide +kernel) (Nat.le_of_ble_eq_true rfl) ?_
  intro p e s m args below meth c ls E hr hlk hxt hK hH hz hl
  have hH0 := hH
  obtain ⟨hb, c0, _, _, _, _, _, _, _, _, _, _, _, _, _, _, _, _, _, _⟩ := hB.c
  refine lv_aload_n E.1 E.2.1 dX9_error_0 rfl (lv_at hl 0 rfl) ?_
  refine fw_get E hK hH c0 fc_X9 1 (by decide) ql_RX9_19 rfl rfl dX9_error_1 ?_
  refine lv_aload_n E.1 E.2.1 dX9_error_4 rfl (lv_at hl 0 rfl) ?_
  refine lv_iload_n E.1 E.2.1 dX9_error_5 rfl (lv_at hl 1 rfl) ?_
  refine fx_cV (As := [.int (iI z1)]) (rest := [.ref (a + 9)]) E hK hH hl c0 fc_X9 fL_X9_requireTree ql_RX9_108 qi_yX9_requireTree qv_yX9_requireTree (k_requireTree l hlt G _ _ a hB z1 (by omega)) rfl rfl (Nat.le_of_ble_eq_true rfl) ⟨Nat.le_of_ble_eq_true rfl, Nat.le_of_ble_eq_true rfl⟩ ⟨by show _ ≤ (1 : Nat); omega, by show _ ≤ (6 : Nat); omega⟩ dX9_error_6 (fun E9 ce q9 M1 H1 locs1 hp hH hz1 hcell hv9 hcl9 => ?_) ?_
  · obtain ⟨hE, hM9⟩ := hp
    exact fx_out hxt hlk hH hcell hv9 hcl9 ⟨hE, hM9⟩ (by omega) (by omega)
  · exact fun v M1 H1 locs1 hp => hp.elim
theorem x_merit (l : Launch) (hlt : l.stackTraces = false) (G : fw_G) (M : fw_M) (N : Nat) (a : Nat) (hB : bn0 G M a) (z1 : Int) (hz1 : -2147483648 ≤ z1 ∧ z1 < 2147483648) : fxMet l yX9_merit cX9_merit 2 (some .int) 8 170 1 6 G M N [.ref a, .int (iI z1)] (fun _ _ _ => False) (fun E9 M1 n1 => E9 = "java/lang/IndexOutOfBoundsException" ∧ M1 = M) := by
  refine fx_met RX9 rfl (by decide +kernel) (Nat.le_of_ble_eq_true rfl) ?_
  intro p e s m args below meth c ls E hr hlk hxt hK hH hz hl
  have hH0 := hH
  obtain ⟨hb, c0, _, _, _, _, _, _, _, _, _, _, _, _, _, _, _, _, _, _⟩ := hB.c
  refine lv_aload_n E.1 E.2.1 dX9_merit_0 rfl (lv_at hl 0 rfl) ?_
  refine fw_get E hK hH c0 fc_X9 1 (by decide) ql_RX9_19 rfl rfl dX9_merit_1 ?_
  refine lv_aload_n E.1 E.2.1 dX9_merit_4 rfl (lv_at hl 0 rfl) ?_
  refine lv_iload_n E.1 E.2.1 dX9_merit_5 rfl (lv_at hl 1 rfl) ?_
  refine fx_cV (As := [.int (iI z1)]) (rest := [.ref (a + 9)]) E hK hH hl c0 fc_X9 fL_X9_requireTree ql_RX9_108 qi_yX9_requireTree qv_yX9_requireTree (k_requireTree l hlt G _ _ a hB z1 (by omega)) rfl rfl (Nat.le_of_ble_eq_true rfl) ⟨Nat.le_of_ble_eq_true rfl, Nat.le_of_ble_eq_true rfl⟩ ⟨by show _ ≤ (1 : Nat); omega, by show _ ≤ (6 : Nat); omega⟩ dX9_merit_6 (fun E9 ce q9 M1 H1 locs1 hp hH hz1 hcell hv9 hcl9 => ?_) ?_
  · obtain ⟨hE, hM9⟩ := hp
    exact fx_out hxt hlk hH hcell hv9 hcl9 ⟨hE, hM9⟩ (by omega) (by omega)
  · exact fun v M1 H1 locs1 hp => hp.elim
theorem x_hits (l : Launch) (hlt : l.stackTraces = false) (G : fw_G) (M : fw_M) (N : Nat) (a : Nat) (hB : bn0 G M a) (z1 : Int) (hz1 : -2147483648 ≤ z1 ∧ z1 < 2147483648) : fxMet l yX9_hits cX9_hits 2 (some .int) 8 170 1 6 G M N [.ref a, .int (iI z1)] (fun _ _ _ => False) (fun E9 M1 n1 => E9 = "java/lang/IndexOutOfBoundsException" ∧ M1 = M) := by
  refine fx_met RX9 rfl (by decide +kernel) (Nat.le_of_ble_eq_true rfl) ?_
  intro p e s m args below meth c ls E hr hlk hxt hK hH hz hl
  have hH0 := hH
  obtain ⟨hb, c0, _, _, _, _, _, _, _, _, _, _, _, _, _, _, _, _, _, _⟩ := hB.c
  refine lv_aload_n E.1 E.2.1 dX9_hits_0 rfl (lv_at hl 0 rfl) ?_
  refine fw_get E hK hH c0 fc_X9 1 (by decide) ql_RX9_19 rfl rfl dX9_hits_1 ?_
  refine lv_aload_n E.1 E.2.1 dX9_hits_4 rfl (lv_at hl 0 rfl) ?_
  refine lv_iload_n E.1 E.2.1 dX9_hits_5 rfl (lv_at hl 1 rfl) ?_
  refine fx_cV (As := [.int (iI z1)]) (rest := [.ref (a + 9)]) E hK hH hl c0 fc_X9 fL_X9_requireTree ql_RX9_108 qi_yX9_requireTree qv_yX9_requireTree (k_requireTree l hlt G _ _ a hB z1 (by omega)) rfl rfl (Nat.le_of_ble_eq_true rfl) ⟨Nat.le_of_ble_eq_true rfl, Nat.le_of_ble_eq_true rfl⟩ ⟨by show _ ≤ (1 : Nat); omega, by show _ ≤ (6 : Nat); omega⟩ dX9_hits_6 (fun E9 ce q9 M1 H1 locs1 hp hH hz1 hcell hv9 hcl9 => ?_) ?_
  · obtain ⟨hE, hM9⟩ := hp
    exact fx_out hxt hlk hH hcell hv9 hcl9 ⟨hE, hM9⟩ (by omega) (by omega)
  · exact fun v M1 H1 locs1 hp => hp.elim
theorem x_alike (l : Launch) (hlt : l.stackTraces = false) (G : fw_G) (M : fw_M) (N : Nat) (a : Nat) (hB : bn0 G M a) (z1 z2 : Int) (hz1 : -2147483648 ≤ z1 ∧ z1 < 2147483648) (hz2 : -2147483648 ≤ z2 ∧ z2 < 2147483648) : fxMet l yX9_alike cX9_alike 3 (some .int) 8 170 1 6 G M N [.ref a, .int (iI z1), .int (iI z2)] (fun _ _ _ => False) (fun E9 M1 n1 => E9 = "java/lang/IndexOutOfBoundsException" ∧ M1 = M) := by
  refine fx_met RX9 rfl (by decide +kernel) (Nat.le_of_ble_eq_true rfl) ?_
  intro p e s m args below meth c ls E hr hlk hxt hK hH hz hl
  have hH0 := hH
  obtain ⟨hb, c0, _, _, _, _, _, _, _, _, _, _, _, _, _, _, _, _, _, _⟩ := hB.c
  refine lv_aload_n E.1 E.2.1 dX9_alike_0 rfl (lv_at hl 0 rfl) ?_
  refine lv_iload_n E.1 E.2.1 dX9_alike_1 rfl (lv_at hl 1 rfl) ?_
  refine fx_cV (As := [.int (iI z1)]) (rest := []) E hK hH hl c0 fc_X9 fL_X9_requireTree ql_RX9_108 qi_yX9_requireTree qv_yX9_requireTree (k_requireTree l hlt G _ _ a hB z1 (by omega)) rfl rfl (Nat.le_of_ble_eq_true rfl) ⟨Nat.le_of_ble_eq_true rfl, Nat.le_of_ble_eq_true rfl⟩ ⟨by show _ ≤ (1 : Nat); omega, by show _ ≤ (6 : Nat); omega⟩ dX9_alike_2 (fun E9 ce q9 M1 H1 locs1 hp hH hz1 hcell hv9 hcl9 => ?_) ?_
  · obtain ⟨hE, hM9⟩ := hp
    exact fx_out hxt hlk hH hcell hv9 hcl9 ⟨hE, hM9⟩ (by omega) (by omega)
  · exact fun v M1 H1 locs1 hp => hp.elim
theorem x_errorCrossed (l : Launch) (hlt : l.stackTraces = false) (G : fw_G) (M : fw_M) (N : Nat) (a : Nat) (hB : bn0 G M a) (z1 z2 z3 z4 : Int) (hz1 : -2147483648 ≤ z1 ∧ z1 < 2147483648) (hz2 : -2147483648 ≤ z2 ∧ z2 < 2147483648) (hz3 : -2147483648 ≤ z3 ∧ z3 < 2147483648) (hz4 : -2147483648 ≤ z4 ∧ z4 < 2147483648) : fxMet l yX9_errorCrossed cX9_errorCrossed 7 (some .int) 8 170 1 6 G M N [.ref a, .int (iI z1), .int (iI z2), .int (iI z3), .int (iI z4)] (fun _ _ _ => False) (fun E9 M1 n1 => E9 = "java/lang/IndexOutOfBoundsException" ∧ M1 = M) := by
  refine fx_met RX9 rfl (by decide +kernel) (Nat.le_of_ble_eq_true rfl) ?_
  intro p e s m args below meth c ls E hr hlk hxt hK hH hz hl
  have hH0 := hH
  obtain ⟨hb, c0, _, _, _, _, _, _, _, _, _, _, _, _, _, _, _, _, _, _⟩ := hB.c
  refine lv_aload_n E.1 E.2.1 dX9_errorCrossed_0 rfl (lv_at hl 0 rfl) ?_
  refine lv_iload_n E.1 E.2.1 dX9_errorCrossed_1 rfl (lv_at hl 1 rfl) ?_
  refine lv_iload_n E.1 E.2.1 dX9_errorCrossed_2 rfl (lv_at hl 2 rfl) ?_
  refine fx_cV (As := [.int (iI z1), .int (iI z2)]) (rest := []) E hK hH hl c0 fc_X9 fL_X9_requirePlace ql_RX9_141 qi_yX9_requirePlace qv_yX9_requirePlace (k_requirePlace l hlt G _ _ a hB z1 z2 (by omega) (by omega)) rfl rfl (Nat.le_of_ble_eq_true rfl) ⟨Nat.le_of_ble_eq_true rfl, Nat.le_of_ble_eq_true rfl⟩ ⟨by show _ ≤ (1 : Nat); omega, by show _ ≤ (6 : Nat); omega⟩ dX9_errorCrossed_3 (fun E9 ce q9 M1 H1 locs1 hp hH hz1 hcell hv9 hcl9 => ?_) ?_
  · obtain ⟨hE, hM9⟩ := hp
    exact fx_out hxt hlk hH hcell hv9 hcl9 ⟨hE, hM9⟩ (by omega) (by omega)
  · exact fun v M1 H1 locs1 hp => hp.elim
theorem x_bestHoist (l : Launch) (hlt : l.stackTraces = false) (G : fw_G) (M : fw_M) (N : Nat) (a : Nat) (hB : bn0 G M a) (z1 : Int) (hz1 : -2147483648 ≤ z1 ∧ z1 < 2147483648) : fxMet l yX9_bestHoist cX9_bestHoist 7 (some .int) 8 170 1 6 G M N [.ref a, .int (iI z1)] (fun _ _ _ => False) (fun E9 M1 n1 => E9 = "java/lang/IndexOutOfBoundsException" ∧ M1 = M) := by
  refine fx_met RX9 rfl (by decide +kernel) (Nat.le_of_ble_eq_true rfl) ?_
  intro p e s m args below meth c ls E hr hlk hxt hK hH hz hl
  have hH0 := hH
  obtain ⟨hb, c0, _, _, _, _, _, _, _, _, _, _, _, _, _, _, _, _, _, _⟩ := hB.c
  refine lv_aload_n E.1 E.2.1 dX9_bestHoist_0 rfl (lv_at hl 0 rfl) ?_
  refine lv_iload_n E.1 E.2.1 dX9_bestHoist_1 rfl (lv_at hl 1 rfl) ?_
  refine fx_cV (As := [.int (iI z1)]) (rest := []) E hK hH hl c0 fc_X9 fL_X9_requireTree ql_RX9_108 qi_yX9_requireTree qv_yX9_requireTree (k_requireTree l hlt G _ _ a hB z1 (by omega)) rfl rfl (Nat.le_of_ble_eq_true rfl) ⟨Nat.le_of_ble_eq_true rfl, Nat.le_of_ble_eq_true rfl⟩ ⟨by show _ ≤ (1 : Nat); omega, by show _ ≤ (6 : Nat); omega⟩ dX9_bestHoist_2 (fun E9 ce q9 M1 H1 locs1 hp hH hz1 hcell hv9 hcl9 => ?_) ?_
  · obtain ⟨hE, hM9⟩ := hp
    exact fx_out hxt hlk hH hcell hv9 hcl9 ⟨hE, hM9⟩ (by omega) (by omega)
  · exact fun v M1 H1 locs1 hp => hp.elim
theorem x_ranked (l : Launch) (hlt : l.stackTraces = false) (G : fw_G) (M : fw_M) (N : Nat) (a : Nat) (hB : bn0 G M a) (z1 : Int) (hz1 : -2147483648 ≤ z1 ∧ z1 < 2147483648) : fxMet l yX9_ranked cX9_ranked 2 (some .int) 8 170 1 6 G M N [.ref a, .int (iI z1)] (fun _ _ _ => False) (fun E9 M1 n1 => E9 = "java/lang/IndexOutOfBoundsException" ∧ M1 = M) := by
  refine fx_met RX9 rfl (by decide +kernel) (Nat.le_of_ble_eq_true rfl) ?_
  intro p e s m args below meth c ls E hr hlk hxt hK hH hz hl
  have hH0 := hH
  obtain ⟨hb, c0, _, _, _, _, _, _, _, _, _, _, _, _, _, _, _, c33, _, _⟩ := hB.c
  refine lv_iload_n E.1 E.2.1 dX9_ranked_0 rfl (lv_at hl 1 rfl) ?_
  refine fw_if_lt (tgt := 15) E dX9_ranked_1 (by decide) (by omega) (by omega) (fun c1 => ?_) (fun c1 => ?_)
  · exact fx_thrW hlt E hK hH0 hH hl hxt hlk (cls := "java/lang/IndexOutOfBoundsException") (names := ["java/lang/RuntimeException", "java/lang/Exception"]) (i := 19) (text := "there is no such rank") xf_IOB xn_all ql_RX9_259 xi_IOB xw_IOB xg_IOB rfl dX9_ranked_15 dX9_ranked_18 dX9_ranked_19 dX9_ranked_22 dX9_ranked_25 ⟨Nat.le_of_ble_eq_true rfl, Nat.le_of_ble_eq_true rfl, by show _ ≤ (1 : Nat); omega, by show _ ≤ (6 : Nat); omega⟩ (fun n1 hn1 => ⟨rfl, rfl⟩) (by omega) (by omega)
  · refine lv_iload_n E.1 E.2.1 dX9_ranked_4 rfl (lv_at hl 1 rfl) ?_
    refine lv_aload_n E.1 E.2.1 dX9_ranked_5 rfl (lv_at hl 0 rfl) ?_
    refine fw_get E hK hH c0 fc_X9 6 (by decide) ql_RX9_54 rfl rfl dX9_ranked_6 ?_
    refine fw_getN E hK hH c33 fc_X2 4 (by decide) ql_RX9_99 rfl rfl dX9_ranked_9 ?_
    refine fw_icmp_lt (tgt := 26) E dX9_ranked_12 (by decide) (by omega) (by omega) (by omega) (by omega) (fun c2 => ?_) (fun c2 => ?_)
    · exact absurd c2 (by omega)
    · exact fx_thrW hlt E hK hH0 hH hl hxt hlk (cls := "java/lang/IndexOutOfBoundsException") (names := ["java/lang/RuntimeException", "java/lang/Exception"]) (i := 19) (text := "there is no such rank") xf_IOB xn_all ql_RX9_259 xi_IOB xw_IOB xg_IOB rfl dX9_ranked_15 dX9_ranked_18 dX9_ranked_19 dX9_ranked_22 dX9_ranked_25 ⟨Nat.le_of_ble_eq_true rfl, Nat.le_of_ble_eq_true rfl, by show _ ≤ (1 : Nat); omega, by show _ ≤ (6 : Nat); omega⟩ (fun n1 hn1 => ⟨rfl, rfl⟩) (by omega) (by omega)
theorem x_breed (l : Launch) (hlt : l.stackTraces = false) (G : fw_G) (M : fw_M) (N : Nat) (a : Nat) (hB : bn0 G M a) (z1 : Int) (hz1 : -2147483648 ≤ z1 ∧ z1 < 2147483648) : fxMet l yX9_breed cX9_breed 2 (some .int) 8 170 1 6 G M N [.ref a, .int (iI z1)] (fun _ _ _ => False) (fun E9 M1 n1 => (E9 = "java/lang/IllegalArgumentException" ∧ kS_breed z1 = 1 ∨ E9 = "java/lang/IllegalStateException" ∧ kS_breed z1 = 2) ∧ M1 = M) := by
  refine fx_met RX9 rfl (by decide +kernel) (Nat.le_of_ble_eq_true rfl) ?_
  intro p e s m args below meth c ls E hr hlk hxt hK hH hz hl
  have hH0 := hH
  obtain ⟨hb, c0, _, _, _, _, _, _, _, _, _, _, _, _, _, _, _, _, _, _⟩ := hB.c
  refine lv_aload_n E.1 E.2.1 dX9_breed_0 rfl (lv_at hl 0 rfl) ?_
  refine lv_iload_n E.1 E.2.1 dX9_breed_1 rfl (lv_at hl 1 rfl) ?_
  refine fx_cV (As := [.int (iI z1)]) (rest := []) E hK hH hl c0 fc_X9 fL_X9_requireBreeding ql_RX9_223 qi_yX9_requireBreeding qv_yX9_requireBreeding (k_requireBreeding l hlt G _ _ a hB z1 (by omega)) rfl rfl (Nat.le_of_ble_eq_true rfl) ⟨Nat.le_of_ble_eq_true rfl, Nat.le_of_ble_eq_true rfl⟩ ⟨by show _ ≤ (1 : Nat); omega, by show _ ≤ (6 : Nat); omega⟩ dX9_breed_2 (fun E9 ce q9 M1 H1 locs1 hp hH hz1 hcell hv9 hcl9 => ?_) ?_
  · obtain ⟨hE, hM9⟩ := hp
    exact fx_out hxt hlk hH hcell hv9 hcl9 ⟨hE.imp (fun h => ⟨h.1, if_neg h.2⟩) (fun h => ⟨h.1, if_pos h.2⟩), hM9⟩ (by omega) (by omega)
  · exact fun v M1 H1 locs1 hp => hp.elim
theorem x_errorBred (l : Launch) (hlt : l.stackTraces = false) (G : fw_G) (M : fw_M) (N : Nat) (a : Nat) (hB : bn0 G M a) (z1 : Int) (hz1 : -2147483648 ≤ z1 ∧ z1 < 2147483648) : fxMet l yX9_errorBred cX9_errorBred 2 (some .int) 8 170 1 6 G M N [.ref a, .int (iI z1)] (fun _ _ _ => False) (fun E9 M1 n1 => (E9 = "java/lang/IllegalArgumentException" ∧ kS_breed z1 = 1 ∨ E9 = "java/lang/IllegalStateException" ∧ kS_breed z1 = 2) ∧ M1 = M) := by
  refine fx_met RX9 rfl (by decide +kernel) (Nat.le_of_ble_eq_true rfl) ?_
  intro p e s m args below meth c ls E hr hlk hxt hK hH hz hl
  have hH0 := hH
  obtain ⟨hb, c0, _, _, _, _, _, _, _, _, _, _, _, _, _, _, _, _, _, _⟩ := hB.c
  refine lv_aload_n E.1 E.2.1 dX9_errorBred_0 rfl (lv_at hl 0 rfl) ?_
  refine lv_iload_n E.1 E.2.1 dX9_errorBred_1 rfl (lv_at hl 1 rfl) ?_
  refine fx_cV (As := [.int (iI z1)]) (rest := []) E hK hH hl c0 fc_X9 fL_X9_requireBreeding ql_RX9_223 qi_yX9_requireBreeding qv_yX9_requireBreeding (k_requireBreeding l hlt G _ _ a hB z1 (by omega)) rfl rfl (Nat.le_of_ble_eq_true rfl) ⟨Nat.le_of_ble_eq_true rfl, Nat.le_of_ble_eq_true rfl⟩ ⟨by show _ ≤ (1 : Nat); omega, by show _ ≤ (6 : Nat); omega⟩ dX9_errorBred_2 (fun E9 ce q9 M1 H1 locs1 hp hH hz1 hcell hv9 hcl9 => ?_) ?_
  · obtain ⟨hE, hM9⟩ := hp
    exact fx_out hxt hlk hH hcell hv9 hcl9 ⟨hE.imp (fun h => ⟨h.1, if_neg h.2⟩) (fun h => ⟨h.1, if_pos h.2⟩), hM9⟩ (by omega) (by omega)
  · exact fun v M1 H1 locs1 hp => hp.elim

theorem fW_fell : fw_L1 yL_fell cL_fell 4 (some .int) [(0, 9, 12, 25)] 3 := ⟨qn_RL, qw_yL_fell, by decide +kernel, by decide +kernel, by decide +kernel⟩
theorem w_fell (l : Launch) (hlt : l.stackTraces = false) (G : fw_G) (M : fw_M) (N : Nat) (a : Nat) (hB : bn0 G M a) (w : Nat → Int64) (ho : M (a + 385) = some (fJ G 1 w)) (z1 : Int) (hz1 : -2147483648 ≤ z1 ∧ z1 < 2147483648) : fwW l yL_fell cL_fell 4 (some .int) [(0, 9, 12, 25)] 9 220 1 6 G M N [.ref a, .int (iI z1), .ref (a + 385)] (fw_pi (fun r M1 n1 => r = iI (1) ∧ (1 = 0 → ∃ g, M1 (a + 385) = some (fJ G 1 g) ∧ g 0 = (iI (0)).toInt64) ∧ (∀ q, a + 378 ≤ q → q ≠ a + 385 → M1 q = M q))) := by
  refine fw_metW RL rfl (by decide +kernel) (Nat.le_of_ble_eq_true rfl) qw_yL_fell ?_
  intro p e s m args below meth c ls E hr hlk hxt hK hH hz hl
  obtain ⟨hb, c0, _, _, _, _, _, _, _, _, _, _, _, _, _, _, _, _, _, _⟩ := hB.c
  refine lv_aload_n E.1 E.2.1 dL_fell_0 rfl (lv_at hl 2 rfl) ?_
  refine lv_iconst (v := iI 0) E.1 E.2.1 dL_fell_1 (by decide) ?_
  refine lv_aload_n E.1 E.2.1 dL_fell_2 rfl (lv_at hl 0 rfl) ?_
  refine lv_iload_n E.1 E.2.1 dL_fell_3 rfl (lv_at hl 1 rfl) ?_
  refine fx_cV (As := [.int (iI z1)]) (rest := [.int (iI 0), .ref (a + 385)]) E hK hH hl c0 fc_X9 fL_X9_fell ql_RL_21 qi_yX9_fell qv_yX9_fell (x_fell l hlt G _ _ a hB z1 (by omega)) rfl rfl (Nat.le_of_ble_eq_true rfl) ⟨Nat.le_of_ble_eq_true rfl, Nat.le_of_ble_eq_true rfl⟩ ⟨by show _ ≤ (1 : Nat); omega, by show _ ≤ (6 : Nat); omega⟩ dL_fell_4 (fun E9 ce q9 M1 H1 locs1 hp hH hz1 hcell hv9 hcl9 => ?_) ?_
  · obtain ⟨rfl, hM9⟩ := hp
    rw [hM9] at hH
    refine vx_catch (own := RL) (name := "java/lang/IndexOutOfBoundsException") E.2.2.2.1 [] (⟨0, 9, 12, 25⟩ : ExceptionTableEntry) [] (by rw [hxt]; rfl) (fun z hz9 => absurd hz9 List.not_mem_nil) (by decide) (by decide) (E.2.2.2.2 _ ql_RL_25) (E.2.2.2.2 _ qk_IOB_IOB) hcell hv9 hcl9 ?_
    refine lv_astore_n (lv' := [(3, .ref q9), (0, .ref a), (1, .int (iI z1)), (2, .ref (a + 385))]) E.1 E.2.1 dL_fell_12 rfl hl (by decide) rfl (fun ls hl => ?_)
    refine lv_iconst (v := iI 1) E.1 E.2.1 dL_fell_13 (by decide) ?_
    refine W.widen (k := 1) (n := 6) (by omega) (by omega) ?_
    refine fw_iret E hr hlk hH ?_ dL_fell_14
    exact ⟨rfl, fun h => absurd h (by decide), fun q hq hq2 => rfl⟩
  · exact fun v M1 H1 locs1 hp => hp.elim
theorem fW_cross : fw_L1 yL_cross cL_cross 7 (some .int) [(0, 14, 17, 25)] 6 := ⟨qn_RL, qw_yL_cross, by decide +kernel, by decide +kernel, by decide +kernel⟩
theorem w_cross (l : Launch) (hlt : l.stackTraces = false) (G : fw_G) (M : fw_M) (N : Nat) (a : Nat) (hB : bn0 G M a) (w : Nat → Int64) (ho : M (a + 385) = some (fJ G 1 w)) (z1 z2 z3 z4 : Int) (hz1 : -2147483648 ≤ z1 ∧ z1 < 2147483648) (hz2 : -2147483648 ≤ z2 ∧ z2 < 2147483648) (hz3 : -2147483648 ≤ z3 ∧ z3 < 2147483648) (hz4 : -2147483648 ≤ z4 ∧ z4 < 2147483648) : fwW l yL_cross cL_cross 7 (some .int) [(0, 14, 17, 25)] 9 220 1 6 G M N [.ref a, .int (iI z1), .int (iI z2), .int (iI z3), .int (iI z4), .ref (a + 385)] (fw_pi (fun r M1 n1 => r = iI (1) ∧ (1 = 0 → ∃ g, M1 (a + 385) = some (fJ G 1 g) ∧ g 0 = (iI (0)).toInt64) ∧ (∀ q, a + 378 ≤ q → q ≠ a + 385 → M1 q = M q))) := by
  refine fw_metW RL rfl (by decide +kernel) (Nat.le_of_ble_eq_true rfl) qw_yL_cross ?_
  intro p e s m args below meth c ls E hr hlk hxt hK hH hz hl
  obtain ⟨hb, c0, _, _, _, _, _, _, _, _, _, _, _, _, _, _, _, _, _, _⟩ := hB.c
  refine lv_aload E.1 E.2.1 dL_cross_0 (lv_at hl 5 rfl) ?_
  refine lv_iconst (v := iI 0) E.1 E.2.1 dL_cross_2 (by decide) ?_
  refine lv_aload_n E.1 E.2.1 dL_cross_3 rfl (lv_at hl 0 rfl) ?_
  refine lv_iload_n E.1 E.2.1 dL_cross_4 rfl (lv_at hl 1 rfl) ?_
  refine lv_iload_n E.1 E.2.1 dL_cross_5 rfl (lv_at hl 2 rfl) ?_
  refine lv_iload_n E.1 E.2.1 dL_cross_6 rfl (lv_at hl 3 rfl) ?_
  refine lv_iload E.1 E.2.1 dL_cross_7 (lv_at hl 4 rfl) ?_
  refine fx_cV (As := [.int (iI z1), .int (iI z2), .int (iI z3), .int (iI z4)]) (rest := [.int (iI 0), .ref (a + 385)]) E hK hH hl c0 fc_X9 fL_X9_cross ql_RL_34 qi_yX9_cross qv_yX9_cross (x_cross l hlt G _ _ a hB z1 z2 z3 z4 (by omega) (by omega) (by omega) (by omega)) rfl rfl (Nat.le_of_ble_eq_true rfl) ⟨Nat.le_of_ble_eq_true rfl, Nat.le_of_ble_eq_true rfl⟩ ⟨by show _ ≤ (1 : Nat); omega, by show _ ≤ (6 : Nat); omega⟩ dL_cross_9 (fun E9 ce q9 M1 H1 locs1 hp hH hz1 hcell hv9 hcl9 => ?_) ?_
  · obtain ⟨rfl, hM9⟩ := hp
    rw [hM9] at hH
    refine vx_catch (own := RL) (name := "java/lang/IndexOutOfBoundsException") E.2.2.2.1 [] (⟨0, 14, 17, 25⟩ : ExceptionTableEntry) [] (by rw [hxt]; rfl) (fun z hz9 => absurd hz9 List.not_mem_nil) (by decide) (by decide) (E.2.2.2.2 _ ql_RL_25) (E.2.2.2.2 _ qk_IOB_IOB) hcell hv9 hcl9 ?_
    refine lv_astore (lv' := [(6, .ref q9), (0, .ref a), (1, .int (iI z1)), (2, .int (iI z2)), (3, .int (iI z3)), (4, .int (iI z4)), (5, .ref (a + 385))]) E.1 E.2.1 dL_cross_17 hl (by decide) rfl (fun ls hl => ?_)
    refine lv_iconst (v := iI 1) E.1 E.2.1 dL_cross_19 (by decide) ?_
    refine W.widen (k := 1) (n := 6) (by omega) (by omega) ?_
    refine fw_iret E hr hlk hH ?_ dL_cross_20
    exact ⟨rfl, fun h => absurd h (by decide), fun q hq hq2 => rfl⟩
  · exact fun v M1 H1 locs1 hp => hp.elim
theorem fW_hoist : fw_L1 yL_hoist cL_hoist 5 (some .int) [(0, 10, 13, 25)] 4 := ⟨qn_RL, qw_yL_hoist, by decide +kernel, by decide +kernel, by decide +kernel⟩
theorem w_hoist (l : Launch) (hlt : l.stackTraces = false) (G : fw_G) (M : fw_M) (N : Nat) (a : Nat) (hB : bn0 G M a) (w : Nat → Int64) (ho : M (a + 385) = some (fJ G 1 w)) (z1 z2 : Int) (hz1 : -2147483648 ≤ z1 ∧ z1 < 2147483648) (hz2 : -2147483648 ≤ z2 ∧ z2 < 2147483648) : fwW l yL_hoist cL_hoist 5 (some .int) [(0, 10, 13, 25)] 9 220 1 6 G M N [.ref a, .int (iI z1), .int (iI z2), .ref (a + 385)] (fw_pi (fun r M1 n1 => r = iI (1) ∧ (1 = 0 → ∃ g, M1 (a + 385) = some (fJ G 1 g) ∧ g 0 = (iI (0)).toInt64) ∧ (∀ q, a + 378 ≤ q → q ≠ a + 385 → M1 q = M q))) := by
  refine fw_metW RL rfl (by decide +kernel) (Nat.le_of_ble_eq_true rfl) qw_yL_hoist ?_
  intro p e s m args below meth c ls E hr hlk hxt hK hH hz hl
  obtain ⟨hb, c0, _, _, _, _, _, _, _, _, _, _, _, _, _, _, _, _, _, _⟩ := hB.c
  refine lv_aload_n E.1 E.2.1 dL_hoist_0 rfl (lv_at hl 3 rfl) ?_
  refine lv_iconst (v := iI 0) E.1 E.2.1 dL_hoist_1 (by decide) ?_
  refine lv_aload_n E.1 E.2.1 dL_hoist_2 rfl (lv_at hl 0 rfl) ?_
  refine lv_iload_n E.1 E.2.1 dL_hoist_3 rfl (lv_at hl 1 rfl) ?_
  refine lv_iload_n E.1 E.2.1 dL_hoist_4 rfl (lv_at hl 2 rfl) ?_
  refine fx_cV (As := [.int (iI z1), .int (iI z2)]) (rest := [.int (iI 0), .ref (a + 385)]) E hK hH hl c0 fc_X9 fL_X9_hoist ql_RL_37 qi_yX9_hoist qv_yX9_hoist (x_hoist l hlt G _ _ a hB z1 z2 (by omega) (by omega)) rfl rfl (Nat.le_of_ble_eq_true rfl) ⟨Nat.le_of_ble_eq_true rfl, Nat.le_of_ble_eq_true rfl⟩ ⟨by show _ ≤ (1 : Nat); omega, by show _ ≤ (6 : Nat); omega⟩ dL_hoist_5 (fun E9 ce q9 M1 H1 locs1 hp hH hz1 hcell hv9 hcl9 => ?_) ?_
  · obtain ⟨rfl, hM9⟩ := hp
    rw [hM9] at hH
    refine vx_catch (own := RL) (name := "java/lang/IndexOutOfBoundsException") E.2.2.2.1 [] (⟨0, 10, 13, 25⟩ : ExceptionTableEntry) [] (by rw [hxt]; rfl) (fun z hz9 => absurd hz9 List.not_mem_nil) (by decide) (by decide) (E.2.2.2.2 _ ql_RL_25) (E.2.2.2.2 _ qk_IOB_IOB) hcell hv9 hcl9 ?_
    refine lv_astore (lv' := [(4, .ref q9), (0, .ref a), (1, .int (iI z1)), (2, .int (iI z2)), (3, .ref (a + 385))]) E.1 E.2.1 dL_hoist_13 hl (by decide) rfl (fun ls hl => ?_)
    refine lv_iconst (v := iI 1) E.1 E.2.1 dL_hoist_15 (by decide) ?_
    refine W.widen (k := 1) (n := 6) (by omega) (by omega) ?_
    refine fw_iret E hr hlk hH ?_ dL_hoist_16
    exact ⟨rfl, fun h => absurd h (by decide), fun q hq hq2 => rfl⟩
  · exact fun v M1 H1 locs1 hp => hp.elim
theorem fW_recode : fw_L1 yL_recode cL_recode 7 (some .int) [(0, 14, 17, 25), (0, 14, 21, 13)] 6 := ⟨qn_RL, qw_yL_recode, by decide +kernel, by decide +kernel, by decide +kernel⟩
theorem w_recode (l : Launch) (hlt : l.stackTraces = false) (G : fw_G) (M : fw_M) (N : Nat) (a : Nat) (hB : bn0 G M a) (w : Nat → Int64) (ho : M (a + 385) = some (fJ G 1 w)) (z1 z2 z3 z4 : Int) (hz1 : -2147483648 ≤ z1 ∧ z1 < 2147483648) (hz2 : -2147483648 ≤ z2 ∧ z2 < 2147483648) (hz3 : -2147483648 ≤ z3 ∧ z3 < 2147483648) (hz4 : -2147483648 ≤ z4 ∧ z4 < 2147483648) : fwW l yL_recode cL_recode 7 (some .int) [(0, 14, 17, 25), (0, 14, 21, 13)] 9 220 1 6 G M N [.ref a, .int (iI z1), .int (iI z2), .int (iI z3), .int (iI z4), .ref (a + 385)] (fw_pi (fun r M1 n1 => r = iI (1) ∧ (1 = 0 → ∃ g, M1 (a + 385) = some (fJ G 1 g) ∧ g 0 = (iI (0)).toInt64) ∧ (∀ q, a + 378 ≤ q → q ≠ a + 385 → M1 q = M q))) := by
  refine fw_metW RL rfl (by decide +kernel) (Nat.le_of_ble_eq_true rfl) qw_yL_recode ?_
  intro p e s m args below meth c ls E hr hlk hxt hK hH hz hl
  obtain ⟨hb, c0, _, _, _, _, _, _, _, _, _, _, _, _, _, _, _, _, _, _⟩ := hB.c
  refine lv_aload E.1 E.2.1 dL_recode_0 (lv_at hl 5 rfl) ?_
  refine lv_iconst (v := iI 0) E.1 E.2.1 dL_recode_2 (by decide) ?_
  refine lv_aload_n E.1 E.2.1 dL_recode_3 rfl (lv_at hl 0 rfl) ?_
  refine lv_iload_n E.1 E.2.1 dL_recode_4 rfl (lv_at hl 1 rfl) ?_
  refine lv_iload_n E.1 E.2.1 dL_recode_5 rfl (lv_at hl 2 rfl) ?_
  refine lv_iload_n E.1 E.2.1 dL_recode_6 rfl (lv_at hl 3 rfl) ?_
  refine lv_iload E.1 E.2.1 dL_recode_7 (lv_at hl 4 rfl) ?_
  refine fx_cV (As := [.int (iI z1), .int (iI z2), .int (iI z3), .int (iI z4)]) (rest := [.int (iI 0), .ref (a + 385)]) E hK hH hl c0 fc_X9 fL_X9_recode ql_RL_40 qi_yX9_recode qv_yX9_recode (x_recode l hlt G _ _ a hB z1 z2 z3 z4 (by omega) (by omega) (by omega) (by omega)) rfl rfl (Nat.le_of_ble_eq_true rfl) ⟨Nat.le_of_ble_eq_true rfl, Nat.le_of_ble_eq_true rfl⟩ ⟨by show _ ≤ (1 : Nat); omega, by show _ ≤ (6 : Nat); omega⟩ dL_recode_9 (fun E9 ce q9 M1 H1 locs1 hp hH hz1 hcell hv9 hcl9 => ?_) ?_
  · obtain ⟨rfl, hM9⟩ := hp
    rw [hM9] at hH
    refine vx_catch (own := RL) (name := "java/lang/IndexOutOfBoundsException") E.2.2.2.1 [] (⟨0, 14, 17, 25⟩ : ExceptionTableEntry) [(⟨0, 14, 21, 13⟩ : ExceptionTableEntry)] (by rw [hxt]; rfl) (fun z hz9 => absurd hz9 List.not_mem_nil) (by decide) (by decide) (E.2.2.2.2 _ ql_RL_25) (E.2.2.2.2 _ qk_IOB_IOB) hcell hv9 hcl9 ?_
    refine lv_astore (lv' := [(6, .ref q9), (0, .ref a), (1, .int (iI z1)), (2, .int (iI z2)), (3, .int (iI z3)), (4, .int (iI z4)), (5, .ref (a + 385))]) E.1 E.2.1 dL_recode_17 hl (by decide) rfl (fun ls hl => ?_)
    refine lv_iconst (v := iI 1) E.1 E.2.1 dL_recode_19 (by decide) ?_
    refine W.widen (k := 1) (n := 6) (by omega) (by omega) ?_
    refine fw_iret E hr hlk hH ?_ dL_recode_20
    exact ⟨rfl, fun h => absurd h (by decide), fun q hq hq2 => rfl⟩
  · exact fun v M1 H1 locs1 hp => hp.elim
theorem fW_wither : fw_L1 yL_wither cL_wither 6 (some .int) [(0, 12, 15, 25), (0, 12, 19, 13)] 5 := ⟨qn_RL, qw_yL_wither, by decide +kernel, by decide +kernel, by decide +kernel⟩
theorem w_wither (l : Launch) (hlt : l.stackTraces = false) (G : fw_G) (M : fw_M) (N : Nat) (a : Nat) (hB : bn0 G M a) (w : Nat → Int64) (ho : M (a + 385) = some (fJ G 1 w)) (z1 z2 z3 : Int) (hz1 : -2147483648 ≤ z1 ∧ z1 < 2147483648) (hz2 : -2147483648 ≤ z2 ∧ z2 < 2147483648) (hz3 : -2147483648 ≤ z3 ∧ z3 < 2147483648) : fwW l yL_wither cL_wither 6 (some .int) [(0, 12, 15, 25), (0, 12, 19, 13)] 9 220 1 6 G M N [.ref a, .int (iI z1), .int (iI z2), .int (iI z3), .ref (a + 385)] (fw_pi (fun r M1 n1 => r = iI (1) ∧ (1 = 0 → ∃ g, M1 (a + 385) = some (fJ G 1 g) ∧ g 0 = (iI (0)).toInt64) ∧ (∀ q, a + 378 ≤ q → q ≠ a + 385 → M1 q = M q))) := by
  refine fw_metW RL rfl (by decide +kernel) (Nat.le_of_ble_eq_true rfl) qw_yL_wither ?_
  intro p e s m args below meth c ls E hr hlk hxt hK hH hz hl
  obtain ⟨hb, c0, _, _, _, _, _, _, _, _, _, _, _, _, _, _, _, _, _, _⟩ := hB.c
  refine lv_aload E.1 E.2.1 dL_wither_0 (lv_at hl 4 rfl) ?_
  refine lv_iconst (v := iI 0) E.1 E.2.1 dL_wither_2 (by decide) ?_
  refine lv_aload_n E.1 E.2.1 dL_wither_3 rfl (lv_at hl 0 rfl) ?_
  refine lv_iload_n E.1 E.2.1 dL_wither_4 rfl (lv_at hl 1 rfl) ?_
  refine lv_iload_n E.1 E.2.1 dL_wither_5 rfl (lv_at hl 2 rfl) ?_
  refine lv_iload_n E.1 E.2.1 dL_wither_6 rfl (lv_at hl 3 rfl) ?_
  refine fx_cV (As := [.int (iI z1), .int (iI z2), .int (iI z3)]) (rest := [.int (iI 0), .ref (a + 385)]) E hK hH hl c0 fc_X9 fL_X9_wither ql_RL_43 qi_yX9_wither qv_yX9_wither (x_wither l hlt G _ _ a hB z1 z2 z3 (by omega) (by omega) (by omega)) rfl rfl (Nat.le_of_ble_eq_true rfl) ⟨Nat.le_of_ble_eq_true rfl, Nat.le_of_ble_eq_true rfl⟩ ⟨by show _ ≤ (1 : Nat); omega, by show _ ≤ (6 : Nat); omega⟩ dL_wither_7 (fun E9 ce q9 M1 H1 locs1 hp hH hz1 hcell hv9 hcl9 => ?_) ?_
  · obtain ⟨rfl, hM9⟩ := hp
    rw [hM9] at hH
    refine vx_catch (own := RL) (name := "java/lang/IndexOutOfBoundsException") E.2.2.2.1 [] (⟨0, 12, 15, 25⟩ : ExceptionTableEntry) [(⟨0, 12, 19, 13⟩ : ExceptionTableEntry)] (by rw [hxt]; rfl) (fun z hz9 => absurd hz9 List.not_mem_nil) (by decide) (by decide) (E.2.2.2.2 _ ql_RL_25) (E.2.2.2.2 _ qk_IOB_IOB) hcell hv9 hcl9 ?_
    refine lv_astore (lv' := [(5, .ref q9), (0, .ref a), (1, .int (iI z1)), (2, .int (iI z2)), (3, .int (iI z3)), (4, .ref (a + 385))]) E.1 E.2.1 dL_wither_15 hl (by decide) rfl (fun ls hl => ?_)
    refine lv_iconst (v := iI 1) E.1 E.2.1 dL_wither_17 (by decide) ?_
    refine W.widen (k := 1) (n := 6) (by omega) (by omega) ?_
    refine fw_iret E hr hlk hH ?_ dL_wither_18
    exact ⟨rfl, fun h => absurd h (by decide), fun q hq hq2 => rfl⟩
  · exact fun v M1 H1 locs1 hp => hp.elim
theorem fW_simplify : fw_L1 yL_simplify cL_simplify 4 (some .int) [(0, 9, 12, 25)] 3 := ⟨qn_RL, qw_yL_simplify, by decide +kernel, by decide +kernel, by decide +kernel⟩
theorem w_simplify (l : Launch) (hlt : l.stackTraces = false) (G : fw_G) (M : fw_M) (N : Nat) (a : Nat) (hB : bn0 G M a) (w : Nat → Int64) (ho : M (a + 385) = some (fJ G 1 w)) (z1 : Int) (hz1 : -2147483648 ≤ z1 ∧ z1 < 2147483648) : fwW l yL_simplify cL_simplify 4 (some .int) [(0, 9, 12, 25)] 9 220 1 6 G M N [.ref a, .int (iI z1), .ref (a + 385)] (fw_pi (fun r M1 n1 => r = iI (1) ∧ (1 = 0 → ∃ g, M1 (a + 385) = some (fJ G 1 g) ∧ g 0 = (iI (0)).toInt64) ∧ (∀ q, a + 378 ≤ q → q ≠ a + 385 → M1 q = M q))) := by
  refine fw_metW RL rfl (by decide +kernel) (Nat.le_of_ble_eq_true rfl) qw_yL_simplify ?_
  intro p e s m args below meth c ls E hr hlk hxt hK hH hz hl
  obtain ⟨hb, c0, _, _, _, _, _, _, _, _, _, _, _, _, _, _, _, _, _, _⟩ := hB.c
  refine lv_aload_n E.1 E.2.1 dL_simplify_0 rfl (lv_at hl 2 rfl) ?_
  refine lv_iconst (v := iI 0) E.1 E.2.1 dL_simplify_1 (by decide) ?_
  refine lv_aload_n E.1 E.2.1 dL_simplify_2 rfl (lv_at hl 0 rfl) ?_
  refine lv_iload_n E.1 E.2.1 dL_simplify_3 rfl (lv_at hl 1 rfl) ?_
  refine fx_cV (As := [.int (iI z1)]) (rest := [.int (iI 0), .ref (a + 385)]) E hK hH hl c0 fc_X9 fL_X9_simplify ql_RL_47 qi_yX9_simplify qv_yX9_simplify (x_simplify l hlt G _ _ a hB z1 (by omega)) rfl rfl (Nat.le_of_ble_eq_true rfl) ⟨Nat.le_of_ble_eq_true rfl, Nat.le_of_ble_eq_true rfl⟩ ⟨by show _ ≤ (1 : Nat); omega, by show _ ≤ (6 : Nat); omega⟩ dL_simplify_4 (fun E9 ce q9 M1 H1 locs1 hp hH hz1 hcell hv9 hcl9 => ?_) ?_
  · obtain ⟨rfl, hM9⟩ := hp
    rw [hM9] at hH
    refine vx_catch (own := RL) (name := "java/lang/IndexOutOfBoundsException") E.2.2.2.1 [] (⟨0, 9, 12, 25⟩ : ExceptionTableEntry) [] (by rw [hxt]; rfl) (fun z hz9 => absurd hz9 List.not_mem_nil) (by decide) (by decide) (E.2.2.2.2 _ ql_RL_25) (E.2.2.2.2 _ qk_IOB_IOB) hcell hv9 hcl9 ?_
    refine lv_astore_n (lv' := [(3, .ref q9), (0, .ref a), (1, .int (iI z1)), (2, .ref (a + 385))]) E.1 E.2.1 dL_simplify_12 rfl hl (by decide) rfl (fun ls hl => ?_)
    refine lv_iconst (v := iI 1) E.1 E.2.1 dL_simplify_13 (by decide) ?_
    refine W.widen (k := 1) (n := 6) (by omega) (by omega) ?_
    refine fw_iret E hr hlk hH ?_ dL_simplify_14
    exact ⟨rfl, fun h => absurd h (by decide), fun q hq hq2 => rfl⟩
  · exact fun v M1 H1 locs1 hp => hp.elim
theorem fW_size : fw_L1 yL_size cL_size 4 (some .int) [(0, 9, 12, 25)] 3 := ⟨qn_RL, qw_yL_size, by decide +kernel, by decide +kernel, by decide +kernel⟩
theorem w_size (l : Launch) (hlt : l.stackTraces = false) (G : fw_G) (M : fw_M) (N : Nat) (a : Nat) (hB : bn0 G M a) (w : Nat → Int64) (ho : M (a + 385) = some (fJ G 1 w)) (z1 : Int) (hz1 : -2147483648 ≤ z1 ∧ z1 < 2147483648) : fwW l yL_size cL_size 4 (some .int) [(0, 9, 12, 25)] 9 220 1 6 G M N [.ref a, .int (iI z1), .ref (a + 385)] (fw_pi (fun r M1 n1 => r = iI (1) ∧ (1 = 0 → ∃ g, M1 (a + 385) = some (fJ G 1 g) ∧ g 0 = (iI (0)).toInt64) ∧ (∀ q, a + 378 ≤ q → q ≠ a + 385 → M1 q = M q))) := by
  refine fw_metW RL rfl (by decide +kernel) (Nat.le_of_ble_eq_true rfl) qw_yL_size ?_
  intro p e s m args below meth c ls E hr hlk hxt hK hH hz hl
  obtain ⟨hb, c0, _, _, _, _, _, _, _, _, _, _, _, _, _, _, _, _, _, _⟩ := hB.c
  refine lv_aload_n E.1 E.2.1 dL_size_0 rfl (lv_at hl 2 rfl) ?_
  refine lv_iconst (v := iI 0) E.1 E.2.1 dL_size_1 (by decide) ?_
  refine lv_aload_n E.1 E.2.1 dL_size_2 rfl (lv_at hl 0 rfl) ?_
  refine lv_iload_n E.1 E.2.1 dL_size_3 rfl (lv_at hl 1 rfl) ?_
  refine fx_cV (As := [.int (iI z1)]) (rest := [.int (iI 0), .ref (a + 385)]) E hK hH hl c0 fc_X9 fL_X9_size ql_RL_65 qi_yX9_size qv_yX9_size (x_size l hlt G _ _ a hB z1 (by omega)) rfl rfl (Nat.le_of_ble_eq_true rfl) ⟨Nat.le_of_ble_eq_true rfl, Nat.le_of_ble_eq_true rfl⟩ ⟨by show _ ≤ (1 : Nat); omega, by show _ ≤ (6 : Nat); omega⟩ dL_size_4 (fun E9 ce q9 M1 H1 locs1 hp hH hz1 hcell hv9 hcl9 => ?_) ?_
  · obtain ⟨rfl, hM9⟩ := hp
    rw [hM9] at hH
    refine vx_catch (own := RL) (name := "java/lang/IndexOutOfBoundsException") E.2.2.2.1 [] (⟨0, 9, 12, 25⟩ : ExceptionTableEntry) [] (by rw [hxt]; rfl) (fun z hz9 => absurd hz9 List.not_mem_nil) (by decide) (by decide) (E.2.2.2.2 _ ql_RL_25) (E.2.2.2.2 _ qk_IOB_IOB) hcell hv9 hcl9 ?_
    refine lv_astore_n (lv' := [(3, .ref q9), (0, .ref a), (1, .int (iI z1)), (2, .ref (a + 385))]) E.1 E.2.1 dL_size_12 rfl hl (by decide) rfl (fun ls hl => ?_)
    refine lv_iconst (v := iI 1) E.1 E.2.1 dL_size_13 (by decide) ?_
    refine W.widen (k := 1) (n := 6) (by omega) (by omega) ?_
    refine fw_iret E hr hlk hH ?_ dL_size_14
    exact ⟨rfl, fun h => absurd h (by decide), fun q hq hq2 => rfl⟩
  · exact fun v M1 H1 locs1 hp => hp.elim
theorem fW_depth : fw_L1 yL_depth cL_depth 4 (some .int) [(0, 9, 12, 25)] 3 := ⟨qn_RL, qw_yL_depth, by decide +kernel, by decide +kernel, by decide +kernel⟩
theorem w_depth (l : Launch) (hlt : l.stackTraces = false) (G : fw_G) (M : fw_M) (N : Nat) (a : Nat) (hB : bn0 G M a) (w : Nat → Int64) (ho : M (a + 385) = some (fJ G 1 w)) (z1 : Int) (hz1 : -2147483648 ≤ z1 ∧ z1 < 2147483648) : fwW l yL_depth cL_depth 4 (some .int) [(0, 9, 12, 25)] 9 220 1 6 G M N [.ref a, .int (iI z1), .ref (a + 385)] (fw_pi (fun r M1 n1 => r = iI (1) ∧ (1 = 0 → ∃ g, M1 (a + 385) = some (fJ G 1 g) ∧ g 0 = (iI (0)).toInt64) ∧ (∀ q, a + 378 ≤ q → q ≠ a + 385 → M1 q = M q))) := by
  refine fw_metW RL rfl (by decide +kernel) (Nat.le_of_ble_eq_true rfl) qw_yL_depth ?_
  intro p e s m args below meth c ls E hr hlk hxt hK hH hz hl
  obtain ⟨hb, c0, _, _, _, _, _, _, _, _, _, _, _, _, _, _, _, _, _, _⟩ := hB.c
  refine lv_aload_n E.1 E.2.1 dL_depth_0 rfl (lv_at hl 2 rfl) ?_
  refine lv_iconst (v := iI 0) E.1 E.2.1 dL_depth_1 (by decide) ?_
  refine lv_aload_n E.1 E.2.1 dL_depth_2 rfl (lv_at hl 0 rfl) ?_
  refine lv_iload_n E.1 E.2.1 dL_depth_3 rfl (lv_at hl 1 rfl) ?_
  refine fx_cV (As := [.int (iI z1)]) (rest := [.int (iI 0), .ref (a + 385)]) E hK hH hl c0 fc_X9 fL_X9_depth ql_RL_68 qi_yX9_depth qv_yX9_depth (x_depth l hlt G _ _ a hB z1 (by omega)) rfl rfl (Nat.le_of_ble_eq_true rfl) ⟨Nat.le_of_ble_eq_true rfl, Nat.le_of_ble_eq_true rfl⟩ ⟨by show _ ≤ (1 : Nat); omega, by show _ ≤ (6 : Nat); omega⟩ dL_depth_4 (fun E9 ce q9 M1 H1 locs1 hp hH hz1 hcell hv9 hcl9 => ?_) ?_
  · obtain ⟨rfl, hM9⟩ := hp
    rw [hM9] at hH
    refine vx_catch (own := RL) (name := "java/lang/IndexOutOfBoundsException") E.2.2.2.1 [] (⟨0, 9, 12, 25⟩ : ExceptionTableEntry) [] (by rw [hxt]; rfl) (fun z hz9 => absurd hz9 List.not_mem_nil) (by decide) (by decide) (E.2.2.2.2 _ ql_RL_25) (E.2.2.2.2 _ qk_IOB_IOB) hcell hv9 hcl9 ?_
    refine lv_astore_n (lv' := [(3, .ref q9), (0, .ref a), (1, .int (iI z1)), (2, .ref (a + 385))]) E.1 E.2.1 dL_depth_12 rfl hl (by decide) rfl (fun ls hl => ?_)
    refine lv_iconst (v := iI 1) E.1 E.2.1 dL_depth_13 (by decide) ?_
    refine W.widen (k := 1) (n := 6) (by omega) (by omega) ?_
    refine fw_iret E hr hlk hH ?_ dL_depth_14
    exact ⟨rfl, fun h => absurd h (by decide), fun q hq hq2 => rfl⟩
  · exact fun v M1 H1 locs1 hp => hp.elim
theorem fW_codeAt : fw_L1 yL_codeAt cL_codeAt 5 (some .int) [(0, 10, 13, 25)] 4 := ⟨qn_RL, qw_yL_codeAt, by decide +kernel, by decide +kernel, by decide +kernel⟩
theorem w_codeAt (l : Launch) (hlt : l.stackTraces = false) (G : fw_G) (M : fw_M) (N : Nat) (a : Nat) (hB : bn0 G M a) (w : Nat → Int64) (ho : M (a + 385) = some (fJ G 1 w)) (z1 z2 : Int) (hz1 : -2147483648 ≤ z1 ∧ z1 < 2147483648) (hz2 : -2147483648 ≤ z2 ∧ z2 < 2147483648) : fwW l yL_codeAt cL_codeAt 5 (some .int) [(0, 10, 13, 25)] 9 220 1 6 G M N [.ref a, .int (iI z1), .int (iI z2), .ref (a + 385)] (fw_pi (fun r M1 n1 => r = iI (1) ∧ (1 = 0 → ∃ g, M1 (a + 385) = some (fJ G 1 g) ∧ g 0 = (iI (0)).toInt64) ∧ (∀ q, a + 378 ≤ q → q ≠ a + 385 → M1 q = M q))) := by
  refine fw_metW RL rfl (by decide +kernel) (Nat.le_of_ble_eq_true rfl) qw_yL_codeAt ?_
  intro p e s m args below meth c ls E hr hlk hxt hK hH hz hl
  obtain ⟨hb, c0, _, _, _, _, _, _, _, _, _, _, _, _, _, _, _, _, _, _⟩ := hB.c
  refine lv_aload_n E.1 E.2.1 dL_codeAt_0 rfl (lv_at hl 3 rfl) ?_
  refine lv_iconst (v := iI 0) E.1 E.2.1 dL_codeAt_1 (by decide) ?_
  refine lv_aload_n E.1 E.2.1 dL_codeAt_2 rfl (lv_at hl 0 rfl) ?_
  refine lv_iload_n E.1 E.2.1 dL_codeAt_3 rfl (lv_at hl 1 rfl) ?_
  refine lv_iload_n E.1 E.2.1 dL_codeAt_4 rfl (lv_at hl 2 rfl) ?_
  refine fx_cV (As := [.int (iI z1), .int (iI z2)]) (rest := [.int (iI 0), .ref (a + 385)]) E hK hH hl c0 fc_X9 fL_X9_codeAt ql_RL_71 qi_yX9_codeAt qv_yX9_codeAt (x_codeAt l hlt G _ _ a hB z1 z2 (by omega) (by omega)) rfl rfl (Nat.le_of_ble_eq_true rfl) ⟨Nat.le_of_ble_eq_true rfl, Nat.le_of_ble_eq_true rfl⟩ ⟨by show _ ≤ (1 : Nat); omega, by show _ ≤ (6 : Nat); omega⟩ dL_codeAt_5 (fun E9 ce q9 M1 H1 locs1 hp hH hz1 hcell hv9 hcl9 => ?_) ?_
  · obtain ⟨rfl, hM9⟩ := hp
    rw [hM9] at hH
    refine vx_catch (own := RL) (name := "java/lang/IndexOutOfBoundsException") E.2.2.2.1 [] (⟨0, 10, 13, 25⟩ : ExceptionTableEntry) [] (by rw [hxt]; rfl) (fun z hz9 => absurd hz9 List.not_mem_nil) (by decide) (by decide) (E.2.2.2.2 _ ql_RL_25) (E.2.2.2.2 _ qk_IOB_IOB) hcell hv9 hcl9 ?_
    refine lv_astore (lv' := [(4, .ref q9), (0, .ref a), (1, .int (iI z1)), (2, .int (iI z2)), (3, .ref (a + 385))]) E.1 E.2.1 dL_codeAt_13 hl (by decide) rfl (fun ls hl => ?_)
    refine lv_iconst (v := iI 1) E.1 E.2.1 dL_codeAt_15 (by decide) ?_
    refine W.widen (k := 1) (n := 6) (by omega) (by omega) ?_
    refine fw_iret E hr hlk hH ?_ dL_codeAt_16
    exact ⟨rfl, fun h => absurd h (by decide), fun q hq hq2 => rfl⟩
  · exact fun v M1 H1 locs1 hp => hp.elim
theorem fW_valueAt : fw_L1 yL_valueAt cL_valueAt 5 (some .int) [(0, 10, 13, 25)] 4 := ⟨qn_RL, qw_yL_valueAt, by decide +kernel, by decide +kernel, by decide +kernel⟩
theorem w_valueAt (l : Launch) (hlt : l.stackTraces = false) (G : fw_G) (M : fw_M) (N : Nat) (a : Nat) (hB : bn0 G M a) (w : Nat → Int64) (ho : M (a + 385) = some (fJ G 1 w)) (z1 z2 : Int) (hz1 : -2147483648 ≤ z1 ∧ z1 < 2147483648) (hz2 : -2147483648 ≤ z2 ∧ z2 < 2147483648) : fwW l yL_valueAt cL_valueAt 5 (some .int) [(0, 10, 13, 25)] 9 220 1 6 G M N [.ref a, .int (iI z1), .int (iI z2), .ref (a + 385)] (fw_pi (fun r M1 n1 => r = iI (1) ∧ (1 = 0 → ∃ g, M1 (a + 385) = some (fJ G 1 g) ∧ g 0 = (iI (0)).toInt64) ∧ (∀ q, a + 378 ≤ q → q ≠ a + 385 → M1 q = M q))) := by
  refine fw_metW RL rfl (by decide +kernel) (Nat.le_of_ble_eq_true rfl) qw_yL_valueAt ?_
  intro p e s m args below meth c ls E hr hlk hxt hK hH hz hl
  obtain ⟨hb, c0, _, _, _, _, _, _, _, _, _, _, _, _, _, _, _, _, _, _⟩ := hB.c
  refine lv_aload_n E.1 E.2.1 dL_valueAt_0 rfl (lv_at hl 3 rfl) ?_
  refine lv_iconst (v := iI 0) E.1 E.2.1 dL_valueAt_1 (by decide) ?_
  refine lv_aload_n E.1 E.2.1 dL_valueAt_2 rfl (lv_at hl 0 rfl) ?_
  refine lv_iload_n E.1 E.2.1 dL_valueAt_3 rfl (lv_at hl 1 rfl) ?_
  refine lv_iload_n E.1 E.2.1 dL_valueAt_4 rfl (lv_at hl 2 rfl) ?_
  refine fx_cV (As := [.int (iI z1), .int (iI z2)]) (rest := [.int (iI 0), .ref (a + 385)]) E hK hH hl c0 fc_X9 fL_X9_valueAt ql_RL_74 qi_yX9_valueAt qv_yX9_valueAt (x_valueAt l hlt G _ _ a hB z1 z2 (by omega) (by omega)) rfl rfl (Nat.le_of_ble_eq_true rfl) ⟨Nat.le_of_ble_eq_true rfl, Nat.le_of_ble_eq_true rfl⟩ ⟨by show _ ≤ (1 : Nat); omega, by show _ ≤ (6 : Nat); omega⟩ dL_valueAt_5 (fun E9 ce q9 M1 H1 locs1 hp hH hz1 hcell hv9 hcl9 => ?_) ?_
  · obtain ⟨rfl, hM9⟩ := hp
    rw [hM9] at hH
    refine vx_catch (own := RL) (name := "java/lang/IndexOutOfBoundsException") E.2.2.2.1 [] (⟨0, 10, 13, 25⟩ : ExceptionTableEntry) [] (by rw [hxt]; rfl) (fun z hz9 => absurd hz9 List.not_mem_nil) (by decide) (by decide) (E.2.2.2.2 _ ql_RL_25) (E.2.2.2.2 _ qk_IOB_IOB) hcell hv9 hcl9 ?_
    refine lv_astore (lv' := [(4, .ref q9), (0, .ref a), (1, .int (iI z1)), (2, .int (iI z2)), (3, .ref (a + 385))]) E.1 E.2.1 dL_valueAt_13 hl (by decide) rfl (fun ls hl => ?_)
    refine lv_iconst (v := iI 1) E.1 E.2.1 dL_valueAt_15 (by decide) ?_
    refine W.widen (k := 1) (n := 6) (by omega) (by omega) ?_
    refine fw_iret E hr hlk hH ?_ dL_valueAt_16
    exact ⟨rfl, fun h => absurd h (by decide), fun q hq hq2 => rfl⟩
  · exact fun v M1 H1 locs1 hp => hp.elim
theorem fW_sizeAt : fw_L1 yL_sizeAt cL_sizeAt 5 (some .int) [(0, 10, 13, 25)] 4 := ⟨qn_RL, qw_yL_sizeAt, by decide +kernel, by decide +kernel, by decide +kernel⟩
theorem w_sizeAt (l : Launch) (hlt : l.stackTraces = false) (G : fw_G) (M : fw_M) (N : Nat) (a : Nat) (hB : bn0 G M a) (w : Nat → Int64) (ho : M (a + 385) = some (fJ G 1 w)) (z1 z2 : Int) (hz1 : -2147483648 ≤ z1 ∧ z1 < 2147483648) (hz2 : -2147483648 ≤ z2 ∧ z2 < 2147483648) : fwW l yL_sizeAt cL_sizeAt 5 (some .int) [(0, 10, 13, 25)] 9 220 1 6 G M N [.ref a, .int (iI z1), .int (iI z2), .ref (a + 385)] (fw_pi (fun r M1 n1 => r = iI (1) ∧ (1 = 0 → ∃ g, M1 (a + 385) = some (fJ G 1 g) ∧ g 0 = (iI (0)).toInt64) ∧ (∀ q, a + 378 ≤ q → q ≠ a + 385 → M1 q = M q))) := by
  refine fw_metW RL rfl (by decide +kernel) (Nat.le_of_ble_eq_true rfl) qw_yL_sizeAt ?_
  intro p e s m args below meth c ls E hr hlk hxt hK hH hz hl
  obtain ⟨hb, c0, _, _, _, _, _, _, _, _, _, _, _, _, _, _, _, _, _, _⟩ := hB.c
  refine lv_aload_n E.1 E.2.1 dL_sizeAt_0 rfl (lv_at hl 3 rfl) ?_
  refine lv_iconst (v := iI 0) E.1 E.2.1 dL_sizeAt_1 (by decide) ?_
  refine lv_aload_n E.1 E.2.1 dL_sizeAt_2 rfl (lv_at hl 0 rfl) ?_
  refine lv_iload_n E.1 E.2.1 dL_sizeAt_3 rfl (lv_at hl 1 rfl) ?_
  refine lv_iload_n E.1 E.2.1 dL_sizeAt_4 rfl (lv_at hl 2 rfl) ?_
  refine fx_cV (As := [.int (iI z1), .int (iI z2)]) (rest := [.int (iI 0), .ref (a + 385)]) E hK hH hl c0 fc_X9 fL_X9_sizeAt ql_RL_77 qi_yX9_sizeAt qv_yX9_sizeAt (x_sizeAt l hlt G _ _ a hB z1 z2 (by omega) (by omega)) rfl rfl (Nat.le_of_ble_eq_true rfl) ⟨Nat.le_of_ble_eq_true rfl, Nat.le_of_ble_eq_true rfl⟩ ⟨by show _ ≤ (1 : Nat); omega, by show _ ≤ (6 : Nat); omega⟩ dL_sizeAt_5 (fun E9 ce q9 M1 H1 locs1 hp hH hz1 hcell hv9 hcl9 => ?_) ?_
  · obtain ⟨rfl, hM9⟩ := hp
    rw [hM9] at hH
    refine vx_catch (own := RL) (name := "java/lang/IndexOutOfBoundsException") E.2.2.2.1 [] (⟨0, 10, 13, 25⟩ : ExceptionTableEntry) [] (by rw [hxt]; rfl) (fun z hz9 => absurd hz9 List.not_mem_nil) (by decide) (by decide) (E.2.2.2.2 _ ql_RL_25) (E.2.2.2.2 _ qk_IOB_IOB) hcell hv9 hcl9 ?_
    refine lv_astore (lv' := [(4, .ref q9), (0, .ref a), (1, .int (iI z1)), (2, .int (iI z2)), (3, .ref (a + 385))]) E.1 E.2.1 dL_sizeAt_13 hl (by decide) rfl (fun ls hl => ?_)
    refine lv_iconst (v := iI 1) E.1 E.2.1 dL_sizeAt_15 (by decide) ?_
    refine W.widen (k := 1) (n := 6) (by omega) (by omega) ?_
    refine fw_iret E hr hlk hH ?_ dL_sizeAt_16
    exact ⟨rfl, fun h => absurd h (by decide), fun q hq hq2 => rfl⟩
  · exact fun v M1 H1 locs1 hp => hp.elim
theorem fW_above : fw_L1 yL_above cL_above 5 (some .int) [(0, 10, 13, 25)] 4 := ⟨qn_RL, qw_yL_above, by decide +kernel, by decide +kernel, by decide +kernel⟩
theorem w_above (l : Launch) (hlt : l.stackTraces = false) (G : fw_G) (M : fw_M) (N : Nat) (a : Nat) (hB : bn0 G M a) (w : Nat → Int64) (ho : M (a + 385) = some (fJ G 1 w)) (z1 z2 : Int) (hz1 : -2147483648 ≤ z1 ∧ z1 < 2147483648) (hz2 : -2147483648 ≤ z2 ∧ z2 < 2147483648) : fwW l yL_above cL_above 5 (some .int) [(0, 10, 13, 25)] 9 220 1 6 G M N [.ref a, .int (iI z1), .int (iI z2), .ref (a + 385)] (fw_pi (fun r M1 n1 => r = iI (1) ∧ (1 = 0 → ∃ g, M1 (a + 385) = some (fJ G 1 g) ∧ g 0 = (iI (0)).toInt64) ∧ (∀ q, a + 378 ≤ q → q ≠ a + 385 → M1 q = M q))) := by
  refine fw_metW RL rfl (by decide +kernel) (Nat.le_of_ble_eq_true rfl) qw_yL_above ?_
  intro p e s m args below meth c ls E hr hlk hxt hK hH hz hl
  obtain ⟨hb, c0, _, _, _, _, _, _, _, _, _, _, _, _, _, _, _, _, _, _⟩ := hB.c
  refine lv_aload_n E.1 E.2.1 dL_above_0 rfl (lv_at hl 3 rfl) ?_
  refine lv_iconst (v := iI 0) E.1 E.2.1 dL_above_1 (by decide) ?_
  refine lv_aload_n E.1 E.2.1 dL_above_2 rfl (lv_at hl 0 rfl) ?_
  refine lv_iload_n E.1 E.2.1 dL_above_3 rfl (lv_at hl 1 rfl) ?_
  refine lv_iload_n E.1 E.2.1 dL_above_4 rfl (lv_at hl 2 rfl) ?_
  refine fx_cV (As := [.int (iI z1), .int (iI z2)]) (rest := [.int (iI 0), .ref (a + 385)]) E hK hH hl c0 fc_X9 fL_X9_above ql_RL_80 qi_yX9_above qv_yX9_above (x_above l hlt G _ _ a hB z1 z2 (by omega) (by omega)) rfl rfl (Nat.le_of_ble_eq_true rfl) ⟨Nat.le_of_ble_eq_true rfl, Nat.le_of_ble_eq_true rfl⟩ ⟨by show _ ≤ (1 : Nat); omega, by show _ ≤ (6 : Nat); omega⟩ dL_above_5 (fun E9 ce q9 M1 H1 locs1 hp hH hz1 hcell hv9 hcl9 => ?_) ?_
  · obtain ⟨rfl, hM9⟩ := hp
    rw [hM9] at hH
    refine vx_catch (own := RL) (name := "java/lang/IndexOutOfBoundsException") E.2.2.2.1 [] (⟨0, 10, 13, 25⟩ : ExceptionTableEntry) [] (by rw [hxt]; rfl) (fun z hz9 => absurd hz9 List.not_mem_nil) (by decide) (by decide) (E.2.2.2.2 _ ql_RL_25) (E.2.2.2.2 _ qk_IOB_IOB) hcell hv9 hcl9 ?_
    refine lv_astore (lv' := [(4, .ref q9), (0, .ref a), (1, .int (iI z1)), (2, .int (iI z2)), (3, .ref (a + 385))]) E.1 E.2.1 dL_above_13 hl (by decide) rfl (fun ls hl => ?_)
    refine lv_iconst (v := iI 1) E.1 E.2.1 dL_above_15 (by decide) ?_
    refine W.widen (k := 1) (n := 6) (by omega) (by omega) ?_
    refine fw_iret E hr hlk hH ?_ dL_above_16
    exact ⟨rfl, fun h => absurd h (by decide), fun q hq hq2 => rfl⟩
  · exact fun v M1 H1 locs1 hp => hp.elim
theorem fW_gives : fw_L1 yL_gives cL_gives 7 (some .int) [(0, 14, 17, 25), (0, 14, 21, 13)] 6 := ⟨qn_RL, qw_yL_gives, by decide +kernel, by decide +kernel, by decide +kernel⟩
theorem w_gives (l : Launch) (hlt : l.stackTraces = false) (G : fw_G) (M : fw_M) (N : Nat) (a : Nat) (hB : bn0 G M a) (w : Nat → Int64) (ho : M (a + 385) = some (fJ G 1 w)) (z1 z2 z3 z4 : Int) (hz1 : -2147483648 ≤ z1 ∧ z1 < 2147483648) (hz2 : -2147483648 ≤ z2 ∧ z2 < 2147483648) (hz3 : -2147483648 ≤ z3 ∧ z3 < 2147483648) (hz4 : -2147483648 ≤ z4 ∧ z4 < 2147483648) : fwW l yL_gives cL_gives 7 (some .int) [(0, 14, 17, 25), (0, 14, 21, 13)] 9 220 1 6 G M N [.ref a, .int (iI z1), .int (iI z2), .int (iI z3), .int (iI z4), .ref (a + 385)] (fw_pi (fun r M1 n1 => r = iI (1) ∧ (1 = 0 → ∃ g, M1 (a + 385) = some (fJ G 1 g) ∧ g 0 = (iI (0)).toInt64) ∧ (∀ q, a + 378 ≤ q → q ≠ a + 385 → M1 q = M q))) := by
  refine fw_metW RL rfl (by decide +kernel) (Nat.le_of_ble_eq_true rfl) qw_yL_gives ?_
  intro p e s m args below meth c ls E hr hlk hxt hK hH hz hl
  obtain ⟨hb, c0, _, _, _, _, _, _, _, _, _, _, _, _, _, _, _, _, _, _⟩ := hB.c
  refine lv_aload E.1 E.2.1 dL_gives_0 (lv_at hl 5 rfl) ?_
  refine lv_iconst (v := iI 0) E.1 E.2.1 dL_gives_2 (by decide) ?_
  refine lv_aload_n E.1 E.2.1 dL_gives_3 rfl (lv_at hl 0 rfl) ?_
  refine lv_iload_n E.1 E.2.1 dL_gives_4 rfl (lv_at hl 1 rfl) ?_
  refine lv_iload_n E.1 E.2.1 dL_gives_5 rfl (lv_at hl 2 rfl) ?_
  refine lv_iload_n E.1 E.2.1 dL_gives_6 rfl (lv_at hl 3 rfl) ?_
  refine lv_iload E.1 E.2.1 dL_gives_7 (lv_at hl 4 rfl) ?_
  refine fx_cV (As := [.int (iI z1), .int (iI z2), .int (iI z3), .int (iI z4)]) (rest := [.int (iI 0), .ref (a + 385)]) E hK hH hl c0 fc_X9 fL_X9_gives ql_RL_83 qi_yX9_gives qv_yX9_gives (x_gives l hlt G _ _ a hB z1 z2 z3 z4 (by omega) (by omega) (by omega) (by omega)) rfl rfl (Nat.le_of_ble_eq_true rfl) ⟨Nat.le_of_ble_eq_true rfl, Nat.le_of_ble_eq_true rfl⟩ ⟨by show _ ≤ (1 : Nat); omega, by show _ ≤ (6 : Nat); omega⟩ dL_gives_9 (fun E9 ce q9 M1 H1 locs1 hp hH hz1 hcell hv9 hcl9 => ?_) ?_
  · obtain ⟨rfl, hM9⟩ := hp
    rw [hM9] at hH
    refine vx_catch (own := RL) (name := "java/lang/IndexOutOfBoundsException") E.2.2.2.1 [] (⟨0, 14, 17, 25⟩ : ExceptionTableEntry) [(⟨0, 14, 21, 13⟩ : ExceptionTableEntry)] (by rw [hxt]; rfl) (fun z hz9 => absurd hz9 List.not_mem_nil) (by decide) (by decide) (E.2.2.2.2 _ ql_RL_25) (E.2.2.2.2 _ qk_IOB_IOB) hcell hv9 hcl9 ?_
    refine lv_astore (lv' := [(6, .ref q9), (0, .ref a), (1, .int (iI z1)), (2, .int (iI z2)), (3, .int (iI z3)), (4, .int (iI z4)), (5, .ref (a + 385))]) E.1 E.2.1 dL_gives_17 hl (by decide) rfl (fun ls hl => ?_)
    refine lv_iconst (v := iI 1) E.1 E.2.1 dL_gives_19 (by decide) ?_
    refine W.widen (k := 1) (n := 6) (by omega) (by omega) ?_
    refine fw_iret E hr hlk hH ?_ dL_gives_20
    exact ⟨rfl, fun h => absurd h (by decide), fun q hq hq2 => rfl⟩
  · exact fun v M1 H1 locs1 hp => hp.elim
theorem fW_error : fw_L1 yL_error cL_error 4 (some .int) [(0, 9, 12, 25)] 3 := ⟨qn_RL, qw_yL_error, by decide +kernel, by decide +kernel, by decide +kernel⟩
theorem w_error (l : Launch) (hlt : l.stackTraces = false) (G : fw_G) (M : fw_M) (N : Nat) (a : Nat) (hB : bn0 G M a) (w : Nat → Int64) (ho : M (a + 385) = some (fJ G 1 w)) (z1 : Int) (hz1 : -2147483648 ≤ z1 ∧ z1 < 2147483648) : fwW l yL_error cL_error 4 (some .int) [(0, 9, 12, 25)] 9 220 1 6 G M N [.ref a, .int (iI z1), .ref (a + 385)] (fw_pi (fun r M1 n1 => r = iI (1) ∧ (1 = 0 → ∃ g, M1 (a + 385) = some (fJ G 1 g) ∧ g 0 = (iI (0)).toInt64) ∧ (∀ q, a + 378 ≤ q → q ≠ a + 385 → M1 q = M q))) := by
  refine fw_metW RL rfl (by decide +kernel) (Nat.le_of_ble_eq_true rfl) qw_yL_error ?_
  intro p e s m args below meth c ls E hr hlk hxt hK hH hz hl
  obtain ⟨hb, c0, _, _, _, _, _, _, _, _, _, _, _, _, _, _, _, _, _, _⟩ := hB.c
  refine lv_aload_n E.1 E.2.1 dL_error_0 rfl (lv_at hl 2 rfl) ?_
  refine lv_iconst (v := iI 0) E.1 E.2.1 dL_error_1 (by decide) ?_
  refine lv_aload_n E.1 E.2.1 dL_error_2 rfl (lv_at hl 0 rfl) ?_
  refine lv_iload_n E.1 E.2.1 dL_error_3 rfl (lv_at hl 1 rfl) ?_
  refine fx_cV (As := [.int (iI z1)]) (rest := [.int (iI 0), .ref (a + 385)]) E hK hH hl c0 fc_X9 fL_X9_error ql_RL_86 qi_yX9_error qv_yX9_error (x_error l hlt G _ _ a hB z1 (by omega)) rfl rfl (Nat.le_of_ble_eq_true rfl) ⟨Nat.le_of_ble_eq_true rfl, Nat.le_of_ble_eq_true rfl⟩ ⟨by show _ ≤ (1 : Nat); omega, by show _ ≤ (6 : Nat); omega⟩ dL_error_4 (fun E9 ce q9 M1 H1 locs1 hp hH hz1 hcell hv9 hcl9 => ?_) ?_
  · obtain ⟨rfl, hM9⟩ := hp
    rw [hM9] at hH
    refine vx_catch (own := RL) (name := "java/lang/IndexOutOfBoundsException") E.2.2.2.1 [] (⟨0, 9, 12, 25⟩ : ExceptionTableEntry) [] (by rw [hxt]; rfl) (fun z hz9 => absurd hz9 List.not_mem_nil) (by decide) (by decide) (E.2.2.2.2 _ ql_RL_25) (E.2.2.2.2 _ qk_IOB_IOB) hcell hv9 hcl9 ?_
    refine lv_astore_n (lv' := [(3, .ref q9), (0, .ref a), (1, .int (iI z1)), (2, .ref (a + 385))]) E.1 E.2.1 dL_error_12 rfl hl (by decide) rfl (fun ls hl => ?_)
    refine lv_iconst (v := iI 1) E.1 E.2.1 dL_error_13 (by decide) ?_
    refine W.widen (k := 1) (n := 6) (by omega) (by omega) ?_
    refine fw_iret E hr hlk hH ?_ dL_error_14
    exact ⟨rfl, fun h => absurd h (by decide), fun q hq hq2 => rfl⟩
  · exact fun v M1 H1 locs1 hp => hp.elim
theorem fW_merit : fw_L1 yL_merit cL_merit 4 (some .int) [(0, 9, 12, 25)] 3 := ⟨qn_RL, qw_yL_merit, by decide +kernel, by decide +kernel, by decide +kernel⟩
theorem w_merit (l : Launch) (hlt : l.stackTraces = false) (G : fw_G) (M : fw_M) (N : Nat) (a : Nat) (hB : bn0 G M a) (w : Nat → Int64) (ho : M (a + 385) = some (fJ G 1 w)) (z1 : Int) (hz1 : -2147483648 ≤ z1 ∧ z1 < 2147483648) : fwW l yL_merit cL_merit 4 (some .int) [(0, 9, 12, 25)] 9 220 1 6 G M N [.ref a, .int (iI z1), .ref (a + 385)] (fw_pi (fun r M1 n1 => r = iI (1) ∧ (1 = 0 → ∃ g, M1 (a + 385) = some (fJ G 1 g) ∧ g 0 = (iI (0)).toInt64) ∧ (∀ q, a + 378 ≤ q → q ≠ a + 385 → M1 q = M q))) := by
  refine fw_metW RL rfl (by decide +kernel) (Nat.le_of_ble_eq_true rfl) qw_yL_merit ?_
  intro p e s m args below meth c ls E hr hlk hxt hK hH hz hl
  obtain ⟨hb, c0, _, _, _, _, _, _, _, _, _, _, _, _, _, _, _, _, _, _⟩ := hB.c
  refine lv_aload_n E.1 E.2.1 dL_merit_0 rfl (lv_at hl 2 rfl) ?_
  refine lv_iconst (v := iI 0) E.1 E.2.1 dL_merit_1 (by decide) ?_
  refine lv_aload_n E.1 E.2.1 dL_merit_2 rfl (lv_at hl 0 rfl) ?_
  refine lv_iload_n E.1 E.2.1 dL_merit_3 rfl (lv_at hl 1 rfl) ?_
  refine fx_cV (As := [.int (iI z1)]) (rest := [.int (iI 0), .ref (a + 385)]) E hK hH hl c0 fc_X9 fL_X9_merit ql_RL_89 qi_yX9_merit qv_yX9_merit (x_merit l hlt G _ _ a hB z1 (by omega)) rfl rfl (Nat.le_of_ble_eq_true rfl) ⟨Nat.le_of_ble_eq_true rfl, Nat.le_of_ble_eq_true rfl⟩ ⟨by show _ ≤ (1 : Nat); omega, by show _ ≤ (6 : Nat); omega⟩ dL_merit_4 (fun E9 ce q9 M1 H1 locs1 hp hH hz1 hcell hv9 hcl9 => ?_) ?_
  · obtain ⟨rfl, hM9⟩ := hp
    rw [hM9] at hH
    refine vx_catch (own := RL) (name := "java/lang/IndexOutOfBoundsException") E.2.2.2.1 [] (⟨0, 9, 12, 25⟩ : ExceptionTableEntry) [] (by rw [hxt]; rfl) (fun z hz9 => absurd hz9 List.not_mem_nil) (by decide) (by decide) (E.2.2.2.2 _ ql_RL_25) (E.2.2.2.2 _ qk_IOB_IOB) hcell hv9 hcl9 ?_
    refine lv_astore_n (lv' := [(3, .ref q9), (0, .ref a), (1, .int (iI z1)), (2, .ref (a + 385))]) E.1 E.2.1 dL_merit_12 rfl hl (by decide) rfl (fun ls hl => ?_)
    refine lv_iconst (v := iI 1) E.1 E.2.1 dL_merit_13 (by decide) ?_
    refine W.widen (k := 1) (n := 6) (by omega) (by omega) ?_
    refine fw_iret E hr hlk hH ?_ dL_merit_14
    exact ⟨rfl, fun h => absurd h (by decide), fun q hq hq2 => rfl⟩
  · exact fun v M1 H1 locs1 hp => hp.elim
theorem fW_hits : fw_L1 yL_hits cL_hits 4 (some .int) [(0, 9, 12, 25)] 3 := ⟨qn_RL, qw_yL_hits, by decide +kernel, by decide +kernel, by decide +kernel⟩
theorem w_hits (l : Launch) (hlt : l.stackTraces = false) (G : fw_G) (M : fw_M) (N : Nat) (a : Nat) (hB : bn0 G M a) (w : Nat → Int64) (ho : M (a + 385) = some (fJ G 1 w)) (z1 : Int) (hz1 : -2147483648 ≤ z1 ∧ z1 < 2147483648) : fwW l yL_hits cL_hits 4 (some .int) [(0, 9, 12, 25)] 9 220 1 6 G M N [.ref a, .int (iI z1), .ref (a + 385)] (fw_pi (fun r M1 n1 => r = iI (1) ∧ (1 = 0 → ∃ g, M1 (a + 385) = some (fJ G 1 g) ∧ g 0 = (iI (0)).toInt64) ∧ (∀ q, a + 378 ≤ q → q ≠ a + 385 → M1 q = M q))) := by
  refine fw_metW RL rfl (by decide +kernel) (Nat.le_of_ble_eq_true rfl) qw_yL_hits ?_
  intro p e s m args below meth c ls E hr hlk hxt hK hH hz hl
  obtain ⟨hb, c0, _, _, _, _, _, _, _, _, _, _, _, _, _, _, _, _, _, _⟩ := hB.c
  refine lv_aload_n E.1 E.2.1 dL_hits_0 rfl (lv_at hl 2 rfl) ?_
  refine lv_iconst (v := iI 0) E.1 E.2.1 dL_hits_1 (by decide) ?_
  refine lv_aload_n E.1 E.2.1 dL_hits_2 rfl (lv_at hl 0 rfl) ?_
  refine lv_iload_n E.1 E.2.1 dL_hits_3 rfl (lv_at hl 1 rfl) ?_
  refine fx_cV (As := [.int (iI z1)]) (rest := [.int (iI 0), .ref (a + 385)]) E hK hH hl c0 fc_X9 fL_X9_hits ql_RL_92 qi_yX9_hits qv_yX9_hits (x_hits l hlt G _ _ a hB z1 (by omega)) rfl rfl (Nat.le_of_ble_eq_true rfl) ⟨Nat.le_of_ble_eq_true rfl, Nat.le_of_ble_eq_true rfl⟩ ⟨by show _ ≤ (1 : Nat); omega, by show _ ≤ (6 : Nat); omega⟩ dL_hits_4 (fun E9 ce q9 M1 H1 locs1 hp hH hz1 hcell hv9 hcl9 => ?_) ?_
  · obtain ⟨rfl, hM9⟩ := hp
    rw [hM9] at hH
    refine vx_catch (own := RL) (name := "java/lang/IndexOutOfBoundsException") E.2.2.2.1 [] (⟨0, 9, 12, 25⟩ : ExceptionTableEntry) [] (by rw [hxt]; rfl) (fun z hz9 => absurd hz9 List.not_mem_nil) (by decide) (by decide) (E.2.2.2.2 _ ql_RL_25) (E.2.2.2.2 _ qk_IOB_IOB) hcell hv9 hcl9 ?_
    refine lv_astore_n (lv' := [(3, .ref q9), (0, .ref a), (1, .int (iI z1)), (2, .ref (a + 385))]) E.1 E.2.1 dL_hits_12 rfl hl (by decide) rfl (fun ls hl => ?_)
    refine lv_iconst (v := iI 1) E.1 E.2.1 dL_hits_13 (by decide) ?_
    refine W.widen (k := 1) (n := 6) (by omega) (by omega) ?_
    refine fw_iret E hr hlk hH ?_ dL_hits_14
    exact ⟨rfl, fun h => absurd h (by decide), fun q hq hq2 => rfl⟩
  · exact fun v M1 H1 locs1 hp => hp.elim
theorem fW_alike : fw_L1 yL_alike cL_alike 5 (some .int) [(0, 10, 13, 25)] 4 := ⟨qn_RL, qw_yL_alike, by decide +kernel, by decide +kernel, by decide +kernel⟩
theorem w_alike (l : Launch) (hlt : l.stackTraces = false) (G : fw_G) (M : fw_M) (N : Nat) (a : Nat) (hB : bn0 G M a) (w : Nat → Int64) (ho : M (a + 385) = some (fJ G 1 w)) (z1 z2 : Int) (hz1 : -2147483648 ≤ z1 ∧ z1 < 2147483648) (hz2 : -2147483648 ≤ z2 ∧ z2 < 2147483648) : fwW l yL_alike cL_alike 5 (some .int) [(0, 10, 13, 25)] 9 220 1 6 G M N [.ref a, .int (iI z1), .int (iI z2), .ref (a + 385)] (fw_pi (fun r M1 n1 => r = iI (1) ∧ (1 = 0 → ∃ g, M1 (a + 385) = some (fJ G 1 g) ∧ g 0 = (iI (0)).toInt64) ∧ (∀ q, a + 378 ≤ q → q ≠ a + 385 → M1 q = M q))) := by
  refine fw_metW RL rfl (by decide +kernel) (Nat.le_of_ble_eq_true rfl) qw_yL_alike ?_
  intro p e s m args below meth c ls E hr hlk hxt hK hH hz hl
  obtain ⟨hb, c0, _, _, _, _, _, _, _, _, _, _, _, _, _, _, _, _, _, _⟩ := hB.c
  refine lv_aload_n E.1 E.2.1 dL_alike_0 rfl (lv_at hl 3 rfl) ?_
  refine lv_iconst (v := iI 0) E.1 E.2.1 dL_alike_1 (by decide) ?_
  refine lv_aload_n E.1 E.2.1 dL_alike_2 rfl (lv_at hl 0 rfl) ?_
  refine lv_iload_n E.1 E.2.1 dL_alike_3 rfl (lv_at hl 1 rfl) ?_
  refine lv_iload_n E.1 E.2.1 dL_alike_4 rfl (lv_at hl 2 rfl) ?_
  refine fx_cV (As := [.int (iI z1), .int (iI z2)]) (rest := [.int (iI 0), .ref (a + 385)]) E hK hH hl c0 fc_X9 fL_X9_alike ql_RL_98 qi_yX9_alike qv_yX9_alike (x_alike l hlt G _ _ a hB z1 z2 (by omega) (by omega)) rfl rfl (Nat.le_of_ble_eq_true rfl) ⟨Nat.le_of_ble_eq_true rfl, Nat.le_of_ble_eq_true rfl⟩ ⟨by show _ ≤ (1 : Nat); omega, by show _ ≤ (6 : Nat); omega⟩ dL_alike_5 (fun E9 ce q9 M1 H1 locs1 hp hH hz1 hcell hv9 hcl9 => ?_) ?_
  · obtain ⟨rfl, hM9⟩ := hp
    rw [hM9] at hH
    refine vx_catch (own := RL) (name := "java/lang/IndexOutOfBoundsException") E.2.2.2.1 [] (⟨0, 10, 13, 25⟩ : ExceptionTableEntry) [] (by rw [hxt]; rfl) (fun z hz9 => absurd hz9 List.not_mem_nil) (by decide) (by decide) (E.2.2.2.2 _ ql_RL_25) (E.2.2.2.2 _ qk_IOB_IOB) hcell hv9 hcl9 ?_
    refine lv_astore (lv' := [(4, .ref q9), (0, .ref a), (1, .int (iI z1)), (2, .int (iI z2)), (3, .ref (a + 385))]) E.1 E.2.1 dL_alike_13 hl (by decide) rfl (fun ls hl => ?_)
    refine lv_iconst (v := iI 1) E.1 E.2.1 dL_alike_15 (by decide) ?_
    refine W.widen (k := 1) (n := 6) (by omega) (by omega) ?_
    refine fw_iret E hr hlk hH ?_ dL_alike_16
    exact ⟨rfl, fun h => absurd h (by decide), fun q hq hq2 => rfl⟩
  · exact fun v M1 H1 locs1 hp => hp.elim
theorem fW_errorCrossed : fw_L1 yL_errorCrossed cL_errorCrossed 7 (some .int) [(0, 14, 17, 25)] 6 := ⟨qn_RL, qw_yL_errorCrossed, by decide +kernel, by decide +kernel, by decide +kernel⟩
theorem w_errorCrossed (l : Launch) (hlt : l.stackTraces = false) (G : fw_G) (M : fw_M) (N : Nat) (a : Nat) (hB : bn0 G M a) (w : Nat → Int64) (ho : M (a + 385) = some (fJ G 1 w)) (z1 z2 z3 z4 : Int) (hz1 : -2147483648 ≤ z1 ∧ z1 < 2147483648) (hz2 : -2147483648 ≤ z2 ∧ z2 < 2147483648) (hz3 : -2147483648 ≤ z3 ∧ z3 < 2147483648) (hz4 : -2147483648 ≤ z4 ∧ z4 < 2147483648) : fwW l yL_errorCrossed cL_errorCrossed 7 (some .int) [(0, 14, 17, 25)] 9 220 1 6 G M N [.ref a, .int (iI z1), .int (iI z2), .int (iI z3), .int (iI z4), .ref (a + 385)] (fw_pi (fun r M1 n1 => r = iI (1) ∧ (1 = 0 → ∃ g, M1 (a + 385) = some (fJ G 1 g) ∧ g 0 = (iI (0)).toInt64) ∧ (∀ q, a + 378 ≤ q → q ≠ a + 385 → M1 q = M q))) := by
  refine fw_metW RL rfl (by decide +kernel) (Nat.le_of_ble_eq_true rfl) qw_yL_errorCrossed ?_
  intro p e s m args below meth c ls E hr hlk hxt hK hH hz hl
  obtain ⟨hb, c0, _, _, _, _, _, _, _, _, _, _, _, _, _, _, _, _, _, _⟩ := hB.c
  refine lv_aload E.1 E.2.1 dL_errorCrossed_0 (lv_at hl 5 rfl) ?_
  refine lv_iconst (v := iI 0) E.1 E.2.1 dL_errorCrossed_2 (by decide) ?_
  refine lv_aload_n E.1 E.2.1 dL_errorCrossed_3 rfl (lv_at hl 0 rfl) ?_
  refine lv_iload_n E.1 E.2.1 dL_errorCrossed_4 rfl (lv_at hl 1 rfl) ?_
  refine lv_iload_n E.1 E.2.1 dL_errorCrossed_5 rfl (lv_at hl 2 rfl) ?_
  refine lv_iload_n E.1 E.2.1 dL_errorCrossed_6 rfl (lv_at hl 3 rfl) ?_
  refine lv_iload E.1 E.2.1 dL_errorCrossed_7 (lv_at hl 4 rfl) ?_
  refine fx_cV (As := [.int (iI z1), .int (iI z2), .int (iI z3), .int (iI z4)]) (rest := [.int (iI 0), .ref (a + 385)]) E hK hH hl c0 fc_X9 fL_X9_errorCrossed ql_RL_101 qi_yX9_errorCrossed qv_yX9_errorCrossed (x_errorCrossed l hlt G _ _ a hB z1 z2 z3 z4 (by omega) (by omega) (by omega) (by omega)) rfl rfl (Nat.le_of_ble_eq_true rfl) ⟨Nat.le_of_ble_eq_true rfl, Nat.le_of_ble_eq_true rfl⟩ ⟨by show _ ≤ (1 : Nat); omega, by show _ ≤ (6 : Nat); omega⟩ dL_errorCrossed_9 (fun E9 ce q9 M1 H1 locs1 hp hH hz1 hcell hv9 hcl9 => ?_) ?_
  · obtain ⟨rfl, hM9⟩ := hp
    rw [hM9] at hH
    refine vx_catch (own := RL) (name := "java/lang/IndexOutOfBoundsException") E.2.2.2.1 [] (⟨0, 14, 17, 25⟩ : ExceptionTableEntry) [] (by rw [hxt]; rfl) (fun z hz9 => absurd hz9 List.not_mem_nil) (by decide) (by decide) (E.2.2.2.2 _ ql_RL_25) (E.2.2.2.2 _ qk_IOB_IOB) hcell hv9 hcl9 ?_
    refine lv_astore (lv' := [(6, .ref q9), (0, .ref a), (1, .int (iI z1)), (2, .int (iI z2)), (3, .int (iI z3)), (4, .int (iI z4)), (5, .ref (a + 385))]) E.1 E.2.1 dL_errorCrossed_17 hl (by decide) rfl (fun ls hl => ?_)
    refine lv_iconst (v := iI 1) E.1 E.2.1 dL_errorCrossed_19 (by decide) ?_
    refine W.widen (k := 1) (n := 6) (by omega) (by omega) ?_
    refine fw_iret E hr hlk hH ?_ dL_errorCrossed_20
    exact ⟨rfl, fun h => absurd h (by decide), fun q hq hq2 => rfl⟩
  · exact fun v M1 H1 locs1 hp => hp.elim
theorem fW_bestHoist : fw_L1 yL_bestHoist cL_bestHoist 4 (some .int) [(0, 9, 12, 25)] 3 := ⟨qn_RL, qw_yL_bestHoist, by decide +kernel, by decide +kernel, by decide +kernel⟩
theorem w_bestHoist (l : Launch) (hlt : l.stackTraces = false) (G : fw_G) (M : fw_M) (N : Nat) (a : Nat) (hB : bn0 G M a) (w : Nat → Int64) (ho : M (a + 385) = some (fJ G 1 w)) (z1 : Int) (hz1 : -2147483648 ≤ z1 ∧ z1 < 2147483648) : fwW l yL_bestHoist cL_bestHoist 4 (some .int) [(0, 9, 12, 25)] 9 220 1 6 G M N [.ref a, .int (iI z1), .ref (a + 385)] (fw_pi (fun r M1 n1 => r = iI (1) ∧ (1 = 0 → ∃ g, M1 (a + 385) = some (fJ G 1 g) ∧ g 0 = (iI (0)).toInt64) ∧ (∀ q, a + 378 ≤ q → q ≠ a + 385 → M1 q = M q))) := by
  refine fw_metW RL rfl (by decide +kernel) (Nat.le_of_ble_eq_true rfl) qw_yL_bestHoist ?_
  intro p e s m args below meth c ls E hr hlk hxt hK hH hz hl
  obtain ⟨hb, c0, _, _, _, _, _, _, _, _, _, _, _, _, _, _, _, _, _, _⟩ := hB.c
  refine lv_aload_n E.1 E.2.1 dL_bestHoist_0 rfl (lv_at hl 2 rfl) ?_
  refine lv_iconst (v := iI 0) E.1 E.2.1 dL_bestHoist_1 (by decide) ?_
  refine lv_aload_n E.1 E.2.1 dL_bestHoist_2 rfl (lv_at hl 0 rfl) ?_
  refine lv_iload_n E.1 E.2.1 dL_bestHoist_3 rfl (lv_at hl 1 rfl) ?_
  refine fx_cV (As := [.int (iI z1)]) (rest := [.int (iI 0), .ref (a + 385)]) E hK hH hl c0 fc_X9 fL_X9_bestHoist ql_RL_104 qi_yX9_bestHoist qv_yX9_bestHoist (x_bestHoist l hlt G _ _ a hB z1 (by omega)) rfl rfl (Nat.le_of_ble_eq_true rfl) ⟨Nat.le_of_ble_eq_true rfl, Nat.le_of_ble_eq_true rfl⟩ ⟨by show _ ≤ (1 : Nat); omega, by show _ ≤ (6 : Nat); omega⟩ dL_bestHoist_4 (fun E9 ce q9 M1 H1 locs1 hp hH hz1 hcell hv9 hcl9 => ?_) ?_
  · obtain ⟨rfl, hM9⟩ := hp
    rw [hM9] at hH
    refine vx_catch (own := RL) (name := "java/lang/IndexOutOfBoundsException") E.2.2.2.1 [] (⟨0, 9, 12, 25⟩ : ExceptionTableEntry) [] (by rw [hxt]; rfl) (fun z hz9 => absurd hz9 List.not_mem_nil) (by decide) (by decide) (E.2.2.2.2 _ ql_RL_25) (E.2.2.2.2 _ qk_IOB_IOB) hcell hv9 hcl9 ?_
    refine lv_astore_n (lv' := [(3, .ref q9), (0, .ref a), (1, .int (iI z1)), (2, .ref (a + 385))]) E.1 E.2.1 dL_bestHoist_12 rfl hl (by decide) rfl (fun ls hl => ?_)
    refine lv_iconst (v := iI 1) E.1 E.2.1 dL_bestHoist_13 (by decide) ?_
    refine W.widen (k := 1) (n := 6) (by omega) (by omega) ?_
    refine fw_iret E hr hlk hH ?_ dL_bestHoist_14
    exact ⟨rfl, fun h => absurd h (by decide), fun q hq hq2 => rfl⟩
  · exact fun v M1 H1 locs1 hp => hp.elim
theorem fW_ranked : fw_L1 yL_ranked cL_ranked 4 (some .int) [(0, 9, 12, 25)] 3 := ⟨qn_RL, qw_yL_ranked, by decide +kernel, by decide +kernel, by decide +kernel⟩
theorem w_ranked (l : Launch) (hlt : l.stackTraces = false) (G : fw_G) (M : fw_M) (N : Nat) (a : Nat) (hB : bn0 G M a) (w : Nat → Int64) (ho : M (a + 385) = some (fJ G 1 w)) (z1 : Int) (hz1 : -2147483648 ≤ z1 ∧ z1 < 2147483648) : fwW l yL_ranked cL_ranked 4 (some .int) [(0, 9, 12, 25)] 9 220 1 6 G M N [.ref a, .int (iI z1), .ref (a + 385)] (fw_pi (fun r M1 n1 => r = iI (1) ∧ (1 = 0 → ∃ g, M1 (a + 385) = some (fJ G 1 g) ∧ g 0 = (iI (0)).toInt64) ∧ (∀ q, a + 378 ≤ q → q ≠ a + 385 → M1 q = M q))) := by
  refine fw_metW RL rfl (by decide +kernel) (Nat.le_of_ble_eq_true rfl) qw_yL_ranked ?_
  intro p e s m args below meth c ls E hr hlk hxt hK hH hz hl
  obtain ⟨hb, c0, _, _, _, _, _, _, _, _, _, _, _, _, _, _, _, _, _, _⟩ := hB.c
  refine lv_aload_n E.1 E.2.1 dL_ranked_0 rfl (lv_at hl 2 rfl) ?_
  refine lv_iconst (v := iI 0) E.1 E.2.1 dL_ranked_1 (by decide) ?_
  refine lv_aload_n E.1 E.2.1 dL_ranked_2 rfl (lv_at hl 0 rfl) ?_
  refine lv_iload_n E.1 E.2.1 dL_ranked_3 rfl (lv_at hl 1 rfl) ?_
  refine fx_cV (As := [.int (iI z1)]) (rest := [.int (iI 0), .ref (a + 385)]) E hK hH hl c0 fc_X9 fL_X9_ranked ql_RL_95 qi_yX9_ranked qv_yX9_ranked (x_ranked l hlt G _ _ a hB z1 (by omega)) rfl rfl (Nat.le_of_ble_eq_true rfl) ⟨Nat.le_of_ble_eq_true rfl, Nat.le_of_ble_eq_true rfl⟩ ⟨by show _ ≤ (1 : Nat); omega, by show _ ≤ (6 : Nat); omega⟩ dL_ranked_4 (fun E9 ce q9 M1 H1 locs1 hp hH hz1 hcell hv9 hcl9 => ?_) ?_
  · obtain ⟨rfl, hM9⟩ := hp
    rw [hM9] at hH
    refine vx_catch (own := RL) (name := "java/lang/IndexOutOfBoundsException") E.2.2.2.1 [] (⟨0, 9, 12, 25⟩ : ExceptionTableEntry) [] (by rw [hxt]; rfl) (fun z hz9 => absurd hz9 List.not_mem_nil) (by decide) (by decide) (E.2.2.2.2 _ ql_RL_25) (E.2.2.2.2 _ qk_IOB_IOB) hcell hv9 hcl9 ?_
    refine lv_astore_n (lv' := [(3, .ref q9), (0, .ref a), (1, .int (iI z1)), (2, .ref (a + 385))]) E.1 E.2.1 dL_ranked_12 rfl hl (by decide) rfl (fun ls hl => ?_)
    refine lv_iconst (v := iI 1) E.1 E.2.1 dL_ranked_13 (by decide) ?_
    refine W.widen (k := 1) (n := 6) (by omega) (by omega) ?_
    refine fw_iret E hr hlk hH ?_ dL_ranked_14
    exact ⟨rfl, fun h => absurd h (by decide), fun q hq hq2 => rfl⟩
  · exact fun v M1 H1 locs1 hp => hp.elim
theorem fW_setWay : fw_L1 yL_setWay cL_setWay 5 (some .int) [(0, 10, 13, 13)] 4 := ⟨qn_RL, qw_yL_setWay, by decide +kernel, by decide +kernel, by decide +kernel⟩
theorem w_setWay (l : Launch) (hlt : l.stackTraces = false) (G : fw_G) (M : fw_M) (N : Nat) (a : Nat) (hB : bn0 G M a) (w : Nat → Int64) (ho : M (a + 385) = some (fJ G 1 w)) (z1 z2 : Int) (hz1 : -2147483648 ≤ z1 ∧ z1 < 2147483648) (hz2 : -2147483648 ≤ z2 ∧ z2 < 2147483648) : fwW l yL_setWay cL_setWay 5 (some .int) [(0, 10, 13, 13)] 9 220 1 6 G M N [.ref a, .int (iI z1), .int (iI z2), .ref (a + 385)] (fw_pi (fun r M1 n1 => r = iI (kS_setWay z1 z2) ∧ (kS_setWay z1 z2 = 0 → ∃ g, M1 (a + 385) = some (fJ G 1 g) ∧ g 0 = (iI (0)).toInt64) ∧ (∀ q, a + 378 ≤ q → q ≠ a + 385 → M1 q = M q))) := by
  refine fw_metW RL rfl (by decide +kernel) (Nat.le_of_ble_eq_true rfl) qw_yL_setWay ?_
  intro p e s m args below meth c ls E hr hlk hxt hK hH hz hl
  obtain ⟨hb, c0, _, _, _, _, _, _, _, _, _, _, _, _, _, _, _, _, _, _⟩ := hB.c
  refine lv_aload_n E.1 E.2.1 dL_setWay_0 rfl (lv_at hl 3 rfl) ?_
  refine lv_iconst (v := iI 0) E.1 E.2.1 dL_setWay_1 (by decide) ?_
  refine lv_aload_n E.1 E.2.1 dL_setWay_2 rfl (lv_at hl 0 rfl) ?_
  refine lv_iload_n E.1 E.2.1 dL_setWay_3 rfl (lv_at hl 1 rfl) ?_
  refine lv_iload_n E.1 E.2.1 dL_setWay_4 rfl (lv_at hl 2 rfl) ?_
  refine fx_cV (As := [.int (iI z1), .int (iI z2)]) (rest := [.int (iI 0), .ref (a + 385)]) E hK hH hl c0 fc_X9 fL_X9_setWay ql_RL_31 qi_yX9_setWay qv_yX9_setWay (x_setWay l hlt G _ _ a hB z1 z2 (by omega) (by omega)) rfl rfl (Nat.le_of_ble_eq_true rfl) ⟨Nat.le_of_ble_eq_true rfl, Nat.le_of_ble_eq_true rfl⟩ ⟨by show _ ≤ (1 : Nat); omega, by show _ ≤ (6 : Nat); omega⟩ dL_setWay_5 (fun E9 ce q9 M1 H1 locs1 hp hH hz1 hcell hv9 hcl9 => ?_) ?_
  · obtain ⟨rfl, hk, hM9⟩ := hp
    rw [hM9] at hH
    refine vx_catch (own := RL) (name := "java/lang/IllegalArgumentException") E.2.2.2.1 [] (⟨0, 10, 13, 13⟩ : ExceptionTableEntry) [] (by rw [hxt]; rfl) (fun z hz9 => absurd hz9 List.not_mem_nil) (by decide) (by decide) (E.2.2.2.2 _ ql_RL_13) (E.2.2.2.2 _ qk_IAE_IAE) hcell hv9 hcl9 ?_
    refine lv_astore (lv' := [(4, .ref q9), (0, .ref a), (1, .int (iI z1)), (2, .int (iI z2)), (3, .ref (a + 385))]) E.1 E.2.1 dL_setWay_13 hl (by decide) rfl (fun ls hl => ?_)
    refine lv_iconst (v := iI 1) E.1 E.2.1 dL_setWay_15 (by decide) ?_
    refine W.widen (k := 1) (n := 6) (by omega) (by omega) ?_
    refine fw_iret E hr hlk hH ?_ dL_setWay_16
    exact ⟨by rw [hk], fun h => absurd (hk.symm.trans h) (by decide), fun q hq hq2 => rfl⟩
  · refine fw_ki fun r MA H1 locs1 hp hH hz1 => ?_
    obtain ⟨hk, rfl, hfr⟩ := hp
    clear hz1
    replace ho : MA (a + 385) = some (fJ G 1 w) := (hfr _ (by omega)).trans ho
    refine lv_i2l (v := (iI 0).toInt64) E.1 E.2.1 dL_setWay_8 rfl ?_
    refine fw_last E hK hH (by omega) ho (iI_in (by omega) (by omega) (by omega)) dL_setWay_9 (fun H1 locs1 hH hz1 => ?_)
    clear hz1
    obtain ⟨M1, hM2⟩ : ∃ MX, MX = fw_up MA (a + 385) (fJ G 1 (vp_updL w (iI (0)).toNatClampNeg ((iI 0).toInt64))) := ⟨_, rfl⟩
    replace hH := fw_H.nm hM2 hH
    have fr3 : ∀ q, q ≠ (a + 385) → M1 q = MA q := fun q h => by rw [hM2]; exact fw_up_ne h
    have ho : M1 (a + 385) = some (fJ G 1 (vp_updL w (iI (0)).toNatClampNeg ((iI 0).toInt64))) := by rw [hM2]; exact fw_up_eq
    refine lv_goto (tgt := 17) E.1 E.2.1 dL_setWay_10 (by decide) ?_
    refine lv_iconst (v := iI 0) E.1 E.2.1 dL_setWay_17 (by decide) ?_
    refine W.widen (k := 1) (n := 6) (by omega) (by omega) ?_
    refine fw_iret E hr hlk hH ?_ dL_setWay_18
    exact ⟨by rw [hk], fun _ => ⟨_, ho, by rw [show (iI (0)).toNatClampNeg = 0 from by decide]; exact pk_uLs⟩, fun q hq hq2 => by rw [fr3 q (by omega), hfr q (by omega)]⟩
theorem fW_setRates : fw_L1 yL_setRates cL_setRates 6 (some .int) [(0, 12, 15, 13)] 5 := ⟨qn_RL, qw_yL_setRates, by decide +kernel, by decide +kernel, by decide +kernel⟩
theorem w_setRates (l : Launch) (hlt : l.stackTraces = false) (G : fw_G) (M : fw_M) (N : Nat) (a : Nat) (hB : bn0 G M a) (w : Nat → Int64) (ho : M (a + 385) = some (fJ G 1 w)) (z1 z2 z3 : Int) (hz1 : -2147483648 ≤ z1 ∧ z1 < 2147483648) (hz2 : -2147483648 ≤ z2 ∧ z2 < 2147483648) (hz3 : -2147483648 ≤ z3 ∧ z3 < 2147483648) : fwW l yL_setRates cL_setRates 6 (some .int) [(0, 12, 15, 13)] 9 220 1 6 G M N [.ref a, .int (iI z1), .int (iI z2), .int (iI z3), .ref (a + 385)] (fw_pi (fun r M1 n1 => r = iI (kS_setRates z1 z2 z3) ∧ (kS_setRates z1 z2 z3 = 0 → ∃ g, M1 (a + 385) = some (fJ G 1 g) ∧ g 0 = (iI (70)).toInt64) ∧ (∀ q, a + 378 ≤ q → q ≠ a + 385 → M1 q = M q))) := by
  refine fw_metW RL rfl (by decide +kernel) (Nat.le_of_ble_eq_true rfl) qw_yL_setRates ?_
  intro p e s m args below meth c ls E hr hlk hxt hK hH hz hl
  obtain ⟨hb, c0, _, _, _, _, _, _, _, _, _, _, _, _, _, _, _, _, _, _⟩ := hB.c
  refine lv_aload E.1 E.2.1 dL_setRates_0 (lv_at hl 4 rfl) ?_
  refine lv_iconst (v := iI 0) E.1 E.2.1 dL_setRates_2 (by decide) ?_
  refine lv_aload_n E.1 E.2.1 dL_setRates_3 rfl (lv_at hl 0 rfl) ?_
  refine lv_iload_n E.1 E.2.1 dL_setRates_4 rfl (lv_at hl 1 rfl) ?_
  refine lv_iload_n E.1 E.2.1 dL_setRates_5 rfl (lv_at hl 2 rfl) ?_
  refine lv_iload_n E.1 E.2.1 dL_setRates_6 rfl (lv_at hl 3 rfl) ?_
  refine fx_cV (As := [.int (iI z1), .int (iI z2), .int (iI z3)]) (rest := [.int (iI 0), .ref (a + 385)]) E hK hH hl c0 fc_X9 fL_X9_setRates ql_RL_50 qi_yX9_setRates qv_yX9_setRates (x_setRates l hlt G _ _ a hB z1 z2 z3 (by omega) (by omega) (by omega)) rfl rfl (Nat.le_of_ble_eq_true rfl) ⟨Nat.le_of_ble_eq_true rfl, Nat.le_of_ble_eq_true rfl⟩ ⟨by show _ ≤ (1 : Nat); omega, by show _ ≤ (6 : Nat); omega⟩ dL_setRates_7 (fun E9 ce q9 M1 H1 locs1 hp hH hz1 hcell hv9 hcl9 => ?_) ?_
  · obtain ⟨rfl, hk, hM9⟩ := hp
    rw [hM9] at hH
    refine vx_catch (own := RL) (name := "java/lang/IllegalArgumentException") E.2.2.2.1 [] (⟨0, 12, 15, 13⟩ : ExceptionTableEntry) [] (by rw [hxt]; rfl) (fun z hz9 => absurd hz9 List.not_mem_nil) (by decide) (by decide) (E.2.2.2.2 _ ql_RL_13) (E.2.2.2.2 _ qk_IAE_IAE) hcell hv9 hcl9 ?_
    refine lv_astore (lv' := [(5, .ref q9), (0, .ref a), (1, .int (iI z1)), (2, .int (iI z2)), (3, .int (iI z3)), (4, .ref (a + 385))]) E.1 E.2.1 dL_setRates_15 hl (by decide) rfl (fun ls hl => ?_)
    refine lv_iconst (v := iI 1) E.1 E.2.1 dL_setRates_17 (by decide) ?_
    refine W.widen (k := 1) (n := 6) (by omega) (by omega) ?_
    refine fw_iret E hr hlk hH ?_ dL_setRates_18
    exact ⟨by rw [hk], fun h => absurd (hk.symm.trans h) (by decide), fun q hq hq2 => rfl⟩
  · refine fw_ki fun r MA H1 locs1 hp hH hz1 => ?_
    obtain ⟨hk, rfl, hfr⟩ := hp
    clear hz1
    replace ho : MA (a + 385) = some (fJ G 1 w) := (hfr _ (by omega)).trans ho
    refine lv_i2l (v := (iI 70).toInt64) E.1 E.2.1 dL_setRates_10 rfl ?_
    refine fw_last E hK hH (by omega) ho (iI_in (by omega) (by omega) (by omega)) dL_setRates_11 (fun H1 locs1 hH hz1 => ?_)
    clear hz1
    obtain ⟨M1, hM2⟩ : ∃ MX, MX = fw_up MA (a + 385) (fJ G 1 (vp_updL w (iI (0)).toNatClampNeg ((iI 70).toInt64))) := ⟨_, rfl⟩
    replace hH := fw_H.nm hM2 hH
    have fr3 : ∀ q, q ≠ (a + 385) → M1 q = MA q := fun q h => by rw [hM2]; exact fw_up_ne h
    have ho : M1 (a + 385) = some (fJ G 1 (vp_updL w (iI (0)).toNatClampNeg ((iI 70).toInt64))) := by rw [hM2]; exact fw_up_eq
    refine lv_goto (tgt := 19) E.1 E.2.1 dL_setRates_12 (by decide) ?_
    refine lv_iconst (v := iI 0) E.1 E.2.1 dL_setRates_19 (by decide) ?_
    refine W.widen (k := 1) (n := 6) (by omega) (by omega) ?_
    refine fw_iret E hr hlk hH ?_ dL_setRates_20
    exact ⟨by rw [hk], fun _ => ⟨_, ho, by rw [show (iI (0)).toNatClampNeg = 0 from by decide]; exact pk_uLs⟩, fun q hq hq2 => by rw [fr3 q (by omega), hfr q (by omega)]⟩
theorem fW_setChoosing : fw_L1 yL_setChoosing cL_setChoosing 5 (some .int) [(0, 10, 13, 13)] 4 := ⟨qn_RL, qw_yL_setChoosing, by decide +kernel, by decide +kernel, by decide +kernel⟩
theorem w_setChoosing (l : Launch) (hlt : l.stackTraces = false) (G : fw_G) (M : fw_M) (N : Nat) (a : Nat) (hB : bn0 G M a) (w : Nat → Int64) (ho : M (a + 385) = some (fJ G 1 w)) (z1 z2 : Int) (hz1 : -2147483648 ≤ z1 ∧ z1 < 2147483648) (hz2 : -2147483648 ≤ z2 ∧ z2 < 2147483648) : fwW l yL_setChoosing cL_setChoosing 5 (some .int) [(0, 10, 13, 13)] 9 220 1 6 G M N [.ref a, .int (iI z1), .int (iI z2), .ref (a + 385)] (fw_pi (fun r M1 n1 => r = iI (kS_setChoosing z1 z2) ∧ (kS_setChoosing z1 z2 = 0 → ∃ g, M1 (a + 385) = some (fJ G 1 g) ∧ g 0 = (iI (2)).toInt64) ∧ (∀ q, a + 378 ≤ q → q ≠ a + 385 → M1 q = M q))) := by
  refine fw_metW RL rfl (by decide +kernel) (Nat.le_of_ble_eq_true rfl) qw_yL_setChoosing ?_
  intro p e s m args below meth c ls E hr hlk hxt hK hH hz hl
  obtain ⟨hb, c0, _, _, _, _, _, _, _, _, _, _, _, _, _, _, _, _, _, _⟩ := hB.c
  refine lv_aload_n E.1 E.2.1 dL_setChoosing_0 rfl (lv_at hl 3 rfl) ?_
  refine lv_iconst (v := iI 0) E.1 E.2.1 dL_setChoosing_1 (by decide) ?_
  refine lv_aload_n E.1 E.2.1 dL_setChoosing_2 rfl (lv_at hl 0 rfl) ?_
  refine lv_iload_n E.1 E.2.1 dL_setChoosing_3 rfl (lv_at hl 1 rfl) ?_
  refine lv_iload_n E.1 E.2.1 dL_setChoosing_4 rfl (lv_at hl 2 rfl) ?_
  refine fx_cV (As := [.int (iI z1), .int (iI z2)]) (rest := [.int (iI 0), .ref (a + 385)]) E hK hH hl c0 fc_X9 fL_X9_setChoosing ql_RL_53 qi_yX9_setChoosing qv_yX9_setChoosing (x_setChoosing l hlt G _ _ a hB z1 z2 (by omega) (by omega)) rfl rfl (Nat.le_of_ble_eq_true rfl) ⟨Nat.le_of_ble_eq_true rfl, Nat.le_of_ble_eq_true rfl⟩ ⟨by show _ ≤ (1 : Nat); omega, by show _ ≤ (6 : Nat); omega⟩ dL_setChoosing_5 (fun E9 ce q9 M1 H1 locs1 hp hH hz1 hcell hv9 hcl9 => ?_) ?_
  · obtain ⟨rfl, hk, hM9⟩ := hp
    rw [hM9] at hH
    refine vx_catch (own := RL) (name := "java/lang/IllegalArgumentException") E.2.2.2.1 [] (⟨0, 10, 13, 13⟩ : ExceptionTableEntry) [] (by rw [hxt]; rfl) (fun z hz9 => absurd hz9 List.not_mem_nil) (by decide) (by decide) (E.2.2.2.2 _ ql_RL_13) (E.2.2.2.2 _ qk_IAE_IAE) hcell hv9 hcl9 ?_
    refine lv_astore (lv' := [(4, .ref q9), (0, .ref a), (1, .int (iI z1)), (2, .int (iI z2)), (3, .ref (a + 385))]) E.1 E.2.1 dL_setChoosing_13 hl (by decide) rfl (fun ls hl => ?_)
    refine lv_iconst (v := iI 1) E.1 E.2.1 dL_setChoosing_15 (by decide) ?_
    refine W.widen (k := 1) (n := 6) (by omega) (by omega) ?_
    refine fw_iret E hr hlk hH ?_ dL_setChoosing_16
    exact ⟨by rw [hk], fun h => absurd (hk.symm.trans h) (by decide), fun q hq hq2 => rfl⟩
  · refine fw_ki fun r MA H1 locs1 hp hH hz1 => ?_
    obtain ⟨hk, rfl, hfr⟩ := hp
    clear hz1
    replace ho : MA (a + 385) = some (fJ G 1 w) := (hfr _ (by omega)).trans ho
    refine lv_i2l (v := (iI 2).toInt64) E.1 E.2.1 dL_setChoosing_8 rfl ?_
    refine fw_last E hK hH (by omega) ho (iI_in (by omega) (by omega) (by omega)) dL_setChoosing_9 (fun H1 locs1 hH hz1 => ?_)
    clear hz1
    obtain ⟨M1, hM2⟩ : ∃ MX, MX = fw_up MA (a + 385) (fJ G 1 (vp_updL w (iI (0)).toNatClampNeg ((iI 2).toInt64))) := ⟨_, rfl⟩
    replace hH := fw_H.nm hM2 hH
    have fr3 : ∀ q, q ≠ (a + 385) → M1 q = MA q := fun q h => by rw [hM2]; exact fw_up_ne h
    have ho : M1 (a + 385) = some (fJ G 1 (vp_updL w (iI (0)).toNatClampNeg ((iI 2).toInt64))) := by rw [hM2]; exact fw_up_eq
    refine lv_goto (tgt := 17) E.1 E.2.1 dL_setChoosing_10 (by decide) ?_
    refine lv_iconst (v := iI 0) E.1 E.2.1 dL_setChoosing_17 (by decide) ?_
    refine W.widen (k := 1) (n := 6) (by omega) (by omega) ?_
    refine fw_iret E hr hlk hH ?_ dL_setChoosing_18
    exact ⟨by rw [hk], fun _ => ⟨_, ho, by rw [show (iI (0)).toNatClampNeg = 0 from by decide]; exact pk_uLs⟩, fun q hq hq2 => by rw [fr3 q (by omega), hfr q (by omega)]⟩
theorem fW_setLuck : fw_L1 yL_setLuck cL_setLuck 4 (some .int) [(0, 9, 12, 13)] 3 := ⟨qn_RL, qw_yL_setLuck, by decide +kernel, by decide +kernel, by decide +kernel⟩
theorem w_setLuck (l : Launch) (hlt : l.stackTraces = false) (G : fw_G) (M : fw_M) (N : Nat) (a : Nat) (hB : bn0 G M a) (w : Nat → Int64) (ho : M (a + 385) = some (fJ G 1 w)) (z1 : Int) (hz1 : -2147483648 ≤ z1 ∧ z1 < 2147483648) : fwW l yL_setLuck cL_setLuck 4 (some .int) [(0, 9, 12, 13)] 9 220 1 6 G M N [.ref a, .int (iI z1), .ref (a + 385)] (fw_pi (fun r M1 n1 => r = iI (kS_setLuck z1) ∧ (kS_setLuck z1 = 0 → ∃ g, M1 (a + 385) = some (fJ G 1 g) ∧ g 0 = (iI (0)).toInt64) ∧ (∀ q, a + 378 ≤ q → q ≠ a + 385 → M1 q = M q))) := by
  refine fw_metW RL rfl (by decide +kernel) (Nat.le_of_ble_eq_true rfl) qw_yL_setLuck ?_
  intro p e s m args below meth c ls E hr hlk hxt hK hH hz hl
  obtain ⟨hb, c0, _, _, _, _, _, _, _, _, _, _, _, _, _, _, _, _, _, _⟩ := hB.c
  refine lv_aload_n E.1 E.2.1 dL_setLuck_0 rfl (lv_at hl 2 rfl) ?_
  refine lv_iconst (v := iI 0) E.1 E.2.1 dL_setLuck_1 (by decide) ?_
  refine lv_aload_n E.1 E.2.1 dL_setLuck_2 rfl (lv_at hl 0 rfl) ?_
  refine lv_iload_n E.1 E.2.1 dL_setLuck_3 rfl (lv_at hl 1 rfl) ?_
  refine fx_cV (As := [.int (iI z1)]) (rest := [.int (iI 0), .ref (a + 385)]) E hK hH hl c0 fc_X9 fL_X9_setLuck ql_RL_56 qi_yX9_setLuck qv_yX9_setLuck (x_setLuck l hlt G _ _ a hB z1 (by omega)) rfl rfl (Nat.le_of_ble_eq_true rfl) ⟨Nat.le_of_ble_eq_true rfl, Nat.le_of_ble_eq_true rfl⟩ ⟨by show _ ≤ (1 : Nat); omega, by show _ ≤ (6 : Nat); omega⟩ dL_setLuck_4 (fun E9 ce q9 M1 H1 locs1 hp hH hz1 hcell hv9 hcl9 => ?_) ?_
  · obtain ⟨rfl, hk, hM9⟩ := hp
    rw [hM9] at hH
    refine vx_catch (own := RL) (name := "java/lang/IllegalArgumentException") E.2.2.2.1 [] (⟨0, 9, 12, 13⟩ : ExceptionTableEntry) [] (by rw [hxt]; rfl) (fun z hz9 => absurd hz9 List.not_mem_nil) (by decide) (by decide) (E.2.2.2.2 _ ql_RL_13) (E.2.2.2.2 _ qk_IAE_IAE) hcell hv9 hcl9 ?_
    refine lv_astore_n (lv' := [(3, .ref q9), (0, .ref a), (1, .int (iI z1)), (2, .ref (a + 385))]) E.1 E.2.1 dL_setLuck_12 rfl hl (by decide) rfl (fun ls hl => ?_)
    refine lv_iconst (v := iI 1) E.1 E.2.1 dL_setLuck_13 (by decide) ?_
    refine W.widen (k := 1) (n := 6) (by omega) (by omega) ?_
    refine fw_iret E hr hlk hH ?_ dL_setLuck_14
    exact ⟨by rw [hk], fun h => absurd (hk.symm.trans h) (by decide), fun q hq hq2 => rfl⟩
  · refine fw_ki fun r MA H1 locs1 hp hH hz1 => ?_
    obtain ⟨hk, rfl, hfr⟩ := hp
    clear hz1
    replace ho : MA (a + 385) = some (fJ G 1 w) := (hfr _ (by omega)).trans ho
    refine lv_i2l (v := (iI 0).toInt64) E.1 E.2.1 dL_setLuck_7 rfl ?_
    refine fw_last E hK hH (by omega) ho (iI_in (by omega) (by omega) (by omega)) dL_setLuck_8 (fun H1 locs1 hH hz1 => ?_)
    clear hz1
    obtain ⟨M1, hM2⟩ : ∃ MX, MX = fw_up MA (a + 385) (fJ G 1 (vp_updL w (iI (0)).toNatClampNeg ((iI 0).toInt64))) := ⟨_, rfl⟩
    replace hH := fw_H.nm hM2 hH
    have fr3 : ∀ q, q ≠ (a + 385) → M1 q = MA q := fun q h => by rw [hM2]; exact fw_up_ne h
    have ho : M1 (a + 385) = some (fJ G 1 (vp_updL w (iI (0)).toNatClampNeg ((iI 0).toInt64))) := by rw [hM2]; exact fw_up_eq
    refine lv_goto (tgt := 15) E.1 E.2.1 dL_setLuck_9 (by decide) ?_
    refine lv_iconst (v := iI 0) E.1 E.2.1 dL_setLuck_15 (by decide) ?_
    refine W.widen (k := 1) (n := 6) (by omega) (by omega) ?_
    refine fw_iret E hr hlk hH ?_ dL_setLuck_16
    exact ⟨by rw [hk], fun _ => ⟨_, ho, by rw [show (iI (0)).toNatClampNeg = 0 from by decide]; exact pk_uLs⟩, fun q hq hq2 => by rw [fr3 q (by omega), hfr q (by omega)]⟩
theorem fW_addCase : fw_L1 yL_addCase cL_addCase 7 (some .int) [(0, 14, 17, 13), (0, 14, 21, 15)] 6 := ⟨qn_RL, qw_yL_addCase, by decide +kernel, by decide +kernel, by decide +kernel⟩
theorem w_addCase (l : Launch) (hlt : l.stackTraces = false) (G : fw_G) (M : fw_M) (N : Nat) (a : Nat) (hB : bn0 G M a) (w : Nat → Int64) (ho : M (a + 385) = some (fJ G 1 w)) (z1 z2 z3 z4 : Int) (hz1 : -2147483648 ≤ z1 ∧ z1 < 2147483648) (hz2 : -2147483648 ≤ z2 ∧ z2 < 2147483648) (hz3 : -2147483648 ≤ z3 ∧ z3 < 2147483648) (hz4 : -2147483648 ≤ z4 ∧ z4 < 2147483648) : fwW l yL_addCase cL_addCase 7 (some .int) [(0, 14, 17, 13), (0, 14, 21, 15)] 9 220 2 12 G M N [.ref a, .int (iI z1), .int (iI z2), .int (iI z3), .int (iI z4), .ref (a + 385)] (fw_pi (fun r M1 n1 => r = iI (kS_addCase z1 z2 z3 z4) ∧ (kS_addCase z1 z2 z3 z4 = 0 → ∃ g, M1 (a + 385) = some (fJ G 1 g) ∧ g 0 = (iI (0)).toInt64) ∧ (∀ q, a + 378 ≤ q → q ≠ a + 385 → M1 q = M q))) := by
  refine fw_metW RL rfl (by decide +kernel) (Nat.le_of_ble_eq_true rfl) qw_yL_addCase ?_
  intro p e s m args below meth c ls E hr hlk hxt hK hH hz hl
  obtain ⟨hb, c0, _, _, _, _, _, _, _, _, _, _, _, _, _, _, _, _, _, _⟩ := hB.c
  refine lv_aload E.1 E.2.1 dL_addCase_0 (lv_at hl 5 rfl) ?_
  refine lv_iconst (v := iI 0) E.1 E.2.1 dL_addCase_2 (by decide) ?_
  refine lv_aload_n E.1 E.2.1 dL_addCase_3 rfl (lv_at hl 0 rfl) ?_
  refine lv_iload_n E.1 E.2.1 dL_addCase_4 rfl (lv_at hl 1 rfl) ?_
  refine lv_iload_n E.1 E.2.1 dL_addCase_5 rfl (lv_at hl 2 rfl) ?_
  refine lv_iload_n E.1 E.2.1 dL_addCase_6 rfl (lv_at hl 3 rfl) ?_
  refine lv_iload E.1 E.2.1 dL_addCase_7 (lv_at hl 4 rfl) ?_
  refine fx_cV (As := [.int (iI z1), .int (iI z2), .int (iI z3), .int (iI z4)]) (rest := [.int (iI 0), .ref (a + 385)]) E hK hH hl c0 fc_X9 fL_X9_addCase ql_RL_27 qi_yX9_addCase qv_yX9_addCase (x_addCase l hlt G _ _ a hB z1 z2 z3 z4 (by omega) (by omega) (by omega) (by omega)) rfl rfl (Nat.le_of_ble_eq_true rfl) ⟨Nat.le_of_ble_eq_true rfl, Nat.le_of_ble_eq_true rfl⟩ ⟨by show _ ≤ (2 : Nat); omega, by show _ ≤ (12 : Nat); omega⟩ dL_addCase_9 (fun E9 ce q9 M1 H1 locs1 hp hH hz1 hcell hv9 hcl9 => ?_) ?_
  · obtain ⟨rfl, hk, hM9⟩ := hp
    rw [hM9] at hH
    refine vx_catch (own := RL) (name := "java/lang/IllegalArgumentException") E.2.2.2.1 [] (⟨0, 14, 17, 13⟩ : ExceptionTableEntry) [(⟨0, 14, 21, 15⟩ : ExceptionTableEntry)] (by rw [hxt]; rfl) (fun z hz9 => absurd hz9 List.not_mem_nil) (by decide) (by decide) (E.2.2.2.2 _ ql_RL_13) (E.2.2.2.2 _ qk_IAE_IAE) hcell hv9 hcl9 ?_
    refine lv_astore (lv' := [(6, .ref q9), (0, .ref a), (1, .int (iI z1)), (2, .int (iI z2)), (3, .int (iI z3)), (4, .int (iI z4)), (5, .ref (a + 385))]) E.1 E.2.1 dL_addCase_17 hl (by decide) rfl (fun ls hl => ?_)
    refine lv_iconst (v := iI 1) E.1 E.2.1 dL_addCase_19 (by decide) ?_
    refine W.widen (k := 2) (n := 12) (by omega) (by omega) ?_
    refine fw_iret E hr hlk hH ?_ dL_addCase_20
    exact ⟨by rw [hk], fun h => absurd (hk.symm.trans h) (by decide), fun q hq hq2 => rfl⟩
  · refine fw_ki fun r MA H1 locs1 hp hH hz1 => ?_
    obtain ⟨hk, rfl, hfr⟩ := hp
    clear hz1
    replace ho : MA (a + 385) = some (fJ G 1 w) := (hfr _ (by omega)).trans ho
    refine lv_i2l (v := (iI 0).toInt64) E.1 E.2.1 dL_addCase_12 rfl ?_
    refine fw_last E hK hH (by omega) ho (iI_in (by omega) (by omega) (by omega)) dL_addCase_13 (fun H1 locs1 hH hz1 => ?_)
    clear hz1
    obtain ⟨M1, hM2⟩ : ∃ MX, MX = fw_up MA (a + 385) (fJ G 1 (vp_updL w (iI (0)).toNatClampNeg ((iI 0).toInt64))) := ⟨_, rfl⟩
    replace hH := fw_H.nm hM2 hH
    have fr3 : ∀ q, q ≠ (a + 385) → M1 q = MA q := fun q h => by rw [hM2]; exact fw_up_ne h
    have ho : M1 (a + 385) = some (fJ G 1 (vp_updL w (iI (0)).toNatClampNeg ((iI 0).toInt64))) := by rw [hM2]; exact fw_up_eq
    refine lv_goto (tgt := 25) E.1 E.2.1 dL_addCase_14 (by decide) ?_
    refine lv_iconst (v := iI 0) E.1 E.2.1 dL_addCase_25 (by decide) ?_
    refine W.widen (k := 2) (n := 12) (by omega) (by omega) ?_
    refine fw_iret E hr hlk hH ?_ dL_addCase_26
    exact ⟨by rw [hk], fun _ => ⟨_, ho, by rw [show (iI (0)).toNatClampNeg = 0 from by decide]; exact pk_uLs⟩, fun q hq hq2 => by rw [fr3 q (by omega), hfr q (by omega)]⟩
theorem fW_tell : fw_L1 yL_tell cL_tell 4 (some .int) [(0, 9, 12, 13), (0, 9, 15, 15)] 3 := ⟨qn_RL, qw_yL_tell, by decide +kernel, by decide +kernel, by decide +kernel⟩
theorem w_tell (l : Launch) (hlt : l.stackTraces = false) (G : fw_G) (M : fw_M) (N : Nat) (a : Nat) (hB : bn0 G M a) (w : Nat → Int64) (ho : M (a + 385) = some (fJ G 1 w)) (z1 : Int) (hz1 : -2147483648 ≤ z1 ∧ z1 < 2147483648) : fwW l yL_tell cL_tell 4 (some .int) [(0, 9, 12, 13), (0, 9, 15, 15)] 9 220 1 6 G M N [.ref a, .int (iI z1), .ref (a + 385)] (fw_pi (fun r M1 n1 => r = iI (kS_tell z1) ∧ (kS_tell z1 = 0 → ∃ g, M1 (a + 385) = some (fJ G 1 g) ∧ g 0 = (iI (1)).toInt64) ∧ (∀ q, a + 378 ≤ q → q ≠ a + 385 → M1 q = M q))) := by
  refine fw_metW RL rfl (by decide +kernel) (Nat.le_of_ble_eq_true rfl) qw_yL_tell ?_
  intro p e s m args below meth c ls E hr hlk hxt hK hH hz hl
  obtain ⟨hb, c0, _, _, _, _, _, _, _, _, _, _, _, _, _, _, _, _, _, _⟩ := hB.c
  refine lv_aload_n E.1 E.2.1 dL_tell_0 rfl (lv_at hl 2 rfl) ?_
  refine lv_iconst (v := iI 0) E.1 E.2.1 dL_tell_1 (by decide) ?_
  refine lv_aload_n E.1 E.2.1 dL_tell_2 rfl (lv_at hl 0 rfl) ?_
  refine lv_iload_n E.1 E.2.1 dL_tell_3 rfl (lv_at hl 1 rfl) ?_
  refine fx_cV (As := [.int (iI z1)]) (rest := [.int (iI 0), .ref (a + 385)]) E hK hH hl c0 fc_X9 fL_X9_tell ql_RL_59 qi_yX9_tell qv_yX9_tell (x_tell l hlt G _ _ a hB z1 (by omega)) rfl rfl (Nat.le_of_ble_eq_true rfl) ⟨Nat.le_of_ble_eq_true rfl, Nat.le_of_ble_eq_true rfl⟩ ⟨by show _ ≤ (1 : Nat); omega, by show _ ≤ (6 : Nat); omega⟩ dL_tell_4 (fun E9 ce q9 M1 H1 locs1 hp hH hz1 hcell hv9 hcl9 => ?_) ?_
  · obtain ⟨rfl, hk, hM9⟩ := hp
    rw [hM9] at hH
    refine vx_catch (own := RL) (name := "java/lang/IllegalArgumentException") E.2.2.2.1 [] (⟨0, 9, 12, 13⟩ : ExceptionTableEntry) [(⟨0, 9, 15, 15⟩ : ExceptionTableEntry)] (by rw [hxt]; rfl) (fun z hz9 => absurd hz9 List.not_mem_nil) (by decide) (by decide) (E.2.2.2.2 _ ql_RL_13) (E.2.2.2.2 _ qk_IAE_IAE) hcell hv9 hcl9 ?_
    refine lv_astore_n (lv' := [(3, .ref q9), (0, .ref a), (1, .int (iI z1)), (2, .ref (a + 385))]) E.1 E.2.1 dL_tell_12 rfl hl (by decide) rfl (fun ls hl => ?_)
    refine lv_iconst (v := iI 1) E.1 E.2.1 dL_tell_13 (by decide) ?_
    refine W.widen (k := 1) (n := 6) (by omega) (by omega) ?_
    refine fw_iret E hr hlk hH ?_ dL_tell_14
    exact ⟨by rw [hk], fun h => absurd (hk.symm.trans h) (by decide), fun q hq hq2 => rfl⟩
  · refine fw_ki fun r MA H1 locs1 hp hH hz1 => ?_
    obtain ⟨hk, rfl, hfr⟩ := hp
    clear hz1
    replace ho : MA (a + 385) = some (fJ G 1 w) := (hfr _ (by omega)).trans ho
    refine lv_i2l (v := (iI 1).toInt64) E.1 E.2.1 dL_tell_7 rfl ?_
    refine fw_last E hK hH (by omega) ho (iI_in (by omega) (by omega) (by omega)) dL_tell_8 (fun H1 locs1 hH hz1 => ?_)
    clear hz1
    obtain ⟨M1, hM2⟩ : ∃ MX, MX = fw_up MA (a + 385) (fJ G 1 (vp_updL w (iI (0)).toNatClampNeg ((iI 1).toInt64))) := ⟨_, rfl⟩
    replace hH := fw_H.nm hM2 hH
    have fr3 : ∀ q, q ≠ (a + 385) → M1 q = MA q := fun q h => by rw [hM2]; exact fw_up_ne h
    have ho : M1 (a + 385) = some (fJ G 1 (vp_updL w (iI (0)).toNatClampNeg ((iI 1).toInt64))) := by rw [hM2]; exact fw_up_eq
    refine lv_goto (tgt := 18) E.1 E.2.1 dL_tell_9 (by decide) ?_
    refine lv_iconst (v := iI 0) E.1 E.2.1 dL_tell_18 (by decide) ?_
    refine W.widen (k := 1) (n := 6) (by omega) (by omega) ?_
    refine fw_iret E hr hlk hH ?_ dL_tell_19
    exact ⟨by rw [hk], fun _ => ⟨_, ho, by rw [show (iI (0)).toNatClampNeg = 0 from by decide]; exact pk_uLs⟩, fun q hq hq2 => by rw [fr3 q (by omega), hfr q (by omega)]⟩
theorem fW_breed : fw_L1 yL_breed cL_breed 4 (some .int) [(0, 9, 12, 13), (0, 9, 15, 15)] 3 := ⟨qn_RL, qw_yL_breed, by decide +kernel, by decide +kernel, by decide +kernel⟩
theorem w_breed (l : Launch) (hlt : l.stackTraces = false) (G : fw_G) (M : fw_M) (N : Nat) (a : Nat) (hB : bn0 G M a) (w : Nat → Int64) (ho : M (a + 385) = some (fJ G 1 w)) (z1 : Int) (hz1 : -2147483648 ≤ z1 ∧ z1 < 2147483648) : fwW l yL_breed cL_breed 4 (some .int) [(0, 9, 12, 13), (0, 9, 15, 15)] 9 220 1 6 G M N [.ref a, .int (iI z1), .ref (a + 385)] (fw_pi (fun r M1 n1 => r = iI (kS_breed z1) ∧ (kS_breed z1 = 0 → ∃ g, M1 (a + 385) = some (fJ G 1 g) ∧ g 0 = (iI (0)).toInt64) ∧ (∀ q, a + 378 ≤ q → q ≠ a + 385 → M1 q = M q))) := by
  refine fw_metW RL rfl (by decide +kernel) (Nat.le_of_ble_eq_true rfl) qw_yL_breed ?_
  intro p e s m args below meth c ls E hr hlk hxt hK hH hz hl
  obtain ⟨hb, c0, _, _, _, _, _, _, _, _, _, _, _, _, _, _, _, _, _, _⟩ := hB.c
  refine lv_aload_n E.1 E.2.1 dL_breed_0 rfl (lv_at hl 2 rfl) ?_
  refine lv_iconst (v := iI 0) E.1 E.2.1 dL_breed_1 (by decide) ?_
  refine lv_aload_n E.1 E.2.1 dL_breed_2 rfl (lv_at hl 0 rfl) ?_
  refine lv_iload_n E.1 E.2.1 dL_breed_3 rfl (lv_at hl 1 rfl) ?_
  refine fx_cV (As := [.int (iI z1)]) (rest := [.int (iI 0), .ref (a + 385)]) E hK hH hl c0 fc_X9 fL_X9_breed ql_RL_62 qi_yX9_breed qv_yX9_breed (x_breed l hlt G _ _ a hB z1 (by omega)) rfl rfl (Nat.le_of_ble_eq_true rfl) ⟨Nat.le_of_ble_eq_true rfl, Nat.le_of_ble_eq_true rfl⟩ ⟨by show _ ≤ (1 : Nat); omega, by show _ ≤ (6 : Nat); omega⟩ dL_breed_4 (fun E9 ce q9 M1 H1 locs1 hp hH hz1 hcell hv9 hcl9 => ?_) ?_
  · obtain ⟨hE, hM9⟩ := hp
    rcases hE with ⟨rfl, hk⟩ | ⟨rfl, hk⟩
    · rw [hM9] at hH
      refine vx_catch (own := RL) (name := "java/lang/IllegalArgumentException") E.2.2.2.1 [] (⟨0, 9, 12, 13⟩ : ExceptionTableEntry) [(⟨0, 9, 15, 15⟩ : ExceptionTableEntry)] (by rw [hxt]; rfl) (fun z hz9 => absurd hz9 List.not_mem_nil) (by decide) (by decide) (E.2.2.2.2 _ ql_RL_13) (E.2.2.2.2 _ qk_IAE_IAE) hcell hv9 hcl9 ?_
      refine lv_astore_n (lv' := [(3, .ref q9), (0, .ref a), (1, .int (iI z1)), (2, .ref (a + 385))]) E.1 E.2.1 dL_breed_12 rfl hl (by decide) rfl (fun ls hl => ?_)
      refine lv_iconst (v := iI 1) E.1 E.2.1 dL_breed_13 (by decide) ?_
      refine W.widen (k := 1) (n := 6) (by omega) (by omega) ?_
      refine fw_iret E hr hlk hH ?_ dL_breed_14
      exact ⟨by rw [hk], fun h => absurd (hk.symm.trans h) (by decide), fun q hq hq2 => rfl⟩
    · rw [hM9] at hH
      refine vx_catch (own := RL) (name := "java/lang/IllegalStateException") E.2.2.2.1 [(⟨0, 9, 12, 13⟩ : ExceptionTableEntry)] (⟨0, 9, 15, 15⟩ : ExceptionTableEntry) [] (by rw [hxt]; rfl) (fun z hz9 => by rw [List.mem_singleton.mp hz9]; exact Or.inr ⟨by decide, "java/lang/IllegalArgumentException", E.2.2.2.2 _ ql_RL_13, hK.me.2.2.2.2.2.2.2.2.2.2.2.2⟩) (by decide) (by decide) (E.2.2.2.2 _ ql_RL_15) (E.2.2.2.2 _ qk_ISE_ISE) hcell hv9 hcl9 ?_
      refine lv_astore_n (lv' := [(3, .ref q9), (0, .ref a), (1, .int (iI z1)), (2, .ref (a + 385))]) E.1 E.2.1 dL_breed_15 rfl hl (by decide) rfl (fun ls hl => ?_)
      refine lv_iconst (v := iI 2) E.1 E.2.1 dL_breed_16 (by decide) ?_
      refine W.widen (k := 1) (n := 6) (by omega) (by omega) ?_
      refine fw_iret E hr hlk hH ?_ dL_breed_17
      exact ⟨by rw [hk], fun h => absurd (hk.symm.trans h) (by decide), fun q hq hq2 => rfl⟩
  · exact fun v M1 H1 locs1 hp => hp.elim
theorem fW_errorBred : fw_L1 yL_errorBred cL_errorBred 4 (some .int) [(0, 9, 12, 13), (0, 9, 15, 15)] 3 := ⟨qn_RL, qw_yL_errorBred, by decide +kernel, by decide +kernel, by decide +kernel⟩
theorem w_errorBred (l : Launch) (hlt : l.stackTraces = false) (G : fw_G) (M : fw_M) (N : Nat) (a : Nat) (hB : bn0 G M a) (w : Nat → Int64) (ho : M (a + 385) = some (fJ G 1 w)) (z1 : Int) (hz1 : -2147483648 ≤ z1 ∧ z1 < 2147483648) : fwW l yL_errorBred cL_errorBred 4 (some .int) [(0, 9, 12, 13), (0, 9, 15, 15)] 9 220 1 6 G M N [.ref a, .int (iI z1), .ref (a + 385)] (fw_pi (fun r M1 n1 => r = iI (kS_breed z1) ∧ (kS_breed z1 = 0 → ∃ g, M1 (a + 385) = some (fJ G 1 g) ∧ g 0 = (iI (0)).toInt64) ∧ (∀ q, a + 378 ≤ q → q ≠ a + 385 → M1 q = M q))) := by
  refine fw_metW RL rfl (by decide +kernel) (Nat.le_of_ble_eq_true rfl) qw_yL_errorBred ?_
  intro p e s m args below meth c ls E hr hlk hxt hK hH hz hl
  obtain ⟨hb, c0, _, _, _, _, _, _, _, _, _, _, _, _, _, _, _, _, _, _⟩ := hB.c
  refine lv_aload_n E.1 E.2.1 dL_errorBred_0 rfl (lv_at hl 2 rfl) ?_
  refine lv_iconst (v := iI 0) E.1 E.2.1 dL_errorBred_1 (by decide) ?_
  refine lv_aload_n E.1 E.2.1 dL_errorBred_2 rfl (lv_at hl 0 rfl) ?_
  refine lv_iload_n E.1 E.2.1 dL_errorBred_3 rfl (lv_at hl 1 rfl) ?_
  refine fx_cV (As := [.int (iI z1)]) (rest := [.int (iI 0), .ref (a + 385)]) E hK hH hl c0 fc_X9 fL_X9_errorBred ql_RL_107 qi_yX9_errorBred qv_yX9_errorBred (x_errorBred l hlt G _ _ a hB z1 (by omega)) rfl rfl (Nat.le_of_ble_eq_true rfl) ⟨Nat.le_of_ble_eq_true rfl, Nat.le_of_ble_eq_true rfl⟩ ⟨by show _ ≤ (1 : Nat); omega, by show _ ≤ (6 : Nat); omega⟩ dL_errorBred_4 (fun E9 ce q9 M1 H1 locs1 hp hH hz1 hcell hv9 hcl9 => ?_) ?_
  · obtain ⟨hE, hM9⟩ := hp
    rcases hE with ⟨rfl, hk⟩ | ⟨rfl, hk⟩
    · rw [hM9] at hH
      refine vx_catch (own := RL) (name := "java/lang/IllegalArgumentException") E.2.2.2.1 [] (⟨0, 9, 12, 13⟩ : ExceptionTableEntry) [(⟨0, 9, 15, 15⟩ : ExceptionTableEntry)] (by rw [hxt]; rfl) (fun z hz9 => absurd hz9 List.not_mem_nil) (by decide) (by decide) (E.2.2.2.2 _ ql_RL_13) (E.2.2.2.2 _ qk_IAE_IAE) hcell hv9 hcl9 ?_
      refine lv_astore_n (lv' := [(3, .ref q9), (0, .ref a), (1, .int (iI z1)), (2, .ref (a + 385))]) E.1 E.2.1 dL_errorBred_12 rfl hl (by decide) rfl (fun ls hl => ?_)
      refine lv_iconst (v := iI 1) E.1 E.2.1 dL_errorBred_13 (by decide) ?_
      refine W.widen (k := 1) (n := 6) (by omega) (by omega) ?_
      refine fw_iret E hr hlk hH ?_ dL_errorBred_14
      exact ⟨by rw [hk], fun h => absurd (hk.symm.trans h) (by decide), fun q hq hq2 => rfl⟩
    · rw [hM9] at hH
      refine vx_catch (own := RL) (name := "java/lang/IllegalStateException") E.2.2.2.1 [(⟨0, 9, 12, 13⟩ : ExceptionTableEntry)] (⟨0, 9, 15, 15⟩ : ExceptionTableEntry) [] (by rw [hxt]; rfl) (fun z hz9 => by rw [List.mem_singleton.mp hz9]; exact Or.inr ⟨by decide, "java/lang/IllegalArgumentException", E.2.2.2.2 _ ql_RL_13, hK.me.2.2.2.2.2.2.2.2.2.2.2.2⟩) (by decide) (by decide) (E.2.2.2.2 _ ql_RL_15) (E.2.2.2.2 _ qk_ISE_ISE) hcell hv9 hcl9 ?_
      refine lv_astore_n (lv' := [(3, .ref q9), (0, .ref a), (1, .int (iI z1)), (2, .ref (a + 385))]) E.1 E.2.1 dL_errorBred_15 rfl hl (by decide) rfl (fun ls hl => ?_)
      refine lv_iconst (v := iI 2) E.1 E.2.1 dL_errorBred_16 (by decide) ?_
      refine W.widen (k := 1) (n := 6) (by omega) (by omega) ?_
      refine fw_iret E hr hlk hH ?_ dL_errorBred_17
      exact ⟨by rw [hk], fun h => absurd (hk.symm.trans h) (by decide), fun q hq hq2 => rfl⟩
  · exact fun v M1 H1 locs1 hp => hp.elim
theorem fW_sketch : fw_L1 yL_sketch cL_sketch 5 (some .int) [(0, 10, 13, 13), (0, 10, 17, 15)] 4 := ⟨qn_RL, qw_yL_sketch, by decide +kernel, by decide +kernel, by decide +kernel⟩
theorem w_sketch (l : Launch) (hlt : l.stackTraces = false) (G : fw_G) (M : fw_M) (N : Nat) (a : Nat) (hB : bn0 G M a) (w : Nat → Int64) (ho : M (a + 385) = some (fJ G 1 w)) (z1 z2 : Int) (hz1 : -2147483648 ≤ z1 ∧ z1 < 2147483648) (hz2 : -2147483648 ≤ z2 ∧ z2 < 2147483648) : fwW l yL_sketch cL_sketch 5 (some .int) [(0, 10, 13, 13), (0, 10, 17, 15)] 9 220 2 12 G M N [.ref a, .int (iI z1), .int (iI z2), .ref (a + 385)] (fw_pi (fun r M1 n1 => r = iI (kS_sketch z1 z2) ∧ (kS_sketch z1 z2 = 0 → ∃ g, M1 (a + 385) = some (fJ G 1 g) ∧ g 0 = (iI (zPARTS z1.toNat)).toInt64) ∧ (∀ q, a + 378 ≤ q → q ≠ a + 385 → M1 q = M q))) := by
  refine fw_metW RL rfl (by decide +kernel) (Nat.le_of_ble_eq_true rfl) qw_yL_sketch ?_
  intro p e s m args below meth c ls E hr hlk hxt hK hH hz hl
  obtain ⟨hb, c0, _, _, _, _, _, _, _, _, _, _, _, _, _, _, _, _, _, _⟩ := hB.c
  refine lv_aload_n E.1 E.2.1 dL_sketch_0 rfl (lv_at hl 3 rfl) ?_
  refine lv_iconst (v := iI 0) E.1 E.2.1 dL_sketch_1 (by decide) ?_
  refine lv_aload_n E.1 E.2.1 dL_sketch_2 rfl (lv_at hl 0 rfl) ?_
  refine lv_iload_n E.1 E.2.1 dL_sketch_3 rfl (lv_at hl 1 rfl) ?_
  refine lv_iload_n E.1 E.2.1 dL_sketch_4 rfl (lv_at hl 2 rfl) ?_
  refine fx_cV (As := [.int (iI z1), .int (iI z2)]) (rest := [.int (iI 0), .ref (a + 385)]) E hK hH hl c0 fc_X9 fL_X9_sketch ql_RL_7 qi_yX9_sketch qv_yX9_sketch (x_sketch l hlt G _ _ a hB z1 z2 (by omega) (by omega)) rfl rfl (Nat.le_of_ble_eq_true rfl) ⟨Nat.le_of_ble_eq_true rfl, Nat.le_of_ble_eq_true rfl⟩ ⟨by show _ ≤ (2 : Nat); omega, by show _ ≤ (12 : Nat); omega⟩ dL_sketch_5 (fun E9 ce q9 M1 H1 locs1 hp hH hz1 hcell hv9 hcl9 => ?_) ?_
  · obtain ⟨hE, hM9⟩ := hp
    rcases hE with ⟨rfl, hk⟩ | ⟨rfl, hk⟩
    · rw [hM9] at hH
      refine vx_catch (own := RL) (name := "java/lang/IllegalArgumentException") E.2.2.2.1 [] (⟨0, 10, 13, 13⟩ : ExceptionTableEntry) [(⟨0, 10, 17, 15⟩ : ExceptionTableEntry)] (by rw [hxt]; rfl) (fun z hz9 => absurd hz9 List.not_mem_nil) (by decide) (by decide) (E.2.2.2.2 _ ql_RL_13) (E.2.2.2.2 _ qk_IAE_IAE) hcell hv9 hcl9 ?_
      refine lv_astore (lv' := [(4, .ref q9), (0, .ref a), (1, .int (iI z1)), (2, .int (iI z2)), (3, .ref (a + 385))]) E.1 E.2.1 dL_sketch_13 hl (by decide) rfl (fun ls hl => ?_)
      refine lv_iconst (v := iI 1) E.1 E.2.1 dL_sketch_15 (by decide) ?_
      refine W.widen (k := 2) (n := 12) (by omega) (by omega) ?_
      refine fw_iret E hr hlk hH ?_ dL_sketch_16
      exact ⟨by rw [hk], fun h => absurd (hk.symm.trans h) (by decide), fun q hq hq2 => rfl⟩
    · rw [hM9] at hH
      refine vx_catch (own := RL) (name := "java/lang/IllegalStateException") E.2.2.2.1 [(⟨0, 10, 13, 13⟩ : ExceptionTableEntry)] (⟨0, 10, 17, 15⟩ : ExceptionTableEntry) [] (by rw [hxt]; rfl) (fun z hz9 => by rw [List.mem_singleton.mp hz9]; exact Or.inr ⟨by decide, "java/lang/IllegalArgumentException", E.2.2.2.2 _ ql_RL_13, hK.me.2.2.2.2.2.2.2.2.2.2.2.2⟩) (by decide) (by decide) (E.2.2.2.2 _ ql_RL_15) (E.2.2.2.2 _ qk_ISE_ISE) hcell hv9 hcl9 ?_
      refine lv_astore (lv' := [(4, .ref q9), (0, .ref a), (1, .int (iI z1)), (2, .int (iI z2)), (3, .ref (a + 385))]) E.1 E.2.1 dL_sketch_17 hl (by decide) rfl (fun ls hl => ?_)
      refine lv_iconst (v := iI 2) E.1 E.2.1 dL_sketch_19 (by decide) ?_
      refine W.widen (k := 2) (n := 12) (by omega) (by omega) ?_
      refine fw_iret E hr hlk hH ?_ dL_sketch_20
      exact ⟨by rw [hk], fun h => absurd (hk.symm.trans h) (by decide), fun q hq hq2 => rfl⟩
  · refine fw_ki fun r MA H1 locs1 hp hH hz1 => ?_
    obtain ⟨hk, rfl, hfr⟩ := hp
    clear hz1
    replace ho : MA (a + 385) = some (fJ G 1 w) := (hfr _ (by omega)).trans ho
    refine lv_i2l (v := (iI (zPARTS z1.toNat)).toInt64) E.1 E.2.1 dL_sketch_8 rfl ?_
    refine fw_last E hK hH (by omega) ho (iI_in (by omega) (by omega) (by omega)) dL_sketch_9 (fun H1 locs1 hH hz1 => ?_)
    clear hz1
    obtain ⟨M1, hM2⟩ : ∃ MX, MX = fw_up MA (a + 385) (fJ G 1 (vp_updL w (iI (0)).toNatClampNeg ((iI (zPARTS z1.toNat)).toInt64))) := ⟨_, rfl⟩
    replace hH := fw_H.nm hM2 hH
    have fr3 : ∀ q, q ≠ (a + 385) → M1 q = MA q := fun q h => by rw [hM2]; exact fw_up_ne h
    have ho : M1 (a + 385) = some (fJ G 1 (vp_updL w (iI (0)).toNatClampNeg ((iI (zPARTS z1.toNat)).toInt64))) := by rw [hM2]; exact fw_up_eq
    refine lv_goto (tgt := 21) E.1 E.2.1 dL_sketch_10 (by decide) ?_
    refine lv_iconst (v := iI 0) E.1 E.2.1 dL_sketch_21 (by decide) ?_
    refine W.widen (k := 2) (n := 12) (by omega) (by omega) ?_
    refine fw_iret E hr hlk hH ?_ dL_sketch_22
    exact ⟨by rw [hk], fun _ => ⟨_, ho, by rw [show (iI (0)).toNatClampNeg = 0 from by decide]; exact pk_uLs⟩, fun q hq hq2 => by rw [fr3 q (by omega), hfr q (by omega)]⟩
theorem fW_plant : fw_L1 yL_plant cL_plant 3 (some .int) [(0, 8, 11, 15)] 2 := ⟨qn_RL, qw_yL_plant, by decide +kernel, by decide +kernel, by decide +kernel⟩
theorem w_plant (l : Launch) (hlt : l.stackTraces = false) (G : fw_G) (M : fw_M) (N : Nat) (a : Nat) (hB : bn0 G M a) (w : Nat → Int64) (ho : M (a + 385) = some (fJ G 1 w))  : fwW l yL_plant cL_plant 3 (some .int) [(0, 8, 11, 15)] 9 220 1 6 G M N [.ref a, .ref (a + 385)] (fw_pi (fun r M1 n1 => r = iI (1) ∧ (1 = 0 → ∃ g, M1 (a + 385) = some (fJ G 1 g) ∧ g 0 = (iI (0)).toInt64) ∧ (∀ q, a + 378 ≤ q → q ≠ a + 385 → M1 q = M q))) := by
  refine fw_metW RL rfl (by decide +kernel) (Nat.le_of_ble_eq_true rfl) qw_yL_plant ?_
  intro p e s m args below meth c ls E hr hlk hxt hK hH hz hl
  obtain ⟨hb, c0, _, _, _, _, _, _, _, _, _, _, _, _, _, _, _, _, _, _⟩ := hB.c
  refine lv_aload_n E.1 E.2.1 dL_plant_0 rfl (lv_at hl 1 rfl) ?_
  refine lv_iconst (v := iI 0) E.1 E.2.1 dL_plant_1 (by decide) ?_
  refine lv_aload_n E.1 E.2.1 dL_plant_2 rfl (lv_at hl 0 rfl) ?_
  refine fx_cV (As := []) (rest := [.int (iI 0), .ref (a + 385)]) E hK hH hl c0 fc_X9 fL_X9_plant ql_RL_17 qi_yX9_plant qv_yX9_plant (x_plant l hlt G _ _ a hB  ) rfl rfl (Nat.le_of_ble_eq_true rfl) ⟨Nat.le_of_ble_eq_true rfl, Nat.le_of_ble_eq_true rfl⟩ ⟨by show _ ≤ (1 : Nat); omega, by show _ ≤ (6 : Nat); omega⟩ dL_plant_3 (fun E9 ce q9 M1 H1 locs1 hp hH hz1 hcell hv9 hcl9 => ?_) ?_
  · obtain ⟨rfl, hM9⟩ := hp
    rw [hM9] at hH
    refine vx_catch (own := RL) (name := "java/lang/IllegalStateException") E.2.2.2.1 [] (⟨0, 8, 11, 15⟩ : ExceptionTableEntry) [] (by rw [hxt]; rfl) (fun z hz9 => absurd hz9 List.not_mem_nil) (by decide) (by decide) (E.2.2.2.2 _ ql_RL_15) (E.2.2.2.2 _ qk_ISE_ISE) hcell hv9 hcl9 ?_
    refine lv_astore_n (lv' := [(2, .ref q9), (0, .ref a), (1, .ref (a + 385))]) E.1 E.2.1 dL_plant_11 rfl hl (by decide) rfl (fun ls hl => ?_)
    refine lv_iconst (v := iI 1) E.1 E.2.1 dL_plant_12 (by decide) ?_
    refine W.widen (k := 1) (n := 6) (by omega) (by omega) ?_
    refine fw_iret E hr hlk hH ?_ dL_plant_13
    exact ⟨rfl, fun h => absurd h (by decide), fun q hq hq2 => rfl⟩
  · exact fun v M1 H1 locs1 hp => hp.elim

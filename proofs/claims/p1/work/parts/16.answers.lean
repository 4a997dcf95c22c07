theorem x_setWay (l : Launch) (hlt : l.stackTraces = false) (G : fw_G) (M : fw_M) (N : Nat) (a : Nat) (hB : bn0 G M a) (z1 z2 : Int) (hz1 : -2147483648 ≤ z1 ∧ z1 < 2147483648) (hz2 : -2147483648 ≤ z2 ∧ z2 < 2147483648) : fxMet l yX9_setWay cX9_setWay 4 (some .int) 8 170 1 6 G M N [.ref a, .int (iI z1), .int (iI z2)] (fw_pi (fun r M1 n1 => kS_setWay z1 z2 = 0 ∧ r = iI (0) ∧ ∀ q, a + 378 ≤ q → M1 q = M q)) (fun E9 M1 n1 => E9 = "java/lang/IllegalArgumentException" ∧ kS_setWay z1 z2 = 1 ∧ M1 = M) := by
  refine fx_met RX9 rfl (by decide +kernel) (Nat.le_of_ble_eq_true rfl) ?_
  intro p e s m args below meth c ls E hr hlk hxt hK hH hz hl
  have hH0 := hH
  obtain ⟨hb, c0, _, _, _, _, _, _, _, _, c9, _, _, _, _, _, _, _, _, _⟩ := hB.c
  refine lv_iload_n E.1 E.2.1 dX9_setWay_0 rfl (lv_at hl 1 rfl) ?_
  refine fw_if_lt (tgt := 19) E dX9_setWay_1 (by decide) (by omega) (by omega) (fun c1 => ?_) (fun c1 => ?_)
  · exact fx_thr hlt E hK hH0 hH hl hxt hlk (cls := "java/lang/IllegalArgumentException") (names := ["java/lang/RuntimeException", "java/lang/Exception"]) (i := 9) (text := "way is not 0 to 2, or weight is not 0 to 99") xf_IAE xn_all ql_RX9_120 xi_IAE xw_IAE xg_IAE rfl dX9_setWay_19 dX9_setWay_22 dX9_setWay_23 dX9_setWay_25 dX9_setWay_28 ⟨Nat.le_of_ble_eq_true rfl, Nat.le_of_ble_eq_true rfl, by show _ ≤ (1 : Nat); omega, by show _ ≤ (6 : Nat); omega⟩ (fun n1 hn1 => ⟨rfl, (by unfold kS_setWay; (repeat' split) <;> omega), rfl⟩) (by omega) (by omega)
  · refine lv_iload_n E.1 E.2.1 dX9_setWay_4 rfl (lv_at hl 1 rfl) ?_
    refine lv_iconst (v := iI 2) E.1 E.2.1 dX9_setWay_5 (by decide) ?_
    refine fw_icmp_gt (tgt := 19) E dX9_setWay_6 (by decide) (by omega) (by omega) (by omega) (by omega) (fun c2 => ?_) (fun c2 => ?_)
    · exact fx_thr hlt E hK hH0 hH hl hxt hlk (cls := "java/lang/IllegalArgumentException") (names := ["java/lang/RuntimeException", "java/lang/Exception"]) (i := 9) (text := "way is not 0 to 2, or weight is not 0 to 99") xf_IAE xn_all ql_RX9_120 xi_IAE xw_IAE xg_IAE rfl dX9_setWay_19 dX9_setWay_22 dX9_setWay_23 dX9_setWay_25 dX9_setWay_28 ⟨Nat.le_of_ble_eq_true rfl, Nat.le_of_ble_eq_true rfl, by show _ ≤ (1 : Nat); omega, by show _ ≤ (6 : Nat); omega⟩ (fun n1 hn1 => ⟨rfl, (by unfold kS_setWay; (repeat' split) <;> omega), rfl⟩) (by omega) (by omega)
    · refine lv_iload_n E.1 E.2.1 dX9_setWay_9 rfl (lv_at hl 2 rfl) ?_
      refine fw_if_lt (tgt := 19) E dX9_setWay_10 (by decide) (by omega) (by omega) (fun c3 => ?_) (fun c3 => ?_)
      · exact fx_thr hlt E hK hH0 hH hl hxt hlk (cls := "java/lang/IllegalArgumentException") (names := ["java/lang/RuntimeException", "java/lang/Exception"]) (i := 9) (text := "way is not 0 to 2, or weight is not 0 to 99") xf_IAE xn_all ql_RX9_120 xi_IAE xw_IAE xg_IAE rfl dX9_setWay_19 dX9_setWay_22 dX9_setWay_23 dX9_setWay_25 dX9_setWay_28 ⟨Nat.le_of_ble_eq_true rfl, Nat.le_of_ble_eq_true rfl, by show _ ≤ (1 : Nat); omega, by show _ ≤ (6 : Nat); omega⟩ (fun n1 hn1 => ⟨rfl, (by unfold kS_setWay; (repeat' split) <;> omega), rfl⟩) (by omega) (by omega)
      · refine lv_iload_n E.1 E.2.1 dX9_setWay_13 rfl (lv_at hl 2 rfl) ?_
        refine lv_bipush (v := iI 99) E.1 E.2.1 dX9_setWay_14 (by decide) ?_
        refine fw_icmp_le (tgt := 29) E dX9_setWay_16 (by decide) (by omega) (by omega) (by omega) (by omega) (fun c4 => ?_) (fun c4 => ?_)
        · refine lv_aload_n E.1 E.2.1 dX9_setWay_29 rfl (lv_at hl 0 rfl) ?_
          refine fw_get E hK hH c0 fc_X9 1 (by decide) ql_RX9_19 rfl rfl dX9_setWay_30 ?_
          refine fw_getN E hK hH c9 fc_X3 6 (by decide) ql_RX9_135 rfl rfl dX9_setWay_33 ?_
          refine lv_istore_n (lv' := [(3, .int (iI 0)), (0, .ref a), (1, .int (iI z1)), (2, .int (iI z2))]) E.1 E.2.1 dX9_setWay_36 rfl hl (by decide) rfl (fun ls hl => ?_)
          refine lv_aload_n E.1 E.2.1 dX9_setWay_37 rfl (lv_at hl 1 rfl) ?_
          refine fw_get E hK hH c0 fc_X9 1 (by decide) ql_RX9_19 rfl rfl dX9_setWay_38 ?_
          refine lv_iload_n E.1 E.2.1 dX9_setWay_41 rfl (lv_at hl 2 rfl) ?_
          refine fw_putN E hK hH (by omega) c9 fc_X3 6 (by decide) ql_RX9_135 rfl rfl rfl rfl (Nat.le_of_ble_eq_true rfl) dX9_setWay_42 (fun H1 locs1 hH hz1 => ?_)
          replace hz := hz1.trans hz; clear hz1
          obtain ⟨M5, hM6⟩ : ∃ M9, M9 = fw_up M (a + 9) (.inr (3, [.ref (a + 10), .ref (a + 13), .ref (a + 14), .ref (a + 15), .ref (a + 16), .int (iI 0), .int (iI z1), .int (iI 1)])) := ⟨_, rfl⟩
          replace hH := fw_H.nm hM6 hH
          have fr7 : ∀ q, q ≠ (a + 9) → M5 q = M q := fun q h => by rw [hM6]; exact fw_up_ne h
          replace c0 : M5 a = some (.inr (9, [.ref (a + 1), .ref (a + 9), .ref (a + 17), .ref (a + 21), .ref (a + 26), .ref (a + 30), .ref (a + 33), .ref (a + 203), .ref (a + 373)])) := (fr7 _ (by omega)).trans c0
          have c9 : M5 (a + 9) = some (.inr (3, [.ref (a + 10), .ref (a + 13), .ref (a + 14), .ref (a + 15), .ref (a + 16), .int (iI 0), .int (iI z1), .int (iI 1)])) := by rw [hM6]; exact fw_up_eq
          refine lv_aload_n E.1 E.2.1 dX9_setWay_45 rfl (lv_at hl 1 rfl) ?_
          refine fw_get E hK hH c0 fc_X9 1 (by decide) ql_RX9_19 rfl rfl dX9_setWay_46 ?_
          refine lv_iload_n E.1 E.2.1 dX9_setWay_49 rfl (lv_at hl 3 rfl) ?_
          refine fw_putN E hK hH (by omega) c9 fc_X3 7 (by decide) ql_RX9_138 rfl rfl rfl rfl (Nat.le_of_ble_eq_true rfl) dX9_setWay_50 (fun H1 locs1 hH hz1 => ?_)
          replace hz := hz1.trans hz; clear hz1
          obtain ⟨M8, hM9⟩ : ∃ M9, M9 = fw_up M5 (a + 9) (.inr (3, [.ref (a + 10), .ref (a + 13), .ref (a + 14), .ref (a + 15), .ref (a + 16), .int (iI 0), .int (iI z1), .int (iI z2)])) := ⟨_, rfl⟩
          replace hH := fw_H.nm hM9 hH
          have fr10 : ∀ q, q ≠ (a + 9) → M8 q = M5 q := fun q h => by rw [hM9]; exact fw_up_ne h
          replace c0 : M8 a = some (.inr (9, [.ref (a + 1), .ref (a + 9), .ref (a + 17), .ref (a + 21), .ref (a + 26), .ref (a + 30), .ref (a + 33), .ref (a + 203), .ref (a + 373)])) := (fr10 _ (by omega)).trans c0
          have c9 : M8 (a + 9) = some (.inr (3, [.ref (a + 10), .ref (a + 13), .ref (a + 14), .ref (a + 15), .ref (a + 16), .int (iI 0), .int (iI z1), .int (iI z2)])) := by rw [hM9]; exact fw_up_eq
          refine lv_iload_n E.1 E.2.1 dX9_setWay_53 rfl (lv_at hl 0 rfl) ?_
          refine W.widen (k := 1) (n := 6) (by omega) (by omega) ?_
          refine vx_ret (fw_iret E hr hlk hH ?_ dX9_setWay_54)
          exact ⟨(by unfold kS_setWay; (repeat' split) <;> omega), rfl, (fun q hq => by rw [fr10 q (by omega), fr7 q (by omega)])⟩
        · exact fx_thr hlt E hK hH0 hH hl hxt hlk (cls := "java/lang/IllegalArgumentException") (names := ["java/lang/RuntimeException", "java/lang/Exception"]) (i := 9) (text := "way is not 0 to 2, or weight is not 0 to 99") xf_IAE xn_all ql_RX9_120 xi_IAE xw_IAE xg_IAE rfl dX9_setWay_19 dX9_setWay_22 dX9_setWay_23 dX9_setWay_25 dX9_setWay_28 ⟨Nat.le_of_ble_eq_true rfl, Nat.le_of_ble_eq_true rfl, by show _ ≤ (1 : Nat); omega, by show _ ≤ (6 : Nat); omega⟩ (fun n1 hn1 => ⟨rfl, (by unfold kS_setWay; (repeat' split) <;> omega), rfl⟩) (by omega) (by omega)
theorem x_setRates (l : Launch) (hlt : l.stackTraces = false) (G : fw_G) (M : fw_M) (N : Nat) (a : Nat) (hB : bn0 G M a) (z1 z2 z3 : Int) (hz1 : -2147483648 ≤ z1 ∧ z1 < 2147483648) (hz2 : -2147483648 ≤ z2 ∧ z2 < 2147483648) (hz3 : -2147483648 ≤ z3 ∧ z3 < 2147483648) : fxMet l yX9_setRates cX9_setRates 5 (some .int) 8 170 1 6 G M N [.ref a, .int (iI z1), .int (iI z2), .int (iI z3)] (fw_pi (fun r M1 n1 => kS_setRates z1 z2 z3 = 0 ∧ r = iI (70) ∧ ∀ q, a + 378 ≤ q → M1 q = M q)) (fun E9 M1 n1 => E9 = "java/lang/IllegalArgumentException" ∧ kS_setRates z1 z2 z3 = 1 ∧ M1 = M) := by
  refine fx_met RX9 rfl (by decide +kernel) (Nat.le_of_ble_eq_true rfl) ?_
  intro p e s m args below meth c ls E hr hlk hxt hK hH hz hl
  have hH0 := hH
  obtain ⟨hb, c0, _, _, _, _, _, _, _, _, _, _, _, _, _, _, c21, _, _, _⟩ := hB.c
  refine lv_iload_n E.1 E.2.1 dX9_setRates_0 rfl (lv_at hl 1 rfl) ?_
  refine fw_cS (As := [.int (iI z1)]) (rest := []) E hK hH hl fL_X9_isRate ql_RX9_181 qs_yX9_isRate (k_isRate l G _ _ z1 (by omega)) rfl rfl (Nat.le_of_ble_eq_true rfl) ⟨Nat.le_of_ble_eq_true rfl, Nat.le_of_ble_eq_true rfl⟩ ⟨by show _ ≤ (1 : Nat); omega, by show _ ≤ (6 : Nat); omega⟩ dX9_setRates_1 (fw_ki fun r4 M3 H1 locs1 hp2 hH hz1 => ?_)
  obtain ⟨b1, rfl, hb1, hM9, hz2⟩ := hp2
  replace hz := hz2.trans hz
  clear hz1 hz2
  rw [hM9] at hH
  refine fw_if_eq (tgt := 31) E dX9_setRates_4 (by decide) (by omega) (by omega) (fun c5 => ?_) (fun c5 => ?_)
  · exact fx_thr hlt E hK hH0 hH hl hxt hlk (cls := "java/lang/IllegalArgumentException") (names := ["java/lang/RuntimeException", "java/lang/Exception"]) (i := 12) (text := "a rate is not 0 to 100, or they are more than 100 together") xf_IAE xn_all ql_RX9_120 xi_IAE xw_IAE xg_IAE rfl dX9_setRates_31 dX9_setRates_34 dX9_setRates_35 dX9_setRates_37 dX9_setRates_40 ⟨Nat.le_of_ble_eq_true rfl, Nat.le_of_ble_eq_true rfl, by show _ ≤ (1 : Nat); omega, by show _ ≤ (6 : Nat); omega⟩ (fun n1 hn1 => ⟨rfl, (by unfold kS_setRates; (repeat' split) <;> omega), rfl⟩) (by omega) (by omega)
  · refine lv_iload_n E.1 E.2.1 dX9_setRates_7 rfl (lv_at hl 2 rfl) ?_
    refine fw_cS (As := [.int (iI z2)]) (rest := []) E hK hH hl fL_X9_isRate ql_RX9_181 qs_yX9_isRate (k_isRate l G _ _ z2 (by omega)) rfl rfl (Nat.le_of_ble_eq_true rfl) ⟨Nat.le_of_ble_eq_true rfl, Nat.le_of_ble_eq_true rfl⟩ ⟨by show _ ≤ (1 : Nat); omega, by show _ ≤ (6 : Nat); omega⟩ dX9_setRates_8 (fw_ki fun r9 M8 H1 locs1 hp7 hH hz1 => ?_)
    obtain ⟨b6, rfl, hb6, hM9, hz2⟩ := hp7
    replace hz := hz2.trans hz
    clear hz1 hz2
    rw [hM9] at hH
    refine fw_if_eq (tgt := 31) E dX9_setRates_11 (by decide) (by omega) (by omega) (fun c10 => ?_) (fun c10 => ?_)
    · exact fx_thr hlt E hK hH0 hH hl hxt hlk (cls := "java/lang/IllegalArgumentException") (names := ["java/lang/RuntimeException", "java/lang/Exception"]) (i := 12) (text := "a rate is not 0 to 100, or they are more than 100 together") xf_IAE xn_all ql_RX9_120 xi_IAE xw_IAE xg_IAE rfl dX9_setRates_31 dX9_setRates_34 dX9_setRates_35 dX9_setRates_37 dX9_setRates_40 ⟨Nat.le_of_ble_eq_true rfl, Nat.le_of_ble_eq_true rfl, by show _ ≤ (1 : Nat); omega, by show _ ≤ (6 : Nat); omega⟩ (fun n1 hn1 => ⟨rfl, (by unfold kS_setRates; (repeat' split) <;> omega), rfl⟩) (by omega) (by omega)
    · refine lv_iload_n E.1 E.2.1 dX9_setRates_14 rfl (lv_at hl 3 rfl) ?_
      refine fw_cS (As := [.int (iI z3)]) (rest := []) E hK hH hl fL_X9_isRate ql_RX9_181 qs_yX9_isRate (k_isRate l G _ _ z3 (by omega)) rfl rfl (Nat.le_of_ble_eq_true rfl) ⟨Nat.le_of_ble_eq_true rfl, Nat.le_of_ble_eq_true rfl⟩ ⟨by show _ ≤ (1 : Nat); omega, by show _ ≤ (6 : Nat); omega⟩ dX9_setRates_15 (fw_ki fun r14 M13 H1 locs1 hp12 hH hz1 => ?_)
      obtain ⟨b11, rfl, hb11, hM9, hz2⟩ := hp12
      replace hz := hz2.trans hz
      clear hz1 hz2
      rw [hM9] at hH
      refine fw_if_eq (tgt := 31) E dX9_setRates_18 (by decide) (by omega) (by omega) (fun c15 => ?_) (fun c15 => ?_)
      · exact fx_thr hlt E hK hH0 hH hl hxt hlk (cls := "java/lang/IllegalArgumentException") (names := ["java/lang/RuntimeException", "java/lang/Exception"]) (i := 12) (text := "a rate is not 0 to 100, or they are more than 100 together") xf_IAE xn_all ql_RX9_120 xi_IAE xw_IAE xg_IAE rfl dX9_setRates_31 dX9_setRates_34 dX9_setRates_35 dX9_setRates_37 dX9_setRates_40 ⟨Nat.le_of_ble_eq_true rfl, Nat.le_of_ble_eq_true rfl, by show _ ≤ (1 : Nat); omega, by show _ ≤ (6 : Nat); omega⟩ (fun n1 hn1 => ⟨rfl, (by unfold kS_setRates; (repeat' split) <;> omega), rfl⟩) (by omega) (by omega)
      · refine lv_iload_n E.1 E.2.1 dX9_setRates_21 rfl (lv_at hl 1 rfl) ?_
        refine lv_iload_n E.1 E.2.1 dX9_setRates_22 rfl (lv_at hl 2 rfl) ?_
        refine fw_iadd E dX9_setRates_23 ?_
        refine lv_iload_n E.1 E.2.1 dX9_setRates_24 rfl (lv_at hl 3 rfl) ?_
        refine fw_iadd E dX9_setRates_25 ?_
        refine lv_bipush (v := iI 100) E.1 E.2.1 dX9_setRates_26 (by decide) ?_
        refine fw_icmp_le (tgt := 41) E dX9_setRates_28 (by decide) (by omega) (by omega) (by omega) (by omega) (fun c16 => ?_) (fun c16 => ?_)
        · refine lv_aload_n E.1 E.2.1 dX9_setRates_41 rfl (lv_at hl 0 rfl) ?_
          refine fw_get E hK hH c0 fc_X9 3 (by decide) ql_RX9_33 rfl rfl dX9_setRates_42 ?_
          refine fw_getN E hK hH c21 fc_X0 1 (by decide) ql_RX9_186 rfl rfl dX9_setRates_45 ?_
          refine lv_istore (lv' := [(4, .int (iI 70)), (0, .ref a), (1, .int (iI z1)), (2, .int (iI z2)), (3, .int (iI z3))]) E.1 E.2.1 dX9_setRates_48 hl (by decide) rfl (fun ls hl => ?_)
          refine lv_aload_n E.1 E.2.1 dX9_setRates_50 rfl (lv_at hl 1 rfl) ?_
          refine fw_get E hK hH c0 fc_X9 3 (by decide) ql_RX9_33 rfl rfl dX9_setRates_51 ?_
          refine lv_iload_n E.1 E.2.1 dX9_setRates_54 rfl (lv_at hl 2 rfl) ?_
          refine fw_putN E hK hH (by omega) c21 fc_X0 1 (by decide) ql_RX9_186 rfl rfl rfl rfl (Nat.le_of_ble_eq_true rfl) dX9_setRates_55 (fun H1 locs1 hH hz1 => ?_)
          replace hz := hz1.trans hz; clear hz1
          obtain ⟨M17, hM18⟩ : ∃ M9, M9 = fw_up M (a + 21) (.inr (0, [.ref (a + 22), .int (iI z1), .int (iI 20), .int (iI 5), .int (iI 2), .int (iI 1)])) := ⟨_, rfl⟩
          replace hH := fw_H.nm hM18 hH
          have fr19 : ∀ q, q ≠ (a + 21) → M17 q = M q := fun q h => by rw [hM18]; exact fw_up_ne h
          replace c0 : M17 a = some (.inr (9, [.ref (a + 1), .ref (a + 9), .ref (a + 17), .ref (a + 21), .ref (a + 26), .ref (a + 30), .ref (a + 33), .ref (a + 203), .ref (a + 373)])) := (fr19 _ (by omega)).trans c0
          have c21 : M17 (a + 21) = some (.inr (0, [.ref (a + 22), .int (iI z1), .int (iI 20), .int (iI 5), .int (iI 2), .int (iI 1)])) := by rw [hM18]; exact fw_up_eq
          refine lv_aload_n E.1 E.2.1 dX9_setRates_58 rfl (lv_at hl 1 rfl) ?_
          refine fw_get E hK hH c0 fc_X9 3 (by decide) ql_RX9_33 rfl rfl dX9_setRates_59 ?_
          refine lv_iload_n E.1 E.2.1 dX9_setRates_62 rfl (lv_at hl 3 rfl) ?_
          refine fw_putN E hK hH (by omega) c21 fc_X0 2 (by decide) ql_RX9_189 rfl rfl rfl rfl (Nat.le_of_ble_eq_true rfl) dX9_setRates_63 (fun H1 locs1 hH hz1 => ?_)
          replace hz := hz1.trans hz; clear hz1
          obtain ⟨M20, hM21⟩ : ∃ M9, M9 = fw_up M17 (a + 21) (.inr (0, [.ref (a + 22), .int (iI z1), .int (iI z2), .int (iI 5), .int (iI 2), .int (iI 1)])) := ⟨_, rfl⟩
          replace hH := fw_H.nm hM21 hH
          have fr22 : ∀ q, q ≠ (a + 21) → M20 q = M17 q := fun q h => by rw [hM21]; exact fw_up_ne h
          replace c0 : M20 a = some (.inr (9, [.ref (a + 1), .ref (a + 9), .ref (a + 17), .ref (a + 21), .ref (a + 26), .ref (a + 30), .ref (a + 33), .ref (a + 203), .ref (a + 373)])) := (fr22 _ (by omega)).trans c0
          have c21 : M20 (a + 21) = some (.inr (0, [.ref (a + 22), .int (iI z1), .int (iI z2), .int (iI 5), .int (iI 2), .int (iI 1)])) := by rw [hM21]; exact fw_up_eq
          refine lv_aload_n E.1 E.2.1 dX9_setRates_66 rfl (lv_at hl 1 rfl) ?_
          refine fw_get E hK hH c0 fc_X9 3 (by decide) ql_RX9_33 rfl rfl dX9_setRates_67 ?_
          refine lv_iload_n E.1 E.2.1 dX9_setRates_70 rfl (lv_at hl 4 rfl) ?_
          refine fw_putN E hK hH (by omega) c21 fc_X0 3 (by decide) ql_RX9_192 rfl rfl rfl rfl (Nat.le_of_ble_eq_true rfl) dX9_setRates_71 (fun H1 locs1 hH hz1 => ?_)
          replace hz := hz1.trans hz; clear hz1
          obtain ⟨M23, hM24⟩ : ∃ M9, M9 = fw_up M20 (a + 21) (.inr (0, [.ref (a + 22), .int (iI z1), .int (iI z2), .int (iI z3), .int (iI 2), .int (iI 1)])) := ⟨_, rfl⟩
          replace hH := fw_H.nm hM24 hH
          have fr25 : ∀ q, q ≠ (a + 21) → M23 q = M20 q := fun q h => by rw [hM24]; exact fw_up_ne h
          replace c0 : M23 a = some (.inr (9, [.ref (a + 1), .ref (a + 9), .ref (a + 17), .ref (a + 21), .ref (a + 26), .ref (a + 30), .ref (a + 33), .ref (a + 203), .ref (a + 373)])) := (fr25 _ (by omega)).trans c0
          have c21 : M23 (a + 21) = some (.inr (0, [.ref (a + 22), .int (iI z1), .int (iI z2), .int (iI z3), .int (iI 2), .int (iI 1)])) := by rw [hM24]; exact fw_up_eq
          refine lv_iload E.1 E.2.1 dX9_setRates_74 (lv_at hl 0 rfl) ?_
          refine W.widen (k := 1) (n := 6) (by omega) (by omega) ?_
          refine vx_ret (fw_iret E hr hlk hH ?_ dX9_setRates_76)
          exact ⟨(by unfold kS_setRates; (repeat' split) <;> omega), rfl, (fun q hq => by rw [fr25 q (by omega), fr22 q (by omega), fr19 q (by omega)])⟩
        · exact fx_thr hlt E hK hH0 hH hl hxt hlk (cls := "java/lang/IllegalArgumentException") (names := ["java/lang/RuntimeException", "java/lang/Exception"]) (i := 12) (text := "a rate is not 0 to 100, or they are more than 100 together") xf_IAE xn_all ql_RX9_120 xi_IAE xw_IAE xg_IAE rfl dX9_setRates_31 dX9_setRates_34 dX9_setRates_35 dX9_setRates_37 dX9_setRates_40 ⟨Nat.le_of_ble_eq_true rfl, Nat.le_of_ble_eq_true rfl, by show _ ≤ (1 : Nat); omega, by show _ ≤ (6 : Nat); omega⟩ (fun n1 hn1 => ⟨rfl, (by unfold kS_setRates; (repeat' split) <;> omega), rfl⟩) (by omega) (by omega)
theorem x_setChoosing (l : Launch) (hlt : l.stackTraces = false) (G : fw_G) (M : fw_M) (N : Nat) (a : Nat) (hB : bn0 G M a) (z1 z2 : Int) (hz1 : -2147483648 ≤ z1 ∧ z1 < 2147483648) (hz2 : -2147483648 ≤ z2 ∧ z2 < 2147483648) : fxMet l yX9_setChoosing cX9_setChoosing 4 (some .int) 8 170 1 6 G M N [.ref a, .int (iI z1), .int (iI z2)] (fw_pi (fun r M1 n1 => kS_setChoosing z1 z2 = 0 ∧ r = iI (2) ∧ ∀ q, a + 378 ≤ q → M1 q = M q)) (fun E9 M1 n1 => E9 = "java/lang/IllegalArgumentException" ∧ kS_setChoosing z1 z2 = 1 ∧ M1 = M) := by
  refine fx_met RX9 rfl (by decide +kernel) (Nat.le_of_ble_eq_true rfl) ?_
  intro p e s m args below meth c ls E hr hlk hxt hK hH hz hl
  have hH0 := hH
  obtain ⟨hb, c0, _, _, _, _, _, _, _, _, _, _, _, _, _, _, c21, _, _, _⟩ := hB.c
  refine lv_iload_n E.1 E.2.1 dX9_setChoosing_0 rfl (lv_at hl 1 rfl) ?_
  refine lv_iconst (v := iI 1) E.1 E.2.1 dX9_setChoosing_1 (by decide) ?_
  refine fw_icmp_lt (tgt := 19) E dX9_setChoosing_2 (by decide) (by omega) (by omega) (by omega) (by omega) (fun c1 => ?_) (fun c1 => ?_)
  · exact fx_thr hlt E hK hH0 hH hl hxt hlk (cls := "java/lang/IllegalArgumentException") (names := ["java/lang/RuntimeException", "java/lang/Exception"]) (i := 13) (text := "tournament is not 1 to 5, or elite is not 0 to 4") xf_IAE xn_all ql_RX9_120 xi_IAE xw_IAE xg_IAE rfl dX9_setChoosing_19 dX9_setChoosing_22 dX9_setChoosing_23 dX9_setChoosing_25 dX9_setChoosing_28 ⟨Nat.le_of_ble_eq_true rfl, Nat.le_of_ble_eq_true rfl, by show _ ≤ (1 : Nat); omega, by show _ ≤ (6 : Nat); omega⟩ (fun n1 hn1 => ⟨rfl, (by unfold kS_setChoosing; (repeat' split) <;> omega), rfl⟩) (by omega) (by omega)
  · refine lv_iload_n E.1 E.2.1 dX9_setChoosing_5 rfl (lv_at hl 1 rfl) ?_
    refine lv_iconst (v := iI 5) E.1 E.2.1 dX9_setChoosing_6 (by decide) ?_
    refine fw_icmp_gt (tgt := 19) E dX9_setChoosing_7 (by decide) (by omega) (by omega) (by omega) (by omega) (fun c2 => ?_) (fun c2 => ?_)
    · exact fx_thr hlt E hK hH0 hH hl hxt hlk (cls := "java/lang/IllegalArgumentException") (names := ["java/lang/RuntimeException", "java/lang/Exception"]) (i := 13) (text := "tournament is not 1 to 5, or elite is not 0 to 4") xf_IAE xn_all ql_RX9_120 xi_IAE xw_IAE xg_IAE rfl dX9_setChoosing_19 dX9_setChoosing_22 dX9_setChoosing_23 dX9_setChoosing_25 dX9_setChoosing_28 ⟨Nat.le_of_ble_eq_true rfl, Nat.le_of_ble_eq_true rfl, by show _ ≤ (1 : Nat); omega, by show _ ≤ (6 : Nat); omega⟩ (fun n1 hn1 => ⟨rfl, (by unfold kS_setChoosing; (repeat' split) <;> omega), rfl⟩) (by omega) (by omega)
    · refine lv_iload_n E.1 E.2.1 dX9_setChoosing_10 rfl (lv_at hl 2 rfl) ?_
      refine fw_if_lt (tgt := 19) E dX9_setChoosing_11 (by decide) (by omega) (by omega) (fun c3 => ?_) (fun c3 => ?_)
      · exact fx_thr hlt E hK hH0 hH hl hxt hlk (cls := "java/lang/IllegalArgumentException") (names := ["java/lang/RuntimeException", "java/lang/Exception"]) (i := 13) (text := "tournament is not 1 to 5, or elite is not 0 to 4") xf_IAE xn_all ql_RX9_120 xi_IAE xw_IAE xg_IAE rfl dX9_setChoosing_19 dX9_setChoosing_22 dX9_setChoosing_23 dX9_setChoosing_25 dX9_setChoosing_28 ⟨Nat.le_of_ble_eq_true rfl, Nat.le_of_ble_eq_true rfl, by show _ ≤ (1 : Nat); omega, by show _ ≤ (6 : Nat); omega⟩ (fun n1 hn1 => ⟨rfl, (by unfold kS_setChoosing; (repeat' split) <;> omega), rfl⟩) (by omega) (by omega)
      · refine lv_iload_n E.1 E.2.1 dX9_setChoosing_14 rfl (lv_at hl 2 rfl) ?_
        refine lv_iconst (v := iI 4) E.1 E.2.1 dX9_setChoosing_15 (by decide) ?_
        refine fw_icmp_le (tgt := 29) E dX9_setChoosing_16 (by decide) (by omega) (by omega) (by omega) (by omega) (fun c4 => ?_) (fun c4 => ?_)
        · refine lv_aload_n E.1 E.2.1 dX9_setChoosing_29 rfl (lv_at hl 0 rfl) ?_
          refine fw_get E hK hH c0 fc_X9 3 (by decide) ql_RX9_33 rfl rfl dX9_setChoosing_30 ?_
          refine fw_getN E hK hH c21 fc_X0 4 (by decide) ql_RX9_197 rfl rfl dX9_setChoosing_33 ?_
          refine lv_istore_n (lv' := [(3, .int (iI 2)), (0, .ref a), (1, .int (iI z1)), (2, .int (iI z2))]) E.1 E.2.1 dX9_setChoosing_36 rfl hl (by decide) rfl (fun ls hl => ?_)
          refine lv_aload_n E.1 E.2.1 dX9_setChoosing_37 rfl (lv_at hl 1 rfl) ?_
          refine fw_get E hK hH c0 fc_X9 3 (by decide) ql_RX9_33 rfl rfl dX9_setChoosing_38 ?_
          refine lv_iload_n E.1 E.2.1 dX9_setChoosing_41 rfl (lv_at hl 2 rfl) ?_
          refine fw_putN E hK hH (by omega) c21 fc_X0 4 (by decide) ql_RX9_197 rfl rfl rfl rfl (Nat.le_of_ble_eq_true rfl) dX9_setChoosing_42 (fun H1 locs1 hH hz1 => ?_)
          replace hz := hz1.trans hz; clear hz1
          obtain ⟨M5, hM6⟩ : ∃ M9, M9 = fw_up M (a + 21) (.inr (0, [.ref (a + 22), .int (iI 70), .int (iI 20), .int (iI 5), .int (iI z1), .int (iI 1)])) := ⟨_, rfl⟩
          replace hH := fw_H.nm hM6 hH
          have fr7 : ∀ q, q ≠ (a + 21) → M5 q = M q := fun q h => by rw [hM6]; exact fw_up_ne h
          replace c0 : M5 a = some (.inr (9, [.ref (a + 1), .ref (a + 9), .ref (a + 17), .ref (a + 21), .ref (a + 26), .ref (a + 30), .ref (a + 33), .ref (a + 203), .ref (a + 373)])) := (fr7 _ (by omega)).trans c0
          have c21 : M5 (a + 21) = some (.inr (0, [.ref (a + 22), .int (iI 70), .int (iI 20), .int (iI 5), .int (iI z1), .int (iI 1)])) := by rw [hM6]; exact fw_up_eq
          refine lv_aload_n E.1 E.2.1 dX9_setChoosing_45 rfl (lv_at hl 1 rfl) ?_
          refine fw_get E hK hH c0 fc_X9 3 (by decide) ql_RX9_33 rfl rfl dX9_setChoosing_46 ?_
          refine lv_iload_n E.1 E.2.1 dX9_setChoosing_49 rfl (lv_at hl 3 rfl) ?_
          refine fw_putN E hK hH (by omega) c21 fc_X0 5 (by decide) ql_RX9_200 rfl rfl rfl rfl (Nat.le_of_ble_eq_true rfl) dX9_setChoosing_50 (fun H1 locs1 hH hz1 => ?_)
          replace hz := hz1.trans hz; clear hz1
          obtain ⟨M8, hM9⟩ : ∃ M9, M9 = fw_up M5 (a + 21) (.inr (0, [.ref (a + 22), .int (iI 70), .int (iI 20), .int (iI 5), .int (iI z1), .int (iI z2)])) := ⟨_, rfl⟩
          replace hH := fw_H.nm hM9 hH
          have fr10 : ∀ q, q ≠ (a + 21) → M8 q = M5 q := fun q h => by rw [hM9]; exact fw_up_ne h
          replace c0 : M8 a = some (.inr (9, [.ref (a + 1), .ref (a + 9), .ref (a + 17), .ref (a + 21), .ref (a + 26), .ref (a + 30), .ref (a + 33), .ref (a + 203), .ref (a + 373)])) := (fr10 _ (by omega)).trans c0
          have c21 : M8 (a + 21) = some (.inr (0, [.ref (a + 22), .int (iI 70), .int (iI 20), .int (iI 5), .int (iI z1), .int (iI z2)])) := by rw [hM9]; exact fw_up_eq
          refine lv_iload_n E.1 E.2.1 dX9_setChoosing_53 rfl (lv_at hl 0 rfl) ?_
          refine W.widen (k := 1) (n := 6) (by omega) (by omega) ?_
          refine vx_ret (fw_iret E hr hlk hH ?_ dX9_setChoosing_54)
          exact ⟨(by unfold kS_setChoosing; (repeat' split) <;> omega), rfl, (fun q hq => by rw [fr10 q (by omega), fr7 q (by omega)])⟩
        · exact fx_thr hlt E hK hH0 hH hl hxt hlk (cls := "java/lang/IllegalArgumentException") (names := ["java/lang/RuntimeException", "java/lang/Exception"]) (i := 13) (text := "tournament is not 1 to 5, or elite is not 0 to 4") xf_IAE xn_all ql_RX9_120 xi_IAE xw_IAE xg_IAE rfl dX9_setChoosing_19 dX9_setChoosing_22 dX9_setChoosing_23 dX9_setChoosing_25 dX9_setChoosing_28 ⟨Nat.le_of_ble_eq_true rfl, Nat.le_of_ble_eq_true rfl, by show _ ≤ (1 : Nat); omega, by show _ ≤ (6 : Nat); omega⟩ (fun n1 hn1 => ⟨rfl, (by unfold kS_setChoosing; (repeat' split) <;> omega), rfl⟩) (by omega) (by omega)
theorem x_setLuck (l : Launch) (hlt : l.stackTraces = false) (G : fw_G) (M : fw_M) (N : Nat) (a : Nat) (hB : bn0 G M a) (z1 : Int) (hz1 : -2147483648 ≤ z1 ∧ z1 < 2147483648) : fxMet l yX9_setLuck cX9_setLuck 3 (some .int) 8 170 1 6 G M N [.ref a, .int (iI z1)] (fw_pi (fun r M1 n1 => kS_setLuck z1 = 0 ∧ r = iI (0) ∧ ∀ q, a + 378 ≤ q → M1 q = M q)) (fun E9 M1 n1 => E9 = "java/lang/IllegalArgumentException" ∧ kS_setLuck z1 = 1 ∧ M1 = M) := by
  refine fx_met RX9 rfl (by decide +kernel) (Nat.le_of_ble_eq_true rfl) ?_
  intro p e s m args below meth c ls E hr hlk hxt hK hH hz hl
  have hH0 := hH
  obtain ⟨hb, c0, _, _, _, _, _, _, _, _, _, _, _, _, _, _, _, c33, c34, _⟩ := hB.c
  refine lv_iload_n E.1 E.2.1 dX9_setLuck_0 rfl (lv_at hl 1 rfl) ?_
  refine fw_if_lt (tgt := 11) E dX9_setLuck_1 (by decide) (by omega) (by omega) (fun c1 => ?_) (fun c1 => ?_)
  · exact fx_thr hlt E hK hH0 hH hl hxt hlk (cls := "java/lang/IllegalArgumentException") (names := ["java/lang/RuntimeException", "java/lang/Exception"]) (i := 14) (text := "luck is not 0 to 9999") xf_IAE xn_all ql_RX9_120 xi_IAE xw_IAE xg_IAE rfl dX9_setLuck_11 dX9_setLuck_14 dX9_setLuck_15 dX9_setLuck_17 dX9_setLuck_20 ⟨Nat.le_of_ble_eq_true rfl, Nat.le_of_ble_eq_true rfl, by show _ ≤ (1 : Nat); omega, by show _ ≤ (6 : Nat); omega⟩ (fun n1 hn1 => ⟨rfl, (by unfold kS_setLuck; (repeat' split) <;> omega), rfl⟩) (by omega) (by omega)
  · refine lv_iload_n E.1 E.2.1 dX9_setLuck_4 rfl (lv_at hl 1 rfl) ?_
    refine lv_sipush (v := iI 10000) E.1 E.2.1 dX9_setLuck_5 (by decide) ?_
    refine fw_icmp_lt (tgt := 21) E dX9_setLuck_8 (by decide) (by omega) (by omega) (by omega) (by omega) (fun c2 => ?_) (fun c2 => ?_)
    · refine lv_aload_n E.1 E.2.1 dX9_setLuck_21 rfl (lv_at hl 0 rfl) ?_
      refine fw_get E hK hH c0 fc_X9 6 (by decide) ql_RX9_54 rfl rfl dX9_setLuck_22 ?_
      refine fw_getN E hK hH c33 fc_X2 0 (by decide) ql_RX9_205 rfl rfl dX9_setLuck_25 ?_
      refine fw_getN E hK hH c34 fc_X1 2 (by decide) ql_RX9_209 rfl rfl dX9_setLuck_28 ?_
      refine lv_istore_n (lv' := [(2, .int (iI 0)), (0, .ref a), (1, .int (iI z1))]) E.1 E.2.1 dX9_setLuck_31 rfl hl (by decide) rfl (fun ls hl => ?_)
      refine lv_aload_n E.1 E.2.1 dX9_setLuck_32 rfl (lv_at hl 1 rfl) ?_
      refine fw_get E hK hH c0 fc_X9 6 (by decide) ql_RX9_54 rfl rfl dX9_setLuck_33 ?_
      refine fw_getN E hK hH c33 fc_X2 0 (by decide) ql_RX9_205 rfl rfl dX9_setLuck_36 ?_
      refine lv_iload_n E.1 E.2.1 dX9_setLuck_39 rfl (lv_at hl 2 rfl) ?_
      refine fw_putN E hK hH (by omega) c34 fc_X1 2 (by decide) ql_RX9_209 rfl rfl rfl rfl (Nat.le_of_ble_eq_true rfl) dX9_setLuck_40 (fun H1 locs1 hH hz1 => ?_)
      replace hz := hz1.trans hz; clear hz1
      obtain ⟨M3, hM4⟩ : ∃ M9, M9 = fw_up M (a + 34) (.inr (1, [.ref (a + 35), .int (iI 0), .int (iI z1)])) := ⟨_, rfl⟩
      replace hH := fw_H.nm hM4 hH
      have fr5 : ∀ q, q ≠ (a + 34) → M3 q = M q := fun q h => by rw [hM4]; exact fw_up_ne h
      replace c0 : M3 a = some (.inr (9, [.ref (a + 1), .ref (a + 9), .ref (a + 17), .ref (a + 21), .ref (a + 26), .ref (a + 30), .ref (a + 33), .ref (a + 203), .ref (a + 373)])) := (fr5 _ (by omega)).trans c0
      replace c33 : M3 (a + 33) = some (.inr (2, [.ref (a + 34), .ref (a + 36), .ref (a + 41), .ref (a + 42), .int (iI 0), .int (iI 0), .int (iI 0)])) := (fr5 _ (by omega)).trans c33
      have c34 : M3 (a + 34) = some (.inr (1, [.ref (a + 35), .int (iI 0), .int (iI z1)])) := by rw [hM4]; exact fw_up_eq
      refine lv_iload_n E.1 E.2.1 dX9_setLuck_43 rfl (lv_at hl 0 rfl) ?_
      refine W.widen (k := 1) (n := 6) (by omega) (by omega) ?_
      refine vx_ret (fw_iret E hr hlk hH ?_ dX9_setLuck_44)
      exact ⟨(by unfold kS_setLuck; (repeat' split) <;> omega), rfl, (fun q hq => by rw [fr5 q (by omega)])⟩
    · exact fx_thr hlt E hK hH0 hH hl hxt hlk (cls := "java/lang/IllegalArgumentException") (names := ["java/lang/RuntimeException", "java/lang/Exception"]) (i := 14) (text := "luck is not 0 to 9999") xf_IAE xn_all ql_RX9_120 xi_IAE xw_IAE xg_IAE rfl dX9_setLuck_11 dX9_setLuck_14 dX9_setLuck_15 dX9_setLuck_17 dX9_setLuck_20 ⟨Nat.le_of_ble_eq_true rfl, Nat.le_of_ble_eq_true rfl, by show _ ≤ (1 : Nat); omega, by show _ ≤ (6 : Nat); omega⟩ (fun n1 hn1 => ⟨rfl, (by unfold kS_setLuck; (repeat' split) <;> omega), rfl⟩) (by omega) (by omega)
theorem k_judgeAdd (l : Launch) (G : fw_G) (M : fw_M) (N : Nat) (a : Nat) (hB : bn0 G M a) (x y z d : Int) (hx : -2147483648 ≤ x ∧ x < 2147483648) (hy : -2147483648 ≤ y ∧ y < 2147483648) (hz : -2147483648 ≤ z ∧ z < 2147483648) (hd : -2147483648 ≤ d ∧ d < 2147483648) : fMet l yX3_add cX3_add 5 none 1 30 0 0 G M N [.ref (a + 9), .int (iI x), .int (iI y), .int (iI z), .int (iI d)] (fw_pv (fun M1 n1 => (∀ q, q < a + 9 ∨ a + 17 ≤ q → M1 q = M q) ∧ n1 = N)) := by
  refine fw_met RX3 rfl (by decide +kernel) (Nat.le_of_ble_eq_true rfl) ?_
  intro p e s m args below meth c ls E hr hlk hnm hK hH hz hl
  obtain ⟨hb, _, _, _, _, _, _, _, _, _, c9, c13, c14, c15, c16, _, _, _, _, _⟩ := hB.c
  refine lv_aload_n E.1 E.2.1 dX3_add_0 rfl (lv_at hl 0 rfl) ?_
  refine fw_get E hK hH c9 fc_X3 1 (by decide) ql_RX3_18 rfl rfl dX3_add_1 ?_
  refine lv_aload_n E.1 E.2.1 dX3_add_4 rfl (lv_at hl 0 rfl) ?_
  refine fw_get E hK hH c9 fc_X3 5 (by decide) ql_RX3_35 rfl rfl dX3_add_5 ?_
  refine lv_iload_n E.1 E.2.1 dX3_add_8 rfl (lv_at hl 1 rfl) ?_
  refine fw_cSN (As := [.ref (a + 13), .int (iI 0), .int (iI x)]) (rest := []) E hK hH hl fL_X9_put ql_RX3_38 qs_yX9_put (k_put l G _ _ (a + 13) 12 z0 0 0 x c13 (by omega) (by omega) (by omega) (by omega)) rfl rfl (Nat.le_of_ble_eq_true rfl) ⟨Nat.le_of_ble_eq_true rfl, Nat.le_of_ble_eq_true rfl⟩ ⟨Nat.le_of_ble_eq_true rfl, Nat.le_of_ble_eq_true rfl⟩ dX3_add_9 (fw_kv fun M2 H1 locs1 hp1 hH hz1 => ?_)
  obtain ⟨hM8, hz2⟩ := hp1
  have hfr : ∀ q, q ≠ a + 13 → M2 q = M q := fun q h => by rw [hM8]; exact fw_up_ne h
  have c13 : M2 (a + 13) = some (fI G 12 (fun j0 => iI ((zup z0 0 x) j0))) := by rw [hM8]; exact fw_up_eq
  replace hz := hz2.trans hz
  clear hz1 hz2
  have fr3 := hfr
  replace c9 : M2 (a + 9) = some (.inr (3, [.ref (a + 10), .ref (a + 13), .ref (a + 14), .ref (a + 15), .ref (a + 16), .int (iI 0), .int (iI 0), .int (iI 1)])) := (fr3 _ (by omega)).trans c9
  replace c14 : M2 (a + 14) = some (fI G 12 (fun j0 => iI (z0 j0))) := (fr3 _ (by omega)).trans c14
  replace c15 : M2 (a + 15) = some (fI G 12 (fun j0 => iI (z0 j0))) := (fr3 _ (by omega)).trans c15
  replace c16 : M2 (a + 16) = some (fI G 12 (fun j0 => iI (z0 j0))) := (fr3 _ (by omega)).trans c16
  refine lv_aload_n E.1 E.2.1 dX3_add_12 rfl (lv_at hl 0 rfl) ?_
  refine fw_get E hK hH c9 fc_X3 2 (by decide) ql_RX3_22 rfl rfl dX3_add_13 ?_
  refine lv_aload_n E.1 E.2.1 dX3_add_16 rfl (lv_at hl 0 rfl) ?_
  refine fw_get E hK hH c9 fc_X3 5 (by decide) ql_RX3_35 rfl rfl dX3_add_17 ?_
  refine lv_iload_n E.1 E.2.1 dX3_add_20 rfl (lv_at hl 2 rfl) ?_
  refine fw_cSN (As := [.ref (a + 14), .int (iI 0), .int (iI y)]) (rest := []) E hK hH hl fL_X9_put ql_RX3_38 qs_yX9_put (k_put l G _ _ (a + 14) 12 z0 0 0 y c14 (by omega) (by omega) (by omega) (by omega)) rfl rfl (Nat.le_of_ble_eq_true rfl) ⟨Nat.le_of_ble_eq_true rfl, Nat.le_of_ble_eq_true rfl⟩ ⟨Nat.le_of_ble_eq_true rfl, Nat.le_of_ble_eq_true rfl⟩ dX3_add_21 (fw_kv fun M5 H1 locs1 hp4 hH hz1 => ?_)
  obtain ⟨hM8, hz2⟩ := hp4
  have hfr : ∀ q, q ≠ a + 14 → M5 q = M2 q := fun q h => by rw [hM8]; exact fw_up_ne h
  have c14 : M5 (a + 14) = some (fI G 12 (fun j0 => iI ((zup z0 0 y) j0))) := by rw [hM8]; exact fw_up_eq
  replace hz := hz2.trans hz
  clear hz1 hz2
  have fr6 := hfr
  replace c9 : M5 (a + 9) = some (.inr (3, [.ref (a + 10), .ref (a + 13), .ref (a + 14), .ref (a + 15), .ref (a + 16), .int (iI 0), .int (iI 0), .int (iI 1)])) := (fr6 _ (by omega)).trans c9
  replace c15 : M5 (a + 15) = some (fI G 12 (fun j0 => iI (z0 j0))) := (fr6 _ (by omega)).trans c15
  replace c16 : M5 (a + 16) = some (fI G 12 (fun j0 => iI (z0 j0))) := (fr6 _ (by omega)).trans c16
  replace c13 : M5 (a + 13) = some (fI G 12 (fun j0 => iI ((zup z0 0 x) j0))) := (fr6 _ (by omega)).trans c13
  refine lv_aload_n E.1 E.2.1 dX3_add_24 rfl (lv_at hl 0 rfl) ?_
  refine fw_get E hK hH c9 fc_X3 3 (by decide) ql_RX3_25 rfl rfl dX3_add_25 ?_
  refine lv_aload_n E.1 E.2.1 dX3_add_28 rfl (lv_at hl 0 rfl) ?_
  refine fw_get E hK hH c9 fc_X3 5 (by decide) ql_RX3_35 rfl rfl dX3_add_29 ?_
  refine lv_iload_n E.1 E.2.1 dX3_add_32 rfl (lv_at hl 3 rfl) ?_
  refine fw_cSN (As := [.ref (a + 15), .int (iI 0), .int (iI z)]) (rest := []) E hK hH hl fL_X9_put ql_RX3_38 qs_yX9_put (k_put l G _ _ (a + 15) 12 z0 0 0 z c15 (by omega) (by omega) (by omega) (by omega)) rfl rfl (Nat.le_of_ble_eq_true rfl) ⟨Nat.le_of_ble_eq_true rfl, Nat.le_of_ble_eq_true rfl⟩ ⟨Nat.le_of_ble_eq_true rfl, Nat.le_of_ble_eq_true rfl⟩ dX3_add_33 (fw_kv fun M8 H1 locs1 hp7 hH hz1 => ?_)
  obtain ⟨hM8, hz2⟩ := hp7
  have hfr : ∀ q, q ≠ a + 15 → M8 q = M5 q := fun q h => by rw [hM8]; exact fw_up_ne h
  have c15 : M8 (a + 15) = some (fI G 12 (fun j0 => iI ((zup z0 0 z) j0))) := by rw [hM8]; exact fw_up_eq
  replace hz := hz2.trans hz
  clear hz1 hz2
  have fr9 := hfr
  replace c9 : M8 (a + 9) = some (.inr (3, [.ref (a + 10), .ref (a + 13), .ref (a + 14), .ref (a + 15), .ref (a + 16), .int (iI 0), .int (iI 0), .int (iI 1)])) := (fr9 _ (by omega)).trans c9
  replace c16 : M8 (a + 16) = some (fI G 12 (fun j0 => iI (z0 j0))) := (fr9 _ (by omega)).trans c16
  replace c13 : M8 (a + 13) = some (fI G 12 (fun j0 => iI ((zup z0 0 x) j0))) := (fr9 _ (by omega)).trans c13
  replace c14 : M8 (a + 14) = some (fI G 12 (fun j0 => iI ((zup z0 0 y) j0))) := (fr9 _ (by omega)).trans c14
  refine lv_aload_n E.1 E.2.1 dX3_add_36 rfl (lv_at hl 0 rfl) ?_
  refine fw_get E hK hH c9 fc_X3 4 (by decide) ql_RX3_28 rfl rfl dX3_add_37 ?_
  refine lv_aload_n E.1 E.2.1 dX3_add_40 rfl (lv_at hl 0 rfl) ?_
  refine fw_get E hK hH c9 fc_X3 5 (by decide) ql_RX3_35 rfl rfl dX3_add_41 ?_
  refine lv_iload E.1 E.2.1 dX3_add_44 (lv_at hl 4 rfl) ?_
  refine fw_cSN (As := [.ref (a + 16), .int (iI 0), .int (iI d)]) (rest := []) E hK hH hl fL_X9_put ql_RX3_38 qs_yX9_put (k_put l G _ _ (a + 16) 12 z0 0 0 d c16 (by omega) (by omega) (by omega) (by omega)) rfl rfl (Nat.le_of_ble_eq_true rfl) ⟨Nat.le_of_ble_eq_true rfl, Nat.le_of_ble_eq_true rfl⟩ ⟨Nat.le_of_ble_eq_true rfl, Nat.le_of_ble_eq_true rfl⟩ dX3_add_46 (fw_kv fun M11 H1 locs1 hp10 hH hz1 => ?_)
  obtain ⟨hM8, hz2⟩ := hp10
  have hfr : ∀ q, q ≠ a + 16 → M11 q = M8 q := fun q h => by rw [hM8]; exact fw_up_ne h
  have c16 : M11 (a + 16) = some (fI G 12 (fun j0 => iI ((zup z0 0 d) j0))) := by rw [hM8]; exact fw_up_eq
  replace hz := hz2.trans hz
  clear hz1 hz2
  have fr12 := hfr
  replace c9 : M11 (a + 9) = some (.inr (3, [.ref (a + 10), .ref (a + 13), .ref (a + 14), .ref (a + 15), .ref (a + 16), .int (iI 0), .int (iI 0), .int (iI 1)])) := (fr12 _ (by omega)).trans c9
  replace c13 : M11 (a + 13) = some (fI G 12 (fun j0 => iI ((zup z0 0 x) j0))) := (fr12 _ (by omega)).trans c13
  replace c14 : M11 (a + 14) = some (fI G 12 (fun j0 => iI ((zup z0 0 y) j0))) := (fr12 _ (by omega)).trans c14
  replace c15 : M11 (a + 15) = some (fI G 12 (fun j0 => iI ((zup z0 0 z) j0))) := (fr12 _ (by omega)).trans c15
  refine lv_aload_n E.1 E.2.1 dX3_add_49 rfl (lv_at hl 0 rfl) ?_
  refine lv_dup E.1 E.2.1 dX3_add_50 rfl ?_
  refine fw_get E hK hH c9 fc_X3 5 (by decide) ql_RX3_35 rfl rfl dX3_add_51 ?_
  refine lv_iconst (v := iI 1) E.1 E.2.1 dX3_add_54 (by decide) ?_
  refine fw_iadd E dX3_add_55 ?_
  refine fw_cv (y := iI (1)) (by decide) ?_
  refine fw_put E hK hH (by omega) c9 fc_X3 5 (by decide) ql_RX3_35 rfl rfl rfl rfl (Nat.le_of_ble_eq_true rfl) dX3_add_56 (fun H1 locs1 hH hz1 => ?_)
  replace hz := hz1.trans hz; clear hz1
  obtain ⟨M13, hM14⟩ : ∃ M9, M9 = fw_up M11 (a + 9) (.inr (3, [.ref (a + 10), .ref (a + 13), .ref (a + 14), .ref (a + 15), .ref (a + 16), .int (iI (1)), .int (iI 0), .int (iI 1)])) := ⟨_, rfl⟩
  replace hH := fw_H.nm hM14 hH
  have fr15 : ∀ q, q ≠ (a + 9) → M13 q = M11 q := fun q h => by rw [hM14]; exact fw_up_ne h
  replace c13 : M13 (a + 13) = some (fI G 12 (fun j0 => iI ((zup z0 0 x) j0))) := (fr15 _ (by omega)).trans c13
  replace c14 : M13 (a + 14) = some (fI G 12 (fun j0 => iI ((zup z0 0 y) j0))) := (fr15 _ (by omega)).trans c14
  replace c15 : M13 (a + 15) = some (fI G 12 (fun j0 => iI ((zup z0 0 z) j0))) := (fr15 _ (by omega)).trans c15
  replace c16 : M13 (a + 16) = some (fI G 12 (fun j0 => iI ((zup z0 0 d) j0))) := (fr15 _ (by omega)).trans c16
  have c9 : M13 (a + 9) = some (.inr (3, [.ref (a + 10), .ref (a + 13), .ref (a + 14), .ref (a + 15), .ref (a + 16), .int (iI (1)), .int (iI 0), .int (iI 1)])) := by rw [hM14]; exact fw_up_eq
  refine fw_vret E hr hlk hH ?_ dX3_add_59
  exact ⟨(fun q hq => by rw [fr15 q (by omega), fr12 q (by omega), fr9 q (by omega), fr6 q (by omega), fr3 q (by omega)]), hz⟩
theorem k_drawsAdd (l : Launch) (G : fw_G) (M : fw_M) (N : Nat) (a : Nat) (hB : bn0 G M a) (x : Int) (hx : -2147483648 ≤ x ∧ x < 2147483648) : fMet l yX1_add cX1_add 2 none 1 30 0 0 G M N [.ref (a + 34), .int (iI x)] (fw_pv (fun M1 n1 => ((∀ q, q < a + 34 ∨ a + 36 ≤ q → M1 q = M q) ∧ M1 (a + 34) = some (.inr (1, [.ref (a + 35), .int (iI 1), .int (iI 0)]))) ∧ n1 = N)) := by
  refine fw_met RX1 rfl (by decide +kernel) (Nat.le_of_ble_eq_true rfl) ?_
  intro p e s m args below meth c ls E hr hlk hnm hK hH hz hl
  obtain ⟨hb, _, _, _, _, _, _, _, _, _, _, _, _, _, _, _, _, _, c34, c35⟩ := hB.c
  refine lv_aload_n E.1 E.2.1 dX1_add_0 rfl (lv_at hl 0 rfl) ?_
  refine fw_get E hK hH c34 fc_X1 0 (by decide) ql_RX1_9 rfl rfl dX1_add_1 ?_
  refine lv_aload_n E.1 E.2.1 dX1_add_4 rfl (lv_at hl 0 rfl) ?_
  refine fw_get E hK hH c34 fc_X1 1 (by decide) ql_RX1_15 rfl rfl dX1_add_5 ?_
  refine lv_iload_n E.1 E.2.1 dX1_add_8 rfl (lv_at hl 1 rfl) ?_
  refine fw_cSN (As := [.ref (a + 35), .int (iI 0), .int (iI x)]) (rest := []) E hK hH hl fL_X9_put ql_RX1_19 qs_yX9_put (k_put l G _ _ (a + 35) 40 z0 0 0 x c35 (by omega) (by omega) (by omega) (by omega)) rfl rfl (Nat.le_of_ble_eq_true rfl) ⟨Nat.le_of_ble_eq_true rfl, Nat.le_of_ble_eq_true rfl⟩ ⟨Nat.le_of_ble_eq_true rfl, Nat.le_of_ble_eq_true rfl⟩ dX1_add_9 (fw_kv fun M2 H1 locs1 hp1 hH hz1 => ?_)
  obtain ⟨hM8, hz2⟩ := hp1
  have hfr : ∀ q, q ≠ a + 35 → M2 q = M q := fun q h => by rw [hM8]; exact fw_up_ne h
  have c35 : M2 (a + 35) = some (fI G 40 (fun j0 => iI ((zup z0 0 x) j0))) := by rw [hM8]; exact fw_up_eq
  replace hz := hz2.trans hz
  clear hz1 hz2
  have fr3 := hfr
  replace c34 : M2 (a + 34) = some (.inr (1, [.ref (a + 35), .int (iI 0), .int (iI 0)])) := (fr3 _ (by omega)).trans c34
  refine lv_aload_n E.1 E.2.1 dX1_add_12 rfl (lv_at hl 0 rfl) ?_
  refine lv_dup E.1 E.2.1 dX1_add_13 rfl ?_
  refine fw_get E hK hH c34 fc_X1 1 (by decide) ql_RX1_15 rfl rfl dX1_add_14 ?_
  refine lv_iconst (v := iI 1) E.1 E.2.1 dX1_add_17 (by decide) ?_
  refine fw_iadd E dX1_add_18 ?_
  refine fw_cv (y := iI (1)) (by decide) ?_
  refine fw_put E hK hH (by omega) c34 fc_X1 1 (by decide) ql_RX1_15 rfl rfl rfl rfl (Nat.le_of_ble_eq_true rfl) dX1_add_19 (fun H1 locs1 hH hz1 => ?_)
  replace hz := hz1.trans hz; clear hz1
  obtain ⟨M4, hM5⟩ : ∃ M9, M9 = fw_up M2 (a + 34) (.inr (1, [.ref (a + 35), .int (iI (1)), .int (iI 0)])) := ⟨_, rfl⟩
  replace hH := fw_H.nm hM5 hH
  have fr6 : ∀ q, q ≠ (a + 34) → M4 q = M2 q := fun q h => by rw [hM5]; exact fw_up_ne h
  replace c35 : M4 (a + 35) = some (fI G 40 (fun j0 => iI ((zup z0 0 x) j0))) := (fr6 _ (by omega)).trans c35
  have c34 : M4 (a + 34) = some (.inr (1, [.ref (a + 35), .int (iI (1)), .int (iI 0)])) := by rw [hM5]; exact fw_up_eq
  refine fw_vret E hr hlk hH ?_ dX1_add_22
  exact ⟨⟨(fun q hq => by rw [fr6 q (by omega), fr3 q (by omega)]), c34⟩, hz⟩
theorem x_addCase (l : Launch) (hlt : l.stackTraces = false) (G : fw_G) (M : fw_M) (N : Nat) (a : Nat) (hB : bn0 G M a) (z1 z2 z3 z4 : Int) (hz1 : -2147483648 ≤ z1 ∧ z1 < 2147483648) (hz2 : -2147483648 ≤ z2 ∧ z2 < 2147483648) (hz3 : -2147483648 ≤ z3 ∧ z3 < 2147483648) (hz4 : -2147483648 ≤ z4 ∧ z4 < 2147483648) : fxMet l yX9_addCase cX9_addCase 6 (some .int) 8 170 2 12 G M N [.ref a, .int (iI z1), .int (iI z2), .int (iI z3), .int (iI z4)] (fw_pi (fun r M1 n1 => kS_addCase z1 z2 z3 z4 = 0 ∧ r = iI (0) ∧ ∀ q, a + 378 ≤ q → M1 q = M q)) (fun E9 M1 n1 => E9 = "java/lang/IllegalArgumentException" ∧ kS_addCase z1 z2 z3 z4 = 1 ∧ M1 = M) := by
  refine fx_met RX9 rfl (by decide +kernel) (Nat.le_of_ble_eq_true rfl) ?_
  intro p e s m args below meth c ls E hr hlk hxt hK hH hz hl
  have hH0 := hH
  obtain ⟨hb, c0, _, _, _, _, _, _, _, _, c9, _, _, _, _, _, _, _, _, _⟩ := hB.c
  refine lv_iload_n E.1 E.2.1 dX9_addCase_0 rfl (lv_at hl 1 rfl) ?_
  refine lv_iload_n E.1 E.2.1 dX9_addCase_1 rfl (lv_at hl 2 rfl) ?_
  refine lv_iload_n E.1 E.2.1 dX9_addCase_2 rfl (lv_at hl 3 rfl) ?_
  refine fx_cS (As := [.int (iI z1), .int (iI z2), .int (iI z3)]) (rest := []) E hK hH hl fL_X9_requireInputs ql_RX9_116 qs_yX9_requireInputs (k_requireInputs l hlt G _ _ z1 z2 z3 (by omega) (by omega) (by omega)) rfl rfl (Nat.le_of_ble_eq_true rfl) ⟨Nat.le_of_ble_eq_true rfl, Nat.le_of_ble_eq_true rfl⟩ ⟨by show _ ≤ (2 : Nat); omega, by show _ ≤ (12 : Nat); omega⟩ dX9_addCase_3 (fun E9 ce q9 M1 H1 locs1 hp hH hz1 hcell hv9 hcl9 => ?_) ?_
  · obtain ⟨hE, hc9, hM9⟩ := hp
    exact fx_out hxt hlk hH hcell hv9 hcl9 ⟨hE, (by unfold kS_addCase; (repeat' split) <;> omega), hM9⟩ (by omega) (by omega)
  · refine fw_kv fun M1 H1 locs1 hp hH hz1 => ?_
    obtain ⟨hok, hM9, hz2⟩ := hp
    replace hz := hz2.trans hz
    clear hz1 hz2
    rw [hM9] at hH
    refine lv_iload E.1 E.2.1 dX9_addCase_6 (lv_at hl 4 rfl) ?_
    refine lv_sipush (v := iI (-9999)) E.1 E.2.1 dX9_addCase_8 (by decide) ?_
    refine fw_icmp_lt (tgt := 22) E dX9_addCase_11 (by decide) (by omega) (by omega) (by omega) (by omega) (fun c1 => ?_) (fun c1 => ?_)
    · exact fx_thr hlt E hK hH0 hH hl hxt hlk (cls := "java/lang/IllegalArgumentException") (names := ["java/lang/RuntimeException", "java/lang/Exception"]) (i := 7) (text := "what is due is not -9999 to 9999") xf_IAE xn_all ql_RX9_120 xi_IAE xw_IAE xg_IAE rfl dX9_addCase_22 dX9_addCase_25 dX9_addCase_26 dX9_addCase_28 dX9_addCase_31 ⟨Nat.le_of_ble_eq_true rfl, Nat.le_of_ble_eq_true rfl, by show _ ≤ (2 : Nat); omega, by show _ ≤ (12 : Nat); omega⟩ (fun n1 hn1 => ⟨rfl, (by unfold kS_addCase; (repeat' split) <;> omega), rfl⟩) (by omega) (by omega)
    · refine lv_iload E.1 E.2.1 dX9_addCase_14 (lv_at hl 4 rfl) ?_
      refine lv_sipush (v := iI 9999) E.1 E.2.1 dX9_addCase_16 (by decide) ?_
      refine fw_icmp_le (tgt := 32) E dX9_addCase_19 (by decide) (by omega) (by omega) (by omega) (by omega) (fun c2 => ?_) (fun c2 => ?_)
      · refine lv_aload_n E.1 E.2.1 dX9_addCase_32 rfl (lv_at hl 0 rfl) ?_
        refine fw_get E hK hH c0 fc_X9 1 (by decide) ql_RX9_19 rfl rfl dX9_addCase_33 ?_
        refine fw_getN E hK hH c9 fc_X3 5 (by decide) ql_RX9_125 rfl rfl dX9_addCase_36 ?_
        refine lv_bipush (v := iI 12) E.1 E.2.1 dX9_addCase_39 (by decide) ?_
        refine fw_icmp_lt (tgt := 54) E dX9_addCase_41 (by decide) (by omega) (by omega) (by omega) (by omega) (fun c3 => ?_) (fun c3 => ?_)
        · refine lv_aload_n E.1 E.2.1 dX9_addCase_54 rfl (lv_at hl 0 rfl) ?_
          refine fw_get E hK hH c0 fc_X9 1 (by decide) ql_RX9_19 rfl rfl dX9_addCase_55 ?_
          refine fw_getN E hK hH c9 fc_X3 5 (by decide) ql_RX9_125 rfl rfl dX9_addCase_58 ?_
          refine lv_istore (lv' := [(5, .int (iI 0)), (0, .ref a), (1, .int (iI z1)), (2, .int (iI z2)), (3, .int (iI z3)), (4, .int (iI z4))]) E.1 E.2.1 dX9_addCase_61 hl (by decide) rfl (fun ls hl => ?_)
          refine lv_aload_n E.1 E.2.1 dX9_addCase_63 rfl (lv_at hl 1 rfl) ?_
          refine fw_get E hK hH c0 fc_X9 1 (by decide) ql_RX9_19 rfl rfl dX9_addCase_64 ?_
          refine lv_iload_n E.1 E.2.1 dX9_addCase_67 rfl (lv_at hl 2 rfl) ?_
          refine lv_iload_n E.1 E.2.1 dX9_addCase_68 rfl (lv_at hl 3 rfl) ?_
          refine lv_iload_n E.1 E.2.1 dX9_addCase_69 rfl (lv_at hl 4 rfl) ?_
          refine lv_iload E.1 E.2.1 dX9_addCase_70 (lv_at hl 5 rfl) ?_
          refine fw_cV (As := [.int (iI z1), .int (iI z2), .int (iI z3), .int (iI z4)]) (rest := []) E hK hH hl c9 fc_X3 fL_X3_add ql_RX9_130 qi_yX3_add qv_yX3_add (k_judgeAdd l G _ _ a hB z1 z2 z3 z4 (by omega) (by omega) (by omega) (by omega)) rfl rfl (Nat.le_of_ble_eq_true rfl) ⟨Nat.le_of_ble_eq_true rfl, Nat.le_of_ble_eq_true rfl⟩ ⟨by show _ ≤ (2 : Nat); omega, by show _ ≤ (12 : Nat); omega⟩ dX9_addCase_72 (fw_kv fun M5 H1 locs1 hp4 hH hz1 => ?_)
          obtain ⟨hfr, hz2⟩ := hp4
          replace hz := hz2.trans hz
          clear hz1 hz2
          have fr6 := hfr
          replace c0 : M5 a = some (.inr (9, [.ref (a + 1), .ref (a + 9), .ref (a + 17), .ref (a + 21), .ref (a + 26), .ref (a + 30), .ref (a + 33), .ref (a + 203), .ref (a + 373)])) := (fr6 _ (by omega)).trans c0
          refine lv_iload E.1 E.2.1 dX9_addCase_75 (lv_at hl 0 rfl) ?_
          refine W.widen (k := 2) (n := 12) (by omega) (by omega) ?_
          refine vx_ret (fw_iret E hr hlk hH ?_ dX9_addCase_77)
          exact ⟨(by unfold kS_addCase; (repeat' split) <;> omega), rfl, (fun q hq => by rw [fr6 q (by omega)])⟩
        · exact absurd c3 (by omega)
      · exact fx_thr hlt E hK hH0 hH hl hxt hlk (cls := "java/lang/IllegalArgumentException") (names := ["java/lang/RuntimeException", "java/lang/Exception"]) (i := 7) (text := "what is due is not -9999 to 9999") xf_IAE xn_all ql_RX9_120 xi_IAE xw_IAE xg_IAE rfl dX9_addCase_22 dX9_addCase_25 dX9_addCase_26 dX9_addCase_28 dX9_addCase_31 ⟨Nat.le_of_ble_eq_true rfl, Nat.le_of_ble_eq_true rfl, by show _ ≤ (2 : Nat); omega, by show _ ≤ (12 : Nat); omega⟩ (fun n1 hn1 => ⟨rfl, (by unfold kS_addCase; (repeat' split) <;> omega), rfl⟩) (by omega) (by omega)
theorem x_tell (l : Launch) (hlt : l.stackTraces = false) (G : fw_G) (M : fw_M) (N : Nat) (a : Nat) (hB : bn0 G M a) (z1 : Int) (hz1 : -2147483648 ≤ z1 ∧ z1 < 2147483648) : fxMet l yX9_tell cX9_tell 2 (some .int) 8 170 1 6 G M N [.ref a, .int (iI z1)] (fw_pi (fun r M1 n1 => kS_tell z1 = 0 ∧ r = iI (1) ∧ ∀ q, a + 378 ≤ q → M1 q = M q)) (fun E9 M1 n1 => E9 = "java/lang/IllegalArgumentException" ∧ kS_tell z1 = 1 ∧ M1 = M) := by
  refine fx_met RX9 rfl (by decide +kernel) (Nat.le_of_ble_eq_true rfl) ?_
  intro p e s m args below meth c ls E hr hlk hxt hK hH hz hl
  have hH0 := hH
  obtain ⟨hb, c0, _, _, _, _, _, _, _, _, _, _, _, _, _, _, _, c33, c34, _⟩ := hB.c
  refine lv_iload_n E.1 E.2.1 dX9_tell_0 rfl (lv_at hl 1 rfl) ?_
  refine fw_if_ge (tgt := 14) E dX9_tell_1 (by decide) (by omega) (by omega) (fun c1 => ?_) (fun c1 => ?_)
  · refine lv_aload_n E.1 E.2.1 dX9_tell_14 rfl (lv_at hl 0 rfl) ?_
    refine fw_get E hK hH c0 fc_X9 6 (by decide) ql_RX9_54 rfl rfl dX9_tell_15 ?_
    refine fw_getN E hK hH c33 fc_X2 0 (by decide) ql_RX9_205 rfl rfl dX9_tell_18 ?_
    refine fw_getN E hK hH c34 fc_X1 1 (by decide) ql_RX9_216 rfl rfl dX9_tell_21 ?_
    refine lv_bipush (v := iI 40) E.1 E.2.1 dX9_tell_24 (by decide) ?_
    refine fw_icmp_lt (tgt := 39) E dX9_tell_26 (by decide) (by omega) (by omega) (by omega) (by omega) (fun c2 => ?_) (fun c2 => ?_)
    · refine lv_aload_n E.1 E.2.1 dX9_tell_39 rfl (lv_at hl 0 rfl) ?_
      refine fw_get E hK hH c0 fc_X9 6 (by decide) ql_RX9_54 rfl rfl dX9_tell_40 ?_
      refine fw_getN E hK hH c33 fc_X2 0 (by decide) ql_RX9_205 rfl rfl dX9_tell_43 ?_
      refine lv_iload_n E.1 E.2.1 dX9_tell_46 rfl (lv_at hl 1 rfl) ?_
      refine fw_cV (As := [.int (iI z1)]) (rest := []) E hK hH hl c34 fc_X1 fL_X1_add ql_RX9_221 qi_yX1_add qv_yX1_add (k_drawsAdd l G _ _ a hB z1 (by omega)) rfl rfl (Nat.le_of_ble_eq_true rfl) ⟨Nat.le_of_ble_eq_true rfl, Nat.le_of_ble_eq_true rfl⟩ ⟨by show _ ≤ (1 : Nat); omega, by show _ ≤ (6 : Nat); omega⟩ dX9_tell_47 (fw_kv fun M4 H1 locs1 hp3 hH hz1 => ?_)
      obtain ⟨⟨hfr, c34⟩, hz2⟩ := hp3
      replace hz := hz2.trans hz
      clear hz1 hz2
      have fr5 := hfr
      replace c0 : M4 a = some (.inr (9, [.ref (a + 1), .ref (a + 9), .ref (a + 17), .ref (a + 21), .ref (a + 26), .ref (a + 30), .ref (a + 33), .ref (a + 203), .ref (a + 373)])) := (fr5 _ (by omega)).trans c0
      replace c33 : M4 (a + 33) = some (.inr (2, [.ref (a + 34), .ref (a + 36), .ref (a + 41), .ref (a + 42), .int (iI 0), .int (iI 0), .int (iI 0)])) := (fr5 _ (by omega)).trans c33
      refine lv_aload_n E.1 E.2.1 dX9_tell_50 rfl (lv_at hl 0 rfl) ?_
      refine fw_get E hK hH c0 fc_X9 6 (by decide) ql_RX9_54 rfl rfl dX9_tell_51 ?_
      refine fw_getN E hK hH c33 fc_X2 0 (by decide) ql_RX9_205 rfl rfl dX9_tell_54 ?_
      refine fw_getN E hK hH c34 fc_X1 1 (by decide) ql_RX9_216 rfl rfl dX9_tell_57 ?_
      refine W.widen (k := 1) (n := 6) (by omega) (by omega) ?_
      refine vx_ret (fw_iret E hr hlk hH ?_ dX9_tell_60)
      exact ⟨(by unfold kS_tell; (repeat' split) <;> omega), rfl, (fun q hq => by rw [fr5 q (by omega)])⟩
    · exact absurd c2 (by omega)
  · exact fx_thr hlt E hK hH0 hH hl hxt hlk (cls := "java/lang/IllegalArgumentException") (names := ["java/lang/RuntimeException", "java/lang/Exception"]) (i := 15) (text := "number is less than 0") xf_IAE xn_all ql_RX9_120 xi_IAE xw_IAE xg_IAE rfl dX9_tell_4 dX9_tell_7 dX9_tell_8 dX9_tell_10 dX9_tell_13 ⟨Nat.le_of_ble_eq_true rfl, Nat.le_of_ble_eq_true rfl, by show _ ≤ (1 : Nat); omega, by show _ ≤ (6 : Nat); omega⟩ (fun n1 hn1 => ⟨rfl, (by unfold kS_tell; (repeat' split) <;> omega), rfl⟩) (by omega) (by omega)
theorem x_plant (l : Launch) (hlt : l.stackTraces = false) (G : fw_G) (M : fw_M) (N : Nat) (a : Nat) (hB : bn0 G M a)  : fxMet l yX9_plant cX9_plant 2 (some .int) 8 170 1 6 G M N [.ref a] (fun _ _ _ => False) (fun E9 M1 n1 => E9 = "java/lang/IllegalStateException" ∧ M1 = M) := by
  refine fx_met RX9 rfl (by decide +kernel) (Nat.le_of_ble_eq_true rfl) ?_
  intro p e s m args below meth c ls E hr hlk hxt hK hH hz hl
  have hH0 := hH
  obtain ⟨hb, c0, c1, _, _, _, _, _, _, _, _, _, _, _, _, _, _, c33, _, _⟩ := hB.c
  refine lv_aload_n E.1 E.2.1 dX9_plant_0 rfl (lv_at hl 0 rfl) ?_
  refine fw_get E hK hH c0 fc_X9 0 (by decide) ql_RX9_10 rfl rfl dX9_plant_1 ?_
  refine fw_getN E hK hH c1 fc_X7 3 (by decide) ql_RX9_86 rfl rfl dX9_plant_4 ?_
  refine fw_if_ne (tgt := 22) E dX9_plant_7 (by decide) (by omega) (by omega) (fun c1 => ?_) (fun c1 => ?_)
  · exact fx_thr hlt E hK hH0 hH hl hxt hlk (cls := "java/lang/IllegalStateException") (names := ["java/lang/RuntimeException", "java/lang/Exception"]) (i := 4) (text := "the SKETCH is no TREE, or the GROVE is full") xf_ISE xn_all ql_RX9_76 xi_ISE xw_ISE xg_ISE rfl dX9_plant_22 dX9_plant_25 dX9_plant_26 dX9_plant_28 dX9_plant_31 ⟨Nat.le_of_ble_eq_true rfl, Nat.le_of_ble_eq_true rfl, by show _ ≤ (1 : Nat); omega, by show _ ≤ (6 : Nat); omega⟩ (fun n1 hn1 => ⟨rfl, rfl⟩) (by omega) (by omega)
  · exact absurd c1 (by omega)
theorem x_sketched (l : Launch) (G : fw_G) (M : fw_M) (N : Nat) (a : Nat) (hB : bn0 G M a)  : fMet l yX9_sketched cX9_sketched 1 (some .int) 8 170 0 0 G M N [.ref a] (fw_pi (fun r M1 n1 => r = iI 0 ∧ (∀ q, a + 378 ≤ q → M1 q = M q) ∧ n1 = N)) := by
  refine fw_met RX9 rfl (by decide +kernel) (Nat.le_of_ble_eq_true rfl) ?_
  intro p e s m args below meth c ls E hr hlk hnm hK hH hz hl
  obtain ⟨hb, c0, c1, c2, _, _, _, _, _, _, _, _, _, _, _, _, _, _, _, _⟩ := hB.c
  refine lv_aload_n E.1 E.2.1 dX9_sketched_0 rfl (lv_at hl 0 rfl) ?_
  refine fw_get E hK hH c0 fc_X9 0 (by decide) ql_RX9_10 rfl rfl dX9_sketched_1 ?_
  refine fw_getN E hK hH c1 fc_X7 0 (by decide) ql_RX9_90 rfl rfl dX9_sketched_4 ?_
  refine fw_getN E hK hH c2 fc_X8 4 (by decide) ql_RX9_93 rfl rfl dX9_sketched_7 ?_
  refine fw_iret E hr hlk hH ?_ dX9_sketched_10
  exact ⟨rfl, (fun _ _ => rfl), hz⟩
theorem x_trees (l : Launch) (G : fw_G) (M : fw_M) (N : Nat) (a : Nat) (hB : bn0 G M a)  : fMet l yX9_trees cX9_trees 1 (some .int) 8 170 0 0 G M N [.ref a] (fw_pi (fun r M1 n1 => r = iI 0 ∧ (∀ q, a + 378 ≤ q → M1 q = M q) ∧ n1 = N)) := by
  refine fw_met RX9 rfl (by decide +kernel) (Nat.le_of_ble_eq_true rfl) ?_
  intro p e s m args below meth c ls E hr hlk hnm hK hH hz hl
  obtain ⟨hb, c0, _, _, _, _, _, _, _, _, _, _, _, _, _, _, _, c33, _, _⟩ := hB.c
  refine lv_aload_n E.1 E.2.1 dX9_trees_0 rfl (lv_at hl 0 rfl) ?_
  refine fw_get E hK hH c0 fc_X9 6 (by decide) ql_RX9_54 rfl rfl dX9_trees_1 ?_
  refine fw_getN E hK hH c33 fc_X2 4 (by decide) ql_RX9_99 rfl rfl dX9_trees_4 ?_
  refine fw_iret E hr hlk hH ?_ dX9_trees_7
  exact ⟨rfl, (fun _ _ => rfl), hz⟩
theorem x_cases (l : Launch) (G : fw_G) (M : fw_M) (N : Nat) (a : Nat) (hB : bn0 G M a)  : fMet l yX9_cases cX9_cases 1 (some .int) 8 170 0 0 G M N [.ref a] (fw_pi (fun r M1 n1 => r = iI 0 ∧ (∀ q, a + 378 ≤ q → M1 q = M q) ∧ n1 = N)) := by
  refine fw_met RX9 rfl (by decide +kernel) (Nat.le_of_ble_eq_true rfl) ?_
  intro p e s m args below meth c ls E hr hlk hnm hK hH hz hl
  obtain ⟨hb, c0, _, _, _, _, _, _, _, _, c9, _, _, _, _, _, _, _, _, _⟩ := hB.c
  refine lv_aload_n E.1 E.2.1 dX9_cases_0 rfl (lv_at hl 0 rfl) ?_
  refine fw_get E hK hH c0 fc_X9 1 (by decide) ql_RX9_19 rfl rfl dX9_cases_1 ?_
  refine fw_getN E hK hH c9 fc_X3 5 (by decide) ql_RX9_125 rfl rfl dX9_cases_4 ?_
  refine fw_iret E hr hlk hH ?_ dX9_cases_7
  exact ⟨rfl, (fun _ _ => rfl), hz⟩
theorem x_generations (l : Launch) (G : fw_G) (M : fw_M) (N : Nat) (a : Nat) (hB : bn0 G M a)  : fMet l yX9_generations cX9_generations 1 (some .int) 8 170 0 0 G M N [.ref a] (fw_pi (fun r M1 n1 => r = iI 0 ∧ (∀ q, a + 378 ≤ q → M1 q = M q) ∧ n1 = N)) := by
  refine fw_met RX9 rfl (by decide +kernel) (Nat.le_of_ble_eq_true rfl) ?_
  intro p e s m args below meth c ls E hr hlk hnm hK hH hz hl
  obtain ⟨hb, c0, _, _, _, _, _, _, _, _, _, _, _, _, _, _, _, c33, _, _⟩ := hB.c
  refine lv_aload_n E.1 E.2.1 dX9_generations_0 rfl (lv_at hl 0 rfl) ?_
  refine fw_get E hK hH c0 fc_X9 6 (by decide) ql_RX9_54 rfl rfl dX9_generations_1 ?_
  refine fw_getN E hK hH c33 fc_X2 5 (by decide) ql_RX9_280 rfl rfl dX9_generations_4 ?_
  refine fw_iret E hr hlk hH ?_ dX9_generations_7
  exact ⟨rfl, (fun _ _ => rfl), hz⟩
theorem x_misses (l : Launch) (G : fw_G) (M : fw_M) (N : Nat) (a : Nat) (hB : bn0 G M a)  : fMet l yX9_misses cX9_misses 1 (some .int) 8 170 0 0 G M N [.ref a] (fw_pi (fun r M1 n1 => r = iI 0 ∧ (∀ q, a + 378 ≤ q → M1 q = M q) ∧ n1 = N)) := by
  refine fw_met RX9 rfl (by decide +kernel) (Nat.le_of_ble_eq_true rfl) ?_
  intro p e s m args below meth c ls E hr hlk hnm hK hH hz hl
  obtain ⟨hb, c0, _, _, _, _, _, _, _, _, _, _, _, _, _, _, _, c33, _, _⟩ := hB.c
  refine lv_aload_n E.1 E.2.1 dX9_misses_0 rfl (lv_at hl 0 rfl) ?_
  refine fw_get E hK hH c0 fc_X9 6 (by decide) ql_RX9_54 rfl rfl dX9_misses_1 ?_
  refine fw_getN E hK hH c33 fc_X2 6 (by decide) ql_RX9_283 rfl rfl dX9_misses_4 ?_
  refine fw_iret E hr hlk hH ?_ dX9_misses_7
  exact ⟨rfl, (fun _ _ => rfl), hz⟩
theorem x_luck (l : Launch) (G : fw_G) (M : fw_M) (N : Nat) (a : Nat) (hB : bn0 G M a)  : fMet l yX9_luck cX9_luck 1 (some .int) 8 170 0 0 G M N [.ref a] (fw_pi (fun r M1 n1 => r = iI 0 ∧ (∀ q, a + 378 ≤ q → M1 q = M q) ∧ n1 = N)) := by
  refine fw_met RX9 rfl (by decide +kernel) (Nat.le_of_ble_eq_true rfl) ?_
  intro p e s m args below meth c ls E hr hlk hnm hK hH hz hl
  obtain ⟨hb, c0, _, _, _, _, _, _, _, _, _, _, _, _, _, _, _, c33, c34, _⟩ := hB.c
  refine lv_aload_n E.1 E.2.1 dX9_luck_0 rfl (lv_at hl 0 rfl) ?_
  refine fw_get E hK hH c0 fc_X9 6 (by decide) ql_RX9_54 rfl rfl dX9_luck_1 ?_
  refine fw_getN E hK hH c33 fc_X2 0 (by decide) ql_RX9_205 rfl rfl dX9_luck_4 ?_
  refine fw_getN E hK hH c34 fc_X1 2 (by decide) ql_RX9_209 rfl rfl dX9_luck_7 ?_
  refine fw_iret E hr hlk hH ?_ dX9_luck_10
  exact ⟨rfl, (fun _ _ => rfl), hz⟩
theorem x_waiting (l : Launch) (G : fw_G) (M : fw_M) (N : Nat) (a : Nat) (hB : bn0 G M a)  : fMet l yX9_waiting cX9_waiting 1 (some .int) 8 170 0 0 G M N [.ref a] (fw_pi (fun r M1 n1 => r = iI 0 ∧ (∀ q, a + 378 ≤ q → M1 q = M q) ∧ n1 = N)) := by
  refine fw_met RX9 rfl (by decide +kernel) (Nat.le_of_ble_eq_true rfl) ?_
  intro p e s m args below meth c ls E hr hlk hnm hK hH hz hl
  obtain ⟨hb, c0, _, _, _, _, _, _, _, _, _, _, _, _, _, _, _, c33, c34, _⟩ := hB.c
  refine lv_aload_n E.1 E.2.1 dX9_waiting_0 rfl (lv_at hl 0 rfl) ?_
  refine fw_get E hK hH c0 fc_X9 6 (by decide) ql_RX9_54 rfl rfl dX9_waiting_1 ?_
  refine fw_getN E hK hH c33 fc_X2 0 (by decide) ql_RX9_205 rfl rfl dX9_waiting_4 ?_
  refine fw_getN E hK hH c34 fc_X1 1 (by decide) ql_RX9_216 rfl rfl dX9_waiting_7 ?_
  refine fw_iret E hr hlk hH ?_ dX9_waiting_10
  exact ⟨rfl, (fun _ _ => rfl), hz⟩
theorem x_different (l : Launch) (G : fw_G) (M : fw_M) (N : Nat) (a : Nat) (hB : bn0 G M a)  : fMet l yX9_different cX9_different 3 (some .int) 1 30 0 0 G M N [.ref a] (fw_pi (fun r M1 n1 => r = iI 0 ∧ (∀ q, a + 378 ≤ q → M1 q = M q) ∧ n1 = N)) := by
  refine fw_met RX9 rfl (by decide +kernel) (Nat.le_of_ble_eq_true rfl) ?_
  intro p e s m args below meth c ls E hr hlk hnm hK hH hz hl
  obtain ⟨hb, c0, _, _, _, _, _, _, _, _, _, _, _, _, _, _, _, c33, _, _⟩ := hB.c
  refine lv_iconst (v := iI 0) E.1 E.2.1 dX9_different_0 (by decide) ?_
  refine lv_istore_n (lv' := [(1, .int (iI 0)), (0, .ref a)]) E.1 E.2.1 dX9_different_1 rfl hl (by decide) rfl (fun ls hl => ?_)
  refine lv_iconst (v := iI 0) E.1 E.2.1 dX9_different_2 (by decide) ?_
  refine lv_istore_n (lv' := [(2, .int (iI 0)), (1, .int (iI 0)), (0, .ref a)]) E.1 E.2.1 dX9_different_3 rfl hl (by decide) rfl (fun ls hl => ?_)
  refine lv_iload_n E.1 E.2.1 dX9_different_4 rfl (lv_at hl 0 rfl) ?_
  refine lv_aload_n E.1 E.2.1 dX9_different_5 rfl (lv_at hl 2 rfl) ?_
  refine fw_get E hK hH c0 fc_X9 6 (by decide) ql_RX9_54 rfl rfl dX9_different_6 ?_
  refine fw_getN E hK hH c33 fc_X2 4 (by decide) ql_RX9_99 rfl rfl dX9_different_9 ?_
  refine fw_icmp_ge (tgt := 35) E dX9_different_12 (by decide) (by omega) (by omega) (by omega) (by omega) (fun c1 => ?_) (fun c1 => ?_)
  · refine lv_iload_n E.1 E.2.1 dX9_different_35 rfl (lv_at hl 1 rfl) ?_
    refine fw_iret E hr hlk hH ?_ dX9_different_36
    exact ⟨rfl, (fun _ _ => rfl), hz⟩
  · exact absurd c1 (by omega)
theorem x_meanSize (l : Launch) (G : fw_G) (M : fw_M) (N : Nat) (a : Nat) (hB : bn0 G M a)  : fMet l yX9_meanSize cX9_meanSize 3 (some .double) 8 170 0 0 G M N [.ref a] (fw_pd (fun r M1 n1 => r = 0 ∧ (∀ q, a + 378 ≤ q → M1 q = M q) ∧ n1 = N)) := by
  refine fw_met RX9 rfl (by decide +kernel) (Nat.le_of_ble_eq_true rfl) ?_
  intro p e s m args below meth c ls E hr hlk hnm hK hH hz hl
  obtain ⟨hb, c0, _, _, _, _, _, _, _, _, _, _, _, _, _, _, _, c33, _, _⟩ := hB.c
  refine lv_aload_n E.1 E.2.1 dX9_meanSize_0 rfl (lv_at hl 0 rfl) ?_
  refine fw_get E hK hH c0 fc_X9 6 (by decide) ql_RX9_54 rfl rfl dX9_meanSize_1 ?_
  refine fw_getN E hK hH c33 fc_X2 4 (by decide) ql_RX9_99 rfl rfl dX9_meanSize_4 ?_
  refine fw_if_ne (tgt := 12) E dX9_meanSize_7 (by decide) (by omega) (by omega) (fun c1 => ?_) (fun c1 => ?_)
  · exact absurd c1 (by omega)
  · refine lv_dconst0 E.1 E.2.1 dX9_meanSize_10 ?_
    refine fw_dret E hr hlk hH ?_ dX9_meanSize_11
    exact ⟨rfl, (fun _ _ => rfl), hz⟩
theorem x_erase (l : Launch) (G : fw_G) (M : fw_M) (N : Nat) (a : Nat) (hB : bn0 G M a)  : fMet l yX9_erase cX9_erase 2 (some .int) 8 170 0 0 G M N [.ref a] (fw_pi (fun r M1 n1 => r = iI 0 ∧ (∀ q, a + 378 ≤ q → M1 q = M q) ∧ n1 = N)) := by
  refine fw_met RX9 rfl (by decide +kernel) (Nat.le_of_ble_eq_true rfl) ?_
  intro p e s m args below meth c ls E hr hlk hnm hK hH hz hl
  obtain ⟨hb, c0, c1, c2, _, _, _, _, _, _, _, _, _, _, _, _, _, _, _, _⟩ := hB.c
  refine lv_aload_n E.1 E.2.1 dX9_erase_0 rfl (lv_at hl 0 rfl) ?_
  refine fw_get E hK hH c0 fc_X9 0 (by decide) ql_RX9_10 rfl rfl dX9_erase_1 ?_
  refine fw_getN E hK hH c1 fc_X7 0 (by decide) ql_RX9_90 rfl rfl dX9_erase_4 ?_
  refine fw_getN E hK hH c2 fc_X8 4 (by decide) ql_RX9_93 rfl rfl dX9_erase_7 ?_
  refine lv_istore_n (lv' := [(1, .int (iI 0)), (0, .ref a)]) E.1 E.2.1 dX9_erase_10 rfl hl (by decide) rfl (fun ls hl => ?_)
  refine lv_aload_n E.1 E.2.1 dX9_erase_11 rfl (lv_at hl 1 rfl) ?_
  refine fw_get E hK hH c0 fc_X9 0 (by decide) ql_RX9_10 rfl rfl dX9_erase_12 ?_
  refine fw_cV (As := []) (rest := []) E hK hH hl c1 fc_X7 fL_X7_clear ql_RX9_96 qi_yX7_clear qv_yX7_clear (k_clear l G _ _ (a + 1) _ _ _ _ _ _ _ _ _ _ hB.2.1) rfl rfl (Nat.le_of_ble_eq_true rfl) ⟨Nat.le_of_ble_eq_true rfl, Nat.le_of_ble_eq_true rfl⟩ ⟨Nat.le_of_ble_eq_true rfl, Nat.le_of_ble_eq_true rfl⟩ dX9_erase_15 (fw_kv fun M2 H1 locs1 hp1 hH hz1 => ?_)
  obtain ⟨_, hz2, hfr⟩ := hp1
  replace hz := hz2.trans hz
  clear hz1 hz2
  have fr3 := hfr
  replace c0 : M2 a = some (.inr (9, [.ref (a + 1), .ref (a + 9), .ref (a + 17), .ref (a + 21), .ref (a + 26), .ref (a + 30), .ref (a + 33), .ref (a + 203), .ref (a + 373)])) := (fr3 _ (by omega)).trans c0
  refine lv_iload_n E.1 E.2.1 dX9_erase_18 rfl (lv_at hl 0 rfl) ?_
  refine fw_iret E hr hlk hH ?_ dX9_erase_19
  exact ⟨rfl, (fun q hq => by rw [fr3 q (by omega)]), hz⟩
theorem k_rank0 (l : Launch) (G : fw_G) (M : fw_M) (N : Nat) (a : Nat) (hB : bn0 G M a)  : fMet l yX4_rank cX4_rank 5 none 1 30 0 0 G M N [.ref (a + 17), .ref (a + 33), .ref (a + 9)] (fw_pv (fun M1 n1 => M1 = M ∧ n1 = N)) := by
  refine fw_met RX4 rfl (by decide +kernel) (Nat.le_of_ble_eq_true rfl) ?_
  intro p e s m args below meth c ls E hr hlk hnm hK hH hz hl
  obtain ⟨hb, _, _, _, _, _, _, _, _, _, c9, _, _, _, _, c17, _, c33, _, _⟩ := hB.c
  refine lv_iconst (v := iI 0) E.1 E.2.1 dX4_rank_0 (by decide) ?_
  refine lv_istore_n (lv' := [(3, .int (iI 0)), (0, .ref (a + 17)), (1, .ref (a + 33)), (2, .ref (a + 9))]) E.1 E.2.1 dX4_rank_1 rfl hl (by decide) rfl (fun ls hl => ?_)
  refine lv_iload_n E.1 E.2.1 dX4_rank_2 rfl (lv_at hl 0 rfl) ?_
  refine lv_aload_n E.1 E.2.1 dX4_rank_3 rfl (lv_at hl 2 rfl) ?_
  refine fw_getN E hK hH c33 fc_X2 4 (by decide) ql_RX4_21 rfl rfl dX4_rank_4 ?_
  refine fw_icmp_ge (tgt := 67) E dX4_rank_7 (by decide) (by omega) (by omega) (by omega) (by omega) (fun c1 => ?_) (fun c1 => ?_)
  · refine fw_vret E hr hlk hH ?_ dX4_rank_67
    exact ⟨rfl, hz⟩
  · exact absurd c1 (by omega)
def dgN : Int64 := 58042 * 31 * 31 * 31 * 31 * 31 * 31 * 31 * 31
theorem dg_eq : (58042 * 31 + (iI 0).toInt64) * 31 + (iI 0).toInt64 = (58042 * 31 * 31 : Int64) := by decide
theorem k_different0 (l : Launch) (G : fw_G) (M : fw_M) (N : Nat) (a : Nat) (hB : bn0 G M a)  : fMet l yX9_different cX9_different 3 (some .int) 1 30 0 0 G M N [.ref a] (fw_pi (fun r M1 n1 => r = iI 0 ∧ M1 = M ∧ n1 = N)) := by
  refine fw_met RX9 rfl (by decide +kernel) (Nat.le_of_ble_eq_true rfl) ?_
  intro p e s m args below meth c ls E hr hlk hnm hK hH hz hl
  obtain ⟨hb, c0, _, _, _, _, _, _, _, _, _, _, _, _, _, _, _, c33, _, _⟩ := hB.c
  refine lv_iconst (v := iI 0) E.1 E.2.1 dX9_different_0 (by decide) ?_
  refine lv_istore_n (lv' := [(1, .int (iI 0)), (0, .ref a)]) E.1 E.2.1 dX9_different_1 rfl hl (by decide) rfl (fun ls hl => ?_)
  refine lv_iconst (v := iI 0) E.1 E.2.1 dX9_different_2 (by decide) ?_
  refine lv_istore_n (lv' := [(2, .int (iI 0)), (1, .int (iI 0)), (0, .ref a)]) E.1 E.2.1 dX9_different_3 rfl hl (by decide) rfl (fun ls hl => ?_)
  refine lv_iload_n E.1 E.2.1 dX9_different_4 rfl (lv_at hl 0 rfl) ?_
  refine lv_aload_n E.1 E.2.1 dX9_different_5 rfl (lv_at hl 2 rfl) ?_
  refine fw_get E hK hH c0 fc_X9 6 (by decide) ql_RX9_54 rfl rfl dX9_different_6 ?_
  refine fw_getN E hK hH c33 fc_X2 4 (by decide) ql_RX9_99 rfl rfl dX9_different_9 ?_
  refine fw_icmp_ge (tgt := 35) E dX9_different_12 (by decide) (by omega) (by omega) (by omega) (by omega) (fun c1 => ?_) (fun c1 => ?_)
  · refine lv_iload_n E.1 E.2.1 dX9_different_35 rfl (lv_at hl 1 rfl) ?_
    refine fw_iret E hr hlk hH ?_ dX9_different_36
    exact ⟨rfl, rfl, hz⟩
  · exact absurd c1 (by omega)
theorem x_digest (l : Launch) (G : fw_G) (M : fw_M) (N : Nat) (a : Nat) (hB : bn0 G M a)  : fMet l yX9_digest cX9_digest 4 (some .long) 8 170 0 0 G M N [.ref a] (fw_pl (fun r M1 n1 => r = dgN ∧ (∀ q, a + 378 ≤ q → M1 q = M q) ∧ n1 = N)) := by
  refine fw_met RX9 rfl (by decide +kernel) (Nat.le_of_ble_eq_true rfl) ?_
  intro p e s m args below meth c ls E hr hlk hnm hK hH hz hl
  obtain ⟨hb, c0, c1, c2, _, _, _, _, _, _, c9, _, _, _, _, c17, _, c33, c34, _⟩ := hB.c
  refine lv_ldc2 E.1 E.2.1 E.2.2.2.1 (E.2.2.2.2 _ ql_RX9_289) dX9_digest_0 ?_
  refine lv_lstore_n (lv' := [(1, .long 58042), (0, .ref a)]) E.1 E.2.1 dX9_digest_3 rfl hl (by decide) rfl (fun ls hl => ?_)
  refine lv_lload_n E.1 E.2.1 dX9_digest_4 rfl (lv_at hl 0 rfl) ?_
  refine lv_ldc2 E.1 E.2.1 E.2.2.2.1 (E.2.2.2.2 _ ql_RX9_291) dX9_digest_5 ?_
  refine lv_lmul E.1 E.2.1 dX9_digest_8 ?_
  refine lv_aload_n E.1 E.2.1 dX9_digest_9 rfl (lv_at hl 1 rfl) ?_
  refine fw_get E hK hH c0 fc_X9 0 (by decide) ql_RX9_10 rfl rfl dX9_digest_10 ?_
  refine fw_getN E hK hH c1 fc_X7 0 (by decide) ql_RX9_90 rfl rfl dX9_digest_13 ?_
  refine fw_getN E hK hH c2 fc_X8 4 (by decide) ql_RX9_93 rfl rfl dX9_digest_16 ?_
  refine lv_i2l (v := (iI 0).toInt64) E.1 E.2.1 dX9_digest_19 rfl ?_
  refine lv_ladd E.1 E.2.1 dX9_digest_20 ?_
  refine lv_lstore_n (lv' := [(1, .long ((58042 * 31) + (iI 0).toInt64)), (0, .ref a)]) E.1 E.2.1 dX9_digest_21 rfl hl (by decide) rfl (fun ls hl => ?_)
  refine lv_lload_n E.1 E.2.1 dX9_digest_22 rfl (lv_at hl 0 rfl) ?_
  refine lv_ldc2 E.1 E.2.1 E.2.2.2.1 (E.2.2.2.2 _ ql_RX9_291) dX9_digest_23 ?_
  refine lv_lmul E.1 E.2.1 dX9_digest_26 ?_
  refine lv_aload_n E.1 E.2.1 dX9_digest_27 rfl (lv_at hl 1 rfl) ?_
  refine fw_get E hK hH c0 fc_X9 6 (by decide) ql_RX9_54 rfl rfl dX9_digest_28 ?_
  refine fw_getN E hK hH c33 fc_X2 4 (by decide) ql_RX9_99 rfl rfl dX9_digest_31 ?_
  refine lv_i2l (v := (iI 0).toInt64) E.1 E.2.1 dX9_digest_34 rfl ?_
  refine lv_ladd E.1 E.2.1 dX9_digest_35 ?_
  refine lv_lstore_n (lv' := [(1, .long ((((58042 * 31) + (iI 0).toInt64) * 31) + (iI 0).toInt64)), (0, .ref a)]) E.1 E.2.1 dX9_digest_36 rfl hl (by decide) rfl (fun ls hl => ?_)
  refine lv_lload_n E.1 E.2.1 dX9_digest_37 rfl (lv_at hl 0 rfl) ?_
  refine lv_ldc2 E.1 E.2.1 E.2.2.2.1 (E.2.2.2.2 _ ql_RX9_291) dX9_digest_38 ?_
  refine lv_lmul E.1 E.2.1 dX9_digest_41 ?_
  refine lv_aload_n E.1 E.2.1 dX9_digest_42 rfl (lv_at hl 1 rfl) ?_
  refine fw_get E hK hH c0 fc_X9 1 (by decide) ql_RX9_19 rfl rfl dX9_digest_43 ?_
  refine fw_getN E hK hH c9 fc_X3 5 (by decide) ql_RX9_125 rfl rfl dX9_digest_46 ?_
  refine lv_i2l (v := (iI 0).toInt64) E.1 E.2.1 dX9_digest_49 rfl ?_
  refine lv_ladd E.1 E.2.1 dX9_digest_50 ?_
  refine lv_lstore_n (lv' := [(1, .long ((((((58042 * 31) + (iI 0).toInt64) * 31) + (iI 0).toInt64) * 31) + (iI 0).toInt64)), (0, .ref a)]) E.1 E.2.1 dX9_digest_51 rfl hl (by decide) rfl (fun ls hl => ?_)
  refine lv_lload_n E.1 E.2.1 dX9_digest_52 rfl (lv_at hl 0 rfl) ?_
  refine lv_ldc2 E.1 E.2.1 E.2.2.2.1 (E.2.2.2.2 _ ql_RX9_291) dX9_digest_53 ?_
  refine lv_lmul E.1 E.2.1 dX9_digest_56 ?_
  refine lv_aload_n E.1 E.2.1 dX9_digest_57 rfl (lv_at hl 1 rfl) ?_
  refine fw_get E hK hH c0 fc_X9 6 (by decide) ql_RX9_54 rfl rfl dX9_digest_58 ?_
  refine fw_getN E hK hH c33 fc_X2 5 (by decide) ql_RX9_280 rfl rfl dX9_digest_61 ?_
  refine lv_i2l (v := (iI 0).toInt64) E.1 E.2.1 dX9_digest_64 rfl ?_
  refine lv_ladd E.1 E.2.1 dX9_digest_65 ?_
  refine lv_lstore_n (lv' := [(1, .long ((((((((58042 * 31) + (iI 0).toInt64) * 31) + (iI 0).toInt64) * 31) + (iI 0).toInt64) * 31) + (iI 0).toInt64)), (0, .ref a)]) E.1 E.2.1 dX9_digest_66 rfl hl (by decide) rfl (fun ls hl => ?_)
  refine lv_lload_n E.1 E.2.1 dX9_digest_67 rfl (lv_at hl 0 rfl) ?_
  refine lv_ldc2 E.1 E.2.1 E.2.2.2.1 (E.2.2.2.2 _ ql_RX9_291) dX9_digest_68 ?_
  refine lv_lmul E.1 E.2.1 dX9_digest_71 ?_
  refine lv_aload_n E.1 E.2.1 dX9_digest_72 rfl (lv_at hl 1 rfl) ?_
  refine fw_get E hK hH c0 fc_X9 6 (by decide) ql_RX9_54 rfl rfl dX9_digest_73 ?_
  refine fw_getN E hK hH c33 fc_X2 6 (by decide) ql_RX9_283 rfl rfl dX9_digest_76 ?_
  refine lv_i2l (v := (iI 0).toInt64) E.1 E.2.1 dX9_digest_79 rfl ?_
  refine lv_ladd E.1 E.2.1 dX9_digest_80 ?_
  refine lv_lstore_n (lv' := [(1, .long ((((((((((58042 * 31) + (iI 0).toInt64) * 31) + (iI 0).toInt64) * 31) + (iI 0).toInt64) * 31) + (iI 0).toInt64) * 31) + (iI 0).toInt64)), (0, .ref a)]) E.1 E.2.1 dX9_digest_81 rfl hl (by decide) rfl (fun ls hl => ?_)
  refine lv_lload_n E.1 E.2.1 dX9_digest_82 rfl (lv_at hl 0 rfl) ?_
  refine lv_ldc2 E.1 E.2.1 E.2.2.2.1 (E.2.2.2.2 _ ql_RX9_291) dX9_digest_83 ?_
  refine lv_lmul E.1 E.2.1 dX9_digest_86 ?_
  refine lv_aload_n E.1 E.2.1 dX9_digest_87 rfl (lv_at hl 1 rfl) ?_
  refine fw_get E hK hH c0 fc_X9 6 (by decide) ql_RX9_54 rfl rfl dX9_digest_88 ?_
  refine fw_getN E hK hH c33 fc_X2 0 (by decide) ql_RX9_205 rfl rfl dX9_digest_91 ?_
  refine fw_getN E hK hH c34 fc_X1 2 (by decide) ql_RX9_209 rfl rfl dX9_digest_94 ?_
  refine lv_i2l (v := (iI 0).toInt64) E.1 E.2.1 dX9_digest_97 rfl ?_
  refine lv_ladd E.1 E.2.1 dX9_digest_98 ?_
  refine lv_lstore_n (lv' := [(1, .long ((((((((((((58042 * 31) + (iI 0).toInt64) * 31) + (iI 0).toInt64) * 31) + (iI 0).toInt64) * 31) + (iI 0).toInt64) * 31) + (iI 0).toInt64) * 31) + (iI 0).toInt64)), (0, .ref a)]) E.1 E.2.1 dX9_digest_99 rfl hl (by decide) rfl (fun ls hl => ?_)
  refine lv_lload_n E.1 E.2.1 dX9_digest_100 rfl (lv_at hl 0 rfl) ?_
  refine lv_ldc2 E.1 E.2.1 E.2.2.2.1 (E.2.2.2.2 _ ql_RX9_291) dX9_digest_101 ?_
  refine lv_lmul E.1 E.2.1 dX9_digest_104 ?_
  refine lv_aload_n E.1 E.2.1 dX9_digest_105 rfl (lv_at hl 1 rfl) ?_
  refine fw_get E hK hH c0 fc_X9 6 (by decide) ql_RX9_54 rfl rfl dX9_digest_106 ?_
  refine fw_getN E hK hH c33 fc_X2 0 (by decide) ql_RX9_205 rfl rfl dX9_digest_109 ?_
  refine fw_getN E hK hH c34 fc_X1 1 (by decide) ql_RX9_216 rfl rfl dX9_digest_112 ?_
  refine lv_i2l (v := (iI 0).toInt64) E.1 E.2.1 dX9_digest_115 rfl ?_
  refine lv_ladd E.1 E.2.1 dX9_digest_116 ?_
  refine lv_lstore_n (lv' := [(1, .long ((((((((((((((58042 * 31) + (iI 0).toInt64) * 31) + (iI 0).toInt64) * 31) + (iI 0).toInt64) * 31) + (iI 0).toInt64) * 31) + (iI 0).toInt64) * 31) + (iI 0).toInt64) * 31) + (iI 0).toInt64)), (0, .ref a)]) E.1 E.2.1 dX9_digest_117 rfl hl (by decide) rfl (fun ls hl => ?_)
  refine lv_lload_n E.1 E.2.1 dX9_digest_118 rfl (lv_at hl 0 rfl) ?_
  refine lv_ldc2 E.1 E.2.1 E.2.2.2.1 (E.2.2.2.2 _ ql_RX9_291) dX9_digest_119 ?_
  refine lv_lmul E.1 E.2.1 dX9_digest_122 ?_
  refine lv_aload_n E.1 E.2.1 dX9_digest_123 rfl (lv_at hl 1 rfl) ?_
  refine fw_cV (As := []) (rest := [.long (((((((((((((((58042 * 31) + (iI 0).toInt64) * 31) + (iI 0).toInt64) * 31) + (iI 0).toInt64) * 31) + (iI 0).toInt64) * 31) + (iI 0).toInt64) * 31) + (iI 0).toInt64) * 31) + (iI 0).toInt64) * 31)]) E hK hH hl c0 fc_X9 fL_X9_different ql_RX9_293 qi_yX9_different qv_yX9_different (k_different0 l G _ _ a hB) rfl rfl (Nat.le_of_ble_eq_true rfl) ⟨Nat.le_of_ble_eq_true rfl, Nat.le_of_ble_eq_true rfl⟩ ⟨Nat.le_of_ble_eq_true rfl, Nat.le_of_ble_eq_true rfl⟩ dX9_digest_124 (fw_ki fun r3 M2 H1 locs1 hp1 hH hz1 => ?_)
  obtain ⟨rfl, hM9, hz2⟩ := hp1
  replace hz := hz2.trans hz
  clear hz1 hz2
  rw [hM9] at hH
  refine lv_i2l (v := (iI 0).toInt64) E.1 E.2.1 dX9_digest_127 rfl ?_
  refine lv_ladd E.1 E.2.1 dX9_digest_128 ?_
  refine lv_lstore_n (lv' := [(1, .long ((((((((((((((((58042 * 31) + (iI 0).toInt64) * 31) + (iI 0).toInt64) * 31) + (iI 0).toInt64) * 31) + (iI 0).toInt64) * 31) + (iI 0).toInt64) * 31) + (iI 0).toInt64) * 31) + (iI 0).toInt64) * 31) + (iI 0).toInt64)), (0, .ref a)]) E.1 E.2.1 dX9_digest_129 rfl hl (by decide) rfl (fun ls hl => ?_)
  refine lv_iconst (v := iI 0) E.1 E.2.1 dX9_digest_130 (by decide) ?_
  refine lv_istore_n (lv' := [(3, .int (iI 0)), (1, .long ((((((((((((((((58042 * 31) + (iI 0).toInt64) * 31) + (iI 0).toInt64) * 31) + (iI 0).toInt64) * 31) + (iI 0).toInt64) * 31) + (iI 0).toInt64) * 31) + (iI 0).toInt64) * 31) + (iI 0).toInt64) * 31) + (iI 0).toInt64)), (0, .ref a)]) E.1 E.2.1 dX9_digest_131 rfl hl (by decide) rfl (fun ls hl => ?_)
  refine lv_iload_n E.1 E.2.1 dX9_digest_132 rfl (lv_at hl 0 rfl) ?_
  refine lv_aload_n E.1 E.2.1 dX9_digest_133 rfl (lv_at hl 2 rfl) ?_
  refine fw_get E hK hH c0 fc_X9 6 (by decide) ql_RX9_54 rfl rfl dX9_digest_134 ?_
  refine fw_getN E hK hH c33 fc_X2 4 (by decide) ql_RX9_99 rfl rfl dX9_digest_137 ?_
  refine fw_icmp_ge (tgt := 163) E dX9_digest_140 (by decide) (by omega) (by omega) (by omega) (by omega) (fun c4 => ?_) (fun c4 => ?_)
  · refine lv_aload_n E.1 E.2.1 dX9_digest_163 rfl (lv_at hl 2 rfl) ?_
    refine fw_get E hK hH c0 fc_X9 2 (by decide) ql_RX9_26 rfl rfl dX9_digest_164 ?_
    refine lv_aload_n E.1 E.2.1 dX9_digest_167 rfl (lv_at hl 2 rfl) ?_
    refine fw_get E hK hH c0 fc_X9 6 (by decide) ql_RX9_54 rfl rfl dX9_digest_168 ?_
    refine lv_aload_n E.1 E.2.1 dX9_digest_171 rfl (lv_at hl 2 rfl) ?_
    refine fw_get E hK hH c0 fc_X9 1 (by decide) ql_RX9_19 rfl rfl dX9_digest_172 ?_
    refine fw_cV (As := [.ref (a + 33), .ref (a + 9)]) (rest := []) E hK hH hl c17 fc_X4 fL_X4_rank ql_RX9_264 qi_yX4_rank qv_yX4_rank (k_rank0 l G _ _ a hB) rfl rfl (Nat.le_of_ble_eq_true rfl) ⟨Nat.le_of_ble_eq_true rfl, Nat.le_of_ble_eq_true rfl⟩ ⟨Nat.le_of_ble_eq_true rfl, Nat.le_of_ble_eq_true rfl⟩ dX9_digest_175 (fw_kv fun M6 H1 locs1 hp5 hH hz1 => ?_)
    obtain ⟨hM9, hz2⟩ := hp5
    replace hz := hz2.trans hz
    clear hz1 hz2
    rw [hM9] at hH
    refine lv_iconst (v := iI 0) E.1 E.2.1 dX9_digest_178 (by decide) ?_
    refine lv_istore_n (lv' := [(3, .int (iI 0)), (1, .long ((((((((((((((((58042 * 31) + (iI 0).toInt64) * 31) + (iI 0).toInt64) * 31) + (iI 0).toInt64) * 31) + (iI 0).toInt64) * 31) + (iI 0).toInt64) * 31) + (iI 0).toInt64) * 31) + (iI 0).toInt64) * 31) + (iI 0).toInt64)), (0, .ref a)]) E.1 E.2.1 dX9_digest_179 rfl hl (by decide) rfl (fun ls hl => ?_)
    refine lv_iload_n E.1 E.2.1 dX9_digest_180 rfl (lv_at hl 0 rfl) ?_
    refine lv_aload_n E.1 E.2.1 dX9_digest_181 rfl (lv_at hl 2 rfl) ?_
    refine fw_get E hK hH c0 fc_X9 6 (by decide) ql_RX9_54 rfl rfl dX9_digest_182 ?_
    refine fw_getN E hK hH c33 fc_X2 4 (by decide) ql_RX9_99 rfl rfl dX9_digest_185 ?_
    refine fw_icmp_ge (tgt := 213) E dX9_digest_188 (by decide) (by omega) (by omega) (by omega) (by omega) (fun c7 => ?_) (fun c7 => ?_)
    · refine lv_lload_n E.1 E.2.1 dX9_digest_213 rfl (lv_at hl 1 rfl) ?_
      refine fw_lret E hr hlk hH ?_ dX9_digest_214
      exact ⟨by decide, (fun _ _ => rfl), hz⟩
    · exact absurd c7 (by omega)
  · exact absurd c4 (by omega)

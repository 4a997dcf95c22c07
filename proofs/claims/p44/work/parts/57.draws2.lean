theorem fL_L_cell : fw_L0 yL_cell cL_cell 2 (some .int) 2 := ⟨qn_RL, qc_yL_cell, rfl, by decide +kernel, by decide +kernel, by decide +kernel⟩
theorem fL_L_below : fw_L0 yL_below cL_below 2 (some .int) 2 := ⟨qn_RL, qc_yL_below, rfl, by decide +kernel, by decide +kernel, by decide +kernel⟩
theorem l_cell (l : Launch) (G : fw_G) (M : fw_M) (N : Nat) (k : Nat) (hk : k < 1000) : fMet l yL_cell cL_cell 2 (some .int) 0 0 0 0 G M N [.ref (G.2.2.2.2 3), .int (iI ↑k)] (fw_pi (fun r M1 n1 => (∃ z : Int, r = iI z) ∧ M1 = M ∧ n1 = N)) := by
  refine fw_met RL rfl (by decide +kernel) (Nat.le_of_ble_eq_true rfl) ?_
  intro pG e s m args below meth cG ls E hr hlk hnm hK hH hz hl
  obtain ⟨L, xs, hL, hT⟩ := hK.me.2.2.2.2.2.2.2.2
  refine lv_iload_n E.1 E.2.1 dL_cell_0 rfl (lv_at hl 1 rfl) ?_
  refine lv_aload_n E.1 E.2.1 dL_cell_1 rfl (lv_at hl 0 rfl) ?_
  refine fw_tlen E hH hT (v := iI ↑L) rfl dL_cell_2 ?_
  refine fw_icmp_ge (tgt := 12) E dL_cell_3 (by decide) (by omega) (by omega) (by omega) (by omega) (fun c1 => ?_) (fun c1 => ?_)
  · refine lv_ldc E.1 E.2.1 E.2.2.2.1 (E.2.2.2.2 _ ql_RL_8) dL_cell_12 ?_
    refine fw_cv (y := iI 790386105) (by decide) ?_
    refine lv_iload_n E.1 E.2.1 dL_cell_14 rfl (lv_at hl 1 rfl) ?_
    refine lv_iconst (v := iI 3) E.1 E.2.1 dL_cell_15 (by decide) ?_
    refine fw_iadd E dL_cell_16 ?_
    refine fw_imul E dL_cell_17 ?_
    refine fw_iret E hr hlk hH ?_ dL_cell_18
    exact ⟨⟨_, rfl⟩, rfl, hz⟩
  · refine lv_aload_n E.1 E.2.1 dL_cell_6 rfl (lv_at hl 0 rfl) ?_
    refine lv_iload_n E.1 E.2.1 dL_cell_7 rfl (lv_at hl 1 rfl) ?_
    refine fw_ti E hH hT (v := .int (iI (xs k).toInt)) (iI_in (by omega) (by omega) (by omega)) (by rw [iI_ix (by omega) (by omega), Int.toNat_natCast, iI_of]) dL_cell_8 ?_
    refine lv_goto (tgt := 18) E.1 E.2.1 dL_cell_9 (by decide) ?_
    refine fw_iret E hr hlk hH ?_ dL_cell_18
    exact ⟨⟨_, rfl⟩, rfl, hz⟩
theorem l_below (l : Launch) (G : fw_G) (M : fw_M) (N : Nat) (v : Int) (n : Nat) (hn : 0 < n ∧ n ≤ 10000) : fMet l yL_below cL_below 2 (some .int) 0 0 0 0 G M N [.int (iI v), .int (iI ↑n)] (fw_pi (fun r M1 n1 => (∃ k : Nat, r = iI ↑k ∧ k < n) ∧ M1 = M ∧ n1 = N)) := by
  refine fw_met RL rfl (by decide +kernel) (Nat.le_of_ble_eq_true rfl) ?_
  intro pG e s m args below meth cG ls E hr hlk hnm hK hH hz hl
  refine lv_iload_n E.1 E.2.1 dL_below_0 rfl (lv_at hl 0 rfl) ?_
  refine lv_ldc E.1 E.2.1 E.2.2.2.1 (E.2.2.2.2 _ ql_RL_7) dL_below_1 ?_
  refine fw_cv (y := iI 2147483647) (by decide) ?_
  refine lv_iand E.1 E.2.1 dL_below_3 ?_
  obtain ⟨ja6, hja6, eja6⟩ := and_ex (iI v)
  refine fw_cv (y := iI ↑ja6) eja6 ?_
  refine lv_iload_n E.1 E.2.1 dL_below_4 rfl (lv_at hl 1 rfl) ?_
  refine fw_irem E (by omega) (by omega) (by omega) (by omega) (by omega) dL_below_5 ?_
  refine fw_iret E hr hlk hH ?_ dL_below_6
  exact ⟨⟨_, congrArg iI (show Int.tmod (↑ja6 : Int) ↑n = ((ja6 % n : Nat) : Int) from rfl), Nat.mod_lt _ hn.1⟩, rfl, hz⟩
theorem l_draw (l : Launch) (G : fw_G) (M : fw_M) (N : Nat) (a dw n : Nat) (tr cs : Int) (hba : G.2.2.1 ≤ a) (g0 : M a = some (.inr (10, [.ref (a + 1), .ref (G.2.2.2.2 3), .int (iI ↑dw), .int (iI tr), .ref (a + 379), .int (iI cs), .ref (a + 380)]))) (hd : dw < 20000) (hn : 0 < n ∧ n ≤ 10000) : fMet l yX10_draw cX10_draw 3 (some .int) 1 30 0 0 G M N [.ref a, .int (iI ↑n)] (fw_pi (fun r M1 n1 => (∃ k : Nat, r = iI ↑k ∧ k < n) ∧ M1 a = some (.inr (10, [.ref (a + 1), .ref (G.2.2.2.2 3), .int (iI ↑(dw + 1)), .int (iI tr), .ref (a + 379), .int (iI cs), .ref (a + 380)])) ∧ (∀ q, q ≠ a → M1 q = M q) ∧ n1 = N)) := by
  refine fw_met RX10 rfl (by decide +kernel) (Nat.le_of_ble_eq_true rfl) ?_
  intro pG e s m args below meth cG ls E hr hlk hnm hK hH hz hl
  refine lv_aload_n E.1 E.2.1 dX10_draw_0 rfl (lv_at hl 0 rfl) ?_
  refine fw_get E hK hH g0 fc_X10 1 (by decide) ql_RX10_25 rfl rfl dX10_draw_1 ?_
  refine lv_aload_n E.1 E.2.1 dX10_draw_4 rfl (lv_at hl 0 rfl) ?_
  refine fw_get E hK hH g0 fc_X10 2 (by decide) ql_RX10_28 rfl rfl dX10_draw_5 ?_
  refine lv_bipush (v := iI 24) E.1 E.2.1 dX10_draw_8 (by decide) ?_
  refine fw_irem E (by omega) (by omega) (by omega) (by omega) (by omega) dX10_draw_10 ?_
  refine fw_cv (y := iI (↑(dw % 24))) rfl ?_
  refine fw_cSN (As := [.ref (G.2.2.2.2 3), .int (iI (↑(dw % 24)))]) (rest := []) E hK hH hl fL_L_cell ql_RX10_32 qs_yL_cell (l_cell l G _ _ (dw % 24) (by omega)) rfl rfl (Nat.le_of_ble_eq_true rfl) ⟨Nat.le_of_ble_eq_true rfl, Nat.le_of_ble_eq_true rfl⟩ ⟨Nat.le_of_ble_eq_true rfl, Nat.le_of_ble_eq_true rfl⟩ dX10_draw_11 (fw_ki fun r3 M2 H1 locs1 hp1 hH hz1 => ?_)
  obtain ⟨⟨zc10, rfl⟩, hM9, hz2⟩ := hp1
  replace hz := hz2.trans hz
  clear hz1 hz2
  rw [hM9] at hH
  refine lv_aload_n E.1 E.2.1 dX10_draw_14 rfl (lv_at hl 0 rfl) ?_
  refine fw_get E hK hH g0 fc_X10 2 (by decide) ql_RX10_28 rfl rfl dX10_draw_15 ?_
  refine lv_bipush (v := iI 24) E.1 E.2.1 dX10_draw_18 (by decide) ?_
  refine fw_idiv E (by omega) (by omega) (by omega) (by omega) (by omega) dX10_draw_20 ?_
  refine fw_cv (y := iI (↑(dw / 24))) rfl ?_
  refine lv_bipush (v := iI 8) E.1 E.2.1 dX10_draw_21 (by decide) ?_
  refine fw_irem E (by omega) (by omega) (by omega) (by omega) (by omega) dX10_draw_23 ?_
  refine lv_ishr E.1 E.2.1 dX10_draw_24 ?_
  obtain ⟨sh22, esh22⟩ := sh_ex (iI zc10 >>> (iI (Int.tmod (↑(dw / 24)) 8) &&& 31))
  refine fw_cv (y := iI sh22) esh22 ?_
  refine lv_bipush (v := iI 71) E.1 E.2.1 dX10_draw_25 (by decide) ?_
  refine lv_aload_n E.1 E.2.1 dX10_draw_27 rfl (lv_at hl 0 rfl) ?_
  refine fw_get E hK hH g0 fc_X10 2 (by decide) ql_RX10_28 rfl rfl dX10_draw_28 ?_
  refine fw_imul E dX10_draw_31 ?_
  refine fw_iadd E dX10_draw_32 ?_
  refine lv_iload_n E.1 E.2.1 dX10_draw_33 rfl (lv_at hl 1 rfl) ?_
  refine fw_cSN (As := [.int (iI (sh22 + (71 * (↑dw)))), .int (iI ↑n)]) (rest := []) E hK hH hl fL_L_below ql_RX10_38 qs_yL_below (l_below l G _ _ (sh22 + (71 * (↑dw))) n (by omega)) rfl rfl (Nat.le_of_ble_eq_true rfl) ⟨Nat.le_of_ble_eq_true rfl, Nat.le_of_ble_eq_true rfl⟩ ⟨Nat.le_of_ble_eq_true rfl, Nat.le_of_ble_eq_true rfl⟩ dX10_draw_34 (fw_ki fun r6 M5 H1 locs1 hp4 hH hz1 => ?_)
  obtain ⟨⟨kd31, rfl, hkd31⟩, hM9, hz2⟩ := hp4
  replace hz := hz2.trans hz
  clear hz1 hz2
  rw [hM9] at hH
  refine lv_istore_n (lv' := [(2, .int (iI ↑kd31)), (0, .ref a), (1, .int (iI ↑n))]) E.1 E.2.1 dX10_draw_37 rfl hl (by decide) rfl (fun ls hl => ?_)
  refine lv_aload_n E.1 E.2.1 dX10_draw_38 rfl (lv_at hl 1 rfl) ?_
  refine lv_dup E.1 E.2.1 dX10_draw_39 rfl ?_
  refine fw_get E hK hH g0 fc_X10 2 (by decide) ql_RX10_28 rfl rfl dX10_draw_40 ?_
  refine lv_iconst (v := iI 1) E.1 E.2.1 dX10_draw_43 (by decide) ?_
  refine fw_iadd E dX10_draw_44 ?_
  refine fw_put E hK hH (by omega) g0 fc_X10 2 (by decide) ql_RX10_28 rfl rfl rfl rfl (Nat.le_of_ble_eq_true rfl) dX10_draw_45 (fun H1 locs1 hH hz1 => ?_)
  replace hz := hz1.trans hz; clear hz1
  obtain ⟨M7, hM8⟩ : ∃ MX, MX = fw_up M a (.inr (10, [.ref (a + 1), .ref (G.2.2.2.2 3), .int (iI ((↑dw) + 1)), .int (iI tr), .ref (a + 379), .int (iI cs), .ref (a + 380)])) := ⟨_, rfl⟩
  replace hH := fw_H.nm hM8 hH
  have fr9 : ∀ q, q ≠ a → M7 q = M q := fun q h => by rw [hM8]; exact fw_up_ne h
  have g0 : M7 a = some (.inr (10, [.ref (a + 1), .ref (G.2.2.2.2 3), .int (iI ((↑dw) + 1)), .int (iI tr), .ref (a + 379), .int (iI cs), .ref (a + 380)])) := by rw [hM8]; exact fw_up_eq
  refine lv_iload_n E.1 E.2.1 dX10_draw_48 rfl (lv_at hl 0 rfl) ?_
  refine fw_iret E hr hlk hH ?_ dX10_draw_49
  exact ⟨⟨_, rfl, hkd31⟩, by rw [show ((↑(dw + 1)) : Int) = ↑dw + 1 by omega]; exact g0, (fun q hq => by rw [fr9 q (by omega)]), hz⟩
theorem l_many (l : Launch) (G : fw_G) (M : fw_M) (N : Nat) (c : Int) (hc : 0 ≤ c ∧ c ≤ 13) : fMet l yX10_many cX10_many 1 (some .int) 0 0 0 0 G M N [.int (iI c)] (fw_pi (fun r M1 n1 => r = iI (↑(arN c)) ∧ M1 = M ∧ n1 = N)) := by
  refine fw_met RX10 rfl (by decide +kernel) (Nat.le_of_ble_eq_true rfl) ?_
  intro pG e s m args below meth cG ls E hr hlk hnm hK hH hz hl
  refine lv_iload_n E.1 E.2.1 dX10_many_0 rfl (lv_at hl 0 rfl) ?_
  refine lv_iconst (v := iI 2) E.1 E.2.1 dX10_many_1 (by decide) ?_
  refine fw_icmp_ge (tgt := 9) E dX10_many_2 (by decide) (by omega) (by omega) (by omega) (by omega) (fun c1 => ?_) (fun c1 => ?_)
  · refine lv_iload_n E.1 E.2.1 dX10_many_9 rfl (lv_at hl 0 rfl) ?_
    refine lv_bipush (v := iI 8) E.1 E.2.1 dX10_many_10 (by decide) ?_
    refine fw_icmp_ne (tgt := 19) E dX10_many_12 (by decide) (by omega) (by omega) (by omega) (by omega) (fun c2 => ?_) (fun c2 => ?_)
    · refine lv_iload_n E.1 E.2.1 dX10_many_19 rfl (lv_at hl 0 rfl) ?_
      refine lv_bipush (v := iI 13) E.1 E.2.1 dX10_many_20 (by decide) ?_
      refine fw_icmp_ne (tgt := 29) E dX10_many_22 (by decide) (by omega) (by omega) (by omega) (by omega) (fun c3 => ?_) (fun c3 => ?_)
      · refine lv_iconst (v := iI 2) E.1 E.2.1 dX10_many_29 (by decide) ?_
        refine fw_iret E hr hlk hH ?_ dX10_many_30
        exact ⟨congrArg iI (by unfold arN; (repeat' split) <;> omega), rfl, hz⟩
      · refine lv_iconst (v := iI 1) E.1 E.2.1 dX10_many_25 (by decide) ?_
        refine lv_goto (tgt := 30) E.1 E.2.1 dX10_many_26 (by decide) ?_
        refine fw_iret E hr hlk hH ?_ dX10_many_30
        exact ⟨congrArg iI (by unfold arN; (repeat' split) <;> omega), rfl, hz⟩
    · refine lv_iconst (v := iI 3) E.1 E.2.1 dX10_many_15 (by decide) ?_
      refine lv_goto (tgt := 30) E.1 E.2.1 dX10_many_16 (by decide) ?_
      refine fw_iret E hr hlk hH ?_ dX10_many_30
      exact ⟨congrArg iI (by unfold arN; (repeat' split) <;> omega), rfl, hz⟩
  · refine lv_iconst (v := iI 0) E.1 E.2.1 dX10_many_5 (by decide) ?_
    refine lv_goto (tgt := 30) E.1 E.2.1 dX10_many_6 (by decide) ?_
    refine fw_iret E hr hlk hH ?_ dX10_many_30
    exact ⟨congrArg iI (by unfold arN; (repeat' split) <;> omega), rfl, hz⟩
theorem l_isNumber (l : Launch) (G : fw_G) (M : fw_M) (N : Nat) (c : Int) (i : Nat) (hc : 0 ≤ c ∧ c ≤ 13) (hi : i < arN c) : fMet l yX10_isNumber cX10_isNumber 2 (some .boolean) 0 0 0 0 G M N [.int (iI c), .int (iI ↑i)] (fw_pi (fun r M1 n1 => r = iI (nmP c i) ∧ M1 = M ∧ n1 = N)) := by
  refine fw_met RX10 rfl (by decide +kernel) (Nat.le_of_ble_eq_true rfl) ?_
  intro pG e s m args below meth cG ls E hr hlk hnm hK hH hz hl
  have har := arN_le c
  refine lv_iload_n E.1 E.2.1 dX10_isNumber_0 rfl (lv_at hl 0 rfl) ?_
  refine lv_bipush (v := iI 8) E.1 E.2.1 dX10_isNumber_1 (by decide) ?_
  refine fw_icmp_lt (tgt := 28) E dX10_isNumber_3 (by decide) (by omega) (by omega) (by omega) (by omega) (fun c1 => ?_) (fun c1 => ?_)
  · refine lv_iconst (v := iI 1) E.1 E.2.1 dX10_isNumber_28 (by decide) ?_
    refine lv_goto (tgt := 33) E.1 E.2.1 dX10_isNumber_29 (by decide) ?_
    refine fw_zret (r := (iI 1)) E hr hlk hH (by rfl) ?_ dX10_isNumber_33
    exact ⟨congrArg iI (by unfold nmP; split <;> omega), rfl, hz⟩
  · refine lv_iload_n E.1 E.2.1 dX10_isNumber_6 rfl (lv_at hl 0 rfl) ?_
    refine lv_bipush (v := iI 8) E.1 E.2.1 dX10_isNumber_7 (by decide) ?_
    refine fw_icmp_ne (tgt := 16) E dX10_isNumber_9 (by decide) (by omega) (by omega) (by omega) (by omega) (fun c2 => ?_) (fun c2 => ?_)
    · refine lv_iload_n E.1 E.2.1 dX10_isNumber_16 rfl (lv_at hl 0 rfl) ?_
      refine lv_bipush (v := iI 9) E.1 E.2.1 dX10_isNumber_17 (by decide) ?_
      refine fw_icmp_eq (tgt := 28) E dX10_isNumber_19 (by decide) (by omega) (by omega) (by omega) (by omega) (fun c3 => ?_) (fun c3 => ?_)
      · refine lv_iconst (v := iI 1) E.1 E.2.1 dX10_isNumber_28 (by decide) ?_
        refine lv_goto (tgt := 33) E.1 E.2.1 dX10_isNumber_29 (by decide) ?_
        refine fw_zret (r := (iI 1)) E hr hlk hH (by rfl) ?_ dX10_isNumber_33
        exact ⟨congrArg iI (by unfold nmP; split <;> omega), rfl, hz⟩
      · refine lv_iload_n E.1 E.2.1 dX10_isNumber_22 rfl (lv_at hl 0 rfl) ?_
        refine lv_bipush (v := iI 10) E.1 E.2.1 dX10_isNumber_23 (by decide) ?_
        refine fw_icmp_ne (tgt := 32) E dX10_isNumber_25 (by decide) (by omega) (by omega) (by omega) (by omega) (fun c4 => ?_) (fun c4 => ?_)
        · refine lv_iconst (v := iI 0) E.1 E.2.1 dX10_isNumber_32 (by decide) ?_
          refine fw_zret (r := (iI 0)) E hr hlk hH (by rfl) ?_ dX10_isNumber_33
          exact ⟨congrArg iI (by unfold nmP; split <;> omega), rfl, hz⟩
        · refine lv_iconst (v := iI 1) E.1 E.2.1 dX10_isNumber_28 (by decide) ?_
          refine lv_goto (tgt := 33) E.1 E.2.1 dX10_isNumber_29 (by decide) ?_
          refine fw_zret (r := (iI 1)) E hr hlk hH (by rfl) ?_ dX10_isNumber_33
          exact ⟨congrArg iI (by unfold nmP; split <;> omega), rfl, hz⟩
    · refine lv_iload_n E.1 E.2.1 dX10_isNumber_12 rfl (lv_at hl 1 rfl) ?_
      refine fw_if_gt (tgt := 28) E dX10_isNumber_13 (by decide) (by omega) (by omega) (fun c5 => ?_) (fun c5 => ?_)
      · refine lv_iconst (v := iI 1) E.1 E.2.1 dX10_isNumber_28 (by decide) ?_
        refine lv_goto (tgt := 33) E.1 E.2.1 dX10_isNumber_29 (by decide) ?_
        refine fw_zret (r := (iI 1)) E hr hlk hH (by rfl) ?_ dX10_isNumber_33
        exact ⟨congrArg iI (by unfold nmP; split <;> omega), rfl, hz⟩
      · refine lv_iload_n E.1 E.2.1 dX10_isNumber_16 rfl (lv_at hl 0 rfl) ?_
        refine lv_bipush (v := iI 9) E.1 E.2.1 dX10_isNumber_17 (by decide) ?_
        refine fw_icmp_eq (tgt := 28) E dX10_isNumber_19 (by decide) (by omega) (by omega) (by omega) (by omega) (fun c6 => ?_) (fun c6 => ?_)
        · refine lv_iconst (v := iI 1) E.1 E.2.1 dX10_isNumber_28 (by decide) ?_
          refine lv_goto (tgt := 33) E.1 E.2.1 dX10_isNumber_29 (by decide) ?_
          refine fw_zret (r := (iI 1)) E hr hlk hH (by rfl) ?_ dX10_isNumber_33
          exact ⟨congrArg iI (by unfold nmP; split <;> omega), rfl, hz⟩
        · refine lv_iload_n E.1 E.2.1 dX10_isNumber_22 rfl (lv_at hl 0 rfl) ?_
          refine lv_bipush (v := iI 10) E.1 E.2.1 dX10_isNumber_23 (by decide) ?_
          refine fw_icmp_ne (tgt := 32) E dX10_isNumber_25 (by decide) (by omega) (by omega) (by omega) (by omega) (fun c7 => ?_) (fun c7 => ?_)
          · refine lv_iconst (v := iI 0) E.1 E.2.1 dX10_isNumber_32 (by decide) ?_
            refine fw_zret (r := (iI 0)) E hr hlk hH (by rfl) ?_ dX10_isNumber_33
            exact ⟨congrArg iI (by unfold nmP; split <;> omega), rfl, hz⟩
          · refine lv_iconst (v := iI 1) E.1 E.2.1 dX10_isNumber_28 (by decide) ?_
            refine lv_goto (tgt := 33) E.1 E.2.1 dX10_isNumber_29 (by decide) ?_
            refine fw_zret (r := (iI 1)) E hr hlk hH (by rfl) ?_ dX10_isNumber_33
            exact ⟨congrArg iI (by unfold nmP; split <;> omega), rfl, hz⟩
theorem l_joined (l : Launch) (G : fw_G) (M : fw_M) (N : Nat) (u v n k : Nat) (f g : Nat → Int) (hu : M u = some (fI G n (fun j0 => iI (f j0)))) (hv : M v = some (fI G k (fun j0 => iI (g j0)))) (hun : u < N) (hvn : v < N) (hbN : G.2.2.1 ≤ N) (hnk : n + k ≤ 400) : fMet l yX10_joined cX10_joined 3 (some (.array .int)) 1 60 1 400 G M N [.ref u, .ref v] (fw_pr (fun r M1 n1 => r = N ∧ (∃ h : Nat → Int, M1 N = some (fI G (n + k) (fun j0 => iI (h j0))) ∧ (∀ i, i < n → h i = f i) ∧ ∀ i, i < k → h (n + i) = g i) ∧ (∀ q, q ≠ N → M1 q = M q) ∧ n1 = N + 1)) := by
  refine fw_met RX10 rfl (by decide +kernel) (Nat.le_of_ble_eq_true rfl) ?_
  intro pG e s m args below meth cG ls E hr hlk hnm hK hH hz hl
  refine lv_aload_n E.1 E.2.1 dX10_joined_0 rfl (lv_at hl 0 rfl) ?_
  refine fw_alen E hK hH hu dX10_joined_1 ?_
  refine fw_cv (y := iI (↑n)) (nI_iI _) ?_
  refine lv_aload_n E.1 E.2.1 dX10_joined_2 rfl (lv_at hl 1 rfl) ?_
  refine fw_alen E hK hH hv dX10_joined_3 ?_
  refine fw_cv (y := iI (↑k)) (nI_iI _) ?_
  refine fw_iadd E dX10_joined_4 ?_
  refine fw_cv (y := iI (↑(n + k) : Int)) (congrArg iI (by omega)) ?_
  refine fw_newI (N := n + k) E hK hH hz qa_int (fun q => by have := Int32.lt_iff_toInt_lt.mp q; rw [iI_toInt (by omega) (by omega)] at this; have h9 : (0 : Int32).toInt = 0 := (by decide); omega) (by rw [iI_ix (by omega) (by omega)]; exact Int.toNat_natCast _) (by show (n + k) * 4 ≤ _; omega) ⟨by show _ ≤ (1 : Nat); omega, by show _ ≤ (400 : Nat); omega⟩ dX10_joined_5 (fun H1 hH hz1 => ?_)
  replace hz : H1.size = N + 1 := by omega
  clear hz1
  obtain ⟨M1, hM2⟩ : ∃ MX, MX = fw_up M N (fI G (n + k) (fun j0 => iI (z0 j0))) := ⟨_, rfl⟩
  replace hH := fw_H.nm hM2 hH
  have fr3 : ∀ q, q ≠ N → M1 q = M q := fun q h => by rw [hM2]; exact fw_up_ne h
  replace hu : M1 u = some (fI G n (fun j0 => iI (f j0))) := (fr3 _ (by omega)).trans hu
  replace hv : M1 v = some (fI G k (fun j0 => iI (g j0))) := (fr3 _ (by omega)).trans hv
  have hn0 : M1 N = some (fI G (n + k) (fun j0 => iI (z0 j0))) := by rw [hM2]; exact fw_up_eq
  refine lv_astore_n (lv' := [(2, .ref N), (0, .ref u), (1, .ref v)]) E.1 E.2.1 dX10_joined_7 rfl hl (by decide) rfl (fun ls hl => ?_)
  refine lv_aload_n E.1 E.2.1 dX10_joined_8 rfl (lv_at hl 1 rfl) ?_
  refine lv_iconst (v := iI 0) E.1 E.2.1 dX10_joined_9 (by decide) ?_
  refine lv_aload_n E.1 E.2.1 dX10_joined_10 rfl (lv_at hl 0 rfl) ?_
  refine lv_iconst (v := iI 0) E.1 E.2.1 dX10_joined_11 (by decide) ?_
  refine lv_aload_n E.1 E.2.1 dX10_joined_12 rfl (lv_at hl 1 rfl) ?_
  refine fw_alen E hK hH hu dX10_joined_13 ?_
  refine fw_cv (y := iI (↑n)) (nI_iI _) ?_
  refine fw_copy (rest := []) (x := 0) (y := 0) (z := n) E hK hH hl hu hn0 (by omega) qcp_link (by omega) (by omega) (by omega) (by omega) ⟨Nat.le_of_ble_eq_true rfl, Nat.le_of_ble_eq_true rfl⟩ dX10_joined_14 (fun H1 locs1 hH hz1 => ?_)
  replace hz := hz1.trans hz; clear hz1
  rw [cp_iI] at hH
  obtain ⟨M4, hM5⟩ : ∃ MX, MX = fw_up M1 N (fI G (n + k) (fun j0 => iI ((cpF f z0 0 0 n) j0))) := ⟨_, rfl⟩
  replace hH := fw_H.nm hM5 hH
  have fr6 : ∀ q, q ≠ N → M4 q = M1 q := fun q h => by rw [hM5]; exact fw_up_ne h
  replace hu : M4 u = some (fI G n (fun j0 => iI (f j0))) := (fr6 _ (by omega)).trans hu
  replace hv : M4 v = some (fI G k (fun j0 => iI (g j0))) := (fr6 _ (by omega)).trans hv
  have hn0 : M4 N = some (fI G (n + k) (fun j0 => iI ((cpF f z0 0 0 n) j0))) := by rw [hM5]; exact fw_up_eq
  refine lv_aload_n E.1 E.2.1 dX10_joined_17 rfl (lv_at hl 2 rfl) ?_
  refine lv_iconst (v := iI 0) E.1 E.2.1 dX10_joined_18 (by decide) ?_
  refine lv_aload_n E.1 E.2.1 dX10_joined_19 rfl (lv_at hl 0 rfl) ?_
  refine lv_aload_n E.1 E.2.1 dX10_joined_20 rfl (lv_at hl 1 rfl) ?_
  refine fw_alen E hK hH hu dX10_joined_21 ?_
  refine fw_cv (y := iI (↑n)) (nI_iI _) ?_
  refine lv_aload_n E.1 E.2.1 dX10_joined_22 rfl (lv_at hl 2 rfl) ?_
  refine fw_alen E hK hH hv dX10_joined_23 ?_
  refine fw_cv (y := iI (↑k)) (nI_iI _) ?_
  refine fw_copy (rest := []) (x := 0) (y := n) (z := k) E hK hH hl hv hn0 (by omega) qcp_link (by omega) (by omega) (by omega) (by omega) ⟨Nat.le_of_ble_eq_true rfl, Nat.le_of_ble_eq_true rfl⟩ dX10_joined_24 (fun H1 locs1 hH hz1 => ?_)
  replace hz := hz1.trans hz; clear hz1
  rw [cp_iI] at hH
  obtain ⟨M7, hM8⟩ : ∃ MX, MX = fw_up M4 N (fI G (n + k) (fun j0 => iI ((cpF g (cpF f z0 0 0 n) 0 n k) j0))) := ⟨_, rfl⟩
  replace hH := fw_H.nm hM8 hH
  have fr9 : ∀ q, q ≠ N → M7 q = M4 q := fun q h => by rw [hM8]; exact fw_up_ne h
  replace hu : M7 u = some (fI G n (fun j0 => iI (f j0))) := (fr9 _ (by omega)).trans hu
  replace hv : M7 v = some (fI G k (fun j0 => iI (g j0))) := (fr9 _ (by omega)).trans hv
  have hn0 : M7 N = some (fI G (n + k) (fun j0 => iI ((cpF g (cpF f z0 0 0 n) 0 n k) j0))) := by rw [hM8]; exact fw_up_eq
  refine lv_aload_n E.1 E.2.1 dX10_joined_27 rfl (lv_at hl 0 rfl) ?_
  refine W.widen (k := 1) (n := 400) (by omega) (by omega) ?_
  refine fw_aret E hr (Or.inr ⟨_, rfl⟩) hlk hH ?_ dX10_joined_28
  exact ⟨rfl, ⟨_, hn0, fun i hi => by unfold cpF; rw [if_neg (by omega), if_pos (by omega)]; congr 1; omega, fun i hi => by unfold cpF; rw [if_pos (by omega)]; congr 1; omega⟩, (fun q hq => by rw [fr9 q (by omega), fr6 q (by omega), fr3 q (by omega)]), hz⟩

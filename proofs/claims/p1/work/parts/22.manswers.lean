theorem y_addCase (l : Launch) (G : fw_G) (M : fw_M) (N : Nat) (b : Nat) (hD : md0 G M b) (z1 z2 z3 z4 : Int) (hz1 : -2147483648 ≤ z1 ∧ z1 < 2147483648) (hz2 : -2147483648 ≤ z2 ∧ z2 < 2147483648) (hz3 : -2147483648 ≤ z3 ∧ z3 < 2147483648) (hz4 : -2147483648 ≤ z4 ∧ z4 < 2147483648) : fMet l yX10_addCase cX10_addCase 5 (some .int) 8 170 0 0 G M N [.ref b, .int (iI z1), .int (iI z2), .int (iI z3), .int (iI z4)] (fw_pi (fun r M1 n1 => mth M1 b (kS_addCase z1 z2 z3 z4) ∧ (kS_addCase z1 z2 z3 z4 = 0 → r = iI (0)) ∧ ∀ q, b + 7 ≤ q → q < N → M1 q = M q)) := by
  refine fw_met RX10 rfl (by decide +kernel) (Nat.le_of_ble_eq_true rfl) ?_
  intro p e s m args below meth c ls E hr hlk hnm hK hH hz hl
  obtain ⟨hb, m0, _, _, m4, m5, _⟩ := id hD
  refine lv_aload_n E.1 E.2.1 dX10_addCase_0 rfl (lv_at hl 0 rfl) ?_
  refine lv_iconst (v := iI 0) E.1 E.2.1 dX10_addCase_1 (by decide) ?_
  refine fw_put E hK hH (by omega) m0 fc_X10 1 (by decide) ql_RX10_163 rfl rfl rfl rfl (Nat.le_of_ble_eq_true rfl) dX10_addCase_2 (fun H1 locs1 hH hz1 => ?_)
  replace hz := hz1.trans hz; clear hz1
  obtain ⟨M1, hM2⟩ : ∃ MX, MX = fw_up M b (.inr (10, [.ref (b + 1), .int (iI 0), .ref (b + 2), .int (iI 0), .int (iI 0), .ref (b + 3), .int (iI 0), .ref (b + 4), .ref (b + 5), .int (iI 0), .int (iI 1), .int (iI 0), .ref (b + 6), .int (iI 0), .int (iI 70), .int (iI 20), .int (iI 5), .int (iI 2), .int (iI 1), .int (iI 0), .int (iI 0)])) := ⟨_, rfl⟩
  replace hH := fw_H.nm hM2 hH
  have fr3 : ∀ q, q ≠ b → M1 q = M q := fun q h => by rw [hM2]; exact fw_up_ne h
  replace m4 : M1 (b + 4) = some (fI G 36 (fun j0 => iI (z0 j0))) := (fr3 _ (by omega)).trans m4
  replace m5 : M1 (b + 5) = some (fI G 12 (fun j0 => iI (z0 j0))) := (fr3 _ (by omega)).trans m5
  have m0 : M1 b = some (.inr (10, [.ref (b + 1), .int (iI 0), .ref (b + 2), .int (iI 0), .int (iI 0), .ref (b + 3), .int (iI 0), .ref (b + 4), .ref (b + 5), .int (iI 0), .int (iI 1), .int (iI 0), .ref (b + 6), .int (iI 0), .int (iI 70), .int (iI 20), .int (iI 5), .int (iI 2), .int (iI 1), .int (iI 0), .int (iI 0)])) := by rw [hM2]; exact fw_up_eq
  refine lv_iload_n E.1 E.2.1 dX10_addCase_5 rfl (lv_at hl 1 rfl) ?_
  refine lv_bipush (v := iI (-99)) E.1 E.2.1 dX10_addCase_6 (by decide) ?_
  refine lv_bipush (v := iI 99) E.1 E.2.1 dX10_addCase_8 (by decide) ?_
  refine fw_cS (As := [.int (iI z1), .int (iI (-99)), .int (iI 99)]) (rest := []) E hK hH hl fL_X10_isIn ql_RX10_94 qs_yX10_isIn (m_isIn l G _ _ z1 (-99) 99 (by omega) (by omega) (by omega)) rfl rfl (Nat.le_of_ble_eq_true rfl) ⟨Nat.le_of_ble_eq_true rfl, Nat.le_of_ble_eq_true rfl⟩ ⟨by show _ ≤ (0 : Nat); omega, by show _ ≤ (0 : Nat); omega⟩ dX10_addCase_10 (fw_ki fun r7 M6 H1 locs1 hp5 hH hz1 => ?_)
  obtain ⟨b4, rfl, hb4, hM9, hz2⟩ := hp5
  replace hz := hz2.trans hz
  clear hz1 hz2
  rw [hM9] at hH
  refine fw_if_eq (tgt := 52) E dX10_addCase_13 (by decide) (by omega) (by omega) (fun c8 => ?_) (fun c8 => ?_)
  · refine lv_aload_n E.1 E.2.1 dX10_addCase_52 rfl (lv_at hl 0 rfl) ?_
    refine lv_iconst (v := iI 1) E.1 E.2.1 dX10_addCase_53 (by decide) ?_
    refine fw_cV (As := [.int (iI 1)]) (rest := []) E hK hH hl m0 fc_X10 fL_X10_no ql_RX10_176 qi_yX10_no qv_yX10_no (m_no l G _ _ b (by omega) m0 1) rfl rfl (Nat.le_of_ble_eq_true rfl) ⟨Nat.le_of_ble_eq_true rfl, Nat.le_of_ble_eq_true rfl⟩ ⟨by show _ ≤ (0 : Nat); omega, by show _ ≤ (0 : Nat); omega⟩ dX10_addCase_54 (fw_ki fun r11 M10 H1 locs1 hp9 hH hz1 => ?_)
    obtain ⟨rfl, ⟨hmt, hfr⟩, hz2⟩ := hp9
    replace hz := hz2.trans hz
    clear hz1 hz2
    have fr12 := hfr
    replace m4 : M10 (b + 4) = some (fI G 36 (fun j0 => iI (z0 j0))) := (fr12 _ (by omega)).trans m4
    replace m5 : M10 (b + 5) = some (fI G 12 (fun j0 => iI (z0 j0))) := (fr12 _ (by omega)).trans m5
    refine W.widen (k := 0) (n := 0) (by omega) (by omega) ?_
    refine fw_iret E hr hlk hH ?_ dX10_addCase_57
    have hk := (show kS_addCase z1 z2 z3 z4 = 1 by unfold kS_addCase; (repeat' split) <;> omega)
    exact ⟨by rw [hk]; exact hmt, fun h => absurd (hk.symm.trans h) (by decide), (fun q hq hq2 => by rw [fr12 q (by omega), fr3 q (by omega)])⟩
  · refine lv_iload_n E.1 E.2.1 dX10_addCase_16 rfl (lv_at hl 2 rfl) ?_
    refine lv_bipush (v := iI (-99)) E.1 E.2.1 dX10_addCase_17 (by decide) ?_
    refine lv_bipush (v := iI 99) E.1 E.2.1 dX10_addCase_19 (by decide) ?_
    refine fw_cS (As := [.int (iI z2), .int (iI (-99)), .int (iI 99)]) (rest := []) E hK hH hl fL_X10_isIn ql_RX10_94 qs_yX10_isIn (m_isIn l G _ _ z2 (-99) 99 (by omega) (by omega) (by omega)) rfl rfl (Nat.le_of_ble_eq_true rfl) ⟨Nat.le_of_ble_eq_true rfl, Nat.le_of_ble_eq_true rfl⟩ ⟨by show _ ≤ (0 : Nat); omega, by show _ ≤ (0 : Nat); omega⟩ dX10_addCase_21 (fw_ki fun r16 M15 H1 locs1 hp14 hH hz1 => ?_)
    obtain ⟨b13, rfl, hb13, hM9, hz2⟩ := hp14
    replace hz := hz2.trans hz
    clear hz1 hz2
    rw [hM9] at hH
    refine fw_if_eq (tgt := 52) E dX10_addCase_24 (by decide) (by omega) (by omega) (fun c17 => ?_) (fun c17 => ?_)
    · refine lv_aload_n E.1 E.2.1 dX10_addCase_52 rfl (lv_at hl 0 rfl) ?_
      refine lv_iconst (v := iI 1) E.1 E.2.1 dX10_addCase_53 (by decide) ?_
      refine fw_cV (As := [.int (iI 1)]) (rest := []) E hK hH hl m0 fc_X10 fL_X10_no ql_RX10_176 qi_yX10_no qv_yX10_no (m_no l G _ _ b (by omega) m0 1) rfl rfl (Nat.le_of_ble_eq_true rfl) ⟨Nat.le_of_ble_eq_true rfl, Nat.le_of_ble_eq_true rfl⟩ ⟨by show _ ≤ (0 : Nat); omega, by show _ ≤ (0 : Nat); omega⟩ dX10_addCase_54 (fw_ki fun r20 M19 H1 locs1 hp18 hH hz1 => ?_)
      obtain ⟨rfl, ⟨hmt, hfr⟩, hz2⟩ := hp18
      replace hz := hz2.trans hz
      clear hz1 hz2
      have fr21 := hfr
      replace m4 : M19 (b + 4) = some (fI G 36 (fun j0 => iI (z0 j0))) := (fr21 _ (by omega)).trans m4
      replace m5 : M19 (b + 5) = some (fI G 12 (fun j0 => iI (z0 j0))) := (fr21 _ (by omega)).trans m5
      refine W.widen (k := 0) (n := 0) (by omega) (by omega) ?_
      refine fw_iret E hr hlk hH ?_ dX10_addCase_57
      have hk := (show kS_addCase z1 z2 z3 z4 = 1 by unfold kS_addCase; (repeat' split) <;> omega)
      exact ⟨by rw [hk]; exact hmt, fun h => absurd (hk.symm.trans h) (by decide), (fun q hq hq2 => by rw [fr21 q (by omega), fr3 q (by omega)])⟩
    · refine lv_iload_n E.1 E.2.1 dX10_addCase_27 rfl (lv_at hl 3 rfl) ?_
      refine lv_bipush (v := iI (-99)) E.1 E.2.1 dX10_addCase_28 (by decide) ?_
      refine lv_bipush (v := iI 99) E.1 E.2.1 dX10_addCase_30 (by decide) ?_
      refine fw_cS (As := [.int (iI z3), .int (iI (-99)), .int (iI 99)]) (rest := []) E hK hH hl fL_X10_isIn ql_RX10_94 qs_yX10_isIn (m_isIn l G _ _ z3 (-99) 99 (by omega) (by omega) (by omega)) rfl rfl (Nat.le_of_ble_eq_true rfl) ⟨Nat.le_of_ble_eq_true rfl, Nat.le_of_ble_eq_true rfl⟩ ⟨by show _ ≤ (0 : Nat); omega, by show _ ≤ (0 : Nat); omega⟩ dX10_addCase_32 (fw_ki fun r25 M24 H1 locs1 hp23 hH hz1 => ?_)
      obtain ⟨b22, rfl, hb22, hM9, hz2⟩ := hp23
      replace hz := hz2.trans hz
      clear hz1 hz2
      rw [hM9] at hH
      refine fw_if_eq (tgt := 52) E dX10_addCase_35 (by decide) (by omega) (by omega) (fun c26 => ?_) (fun c26 => ?_)
      · refine lv_aload_n E.1 E.2.1 dX10_addCase_52 rfl (lv_at hl 0 rfl) ?_
        refine lv_iconst (v := iI 1) E.1 E.2.1 dX10_addCase_53 (by decide) ?_
        refine fw_cV (As := [.int (iI 1)]) (rest := []) E hK hH hl m0 fc_X10 fL_X10_no ql_RX10_176 qi_yX10_no qv_yX10_no (m_no l G _ _ b (by omega) m0 1) rfl rfl (Nat.le_of_ble_eq_true rfl) ⟨Nat.le_of_ble_eq_true rfl, Nat.le_of_ble_eq_true rfl⟩ ⟨by show _ ≤ (0 : Nat); omega, by show _ ≤ (0 : Nat); omega⟩ dX10_addCase_54 (fw_ki fun r29 M28 H1 locs1 hp27 hH hz1 => ?_)
        obtain ⟨rfl, ⟨hmt, hfr⟩, hz2⟩ := hp27
        replace hz := hz2.trans hz
        clear hz1 hz2
        have fr30 := hfr
        replace m4 : M28 (b + 4) = some (fI G 36 (fun j0 => iI (z0 j0))) := (fr30 _ (by omega)).trans m4
        replace m5 : M28 (b + 5) = some (fI G 12 (fun j0 => iI (z0 j0))) := (fr30 _ (by omega)).trans m5
        refine W.widen (k := 0) (n := 0) (by omega) (by omega) ?_
        refine fw_iret E hr hlk hH ?_ dX10_addCase_57
        have hk := (show kS_addCase z1 z2 z3 z4 = 1 by unfold kS_addCase; (repeat' split) <;> omega)
        exact ⟨by rw [hk]; exact hmt, fun h => absurd (hk.symm.trans h) (by decide), (fun q hq hq2 => by rw [fr30 q (by omega), fr3 q (by omega)])⟩
      · refine lv_iload E.1 E.2.1 dX10_addCase_38 (lv_at hl 4 rfl) ?_
        refine lv_sipush (v := iI (-9999)) E.1 E.2.1 dX10_addCase_40 (by decide) ?_
        refine lv_sipush (v := iI 9999) E.1 E.2.1 dX10_addCase_43 (by decide) ?_
        refine fw_cS (As := [.int (iI z4), .int (iI (-9999)), .int (iI 9999)]) (rest := []) E hK hH hl fL_X10_isIn ql_RX10_94 qs_yX10_isIn (m_isIn l G _ _ z4 (-9999) 9999 (by omega) (by omega) (by omega)) rfl rfl (Nat.le_of_ble_eq_true rfl) ⟨Nat.le_of_ble_eq_true rfl, Nat.le_of_ble_eq_true rfl⟩ ⟨by show _ ≤ (0 : Nat); omega, by show _ ≤ (0 : Nat); omega⟩ dX10_addCase_46 (fw_ki fun r34 M33 H1 locs1 hp32 hH hz1 => ?_)
        obtain ⟨b31, rfl, hb31, hM9, hz2⟩ := hp32
        replace hz := hz2.trans hz
        clear hz1 hz2
        rw [hM9] at hH
        refine fw_if_ne (tgt := 58) E dX10_addCase_49 (by decide) (by omega) (by omega) (fun c35 => ?_) (fun c35 => ?_)
        · refine lv_aload_n E.1 E.2.1 dX10_addCase_58 rfl (lv_at hl 0 rfl) ?_
          refine fw_get E hK hH m0 fc_X10 6 (by decide) ql_RX10_189 rfl rfl dX10_addCase_59 ?_
          refine lv_bipush (v := iI 12) E.1 E.2.1 dX10_addCase_62 (by decide) ?_
          refine fw_icmp_ne (tgt := 73) E dX10_addCase_64 (by decide) (by omega) (by omega) (by omega) (by omega) (fun c36 => ?_) (fun c36 => ?_)
          · refine lv_aload_n E.1 E.2.1 dX10_addCase_73 rfl (lv_at hl 0 rfl) ?_
            refine fw_get E hK hH m0 fc_X10 7 (by decide) ql_RX10_135 rfl rfl dX10_addCase_74 ?_
            refine lv_iconst (v := iI 3) E.1 E.2.1 dX10_addCase_77 (by decide) ?_
            refine lv_aload_n E.1 E.2.1 dX10_addCase_78 rfl (lv_at hl 0 rfl) ?_
            refine fw_get E hK hH m0 fc_X10 6 (by decide) ql_RX10_189 rfl rfl dX10_addCase_79 ?_
            refine fw_imul E dX10_addCase_82 ?_
            refine fw_cv (y := iI (0)) (by decide) ?_
            refine lv_iload_n E.1 E.2.1 dX10_addCase_83 rfl (lv_at hl 1 rfl) ?_
            refine fw_iast E hK hH (by omega) m4 (iI_in (by omega) (by omega) (by omega)) dX10_addCase_84 (fun H1 locs1 hH hz1 => ?_)
            replace hz := hz1.trans hz; clear hz1
            rw [show upd (fun j0 => iI (z0 j0)) (iI (0)).toNatClampNeg (iI (z1)) = fun j0 => iI ((zup z0 (0) (z1)) j0) from by rw [iI_ix (by omega) (by omega)]; exact zup_upd _ _ _] at hH
            obtain ⟨M37, hM38⟩ : ∃ MX, MX = fw_up M1 (b + 4) (fI G 36 (fun j0 => iI ((zup z0 (0) (z1)) j0))) := ⟨_, rfl⟩
            replace hH := fw_H.nm hM38 hH
            have fr39 : ∀ q, q ≠ (b + 4) → M37 q = M1 q := fun q h => by rw [hM38]; exact fw_up_ne h
            replace m5 : M37 (b + 5) = some (fI G 12 (fun j0 => iI (z0 j0))) := (fr39 _ (by omega)).trans m5
            replace m0 : M37 b = some (.inr (10, [.ref (b + 1), .int (iI 0), .ref (b + 2), .int (iI 0), .int (iI 0), .ref (b + 3), .int (iI 0), .ref (b + 4), .ref (b + 5), .int (iI 0), .int (iI 1), .int (iI 0), .ref (b + 6), .int (iI 0), .int (iI 70), .int (iI 20), .int (iI 5), .int (iI 2), .int (iI 1), .int (iI 0), .int (iI 0)])) := (fr39 _ (by omega)).trans m0
            have m4 : M37 (b + 4) = some (fI G 36 (fun j0 => iI ((zup z0 (0) (z1)) j0))) := by rw [hM38]; exact fw_up_eq
            refine lv_aload_n E.1 E.2.1 dX10_addCase_85 rfl (lv_at hl 0 rfl) ?_
            refine fw_get E hK hH m0 fc_X10 7 (by decide) ql_RX10_135 rfl rfl dX10_addCase_86 ?_
            refine lv_iconst (v := iI 3) E.1 E.2.1 dX10_addCase_89 (by decide) ?_
            refine lv_aload_n E.1 E.2.1 dX10_addCase_90 rfl (lv_at hl 0 rfl) ?_
            refine fw_get E hK hH m0 fc_X10 6 (by decide) ql_RX10_189 rfl rfl dX10_addCase_91 ?_
            refine fw_imul E dX10_addCase_94 ?_
            refine fw_cv (y := iI (0)) (by decide) ?_
            refine lv_iconst (v := iI 1) E.1 E.2.1 dX10_addCase_95 (by decide) ?_
            refine fw_iadd E dX10_addCase_96 ?_
            refine fw_cv (y := iI (1)) (by decide) ?_
            refine lv_iload_n E.1 E.2.1 dX10_addCase_97 rfl (lv_at hl 2 rfl) ?_
            refine fw_iast E hK hH (by omega) m4 (iI_in (by omega) (by omega) (by omega)) dX10_addCase_98 (fun H1 locs1 hH hz1 => ?_)
            replace hz := hz1.trans hz; clear hz1
            rw [show upd (fun j0 => iI ((zup z0 (0) (z1)) j0)) (iI (1)).toNatClampNeg (iI (z2)) = fun j0 => iI ((zup (zup z0 (0) (z1)) (1) (z2)) j0) from by rw [iI_ix (by omega) (by omega)]; exact zup_upd _ _ _] at hH
            obtain ⟨M40, hM41⟩ : ∃ MX, MX = fw_up M37 (b + 4) (fI G 36 (fun j0 => iI ((zup (zup z0 (0) (z1)) (1) (z2)) j0))) := ⟨_, rfl⟩
            replace hH := fw_H.nm hM41 hH
            have fr42 : ∀ q, q ≠ (b + 4) → M40 q = M37 q := fun q h => by rw [hM41]; exact fw_up_ne h
            replace m5 : M40 (b + 5) = some (fI G 12 (fun j0 => iI (z0 j0))) := (fr42 _ (by omega)).trans m5
            replace m0 : M40 b = some (.inr (10, [.ref (b + 1), .int (iI 0), .ref (b + 2), .int (iI 0), .int (iI 0), .ref (b + 3), .int (iI 0), .ref (b + 4), .ref (b + 5), .int (iI 0), .int (iI 1), .int (iI 0), .ref (b + 6), .int (iI 0), .int (iI 70), .int (iI 20), .int (iI 5), .int (iI 2), .int (iI 1), .int (iI 0), .int (iI 0)])) := (fr42 _ (by omega)).trans m0
            have m4 : M40 (b + 4) = some (fI G 36 (fun j0 => iI ((zup (zup z0 (0) (z1)) (1) (z2)) j0))) := by rw [hM41]; exact fw_up_eq
            refine lv_aload_n E.1 E.2.1 dX10_addCase_99 rfl (lv_at hl 0 rfl) ?_
            refine fw_get E hK hH m0 fc_X10 7 (by decide) ql_RX10_135 rfl rfl dX10_addCase_100 ?_
            refine lv_iconst (v := iI 3) E.1 E.2.1 dX10_addCase_103 (by decide) ?_
            refine lv_aload_n E.1 E.2.1 dX10_addCase_104 rfl (lv_at hl 0 rfl) ?_
            refine fw_get E hK hH m0 fc_X10 6 (by decide) ql_RX10_189 rfl rfl dX10_addCase_105 ?_
            refine fw_imul E dX10_addCase_108 ?_
            refine fw_cv (y := iI (0)) (by decide) ?_
            refine lv_iconst (v := iI 2) E.1 E.2.1 dX10_addCase_109 (by decide) ?_
            refine fw_iadd E dX10_addCase_110 ?_
            refine fw_cv (y := iI (2)) (by decide) ?_
            refine lv_iload_n E.1 E.2.1 dX10_addCase_111 rfl (lv_at hl 3 rfl) ?_
            refine fw_iast E hK hH (by omega) m4 (iI_in (by omega) (by omega) (by omega)) dX10_addCase_112 (fun H1 locs1 hH hz1 => ?_)
            replace hz := hz1.trans hz; clear hz1
            rw [show upd (fun j0 => iI ((zup (zup z0 (0) (z1)) (1) (z2)) j0)) (iI (2)).toNatClampNeg (iI (z3)) = fun j0 => iI ((zup (zup (zup z0 (0) (z1)) (1) (z2)) (2) (z3)) j0) from by rw [iI_ix (by omega) (by omega)]; exact zup_upd _ _ _] at hH
            obtain ⟨M43, hM44⟩ : ∃ MX, MX = fw_up M40 (b + 4) (fI G 36 (fun j0 => iI ((zup (zup (zup z0 (0) (z1)) (1) (z2)) (2) (z3)) j0))) := ⟨_, rfl⟩
            replace hH := fw_H.nm hM44 hH
            have fr45 : ∀ q, q ≠ (b + 4) → M43 q = M40 q := fun q h => by rw [hM44]; exact fw_up_ne h
            replace m5 : M43 (b + 5) = some (fI G 12 (fun j0 => iI (z0 j0))) := (fr45 _ (by omega)).trans m5
            replace m0 : M43 b = some (.inr (10, [.ref (b + 1), .int (iI 0), .ref (b + 2), .int (iI 0), .int (iI 0), .ref (b + 3), .int (iI 0), .ref (b + 4), .ref (b + 5), .int (iI 0), .int (iI 1), .int (iI 0), .ref (b + 6), .int (iI 0), .int (iI 70), .int (iI 20), .int (iI 5), .int (iI 2), .int (iI 1), .int (iI 0), .int (iI 0)])) := (fr45 _ (by omega)).trans m0
            have m4 : M43 (b + 4) = some (fI G 36 (fun j0 => iI ((zup (zup (zup z0 (0) (z1)) (1) (z2)) (2) (z3)) j0))) := by rw [hM44]; exact fw_up_eq
            refine lv_aload_n E.1 E.2.1 dX10_addCase_113 rfl (lv_at hl 0 rfl) ?_
            refine fw_get E hK hH m0 fc_X10 8 (by decide) ql_RX10_138 rfl rfl dX10_addCase_114 ?_
            refine lv_aload_n E.1 E.2.1 dX10_addCase_117 rfl (lv_at hl 0 rfl) ?_
            refine fw_get E hK hH m0 fc_X10 6 (by decide) ql_RX10_189 rfl rfl dX10_addCase_118 ?_
            refine lv_iload E.1 E.2.1 dX10_addCase_121 (lv_at hl 4 rfl) ?_
            refine fw_iast E hK hH (by omega) m5 (iI_in (by omega) (by omega) (by omega)) dX10_addCase_123 (fun H1 locs1 hH hz1 => ?_)
            replace hz := hz1.trans hz; clear hz1
            rw [show upd (fun j0 => iI (z0 j0)) (iI (0)).toNatClampNeg (iI (z4)) = fun j0 => iI ((zup z0 (0) (z4)) j0) from by rw [iI_ix (by omega) (by omega)]; exact zup_upd _ _ _] at hH
            obtain ⟨M46, hM47⟩ : ∃ MX, MX = fw_up M43 (b + 5) (fI G 12 (fun j0 => iI ((zup z0 (0) (z4)) j0))) := ⟨_, rfl⟩
            replace hH := fw_H.nm hM47 hH
            have fr48 : ∀ q, q ≠ (b + 5) → M46 q = M43 q := fun q h => by rw [hM47]; exact fw_up_ne h
            replace m0 : M46 b = some (.inr (10, [.ref (b + 1), .int (iI 0), .ref (b + 2), .int (iI 0), .int (iI 0), .ref (b + 3), .int (iI 0), .ref (b + 4), .ref (b + 5), .int (iI 0), .int (iI 1), .int (iI 0), .ref (b + 6), .int (iI 0), .int (iI 70), .int (iI 20), .int (iI 5), .int (iI 2), .int (iI 1), .int (iI 0), .int (iI 0)])) := (fr48 _ (by omega)).trans m0
            replace m4 : M46 (b + 4) = some (fI G 36 (fun j0 => iI ((zup (zup (zup z0 (0) (z1)) (1) (z2)) (2) (z3)) j0))) := (fr48 _ (by omega)).trans m4
            have m5 : M46 (b + 5) = some (fI G 12 (fun j0 => iI ((zup z0 (0) (z4)) j0))) := by rw [hM47]; exact fw_up_eq
            refine lv_aload_n E.1 E.2.1 dX10_addCase_124 rfl (lv_at hl 0 rfl) ?_
            refine lv_dup E.1 E.2.1 dX10_addCase_125 rfl ?_
            refine fw_get E hK hH m0 fc_X10 6 (by decide) ql_RX10_189 rfl rfl dX10_addCase_126 ?_
            refine lv_dup_x1 E.1 E.2.1 dX10_addCase_129 rfl rfl ?_
            refine lv_iconst (v := iI 1) E.1 E.2.1 dX10_addCase_130 (by decide) ?_
            refine fw_iadd E dX10_addCase_131 ?_
            refine fw_cv (y := iI (1)) (by decide) ?_
            refine fw_put E hK hH (by omega) m0 fc_X10 6 (by decide) ql_RX10_189 rfl rfl rfl rfl (Nat.le_of_ble_eq_true rfl) dX10_addCase_132 (fun H1 locs1 hH hz1 => ?_)
            replace hz := hz1.trans hz; clear hz1
            obtain ⟨M49, hM50⟩ : ∃ MX, MX = fw_up M46 b (.inr (10, [.ref (b + 1), .int (iI 0), .ref (b + 2), .int (iI 0), .int (iI 0), .ref (b + 3), .int (iI (1)), .ref (b + 4), .ref (b + 5), .int (iI 0), .int (iI 1), .int (iI 0), .ref (b + 6), .int (iI 0), .int (iI 70), .int (iI 20), .int (iI 5), .int (iI 2), .int (iI 1), .int (iI 0), .int (iI 0)])) := ⟨_, rfl⟩
            replace hH := fw_H.nm hM50 hH
            have fr51 : ∀ q, q ≠ b → M49 q = M46 q := fun q h => by rw [hM50]; exact fw_up_ne h
            replace m4 : M49 (b + 4) = some (fI G 36 (fun j0 => iI ((zup (zup (zup z0 (0) (z1)) (1) (z2)) (2) (z3)) j0))) := (fr51 _ (by omega)).trans m4
            replace m5 : M49 (b + 5) = some (fI G 12 (fun j0 => iI ((zup z0 (0) (z4)) j0))) := (fr51 _ (by omega)).trans m5
            have m0 : M49 b = some (.inr (10, [.ref (b + 1), .int (iI 0), .ref (b + 2), .int (iI 0), .int (iI 0), .ref (b + 3), .int (iI (1)), .ref (b + 4), .ref (b + 5), .int (iI 0), .int (iI 1), .int (iI 0), .ref (b + 6), .int (iI 0), .int (iI 70), .int (iI 20), .int (iI 5), .int (iI 2), .int (iI 1), .int (iI 0), .int (iI 0)])) := by rw [hM50]; exact fw_up_eq
            refine W.widen (k := 0) (n := 0) (by omega) (by omega) ?_
            refine fw_iret E hr hlk hH ?_ dX10_addCase_135
            exact ⟨⟨_, m0, by rw [(show kS_addCase z1 z2 z3 z4 = 0 by unfold kS_addCase; (repeat' split) <;> omega)]; rfl⟩, fun _ => rfl, (fun q hq hq2 => by rw [fr51 q (by omega), fr48 q (by omega), fr45 q (by omega), fr42 q (by omega), fr39 q (by omega), fr3 q (by omega)])⟩
          · exact absurd c36 (by omega)
        · refine lv_aload_n E.1 E.2.1 dX10_addCase_52 rfl (lv_at hl 0 rfl) ?_
          refine lv_iconst (v := iI 1) E.1 E.2.1 dX10_addCase_53 (by decide) ?_
          refine fw_cV (As := [.int (iI 1)]) (rest := []) E hK hH hl m0 fc_X10 fL_X10_no ql_RX10_176 qi_yX10_no qv_yX10_no (m_no l G _ _ b (by omega) m0 1) rfl rfl (Nat.le_of_ble_eq_true rfl) ⟨Nat.le_of_ble_eq_true rfl, Nat.le_of_ble_eq_true rfl⟩ ⟨by show _ ≤ (0 : Nat); omega, by show _ ≤ (0 : Nat); omega⟩ dX10_addCase_54 (fw_ki fun r54 M53 H1 locs1 hp52 hH hz1 => ?_)
          obtain ⟨rfl, ⟨hmt, hfr⟩, hz2⟩ := hp52
          replace hz := hz2.trans hz
          clear hz1 hz2
          have fr55 := hfr
          replace m4 : M53 (b + 4) = some (fI G 36 (fun j0 => iI (z0 j0))) := (fr55 _ (by omega)).trans m4
          replace m5 : M53 (b + 5) = some (fI G 12 (fun j0 => iI (z0 j0))) := (fr55 _ (by omega)).trans m5
          refine W.widen (k := 0) (n := 0) (by omega) (by omega) ?_
          refine fw_iret E hr hlk hH ?_ dX10_addCase_57
          have hk := (show kS_addCase z1 z2 z3 z4 = 1 by unfold kS_addCase; (repeat' split) <;> omega)
          exact ⟨by rw [hk]; exact hmt, fun h => absurd (hk.symm.trans h) (by decide), (fun q hq hq2 => by rw [fr55 q (by omega), fr3 q (by omega)])⟩
theorem y_setWay (l : Launch) (G : fw_G) (M : fw_M) (N : Nat) (b : Nat) (hD : md0 G M b) (z1 z2 : Int) (hz1 : -2147483648 ≤ z1 ∧ z1 < 2147483648) (hz2 : -2147483648 ≤ z2 ∧ z2 < 2147483648) : fMet l yX10_setWay cX10_setWay 4 (some .int) 8 170 0 0 G M N [.ref b, .int (iI z1), .int (iI z2)] (fw_pi (fun r M1 n1 => mth M1 b (kS_setWay z1 z2) ∧ (kS_setWay z1 z2 = 0 → r = iI (0)) ∧ ∀ q, b + 7 ≤ q → q < N → M1 q = M q)) := by
  refine fw_met RX10 rfl (by decide +kernel) (Nat.le_of_ble_eq_true rfl) ?_
  intro p e s m args below meth c ls E hr hlk hnm hK hH hz hl
  obtain ⟨hb, m0, _, _, _, _, _⟩ := id hD
  refine lv_aload_n E.1 E.2.1 dX10_setWay_0 rfl (lv_at hl 0 rfl) ?_
  refine lv_iconst (v := iI 0) E.1 E.2.1 dX10_setWay_1 (by decide) ?_
  refine fw_put E hK hH (by omega) m0 fc_X10 1 (by decide) ql_RX10_163 rfl rfl rfl rfl (Nat.le_of_ble_eq_true rfl) dX10_setWay_2 (fun H1 locs1 hH hz1 => ?_)
  replace hz := hz1.trans hz; clear hz1
  obtain ⟨M1, hM2⟩ : ∃ MX, MX = fw_up M b (.inr (10, [.ref (b + 1), .int (iI 0), .ref (b + 2), .int (iI 0), .int (iI 0), .ref (b + 3), .int (iI 0), .ref (b + 4), .ref (b + 5), .int (iI 0), .int (iI 1), .int (iI 0), .ref (b + 6), .int (iI 0), .int (iI 70), .int (iI 20), .int (iI 5), .int (iI 2), .int (iI 1), .int (iI 0), .int (iI 0)])) := ⟨_, rfl⟩
  replace hH := fw_H.nm hM2 hH
  have fr3 : ∀ q, q ≠ b → M1 q = M q := fun q h => by rw [hM2]; exact fw_up_ne h
  have m0 : M1 b = some (.inr (10, [.ref (b + 1), .int (iI 0), .ref (b + 2), .int (iI 0), .int (iI 0), .ref (b + 3), .int (iI 0), .ref (b + 4), .ref (b + 5), .int (iI 0), .int (iI 1), .int (iI 0), .ref (b + 6), .int (iI 0), .int (iI 70), .int (iI 20), .int (iI 5), .int (iI 2), .int (iI 1), .int (iI 0), .int (iI 0)])) := by rw [hM2]; exact fw_up_eq
  refine lv_iload_n E.1 E.2.1 dX10_setWay_5 rfl (lv_at hl 1 rfl) ?_
  refine lv_iconst (v := iI 0) E.1 E.2.1 dX10_setWay_6 (by decide) ?_
  refine lv_iconst (v := iI 2) E.1 E.2.1 dX10_setWay_7 (by decide) ?_
  refine fw_cS (As := [.int (iI z1), .int (iI 0), .int (iI 2)]) (rest := []) E hK hH hl fL_X10_isIn ql_RX10_94 qs_yX10_isIn (m_isIn l G _ _ z1 0 2 (by omega) (by omega) (by omega)) rfl rfl (Nat.le_of_ble_eq_true rfl) ⟨Nat.le_of_ble_eq_true rfl, Nat.le_of_ble_eq_true rfl⟩ ⟨by show _ ≤ (0 : Nat); omega, by show _ ≤ (0 : Nat); omega⟩ dX10_setWay_8 (fw_ki fun r7 M6 H1 locs1 hp5 hH hz1 => ?_)
  obtain ⟨b4, rfl, hb4, hM9, hz2⟩ := hp5
  replace hz := hz2.trans hz
  clear hz1 hz2
  rw [hM9] at hH
  refine fw_if_eq (tgt := 24) E dX10_setWay_11 (by decide) (by omega) (by omega) (fun c8 => ?_) (fun c8 => ?_)
  · refine lv_aload_n E.1 E.2.1 dX10_setWay_24 rfl (lv_at hl 0 rfl) ?_
    refine lv_iconst (v := iI 1) E.1 E.2.1 dX10_setWay_25 (by decide) ?_
    refine fw_cV (As := [.int (iI 1)]) (rest := []) E hK hH hl m0 fc_X10 fL_X10_no ql_RX10_176 qi_yX10_no qv_yX10_no (m_no l G _ _ b (by omega) m0 1) rfl rfl (Nat.le_of_ble_eq_true rfl) ⟨Nat.le_of_ble_eq_true rfl, Nat.le_of_ble_eq_true rfl⟩ ⟨by show _ ≤ (0 : Nat); omega, by show _ ≤ (0 : Nat); omega⟩ dX10_setWay_26 (fw_ki fun r11 M10 H1 locs1 hp9 hH hz1 => ?_)
    obtain ⟨rfl, ⟨hmt, hfr⟩, hz2⟩ := hp9
    replace hz := hz2.trans hz
    clear hz1 hz2
    have fr12 := hfr
    refine W.widen (k := 0) (n := 0) (by omega) (by omega) ?_
    refine fw_iret E hr hlk hH ?_ dX10_setWay_29
    have hk := (show kS_setWay z1 z2 = 1 by unfold kS_setWay; (repeat' split) <;> omega)
    exact ⟨by rw [hk]; exact hmt, fun h => absurd (hk.symm.trans h) (by decide), (fun q hq hq2 => by rw [fr12 q (by omega), fr3 q (by omega)])⟩
  · refine lv_iload_n E.1 E.2.1 dX10_setWay_14 rfl (lv_at hl 2 rfl) ?_
    refine lv_iconst (v := iI 0) E.1 E.2.1 dX10_setWay_15 (by decide) ?_
    refine lv_bipush (v := iI 99) E.1 E.2.1 dX10_setWay_16 (by decide) ?_
    refine fw_cS (As := [.int (iI z2), .int (iI 0), .int (iI 99)]) (rest := []) E hK hH hl fL_X10_isIn ql_RX10_94 qs_yX10_isIn (m_isIn l G _ _ z2 0 99 (by omega) (by omega) (by omega)) rfl rfl (Nat.le_of_ble_eq_true rfl) ⟨Nat.le_of_ble_eq_true rfl, Nat.le_of_ble_eq_true rfl⟩ ⟨by show _ ≤ (0 : Nat); omega, by show _ ≤ (0 : Nat); omega⟩ dX10_setWay_18 (fw_ki fun r16 M15 H1 locs1 hp14 hH hz1 => ?_)
    obtain ⟨b13, rfl, hb13, hM9, hz2⟩ := hp14
    replace hz := hz2.trans hz
    clear hz1 hz2
    rw [hM9] at hH
    refine fw_if_ne (tgt := 30) E dX10_setWay_21 (by decide) (by omega) (by omega) (fun c17 => ?_) (fun c17 => ?_)
    · refine lv_aload_n E.1 E.2.1 dX10_setWay_30 rfl (lv_at hl 0 rfl) ?_
      refine fw_get E hK hH m0 fc_X10 9 (by decide) ql_RX10_192 rfl rfl dX10_setWay_31 ?_
      refine lv_istore_n (lv' := [(3, .int (iI 0)), (0, .ref b), (1, .int (iI z1)), (2, .int (iI z2))]) E.1 E.2.1 dX10_setWay_34 rfl hl (by decide) rfl (fun ls hl => ?_)
      refine lv_aload_n E.1 E.2.1 dX10_setWay_35 rfl (lv_at hl 1 rfl) ?_
      refine lv_iload_n E.1 E.2.1 dX10_setWay_36 rfl (lv_at hl 2 rfl) ?_
      refine fw_put E hK hH (by omega) m0 fc_X10 9 (by decide) ql_RX10_192 rfl rfl rfl rfl (Nat.le_of_ble_eq_true rfl) dX10_setWay_37 (fun H1 locs1 hH hz1 => ?_)
      replace hz := hz1.trans hz; clear hz1
      obtain ⟨M18, hM19⟩ : ∃ MX, MX = fw_up M1 b (.inr (10, [.ref (b + 1), .int (iI 0), .ref (b + 2), .int (iI 0), .int (iI 0), .ref (b + 3), .int (iI 0), .ref (b + 4), .ref (b + 5), .int (iI z1), .int (iI 1), .int (iI 0), .ref (b + 6), .int (iI 0), .int (iI 70), .int (iI 20), .int (iI 5), .int (iI 2), .int (iI 1), .int (iI 0), .int (iI 0)])) := ⟨_, rfl⟩
      replace hH := fw_H.nm hM19 hH
      have fr20 : ∀ q, q ≠ b → M18 q = M1 q := fun q h => by rw [hM19]; exact fw_up_ne h
      have m0 : M18 b = some (.inr (10, [.ref (b + 1), .int (iI 0), .ref (b + 2), .int (iI 0), .int (iI 0), .ref (b + 3), .int (iI 0), .ref (b + 4), .ref (b + 5), .int (iI z1), .int (iI 1), .int (iI 0), .ref (b + 6), .int (iI 0), .int (iI 70), .int (iI 20), .int (iI 5), .int (iI 2), .int (iI 1), .int (iI 0), .int (iI 0)])) := by rw [hM19]; exact fw_up_eq
      refine lv_aload_n E.1 E.2.1 dX10_setWay_40 rfl (lv_at hl 1 rfl) ?_
      refine lv_iload_n E.1 E.2.1 dX10_setWay_41 rfl (lv_at hl 3 rfl) ?_
      refine fw_put E hK hH (by omega) m0 fc_X10 10 (by decide) ql_RX10_141 rfl rfl rfl rfl (Nat.le_of_ble_eq_true rfl) dX10_setWay_42 (fun H1 locs1 hH hz1 => ?_)
      replace hz := hz1.trans hz; clear hz1
      obtain ⟨M21, hM22⟩ : ∃ MX, MX = fw_up M18 b (.inr (10, [.ref (b + 1), .int (iI 0), .ref (b + 2), .int (iI 0), .int (iI 0), .ref (b + 3), .int (iI 0), .ref (b + 4), .ref (b + 5), .int (iI z1), .int (iI z2), .int (iI 0), .ref (b + 6), .int (iI 0), .int (iI 70), .int (iI 20), .int (iI 5), .int (iI 2), .int (iI 1), .int (iI 0), .int (iI 0)])) := ⟨_, rfl⟩
      replace hH := fw_H.nm hM22 hH
      have fr23 : ∀ q, q ≠ b → M21 q = M18 q := fun q h => by rw [hM22]; exact fw_up_ne h
      have m0 : M21 b = some (.inr (10, [.ref (b + 1), .int (iI 0), .ref (b + 2), .int (iI 0), .int (iI 0), .ref (b + 3), .int (iI 0), .ref (b + 4), .ref (b + 5), .int (iI z1), .int (iI z2), .int (iI 0), .ref (b + 6), .int (iI 0), .int (iI 70), .int (iI 20), .int (iI 5), .int (iI 2), .int (iI 1), .int (iI 0), .int (iI 0)])) := by rw [hM22]; exact fw_up_eq
      refine lv_iload_n E.1 E.2.1 dX10_setWay_45 rfl (lv_at hl 0 rfl) ?_
      refine W.widen (k := 0) (n := 0) (by omega) (by omega) ?_
      refine fw_iret E hr hlk hH ?_ dX10_setWay_46
      exact ⟨⟨_, m0, by rw [(show kS_setWay z1 z2 = 0 by unfold kS_setWay; (repeat' split) <;> omega)]; rfl⟩, fun _ => rfl, (fun q hq hq2 => by rw [fr23 q (by omega), fr20 q (by omega), fr3 q (by omega)])⟩
    · refine lv_aload_n E.1 E.2.1 dX10_setWay_24 rfl (lv_at hl 0 rfl) ?_
      refine lv_iconst (v := iI 1) E.1 E.2.1 dX10_setWay_25 (by decide) ?_
      refine fw_cV (As := [.int (iI 1)]) (rest := []) E hK hH hl m0 fc_X10 fL_X10_no ql_RX10_176 qi_yX10_no qv_yX10_no (m_no l G _ _ b (by omega) m0 1) rfl rfl (Nat.le_of_ble_eq_true rfl) ⟨Nat.le_of_ble_eq_true rfl, Nat.le_of_ble_eq_true rfl⟩ ⟨by show _ ≤ (0 : Nat); omega, by show _ ≤ (0 : Nat); omega⟩ dX10_setWay_26 (fw_ki fun r26 M25 H1 locs1 hp24 hH hz1 => ?_)
      obtain ⟨rfl, ⟨hmt, hfr⟩, hz2⟩ := hp24
      replace hz := hz2.trans hz
      clear hz1 hz2
      have fr27 := hfr
      refine W.widen (k := 0) (n := 0) (by omega) (by omega) ?_
      refine fw_iret E hr hlk hH ?_ dX10_setWay_29
      have hk := (show kS_setWay z1 z2 = 1 by unfold kS_setWay; (repeat' split) <;> omega)
      exact ⟨by rw [hk]; exact hmt, fun h => absurd (hk.symm.trans h) (by decide), (fun q hq hq2 => by rw [fr27 q (by omega), fr3 q (by omega)])⟩
theorem y_setRates (l : Launch) (G : fw_G) (M : fw_M) (N : Nat) (b : Nat) (hD : md0 G M b) (z1 z2 z3 : Int) (hz1 : -2147483648 ≤ z1 ∧ z1 < 2147483648) (hz2 : -2147483648 ≤ z2 ∧ z2 < 2147483648) (hz3 : -2147483648 ≤ z3 ∧ z3 < 2147483648) : fMet l yX10_setRates cX10_setRates 5 (some .int) 8 170 0 0 G M N [.ref b, .int (iI z1), .int (iI z2), .int (iI z3)] (fw_pi (fun r M1 n1 => mth M1 b (kS_setRates z1 z2 z3) ∧ (kS_setRates z1 z2 z3 = 0 → r = iI (70)) ∧ ∀ q, b + 7 ≤ q → q < N → M1 q = M q)) := by
  refine fw_met RX10 rfl (by decide +kernel) (Nat.le_of_ble_eq_true rfl) ?_
  intro p e s m args below meth c ls E hr hlk hnm hK hH hz hl
  obtain ⟨hb, m0, _, _, _, _, _⟩ := id hD
  refine lv_aload_n E.1 E.2.1 dX10_setRates_0 rfl (lv_at hl 0 rfl) ?_
  refine lv_iconst (v := iI 0) E.1 E.2.1 dX10_setRates_1 (by decide) ?_
  refine fw_put E hK hH (by omega) m0 fc_X10 1 (by decide) ql_RX10_163 rfl rfl rfl rfl (Nat.le_of_ble_eq_true rfl) dX10_setRates_2 (fun H1 locs1 hH hz1 => ?_)
  replace hz := hz1.trans hz; clear hz1
  obtain ⟨M1, hM2⟩ : ∃ MX, MX = fw_up M b (.inr (10, [.ref (b + 1), .int (iI 0), .ref (b + 2), .int (iI 0), .int (iI 0), .ref (b + 3), .int (iI 0), .ref (b + 4), .ref (b + 5), .int (iI 0), .int (iI 1), .int (iI 0), .ref (b + 6), .int (iI 0), .int (iI 70), .int (iI 20), .int (iI 5), .int (iI 2), .int (iI 1), .int (iI 0), .int (iI 0)])) := ⟨_, rfl⟩
  replace hH := fw_H.nm hM2 hH
  have fr3 : ∀ q, q ≠ b → M1 q = M q := fun q h => by rw [hM2]; exact fw_up_ne h
  have m0 : M1 b = some (.inr (10, [.ref (b + 1), .int (iI 0), .ref (b + 2), .int (iI 0), .int (iI 0), .ref (b + 3), .int (iI 0), .ref (b + 4), .ref (b + 5), .int (iI 0), .int (iI 1), .int (iI 0), .ref (b + 6), .int (iI 0), .int (iI 70), .int (iI 20), .int (iI 5), .int (iI 2), .int (iI 1), .int (iI 0), .int (iI 0)])) := by rw [hM2]; exact fw_up_eq
  refine lv_iload_n E.1 E.2.1 dX10_setRates_5 rfl (lv_at hl 1 rfl) ?_
  refine lv_iconst (v := iI 0) E.1 E.2.1 dX10_setRates_6 (by decide) ?_
  refine lv_bipush (v := iI 100) E.1 E.2.1 dX10_setRates_7 (by decide) ?_
  refine fw_cS (As := [.int (iI z1), .int (iI 0), .int (iI 100)]) (rest := []) E hK hH hl fL_X10_isIn ql_RX10_94 qs_yX10_isIn (m_isIn l G _ _ z1 0 100 (by omega) (by omega) (by omega)) rfl rfl (Nat.le_of_ble_eq_true rfl) ⟨Nat.le_of_ble_eq_true rfl, Nat.le_of_ble_eq_true rfl⟩ ⟨by show _ ≤ (0 : Nat); omega, by show _ ≤ (0 : Nat); omega⟩ dX10_setRates_9 (fw_ki fun r7 M6 H1 locs1 hp5 hH hz1 => ?_)
  obtain ⟨b4, rfl, hb4, hM9, hz2⟩ := hp5
  replace hz := hz2.trans hz
  clear hz1 hz2
  rw [hM9] at hH
  refine fw_if_eq (tgt := 45) E dX10_setRates_12 (by decide) (by omega) (by omega) (fun c8 => ?_) (fun c8 => ?_)
  · refine lv_aload_n E.1 E.2.1 dX10_setRates_45 rfl (lv_at hl 0 rfl) ?_
    refine lv_iconst (v := iI 1) E.1 E.2.1 dX10_setRates_46 (by decide) ?_
    refine fw_cV (As := [.int (iI 1)]) (rest := []) E hK hH hl m0 fc_X10 fL_X10_no ql_RX10_176 qi_yX10_no qv_yX10_no (m_no l G _ _ b (by omega) m0 1) rfl rfl (Nat.le_of_ble_eq_true rfl) ⟨Nat.le_of_ble_eq_true rfl, Nat.le_of_ble_eq_true rfl⟩ ⟨by show _ ≤ (0 : Nat); omega, by show _ ≤ (0 : Nat); omega⟩ dX10_setRates_47 (fw_ki fun r11 M10 H1 locs1 hp9 hH hz1 => ?_)
    obtain ⟨rfl, ⟨hmt, hfr⟩, hz2⟩ := hp9
    replace hz := hz2.trans hz
    clear hz1 hz2
    have fr12 := hfr
    refine W.widen (k := 0) (n := 0) (by omega) (by omega) ?_
    refine fw_iret E hr hlk hH ?_ dX10_setRates_50
    have hk := (show kS_setRates z1 z2 z3 = 1 by unfold kS_setRates; (repeat' split) <;> omega)
    exact ⟨by rw [hk]; exact hmt, fun h => absurd (hk.symm.trans h) (by decide), (fun q hq hq2 => by rw [fr12 q (by omega), fr3 q (by omega)])⟩
  · refine lv_iload_n E.1 E.2.1 dX10_setRates_15 rfl (lv_at hl 2 rfl) ?_
    refine lv_iconst (v := iI 0) E.1 E.2.1 dX10_setRates_16 (by decide) ?_
    refine lv_bipush (v := iI 100) E.1 E.2.1 dX10_setRates_17 (by decide) ?_
    refine fw_cS (As := [.int (iI z2), .int (iI 0), .int (iI 100)]) (rest := []) E hK hH hl fL_X10_isIn ql_RX10_94 qs_yX10_isIn (m_isIn l G _ _ z2 0 100 (by omega) (by omega) (by omega)) rfl rfl (Nat.le_of_ble_eq_true rfl) ⟨Nat.le_of_ble_eq_true rfl, Nat.le_of_ble_eq_true rfl⟩ ⟨by show _ ≤ (0 : Nat); omega, by show _ ≤ (0 : Nat); omega⟩ dX10_setRates_19 (fw_ki fun r16 M15 H1 locs1 hp14 hH hz1 => ?_)
    obtain ⟨b13, rfl, hb13, hM9, hz2⟩ := hp14
    replace hz := hz2.trans hz
    clear hz1 hz2
    rw [hM9] at hH
    refine fw_if_eq (tgt := 45) E dX10_setRates_22 (by decide) (by omega) (by omega) (fun c17 => ?_) (fun c17 => ?_)
    · refine lv_aload_n E.1 E.2.1 dX10_setRates_45 rfl (lv_at hl 0 rfl) ?_
      refine lv_iconst (v := iI 1) E.1 E.2.1 dX10_setRates_46 (by decide) ?_
      refine fw_cV (As := [.int (iI 1)]) (rest := []) E hK hH hl m0 fc_X10 fL_X10_no ql_RX10_176 qi_yX10_no qv_yX10_no (m_no l G _ _ b (by omega) m0 1) rfl rfl (Nat.le_of_ble_eq_true rfl) ⟨Nat.le_of_ble_eq_true rfl, Nat.le_of_ble_eq_true rfl⟩ ⟨by show _ ≤ (0 : Nat); omega, by show _ ≤ (0 : Nat); omega⟩ dX10_setRates_47 (fw_ki fun r20 M19 H1 locs1 hp18 hH hz1 => ?_)
      obtain ⟨rfl, ⟨hmt, hfr⟩, hz2⟩ := hp18
      replace hz := hz2.trans hz
      clear hz1 hz2
      have fr21 := hfr
      refine W.widen (k := 0) (n := 0) (by omega) (by omega) ?_
      refine fw_iret E hr hlk hH ?_ dX10_setRates_50
      have hk := (show kS_setRates z1 z2 z3 = 1 by unfold kS_setRates; (repeat' split) <;> omega)
      exact ⟨by rw [hk]; exact hmt, fun h => absurd (hk.symm.trans h) (by decide), (fun q hq hq2 => by rw [fr21 q (by omega), fr3 q (by omega)])⟩
    · refine lv_iload_n E.1 E.2.1 dX10_setRates_25 rfl (lv_at hl 3 rfl) ?_
      refine lv_iconst (v := iI 0) E.1 E.2.1 dX10_setRates_26 (by decide) ?_
      refine lv_bipush (v := iI 100) E.1 E.2.1 dX10_setRates_27 (by decide) ?_
      refine fw_cS (As := [.int (iI z3), .int (iI 0), .int (iI 100)]) (rest := []) E hK hH hl fL_X10_isIn ql_RX10_94 qs_yX10_isIn (m_isIn l G _ _ z3 0 100 (by omega) (by omega) (by omega)) rfl rfl (Nat.le_of_ble_eq_true rfl) ⟨Nat.le_of_ble_eq_true rfl, Nat.le_of_ble_eq_true rfl⟩ ⟨by show _ ≤ (0 : Nat); omega, by show _ ≤ (0 : Nat); omega⟩ dX10_setRates_29 (fw_ki fun r25 M24 H1 locs1 hp23 hH hz1 => ?_)
      obtain ⟨b22, rfl, hb22, hM9, hz2⟩ := hp23
      replace hz := hz2.trans hz
      clear hz1 hz2
      rw [hM9] at hH
      refine fw_if_eq (tgt := 45) E dX10_setRates_32 (by decide) (by omega) (by omega) (fun c26 => ?_) (fun c26 => ?_)
      · refine lv_aload_n E.1 E.2.1 dX10_setRates_45 rfl (lv_at hl 0 rfl) ?_
        refine lv_iconst (v := iI 1) E.1 E.2.1 dX10_setRates_46 (by decide) ?_
        refine fw_cV (As := [.int (iI 1)]) (rest := []) E hK hH hl m0 fc_X10 fL_X10_no ql_RX10_176 qi_yX10_no qv_yX10_no (m_no l G _ _ b (by omega) m0 1) rfl rfl (Nat.le_of_ble_eq_true rfl) ⟨Nat.le_of_ble_eq_true rfl, Nat.le_of_ble_eq_true rfl⟩ ⟨by show _ ≤ (0 : Nat); omega, by show _ ≤ (0 : Nat); omega⟩ dX10_setRates_47 (fw_ki fun r29 M28 H1 locs1 hp27 hH hz1 => ?_)
        obtain ⟨rfl, ⟨hmt, hfr⟩, hz2⟩ := hp27
        replace hz := hz2.trans hz
        clear hz1 hz2
        have fr30 := hfr
        refine W.widen (k := 0) (n := 0) (by omega) (by omega) ?_
        refine fw_iret E hr hlk hH ?_ dX10_setRates_50
        have hk := (show kS_setRates z1 z2 z3 = 1 by unfold kS_setRates; (repeat' split) <;> omega)
        exact ⟨by rw [hk]; exact hmt, fun h => absurd (hk.symm.trans h) (by decide), (fun q hq hq2 => by rw [fr30 q (by omega), fr3 q (by omega)])⟩
      · refine lv_iload_n E.1 E.2.1 dX10_setRates_35 rfl (lv_at hl 1 rfl) ?_
        refine lv_iload_n E.1 E.2.1 dX10_setRates_36 rfl (lv_at hl 2 rfl) ?_
        refine fw_iadd E dX10_setRates_37 ?_
        refine lv_iload_n E.1 E.2.1 dX10_setRates_38 rfl (lv_at hl 3 rfl) ?_
        refine fw_iadd E dX10_setRates_39 ?_
        refine lv_bipush (v := iI 100) E.1 E.2.1 dX10_setRates_40 (by decide) ?_
        refine fw_icmp_le (tgt := 51) E dX10_setRates_42 (by decide) (by omega) (by omega) (by omega) (by omega) (fun c31 => ?_) (fun c31 => ?_)
        · refine lv_aload_n E.1 E.2.1 dX10_setRates_51 rfl (lv_at hl 0 rfl) ?_
          refine fw_get E hK hH m0 fc_X10 14 (by decide) ql_RX10_148 rfl rfl dX10_setRates_52 ?_
          refine lv_istore (lv' := [(4, .int (iI 70)), (0, .ref b), (1, .int (iI z1)), (2, .int (iI z2)), (3, .int (iI z3))]) E.1 E.2.1 dX10_setRates_55 hl (by decide) rfl (fun ls hl => ?_)
          refine lv_aload_n E.1 E.2.1 dX10_setRates_57 rfl (lv_at hl 1 rfl) ?_
          refine lv_iload_n E.1 E.2.1 dX10_setRates_58 rfl (lv_at hl 2 rfl) ?_
          refine fw_put E hK hH (by omega) m0 fc_X10 14 (by decide) ql_RX10_148 rfl rfl rfl rfl (Nat.le_of_ble_eq_true rfl) dX10_setRates_59 (fun H1 locs1 hH hz1 => ?_)
          replace hz := hz1.trans hz; clear hz1
          obtain ⟨M32, hM33⟩ : ∃ MX, MX = fw_up M1 b (.inr (10, [.ref (b + 1), .int (iI 0), .ref (b + 2), .int (iI 0), .int (iI 0), .ref (b + 3), .int (iI 0), .ref (b + 4), .ref (b + 5), .int (iI 0), .int (iI 1), .int (iI 0), .ref (b + 6), .int (iI 0), .int (iI z1), .int (iI 20), .int (iI 5), .int (iI 2), .int (iI 1), .int (iI 0), .int (iI 0)])) := ⟨_, rfl⟩
          replace hH := fw_H.nm hM33 hH
          have fr34 : ∀ q, q ≠ b → M32 q = M1 q := fun q h => by rw [hM33]; exact fw_up_ne h
          have m0 : M32 b = some (.inr (10, [.ref (b + 1), .int (iI 0), .ref (b + 2), .int (iI 0), .int (iI 0), .ref (b + 3), .int (iI 0), .ref (b + 4), .ref (b + 5), .int (iI 0), .int (iI 1), .int (iI 0), .ref (b + 6), .int (iI 0), .int (iI z1), .int (iI 20), .int (iI 5), .int (iI 2), .int (iI 1), .int (iI 0), .int (iI 0)])) := by rw [hM33]; exact fw_up_eq
          refine lv_aload_n E.1 E.2.1 dX10_setRates_62 rfl (lv_at hl 1 rfl) ?_
          refine lv_iload_n E.1 E.2.1 dX10_setRates_63 rfl (lv_at hl 3 rfl) ?_
          refine fw_put E hK hH (by omega) m0 fc_X10 15 (by decide) ql_RX10_151 rfl rfl rfl rfl (Nat.le_of_ble_eq_true rfl) dX10_setRates_64 (fun H1 locs1 hH hz1 => ?_)
          replace hz := hz1.trans hz; clear hz1
          obtain ⟨M35, hM36⟩ : ∃ MX, MX = fw_up M32 b (.inr (10, [.ref (b + 1), .int (iI 0), .ref (b + 2), .int (iI 0), .int (iI 0), .ref (b + 3), .int (iI 0), .ref (b + 4), .ref (b + 5), .int (iI 0), .int (iI 1), .int (iI 0), .ref (b + 6), .int (iI 0), .int (iI z1), .int (iI z2), .int (iI 5), .int (iI 2), .int (iI 1), .int (iI 0), .int (iI 0)])) := ⟨_, rfl⟩
          replace hH := fw_H.nm hM36 hH
          have fr37 : ∀ q, q ≠ b → M35 q = M32 q := fun q h => by rw [hM36]; exact fw_up_ne h
          have m0 : M35 b = some (.inr (10, [.ref (b + 1), .int (iI 0), .ref (b + 2), .int (iI 0), .int (iI 0), .ref (b + 3), .int (iI 0), .ref (b + 4), .ref (b + 5), .int (iI 0), .int (iI 1), .int (iI 0), .ref (b + 6), .int (iI 0), .int (iI z1), .int (iI z2), .int (iI 5), .int (iI 2), .int (iI 1), .int (iI 0), .int (iI 0)])) := by rw [hM36]; exact fw_up_eq
          refine lv_aload_n E.1 E.2.1 dX10_setRates_67 rfl (lv_at hl 1 rfl) ?_
          refine lv_iload_n E.1 E.2.1 dX10_setRates_68 rfl (lv_at hl 4 rfl) ?_
          refine fw_put E hK hH (by omega) m0 fc_X10 16 (by decide) ql_RX10_154 rfl rfl rfl rfl (Nat.le_of_ble_eq_true rfl) dX10_setRates_69 (fun H1 locs1 hH hz1 => ?_)
          replace hz := hz1.trans hz; clear hz1
          obtain ⟨M38, hM39⟩ : ∃ MX, MX = fw_up M35 b (.inr (10, [.ref (b + 1), .int (iI 0), .ref (b + 2), .int (iI 0), .int (iI 0), .ref (b + 3), .int (iI 0), .ref (b + 4), .ref (b + 5), .int (iI 0), .int (iI 1), .int (iI 0), .ref (b + 6), .int (iI 0), .int (iI z1), .int (iI z2), .int (iI z3), .int (iI 2), .int (iI 1), .int (iI 0), .int (iI 0)])) := ⟨_, rfl⟩
          replace hH := fw_H.nm hM39 hH
          have fr40 : ∀ q, q ≠ b → M38 q = M35 q := fun q h => by rw [hM39]; exact fw_up_ne h
          have m0 : M38 b = some (.inr (10, [.ref (b + 1), .int (iI 0), .ref (b + 2), .int (iI 0), .int (iI 0), .ref (b + 3), .int (iI 0), .ref (b + 4), .ref (b + 5), .int (iI 0), .int (iI 1), .int (iI 0), .ref (b + 6), .int (iI 0), .int (iI z1), .int (iI z2), .int (iI z3), .int (iI 2), .int (iI 1), .int (iI 0), .int (iI 0)])) := by rw [hM39]; exact fw_up_eq
          refine lv_iload E.1 E.2.1 dX10_setRates_72 (lv_at hl 0 rfl) ?_
          refine W.widen (k := 0) (n := 0) (by omega) (by omega) ?_
          refine fw_iret E hr hlk hH ?_ dX10_setRates_74
          exact ⟨⟨_, m0, by rw [(show kS_setRates z1 z2 z3 = 0 by unfold kS_setRates; (repeat' split) <;> omega)]; rfl⟩, fun _ => rfl, (fun q hq hq2 => by rw [fr40 q (by omega), fr37 q (by omega), fr34 q (by omega), fr3 q (by omega)])⟩
        · refine lv_aload_n E.1 E.2.1 dX10_setRates_45 rfl (lv_at hl 0 rfl) ?_
          refine lv_iconst (v := iI 1) E.1 E.2.1 dX10_setRates_46 (by decide) ?_
          refine fw_cV (As := [.int (iI 1)]) (rest := []) E hK hH hl m0 fc_X10 fL_X10_no ql_RX10_176 qi_yX10_no qv_yX10_no (m_no l G _ _ b (by omega) m0 1) rfl rfl (Nat.le_of_ble_eq_true rfl) ⟨Nat.le_of_ble_eq_true rfl, Nat.le_of_ble_eq_true rfl⟩ ⟨by show _ ≤ (0 : Nat); omega, by show _ ≤ (0 : Nat); omega⟩ dX10_setRates_47 (fw_ki fun r43 M42 H1 locs1 hp41 hH hz1 => ?_)
          obtain ⟨rfl, ⟨hmt, hfr⟩, hz2⟩ := hp41
          replace hz := hz2.trans hz
          clear hz1 hz2
          have fr44 := hfr
          refine W.widen (k := 0) (n := 0) (by omega) (by omega) ?_
          refine fw_iret E hr hlk hH ?_ dX10_setRates_50
          have hk := (show kS_setRates z1 z2 z3 = 1 by unfold kS_setRates; (repeat' split) <;> omega)
          exact ⟨by rw [hk]; exact hmt, fun h => absurd (hk.symm.trans h) (by decide), (fun q hq hq2 => by rw [fr44 q (by omega), fr3 q (by omega)])⟩
theorem y_setChoosing (l : Launch) (G : fw_G) (M : fw_M) (N : Nat) (b : Nat) (hD : md0 G M b) (z1 z2 : Int) (hz1 : -2147483648 ≤ z1 ∧ z1 < 2147483648) (hz2 : -2147483648 ≤ z2 ∧ z2 < 2147483648) : fMet l yX10_setChoosing cX10_setChoosing 4 (some .int) 8 170 0 0 G M N [.ref b, .int (iI z1), .int (iI z2)] (fw_pi (fun r M1 n1 => mth M1 b (kS_setChoosing z1 z2) ∧ (kS_setChoosing z1 z2 = 0 → r = iI (2)) ∧ ∀ q, b + 7 ≤ q → q < N → M1 q = M q)) := by
  refine fw_met RX10 rfl (by decide +kernel) (Nat.le_of_ble_eq_true rfl) ?_
  intro p e s m args below meth c ls E hr hlk hnm hK hH hz hl
  obtain ⟨hb, m0, _, _, _, _, _⟩ := id hD
  refine lv_aload_n E.1 E.2.1 dX10_setChoosing_0 rfl (lv_at hl 0 rfl) ?_
  refine lv_iconst (v := iI 0) E.1 E.2.1 dX10_setChoosing_1 (by decide) ?_
  refine fw_put E hK hH (by omega) m0 fc_X10 1 (by decide) ql_RX10_163 rfl rfl rfl rfl (Nat.le_of_ble_eq_true rfl) dX10_setChoosing_2 (fun H1 locs1 hH hz1 => ?_)
  replace hz := hz1.trans hz; clear hz1
  obtain ⟨M1, hM2⟩ : ∃ MX, MX = fw_up M b (.inr (10, [.ref (b + 1), .int (iI 0), .ref (b + 2), .int (iI 0), .int (iI 0), .ref (b + 3), .int (iI 0), .ref (b + 4), .ref (b + 5), .int (iI 0), .int (iI 1), .int (iI 0), .ref (b + 6), .int (iI 0), .int (iI 70), .int (iI 20), .int (iI 5), .int (iI 2), .int (iI 1), .int (iI 0), .int (iI 0)])) := ⟨_, rfl⟩
  replace hH := fw_H.nm hM2 hH
  have fr3 : ∀ q, q ≠ b → M1 q = M q := fun q h => by rw [hM2]; exact fw_up_ne h
  have m0 : M1 b = some (.inr (10, [.ref (b + 1), .int (iI 0), .ref (b + 2), .int (iI 0), .int (iI 0), .ref (b + 3), .int (iI 0), .ref (b + 4), .ref (b + 5), .int (iI 0), .int (iI 1), .int (iI 0), .ref (b + 6), .int (iI 0), .int (iI 70), .int (iI 20), .int (iI 5), .int (iI 2), .int (iI 1), .int (iI 0), .int (iI 0)])) := by rw [hM2]; exact fw_up_eq
  refine lv_iload_n E.1 E.2.1 dX10_setChoosing_5 rfl (lv_at hl 1 rfl) ?_
  refine lv_iconst (v := iI 1) E.1 E.2.1 dX10_setChoosing_6 (by decide) ?_
  refine lv_iconst (v := iI 5) E.1 E.2.1 dX10_setChoosing_7 (by decide) ?_
  refine fw_cS (As := [.int (iI z1), .int (iI 1), .int (iI 5)]) (rest := []) E hK hH hl fL_X10_isIn ql_RX10_94 qs_yX10_isIn (m_isIn l G _ _ z1 1 5 (by omega) (by omega) (by omega)) rfl rfl (Nat.le_of_ble_eq_true rfl) ⟨Nat.le_of_ble_eq_true rfl, Nat.le_of_ble_eq_true rfl⟩ ⟨by show _ ≤ (0 : Nat); omega, by show _ ≤ (0 : Nat); omega⟩ dX10_setChoosing_8 (fw_ki fun r7 M6 H1 locs1 hp5 hH hz1 => ?_)
  obtain ⟨b4, rfl, hb4, hM9, hz2⟩ := hp5
  replace hz := hz2.trans hz
  clear hz1 hz2
  rw [hM9] at hH
  refine fw_if_eq (tgt := 23) E dX10_setChoosing_11 (by decide) (by omega) (by omega) (fun c8 => ?_) (fun c8 => ?_)
  · refine lv_aload_n E.1 E.2.1 dX10_setChoosing_23 rfl (lv_at hl 0 rfl) ?_
    refine lv_iconst (v := iI 1) E.1 E.2.1 dX10_setChoosing_24 (by decide) ?_
    refine fw_cV (As := [.int (iI 1)]) (rest := []) E hK hH hl m0 fc_X10 fL_X10_no ql_RX10_176 qi_yX10_no qv_yX10_no (m_no l G _ _ b (by omega) m0 1) rfl rfl (Nat.le_of_ble_eq_true rfl) ⟨Nat.le_of_ble_eq_true rfl, Nat.le_of_ble_eq_true rfl⟩ ⟨by show _ ≤ (0 : Nat); omega, by show _ ≤ (0 : Nat); omega⟩ dX10_setChoosing_25 (fw_ki fun r11 M10 H1 locs1 hp9 hH hz1 => ?_)
    obtain ⟨rfl, ⟨hmt, hfr⟩, hz2⟩ := hp9
    replace hz := hz2.trans hz
    clear hz1 hz2
    have fr12 := hfr
    refine W.widen (k := 0) (n := 0) (by omega) (by omega) ?_
    refine fw_iret E hr hlk hH ?_ dX10_setChoosing_28
    have hk := (show kS_setChoosing z1 z2 = 1 by unfold kS_setChoosing; (repeat' split) <;> omega)
    exact ⟨by rw [hk]; exact hmt, fun h => absurd (hk.symm.trans h) (by decide), (fun q hq hq2 => by rw [fr12 q (by omega), fr3 q (by omega)])⟩
  · refine lv_iload_n E.1 E.2.1 dX10_setChoosing_14 rfl (lv_at hl 2 rfl) ?_
    refine lv_iconst (v := iI 0) E.1 E.2.1 dX10_setChoosing_15 (by decide) ?_
    refine lv_iconst (v := iI 4) E.1 E.2.1 dX10_setChoosing_16 (by decide) ?_
    refine fw_cS (As := [.int (iI z2), .int (iI 0), .int (iI 4)]) (rest := []) E hK hH hl fL_X10_isIn ql_RX10_94 qs_yX10_isIn (m_isIn l G _ _ z2 0 4 (by omega) (by omega) (by omega)) rfl rfl (Nat.le_of_ble_eq_true rfl) ⟨Nat.le_of_ble_eq_true rfl, Nat.le_of_ble_eq_true rfl⟩ ⟨by show _ ≤ (0 : Nat); omega, by show _ ≤ (0 : Nat); omega⟩ dX10_setChoosing_17 (fw_ki fun r16 M15 H1 locs1 hp14 hH hz1 => ?_)
    obtain ⟨b13, rfl, hb13, hM9, hz2⟩ := hp14
    replace hz := hz2.trans hz
    clear hz1 hz2
    rw [hM9] at hH
    refine fw_if_ne (tgt := 29) E dX10_setChoosing_20 (by decide) (by omega) (by omega) (fun c17 => ?_) (fun c17 => ?_)
    · refine lv_aload_n E.1 E.2.1 dX10_setChoosing_29 rfl (lv_at hl 0 rfl) ?_
      refine fw_get E hK hH m0 fc_X10 17 (by decide) ql_RX10_157 rfl rfl dX10_setChoosing_30 ?_
      refine lv_istore_n (lv' := [(3, .int (iI 2)), (0, .ref b), (1, .int (iI z1)), (2, .int (iI z2))]) E.1 E.2.1 dX10_setChoosing_33 rfl hl (by decide) rfl (fun ls hl => ?_)
      refine lv_aload_n E.1 E.2.1 dX10_setChoosing_34 rfl (lv_at hl 1 rfl) ?_
      refine lv_iload_n E.1 E.2.1 dX10_setChoosing_35 rfl (lv_at hl 2 rfl) ?_
      refine fw_put E hK hH (by omega) m0 fc_X10 17 (by decide) ql_RX10_157 rfl rfl rfl rfl (Nat.le_of_ble_eq_true rfl) dX10_setChoosing_36 (fun H1 locs1 hH hz1 => ?_)
      replace hz := hz1.trans hz; clear hz1
      obtain ⟨M18, hM19⟩ : ∃ MX, MX = fw_up M1 b (.inr (10, [.ref (b + 1), .int (iI 0), .ref (b + 2), .int (iI 0), .int (iI 0), .ref (b + 3), .int (iI 0), .ref (b + 4), .ref (b + 5), .int (iI 0), .int (iI 1), .int (iI 0), .ref (b + 6), .int (iI 0), .int (iI 70), .int (iI 20), .int (iI 5), .int (iI z1), .int (iI 1), .int (iI 0), .int (iI 0)])) := ⟨_, rfl⟩
      replace hH := fw_H.nm hM19 hH
      have fr20 : ∀ q, q ≠ b → M18 q = M1 q := fun q h => by rw [hM19]; exact fw_up_ne h
      have m0 : M18 b = some (.inr (10, [.ref (b + 1), .int (iI 0), .ref (b + 2), .int (iI 0), .int (iI 0), .ref (b + 3), .int (iI 0), .ref (b + 4), .ref (b + 5), .int (iI 0), .int (iI 1), .int (iI 0), .ref (b + 6), .int (iI 0), .int (iI 70), .int (iI 20), .int (iI 5), .int (iI z1), .int (iI 1), .int (iI 0), .int (iI 0)])) := by rw [hM19]; exact fw_up_eq
      refine lv_aload_n E.1 E.2.1 dX10_setChoosing_39 rfl (lv_at hl 1 rfl) ?_
      refine lv_iload_n E.1 E.2.1 dX10_setChoosing_40 rfl (lv_at hl 3 rfl) ?_
      refine fw_put E hK hH (by omega) m0 fc_X10 18 (by decide) ql_RX10_160 rfl rfl rfl rfl (Nat.le_of_ble_eq_true rfl) dX10_setChoosing_41 (fun H1 locs1 hH hz1 => ?_)
      replace hz := hz1.trans hz; clear hz1
      obtain ⟨M21, hM22⟩ : ∃ MX, MX = fw_up M18 b (.inr (10, [.ref (b + 1), .int (iI 0), .ref (b + 2), .int (iI 0), .int (iI 0), .ref (b + 3), .int (iI 0), .ref (b + 4), .ref (b + 5), .int (iI 0), .int (iI 1), .int (iI 0), .ref (b + 6), .int (iI 0), .int (iI 70), .int (iI 20), .int (iI 5), .int (iI z1), .int (iI z2), .int (iI 0), .int (iI 0)])) := ⟨_, rfl⟩
      replace hH := fw_H.nm hM22 hH
      have fr23 : ∀ q, q ≠ b → M21 q = M18 q := fun q h => by rw [hM22]; exact fw_up_ne h
      have m0 : M21 b = some (.inr (10, [.ref (b + 1), .int (iI 0), .ref (b + 2), .int (iI 0), .int (iI 0), .ref (b + 3), .int (iI 0), .ref (b + 4), .ref (b + 5), .int (iI 0), .int (iI 1), .int (iI 0), .ref (b + 6), .int (iI 0), .int (iI 70), .int (iI 20), .int (iI 5), .int (iI z1), .int (iI z2), .int (iI 0), .int (iI 0)])) := by rw [hM22]; exact fw_up_eq
      refine lv_iload_n E.1 E.2.1 dX10_setChoosing_44 rfl (lv_at hl 0 rfl) ?_
      refine W.widen (k := 0) (n := 0) (by omega) (by omega) ?_
      refine fw_iret E hr hlk hH ?_ dX10_setChoosing_45
      exact ⟨⟨_, m0, by rw [(show kS_setChoosing z1 z2 = 0 by unfold kS_setChoosing; (repeat' split) <;> omega)]; rfl⟩, fun _ => rfl, (fun q hq hq2 => by rw [fr23 q (by omega), fr20 q (by omega), fr3 q (by omega)])⟩
    · refine lv_aload_n E.1 E.2.1 dX10_setChoosing_23 rfl (lv_at hl 0 rfl) ?_
      refine lv_iconst (v := iI 1) E.1 E.2.1 dX10_setChoosing_24 (by decide) ?_
      refine fw_cV (As := [.int (iI 1)]) (rest := []) E hK hH hl m0 fc_X10 fL_X10_no ql_RX10_176 qi_yX10_no qv_yX10_no (m_no l G _ _ b (by omega) m0 1) rfl rfl (Nat.le_of_ble_eq_true rfl) ⟨Nat.le_of_ble_eq_true rfl, Nat.le_of_ble_eq_true rfl⟩ ⟨by show _ ≤ (0 : Nat); omega, by show _ ≤ (0 : Nat); omega⟩ dX10_setChoosing_25 (fw_ki fun r26 M25 H1 locs1 hp24 hH hz1 => ?_)
      obtain ⟨rfl, ⟨hmt, hfr⟩, hz2⟩ := hp24
      replace hz := hz2.trans hz
      clear hz1 hz2
      have fr27 := hfr
      refine W.widen (k := 0) (n := 0) (by omega) (by omega) ?_
      refine fw_iret E hr hlk hH ?_ dX10_setChoosing_28
      have hk := (show kS_setChoosing z1 z2 = 1 by unfold kS_setChoosing; (repeat' split) <;> omega)
      exact ⟨by rw [hk]; exact hmt, fun h => absurd (hk.symm.trans h) (by decide), (fun q hq hq2 => by rw [fr27 q (by omega), fr3 q (by omega)])⟩
theorem y_setLuck (l : Launch) (G : fw_G) (M : fw_M) (N : Nat) (b : Nat) (hD : md0 G M b) (z1 : Int) (hz1 : -2147483648 ≤ z1 ∧ z1 < 2147483648) : fMet l yX10_setLuck cX10_setLuck 3 (some .int) 8 170 0 0 G M N [.ref b, .int (iI z1)] (fw_pi (fun r M1 n1 => mth M1 b (kS_setLuck z1) ∧ (kS_setLuck z1 = 0 → r = iI (0)) ∧ ∀ q, b + 7 ≤ q → q < N → M1 q = M q)) := by
  refine fw_met RX10 rfl (by decide +kernel) (Nat.le_of_ble_eq_true rfl) ?_
  intro p e s m args below meth c ls E hr hlk hnm hK hH hz hl
  obtain ⟨hb, m0, _, _, _, _, _⟩ := id hD
  refine lv_aload_n E.1 E.2.1 dX10_setLuck_0 rfl (lv_at hl 0 rfl) ?_
  refine lv_iconst (v := iI 0) E.1 E.2.1 dX10_setLuck_1 (by decide) ?_
  refine fw_put E hK hH (by omega) m0 fc_X10 1 (by decide) ql_RX10_163 rfl rfl rfl rfl (Nat.le_of_ble_eq_true rfl) dX10_setLuck_2 (fun H1 locs1 hH hz1 => ?_)
  replace hz := hz1.trans hz; clear hz1
  obtain ⟨M1, hM2⟩ : ∃ MX, MX = fw_up M b (.inr (10, [.ref (b + 1), .int (iI 0), .ref (b + 2), .int (iI 0), .int (iI 0), .ref (b + 3), .int (iI 0), .ref (b + 4), .ref (b + 5), .int (iI 0), .int (iI 1), .int (iI 0), .ref (b + 6), .int (iI 0), .int (iI 70), .int (iI 20), .int (iI 5), .int (iI 2), .int (iI 1), .int (iI 0), .int (iI 0)])) := ⟨_, rfl⟩
  replace hH := fw_H.nm hM2 hH
  have fr3 : ∀ q, q ≠ b → M1 q = M q := fun q h => by rw [hM2]; exact fw_up_ne h
  have m0 : M1 b = some (.inr (10, [.ref (b + 1), .int (iI 0), .ref (b + 2), .int (iI 0), .int (iI 0), .ref (b + 3), .int (iI 0), .ref (b + 4), .ref (b + 5), .int (iI 0), .int (iI 1), .int (iI 0), .ref (b + 6), .int (iI 0), .int (iI 70), .int (iI 20), .int (iI 5), .int (iI 2), .int (iI 1), .int (iI 0), .int (iI 0)])) := by rw [hM2]; exact fw_up_eq
  refine lv_iload_n E.1 E.2.1 dX10_setLuck_5 rfl (lv_at hl 1 rfl) ?_
  refine lv_iconst (v := iI 0) E.1 E.2.1 dX10_setLuck_6 (by decide) ?_
  refine lv_sipush (v := iI 9999) E.1 E.2.1 dX10_setLuck_7 (by decide) ?_
  refine fw_cS (As := [.int (iI z1), .int (iI 0), .int (iI 9999)]) (rest := []) E hK hH hl fL_X10_isIn ql_RX10_94 qs_yX10_isIn (m_isIn l G _ _ z1 0 9999 (by omega) (by omega) (by omega)) rfl rfl (Nat.le_of_ble_eq_true rfl) ⟨Nat.le_of_ble_eq_true rfl, Nat.le_of_ble_eq_true rfl⟩ ⟨by show _ ≤ (0 : Nat); omega, by show _ ≤ (0 : Nat); omega⟩ dX10_setLuck_10 (fw_ki fun r7 M6 H1 locs1 hp5 hH hz1 => ?_)
  obtain ⟨b4, rfl, hb4, hM9, hz2⟩ := hp5
  replace hz := hz2.trans hz
  clear hz1 hz2
  rw [hM9] at hH
  refine fw_if_ne (tgt := 22) E dX10_setLuck_13 (by decide) (by omega) (by omega) (fun c8 => ?_) (fun c8 => ?_)
  · refine lv_aload_n E.1 E.2.1 dX10_setLuck_22 rfl (lv_at hl 0 rfl) ?_
    refine fw_get E hK hH m0 fc_X10 13 (by decide) ql_RX10_220 rfl rfl dX10_setLuck_23 ?_
    refine lv_istore_n (lv' := [(2, .int (iI 0)), (0, .ref b), (1, .int (iI z1))]) E.1 E.2.1 dX10_setLuck_26 rfl hl (by decide) rfl (fun ls hl => ?_)
    refine lv_aload_n E.1 E.2.1 dX10_setLuck_27 rfl (lv_at hl 1 rfl) ?_
    refine lv_iload_n E.1 E.2.1 dX10_setLuck_28 rfl (lv_at hl 2 rfl) ?_
    refine fw_put E hK hH (by omega) m0 fc_X10 13 (by decide) ql_RX10_220 rfl rfl rfl rfl (Nat.le_of_ble_eq_true rfl) dX10_setLuck_29 (fun H1 locs1 hH hz1 => ?_)
    replace hz := hz1.trans hz; clear hz1
    obtain ⟨M9, hM10⟩ : ∃ MX, MX = fw_up M1 b (.inr (10, [.ref (b + 1), .int (iI 0), .ref (b + 2), .int (iI 0), .int (iI 0), .ref (b + 3), .int (iI 0), .ref (b + 4), .ref (b + 5), .int (iI 0), .int (iI 1), .int (iI 0), .ref (b + 6), .int (iI z1), .int (iI 70), .int (iI 20), .int (iI 5), .int (iI 2), .int (iI 1), .int (iI 0), .int (iI 0)])) := ⟨_, rfl⟩
    replace hH := fw_H.nm hM10 hH
    have fr11 : ∀ q, q ≠ b → M9 q = M1 q := fun q h => by rw [hM10]; exact fw_up_ne h
    have m0 : M9 b = some (.inr (10, [.ref (b + 1), .int (iI 0), .ref (b + 2), .int (iI 0), .int (iI 0), .ref (b + 3), .int (iI 0), .ref (b + 4), .ref (b + 5), .int (iI 0), .int (iI 1), .int (iI 0), .ref (b + 6), .int (iI z1), .int (iI 70), .int (iI 20), .int (iI 5), .int (iI 2), .int (iI 1), .int (iI 0), .int (iI 0)])) := by rw [hM10]; exact fw_up_eq
    refine lv_iload_n E.1 E.2.1 dX10_setLuck_32 rfl (lv_at hl 0 rfl) ?_
    refine W.widen (k := 0) (n := 0) (by omega) (by omega) ?_
    refine fw_iret E hr hlk hH ?_ dX10_setLuck_33
    exact ⟨⟨_, m0, by rw [(show kS_setLuck z1 = 0 by unfold kS_setLuck; (repeat' split) <;> omega)]; rfl⟩, fun _ => rfl, (fun q hq hq2 => by rw [fr11 q (by omega), fr3 q (by omega)])⟩
  · refine lv_aload_n E.1 E.2.1 dX10_setLuck_16 rfl (lv_at hl 0 rfl) ?_
    refine lv_iconst (v := iI 1) E.1 E.2.1 dX10_setLuck_17 (by decide) ?_
    refine fw_cV (As := [.int (iI 1)]) (rest := []) E hK hH hl m0 fc_X10 fL_X10_no ql_RX10_176 qi_yX10_no qv_yX10_no (m_no l G _ _ b (by omega) m0 1) rfl rfl (Nat.le_of_ble_eq_true rfl) ⟨Nat.le_of_ble_eq_true rfl, Nat.le_of_ble_eq_true rfl⟩ ⟨by show _ ≤ (0 : Nat); omega, by show _ ≤ (0 : Nat); omega⟩ dX10_setLuck_18 (fw_ki fun r14 M13 H1 locs1 hp12 hH hz1 => ?_)
    obtain ⟨rfl, ⟨hmt, hfr⟩, hz2⟩ := hp12
    replace hz := hz2.trans hz
    clear hz1 hz2
    have fr15 := hfr
    refine W.widen (k := 0) (n := 0) (by omega) (by omega) ?_
    refine fw_iret E hr hlk hH ?_ dX10_setLuck_21
    have hk := (show kS_setLuck z1 = 1 by unfold kS_setLuck; (repeat' split) <;> omega)
    exact ⟨by rw [hk]; exact hmt, fun h => absurd (hk.symm.trans h) (by decide), (fun q hq hq2 => by rw [fr15 q (by omega), fr3 q (by omega)])⟩
theorem y_tell (l : Launch) (G : fw_G) (M : fw_M) (N : Nat) (b : Nat) (hD : md0 G M b) (z1 : Int) (hz1 : -2147483648 ≤ z1 ∧ z1 < 2147483648) : fMet l yX10_tell cX10_tell 2 (some .int) 8 170 0 0 G M N [.ref b, .int (iI z1)] (fw_pi (fun r M1 n1 => mth M1 b (kS_tell z1) ∧ (kS_tell z1 = 0 → r = iI (1)) ∧ ∀ q, b + 7 ≤ q → q < N → M1 q = M q)) := by
  refine fw_met RX10 rfl (by decide +kernel) (Nat.le_of_ble_eq_true rfl) ?_
  intro p e s m args below meth c ls E hr hlk hnm hK hH hz hl
  obtain ⟨hb, m0, _, _, _, _, m6⟩ := id hD
  refine lv_aload_n E.1 E.2.1 dX10_tell_0 rfl (lv_at hl 0 rfl) ?_
  refine lv_iconst (v := iI 0) E.1 E.2.1 dX10_tell_1 (by decide) ?_
  refine fw_put E hK hH (by omega) m0 fc_X10 1 (by decide) ql_RX10_163 rfl rfl rfl rfl (Nat.le_of_ble_eq_true rfl) dX10_tell_2 (fun H1 locs1 hH hz1 => ?_)
  replace hz := hz1.trans hz; clear hz1
  obtain ⟨M1, hM2⟩ : ∃ MX, MX = fw_up M b (.inr (10, [.ref (b + 1), .int (iI 0), .ref (b + 2), .int (iI 0), .int (iI 0), .ref (b + 3), .int (iI 0), .ref (b + 4), .ref (b + 5), .int (iI 0), .int (iI 1), .int (iI 0), .ref (b + 6), .int (iI 0), .int (iI 70), .int (iI 20), .int (iI 5), .int (iI 2), .int (iI 1), .int (iI 0), .int (iI 0)])) := ⟨_, rfl⟩
  replace hH := fw_H.nm hM2 hH
  have fr3 : ∀ q, q ≠ b → M1 q = M q := fun q h => by rw [hM2]; exact fw_up_ne h
  replace m6 : M1 (b + 6) = some (fI G 40 (fun j0 => iI (z0 j0))) := (fr3 _ (by omega)).trans m6
  have m0 : M1 b = some (.inr (10, [.ref (b + 1), .int (iI 0), .ref (b + 2), .int (iI 0), .int (iI 0), .ref (b + 3), .int (iI 0), .ref (b + 4), .ref (b + 5), .int (iI 0), .int (iI 1), .int (iI 0), .ref (b + 6), .int (iI 0), .int (iI 70), .int (iI 20), .int (iI 5), .int (iI 2), .int (iI 1), .int (iI 0), .int (iI 0)])) := by rw [hM2]; exact fw_up_eq
  refine lv_iload_n E.1 E.2.1 dX10_tell_5 rfl (lv_at hl 1 rfl) ?_
  refine fw_if_ge (tgt := 15) E dX10_tell_6 (by decide) (by omega) (by omega) (fun c4 => ?_) (fun c4 => ?_)
  · refine lv_aload_n E.1 E.2.1 dX10_tell_15 rfl (lv_at hl 0 rfl) ?_
    refine fw_get E hK hH m0 fc_X10 11 (by decide) ql_RX10_223 rfl rfl dX10_tell_16 ?_
    refine lv_bipush (v := iI 40) E.1 E.2.1 dX10_tell_19 (by decide) ?_
    refine fw_icmp_ne (tgt := 30) E dX10_tell_21 (by decide) (by omega) (by omega) (by omega) (by omega) (fun c5 => ?_) (fun c5 => ?_)
    · refine lv_aload_n E.1 E.2.1 dX10_tell_30 rfl (lv_at hl 0 rfl) ?_
      refine fw_get E hK hH m0 fc_X10 12 (by decide) ql_RX10_145 rfl rfl dX10_tell_31 ?_
      refine lv_aload_n E.1 E.2.1 dX10_tell_34 rfl (lv_at hl 0 rfl) ?_
      refine lv_dup E.1 E.2.1 dX10_tell_35 rfl ?_
      refine fw_get E hK hH m0 fc_X10 11 (by decide) ql_RX10_223 rfl rfl dX10_tell_36 ?_
      refine lv_dup_x1 E.1 E.2.1 dX10_tell_39 rfl rfl ?_
      refine lv_iconst (v := iI 1) E.1 E.2.1 dX10_tell_40 (by decide) ?_
      refine fw_iadd E dX10_tell_41 ?_
      refine fw_cv (y := iI (1)) (by decide) ?_
      refine fw_put E hK hH (by omega) m0 fc_X10 11 (by decide) ql_RX10_223 rfl rfl rfl rfl (Nat.le_of_ble_eq_true rfl) dX10_tell_42 (fun H1 locs1 hH hz1 => ?_)
      replace hz := hz1.trans hz; clear hz1
      obtain ⟨M6, hM7⟩ : ∃ MX, MX = fw_up M1 b (.inr (10, [.ref (b + 1), .int (iI 0), .ref (b + 2), .int (iI 0), .int (iI 0), .ref (b + 3), .int (iI 0), .ref (b + 4), .ref (b + 5), .int (iI 0), .int (iI 1), .int (iI (1)), .ref (b + 6), .int (iI 0), .int (iI 70), .int (iI 20), .int (iI 5), .int (iI 2), .int (iI 1), .int (iI 0), .int (iI 0)])) := ⟨_, rfl⟩
      replace hH := fw_H.nm hM7 hH
      have fr8 : ∀ q, q ≠ b → M6 q = M1 q := fun q h => by rw [hM7]; exact fw_up_ne h
      replace m6 : M6 (b + 6) = some (fI G 40 (fun j0 => iI (z0 j0))) := (fr8 _ (by omega)).trans m6
      have m0 : M6 b = some (.inr (10, [.ref (b + 1), .int (iI 0), .ref (b + 2), .int (iI 0), .int (iI 0), .ref (b + 3), .int (iI 0), .ref (b + 4), .ref (b + 5), .int (iI 0), .int (iI 1), .int (iI (1)), .ref (b + 6), .int (iI 0), .int (iI 70), .int (iI 20), .int (iI 5), .int (iI 2), .int (iI 1), .int (iI 0), .int (iI 0)])) := by rw [hM7]; exact fw_up_eq
      refine lv_iload_n E.1 E.2.1 dX10_tell_45 rfl (lv_at hl 1 rfl) ?_
      refine fw_iast E hK hH (by omega) m6 (iI_in (by omega) (by omega) (by omega)) dX10_tell_46 (fun H1 locs1 hH hz1 => ?_)
      replace hz := hz1.trans hz; clear hz1
      rw [show upd (fun j0 => iI (z0 j0)) (iI (0)).toNatClampNeg (iI (z1)) = fun j0 => iI ((zup z0 (0) (z1)) j0) from by rw [iI_ix (by omega) (by omega)]; exact zup_upd _ _ _] at hH
      obtain ⟨M9, hM10⟩ : ∃ MX, MX = fw_up M6 (b + 6) (fI G 40 (fun j0 => iI ((zup z0 (0) (z1)) j0))) := ⟨_, rfl⟩
      replace hH := fw_H.nm hM10 hH
      have fr11 : ∀ q, q ≠ (b + 6) → M9 q = M6 q := fun q h => by rw [hM10]; exact fw_up_ne h
      replace m0 : M9 b = some (.inr (10, [.ref (b + 1), .int (iI 0), .ref (b + 2), .int (iI 0), .int (iI 0), .ref (b + 3), .int (iI 0), .ref (b + 4), .ref (b + 5), .int (iI 0), .int (iI 1), .int (iI (1)), .ref (b + 6), .int (iI 0), .int (iI 70), .int (iI 20), .int (iI 5), .int (iI 2), .int (iI 1), .int (iI 0), .int (iI 0)])) := (fr11 _ (by omega)).trans m0
      have m6 : M9 (b + 6) = some (fI G 40 (fun j0 => iI ((zup z0 (0) (z1)) j0))) := by rw [hM10]; exact fw_up_eq
      refine lv_aload_n E.1 E.2.1 dX10_tell_47 rfl (lv_at hl 0 rfl) ?_
      refine fw_get E hK hH m0 fc_X10 11 (by decide) ql_RX10_223 rfl rfl dX10_tell_48 ?_
      refine W.widen (k := 0) (n := 0) (by omega) (by omega) ?_
      refine fw_iret E hr hlk hH ?_ dX10_tell_51
      exact ⟨⟨_, m0, by rw [(show kS_tell z1 = 0 by unfold kS_tell; (repeat' split) <;> omega)]; rfl⟩, fun _ => rfl, (fun q hq hq2 => by rw [fr11 q (by omega), fr8 q (by omega), fr3 q (by omega)])⟩
    · exact absurd c5 (by omega)
  · refine lv_aload_n E.1 E.2.1 dX10_tell_9 rfl (lv_at hl 0 rfl) ?_
    refine lv_iconst (v := iI 1) E.1 E.2.1 dX10_tell_10 (by decide) ?_
    refine fw_cV (As := [.int (iI 1)]) (rest := []) E hK hH hl m0 fc_X10 fL_X10_no ql_RX10_176 qi_yX10_no qv_yX10_no (m_no l G _ _ b (by omega) m0 1) rfl rfl (Nat.le_of_ble_eq_true rfl) ⟨Nat.le_of_ble_eq_true rfl, Nat.le_of_ble_eq_true rfl⟩ ⟨by show _ ≤ (0 : Nat); omega, by show _ ≤ (0 : Nat); omega⟩ dX10_tell_11 (fw_ki fun r14 M13 H1 locs1 hp12 hH hz1 => ?_)
    obtain ⟨rfl, ⟨hmt, hfr⟩, hz2⟩ := hp12
    replace hz := hz2.trans hz
    clear hz1 hz2
    have fr15 := hfr
    replace m6 : M13 (b + 6) = some (fI G 40 (fun j0 => iI (z0 j0))) := (fr15 _ (by omega)).trans m6
    refine W.widen (k := 0) (n := 0) (by omega) (by omega) ?_
    refine fw_iret E hr hlk hH ?_ dX10_tell_14
    have hk := (show kS_tell z1 = 1 by unfold kS_tell; (repeat' split) <;> omega)
    exact ⟨by rw [hk]; exact hmt, fun h => absurd (hk.symm.trans h) (by decide), (fun q hq hq2 => by rw [fr15 q (by omega), fr3 q (by omega)])⟩
theorem y_breed (l : Launch) (G : fw_G) (M : fw_M) (N : Nat) (b : Nat) (hD : md0 G M b) (z1 : Int) (hz1 : -2147483648 ≤ z1 ∧ z1 < 2147483648) : fMet l yX10_breed cX10_breed 2 (some .int) 8 170 0 0 G M N [.ref b, .int (iI z1)] (fw_pi (fun r M1 n1 => mth M1 b (kS_breed z1) ∧ (kS_breed z1 = 0 → r = iI (0)) ∧ ∀ q, b + 7 ≤ q → q < N → M1 q = M q)) := by
  refine fw_met RX10 rfl (by decide +kernel) (Nat.le_of_ble_eq_true rfl) ?_
  intro p e s m args below meth c ls E hr hlk hnm hK hH hz hl
  obtain ⟨hb, m0, _, _, _, _, _⟩ := id hD
  refine lv_aload_n E.1 E.2.1 dX10_breed_0 rfl (lv_at hl 0 rfl) ?_
  refine lv_iconst (v := iI 0) E.1 E.2.1 dX10_breed_1 (by decide) ?_
  refine fw_put E hK hH (by omega) m0 fc_X10 1 (by decide) ql_RX10_163 rfl rfl rfl rfl (Nat.le_of_ble_eq_true rfl) dX10_breed_2 (fun H1 locs1 hH hz1 => ?_)
  replace hz := hz1.trans hz; clear hz1
  obtain ⟨M1, hM2⟩ : ∃ MX, MX = fw_up M b (.inr (10, [.ref (b + 1), .int (iI 0), .ref (b + 2), .int (iI 0), .int (iI 0), .ref (b + 3), .int (iI 0), .ref (b + 4), .ref (b + 5), .int (iI 0), .int (iI 1), .int (iI 0), .ref (b + 6), .int (iI 0), .int (iI 70), .int (iI 20), .int (iI 5), .int (iI 2), .int (iI 1), .int (iI 0), .int (iI 0)])) := ⟨_, rfl⟩
  replace hH := fw_H.nm hM2 hH
  have fr3 : ∀ q, q ≠ b → M1 q = M q := fun q h => by rw [hM2]; exact fw_up_ne h
  have m0 : M1 b = some (.inr (10, [.ref (b + 1), .int (iI 0), .ref (b + 2), .int (iI 0), .int (iI 0), .ref (b + 3), .int (iI 0), .ref (b + 4), .ref (b + 5), .int (iI 0), .int (iI 1), .int (iI 0), .ref (b + 6), .int (iI 0), .int (iI 70), .int (iI 20), .int (iI 5), .int (iI 2), .int (iI 1), .int (iI 0), .int (iI 0)])) := by rw [hM2]; exact fw_up_eq
  refine lv_iload_n E.1 E.2.1 dX10_breed_5 rfl (lv_at hl 1 rfl) ?_
  refine lv_iconst (v := iI 1) E.1 E.2.1 dX10_breed_6 (by decide) ?_
  refine lv_bipush (v := iI 10) E.1 E.2.1 dX10_breed_7 (by decide) ?_
  refine fw_cS (As := [.int (iI z1), .int (iI 1), .int (iI 10)]) (rest := []) E hK hH hl fL_X10_isIn ql_RX10_94 qs_yX10_isIn (m_isIn l G _ _ z1 1 10 (by omega) (by omega) (by omega)) rfl rfl (Nat.le_of_ble_eq_true rfl) ⟨Nat.le_of_ble_eq_true rfl, Nat.le_of_ble_eq_true rfl⟩ ⟨by show _ ≤ (0 : Nat); omega, by show _ ≤ (0 : Nat); omega⟩ dX10_breed_9 (fw_ki fun r7 M6 H1 locs1 hp5 hH hz1 => ?_)
  obtain ⟨b4, rfl, hb4, hM9, hz2⟩ := hp5
  replace hz := hz2.trans hz
  clear hz1 hz2
  rw [hM9] at hH
  refine fw_if_ne (tgt := 21) E dX10_breed_12 (by decide) (by omega) (by omega) (fun c8 => ?_) (fun c8 => ?_)
  · refine lv_aload_n E.1 E.2.1 dX10_breed_21 rfl (lv_at hl 0 rfl) ?_
    refine fw_get E hK hH m0 fc_X10 4 (by decide) ql_RX10_166 rfl rfl dX10_breed_22 ?_
    refine fw_if_ne (tgt := 36) E dX10_breed_25 (by decide) (by omega) (by omega) (fun c9 => ?_) (fun c9 => ?_)
    · exact absurd c9 (by omega)
    · refine lv_aload_n E.1 E.2.1 dX10_breed_28 rfl (lv_at hl 0 rfl) ?_
      refine lv_iconst (v := iI 2) E.1 E.2.1 dX10_breed_29 (by decide) ?_
      refine fw_cV (As := [.int (iI 2)]) (rest := []) E hK hH hl m0 fc_X10 fL_X10_no ql_RX10_176 qi_yX10_no qv_yX10_no (m_no l G _ _ b (by omega) m0 2) rfl rfl (Nat.le_of_ble_eq_true rfl) ⟨Nat.le_of_ble_eq_true rfl, Nat.le_of_ble_eq_true rfl⟩ ⟨by show _ ≤ (0 : Nat); omega, by show _ ≤ (0 : Nat); omega⟩ dX10_breed_30 (fw_ki fun r12 M11 H1 locs1 hp10 hH hz1 => ?_)
      obtain ⟨rfl, ⟨hmt, hfr⟩, hz2⟩ := hp10
      replace hz := hz2.trans hz
      clear hz1 hz2
      have fr13 := hfr
      refine lv_goto (tgt := 41) E.1 E.2.1 dX10_breed_33 (by decide) ?_
      refine W.widen (k := 0) (n := 0) (by omega) (by omega) ?_
      refine fw_iret E hr hlk hH ?_ dX10_breed_41
      have hk := (show kS_breed z1 = 2 by unfold kS_breed; (repeat' split) <;> omega)
      exact ⟨by rw [hk]; exact hmt, fun h => absurd (hk.symm.trans h) (by decide), (fun q hq hq2 => by rw [fr13 q (by omega), fr3 q (by omega)])⟩
  · refine lv_aload_n E.1 E.2.1 dX10_breed_15 rfl (lv_at hl 0 rfl) ?_
    refine lv_iconst (v := iI 1) E.1 E.2.1 dX10_breed_16 (by decide) ?_
    refine fw_cV (As := [.int (iI 1)]) (rest := []) E hK hH hl m0 fc_X10 fL_X10_no ql_RX10_176 qi_yX10_no qv_yX10_no (m_no l G _ _ b (by omega) m0 1) rfl rfl (Nat.le_of_ble_eq_true rfl) ⟨Nat.le_of_ble_eq_true rfl, Nat.le_of_ble_eq_true rfl⟩ ⟨by show _ ≤ (0 : Nat); omega, by show _ ≤ (0 : Nat); omega⟩ dX10_breed_17 (fw_ki fun r16 M15 H1 locs1 hp14 hH hz1 => ?_)
    obtain ⟨rfl, ⟨hmt, hfr⟩, hz2⟩ := hp14
    replace hz := hz2.trans hz
    clear hz1 hz2
    have fr17 := hfr
    refine W.widen (k := 0) (n := 0) (by omega) (by omega) ?_
    refine fw_iret E hr hlk hH ?_ dX10_breed_20
    have hk := (show kS_breed z1 = 1 by unfold kS_breed; (repeat' split) <;> omega)
    exact ⟨by rw [hk]; exact hmt, fun h => absurd (hk.symm.trans h) (by decide), (fun q hq hq2 => by rw [fr17 q (by omega), fr3 q (by omega)])⟩
theorem y_errorBred (l : Launch) (G : fw_G) (M : fw_M) (N : Nat) (b : Nat) (hD : md0 G M b) (z1 : Int) (hz1 : -2147483648 ≤ z1 ∧ z1 < 2147483648) : fMet l yX10_errorBred cX10_errorBred 6 (some .int) 8 170 0 0 G M N [.ref b, .int (iI z1)] (fw_pi (fun r M1 n1 => mth M1 b (kS_breed z1) ∧ (kS_breed z1 = 0 → r = iI (0)) ∧ ∀ q, b + 7 ≤ q → q < N → M1 q = M q)) := by
  refine fw_met RX10 rfl (by decide +kernel) (Nat.le_of_ble_eq_true rfl) ?_
  intro p e s m args below meth c ls E hr hlk hnm hK hH hz hl
  obtain ⟨hb, m0, _, _, _, _, _⟩ := id hD
  refine lv_aload_n E.1 E.2.1 dX10_errorBred_0 rfl (lv_at hl 0 rfl) ?_
  refine lv_iconst (v := iI 0) E.1 E.2.1 dX10_errorBred_1 (by decide) ?_
  refine fw_put E hK hH (by omega) m0 fc_X10 1 (by decide) ql_RX10_163 rfl rfl rfl rfl (Nat.le_of_ble_eq_true rfl) dX10_errorBred_2 (fun H1 locs1 hH hz1 => ?_)
  replace hz := hz1.trans hz; clear hz1
  obtain ⟨M1, hM2⟩ : ∃ MX, MX = fw_up M b (.inr (10, [.ref (b + 1), .int (iI 0), .ref (b + 2), .int (iI 0), .int (iI 0), .ref (b + 3), .int (iI 0), .ref (b + 4), .ref (b + 5), .int (iI 0), .int (iI 1), .int (iI 0), .ref (b + 6), .int (iI 0), .int (iI 70), .int (iI 20), .int (iI 5), .int (iI 2), .int (iI 1), .int (iI 0), .int (iI 0)])) := ⟨_, rfl⟩
  replace hH := fw_H.nm hM2 hH
  have fr3 : ∀ q, q ≠ b → M1 q = M q := fun q h => by rw [hM2]; exact fw_up_ne h
  have m0 : M1 b = some (.inr (10, [.ref (b + 1), .int (iI 0), .ref (b + 2), .int (iI 0), .int (iI 0), .ref (b + 3), .int (iI 0), .ref (b + 4), .ref (b + 5), .int (iI 0), .int (iI 1), .int (iI 0), .ref (b + 6), .int (iI 0), .int (iI 70), .int (iI 20), .int (iI 5), .int (iI 2), .int (iI 1), .int (iI 0), .int (iI 0)])) := by rw [hM2]; exact fw_up_eq
  refine lv_iload_n E.1 E.2.1 dX10_errorBred_5 rfl (lv_at hl 1 rfl) ?_
  refine lv_iconst (v := iI 1) E.1 E.2.1 dX10_errorBred_6 (by decide) ?_
  refine lv_bipush (v := iI 10) E.1 E.2.1 dX10_errorBred_7 (by decide) ?_
  refine fw_cS (As := [.int (iI z1), .int (iI 1), .int (iI 10)]) (rest := []) E hK hH hl fL_X10_isIn ql_RX10_94 qs_yX10_isIn (m_isIn l G _ _ z1 1 10 (by omega) (by omega) (by omega)) rfl rfl (Nat.le_of_ble_eq_true rfl) ⟨Nat.le_of_ble_eq_true rfl, Nat.le_of_ble_eq_true rfl⟩ ⟨by show _ ≤ (0 : Nat); omega, by show _ ≤ (0 : Nat); omega⟩ dX10_errorBred_9 (fw_ki fun r7 M6 H1 locs1 hp5 hH hz1 => ?_)
  obtain ⟨b4, rfl, hb4, hM9, hz2⟩ := hp5
  replace hz := hz2.trans hz
  clear hz1 hz2
  rw [hM9] at hH
  refine fw_if_ne (tgt := 21) E dX10_errorBred_12 (by decide) (by omega) (by omega) (fun c8 => ?_) (fun c8 => ?_)
  · refine lv_aload_n E.1 E.2.1 dX10_errorBred_21 rfl (lv_at hl 0 rfl) ?_
    refine fw_get E hK hH m0 fc_X10 4 (by decide) ql_RX10_166 rfl rfl dX10_errorBred_22 ?_
    refine fw_if_ne (tgt := 34) E dX10_errorBred_25 (by decide) (by omega) (by omega) (fun c9 => ?_) (fun c9 => ?_)
    · exact absurd c9 (by omega)
    · refine lv_aload_n E.1 E.2.1 dX10_errorBred_28 rfl (lv_at hl 0 rfl) ?_
      refine lv_iconst (v := iI 2) E.1 E.2.1 dX10_errorBred_29 (by decide) ?_
      refine fw_cV (As := [.int (iI 2)]) (rest := []) E hK hH hl m0 fc_X10 fL_X10_no ql_RX10_176 qi_yX10_no qv_yX10_no (m_no l G _ _ b (by omega) m0 2) rfl rfl (Nat.le_of_ble_eq_true rfl) ⟨Nat.le_of_ble_eq_true rfl, Nat.le_of_ble_eq_true rfl⟩ ⟨by show _ ≤ (0 : Nat); omega, by show _ ≤ (0 : Nat); omega⟩ dX10_errorBred_30 (fw_ki fun r12 M11 H1 locs1 hp10 hH hz1 => ?_)
      obtain ⟨rfl, ⟨hmt, hfr⟩, hz2⟩ := hp10
      replace hz := hz2.trans hz
      clear hz1 hz2
      have fr13 := hfr
      refine W.widen (k := 0) (n := 0) (by omega) (by omega) ?_
      refine fw_iret E hr hlk hH ?_ dX10_errorBred_33
      have hk := (show kS_breed z1 = 2 by unfold kS_breed; (repeat' split) <;> omega)
      exact ⟨by rw [hk]; exact hmt, fun h => absurd (hk.symm.trans h) (by decide), (fun q hq hq2 => by rw [fr13 q (by omega), fr3 q (by omega)])⟩
  · refine lv_aload_n E.1 E.2.1 dX10_errorBred_15 rfl (lv_at hl 0 rfl) ?_
    refine lv_iconst (v := iI 1) E.1 E.2.1 dX10_errorBred_16 (by decide) ?_
    refine fw_cV (As := [.int (iI 1)]) (rest := []) E hK hH hl m0 fc_X10 fL_X10_no ql_RX10_176 qi_yX10_no qv_yX10_no (m_no l G _ _ b (by omega) m0 1) rfl rfl (Nat.le_of_ble_eq_true rfl) ⟨Nat.le_of_ble_eq_true rfl, Nat.le_of_ble_eq_true rfl⟩ ⟨by show _ ≤ (0 : Nat); omega, by show _ ≤ (0 : Nat); omega⟩ dX10_errorBred_17 (fw_ki fun r16 M15 H1 locs1 hp14 hH hz1 => ?_)
    obtain ⟨rfl, ⟨hmt, hfr⟩, hz2⟩ := hp14
    replace hz := hz2.trans hz
    clear hz1 hz2
    have fr17 := hfr
    refine W.widen (k := 0) (n := 0) (by omega) (by omega) ?_
    refine fw_iret E hr hlk hH ?_ dX10_errorBred_20
    have hk := (show kS_breed z1 = 1 by unfold kS_breed; (repeat' split) <;> omega)
    exact ⟨by rw [hk]; exact hmt, fun h => absurd (hk.symm.trans h) (by decide), (fun q hq hq2 => by rw [fr17 q (by omega), fr3 q (by omega)])⟩
theorem y_erase (l : Launch) (G : fw_G) (M : fw_M) (N : Nat) (b : Nat) (hD : md0 G M b)  : fMet l yX10_erase cX10_erase 2 (some .int) 8 170 0 0 G M N [.ref b] (fw_pi (fun r M1 n1 => r = iI 0 ∧ ∀ q, b + 7 ≤ q → q < N → M1 q = M q)) := by
  refine fw_met RX10 rfl (by decide +kernel) (Nat.le_of_ble_eq_true rfl) ?_
  intro p e s m args below meth c ls E hr hlk hnm hK hH hz hl
  obtain ⟨hb, m0, _, _, _, _, _⟩ := id hD
  refine lv_aload_n E.1 E.2.1 dX10_erase_0 rfl (lv_at hl 0 rfl) ?_
  refine lv_iconst (v := iI 0) E.1 E.2.1 dX10_erase_1 (by decide) ?_
  refine fw_put E hK hH (by omega) m0 fc_X10 1 (by decide) ql_RX10_163 rfl rfl rfl rfl (Nat.le_of_ble_eq_true rfl) dX10_erase_2 (fun H1 locs1 hH hz1 => ?_)
  replace hz := hz1.trans hz; clear hz1
  obtain ⟨M1, hM2⟩ : ∃ MX, MX = fw_up M b (.inr (10, [.ref (b + 1), .int (iI 0), .ref (b + 2), .int (iI 0), .int (iI 0), .ref (b + 3), .int (iI 0), .ref (b + 4), .ref (b + 5), .int (iI 0), .int (iI 1), .int (iI 0), .ref (b + 6), .int (iI 0), .int (iI 70), .int (iI 20), .int (iI 5), .int (iI 2), .int (iI 1), .int (iI 0), .int (iI 0)])) := ⟨_, rfl⟩
  replace hH := fw_H.nm hM2 hH
  have fr3 : ∀ q, q ≠ b → M1 q = M q := fun q h => by rw [hM2]; exact fw_up_ne h
  have m0 : M1 b = some (.inr (10, [.ref (b + 1), .int (iI 0), .ref (b + 2), .int (iI 0), .int (iI 0), .ref (b + 3), .int (iI 0), .ref (b + 4), .ref (b + 5), .int (iI 0), .int (iI 1), .int (iI 0), .ref (b + 6), .int (iI 0), .int (iI 70), .int (iI 20), .int (iI 5), .int (iI 2), .int (iI 1), .int (iI 0), .int (iI 0)])) := by rw [hM2]; exact fw_up_eq
  refine lv_aload_n E.1 E.2.1 dX10_erase_5 rfl (lv_at hl 0 rfl) ?_
  refine fw_get E hK hH m0 fc_X10 3 (by decide) ql_RX10_179 rfl rfl dX10_erase_6 ?_
  refine lv_istore_n (lv' := [(1, .int (iI 0)), (0, .ref b)]) E.1 E.2.1 dX10_erase_9 rfl hl (by decide) rfl (fun ls hl => ?_)
  refine lv_aload_n E.1 E.2.1 dX10_erase_10 rfl (lv_at hl 1 rfl) ?_
  refine lv_iconst (v := iI 0) E.1 E.2.1 dX10_erase_11 (by decide) ?_
  refine fw_put E hK hH (by omega) m0 fc_X10 3 (by decide) ql_RX10_179 rfl rfl rfl rfl (Nat.le_of_ble_eq_true rfl) dX10_erase_12 (fun H1 locs1 hH hz1 => ?_)
  replace hz := hz1.trans hz; clear hz1
  obtain ⟨M4, hM5⟩ : ∃ MX, MX = fw_up M1 b (.inr (10, [.ref (b + 1), .int (iI 0), .ref (b + 2), .int (iI 0), .int (iI 0), .ref (b + 3), .int (iI 0), .ref (b + 4), .ref (b + 5), .int (iI 0), .int (iI 1), .int (iI 0), .ref (b + 6), .int (iI 0), .int (iI 70), .int (iI 20), .int (iI 5), .int (iI 2), .int (iI 1), .int (iI 0), .int (iI 0)])) := ⟨_, rfl⟩
  replace hH := fw_H.nm hM5 hH
  have fr6 : ∀ q, q ≠ b → M4 q = M1 q := fun q h => by rw [hM5]; exact fw_up_ne h
  have m0 : M4 b = some (.inr (10, [.ref (b + 1), .int (iI 0), .ref (b + 2), .int (iI 0), .int (iI 0), .ref (b + 3), .int (iI 0), .ref (b + 4), .ref (b + 5), .int (iI 0), .int (iI 1), .int (iI 0), .ref (b + 6), .int (iI 0), .int (iI 70), .int (iI 20), .int (iI 5), .int (iI 2), .int (iI 1), .int (iI 0), .int (iI 0)])) := by rw [hM5]; exact fw_up_eq
  refine lv_iload_n E.1 E.2.1 dX10_erase_15 rfl (lv_at hl 0 rfl) ?_
  refine fw_iret E hr hlk hH ?_ dX10_erase_16
  exact ⟨rfl, (fun q hq hq2 => by rw [fr6 q (by omega), fr3 q (by omega)])⟩
theorem y_sketched (l : Launch) (G : fw_G) (M : fw_M) (N : Nat) (b : Nat) (hD : md0 G M b)  : fMet l yX10_sketched cX10_sketched 1 (some .int) 8 170 0 0 G M N [.ref b] (fw_pi (fun r M1 n1 => r = iI 0 ∧ ∀ q, b + 7 ≤ q → q < N → M1 q = M q)) := by
  refine fw_met RX10 rfl (by decide +kernel) (Nat.le_of_ble_eq_true rfl) ?_
  intro p e s m args below meth c ls E hr hlk hnm hK hH hz hl
  obtain ⟨hb, m0, _, _, _, _, _⟩ := id hD
  refine lv_aload_n E.1 E.2.1 dX10_sketched_0 rfl (lv_at hl 0 rfl) ?_
  refine lv_aload_n E.1 E.2.1 dX10_sketched_1 rfl (lv_at hl 0 rfl) ?_
  refine fw_get E hK hH m0 fc_X10 3 (by decide) ql_RX10_179 rfl rfl dX10_sketched_2 ?_
  refine fw_cV (As := [.int (iI 0)]) (rest := []) E hK hH hl m0 fc_X10 fL_X10_ok ql_RX10_272 qi_yX10_ok qv_yX10_ok (m_ok l G _ _ b (by omega) m0 0) rfl rfl (Nat.le_of_ble_eq_true rfl) ⟨Nat.le_of_ble_eq_true rfl, Nat.le_of_ble_eq_true rfl⟩ ⟨Nat.le_of_ble_eq_true rfl, Nat.le_of_ble_eq_true rfl⟩ dX10_sketched_5 (fw_ki fun r3 M2 H1 locs1 hp1 hH hz1 => ?_)
  obtain ⟨rfl, ⟨hmt, hfr⟩, hz2⟩ := hp1
  replace hz := hz2.trans hz
  clear hz1 hz2
  have fr4 := hfr
  refine fw_iret E hr hlk hH ?_ dX10_sketched_8
  exact ⟨rfl, (fun q hq hq2 => by rw [fr4 q (by omega)])⟩
theorem y_trees (l : Launch) (G : fw_G) (M : fw_M) (N : Nat) (b : Nat) (hD : md0 G M b)  : fMet l yX10_trees cX10_trees 1 (some .int) 8 170 0 0 G M N [.ref b] (fw_pi (fun r M1 n1 => r = iI 0 ∧ ∀ q, b + 7 ≤ q → q < N → M1 q = M q)) := by
  refine fw_met RX10 rfl (by decide +kernel) (Nat.le_of_ble_eq_true rfl) ?_
  intro p e s m args below meth c ls E hr hlk hnm hK hH hz hl
  obtain ⟨hb, m0, _, _, _, _, _⟩ := id hD
  refine lv_aload_n E.1 E.2.1 dX10_trees_0 rfl (lv_at hl 0 rfl) ?_
  refine lv_aload_n E.1 E.2.1 dX10_trees_1 rfl (lv_at hl 0 rfl) ?_
  refine fw_get E hK hH m0 fc_X10 4 (by decide) ql_RX10_166 rfl rfl dX10_trees_2 ?_
  refine fw_cV (As := [.int (iI 0)]) (rest := []) E hK hH hl m0 fc_X10 fL_X10_ok ql_RX10_272 qi_yX10_ok qv_yX10_ok (m_ok l G _ _ b (by omega) m0 0) rfl rfl (Nat.le_of_ble_eq_true rfl) ⟨Nat.le_of_ble_eq_true rfl, Nat.le_of_ble_eq_true rfl⟩ ⟨Nat.le_of_ble_eq_true rfl, Nat.le_of_ble_eq_true rfl⟩ dX10_trees_5 (fw_ki fun r3 M2 H1 locs1 hp1 hH hz1 => ?_)
  obtain ⟨rfl, ⟨hmt, hfr⟩, hz2⟩ := hp1
  replace hz := hz2.trans hz
  clear hz1 hz2
  have fr4 := hfr
  refine fw_iret E hr hlk hH ?_ dX10_trees_8
  exact ⟨rfl, (fun q hq hq2 => by rw [fr4 q (by omega)])⟩
theorem y_cases (l : Launch) (G : fw_G) (M : fw_M) (N : Nat) (b : Nat) (hD : md0 G M b)  : fMet l yX10_cases cX10_cases 1 (some .int) 8 170 0 0 G M N [.ref b] (fw_pi (fun r M1 n1 => r = iI 0 ∧ ∀ q, b + 7 ≤ q → q < N → M1 q = M q)) := by
  refine fw_met RX10 rfl (by decide +kernel) (Nat.le_of_ble_eq_true rfl) ?_
  intro p e s m args below meth c ls E hr hlk hnm hK hH hz hl
  obtain ⟨hb, m0, _, _, _, _, _⟩ := id hD
  refine lv_aload_n E.1 E.2.1 dX10_cases_0 rfl (lv_at hl 0 rfl) ?_
  refine lv_aload_n E.1 E.2.1 dX10_cases_1 rfl (lv_at hl 0 rfl) ?_
  refine fw_get E hK hH m0 fc_X10 6 (by decide) ql_RX10_189 rfl rfl dX10_cases_2 ?_
  refine fw_cV (As := [.int (iI 0)]) (rest := []) E hK hH hl m0 fc_X10 fL_X10_ok ql_RX10_272 qi_yX10_ok qv_yX10_ok (m_ok l G _ _ b (by omega) m0 0) rfl rfl (Nat.le_of_ble_eq_true rfl) ⟨Nat.le_of_ble_eq_true rfl, Nat.le_of_ble_eq_true rfl⟩ ⟨Nat.le_of_ble_eq_true rfl, Nat.le_of_ble_eq_true rfl⟩ dX10_cases_5 (fw_ki fun r3 M2 H1 locs1 hp1 hH hz1 => ?_)
  obtain ⟨rfl, ⟨hmt, hfr⟩, hz2⟩ := hp1
  replace hz := hz2.trans hz
  clear hz1 hz2
  have fr4 := hfr
  refine fw_iret E hr hlk hH ?_ dX10_cases_8
  exact ⟨rfl, (fun q hq hq2 => by rw [fr4 q (by omega)])⟩
theorem y_differentNow (l : Launch) (G : fw_G) (M : fw_M) (N : Nat) (b : Nat) (m0 : M b = some (.inr (10, [.ref (b + 1), .int (iI 0), .ref (b + 2), .int (iI 0), .int (iI 0), .ref (b + 3), .int (iI 0), .ref (b + 4), .ref (b + 5), .int (iI 0), .int (iI 1), .int (iI 0), .ref (b + 6), .int (iI 0), .int (iI 70), .int (iI 20), .int (iI 5), .int (iI 2), .int (iI 1), .int (iI 0), .int (iI 0)]))) : fMet l yX10_differentNow cX10_differentNow 5 (some .int) 1 30 0 0 G M N [.ref b] (fw_pi (fun r M1 n1 => r = iI 0 ∧ M1 = M ∧ n1 = N)) := by
  refine fw_met RX10 rfl (by decide +kernel) (Nat.le_of_ble_eq_true rfl) ?_
  intro p e s m args below meth c ls E hr hlk hnm hK hH hz hl
  refine lv_iconst (v := iI 0) E.1 E.2.1 dX10_differentNow_0 (by decide) ?_
  refine lv_istore_n (lv' := [(1, .int (iI 0)), (0, .ref b)]) E.1 E.2.1 dX10_differentNow_1 rfl hl (by decide) rfl (fun ls hl => ?_)
  refine lv_iconst (v := iI 0) E.1 E.2.1 dX10_differentNow_2 (by decide) ?_
  refine lv_istore_n (lv' := [(2, .int (iI 0)), (1, .int (iI 0)), (0, .ref b)]) E.1 E.2.1 dX10_differentNow_3 rfl hl (by decide) rfl (fun ls hl => ?_)
  refine lv_iload_n E.1 E.2.1 dX10_differentNow_4 rfl (lv_at hl 0 rfl) ?_
  refine lv_aload_n E.1 E.2.1 dX10_differentNow_5 rfl (lv_at hl 2 rfl) ?_
  refine fw_get E hK hH m0 fc_X10 4 (by decide) ql_RX10_166 rfl rfl dX10_differentNow_6 ?_
  refine fw_icmp_ge (tgt := 74) E dX10_differentNow_9 (by decide) (by omega) (by omega) (by omega) (by omega) (fun c1 => ?_) (fun c1 => ?_)
  · refine lv_iload_n E.1 E.2.1 dX10_differentNow_74 rfl (lv_at hl 1 rfl) ?_
    refine fw_iret E hr hlk hH ?_ dX10_differentNow_75
    exact ⟨rfl, rfl, hz⟩
  · exact absurd c1 (by omega)
theorem y_different (l : Launch) (G : fw_G) (M : fw_M) (N : Nat) (b : Nat) (hD : md0 G M b)  : fMet l yX10_different cX10_different 1 (some .int) 8 170 0 0 G M N [.ref b] (fw_pi (fun r M1 n1 => r = iI 0 ∧ ∀ q, b + 7 ≤ q → q < N → M1 q = M q)) := by
  refine fw_met RX10 rfl (by decide +kernel) (Nat.le_of_ble_eq_true rfl) ?_
  intro p e s m args below meth c ls E hr hlk hnm hK hH hz hl
  obtain ⟨hb, m0, _, _, _, _, _⟩ := id hD
  refine lv_aload_n E.1 E.2.1 dX10_different_0 rfl (lv_at hl 0 rfl) ?_
  refine lv_aload_n E.1 E.2.1 dX10_different_1 rfl (lv_at hl 0 rfl) ?_
  refine fw_cV (As := []) (rest := [.ref b]) E hK hH hl m0 fc_X10 fL_X10_differentNow ql_RX10_278 qi_yX10_differentNow qv_yX10_differentNow (y_differentNow l G _ _ b m0) rfl rfl (Nat.le_of_ble_eq_true rfl) ⟨Nat.le_of_ble_eq_true rfl, Nat.le_of_ble_eq_true rfl⟩ ⟨Nat.le_of_ble_eq_true rfl, Nat.le_of_ble_eq_true rfl⟩ dX10_different_2 (fw_ki fun r3 M2 H1 locs1 hp1 hH hz1 => ?_)
  obtain ⟨rfl, hM9, hz2⟩ := hp1
  replace hz := hz2.trans hz
  clear hz1 hz2
  rw [hM9] at hH
  refine fw_cV (As := [.int (iI 0)]) (rest := []) E hK hH hl m0 fc_X10 fL_X10_ok ql_RX10_272 qi_yX10_ok qv_yX10_ok (m_ok l G _ _ b (by omega) m0 0) rfl rfl (Nat.le_of_ble_eq_true rfl) ⟨Nat.le_of_ble_eq_true rfl, Nat.le_of_ble_eq_true rfl⟩ ⟨Nat.le_of_ble_eq_true rfl, Nat.le_of_ble_eq_true rfl⟩ dX10_different_5 (fw_ki fun r6 M5 H1 locs1 hp4 hH hz1 => ?_)
  obtain ⟨rfl, ⟨hmt, hfr⟩, hz2⟩ := hp4
  replace hz := hz2.trans hz
  clear hz1 hz2
  have fr7 := hfr
  refine fw_iret E hr hlk hH ?_ dX10_different_8
  exact ⟨rfl, (fun q hq hq2 => by rw [fr7 q (by omega)])⟩
theorem y_generations (l : Launch) (G : fw_G) (M : fw_M) (N : Nat) (b : Nat) (hD : md0 G M b)  : fMet l yX10_generations cX10_generations 1 (some .int) 8 170 0 0 G M N [.ref b] (fw_pi (fun r M1 n1 => r = iI 0 ∧ ∀ q, b + 7 ≤ q → q < N → M1 q = M q)) := by
  refine fw_met RX10 rfl (by decide +kernel) (Nat.le_of_ble_eq_true rfl) ?_
  intro p e s m args below meth c ls E hr hlk hnm hK hH hz hl
  obtain ⟨hb, m0, _, _, _, _, _⟩ := id hD
  refine lv_aload_n E.1 E.2.1 dX10_generations_0 rfl (lv_at hl 0 rfl) ?_
  refine lv_aload_n E.1 E.2.1 dX10_generations_1 rfl (lv_at hl 0 rfl) ?_
  refine fw_get E hK hH m0 fc_X10 19 (by decide) ql_RX10_263 rfl rfl dX10_generations_2 ?_
  refine fw_cV (As := [.int (iI 0)]) (rest := []) E hK hH hl m0 fc_X10 fL_X10_ok ql_RX10_272 qi_yX10_ok qv_yX10_ok (m_ok l G _ _ b (by omega) m0 0) rfl rfl (Nat.le_of_ble_eq_true rfl) ⟨Nat.le_of_ble_eq_true rfl, Nat.le_of_ble_eq_true rfl⟩ ⟨Nat.le_of_ble_eq_true rfl, Nat.le_of_ble_eq_true rfl⟩ dX10_generations_5 (fw_ki fun r3 M2 H1 locs1 hp1 hH hz1 => ?_)
  obtain ⟨rfl, ⟨hmt, hfr⟩, hz2⟩ := hp1
  replace hz := hz2.trans hz
  clear hz1 hz2
  have fr4 := hfr
  refine fw_iret E hr hlk hH ?_ dX10_generations_8
  exact ⟨rfl, (fun q hq hq2 => by rw [fr4 q (by omega)])⟩
theorem y_misses (l : Launch) (G : fw_G) (M : fw_M) (N : Nat) (b : Nat) (hD : md0 G M b)  : fMet l yX10_misses cX10_misses 1 (some .int) 8 170 0 0 G M N [.ref b] (fw_pi (fun r M1 n1 => r = iI 0 ∧ ∀ q, b + 7 ≤ q → q < N → M1 q = M q)) := by
  refine fw_met RX10 rfl (by decide +kernel) (Nat.le_of_ble_eq_true rfl) ?_
  intro p e s m args below meth c ls E hr hlk hnm hK hH hz hl
  obtain ⟨hb, m0, _, _, _, _, _⟩ := id hD
  refine lv_aload_n E.1 E.2.1 dX10_misses_0 rfl (lv_at hl 0 rfl) ?_
  refine lv_aload_n E.1 E.2.1 dX10_misses_1 rfl (lv_at hl 0 rfl) ?_
  refine fw_get E hK hH m0 fc_X10 20 (by decide) ql_RX10_260 rfl rfl dX10_misses_2 ?_
  refine fw_cV (As := [.int (iI 0)]) (rest := []) E hK hH hl m0 fc_X10 fL_X10_ok ql_RX10_272 qi_yX10_ok qv_yX10_ok (m_ok l G _ _ b (by omega) m0 0) rfl rfl (Nat.le_of_ble_eq_true rfl) ⟨Nat.le_of_ble_eq_true rfl, Nat.le_of_ble_eq_true rfl⟩ ⟨Nat.le_of_ble_eq_true rfl, Nat.le_of_ble_eq_true rfl⟩ dX10_misses_5 (fw_ki fun r3 M2 H1 locs1 hp1 hH hz1 => ?_)
  obtain ⟨rfl, ⟨hmt, hfr⟩, hz2⟩ := hp1
  replace hz := hz2.trans hz
  clear hz1 hz2
  have fr4 := hfr
  refine fw_iret E hr hlk hH ?_ dX10_misses_8
  exact ⟨rfl, (fun q hq hq2 => by rw [fr4 q (by omega)])⟩
theorem y_luck (l : Launch) (G : fw_G) (M : fw_M) (N : Nat) (b : Nat) (hD : md0 G M b)  : fMet l yX10_luck cX10_luck 1 (some .int) 8 170 0 0 G M N [.ref b] (fw_pi (fun r M1 n1 => r = iI 0 ∧ ∀ q, b + 7 ≤ q → q < N → M1 q = M q)) := by
  refine fw_met RX10 rfl (by decide +kernel) (Nat.le_of_ble_eq_true rfl) ?_
  intro p e s m args below meth c ls E hr hlk hnm hK hH hz hl
  obtain ⟨hb, m0, _, _, _, _, _⟩ := id hD
  refine lv_aload_n E.1 E.2.1 dX10_luck_0 rfl (lv_at hl 0 rfl) ?_
  refine lv_aload_n E.1 E.2.1 dX10_luck_1 rfl (lv_at hl 0 rfl) ?_
  refine fw_get E hK hH m0 fc_X10 13 (by decide) ql_RX10_220 rfl rfl dX10_luck_2 ?_
  refine fw_cV (As := [.int (iI 0)]) (rest := []) E hK hH hl m0 fc_X10 fL_X10_ok ql_RX10_272 qi_yX10_ok qv_yX10_ok (m_ok l G _ _ b (by omega) m0 0) rfl rfl (Nat.le_of_ble_eq_true rfl) ⟨Nat.le_of_ble_eq_true rfl, Nat.le_of_ble_eq_true rfl⟩ ⟨Nat.le_of_ble_eq_true rfl, Nat.le_of_ble_eq_true rfl⟩ dX10_luck_5 (fw_ki fun r3 M2 H1 locs1 hp1 hH hz1 => ?_)
  obtain ⟨rfl, ⟨hmt, hfr⟩, hz2⟩ := hp1
  replace hz := hz2.trans hz
  clear hz1 hz2
  have fr4 := hfr
  refine fw_iret E hr hlk hH ?_ dX10_luck_8
  exact ⟨rfl, (fun q hq hq2 => by rw [fr4 q (by omega)])⟩
theorem y_waiting (l : Launch) (G : fw_G) (M : fw_M) (N : Nat) (b : Nat) (hD : md0 G M b)  : fMet l yX10_waiting cX10_waiting 1 (some .int) 8 170 0 0 G M N [.ref b] (fw_pi (fun r M1 n1 => r = iI 0 ∧ ∀ q, b + 7 ≤ q → q < N → M1 q = M q)) := by
  refine fw_met RX10 rfl (by decide +kernel) (Nat.le_of_ble_eq_true rfl) ?_
  intro p e s m args below meth c ls E hr hlk hnm hK hH hz hl
  obtain ⟨hb, m0, _, _, _, _, _⟩ := id hD
  refine lv_aload_n E.1 E.2.1 dX10_waiting_0 rfl (lv_at hl 0 rfl) ?_
  refine lv_aload_n E.1 E.2.1 dX10_waiting_1 rfl (lv_at hl 0 rfl) ?_
  refine fw_get E hK hH m0 fc_X10 11 (by decide) ql_RX10_223 rfl rfl dX10_waiting_2 ?_
  refine fw_cV (As := [.int (iI 0)]) (rest := []) E hK hH hl m0 fc_X10 fL_X10_ok ql_RX10_272 qi_yX10_ok qv_yX10_ok (m_ok l G _ _ b (by omega) m0 0) rfl rfl (Nat.le_of_ble_eq_true rfl) ⟨Nat.le_of_ble_eq_true rfl, Nat.le_of_ble_eq_true rfl⟩ ⟨Nat.le_of_ble_eq_true rfl, Nat.le_of_ble_eq_true rfl⟩ dX10_waiting_5 (fw_ki fun r3 M2 H1 locs1 hp1 hH hz1 => ?_)
  obtain ⟨rfl, ⟨hmt, hfr⟩, hz2⟩ := hp1
  replace hz := hz2.trans hz
  clear hz1 hz2
  have fr4 := hfr
  refine fw_iret E hr hlk hH ?_ dX10_waiting_8
  exact ⟨rfl, (fun q hq hq2 => by rw [fr4 q (by omega)])⟩
theorem y_meanSize (l : Launch) (G : fw_G) (M : fw_M) (N : Nat) (b : Nat) (hD : md0 G M b)  : fMet l yX10_meanSize cX10_meanSize 3 (some .double) 8 170 0 0 G M N [.ref b] (fw_pd (fun r M1 n1 => r = 0 ∧ ∀ q, b + 7 ≤ q → q < N → M1 q = M q)) := by
  refine fw_met RX10 rfl (by decide +kernel) (Nat.le_of_ble_eq_true rfl) ?_
  intro p e s m args below meth c ls E hr hlk hnm hK hH hz hl
  obtain ⟨hb, m0, _, _, _, _, _⟩ := id hD
  refine lv_aload_n E.1 E.2.1 dX10_meanSize_0 rfl (lv_at hl 0 rfl) ?_
  refine lv_iconst (v := iI 0) E.1 E.2.1 dX10_meanSize_1 (by decide) ?_
  refine fw_put E hK hH (by omega) m0 fc_X10 1 (by decide) ql_RX10_163 rfl rfl rfl rfl (Nat.le_of_ble_eq_true rfl) dX10_meanSize_2 (fun H1 locs1 hH hz1 => ?_)
  replace hz := hz1.trans hz; clear hz1
  obtain ⟨M1, hM2⟩ : ∃ MX, MX = fw_up M b (.inr (10, [.ref (b + 1), .int (iI 0), .ref (b + 2), .int (iI 0), .int (iI 0), .ref (b + 3), .int (iI 0), .ref (b + 4), .ref (b + 5), .int (iI 0), .int (iI 1), .int (iI 0), .ref (b + 6), .int (iI 0), .int (iI 70), .int (iI 20), .int (iI 5), .int (iI 2), .int (iI 1), .int (iI 0), .int (iI 0)])) := ⟨_, rfl⟩
  replace hH := fw_H.nm hM2 hH
  have fr3 : ∀ q, q ≠ b → M1 q = M q := fun q h => by rw [hM2]; exact fw_up_ne h
  have m0 : M1 b = some (.inr (10, [.ref (b + 1), .int (iI 0), .ref (b + 2), .int (iI 0), .int (iI 0), .ref (b + 3), .int (iI 0), .ref (b + 4), .ref (b + 5), .int (iI 0), .int (iI 1), .int (iI 0), .ref (b + 6), .int (iI 0), .int (iI 70), .int (iI 20), .int (iI 5), .int (iI 2), .int (iI 1), .int (iI 0), .int (iI 0)])) := by rw [hM2]; exact fw_up_eq
  refine lv_iconst (v := iI 0) E.1 E.2.1 dX10_meanSize_5 (by decide) ?_
  refine lv_istore_n (lv' := [(1, .int (iI 0)), (0, .ref b)]) E.1 E.2.1 dX10_meanSize_6 rfl hl (by decide) rfl (fun ls hl => ?_)
  refine lv_iconst (v := iI 0) E.1 E.2.1 dX10_meanSize_7 (by decide) ?_
  refine lv_istore_n (lv' := [(2, .int (iI 0)), (1, .int (iI 0)), (0, .ref b)]) E.1 E.2.1 dX10_meanSize_8 rfl hl (by decide) rfl (fun ls hl => ?_)
  refine lv_iload_n E.1 E.2.1 dX10_meanSize_9 rfl (lv_at hl 0 rfl) ?_
  refine lv_aload_n E.1 E.2.1 dX10_meanSize_10 rfl (lv_at hl 2 rfl) ?_
  refine fw_get E hK hH m0 fc_X10 4 (by decide) ql_RX10_166 rfl rfl dX10_meanSize_11 ?_
  refine fw_icmp_ge (tgt := 33) E dX10_meanSize_14 (by decide) (by omega) (by omega) (by omega) (by omega) (fun c4 => ?_) (fun c4 => ?_)
  · refine lv_aload_n E.1 E.2.1 dX10_meanSize_33 rfl (lv_at hl 2 rfl) ?_
    refine fw_get E hK hH m0 fc_X10 4 (by decide) ql_RX10_166 rfl rfl dX10_meanSize_34 ?_
    refine fw_if_ne (tgt := 44) E dX10_meanSize_37 (by decide) (by omega) (by omega) (fun c5 => ?_) (fun c5 => ?_)
    · exact absurd c5 (by omega)
    · refine lv_dconst0 E.1 E.2.1 dX10_meanSize_40 ?_
      refine lv_goto (tgt := 52) E.1 E.2.1 dX10_meanSize_41 (by decide) ?_
      refine fw_dret E hr hlk hH ?_ dX10_meanSize_52
      exact ⟨rfl, (fun q hq hq2 => by rw [fr3 q (by omega)])⟩
  · exact absurd c4 (by omega)
theorem y_ranks (l : Launch) (G : fw_G) (M : fw_M) (N : Nat) (b : Nat) (hb : G.2.2.1 ≤ b) (m0 : M b = some (.inr (10, [.ref (b + 1), .int (iI 0), .ref (b + 2), .int (iI 0), .int (iI 0), .ref (b + 3), .int (iI 0), .ref (b + 4), .ref (b + 5), .int (iI 0), .int (iI 1), .int (iI 0), .ref (b + 6), .int (iI 0), .int (iI 70), .int (iI 20), .int (iI 5), .int (iI 2), .int (iI 1), .int (iI 0), .int (iI 0)]))) (hbN : b < N) : fMet l yX10_ranks cX10_ranks 6 (some (.array .int)) 1 30 2 0 G M N [.ref b] (fw_pr (fun r M1 n1 => (r = N ∧ M1 N = some (fI G 0 (fun j0 => iI (z0 j0))) ∧ ∀ q, q < N → M1 q = M q) ∧ n1 = N + 2)) := by
  refine fw_met RX10 rfl (by decide +kernel) (Nat.le_of_ble_eq_true rfl) ?_
  intro p e s m args below meth c ls E hr hlk hnm hK hH hz hl
  refine lv_aload_n E.1 E.2.1 dX10_ranks_0 rfl (lv_at hl 0 rfl) ?_
  refine fw_get E hK hH m0 fc_X10 4 (by decide) ql_RX10_166 rfl rfl dX10_ranks_1 ?_
  refine fw_newI (N := 0) E hK hH hz qa_int (by decide) (by decide) (by decide) ⟨by show _ ≤ (2 : Nat); omega, by show _ ≤ (0 : Nat); omega⟩ dX10_ranks_4 (fun H1 hH hz1 => ?_)
  replace hz : H1.size = N + 1 := by omega
  clear hz1
  obtain ⟨M1, hM2⟩ : ∃ MX, MX = fw_up M N (fI G 0 (fun j0 => iI (z0 j0))) := ⟨_, rfl⟩
  replace hH := fw_H.nm hM2 hH
  have fr3 : ∀ q, q ≠ N → M1 q = M q := fun q h => by rw [hM2]; exact fw_up_ne h
  replace m0 : M1 b = some (.inr (10, [.ref (b + 1), .int (iI 0), .ref (b + 2), .int (iI 0), .int (iI 0), .ref (b + 3), .int (iI 0), .ref (b + 4), .ref (b + 5), .int (iI 0), .int (iI 1), .int (iI 0), .ref (b + 6), .int (iI 0), .int (iI 70), .int (iI 20), .int (iI 5), .int (iI 2), .int (iI 1), .int (iI 0), .int (iI 0)])) := (fr3 _ (by omega)).trans m0
  have hn0 : M1 N = some (fI G 0 (fun j0 => iI (z0 j0))) := by rw [hM2]; exact fw_up_eq
  refine lv_astore_n (lv' := [(1, .ref N), (0, .ref b)]) E.1 E.2.1 dX10_ranks_6 rfl hl (by decide) rfl (fun ls hl => ?_)
  refine lv_aload_n E.1 E.2.1 dX10_ranks_7 rfl (lv_at hl 1 rfl) ?_
  refine fw_get E hK hH m0 fc_X10 4 (by decide) ql_RX10_166 rfl rfl dX10_ranks_8 ?_
  refine fw_newI (N := 0) E hK hH hz qa_int (by decide) (by decide) (by decide) ⟨by show _ ≤ (2 : Nat); omega, by show _ ≤ (0 : Nat); omega⟩ dX10_ranks_11 (fun H1 hH hz1 => ?_)
  replace hz : H1.size = N + 2 := by omega
  clear hz1
  obtain ⟨M4, hM5⟩ : ∃ MX, MX = fw_up M1 (N + 1) (fI G 0 (fun j0 => iI (z0 j0))) := ⟨_, rfl⟩
  replace hH := fw_H.nm hM5 hH
  have fr6 : ∀ q, q ≠ N + 1 → M4 q = M1 q := fun q h => by rw [hM5]; exact fw_up_ne h
  replace m0 : M4 b = some (.inr (10, [.ref (b + 1), .int (iI 0), .ref (b + 2), .int (iI 0), .int (iI 0), .ref (b + 3), .int (iI 0), .ref (b + 4), .ref (b + 5), .int (iI 0), .int (iI 1), .int (iI 0), .ref (b + 6), .int (iI 0), .int (iI 70), .int (iI 20), .int (iI 5), .int (iI 2), .int (iI 1), .int (iI 0), .int (iI 0)])) := (fr6 _ (by omega)).trans m0
  replace hn0 : M4 N = some (fI G 0 (fun j0 => iI (z0 j0))) := (fr6 _ (by omega)).trans hn0
  have hn1 : M4 (N + 1) = some (fI G 0 (fun j0 => iI (z0 j0))) := by rw [hM5]; exact fw_up_eq
  refine lv_astore_n (lv' := [(2, .ref (N + 1)), (1, .ref N), (0, .ref b)]) E.1 E.2.1 dX10_ranks_13 rfl hl (by decide) rfl (fun ls hl => ?_)
  refine lv_iconst (v := iI 0) E.1 E.2.1 dX10_ranks_14 (by decide) ?_
  refine lv_istore_n (lv' := [(3, .int (iI 0)), (2, .ref (N + 1)), (1, .ref N), (0, .ref b)]) E.1 E.2.1 dX10_ranks_15 rfl hl (by decide) rfl (fun ls hl => ?_)
  refine lv_iload_n E.1 E.2.1 dX10_ranks_16 rfl (lv_at hl 0 rfl) ?_
  refine lv_aload_n E.1 E.2.1 dX10_ranks_17 rfl (lv_at hl 3 rfl) ?_
  refine fw_get E hK hH m0 fc_X10 4 (by decide) ql_RX10_166 rfl rfl dX10_ranks_18 ?_
  refine fw_icmp_ge (tgt := 43) E dX10_ranks_21 (by decide) (by omega) (by omega) (by omega) (by omega) (fun c7 => ?_) (fun c7 => ?_)
  · refine lv_iconst (v := iI 0) E.1 E.2.1 dX10_ranks_43 (by decide) ?_
    refine lv_istore_n (lv' := [(3, .int (iI 0)), (2, .ref (N + 1)), (1, .ref N), (0, .ref b)]) E.1 E.2.1 dX10_ranks_44 rfl hl (by decide) rfl (fun ls hl => ?_)
    refine lv_iload_n E.1 E.2.1 dX10_ranks_45 rfl (lv_at hl 0 rfl) ?_
    refine lv_aload_n E.1 E.2.1 dX10_ranks_46 rfl (lv_at hl 3 rfl) ?_
    refine fw_get E hK hH m0 fc_X10 4 (by decide) ql_RX10_166 rfl rfl dX10_ranks_47 ?_
    refine fw_icmp_ge (tgt := 112) E dX10_ranks_50 (by decide) (by omega) (by omega) (by omega) (by omega) (fun c8 => ?_) (fun c8 => ?_)
    · refine lv_aload_n E.1 E.2.1 dX10_ranks_112 rfl (lv_at hl 2 rfl) ?_
      refine W.widen (k := 2) (n := 0) (by omega) (by omega) ?_
      refine fw_aret E hr (Or.inr ⟨_, rfl⟩) hlk hH ?_ dX10_ranks_113
      exact ⟨⟨rfl, hn0, (fun q hq => by rw [fr6 q (by omega), fr3 q (by omega)])⟩, by omega⟩
    · exact absurd c8 (by omega)
  · exact absurd c7 (by omega)
theorem y_digest (l : Launch) (G : fw_G) (M : fw_M) (N : Nat) (b : Nat) (hD : md0 G M b) (hbN : b + 7 ≤ N)  : fMet l yX10_digest cX10_digest 8 (some .long) 8 170 2 0 G M N [.ref b] (fw_pl (fun r M1 n1 => r = dgN ∧ ∀ q, b + 7 ≤ q → q < N → M1 q = M q)) := by
  refine fw_met RX10 rfl (by decide +kernel) (Nat.le_of_ble_eq_true rfl) ?_
  intro p e s m args below meth c ls E hr hlk hnm hK hH hz hl
  obtain ⟨hb, m0, _, _, _, _, _⟩ := id hD
  refine lv_aload_n E.1 E.2.1 dX10_digest_0 rfl (lv_at hl 0 rfl) ?_
  refine lv_iconst (v := iI 0) E.1 E.2.1 dX10_digest_1 (by decide) ?_
  refine fw_put E hK hH (by omega) m0 fc_X10 1 (by decide) ql_RX10_163 rfl rfl rfl rfl (Nat.le_of_ble_eq_true rfl) dX10_digest_2 (fun H1 locs1 hH hz1 => ?_)
  replace hz := hz1.trans hz; clear hz1
  obtain ⟨M1, hM2⟩ : ∃ MX, MX = fw_up M b (.inr (10, [.ref (b + 1), .int (iI 0), .ref (b + 2), .int (iI 0), .int (iI 0), .ref (b + 3), .int (iI 0), .ref (b + 4), .ref (b + 5), .int (iI 0), .int (iI 1), .int (iI 0), .ref (b + 6), .int (iI 0), .int (iI 70), .int (iI 20), .int (iI 5), .int (iI 2), .int (iI 1), .int (iI 0), .int (iI 0)])) := ⟨_, rfl⟩
  replace hH := fw_H.nm hM2 hH
  have fr3 : ∀ q, q ≠ b → M1 q = M q := fun q h => by rw [hM2]; exact fw_up_ne h
  have m0 : M1 b = some (.inr (10, [.ref (b + 1), .int (iI 0), .ref (b + 2), .int (iI 0), .int (iI 0), .ref (b + 3), .int (iI 0), .ref (b + 4), .ref (b + 5), .int (iI 0), .int (iI 1), .int (iI 0), .ref (b + 6), .int (iI 0), .int (iI 70), .int (iI 20), .int (iI 5), .int (iI 2), .int (iI 1), .int (iI 0), .int (iI 0)])) := by rw [hM2]; exact fw_up_eq
  refine lv_ldc2 E.1 E.2.1 E.2.2.2.1 (E.2.2.2.2 _ ql_RX10_281) dX10_digest_5 ?_
  refine lv_aload_n E.1 E.2.1 dX10_digest_8 rfl (lv_at hl 0 rfl) ?_
  refine fw_get E hK hH m0 fc_X10 3 (by decide) ql_RX10_179 rfl rfl dX10_digest_9 ?_
  refine lv_i2l (v := (iI 0).toInt64) E.1 E.2.1 dX10_digest_12 rfl ?_
  refine lv_ladd E.1 E.2.1 dX10_digest_13 ?_
  refine lv_ldc2 E.1 E.2.1 E.2.2.2.1 (E.2.2.2.2 _ ql_RX10_283) dX10_digest_14 ?_
  refine lv_lmul E.1 E.2.1 dX10_digest_17 ?_
  refine lv_aload_n E.1 E.2.1 dX10_digest_18 rfl (lv_at hl 0 rfl) ?_
  refine fw_get E hK hH m0 fc_X10 4 (by decide) ql_RX10_166 rfl rfl dX10_digest_19 ?_
  refine lv_i2l (v := (iI 0).toInt64) E.1 E.2.1 dX10_digest_22 rfl ?_
  refine lv_ladd E.1 E.2.1 dX10_digest_23 ?_
  refine lv_ldc2 E.1 E.2.1 E.2.2.2.1 (E.2.2.2.2 _ ql_RX10_283) dX10_digest_24 ?_
  refine lv_lmul E.1 E.2.1 dX10_digest_27 ?_
  refine lv_aload_n E.1 E.2.1 dX10_digest_28 rfl (lv_at hl 0 rfl) ?_
  refine fw_get E hK hH m0 fc_X10 6 (by decide) ql_RX10_189 rfl rfl dX10_digest_29 ?_
  refine lv_i2l (v := (iI 0).toInt64) E.1 E.2.1 dX10_digest_32 rfl ?_
  refine lv_ladd E.1 E.2.1 dX10_digest_33 ?_
  refine lv_ldc2 E.1 E.2.1 E.2.2.2.1 (E.2.2.2.2 _ ql_RX10_283) dX10_digest_34 ?_
  refine lv_lmul E.1 E.2.1 dX10_digest_37 ?_
  refine lv_aload_n E.1 E.2.1 dX10_digest_38 rfl (lv_at hl 0 rfl) ?_
  refine fw_get E hK hH m0 fc_X10 19 (by decide) ql_RX10_263 rfl rfl dX10_digest_39 ?_
  refine lv_i2l (v := (iI 0).toInt64) E.1 E.2.1 dX10_digest_42 rfl ?_
  refine lv_ladd E.1 E.2.1 dX10_digest_43 ?_
  refine lv_lstore_n (lv' := [(1, .long (((((((1799302 + (iI 0).toInt64) * 31) + (iI 0).toInt64) * 31) + (iI 0).toInt64) * 31) + (iI 0).toInt64)), (0, .ref b)]) E.1 E.2.1 dX10_digest_44 rfl hl (by decide) rfl (fun ls hl => ?_)
  refine lv_lload_n E.1 E.2.1 dX10_digest_45 rfl (lv_at hl 0 rfl) ?_
  refine lv_ldc2 E.1 E.2.1 E.2.2.2.1 (E.2.2.2.2 _ ql_RX10_283) dX10_digest_46 ?_
  refine lv_lmul E.1 E.2.1 dX10_digest_49 ?_
  refine lv_aload_n E.1 E.2.1 dX10_digest_50 rfl (lv_at hl 1 rfl) ?_
  refine fw_get E hK hH m0 fc_X10 20 (by decide) ql_RX10_260 rfl rfl dX10_digest_51 ?_
  refine lv_i2l (v := (iI 0).toInt64) E.1 E.2.1 dX10_digest_54 rfl ?_
  refine lv_ladd E.1 E.2.1 dX10_digest_55 ?_
  refine lv_ldc2 E.1 E.2.1 E.2.2.2.1 (E.2.2.2.2 _ ql_RX10_283) dX10_digest_56 ?_
  refine lv_lmul E.1 E.2.1 dX10_digest_59 ?_
  refine lv_aload_n E.1 E.2.1 dX10_digest_60 rfl (lv_at hl 1 rfl) ?_
  refine fw_get E hK hH m0 fc_X10 13 (by decide) ql_RX10_220 rfl rfl dX10_digest_61 ?_
  refine lv_i2l (v := (iI 0).toInt64) E.1 E.2.1 dX10_digest_64 rfl ?_
  refine lv_ladd E.1 E.2.1 dX10_digest_65 ?_
  refine lv_ldc2 E.1 E.2.1 E.2.2.2.1 (E.2.2.2.2 _ ql_RX10_283) dX10_digest_66 ?_
  refine lv_lmul E.1 E.2.1 dX10_digest_69 ?_
  refine lv_aload_n E.1 E.2.1 dX10_digest_70 rfl (lv_at hl 1 rfl) ?_
  refine fw_get E hK hH m0 fc_X10 11 (by decide) ql_RX10_223 rfl rfl dX10_digest_71 ?_
  refine lv_i2l (v := (iI 0).toInt64) E.1 E.2.1 dX10_digest_74 rfl ?_
  refine lv_ladd E.1 E.2.1 dX10_digest_75 ?_
  refine lv_ldc2 E.1 E.2.1 E.2.2.2.1 (E.2.2.2.2 _ ql_RX10_283) dX10_digest_76 ?_
  refine lv_lmul E.1 E.2.1 dX10_digest_79 ?_
  refine lv_aload_n E.1 E.2.1 dX10_digest_80 rfl (lv_at hl 1 rfl) ?_
  refine fw_cV (As := []) (rest := [.long ((((((((((((((1799302 + (iI 0).toInt64) * 31) + (iI 0).toInt64) * 31) + (iI 0).toInt64) * 31) + (iI 0).toInt64) * 31) + (iI 0).toInt64) * 31) + (iI 0).toInt64) * 31) + (iI 0).toInt64) * 31)]) E hK hH hl m0 fc_X10 fL_X10_differentNow ql_RX10_278 qi_yX10_differentNow qv_yX10_differentNow (y_differentNow l G _ _ b m0) rfl rfl (Nat.le_of_ble_eq_true rfl) ⟨Nat.le_of_ble_eq_true rfl, Nat.le_of_ble_eq_true rfl⟩ ⟨by show _ ≤ (2 : Nat); omega, by show _ ≤ (0 : Nat); omega⟩ dX10_digest_81 (fw_ki fun r6 M5 H1 locs1 hp4 hH hz1 => ?_)
  obtain ⟨rfl, hM9, hz2⟩ := hp4
  replace hz := hz2.trans hz
  clear hz1 hz2
  rw [hM9] at hH
  refine lv_i2l (v := (iI 0).toInt64) E.1 E.2.1 dX10_digest_84 rfl ?_
  refine lv_ladd E.1 E.2.1 dX10_digest_85 ?_
  refine lv_lstore_n (lv' := [(1, .long (((((((((((((((1799302 + (iI 0).toInt64) * 31) + (iI 0).toInt64) * 31) + (iI 0).toInt64) * 31) + (iI 0).toInt64) * 31) + (iI 0).toInt64) * 31) + (iI 0).toInt64) * 31) + (iI 0).toInt64) * 31) + (iI 0).toInt64)), (0, .ref b)]) E.1 E.2.1 dX10_digest_86 rfl hl (by decide) rfl (fun ls hl => ?_)
  refine lv_iconst (v := iI 0) E.1 E.2.1 dX10_digest_87 (by decide) ?_
  refine lv_istore_n (lv' := [(3, .int (iI 0)), (1, .long (((((((((((((((1799302 + (iI 0).toInt64) * 31) + (iI 0).toInt64) * 31) + (iI 0).toInt64) * 31) + (iI 0).toInt64) * 31) + (iI 0).toInt64) * 31) + (iI 0).toInt64) * 31) + (iI 0).toInt64) * 31) + (iI 0).toInt64)), (0, .ref b)]) E.1 E.2.1 dX10_digest_88 rfl hl (by decide) rfl (fun ls hl => ?_)
  refine lv_iload_n E.1 E.2.1 dX10_digest_89 rfl (lv_at hl 0 rfl) ?_
  refine lv_aload_n E.1 E.2.1 dX10_digest_90 rfl (lv_at hl 2 rfl) ?_
  refine fw_get E hK hH m0 fc_X10 4 (by decide) ql_RX10_166 rfl rfl dX10_digest_91 ?_
  refine fw_icmp_ge (tgt := 241) E dX10_digest_94 (by decide) (by omega) (by omega) (by omega) (by omega) (fun c7 => ?_) (fun c7 => ?_)
  · refine lv_aload_n E.1 E.2.1 dX10_digest_241 rfl (lv_at hl 2 rfl) ?_
    refine fw_cV (As := []) (rest := []) E hK hH hl m0 fc_X10 fL_X10_ranks ql_RX10_252 qi_yX10_ranks qv_yX10_ranks (y_ranks l G _ _ b (by omega) m0 (by omega)) rfl rfl (Nat.le_of_ble_eq_true rfl) ⟨Nat.le_of_ble_eq_true rfl, Nat.le_of_ble_eq_true rfl⟩ ⟨by show _ ≤ (2 : Nat); omega, by show _ ≤ (0 : Nat); omega⟩ dX10_digest_242 (fw_kr fun r10 M9 H1 locs1 hp8 hH hz1 => ?_)
    obtain ⟨⟨hr9, rk, hfr⟩, hz2⟩ := hp8
    rw [hz] at hr9 rk hfr
    rw [hr9]
    replace hz : H1.size = N + 2 := by omega
    clear hz1 hz2
    have fr11 := hfr
    refine lv_astore_n (lv' := [(3, .ref N), (1, .long (((((((((((((((1799302 + (iI 0).toInt64) * 31) + (iI 0).toInt64) * 31) + (iI 0).toInt64) * 31) + (iI 0).toInt64) * 31) + (iI 0).toInt64) * 31) + (iI 0).toInt64) * 31) + (iI 0).toInt64) * 31) + (iI 0).toInt64)), (0, .ref b)]) E.1 E.2.1 dX10_digest_245 rfl hl (by decide) rfl (fun ls hl => ?_)
    refine lv_aload_n E.1 E.2.1 dX10_digest_246 rfl (lv_at hl 0 rfl) ?_
    refine lv_astore (lv' := [(4, .ref N), (3, .ref N), (1, .long (((((((((((((((1799302 + (iI 0).toInt64) * 31) + (iI 0).toInt64) * 31) + (iI 0).toInt64) * 31) + (iI 0).toInt64) * 31) + (iI 0).toInt64) * 31) + (iI 0).toInt64) * 31) + (iI 0).toInt64) * 31) + (iI 0).toInt64)), (0, .ref b)]) E.1 E.2.1 dX10_digest_247 hl (by decide) rfl (fun ls hl => ?_)
    refine lv_aload E.1 E.2.1 dX10_digest_249 (lv_at hl 0 rfl) ?_
    refine fw_alen E hK hH rk dX10_digest_251 ?_
    refine fw_cv (y := iI 0) (by decide) ?_
    refine lv_istore (lv' := [(5, .int (iI 0)), (4, .ref N), (3, .ref N), (1, .long (((((((((((((((1799302 + (iI 0).toInt64) * 31) + (iI 0).toInt64) * 31) + (iI 0).toInt64) * 31) + (iI 0).toInt64) * 31) + (iI 0).toInt64) * 31) + (iI 0).toInt64) * 31) + (iI 0).toInt64) * 31) + (iI 0).toInt64)), (0, .ref b)]) E.1 E.2.1 dX10_digest_252 hl (by decide) rfl (fun ls hl => ?_)
    refine lv_iconst (v := iI 0) E.1 E.2.1 dX10_digest_254 (by decide) ?_
    refine lv_istore (lv' := [(6, .int (iI 0)), (5, .int (iI 0)), (4, .ref N), (3, .ref N), (1, .long (((((((((((((((1799302 + (iI 0).toInt64) * 31) + (iI 0).toInt64) * 31) + (iI 0).toInt64) * 31) + (iI 0).toInt64) * 31) + (iI 0).toInt64) * 31) + (iI 0).toInt64) * 31) + (iI 0).toInt64) * 31) + (iI 0).toInt64)), (0, .ref b)]) E.1 E.2.1 dX10_digest_255 hl (by decide) rfl (fun ls hl => ?_)
    refine lv_iload E.1 E.2.1 dX10_digest_257 (lv_at hl 0 rfl) ?_
    refine lv_iload E.1 E.2.1 dX10_digest_259 (lv_at hl 1 rfl) ?_
    refine fw_icmp_ge (tgt := 287) E dX10_digest_261 (by decide) (by omega) (by omega) (by omega) (by omega) (fun c12 => ?_) (fun c12 => ?_)
    · refine lv_lload_n E.1 E.2.1 dX10_digest_287 rfl (lv_at hl 4 rfl) ?_
      refine W.widen (k := 2) (n := 0) (by omega) (by omega) ?_
      refine fw_lret E hr hlk hH ?_ dX10_digest_288
      exact ⟨by decide, (fun q hq hq2 => by rw [fr11 q (by omega), fr3 q (by omega)])⟩
    · exact absurd c12 (by omega)
  · exact absurd c7 (by omega)

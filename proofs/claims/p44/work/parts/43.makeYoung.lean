set_option maxHeartbeats 1000000 in
theorem k_makeYoung (l : Launch) (G : fw_G) (M : fw_M) (N : Nat) (bo y : Nat) (ra : aR) (me sz : Nat → Int) (go o cn : Nat) (lk gn mi : Int) (T : Nat → aT) (hG : gcW G M go o lk cn gn mi T) (hB : brW G M bo ra) (hQ : rnO G M (bo + 1) cn me sz) (hY : tany G M y) (hTk : ∀ k, k < cn → aOK (T k)) (hr9 : rOK ra) (hlu : 0 ≤ lk ∧ lk < 10000) (hc0 : 0 < cn) (s1 : bo + 5 ≤ go) (sy : go + 90 - 80 * o ≤ y ∧ y + 5 ≤ go + 170 - 80 * o) : fMet l yX0_makeYoung cX0_makeYoung 5 none 5 170 0 0 G M N [.ref bo, .ref go, .ref y] (fw_pv (fun M1 n1 => aTw G M1 y (mkF me sz cn T ra lk).2 ∧ (∃ mi1 : Int, gcW G M1 go o (mkF me sz cn T ra lk).1 cn gn mi1 T) ∧ (∀ q, q ≠ go ∧ q ≠ go + 1 ∧ (q < y ∨ y + 5 ≤ q) → M1 q = M q) ∧ n1 = N)) := by
  refine fw_met RX0 rfl (by decide +kernel) (Nat.le_of_ble_eq_true rfl) ?_
  intro pG e s m args below meth cG ls E hr hlk hnm hK hH hz hl
  obtain ⟨hgb, ho1, hcn⟩ := hG.o1
  obtain ⟨r91, r92, r93, r94, r95⟩ := id hr9
  refine lv_aload_n E.1 E.2.1 dX0_makeYoung_0 rfl (lv_at hl 1 rfl) ?_
  refine fw_getN E hK hH hG.2.1 fc_X2 0 (by decide) ql_RX0_79 rfl rfl dX0_makeYoung_1 ?_
  refine lv_bipush (v := iI 100) E.1 E.2.1 dX0_makeYoung_4 (by decide) ?_
  obtain ⟨tl9, hD9⟩ := hG.2.2.1
  have hlu9 := lkB_b (m := 100) hlu
  have hbw9 := blw_b (m := 100) hlu (by omega)
  refine fw_cV (As := [.int (iI 100)]) (rest := []) E hK hH hl hG.d fc_X1 fL_X1_below ql_RX0_83 qi_yX1_below qv_yX1_below (k_below l G _ _ (go + 1) tl9 lk 100 hD9 hlu (by omega)) rfl rfl (Nat.le_of_ble_eq_true rfl) ⟨Nat.le_of_ble_eq_true rfl, Nat.le_of_ble_eq_true rfl⟩ ⟨Nat.le_of_ble_eq_true rfl, Nat.le_of_ble_eq_true rfl⟩ dX0_makeYoung_6 (fw_ki fun r3 M2 H1 locs1 hp1 hH hz1 => ?_)
  obtain ⟨rfl, hdr9, hfr, hz2⟩ := hp1
  have hG9 := hG.dr hdr9 hfr
  replace hz := hz2.trans hz
  clear hz1 hz2
  have fr4 := hfr
  replace hB := brW.fr hB (fun q h1 h2 => fr4 q (by omega))
  replace hQ := rnO.fr hQ (fun q h1 h2 => fr4 q (by omega))
  replace hY := tany.fr hY (fun q h1 h2 => fr4 q (by omega))
  refine lv_istore_n (lv' := [(3, .int (iI (blw lk 100))), (0, .ref bo), (1, .ref go), (2, .ref y)]) E.1 E.2.1 dX0_makeYoung_9 rfl hl (by decide) rfl (fun ls hl => ?_)
  refine lv_aload_n E.1 E.2.1 dX0_makeYoung_10 rfl (lv_at hl 1 rfl) ?_
  refine lv_aload_n E.1 E.2.1 dX0_makeYoung_11 rfl (lv_at hl 2 rfl) ?_
  have hcb24 := chD_b (me := me) (sz := sz) hlu9 hc0 (ra.2.2.2.1 - 1)
  refine fw_cV (As := [.ref go]) (rest := []) E hK hH hl hB.2 fc_X0 fL_X0_choose ql_RX0_88 qi_yX0_choose qv_yX0_choose (k_choose l G _ _ bo ra me sz go o cn (lkB lk 100) gn mi T hG9 hB hQ hr9 hlu9 hc0 (by omega)) rfl rfl (Nat.le_of_ble_eq_true rfl) ⟨Nat.le_of_ble_eq_true rfl, Nat.le_of_ble_eq_true rfl⟩ ⟨Nat.le_of_ble_eq_true rfl, Nat.le_of_ble_eq_true rfl⟩ dX0_makeYoung_12 (fw_kr fun r7 M6 H1 locs1 hp5 hH hz1 => ?_)
  obtain ⟨rfl, hG24, hfr, hz2⟩ := hp5
  have hT24 := hG24.tr hcb24.2
  replace hz := hz2.trans hz
  clear hz1 hz2
  have fr8 := hfr
  replace hB := brW.fr hB (fun q h1 h2 => fr8 q (by omega))
  replace hQ := rnO.fr hQ (fun q h1 h2 => fr8 q (by omega))
  replace hY := tany.fr hY (fun q h1 h2 => fr8 q (by omega))
  refine lv_astore (lv' := [(4, .ref (go + 10 + 80 * o + 5 * (chD me sz cn (lkB lk 100) (ra.2.2.2.1 - 1)).2)), (3, .int (iI (blw lk 100))), (0, .ref bo), (1, .ref go), (2, .ref y)]) E.1 E.2.1 dX0_makeYoung_15 hl (by decide) rfl (fun ls hl => ?_)
  refine lv_aload_n E.1 E.2.1 dX0_makeYoung_17 rfl (lv_at hl 4 rfl) ?_
  refine lv_aload E.1 E.2.1 dX0_makeYoung_18 (lv_at hl 0 rfl) ?_
  obtain ⟨_, _, _, _, ua37, ub37, hob37, _⟩ := id hY
  refine fw_cV (As := [.ref (go + 10 + 80 * o + 5 * (chD me sz cn (lkB lk 100) (ra.2.2.2.1 - 1)).2)]) (rest := []) E hK hH hl hob37.2.1 fc_X8 fL_X8_copyFrom ql_RX0_60 qi_yX8_copyFrom qv_yX8_copyFrom (k_copyG l G _ _ y (go + 10 + 80 * o + 5 * (chD me sz cn (lkB lk 100) (ra.2.2.2.1 - 1)).2) (T (chD me sz cn (lkB lk 100) (ra.2.2.2.1 - 1)).2) hY hT24 (hTk _ hcb24.2).1 (by omega)) rfl rfl (Nat.le_of_ble_eq_true rfl) ⟨Nat.le_of_ble_eq_true rfl, Nat.le_of_ble_eq_true rfl⟩ ⟨Nat.le_of_ble_eq_true rfl, Nat.le_of_ble_eq_true rfl⟩ dX0_makeYoung_20 (fw_kv fun M10 H1 locs1 hp9 hH hz1 => ?_)
  obtain ⟨hC37, hfr, hz2⟩ := hp9
  replace hz := hz2.trans hz
  clear hz1 hz2
  have fr11 := hfr
  replace hB := brW.fr hB (fun q h1 h2 => fr11 q (by omega))
  replace hQ := rnO.fr hQ (fun q h1 h2 => fr11 q (by omega))
  replace hG24 := gcW.fr hG24 (fun q h1 h2 => fr11 q (by omega))
  replace hT24 := aTw.fr hT24 (fun q h1 h2 => fr11 q (by omega))
  refine lv_iload_n E.1 E.2.1 dX0_makeYoung_23 rfl (lv_at hl 1 rfl) ?_
  refine lv_aload_n E.1 E.2.1 dX0_makeYoung_24 rfl (lv_at hl 2 rfl) ?_
  refine fw_get E hK hH hB.2 fc_X0 1 (by decide) ql_RX0_18 rfl rfl dX0_makeYoung_25 ?_
  refine fw_icmp_ge (tgt := 46) E dX0_makeYoung_28 (by decide) (by omega) (by omega) (by omega) (by omega) (fun c12 => ?_) (fun c12 => ?_)
  · refine lv_iload_n E.1 E.2.1 dX0_makeYoung_46 rfl (lv_at hl 1 rfl) ?_
    refine lv_aload_n E.1 E.2.1 dX0_makeYoung_47 rfl (lv_at hl 2 rfl) ?_
    refine fw_get E hK hH hB.2 fc_X0 1 (by decide) ql_RX0_18 rfl rfl dX0_makeYoung_48 ?_
    refine lv_aload_n E.1 E.2.1 dX0_makeYoung_51 rfl (lv_at hl 2 rfl) ?_
    refine fw_get E hK hH hB.2 fc_X0 2 (by decide) ql_RX0_22 rfl rfl dX0_makeYoung_52 ?_
    refine fw_iadd E dX0_makeYoung_55 ?_
    refine fw_icmp_ge (tgt := 70) E dX0_makeYoung_56 (by decide) (by omega) (by omega) (by omega) (by omega) (fun c13 => ?_) (fun c13 => ?_)
    · refine lv_iload_n E.1 E.2.1 dX0_makeYoung_70 rfl (lv_at hl 1 rfl) ?_
      refine lv_aload_n E.1 E.2.1 dX0_makeYoung_71 rfl (lv_at hl 2 rfl) ?_
      refine fw_get E hK hH hB.2 fc_X0 1 (by decide) ql_RX0_18 rfl rfl dX0_makeYoung_72 ?_
      refine lv_aload_n E.1 E.2.1 dX0_makeYoung_75 rfl (lv_at hl 2 rfl) ?_
      refine fw_get E hK hH hB.2 fc_X0 2 (by decide) ql_RX0_22 rfl rfl dX0_makeYoung_76 ?_
      refine fw_iadd E dX0_makeYoung_79 ?_
      refine lv_aload_n E.1 E.2.1 dX0_makeYoung_80 rfl (lv_at hl 2 rfl) ?_
      refine fw_get E hK hH hB.2 fc_X0 3 (by decide) ql_RX0_25 rfl rfl dX0_makeYoung_81 ?_
      refine fw_iadd E dX0_makeYoung_84 ?_
      refine fw_icmp_ge (tgt := 96) E dX0_makeYoung_85 (by decide) (by omega) (by omega) (by omega) (by omega) (fun c14 => ?_) (fun c14 => ?_)
      · refine fw_vret E hr hlk hH ?_ dX0_makeYoung_96
        unfold mkF
        rw [if_neg (by omega), if_neg (by omega), if_neg (by omega)]
        exact ⟨hC37, ⟨_, hG24⟩, (fun q hq => by rw [fr11 q (by omega), fr8 q (by omega), fr4 q (by omega)]), hz⟩
      · refine lv_aload_n E.1 E.2.1 dX0_makeYoung_88 rfl (lv_at hl 3 rfl) ?_
        refine fw_getN E hK hH hG24.2.1 fc_X2 0 (by decide) ql_RX0_79 rfl rfl dX0_makeYoung_89 ?_
        refine lv_aload_n E.1 E.2.1 dX0_makeYoung_92 rfl (lv_at hl 4 rfl) ?_
        refine fw_cS (As := [.ref (go + 1), .ref y]) (rest := []) E hK hH hl fL_X0_hoistYoung ql_RX0_100 qs_yX0_hoistYoung (k_hoistYoung l G _ _ y (T (chD me sz cn (lkB lk 100) (ra.2.2.2.1 - 1)).2) go o cn ((chD me sz cn (lkB lk 100) (ra.2.2.2.1 - 1)).1) gn mi T hG24 hC37 (hTk _ hcb24.2) hcb24.1 sy) rfl rfl (Nat.le_of_ble_eq_true rfl) ⟨Nat.le_of_ble_eq_true rfl, Nat.le_of_ble_eq_true rfl⟩ ⟨Nat.le_of_ble_eq_true rfl, Nat.le_of_ble_eq_true rfl⟩ dX0_makeYoung_93 (fw_kv fun M16 H1 locs1 hp15 hH hz1 => ?_)
        obtain ⟨hY75, hG75, hfr, hz2⟩ := hp15
        replace hz := hz2.trans hz
        clear hz1 hz2
        have fr17 := hfr
        replace hB := brW.fr hB (fun q h1 h2 => fr17 q (by omega))
        replace hQ := rnO.fr hQ (fun q h1 h2 => fr17 q (by omega))
        replace hT24 := aTw.fr hT24 (fun q h1 h2 => fr17 q (by omega))
        refine fw_vret E hr hlk hH ?_ dX0_makeYoung_96
        unfold mkF
        rw [if_neg (by omega), if_neg (by omega), if_pos (by omega)]
        exact ⟨hY75, ⟨_, hG75⟩, (fun q hq => by rw [fr17 q (by omega), fr11 q (by omega), fr8 q (by omega), fr4 q (by omega)]), hz⟩
    · refine lv_aload_n E.1 E.2.1 dX0_makeYoung_59 rfl (lv_at hl 3 rfl) ?_
      refine fw_getN E hK hH hG24.2.1 fc_X2 0 (by decide) ql_RX0_79 rfl rfl dX0_makeYoung_60 ?_
      refine lv_aload_n E.1 E.2.1 dX0_makeYoung_63 rfl (lv_at hl 4 rfl) ?_
      refine fw_cS (As := [.ref (go + 1), .ref y]) (rest := []) E hK hH hl fL_X0_changeYoung ql_RX0_96 qs_yX0_changeYoung (k_changeYoung l G _ _ y (T (chD me sz cn (lkB lk 100) (ra.2.2.2.1 - 1)).2) go o cn ((chD me sz cn (lkB lk 100) (ra.2.2.2.1 - 1)).1) gn mi T hG24 hC37 (hTk _ hcb24.2) hcb24.1 sy) rfl rfl (Nat.le_of_ble_eq_true rfl) ⟨Nat.le_of_ble_eq_true rfl, Nat.le_of_ble_eq_true rfl⟩ ⟨Nat.le_of_ble_eq_true rfl, Nat.le_of_ble_eq_true rfl⟩ dX0_makeYoung_64 (fw_kv fun M19 H1 locs1 hp18 hH hz1 => ?_)
      obtain ⟨hY90, hG90, hfr, hz2⟩ := hp18
      replace hz := hz2.trans hz
      clear hz1 hz2
      have fr20 := hfr
      replace hB := brW.fr hB (fun q h1 h2 => fr20 q (by omega))
      replace hQ := rnO.fr hQ (fun q h1 h2 => fr20 q (by omega))
      replace hT24 := aTw.fr hT24 (fun q h1 h2 => fr20 q (by omega))
      refine lv_goto (tgt := 96) E.1 E.2.1 dX0_makeYoung_67 (by decide) ?_
      refine fw_vret E hr hlk hH ?_ dX0_makeYoung_96
      unfold mkF
      rw [if_neg (by omega), if_pos (by omega)]
      exact ⟨hY90, ⟨_, hG90⟩, (fun q hq => by rw [fr20 q (by omega), fr11 q (by omega), fr8 q (by omega), fr4 q (by omega)]), hz⟩
  · refine lv_aload_n E.1 E.2.1 dX0_makeYoung_31 rfl (lv_at hl 3 rfl) ?_
    refine lv_aload_n E.1 E.2.1 dX0_makeYoung_32 rfl (lv_at hl 4 rfl) ?_
    refine lv_aload E.1 E.2.1 dX0_makeYoung_33 (lv_at hl 0 rfl) ?_
    refine lv_aload_n E.1 E.2.1 dX0_makeYoung_35 rfl (lv_at hl 2 rfl) ?_
    refine lv_aload_n E.1 E.2.1 dX0_makeYoung_36 rfl (lv_at hl 3 rfl) ?_
    have hcb108 := chD_b (me := me) (sz := sz) hcb24.1 hc0 (ra.2.2.2.1 - 1)
    refine fw_cV (As := [.ref go]) (rest := [.ref (go + 10 + 80 * o + 5 * (chD me sz cn (lkB lk 100) (ra.2.2.2.1 - 1)).2), .ref y, .ref go]) E hK hH hl hB.2 fc_X0 fL_X0_choose ql_RX0_88 qi_yX0_choose qv_yX0_choose (k_choose l G _ _ bo ra me sz go o cn ((chD me sz cn (lkB lk 100) (ra.2.2.2.1 - 1)).1) gn mi T hG24 hB hQ hr9 hcb24.1 hc0 (by omega)) rfl rfl (Nat.le_of_ble_eq_true rfl) ⟨Nat.le_of_ble_eq_true rfl, Nat.le_of_ble_eq_true rfl⟩ ⟨Nat.le_of_ble_eq_true rfl, Nat.le_of_ble_eq_true rfl⟩ dX0_makeYoung_37 (fw_kr fun r23 M22 H1 locs1 hp21 hH hz1 => ?_)
    obtain ⟨rfl, hG108, hfr, hz2⟩ := hp21
    have hT108 := hG108.tr hcb108.2
    replace hz := hz2.trans hz
    clear hz1 hz2
    have fr24 := hfr
    replace hB := brW.fr hB (fun q h1 h2 => fr24 q (by omega))
    replace hQ := rnO.fr hQ (fun q h1 h2 => fr24 q (by omega))
    replace hT24 := aTw.fr hT24 (fun q h1 h2 => fr24 q (by omega))
    replace hC37 := aTw.fr hC37 (fun q h1 h2 => fr24 q (by omega))
    refine fw_cS (As := [.ref go, .ref y, .ref (go + 10 + 80 * o + 5 * (chD me sz cn (lkB lk 100) (ra.2.2.2.1 - 1)).2), .ref (go + 10 + 80 * o + 5 * (chD me sz cn ((chD me sz cn (lkB lk 100) (ra.2.2.2.1 - 1)).1) (ra.2.2.2.1 - 1)).2)]) (rest := []) E hK hH hl fL_X0_crossYoung ql_RX0_92 qs_yX0_crossYoung (k_crossYoung l G _ _ y (go + 10 + 80 * o + 5 * (chD me sz cn (lkB lk 100) (ra.2.2.2.1 - 1)).2) (go + 10 + 80 * o + 5 * (chD me sz cn ((chD me sz cn (lkB lk 100) (ra.2.2.2.1 - 1)).1) (ra.2.2.2.1 - 1)).2) (T (chD me sz cn (lkB lk 100) (ra.2.2.2.1 - 1)).2) (T (chD me sz cn ((chD me sz cn (lkB lk 100) (ra.2.2.2.1 - 1)).1) (ra.2.2.2.1 - 1)).2) go o cn ((chD me sz cn ((chD me sz cn (lkB lk 100) (ra.2.2.2.1 - 1)).1) (ra.2.2.2.1 - 1)).1) gn mi T hG108 hC37 hT24 hT108 (hTk _ hcb24.2) (hTk _ hcb108.2) hcb108.1 sy (by omega) (by omega)) rfl rfl (Nat.le_of_ble_eq_true rfl) ⟨Nat.le_of_ble_eq_true rfl, Nat.le_of_ble_eq_true rfl⟩ ⟨Nat.le_of_ble_eq_true rfl, Nat.le_of_ble_eq_true rfl⟩ dX0_makeYoung_40 (fw_kv fun M26 H1 locs1 hp25 hH hz1 => ?_)
    obtain ⟨hY119, ⟨mi119, hG119⟩, hfr, hz2⟩ := hp25
    replace hz := hz2.trans hz
    clear hz1 hz2
    have fr27 := hfr
    replace hB := brW.fr hB (fun q h1 h2 => fr27 q (by omega))
    replace hQ := rnO.fr hQ (fun q h1 h2 => fr27 q (by omega))
    replace hT24 := aTw.fr hT24 (fun q h1 h2 => fr27 q (by omega))
    replace hT108 := aTw.fr hT108 (fun q h1 h2 => fr27 q (by omega))
    refine lv_goto (tgt := 96) E.1 E.2.1 dX0_makeYoung_43 (by decide) ?_
    refine fw_vret E hr hlk hH ?_ dX0_makeYoung_96
    unfold mkF
    rw [if_pos (by omega)]
    exact ⟨hY119, ⟨_, hG119⟩, (fun q hq => by rw [fr27 q (by omega), fr24 q (by omega), fr11 q (by omega), fr8 q (by omega), fr4 q (by omega)]), hz⟩

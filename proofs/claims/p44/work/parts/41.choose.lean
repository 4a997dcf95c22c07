theorem k_choose (l : Launch) (G : fw_G) (M : fw_M) (N : Nat) (bo : Nat) (ra : aR) (me sz : Nat → Int) (go o cn : Nat) (lk gn mi : Int) (T : Nat → aT) (hG : gcW G M go o lk cn gn mi T) (hB : brW G M bo ra) (hQ : rnO G M (bo + 1) cn me sz) (hr9 : rOK ra) (hlu : 0 ≤ lk ∧ lk < 10000) (hc0 : 0 < cn) (s1 : bo + 5 ≤ go) : fMet l yX0_choose cX0_choose 5 (some (.object "Barnacle$Tree")) 3 120 0 0 G M N [.ref bo, .ref go] (fw_pr (fun r M1 n1 => r = go + 10 + 80 * o + 5 * (chD me sz cn lk (ra.2.2.2.1 - 1)).2 ∧ gcW G M1 go o (chD me sz cn lk (ra.2.2.2.1 - 1)).1 cn gn mi T ∧ (∀ q, q ≠ go + 1 → M1 q = M q) ∧ n1 = N)) := by
  refine fw_met RX0 rfl (by decide +kernel) (Nat.le_of_ble_eq_true rfl) ?_
  intro pG e s m args below meth cG ls E hr hlk hnm hK hH hz hl
  obtain ⟨hgb, ho1, hcn⟩ := hG.o1
  obtain ⟨r91, r92, r93, r94, r95⟩ := hr9
  have hc00 := chD_b (me := me) (sz := sz) hlu hc0 0
  refine lv_aload_n E.1 E.2.1 dX0_choose_0 rfl (lv_at hl 1 rfl) ?_
  refine fw_getN E hK hH hG.2.1 fc_X2 0 (by decide) ql_RX0_79 rfl rfl dX0_choose_1 ?_
  refine lv_aload_n E.1 E.2.1 dX0_choose_4 rfl (lv_at hl 1 rfl) ?_
  refine fw_getN E hK hH hG.2.1 fc_X2 4 (by decide) ql_RX0_38 rfl rfl dX0_choose_5 ?_
  obtain ⟨tl10, hD10⟩ := hG.2.2.1
  have hlu10 := lkB_b (m := cn) hlu
  have hbw10 := blw_b (m := cn) hlu (by omega)
  refine fw_cV (As := [.int (iI ↑cn)]) (rest := []) E hK hH hl hG.d fc_X1 fL_X1_below ql_RX0_83 qi_yX1_below qv_yX1_below (k_below l G _ _ (go + 1) tl10 lk cn hD10 hlu (by omega)) rfl rfl (Nat.le_of_ble_eq_true rfl) ⟨Nat.le_of_ble_eq_true rfl, Nat.le_of_ble_eq_true rfl⟩ ⟨Nat.le_of_ble_eq_true rfl, Nat.le_of_ble_eq_true rfl⟩ dX0_choose_8 (fw_ki fun r3 M2 H1 locs1 hp1 hH hz1 => ?_)
  obtain ⟨rfl, hdr10, hfr, hz2⟩ := hp1
  have hG10 := hG.dr hdr10 hfr
  replace hz := hz2.trans hz
  clear hz1 hz2
  have fr4 := hfr
  replace hB := brW.fr hB (fun q h1 h2 => fr4 q (by omega))
  replace hQ := rnO.fr hQ (fun q h1 h2 => fr4 q (by omega))
  refine fw_cv (y := iI (↑(chD me sz cn lk 0).2)) (congrArg iI (by show blw lk cn = (((blw lk cn).toNat : Nat) : Int); omega)) ?_
  refine lv_istore_n (lv' := [(2, .int (iI (↑(chD me sz cn lk 0).2))), (0, .ref bo), (1, .ref go)]) E.1 E.2.1 dX0_choose_11 rfl hl (by decide) rfl (fun ls hl => ?_)
  refine lv_iconst (v := iI 1) E.1 E.2.1 dX0_choose_12 (by decide) ?_
  refine lv_istore_n (lv' := [(3, .int (iI 1)), (2, .int (iI (↑(chD me sz cn lk 0).2))), (0, .ref bo), (1, .ref go)]) E.1 E.2.1 dX0_choose_13 rfl hl (by decide) rfl (fun ls hl => ?_)
  have hfr0 : ∀ q, q ≠ go + 1 → M2 q = M q := (fun q hq => by rw [fr4 q (by omega)])
  have loop14_1 : ∀ (d14 : Nat) (d : Nat) (Mw14 : fw_M) (H : Heap) (locs : List Loc) (ls : Array Slot), ra.2.2.2.1 - d < d14 → d + 1 ≤ ra.2.2.2.1 → (∀ q, q ≠ go + 1 → Mw14 q = M q) → fw_H G s Mw14 H locs → H.size = N → brW G Mw14 bo ra → rnO G Mw14 (bo + 1) cn me sz → gcW G Mw14 go o ((chD me sz cn lk d).1) cn gn mi T → lv_has ls 5 [(0, .ref bo), (1, .ref go), (2, .int (iI (↑(chD me sz cn lk d).2))), (3, .int (iI (↑d + 1)))] → W pG l e ({ frames := 3, cells := 0, slots := 0, locals := 120 } : Room) s m args below meth cG H locs (0) (0) (MQ below (fw_Q G (fw_pr (fun r M1 n1 => r = go + 10 + 80 * o + 5 * (chD me sz cn lk (ra.2.2.2.1 - 1)).2 ∧ gcW G M1 go o (chD me sz cn lk (ra.2.2.2.1 - 1)).1 cn gn mi T ∧ (∀ q, q ≠ go + 1 → M1 q = M q) ∧ n1 = N))) args s 0 0 (fun q => G.2.2.1 ≤ q)) (F0 m 14 ls []) := by
    intro d14
    induction d14 with
    | zero => intro d Mw14 H locs ls hd; exact absurd hd (Nat.not_lt_zero _)
    | succ d14 ih14 =>
      intro d Mw14 H locs ls hd14 idd hfr0 hH hz hB hQ hG hl
      have hcd := chD_b (me := me) (sz := sz) hlu hc0 d
      have hlud := hcd.1
      refine lv_iload_n E.1 E.2.1 dX0_choose_14 rfl (lv_at hl 3 rfl) ?_
      refine lv_aload_n E.1 E.2.1 dX0_choose_15 rfl (lv_at hl 0 rfl) ?_
      refine fw_get E hK hH hB.2 fc_X0 4 (by decide) ql_RX0_28 rfl rfl dX0_choose_16 ?_
      refine fw_icmp_ge (tgt := 57) E dX0_choose_19 (by decide) (by omega) (by omega) (by omega) (by omega) (fun c5 => ?_) (fun c5 => ?_)
      · refine lv_aload_n E.1 E.2.1 dX0_choose_57 rfl (lv_at hl 1 rfl) ?_
        refine lv_iload_n E.1 E.2.1 dX0_choose_58 rfl (lv_at hl 2 rfl) ?_
        refine fw_cV (As := [.int (iI (↑(chD me sz cn lk d).2))]) (rest := []) E hK hH hl hG.2.1 fc_X2 fL_X2_tree ql_RX0_57 qi_yX2_tree qv_yX2_tree (k_treeG l G _ _ go o cn ((chD me sz cn lk d).1) gn mi T hG ((chD me sz cn lk d).2) (by omega)) rfl rfl (Nat.le_of_ble_eq_true rfl) ⟨Nat.le_of_ble_eq_true rfl, Nat.le_of_ble_eq_true rfl⟩ ⟨Nat.le_of_ble_eq_true rfl, Nat.le_of_ble_eq_true rfl⟩ dX0_choose_59 (fw_kr fun r8 M7 H1 locs1 hp6 hH hz1 => ?_)
        obtain ⟨rfl, hM9, hz2⟩ := hp6
        have hT40 := hG.tr (j := ((chD me sz cn lk d).2)) (by omega)
        replace hz := hz2.trans hz
        clear hz1 hz2
        rw [hM9] at hH
        refine fw_aret E hr (Or.inl ⟨_, rfl⟩) hlk hH ?_ dX0_choose_62
        have e9 : d = ra.2.2.2.1 - 1 := by omega
        subst e9
        exact ⟨rfl, hG, hfr0, hz⟩
      · refine lv_aload_n E.1 E.2.1 dX0_choose_22 rfl (lv_at hl 1 rfl) ?_
        refine fw_getN E hK hH hG.2.1 fc_X2 0 (by decide) ql_RX0_79 rfl rfl dX0_choose_23 ?_
        refine lv_aload_n E.1 E.2.1 dX0_choose_26 rfl (lv_at hl 1 rfl) ?_
        refine fw_getN E hK hH hG.2.1 fc_X2 4 (by decide) ql_RX0_38 rfl rfl dX0_choose_27 ?_
        obtain ⟨tl54, hD54⟩ := hG.2.2.1
        have hlu54 := lkB_b (m := cn) hlud
        have hbw54 := blw_b (m := cn) hlud (by omega)
        refine fw_cV (As := [.int (iI ↑cn)]) (rest := []) E hK hH hl hG.d fc_X1 fL_X1_below ql_RX0_83 qi_yX1_below qv_yX1_below (k_below l G _ _ (go + 1) tl54 ((chD me sz cn lk d).1) cn hD54 hlud (by omega)) rfl rfl (Nat.le_of_ble_eq_true rfl) ⟨Nat.le_of_ble_eq_true rfl, Nat.le_of_ble_eq_true rfl⟩ ⟨Nat.le_of_ble_eq_true rfl, Nat.le_of_ble_eq_true rfl⟩ dX0_choose_30 (fw_ki fun r11 M10 H1 locs1 hp9 hH hz1 => ?_)
        obtain ⟨rfl, hdr54, hfr, hz2⟩ := hp9
        have hG54 := hG.dr hdr54 hfr
        replace hz := hz2.trans hz
        clear hz1 hz2
        have fr12 := hfr
        replace hB := brW.fr hB (fun q h1 h2 => fr12 q (by omega))
        replace hQ := rnO.fr hQ (fun q h1 h2 => fr12 q (by omega))
        refine fw_cv (y := iI (↑(blw (chD me sz cn lk d).1 cn).toNat)) (congrArg iI (by omega)) ?_
        refine lv_istore (lv' := [(4, .int (iI (↑(blw (chD me sz cn lk d).1 cn).toNat))), (0, .ref bo), (1, .ref go), (2, .int (iI (↑(chD me sz cn lk d).2))), (3, .int (iI (↑d + 1)))]) E.1 E.2.1 dX0_choose_33 hl (by decide) rfl (fun ls hl => ?_)
        refine lv_aload_n E.1 E.2.1 dX0_choose_35 rfl (lv_at hl 1 rfl) ?_
        refine fw_get E hK hH hB.2 fc_X0 0 (by decide) ql_RX0_12 rfl rfl dX0_choose_36 ?_
        refine lv_iload E.1 E.2.1 dX0_choose_39 (lv_at hl 0 rfl) ?_
        refine lv_iload_n E.1 E.2.1 dX0_choose_41 rfl (lv_at hl 3 rfl) ?_
        have hbt := btB_01 me sz ((blw (chD me sz cn lk d).1 cn).toNat) ((chD me sz cn lk d).2)
        refine fw_cV (As := [.int (iI (↑(blw (chD me sz cn lk d).1 cn).toNat)), .int (iI (↑(chD me sz cn lk d).2))]) (rest := []) E hK hH hl hQ.c fc_X4 fL_X4_isBetter ql_RX0_103 qi_yX4_isBetter qv_yX4_isBetter (k_betterG l G _ _ (bo + 1) cn me sz hQ hcn ((blw (chD me sz cn lk d).1 cn).toNat) ((chD me sz cn lk d).2) (by omega) (by omega)) rfl rfl (Nat.le_of_ble_eq_true rfl) ⟨Nat.le_of_ble_eq_true rfl, Nat.le_of_ble_eq_true rfl⟩ ⟨Nat.le_of_ble_eq_true rfl, Nat.le_of_ble_eq_true rfl⟩ dX0_choose_42 (fw_ki fun r15 M14 H1 locs1 hp13 hH hz1 => ?_)
        obtain ⟨rfl, hM9, hz2⟩ := hp13
        replace hz := hz2.trans hz
        clear hz1 hz2
        rw [hM9] at hH
        refine fw_if_eq (tgt := 51) E dX0_choose_45 (by decide) (by omega) (by omega) (fun c16 => ?_) (fun c16 => ?_)
        · refine lv_iinc (v := iI (↑d + 1 + 1)) (lv' := [(3, .int (iI (↑d + 1 + 1))), (4, .int (iI (↑(blw (chD me sz cn lk d).1 cn).toNat))), (0, .ref bo), (1, .ref go), (2, .int (iI (↑(chD me sz cn lk d).2)))]) E.1 E.2.1 dX0_choose_51 hl (k := 4) rfl (iI_inc rfl) (by decide) rfl (fun ls hl => ?_)
          refine lv_goto (tgt := 14) E.1 E.2.1 dX0_choose_54 (by decide) ?_
          have hst : (chD me sz cn lk (d + 1)).2 = (chD me sz cn lk d).2 := if_neg (by omega)
          rw [← hst] at hl
          exact ih14 (d + 1) _ _ _ _ (by omega) (by omega) (fun q hq => by rw [fr12 q (by omega)]; exact hfr0 q hq) hH (by omega) hB hQ hG54 (lv_sub hl [2, 3, 4, 0] rfl)
        · refine lv_iload E.1 E.2.1 dX0_choose_48 (lv_at hl 0 rfl) ?_
          refine lv_istore_n (lv' := [(2, .int (iI (↑(blw (chD me sz cn lk d).1 cn).toNat))), (4, .int (iI (↑(blw (chD me sz cn lk d).1 cn).toNat))), (0, .ref bo), (1, .ref go), (3, .int (iI (↑d + 1)))]) E.1 E.2.1 dX0_choose_50 rfl hl (by decide) rfl (fun ls hl => ?_)
          refine lv_iinc (v := iI (↑d + 1 + 1)) (lv' := [(3, .int (iI (↑d + 1 + 1))), (2, .int (iI (↑(blw (chD me sz cn lk d).1 cn).toNat))), (4, .int (iI (↑(blw (chD me sz cn lk d).1 cn).toNat))), (0, .ref bo), (1, .ref go)]) E.1 E.2.1 dX0_choose_51 hl (k := 4) rfl (iI_inc rfl) (by decide) rfl (fun ls hl => ?_)
          refine lv_goto (tgt := 14) E.1 E.2.1 dX0_choose_54 (by decide) ?_
          have hst : (chD me sz cn lk (d + 1)).2 = (blw (chD me sz cn lk d).1 cn).toNat := if_pos (by omega)
          rw [← hst] at hl
          exact ih14 (d + 1) _ _ _ _ (by omega) (by omega) (fun q hq => by rw [fr12 q (by omega)]; exact hfr0 q hq) hH (by omega) hB hQ hG54 (lv_sub hl [3, 4, 1, 0] rfl)
  exact loop14_1 (ra.2.2.2.1 - 0 + 1) 0 _ _ _ _ (Nat.lt_succ_self _) (by omega) hfr0 hH (by omega) hB hQ hG10 (lv_sub hl [2, 3, 1, 0] rfl)

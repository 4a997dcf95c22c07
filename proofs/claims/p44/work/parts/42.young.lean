theorem k_writeG (l : Launch) (G : fw_G) (M : fw_M) (N : Nat) (a : Nat) (t : aT) (p : Nat) (x v w : Int) (hA : aTw G M a t) (ht : aOK t) (hp : p < t.1) (hk : kinOK (t.2.1 p) x v) (hw : (if x ≤ 1 then w else 0) = v) (hwb : -2147483648 ≤ w ∧ w < 2147483648) : fMet l yX8_write cX8_write 4 none 1 30 0 0 G M N [.ref a, .int (iI ↑p), .int (iI x), .int (iI w)] (fw_pv (fun M1 n1 => aTw G M1 a (rcT t p x v) ∧ (∀ q, q < a ∨ a + 5 ≤ q → M1 q = M q) ∧ n1 = N)) := by
  obtain ⟨cs, vs, ss, hs, hT, hag, hbd⟩ := hA
  have hp4 := ht.1.1.2
  have hx := hk.2.2.2.1
  have hlv := (rcT_ok ht hp hk).2
  refine fMet.mv (k_write l G M N a cs vs ss hs _ _ ↑p p x w hT rfl (by omega) (by omega) hwb) (fun M1 n1 h => ⟨⟨zup cs p x, zup vs p v, ss, hs, ?_, fun k hk => ?_, hbd⟩, h.2⟩)
  · show trAt G M1 a (zup cs p x) (zup vs p v) ss hs ↑t.1 ↑(lvF t.1 (zup t.2.1 p x) t.2.2.2)
    rw [hlv, ← hw]; exact h.1
  · show zup cs p x k = zup t.2.1 p x k ∧ zup vs p v k = zup t.2.2.1 p v k ∧ ss k = ↑(t.2.2.2 k)
    have h9 := hag k hk
    by_cases e : k = p
    · rw [e, zup_eq, zup_eq, zup_eq, zup_eq, ← e]; exact ⟨rfl, rfl, h9.2.2⟩
    · rw [zup_ne e, zup_ne e, zup_ne e, zup_ne e]; exact h9
theorem k_keepG (l : Launch) (G : fw_G) (M : fw_M) (N : Nat) (a : Nat) (t : aT) (q : Nat) (hA : aTw G M a t) (ht : vtOK t.1 t.2.1 t.2.2.1 t.2.2.2) (hq : q < t.1) (h8 : t.2.1 q ≤ 8) : fMet l yX8_keepPart cX8_keepPart 6 none 2 80 0 0 G M N [.ref a, .int (iI 0), .int (iI ↑q)] (fw_pv (fun M1 n1 => aTw G M1 a (kpT t q) ∧ (∀ q, q < a ∨ a + 5 ≤ q → M1 q = M q) ∧ n1 = N)) := by
  have h1 := sp_le ht.2.2.2.1 hq
  have h2 := ht.2.1
  have h3 := ht.2.2.1
  exact k_keepPart l G M N a t.1 0 q t.2.1 t.2.2.1 t.2.2.2 hA ht ht.1.1 hq (Nat.zero_le _) (by omega) (by omega)
set_option maxHeartbeats 1000000 in
theorem k_crossYoung (l : Launch) (G : fw_G) (M : fw_M) (N : Nat) (y c d : Nat) (tc td : aT) (go o cn : Nat) (lk gn mi : Int) (T : Nat → aT) (hG : gcW G M go o lk cn gn mi T) (hY : aTw G M y tc) (hC : aTw G M c tc) (hD : aTw G M d td) (hc : aOK tc) (hd : aOK td) (hlu : 0 ≤ lk ∧ lk < 10000) (sy : go + 90 - 80 * o ≤ y ∧ y + 5 ≤ go + 170 - 80 * o) (sc : go + 10 + 80 * o ≤ c ∧ c + 5 ≤ go + 90 + 80 * o) (sd : go + 10 + 80 * o ≤ d ∧ d + 5 ≤ go + 90 + 80 * o) : fMet l yX0_crossYoung cX0_crossYoung 8 none 4 130 0 0 G M N [.ref go, .ref y, .ref c, .ref d] (fw_pv (fun M1 n1 => aTw G M1 y (crF lk tc td).2 ∧ (∃ mi1 : Int, gcW G M1 go o (crF lk tc td).1 cn gn mi1 T) ∧ (∀ q, q ≠ go ∧ q ≠ go + 1 ∧ (q < y ∨ y + 5 ≤ q) → M1 q = M q) ∧ n1 = N)) := by
  refine fw_met RX0 rfl (by decide +kernel) (Nat.le_of_ble_eq_true rfl) ?_
  intro pG e s m args below meth cG ls E hr hlk hnm hK hH hz hl
  obtain ⟨hgb, ho1, hcn⟩ := hG.o1
  have hc1 := hc.1.1
  have hd1 := hd.1.1
  refine lv_aload_n E.1 E.2.1 dX0_crossYoung_0 rfl (lv_at hl 0 rfl) ?_
  refine fw_getN E hK hH hG.2.1 fc_X2 0 (by decide) ql_RX0_79 rfl rfl dX0_crossYoung_1 ?_
  refine lv_aload_n E.1 E.2.1 dX0_crossYoung_4 rfl (lv_at hl 2 rfl) ?_
  refine fw_getN E hK hH hC.c fc_X8 4 (by decide) ql_RX0_107 rfl rfl dX0_crossYoung_5 ?_
  obtain ⟨tl11, hD11⟩ := hG.2.2.1
  have hlu11 := lkB_b (m := (tc.1)) hlu
  have hbw11 := blw_b (m := (tc.1)) hlu (by omega)
  refine fw_cV (As := [.int (iI (↑tc.1))]) (rest := []) E hK hH hl hG.d fc_X1 fL_X1_below ql_RX0_83 qi_yX1_below qv_yX1_below (k_below l G _ _ (go + 1) tl11 lk (tc.1) hD11 hlu (by omega)) rfl rfl (Nat.le_of_ble_eq_true rfl) ⟨Nat.le_of_ble_eq_true rfl, Nat.le_of_ble_eq_true rfl⟩ ⟨Nat.le_of_ble_eq_true rfl, Nat.le_of_ble_eq_true rfl⟩ dX0_crossYoung_8 (fw_ki fun r3 M2 H1 locs1 hp1 hH hz1 => ?_)
  obtain ⟨rfl, hdr11, hfr, hz2⟩ := hp1
  have hG11 := hG.dr hdr11 hfr
  replace hz := hz2.trans hz
  clear hz1 hz2
  have fr4 := hfr
  replace hY := aTw.fr hY (fun q h1 h2 => fr4 q (by omega))
  replace hC := aTw.fr hC (fun q h1 h2 => fr4 q (by omega))
  replace hD := aTw.fr hD (fun q h1 h2 => fr4 q (by omega))
  refine fw_cv (y := iI (↑(blw lk tc.1).toNat)) (congrArg iI (by omega)) ?_
  refine lv_istore (lv' := [(4, .int (iI (↑(blw lk tc.1).toNat))), (0, .ref go), (1, .ref y), (2, .ref c), (3, .ref d)]) E.1 E.2.1 dX0_crossYoung_11 hl (by decide) rfl (fun ls hl => ?_)
  refine lv_aload_n E.1 E.2.1 dX0_crossYoung_13 rfl (lv_at hl 3 rfl) ?_
  refine lv_iload E.1 E.2.1 dX0_crossYoung_14 (lv_at hl 0 rfl) ?_
  refine fw_cV (As := [.int (iI (↑(blw lk tc.1).toNat))]) (rest := []) E hK hH hl hC.c fc_X8 fL_X8_isNumber ql_RX0_110 qi_yX8_isNumber qv_yX8_isNumber (k_isNumberG l G _ _ c tc hC hc.1 ((blw lk tc.1).toNat) (by omega)) rfl rfl (Nat.le_of_ble_eq_true rfl) ⟨Nat.le_of_ble_eq_true rfl, Nat.le_of_ble_eq_true rfl⟩ ⟨Nat.le_of_ble_eq_true rfl, Nat.le_of_ble_eq_true rfl⟩ dX0_crossYoung_16 (fw_ki fun r7 M6 H1 locs1 hp5 hH hz1 => ?_)
  obtain ⟨rfl, hM9, hz2⟩ := hp5
  have hnm27 := numI_cases (tc.2.1 ((blw lk tc.1).toNat))
  replace hz := hz2.trans hz
  clear hz1 hz2
  rw [hM9] at hH
  refine lv_istore (lv' := [(5, .int (iI (numI (tc.2.1 ((blw lk tc.1).toNat))))), (4, .int (iI (↑(blw lk tc.1).toNat))), (0, .ref go), (1, .ref y), (2, .ref c), (3, .ref d)]) E.1 E.2.1 dX0_crossYoung_19 hl (by decide) rfl (fun ls hl => ?_)
  refine lv_aload_n E.1 E.2.1 dX0_crossYoung_21 rfl (lv_at hl 5 rfl) ?_
  refine lv_iload E.1 E.2.1 dX0_crossYoung_22 (lv_at hl 0 rfl) ?_
  refine fw_cV (As := [.int (iI (numI (tc.2.1 ((blw lk tc.1).toNat))))]) (rest := []) E hK hH hl hD.c fc_X8 fL_X8_countOfType ql_RX0_114 qi_yX8_countOfType qv_yX8_countOfType (k_countOfType l G _ _ d td.1 td.2.1 td.2.2.1 td.2.2.2 hD hd.1 (numI (tc.2.1 ((blw lk tc.1).toNat))) (by omega) (by omega)) rfl rfl (Nat.le_of_ble_eq_true rfl) ⟨Nat.le_of_ble_eq_true rfl, Nat.le_of_ble_eq_true rfl⟩ ⟨Nat.le_of_ble_eq_true rfl, Nat.le_of_ble_eq_true rfl⟩ dX0_crossYoung_24 (fw_ki fun r10 M9 H1 locs1 hp8 hH hz1 => ?_)
  obtain ⟨rfl, hM9, hz2⟩ := hp8
  replace hz := hz2.trans hz
  clear hz1 hz2
  rw [hM9] at hH
  refine lv_istore (lv' := [(6, .int (iI (↑(cntF td.2.1 (numI (tc.2.1 ((blw lk tc.1).toNat))) td.1)))), (5, .int (iI (numI (tc.2.1 ((blw lk tc.1).toNat))))), (4, .int (iI (↑(blw lk tc.1).toNat))), (0, .ref go), (1, .ref y), (2, .ref c), (3, .ref d)]) E.1 E.2.1 dX0_crossYoung_27 hl (by decide) rfl (fun ls hl => ?_)
  have hfl := cntF_le td.2.1 (numI (tc.2.1 (blw lk tc.1).toNat)) td.1
  refine lv_iload E.1 E.2.1 dX0_crossYoung_29 (lv_at hl 0 rfl) ?_
  refine fw_if_ne (tgt := 45) E dX0_crossYoung_31 (by decide) (by omega) (by omega) (fun c11 => ?_) (fun c11 => ?_)
  · refine lv_aload_n E.1 E.2.1 dX0_crossYoung_45 rfl (lv_at hl 6 rfl) ?_
    refine lv_iload E.1 E.2.1 dX0_crossYoung_46 (lv_at hl 1 rfl) ?_
    refine lv_aload_n E.1 E.2.1 dX0_crossYoung_48 rfl (lv_at hl 3 rfl) ?_
    refine fw_getN E hK hH hG11.2.1 fc_X2 0 (by decide) ql_RX0_79 rfl rfl dX0_crossYoung_49 ?_
    refine lv_iload E.1 E.2.1 dX0_crossYoung_52 (lv_at hl 0 rfl) ?_
    obtain ⟨tl50, hD50⟩ := hG11.2.2.1
    have hlu50 := lkB_b (m := (cntF td.2.1 (numI (tc.2.1 ((blw lk tc.1).toNat))) td.1)) hlu11
    have hbw50 := blw_b (m := (cntF td.2.1 (numI (tc.2.1 ((blw lk tc.1).toNat))) td.1)) hlu11 (by omega)
    refine fw_cV (As := [.int (iI (↑(cntF td.2.1 (numI (tc.2.1 ((blw lk tc.1).toNat))) td.1)))]) (rest := [.int (iI (numI (tc.2.1 ((blw lk tc.1).toNat)))), .ref d]) E hK hH hl hG11.d fc_X1 fL_X1_below ql_RX0_83 qi_yX1_below qv_yX1_below (k_below l G _ _ (go + 1) tl50 (lkB lk (tc.1)) (cntF td.2.1 (numI (tc.2.1 ((blw lk tc.1).toNat))) td.1) hD50 hlu11 (by omega)) rfl rfl (Nat.le_of_ble_eq_true rfl) ⟨Nat.le_of_ble_eq_true rfl, Nat.le_of_ble_eq_true rfl⟩ ⟨Nat.le_of_ble_eq_true rfl, Nat.le_of_ble_eq_true rfl⟩ dX0_crossYoung_54 (fw_ki fun r14 M13 H1 locs1 hp12 hH hz1 => ?_)
    obtain ⟨rfl, hdr50, hfr, hz2⟩ := hp12
    have hG50 := hG11.dr hdr50 hfr
    replace hz := hz2.trans hz
    clear hz1 hz2
    have fr15 := hfr
    replace hY := aTw.fr hY (fun q h1 h2 => fr15 q (by omega))
    replace hC := aTw.fr hC (fun q h1 h2 => fr15 q (by omega))
    replace hD := aTw.fr hD (fun q h1 h2 => fr15 q (by omega))
    refine fw_cv (y := iI (↑(blw (lkB lk tc.1) (cntF td.2.1 (numI (tc.2.1 (blw lk tc.1).toNat)) td.1)).toNat)) (congrArg iI (by omega)) ?_
    refine fw_cV (As := [.int (iI (numI (tc.2.1 ((blw lk tc.1).toNat)))), .int (iI (↑(blw (lkB lk tc.1) (cntF td.2.1 (numI (tc.2.1 (blw lk tc.1).toNat)) td.1)).toNat))]) (rest := []) E hK hH hl hD.c fc_X8 fL_X8_placeOfType ql_RX0_121 qi_yX8_placeOfType qv_yX8_placeOfType (k_placeOfType l G _ _ d td.1 td.2.1 td.2.2.1 td.2.2.2 hD hd.1 (numI (tc.2.1 ((blw lk tc.1).toNat))) ((blw (lkB lk tc.1) (cntF td.2.1 (numI (tc.2.1 (blw lk tc.1).toNat)) td.1)).toNat) (by omega) (by omega) (by omega)) rfl rfl (Nat.le_of_ble_eq_true rfl) ⟨Nat.le_of_ble_eq_true rfl, Nat.le_of_ble_eq_true rfl⟩ ⟨Nat.le_of_ble_eq_true rfl, Nat.le_of_ble_eq_true rfl⟩ dX0_crossYoung_57 (fw_ki fun r18 M17 H1 locs1 hp16 hH hz1 => ?_)
    obtain ⟨rfl, hM9, hz2⟩ := hp16
    replace hz := hz2.trans hz
    clear hz1 hz2
    rw [hM9] at hH
    have hq9 := plF_ok (C := td.2.1) (b := numI (tc.2.1 (blw lk tc.1).toNat)) (x := (blw (lkB lk tc.1) (cntF td.2.1 (numI (tc.2.1 (blw lk tc.1).toNat)) td.1)).toNat) td.1 (by omega)
    refine lv_istore (lv' := [(7, .int (iI (↑(plF td.2.1 (numI (tc.2.1 ((blw lk tc.1).toNat))) ((blw (lkB lk tc.1) (cntF td.2.1 (numI (tc.2.1 (blw lk tc.1).toNat)) td.1)).toNat) td.1)))), (6, .int (iI (↑(cntF td.2.1 (numI (tc.2.1 ((blw lk tc.1).toNat))) td.1)))), (5, .int (iI (numI (tc.2.1 ((blw lk tc.1).toNat))))), (4, .int (iI (↑(blw lk tc.1).toNat))), (0, .ref go), (1, .ref y), (2, .ref c), (3, .ref d)]) E.1 E.2.1 dX0_crossYoung_60 hl (by decide) rfl (fun ls hl => ?_)
    refine lv_aload_n E.1 E.2.1 dX0_crossYoung_62 rfl (lv_at hl 5 rfl) ?_
    refine lv_aload_n E.1 E.2.1 dX0_crossYoung_63 rfl (lv_at hl 6 rfl) ?_
    refine lv_iload E.1 E.2.1 dX0_crossYoung_64 (lv_at hl 3 rfl) ?_
    refine lv_aload_n E.1 E.2.1 dX0_crossYoung_66 rfl (lv_at hl 7 rfl) ?_
    refine lv_iload E.1 E.2.1 dX0_crossYoung_67 (lv_at hl 0 rfl) ?_
    refine fw_cV (As := [.ref c, .int (iI (↑(blw lk tc.1).toNat)), .ref d, .int (iI (↑(plF td.2.1 (numI (tc.2.1 ((blw lk tc.1).toNat))) ((blw (lkB lk tc.1) (cntF td.2.1 (numI (tc.2.1 (blw lk tc.1).toNat)) td.1)).toNat) td.1)))]) (rest := []) E hK hH hl hY.c fc_X8 fL_X8_becomeCrossed ql_RX0_125 qi_yX8_becomeCrossed qv_yX8_becomeCrossed (k_crossG l G _ _ y c d tc td ((blw lk tc.1).toNat) (plF td.2.1 (numI (tc.2.1 ((blw lk tc.1).toNat))) ((blw (lkB lk tc.1) (cntF td.2.1 (numI (tc.2.1 (blw lk tc.1).toNat)) td.1)).toNat) td.1) hY.any hC hD hc.1 hd.1 (by omega) (by omega) (by omega) (by omega)) rfl rfl (Nat.le_of_ble_eq_true rfl) ⟨Nat.le_of_ble_eq_true rfl, Nat.le_of_ble_eq_true rfl⟩ ⟨Nat.le_of_ble_eq_true rfl, Nat.le_of_ble_eq_true rfl⟩ dX0_crossYoung_69 (fw_ki fun r21 M20 H1 locs1 hp19 hH hz1 => ?_)
    obtain ⟨b75, rfl, hcr, hfr, hz2⟩ := hp19
    have hb75 : b75 = 0 ∨ b75 = 1 := hcr.elim (fun h => Or.inr h.1) (fun h => Or.inl h.1)
    replace hz := hz2.trans hz
    clear hz1 hz2
    have fr22 := hfr
    replace hC := aTw.fr hC (fun q h1 h2 => fr22 q (by omega))
    replace hD := aTw.fr hD (fun q h1 h2 => fr22 q (by omega))
    replace hG50 := gcW.fr hG50 (fun q h1 h2 => fr22 q (by omega))
    refine fw_if_ne (tgt := 90) E dX0_crossYoung_72 (by decide) (by omega) (by omega) (fun c23 => ?_) (fun c23 => ?_)
    · obtain ⟨hk9, hCy⟩ : crOK tc ((blw lk tc.1).toNat) td (plF td.2.1 (numI (tc.2.1 ((blw lk tc.1).toNat))) ((blw (lkB lk tc.1) (cntF td.2.1 (numI (tc.2.1 (blw lk tc.1).toNat)) td.1)).toNat) td.1) ∧ aTw G M20 y (crT tc ((blw lk tc.1).toNat) td (plF td.2.1 (numI (tc.2.1 ((blw lk tc.1).toNat))) ((blw (lkB lk tc.1) (cntF td.2.1 (numI (tc.2.1 (blw lk tc.1).toNat)) td.1)).toNat) td.1)) := hcr.elim (fun h => h.2) (fun h => absurd h.1 (by omega))
      refine fw_vret E hr hlk hH ?_ dX0_crossYoung_90
      have e9 : crF lk tc td = (lkB (lkB lk tc.1) (cntF td.2.1 (numI (tc.2.1 (blw lk tc.1).toNat)) td.1), if crOK tc (blw lk tc.1).toNat td (plF td.2.1 (numI (tc.2.1 (blw lk tc.1).toNat)) (blw (lkB lk tc.1) (cntF td.2.1 (numI (tc.2.1 (blw lk tc.1).toNat)) td.1)).toNat td.1) then crT tc (blw lk tc.1).toNat td (plF td.2.1 (numI (tc.2.1 (blw lk tc.1).toNat)) (blw (lkB lk tc.1) (cntF td.2.1 (numI (tc.2.1 (blw lk tc.1).toNat)) td.1)).toNat td.1) else tc) := if_neg (by omega)
      rw [if_pos hk9] at e9
      rw [e9]; exact ⟨hCy, ⟨_, hG50⟩, (fun q hq => by rw [fr22 q (by omega), fr15 q (by omega), fr4 q (by omega)]), hz⟩
    · obtain ⟨hk9, hCn⟩ : ¬ crOK tc ((blw lk tc.1).toNat) td (plF td.2.1 (numI (tc.2.1 ((blw lk tc.1).toNat))) ((blw (lkB lk tc.1) (cntF td.2.1 (numI (tc.2.1 (blw lk tc.1).toNat)) td.1)).toNat) td.1) ∧ tany G M20 y := hcr.elim (fun h => absurd h.1 (by omega)) (fun h => h.2)
      refine lv_aload_n E.1 E.2.1 dX0_crossYoung_75 rfl (lv_at hl 4 rfl) ?_
      refine lv_dup E.1 E.2.1 dX0_crossYoung_76 rfl ?_
      refine fw_getN E hK hH hG50.2.1 fc_X2 6 (by decide) ql_RX0_118 rfl rfl dX0_crossYoung_77 ?_
      refine lv_iconst (v := iI 1) E.1 E.2.1 dX0_crossYoung_80 (by decide) ?_
      refine fw_iadd E dX0_crossYoung_81 ?_
      refine fw_putN E hK hH (by omega) hG50.2.1 fc_X2 6 (by decide) ql_RX0_118 rfl rfl rfl rfl (Nat.le_of_ble_eq_true rfl) dX0_crossYoung_82 (fun H1 locs1 hH hz1 => ?_)
      replace hz := hz1.trans hz; clear hz1
      obtain ⟨M24, hM25⟩ : ∃ MX, MX = fw_up M20 go (.inr (2, [.ref (go + 1), .ref (go + 3), .ref (go + 8 + o), .ref (go + 9 - o), .int (iI ↑cn), .int (iI gn), .int (iI (mi + 1))])) := ⟨_, rfl⟩
      replace hH := fw_H.nm hM25 hH
      have fr26 : ∀ q, q ≠ go → M24 q = M20 q := fun q h => by rw [hM25]; exact fw_up_ne h
      replace hC := aTw.fr hC (fun q h1 h2 => fr26 q (by omega))
      replace hD := aTw.fr hD (fun q h1 h2 => fr26 q (by omega))
      replace hCn := tany.fr hCn (fun q h1 h2 => fr26 q (by omega))
      have hob98 : M24 go = some (.inr (2, [.ref (go + 1), .ref (go + 3), .ref (go + 8 + o), .ref (go + 9 - o), .int (iI ↑cn), .int (iI gn), .int (iI (mi + 1))])) := by rw [hM25]; exact fw_up_eq
      have hG98 := hG50.ob hob98 fr26
      refine lv_aload_n E.1 E.2.1 dX0_crossYoung_85 rfl (lv_at hl 5 rfl) ?_
      refine lv_aload_n E.1 E.2.1 dX0_crossYoung_86 rfl (lv_at hl 6 rfl) ?_
      obtain ⟨_, _, _, _, ua108, ub108, hob108, _⟩ := id hCn
      refine fw_cV (As := [.ref c]) (rest := []) E hK hH hl hob108.2.1 fc_X8 fL_X8_copyFrom ql_RX0_60 qi_yX8_copyFrom qv_yX8_copyFrom (k_copyG l G _ _ y c tc hCn hC hc.1 (by omega)) rfl rfl (Nat.le_of_ble_eq_true rfl) ⟨Nat.le_of_ble_eq_true rfl, Nat.le_of_ble_eq_true rfl⟩ ⟨Nat.le_of_ble_eq_true rfl, Nat.le_of_ble_eq_true rfl⟩ dX0_crossYoung_87 (fw_kv fun M28 H1 locs1 hp27 hH hz1 => ?_)
      obtain ⟨hC108, hfr, hz2⟩ := hp27
      replace hz := hz2.trans hz
      clear hz1 hz2
      have fr29 := hfr
      replace hC := aTw.fr hC (fun q h1 h2 => fr29 q (by omega))
      replace hD := aTw.fr hD (fun q h1 h2 => fr29 q (by omega))
      replace hG98 := gcW.fr hG98 (fun q h1 h2 => fr29 q (by omega))
      refine fw_vret E hr hlk hH ?_ dX0_crossYoung_90
      have e9 : crF lk tc td = (lkB (lkB lk tc.1) (cntF td.2.1 (numI (tc.2.1 (blw lk tc.1).toNat)) td.1), if crOK tc (blw lk tc.1).toNat td (plF td.2.1 (numI (tc.2.1 (blw lk tc.1).toNat)) (blw (lkB lk tc.1) (cntF td.2.1 (numI (tc.2.1 (blw lk tc.1).toNat)) td.1)).toNat td.1) then crT tc (blw lk tc.1).toNat td (plF td.2.1 (numI (tc.2.1 (blw lk tc.1).toNat)) (blw (lkB lk tc.1) (cntF td.2.1 (numI (tc.2.1 (blw lk tc.1).toNat)) td.1)).toNat td.1) else tc) := if_neg (by omega)
      rw [if_neg hk9] at e9
      rw [e9]; exact ⟨hC108, ⟨_, hG98⟩, (fun q hq => by rw [fr29 q (by omega), fr26 q (by omega), fr22 q (by omega), fr15 q (by omega), fr4 q (by omega)]), hz⟩
  · refine lv_aload_n E.1 E.2.1 dX0_crossYoung_34 rfl (lv_at hl 3 rfl) ?_
    refine lv_dup E.1 E.2.1 dX0_crossYoung_35 rfl ?_
    refine fw_getN E hK hH hG11.2.1 fc_X2 6 (by decide) ql_RX0_118 rfl rfl dX0_crossYoung_36 ?_
    refine lv_iconst (v := iI 1) E.1 E.2.1 dX0_crossYoung_39 (by decide) ?_
    refine fw_iadd E dX0_crossYoung_40 ?_
    refine fw_putN E hK hH (by omega) hG11.2.1 fc_X2 6 (by decide) ql_RX0_118 rfl rfl rfl rfl (Nat.le_of_ble_eq_true rfl) dX0_crossYoung_41 (fun H1 locs1 hH hz1 => ?_)
    replace hz := hz1.trans hz; clear hz1
    obtain ⟨M30, hM31⟩ : ∃ MX, MX = fw_up M2 go (.inr (2, [.ref (go + 1), .ref (go + 3), .ref (go + 8 + o), .ref (go + 9 - o), .int (iI ↑cn), .int (iI gn), .int (iI (mi + 1))])) := ⟨_, rfl⟩
    replace hH := fw_H.nm hM31 hH
    have fr32 : ∀ q, q ≠ go → M30 q = M2 q := fun q h => by rw [hM31]; exact fw_up_ne h
    replace hY := aTw.fr hY (fun q h1 h2 => fr32 q (by omega))
    replace hC := aTw.fr hC (fun q h1 h2 => fr32 q (by omega))
    replace hD := aTw.fr hD (fun q h1 h2 => fr32 q (by omega))
    have hob128 : M30 go = some (.inr (2, [.ref (go + 1), .ref (go + 3), .ref (go + 8 + o), .ref (go + 9 - o), .int (iI ↑cn), .int (iI gn), .int (iI (mi + 1))])) := by rw [hM31]; exact fw_up_eq
    have hG128 := hG11.ob hob128 fr32
    refine fw_vret E hr hlk hH ?_ dX0_crossYoung_44
    have e9 : crF lk tc td = (lkB lk tc.1, tc) := if_pos (by omega)
    rw [e9]; exact ⟨hY, ⟨_, hG128⟩, (fun q hq => by rw [fr32 q (by omega), fr4 q (by omega)]), hz⟩
set_option maxHeartbeats 1000000 in
theorem k_changeYoung (l : Launch) (G : fw_G) (M : fw_M) (N : Nat) (y : Nat) (tc : aT) (go o cn : Nat) (lk gn mi : Int) (T : Nat → aT) (hG : gcW G M go o lk cn gn mi T) (hY : aTw G M y tc) (hc : aOK tc) (hlu : 0 ≤ lk ∧ lk < 10000) (sy : go + 90 - 80 * o ≤ y ∧ y + 5 ≤ go + 170 - 80 * o) : fMet l yX0_changeYoung cX0_changeYoung 4 none 3 100 0 0 G M N [.ref (go + 1), .ref y] (fw_pv (fun M1 n1 => aTw G M1 y (cgV lk tc).2 ∧ gcW G M1 go o (cgV lk tc).1 cn gn mi T ∧ (∀ q, q ≠ go + 1 ∧ (q < y ∨ y + 5 ≤ q) → M1 q = M q) ∧ n1 = N)) := by
  refine fw_met RX0 rfl (by decide +kernel) (Nat.le_of_ble_eq_true rfl) ?_
  intro pG e s m args below meth cG ls E hr hlk hnm hK hH hz hl
  obtain ⟨hgb, ho1, hcn⟩ := hG.o1
  have hc1 := hc.1.1
  refine lv_aload_n E.1 E.2.1 dX0_changeYoung_0 rfl (lv_at hl 0 rfl) ?_
  refine lv_aload_n E.1 E.2.1 dX0_changeYoung_1 rfl (lv_at hl 1 rfl) ?_
  refine fw_getN E hK hH hY.c fc_X8 4 (by decide) ql_RX0_107 rfl rfl dX0_changeYoung_2 ?_
  obtain ⟨tl9, hD9⟩ := hG.2.2.1
  have hlu9 := lkB_b (m := (tc.1)) hlu
  have hbw9 := blw_b (m := (tc.1)) hlu (by omega)
  refine fw_cV (As := [.int (iI (↑tc.1))]) (rest := []) E hK hH hl hG.d fc_X1 fL_X1_below ql_RX0_83 qi_yX1_below qv_yX1_below (k_below l G _ _ (go + 1) tl9 lk (tc.1) hD9 hlu (by omega)) rfl rfl (Nat.le_of_ble_eq_true rfl) ⟨Nat.le_of_ble_eq_true rfl, Nat.le_of_ble_eq_true rfl⟩ ⟨Nat.le_of_ble_eq_true rfl, Nat.le_of_ble_eq_true rfl⟩ dX0_changeYoung_5 (fw_ki fun r3 M2 H1 locs1 hp1 hH hz1 => ?_)
  obtain ⟨rfl, hdr9, hfr, hz2⟩ := hp1
  have hG9 := hG.dr hdr9 hfr
  replace hz := hz2.trans hz
  clear hz1 hz2
  have fr4 := hfr
  replace hY := aTw.fr hY (fun q h1 h2 => fr4 q (by omega))
  refine fw_cv (y := iI (↑(blw lk tc.1).toNat)) (congrArg iI (by omega)) ?_
  have hnd := hc.1.2.2.2.2.2 (blw lk tc.1).toNat (by omega)
  have hnc := hnd.1
  refine lv_istore_n (lv' := [(2, .int (iI (↑(blw lk tc.1).toNat))), (0, .ref (go + 1)), (1, .ref y)]) E.1 E.2.1 dX0_changeYoung_8 rfl hl (by decide) rfl (fun ls hl => ?_)
  refine lv_aload_n E.1 E.2.1 dX0_changeYoung_9 rfl (lv_at hl 2 rfl) ?_
  refine lv_iload_n E.1 E.2.1 dX0_changeYoung_10 rfl (lv_at hl 0 rfl) ?_
  refine fw_cV (As := [.int (iI (↑(blw lk tc.1).toNat))]) (rest := []) E hK hH hl hY.c fc_X8 fL_X8_code ql_RX0_129 qi_yX8_code qv_yX8_code (k_codeG l G _ _ y tc hY hc.1 ((blw lk tc.1).toNat) (by omega)) rfl rfl (Nat.le_of_ble_eq_true rfl) ⟨Nat.le_of_ble_eq_true rfl, Nat.le_of_ble_eq_true rfl⟩ ⟨Nat.le_of_ble_eq_true rfl, Nat.le_of_ble_eq_true rfl⟩ dX0_changeYoung_11 (fw_ki fun r7 M6 H1 locs1 hp5 hH hz1 => ?_)
  obtain ⟨rfl, hM9, hz2⟩ := hp5
  replace hz := hz2.trans hz
  clear hz1 hz2
  rw [hM9] at hH
  refine lv_istore_n (lv' := [(3, .int (iI (tc.2.1 ((blw lk tc.1).toNat)))), (2, .int (iI (↑(blw lk tc.1).toNat))), (0, .ref (go + 1)), (1, .ref y)]) E.1 E.2.1 dX0_changeYoung_14 rfl hl (by decide) rfl (fun ls hl => ?_)
  refine lv_iload_n E.1 E.2.1 dX0_changeYoung_15 rfl (lv_at hl 0 rfl) ?_
  refine fw_if_ne (tgt := 38) E dX0_changeYoung_16 (by decide) (by omega) (by omega) (fun c8 => ?_) (fun c8 => ?_)
  · refine lv_iload_n E.1 E.2.1 dX0_changeYoung_38 rfl (lv_at hl 0 rfl) ?_
    refine lv_iconst (v := iI 1) E.1 E.2.1 dX0_changeYoung_39 (by decide) ?_
    refine fw_icmp_ne (tgt := 57) E dX0_changeYoung_40 (by decide) (by omega) (by omega) (by omega) (by omega) (fun c9 => ?_) (fun c9 => ?_)
    · have hkc := kin_c (x := tc.2.1 (blw lk tc.1).toNat) (by omega)
      have hkc1 := hkc.1
      refine lv_aload_n E.1 E.2.1 dX0_changeYoung_57 rfl (lv_at hl 3 rfl) ?_
      refine lv_iload_n E.1 E.2.1 dX0_changeYoung_58 rfl (lv_at hl 1 rfl) ?_
      refine fw_getsN E hH hK.me.2.2.2.1 ql_RX0_136 dX0_changeYoung_59 ?_
      refine lv_iload_n E.1 E.2.1 dX0_changeYoung_62 rfl (lv_at hl 0 rfl) ?_
      refine fw_cSN (As := [.ref (G.2.2.2.2 1), .int (iI (tc.2.1 ((blw lk tc.1).toNat)))]) (rest := [.int (iI (↑(blw lk tc.1).toNat)), .ref y]) E hK hH hl fL_X9_at ql_RX0_140 qs_yX9_at (k_at1 l G _ _ (tc.2.1 ((blw lk tc.1).toNat)) ((tc.2.1 ((blw lk tc.1).toNat)).toNat) (by omega) (by omega)) rfl rfl (Nat.le_of_ble_eq_true rfl) ⟨Nat.le_of_ble_eq_true rfl, Nat.le_of_ble_eq_true rfl⟩ ⟨Nat.le_of_ble_eq_true rfl, Nat.le_of_ble_eq_true rfl⟩ dX0_changeYoung_63 (fw_ki fun r12 M11 H1 locs1 hp10 hH hz1 => ?_)
      obtain ⟨rfl, hM9, hz2⟩ := hp10
      replace hz := hz2.trans hz
      clear hz1 hz2
      rw [hM9] at hH
      refine lv_aload_n E.1 E.2.1 dX0_changeYoung_66 rfl (lv_at hl 2 rfl) ?_
      refine fw_getsN E hH hK.me.2.2.2.2.1 ql_RX0_144 dX0_changeYoung_67 ?_
      refine lv_iload_n E.1 E.2.1 dX0_changeYoung_70 rfl (lv_at hl 0 rfl) ?_
      refine fw_cSN (As := [.ref (G.2.2.2.2 2), .int (iI (tc.2.1 ((blw lk tc.1).toNat)))]) (rest := [.ref (go + 1), .int (iI (zKS ((tc.2.1 ((blw lk tc.1).toNat)).toNat))), .int (iI (↑(blw lk tc.1).toNat)), .ref y]) E hK hH hl fL_X9_at ql_RX0_140 qs_yX9_at (k_at2 l G _ _ (tc.2.1 ((blw lk tc.1).toNat)) ((tc.2.1 ((blw lk tc.1).toNat)).toNat) (by omega) (by omega)) rfl rfl (Nat.le_of_ble_eq_true rfl) ⟨Nat.le_of_ble_eq_true rfl, Nat.le_of_ble_eq_true rfl⟩ ⟨Nat.le_of_ble_eq_true rfl, Nat.le_of_ble_eq_true rfl⟩ dX0_changeYoung_71 (fw_ki fun r15 M14 H1 locs1 hp13 hH hz1 => ?_)
      obtain ⟨rfl, hM9, hz2⟩ := hp13
      refine fw_cv (y := iI (↑(zKC (tc.2.1 (blw lk tc.1).toNat).toNat).toNat)) (congrArg iI (by omega)) ?_
      replace hz := hz2.trans hz
      clear hz1 hz2
      rw [hM9] at hH
      obtain ⟨tl56, hD56⟩ := hG9.2.2.1
      have hlu56 := lkB_b (m := ((zKC (tc.2.1 (blw lk tc.1).toNat).toNat).toNat)) hlu9
      have hbw56 := blw_b (m := ((zKC (tc.2.1 (blw lk tc.1).toNat).toNat).toNat)) hlu9 (by omega)
      refine fw_cV (As := [.int (iI (↑(zKC (tc.2.1 (blw lk tc.1).toNat).toNat).toNat))]) (rest := [.int (iI (zKS ((tc.2.1 ((blw lk tc.1).toNat)).toNat))), .int (iI (↑(blw lk tc.1).toNat)), .ref y]) E hK hH hl hG9.d fc_X1 fL_X1_below ql_RX0_83 qi_yX1_below qv_yX1_below (k_below l G _ _ (go + 1) tl56 (lkB lk (tc.1)) ((zKC (tc.2.1 (blw lk tc.1).toNat).toNat).toNat) hD56 hlu9 (by omega)) rfl rfl (Nat.le_of_ble_eq_true rfl) ⟨Nat.le_of_ble_eq_true rfl, Nat.le_of_ble_eq_true rfl⟩ ⟨Nat.le_of_ble_eq_true rfl, Nat.le_of_ble_eq_true rfl⟩ dX0_changeYoung_74 (fw_ki fun r18 M17 H1 locs1 hp16 hH hz1 => ?_)
      obtain ⟨rfl, hdr56, hfr, hz2⟩ := hp16
      have hG56 := hG9.dr hdr56 hfr
      replace hz := hz2.trans hz
      clear hz1 hz2
      have fr19 := hfr
      replace hY := aTw.fr hY (fun q h1 h2 => fr19 q (by omega))
      have hks := (hkc.2 (blw (lkB lk tc.1) (zKC (tc.2.1 (blw lk tc.1).toNat).toNat).toNat) (by omega) (by omega)).2
      refine fw_iadd E dX0_changeYoung_77 ?_
      refine lv_iconst (v := iI 0) E.1 E.2.1 dX0_changeYoung_78 (by decide) ?_
      refine fw_cV (As := [.int (iI (↑(blw lk tc.1).toNat)), .int (iI ((zKS ((tc.2.1 ((blw lk tc.1).toNat)).toNat)) + (blw (lkB lk (tc.1)) ((zKC (tc.2.1 (blw lk tc.1).toNat).toNat).toNat)))), .int (iI 0)]) (rest := []) E hK hH hl hY.c fc_X8 fL_X8_write ql_RX0_132 qi_yX8_write qv_yX8_write (k_writeG l G _ _ y tc ((blw lk tc.1).toNat) ((zKS ((tc.2.1 ((blw lk tc.1).toNat)).toNat)) + (blw (lkB lk (tc.1)) ((zKC (tc.2.1 (blw lk tc.1).toNat).toNat).toNat))) 0 0 hY hc (by omega) (hkc.2 _ (by omega) (by omega)).1 (if_neg (by omega)) (by omega)) rfl rfl (Nat.le_of_ble_eq_true rfl) ⟨Nat.le_of_ble_eq_true rfl, Nat.le_of_ble_eq_true rfl⟩ ⟨Nat.le_of_ble_eq_true rfl, Nat.le_of_ble_eq_true rfl⟩ dX0_changeYoung_79 (fw_kv fun M21 H1 locs1 hp20 hH hz1 => ?_)
      obtain ⟨hC69, hfr, hz2⟩ := hp20
      replace hz := hz2.trans hz
      clear hz1 hz2
      have fr22 := hfr
      replace hG56 := gcW.fr hG56 (fun q h1 h2 => fr22 q (by omega))
      refine fw_vret E hr hlk hH ?_ dX0_changeYoung_82
      have e9 : cgV lk tc = (lkB (lkB lk tc.1) (zKC (tc.2.1 (blw lk tc.1).toNat).toNat).toNat, rcT tc (blw lk tc.1).toNat (zKS (tc.2.1 (blw lk tc.1).toNat).toNat + blw (lkB lk tc.1) (zKC (tc.2.1 (blw lk tc.1).toNat).toNat).toNat) 0) := (if_neg (by omega)).trans (if_neg (by omega))
      rw [e9]; exact ⟨hC69, hG56, (fun q hq => by rw [fr22 q (by omega), fr19 q (by omega), fr4 q (by omega)]), hz⟩
    · refine lv_aload_n E.1 E.2.1 dX0_changeYoung_43 rfl (lv_at hl 3 rfl) ?_
      refine lv_iload_n E.1 E.2.1 dX0_changeYoung_44 rfl (lv_at hl 1 rfl) ?_
      refine lv_iconst (v := iI 1) E.1 E.2.1 dX0_changeYoung_45 (by decide) ?_
      refine lv_aload_n E.1 E.2.1 dX0_changeYoung_46 rfl (lv_at hl 2 rfl) ?_
      refine lv_iconst (v := iI 3) E.1 E.2.1 dX0_changeYoung_47 (by decide) ?_
      obtain ⟨tl83, hD83⟩ := hG9.2.2.1
      have hlu83 := lkB_b (m := 3) hlu9
      have hbw83 := blw_b (m := 3) hlu9 (by omega)
      refine fw_cV (As := [.int (iI 3)]) (rest := [.int (iI 1), .int (iI (↑(blw lk tc.1).toNat)), .ref y]) E hK hH hl hG9.d fc_X1 fL_X1_below ql_RX0_83 qi_yX1_below qv_yX1_below (k_below l G _ _ (go + 1) tl83 (lkB lk (tc.1)) 3 hD83 hlu9 (by omega)) rfl rfl (Nat.le_of_ble_eq_true rfl) ⟨Nat.le_of_ble_eq_true rfl, Nat.le_of_ble_eq_true rfl⟩ ⟨Nat.le_of_ble_eq_true rfl, Nat.le_of_ble_eq_true rfl⟩ dX0_changeYoung_48 (fw_ki fun r25 M24 H1 locs1 hp23 hH hz1 => ?_)
      obtain ⟨rfl, hdr83, hfr, hz2⟩ := hp23
      have hG83 := hG9.dr hdr83 hfr
      replace hz := hz2.trans hz
      clear hz1 hz2
      have fr26 := hfr
      replace hY := aTw.fr hY (fun q h1 h2 => fr26 q (by omega))
      refine fw_cV (As := [.int (iI (↑(blw lk tc.1).toNat)), .int (iI 1), .int (iI (blw (lkB lk (tc.1)) 3))]) (rest := []) E hK hH hl hY.c fc_X8 fL_X8_write ql_RX0_132 qi_yX8_write qv_yX8_write (k_writeG l G _ _ y tc ((blw lk tc.1).toNat) 1 (blw (lkB lk tc.1) 3) (blw (lkB lk (tc.1)) 3) hY hc (by omega) (by rw [show tc.2.1 (blw lk tc.1).toNat = 1 by omega]; exact kin_1 (by omega)) rfl (by omega)) rfl rfl (Nat.le_of_ble_eq_true rfl) ⟨Nat.le_of_ble_eq_true rfl, Nat.le_of_ble_eq_true rfl⟩ ⟨Nat.le_of_ble_eq_true rfl, Nat.le_of_ble_eq_true rfl⟩ dX0_changeYoung_51 (fw_kv fun M28 H1 locs1 hp27 hH hz1 => ?_)
      obtain ⟨hC93, hfr, hz2⟩ := hp27
      replace hz := hz2.trans hz
      clear hz1 hz2
      have fr29 := hfr
      replace hG83 := gcW.fr hG83 (fun q h1 h2 => fr29 q (by omega))
      refine lv_goto (tgt := 82) E.1 E.2.1 dX0_changeYoung_54 (by decide) ?_
      refine fw_vret E hr hlk hH ?_ dX0_changeYoung_82
      have e9 : cgV lk tc = (lkB (lkB lk tc.1) 3, rcT tc (blw lk tc.1).toNat 1 (blw (lkB lk tc.1) 3)) := (if_neg (by omega)).trans (if_pos (by omega))
      rw [e9]; exact ⟨hC93, hG83, (fun q hq => by rw [fr29 q (by omega), fr26 q (by omega), fr4 q (by omega)]), hz⟩
  · refine lv_aload_n E.1 E.2.1 dX0_changeYoung_19 rfl (lv_at hl 3 rfl) ?_
    refine lv_iload_n E.1 E.2.1 dX0_changeYoung_20 rfl (lv_at hl 1 rfl) ?_
    refine lv_iconst (v := iI 0) E.1 E.2.1 dX0_changeYoung_21 (by decide) ?_
    refine lv_aload_n E.1 E.2.1 dX0_changeYoung_22 rfl (lv_at hl 2 rfl) ?_
    refine lv_sipush (v := iI 199) E.1 E.2.1 dX0_changeYoung_23 (by decide) ?_
    obtain ⟨tl108, hD108⟩ := hG9.2.2.1
    have hlu108 := lkB_b (m := 199) hlu9
    have hbw108 := blw_b (m := 199) hlu9 (by omega)
    refine fw_cV (As := [.int (iI 199)]) (rest := [.int (iI 0), .int (iI (↑(blw lk tc.1).toNat)), .ref y]) E hK hH hl hG9.d fc_X1 fL_X1_below ql_RX0_83 qi_yX1_below qv_yX1_below (k_below l G _ _ (go + 1) tl108 (lkB lk (tc.1)) 199 hD108 hlu9 (by omega)) rfl rfl (Nat.le_of_ble_eq_true rfl) ⟨Nat.le_of_ble_eq_true rfl, Nat.le_of_ble_eq_true rfl⟩ ⟨Nat.le_of_ble_eq_true rfl, Nat.le_of_ble_eq_true rfl⟩ dX0_changeYoung_26 (fw_ki fun r32 M31 H1 locs1 hp30 hH hz1 => ?_)
    obtain ⟨rfl, hdr108, hfr, hz2⟩ := hp30
    have hG108 := hG9.dr hdr108 hfr
    replace hz := hz2.trans hz
    clear hz1 hz2
    have fr33 := hfr
    replace hY := aTw.fr hY (fun q h1 h2 => fr33 q (by omega))
    refine lv_bipush (v := iI 99) E.1 E.2.1 dX0_changeYoung_29 (by decide) ?_
    refine fw_isub E dX0_changeYoung_31 ?_
    refine fw_cV (As := [.int (iI (↑(blw lk tc.1).toNat)), .int (iI 0), .int (iI ((blw (lkB lk (tc.1)) 199) - 99))]) (rest := []) E hK hH hl hY.c fc_X8 fL_X8_write ql_RX0_132 qi_yX8_write qv_yX8_write (k_writeG l G _ _ y tc ((blw lk tc.1).toNat) 0 (blw (lkB lk tc.1) 199 - 99) ((blw (lkB lk (tc.1)) 199) - 99) hY hc (by omega) (by rw [show tc.2.1 (blw lk tc.1).toNat = 0 by omega]; exact kin_0 (by omega)) rfl (by omega)) rfl rfl (Nat.le_of_ble_eq_true rfl) ⟨Nat.le_of_ble_eq_true rfl, Nat.le_of_ble_eq_true rfl⟩ ⟨Nat.le_of_ble_eq_true rfl, Nat.le_of_ble_eq_true rfl⟩ dX0_changeYoung_32 (fw_kv fun M35 H1 locs1 hp34 hH hz1 => ?_)
    obtain ⟨hC120, hfr, hz2⟩ := hp34
    replace hz := hz2.trans hz
    clear hz1 hz2
    have fr36 := hfr
    replace hG108 := gcW.fr hG108 (fun q h1 h2 => fr36 q (by omega))
    refine lv_goto (tgt := 82) E.1 E.2.1 dX0_changeYoung_35 (by decide) ?_
    refine fw_vret E hr hlk hH ?_ dX0_changeYoung_82
    have e9 : cgV lk tc = (lkB (lkB lk tc.1) 199, rcT tc (blw lk tc.1).toNat 0 (blw (lkB lk tc.1) 199 - 99)) := if_pos (by omega)
    rw [e9]; exact ⟨hC120, hG108, (fun q hq => by rw [fr36 q (by omega), fr33 q (by omega), fr4 q (by omega)]), hz⟩
set_option maxHeartbeats 1000000 in
theorem k_hoistYoung (l : Launch) (G : fw_G) (M : fw_M) (N : Nat) (y : Nat) (tc : aT) (go o cn : Nat) (lk gn mi : Int) (T : Nat → aT) (hG : gcW G M go o lk cn gn mi T) (hY : aTw G M y tc) (hc : aOK tc) (hlu : 0 ≤ lk ∧ lk < 10000) (sy : go + 90 - 80 * o ≤ y ∧ y + 5 ≤ go + 170 - 80 * o) : fMet l yX0_hoistYoung cX0_hoistYoung 3 none 3 130 0 0 G M N [.ref (go + 1), .ref y] (fw_pv (fun M1 n1 => aTw G M1 y (hoF lk tc).2 ∧ gcW G M1 go o (hoF lk tc).1 cn gn mi T ∧ (∀ q, q ≠ go + 1 ∧ (q < y ∨ y + 5 ≤ q) → M1 q = M q) ∧ n1 = N)) := by
  refine fw_met RX0 rfl (by decide +kernel) (Nat.le_of_ble_eq_true rfl) ?_
  intro pG e s m args below meth cG ls E hr hlk hnm hK hH hz hl
  obtain ⟨hgb, ho1, hcn⟩ := hG.o1
  have hc1 := hc.1.1
  have hcl := cntF_le tc.2.1 1 tc.1
  have hcr := cnt_root hc.1
  have hq9 := hoF_q hlu hc
  refine lv_aload_n E.1 E.2.1 dX0_hoistYoung_0 rfl (lv_at hl 0 rfl) ?_
  refine lv_aload_n E.1 E.2.1 dX0_hoistYoung_1 rfl (lv_at hl 1 rfl) ?_
  refine lv_iconst (v := iI 1) E.1 E.2.1 dX0_hoistYoung_2 (by decide) ?_
  refine fw_cV (As := [.int (iI 1)]) (rest := [.ref (go + 1)]) E hK hH hl hY.c fc_X8 fL_X8_countOfType ql_RX0_114 qi_yX8_countOfType qv_yX8_countOfType (k_countOfType l G _ _ y tc.1 tc.2.1 tc.2.2.1 tc.2.2.2 hY hc.1 1 (by omega) (by omega)) rfl rfl (Nat.le_of_ble_eq_true rfl) ⟨Nat.le_of_ble_eq_true rfl, Nat.le_of_ble_eq_true rfl⟩ ⟨Nat.le_of_ble_eq_true rfl, Nat.le_of_ble_eq_true rfl⟩ dX0_hoistYoung_3 (fw_ki fun r3 M2 H1 locs1 hp1 hH hz1 => ?_)
  obtain ⟨rfl, hM9, hz2⟩ := hp1
  replace hz := hz2.trans hz
  clear hz1 hz2
  rw [hM9] at hH
  obtain ⟨tl17, hD17⟩ := hG.2.2.1
  have hlu17 := lkB_b (m := (cntF tc.2.1 1 tc.1)) hlu
  have hbw17 := blw_b (m := (cntF tc.2.1 1 tc.1)) hlu (by omega)
  refine fw_cV (As := [.int (iI (↑(cntF tc.2.1 1 tc.1)))]) (rest := []) E hK hH hl hG.d fc_X1 fL_X1_below ql_RX0_83 qi_yX1_below qv_yX1_below (k_below l G _ _ (go + 1) tl17 lk (cntF tc.2.1 1 tc.1) hD17 hlu (by omega)) rfl rfl (Nat.le_of_ble_eq_true rfl) ⟨Nat.le_of_ble_eq_true rfl, Nat.le_of_ble_eq_true rfl⟩ ⟨Nat.le_of_ble_eq_true rfl, Nat.le_of_ble_eq_true rfl⟩ dX0_hoistYoung_6 (fw_ki fun r6 M5 H1 locs1 hp4 hH hz1 => ?_)
  obtain ⟨rfl, hdr17, hfr, hz2⟩ := hp4
  have hG17 := hG.dr hdr17 hfr
  replace hz := hz2.trans hz
  clear hz1 hz2
  have fr7 := hfr
  replace hY := aTw.fr hY (fun q h1 h2 => fr7 q (by omega))
  refine fw_cv (y := iI (↑(blw lk (cntF tc.2.1 1 tc.1)).toNat)) (congrArg iI (by omega)) ?_
  refine lv_istore_n (lv' := [(2, .int (iI (↑(blw lk (cntF tc.2.1 1 tc.1)).toNat))), (0, .ref (go + 1)), (1, .ref y)]) E.1 E.2.1 dX0_hoistYoung_9 rfl hl (by decide) rfl (fun ls hl => ?_)
  refine lv_aload_n E.1 E.2.1 dX0_hoistYoung_10 rfl (lv_at hl 2 rfl) ?_
  refine lv_iconst (v := iI 0) E.1 E.2.1 dX0_hoistYoung_11 (by decide) ?_
  refine lv_aload_n E.1 E.2.1 dX0_hoistYoung_12 rfl (lv_at hl 2 rfl) ?_
  refine lv_iconst (v := iI 1) E.1 E.2.1 dX0_hoistYoung_13 (by decide) ?_
  refine lv_iload_n E.1 E.2.1 dX0_hoistYoung_14 rfl (lv_at hl 0 rfl) ?_
  refine fw_cV (As := [.int (iI 1), .int (iI (↑(blw lk (cntF tc.2.1 1 tc.1)).toNat))]) (rest := [.int (iI 0), .ref y]) E hK hH hl hY.c fc_X8 fL_X8_placeOfType ql_RX0_121 qi_yX8_placeOfType qv_yX8_placeOfType (k_placeOfType l G _ _ y tc.1 tc.2.1 tc.2.2.1 tc.2.2.2 hY hc.1 1 ((blw lk (cntF tc.2.1 1 tc.1)).toNat) (by omega) (by omega) (by omega)) rfl rfl (Nat.le_of_ble_eq_true rfl) ⟨Nat.le_of_ble_eq_true rfl, Nat.le_of_ble_eq_true rfl⟩ ⟨Nat.le_of_ble_eq_true rfl, Nat.le_of_ble_eq_true rfl⟩ dX0_hoistYoung_15 (fw_ki fun r10 M9 H1 locs1 hp8 hH hz1 => ?_)
  obtain ⟨rfl, hM9, hz2⟩ := hp8
  replace hz := hz2.trans hz
  clear hz1 hz2
  rw [hM9] at hH
  refine fw_cV (As := [.int (iI 0), .int (iI (↑(plF tc.2.1 1 ((blw lk (cntF tc.2.1 1 tc.1)).toNat) tc.1)))]) (rest := []) E hK hH hl hY.c fc_X8 fL_X8_keepPart ql_RX0_147 qi_yX8_keepPart qv_yX8_keepPart (k_keepG l G _ _ y tc (plF tc.2.1 1 ((blw lk (cntF tc.2.1 1 tc.1)).toNat) tc.1) hY hc.1 hq9.1 hq9.2) rfl rfl (Nat.le_of_ble_eq_true rfl) ⟨Nat.le_of_ble_eq_true rfl, Nat.le_of_ble_eq_true rfl⟩ ⟨Nat.le_of_ble_eq_true rfl, Nat.le_of_ble_eq_true rfl⟩ dX0_hoistYoung_18 (fw_kv fun M12 H1 locs1 hp11 hH hz1 => ?_)
  obtain ⟨hC39, hfr, hz2⟩ := hp11
  replace hz := hz2.trans hz
  clear hz1 hz2
  have fr13 := hfr
  replace hG17 := gcW.fr hG17 (fun q h1 h2 => fr13 q (by omega))
  refine fw_vret E hr hlk hH ?_ dX0_hoistYoung_21
  exact ⟨hC39, hG17, (fun q hq => by rw [fr13 q (by omega), fr7 q (by omega)]), hz⟩

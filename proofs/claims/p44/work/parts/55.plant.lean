theorem gcW.lk {G : fw_G} {M M1 : fw_M} {go o : Nat} {lk lk1 : Int} {cn : Nat} {gn mi : Int} {T : Nat → aT} (h : gcW G M go o lk cn gn mi T) (hd : M1 (go + 1) = some (.inr (1, [.ref (go + 1 + 1), .int (iI 0), .int (iI lk1)]))) (hf : ∀ q, q ≠ go + 1 → M1 q = M q) : gcW G M1 go o lk1 cn gn mi T := by
  obtain ⟨tl, h1, h2, h3⟩ := h.2.2.1
  exact h.dr (tl := tl) ⟨h1, hd, (hf _ (by omega)).trans h3⟩ hf
def adJ (j : aJ) (x y z w : Int) : aJ := (zup j.1 j.2.2.2.2.1 x, zup j.2.1 j.2.2.2.2.1 y, zup j.2.2.1 j.2.2.2.2.1 z, zup j.2.2.2.1 j.2.2.2.2.1 w, j.2.2.2.2.1 + 1, j.2.2.2.2.2.1, j.2.2.2.2.2.2)
theorem adJ_ok {j : aJ} {x y z w : Int} (h : jOK j) (hc : j.2.2.2.2.1 < 12) (hx : -99 ≤ x ∧ x ≤ 99) (hy : -99 ≤ y ∧ y ≤ 99) (hz : -99 ≤ z ∧ z ≤ 99) (hw : -9999 ≤ w ∧ w ≤ 9999) : jOK (adJ j x y z w) := by
  obtain ⟨h1, h2, h3, h4⟩ := h
  refine ⟨hc, fun k hk => ?_, h3, h4⟩
  have hk2 : k < j.2.2.2.2.1 + 1 := hk
  show (-99 ≤ zup j.1 j.2.2.2.2.1 x k ∧ zup j.1 j.2.2.2.2.1 x k ≤ 99) ∧ (-99 ≤ zup j.2.1 j.2.2.2.2.1 y k ∧ zup j.2.1 j.2.2.2.2.1 y k ≤ 99) ∧ (-99 ≤ zup j.2.2.1 j.2.2.2.2.1 z k ∧ zup j.2.2.1 j.2.2.2.2.1 z k ≤ 99) ∧ (-9999 ≤ zup j.2.2.2.1 j.2.2.2.2.1 w k ∧ zup j.2.2.2.1 j.2.2.2.2.1 w k ≤ 9999)
  by_cases e : k = j.2.2.2.2.1
  · rw [e, zup_eq, zup_eq, zup_eq, zup_eq]; exact ⟨hx, hy, hz, hw⟩
  · rw [zup_ne e, zup_ne e, zup_ne e, zup_ne e]; exact h2 k (by omega)
theorem setT_add {cn : Nat} {T : Nat → aT} {t : aT} (h : ∀ k, k < cn → aOK (T k)) (ht : aOK t) : ∀ k, k < cn + 1 → aOK (setT T cn t k) := fun k hk => by
  unfold setT
  by_cases e : k = cn
  · rw [if_pos e]; exact ht
  · rw [if_neg e]; exact h k (by omega)
theorem b_setLuck (l : Launch) (G : fw_G) (M : fw_M) (N : Nat) (b o cn : Nat) (lk gn mi : Int) (T : Nat → aT) (j : aJ) (ra : aR) (hW : bnR G M b o cn lk gn mi T j ra) (hO : bnO cn lk T j ra) (z : Int) (hz9 : 0 ≤ z ∧ z ≤ 9999) : fMet l yX9_setLuck cX9_setLuck 3 (some .int) 1 40 0 0 G M N [.ref b, .int (iI z)] (fw_pi (fun r M1 n1 => bnR G M1 b o cn z gn mi T j ra ∧ (∀ q, q < b + 9 ∨ b + 378 ≤ q → M1 q = M q) ∧ n1 = N)) := by
  refine fw_met RX9 rfl (by decide +kernel) (Nat.le_of_ble_eq_true rfl) ?_
  intro pG e s m args below meth cG ls E hr hlk hnm hK hH hz hl
  obtain ⟨hbn, hJ, hK1, hB, hQ, ⟨rs6, hS6⟩, ⟨ip5, rs5, hR5⟩, hG, hY, hX, hZ⟩ := hW
  obtain ⟨hj, hr9, hlu, hTk⟩ := hO
  obtain ⟨hgb, ho1, hcn⟩ := hG.o1
  refine lv_iload_n E.1 E.2.1 dX9_setLuck_0 rfl (lv_at hl 1 rfl) ?_
  refine fw_if_lt (tgt := 11) E dX9_setLuck_1 (by decide) (by omega) (by omega) (fun c1 => ?_) (fun c1 => ?_)
  · exfalso; omega
  · refine lv_iload_n E.1 E.2.1 dX9_setLuck_4 rfl (lv_at hl 1 rfl) ?_
    refine lv_sipush (v := iI 10000) E.1 E.2.1 dX9_setLuck_5 (by decide) ?_
    refine fw_icmp_lt (tgt := 21) E dX9_setLuck_8 (by decide) (by omega) (by omega) (by omega) (by omega) (fun c2 => ?_) (fun c2 => ?_)
    · refine lv_aload_n E.1 E.2.1 dX9_setLuck_21 rfl (lv_at hl 0 rfl) ?_
      refine fw_get E hK hH hbn.2 fc_X9 6 (by decide) ql_RX9_54 rfl rfl dX9_setLuck_22 ?_
      refine fw_getN E hK hH hG.2.1 fc_X2 0 (by decide) ql_RX9_205 rfl rfl dX9_setLuck_25 ?_
      refine fw_getN E hK hH hG.d fc_X1 2 (by decide) ql_RX9_209 rfl rfl dX9_setLuck_28 ?_
      refine lv_istore_n (lv' := [(2, .int (iI lk)), (0, .ref b), (1, .int (iI z))]) E.1 E.2.1 dX9_setLuck_31 rfl hl (by decide) rfl (fun ls hl => ?_)
      refine lv_aload_n E.1 E.2.1 dX9_setLuck_32 rfl (lv_at hl 1 rfl) ?_
      refine fw_get E hK hH hbn.2 fc_X9 6 (by decide) ql_RX9_54 rfl rfl dX9_setLuck_33 ?_
      refine fw_getN E hK hH hG.2.1 fc_X2 0 (by decide) ql_RX9_205 rfl rfl dX9_setLuck_36 ?_
      refine lv_iload_n E.1 E.2.1 dX9_setLuck_39 rfl (lv_at hl 2 rfl) ?_
      refine fw_putN E hK hH (by omega) hG.d fc_X1 2 (by decide) ql_RX9_209 rfl rfl rfl rfl (Nat.le_of_ble_eq_true rfl) dX9_setLuck_40 (fun H1 locs1 hH hz1 => ?_)
      replace hz := hz1.trans hz; clear hz1
      obtain ⟨M3, hM4⟩ : ∃ MX, MX = fw_up M (b + 34) (.inr (1, [.ref (b + 35), .int (iI 0), .int (iI z)])) := ⟨_, rfl⟩
      replace hH := fw_H.nm hM4 hH
      have fr5 : ∀ q, q ≠ (b + 34) → M3 q = M q := fun q h => by rw [hM4]; exact fw_up_ne h
      replace hbn := bnAt.fr hbn (fun q h1 h2 => fr5 q (by omega))
      replace hJ := jW.fr hJ (fun q h1 h2 => fr5 q (by omega))
      replace hK1 := rnW.fr hK1 (fun q h1 h2 => fr5 q (by omega))
      replace hB := brW.fr hB (fun q h1 h2 => fr5 q (by omega))
      replace hQ := rnW.fr hQ (fun q h1 h2 => fr5 q (by omega))
      replace hS6 := siAt.fr hS6 (fun q h1 h2 => fr5 q (by omega))
      replace hR5 := rkAt.fr hR5 (fun q h1 h2 => fr5 q (by omega))
      replace hY := gyW.fr hY (fun q h1 h2 => fr5 q (by omega))
      replace hX := gvX.fr hX (fun q h1 h2 => fr5 q (by omega))
      replace hZ := tany.fr hZ (fun q h1 h2 => fr5 q (by omega))
      have hob23 : M3 (b + 34) = some (.inr (1, [.ref (b + 35), .int (iI 0), .int (iI z)])) := by rw [hM4]; exact fw_up_eq
      have hG23 := hG.lk hob23 fr5
      refine lv_iload_n E.1 E.2.1 dX9_setLuck_43 rfl (lv_at hl 0 rfl) ?_
      refine fw_iret E hr hlk hH ?_ dX9_setLuck_44
      exact ⟨⟨hbn, hJ, hK1, hB, hQ, ⟨_, hS6⟩, ⟨_, _, hR5⟩, hG23, hY.z, hX, hZ⟩, (fun q hq => by rw [fr5 q (by omega)]), hz⟩
    · exfalso; omega
theorem b_setChoosing (l : Launch) (G : fw_G) (M : fw_M) (N : Nat) (b o cn : Nat) (lk gn mi : Int) (T : Nat → aT) (j : aJ) (ra : aR) (hW : bnR G M b o cn lk gn mi T j ra) (hO : bnO cn lk T j ra) (to el : Nat) (ht : 1 ≤ to ∧ to ≤ 5) (he9 : el ≤ 4) : fMet l yX9_setChoosing cX9_setChoosing 4 (some .int) 1 40 0 0 G M N [.ref b, .int (iI ↑to), .int (iI ↑el)] (fw_pi (fun r M1 n1 => bnR G M1 b o cn lk gn mi T j (ra.1, ra.2.1, ra.2.2.1, to, el) ∧ (∀ q, q < b + 9 ∨ b + 378 ≤ q → M1 q = M q) ∧ n1 = N)) := by
  refine fw_met RX9 rfl (by decide +kernel) (Nat.le_of_ble_eq_true rfl) ?_
  intro pG e s m args below meth cG ls E hr hlk hnm hK hH hz hl
  obtain ⟨hbn, hJ, hK1, hB, hQ, ⟨rs6, hS6⟩, ⟨ip5, rs5, hR5⟩, hG, hY, hX, hZ⟩ := hW
  obtain ⟨hj, hr9, hlu, hTk⟩ := hO
  obtain ⟨hgb, ho1, hcn⟩ := hG.o1
  have hB0 := hB.2
  have hBb := hB.1
  refine lv_iload_n E.1 E.2.1 dX9_setChoosing_0 rfl (lv_at hl 1 rfl) ?_
  refine lv_iconst (v := iI 1) E.1 E.2.1 dX9_setChoosing_1 (by decide) ?_
  refine fw_icmp_lt (tgt := 19) E dX9_setChoosing_2 (by decide) (by omega) (by omega) (by omega) (by omega) (fun c1 => ?_) (fun c1 => ?_)
  · exfalso; omega
  · refine lv_iload_n E.1 E.2.1 dX9_setChoosing_5 rfl (lv_at hl 1 rfl) ?_
    refine lv_iconst (v := iI 5) E.1 E.2.1 dX9_setChoosing_6 (by decide) ?_
    refine fw_icmp_gt (tgt := 19) E dX9_setChoosing_7 (by decide) (by omega) (by omega) (by omega) (by omega) (fun c2 => ?_) (fun c2 => ?_)
    · exfalso; omega
    · refine lv_iload_n E.1 E.2.1 dX9_setChoosing_10 rfl (lv_at hl 2 rfl) ?_
      refine fw_if_lt (tgt := 19) E dX9_setChoosing_11 (by decide) (by omega) (by omega) (fun c3 => ?_) (fun c3 => ?_)
      · exfalso; omega
      · refine lv_iload_n E.1 E.2.1 dX9_setChoosing_14 rfl (lv_at hl 2 rfl) ?_
        refine lv_iconst (v := iI 4) E.1 E.2.1 dX9_setChoosing_15 (by decide) ?_
        refine fw_icmp_le (tgt := 29) E dX9_setChoosing_16 (by decide) (by omega) (by omega) (by omega) (by omega) (fun c4 => ?_) (fun c4 => ?_)
        · refine lv_aload_n E.1 E.2.1 dX9_setChoosing_29 rfl (lv_at hl 0 rfl) ?_
          refine fw_get E hK hH hbn.2 fc_X9 3 (by decide) ql_RX9_33 rfl rfl dX9_setChoosing_30 ?_
          refine fw_getN E hK hH hB0 fc_X0 4 (by decide) ql_RX9_197 rfl rfl dX9_setChoosing_33 ?_
          refine lv_istore_n (lv' := [(3, .int (iI (↑ra.2.2.2.1))), (0, .ref b), (1, .int (iI ↑to)), (2, .int (iI ↑el))]) E.1 E.2.1 dX9_setChoosing_36 rfl hl (by decide) rfl (fun ls hl => ?_)
          refine lv_aload_n E.1 E.2.1 dX9_setChoosing_37 rfl (lv_at hl 1 rfl) ?_
          refine fw_get E hK hH hbn.2 fc_X9 3 (by decide) ql_RX9_33 rfl rfl dX9_setChoosing_38 ?_
          refine lv_iload_n E.1 E.2.1 dX9_setChoosing_41 rfl (lv_at hl 2 rfl) ?_
          refine fw_putN E hK hH (by omega) hB0 fc_X0 4 (by decide) ql_RX9_197 rfl rfl rfl rfl (Nat.le_of_ble_eq_true rfl) dX9_setChoosing_42 (fun H1 locs1 hH hz1 => ?_)
          replace hz := hz1.trans hz; clear hz1
          obtain ⟨M5, hM6⟩ : ∃ MX, MX = fw_up M (b + 21) (.inr (0, [.ref (b + 22), .int (iI (↑ra.1)), .int (iI (↑ra.2.1)), .int (iI (↑ra.2.2.1)), .int (iI ↑to), .int (iI (↑ra.2.2.2.2))])) := ⟨_, rfl⟩
          replace hH := fw_H.nm hM6 hH
          have fr7 : ∀ q, q ≠ (b + 21) → M5 q = M q := fun q h => by rw [hM6]; exact fw_up_ne h
          replace hbn := bnAt.fr hbn (fun q h1 h2 => fr7 q (by omega))
          replace hJ := jW.fr hJ (fun q h1 h2 => fr7 q (by omega))
          replace hK1 := rnW.fr hK1 (fun q h1 h2 => fr7 q (by omega))
          replace hQ := rnW.fr hQ (fun q h1 h2 => fr7 q (by omega))
          replace hS6 := siAt.fr hS6 (fun q h1 h2 => fr7 q (by omega))
          replace hR5 := rkAt.fr hR5 (fun q h1 h2 => fr7 q (by omega))
          replace hG := gcW.fr hG (fun q h1 h2 => fr7 q (by omega))
          replace hY := gyW.fr hY (fun q h1 h2 => fr7 q (by omega))
          replace hX := gvX.fr hX (fun q h1 h2 => fr7 q (by omega))
          replace hZ := tany.fr hZ (fun q h1 h2 => fr7 q (by omega))
          have hB0 : M5 (b + 21) = some (.inr (0, [.ref (b + 22), .int (iI (↑ra.1)), .int (iI (↑ra.2.1)), .int (iI (↑ra.2.2.1)), .int (iI ↑to), .int (iI (↑ra.2.2.2.2))])) := by rw [hM6]; exact fw_up_eq
          refine lv_aload_n E.1 E.2.1 dX9_setChoosing_45 rfl (lv_at hl 1 rfl) ?_
          refine fw_get E hK hH hbn.2 fc_X9 3 (by decide) ql_RX9_33 rfl rfl dX9_setChoosing_46 ?_
          refine lv_iload_n E.1 E.2.1 dX9_setChoosing_49 rfl (lv_at hl 3 rfl) ?_
          refine fw_putN E hK hH (by omega) hB0 fc_X0 5 (by decide) ql_RX9_200 rfl rfl rfl rfl (Nat.le_of_ble_eq_true rfl) dX9_setChoosing_50 (fun H1 locs1 hH hz1 => ?_)
          replace hz := hz1.trans hz; clear hz1
          obtain ⟨M8, hM9⟩ : ∃ MX, MX = fw_up M5 (b + 21) (.inr (0, [.ref (b + 22), .int (iI (↑ra.1)), .int (iI (↑ra.2.1)), .int (iI (↑ra.2.2.1)), .int (iI ↑to), .int (iI ↑el)])) := ⟨_, rfl⟩
          replace hH := fw_H.nm hM9 hH
          have fr10 : ∀ q, q ≠ (b + 21) → M8 q = M5 q := fun q h => by rw [hM9]; exact fw_up_ne h
          replace hbn := bnAt.fr hbn (fun q h1 h2 => fr10 q (by omega))
          replace hJ := jW.fr hJ (fun q h1 h2 => fr10 q (by omega))
          replace hK1 := rnW.fr hK1 (fun q h1 h2 => fr10 q (by omega))
          replace hQ := rnW.fr hQ (fun q h1 h2 => fr10 q (by omega))
          replace hS6 := siAt.fr hS6 (fun q h1 h2 => fr10 q (by omega))
          replace hR5 := rkAt.fr hR5 (fun q h1 h2 => fr10 q (by omega))
          replace hG := gcW.fr hG (fun q h1 h2 => fr10 q (by omega))
          replace hY := gyW.fr hY (fun q h1 h2 => fr10 q (by omega))
          replace hX := gvX.fr hX (fun q h1 h2 => fr10 q (by omega))
          replace hZ := tany.fr hZ (fun q h1 h2 => fr10 q (by omega))
          have hB0 : M8 (b + 21) = some (.inr (0, [.ref (b + 22), .int (iI (↑ra.1)), .int (iI (↑ra.2.1)), .int (iI (↑ra.2.2.1)), .int (iI ↑to), .int (iI ↑el)])) := by rw [hM9]; exact fw_up_eq
          refine lv_iload_n E.1 E.2.1 dX9_setChoosing_53 rfl (lv_at hl 0 rfl) ?_
          have hB9 : brW G M8 (b + 21) (ra.1, ra.2.1, ra.2.2.1, to, el) := ⟨hB.1, hB0⟩
          refine fw_iret E hr hlk hH ?_ dX9_setChoosing_54
          exact ⟨⟨hbn, hJ, hK1, hB9, hQ, ⟨_, hS6⟩, ⟨_, _, hR5⟩, hG, hY.z, hX, hZ⟩, (fun q hq => by rw [fr10 q (by omega), fr7 q (by omega)]), hz⟩
        · exfalso; omega
theorem b_setWay (l : Launch) (G : fw_G) (M : fw_M) (N : Nat) (b o cn : Nat) (lk gn mi : Int) (T : Nat → aT) (j : aJ) (ra : aR) (hW : bnR G M b o cn lk gn mi T j ra) (hO : bnO cn lk T j ra) (wy wt : Int) (h1w : 0 ≤ wy ∧ wy ≤ 2) (h2w : 0 ≤ wt ∧ wt ≤ 99) : fMet l yX9_setWay cX9_setWay 4 (some .int) 1 40 0 0 G M N [.ref b, .int (iI wy), .int (iI wt)] (fw_pi (fun r M1 n1 => bnR G M1 b o cn lk gn mi T (j.1, j.2.1, j.2.2.1, j.2.2.2.1, j.2.2.2.2.1, wy, wt) ra ∧ (∀ q, q < b + 9 ∨ b + 378 ≤ q → M1 q = M q) ∧ n1 = N)) := by
  refine fw_met RX9 rfl (by decide +kernel) (Nat.le_of_ble_eq_true rfl) ?_
  intro pG e s m args below meth cG ls E hr hlk hnm hK hH hz hl
  obtain ⟨hbn, hJ, hK1, hB, hQ, ⟨rs6, hS6⟩, ⟨ip5, rs5, hR5⟩, hG, hY, hX, hZ⟩ := hW
  obtain ⟨hj, hr9, hlu, hTk⟩ := hO
  obtain ⟨hgb, ho1, hcn⟩ := hG.o1
  obtain ⟨ipj, rsj, hbj, w0, wR, w4, w5, w6, w7⟩ := hJ
  refine lv_iload_n E.1 E.2.1 dX9_setWay_0 rfl (lv_at hl 1 rfl) ?_
  refine fw_if_lt (tgt := 19) E dX9_setWay_1 (by decide) (by omega) (by omega) (fun c1 => ?_) (fun c1 => ?_)
  · exfalso; omega
  · refine lv_iload_n E.1 E.2.1 dX9_setWay_4 rfl (lv_at hl 1 rfl) ?_
    refine lv_iconst (v := iI 2) E.1 E.2.1 dX9_setWay_5 (by decide) ?_
    refine fw_icmp_gt (tgt := 19) E dX9_setWay_6 (by decide) (by omega) (by omega) (by omega) (by omega) (fun c2 => ?_) (fun c2 => ?_)
    · exfalso; omega
    · refine lv_iload_n E.1 E.2.1 dX9_setWay_9 rfl (lv_at hl 2 rfl) ?_
      refine fw_if_lt (tgt := 19) E dX9_setWay_10 (by decide) (by omega) (by omega) (fun c3 => ?_) (fun c3 => ?_)
      · exfalso; omega
      · refine lv_iload_n E.1 E.2.1 dX9_setWay_13 rfl (lv_at hl 2 rfl) ?_
        refine lv_bipush (v := iI 99) E.1 E.2.1 dX9_setWay_14 (by decide) ?_
        refine fw_icmp_le (tgt := 29) E dX9_setWay_16 (by decide) (by omega) (by omega) (by omega) (by omega) (fun c4 => ?_) (fun c4 => ?_)
        · refine lv_aload_n E.1 E.2.1 dX9_setWay_29 rfl (lv_at hl 0 rfl) ?_
          refine fw_get E hK hH hbn.2 fc_X9 1 (by decide) ql_RX9_19 rfl rfl dX9_setWay_30 ?_
          refine fw_getN E hK hH w0 fc_X3 6 (by decide) ql_RX9_135 rfl rfl dX9_setWay_33 ?_
          refine lv_istore_n (lv' := [(3, .int (iI j.2.2.2.2.2.1)), (0, .ref b), (1, .int (iI wy)), (2, .int (iI wt))]) E.1 E.2.1 dX9_setWay_36 rfl hl (by decide) rfl (fun ls hl => ?_)
          refine lv_aload_n E.1 E.2.1 dX9_setWay_37 rfl (lv_at hl 1 rfl) ?_
          refine fw_get E hK hH hbn.2 fc_X9 1 (by decide) ql_RX9_19 rfl rfl dX9_setWay_38 ?_
          refine lv_iload_n E.1 E.2.1 dX9_setWay_41 rfl (lv_at hl 2 rfl) ?_
          refine fw_putN E hK hH (by omega) w0 fc_X3 6 (by decide) ql_RX9_135 rfl rfl rfl rfl (Nat.le_of_ble_eq_true rfl) dX9_setWay_42 (fun H1 locs1 hH hz1 => ?_)
          replace hz := hz1.trans hz; clear hz1
          obtain ⟨M5, hM6⟩ : ∃ MX, MX = fw_up M (b + 9) (.inr (3, [.ref (b + 10), .ref (b + 13), .ref (b + 14), .ref (b + 15), .ref (b + 16), .int (iI (↑j.2.2.2.2.1)), .int (iI wy), .int (iI j.2.2.2.2.2.2)])) := ⟨_, rfl⟩
          replace hH := fw_H.nm hM6 hH
          have fr7 : ∀ q, q ≠ (b + 9) → M5 q = M q := fun q h => by rw [hM6]; exact fw_up_ne h
          replace hbn := bnAt.fr hbn (fun q h1 h2 => fr7 q (by omega))
          replace hK1 := rnW.fr hK1 (fun q h1 h2 => fr7 q (by omega))
          replace hB := brW.fr hB (fun q h1 h2 => fr7 q (by omega))
          replace hQ := rnW.fr hQ (fun q h1 h2 => fr7 q (by omega))
          replace hS6 := siAt.fr hS6 (fun q h1 h2 => fr7 q (by omega))
          replace hR5 := rkAt.fr hR5 (fun q h1 h2 => fr7 q (by omega))
          replace hG := gcW.fr hG (fun q h1 h2 => fr7 q (by omega))
          replace hY := gyW.fr hY (fun q h1 h2 => fr7 q (by omega))
          replace hX := gvX.fr hX (fun q h1 h2 => fr7 q (by omega))
          replace hZ := tany.fr hZ (fun q h1 h2 => fr7 q (by omega))
          replace wR := rkAt.fr wR (fun q h1 h2 => fr7 q (by omega))
          replace w4 : M5 (b + 13) = some (fI G 12 (fun j0 => iI (j.1 j0))) := (fr7 _ (by omega)).trans w4
          replace w5 : M5 (b + 14) = some (fI G 12 (fun j0 => iI (j.2.1 j0))) := (fr7 _ (by omega)).trans w5
          replace w6 : M5 (b + 15) = some (fI G 12 (fun j0 => iI (j.2.2.1 j0))) := (fr7 _ (by omega)).trans w6
          replace w7 : M5 (b + 16) = some (fI G 12 (fun j0 => iI (j.2.2.2.1 j0))) := (fr7 _ (by omega)).trans w7
          have w0 : M5 (b + 9) = some (.inr (3, [.ref (b + 10), .ref (b + 13), .ref (b + 14), .ref (b + 15), .ref (b + 16), .int (iI (↑j.2.2.2.2.1)), .int (iI wy), .int (iI j.2.2.2.2.2.2)])) := by rw [hM6]; exact fw_up_eq
          refine lv_aload_n E.1 E.2.1 dX9_setWay_45 rfl (lv_at hl 1 rfl) ?_
          refine fw_get E hK hH hbn.2 fc_X9 1 (by decide) ql_RX9_19 rfl rfl dX9_setWay_46 ?_
          refine lv_iload_n E.1 E.2.1 dX9_setWay_49 rfl (lv_at hl 3 rfl) ?_
          refine fw_putN E hK hH (by omega) w0 fc_X3 7 (by decide) ql_RX9_138 rfl rfl rfl rfl (Nat.le_of_ble_eq_true rfl) dX9_setWay_50 (fun H1 locs1 hH hz1 => ?_)
          replace hz := hz1.trans hz; clear hz1
          obtain ⟨M8, hM9⟩ : ∃ MX, MX = fw_up M5 (b + 9) (.inr (3, [.ref (b + 10), .ref (b + 13), .ref (b + 14), .ref (b + 15), .ref (b + 16), .int (iI (↑j.2.2.2.2.1)), .int (iI wy), .int (iI wt)])) := ⟨_, rfl⟩
          replace hH := fw_H.nm hM9 hH
          have fr10 : ∀ q, q ≠ (b + 9) → M8 q = M5 q := fun q h => by rw [hM9]; exact fw_up_ne h
          replace hbn := bnAt.fr hbn (fun q h1 h2 => fr10 q (by omega))
          replace hK1 := rnW.fr hK1 (fun q h1 h2 => fr10 q (by omega))
          replace hB := brW.fr hB (fun q h1 h2 => fr10 q (by omega))
          replace hQ := rnW.fr hQ (fun q h1 h2 => fr10 q (by omega))
          replace hS6 := siAt.fr hS6 (fun q h1 h2 => fr10 q (by omega))
          replace hR5 := rkAt.fr hR5 (fun q h1 h2 => fr10 q (by omega))
          replace hG := gcW.fr hG (fun q h1 h2 => fr10 q (by omega))
          replace hY := gyW.fr hY (fun q h1 h2 => fr10 q (by omega))
          replace hX := gvX.fr hX (fun q h1 h2 => fr10 q (by omega))
          replace hZ := tany.fr hZ (fun q h1 h2 => fr10 q (by omega))
          replace wR := rkAt.fr wR (fun q h1 h2 => fr10 q (by omega))
          replace w4 : M8 (b + 13) = some (fI G 12 (fun j0 => iI (j.1 j0))) := (fr10 _ (by omega)).trans w4
          replace w5 : M8 (b + 14) = some (fI G 12 (fun j0 => iI (j.2.1 j0))) := (fr10 _ (by omega)).trans w5
          replace w6 : M8 (b + 15) = some (fI G 12 (fun j0 => iI (j.2.2.1 j0))) := (fr10 _ (by omega)).trans w6
          replace w7 : M8 (b + 16) = some (fI G 12 (fun j0 => iI (j.2.2.2.1 j0))) := (fr10 _ (by omega)).trans w7
          have w0 : M8 (b + 9) = some (.inr (3, [.ref (b + 10), .ref (b + 13), .ref (b + 14), .ref (b + 15), .ref (b + 16), .int (iI (↑j.2.2.2.2.1)), .int (iI wy), .int (iI wt)])) := by rw [hM9]; exact fw_up_eq
          refine lv_iload_n E.1 E.2.1 dX9_setWay_53 rfl (lv_at hl 0 rfl) ?_
          have hJ9 : jW G M8 (b + 9) (j.1, j.2.1, j.2.2.1, j.2.2.2.1, j.2.2.2.2.1, wy, wt) := ⟨ipj, rsj, hbj, w0, wR, w4, w5, w6, w7⟩
          refine fw_iret E hr hlk hH ?_ dX9_setWay_54
          exact ⟨⟨hbn, hJ9, hK1, hB, hQ, ⟨_, hS6⟩, ⟨_, _, hR5⟩, hG, hY.z, hX, hZ⟩, (fun q hq => by rw [fr10 q (by omega), fr7 q (by omega)]), hz⟩
        · exfalso; omega
theorem b_addCase (l : Launch) (G : fw_G) (M : fw_M) (N : Nat) (b o cn : Nat) (lk gn mi : Int) (T : Nat → aT) (j : aJ) (ra : aR) (hW : bnR G M b o cn lk gn mi T j ra) (hO : bnO cn lk T j ra) (x y z w : Int) (hx : -99 ≤ x ∧ x ≤ 99) (hy : -99 ≤ y ∧ y ≤ 99) (hz9 : -99 ≤ z ∧ z ≤ 99) (hw : -9999 ≤ w ∧ w ≤ 9999) (hc9 : j.2.2.2.2.1 < 12) : fMet l yX9_addCase cX9_addCase 6 (some .int) 2 90 0 0 G M N [.ref b, .int (iI x), .int (iI y), .int (iI z), .int (iI w)] (fw_pi (fun r M1 n1 => (r = iI ↑j.2.2.2.2.1 ∧ bnR G M1 b o cn lk gn mi T (adJ j x y z w) ra) ∧ (∀ q, q < b + 9 ∨ b + 378 ≤ q → M1 q = M q) ∧ n1 = N)) := by
  refine fw_met RX9 rfl (by decide +kernel) (Nat.le_of_ble_eq_true rfl) ?_
  intro pG e s m args below meth cG ls E hr hlk hnm hK hH hz hl
  obtain ⟨hbn, hJ, hK1, hB, hQ, ⟨rs6, hS6⟩, ⟨ip5, rs5, hR5⟩, hG, hY, hX, hZ⟩ := hW
  obtain ⟨hj, hr9, hlu, hTk⟩ := hO
  obtain ⟨hgb, ho1, hcn⟩ := hG.o1
  refine lv_iload_n E.1 E.2.1 dX9_addCase_0 rfl (lv_at hl 1 rfl) ?_
  refine lv_iload_n E.1 E.2.1 dX9_addCase_1 rfl (lv_at hl 2 rfl) ?_
  refine lv_iload_n E.1 E.2.1 dX9_addCase_2 rfl (lv_at hl 3 rfl) ?_
  refine fw_cS (As := [.int (iI x), .int (iI y), .int (iI z)]) (rest := []) E hK hH hl fL_X9_requireInputs ql_RX9_116 qs_yX9_requireInputs (k_reqInputs l G _ _ x y z (by omega) (by omega) (by omega)) rfl rfl (Nat.le_of_ble_eq_true rfl) ⟨Nat.le_of_ble_eq_true rfl, Nat.le_of_ble_eq_true rfl⟩ ⟨Nat.le_of_ble_eq_true rfl, Nat.le_of_ble_eq_true rfl⟩ dX9_addCase_3 (fw_kv fun M2 H1 locs1 hp1 hH hz1 => ?_)
  obtain ⟨hM9, hz2⟩ := hp1
  replace hz := hz2.trans hz
  clear hz1 hz2
  rw [hM9] at hH
  refine lv_iload E.1 E.2.1 dX9_addCase_6 (lv_at hl 4 rfl) ?_
  refine lv_sipush (v := iI (-9999)) E.1 E.2.1 dX9_addCase_8 (by decide) ?_
  refine fw_icmp_lt (tgt := 22) E dX9_addCase_11 (by decide) (by omega) (by omega) (by omega) (by omega) (fun c3 => ?_) (fun c3 => ?_)
  · exfalso; omega
  · refine lv_iload E.1 E.2.1 dX9_addCase_14 (lv_at hl 4 rfl) ?_
    refine lv_sipush (v := iI 9999) E.1 E.2.1 dX9_addCase_16 (by decide) ?_
    refine fw_icmp_le (tgt := 32) E dX9_addCase_19 (by decide) (by omega) (by omega) (by omega) (by omega) (fun c4 => ?_) (fun c4 => ?_)
    · refine lv_aload_n E.1 E.2.1 dX9_addCase_32 rfl (lv_at hl 0 rfl) ?_
      refine fw_get E hK hH hbn.2 fc_X9 1 (by decide) ql_RX9_19 rfl rfl dX9_addCase_33 ?_
      refine fw_getN E hK hH hJ.c fc_X3 5 (by decide) ql_RX9_125 rfl rfl dX9_addCase_36 ?_
      refine lv_bipush (v := iI 12) E.1 E.2.1 dX9_addCase_39 (by decide) ?_
      refine fw_icmp_lt (tgt := 54) E dX9_addCase_41 (by decide) (by omega) (by omega) (by omega) (by omega) (fun c5 => ?_) (fun c5 => ?_)
      · refine lv_aload_n E.1 E.2.1 dX9_addCase_54 rfl (lv_at hl 0 rfl) ?_
        refine fw_get E hK hH hbn.2 fc_X9 1 (by decide) ql_RX9_19 rfl rfl dX9_addCase_55 ?_
        refine fw_getN E hK hH hJ.c fc_X3 5 (by decide) ql_RX9_125 rfl rfl dX9_addCase_58 ?_
        refine lv_istore (lv' := [(5, .int (iI ↑j.2.2.2.2.1)), (0, .ref b), (1, .int (iI x)), (2, .int (iI y)), (3, .int (iI z)), (4, .int (iI w))]) E.1 E.2.1 dX9_addCase_61 hl (by decide) rfl (fun ls hl => ?_)
        refine lv_aload_n E.1 E.2.1 dX9_addCase_63 rfl (lv_at hl 1 rfl) ?_
        refine fw_get E hK hH hbn.2 fc_X9 1 (by decide) ql_RX9_19 rfl rfl dX9_addCase_64 ?_
        refine lv_iload_n E.1 E.2.1 dX9_addCase_67 rfl (lv_at hl 2 rfl) ?_
        refine lv_iload_n E.1 E.2.1 dX9_addCase_68 rfl (lv_at hl 3 rfl) ?_
        refine lv_iload_n E.1 E.2.1 dX9_addCase_69 rfl (lv_at hl 4 rfl) ?_
        refine lv_iload E.1 E.2.1 dX9_addCase_70 (lv_at hl 5 rfl) ?_
        obtain ⟨ip36, rs36, hJd36⟩ := id hJ
        refine fw_cV (As := [.int (iI x), .int (iI y), .int (iI z), .int (iI w)]) (rest := []) E hK hH hl hJ.c fc_X3 fL_X3_add ql_RX9_130 qi_yX3_add qv_yX3_add (k_judgeAdd l G _ _ (b + 9) j.2.2.2.2.1 ip36 rs36 j.1 j.2.1 j.2.2.1 j.2.2.2.1 j.2.2.2.2.2.1 j.2.2.2.2.2.2 x y z w hJd36 (by omega)) rfl rfl (Nat.le_of_ble_eq_true rfl) ⟨Nat.le_of_ble_eq_true rfl, Nat.le_of_ble_eq_true rfl⟩ ⟨Nat.le_of_ble_eq_true rfl, Nat.le_of_ble_eq_true rfl⟩ dX9_addCase_72 (fw_kv fun M7 H1 locs1 hp6 hH hz1 => ?_)
        obtain ⟨hJe36, hfr, hz2⟩ := hp6
        rw [show ((↑j.2.2.2.2.1 : Int) + 1) = ↑(j.2.2.2.2.1 + 1) by omega] at hJe36
        have hJ36 : jW G M7 (b + 9) (adJ j x y z w) := ⟨ip36, rs36, hJe36⟩
        replace hz := hz2.trans hz
        clear hz1 hz2
        have fr8 := hfr
        replace hbn := bnAt.fr hbn (fun q h1 h2 => fr8 q (by omega))
        replace hK1 := rnW.fr hK1 (fun q h1 h2 => fr8 q (by omega))
        replace hB := brW.fr hB (fun q h1 h2 => fr8 q (by omega))
        replace hQ := rnW.fr hQ (fun q h1 h2 => fr8 q (by omega))
        replace hS6 := siAt.fr hS6 (fun q h1 h2 => fr8 q (by omega))
        replace hR5 := rkAt.fr hR5 (fun q h1 h2 => fr8 q (by omega))
        replace hG := gcW.fr hG (fun q h1 h2 => fr8 q (by omega))
        replace hY := gyW.fr hY (fun q h1 h2 => fr8 q (by omega))
        replace hX := gvX.fr hX (fun q h1 h2 => fr8 q (by omega))
        replace hZ := tany.fr hZ (fun q h1 h2 => fr8 q (by omega))
        refine lv_iload E.1 E.2.1 dX9_addCase_75 (lv_at hl 0 rfl) ?_
        refine fw_iret E hr hlk hH ?_ dX9_addCase_77
        exact ⟨⟨rfl, ⟨hbn, hJ36, hK1, hB, hQ, ⟨_, hS6⟩, ⟨_, _, hR5⟩, hG, hY.z, hX, hZ⟩⟩, (fun q hq => by rw [fr8 q (by omega)]), hz⟩
      · exfalso; omega
    · exfalso; omega
theorem b_sketch (l : Launch) (G : fw_G) (M : fw_M) (N : Nat) (b k : Nat) (t : aT) (hbn : bnAt G M b) (hK0 : skT G M (b + 1) t k) (ht : aOK t) (hk : k < t.1) : fMet l yX9_sketch cX9_sketch 3 (some .int) 4 140 0 0 G M N [.ref b, .int (iI (t.2.1 k)), .int (iI (t.2.2.1 k))] (fw_pi (fun r M1 n1 => r = iI ↑(pnN t.1 t.2.2.2 (k + 1)) ∧ skT G M1 (b + 1) t (k + 1) ∧ (∀ q, q < b + 1 ∨ b + 9 ≤ q → M1 q = M q) ∧ n1 = N)) := by
  refine fw_met RX9 rfl (by decide +kernel) (Nat.le_of_ble_eq_true rfl) ?_
  intro pG e s m args below meth cG ls E hr hlk hnm hK hH hz hl
  obtain ⟨cs, vs, ss, hs, nd, lw, lv, hS, hs9, hag⟩ := hK0
  have hnk := ht.1.2.2.2.2.2 k hk
  refine lv_iload_n E.1 E.2.1 dX9_sketch_0 rfl (lv_at hl 1 rfl) ?_
  refine lv_iload_n E.1 E.2.1 dX9_sketch_1 rfl (lv_at hl 2 rfl) ?_
  refine fw_cS (As := [.int (iI (t.2.1 k)), .int (iI (t.2.2.1 k))]) (rest := []) E hK hH hl fL_X9_requireNode ql_RX9_68 qs_yX9_requireNode (k_reqNode l G _ _ (t.2.1 k) (t.2.2.1 k) hnk) rfl rfl (Nat.le_of_ble_eq_true rfl) ⟨Nat.le_of_ble_eq_true rfl, Nat.le_of_ble_eq_true rfl⟩ ⟨Nat.le_of_ble_eq_true rfl, Nat.le_of_ble_eq_true rfl⟩ dX9_sketch_2 (fw_kv fun M2 H1 locs1 hp1 hH hz1 => ?_)
  obtain ⟨hM9, hz2⟩ := hp1
  replace hz := hz2.trans hz
  clear hz1 hz2
  rw [hM9] at hH
  refine lv_aload_n E.1 E.2.1 dX9_sketch_5 rfl (lv_at hl 0 rfl) ?_
  refine fw_get E hK hH hbn.2 fc_X9 0 (by decide) ql_RX9_10 rfl rfl dX9_sketch_6 ?_
  refine lv_iload_n E.1 E.2.1 dX9_sketch_9 rfl (lv_at hl 1 rfl) ?_
  refine fw_cV (As := [.int (iI (t.2.1 k))]) (rest := []) E hK hH hl hS.2.1 fc_X7 fL_X7_accepts ql_RX9_72 qi_yX7_accepts qv_yX7_accepts (k_accepts l G _ _ (b + 1) t.1 k t.2.1 t.2.2.1 t.2.2.2 cs vs ss hs nd lw lv ht.1 hk hS hs9) rfl rfl (Nat.le_of_ble_eq_true rfl) ⟨Nat.le_of_ble_eq_true rfl, Nat.le_of_ble_eq_true rfl⟩ ⟨Nat.le_of_ble_eq_true rfl, Nat.le_of_ble_eq_true rfl⟩ dX9_sketch_10 (fw_ki fun r5 M4 H1 locs1 hp3 hH hz1 => ?_)
  obtain ⟨rfl, hM9, hz2⟩ := hp3
  replace hz := hz2.trans hz
  clear hz1 hz2
  rw [hM9] at hH
  refine fw_if_ne (tgt := 26) E dX9_sketch_13 (by decide) (by omega) (by omega) (fun c6 => ?_) (fun c6 => ?_)
  · refine lv_aload_n E.1 E.2.1 dX9_sketch_26 rfl (lv_at hl 0 rfl) ?_
    refine fw_get E hK hH hbn.2 fc_X9 0 (by decide) ql_RX9_10 rfl rfl dX9_sketch_27 ?_
    refine lv_iload_n E.1 E.2.1 dX9_sketch_30 rfl (lv_at hl 1 rfl) ?_
    refine lv_iload_n E.1 E.2.1 dX9_sketch_31 rfl (lv_at hl 2 rfl) ?_
    refine fw_cV (As := [.int (iI (t.2.1 k)), .int (iI (t.2.2.1 k))]) (rest := []) E hK hH hl hS.2.1 fc_X7 fL_X7_take ql_RX9_83 qi_yX7_take qv_yX7_take (k_take l G _ _ (b + 1) t.1 k t.2.1 t.2.2.1 t.2.2.2 cs vs ss hs nd lw lv ht.1 hk hS hs9) rfl rfl (Nat.le_of_ble_eq_true rfl) ⟨Nat.le_of_ble_eq_true rfl, Nat.le_of_ble_eq_true rfl⟩ ⟨Nat.le_of_ble_eq_true rfl, Nat.le_of_ble_eq_true rfl⟩ dX9_sketch_32 (fw_kv fun M8 H1 locs1 hp7 hH hz1 => ?_)
    obtain ⟨⟨nd1, lw1, hS1, hs1⟩, hfr, hz2⟩ := hp7
    replace hz := hz2.trans hz
    clear hz1 hz2
    have fr9 := hfr
    replace hbn := bnAt.fr hbn (fun q h1 h2 => fr9 q (by omega))
    refine lv_aload_n E.1 E.2.1 dX9_sketch_35 rfl (lv_at hl 0 rfl) ?_
    refine fw_get E hK hH hbn.2 fc_X9 0 (by decide) ql_RX9_10 rfl rfl dX9_sketch_36 ?_
    refine fw_getN E hK hH hS1.2.1 fc_X7 3 (by decide) ql_RX9_86 rfl rfl dX9_sketch_39 ?_
    refine fw_iret E hr hlk hH ?_ dX9_sketch_42
    exact ⟨rfl, ⟨_, _, ss, hs, nd1, lw1, lv, hS1, hs1, fun i hi => by
      by_cases e : i = k
      · rw [e, zup_eq, zup_eq]; exact ⟨rfl, rfl⟩
      · rw [zup_ne e, zup_ne e]; exact hag i (by omega)⟩, (fun q hq => by rw [fr9 q (by omega)]), hz⟩
  · exact absurd c6 (by omega)
theorem b_sketched (l : Launch) (G : fw_G) (M : fw_M) (N : Nat) (b k : Nat) (t : aT) (hbn : bnAt G M b) (hK0 : skT G M (b + 1) t k) (ht : aOK t) : fMet l yX9_sketched cX9_sketched 1 (some .int) 1 40 0 0 G M N [.ref b] (fw_pi (fun r M1 n1 => r = iI ↑k ∧ M1 = M ∧ n1 = N)) := by
  refine fw_met RX9 rfl (by decide +kernel) (Nat.le_of_ble_eq_true rfl) ?_
  intro pG e s m args below meth cG ls E hr hlk hnm hK hH hz hl
  obtain ⟨cs, vs, ss, hs, nd, lw, lv, hS, hs9, hag⟩ := hK0
  obtain ⟨-, k0, k1, -, -⟩ := hS
  refine lv_aload_n E.1 E.2.1 dX9_sketched_0 rfl (lv_at hl 0 rfl) ?_
  refine fw_get E hK hH hbn.2 fc_X9 0 (by decide) ql_RX9_10 rfl rfl dX9_sketched_1 ?_
  refine fw_getN E hK hH k0 fc_X7 0 (by decide) ql_RX9_90 rfl rfl dX9_sketched_4 ?_
  refine fw_getN E hK hH k1.2.1 fc_X8 4 (by decide) ql_RX9_93 rfl rfl dX9_sketched_7 ?_
  refine fw_iret E hr hlk hH ?_ dX9_sketched_10
  exact ⟨rfl, rfl, hz⟩
theorem b_sketchedE (l : Launch) (G : fw_G) (M : fw_M) (N : Nat) (b : Nat) (hbn : bnAt G M b) (hK0 : skE G M (b + 1)) : fMet l yX9_sketched cX9_sketched 1 (some .int) 1 40 0 0 G M N [.ref b] (fw_pi (fun r M1 n1 => r = iI 0 ∧ M1 = M ∧ n1 = N)) := by
  refine fw_met RX9 rfl (by decide +kernel) (Nat.le_of_ble_eq_true rfl) ?_
  intro pG e s m args below meth cG ls E hr hlk hnm hK hH hz hl
  obtain ⟨cs, vs, ss, hs, nd, lw, lv, ⟨-, k0, k1, -, -⟩, -, -⟩ := hK0
  refine lv_aload_n E.1 E.2.1 dX9_sketched_0 rfl (lv_at hl 0 rfl) ?_
  refine fw_get E hK hH hbn.2 fc_X9 0 (by decide) ql_RX9_10 rfl rfl dX9_sketched_1 ?_
  refine fw_getN E hK hH k0 fc_X7 0 (by decide) ql_RX9_90 rfl rfl dX9_sketched_4 ?_
  refine fw_getN E hK hH k1.2.1 fc_X8 4 (by decide) ql_RX9_93 rfl rfl dX9_sketched_7 ?_
  refine fw_iret E hr hlk hH ?_ dX9_sketched_10
  exact ⟨rfl, rfl, hz⟩
theorem b_plant (l : Launch) (G : fw_G) (M : fw_M) (N : Nat) (b o cn : Nat) (lk gn mi : Int) (T : Nat → aT) (j : aJ) (ra : aR) (hW : bnR G M b o cn lk gn mi T j ra) (hO : bnO cn lk T j ra) (t : aT) (hK0 : skT G M (b + 1) t t.1) (ht : aOK t) (hc9 : cn < 16) : fMet l yX9_plant cX9_plant 2 (some .int) 5 160 0 0 G M N [.ref b] (fw_pi (fun r M1 n1 => r = iI ↑cn ∧ bnR G M1 b o (cn + 1) lk gn mi (setT T cn t) j ra ∧ skE G M1 (b + 1) ∧ (∀ q, q < b ∨ b + 378 ≤ q → M1 q = M q) ∧ n1 = N)) := by
  refine fw_met RX9 rfl (by decide +kernel) (Nat.le_of_ble_eq_true rfl) ?_
  intro pG e s m args below meth cG ls E hr hlk hnm hK hH hz hl
  obtain ⟨hbn, hJ, hK1, hB, hQ, ⟨rs6, hS6⟩, ⟨ip5, rs5, hR5⟩, hG, hY, hX, hZ⟩ := hW
  obtain ⟨hj, hr9, hlu, hTk⟩ := hO
  obtain ⟨hgb, ho1, hcn⟩ := hG.o1
  obtain ⟨cs, vs, ss, hs, nd, lw, lv, hS, hs9, hag⟩ := hK0
  have hp0 := pn_end (sp := t.2.2.2) (Nat.le_refl t.1)
  refine lv_aload_n E.1 E.2.1 dX9_plant_0 rfl (lv_at hl 0 rfl) ?_
  refine fw_get E hK hH hbn.2 fc_X9 0 (by decide) ql_RX9_10 rfl rfl dX9_plant_1 ?_
  refine fw_getN E hK hH hS.2.1 fc_X7 3 (by decide) ql_RX9_86 rfl rfl dX9_plant_4 ?_
  refine fw_if_ne (tgt := 22) E dX9_plant_7 (by decide) (by omega) (by omega) (fun c1 => ?_) (fun c1 => ?_)
  · exact absurd c1 (by omega)
  · refine lv_aload_n E.1 E.2.1 dX9_plant_10 rfl (lv_at hl 0 rfl) ?_
    refine fw_get E hK hH hbn.2 fc_X9 6 (by decide) ql_RX9_54 rfl rfl dX9_plant_11 ?_
    refine fw_getN E hK hH hG.2.1 fc_X2 4 (by decide) ql_RX9_99 rfl rfl dX9_plant_14 ?_
    refine lv_bipush (v := iI 16) E.1 E.2.1 dX9_plant_17 (by decide) ?_
    refine fw_icmp_lt (tgt := 32) E dX9_plant_19 (by decide) (by omega) (by omega) (by omega) (by omega) (fun c2 => ?_) (fun c2 => ?_)
    · refine lv_aload_n E.1 E.2.1 dX9_plant_32 rfl (lv_at hl 0 rfl) ?_
      refine fw_get E hK hH hbn.2 fc_X9 6 (by decide) ql_RX9_54 rfl rfl dX9_plant_33 ?_
      refine fw_getN E hK hH hG.2.1 fc_X2 4 (by decide) ql_RX9_99 rfl rfl dX9_plant_36 ?_
      refine lv_istore_n (lv' := [(1, .int (iI ↑cn)), (0, .ref b)]) E.1 E.2.1 dX9_plant_39 rfl hl (by decide) rfl (fun ls hl => ?_)
      refine lv_aload_n E.1 E.2.1 dX9_plant_40 rfl (lv_at hl 1 rfl) ?_
      refine fw_get E hK hH hbn.2 fc_X9 6 (by decide) ql_RX9_54 rfl rfl dX9_plant_41 ?_
      refine lv_aload_n E.1 E.2.1 dX9_plant_44 rfl (lv_at hl 1 rfl) ?_
      refine fw_get E hK hH hbn.2 fc_X9 0 (by decide) ql_RX9_10 rfl rfl dX9_plant_45 ?_
      refine fw_getN E hK hH hS.2.1 fc_X7 0 (by decide) ql_RX9_90 rfl rfl dX9_plant_48 ?_
      refine fw_cV (As := [.ref (b + 2)]) (rest := []) E hK hH hl hG.2.1 fc_X2 fL_X2_add ql_RX9_104 qi_yX2_add qv_yX2_add (k_gadd l G _ _ (b + 33) o cn lk gn mi T hG (b + 2) t cs vs ss hs lv hS.2.2.1 (fun i hi => ⟨(hag i hi).1, (hag i hi).2, trivial⟩) ht.1 hc9 (by omega)) rfl rfl (Nat.le_of_ble_eq_true rfl) ⟨Nat.le_of_ble_eq_true rfl, Nat.le_of_ble_eq_true rfl⟩ ⟨Nat.le_of_ble_eq_true rfl, Nat.le_of_ble_eq_true rfl⟩ dX9_plant_51 (fw_kv fun M4 H1 locs1 hp3 hH hz1 => ?_)
      obtain ⟨hG9, hfr, hz2⟩ := hp3
      replace hz := hz2.trans hz
      clear hz1 hz2
      have fr5 := hfr
      replace hbn := bnAt.fr hbn (fun q h1 h2 => fr5 q (by omega))
      replace hJ := jW.fr hJ (fun q h1 h2 => fr5 q (by omega))
      replace hK1 := rnW.fr hK1 (fun q h1 h2 => fr5 q (by omega))
      replace hB := brW.fr hB (fun q h1 h2 => fr5 q (by omega))
      replace hQ := rnW.fr hQ (fun q h1 h2 => fr5 q (by omega))
      replace hS6 := siAt.fr hS6 (fun q h1 h2 => fr5 q (by omega))
      replace hR5 := rkAt.fr hR5 (fun q h1 h2 => fr5 q (by omega))
      replace hY := gyW.fr hY (fun q h1 h2 => fr5 q (by omega))
      replace hX := gvX.fr hX (fun q h1 h2 => fr5 q (by omega))
      replace hZ := tany.fr hZ (fun q h1 h2 => fr5 q (by omega))
      replace hS := skAt.fr hS (fun q h1 h2 => fr5 q (by omega))
      refine lv_aload_n E.1 E.2.1 dX9_plant_54 rfl (lv_at hl 1 rfl) ?_
      refine fw_get E hK hH hbn.2 fc_X9 0 (by decide) ql_RX9_10 rfl rfl dX9_plant_55 ?_
      refine fw_cV (As := []) (rest := []) E hK hH hl hS.2.1 fc_X7 fL_X7_clear ql_RX9_96 qi_yX7_clear qv_yX7_clear (k_clear l G _ _ (b + 1) cs vs ss hs ↑t.1 lv nd lw (↑(pnN t.1 t.2.2.2 t.1)) (↑(t.1 + nsN t.1 t.2.1 t.2.2.2 t.1)) hS) rfl rfl (Nat.le_of_ble_eq_true rfl) ⟨Nat.le_of_ble_eq_true rfl, Nat.le_of_ble_eq_true rfl⟩ ⟨Nat.le_of_ble_eq_true rfl, Nat.le_of_ble_eq_true rfl⟩ dX9_plant_58 (fw_kv fun M7 H1 locs1 hp6 hH hz1 => ?_)
      obtain ⟨hS9, hz2, hfr⟩ := hp6
      replace hz := hz2.trans hz
      clear hz1 hz2
      have fr8 := hfr
      replace hbn := bnAt.fr hbn (fun q h1 h2 => fr8 q (by omega))
      replace hJ := jW.fr hJ (fun q h1 h2 => fr8 q (by omega))
      replace hK1 := rnW.fr hK1 (fun q h1 h2 => fr8 q (by omega))
      replace hB := brW.fr hB (fun q h1 h2 => fr8 q (by omega))
      replace hQ := rnW.fr hQ (fun q h1 h2 => fr8 q (by omega))
      replace hS6 := siAt.fr hS6 (fun q h1 h2 => fr8 q (by omega))
      replace hR5 := rkAt.fr hR5 (fun q h1 h2 => fr8 q (by omega))
      replace hY := gyW.fr hY (fun q h1 h2 => fr8 q (by omega))
      replace hX := gvX.fr hX (fun q h1 h2 => fr8 q (by omega))
      replace hZ := tany.fr hZ (fun q h1 h2 => fr8 q (by omega))
      replace hG9 := gcW.fr hG9 (fun q h1 h2 => fr8 q (by omega))
      refine lv_iload_n E.1 E.2.1 dX9_plant_61 rfl (lv_at hl 0 rfl) ?_
      refine fw_iret E hr hlk hH ?_ dX9_plant_62
      exact ⟨rfl, ⟨hbn, hJ, hK1, hB, hQ, ⟨_, hS6⟩, ⟨_, _, hR5⟩, hG9, hY.z, hX, hZ⟩, ⟨cs, vs, ss, hs, _, _, lv, hS9, zup_eq, zup_eq⟩, (fun q hq => by rw [fr8 q (by omega), fr5 q (by omega)]), hz⟩
    · exfalso; omega

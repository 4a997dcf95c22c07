/-- what a new bench's cells hold -/
theorem bn0.c {G : fw_G} {M : fw_M} {a : Nat} (h : bn0 G M a) : G.2.2.1 ≤ a ∧ M (a) = some (.inr (9, [.ref (a + 1), .ref (a + 9), .ref (a + 17), .ref (a + 21), .ref (a + 26), .ref (a + 30), .ref (a + 33), .ref (a + 203), .ref (a + 373)])) ∧ M (a + 1) = some (.inr (7, [.ref (a + 2), .ref (a + 7), .ref (a + 8), .int (iI 1), .int (iI 1)])) ∧ M (a + 2) = some (.inr (8, [.ref (a + 3), .ref (a + 4), .ref (a + 5), .ref (a + 6), .int (iI 0), .int (iI 0)])) ∧ M (a + 3) = some (fI G 40 (fun j0 => iI (z0 j0))) ∧ M (a + 4) = some (fI G 40 (fun j0 => iI (z0 j0))) ∧ M (a + 5) = some (fI G 40 (fun j0 => iI (z0 j0))) ∧ M (a + 6) = some (fI G 40 (fun j0 => iI (z0 j0))) ∧ M (a + 7) = some (fI G 40 (fun j0 => iI ((zup z0 0 1) j0))) ∧ M (a + 8) = some (fI G 40 (fun j0 => iI ((zup z0 0 1) j0))) ∧ M (a + 9) = some (.inr (3, [.ref (a + 10), .ref (a + 13), .ref (a + 14), .ref (a + 15), .ref (a + 16), .int (iI 0), .int (iI 0), .int (iI 1)])) ∧ M (a + 13) = some (fI G 12 (fun j0 => iI (z0 j0))) ∧ M (a + 14) = some (fI G 12 (fun j0 => iI (z0 j0))) ∧ M (a + 15) = some (fI G 12 (fun j0 => iI (z0 j0))) ∧ M (a + 16) = some (fI G 12 (fun j0 => iI (z0 j0))) ∧ M (a + 17) = some (.inr (4, [.ref (a + 18), .ref (a + 19), .ref (a + 20)])) ∧ M (a + 21) = some (.inr (0, [.ref (a + 22), .int (iI 70), .int (iI 20), .int (iI 5), .int (iI 2), .int (iI 1)])) ∧ M (a + 33) = some (.inr (2, [.ref (a + 34), .ref (a + 36), .ref (a + 41), .ref (a + 42), .int (iI 0), .int (iI 0), .int (iI 0)])) ∧ M (a + 34) = some (.inr (1, [.ref (a + 35), .int (iI 0), .int (iI 0)])) ∧ M (a + 35) = some (fI G 40 (fun j0 => iI (z0 j0))) := by
  obtain ⟨⟨hb, h0⟩, hsk, hjd, hrn, hbr, hsi, hrk, hgv, hgt, htt⟩ := h
  obtain ⟨_, s0, s1, s2, s3⟩ := hsk
  obtain ⟨_, t0, t1, t2, t3, t4⟩ := s1
  obtain ⟨_, j0, j1, j2, j3, j4, j5⟩ := hjd
  obtain ⟨_, g0, g1, g2, g3⟩ := hgv
  rw [if_pos rfl, if_pos rfl] at g0
  exact ⟨hb, h0, s0, t0, t1, t2, t3, t4, s2, s3, j0, j2, j3, j4, j5, hrn.2.1, hbr.2.1, g0, g1.2.1, g1.2.2⟩
theorem zPARTS_le (k : Nat) : 0 ≤ zPARTS k ∧ zPARTS k ≤ 3 := by
  rcases Nat.lt_or_ge k 14 with h | h
  · rcases (show k = 0 ∨ k = 1 ∨ k = 2 ∨ k = 3 ∨ k = 4 ∨ k = 5 ∨ k = 6 ∨ k = 7 ∨ k = 8 ∨ k = 9 ∨ k = 10 ∨ k = 11 ∨ k = 12 ∨ k = 13 by omega) with rfl | rfl | rfl | rfl | rfl | rfl | rfl | rfl | rfl | rfl | rfl | rfl | rfl | rfl <;> decide
  · unfold zPARTS
    rw [List.getD_eq_getElem?_getD, List.getElem?_eq_none (by exact h)]
    exact ⟨by decide, by decide⟩
def okNode (c v : Int) : Prop := (0 ≤ c ∧ c ≤ 13) ∧ (c ≠ 0 ∨ (-99 ≤ v ∧ v ≤ 99)) ∧ (c ≠ 1 ∨ (0 ≤ v ∧ v ≤ 2))
def kS_sketch (c v : Int) : Int := if (0 ≤ c ∧ c ≤ 13) ∧ (c ≠ 0 ∨ (-99 ≤ v ∧ v ≤ 99)) ∧ (c ≠ 1 ∨ (0 ≤ v ∧ v ≤ 2)) then (if c ≤ 8 then 0 else 2) else 1
def kS_addCase (x y z d : Int) : Int := if (-99 ≤ x ∧ x ≤ 99) ∧ (-99 ≤ y ∧ y ≤ 99) ∧ (-99 ≤ z ∧ z ≤ 99) ∧ (-9999 ≤ d ∧ d ≤ 9999) then 0 else 1
def kS_setWay (x y : Int) : Int := if (0 ≤ x ∧ x ≤ 2) ∧ (0 ≤ y ∧ y ≤ 99) then 0 else 1
def kS_setRates (x y z : Int) : Int := if (0 ≤ x ∧ x ≤ 100) ∧ (0 ≤ y ∧ y ≤ 100) ∧ (0 ≤ z ∧ z ≤ 100) ∧ x + y + z ≤ 100 then 0 else 1
def kS_setChoosing (x y : Int) : Int := if (1 ≤ x ∧ x ≤ 5) ∧ (0 ≤ y ∧ y ≤ 4) then 0 else 1
def kS_setLuck (x : Int) : Int := if 0 ≤ x ∧ x ≤ 9999 then 0 else 1
def kS_tell (x : Int) : Int := if 0 ≤ x then 0 else 1
def kS_breed (x : Int) : Int := if 1 ≤ x ∧ x ≤ 10 then 2 else 1
theorem k_isInput (l : Launch) (G : fw_G) (M : fw_M) (N : Nat) (z : Int) (hz : -2147483648 ≤ z ∧ z < 2147483648) : fMet l yX9_isInput cX9_isInput 1 (some .boolean) 0 0 0 0 G M N [.int (iI z)] (fw_pi (fun r M1 n1 => ∃ b : Int, r = iI b ∧ ((b = 1 ∧ -99 ≤ z ∧ z ≤ 99) ∨ (b = 0 ∧ (z < -99 ∨ 99 < z))) ∧ M1 = M ∧ n1 = N)) := by
  refine fw_met RX9 rfl (by decide +kernel) (Nat.le_of_ble_eq_true rfl) ?_
  intro p e s m args below meth c ls E hr hlk hnm hK hH hz hl
  refine lv_iload_n E.1 E.2.1 dX9_isInput_0 rfl (lv_at hl 0 rfl) ?_
  refine lv_bipush (v := iI (-99)) E.1 E.2.1 dX9_isInput_1 (by decide) ?_
  refine fw_icmp_lt (tgt := 16) E dX9_isInput_3 (by decide) (by omega) (by omega) (by omega) (by omega) (fun c1 => ?_) (fun c1 => ?_)
  · refine lv_iconst (v := iI 0) E.1 E.2.1 dX9_isInput_16 (by decide) ?_
    refine fw_zret (r := (iI 0)) E hr hlk hH (by rfl) ?_ dX9_isInput_17
    exact ⟨_, rfl, by omega, rfl, hz⟩
  · refine lv_iload_n E.1 E.2.1 dX9_isInput_6 rfl (lv_at hl 0 rfl) ?_
    refine lv_bipush (v := iI 99) E.1 E.2.1 dX9_isInput_7 (by decide) ?_
    refine fw_icmp_gt (tgt := 16) E dX9_isInput_9 (by decide) (by omega) (by omega) (by omega) (by omega) (fun c2 => ?_) (fun c2 => ?_)
    · refine lv_iconst (v := iI 0) E.1 E.2.1 dX9_isInput_16 (by decide) ?_
      refine fw_zret (r := (iI 0)) E hr hlk hH (by rfl) ?_ dX9_isInput_17
      exact ⟨_, rfl, by omega, rfl, hz⟩
    · refine lv_iconst (v := iI 1) E.1 E.2.1 dX9_isInput_12 (by decide) ?_
      refine lv_goto (tgt := 17) E.1 E.2.1 dX9_isInput_13 (by decide) ?_
      refine fw_zret (r := (iI 1)) E hr hlk hH (by rfl) ?_ dX9_isInput_17
      exact ⟨_, rfl, by omega, rfl, hz⟩
theorem k_isRate (l : Launch) (G : fw_G) (M : fw_M) (N : Nat) (z : Int) (hz : -2147483648 ≤ z ∧ z < 2147483648) : fMet l yX9_isRate cX9_isRate 1 (some .boolean) 0 0 0 0 G M N [.int (iI z)] (fw_pi (fun r M1 n1 => ∃ b : Int, r = iI b ∧ ((b = 1 ∧ 0 ≤ z ∧ z ≤ 100) ∨ (b = 0 ∧ (z < 0 ∨ 100 < z))) ∧ M1 = M ∧ n1 = N)) := by
  refine fw_met RX9 rfl (by decide +kernel) (Nat.le_of_ble_eq_true rfl) ?_
  intro p e s m args below meth c ls E hr hlk hnm hK hH hz hl
  refine lv_iload_n E.1 E.2.1 dX9_isRate_0 rfl (lv_at hl 0 rfl) ?_
  refine fw_if_lt (tgt := 14) E dX9_isRate_1 (by decide) (by omega) (by omega) (fun c1 => ?_) (fun c1 => ?_)
  · refine lv_iconst (v := iI 0) E.1 E.2.1 dX9_isRate_14 (by decide) ?_
    refine fw_zret (r := (iI 0)) E hr hlk hH (by rfl) ?_ dX9_isRate_15
    exact ⟨_, rfl, by omega, rfl, hz⟩
  · refine lv_iload_n E.1 E.2.1 dX9_isRate_4 rfl (lv_at hl 0 rfl) ?_
    refine lv_bipush (v := iI 100) E.1 E.2.1 dX9_isRate_5 (by decide) ?_
    refine fw_icmp_gt (tgt := 14) E dX9_isRate_7 (by decide) (by omega) (by omega) (by omega) (by omega) (fun c2 => ?_) (fun c2 => ?_)
    · refine lv_iconst (v := iI 0) E.1 E.2.1 dX9_isRate_14 (by decide) ?_
      refine fw_zret (r := (iI 0)) E hr hlk hH (by rfl) ?_ dX9_isRate_15
      exact ⟨_, rfl, by omega, rfl, hz⟩
    · refine lv_iconst (v := iI 1) E.1 E.2.1 dX9_isRate_10 (by decide) ?_
      refine lv_goto (tgt := 15) E.1 E.2.1 dX9_isRate_11 (by decide) ?_
      refine fw_zret (r := (iI 1)) E hr hlk hH (by rfl) ?_ dX9_isRate_15
      exact ⟨_, rfl, by omega, rfl, hz⟩
theorem k_isNumberPart (l : Launch) (G : fw_G) (M : fw_M) (N : Nat) (c z : Int) (hc : -2147483648 ≤ c ∧ c < 2147483648) (hz : -2147483648 ≤ z ∧ z < 2147483648) : fMet l yX9_isNumberPart cX9_isNumberPart 2 (some .boolean) 0 0 0 0 G M N [.int (iI c), .int (iI z)] (fw_pi (fun r M1 n1 => ∃ b : Int, r = iI b ∧ (0 ≤ b ∧ b ≤ 1) ∧ M1 = M ∧ n1 = N)) := by
  refine fw_met RX9 rfl (by decide +kernel) (Nat.le_of_ble_eq_true rfl) ?_
  intro p e s m args below meth c ls E hr hlk hnm hK hH hz hl
  refine lv_iload_n E.1 E.2.1 dX9_isNumberPart_0 rfl (lv_at hl 0 rfl) ?_
  refine lv_bipush (v := iI 11) E.1 E.2.1 dX9_isNumberPart_1 (by decide) ?_
  refine fw_icmp_ge (tgt := 20) E dX9_isNumberPart_3 (by decide) (by omega) (by omega) (by omega) (by omega) (fun c1 => ?_) (fun c1 => ?_)
  · refine lv_iconst (v := iI 0) E.1 E.2.1 dX9_isNumberPart_20 (by decide) ?_
    refine fw_zret (r := (iI 0)) E hr hlk hH (by rfl) ?_ dX9_isNumberPart_21
    exact ⟨_, rfl, by omega, rfl, hz⟩
  · refine lv_iload_n E.1 E.2.1 dX9_isNumberPart_6 rfl (lv_at hl 0 rfl) ?_
    refine lv_bipush (v := iI 8) E.1 E.2.1 dX9_isNumberPart_7 (by decide) ?_
    refine fw_icmp_ne (tgt := 16) E dX9_isNumberPart_9 (by decide) (by omega) (by omega) (by omega) (by omega) (fun c2 => ?_) (fun c2 => ?_)
    · refine lv_iconst (v := iI 1) E.1 E.2.1 dX9_isNumberPart_16 (by decide) ?_
      refine lv_goto (tgt := 21) E.1 E.2.1 dX9_isNumberPart_17 (by decide) ?_
      refine fw_zret (r := (iI 1)) E hr hlk hH (by rfl) ?_ dX9_isNumberPart_21
      exact ⟨_, rfl, by omega, rfl, hz⟩
    · refine lv_iload_n E.1 E.2.1 dX9_isNumberPart_12 rfl (lv_at hl 1 rfl) ?_
      refine fw_if_eq (tgt := 20) E dX9_isNumberPart_13 (by decide) (by omega) (by omega) (fun c3 => ?_) (fun c3 => ?_)
      · refine lv_iconst (v := iI 0) E.1 E.2.1 dX9_isNumberPart_20 (by decide) ?_
        refine fw_zret (r := (iI 0)) E hr hlk hH (by rfl) ?_ dX9_isNumberPart_21
        exact ⟨_, rfl, by omega, rfl, hz⟩
      · refine lv_iconst (v := iI 1) E.1 E.2.1 dX9_isNumberPart_16 (by decide) ?_
        refine lv_goto (tgt := 21) E.1 E.2.1 dX9_isNumberPart_17 (by decide) ?_
        refine fw_zret (r := (iI 1)) E hr hlk hH (by rfl) ?_ dX9_isNumberPart_21
        exact ⟨_, rfl, by omega, rfl, hz⟩
theorem k_atS (l : Launch) (G : fw_G) (M : fw_M) (N : Nat) (z : Int) (k : Nat) (hzk : z = ↑k) (hk : k < 14) : fMet l yX9_at cX9_at 2 (some .int) 0 0 0 0 G M N [.ref (G.2.2.2.2 0), .int (iI z)] (fw_pi (fun r M1 n1 => r = iI (zPARTS k) ∧ M1 = M ∧ n1 = N)) := by
  refine fw_met RX9 rfl (by decide +kernel) (Nat.le_of_ble_eq_true rfl) ?_
  intro p e s m args below meth c ls E hr hlk hnm hK hH hz hl
  have hT := hK.me.2.2.2.2.2.2.2.2.2.2.2.1
  refine lv_iload_n E.1 E.2.1 dX9_at_0 rfl (lv_at hl 1 rfl) ?_
  refine fw_if_lt (tgt := 10) E dX9_at_1 (by decide) (by omega) (by omega) (fun c1 => ?_) (fun c1 => ?_)
  · exact absurd c1 (by omega)
  · refine lv_iload_n E.1 E.2.1 dX9_at_4 rfl (lv_at hl 1 rfl) ?_
    refine lv_aload_n E.1 E.2.1 dX9_at_5 rfl (lv_at hl 0 rfl) ?_
    refine fw_tlen E hH hT (v := iI 14) (by decide) dX9_at_6 ?_
    refine fw_icmp_lt (tgt := 14) E dX9_at_7 (by decide) (by omega) (by omega) (by omega) (by omega) (fun c2 => ?_) (fun c2 => ?_)
    · refine lv_aload_n E.1 E.2.1 dX9_at_14 rfl (lv_at hl 0 rfl) ?_
      refine lv_iload_n E.1 E.2.1 dX9_at_15 rfl (lv_at hl 1 rfl) ?_
      refine fw_ti E hH hT (v := .int (iI (zPARTS k))) (iI_in (by omega) (by omega) (by omega)) (by rw [iI_ix (by omega) (by omega), hzk]; rfl) dX9_at_16 ?_
      refine fw_iret E hr hlk hH ?_ dX9_at_17
      exact ⟨rfl, rfl, hz⟩
    · exact absurd c2 (by omega)
theorem k_requireNode (l : Launch) (hlt : l.stackTraces = false) (G : fw_G) (M : fw_M) (N : Nat) (c v : Int) (hc : -2147483648 ≤ c ∧ c < 2147483648) (hv : -2147483648 ≤ v ∧ v < 2147483648) : fxMet l yX9_requireNode cX9_requireNode 2 none 6 90 1 6 G M N [.int (iI c), .int (iI v)] (fw_pv (fun M1 n1 => ((0 ≤ c ∧ c ≤ 13) ∧ (c ≠ 0 ∨ (-99 ≤ v ∧ v ≤ 99)) ∧ (c ≠ 1 ∨ (0 ≤ v ∧ v ≤ 2))) ∧ M1 = M ∧ n1 = N)) (fun E9 M1 n1 => E9 = "java/lang/IllegalArgumentException" ∧ ¬ ((0 ≤ c ∧ c ≤ 13) ∧ (c ≠ 0 ∨ (-99 ≤ v ∧ v ≤ 99)) ∧ (c ≠ 1 ∨ (0 ≤ v ∧ v ≤ 2))) ∧ M1 = M) := by
  refine fx_met RX9 rfl (by decide +kernel) (Nat.le_of_ble_eq_true rfl) ?_
  intro p e s m args below meth c ls E hr hlk hxt hK hH hz hl
  have hH0 := hH
  refine lv_iload_n E.1 E.2.1 dX9_requireNode_0 rfl (lv_at hl 0 rfl) ?_
  refine fw_if_lt (tgt := 10) E dX9_requireNode_1 (by decide) (by omega) (by omega) (fun c1 => ?_) (fun c1 => ?_)
  · exact fx_thrW hlt E hK hH0 hH hl hxt hlk (cls := "java/lang/IllegalArgumentException") (names := ["java/lang/RuntimeException", "java/lang/Exception"]) (i := 0) (text := "code is not 0 to 13") xf_IAE xn_all ql_RX9_120 xi_IAE xw_IAE xg_IAE rfl dX9_requireNode_10 dX9_requireNode_13 dX9_requireNode_14 dX9_requireNode_17 dX9_requireNode_20 ⟨Nat.le_of_ble_eq_true rfl, Nat.le_of_ble_eq_true rfl, by show _ ≤ (1 : Nat); omega, by show _ ≤ (6 : Nat); omega⟩ (fun n1 hn1 => ⟨rfl, by omega, rfl⟩) (by omega) (by omega)
  · refine lv_iload_n E.1 E.2.1 dX9_requireNode_4 rfl (lv_at hl 0 rfl) ?_
    refine lv_bipush (v := iI 13) E.1 E.2.1 dX9_requireNode_5 (by decide) ?_
    refine fw_icmp_le (tgt := 21) E dX9_requireNode_7 (by decide) (by omega) (by omega) (by omega) (by omega) (fun c2 => ?_) (fun c2 => ?_)
    · refine lv_iload_n E.1 E.2.1 dX9_requireNode_21 rfl (lv_at hl 0 rfl) ?_
      refine fw_if_ne (tgt := 48) E dX9_requireNode_22 (by decide) (by omega) (by omega) (fun c3 => ?_) (fun c3 => ?_)
      · refine lv_iload_n E.1 E.2.1 dX9_requireNode_48 rfl (lv_at hl 0 rfl) ?_
        refine lv_iconst (v := iI 1) E.1 E.2.1 dX9_requireNode_49 (by decide) ?_
        refine fw_icmp_ne (tgt := 73) E dX9_requireNode_50 (by decide) (by omega) (by omega) (by omega) (by omega) (fun c4 => ?_) (fun c4 => ?_)
        · refine W.widen (k := 1) (n := 6) (by omega) (by omega) ?_
          refine vx_ret (fw_vret E hr hlk hH ?_ dX9_requireNode_73)
          exact ⟨by omega, rfl, hz⟩
        · refine lv_iload_n E.1 E.2.1 dX9_requireNode_53 rfl (lv_at hl 1 rfl) ?_
          refine fw_if_lt (tgt := 62) E dX9_requireNode_54 (by decide) (by omega) (by omega) (fun c5 => ?_) (fun c5 => ?_)
          · exact fx_thrW hlt E hK hH0 hH hl hxt hlk (cls := "java/lang/IllegalArgumentException") (names := ["java/lang/RuntimeException", "java/lang/Exception"]) (i := 2) (text := "the value of an INPUT is not 0 to 2") xf_IAE xn_all ql_RX9_120 xi_IAE xw_IAE xg_IAE rfl dX9_requireNode_62 dX9_requireNode_65 dX9_requireNode_66 dX9_requireNode_69 dX9_requireNode_72 ⟨Nat.le_of_ble_eq_true rfl, Nat.le_of_ble_eq_true rfl, by show _ ≤ (1 : Nat); omega, by show _ ≤ (6 : Nat); omega⟩ (fun n1 hn1 => ⟨rfl, by omega, rfl⟩) (by omega) (by omega)
          · refine lv_iload_n E.1 E.2.1 dX9_requireNode_57 rfl (lv_at hl 1 rfl) ?_
            refine lv_iconst (v := iI 3) E.1 E.2.1 dX9_requireNode_58 (by decide) ?_
            refine fw_icmp_lt (tgt := 73) E dX9_requireNode_59 (by decide) (by omega) (by omega) (by omega) (by omega) (fun c6 => ?_) (fun c6 => ?_)
            · refine W.widen (k := 1) (n := 6) (by omega) (by omega) ?_
              refine vx_ret (fw_vret E hr hlk hH ?_ dX9_requireNode_73)
              exact ⟨by omega, rfl, hz⟩
            · exact fx_thrW hlt E hK hH0 hH hl hxt hlk (cls := "java/lang/IllegalArgumentException") (names := ["java/lang/RuntimeException", "java/lang/Exception"]) (i := 2) (text := "the value of an INPUT is not 0 to 2") xf_IAE xn_all ql_RX9_120 xi_IAE xw_IAE xg_IAE rfl dX9_requireNode_62 dX9_requireNode_65 dX9_requireNode_66 dX9_requireNode_69 dX9_requireNode_72 ⟨Nat.le_of_ble_eq_true rfl, Nat.le_of_ble_eq_true rfl, by show _ ≤ (1 : Nat); omega, by show _ ≤ (6 : Nat); omega⟩ (fun n1 hn1 => ⟨rfl, by omega, rfl⟩) (by omega) (by omega)
      · refine lv_iload_n E.1 E.2.1 dX9_requireNode_25 rfl (lv_at hl 1 rfl) ?_
        refine lv_bipush (v := iI (-99)) E.1 E.2.1 dX9_requireNode_26 (by decide) ?_
        refine fw_icmp_lt (tgt := 37) E dX9_requireNode_28 (by decide) (by omega) (by omega) (by omega) (by omega) (fun c7 => ?_) (fun c7 => ?_)
        · exact fx_thrW hlt E hK hH0 hH hl hxt hlk (cls := "java/lang/IllegalArgumentException") (names := ["java/lang/RuntimeException", "java/lang/Exception"]) (i := 1) (text := "the value of a CONSTANT is not -99 to 99") xf_IAE xn_all ql_RX9_120 xi_IAE xw_IAE xg_IAE rfl dX9_requireNode_37 dX9_requireNode_40 dX9_requireNode_41 dX9_requireNode_44 dX9_requireNode_47 ⟨Nat.le_of_ble_eq_true rfl, Nat.le_of_ble_eq_true rfl, by show _ ≤ (1 : Nat); omega, by show _ ≤ (6 : Nat); omega⟩ (fun n1 hn1 => ⟨rfl, by omega, rfl⟩) (by omega) (by omega)
        · refine lv_iload_n E.1 E.2.1 dX9_requireNode_31 rfl (lv_at hl 1 rfl) ?_
          refine lv_bipush (v := iI 99) E.1 E.2.1 dX9_requireNode_32 (by decide) ?_
          refine fw_icmp_le (tgt := 48) E dX9_requireNode_34 (by decide) (by omega) (by omega) (by omega) (by omega) (fun c8 => ?_) (fun c8 => ?_)
          · refine lv_iload_n E.1 E.2.1 dX9_requireNode_48 rfl (lv_at hl 0 rfl) ?_
            refine lv_iconst (v := iI 1) E.1 E.2.1 dX9_requireNode_49 (by decide) ?_
            refine fw_icmp_ne (tgt := 73) E dX9_requireNode_50 (by decide) (by omega) (by omega) (by omega) (by omega) (fun c9 => ?_) (fun c9 => ?_)
            · refine W.widen (k := 1) (n := 6) (by omega) (by omega) ?_
              refine vx_ret (fw_vret E hr hlk hH ?_ dX9_requireNode_73)
              exact ⟨by omega, rfl, hz⟩
            · refine lv_iload_n E.1 E.2.1 dX9_requireNode_53 rfl (lv_at hl 1 rfl) ?_
              refine fw_if_lt (tgt := 62) E dX9_requireNode_54 (by decide) (by omega) (by omega) (fun c10 => ?_) (fun c10 => ?_)
              · exact fx_thrW hlt E hK hH0 hH hl hxt hlk (cls := "java/lang/IllegalArgumentException") (names := ["java/lang/RuntimeException", "java/lang/Exception"]) (i := 2) (text := "the value of an INPUT is not 0 to 2") xf_IAE xn_all ql_RX9_120 xi_IAE xw_IAE xg_IAE rfl dX9_requireNode_62 dX9_requireNode_65 dX9_requireNode_66 dX9_requireNode_69 dX9_requireNode_72 ⟨Nat.le_of_ble_eq_true rfl, Nat.le_of_ble_eq_true rfl, by show _ ≤ (1 : Nat); omega, by show _ ≤ (6 : Nat); omega⟩ (fun n1 hn1 => ⟨rfl, by omega, rfl⟩) (by omega) (by omega)
              · refine lv_iload_n E.1 E.2.1 dX9_requireNode_57 rfl (lv_at hl 1 rfl) ?_
                refine lv_iconst (v := iI 3) E.1 E.2.1 dX9_requireNode_58 (by decide) ?_
                refine fw_icmp_lt (tgt := 73) E dX9_requireNode_59 (by decide) (by omega) (by omega) (by omega) (by omega) (fun c11 => ?_) (fun c11 => ?_)
                · refine W.widen (k := 1) (n := 6) (by omega) (by omega) ?_
                  refine vx_ret (fw_vret E hr hlk hH ?_ dX9_requireNode_73)
                  exact ⟨by omega, rfl, hz⟩
                · exact fx_thrW hlt E hK hH0 hH hl hxt hlk (cls := "java/lang/IllegalArgumentException") (names := ["java/lang/RuntimeException", "java/lang/Exception"]) (i := 2) (text := "the value of an INPUT is not 0 to 2") xf_IAE xn_all ql_RX9_120 xi_IAE xw_IAE xg_IAE rfl dX9_requireNode_62 dX9_requireNode_65 dX9_requireNode_66 dX9_requireNode_69 dX9_requireNode_72 ⟨Nat.le_of_ble_eq_true rfl, Nat.le_of_ble_eq_true rfl, by show _ ≤ (1 : Nat); omega, by show _ ≤ (6 : Nat); omega⟩ (fun n1 hn1 => ⟨rfl, by omega, rfl⟩) (by omega) (by omega)
          · exact fx_thrW hlt E hK hH0 hH hl hxt hlk (cls := "java/lang/IllegalArgumentException") (names := ["java/lang/RuntimeException", "java/lang/Exception"]) (i := 1) (text := "the value of a CONSTANT is not -99 to 99") xf_IAE xn_all ql_RX9_120 xi_IAE xw_IAE xg_IAE rfl dX9_requireNode_37 dX9_requireNode_40 dX9_requireNode_41 dX9_requireNode_44 dX9_requireNode_47 ⟨Nat.le_of_ble_eq_true rfl, Nat.le_of_ble_eq_true rfl, by show _ ≤ (1 : Nat); omega, by show _ ≤ (6 : Nat); omega⟩ (fun n1 hn1 => ⟨rfl, by omega, rfl⟩) (by omega) (by omega)
    · exact fx_thrW hlt E hK hH0 hH hl hxt hlk (cls := "java/lang/IllegalArgumentException") (names := ["java/lang/RuntimeException", "java/lang/Exception"]) (i := 0) (text := "code is not 0 to 13") xf_IAE xn_all ql_RX9_120 xi_IAE xw_IAE xg_IAE rfl dX9_requireNode_10 dX9_requireNode_13 dX9_requireNode_14 dX9_requireNode_17 dX9_requireNode_20 ⟨Nat.le_of_ble_eq_true rfl, Nat.le_of_ble_eq_true rfl, by show _ ≤ (1 : Nat); omega, by show _ ≤ (6 : Nat); omega⟩ (fun n1 hn1 => ⟨rfl, by omega, rfl⟩) (by omega) (by omega)
theorem k_requireInputs (l : Launch) (hlt : l.stackTraces = false) (G : fw_G) (M : fw_M) (N : Nat) (x y z : Int) (hx : -2147483648 ≤ x ∧ x < 2147483648) (hy : -2147483648 ≤ y ∧ y < 2147483648) (hz : -2147483648 ≤ z ∧ z < 2147483648) : fxMet l yX9_requireInputs cX9_requireInputs 3 none 6 90 1 6 G M N [.int (iI x), .int (iI y), .int (iI z)] (fw_pv (fun M1 n1 => ((-99 ≤ x ∧ x ≤ 99) ∧ (-99 ≤ y ∧ y ≤ 99) ∧ (-99 ≤ z ∧ z ≤ 99)) ∧ M1 = M ∧ n1 = N)) (fun E9 M1 n1 => E9 = "java/lang/IllegalArgumentException" ∧ ¬ ((-99 ≤ x ∧ x ≤ 99) ∧ (-99 ≤ y ∧ y ≤ 99) ∧ (-99 ≤ z ∧ z ≤ 99)) ∧ M1 = M) := by
  refine fx_met RX9 rfl (by decide +kernel) (Nat.le_of_ble_eq_true rfl) ?_
  intro p e s m args below meth c ls E hr hlk hxt hK hH hz hl
  have hH0 := hH
  refine lv_iload_n E.1 E.2.1 dX9_requireInputs_0 rfl (lv_at hl 0 rfl) ?_
  refine fw_cS (As := [.int (iI x)]) (rest := []) E hK hH hl fL_X9_isInput ql_RX9_315 qs_yX9_isInput (k_isInput l G _ _ x (by omega)) rfl rfl (Nat.le_of_ble_eq_true rfl) ⟨Nat.le_of_ble_eq_true rfl, Nat.le_of_ble_eq_true rfl⟩ ⟨by show _ ≤ (1 : Nat); omega, by show _ ≤ (6 : Nat); omega⟩ dX9_requireInputs_1 (fw_ki fun r4 M3 H1 locs1 hp2 hH hz1 => ?_)
  obtain ⟨b1, rfl, hb1, hM9, hz2⟩ := hp2
  replace hz := hz2.trans hz
  clear hz1 hz2
  rw [hM9] at hH
  refine fw_if_eq (tgt := 21) E dX9_requireInputs_4 (by decide) (by omega) (by omega) (fun c5 => ?_) (fun c5 => ?_)
  · exact fx_thrW hlt E hK hH0 hH hl hxt hlk (cls := "java/lang/IllegalArgumentException") (names := ["java/lang/RuntimeException", "java/lang/Exception"]) (i := 6) (text := "an input is not -99 to 99") xf_IAE xn_all ql_RX9_120 xi_IAE xw_IAE xg_IAE rfl dX9_requireInputs_21 dX9_requireInputs_24 dX9_requireInputs_25 dX9_requireInputs_28 dX9_requireInputs_31 ⟨Nat.le_of_ble_eq_true rfl, Nat.le_of_ble_eq_true rfl, by show _ ≤ (1 : Nat); omega, by show _ ≤ (6 : Nat); omega⟩ (fun n1 hn1 => ⟨rfl, by omega, rfl⟩) (by omega) (by omega)
  · refine lv_iload_n E.1 E.2.1 dX9_requireInputs_7 rfl (lv_at hl 1 rfl) ?_
    refine fw_cS (As := [.int (iI y)]) (rest := []) E hK hH hl fL_X9_isInput ql_RX9_315 qs_yX9_isInput (k_isInput l G _ _ y (by omega)) rfl rfl (Nat.le_of_ble_eq_true rfl) ⟨Nat.le_of_ble_eq_true rfl, Nat.le_of_ble_eq_true rfl⟩ ⟨by show _ ≤ (1 : Nat); omega, by show _ ≤ (6 : Nat); omega⟩ dX9_requireInputs_8 (fw_ki fun r9 M8 H1 locs1 hp7 hH hz1 => ?_)
    obtain ⟨b6, rfl, hb6, hM9, hz2⟩ := hp7
    replace hz := hz2.trans hz
    clear hz1 hz2
    rw [hM9] at hH
    refine fw_if_eq (tgt := 21) E dX9_requireInputs_11 (by decide) (by omega) (by omega) (fun c10 => ?_) (fun c10 => ?_)
    · exact fx_thrW hlt E hK hH0 hH hl hxt hlk (cls := "java/lang/IllegalArgumentException") (names := ["java/lang/RuntimeException", "java/lang/Exception"]) (i := 6) (text := "an input is not -99 to 99") xf_IAE xn_all ql_RX9_120 xi_IAE xw_IAE xg_IAE rfl dX9_requireInputs_21 dX9_requireInputs_24 dX9_requireInputs_25 dX9_requireInputs_28 dX9_requireInputs_31 ⟨Nat.le_of_ble_eq_true rfl, Nat.le_of_ble_eq_true rfl, by show _ ≤ (1 : Nat); omega, by show _ ≤ (6 : Nat); omega⟩ (fun n1 hn1 => ⟨rfl, by omega, rfl⟩) (by omega) (by omega)
    · refine lv_iload_n E.1 E.2.1 dX9_requireInputs_14 rfl (lv_at hl 2 rfl) ?_
      refine fw_cS (As := [.int (iI z)]) (rest := []) E hK hH hl fL_X9_isInput ql_RX9_315 qs_yX9_isInput (k_isInput l G _ _ z (by omega)) rfl rfl (Nat.le_of_ble_eq_true rfl) ⟨Nat.le_of_ble_eq_true rfl, Nat.le_of_ble_eq_true rfl⟩ ⟨by show _ ≤ (1 : Nat); omega, by show _ ≤ (6 : Nat); omega⟩ dX9_requireInputs_15 (fw_ki fun r14 M13 H1 locs1 hp12 hH hz1 => ?_)
      obtain ⟨b11, rfl, hb11, hM9, hz2⟩ := hp12
      replace hz := hz2.trans hz
      clear hz1 hz2
      rw [hM9] at hH
      refine fw_if_ne (tgt := 32) E dX9_requireInputs_18 (by decide) (by omega) (by omega) (fun c15 => ?_) (fun c15 => ?_)
      · refine W.widen (k := 1) (n := 6) (by omega) (by omega) ?_
        refine vx_ret (fw_vret E hr hlk hH ?_ dX9_requireInputs_32)
        exact ⟨by omega, rfl, hz⟩
      · exact fx_thrW hlt E hK hH0 hH hl hxt hlk (cls := "java/lang/IllegalArgumentException") (names := ["java/lang/RuntimeException", "java/lang/Exception"]) (i := 6) (text := "an input is not -99 to 99") xf_IAE xn_all ql_RX9_120 xi_IAE xw_IAE xg_IAE rfl dX9_requireInputs_21 dX9_requireInputs_24 dX9_requireInputs_25 dX9_requireInputs_28 dX9_requireInputs_31 ⟨Nat.le_of_ble_eq_true rfl, Nat.le_of_ble_eq_true rfl, by show _ ≤ (1 : Nat); omega, by show _ ≤ (6 : Nat); omega⟩ (fun n1 hn1 => ⟨rfl, by omega, rfl⟩) (by omega) (by omega)
theorem k_requireTree (l : Launch) (hlt : l.stackTraces = false) (G : fw_G) (M : fw_M) (N : Nat) (a : Nat) (hB : bn0 G M a) (z : Int) (hz : -2147483648 ≤ z ∧ z < 2147483648) : fxMet l yX9_requireTree cX9_requireTree 2 (some (.object "Barnacle$Tree")) 6 90 1 6 G M N [.ref a, .int (iI z)] (fun _ _ _ => False) (fun E9 M1 n1 => E9 = "java/lang/IndexOutOfBoundsException" ∧ M1 = M) := by
  refine fx_met RX9 rfl (by decide +kernel) (Nat.le_of_ble_eq_true rfl) ?_
  intro p e s m args below meth c ls E hr hlk hxt hK hH hz hl
  have hH0 := hH
  obtain ⟨hb, c0, _, _, _, _, _, _, _, _, _, _, _, _, _, _, _, c33, _, _⟩ := hB.c
  refine lv_iload_n E.1 E.2.1 dX9_requireTree_0 rfl (lv_at hl 1 rfl) ?_
  refine fw_if_lt (tgt := 15) E dX9_requireTree_1 (by decide) (by omega) (by omega) (fun c1 => ?_) (fun c1 => ?_)
  · exact fx_thrW hlt E hK hH0 hH hl hxt hlk (cls := "java/lang/IndexOutOfBoundsException") (names := ["java/lang/RuntimeException", "java/lang/Exception"]) (i := 5) (text := "there is no such TREE") xf_IOB xn_all ql_RX9_259 xi_IOB xw_IOB xg_IOB rfl dX9_requireTree_15 dX9_requireTree_18 dX9_requireTree_19 dX9_requireTree_22 dX9_requireTree_25 ⟨Nat.le_of_ble_eq_true rfl, Nat.le_of_ble_eq_true rfl, by show _ ≤ (1 : Nat); omega, by show _ ≤ (6 : Nat); omega⟩ (fun n1 hn1 => ⟨rfl, rfl⟩) (by omega) (by omega)
  · refine lv_iload_n E.1 E.2.1 dX9_requireTree_4 rfl (lv_at hl 1 rfl) ?_
    refine lv_aload_n E.1 E.2.1 dX9_requireTree_5 rfl (lv_at hl 0 rfl) ?_
    refine fw_get E hK hH c0 fc_X9 6 (by decide) ql_RX9_54 rfl rfl dX9_requireTree_6 ?_
    refine fw_getN E hK hH c33 fc_X2 4 (by decide) ql_RX9_99 rfl rfl dX9_requireTree_9 ?_
    refine fw_icmp_lt (tgt := 26) E dX9_requireTree_12 (by decide) (by omega) (by omega) (by omega) (by omega) (fun c2 => ?_) (fun c2 => ?_)
    · exact absurd c2 (by omega)
    · exact fx_thrW hlt E hK hH0 hH hl hxt hlk (cls := "java/lang/IndexOutOfBoundsException") (names := ["java/lang/RuntimeException", "java/lang/Exception"]) (i := 5) (text := "there is no such TREE") xf_IOB xn_all ql_RX9_259 xi_IOB xw_IOB xg_IOB rfl dX9_requireTree_15 dX9_requireTree_18 dX9_requireTree_19 dX9_requireTree_22 dX9_requireTree_25 ⟨Nat.le_of_ble_eq_true rfl, Nat.le_of_ble_eq_true rfl, by show _ ≤ (1 : Nat); omega, by show _ ≤ (6 : Nat); omega⟩ (fun n1 hn1 => ⟨rfl, rfl⟩) (by omega) (by omega)
theorem k_requireBreeding (l : Launch) (hlt : l.stackTraces = false) (G : fw_G) (M : fw_M) (N : Nat) (a : Nat) (hB : bn0 G M a) (z : Int) (hz : -2147483648 ≤ z ∧ z < 2147483648) : fxMet l yX9_requireBreeding cX9_requireBreeding 2 none 6 90 1 6 G M N [.ref a, .int (iI z)] (fun _ _ _ => False) (fun E9 M1 n1 => (E9 = "java/lang/IllegalArgumentException" ∧ ¬ (1 ≤ z ∧ z ≤ 10) ∨ E9 = "java/lang/IllegalStateException" ∧ (1 ≤ z ∧ z ≤ 10)) ∧ M1 = M) := by
  refine fx_met RX9 rfl (by decide +kernel) (Nat.le_of_ble_eq_true rfl) ?_
  intro p e s m args below meth c ls E hr hlk hxt hK hH hz hl
  have hH0 := hH
  obtain ⟨hb, c0, _, _, _, _, _, _, _, _, _, _, _, _, _, _, _, c33, _, _⟩ := hB.c
  refine lv_iload_n E.1 E.2.1 dX9_requireBreeding_0 rfl (lv_at hl 1 rfl) ?_
  refine lv_iconst (v := iI 1) E.1 E.2.1 dX9_requireBreeding_1 (by decide) ?_
  refine fw_icmp_lt (tgt := 11) E dX9_requireBreeding_2 (by decide) (by omega) (by omega) (by omega) (by omega) (fun c1 => ?_) (fun c1 => ?_)
  · exact fx_thrW hlt E hK hH0 hH hl hxt hlk (cls := "java/lang/IllegalArgumentException") (names := ["java/lang/RuntimeException", "java/lang/Exception"]) (i := 17) (text := "generations is not 1 to 10") xf_IAE xn_all ql_RX9_120 xi_IAE xw_IAE xg_IAE rfl dX9_requireBreeding_11 dX9_requireBreeding_14 dX9_requireBreeding_15 dX9_requireBreeding_18 dX9_requireBreeding_21 ⟨Nat.le_of_ble_eq_true rfl, Nat.le_of_ble_eq_true rfl, by show _ ≤ (1 : Nat); omega, by show _ ≤ (6 : Nat); omega⟩ (fun n1 hn1 => ⟨Or.inl ⟨rfl, by omega⟩, rfl⟩) (by omega) (by omega)
  · refine lv_iload_n E.1 E.2.1 dX9_requireBreeding_5 rfl (lv_at hl 1 rfl) ?_
    refine lv_bipush (v := iI 10) E.1 E.2.1 dX9_requireBreeding_6 (by decide) ?_
    refine fw_icmp_le (tgt := 22) E dX9_requireBreeding_8 (by decide) (by omega) (by omega) (by omega) (by omega) (fun c2 => ?_) (fun c2 => ?_)
    · refine lv_aload_n E.1 E.2.1 dX9_requireBreeding_22 rfl (lv_at hl 0 rfl) ?_
      refine fw_get E hK hH c0 fc_X9 6 (by decide) ql_RX9_54 rfl rfl dX9_requireBreeding_23 ?_
      refine fw_getN E hK hH c33 fc_X2 4 (by decide) ql_RX9_99 rfl rfl dX9_requireBreeding_26 ?_
      refine fw_if_ne (tgt := 43) E dX9_requireBreeding_29 (by decide) (by omega) (by omega) (fun c3 => ?_) (fun c3 => ?_)
      · exact absurd c3 (by omega)
      · exact fx_thrW hlt E hK hH0 hH hl hxt hlk (cls := "java/lang/IllegalStateException") (names := ["java/lang/RuntimeException", "java/lang/Exception"]) (i := 18) (text := "the GROVE is empty") xf_ISE xn_all ql_RX9_76 xi_ISE xw_ISE xg_ISE rfl dX9_requireBreeding_32 dX9_requireBreeding_35 dX9_requireBreeding_36 dX9_requireBreeding_39 dX9_requireBreeding_42 ⟨Nat.le_of_ble_eq_true rfl, Nat.le_of_ble_eq_true rfl, by show _ ≤ (1 : Nat); omega, by show _ ≤ (6 : Nat); omega⟩ (fun n1 hn1 => ⟨Or.inr ⟨rfl, by omega⟩, rfl⟩) (by omega) (by omega)
    · exact fx_thrW hlt E hK hH0 hH hl hxt hlk (cls := "java/lang/IllegalArgumentException") (names := ["java/lang/RuntimeException", "java/lang/Exception"]) (i := 17) (text := "generations is not 1 to 10") xf_IAE xn_all ql_RX9_120 xi_IAE xw_IAE xg_IAE rfl dX9_requireBreeding_11 dX9_requireBreeding_14 dX9_requireBreeding_15 dX9_requireBreeding_18 dX9_requireBreeding_21 ⟨Nat.le_of_ble_eq_true rfl, Nat.le_of_ble_eq_true rfl, by show _ ≤ (1 : Nat); omega, by show _ ≤ (6 : Nat); omega⟩ (fun n1 hn1 => ⟨Or.inl ⟨rfl, by omega⟩, rfl⟩) (by omega) (by omega)
theorem k_requirePlace (l : Launch) (hlt : l.stackTraces = false) (G : fw_G) (M : fw_M) (N : Nat) (a : Nat) (hB : bn0 G M a) (z w : Int) (hz : -2147483648 ≤ z ∧ z < 2147483648) (hw : -2147483648 ≤ w ∧ w < 2147483648) : fxMet l yX9_requirePlace cX9_requirePlace 4 (some (.object "Barnacle$Tree")) 7 130 1 6 G M N [.ref a, .int (iI z), .int (iI w)] (fun _ _ _ => False) (fun E9 M1 n1 => E9 = "java/lang/IndexOutOfBoundsException" ∧ M1 = M) := by
  refine fx_met RX9 rfl (by decide +kernel) (Nat.le_of_ble_eq_true rfl) ?_
  intro p e s m args below meth c ls E hr hlk hxt hK hH hz hl
  have hH0 := hH
  obtain ⟨hb, c0, _, _, _, _, _, _, _, _, _, _, _, _, _, _, _, _, _, _⟩ := hB.c
  refine lv_aload_n E.1 E.2.1 dX9_requirePlace_0 rfl (lv_at hl 0 rfl) ?_
  refine lv_iload_n E.1 E.2.1 dX9_requirePlace_1 rfl (lv_at hl 1 rfl) ?_
  refine fx_cV (As := [.int (iI z)]) (rest := []) E hK hH hl c0 fc_X9 fL_X9_requireTree ql_RX9_108 qi_yX9_requireTree qv_yX9_requireTree (k_requireTree l hlt G _ _ a hB z (by omega)) rfl rfl (Nat.le_of_ble_eq_true rfl) ⟨Nat.le_of_ble_eq_true rfl, Nat.le_of_ble_eq_true rfl⟩ ⟨by show _ ≤ (1 : Nat); omega, by show _ ≤ (6 : Nat); omega⟩ dX9_requirePlace_2 (fun E9 ce q9 M1 H1 locs1 hp hH hz1 hcell hv9 hcl9 => ?_) ?_
  · obtain ⟨hE, hM9⟩ := hp
    exact fx_out hxt hlk hH hcell hv9 hcl9 ⟨hE, hM9⟩ (by omega) (by omega)
  · exact fun v M1 H1 locs1 hp => hp.elim

theorem b_errorBred (l : Launch) (G : fw_G) (M : fw_M) (N : Nat) (b o cn : Nat) (lk gn mi : Int) (T : Nat → aT) (j : aJ) (ra : aR) (hW : bnR G M b o cn lk gn mi T j ra) (hO : bnO cn lk T j ra) (dg : Nat) (hd : 1 ≤ dg ∧ dg ≤ 10) (hc0 : 0 < cn) : fMet l yX9_errorBred cX9_errorBred 2 (some .int) 8 270 0 0 G M N [.ref b, .int (iI ↑dg)] (fw_pi (fun r M1 n1 => r = iI (erT j ((brD j cn ra lk T dg).2 (bst j cn (brD j cn ra lk T dg).2)) 0) ∧ bnR G M1 b o cn lk gn mi T j ra ∧ (∀ q, q < b + 9 ∨ b + 378 ≤ q → M1 q = M q) ∧ n1 = N)) := by
  refine fw_met RX9 rfl (by decide +kernel) (Nat.le_of_ble_eq_true rfl) ?_
  intro pG e s m args below meth cG ls E hr hlk hnm hK hH hz hl
  obtain ⟨hbn, hJ, hK1, hB, hQ, ⟨rs6, hS6⟩, ⟨ip5, rs5, hR5⟩, hG, hY, hX, hZ⟩ := hW
  obtain ⟨hj, hr9, hlu, hTk⟩ := hO
  obtain ⟨hgb, ho1, hcn⟩ := hG.o1
  refine lv_aload_n E.1 E.2.1 dX9_errorBred_0 rfl (lv_at hl 0 rfl) ?_
  refine lv_iload_n E.1 E.2.1 dX9_errorBred_1 rfl (lv_at hl 1 rfl) ?_
  refine fw_cV (As := [.int (iI ↑dg)]) (rest := []) E hK hH hl hbn.2 fc_X9 fL_X9_requireBreeding ql_RX9_223 qi_yX9_requireBreeding qv_yX9_requireBreeding (k_reqBreeding l G _ _ b o cn lk gn mi T hbn hG dg (by omega) hc0) rfl rfl (Nat.le_of_ble_eq_true rfl) ⟨Nat.le_of_ble_eq_true rfl, Nat.le_of_ble_eq_true rfl⟩ ⟨Nat.le_of_ble_eq_true rfl, Nat.le_of_ble_eq_true rfl⟩ dX9_errorBred_2 (fw_kv fun M2 H1 locs1 hp1 hH hz1 => ?_)
  obtain ⟨hM9, hz2⟩ := hp1
  replace hz := hz2.trans hz
  clear hz1 hz2
  rw [hM9] at hH
  refine lv_aload_n E.1 E.2.1 dX9_errorBred_5 rfl (lv_at hl 0 rfl) ?_
  refine fw_get E hK hH hbn.2 fc_X9 7 (by decide) ql_RX9_58 rfl rfl dX9_errorBred_6 ?_
  refine lv_aload_n E.1 E.2.1 dX9_errorBred_9 rfl (lv_at hl 0 rfl) ?_
  refine fw_get E hK hH hbn.2 fc_X9 6 (by decide) ql_RX9_54 rfl rfl dX9_errorBred_10 ?_
  obtain ⟨o2, lk2, cn2, gn2, mi2, T2, hX1, hX2⟩ := hX
  have ho2 := hX1.o1.2.1
  refine fw_cV (As := [.ref (b + 33)]) (rest := []) E hK hH hl hX1.2.1 fc_X2 fL_X2_copyFrom ql_RX9_286 qi_yX2_copyFrom qv_yX2_copyFrom (k_gcopy l G _ _ (b + 33) o cn lk gn mi T hG hTk (b + 203) o2 cn2 lk2 gn2 mi2 T2 hX1 (by omega)) rfl rfl (Nat.le_of_ble_eq_true rfl) ⟨Nat.le_of_ble_eq_true rfl, Nat.le_of_ble_eq_true rfl⟩ ⟨Nat.le_of_ble_eq_true rfl, Nat.le_of_ble_eq_true rfl⟩ dX9_errorBred_13 (fw_kv fun M4 H1 locs1 hp3 hH hz1 => ?_)
  obtain ⟨hX3, hfr, hz2⟩ := hp3
  replace hz := hz2.trans hz
  clear hz1 hz2
  have fr5 := hfr
  replace hbn := bnAt.fr hbn (fun q h1 h2 => fr5 q (by omega))
  replace hJ := jW.fr hJ (fun q h1 h2 => fr5 q (by omega))
  replace hK1 := rnW.fr hK1 (fun q h1 h2 => fr5 q (by omega))
  replace hB := brW.fr hB (fun q h1 h2 => fr5 q (by omega))
  replace hQ := rnW.fr hQ (fun q h1 h2 => fr5 q (by omega))
  replace hS6 := siAt.fr hS6 (fun q h1 h2 => fr5 q (by omega))
  replace hR5 := rkAt.fr hR5 (fun q h1 h2 => fr5 q (by omega))
  replace hG := gcW.fr hG (fun q h1 h2 => fr5 q (by omega))
  replace hY := gyW.fr hY (fun q h1 h2 => fr5 q (by omega))
  replace hZ := tany.fr hZ (fun q h1 h2 => fr5 q (by omega))
  replace hX2 := gyW.fr hX2 (fun q h1 h2 => fr5 q (by omega))
  refine lv_aload_n E.1 E.2.1 dX9_errorBred_16 rfl (lv_at hl 0 rfl) ?_
  refine fw_get E hK hH hbn.2 fc_X9 3 (by decide) ql_RX9_33 rfl rfl dX9_errorBred_17 ?_
  refine lv_iload_n E.1 E.2.1 dX9_errorBred_20 rfl (lv_at hl 1 rfl) ?_
  refine lv_aload_n E.1 E.2.1 dX9_errorBred_21 rfl (lv_at hl 0 rfl) ?_
  refine fw_get E hK hH hbn.2 fc_X9 7 (by decide) ql_RX9_58 rfl rfl dX9_errorBred_22 ?_
  refine lv_aload_n E.1 E.2.1 dX9_errorBred_25 rfl (lv_at hl 0 rfl) ?_
  refine fw_get E hK hH hbn.2 fc_X9 1 (by decide) ql_RX9_19 rfl rfl dX9_errorBred_26 ?_
  refine fw_cV (As := [.int (iI ↑dg), .ref (b + 203), .ref (b + 9)]) (rest := []) E hK hH hl hB.2 fc_X0 fL_X0_errorAfter ql_RX9_226 qi_yX0_errorAfter qv_yX0_errorAfter (k_errorAfter l G _ _ (b + 21) (b + 9) dg ra j (b + 203) o2 cn lk gn mi T hX3 hB hQ hX2.z hJ hj hTk hr9 hlu hc0 (by omega) (by omega) (by omega)) rfl rfl (Nat.le_of_ble_eq_true rfl) ⟨Nat.le_of_ble_eq_true rfl, Nat.le_of_ble_eq_true rfl⟩ ⟨Nat.le_of_ble_eq_true rfl, Nat.le_of_ble_eq_true rfl⟩ dX9_errorBred_29 (fw_ki fun r8 M7 H1 locs1 hp6 hH hz1 => ?_)
  obtain ⟨rfl, ⟨o42, gn42, mi42, hG42, hY42⟩, hJ42, hB42, hQ42, hfr, hz2⟩ := hp6
  have hox42 := hG42.o1.2.1
  replace hz := hz2.trans hz
  clear hz1 hz2
  have fr9 := hfr
  replace hbn := bnAt.fr hbn (fun q h1 h2 => fr9 q (by omega))
  replace hK1 := rnW.fr hK1 (fun q h1 h2 => fr9 q (by omega))
  replace hS6 := siAt.fr hS6 (fun q h1 h2 => fr9 q (by omega))
  replace hR5 := rkAt.fr hR5 (fun q h1 h2 => fr9 q (by omega))
  replace hG := gcW.fr hG (fun q h1 h2 => fr9 q (by omega))
  replace hY := gyW.fr hY (fun q h1 h2 => fr9 q (by omega))
  replace hZ := tany.fr hZ (fun q h1 h2 => fr9 q (by omega))
  refine fw_iret E hr hlk hH ?_ dX9_errorBred_32
  exact ⟨rfl, ⟨hbn, hJ42, hK1, hB42, hQ42, ⟨_, hS6⟩, ⟨_, _, hR5⟩, hG, hY.z, ⟨_, _, _, _, _, _, hG42, hY42.z⟩, hZ⟩, (fun q hq => by rw [fr9 q (by omega), fr5 q (by omega)]), hz⟩
theorem b_breed (l : Launch) (G : fw_G) (M : fw_M) (N : Nat) (b o cn : Nat) (lk gn mi : Int) (T : Nat → aT) (j : aJ) (ra : aR) (hW : bnR G M b o cn lk gn mi T j ra) (hO : bnO cn lk T j ra) (dg : Nat) (hd : 1 ≤ dg ∧ dg ≤ 10) (hc0 : 0 < cn) : fMet l yX9_breed cX9_breed 2 (some .int) 8 270 0 0 G M N [.ref b, .int (iI ↑dg)] (fw_pi (fun r M1 n1 => r = iI (erT j ((brD j cn ra lk T dg).2 (bst j cn (brD j cn ra lk T dg).2)) 0) ∧ (∃ (o1 : Nat) (gn1 mi1 : Int), bnR G M1 b o1 cn (brD j cn ra lk T dg).1 gn1 mi1 (brD j cn ra lk T dg).2 j ra) ∧ (∀ q, q < b + 9 ∨ b + 378 ≤ q → M1 q = M q) ∧ n1 = N)) := by
  refine fw_met RX9 rfl (by decide +kernel) (Nat.le_of_ble_eq_true rfl) ?_
  intro pG e s m args below meth cG ls E hr hlk hnm hK hH hz hl
  obtain ⟨hbn, hJ, hK1, hB, hQ, ⟨rs6, hS6⟩, ⟨ip5, rs5, hR5⟩, hG, hY, hX, hZ⟩ := hW
  obtain ⟨hj, hr9, hlu, hTk⟩ := hO
  obtain ⟨hgb, ho1, hcn⟩ := hG.o1
  refine lv_aload_n E.1 E.2.1 dX9_breed_0 rfl (lv_at hl 0 rfl) ?_
  refine lv_iload_n E.1 E.2.1 dX9_breed_1 rfl (lv_at hl 1 rfl) ?_
  refine fw_cV (As := [.int (iI ↑dg)]) (rest := []) E hK hH hl hbn.2 fc_X9 fL_X9_requireBreeding ql_RX9_223 qi_yX9_requireBreeding qv_yX9_requireBreeding (k_reqBreeding l G _ _ b o cn lk gn mi T hbn hG dg (by omega) hc0) rfl rfl (Nat.le_of_ble_eq_true rfl) ⟨Nat.le_of_ble_eq_true rfl, Nat.le_of_ble_eq_true rfl⟩ ⟨Nat.le_of_ble_eq_true rfl, Nat.le_of_ble_eq_true rfl⟩ dX9_breed_2 (fw_kv fun M2 H1 locs1 hp1 hH hz1 => ?_)
  obtain ⟨hM9, hz2⟩ := hp1
  replace hz := hz2.trans hz
  clear hz1 hz2
  rw [hM9] at hH
  refine lv_aload_n E.1 E.2.1 dX9_breed_5 rfl (lv_at hl 0 rfl) ?_
  refine fw_get E hK hH hbn.2 fc_X9 3 (by decide) ql_RX9_33 rfl rfl dX9_breed_6 ?_
  refine lv_iload_n E.1 E.2.1 dX9_breed_9 rfl (lv_at hl 1 rfl) ?_
  refine lv_aload_n E.1 E.2.1 dX9_breed_10 rfl (lv_at hl 0 rfl) ?_
  refine fw_get E hK hH hbn.2 fc_X9 6 (by decide) ql_RX9_54 rfl rfl dX9_breed_11 ?_
  refine lv_aload_n E.1 E.2.1 dX9_breed_14 rfl (lv_at hl 0 rfl) ?_
  refine fw_get E hK hH hbn.2 fc_X9 1 (by decide) ql_RX9_19 rfl rfl dX9_breed_15 ?_
  refine fw_cV (As := [.int (iI ↑dg), .ref (b + 33), .ref (b + 9)]) (rest := []) E hK hH hl hB.2 fc_X0 fL_X0_errorAfter ql_RX9_226 qi_yX0_errorAfter qv_yX0_errorAfter (k_errorAfter l G _ _ (b + 21) (b + 9) dg ra j (b + 33) o cn lk gn mi T hG hB hQ hY.z hJ hj hTk hr9 hlu hc0 (by omega) (by omega) (by omega)) rfl rfl (Nat.le_of_ble_eq_true rfl) ⟨Nat.le_of_ble_eq_true rfl, Nat.le_of_ble_eq_true rfl⟩ ⟨Nat.le_of_ble_eq_true rfl, Nat.le_of_ble_eq_true rfl⟩ dX9_breed_18 (fw_ki fun r5 M4 H1 locs1 hp3 hH hz1 => ?_)
  obtain ⟨rfl, ⟨o20, gn20, mi20, hG20, hY20⟩, hJ20, hB20, hQ20, hfr, hz2⟩ := hp3
  have hox20 := hG20.o1.2.1
  replace hz := hz2.trans hz
  clear hz1 hz2
  have fr6 := hfr
  replace hbn := bnAt.fr hbn (fun q h1 h2 => fr6 q (by omega))
  replace hK1 := rnW.fr hK1 (fun q h1 h2 => fr6 q (by omega))
  replace hS6 := siAt.fr hS6 (fun q h1 h2 => fr6 q (by omega))
  replace hR5 := rkAt.fr hR5 (fun q h1 h2 => fr6 q (by omega))
  replace hX := gvX.fr hX (fun q h1 h2 => fr6 q (by omega))
  replace hZ := tany.fr hZ (fun q h1 h2 => fr6 q (by omega))
  refine fw_iret E hr hlk hH ?_ dX9_breed_21
  exact ⟨rfl, ⟨_, _, _, ⟨hbn, hJ20, hK1, hB20, hQ20, ⟨_, hS6⟩, ⟨_, _, hR5⟩, hG20, hY20.z, hX, hZ⟩⟩, (fun q hq => by rw [fr6 q (by omega)]), hz⟩
def dgN (t : aT) (d : Int64) : Nat → Int64
  | 0 => d
  | k + 1 => (dgN t d k * 31 + (iI (t.2.1 k)).toInt64) * 31 + (iI (t.2.2.1 k)).toInt64
def dgW (j : aJ) (t : aT) (d : Int64) : Int64 := dgN t (((((d * 31 + (iI ↑t.1).toInt64) * 31 + (iI ↑(lvF t.1 t.2.1 t.2.2.2)).toInt64) * 31 + (iI (erT j t 0)).toInt64) * 31 + (iI (meT j t)).toInt64) * 31 + (iI (htT j t)).toInt64) t.1
def dgT (j : aJ) (T : Nat → aT) (d : Int64) : Nat → Int64
  | 0 => d
  | i + 1 => dgW j (T i) (dgT j T d i)
def dgR (j : aJ) (cn : Nat) (T : Nat → aT) (d : Int64) : Nat → Int64
  | 0 => d
  | i + 1 => dgR j cn T d i * 31 + (iI ↑(rkT j cn T i)).toInt64
def dgH (cn : Nat) (lk gn mi : Int) (T : Nat → aT) (j : aJ) : Int64 := (((((((58042 * 31 + (iI 0).toInt64) * 31 + (iI ↑cn).toInt64) * 31 + (iI ↑j.2.2.2.2.1).toInt64) * 31 + (iI gn).toInt64) * 31 + (iI mi).toInt64) * 31 + (iI lk).toInt64) * 31 + (iI 0).toInt64) * 31 + (iI ↑(dfF T cn)).toInt64
def dgA (cn : Nat) (lk gn mi : Int) (T : Nat → aT) (j : aJ) : Int64 := dgR j cn T (dgT j T (dgH cn lk gn mi T j) cn) cn
theorem b_different (l : Launch) (G : fw_G) (M : fw_M) (N : Nat) (b o cn : Nat) (lk gn mi : Int) (T : Nat → aT) (hbn : bnAt G M b) (hG : gcW G M (b + 33) o lk cn gn mi T) (hTk : ∀ k, k < cn → aOK (T k)) : fMet l yX9_different cX9_different 3 (some .int) 4 130 0 0 G M N [.ref b] (fw_pi (fun r M1 n1 => r = iI (↑(dfF T cn)) ∧ M1 = M ∧ n1 = N)) := by
  refine fw_met RX9 rfl (by decide +kernel) (Nat.le_of_ble_eq_true rfl) ?_
  intro pG e s m args below meth cG ls E hr hlk hnm hK hH hz hl
  obtain ⟨hgb, ho1, hcn⟩ := hG.o1
  refine lv_iconst (v := iI 0) E.1 E.2.1 dX9_different_0 (by decide) ?_
  refine lv_istore_n (lv' := [(1, .int (iI 0)), (0, .ref b)]) E.1 E.2.1 dX9_different_1 rfl hl (by decide) rfl (fun ls hl => ?_)
  refine lv_iconst (v := iI 0) E.1 E.2.1 dX9_different_2 (by decide) ?_
  refine lv_istore_n (lv' := [(2, .int (iI 0)), (1, .int (iI 0)), (0, .ref b)]) E.1 E.2.1 dX9_different_3 rfl hl (by decide) rfl (fun ls hl => ?_)
  have loop4_1 : ∀ (d4 : Nat) (i : Nat) (Mw4 : fw_M) (H : Heap) (locs : List Loc) (ls : Array Slot), cn - i < d4 → i ≤ cn → Mw4 = M → fw_H G s Mw4 H locs → H.size = N → bnAt G Mw4 b → gcW G Mw4 (b + 33) o lk cn gn mi T → lv_has ls 3 [(0, .ref b), (1, .int (iI (↑(dfF T i)))), (2, .int (iI ↑i))] → W pG l e ({ frames := 4, cells := 0, slots := 0, locals := 130 } : Room) s m args below meth cG H locs (0) (0) (MQ below (fw_Q G (fw_pi (fun r M1 n1 => r = iI (↑(dfF T cn)) ∧ M1 = M ∧ n1 = N))) args s 0 0 (fun q => G.2.2.1 ≤ q)) (F0 m 4 ls []) := by
    intro d4
    induction d4 with
    | zero => intro i Mw4 H locs ls hd; exact absurd hd (Nat.not_lt_zero _)
    | succ d4 ih4 =>
      intro i Mw4 H locs ls hd4 ii hMw hH hz hbn hG hl
      refine lv_iload_n E.1 E.2.1 dX9_different_4 rfl (lv_at hl 2 rfl) ?_
      refine lv_aload_n E.1 E.2.1 dX9_different_5 rfl (lv_at hl 0 rfl) ?_
      refine fw_get E hK hH hbn.2 fc_X9 6 (by decide) ql_RX9_54 rfl rfl dX9_different_6 ?_
      refine fw_getN E hK hH hG.2.1 fc_X2 4 (by decide) ql_RX9_99 rfl rfl dX9_different_9 ?_
      refine fw_icmp_ge (tgt := 35) E dX9_different_12 (by decide) (by omega) (by omega) (by omega) (by omega) (fun c1 => ?_) (fun c1 => ?_)
      · refine lv_iload_n E.1 E.2.1 dX9_different_35 rfl (lv_at hl 1 rfl) ?_
        refine fw_iret E hr hlk hH ?_ dX9_different_36
        have e9 : i = cn := by omega
        exact ⟨by rw [e9], hMw, hz⟩
      · have hdl := dfF_le T i
        refine lv_aload_n E.1 E.2.1 dX9_different_15 rfl (lv_at hl 0 rfl) ?_
        refine fw_get E hK hH hbn.2 fc_X9 6 (by decide) ql_RX9_54 rfl rfl dX9_different_16 ?_
        refine lv_iload_n E.1 E.2.1 dX9_different_19 rfl (lv_at hl 2 rfl) ?_
        refine fw_cV (As := [.int (iI ↑i)]) (rest := []) E hK hH hl hG.2.1 fc_X2 fL_X2_hasEarlierTwin ql_RX9_271 qi_yX2_hasEarlierTwin qv_yX2_hasEarlierTwin (k_twin l G _ _ (b + 33) o cn lk gn mi T hG hTk i (by omega)) rfl rfl (Nat.le_of_ble_eq_true rfl) ⟨Nat.le_of_ble_eq_true rfl, Nat.le_of_ble_eq_true rfl⟩ ⟨Nat.le_of_ble_eq_true rfl, Nat.le_of_ble_eq_true rfl⟩ dX9_different_20 (fw_ki fun r4 M3 H1 locs1 hp2 hH hz1 => ?_)
        obtain ⟨rfl, hM9, hz2⟩ := hp2
        have htk := twK_01 T i i
        replace hz := hz2.trans hz
        clear hz1 hz2
        rw [hM9] at hH
        refine fw_if_ne (tgt := 29) E dX9_different_23 (by decide) (by omega) (by omega) (fun c5 => ?_) (fun c5 => ?_)
        · refine lv_iinc (v := iI (↑i + 1)) (lv' := [(2, .int (iI (↑i + 1))), (0, .ref b), (1, .int (iI (↑(dfF T i))))]) E.1 E.2.1 dX9_different_29 hl (k := 2) rfl (iI_inc rfl) (by decide) rfl (fun ls hl => ?_)
          refine lv_goto (tgt := 4) E.1 E.2.1 dX9_different_32 (by decide) ?_
          have hdf : ((↑(dfF T (i + 1))) : Int) = ↑(dfF T i) := by show (((dfF T i + (if twK T i i = 0 then 1 else 0) : Nat)) : Int) = _; rw [if_neg (by omega)]; omega
          rw [← hdf] at hl
          exact ih4 (i + 1) _ _ _ _ (by omega) (by omega) hMw hH (by omega) hbn hG (lv_sub hl [1, 2, 0] rfl)
        · refine lv_iinc (v := iI (↑(dfF T i) + 1)) (lv' := [(1, .int (iI (↑(dfF T i) + 1))), (0, .ref b), (2, .int (iI ↑i))]) E.1 E.2.1 dX9_different_26 hl (k := 1) rfl (iI_inc rfl) (by decide) rfl (fun ls hl => ?_)
          refine lv_iinc (v := iI (↑i + 1)) (lv' := [(2, .int (iI (↑i + 1))), (1, .int (iI (↑(dfF T i) + 1))), (0, .ref b)]) E.1 E.2.1 dX9_different_29 hl (k := 2) rfl (iI_inc rfl) (by decide) rfl (fun ls hl => ?_)
          refine lv_goto (tgt := 4) E.1 E.2.1 dX9_different_32 (by decide) ?_
          have hdf : ((↑(dfF T (i + 1))) : Int) = ↑(dfF T i) + 1 := by show (((dfF T i + (if twK T i i = 0 then 1 else 0) : Nat)) : Int) = _; rw [if_pos (by omega)]; omega
          rw [← hdf] at hl
          exact ih4 (i + 1) _ _ _ _ (by omega) (by omega) hMw hH (by omega) hbn hG (lv_sub hl [2, 1, 0] rfl)
  exact loop4_1 (cn - 0 + 1) 0 _ _ _ _ (Nat.lt_succ_self _) (Nat.zero_le _) rfl hH (by omega) hbn hG (lv_sub hl [2, 1, 0] rfl)
set_option maxHeartbeats 1000000 in
theorem b_digestWith (l : Launch) (G : fw_G) (M : fw_M) (N : Nat) (b tr : Nat) (t : aT) (j : aJ) (d : Int64) (hbn : bnAt G M b) (hJ : jW G M (b + 9) j) (hA : aTw G M tr t) (hj : jOK j) (hv : vtOK t.1 t.2.1 t.2.2.1 t.2.2.2) (hs9 : b + 33 ≤ tr) : fMet l yX9_digestWith cX9_digestWith 7 (some .long) 4 170 0 0 G M N [.ref b, .long d, .ref tr] (fw_pl (fun r M1 n1 => r = dgW j t d ∧ jW G M1 (b + 9) j ∧ (∀ q, q < b + 10 ∨ b + 13 ≤ q → M1 q = M q) ∧ n1 = N)) := by
  refine fw_met RX9 rfl (by decide +kernel) (Nat.le_of_ble_eq_true rfl) ?_
  intro pG e s m args below meth cG ls E hr hlk hnm hK hH hz hl
  have hv1 := hv.1
  refine lv_lload_n E.1 E.2.1 dX9_digestWith_0 rfl (lv_at hl 1 rfl) ?_
  refine lv_lstore (lv' := [(4, .long d), (0, .ref b), (1, .long d), (3, .ref tr)]) E.1 E.2.1 dX9_digestWith_1 hl (by decide) rfl (fun ls hl => ?_)
  refine lv_lload E.1 E.2.1 dX9_digestWith_3 (lv_at hl 0 rfl) ?_
  refine lv_ldc2 E.1 E.2.1 E.2.2.2.1 (E.2.2.2.2 _ ql_RX9_291) dX9_digestWith_5 ?_
  refine lv_lmul E.1 E.2.1 dX9_digestWith_8 ?_
  refine lv_aload_n E.1 E.2.1 dX9_digestWith_9 rfl (lv_at hl 3 rfl) ?_
  refine fw_getN E hK hH hA.c fc_X8 4 (by decide) ql_RX9_93 rfl rfl dX9_digestWith_10 ?_
  refine lv_i2l (v := (iI (↑t.1)).toInt64) E.1 E.2.1 dX9_digestWith_13 rfl ?_
  refine lv_ladd E.1 E.2.1 dX9_digestWith_14 ?_
  refine lv_lstore (lv' := [(4, .long ((d * 31) + (iI (↑t.1)).toInt64)), (0, .ref b), (1, .long d), (3, .ref tr)]) E.1 E.2.1 dX9_digestWith_15 hl (by decide) rfl (fun ls hl => ?_)
  refine lv_lload E.1 E.2.1 dX9_digestWith_17 (lv_at hl 0 rfl) ?_
  refine lv_ldc2 E.1 E.2.1 E.2.2.2.1 (E.2.2.2.2 _ ql_RX9_291) dX9_digestWith_19 ?_
  refine lv_lmul E.1 E.2.1 dX9_digestWith_22 ?_
  refine lv_aload_n E.1 E.2.1 dX9_digestWith_23 rfl (lv_at hl 3 rfl) ?_
  refine fw_getN E hK hH hA.c fc_X8 5 (by decide) ql_RX9_230 rfl rfl dX9_digestWith_24 ?_
  refine lv_i2l (v := (iI (↑(lvF t.1 t.2.1 t.2.2.2))).toInt64) E.1 E.2.1 dX9_digestWith_27 rfl ?_
  refine lv_ladd E.1 E.2.1 dX9_digestWith_28 ?_
  refine lv_lstore (lv' := [(4, .long ((((d * 31) + (iI (↑t.1)).toInt64) * 31) + (iI (↑(lvF t.1 t.2.1 t.2.2.2))).toInt64)), (0, .ref b), (1, .long d), (3, .ref tr)]) E.1 E.2.1 dX9_digestWith_29 hl (by decide) rfl (fun ls hl => ?_)
  refine lv_lload E.1 E.2.1 dX9_digestWith_31 (lv_at hl 0 rfl) ?_
  refine lv_ldc2 E.1 E.2.1 E.2.2.2.1 (E.2.2.2.2 _ ql_RX9_291) dX9_digestWith_33 ?_
  refine lv_lmul E.1 E.2.1 dX9_digestWith_36 ?_
  refine lv_aload_n E.1 E.2.1 dX9_digestWith_37 rfl (lv_at hl 1 rfl) ?_
  refine fw_get E hK hH hbn.2 fc_X9 1 (by decide) ql_RX9_19 rfl rfl dX9_digestWith_38 ?_
  refine lv_aload_n E.1 E.2.1 dX9_digestWith_41 rfl (lv_at hl 3 rfl) ?_
  refine lv_iconst (v := iI 0) E.1 E.2.1 dX9_digestWith_42 (by decide) ?_
  refine fw_cV (As := [.ref tr, .int (iI 0)]) (rest := [.long (((((d * 31) + (iI (↑t.1)).toInt64) * 31) + (iI (↑(lvF t.1 t.2.1 t.2.2.2))).toInt64) * 31)]) E hK hH hl hJ.c fc_X3 fL_X3_errorOf ql_RX9_249 qi_yX3_errorOf qv_yX3_errorOf (k_errorG l G _ _ (b + 9) tr j t hJ hA hv hj (by omega) 0 hv1.1) rfl rfl (Nat.le_of_ble_eq_true rfl) ⟨Nat.le_of_ble_eq_true rfl, Nat.le_of_ble_eq_true rfl⟩ ⟨Nat.le_of_ble_eq_true rfl, Nat.le_of_ble_eq_true rfl⟩ dX9_digestWith_43 (fw_ki fun r3 M2 H1 locs1 hp1 hH hz1 => ?_)
  obtain ⟨rfl, hJ30, hfr, hz2⟩ := hp1
  replace hz := hz2.trans hz
  clear hz1 hz2
  have fr4 := hfr
  replace hbn := bnAt.fr hbn (fun q h1 h2 => fr4 q (by omega))
  replace hA := aTw.fr hA (fun q h1 h2 => fr4 q (by omega))
  refine lv_i2l (v := (iI (erT j t 0)).toInt64) E.1 E.2.1 dX9_digestWith_46 rfl ?_
  refine lv_ladd E.1 E.2.1 dX9_digestWith_47 ?_
  refine lv_lstore (lv' := [(4, .long ((((((d * 31) + (iI (↑t.1)).toInt64) * 31) + (iI (↑(lvF t.1 t.2.1 t.2.2.2))).toInt64) * 31) + (iI (erT j t 0)).toInt64)), (0, .ref b), (1, .long d), (3, .ref tr)]) E.1 E.2.1 dX9_digestWith_48 hl (by decide) rfl (fun ls hl => ?_)
  refine lv_lload E.1 E.2.1 dX9_digestWith_50 (lv_at hl 0 rfl) ?_
  refine lv_ldc2 E.1 E.2.1 E.2.2.2.1 (E.2.2.2.2 _ ql_RX9_291) dX9_digestWith_52 ?_
  refine lv_lmul E.1 E.2.1 dX9_digestWith_55 ?_
  refine lv_aload_n E.1 E.2.1 dX9_digestWith_56 rfl (lv_at hl 1 rfl) ?_
  refine fw_get E hK hH hbn.2 fc_X9 1 (by decide) ql_RX9_19 rfl rfl dX9_digestWith_57 ?_
  refine lv_aload_n E.1 E.2.1 dX9_digestWith_60 rfl (lv_at hl 3 rfl) ?_
  refine fw_cV (As := [.ref tr]) (rest := [.long (((((((d * 31) + (iI (↑t.1)).toInt64) * 31) + (iI (↑(lvF t.1 t.2.1 t.2.2.2))).toInt64) * 31) + (iI (erT j t 0)).toInt64) * 31)]) E hK hH hl hJ30.c fc_X3 fL_X3_meritOf ql_RX9_252 qi_yX3_meritOf qv_yX3_meritOf (k_meritG l G _ _ (b + 9) tr j t hJ30 hA hv hj (by omega)) rfl rfl (Nat.le_of_ble_eq_true rfl) ⟨Nat.le_of_ble_eq_true rfl, Nat.le_of_ble_eq_true rfl⟩ ⟨Nat.le_of_ble_eq_true rfl, Nat.le_of_ble_eq_true rfl⟩ dX9_digestWith_61 (fw_ki fun r7 M6 H1 locs1 hp5 hH hz1 => ?_)
  obtain ⟨rfl, hJ46, hfr, hz2⟩ := hp5
  replace hz := hz2.trans hz
  clear hz1 hz2
  have fr8 := hfr
  replace hbn := bnAt.fr hbn (fun q h1 h2 => fr8 q (by omega))
  replace hA := aTw.fr hA (fun q h1 h2 => fr8 q (by omega))
  refine lv_i2l (v := (iI (meT j t)).toInt64) E.1 E.2.1 dX9_digestWith_64 rfl ?_
  refine lv_ladd E.1 E.2.1 dX9_digestWith_65 ?_
  refine lv_lstore (lv' := [(4, .long ((((((((d * 31) + (iI (↑t.1)).toInt64) * 31) + (iI (↑(lvF t.1 t.2.1 t.2.2.2))).toInt64) * 31) + (iI (erT j t 0)).toInt64) * 31) + (iI (meT j t)).toInt64)), (0, .ref b), (1, .long d), (3, .ref tr)]) E.1 E.2.1 dX9_digestWith_66 hl (by decide) rfl (fun ls hl => ?_)
  refine lv_lload E.1 E.2.1 dX9_digestWith_68 (lv_at hl 0 rfl) ?_
  refine lv_ldc2 E.1 E.2.1 E.2.2.2.1 (E.2.2.2.2 _ ql_RX9_291) dX9_digestWith_70 ?_
  refine lv_lmul E.1 E.2.1 dX9_digestWith_73 ?_
  refine lv_aload_n E.1 E.2.1 dX9_digestWith_74 rfl (lv_at hl 1 rfl) ?_
  refine fw_get E hK hH hbn.2 fc_X9 1 (by decide) ql_RX9_19 rfl rfl dX9_digestWith_75 ?_
  refine lv_aload_n E.1 E.2.1 dX9_digestWith_78 rfl (lv_at hl 3 rfl) ?_
  refine fw_cV (As := [.ref tr]) (rest := [.long (((((((((d * 31) + (iI (↑t.1)).toInt64) * 31) + (iI (↑(lvF t.1 t.2.1 t.2.2.2))).toInt64) * 31) + (iI (erT j t 0)).toInt64) * 31) + (iI (meT j t)).toInt64) * 31)]) E hK hH hl hJ46.c fc_X3 fL_X3_hitsOf ql_RX9_256 qi_yX3_hitsOf qv_yX3_hitsOf (k_hitsG l G _ _ (b + 9) tr j t hJ46 hA hv hj (by omega)) rfl rfl (Nat.le_of_ble_eq_true rfl) ⟨Nat.le_of_ble_eq_true rfl, Nat.le_of_ble_eq_true rfl⟩ ⟨Nat.le_of_ble_eq_true rfl, Nat.le_of_ble_eq_true rfl⟩ dX9_digestWith_79 (fw_ki fun r11 M10 H1 locs1 hp9 hH hz1 => ?_)
  obtain ⟨rfl, hJ62, hfr, hz2⟩ := hp9
  replace hz := hz2.trans hz
  clear hz1 hz2
  have fr12 := hfr
  replace hbn := bnAt.fr hbn (fun q h1 h2 => fr12 q (by omega))
  replace hA := aTw.fr hA (fun q h1 h2 => fr12 q (by omega))
  refine lv_i2l (v := (iI (htT j t)).toInt64) E.1 E.2.1 dX9_digestWith_82 rfl ?_
  refine lv_ladd E.1 E.2.1 dX9_digestWith_83 ?_
  refine lv_lstore (lv' := [(4, .long ((((((((((d * 31) + (iI (↑t.1)).toInt64) * 31) + (iI (↑(lvF t.1 t.2.1 t.2.2.2))).toInt64) * 31) + (iI (erT j t 0)).toInt64) * 31) + (iI (meT j t)).toInt64) * 31) + (iI (htT j t)).toInt64)), (0, .ref b), (1, .long d), (3, .ref tr)]) E.1 E.2.1 dX9_digestWith_84 hl (by decide) rfl (fun ls hl => ?_)
  refine lv_iconst (v := iI 0) E.1 E.2.1 dX9_digestWith_86 (by decide) ?_
  refine lv_istore (lv' := [(6, .int (iI 0)), (4, .long ((((((((((d * 31) + (iI (↑t.1)).toInt64) * 31) + (iI (↑(lvF t.1 t.2.1 t.2.2.2))).toInt64) * 31) + (iI (erT j t 0)).toInt64) * 31) + (iI (meT j t)).toInt64) * 31) + (iI (htT j t)).toInt64)), (0, .ref b), (1, .long d), (3, .ref tr)]) E.1 E.2.1 dX9_digestWith_87 hl (by decide) rfl (fun ls hl => ?_)
  obtain ⟨d0, hd0⟩ : ∃ y, y = (((((d * 31 + (iI ↑t.1).toInt64) * 31 + (iI ↑(lvF t.1 t.2.1 t.2.2.2)).toInt64) * 31 + (iI (erT j t 0)).toInt64) * 31 + (iI (meT j t)).toInt64) * 31 + (iI (htT j t)).toInt64) := ⟨_, rfl⟩
  have hl9 := hl; rw [show ((((((((((d * 31) + (iI (↑t.1)).toInt64) * 31) + (iI (↑(lvF t.1 t.2.1 t.2.2.2))).toInt64) * 31) + (iI (erT j t 0)).toInt64) * 31) + (iI (meT j t)).toInt64) * 31) + (iI (htT j t)).toInt64) = d0 from hd0.symm] at hl
  have hfr0 : ∀ q, q < b + 10 ∨ b + 13 ≤ q → M10 q = M q := (fun q hq => by rw [fr12 q (by omega), fr8 q (by omega), fr4 q (by omega)])
  have loop89_1 : ∀ (d89 : Nat) (i : Nat) (Mw89 : fw_M) (H : Heap) (locs : List Loc) (ls : Array Slot), t.1 - i < d89 → i ≤ t.1 → (∀ q, q < b + 10 ∨ b + 13 ≤ q → Mw89 q = M q) → fw_H G s Mw89 H locs → H.size = N → bnAt G Mw89 b → jW G Mw89 (b + 9) j → aTw G Mw89 tr t → lv_has ls 7 [(0, .ref b), (3, .ref tr), (4, .long (dgN t d0 i)), (6, .int (iI ↑i))] → W pG l e ({ frames := 4, cells := 0, slots := 0, locals := 170 } : Room) s m args below meth cG H locs (0) (0) (MQ below (fw_Q G (fw_pl (fun r M1 n1 => r = dgW j t d ∧ jW G M1 (b + 9) j ∧ (∀ q, q < b + 10 ∨ b + 13 ≤ q → M1 q = M q) ∧ n1 = N))) args s 0 0 (fun q => G.2.2.1 ≤ q)) (F0 m 89 ls []) := by
    intro d89
    induction d89 with
    | zero => intro i Mw89 H locs ls hd; exact absurd hd (Nat.not_lt_zero _)
    | succ d89 ih89 =>
      intro i Mw89 H locs ls hd89 ii hfr0 hH hz hbn hJ hA hl
      refine lv_iload E.1 E.2.1 dX9_digestWith_89 (lv_at hl 3 rfl) ?_
      refine lv_aload_n E.1 E.2.1 dX9_digestWith_91 rfl (lv_at hl 1 rfl) ?_
      refine fw_getN E hK hH hA.c fc_X8 4 (by decide) ql_RX9_93 rfl rfl dX9_digestWith_92 ?_
      refine fw_icmp_ge (tgt := 136) E dX9_digestWith_95 (by decide) (by omega) (by omega) (by omega) (by omega) (fun c13 => ?_) (fun c13 => ?_)
      · refine lv_lload E.1 E.2.1 dX9_digestWith_136 (lv_at hl 2 rfl) ?_
        refine fw_lret E hr hlk hH ?_ dX9_digestWith_138
        have e9 : i = t.1 := by omega
        exact ⟨by rw [e9, hd0]; rfl, hJ, hfr0, hz⟩
      · refine lv_lload E.1 E.2.1 dX9_digestWith_98 (lv_at hl 2 rfl) ?_
        refine lv_ldc2 E.1 E.2.1 E.2.2.2.1 (E.2.2.2.2 _ ql_RX9_291) dX9_digestWith_100 ?_
        refine lv_lmul E.1 E.2.1 dX9_digestWith_103 ?_
        refine lv_aload_n E.1 E.2.1 dX9_digestWith_104 rfl (lv_at hl 1 rfl) ?_
        refine lv_iload E.1 E.2.1 dX9_digestWith_105 (lv_at hl 3 rfl) ?_
        refine fw_cV (As := [.int (iI ↑i)]) (rest := [.long ((dgN t d0 i) * 31)]) E hK hH hl hA.c fc_X8 fL_X8_code ql_RX9_158 qi_yX8_code qv_yX8_code (k_codeG l G _ _ tr t hA hv i (by omega)) rfl rfl (Nat.le_of_ble_eq_true rfl) ⟨Nat.le_of_ble_eq_true rfl, Nat.le_of_ble_eq_true rfl⟩ ⟨Nat.le_of_ble_eq_true rfl, Nat.le_of_ble_eq_true rfl⟩ dX9_digestWith_107 (fw_ki fun r16 M15 H1 locs1 hp14 hH hz1 => ?_)
        obtain ⟨rfl, hM9, hz2⟩ := hp14
        replace hz := hz2.trans hz
        clear hz1 hz2
        rw [hM9] at hH
        refine lv_i2l (v := (iI (t.2.1 i)).toInt64) E.1 E.2.1 dX9_digestWith_110 rfl ?_
        refine lv_ladd E.1 E.2.1 dX9_digestWith_111 ?_
        refine lv_lstore (lv' := [(4, .long (((dgN t d0 i) * 31) + (iI (t.2.1 i)).toInt64)), (0, .ref b), (3, .ref tr), (6, .int (iI ↑i))]) E.1 E.2.1 dX9_digestWith_112 hl (by decide) rfl (fun ls hl => ?_)
        refine lv_lload E.1 E.2.1 dX9_digestWith_114 (lv_at hl 0 rfl) ?_
        refine lv_ldc2 E.1 E.2.1 E.2.2.2.1 (E.2.2.2.2 _ ql_RX9_291) dX9_digestWith_116 ?_
        refine lv_lmul E.1 E.2.1 dX9_digestWith_119 ?_
        refine lv_aload_n E.1 E.2.1 dX9_digestWith_120 rfl (lv_at hl 2 rfl) ?_
        refine lv_iload E.1 E.2.1 dX9_digestWith_121 (lv_at hl 3 rfl) ?_
        refine fw_cV (As := [.int (iI ↑i)]) (rest := [.long ((((dgN t d0 i) * 31) + (iI (t.2.1 i)).toInt64) * 31)]) E hK hH hl hA.c fc_X8 fL_X8_value ql_RX9_233 qi_yX8_value qv_yX8_value (k_valueG l G _ _ tr t hA hv i (by omega)) rfl rfl (Nat.le_of_ble_eq_true rfl) ⟨Nat.le_of_ble_eq_true rfl, Nat.le_of_ble_eq_true rfl⟩ ⟨Nat.le_of_ble_eq_true rfl, Nat.le_of_ble_eq_true rfl⟩ dX9_digestWith_123 (fw_ki fun r19 M18 H1 locs1 hp17 hH hz1 => ?_)
        obtain ⟨rfl, hM9, hz2⟩ := hp17
        replace hz := hz2.trans hz
        clear hz1 hz2
        rw [hM9] at hH
        refine lv_i2l (v := (iI (t.2.2.1 i)).toInt64) E.1 E.2.1 dX9_digestWith_126 rfl ?_
        refine lv_ladd E.1 E.2.1 dX9_digestWith_127 ?_
        refine lv_lstore (lv' := [(4, .long (((((dgN t d0 i) * 31) + (iI (t.2.1 i)).toInt64) * 31) + (iI (t.2.2.1 i)).toInt64)), (0, .ref b), (3, .ref tr), (6, .int (iI ↑i))]) E.1 E.2.1 dX9_digestWith_128 hl (by decide) rfl (fun ls hl => ?_)
        refine lv_iinc (v := iI (↑i + 1)) (lv' := [(6, .int (iI (↑i + 1))), (4, .long (((((dgN t d0 i) * 31) + (iI (t.2.1 i)).toInt64) * 31) + (iI (t.2.2.1 i)).toInt64)), (0, .ref b), (3, .ref tr)]) E.1 E.2.1 dX9_digestWith_130 hl (k := 3) rfl (iI_inc rfl) (by decide) rfl (fun ls hl => ?_)
        refine lv_goto (tgt := 89) E.1 E.2.1 dX9_digestWith_133 (by decide) ?_
        exact ih89 (i + 1) _ _ _ _ (by omega) (by omega) hfr0 hH (by omega) hbn hJ hA (lv_sub hl [2, 3, 1, 0] rfl)
  exact loop89_1 (t.1 - 0 + 1) 0 _ _ _ _ (Nat.lt_succ_self _) (Nat.zero_le _) hfr0 hH (by omega) hbn hJ62 hA (lv_sub hl [2, 4, 1, 0] rfl)

theorem k_setInputs (l : Launch) (G : fw_G) (M : fw_M) (N : Nat) (ro : Nat) (ip rs : Nat → Int) (x y z : Int) (hR : rkAt G M ro ip rs) : fMet l yX5_setInputs cX5_setInputs 4 none 1 30 0 0 G M N [.ref ro, .int (iI x), .int (iI y), .int (iI z)] (fw_pv (fun M1 n1 => (∃ ip1 : Nat → Int, rkAt G M1 ro ip1 rs ∧ ip1 0 = x ∧ ip1 1 = y ∧ ip1 2 = z) ∧ (∀ q, q < ro ∨ ro + 3 ≤ q → M1 q = M q) ∧ n1 = N)) := by
  refine fw_met RX5 rfl (by decide +kernel) (Nat.le_of_ble_eq_true rfl) ?_
  intro pG e s m args below meth cG ls E hr hlk hnm hK hH hz hl
  obtain ⟨hbk, k0, k1, k2⟩ := hR
  refine lv_aload_n E.1 E.2.1 dX5_setInputs_0 rfl (lv_at hl 0 rfl) ?_
  refine fw_get E hK hH k0 fc_X5 0 (by decide) ql_RX5_9 rfl rfl dX5_setInputs_1 ?_
  refine lv_iconst (v := iI 0) E.1 E.2.1 dX5_setInputs_4 (by decide) ?_
  refine lv_iload_n E.1 E.2.1 dX5_setInputs_5 rfl (lv_at hl 1 rfl) ?_
  refine fw_cSN (As := [.ref (ro + 1), .int (iI 0), .int (iI x)]) (rest := []) E hK hH hl fL_X9_put ql_RX5_18 qs_yX9_put (k_put l G _ _ (ro + 1) 3 ip 0 0 x k1 (by omega) (by omega) (by omega) (by omega)) rfl rfl (Nat.le_of_ble_eq_true rfl) ⟨Nat.le_of_ble_eq_true rfl, Nat.le_of_ble_eq_true rfl⟩ ⟨Nat.le_of_ble_eq_true rfl, Nat.le_of_ble_eq_true rfl⟩ dX5_setInputs_6 (fw_kv fun M2 H1 locs1 hp1 hH hz1 => ?_)
  obtain ⟨hM8, hz2⟩ := hp1
  have hfr : ∀ q, q ≠ ro + 1 → M2 q = M q := fun q h => by rw [hM8]; exact fw_up_ne h
  have k1 : M2 (ro + 1) = some (fI G 3 (fun j0 => iI ((zup ip 0 x) j0))) := by rw [hM8]; exact fw_up_eq
  replace hz := hz2.trans hz
  clear hz1 hz2
  have fr3 := hfr
  replace k0 : M2 ro = some (.inr (5, [.ref (ro + 1), .ref (ro + 2)])) := (fr3 _ (by omega)).trans k0
  replace k2 : M2 (ro + 2) = some (fI G 40 (fun j0 => iI (rs j0))) := (fr3 _ (by omega)).trans k2
  refine lv_aload_n E.1 E.2.1 dX5_setInputs_9 rfl (lv_at hl 0 rfl) ?_
  refine fw_get E hK hH k0 fc_X5 0 (by decide) ql_RX5_9 rfl rfl dX5_setInputs_10 ?_
  refine lv_iconst (v := iI 1) E.1 E.2.1 dX5_setInputs_13 (by decide) ?_
  refine lv_iload_n E.1 E.2.1 dX5_setInputs_14 rfl (lv_at hl 2 rfl) ?_
  refine fw_cSN (As := [.ref (ro + 1), .int (iI 1), .int (iI y)]) (rest := []) E hK hH hl fL_X9_put ql_RX5_18 qs_yX9_put (k_put l G _ _ (ro + 1) 3 (zup ip 0 x) 1 1 y k1 (by omega) (by omega) (by omega) (by omega)) rfl rfl (Nat.le_of_ble_eq_true rfl) ⟨Nat.le_of_ble_eq_true rfl, Nat.le_of_ble_eq_true rfl⟩ ⟨Nat.le_of_ble_eq_true rfl, Nat.le_of_ble_eq_true rfl⟩ dX5_setInputs_15 (fw_kv fun M5 H1 locs1 hp4 hH hz1 => ?_)
  obtain ⟨hM8, hz2⟩ := hp4
  have hfr : ∀ q, q ≠ ro + 1 → M5 q = M2 q := fun q h => by rw [hM8]; exact fw_up_ne h
  have k1 : M5 (ro + 1) = some (fI G 3 (fun j0 => iI ((zup (zup ip 0 x) 1 y) j0))) := by rw [hM8]; exact fw_up_eq
  replace hz := hz2.trans hz
  clear hz1 hz2
  have fr6 := hfr
  replace k0 : M5 ro = some (.inr (5, [.ref (ro + 1), .ref (ro + 2)])) := (fr6 _ (by omega)).trans k0
  replace k2 : M5 (ro + 2) = some (fI G 40 (fun j0 => iI (rs j0))) := (fr6 _ (by omega)).trans k2
  refine lv_aload_n E.1 E.2.1 dX5_setInputs_18 rfl (lv_at hl 0 rfl) ?_
  refine fw_get E hK hH k0 fc_X5 0 (by decide) ql_RX5_9 rfl rfl dX5_setInputs_19 ?_
  refine lv_iconst (v := iI 2) E.1 E.2.1 dX5_setInputs_22 (by decide) ?_
  refine lv_iload_n E.1 E.2.1 dX5_setInputs_23 rfl (lv_at hl 3 rfl) ?_
  refine fw_cSN (As := [.ref (ro + 1), .int (iI 2), .int (iI z)]) (rest := []) E hK hH hl fL_X9_put ql_RX5_18 qs_yX9_put (k_put l G _ _ (ro + 1) 3 (zup (zup ip 0 x) 1 y) 2 2 z k1 (by omega) (by omega) (by omega) (by omega)) rfl rfl (Nat.le_of_ble_eq_true rfl) ⟨Nat.le_of_ble_eq_true rfl, Nat.le_of_ble_eq_true rfl⟩ ⟨Nat.le_of_ble_eq_true rfl, Nat.le_of_ble_eq_true rfl⟩ dX5_setInputs_24 (fw_kv fun M8 H1 locs1 hp7 hH hz1 => ?_)
  obtain ⟨hM8, hz2⟩ := hp7
  have hfr : ∀ q, q ≠ ro + 1 → M8 q = M5 q := fun q h => by rw [hM8]; exact fw_up_ne h
  have k1 : M8 (ro + 1) = some (fI G 3 (fun j0 => iI ((zup (zup (zup ip 0 x) 1 y) 2 z) j0))) := by rw [hM8]; exact fw_up_eq
  replace hz := hz2.trans hz
  clear hz1 hz2
  have fr9 := hfr
  replace k0 : M8 ro = some (.inr (5, [.ref (ro + 1), .ref (ro + 2)])) := (fr9 _ (by omega)).trans k0
  replace k2 : M8 (ro + 2) = some (fI G 40 (fun j0 => iI (rs j0))) := (fr9 _ (by omega)).trans k2
  refine fw_vret E hr hlk hH ?_ dX5_setInputs_27
  exact ⟨⟨_, ⟨hbk, k0, k1, k2⟩, by rw [zup_ne (by omega), zup_ne (by omega), zup_eq], by rw [zup_ne (by omega), zup_eq], zup_eq⟩, (fun q hq => by rw [fr9 q (by omega), fr6 q (by omega), fr3 q (by omega)]), hz⟩
set_option maxHeartbeats 8000000 in
theorem k_resultOf (l : Launch) (G : fw_G) (M : fw_M) (N : Nat) (ro a n p : Nat) (ip rs inp : Nat → Int) (C V : Nat → Int) (sp : Nat → Nat) (hR : rkAt G M ro ip rs) (hA : tw G M a n C V sp) (hv : vtOK n C V sp) (hp : p < n) (hra : ro + 3 ≤ a ∨ a + 5 ≤ ro) (hip : ∀ k, k < 3 → ip k = inp k ∧ -99 ≤ inp k ∧ inp k ≤ 99) : fMet l yX5_resultOf cX5_resultOf 10 (some .int) 1 60 0 0 G M N [.ref ro, .ref a, .int (iI ↑p)] (fw_pi (fun r M1 n1 => r = iI (evF inp C V sp p) ∧ (∃ rs1 : Nat → Int, rkAt G M1 ro ip rs1) ∧ (∀ q, q < ro ∨ ro + 3 ≤ q → M1 q = M q) ∧ n1 = N)) := by
  refine fw_met RX5 rfl (by decide +kernel) (Nat.le_of_ble_eq_true rfl) ?_
  intro pG e s m args below meth cG ls E hr hlk hnm hK hH hz hl
  obtain ⟨hbk, k0, k1, k2⟩ := hR
  obtain ⟨cs, vs, ss, hs, hT, hag, hbd⟩ := hA
  obtain ⟨⟨hn0, hn1⟩, hs0, hc0, hsp, hty, hnd⟩ := id hv
  have hpe := sp_le hsp hp
  have hp1 := sp_pos hsp hp
  refine lv_iload_n E.1 E.2.1 dX5_resultOf_0 rfl (lv_at hl 2 rfl) ?_
  refine lv_aload_n E.1 E.2.1 dX5_resultOf_1 rfl (lv_at hl 1 rfl) ?_
  refine fw_getN E hK hH hT.2.1 fc_X8 2 (by decide) ql_RX5_22 rfl rfl dX5_resultOf_2 ?_
  refine lv_iload_n E.1 E.2.1 dX5_resultOf_5 rfl (lv_at hl 2 rfl) ?_
  refine fw_cSN (As := [.ref (a + 3), .int (iI ↑p)]) (rest := [.int (iI ↑p)]) E hK hH hl fL_X9_at ql_RX5_27 qs_yX9_at (k_at l G _ _ (a + 3) 40 ss ↑p p hT.2.2.2.2.1 (by omega) (by omega) (by omega)) rfl rfl (Nat.le_of_ble_eq_true rfl) ⟨Nat.le_of_ble_eq_true rfl, Nat.le_of_ble_eq_true rfl⟩ ⟨Nat.le_of_ble_eq_true rfl, Nat.le_of_ble_eq_true rfl⟩ dX5_resultOf_6 (fw_ki fun r3 M2 H1 locs1 hp1 hH hz1 => ?_)
  obtain ⟨rfl, hM9, hz2⟩ := hp1
  replace hz := hz2.trans hz
  clear hz1 hz2
  rw [hM9] at hH
  refine fw_iadd E dX5_resultOf_9 ?_
  refine lv_iconst (v := iI 1) E.1 E.2.1 dX5_resultOf_10 (by decide) ?_
  refine fw_isub E dX5_resultOf_11 ?_
  refine fw_cv (y := iI ((↑(p + sp p) : Int) - 1)) (congrArg iI (by rw [(hag p hp).2.2]; omega)) ?_
  refine lv_istore_n (lv' := [(3, .int (iI ((↑(p + sp p) : Int) - 1))), (0, .ref ro), (1, .ref a), (2, .int (iI ↑p))]) E.1 E.2.1 dX5_resultOf_12 rfl hl (by decide) rfl (fun ls hl => ?_)
  have loop13_1 : ∀ (d13 : Nat) (j : Nat) (rs : Nat → Int) (Mw13 : fw_M) (H : Heap) (locs : List Loc) (ls : Array Slot), j < d13 → j ≤ p + sp p → p ≤ j → (∀ k, j ≤ k → k < p + sp p → rs k = evF inp C V sp k) → (∀ q, q < ro ∨ ro + 3 ≤ q → Mw13 q = M q) → fw_H G s Mw13 H locs → H.size = N → trAt G Mw13 a cs vs ss hs (↑n : Int) (↑(lvF n C sp) : Int) → Mw13 ro = some (.inr (5, [.ref (ro + 1), .ref (ro + 2)])) → Mw13 (ro + 1) = some (fI G 3 (fun j0 => iI (ip j0))) → Mw13 (ro + 2) = some (fI G 40 (fun j0 => iI (rs j0))) → lv_has ls 10 [(0, .ref ro), (1, .ref a), (2, .int (iI ↑p)), (3, .int (iI (↑j - 1)))] → W pG l e ({ frames := 1, cells := 0, slots := 0, locals := 60 } : Room) s m args below meth cG H locs (0) (0) (MQ below (fw_Q G (fw_pi (fun r M1 n1 => r = iI (evF inp C V sp p) ∧ (∃ rs1 : Nat → Int, rkAt G M1 ro ip rs1) ∧ (∀ q, q < ro ∨ ro + 3 ≤ q → M1 q = M q) ∧ n1 = N))) args s 0 0 (fun q => G.2.2.1 ≤ q)) (F0 m 13 ls []) := by
    intro d13
    induction d13 with
    | zero => intro j rs Mw13 H locs ls hd; exact absurd hd (Nat.not_lt_zero _)
    | succ d13 ih13 =>
      intro j rs Mw13 H locs ls hd13 ij ij2 hRs hfr0 hH hz hT k0 k1 k2 hl
      refine lv_iload_n E.1 E.2.1 dX5_resultOf_13 rfl (lv_at hl 3 rfl) ?_
      refine lv_iload_n E.1 E.2.1 dX5_resultOf_14 rfl (lv_at hl 2 rfl) ?_
      refine fw_icmp_lt (tgt := 186) E dX5_resultOf_15 (by decide) (by omega) (by omega) (by omega) (by omega) (fun c4 => ?_) (fun c4 => ?_)
      · refine lv_aload_n E.1 E.2.1 dX5_resultOf_186 rfl (lv_at hl 0 rfl) ?_
        refine fw_get E hK hH k0 fc_X5 1 (by decide) ql_RX5_15 rfl rfl dX5_resultOf_187 ?_
        refine lv_iload_n E.1 E.2.1 dX5_resultOf_190 rfl (lv_at hl 2 rfl) ?_
        refine fw_cSN (As := [.ref (ro + 2), .int (iI ↑p)]) (rest := []) E hK hH hl fL_X9_at ql_RX5_27 qs_yX9_at (k_at l G _ _ (ro + 2) 40 rs ↑p p k2 (by omega) (by omega) (by omega)) rfl rfl (Nat.le_of_ble_eq_true rfl) ⟨Nat.le_of_ble_eq_true rfl, Nat.le_of_ble_eq_true rfl⟩ ⟨Nat.le_of_ble_eq_true rfl, Nat.le_of_ble_eq_true rfl⟩ dX5_resultOf_191 (fw_ki fun r7 M6 H1 locs1 hp5 hH hz1 => ?_)
        obtain ⟨rfl, hM9, hz2⟩ := hp5
        replace hz := hz2.trans hz
        clear hz1 hz2
        rw [hM9] at hH
        refine fw_iret E hr hlk hH ?_ dX5_resultOf_194
        exact ⟨by rw [hRs p (by omega) (by omega)], ⟨rs, hbk, k0, k1, k2⟩, hfr0, hz⟩
      · have hjn : j - 1 < n := by omega
        have hcv := hag (j - 1) hjn
        have hnj := hnd (j - 1) hjn
        have hbj := nd_b hnj
        have hnj0 := hnj.1
        have hej := in_span hsp hp (show p ≤ j - 1 by omega) (show j - 1 < p + sp p by omega)
        have e0 : chP sp (j - 1) 0 = j := by show j - 1 + 1 = j; omega
        have hev := evF_eq (inp := inp) hsp hn1 hjn (V := V)
        refine lv_aload_n E.1 E.2.1 dX5_resultOf_18 rfl (lv_at hl 1 rfl) ?_
        refine fw_getN E hK hH hT.2.1 fc_X8 0 (by decide) ql_RX5_31 rfl rfl dX5_resultOf_19 ?_
        refine lv_iload_n E.1 E.2.1 dX5_resultOf_22 rfl (lv_at hl 3 rfl) ?_
        refine fw_cSN (As := [.ref (a + 1), .int (iI (↑j - 1))]) (rest := []) E hK hH hl fL_X9_at ql_RX5_27 qs_yX9_at (k_at l G _ _ (a + 1) 40 cs (↑j - 1) (j - 1) hT.2.2.1 (by omega) (by omega) (by omega)) rfl rfl (Nat.le_of_ble_eq_true rfl) ⟨Nat.le_of_ble_eq_true rfl, Nat.le_of_ble_eq_true rfl⟩ ⟨Nat.le_of_ble_eq_true rfl, Nat.le_of_ble_eq_true rfl⟩ dX5_resultOf_23 (fw_ki fun r10 M9 H1 locs1 hp8 hH hz1 => ?_)
        obtain ⟨rfl, hM9, hz2⟩ := hp8
        replace hz := hz2.trans hz
        clear hz1 hz2
        rw [hM9] at hH
        refine fw_cv (y := iI (C (j - 1))) (congrArg iI hcv.1) ?_
        refine lv_istore (lv' := [(4, .int (iI (C (j - 1)))), (0, .ref ro), (1, .ref a), (2, .int (iI ↑p)), (3, .int (iI (↑j - 1)))]) E.1 E.2.1 dX5_resultOf_26 hl (by decide) rfl (fun ls hl => ?_)
        refine lv_aload_n E.1 E.2.1 dX5_resultOf_28 rfl (lv_at hl 2 rfl) ?_
        refine fw_getN E hK hH hT.2.1 fc_X8 1 (by decide) ql_RX5_34 rfl rfl dX5_resultOf_29 ?_
        refine lv_iload_n E.1 E.2.1 dX5_resultOf_32 rfl (lv_at hl 4 rfl) ?_
        refine fw_cSN (As := [.ref (a + 2), .int (iI (↑j - 1))]) (rest := []) E hK hH hl fL_X9_at ql_RX5_27 qs_yX9_at (k_at l G _ _ (a + 2) 40 vs (↑j - 1) (j - 1) hT.2.2.2.1 (by omega) (by omega) (by omega)) rfl rfl (Nat.le_of_ble_eq_true rfl) ⟨Nat.le_of_ble_eq_true rfl, Nat.le_of_ble_eq_true rfl⟩ ⟨Nat.le_of_ble_eq_true rfl, Nat.le_of_ble_eq_true rfl⟩ dX5_resultOf_33 (fw_ki fun r13 M12 H1 locs1 hp11 hH hz1 => ?_)
        obtain ⟨rfl, hM9, hz2⟩ := hp11
        replace hz := hz2.trans hz
        clear hz1 hz2
        rw [hM9] at hH
        refine fw_cv (y := iI (V (j - 1))) (congrArg iI hcv.2.1) ?_
        refine lv_istore (lv' := [(5, .int (iI (V (j - 1)))), (4, .int (iI (C (j - 1)))), (0, .ref ro), (1, .ref a), (2, .int (iI ↑p)), (3, .int (iI (↑j - 1)))]) E.1 E.2.1 dX5_resultOf_36 hl (by decide) rfl (fun ls hl => ?_)
        refine lv_iload_n E.1 E.2.1 dX5_resultOf_38 rfl (lv_at hl 5 rfl) ?_
        refine lv_iconst (v := iI 1) E.1 E.2.1 dX5_resultOf_39 (by decide) ?_
        refine fw_iadd E dX5_resultOf_40 ?_
        refine fw_cv (y := iI ↑j) (congrArg iI (by omega)) ?_
        refine lv_istore (lv' := [(6, .int (iI ↑j)), (5, .int (iI (V (j - 1)))), (4, .int (iI (C (j - 1)))), (0, .ref ro), (1, .ref a), (2, .int (iI ↑p)), (3, .int (iI (↑j - 1)))]) E.1 E.2.1 dX5_resultOf_41 hl (by decide) rfl (fun ls hl => ?_)
        refine lv_iload E.1 E.2.1 dX5_resultOf_43 (lv_at hl 0 rfl) ?_
        refine lv_aload_n E.1 E.2.1 dX5_resultOf_45 rfl (lv_at hl 4 rfl) ?_
        refine fw_getN E hK hH hT.2.1 fc_X8 2 (by decide) ql_RX5_22 rfl rfl dX5_resultOf_46 ?_
        refine lv_iload E.1 E.2.1 dX5_resultOf_49 (lv_at hl 0 rfl) ?_
        refine fw_cSN (As := [.ref (a + 3), .int (iI ↑j)]) (rest := [.int (iI ↑j)]) E hK hH hl fL_X9_at ql_RX5_27 qs_yX9_at (k_atG l G _ _ (a + 3) 40 ss ↑j hT.2.2.2.2.1 (by omega) (by omega)) rfl rfl (Nat.le_of_ble_eq_true rfl) ⟨Nat.le_of_ble_eq_true rfl, Nat.le_of_ble_eq_true rfl⟩ ⟨Nat.le_of_ble_eq_true rfl, Nat.le_of_ble_eq_true rfl⟩ dX5_resultOf_51 (fw_ki fun r16 M15 H1 locs1 hp14 hH hz1 => ?_)
        obtain ⟨rfl, hM9, hz2⟩ := hp14
        replace hz := hz2.trans hz
        clear hz1 hz2
        rw [hM9] at hH
        refine fw_iadd E dX5_resultOf_54 ?_
        have hs2b := atF_b (n := 40) (z := ↑j) hbd
        obtain ⟨s2, hs2⟩ : ∃ y, y = (↑j : Int) + atF ss 40 ↑j := ⟨_, rfl⟩
        refine fw_cv (y := iI s2) (by rw [hs2]) ?_
        refine lv_istore (lv' := [(7, .int (iI s2)), (6, .int (iI ↑j)), (5, .int (iI (V (j - 1)))), (4, .int (iI (C (j - 1)))), (0, .ref ro), (1, .ref a), (2, .int (iI ↑p)), (3, .int (iI (↑j - 1)))]) E.1 E.2.1 dX5_resultOf_55 hl (by decide) rfl (fun ls hl => ?_)
        refine lv_iload E.1 E.2.1 dX5_resultOf_57 (lv_at hl 0 rfl) ?_
        refine lv_aload_n E.1 E.2.1 dX5_resultOf_59 rfl (lv_at hl 5 rfl) ?_
        refine fw_getN E hK hH hT.2.1 fc_X8 2 (by decide) ql_RX5_22 rfl rfl dX5_resultOf_60 ?_
        refine lv_iload E.1 E.2.1 dX5_resultOf_63 (lv_at hl 0 rfl) ?_
        refine fw_cSN (As := [.ref (a + 3), .int (iI s2)]) (rest := [.int (iI s2)]) E hK hH hl fL_X9_at ql_RX5_27 qs_yX9_at (k_atG l G _ _ (a + 3) 40 ss s2 hT.2.2.2.2.1 (by omega) (by omega)) rfl rfl (Nat.le_of_ble_eq_true rfl) ⟨Nat.le_of_ble_eq_true rfl, Nat.le_of_ble_eq_true rfl⟩ ⟨Nat.le_of_ble_eq_true rfl, Nat.le_of_ble_eq_true rfl⟩ dX5_resultOf_65 (fw_ki fun r19 M18 H1 locs1 hp17 hH hz1 => ?_)
        obtain ⟨rfl, hM9, hz2⟩ := hp17
        replace hz := hz2.trans hz
        clear hz1 hz2
        rw [hM9] at hH
        refine fw_iadd E dX5_resultOf_68 ?_
        have hs3b := atF_b (n := 40) (z := s2) hbd
        obtain ⟨s3, hs3⟩ : ∃ y, y = s2 + atF ss 40 s2 := ⟨_, rfl⟩
        refine fw_cv (y := iI s3) (by rw [hs3]) ?_
        refine lv_istore (lv' := [(8, .int (iI s3)), (7, .int (iI s2)), (6, .int (iI ↑j)), (5, .int (iI (V (j - 1)))), (4, .int (iI (C (j - 1)))), (0, .ref ro), (1, .ref a), (2, .int (iI ↑p)), (3, .int (iI (↑j - 1)))]) E.1 E.2.1 dX5_resultOf_69 hl (by decide) rfl (fun ls hl => ?_)
        refine lv_iload E.1 E.2.1 dX5_resultOf_71 (lv_at hl 4 rfl) ?_
        refine fw_if_ne (tgt := 83) E dX5_resultOf_73 (by decide) (by omega) (by omega) (fun c20 => ?_) (fun c20 => ?_)
        · refine lv_iload E.1 E.2.1 dX5_resultOf_83 (lv_at hl 4 rfl) ?_
          refine lv_iconst (v := iI 1) E.1 E.2.1 dX5_resultOf_85 (by decide) ?_
          refine fw_icmp_ne (tgt := 103) E dX5_resultOf_86 (by decide) (by omega) (by omega) (by omega) (by omega) (fun c21 => ?_) (fun c21 => ?_)
          · refine lv_iload E.1 E.2.1 dX5_resultOf_103 (lv_at hl 4 rfl) ?_
            refine lv_bipush (v := iI 8) E.1 E.2.1 dX5_resultOf_105 (by decide) ?_
            refine fw_icmp_ne (tgt := 142) E dX5_resultOf_107 (by decide) (by omega) (by omega) (by omega) (by omega) (fun c22 => ?_) (fun c22 => ?_)
            · have ha1 : 1 ≤ arN (C (j - 1)) := by unfold arN; (repeat' split) <;> omega
              have q0 := chP_lt hsp hjn (show 0 < arN (C (j - 1)) by omega)
              rw [e0] at q0
              have g0 := hRs j (Nat.le_refl _) (by omega)
              have b0 := evF_b (inp := inp) (V := V) hsp hn1 q0.2
              have hsec : (C (j - 1)) ≠ 13 → atF rs 40 s2 = evF inp C V sp (chP sp (j - 1) 1) ∧ (-9999 ≤ atF rs 40 s2 ∧ atF rs 40 s2 ≤ 9999) := fun h13 => by
                have ha2 : arN (C (j - 1)) = 2 := by unfold arN; rw [if_neg (by omega), if_neg (by omega), if_pos (by omega)]
                have q1 := chP_lt hsp hjn (show 1 < arN (C (j - 1)) by omega)
                have e1 : chP sp (j - 1) 1 = j + sp j := by show chP sp (j - 1) 0 + sp (chP sp (j - 1) 0) = _; rw [e0]
                rw [e1] at q1 ⊢
                have f2 : s2 = ↑(j + sp j) := by rw [hs2, atF_in (k := j) rfl (by omega), (hag j q0.2).2.2]; omega
                have g1 := hRs (j + sp j) (by omega) (by omega)
                have b1 := evF_b (inp := inp) (V := V) hsp hn1 q1.2
                rw [atF_in (k := j + sp j) f2 (by omega), g1]
                exact ⟨rfl, b1⟩
              refine lv_iload E.1 E.2.1 dX5_resultOf_142 (lv_at hl 4 rfl) ?_
              refine lv_aload_n E.1 E.2.1 dX5_resultOf_144 rfl (lv_at hl 5 rfl) ?_
              refine fw_get E hK hH k0 fc_X5 1 (by decide) ql_RX5_15 rfl rfl dX5_resultOf_145 ?_
              refine lv_iload E.1 E.2.1 dX5_resultOf_148 (lv_at hl 2 rfl) ?_
              refine fw_cSN (As := [.ref (ro + 2), .int (iI ↑j)]) (rest := [.int (iI (C (j - 1)))]) E hK hH hl fL_X9_at ql_RX5_27 qs_yX9_at (k_at l G _ _ (ro + 2) 40 rs ↑j j k2 (by omega) (by omega) (by omega)) rfl rfl (Nat.le_of_ble_eq_true rfl) ⟨Nat.le_of_ble_eq_true rfl, Nat.le_of_ble_eq_true rfl⟩ ⟨Nat.le_of_ble_eq_true rfl, Nat.le_of_ble_eq_true rfl⟩ dX5_resultOf_150 (fw_ki fun r25 M24 H1 locs1 hp23 hH hz1 => ?_)
              obtain ⟨rfl, hM9, hz2⟩ := hp23
              replace hz := hz2.trans hz
              clear hz1 hz2
              rw [hM9] at hH
              refine lv_aload_n E.1 E.2.1 dX5_resultOf_153 rfl (lv_at hl 5 rfl) ?_
              refine fw_get E hK hH k0 fc_X5 1 (by decide) ql_RX5_15 rfl rfl dX5_resultOf_154 ?_
              refine lv_iload E.1 E.2.1 dX5_resultOf_157 (lv_at hl 1 rfl) ?_
              refine fw_cSN (As := [.ref (ro + 2), .int (iI s2)]) (rest := [.int (iI (rs j)), .int (iI (C (j - 1)))]) E hK hH hl fL_X9_at ql_RX5_27 qs_yX9_at (k_atG l G _ _ (ro + 2) 40 rs s2 k2 (by omega) (by omega)) rfl rfl (Nat.le_of_ble_eq_true rfl) ⟨Nat.le_of_ble_eq_true rfl, Nat.le_of_ble_eq_true rfl⟩ ⟨Nat.le_of_ble_eq_true rfl, Nat.le_of_ble_eq_true rfl⟩ dX5_resultOf_159 (fw_ki fun r28 M27 H1 locs1 hp26 hH hz1 => ?_)
              obtain ⟨rfl, hM9, hz2⟩ := hp26
              replace hz := hz2.trans hz
              clear hz1 hz2
              rw [hM9] at hH
              refine fw_cS (As := [.int (iI (C (j - 1))), .int (iI (rs j)), .int (iI (atF rs 40 s2))]) (rest := []) E hK hH hl fL_X5_pairResult ql_RX5_37 qs_yX5_pairResult (k_pairResult l G _ _ (C (j - 1)) (rs j) (atF rs 40 s2) (by omega) (by rw [g0]; exact b0) (fun h => (hsec h).2)) rfl rfl (Nat.le_of_ble_eq_true rfl) ⟨Nat.le_of_ble_eq_true rfl, Nat.le_of_ble_eq_true rfl⟩ ⟨Nat.le_of_ble_eq_true rfl, Nat.le_of_ble_eq_true rfl⟩ dX5_resultOf_162 (fw_ki fun r31 M30 H1 locs1 hp29 hH hz1 => ?_)
              obtain ⟨rfl, hM9, hz2⟩ := hp29
              replace hz := hz2.trans hz
              clear hz1 hz2
              rw [hM9] at hH
              have b1 := evF_b (inp := inp) (V := V) hsp hn1 (k := chP sp (j - 1) 0) (by rw [e0]; exact q0.2)
              have hpr : prR (C (j - 1)) (rs j) (atF rs 40 s2) = prR (C (j - 1)) (evF inp C V sp (chP sp (j - 1) 0)) (evF inp C V sp (chP sp (j - 1) 1)) := by
                have g0b : rs j = evF inp C V sp (chP sp (j - 1) 0) := by rw [e0]; exact g0
                rw [g0b]
                by_cases h13 : (C (j - 1)) = 13
                · rw [h13]; rfl
                · rw [(hsec h13).1]
              have hpb : -99980001 ≤ prR (C (j - 1)) (rs j) (atF rs 40 s2) ∧ prR (C (j - 1)) (rs j) (atF rs 40 s2) ≤ 99980001 := by
                by_cases h13 : (C (j - 1)) = 13
                · rw [h13]; show -99980001 ≤ 1 - rs j ∧ 1 - rs j ≤ 99980001; rw [g0]; omega
                · exact prR_b (by rw [g0]; exact b0) (hsec h13).2
              rw [hpr] at hpb
              refine fw_cv (y := iI (prR (C (j - 1)) (evF inp C V sp (chP sp (j - 1) 0)) (evF inp C V sp (chP sp (j - 1) 1)))) (by rw [hpr]) ?_
              refine lv_istore (lv' := [(9, .int (iI (prR (C (j - 1)) (evF inp C V sp (chP sp (j - 1) 0)) (evF inp C V sp (chP sp (j - 1) 1))))), (8, .int (iI s3)), (7, .int (iI s2)), (6, .int (iI ↑j)), (5, .int (iI (V (j - 1)))), (4, .int (iI (C (j - 1)))), (0, .ref ro), (1, .ref a), (2, .int (iI ↑p)), (3, .int (iI (↑j - 1)))]) E.1 E.2.1 dX5_resultOf_165 hl (by decide) rfl (fun ls hl => ?_)
              refine lv_aload_n E.1 E.2.1 dX5_resultOf_167 rfl (lv_at hl 6 rfl) ?_
              refine fw_get E hK hH k0 fc_X5 1 (by decide) ql_RX5_15 rfl rfl dX5_resultOf_168 ?_
              refine lv_iload_n E.1 E.2.1 dX5_resultOf_171 rfl (lv_at hl 9 rfl) ?_
              refine lv_iload E.1 E.2.1 dX5_resultOf_172 (lv_at hl 0 rfl) ?_
              refine fw_cS (As := [.int (iI (prR (C (j - 1)) (evF inp C V sp (chP sp (j - 1) 0)) (evF inp C V sp (chP sp (j - 1) 1))))]) (rest := [.int (iI (↑j - 1)), .ref (ro + 2)]) E hK hH hl fL_X5_limited ql_RX5_41 qs_yX5_limited (k_limited l G _ _ (prR (C (j - 1)) (evF inp C V sp (chP sp (j - 1) 0)) (evF inp C V sp (chP sp (j - 1) 1))) (by omega)) rfl rfl (Nat.le_of_ble_eq_true rfl) ⟨Nat.le_of_ble_eq_true rfl, Nat.le_of_ble_eq_true rfl⟩ ⟨Nat.le_of_ble_eq_true rfl, Nat.le_of_ble_eq_true rfl⟩ dX5_resultOf_174 (fw_ki fun r34 M33 H1 locs1 hp32 hH hz1 => ?_)
              obtain ⟨rfl, hM9, hz2⟩ := hp32
              replace hz := hz2.trans hz
              clear hz1 hz2
              rw [hM9] at hH
              refine fw_cSN (As := [.ref (ro + 2), .int (iI (↑j - 1)), .int (iI (limI (prR (C (j - 1)) (evF inp C V sp (chP sp (j - 1) 0)) (evF inp C V sp (chP sp (j - 1) 1)))))]) (rest := []) E hK hH hl fL_X9_put ql_RX5_18 qs_yX9_put (k_put l G _ _ (ro + 2) 40 rs (↑j - 1) (j - 1) (limI (prR (C (j - 1)) (evF inp C V sp (chP sp (j - 1) 0)) (evF inp C V sp (chP sp (j - 1) 1)))) k2 (by omega) (by omega) (by omega) (by omega)) rfl rfl (Nat.le_of_ble_eq_true rfl) ⟨Nat.le_of_ble_eq_true rfl, Nat.le_of_ble_eq_true rfl⟩ ⟨Nat.le_of_ble_eq_true rfl, Nat.le_of_ble_eq_true rfl⟩ dX5_resultOf_177 (fw_kv fun M36 H1 locs1 hp35 hH hz1 => ?_)
              obtain ⟨hM8, hz2⟩ := hp35
              have hfr : ∀ q, q ≠ ro + 2 → M36 q = Mw13 q := fun q h => by rw [hM8]; exact fw_up_ne h
              have k2 : M36 (ro + 2) = some (fI G 40 (fun j0 => iI ((zup rs (j - 1) (limI (prR (C (j - 1)) (evF inp C V sp (chP sp (j - 1) 0)) (evF inp C V sp (chP sp (j - 1) 1))))) j0))) := by rw [hM8]; exact fw_up_eq
              replace hz := hz2.trans hz
              clear hz1 hz2
              have fr37 := hfr
              replace hT := trAt.fr hT (fun q h1 h2 => fr37 q (by omega))
              replace k0 : M36 ro = some (.inr (5, [.ref (ro + 1), .ref (ro + 2)])) := (fr37 _ (by omega)).trans k0
              replace k1 : M36 (ro + 1) = some (fI G 3 (fun j0 => iI (ip j0))) := (fr37 _ (by omega)).trans k1
              refine lv_iinc (v := iI (↑(j - 1) - 1)) (lv' := [(3, .int (iI (↑(j - 1) - 1))), (9, .int (iI (prR (C (j - 1)) (evF inp C V sp (chP sp (j - 1) 0)) (evF inp C V sp (chP sp (j - 1) 1))))), (8, .int (iI s3)), (7, .int (iI s2)), (6, .int (iI ↑j)), (5, .int (iI (V (j - 1)))), (4, .int (iI (C (j - 1)))), (0, .ref ro), (1, .ref a), (2, .int (iI ↑p))]) E.1 E.2.1 dX5_resultOf_180 hl (k := 9) rfl (iI_inc (congrArg iI (by omega))) (by decide) rfl (fun ls hl => ?_)
              refine lv_goto (tgt := 13) E.1 E.2.1 dX5_resultOf_183 (by decide) ?_
              have hst : ∀ k, j - 1 ≤ k → k < p + sp p → (zup rs (j - 1) (limI (prR (C (j - 1)) (evF inp C V sp (chP sp (j - 1) 0)) (evF inp C V sp (chP sp (j - 1) 1))))) k = evF inp C V sp k := fun k h1 h2 => by
                by_cases hk9 : k = j - 1
                · rw [hk9, zup_eq, hev]
                  unfold evS
                  rw [if_neg (by omega), if_neg (by omega), if_neg (by omega)]
                · rw [zup_ne hk9]; exact hRs k (by omega) h2
              exact ih13 (j - 1) _ _ _ _ _ (by omega) (by omega) (by omega) hst (fun q hq => by rw [fr37 q (by omega)]; exact hfr0 q hq) hH (by omega) hT k0 k1 k2 (lv_sub hl [7, 8, 9, 0] rfl)
            · have ha3 : arN (C (j - 1)) = 3 := by unfold arN; rw [if_pos (by omega)]
              have q0 := chP_lt hsp hjn (show 0 < arN (C (j - 1)) by omega)
              have q1 := chP_lt hsp hjn (show 1 < arN (C (j - 1)) by omega)
              have q2 := chP_lt hsp hjn (show 2 < arN (C (j - 1)) by omega)
              have e1 : chP sp (j - 1) 1 = j + sp j := by show chP sp (j - 1) 0 + sp (chP sp (j - 1) 0) = _; rw [e0]
              have e2 : chP sp (j - 1) 2 = j + sp j + sp (j + sp j) := by show chP sp (j - 1) 1 + sp (chP sp (j - 1) 1) = _; rw [e1]
              rw [e0] at q0
              rw [e1] at q1
              rw [e2] at q2
              have f2 : s2 = ↑(j + sp j) := by rw [hs2, atF_in (k := j) rfl (by omega), (hag j q0.2).2.2]; omega
              have f3 : s3 = ↑(j + sp j + sp (j + sp j)) := by rw [hs3, atF_in (k := j + sp j) f2 (by omega), (hag (j + sp j) q1.2).2.2]; omega
              have g0 := hRs j (Nat.le_refl _) (by omega)
              have g1 := hRs (j + sp j) (by omega) (by omega)
              have g2 := hRs (j + sp j + sp (j + sp j)) (by omega) (by omega)
              have b0 := evF_b (inp := inp) (V := V) hsp hn1 q0.2
              have b1 := evF_b (inp := inp) (V := V) hsp hn1 (k := chP sp (j - 1) 1) (by rw [e1]; exact q1.2)
              have b2 := evF_b (inp := inp) (V := V) hsp hn1 (k := chP sp (j - 1) 2) (by rw [e2]; exact q2.2)
              refine lv_aload_n E.1 E.2.1 dX5_resultOf_110 rfl (lv_at hl 5 rfl) ?_
              refine fw_get E hK hH k0 fc_X5 1 (by decide) ql_RX5_15 rfl rfl dX5_resultOf_111 ?_
              refine lv_aload_n E.1 E.2.1 dX5_resultOf_114 rfl (lv_at hl 5 rfl) ?_
              refine fw_get E hK hH k0 fc_X5 1 (by decide) ql_RX5_15 rfl rfl dX5_resultOf_115 ?_
              refine lv_iload E.1 E.2.1 dX5_resultOf_118 (lv_at hl 2 rfl) ?_
              refine fw_cSN (As := [.ref (ro + 2), .int (iI ↑j)]) (rest := [.ref (ro + 2)]) E hK hH hl fL_X9_at ql_RX5_27 qs_yX9_at (k_at l G _ _ (ro + 2) 40 rs ↑j j k2 (by omega) (by omega) (by omega)) rfl rfl (Nat.le_of_ble_eq_true rfl) ⟨Nat.le_of_ble_eq_true rfl, Nat.le_of_ble_eq_true rfl⟩ ⟨Nat.le_of_ble_eq_true rfl, Nat.le_of_ble_eq_true rfl⟩ dX5_resultOf_120 (fw_ki fun r40 M39 H1 locs1 hp38 hH hz1 => ?_)
              obtain ⟨rfl, hM9, hz2⟩ := hp38
              refine fw_cv (y := iI (rs j)) rfl ?_
              replace hz := hz2.trans hz
              clear hz1 hz2
              rw [hM9] at hH
              refine lv_iconst (v := iI 1) E.1 E.2.1 dX5_resultOf_123 (by decide) ?_
              refine fw_icmp_ne (tgt := 132) E dX5_resultOf_124 (by decide) (by omega) (by omega) (by omega) (by omega) (fun c41 => ?_) (fun c41 => ?_)
              · refine lv_iload E.1 E.2.1 dX5_resultOf_132 (lv_at hl 0 rfl) ?_
                refine fw_cSN (As := [.ref (ro + 2), .int (iI s3)]) (rest := []) E hK hH hl fL_X9_at ql_RX5_27 qs_yX9_at (k_at l G _ _ (ro + 2) 40 rs s3 ((s3).toNat) k2 (by omega) (by omega) (by omega)) rfl rfl (Nat.le_of_ble_eq_true rfl) ⟨Nat.le_of_ble_eq_true rfl, Nat.le_of_ble_eq_true rfl⟩ ⟨Nat.le_of_ble_eq_true rfl, Nat.le_of_ble_eq_true rfl⟩ dX5_resultOf_134 (fw_ki fun r44 M43 H1 locs1 hp42 hH hz1 => ?_)
                obtain ⟨rfl, hM9, hz2⟩ := hp42
                replace hz := hz2.trans hz
                clear hz1 hz2
                rw [hM9] at hH
                refine fw_cv (y := iI (evF inp C V sp (chP sp (j - 1) 2))) (congrArg iI (by rw [e2, ← g2]; exact congrArg rs (by omega))) ?_
                refine lv_istore (lv' := [(9, .int (iI (evF inp C V sp (chP sp (j - 1) 2)))), (8, .int (iI s3)), (7, .int (iI s2)), (6, .int (iI ↑j)), (5, .int (iI (V (j - 1)))), (4, .int (iI (C (j - 1)))), (0, .ref ro), (1, .ref a), (2, .int (iI ↑p)), (3, .int (iI (↑j - 1)))]) E.1 E.2.1 dX5_resultOf_137 hl (by decide) rfl (fun ls hl => ?_)
                refine lv_goto (tgt := 167) E.1 E.2.1 dX5_resultOf_139 (by decide) ?_
                refine lv_aload_n E.1 E.2.1 dX5_resultOf_167 rfl (lv_at hl 6 rfl) ?_
                refine fw_get E hK hH k0 fc_X5 1 (by decide) ql_RX5_15 rfl rfl dX5_resultOf_168 ?_
                refine lv_iload_n E.1 E.2.1 dX5_resultOf_171 rfl (lv_at hl 9 rfl) ?_
                refine lv_iload E.1 E.2.1 dX5_resultOf_172 (lv_at hl 0 rfl) ?_
                refine fw_cS (As := [.int (iI (evF inp C V sp (chP sp (j - 1) 2)))]) (rest := [.int (iI (↑j - 1)), .ref (ro + 2)]) E hK hH hl fL_X5_limited ql_RX5_41 qs_yX5_limited (k_limited l G _ _ (evF inp C V sp (chP sp (j - 1) 2)) (by omega)) rfl rfl (Nat.le_of_ble_eq_true rfl) ⟨Nat.le_of_ble_eq_true rfl, Nat.le_of_ble_eq_true rfl⟩ ⟨Nat.le_of_ble_eq_true rfl, Nat.le_of_ble_eq_true rfl⟩ dX5_resultOf_174 (fw_ki fun r47 M46 H1 locs1 hp45 hH hz1 => ?_)
                obtain ⟨rfl, hM9, hz2⟩ := hp45
                replace hz := hz2.trans hz
                clear hz1 hz2
                rw [hM9] at hH
                refine fw_cSN (As := [.ref (ro + 2), .int (iI (↑j - 1)), .int (iI (limI (evF inp C V sp (chP sp (j - 1) 2))))]) (rest := []) E hK hH hl fL_X9_put ql_RX5_18 qs_yX9_put (k_put l G _ _ (ro + 2) 40 rs (↑j - 1) (j - 1) (limI (evF inp C V sp (chP sp (j - 1) 2))) k2 (by omega) (by omega) (by omega) (by omega)) rfl rfl (Nat.le_of_ble_eq_true rfl) ⟨Nat.le_of_ble_eq_true rfl, Nat.le_of_ble_eq_true rfl⟩ ⟨Nat.le_of_ble_eq_true rfl, Nat.le_of_ble_eq_true rfl⟩ dX5_resultOf_177 (fw_kv fun M49 H1 locs1 hp48 hH hz1 => ?_)
                obtain ⟨hM8, hz2⟩ := hp48
                have hfr : ∀ q, q ≠ ro + 2 → M49 q = Mw13 q := fun q h => by rw [hM8]; exact fw_up_ne h
                have k2 : M49 (ro + 2) = some (fI G 40 (fun j0 => iI ((zup rs (j - 1) (limI (evF inp C V sp (chP sp (j - 1) 2)))) j0))) := by rw [hM8]; exact fw_up_eq
                replace hz := hz2.trans hz
                clear hz1 hz2
                have fr50 := hfr
                replace hT := trAt.fr hT (fun q h1 h2 => fr50 q (by omega))
                replace k0 : M49 ro = some (.inr (5, [.ref (ro + 1), .ref (ro + 2)])) := (fr50 _ (by omega)).trans k0
                replace k1 : M49 (ro + 1) = some (fI G 3 (fun j0 => iI (ip j0))) := (fr50 _ (by omega)).trans k1
                refine lv_iinc (v := iI (↑(j - 1) - 1)) (lv' := [(3, .int (iI (↑(j - 1) - 1))), (9, .int (iI (evF inp C V sp (chP sp (j - 1) 2)))), (8, .int (iI s3)), (7, .int (iI s2)), (6, .int (iI ↑j)), (5, .int (iI (V (j - 1)))), (4, .int (iI (C (j - 1)))), (0, .ref ro), (1, .ref a), (2, .int (iI ↑p))]) E.1 E.2.1 dX5_resultOf_180 hl (k := 9) rfl (iI_inc (congrArg iI (by omega))) (by decide) rfl (fun ls hl => ?_)
                refine lv_goto (tgt := 13) E.1 E.2.1 dX5_resultOf_183 (by decide) ?_
                have hst : ∀ k, j - 1 ≤ k → k < p + sp p → (zup rs (j - 1) (limI (evF inp C V sp (chP sp (j - 1) 2)))) k = evF inp C V sp k := fun k h1 h2 => by
                  by_cases hk9 : k = j - 1
                  · rw [hk9, zup_eq, hev]
                    unfold evS
                    rw [if_neg (by omega), if_neg (by omega), if_pos (show (C (j - 1)) = 8 by omega)]
                    show _ = limI (if evF inp C V sp (chP sp (j - 1) 0) = 1 then evF inp C V sp (chP sp (j - 1) 1) else evF inp C V sp (chP sp (j - 1) 2))
                    rw [e0, if_neg (by omega)]
                  · rw [zup_ne hk9]; exact hRs k (by omega) h2
                exact ih13 (j - 1) _ _ _ _ _ (by omega) (by omega) (by omega) hst (fun q hq => by rw [fr50 q (by omega)]; exact hfr0 q hq) hH (by omega) hT k0 k1 k2 (lv_sub hl [7, 8, 9, 0] rfl)
              · refine lv_iload E.1 E.2.1 dX5_resultOf_127 (lv_at hl 1 rfl) ?_
                refine lv_goto (tgt := 134) E.1 E.2.1 dX5_resultOf_129 (by decide) ?_
                refine fw_cSN (As := [.ref (ro + 2), .int (iI s2)]) (rest := []) E hK hH hl fL_X9_at ql_RX5_27 qs_yX9_at (k_at l G _ _ (ro + 2) 40 rs s2 ((s2).toNat) k2 (by omega) (by omega) (by omega)) rfl rfl (Nat.le_of_ble_eq_true rfl) ⟨Nat.le_of_ble_eq_true rfl, Nat.le_of_ble_eq_true rfl⟩ ⟨Nat.le_of_ble_eq_true rfl, Nat.le_of_ble_eq_true rfl⟩ dX5_resultOf_134 (fw_ki fun r53 M52 H1 locs1 hp51 hH hz1 => ?_)
                obtain ⟨rfl, hM9, hz2⟩ := hp51
                replace hz := hz2.trans hz
                clear hz1 hz2
                rw [hM9] at hH
                refine fw_cv (y := iI (evF inp C V sp (chP sp (j - 1) 1))) (congrArg iI (by rw [e1, ← g1]; exact congrArg rs (by omega))) ?_
                refine lv_istore (lv' := [(9, .int (iI (evF inp C V sp (chP sp (j - 1) 1)))), (8, .int (iI s3)), (7, .int (iI s2)), (6, .int (iI ↑j)), (5, .int (iI (V (j - 1)))), (4, .int (iI (C (j - 1)))), (0, .ref ro), (1, .ref a), (2, .int (iI ↑p)), (3, .int (iI (↑j - 1)))]) E.1 E.2.1 dX5_resultOf_137 hl (by decide) rfl (fun ls hl => ?_)
                refine lv_goto (tgt := 167) E.1 E.2.1 dX5_resultOf_139 (by decide) ?_
                refine lv_aload_n E.1 E.2.1 dX5_resultOf_167 rfl (lv_at hl 6 rfl) ?_
                refine fw_get E hK hH k0 fc_X5 1 (by decide) ql_RX5_15 rfl rfl dX5_resultOf_168 ?_
                refine lv_iload_n E.1 E.2.1 dX5_resultOf_171 rfl (lv_at hl 9 rfl) ?_
                refine lv_iload E.1 E.2.1 dX5_resultOf_172 (lv_at hl 0 rfl) ?_
                refine fw_cS (As := [.int (iI (evF inp C V sp (chP sp (j - 1) 1)))]) (rest := [.int (iI (↑j - 1)), .ref (ro + 2)]) E hK hH hl fL_X5_limited ql_RX5_41 qs_yX5_limited (k_limited l G _ _ (evF inp C V sp (chP sp (j - 1) 1)) (by omega)) rfl rfl (Nat.le_of_ble_eq_true rfl) ⟨Nat.le_of_ble_eq_true rfl, Nat.le_of_ble_eq_true rfl⟩ ⟨Nat.le_of_ble_eq_true rfl, Nat.le_of_ble_eq_true rfl⟩ dX5_resultOf_174 (fw_ki fun r56 M55 H1 locs1 hp54 hH hz1 => ?_)
                obtain ⟨rfl, hM9, hz2⟩ := hp54
                replace hz := hz2.trans hz
                clear hz1 hz2
                rw [hM9] at hH
                refine fw_cSN (As := [.ref (ro + 2), .int (iI (↑j - 1)), .int (iI (limI (evF inp C V sp (chP sp (j - 1) 1))))]) (rest := []) E hK hH hl fL_X9_put ql_RX5_18 qs_yX9_put (k_put l G _ _ (ro + 2) 40 rs (↑j - 1) (j - 1) (limI (evF inp C V sp (chP sp (j - 1) 1))) k2 (by omega) (by omega) (by omega) (by omega)) rfl rfl (Nat.le_of_ble_eq_true rfl) ⟨Nat.le_of_ble_eq_true rfl, Nat.le_of_ble_eq_true rfl⟩ ⟨Nat.le_of_ble_eq_true rfl, Nat.le_of_ble_eq_true rfl⟩ dX5_resultOf_177 (fw_kv fun M58 H1 locs1 hp57 hH hz1 => ?_)
                obtain ⟨hM8, hz2⟩ := hp57
                have hfr : ∀ q, q ≠ ro + 2 → M58 q = Mw13 q := fun q h => by rw [hM8]; exact fw_up_ne h
                have k2 : M58 (ro + 2) = some (fI G 40 (fun j0 => iI ((zup rs (j - 1) (limI (evF inp C V sp (chP sp (j - 1) 1)))) j0))) := by rw [hM8]; exact fw_up_eq
                replace hz := hz2.trans hz
                clear hz1 hz2
                have fr59 := hfr
                replace hT := trAt.fr hT (fun q h1 h2 => fr59 q (by omega))
                replace k0 : M58 ro = some (.inr (5, [.ref (ro + 1), .ref (ro + 2)])) := (fr59 _ (by omega)).trans k0
                replace k1 : M58 (ro + 1) = some (fI G 3 (fun j0 => iI (ip j0))) := (fr59 _ (by omega)).trans k1
                refine lv_iinc (v := iI (↑(j - 1) - 1)) (lv' := [(3, .int (iI (↑(j - 1) - 1))), (9, .int (iI (evF inp C V sp (chP sp (j - 1) 1)))), (8, .int (iI s3)), (7, .int (iI s2)), (6, .int (iI ↑j)), (5, .int (iI (V (j - 1)))), (4, .int (iI (C (j - 1)))), (0, .ref ro), (1, .ref a), (2, .int (iI ↑p))]) E.1 E.2.1 dX5_resultOf_180 hl (k := 9) rfl (iI_inc (congrArg iI (by omega))) (by decide) rfl (fun ls hl => ?_)
                refine lv_goto (tgt := 13) E.1 E.2.1 dX5_resultOf_183 (by decide) ?_
                have hst : ∀ k, j - 1 ≤ k → k < p + sp p → (zup rs (j - 1) (limI (evF inp C V sp (chP sp (j - 1) 1)))) k = evF inp C V sp k := fun k h1 h2 => by
                  by_cases hk9 : k = j - 1
                  · rw [hk9, zup_eq, hev]
                    unfold evS
                    rw [if_neg (by omega), if_neg (by omega), if_pos (show (C (j - 1)) = 8 by omega)]
                    show _ = limI (if evF inp C V sp (chP sp (j - 1) 0) = 1 then evF inp C V sp (chP sp (j - 1) 1) else evF inp C V sp (chP sp (j - 1) 2))
                    rw [e0, if_pos (by omega)]
                  · rw [zup_ne hk9]; exact hRs k (by omega) h2
                exact ih13 (j - 1) _ _ _ _ _ (by omega) (by omega) (by omega) hst (fun q hq => by rw [fr59 q (by omega)]; exact hfr0 q hq) hH (by omega) hT k0 k1 k2 (lv_sub hl [7, 8, 9, 0] rfl)
          · have hvi := hnj.2.2.1 (by omega)
            have hib := hip (V (j - 1)).toNat (by omega)
            refine lv_aload_n E.1 E.2.1 dX5_resultOf_89 rfl (lv_at hl 5 rfl) ?_
            refine fw_get E hK hH k0 fc_X5 0 (by decide) ql_RX5_9 rfl rfl dX5_resultOf_90 ?_
            refine lv_iload E.1 E.2.1 dX5_resultOf_93 (lv_at hl 3 rfl) ?_
            refine fw_cSN (As := [.ref (ro + 1), .int (iI (V (j - 1)))]) (rest := []) E hK hH hl fL_X9_at ql_RX5_27 qs_yX9_at (k_at l G _ _ (ro + 1) 3 ip (V (j - 1)) ((V (j - 1)).toNat) k1 (by omega) (by omega) (by omega)) rfl rfl (Nat.le_of_ble_eq_true rfl) ⟨Nat.le_of_ble_eq_true rfl, Nat.le_of_ble_eq_true rfl⟩ ⟨Nat.le_of_ble_eq_true rfl, Nat.le_of_ble_eq_true rfl⟩ dX5_resultOf_95 (fw_ki fun r62 M61 H1 locs1 hp60 hH hz1 => ?_)
            obtain ⟨rfl, hM9, hz2⟩ := hp60
            replace hz := hz2.trans hz
            clear hz1 hz2
            rw [hM9] at hH
            refine fw_cv (y := iI (inp (V (j - 1)).toNat)) (congrArg iI (hip _ (by omega)).1) ?_
            refine lv_istore (lv' := [(9, .int (iI (inp (V (j - 1)).toNat))), (8, .int (iI s3)), (7, .int (iI s2)), (6, .int (iI ↑j)), (5, .int (iI (V (j - 1)))), (4, .int (iI (C (j - 1)))), (0, .ref ro), (1, .ref a), (2, .int (iI ↑p)), (3, .int (iI (↑j - 1)))]) E.1 E.2.1 dX5_resultOf_98 hl (by decide) rfl (fun ls hl => ?_)
            refine lv_goto (tgt := 167) E.1 E.2.1 dX5_resultOf_100 (by decide) ?_
            refine lv_aload_n E.1 E.2.1 dX5_resultOf_167 rfl (lv_at hl 6 rfl) ?_
            refine fw_get E hK hH k0 fc_X5 1 (by decide) ql_RX5_15 rfl rfl dX5_resultOf_168 ?_
            refine lv_iload_n E.1 E.2.1 dX5_resultOf_171 rfl (lv_at hl 9 rfl) ?_
            refine lv_iload E.1 E.2.1 dX5_resultOf_172 (lv_at hl 0 rfl) ?_
            refine fw_cS (As := [.int (iI (inp (V (j - 1)).toNat))]) (rest := [.int (iI (↑j - 1)), .ref (ro + 2)]) E hK hH hl fL_X5_limited ql_RX5_41 qs_yX5_limited (k_limited l G _ _ (inp (V (j - 1)).toNat) (by omega)) rfl rfl (Nat.le_of_ble_eq_true rfl) ⟨Nat.le_of_ble_eq_true rfl, Nat.le_of_ble_eq_true rfl⟩ ⟨Nat.le_of_ble_eq_true rfl, Nat.le_of_ble_eq_true rfl⟩ dX5_resultOf_174 (fw_ki fun r65 M64 H1 locs1 hp63 hH hz1 => ?_)
            obtain ⟨rfl, hM9, hz2⟩ := hp63
            replace hz := hz2.trans hz
            clear hz1 hz2
            rw [hM9] at hH
            refine fw_cSN (As := [.ref (ro + 2), .int (iI (↑j - 1)), .int (iI (limI (inp (V (j - 1)).toNat)))]) (rest := []) E hK hH hl fL_X9_put ql_RX5_18 qs_yX9_put (k_put l G _ _ (ro + 2) 40 rs (↑j - 1) (j - 1) (limI (inp (V (j - 1)).toNat)) k2 (by omega) (by omega) (by omega) (by omega)) rfl rfl (Nat.le_of_ble_eq_true rfl) ⟨Nat.le_of_ble_eq_true rfl, Nat.le_of_ble_eq_true rfl⟩ ⟨Nat.le_of_ble_eq_true rfl, Nat.le_of_ble_eq_true rfl⟩ dX5_resultOf_177 (fw_kv fun M67 H1 locs1 hp66 hH hz1 => ?_)
            obtain ⟨hM8, hz2⟩ := hp66
            have hfr : ∀ q, q ≠ ro + 2 → M67 q = Mw13 q := fun q h => by rw [hM8]; exact fw_up_ne h
            have k2 : M67 (ro + 2) = some (fI G 40 (fun j0 => iI ((zup rs (j - 1) (limI (inp (V (j - 1)).toNat))) j0))) := by rw [hM8]; exact fw_up_eq
            replace hz := hz2.trans hz
            clear hz1 hz2
            have fr68 := hfr
            replace hT := trAt.fr hT (fun q h1 h2 => fr68 q (by omega))
            replace k0 : M67 ro = some (.inr (5, [.ref (ro + 1), .ref (ro + 2)])) := (fr68 _ (by omega)).trans k0
            replace k1 : M67 (ro + 1) = some (fI G 3 (fun j0 => iI (ip j0))) := (fr68 _ (by omega)).trans k1
            refine lv_iinc (v := iI (↑(j - 1) - 1)) (lv' := [(3, .int (iI (↑(j - 1) - 1))), (9, .int (iI (inp (V (j - 1)).toNat))), (8, .int (iI s3)), (7, .int (iI s2)), (6, .int (iI ↑j)), (5, .int (iI (V (j - 1)))), (4, .int (iI (C (j - 1)))), (0, .ref ro), (1, .ref a), (2, .int (iI ↑p))]) E.1 E.2.1 dX5_resultOf_180 hl (k := 9) rfl (iI_inc (congrArg iI (by omega))) (by decide) rfl (fun ls hl => ?_)
            refine lv_goto (tgt := 13) E.1 E.2.1 dX5_resultOf_183 (by decide) ?_
            have hst : ∀ k, j - 1 ≤ k → k < p + sp p → (zup rs (j - 1) (limI (inp (V (j - 1)).toNat))) k = evF inp C V sp k := fun k h1 h2 => by
              by_cases hk9 : k = j - 1
              · rw [hk9, zup_eq, hev]
                unfold evS
                rw [if_neg (by omega), if_pos (show (C (j - 1)) = 1 by omega)]
              · rw [zup_ne hk9]; exact hRs k (by omega) h2
            exact ih13 (j - 1) _ _ _ _ _ (by omega) (by omega) (by omega) hst (fun q hq => by rw [fr68 q (by omega)]; exact hfr0 q hq) hH (by omega) hT k0 k1 k2 (lv_sub hl [7, 8, 9, 0] rfl)
        · refine lv_iload E.1 E.2.1 dX5_resultOf_76 (lv_at hl 3 rfl) ?_
          refine lv_istore (lv' := [(9, .int (iI (V (j - 1)))), (8, .int (iI s3)), (7, .int (iI s2)), (6, .int (iI ↑j)), (5, .int (iI (V (j - 1)))), (4, .int (iI (C (j - 1)))), (0, .ref ro), (1, .ref a), (2, .int (iI ↑p)), (3, .int (iI (↑j - 1)))]) E.1 E.2.1 dX5_resultOf_78 hl (by decide) rfl (fun ls hl => ?_)
          refine lv_goto (tgt := 167) E.1 E.2.1 dX5_resultOf_80 (by decide) ?_
          refine lv_aload_n E.1 E.2.1 dX5_resultOf_167 rfl (lv_at hl 6 rfl) ?_
          refine fw_get E hK hH k0 fc_X5 1 (by decide) ql_RX5_15 rfl rfl dX5_resultOf_168 ?_
          refine lv_iload_n E.1 E.2.1 dX5_resultOf_171 rfl (lv_at hl 9 rfl) ?_
          refine lv_iload E.1 E.2.1 dX5_resultOf_172 (lv_at hl 0 rfl) ?_
          refine fw_cS (As := [.int (iI (V (j - 1)))]) (rest := [.int (iI (↑j - 1)), .ref (ro + 2)]) E hK hH hl fL_X5_limited ql_RX5_41 qs_yX5_limited (k_limited l G _ _ (V (j - 1)) (by omega)) rfl rfl (Nat.le_of_ble_eq_true rfl) ⟨Nat.le_of_ble_eq_true rfl, Nat.le_of_ble_eq_true rfl⟩ ⟨Nat.le_of_ble_eq_true rfl, Nat.le_of_ble_eq_true rfl⟩ dX5_resultOf_174 (fw_ki fun r71 M70 H1 locs1 hp69 hH hz1 => ?_)
          obtain ⟨rfl, hM9, hz2⟩ := hp69
          replace hz := hz2.trans hz
          clear hz1 hz2
          rw [hM9] at hH
          refine fw_cSN (As := [.ref (ro + 2), .int (iI (↑j - 1)), .int (iI (limI (V (j - 1))))]) (rest := []) E hK hH hl fL_X9_put ql_RX5_18 qs_yX9_put (k_put l G _ _ (ro + 2) 40 rs (↑j - 1) (j - 1) (limI (V (j - 1))) k2 (by omega) (by omega) (by omega) (by omega)) rfl rfl (Nat.le_of_ble_eq_true rfl) ⟨Nat.le_of_ble_eq_true rfl, Nat.le_of_ble_eq_true rfl⟩ ⟨Nat.le_of_ble_eq_true rfl, Nat.le_of_ble_eq_true rfl⟩ dX5_resultOf_177 (fw_kv fun M73 H1 locs1 hp72 hH hz1 => ?_)
          obtain ⟨hM8, hz2⟩ := hp72
          have hfr : ∀ q, q ≠ ro + 2 → M73 q = Mw13 q := fun q h => by rw [hM8]; exact fw_up_ne h
          have k2 : M73 (ro + 2) = some (fI G 40 (fun j0 => iI ((zup rs (j - 1) (limI (V (j - 1)))) j0))) := by rw [hM8]; exact fw_up_eq
          replace hz := hz2.trans hz
          clear hz1 hz2
          have fr74 := hfr
          replace hT := trAt.fr hT (fun q h1 h2 => fr74 q (by omega))
          replace k0 : M73 ro = some (.inr (5, [.ref (ro + 1), .ref (ro + 2)])) := (fr74 _ (by omega)).trans k0
          replace k1 : M73 (ro + 1) = some (fI G 3 (fun j0 => iI (ip j0))) := (fr74 _ (by omega)).trans k1
          refine lv_iinc (v := iI (↑(j - 1) - 1)) (lv' := [(3, .int (iI (↑(j - 1) - 1))), (9, .int (iI (V (j - 1)))), (8, .int (iI s3)), (7, .int (iI s2)), (6, .int (iI ↑j)), (5, .int (iI (V (j - 1)))), (4, .int (iI (C (j - 1)))), (0, .ref ro), (1, .ref a), (2, .int (iI ↑p))]) E.1 E.2.1 dX5_resultOf_180 hl (k := 9) rfl (iI_inc (congrArg iI (by omega))) (by decide) rfl (fun ls hl => ?_)
          refine lv_goto (tgt := 13) E.1 E.2.1 dX5_resultOf_183 (by decide) ?_
          have hst : ∀ k, j - 1 ≤ k → k < p + sp p → (zup rs (j - 1) (limI (V (j - 1)))) k = evF inp C V sp k := fun k h1 h2 => by
            by_cases hk9 : k = j - 1
            · rw [hk9, zup_eq, hev]
              unfold evS
              rw [if_pos (show (C (j - 1)) = 0 by omega)]
            · rw [zup_ne hk9]; exact hRs k (by omega) h2
          exact ih13 (j - 1) _ _ _ _ _ (by omega) (by omega) (by omega) hst (fun q hq => by rw [fr74 q (by omega)]; exact hfr0 q hq) hH (by omega) hT k0 k1 k2 (lv_sub hl [7, 8, 9, 0] rfl)
  exact loop13_1 ((p + sp p) + 1) (p + sp p) rs _ _ _ _ (Nat.lt_succ_self _) (Nat.le_refl _) (by omega) (fun k h1 h2 => absurd h1 (by omega)) (fun _ _ => rfl) hH (by omega) hT k0 k1 k2 (lv_sub hl [1, 2, 3, 0] rfl)

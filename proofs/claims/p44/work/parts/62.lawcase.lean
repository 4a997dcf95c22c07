set_option maxHeartbeats 2000000 in
theorem l_addCase (l : Launch) (G : fw_G) (M : fw_M) (N : Nat) (a dw cn o : Nat) (lk gn mi : Int) (T : Nat → aT) (j : aJ) (ra : aR) (hA : lgA G M a dw cn j.2.2.2.2.1) (hW : bnR G M (a + 1) o cn lk gn mi T j ra) (hO : bnO cn lk T j ra) (hE : skE G M (a + 2)) (haN : a + 381 ≤ N) (hc9 : j.2.2.2.2.1 < 12) (hd9 : dw + 10 ≤ 20000) : fMet l yX10_addCase cX10_addCase 2 (some .boolean) 3 130 1 4 G M N [.ref a] (fw_pi (fun r M1 n1 => r = iI 1 ∧ (∃ (dw1 : Nat) (j1 : aJ), dw ≤ dw1 ∧ dw1 ≤ dw + 4 ∧ j1.2.2.2.2.1 = j.2.2.2.2.1 + 1 ∧ jOK j1 ∧ lgA G M1 a dw1 cn j1.2.2.2.2.1 ∧ bnR G M1 (a + 1) o cn lk gn mi T j1 ra ∧ skE G M1 (a + 2)) ∧ (∀ q, (q < a ∨ a + 381 ≤ q) ∧ q < N → M1 q = M q) ∧ N ≤ n1)) := by
  refine fw_met RX10 rfl (by decide +kernel) (Nat.le_of_ble_eq_true rfl) ?_
  intro pG e s m args below meth cG ls E hr hlk hnm hK hH hz hl
  obtain ⟨hba, g0, ⟨f1, u1⟩, f2, u2⟩ := hA
  have hO9 := id hO
  obtain ⟨hj, hr9, hlu, hTk⟩ := hO
  refine lv_iconst (v := iI 4) E.1 E.2.1 dX10_addCase_0 (by decide) ?_
  refine fw_newI (N := 4) E hK hH hz qa_int (by decide) (by decide) (by decide) ⟨by show _ ≤ (1 : Nat); omega, by show _ ≤ (4 : Nat); omega⟩ dX10_addCase_1 (fun H1 hH hz1 => ?_)
  replace hz : H1.size = N + 1 := by omega
  clear hz1
  obtain ⟨M1, hM2⟩ : ∃ MX, MX = fw_up M N (fI G 4 (fun j0 => iI (z0 j0))) := ⟨_, rfl⟩
  replace hH := fw_H.nm hM2 hH
  have fr3 : ∀ q, q ≠ N → M1 q = M q := fun q h => by rw [hM2]; exact fw_up_ne h
  replace g0 : M1 a = some (.inr (10, [.ref (a + 1), .ref (G.2.2.2.2 3), .int (iI ↑dw), .int (iI ↑cn), .ref (a + 379), .int (iI ↑j.2.2.2.2.1), .ref (a + 380)])) := (fr3 _ (by omega)).trans g0
  replace u1 : M1 (a + 379) = some (fU G 16 f1) := (fr3 _ (by omega)).trans u1
  replace u2 : M1 (a + 380) = some (fU G 12 f2) := (fr3 _ (by omega)).trans u2
  replace hW := bnR.fr hW (fun q h1 h2 => fr3 q (by omega))
  replace hE := skE.fr hE (fun q h1 h2 => fr3 q (by omega))
  have hn0 : M1 N = some (fI G 4 (fun j0 => iI (z0 j0))) := by rw [hM2]; exact fw_up_eq
  refine lv_dup E.1 E.2.1 dX10_addCase_3 rfl ?_
  refine lv_iconst (v := iI 0) E.1 E.2.1 dX10_addCase_4 (by decide) ?_
  refine lv_aload_n E.1 E.2.1 dX10_addCase_5 rfl (lv_at hl 0 rfl) ?_
  refine lv_bipush (v := iI 41) E.1 E.2.1 dX10_addCase_6 (by decide) ?_
  refine fw_cV (As := [.int (iI 41)]) (rest := [.int (iI 0), .ref N, .ref N]) E hK hH hl g0 fc_X10 fL_X10_draw ql_RX10_48 qi_yX10_draw qv_yX10_draw (l_draw l G _ _ a dw 41 ↑cn ↑j.2.2.2.2.1 (by omega) g0 (by omega) (by omega)) rfl rfl (Nat.le_of_ble_eq_true rfl) ⟨Nat.le_of_ble_eq_true rfl, Nat.le_of_ble_eq_true rfl⟩ ⟨by show _ ≤ (1 : Nat); omega, by show _ ≤ (4 : Nat); omega⟩ dX10_addCase_8 (fw_ki fun r6 M5 H1 locs1 hp4 hH hz1 => ?_)
  obtain ⟨⟨kr24, rfl, hkr24⟩, hob24, hfr, hz2⟩ := hp4
  replace hz := hz2.trans hz
  clear hz1 hz2
  have fr7 := hfr
  replace u1 : M5 (a + 379) = some (fU G 16 f1) := (fr7 _ (by omega)).trans u1
  replace u2 : M5 (a + 380) = some (fU G 12 f2) := (fr7 _ (by omega)).trans u2
  replace hW := bnR.fr hW (fun q h1 h2 => fr7 q (by omega))
  replace hE := skE.fr hE (fun q h1 h2 => fr7 q (by omega))
  replace hn0 : M5 N = some (fI G 4 (fun j0 => iI (z0 j0))) := (fr7 _ (by omega)).trans hn0
  refine lv_bipush (v := iI 20) E.1 E.2.1 dX10_addCase_11 (by decide) ?_
  refine fw_isub E dX10_addCase_13 ?_
  refine fw_iast E hK hH (by omega) hn0 (iI_in (by omega) (by omega) (by omega)) dX10_addCase_14 (fun H1 locs1 hH hz1 => ?_)
  replace hz := hz1.trans hz; clear hz1
  rw [show upd (fun j0 => iI (z0 j0)) (iI (0)).toNatClampNeg (iI ((↑kr24) - 20)) = fun j0 => iI ((zup z0 (0) ((↑kr24) - 20)) j0) from by rw [iI_ix (by omega) (by omega)]; exact zup_upd _ _ _] at hH
  obtain ⟨M8, hM9⟩ : ∃ MX, MX = fw_up M5 N (fI G 4 (fun j0 => iI ((zup z0 (0) ((↑kr24) - 20)) j0))) := ⟨_, rfl⟩
  replace hH := fw_H.nm hM9 hH
  have fr10 : ∀ q, q ≠ N → M8 q = M5 q := fun q h => by rw [hM9]; exact fw_up_ne h
  replace u1 : M8 (a + 379) = some (fU G 16 f1) := (fr10 _ (by omega)).trans u1
  replace u2 : M8 (a + 380) = some (fU G 12 f2) := (fr10 _ (by omega)).trans u2
  replace hW := bnR.fr hW (fun q h1 h2 => fr10 q (by omega))
  replace hE := skE.fr hE (fun q h1 h2 => fr10 q (by omega))
  replace hob24 : M8 a = some (.inr (10, [.ref (a + 1), .ref (G.2.2.2.2 3), .int (iI (↑(dw + 1))), .int (iI ↑cn), .ref (a + 379), .int (iI ↑j.2.2.2.2.1), .ref (a + 380)])) := (fr10 _ (by omega)).trans hob24
  have hn0 : M8 N = some (fI G 4 (fun j0 => iI ((zup z0 (0) ((↑kr24) - 20)) j0))) := by rw [hM9]; exact fw_up_eq
  refine lv_dup E.1 E.2.1 dX10_addCase_15 rfl ?_
  refine lv_iconst (v := iI 1) E.1 E.2.1 dX10_addCase_16 (by decide) ?_
  refine lv_aload_n E.1 E.2.1 dX10_addCase_17 rfl (lv_at hl 0 rfl) ?_
  refine lv_bipush (v := iI 41) E.1 E.2.1 dX10_addCase_18 (by decide) ?_
  refine fw_cV (As := [.int (iI 41)]) (rest := [.int (iI 1), .ref N, .ref N]) E hK hH hl hob24 fc_X10 fL_X10_draw ql_RX10_48 qi_yX10_draw qv_yX10_draw (l_draw l G _ _ a (dw + 1) 41 ↑cn ↑j.2.2.2.2.1 (by omega) hob24 (by omega) (by omega)) rfl rfl (Nat.le_of_ble_eq_true rfl) ⟨Nat.le_of_ble_eq_true rfl, Nat.le_of_ble_eq_true rfl⟩ ⟨by show _ ≤ (1 : Nat); omega, by show _ ≤ (4 : Nat); omega⟩ dX10_addCase_20 (fw_ki fun r13 M12 H1 locs1 hp11 hH hz1 => ?_)
  obtain ⟨⟨kr52, rfl, hkr52⟩, hob52, hfr, hz2⟩ := hp11
  replace hz := hz2.trans hz
  clear hz1 hz2
  have fr14 := hfr
  replace u1 : M12 (a + 379) = some (fU G 16 f1) := (fr14 _ (by omega)).trans u1
  replace u2 : M12 (a + 380) = some (fU G 12 f2) := (fr14 _ (by omega)).trans u2
  replace hW := bnR.fr hW (fun q h1 h2 => fr14 q (by omega))
  replace hE := skE.fr hE (fun q h1 h2 => fr14 q (by omega))
  replace hn0 : M12 N = some (fI G 4 (fun j0 => iI ((zup z0 (0) ((↑kr24) - 20)) j0))) := (fr14 _ (by omega)).trans hn0
  refine lv_bipush (v := iI 20) E.1 E.2.1 dX10_addCase_23 (by decide) ?_
  refine fw_isub E dX10_addCase_25 ?_
  refine fw_iast E hK hH (by omega) hn0 (iI_in (by omega) (by omega) (by omega)) dX10_addCase_26 (fun H1 locs1 hH hz1 => ?_)
  replace hz := hz1.trans hz; clear hz1
  rw [show upd (fun j0 => iI ((zup z0 (0) ((↑kr24) - 20)) j0)) (iI (1)).toNatClampNeg (iI ((↑kr52) - 20)) = fun j0 => iI ((zup (zup z0 (0) ((↑kr24) - 20)) (1) ((↑kr52) - 20)) j0) from by rw [iI_ix (by omega) (by omega)]; exact zup_upd _ _ _] at hH
  obtain ⟨M15, hM16⟩ : ∃ MX, MX = fw_up M12 N (fI G 4 (fun j0 => iI ((zup (zup z0 (0) ((↑kr24) - 20)) (1) ((↑kr52) - 20)) j0))) := ⟨_, rfl⟩
  replace hH := fw_H.nm hM16 hH
  have fr17 : ∀ q, q ≠ N → M15 q = M12 q := fun q h => by rw [hM16]; exact fw_up_ne h
  replace u1 : M15 (a + 379) = some (fU G 16 f1) := (fr17 _ (by omega)).trans u1
  replace u2 : M15 (a + 380) = some (fU G 12 f2) := (fr17 _ (by omega)).trans u2
  replace hW := bnR.fr hW (fun q h1 h2 => fr17 q (by omega))
  replace hE := skE.fr hE (fun q h1 h2 => fr17 q (by omega))
  replace hob52 : M15 a = some (.inr (10, [.ref (a + 1), .ref (G.2.2.2.2 3), .int (iI (↑((dw + 1) + 1))), .int (iI ↑cn), .ref (a + 379), .int (iI ↑j.2.2.2.2.1), .ref (a + 380)])) := (fr17 _ (by omega)).trans hob52
  have hn0 : M15 N = some (fI G 4 (fun j0 => iI ((zup (zup z0 (0) ((↑kr24) - 20)) (1) ((↑kr52) - 20)) j0))) := by rw [hM16]; exact fw_up_eq
  refine lv_dup E.1 E.2.1 dX10_addCase_27 rfl ?_
  refine lv_iconst (v := iI 2) E.1 E.2.1 dX10_addCase_28 (by decide) ?_
  refine lv_aload_n E.1 E.2.1 dX10_addCase_29 rfl (lv_at hl 0 rfl) ?_
  refine lv_bipush (v := iI 41) E.1 E.2.1 dX10_addCase_30 (by decide) ?_
  refine fw_cV (As := [.int (iI 41)]) (rest := [.int (iI 2), .ref N, .ref N]) E hK hH hl hob52 fc_X10 fL_X10_draw ql_RX10_48 qi_yX10_draw qv_yX10_draw (l_draw l G _ _ a ((dw + 1) + 1) 41 ↑cn ↑j.2.2.2.2.1 (by omega) hob52 (by omega) (by omega)) rfl rfl (Nat.le_of_ble_eq_true rfl) ⟨Nat.le_of_ble_eq_true rfl, Nat.le_of_ble_eq_true rfl⟩ ⟨by show _ ≤ (1 : Nat); omega, by show _ ≤ (4 : Nat); omega⟩ dX10_addCase_32 (fw_ki fun r20 M19 H1 locs1 hp18 hH hz1 => ?_)
  obtain ⟨⟨kr80, rfl, hkr80⟩, hob80, hfr, hz2⟩ := hp18
  replace hz := hz2.trans hz
  clear hz1 hz2
  have fr21 := hfr
  replace u1 : M19 (a + 379) = some (fU G 16 f1) := (fr21 _ (by omega)).trans u1
  replace u2 : M19 (a + 380) = some (fU G 12 f2) := (fr21 _ (by omega)).trans u2
  replace hW := bnR.fr hW (fun q h1 h2 => fr21 q (by omega))
  replace hE := skE.fr hE (fun q h1 h2 => fr21 q (by omega))
  replace hn0 : M19 N = some (fI G 4 (fun j0 => iI ((zup (zup z0 (0) ((↑kr24) - 20)) (1) ((↑kr52) - 20)) j0))) := (fr21 _ (by omega)).trans hn0
  refine lv_bipush (v := iI 20) E.1 E.2.1 dX10_addCase_35 (by decide) ?_
  refine fw_isub E dX10_addCase_37 ?_
  refine fw_iast E hK hH (by omega) hn0 (iI_in (by omega) (by omega) (by omega)) dX10_addCase_38 (fun H1 locs1 hH hz1 => ?_)
  replace hz := hz1.trans hz; clear hz1
  rw [show upd (fun j0 => iI ((zup (zup z0 (0) ((↑kr24) - 20)) (1) ((↑kr52) - 20)) j0)) (iI (2)).toNatClampNeg (iI ((↑kr80) - 20)) = fun j0 => iI ((zup (zup (zup z0 (0) ((↑kr24) - 20)) (1) ((↑kr52) - 20)) (2) ((↑kr80) - 20)) j0) from by rw [iI_ix (by omega) (by omega)]; exact zup_upd _ _ _] at hH
  obtain ⟨M22, hM23⟩ : ∃ MX, MX = fw_up M19 N (fI G 4 (fun j0 => iI ((zup (zup (zup z0 (0) ((↑kr24) - 20)) (1) ((↑kr52) - 20)) (2) ((↑kr80) - 20)) j0))) := ⟨_, rfl⟩
  replace hH := fw_H.nm hM23 hH
  have fr24 : ∀ q, q ≠ N → M22 q = M19 q := fun q h => by rw [hM23]; exact fw_up_ne h
  replace u1 : M22 (a + 379) = some (fU G 16 f1) := (fr24 _ (by omega)).trans u1
  replace u2 : M22 (a + 380) = some (fU G 12 f2) := (fr24 _ (by omega)).trans u2
  replace hW := bnR.fr hW (fun q h1 h2 => fr24 q (by omega))
  replace hE := skE.fr hE (fun q h1 h2 => fr24 q (by omega))
  replace hob80 : M22 a = some (.inr (10, [.ref (a + 1), .ref (G.2.2.2.2 3), .int (iI (↑(((dw + 1) + 1) + 1))), .int (iI ↑cn), .ref (a + 379), .int (iI ↑j.2.2.2.2.1), .ref (a + 380)])) := (fr24 _ (by omega)).trans hob80
  have hn0 : M22 N = some (fI G 4 (fun j0 => iI ((zup (zup (zup z0 (0) ((↑kr24) - 20)) (1) ((↑kr52) - 20)) (2) ((↑kr80) - 20)) j0))) := by rw [hM23]; exact fw_up_eq
  refine lv_dup E.1 E.2.1 dX10_addCase_39 rfl ?_
  refine lv_iconst (v := iI 3) E.1 E.2.1 dX10_addCase_40 (by decide) ?_
  refine lv_aload_n E.1 E.2.1 dX10_addCase_41 rfl (lv_at hl 0 rfl) ?_
  refine lv_sipush (v := iI 201) E.1 E.2.1 dX10_addCase_42 (by decide) ?_
  refine fw_cV (As := [.int (iI 201)]) (rest := [.int (iI 3), .ref N, .ref N]) E hK hH hl hob80 fc_X10 fL_X10_draw ql_RX10_48 qi_yX10_draw qv_yX10_draw (l_draw l G _ _ a (((dw + 1) + 1) + 1) 201 ↑cn ↑j.2.2.2.2.1 (by omega) hob80 (by omega) (by omega)) rfl rfl (Nat.le_of_ble_eq_true rfl) ⟨Nat.le_of_ble_eq_true rfl, Nat.le_of_ble_eq_true rfl⟩ ⟨by show _ ≤ (1 : Nat); omega, by show _ ≤ (4 : Nat); omega⟩ dX10_addCase_45 (fw_ki fun r27 M26 H1 locs1 hp25 hH hz1 => ?_)
  obtain ⟨⟨kr108, rfl, hkr108⟩, hob108, hfr, hz2⟩ := hp25
  replace hz := hz2.trans hz
  clear hz1 hz2
  have fr28 := hfr
  replace u1 : M26 (a + 379) = some (fU G 16 f1) := (fr28 _ (by omega)).trans u1
  replace u2 : M26 (a + 380) = some (fU G 12 f2) := (fr28 _ (by omega)).trans u2
  replace hW := bnR.fr hW (fun q h1 h2 => fr28 q (by omega))
  replace hE := skE.fr hE (fun q h1 h2 => fr28 q (by omega))
  replace hn0 : M26 N = some (fI G 4 (fun j0 => iI ((zup (zup (zup z0 (0) ((↑kr24) - 20)) (1) ((↑kr52) - 20)) (2) ((↑kr80) - 20)) j0))) := (fr28 _ (by omega)).trans hn0
  refine lv_bipush (v := iI 100) E.1 E.2.1 dX10_addCase_48 (by decide) ?_
  refine fw_isub E dX10_addCase_50 ?_
  refine fw_iast E hK hH (by omega) hn0 (iI_in (by omega) (by omega) (by omega)) dX10_addCase_51 (fun H1 locs1 hH hz1 => ?_)
  replace hz := hz1.trans hz; clear hz1
  rw [show upd (fun j0 => iI ((zup (zup (zup z0 (0) ((↑kr24) - 20)) (1) ((↑kr52) - 20)) (2) ((↑kr80) - 20)) j0)) (iI (3)).toNatClampNeg (iI ((↑kr108) - 100)) = fun j0 => iI ((zup (zup (zup (zup z0 (0) ((↑kr24) - 20)) (1) ((↑kr52) - 20)) (2) ((↑kr80) - 20)) (3) ((↑kr108) - 100)) j0) from by rw [iI_ix (by omega) (by omega)]; exact zup_upd _ _ _] at hH
  obtain ⟨M29, hM30⟩ : ∃ MX, MX = fw_up M26 N (fI G 4 (fun j0 => iI ((zup (zup (zup (zup z0 (0) ((↑kr24) - 20)) (1) ((↑kr52) - 20)) (2) ((↑kr80) - 20)) (3) ((↑kr108) - 100)) j0))) := ⟨_, rfl⟩
  replace hH := fw_H.nm hM30 hH
  have fr31 : ∀ q, q ≠ N → M29 q = M26 q := fun q h => by rw [hM30]; exact fw_up_ne h
  replace u1 : M29 (a + 379) = some (fU G 16 f1) := (fr31 _ (by omega)).trans u1
  replace u2 : M29 (a + 380) = some (fU G 12 f2) := (fr31 _ (by omega)).trans u2
  replace hW := bnR.fr hW (fun q h1 h2 => fr31 q (by omega))
  replace hE := skE.fr hE (fun q h1 h2 => fr31 q (by omega))
  replace hob108 : M29 a = some (.inr (10, [.ref (a + 1), .ref (G.2.2.2.2 3), .int (iI (↑((((dw + 1) + 1) + 1) + 1))), .int (iI ↑cn), .ref (a + 379), .int (iI ↑j.2.2.2.2.1), .ref (a + 380)])) := (fr31 _ (by omega)).trans hob108
  have hn0 : M29 N = some (fI G 4 (fun j0 => iI ((zup (zup (zup (zup z0 (0) ((↑kr24) - 20)) (1) ((↑kr52) - 20)) (2) ((↑kr80) - 20)) (3) ((↑kr108) - 100)) j0))) := by rw [hM30]; exact fw_up_eq
  refine lv_astore_n (lv' := [(1, .ref N), (0, .ref a)]) E.1 E.2.1 dX10_addCase_52 rfl hl (by decide) rfl (fun ls hl => ?_)
  refine lv_aload_n E.1 E.2.1 dX10_addCase_53 rfl (lv_at hl 1 rfl) ?_
  refine fw_get E hK hH hob108 fc_X10 6 (by decide) ql_RX10_22 rfl rfl dX10_addCase_54 ?_
  refine lv_aload_n E.1 E.2.1 dX10_addCase_57 rfl (lv_at hl 1 rfl) ?_
  refine fw_get E hK hH hob108 fc_X10 5 (by decide) ql_RX10_80 rfl rfl dX10_addCase_58 ?_
  refine lv_aload_n E.1 E.2.1 dX10_addCase_61 rfl (lv_at hl 0 rfl) ?_
  refine fw_aastU E hK hH (by omega) u2 hn0 (iI_in (by omega) (by omega) (by omega)) qo_arr dX10_addCase_62 (fun H1 locs1 hH hz1 => ?_)
  replace hz := hz1.trans hz; clear hz1
  obtain ⟨va138, hva138⟩ : ∃ y, y = va_up f2 (iI ↑j.2.2.2.2.1).toNatClampNeg (some N) := ⟨_, rfl⟩
  rw [← hva138] at hH
  obtain ⟨M32, hM33⟩ : ∃ MX, MX = fw_up M29 (a + 380) (fU G 12 va138) := ⟨_, rfl⟩
  replace hH := fw_H.nm hM33 hH
  have fr34 : ∀ q, q ≠ (a + 380) → M32 q = M29 q := fun q h => by rw [hM33]; exact fw_up_ne h
  replace u1 : M32 (a + 379) = some (fU G 16 f1) := (fr34 _ (by omega)).trans u1
  replace hW := bnR.fr hW (fun q h1 h2 => fr34 q (by omega))
  replace hE := skE.fr hE (fun q h1 h2 => fr34 q (by omega))
  replace hob108 : M32 a = some (.inr (10, [.ref (a + 1), .ref (G.2.2.2.2 3), .int (iI (↑((((dw + 1) + 1) + 1) + 1))), .int (iI ↑cn), .ref (a + 379), .int (iI ↑j.2.2.2.2.1), .ref (a + 380)])) := (fr34 _ (by omega)).trans hob108
  replace hn0 : M32 N = some (fI G 4 (fun j0 => iI ((zup (zup (zup (zup z0 (0) ((↑kr24) - 20)) (1) ((↑kr52) - 20)) (2) ((↑kr80) - 20)) (3) ((↑kr108) - 100)) j0))) := (fr34 _ (by omega)).trans hn0
  have u2 : M32 (a + 380) = some (fU G 12 va138) := by rw [hM33]; exact fw_up_eq
  refine lv_aload_n E.1 E.2.1 dX10_addCase_63 rfl (lv_at hl 1 rfl) ?_
  refine fw_get E hK hH hob108 fc_X10 0 (by decide) ql_RX10_10 rfl rfl dX10_addCase_64 ?_
  refine lv_aload_n E.1 E.2.1 dX10_addCase_67 rfl (lv_at hl 0 rfl) ?_
  refine lv_iconst (v := iI 0) E.1 E.2.1 dX10_addCase_68 (by decide) ?_
  refine fw_iald E hK hH hn0 (iI_in (by omega) (by omega) (by omega)) dX10_addCase_69 ?_
  refine fw_cv (y := iI ((↑kr24) - 20)) (by rw [iI_ix (by omega) (by omega)]; rfl) ?_
  refine lv_aload_n E.1 E.2.1 dX10_addCase_70 rfl (lv_at hl 0 rfl) ?_
  refine lv_iconst (v := iI 1) E.1 E.2.1 dX10_addCase_71 (by decide) ?_
  refine fw_iald E hK hH hn0 (iI_in (by omega) (by omega) (by omega)) dX10_addCase_72 ?_
  refine fw_cv (y := iI ((↑kr52) - 20)) (by rw [iI_ix (by omega) (by omega)]; rfl) ?_
  refine lv_aload_n E.1 E.2.1 dX10_addCase_73 rfl (lv_at hl 0 rfl) ?_
  refine lv_iconst (v := iI 2) E.1 E.2.1 dX10_addCase_74 (by decide) ?_
  refine fw_iald E hK hH hn0 (iI_in (by omega) (by omega) (by omega)) dX10_addCase_75 ?_
  refine fw_cv (y := iI ((↑kr80) - 20)) (by rw [iI_ix (by omega) (by omega)]; rfl) ?_
  refine lv_aload_n E.1 E.2.1 dX10_addCase_76 rfl (lv_at hl 0 rfl) ?_
  refine lv_iconst (v := iI 3) E.1 E.2.1 dX10_addCase_77 (by decide) ?_
  refine fw_iald E hK hH hn0 (iI_in (by omega) (by omega) (by omega)) dX10_addCase_78 ?_
  refine fw_cv (y := iI ((↑kr108) - 100)) (by rw [iI_ix (by omega) (by omega)]; rfl) ?_
  have hjn169 := adJ_ok hj hc9 (x := (↑kr24) - 20) (y := (↑kr52) - 20) (z := (↑kr80) - 20) (w := (↑kr108) - 100) (by omega) (by omega) (by omega) (by omega)
  refine fw_cV (As := [.int (iI ((↑kr24) - 20)), .int (iI ((↑kr52) - 20)), .int (iI ((↑kr80) - 20)), .int (iI ((↑kr108) - 100))]) (rest := []) E hK hH hl hW.1.2 fc_X9 fL_X9_addCase ql_RX10_83 qi_yX9_addCase qv_yX9_addCase (b_addCase l G _ _ (a + 1) o cn lk gn mi T j ra hW hO9 ((↑kr24) - 20) ((↑kr52) - 20) ((↑kr80) - 20) ((↑kr108) - 100) (by omega) (by omega) (by omega) (by omega) hc9) rfl rfl (Nat.le_of_ble_eq_true rfl) ⟨Nat.le_of_ble_eq_true rfl, Nat.le_of_ble_eq_true rfl⟩ ⟨by show _ ≤ (1 : Nat); omega, by show _ ≤ (4 : Nat); omega⟩ dX10_addCase_79 (fw_ki fun r37 M36 H1 locs1 hp35 hH hz1 => ?_)
  obtain ⟨⟨rfl, hW169⟩, hfr, hz2⟩ := hp35
  replace hz := hz2.trans hz
  clear hz1 hz2
  have fr38 := hfr
  replace u1 : M36 (a + 379) = some (fU G 16 f1) := (fr38 _ (by omega)).trans u1
  replace hE := skE.fr hE (fun q h1 h2 => fr38 q (by omega))
  replace hob108 : M36 a = some (.inr (10, [.ref (a + 1), .ref (G.2.2.2.2 3), .int (iI (↑((((dw + 1) + 1) + 1) + 1))), .int (iI ↑cn), .ref (a + 379), .int (iI ↑j.2.2.2.2.1), .ref (a + 380)])) := (fr38 _ (by omega)).trans hob108
  replace hn0 : M36 N = some (fI G 4 (fun j0 => iI ((zup (zup (zup (zup z0 (0) ((↑kr24) - 20)) (1) ((↑kr52) - 20)) (2) ((↑kr80) - 20)) (3) ((↑kr108) - 100)) j0))) := (fr38 _ (by omega)).trans hn0
  replace u2 : M36 (a + 380) = some (fU G 12 va138) := (fr38 _ (by omega)).trans u2
  refine lv_aload_n E.1 E.2.1 dX10_addCase_82 rfl (lv_at hl 1 rfl) ?_
  refine lv_dup E.1 E.2.1 dX10_addCase_83 rfl ?_
  refine fw_get E hK hH hob108 fc_X10 5 (by decide) ql_RX10_80 rfl rfl dX10_addCase_84 ?_
  refine lv_dup_x1 E.1 E.2.1 dX10_addCase_87 rfl rfl ?_
  refine lv_iconst (v := iI 1) E.1 E.2.1 dX10_addCase_88 (by decide) ?_
  refine fw_iadd E dX10_addCase_89 ?_
  refine fw_put E hK hH (by omega) hob108 fc_X10 5 (by decide) ql_RX10_80 rfl rfl rfl rfl (Nat.le_of_ble_eq_true rfl) dX10_addCase_90 (fun H1 locs1 hH hz1 => ?_)
  replace hz := hz1.trans hz; clear hz1
  obtain ⟨M39, hM40⟩ : ∃ MX, MX = fw_up M36 a (.inr (10, [.ref (a + 1), .ref (G.2.2.2.2 3), .int (iI (↑((((dw + 1) + 1) + 1) + 1))), .int (iI ↑cn), .ref (a + 379), .int (iI ((↑j.2.2.2.2.1) + 1)), .ref (a + 380)])) := ⟨_, rfl⟩
  replace hH := fw_H.nm hM40 hH
  have fr41 : ∀ q, q ≠ a → M39 q = M36 q := fun q h => by rw [hM40]; exact fw_up_ne h
  replace u1 : M39 (a + 379) = some (fU G 16 f1) := (fr41 _ (by omega)).trans u1
  replace hE := skE.fr hE (fun q h1 h2 => fr41 q (by omega))
  replace hn0 : M39 N = some (fI G 4 (fun j0 => iI ((zup (zup (zup (zup z0 (0) ((↑kr24) - 20)) (1) ((↑kr52) - 20)) (2) ((↑kr80) - 20)) (3) ((↑kr108) - 100)) j0))) := (fr41 _ (by omega)).trans hn0
  replace u2 : M39 (a + 380) = some (fU G 12 va138) := (fr41 _ (by omega)).trans u2
  replace hW169 := bnR.fr hW169 (fun q h1 h2 => fr41 q (by omega))
  have hob108 : M39 a = some (.inr (10, [.ref (a + 1), .ref (G.2.2.2.2 3), .int (iI (↑((((dw + 1) + 1) + 1) + 1))), .int (iI ↑cn), .ref (a + 379), .int (iI ((↑j.2.2.2.2.1) + 1)), .ref (a + 380)])) := by rw [hM40]; exact fw_up_eq
  refine fw_icmp_ne (tgt := 100) E dX10_addCase_93 (by decide) (by omega) (by omega) (by omega) (by omega) (fun c42 => ?_) (fun c42 => ?_)
  · exact absurd c42 (by omega)
  · refine lv_iconst (v := iI 1) E.1 E.2.1 dX10_addCase_96 (by decide) ?_
    refine lv_goto (tgt := 101) E.1 E.2.1 dX10_addCase_97 (by decide) ?_
    refine W.widen (k := 1) (n := 4) (by omega) (by omega) ?_
    refine fw_zret (r := (iI 1)) E hr hlk hH (by rfl) ?_ dX10_addCase_101
    exact ⟨rfl, ⟨((((dw + 1) + 1) + 1) + 1), adJ j ((↑kr24) - 20) ((↑kr52) - 20) ((↑kr80) - 20) ((↑kr108) - 100), by omega, by omega, rfl, hjn169, ⟨hba, by rw [show (↑(adJ j ((↑kr24) - 20) ((↑kr52) - 20) ((↑kr80) - 20) ((↑kr108) - 100)).2.2.2.2.1 : Int) = ↑j.2.2.2.2.1 + 1 by show ((j.2.2.2.2.1 + 1 : Nat) : Int) = _; omega]; exact hob108, ⟨_, u1⟩, _, u2⟩, hW169, hE⟩, (fun q hq => by rw [fr41 q (by omega), fr38 q (by omega), fr34 q (by omega), fr31 q (by omega), fr28 q (by omega), fr24 q (by omega), fr21 q (by omega), fr17 q (by omega), fr14 q (by omega), fr10 q (by omega), fr7 q (by omega), fr3 q (by omega)]), by omega⟩

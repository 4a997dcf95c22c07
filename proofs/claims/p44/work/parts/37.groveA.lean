theorem k_treeOf (l : Launch) (G : fw_G) (M : fw_M) (N : Nat) (go rw j b : Nat) (f : Nat → Option Nat) (hw : M rw = some (fT G 16 f)) (hj : j < 16) (hf : f j = some b) : fMet l yX2_treeOf cX2_treeOf 4 (some (.object "Barnacle$Tree")) 0 10 0 0 G M N [.ref go, .ref rw, .int (iI ↑j)] (fw_pr (fun r M1 n1 => r = b ∧ M1 = M ∧ n1 = N)) := by
  refine fw_met RX2 rfl (by decide +kernel) (Nat.le_of_ble_eq_true rfl) ?_
  intro pG e s m args below meth cG ls E hr hlk hnm hK hH hz hl
  refine lv_iload_n E.1 E.2.1 dX2_treeOf_0 rfl (lv_at hl 2 rfl) ?_
  refine fw_if_lt (tgt := 10) E dX2_treeOf_1 (by decide) (by omega) (by omega) (fun c1 => ?_) (fun c1 => ?_)
  · exact absurd c1 (by omega)
  · refine lv_iload_n E.1 E.2.1 dX2_treeOf_4 rfl (lv_at hl 2 rfl) ?_
    refine lv_aload_n E.1 E.2.1 dX2_treeOf_5 rfl (lv_at hl 1 rfl) ?_
    refine fw_alenT E hK hH hw dX2_treeOf_6 ?_
    refine fw_cv (y := iI 16) (by decide) ?_
    refine fw_icmp_lt (tgt := 15) E dX2_treeOf_7 (by decide) (by omega) (by omega) (by omega) (by omega) (fun c2 => ?_) (fun c2 => ?_)
    · refine lv_aload_n E.1 E.2.1 dX2_treeOf_15 rfl (lv_at hl 1 rfl) ?_
      refine lv_iload_n E.1 E.2.1 dX2_treeOf_16 rfl (lv_at hl 2 rfl) ?_
      refine fw_aald E hK hH hw (iI_in (by omega) (by omega) (by omega)) dX2_treeOf_17 ?_
      refine fw_cw (v := .ref b) (by rw [iI_ix (by omega) (by omega), show (↑j : Int).toNat = j from Int.toNat_natCast j, hf]; rfl) ?_
      refine lv_astore_n (lv' := [(3, .ref b), (0, .ref go), (1, .ref rw), (2, .int (iI ↑j))]) E.1 E.2.1 dX2_treeOf_18 rfl hl (by decide) rfl (fun ls hl => ?_)
      refine lv_aload_n E.1 E.2.1 dX2_treeOf_19 rfl (lv_at hl 0 rfl) ?_
      refine lv_ifnonnull (tgt := 30) E.1 E.2.1 dX2_treeOf_20 (by decide) ?_
      refine lv_aload_n E.1 E.2.1 dX2_treeOf_30 rfl (lv_at hl 0 rfl) ?_
      refine fw_aret E hr (Or.inl ⟨_, rfl⟩) hlk hH ?_ dX2_treeOf_31
      exact ⟨rfl, rfl, hz⟩
    · exact absurd c2 (by omega)
theorem k_tree (l : Launch) (G : fw_G) (M : fw_M) (N : Nat) (go x8 x9 j b : Nat) (cn gn mi : Int) (f : Nat → Option Nat) (h0 : M go = some (.inr (2, [.ref (go + 1), .ref (go + 3), .ref x8, .ref x9, .int (iI cn), .int (iI gn), .int (iI mi)]))) (hw : M x8 = some (fT G 16 f)) (hj : j < 16) (hf : f j = some b) : fMet l yX2_tree cX2_tree 2 (some (.object "Barnacle$Tree")) 1 40 0 0 G M N [.ref go, .int (iI ↑j)] (fw_pr (fun r M1 n1 => r = b ∧ M1 = M ∧ n1 = N)) := by
  refine fw_met RX2 rfl (by decide +kernel) (Nat.le_of_ble_eq_true rfl) ?_
  intro pG e s m args below meth cG ls E hr hlk hnm hK hH hz hl
  refine lv_aload_n E.1 E.2.1 dX2_tree_0 rfl (lv_at hl 0 rfl) ?_
  refine lv_aload_n E.1 E.2.1 dX2_tree_1 rfl (lv_at hl 0 rfl) ?_
  refine fw_get E hK hH h0 fc_X2 2 (by decide) ql_RX2_25 rfl rfl dX2_tree_2 ?_
  refine lv_iload_n E.1 E.2.1 dX2_tree_5 rfl (lv_at hl 1 rfl) ?_
  refine fw_cV (As := [.ref x8, .int (iI ↑j)]) (rest := []) E hK hH hl h0 fc_X2 fL_X2_treeOf ql_RX2_32 qi_yX2_treeOf qv_yX2_treeOf (k_treeOf l G _ _ go x8 j b f hw hj hf) rfl rfl (Nat.le_of_ble_eq_true rfl) ⟨Nat.le_of_ble_eq_true rfl, Nat.le_of_ble_eq_true rfl⟩ ⟨Nat.le_of_ble_eq_true rfl, Nat.le_of_ble_eq_true rfl⟩ dX2_tree_6 (fw_kr fun r3 M2 H1 locs1 hp1 hH hz1 => ?_)
  obtain ⟨rfl, hM9, hz2⟩ := hp1
  replace hz := hz2.trans hz
  clear hz1 hz2
  rw [hM9] at hH
  refine fw_aret E hr (Or.inl ⟨_, rfl⟩) hlk hH ?_ dX2_tree_9
  exact ⟨rfl, rfl, hz⟩
theorem k_youngTree (l : Launch) (G : fw_G) (M : fw_M) (N : Nat) (go x8 x9 j b : Nat) (cn gn mi : Int) (f : Nat → Option Nat) (h0 : M go = some (.inr (2, [.ref (go + 1), .ref (go + 3), .ref x8, .ref x9, .int (iI cn), .int (iI gn), .int (iI mi)]))) (hw : M x9 = some (fT G 16 f)) (hj : j < 16) (hf : f j = some b) : fMet l yX2_youngTree cX2_youngTree 2 (some (.object "Barnacle$Tree")) 1 40 0 0 G M N [.ref go, .int (iI ↑j)] (fw_pr (fun r M1 n1 => r = b ∧ M1 = M ∧ n1 = N)) := by
  refine fw_met RX2 rfl (by decide +kernel) (Nat.le_of_ble_eq_true rfl) ?_
  intro pG e s m args below meth cG ls E hr hlk hnm hK hH hz hl
  refine lv_aload_n E.1 E.2.1 dX2_youngTree_0 rfl (lv_at hl 0 rfl) ?_
  refine lv_aload_n E.1 E.2.1 dX2_youngTree_1 rfl (lv_at hl 0 rfl) ?_
  refine fw_get E hK hH h0 fc_X2 3 (by decide) ql_RX2_29 rfl rfl dX2_youngTree_2 ?_
  refine lv_iload_n E.1 E.2.1 dX2_youngTree_5 rfl (lv_at hl 1 rfl) ?_
  refine fw_cV (As := [.ref x9, .int (iI ↑j)]) (rest := []) E hK hH hl h0 fc_X2 fL_X2_treeOf ql_RX2_32 qi_yX2_treeOf qv_yX2_treeOf (k_treeOf l G _ _ go x9 j b f hw hj hf) rfl rfl (Nat.le_of_ble_eq_true rfl) ⟨Nat.le_of_ble_eq_true rfl, Nat.le_of_ble_eq_true rfl⟩ ⟨Nat.le_of_ble_eq_true rfl, Nat.le_of_ble_eq_true rfl⟩ dX2_youngTree_6 (fw_kr fun r3 M2 H1 locs1 hp1 hH hz1 => ?_)
  obtain ⟨rfl, hM9, hz2⟩ := hp1
  replace hz := hz2.trans hz
  clear hz1 hz2
  rw [hM9] at hH
  refine fw_aret E hr (Or.inl ⟨_, rfl⟩) hlk hH ?_ dX2_youngTree_9
  exact ⟨rfl, rfl, hz⟩
theorem k_replaceByYoung (l : Launch) (G : fw_G) (M : fw_M) (N : Nat) (go x8 x9 : Nat) (cn gn mi : Int) (hbg : G.2.2.1 ≤ go) (h0 : M go = some (.inr (2, [.ref (go + 1), .ref (go + 3), .ref x8, .ref x9, .int (iI cn), .int (iI gn), .int (iI mi)]))) : fMet l yX2_replaceByYoung cX2_replaceByYoung 2 none 0 10 0 0 G M N [.ref go] (fw_pv (fun M1 n1 => M1 go = some (.inr (2, [.ref (go + 1), .ref (go + 3), .ref x9, .ref x8, .int (iI cn), .int (iI (gn + 1)), .int (iI mi)])) ∧ (∀ q, q ≠ go → M1 q = M q) ∧ n1 = N)) := by
  refine fw_met RX2 rfl (by decide +kernel) (Nat.le_of_ble_eq_true rfl) ?_
  intro pG e s m args below meth cG ls E hr hlk hnm hK hH hz hl
  refine lv_aload_n E.1 E.2.1 dX2_replaceByYoung_0 rfl (lv_at hl 0 rfl) ?_
  refine fw_get E hK hH h0 fc_X2 2 (by decide) ql_RX2_25 rfl rfl dX2_replaceByYoung_1 ?_
  refine lv_astore_n (lv' := [(1, .ref x8), (0, .ref go)]) E.1 E.2.1 dX2_replaceByYoung_4 rfl hl (by decide) rfl (fun ls hl => ?_)
  refine lv_aload_n E.1 E.2.1 dX2_replaceByYoung_5 rfl (lv_at hl 1 rfl) ?_
  refine lv_aload_n E.1 E.2.1 dX2_replaceByYoung_6 rfl (lv_at hl 1 rfl) ?_
  refine fw_get E hK hH h0 fc_X2 3 (by decide) ql_RX2_29 rfl rfl dX2_replaceByYoung_7 ?_
  refine fw_put E hK hH (by omega) h0 fc_X2 2 (by decide) ql_RX2_25 rfl rfl rfl rfl (Nat.le_of_ble_eq_true rfl) dX2_replaceByYoung_10 (fun H1 locs1 hH hz1 => ?_)
  replace hz := hz1.trans hz; clear hz1
  obtain ⟨M1, hM2⟩ : ∃ MX, MX = fw_up M go (.inr (2, [.ref (go + 1), .ref (go + 3), .ref x9, .ref x9, .int (iI cn), .int (iI gn), .int (iI mi)])) := ⟨_, rfl⟩
  replace hH := fw_H.nm hM2 hH
  have fr3 : ∀ q, q ≠ go → M1 q = M q := fun q h => by rw [hM2]; exact fw_up_ne h
  have h0 : M1 go = some (.inr (2, [.ref (go + 1), .ref (go + 3), .ref x9, .ref x9, .int (iI cn), .int (iI gn), .int (iI mi)])) := by rw [hM2]; exact fw_up_eq
  refine lv_aload_n E.1 E.2.1 dX2_replaceByYoung_13 rfl (lv_at hl 1 rfl) ?_
  refine lv_aload_n E.1 E.2.1 dX2_replaceByYoung_14 rfl (lv_at hl 0 rfl) ?_
  refine fw_put E hK hH (by omega) h0 fc_X2 3 (by decide) ql_RX2_29 rfl rfl rfl rfl (Nat.le_of_ble_eq_true rfl) dX2_replaceByYoung_15 (fun H1 locs1 hH hz1 => ?_)
  replace hz := hz1.trans hz; clear hz1
  obtain ⟨M4, hM5⟩ : ∃ MX, MX = fw_up M1 go (.inr (2, [.ref (go + 1), .ref (go + 3), .ref x9, .ref x8, .int (iI cn), .int (iI gn), .int (iI mi)])) := ⟨_, rfl⟩
  replace hH := fw_H.nm hM5 hH
  have fr6 : ∀ q, q ≠ go → M4 q = M1 q := fun q h => by rw [hM5]; exact fw_up_ne h
  have h0 : M4 go = some (.inr (2, [.ref (go + 1), .ref (go + 3), .ref x9, .ref x8, .int (iI cn), .int (iI gn), .int (iI mi)])) := by rw [hM5]; exact fw_up_eq
  refine lv_aload_n E.1 E.2.1 dX2_replaceByYoung_18 rfl (lv_at hl 1 rfl) ?_
  refine lv_dup E.1 E.2.1 dX2_replaceByYoung_19 rfl ?_
  refine fw_get E hK hH h0 fc_X2 5 (by decide) ql_RX2_55 rfl rfl dX2_replaceByYoung_20 ?_
  refine lv_iconst (v := iI 1) E.1 E.2.1 dX2_replaceByYoung_23 (by decide) ?_
  refine fw_iadd E dX2_replaceByYoung_24 ?_
  refine fw_put E hK hH (by omega) h0 fc_X2 5 (by decide) ql_RX2_55 rfl rfl rfl rfl (Nat.le_of_ble_eq_true rfl) dX2_replaceByYoung_25 (fun H1 locs1 hH hz1 => ?_)
  replace hz := hz1.trans hz; clear hz1
  obtain ⟨M7, hM8⟩ : ∃ MX, MX = fw_up M4 go (.inr (2, [.ref (go + 1), .ref (go + 3), .ref x9, .ref x8, .int (iI cn), .int (iI (gn + 1)), .int (iI mi)])) := ⟨_, rfl⟩
  replace hH := fw_H.nm hM8 hH
  have fr9 : ∀ q, q ≠ go → M7 q = M4 q := fun q h => by rw [hM8]; exact fw_up_ne h
  have h0 : M7 go = some (.inr (2, [.ref (go + 1), .ref (go + 3), .ref x9, .ref x8, .int (iI cn), .int (iI (gn + 1)), .int (iI mi)])) := by rw [hM8]; exact fw_up_eq
  refine fw_vret E hr hlk hH ?_ dX2_replaceByYoung_28
  exact ⟨h0, (fun q hq => by rw [fr9 q (by omega), fr6 q (by omega), fr3 q (by omega)]), hz⟩

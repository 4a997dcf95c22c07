theorem k_treeOf (l : Launch) (G : fw_G) (M : fw_M) (N : Nat) (go rw j b : Nat) (f : Nat → Option Nat) (hw : M rw = some (fT G 16 f)) (hj : j < 16) (hf : f j = some b) : fMet l yX2_treeOf cX2_treeOf 4 (some (.object "Barnacle$Tree")) 0 10 0 0 G M N [.ref go, .ref rw, .int (iI ↑j)] (fw_pr (fun r M1 n1 => r = b ∧ M1 = M ∧ n1 = N)) := by
  refine fw_met RX2 rfl (by decide +kernel) (Nat.le_of_ble_eq_true rfl) ?_
  intro pG e s m args below meth cG ls E hr hlk hnm hK hH hz hl
  refine lv_iload_n E.1 E.2.1 dX2_treeOf_0 rfl (lv_at hl 2 rfl) ?_
  refine fw_if_lt (tgt := 10) E dX2_treeOf_1 (by decide) (by omega) (by omega) (fun c1 => ?_) (fun c1 => ?_)
  · exact absurd c1 (by omega)
  · refine lv_iload_n E.1 E.2.1 dX2_treeOf_4 rfl (lv_at hl 2 rfl) ?_
    refine lv_aload_n E.1 E.2.1 dX2_treeOf_5 rfl (lv_at hl 1 rfl) ?_
    refine fw_alenT E hK hH hw dX2_treeOf_6 ?_
    refine fw_cv (y := iI 16) (by decide) ?_
    refine fw_icmp_lt (tgt := 15) E dX2_treeOf_7 (by decide) (by omega) (by omega) (by omega) (by omega) (fun c2 => ?_) (fun c2 => ?_)
    · refine lv_aload_n E.1 E.2.1 dX2_treeOf_15 rfl (lv_at hl 1 rfl) ?_
      refine lv_iload_n E.1 E.2.1 dX2_treeOf_16 rfl (lv_at hl 2 rfl) ?_
      refine fw_aald E hK hH hw (iI_in (by omega) (by omega) (by omega)) dX2_treeOf_17 ?_
      refine fw_cw (v := .ref b) (by rw [iI_ix (by omega) (by omega), show (↑j : Int).toNat = j from Int.toNat_natCast j, hf]; rfl) ?_
      refine lv_astore_n (lv' := [(3, .ref b), (0, .ref go), (1, .ref rw), (2, .int (iI ↑j))]) E.1 E.2.1 dX2_treeOf_18 rfl hl (by decide) rfl (fun ls hl => ?_)
      refine lv_aload_n E.1 E.2.1 dX2_treeOf_19 rfl (lv_at hl 0 rfl) ?_
      refine lv_ifnonnull (tgt := 30) E.1 E.2.1 dX2_treeOf_20 (by decide) ?_
      refine lv_aload_n E.1 E.2.1 dX2_treeOf_30 rfl (lv_at hl 0 rfl) ?_
      refine fw_aret E hr (Or.inl ⟨_, rfl⟩) hlk hH ?_ dX2_treeOf_31
      exact ⟨rfl, rfl, hz⟩
    · exact absurd c2 (by omega)
theorem k_tree (l : Launch) (G : fw_G) (M : fw_M) (N : Nat) (go x8 x9 j b : Nat) (cn gn mi : Int) (f : Nat → Option Nat) (h0 : M go = some (.inr (2, [.ref (go + 1), .ref (go + 3), .ref x8, .ref x9, .int (iI cn), .int (iI gn), .int (iI mi)]))) (hw : M x8 = some (fT G 16 f)) (hj : j < 16) (hf : f j = some b) : fMet l yX2_tree cX2_tree 2 (some (.object "Barnacle$Tree")) 1 40 0 0 G M N [.ref go, .int (iI ↑j)] (fw_pr (fun r M1 n1 => r = b ∧ M1 = M ∧ n1 = N)) := by
  refine fw_met RX2 rfl (by decide +kernel) (Nat.le_of_ble_eq_true rfl) ?_
  intro pG e s m args below meth cG ls E hr hlk hnm hK hH hz hl
  refine lv_aload_n E.1 E.2.1 dX2_tree_0 rfl (lv_at hl 0 rfl) ?_
  refine lv_aload_n E.1 E.2.1 dX2_tree_1 rfl (lv_at hl 0 rfl) ?_
  refine fw_get E hK hH h0 fc_X2 2 (by decide) ql_RX2_25 rfl rfl dX2_tree_2 ?_
  refine lv_iload_n E.1 E.2.1 dX2_tree_5 rfl (lv_at hl 1 rfl) ?_
  refine fw_cV (As := [.ref x8, .int (iI ↑j)]) (rest := []) E hK hH hl h0 fc_X2 fL_X2_treeOf ql_RX2_32 qi_yX2_treeOf qv_yX2_treeOf (k_treeOf l G _ _ go x8 j b f hw hj hf) rfl rfl (Nat.le_of_ble_eq_true rfl) ⟨Nat.le_of_ble_eq_true rfl, Nat.le_of_ble_eq_true rfl⟩ ⟨Nat.le_of_ble_eq_true rfl, Nat.le_of_ble_eq_true rfl⟩ dX2_tree_6 (fw_kr fun r3 M2 H1 locs1 hp1 hH hz1 => ?_)
  obtain ⟨rfl, hM9, hz2⟩ := hp1
  replace hz := hz2.trans hz
  clear hz1 hz2
  rw [hM9] at hH
  refine fw_aret E hr (Or.inl ⟨_, rfl⟩) hlk hH ?_ dX2_tree_9
  exact ⟨rfl, rfl, hz⟩
theorem k_youngTree (l : Launch) (G : fw_G) (M : fw_M) (N : Nat) (go x8 x9 j b : Nat) (cn gn mi : Int) (f : Nat → Option Nat) (h0 : M go = some (.inr (2, [.ref (go + 1), .ref (go + 3), .ref x8, .ref x9, .int (iI cn), .int (iI gn), .int (iI mi)]))) (hw : M x9 = some (fT G 16 f)) (hj : j < 16) (hf : f j = some b) : fMet l yX2_youngTree cX2_youngTree 2 (some (.object "Barnacle$Tree")) 1 40 0 0 G M N [.ref go, .int (iI ↑j)] (fw_pr (fun r M1 n1 => r = b ∧ M1 = M ∧ n1 = N)) := by
  refine fw_met RX2 rfl (by decide +kernel) (Nat.le_of_ble_eq_true rfl) ?_
  intro pG e s m args below meth cG ls E hr hlk hnm hK hH hz hl
  refine lv_aload_n E.1 E.2.1 dX2_youngTree_0 rfl (lv_at hl 0 rfl) ?_
  refine lv_aload_n E.1 E.2.1 dX2_youngTree_1 rfl (lv_at hl 0 rfl) ?_
  refine fw_get E hK hH h0 fc_X2 3 (by decide) ql_RX2_29 rfl rfl dX2_youngTree_2 ?_
  refine lv_iload_n E.1 E.2.1 dX2_youngTree_5 rfl (lv_at hl 1 rfl) ?_
  refine fw_cV (As := [.ref x9, .int (iI ↑j)]) (rest := []) E hK hH hl h0 fc_X2 fL_X2_treeOf ql_RX2_32 qi_yX2_treeOf qv_yX2_treeOf (k_treeOf l G _ _ go x9 j b f hw hj hf) rfl rfl (Nat.le_of_ble_eq_true rfl) ⟨Nat.le_of_ble_eq_true rfl, Nat.le_of_ble_eq_true rfl⟩ ⟨Nat.le_of_ble_eq_true rfl, Nat.le_of_ble_eq_true rfl⟩ dX2_youngTree_6 (fw_kr fun r3 M2 H1 locs1 hp1 hH hz1 => ?_)
  obtain ⟨rfl, hM9, hz2⟩ := hp1
  replace hz := hz2.trans hz
  clear hz1 hz2
  rw [hM9] at hH
  refine fw_aret E hr (Or.inl ⟨_, rfl⟩) hlk hH ?_ dX2_youngTree_9
  exact ⟨rfl, rfl, hz⟩

theorem k_placeAbove (l : Launch) (G : fw_G) (M : fw_M) (N : Nat) (a n : Nat) (C V : Nat → Int) (sp : Nat → Nat) (hA : tw G M a n C V sp) (hv : vtOK n C V sp) (p : Nat) (hp : p < n) : fMet l yX8_placeAbove cX8_placeAbove 3 (some .int) 2 60 0 0 G M N [.ref a, .int (iI ↑p)] (fw_pi (fun r M1 n1 => (∃ z : Int, r = iI z ∧ ((z = -1 ∧ ∀ k, k < p → k + sp k ≤ p) ∨ ∃ k : Nat, z = ↑k ∧ k < p ∧ p < k + sp k ∧ ∀ j, k < j → j < p → j + sp j ≤ p)) ∧ M1 = M ∧ n1 = N)) := by
  refine fw_met RX8 rfl (by decide +kernel) (Nat.le_of_ble_eq_true rfl) ?_
  intro pG e s m args below meth cG ls E hr hlk hnm hK hH hz hl
  obtain ⟨cs, vs, ss, hs, hT, hag, hbd⟩ := hA
  obtain ⟨⟨hn0, hn1⟩, hs0, hc0, hsp, hty, hnd⟩ := id hv
  refine lv_iload_n E.1 E.2.1 dX8_placeAbove_0 rfl (lv_at hl 1 rfl) ?_
  refine lv_iconst (v := iI 1) E.1 E.2.1 dX8_placeAbove_1 (by decide) ?_
  refine fw_isub E dX8_placeAbove_2 ?_
  refine lv_istore_n (lv' := [(2, .int (iI ((↑p) - 1))), (0, .ref a), (1, .int (iI ↑p))]) E.1 E.2.1 dX8_placeAbove_3 rfl hl (by decide) rfl (fun ls hl => ?_)
  have loop4_1 : ∀ (d4 : Nat) (j : Nat) (Mw4 : fw_M) (H : Heap) (locs : List Loc) (ls : Array Slot), j < d4 → j ≤ p → (∀ k, j ≤ k → k < p → k + sp k ≤ p) → Mw4 = M → fw_H G s Mw4 H locs → H.size = N → trAt G Mw4 a cs vs ss hs (↑n : Int) (↑(lvF n C sp) : Int) → lv_has ls 3 [(0, .ref a), (1, .int (iI ↑p)), (2, .int (iI (↑j - 1)))] → W pG l e ({ frames := 2, cells := 0, slots := 0, locals := 60 } : Room) s m args below meth cG H locs (0) (0) (MQ below (fw_Q G (fw_pi (fun r M1 n1 => (∃ z : Int, r = iI z ∧ ((z = -1 ∧ ∀ k, k < p → k + sp k ≤ p) ∨ ∃ k : Nat, z = ↑k ∧ k < p ∧ p < k + sp k ∧ ∀ j, k < j → j < p → j + sp j ≤ p)) ∧ M1 = M ∧ n1 = N))) args s 0 0 (fun q => G.2.2.1 ≤ q)) (F0 m 4 ls []) := by
    intro d4
    induction d4 with
    | zero => intro j Mw4 H locs ls hd; exact absurd hd (Nat.not_lt_zero _)
    | succ d4 ih4 =>
      intro j Mw4 H locs ls hd4 ij hP hMw hH hz hT hl
      refine lv_iload_n E.1 E.2.1 dX8_placeAbove_4 rfl (lv_at hl 2 rfl) ?_
      refine fw_if_lt (tgt := 25) E dX8_placeAbove_5 (by decide) (by omega) (by omega) (fun c1 => ?_) (fun c1 => ?_)
      · refine lv_iconst (v := iI (-1)) E.1 E.2.1 dX8_placeAbove_25 (by decide) ?_
        refine fw_iret E hr hlk hH ?_ dX8_placeAbove_26
        exact ⟨⟨_, rfl, Or.inl ⟨rfl, fun k h1 => hP k (by omega) h1⟩⟩, hMw, hz⟩
      · have hjn : j - 1 < n := by omega
        have hsj := sp_le hsp hjn
        refine lv_aload_n E.1 E.2.1 dX8_placeAbove_8 rfl (lv_at hl 0 rfl) ?_
        refine lv_iload_n E.1 E.2.1 dX8_placeAbove_9 rfl (lv_at hl 2 rfl) ?_
        refine fw_cV (As := [.int (iI (↑j - 1))]) (rest := []) E hK hH hl hT.2.1 fc_X8 fL_X8_behind ql_RX8_35 qi_yX8_behind qv_yX8_behind (k_behind l G _ _ a cs vs ss hs (↑n : Int) (↑(lvF n C sp) : Int) (↑j - 1) (j - 1) hT (by omega) (by omega)) rfl rfl (Nat.le_of_ble_eq_true rfl) ⟨Nat.le_of_ble_eq_true rfl, Nat.le_of_ble_eq_true rfl⟩ ⟨Nat.le_of_ble_eq_true rfl, Nat.le_of_ble_eq_true rfl⟩ dX8_placeAbove_10 (fw_ki fun r4 M3 H1 locs1 hp2 hH hz1 => ?_)
        obtain ⟨rfl, hM9, hz2⟩ := hp2
        replace hz := hz2.trans hz
        clear hz1 hz2
        rw [hM9] at hH
        refine fw_cv (y := iI (↑(j - 1 + sp (j - 1)) : Int)) (congrArg iI (by rw [(hag (j - 1) hjn).2.2]; omega)) ?_
        refine lv_iload_n E.1 E.2.1 dX8_placeAbove_13 rfl (lv_at hl 1 rfl) ?_
        refine fw_icmp_le (tgt := 19) E dX8_placeAbove_14 (by decide) (by omega) (by omega) (by omega) (by omega) (fun c5 => ?_) (fun c5 => ?_)
        · refine lv_iinc (v := iI (↑(j - 1) - 1)) (lv' := [(2, .int (iI (↑(j - 1) - 1))), (0, .ref a), (1, .int (iI ↑p))]) E.1 E.2.1 dX8_placeAbove_19 hl (k := 2) rfl (iI_inc (congrArg iI (by omega))) (by decide) rfl (fun ls hl => ?_)
          refine lv_goto (tgt := 4) E.1 E.2.1 dX8_placeAbove_22 (by decide) ?_
          exact ih4 (j - 1) _ _ _ _ (by omega) (by omega) (fun k h1 h2 => by
              rcases Nat.lt_or_ge k j with g | g
              · rw [show k = j - 1 by omega]; omega
              · exact hP k g h2) hMw hH (by omega) hT (lv_sub hl [1, 2, 0] rfl)
        · refine lv_iload_n E.1 E.2.1 dX8_placeAbove_17 rfl (lv_at hl 2 rfl) ?_
          refine fw_iret E hr hlk hH ?_ dX8_placeAbove_18
          exact ⟨⟨_, rfl, Or.inr ⟨j - 1, by omega, by omega, by omega, fun k h1 h2 => hP k (by omega) h2⟩⟩, hMw, hz⟩
  exact loop4_1 (p + 1) p _ _ _ _ (Nat.lt_succ_self _) (Nat.le_refl _) (fun k h1 h2 => absurd h1 (by omega)) rfl hH (by omega) hT (lv_sub hl [1, 2, 0] rfl)
theorem k_hasInput (l : Launch) (G : fw_G) (M : fw_M) (N : Nat) (a n : Nat) (C V : Nat → Int) (sp : Nat → Nat) (hA : tw G M a n C V sp) (hv : vtOK n C V sp) (p : Nat) (hp : p < n) : fMet l yX8_hasInput cX8_hasInput 4 (some .boolean) 2 60 0 0 G M N [.ref a, .int (iI ↑p)] (fw_pi (fun r M1 n1 => (∃ b : Int, r = iI b ∧ (b = 1 ∨ (b = 0 ∧ ∀ k, p ≤ k → k < p + sp p → C k ≠ 1))) ∧ M1 = M ∧ n1 = N)) := by
  refine fw_met RX8 rfl (by decide +kernel) (Nat.le_of_ble_eq_true rfl) ?_
  intro pG e s m args below meth cG ls E hr hlk hnm hK hH hz hl
  obtain ⟨cs, vs, ss, hs, hT, hag, hbd⟩ := hA
  obtain ⟨⟨hn0, hn1⟩, hs0, hc0, hsp, hty, hnd⟩ := id hv
  have hpe := sp_le hsp hp
  refine lv_aload_n E.1 E.2.1 dX8_hasInput_0 rfl (lv_at hl 0 rfl) ?_
  refine lv_iload_n E.1 E.2.1 dX8_hasInput_1 rfl (lv_at hl 1 rfl) ?_
  refine fw_cV (As := [.int (iI ↑p)]) (rest := []) E hK hH hl hT.2.1 fc_X8 fL_X8_behind ql_RX8_35 qi_yX8_behind qv_yX8_behind (k_behind l G _ _ a cs vs ss hs (↑n : Int) (↑(lvF n C sp) : Int) ↑p p hT (by omega) (by omega)) rfl rfl (Nat.le_of_ble_eq_true rfl) ⟨Nat.le_of_ble_eq_true rfl, Nat.le_of_ble_eq_true rfl⟩ ⟨Nat.le_of_ble_eq_true rfl, Nat.le_of_ble_eq_true rfl⟩ dX8_hasInput_2 (fw_ki fun r3 M2 H1 locs1 hp1 hH hz1 => ?_)
  obtain ⟨rfl, hM9, hz2⟩ := hp1
  replace hz := hz2.trans hz
  clear hz1 hz2
  rw [hM9] at hH
  refine fw_cv (y := iI (↑(p + sp p) : Int)) (congrArg iI (by rw [(hag p hp).2.2]; omega)) ?_
  refine lv_istore_n (lv' := [(2, .int (iI (↑(p + sp p) : Int))), (0, .ref a), (1, .int (iI ↑p))]) E.1 E.2.1 dX8_hasInput_5 rfl hl (by decide) rfl (fun ls hl => ?_)
  refine lv_iload_n E.1 E.2.1 dX8_hasInput_6 rfl (lv_at hl 2 rfl) ?_
  refine lv_istore_n (lv' := [(3, .int (iI ↑p)), (2, .int (iI (↑(p + sp p) : Int))), (0, .ref a), (1, .int (iI ↑p))]) E.1 E.2.1 dX8_hasInput_7 rfl hl (by decide) rfl (fun ls hl => ?_)
  have loop8_1 : ∀ (d8 : Nat) (i : Nat) (Mw8 : fw_M) (H : Heap) (locs : List Loc) (ls : Array Slot), p + sp p - i < d8 → p ≤ i → i ≤ p + sp p → (∀ k, p ≤ k → k < i → C k ≠ 1) → Mw8 = M → fw_H G s Mw8 H locs → H.size = N → trAt G Mw8 a cs vs ss hs (↑n : Int) (↑(lvF n C sp) : Int) → lv_has ls 4 [(0, .ref a), (1, .int (iI ↑p)), (2, .int (iI (↑(p + sp p) : Int))), (3, .int (iI ↑i))] → W pG l e ({ frames := 2, cells := 0, slots := 0, locals := 60 } : Room) s m args below meth cG H locs (0) (0) (MQ below (fw_Q G (fw_pi (fun r M1 n1 => (∃ b : Int, r = iI b ∧ (b = 1 ∨ (b = 0 ∧ ∀ k, p ≤ k → k < p + sp p → C k ≠ 1))) ∧ M1 = M ∧ n1 = N))) args s 0 0 (fun q => G.2.2.1 ≤ q)) (F0 m 8 ls []) := by
    intro d8
    induction d8 with
    | zero => intro i Mw8 H locs ls hd; exact absurd hd (Nat.not_lt_zero _)
    | succ d8 ih8 =>
      intro i Mw8 H locs ls hd8 i1 i2 hP hMw hH hz hT hl
      refine lv_iload_n E.1 E.2.1 dX8_hasInput_8 rfl (lv_at hl 3 rfl) ?_
      refine lv_iload_n E.1 E.2.1 dX8_hasInput_9 rfl (lv_at hl 2 rfl) ?_
      refine fw_icmp_ge (tgt := 30) E dX8_hasInput_10 (by decide) (by omega) (by omega) (by omega) (by omega) (fun c4 => ?_) (fun c4 => ?_)
      · refine lv_iconst (v := iI 0) E.1 E.2.1 dX8_hasInput_30 (by decide) ?_
        refine fw_zret (r := (iI 0)) E hr hlk hH (by rfl) ?_ dX8_hasInput_31
        exact ⟨⟨_, rfl, Or.inr ⟨rfl, fun k h1 h2 => hP k h1 (by omega)⟩⟩, hMw, hz⟩
      · have hci := (hag i (by omega)).1
        have hni := (hnd i (by omega)).1
        refine lv_aload_n E.1 E.2.1 dX8_hasInput_13 rfl (lv_at hl 0 rfl) ?_
        refine lv_iload_n E.1 E.2.1 dX8_hasInput_14 rfl (lv_at hl 3 rfl) ?_
        refine fw_cV (As := [.int (iI ↑i)]) (rest := []) E hK hH hl hT.2.1 fc_X8 fL_X8_code ql_RX8_28 qi_yX8_code qv_yX8_code (k_code l G _ _ a cs vs ss hs (↑n : Int) (↑(lvF n C sp) : Int) ↑i i hT (by omega) (by omega)) rfl rfl (Nat.le_of_ble_eq_true rfl) ⟨Nat.le_of_ble_eq_true rfl, Nat.le_of_ble_eq_true rfl⟩ ⟨Nat.le_of_ble_eq_true rfl, Nat.le_of_ble_eq_true rfl⟩ dX8_hasInput_15 (fw_ki fun r7 M6 H1 locs1 hp5 hH hz1 => ?_)
        obtain ⟨rfl, hM9, hz2⟩ := hp5
        replace hz := hz2.trans hz
        clear hz1 hz2
        rw [hM9] at hH
        refine lv_iconst (v := iI 1) E.1 E.2.1 dX8_hasInput_18 (by decide) ?_
        refine fw_icmp_ne (tgt := 24) E dX8_hasInput_19 (by decide) (by omega) (by omega) (by omega) (by omega) (fun c8 => ?_) (fun c8 => ?_)
        · refine lv_iinc (v := iI (↑i + 1)) (lv' := [(3, .int (iI (↑i + 1))), (0, .ref a), (1, .int (iI ↑p)), (2, .int (iI (↑(p + sp p) : Int)))]) E.1 E.2.1 dX8_hasInput_24 hl (k := 3) rfl (iI_inc rfl) (by decide) rfl (fun ls hl => ?_)
          refine lv_goto (tgt := 8) E.1 E.2.1 dX8_hasInput_27 (by decide) ?_
          exact ih8 (i + 1) _ _ _ _ (by omega) (by omega) (by omega) (fun k h1 h2 => by
              rcases Nat.lt_or_ge k i with g | g
              · exact hP k h1 g
              · rw [show k = i by omega, ← hci]; omega) hMw hH (by omega) hT (lv_sub hl [1, 2, 3, 0] rfl)
        · refine lv_iconst (v := iI 1) E.1 E.2.1 dX8_hasInput_22 (by decide) ?_
          refine fw_zret (r := (iI 1)) E hr hlk hH (by rfl) ?_ dX8_hasInput_23
          exact ⟨⟨_, rfl, Or.inl rfl⟩, hMw, hz⟩
  exact loop8_1 (p + sp p - p + 1) p _ _ _ _ (Nat.lt_succ_self _) (Nat.le_refl _) (by omega) (fun k h1 h2 => absurd h1 (by omega)) rfl hH (by omega) hT (lv_sub hl [2, 3, 1, 0] rfl)
theorem k_sameParts (l : Launch) (G : fw_G) (M : fw_M) (N : Nat) (a n : Nat) (C V : Nat → Int) (sp : Nat → Nat) (hA : tw G M a n C V sp) (hv : vtOK n C V sp) (p q : Nat) (hp : p < n) (hq : q < n) : fMet l yX8_sameParts cX8_sameParts 5 (some .boolean) 2 60 0 0 G M N [.ref a, .int (iI ↑p), .int (iI ↑q)] (fw_pi (fun r M1 n1 => (∃ b : Int, r = iI b ∧ ((b = 1 ∧ sp p = sp q ∧ ∀ j, j < sp p → C (p + j) = C (q + j) ∧ V (p + j) = V (q + j)) ∨ b = 0)) ∧ M1 = M ∧ n1 = N)) := by
  refine fw_met RX8 rfl (by decide +kernel) (Nat.le_of_ble_eq_true rfl) ?_
  intro pG e s m args below meth cG ls E hr hlk hnm hK hH hz hl
  obtain ⟨cs, vs, ss, hs, hT, hag, hbd⟩ := hA
  obtain ⟨⟨hn0, hn1⟩, hs0, hc0, hsp, hty, hnd⟩ := id hv
  have hpe := sp_le hsp hp
  have hqe := sp_le hsp hq
  refine lv_aload_n E.1 E.2.1 dX8_sameParts_0 rfl (lv_at hl 0 rfl) ?_
  refine lv_iload_n E.1 E.2.1 dX8_sameParts_1 rfl (lv_at hl 1 rfl) ?_
  refine fw_cV (As := [.int (iI ↑p)]) (rest := []) E hK hH hl hT.2.1 fc_X8 fL_X8_span ql_RX8_38 qi_yX8_span qv_yX8_span (k_span l G _ _ a cs vs ss hs (↑n : Int) (↑(lvF n C sp) : Int) ↑p p hT (by omega) (by omega)) rfl rfl (Nat.le_of_ble_eq_true rfl) ⟨Nat.le_of_ble_eq_true rfl, Nat.le_of_ble_eq_true rfl⟩ ⟨Nat.le_of_ble_eq_true rfl, Nat.le_of_ble_eq_true rfl⟩ dX8_sameParts_2 (fw_ki fun r3 M2 H1 locs1 hp1 hH hz1 => ?_)
  obtain ⟨rfl, hM9, hz2⟩ := hp1
  replace hz := hz2.trans hz
  clear hz1 hz2
  rw [hM9] at hH
  refine fw_cv (y := iI (↑(sp p) : Int)) (congrArg iI (hag p hp).2.2) ?_
  refine lv_istore_n (lv' := [(3, .int (iI (↑(sp p) : Int))), (0, .ref a), (1, .int (iI ↑p)), (2, .int (iI ↑q))]) E.1 E.2.1 dX8_sameParts_5 rfl hl (by decide) rfl (fun ls hl => ?_)
  refine lv_iconst (v := iI 0) E.1 E.2.1 dX8_sameParts_6 (by decide) ?_
  refine lv_istore (lv' := [(4, .int (iI 0)), (3, .int (iI (↑(sp p) : Int))), (0, .ref a), (1, .int (iI ↑p)), (2, .int (iI ↑q))]) E.1 E.2.1 dX8_sameParts_7 hl (by decide) rfl (fun ls hl => ?_)
  have loop9_1 : ∀ (d9 : Nat) (i : Nat) (Mw9 : fw_M) (H : Heap) (locs : List Loc) (ls : Array Slot), sp p - i < d9 → i ≤ sp p → (∀ j, j < i → C (p + j) = C (q + j) ∧ V (p + j) = V (q + j)) → Mw9 = M → fw_H G s Mw9 H locs → H.size = N → trAt G Mw9 a cs vs ss hs (↑n : Int) (↑(lvF n C sp) : Int) → lv_has ls 5 [(0, .ref a), (1, .int (iI ↑p)), (2, .int (iI ↑q)), (3, .int (iI (↑(sp p) : Int))), (4, .int (iI ↑i))] → W pG l e ({ frames := 2, cells := 0, slots := 0, locals := 60 } : Room) s m args below meth cG H locs (0) (0) (MQ below (fw_Q G (fw_pi (fun r M1 n1 => (∃ b : Int, r = iI b ∧ ((b = 1 ∧ sp p = sp q ∧ ∀ j, j < sp p → C (p + j) = C (q + j) ∧ V (p + j) = V (q + j)) ∨ b = 0)) ∧ M1 = M ∧ n1 = N))) args s 0 0 (fun q => G.2.2.1 ≤ q)) (F0 m 9 ls []) := by
    intro d9
    induction d9 with
    | zero => intro i Mw9 H locs ls hd; exact absurd hd (Nat.not_lt_zero _)
    | succ d9 ih9 =>
      intro i Mw9 H locs ls hd9 i2 hP hMw hH hz hT hl
      refine lv_iload E.1 E.2.1 dX8_sameParts_9 (lv_at hl 4 rfl) ?_
      refine lv_iload_n E.1 E.2.1 dX8_sameParts_11 rfl (lv_at hl 3 rfl) ?_
      refine fw_icmp_ge (tgt := 61) E dX8_sameParts_12 (by decide) (by omega) (by omega) (by omega) (by omega) (fun c4 => ?_) (fun c4 => ?_)
      · refine lv_iconst (v := iI 1) E.1 E.2.1 dX8_sameParts_61 (by decide) ?_
        refine fw_zret (r := (iI 1)) E hr hlk hH (by rfl) ?_ dX8_sameParts_62
        have e9 : i = sp p := by omega
        exact ⟨⟨_, rfl, Or.inl ⟨rfl, same_sp hsp (sp p) p q hp hq (Nat.le_refl _) (fun j j1 j2 => (hP j (by omega)).1), fun j hj => hP j (by omega)⟩⟩, hMw, hz⟩
      · have hiq : i < sp q := by
          rcases Nat.lt_or_ge i (sp q) with g | g
          · exact g
          · have := same_sp hsp (sp p) p q hp hq (Nat.le_refl _) (fun j j1 j2 => (hP j (by omega)).1); omega
        have hcp := hag (p + i) (by omega)
        have hcq := hag (q + i) (by omega)
        have hnp := hnd (p + i) (by omega)
        have hnq := hnd (q + i) (by omega)
        rw [← hcp.1, ← hcp.2.1] at hnp
        rw [← hcq.1, ← hcq.2.1] at hnq
        have hbp := nd_b hnp
        have hbq := nd_b hnq
        have hdp := hnp.1
        have hdq := hnq.1
        refine lv_aload_n E.1 E.2.1 dX8_sameParts_15 rfl (lv_at hl 0 rfl) ?_
        refine lv_iload_n E.1 E.2.1 dX8_sameParts_16 rfl (lv_at hl 1 rfl) ?_
        refine lv_iload E.1 E.2.1 dX8_sameParts_17 (lv_at hl 4 rfl) ?_
        refine fw_iadd E dX8_sameParts_19 ?_
        refine fw_cV (As := [.int (iI ((↑p) + (↑i)))]) (rest := []) E hK hH hl hT.2.1 fc_X8 fL_X8_code ql_RX8_28 qi_yX8_code qv_yX8_code (k_code l G _ _ a cs vs ss hs (↑n : Int) (↑(lvF n C sp) : Int) ((↑p) + (↑i)) (p + i) hT (by omega) (by omega)) rfl rfl (Nat.le_of_ble_eq_true rfl) ⟨Nat.le_of_ble_eq_true rfl, Nat.le_of_ble_eq_true rfl⟩ ⟨Nat.le_of_ble_eq_true rfl, Nat.le_of_ble_eq_true rfl⟩ dX8_sameParts_20 (fw_ki fun r7 M6 H1 locs1 hp5 hH hz1 => ?_)
        obtain ⟨rfl, hM9, hz2⟩ := hp5
        replace hz := hz2.trans hz
        clear hz1 hz2
        rw [hM9] at hH
        refine lv_aload_n E.1 E.2.1 dX8_sameParts_23 rfl (lv_at hl 0 rfl) ?_
        refine lv_iload_n E.1 E.2.1 dX8_sameParts_24 rfl (lv_at hl 2 rfl) ?_
        refine lv_iload E.1 E.2.1 dX8_sameParts_25 (lv_at hl 4 rfl) ?_
        refine fw_iadd E dX8_sameParts_27 ?_
        refine fw_cV (As := [.int (iI ((↑q) + (↑i)))]) (rest := [.int (iI (cs (p + i)))]) E hK hH hl hT.2.1 fc_X8 fL_X8_code ql_RX8_28 qi_yX8_code qv_yX8_code (k_code l G _ _ a cs vs ss hs (↑n : Int) (↑(lvF n C sp) : Int) ((↑q) + (↑i)) (q + i) hT (by omega) (by omega)) rfl rfl (Nat.le_of_ble_eq_true rfl) ⟨Nat.le_of_ble_eq_true rfl, Nat.le_of_ble_eq_true rfl⟩ ⟨Nat.le_of_ble_eq_true rfl, Nat.le_of_ble_eq_true rfl⟩ dX8_sameParts_28 (fw_ki fun r10 M9 H1 locs1 hp8 hH hz1 => ?_)
        obtain ⟨rfl, hM9, hz2⟩ := hp8
        replace hz := hz2.trans hz
        clear hz1 hz2
        rw [hM9] at hH
        refine fw_icmp_ne (tgt := 53) E dX8_sameParts_31 (by decide) (by omega) (by omega) (by omega) (by omega) (fun c11 => ?_) (fun c11 => ?_)
        · refine lv_iconst (v := iI 0) E.1 E.2.1 dX8_sameParts_53 (by decide) ?_
          refine fw_zret (r := (iI 0)) E hr hlk hH (by rfl) ?_ dX8_sameParts_54
          exact ⟨⟨_, rfl, Or.inr rfl⟩, hMw, hz⟩
        · refine lv_aload_n E.1 E.2.1 dX8_sameParts_34 rfl (lv_at hl 0 rfl) ?_
          refine lv_iload_n E.1 E.2.1 dX8_sameParts_35 rfl (lv_at hl 1 rfl) ?_
          refine lv_iload E.1 E.2.1 dX8_sameParts_36 (lv_at hl 4 rfl) ?_
          refine fw_iadd E dX8_sameParts_38 ?_
          refine fw_cV (As := [.int (iI ((↑p) + (↑i)))]) (rest := []) E hK hH hl hT.2.1 fc_X8 fL_X8_value ql_RX8_32 qi_yX8_value qv_yX8_value (k_value l G _ _ a cs vs ss hs (↑n : Int) (↑(lvF n C sp) : Int) ((↑p) + (↑i)) (p + i) hT (by omega) (by omega)) rfl rfl (Nat.le_of_ble_eq_true rfl) ⟨Nat.le_of_ble_eq_true rfl, Nat.le_of_ble_eq_true rfl⟩ ⟨Nat.le_of_ble_eq_true rfl, Nat.le_of_ble_eq_true rfl⟩ dX8_sameParts_39 (fw_ki fun r14 M13 H1 locs1 hp12 hH hz1 => ?_)
          obtain ⟨rfl, hM9, hz2⟩ := hp12
          replace hz := hz2.trans hz
          clear hz1 hz2
          rw [hM9] at hH
          refine lv_aload_n E.1 E.2.1 dX8_sameParts_42 rfl (lv_at hl 0 rfl) ?_
          refine lv_iload_n E.1 E.2.1 dX8_sameParts_43 rfl (lv_at hl 2 rfl) ?_
          refine lv_iload E.1 E.2.1 dX8_sameParts_44 (lv_at hl 4 rfl) ?_
          refine fw_iadd E dX8_sameParts_46 ?_
          refine fw_cV (As := [.int (iI ((↑q) + (↑i)))]) (rest := [.int (iI (vs (p + i)))]) E hK hH hl hT.2.1 fc_X8 fL_X8_value ql_RX8_32 qi_yX8_value qv_yX8_value (k_value l G _ _ a cs vs ss hs (↑n : Int) (↑(lvF n C sp) : Int) ((↑q) + (↑i)) (q + i) hT (by omega) (by omega)) rfl rfl (Nat.le_of_ble_eq_true rfl) ⟨Nat.le_of_ble_eq_true rfl, Nat.le_of_ble_eq_true rfl⟩ ⟨Nat.le_of_ble_eq_true rfl, Nat.le_of_ble_eq_true rfl⟩ dX8_sameParts_47 (fw_ki fun r17 M16 H1 locs1 hp15 hH hz1 => ?_)
          obtain ⟨rfl, hM9, hz2⟩ := hp15
          replace hz := hz2.trans hz
          clear hz1 hz2
          rw [hM9] at hH
          refine fw_icmp_eq (tgt := 55) E dX8_sameParts_50 (by decide) (by omega) (by omega) (by omega) (by omega) (fun c18 => ?_) (fun c18 => ?_)
          · refine lv_iinc (v := iI (↑i + 1)) (lv' := [(4, .int (iI (↑i + 1))), (0, .ref a), (1, .int (iI ↑p)), (2, .int (iI ↑q)), (3, .int (iI (↑(sp p) : Int)))]) E.1 E.2.1 dX8_sameParts_55 hl (k := 4) rfl (iI_inc rfl) (by decide) rfl (fun ls hl => ?_)
            refine lv_goto (tgt := 9) E.1 E.2.1 dX8_sameParts_58 (by decide) ?_
            exact ih9 (i + 1) _ _ _ _ (by omega) (by omega) (fun j h1 => by
                rcases Nat.lt_or_ge j i with g | g
                · exact hP j g
                · rw [show j = i by omega, ← hcp.1, ← hcp.2.1, ← hcq.1, ← hcq.2.1]; exact ⟨by omega, by omega⟩) hMw hH (by omega) hT (lv_sub hl [1, 2, 3, 4, 0] rfl)
          · refine lv_iconst (v := iI 0) E.1 E.2.1 dX8_sameParts_53 (by decide) ?_
            refine fw_zret (r := (iI 0)) E hr hlk hH (by rfl) ?_ dX8_sameParts_54
            exact ⟨⟨_, rfl, Or.inr rfl⟩, hMw, hz⟩
  exact loop9_1 (sp p - 0 + 1) 0 _ _ _ _ (Nat.lt_succ_self _) (Nat.zero_le _) (fun j h1 => absurd h1 (Nat.not_lt_zero j)) rfl hH (by omega) hT (lv_sub hl [2, 3, 4, 1, 0] rfl)
theorem k_isConstant (l : Launch) (G : fw_G) (M : fw_M) (N : Nat) (a n : Nat) (C V : Nat → Int) (sp : Nat → Nat) (hA : tw G M a n C V sp) (hv : vtOK n C V sp) (p : Nat) (x : Int) (hp : p < n) (hx : -2147483648 ≤ x ∧ x < 2147483648) : fMet l yX8_isConstant cX8_isConstant 3 (some .boolean) 2 60 0 0 G M N [.ref a, .int (iI ↑p), .int (iI x)] (fw_pi (fun r M1 n1 => (∃ b : Int, r = iI b ∧ ((b = 1 ∧ C p = 0 ∧ V p = x) ∨ b = 0)) ∧ M1 = M ∧ n1 = N)) := by
  refine fw_met RX8 rfl (by decide +kernel) (Nat.le_of_ble_eq_true rfl) ?_
  intro pG e s m args below meth cG ls E hr hlk hnm hK hH hz hl
  obtain ⟨cs, vs, ss, hs, hT, hag, hbd⟩ := hA
  obtain ⟨⟨hn0, hn1⟩, hs0, hc0, hsp, hty, hnd⟩ := id hv
  have hcp := hag p hp
  have hnp := hnd p hp
  rw [← hcp.1, ← hcp.2.1] at hnp
  have hbp := nd_b hnp
  have hdp := hnp.1
  refine lv_aload_n E.1 E.2.1 dX8_isConstant_0 rfl (lv_at hl 0 rfl) ?_
  refine lv_iload_n E.1 E.2.1 dX8_isConstant_1 rfl (lv_at hl 1 rfl) ?_
  refine fw_cV (As := [.int (iI ↑p)]) (rest := []) E hK hH hl hT.2.1 fc_X8 fL_X8_code ql_RX8_28 qi_yX8_code qv_yX8_code (k_code l G _ _ a cs vs ss hs (↑n : Int) (↑(lvF n C sp) : Int) ↑p p hT (by omega) (by omega)) rfl rfl (Nat.le_of_ble_eq_true rfl) ⟨Nat.le_of_ble_eq_true rfl, Nat.le_of_ble_eq_true rfl⟩ ⟨Nat.le_of_ble_eq_true rfl, Nat.le_of_ble_eq_true rfl⟩ dX8_isConstant_2 (fw_ki fun r3 M2 H1 locs1 hp1 hH hz1 => ?_)
  obtain ⟨rfl, hM9, hz2⟩ := hp1
  replace hz := hz2.trans hz
  clear hz1 hz2
  rw [hM9] at hH
  refine fw_if_ne (tgt := 21) E dX8_isConstant_5 (by decide) (by omega) (by omega) (fun c4 => ?_) (fun c4 => ?_)
  · refine lv_iconst (v := iI 0) E.1 E.2.1 dX8_isConstant_21 (by decide) ?_
    refine fw_zret (r := (iI 0)) E hr hlk hH (by rfl) ?_ dX8_isConstant_22
    exact ⟨⟨_, rfl, Or.inr rfl⟩, rfl, hz⟩
  · refine lv_aload_n E.1 E.2.1 dX8_isConstant_8 rfl (lv_at hl 0 rfl) ?_
    refine lv_iload_n E.1 E.2.1 dX8_isConstant_9 rfl (lv_at hl 1 rfl) ?_
    refine fw_cV (As := [.int (iI ↑p)]) (rest := []) E hK hH hl hT.2.1 fc_X8 fL_X8_value ql_RX8_32 qi_yX8_value qv_yX8_value (k_value l G _ _ a cs vs ss hs (↑n : Int) (↑(lvF n C sp) : Int) ↑p p hT (by omega) (by omega)) rfl rfl (Nat.le_of_ble_eq_true rfl) ⟨Nat.le_of_ble_eq_true rfl, Nat.le_of_ble_eq_true rfl⟩ ⟨Nat.le_of_ble_eq_true rfl, Nat.le_of_ble_eq_true rfl⟩ dX8_isConstant_10 (fw_ki fun r7 M6 H1 locs1 hp5 hH hz1 => ?_)
    obtain ⟨rfl, hM9, hz2⟩ := hp5
    replace hz := hz2.trans hz
    clear hz1 hz2
    rw [hM9] at hH
    refine lv_iload_n E.1 E.2.1 dX8_isConstant_13 rfl (lv_at hl 2 rfl) ?_
    refine fw_icmp_ne (tgt := 21) E dX8_isConstant_14 (by decide) (by omega) (by omega) (by omega) (by omega) (fun c8 => ?_) (fun c8 => ?_)
    · refine lv_iconst (v := iI 0) E.1 E.2.1 dX8_isConstant_21 (by decide) ?_
      refine fw_zret (r := (iI 0)) E hr hlk hH (by rfl) ?_ dX8_isConstant_22
      exact ⟨⟨_, rfl, Or.inr rfl⟩, rfl, hz⟩
    · refine lv_iconst (v := iI 1) E.1 E.2.1 dX8_isConstant_17 (by decide) ?_
      refine lv_goto (tgt := 22) E.1 E.2.1 dX8_isConstant_18 (by decide) ?_
      refine fw_zret (r := (iI 1)) E hr hlk hH (by rfl) ?_ dX8_isConstant_22
      exact ⟨⟨_, rfl, Or.inl ⟨rfl, by rw [← hcp.1]; omega, by rw [← hcp.2.1]; omega⟩⟩, rfl, hz⟩
theorem k_sameNodes (l : Launch) (G : fw_G) (M : fw_M) (N : Nat) (a n : Nat) (C V : Nat → Int) (sp : Nat → Nat) (hA : tw G M a n C V sp) (hv : vtOK n C V sp) (o n2 : Nat) (C2 V2 : Nat → Int) (sp2 : Nat → Nat) (hO : tw G M o n2 C2 V2 sp2) (hv2 : vtOK n2 C2 V2 sp2)  : fMet l yX8_sameNodes cX8_sameNodes 4 (some .int) 2 60 0 0 G M N [.ref a, .ref o] (fw_pi (fun r M1 n1 => r = iI ↑(snF C V C2 V2 (min n n2)) ∧ M1 = M ∧ n1 = N)) := by
  refine fw_met RX8 rfl (by decide +kernel) (Nat.le_of_ble_eq_true rfl) ?_
  intro pG e s m args below meth cG ls E hr hlk hnm hK hH hz hl
  obtain ⟨cs, vs, ss, hs, hT, hag, hbd⟩ := hA
  obtain ⟨⟨hn0, hn1⟩, hs0, hc0, hsp, hty, hnd⟩ := id hv
  obtain ⟨cs2, vs2, ss2, hs2, hT2, hag2, hbd2⟩ := hO
  obtain ⟨⟨hm0, hm1⟩, -, -, hsp2, -, hnd2⟩ := id hv2
  refine lv_aload_n E.1 E.2.1 dX8_sameNodes_0 rfl (lv_at hl 0 rfl) ?_
  refine fw_get E hK hH hT.2.1 fc_X8 4 (by decide) ql_RX8_41 rfl rfl dX8_sameNodes_1 ?_
  refine lv_aload_n E.1 E.2.1 dX8_sameNodes_4 rfl (lv_at hl 1 rfl) ?_
  refine fw_get E hK hH hT2.2.1 fc_X8 4 (by decide) ql_RX8_41 rfl rfl dX8_sameNodes_5 ?_
  refine fw_min (a := (↑n : Int)) (b := (↑n2 : Int)) E ql_RX8_45 hl (by omega) (by omega) (by omega) (by omega) ⟨by decide, by decide⟩ ⟨by show _ ≤ (0 : Nat); omega, by show _ ≤ (0 : Nat); omega⟩ dX8_sameNodes_8 qs_J9_min qn_J9 qc_J9_min ?_
  refine fw_cv (y := iI (↑(min n n2) : Int)) (congrArg iI (by omega)) ?_
  refine lv_istore_n (lv' := [(2, .int (iI (↑(min n n2) : Int))), (0, .ref a), (1, .ref o)]) E.1 E.2.1 dX8_sameNodes_11 rfl hl (by decide) rfl (fun ls hl => ?_)
  refine lv_iconst (v := iI 0) E.1 E.2.1 dX8_sameNodes_12 (by decide) ?_
  refine lv_istore_n (lv' := [(3, .int (iI 0)), (2, .int (iI (↑(min n n2) : Int))), (0, .ref a), (1, .ref o)]) E.1 E.2.1 dX8_sameNodes_13 rfl hl (by decide) rfl (fun ls hl => ?_)
  have loop14_1 : ∀ (d14 : Nat) (i : Nat) (Mw14 : fw_M) (H : Heap) (locs : List Loc) (ls : Array Slot), min n n2 - i < d14 → i ≤ min n n2 → (∀ j, j < i → C j = C2 j ∧ V j = V2 j) → Mw14 = M → fw_H G s Mw14 H locs → H.size = N → trAt G Mw14 a cs vs ss hs (↑n : Int) (↑(lvF n C sp) : Int) → trAt G Mw14 o cs2 vs2 ss2 hs2 (↑n2 : Int) (↑(lvF n2 C2 sp2) : Int) → lv_has ls 4 [(0, .ref a), (1, .ref o), (2, .int (iI (↑(min n n2) : Int))), (3, .int (iI ↑i))] → W pG l e ({ frames := 2, cells := 0, slots := 0, locals := 60 } : Room) s m args below meth cG H locs (0) (0) (MQ below (fw_Q G (fw_pi (fun r M1 n1 => r = iI ↑(snF C V C2 V2 (min n n2)) ∧ M1 = M ∧ n1 = N))) args s 0 0 (fun q => G.2.2.1 ≤ q)) (F0 m 14 ls []) := by
    intro d14
    induction d14 with
    | zero => intro i Mw14 H locs ls hd; exact absurd hd (Nat.not_lt_zero _)
    | succ d14 ih14 =>
      intro i Mw14 H locs ls hd14 i2 hP hMw hH hz hT hT2 hl
      refine lv_iload_n E.1 E.2.1 dX8_sameNodes_14 rfl (lv_at hl 3 rfl) ?_
      refine lv_iload_n E.1 E.2.1 dX8_sameNodes_15 rfl (lv_at hl 2 rfl) ?_
      refine fw_icmp_ge (tgt := 53) E dX8_sameNodes_16 (by decide) (by omega) (by omega) (by omega) (by omega) (fun c1 => ?_) (fun c1 => ?_)
      · refine lv_iload_n E.1 E.2.1 dX8_sameNodes_53 rfl (lv_at hl 2 rfl) ?_
        refine fw_iret E hr hlk hH ?_ dX8_sameNodes_54
        have e9 : i = min n n2 := by omega
        exact ⟨by rw [snF_eq (min n n2) i (by omega) hP (fun q => absurd q (by omega)), e9], hMw, hz⟩
      · have hcp := hag i (by omega)
        have hcq := hag2 i (by omega)
        have hnp := hnd i (by omega)
        have hnq := hnd2 i (by omega)
        rw [← hcp.1, ← hcp.2.1] at hnp
        rw [← hcq.1, ← hcq.2.1] at hnq
        have hbp := nd_b hnp
        have hbq := nd_b hnq
        have hdp := hnp.1
        have hdq := hnq.1
        refine lv_aload_n E.1 E.2.1 dX8_sameNodes_19 rfl (lv_at hl 0 rfl) ?_
        refine lv_iload_n E.1 E.2.1 dX8_sameNodes_20 rfl (lv_at hl 3 rfl) ?_
        refine fw_cV (As := [.int (iI ↑i)]) (rest := []) E hK hH hl hT.2.1 fc_X8 fL_X8_code ql_RX8_28 qi_yX8_code qv_yX8_code (k_code l G _ _ a cs vs ss hs (↑n : Int) (↑(lvF n C sp) : Int) ↑i i hT (by omega) (by omega)) rfl rfl (Nat.le_of_ble_eq_true rfl) ⟨Nat.le_of_ble_eq_true rfl, Nat.le_of_ble_eq_true rfl⟩ ⟨Nat.le_of_ble_eq_true rfl, Nat.le_of_ble_eq_true rfl⟩ dX8_sameNodes_21 (fw_ki fun r4 M3 H1 locs1 hp2 hH hz1 => ?_)
        obtain ⟨rfl, hM9, hz2⟩ := hp2
        replace hz := hz2.trans hz
        clear hz1 hz2
        rw [hM9] at hH
        refine lv_aload_n E.1 E.2.1 dX8_sameNodes_24 rfl (lv_at hl 1 rfl) ?_
        refine lv_iload_n E.1 E.2.1 dX8_sameNodes_25 rfl (lv_at hl 3 rfl) ?_
        refine fw_cV (As := [.int (iI ↑i)]) (rest := [.int (iI (cs i))]) E hK hH hl hT2.2.1 fc_X8 fL_X8_code ql_RX8_28 qi_yX8_code qv_yX8_code (k_code l G _ _ o cs2 vs2 ss2 hs2 (↑n2 : Int) (↑(lvF n2 C2 sp2) : Int) ↑i i hT2 (by omega) (by omega)) rfl rfl (Nat.le_of_ble_eq_true rfl) ⟨Nat.le_of_ble_eq_true rfl, Nat.le_of_ble_eq_true rfl⟩ ⟨Nat.le_of_ble_eq_true rfl, Nat.le_of_ble_eq_true rfl⟩ dX8_sameNodes_26 (fw_ki fun r7 M6 H1 locs1 hp5 hH hz1 => ?_)
        obtain ⟨rfl, hM9, hz2⟩ := hp5
        replace hz := hz2.trans hz
        clear hz1 hz2
        rw [hM9] at hH
        refine fw_icmp_ne (tgt := 45) E dX8_sameNodes_29 (by decide) (by omega) (by omega) (by omega) (by omega) (fun c8 => ?_) (fun c8 => ?_)
        · refine lv_iload_n E.1 E.2.1 dX8_sameNodes_45 rfl (lv_at hl 3 rfl) ?_
          refine fw_iret E hr hlk hH ?_ dX8_sameNodes_46
          exact ⟨by rw [snF_eq (min n n2) i (by omega) hP (fun _ e => by rw [← hcp.1, ← hcp.2.1, ← hcq.1, ← hcq.2.1] at e; omega)], hMw, hz⟩
        · refine lv_aload_n E.1 E.2.1 dX8_sameNodes_32 rfl (lv_at hl 0 rfl) ?_
          refine lv_iload_n E.1 E.2.1 dX8_sameNodes_33 rfl (lv_at hl 3 rfl) ?_
          refine fw_cV (As := [.int (iI ↑i)]) (rest := []) E hK hH hl hT.2.1 fc_X8 fL_X8_value ql_RX8_32 qi_yX8_value qv_yX8_value (k_value l G _ _ a cs vs ss hs (↑n : Int) (↑(lvF n C sp) : Int) ↑i i hT (by omega) (by omega)) rfl rfl (Nat.le_of_ble_eq_true rfl) ⟨Nat.le_of_ble_eq_true rfl, Nat.le_of_ble_eq_true rfl⟩ ⟨Nat.le_of_ble_eq_true rfl, Nat.le_of_ble_eq_true rfl⟩ dX8_sameNodes_34 (fw_ki fun r11 M10 H1 locs1 hp9 hH hz1 => ?_)
          obtain ⟨rfl, hM9, hz2⟩ := hp9
          replace hz := hz2.trans hz
          clear hz1 hz2
          rw [hM9] at hH
          refine lv_aload_n E.1 E.2.1 dX8_sameNodes_37 rfl (lv_at hl 1 rfl) ?_
          refine lv_iload_n E.1 E.2.1 dX8_sameNodes_38 rfl (lv_at hl 3 rfl) ?_
          refine fw_cV (As := [.int (iI ↑i)]) (rest := [.int (iI (vs i))]) E hK hH hl hT2.2.1 fc_X8 fL_X8_value ql_RX8_32 qi_yX8_value qv_yX8_value (k_value l G _ _ o cs2 vs2 ss2 hs2 (↑n2 : Int) (↑(lvF n2 C2 sp2) : Int) ↑i i hT2 (by omega) (by omega)) rfl rfl (Nat.le_of_ble_eq_true rfl) ⟨Nat.le_of_ble_eq_true rfl, Nat.le_of_ble_eq_true rfl⟩ ⟨Nat.le_of_ble_eq_true rfl, Nat.le_of_ble_eq_true rfl⟩ dX8_sameNodes_39 (fw_ki fun r14 M13 H1 locs1 hp12 hH hz1 => ?_)
          obtain ⟨rfl, hM9, hz2⟩ := hp12
          replace hz := hz2.trans hz
          clear hz1 hz2
          rw [hM9] at hH
          refine fw_icmp_eq (tgt := 47) E dX8_sameNodes_42 (by decide) (by omega) (by omega) (by omega) (by omega) (fun c15 => ?_) (fun c15 => ?_)
          · refine lv_iinc (v := iI (↑i + 1)) (lv' := [(3, .int (iI (↑i + 1))), (0, .ref a), (1, .ref o), (2, .int (iI (↑(min n n2) : Int)))]) E.1 E.2.1 dX8_sameNodes_47 hl (k := 3) rfl (iI_inc rfl) (by decide) rfl (fun ls hl => ?_)
            refine lv_goto (tgt := 14) E.1 E.2.1 dX8_sameNodes_50 (by decide) ?_
            exact ih14 (i + 1) _ _ _ _ (by omega) (by omega) (fun j h1 => by
                rcases Nat.lt_or_ge j i with g | g
                · exact hP j g
                · rw [show j = i by omega, ← hcp.1, ← hcp.2.1, ← hcq.1, ← hcq.2.1]; exact ⟨by omega, by omega⟩) hMw hH (by omega) hT hT2 (lv_sub hl [1, 2, 3, 0] rfl)
          · refine lv_iload_n E.1 E.2.1 dX8_sameNodes_45 rfl (lv_at hl 3 rfl) ?_
            refine fw_iret E hr hlk hH ?_ dX8_sameNodes_46
            exact ⟨by rw [snF_eq (min n n2) i (by omega) hP (fun _ e => by rw [← hcp.1, ← hcp.2.1, ← hcq.1, ← hcq.2.1] at e; omega)], hMw, hz⟩
  exact loop14_1 (min n n2 - 0 + 1) 0 _ _ _ _ (Nat.lt_succ_self _) (Nat.zero_le _) (fun j h1 => absurd h1 (Nat.not_lt_zero j)) rfl hH (by omega) hT hT2 (lv_sub hl [2, 3, 1, 0] rfl)
theorem k_countOfType (l : Launch) (G : fw_G) (M : fw_M) (N : Nat) (a n : Nat) (C V : Nat → Int) (sp : Nat → Nat) (hA : tw G M a n C V sp) (hv : vtOK n C V sp) (b : Int) (hb0 : 0 ≤ b) (hb1 : b ≤ 1) : fMet l yX8_countOfType cX8_countOfType 4 (some .int) 2 60 0 0 G M N [.ref a, .int (iI b)] (fw_pi (fun r M1 n1 => r = iI ↑(cntF C b n) ∧ M1 = M ∧ n1 = N)) := by
  refine fw_met RX8 rfl (by decide +kernel) (Nat.le_of_ble_eq_true rfl) ?_
  intro pG e s m args below meth cG ls E hr hlk hnm hK hH hz hl
  obtain ⟨cs, vs, ss, hs, hT, hag, hbd⟩ := hA
  obtain ⟨⟨hn0, hn1⟩, hs0, hc0, hsp, hty, hnd⟩ := id hv
  refine lv_iconst (v := iI 0) E.1 E.2.1 dX8_countOfType_0 (by decide) ?_
  refine lv_istore_n (lv' := [(2, .int (iI 0)), (0, .ref a), (1, .int (iI b))]) E.1 E.2.1 dX8_countOfType_1 rfl hl (by decide) rfl (fun ls hl => ?_)
  refine lv_iconst (v := iI 0) E.1 E.2.1 dX8_countOfType_2 (by decide) ?_
  refine lv_istore_n (lv' := [(3, .int (iI 0)), (2, .int (iI 0)), (0, .ref a), (1, .int (iI b))]) E.1 E.2.1 dX8_countOfType_3 rfl hl (by decide) rfl (fun ls hl => ?_)
  have loop4_1 : ∀ (d4 : Nat) (i : Nat) (Mw4 : fw_M) (H : Heap) (locs : List Loc) (ls : Array Slot), n - i < d4 → i ≤ n → Mw4 = M → fw_H G s Mw4 H locs → H.size = N → trAt G Mw4 a cs vs ss hs (↑n : Int) (↑(lvF n C sp) : Int) → lv_has ls 4 [(0, .ref a), (1, .int (iI b)), (2, .int (iI (↑(cntF C b i) : Int))), (3, .int (iI ↑i))] → W pG l e ({ frames := 2, cells := 0, slots := 0, locals := 60 } : Room) s m args below meth cG H locs (0) (0) (MQ below (fw_Q G (fw_pi (fun r M1 n1 => r = iI ↑(cntF C b n) ∧ M1 = M ∧ n1 = N))) args s 0 0 (fun q => G.2.2.1 ≤ q)) (F0 m 4 ls []) := by
    intro d4
    induction d4 with
    | zero => intro i Mw4 H locs ls hd; exact absurd hd (Nat.not_lt_zero _)
    | succ d4 ih4 =>
      intro i Mw4 H locs ls hd4 i2 hMw hH hz hT hl
      refine lv_iload_n E.1 E.2.1 dX8_countOfType_4 rfl (lv_at hl 3 rfl) ?_
      refine lv_aload_n E.1 E.2.1 dX8_countOfType_5 rfl (lv_at hl 0 rfl) ?_
      refine fw_get E hK hH hT.2.1 fc_X8 4 (by decide) ql_RX8_41 rfl rfl dX8_countOfType_6 ?_
      refine fw_icmp_ge (tgt := 30) E dX8_countOfType_9 (by decide) (by omega) (by omega) (by omega) (by omega) (fun c1 => ?_) (fun c1 => ?_)
      · refine lv_iload_n E.1 E.2.1 dX8_countOfType_30 rfl (lv_at hl 2 rfl) ?_
        refine fw_iret E hr hlk hH ?_ dX8_countOfType_31
        have e9 : i = n := by omega
        exact ⟨by rw [e9], hMw, hz⟩
      · have hni := (hnd i (by omega)).1
        have hci := (hag i (by omega)).1
        have hnm := numI_cases (C i)
        have hcl := cntF_le C b i
        refine lv_aload_n E.1 E.2.1 dX8_countOfType_12 rfl (lv_at hl 0 rfl) ?_
        refine lv_iload_n E.1 E.2.1 dX8_countOfType_13 rfl (lv_at hl 3 rfl) ?_
        refine fw_cV (As := [.int (iI ↑i)]) (rest := []) E hK hH hl hT.2.1 fc_X8 fL_X8_isNumber ql_RX8_51 qi_yX8_isNumber qv_yX8_isNumber (k_isNumber l G _ _ a cs vs ss hs (↑n : Int) (↑(lvF n C sp) : Int) ↑i i hT (by omega) (by omega) (by omega)) rfl rfl (Nat.le_of_ble_eq_true rfl) ⟨Nat.le_of_ble_eq_true rfl, Nat.le_of_ble_eq_true rfl⟩ ⟨Nat.le_of_ble_eq_true rfl, Nat.le_of_ble_eq_true rfl⟩ dX8_countOfType_14 (fw_ki fun r5 M4 H1 locs1 hp3 hH hz1 => ?_)
        obtain ⟨rfl, hM9, hz2⟩ := hp3
        obtain ⟨b2, hb2⟩ : ∃ y, y = (if cs i ≤ 8 then (1 : Int) else 0) := ⟨_, rfl⟩
        refine fw_cv (y := iI b2) (by rw [hb2]) ?_
        replace hb2 : (b2 = 1 ∧ cs i ≤ 8) ∨ (b2 = 0 ∧ 8 < cs i) := by rw [hb2]; split <;> omega
        replace hz := hz2.trans hz
        clear hz1 hz2
        rw [hM9] at hH
        refine lv_iload_n E.1 E.2.1 dX8_countOfType_17 rfl (lv_at hl 1 rfl) ?_
        refine fw_icmp_ne (tgt := 24) E dX8_countOfType_18 (by decide) (by omega) (by omega) (by omega) (by omega) (fun c6 => ?_) (fun c6 => ?_)
        · refine lv_iinc (v := iI (↑i + 1)) (lv' := [(3, .int (iI (↑i + 1))), (0, .ref a), (1, .int (iI b)), (2, .int (iI (↑(cntF C b i) : Int)))]) E.1 E.2.1 dX8_countOfType_24 hl (k := 3) rfl (iI_inc rfl) (by decide) rfl (fun ls hl => ?_)
          refine lv_goto (tgt := 4) E.1 E.2.1 dX8_countOfType_27 (by decide) ?_
          have hl2 : lv_has ls 4 [(0, .ref a), (1, .int (iI b)), (2, .int (iI (↑(cntF C b (i + 1)) : Int))), (3, .int (iI (↑(i + 1) : Int)))] := by
            have h := lv_sub hl [1, 2, 3, 0] rfl (l' := [(0, .ref a), (1, .int (iI b)), (2, .int (iI (↑(cntF C b i) : Int))), (3, .int (iI (↑i + 1)))])
            rw [show (iI (↑(cntF C b i) : Int)) = iI (↑(cntF C b (i + 1)) : Int) from (congrArg iI (by show _ = ((cntF C b i + (if numI (C i) = b then 1 else 0) : Nat) : Int); rw [if_neg (by omega)]; omega)), show (iI (↑i + 1)) = iI (↑(i + 1) : Int) from (congrArg iI (by omega))] at h
            exact h
          exact ih4 (i + 1) _ _ _ _ (by omega) (by omega) hMw hH (by omega) hT hl2
        · refine lv_iinc (v := iI ((↑(cntF C b i) : Int) + 1)) (lv' := [(2, .int (iI ((↑(cntF C b i) : Int) + 1))), (0, .ref a), (1, .int (iI b)), (3, .int (iI ↑i))]) E.1 E.2.1 dX8_countOfType_21 hl (k := 2) rfl (iI_inc rfl) (by decide) rfl (fun ls hl => ?_)
          refine lv_iinc (v := iI (↑i + 1)) (lv' := [(3, .int (iI (↑i + 1))), (2, .int (iI ((↑(cntF C b i) : Int) + 1))), (0, .ref a), (1, .int (iI b))]) E.1 E.2.1 dX8_countOfType_24 hl (k := 3) rfl (iI_inc rfl) (by decide) rfl (fun ls hl => ?_)
          refine lv_goto (tgt := 4) E.1 E.2.1 dX8_countOfType_27 (by decide) ?_
          have hl2 : lv_has ls 4 [(0, .ref a), (1, .int (iI b)), (2, .int (iI (↑(cntF C b (i + 1)) : Int))), (3, .int (iI (↑(i + 1) : Int)))] := by
            have h := lv_sub hl [2, 3, 1, 0] rfl (l' := [(0, .ref a), (1, .int (iI b)), (2, .int (iI ((↑(cntF C b i) : Int) + 1))), (3, .int (iI (↑i + 1)))])
            rw [show (iI ((↑(cntF C b i) : Int) + 1)) = iI (↑(cntF C b (i + 1)) : Int) from (congrArg iI (by show _ = ((cntF C b i + (if numI (C i) = b then 1 else 0) : Nat) : Int); rw [if_pos (by omega)]; omega)), show (iI (↑i + 1)) = iI (↑(i + 1) : Int) from (congrArg iI (by omega))] at h
            exact h
          exact ih4 (i + 1) _ _ _ _ (by omega) (by omega) hMw hH (by omega) hT hl2
  exact loop4_1 (n - 0 + 1) 0 _ _ _ _ (Nat.lt_succ_self _) (Nat.zero_le _) rfl hH (by omega) hT (lv_sub hl [2, 3, 1, 0] rfl)
theorem k_placeOfType (l : Launch) (G : fw_G) (M : fw_M) (N : Nat) (a n : Nat) (C V : Nat → Int) (sp : Nat → Nat) (hA : tw G M a n C V sp) (hv : vtOK n C V sp) (b : Int) (x : Nat) (hb0 : 0 ≤ b) (hb1 : b ≤ 1) (hx : x ≤ 40) : fMet l yX8_placeOfType cX8_placeOfType 5 (some .int) 2 60 0 0 G M N [.ref a, .int (iI b), .int (iI ↑x)] (fw_pi (fun r M1 n1 => r = iI ↑(plF C b x n) ∧ M1 = M ∧ n1 = N)) := by
  refine fw_met RX8 rfl (by decide +kernel) (Nat.le_of_ble_eq_true rfl) ?_
  intro pG e s m args below meth cG ls E hr hlk hnm hK hH hz hl
  obtain ⟨cs, vs, ss, hs, hT, hag, hbd⟩ := hA
  obtain ⟨⟨hn0, hn1⟩, hs0, hc0, hsp, hty, hnd⟩ := id hv
  refine lv_iconst (v := iI 0) E.1 E.2.1 dX8_placeOfType_0 (by decide) ?_
  refine lv_istore_n (lv' := [(3, .int (iI 0)), (0, .ref a), (1, .int (iI b)), (2, .int (iI ↑x))]) E.1 E.2.1 dX8_placeOfType_1 rfl hl (by decide) rfl (fun ls hl => ?_)
  refine lv_iconst (v := iI 0) E.1 E.2.1 dX8_placeOfType_2 (by decide) ?_
  refine lv_istore (lv' := [(4, .int (iI 0)), (3, .int (iI 0)), (0, .ref a), (1, .int (iI b)), (2, .int (iI ↑x))]) E.1 E.2.1 dX8_placeOfType_3 hl (by decide) rfl (fun ls hl => ?_)
  have loop5_1 : ∀ (d5 : Nat) (i : Nat) (Mw5 : fw_M) (H : Heap) (locs : List Loc) (ls : Array Slot), n - i < d5 → i ≤ n → (∀ j, j < i → ¬ (numI (C j) = b ∧ cntF C b j = x)) → Mw5 = M → fw_H G s Mw5 H locs → H.size = N → trAt G Mw5 a cs vs ss hs (↑n : Int) (↑(lvF n C sp) : Int) → lv_has ls 5 [(0, .ref a), (1, .int (iI b)), (2, .int (iI ↑x)), (3, .int (iI (↑(cntF C b i) : Int))), (4, .int (iI ↑i))] → W pG l e ({ frames := 2, cells := 0, slots := 0, locals := 60 } : Room) s m args below meth cG H locs (0) (0) (MQ below (fw_Q G (fw_pi (fun r M1 n1 => r = iI ↑(plF C b x n) ∧ M1 = M ∧ n1 = N))) args s 0 0 (fun q => G.2.2.1 ≤ q)) (F0 m 5 ls []) := by
    intro d5
    induction d5 with
    | zero => intro i Mw5 H locs ls hd; exact absurd hd (Nat.not_lt_zero _)
    | succ d5 ih5 =>
      intro i Mw5 H locs ls hd5 i2 hP hMw hH hz hT hl
      refine lv_iload E.1 E.2.1 dX8_placeOfType_5 (lv_at hl 4 rfl) ?_
      refine lv_aload_n E.1 E.2.1 dX8_placeOfType_7 rfl (lv_at hl 0 rfl) ?_
      refine fw_get E hK hH hT.2.1 fc_X8 4 (by decide) ql_RX8_41 rfl rfl dX8_placeOfType_8 ?_
      refine fw_icmp_ge (tgt := 41) E dX8_placeOfType_11 (by decide) (by omega) (by omega) (by omega) (by omega) (fun c1 => ?_) (fun c1 => ?_)
      · refine lv_iconst (v := iI 0) E.1 E.2.1 dX8_placeOfType_41 (by decide) ?_
        refine fw_iret E hr hlk hH ?_ dX8_placeOfType_42
        have e9 : i = n := by omega
        exact ⟨by rw [plF_none n (fun j hj => hP j (by omega))]; rfl, hMw, hz⟩
      · have hni := (hnd i (by omega)).1
        have hci := (hag i (by omega)).1
        have hnm := numI_cases (C i)
        have hcl := cntF_le C b i
        refine lv_aload_n E.1 E.2.1 dX8_placeOfType_14 rfl (lv_at hl 0 rfl) ?_
        refine lv_iload E.1 E.2.1 dX8_placeOfType_15 (lv_at hl 4 rfl) ?_
        refine fw_cV (As := [.int (iI ↑i)]) (rest := []) E hK hH hl hT.2.1 fc_X8 fL_X8_isNumber ql_RX8_51 qi_yX8_isNumber qv_yX8_isNumber (k_isNumber l G _ _ a cs vs ss hs (↑n : Int) (↑(lvF n C sp) : Int) ↑i i hT (by omega) (by omega) (by omega)) rfl rfl (Nat.le_of_ble_eq_true rfl) ⟨Nat.le_of_ble_eq_true rfl, Nat.le_of_ble_eq_true rfl⟩ ⟨Nat.le_of_ble_eq_true rfl, Nat.le_of_ble_eq_true rfl⟩ dX8_placeOfType_17 (fw_ki fun r5 M4 H1 locs1 hp3 hH hz1 => ?_)
        obtain ⟨rfl, hM9, hz2⟩ := hp3
        obtain ⟨b2, hb2⟩ : ∃ y, y = (if cs i ≤ 8 then (1 : Int) else 0) := ⟨_, rfl⟩
        refine fw_cv (y := iI b2) (by rw [hb2]) ?_
        replace hb2 : (b2 = 1 ∧ cs i ≤ 8) ∨ (b2 = 0 ∧ 8 < cs i) := by rw [hb2]; split <;> omega
        replace hz := hz2.trans hz
        clear hz1 hz2
        rw [hM9] at hH
        refine lv_iload_n E.1 E.2.1 dX8_placeOfType_20 rfl (lv_at hl 1 rfl) ?_
        refine fw_icmp_ne (tgt := 35) E dX8_placeOfType_21 (by decide) (by omega) (by omega) (by omega) (by omega) (fun c6 => ?_) (fun c6 => ?_)
        · refine lv_iinc (v := iI (↑i + 1)) (lv' := [(4, .int (iI (↑i + 1))), (0, .ref a), (1, .int (iI b)), (2, .int (iI ↑x)), (3, .int (iI (↑(cntF C b i) : Int)))]) E.1 E.2.1 dX8_placeOfType_35 hl (k := 4) rfl (iI_inc rfl) (by decide) rfl (fun ls hl => ?_)
          refine lv_goto (tgt := 5) E.1 E.2.1 dX8_placeOfType_38 (by decide) ?_
          have hl2 : lv_has ls 5 [(0, .ref a), (1, .int (iI b)), (2, .int (iI ↑x)), (3, .int (iI (↑(cntF C b (i + 1)) : Int))), (4, .int (iI (↑(i + 1) : Int)))] := by
            have h := lv_sub hl [1, 2, 3, 4, 0] rfl (l' := [(0, .ref a), (1, .int (iI b)), (2, .int (iI ↑x)), (3, .int (iI (↑(cntF C b i) : Int))), (4, .int (iI (↑i + 1)))])
            rw [show (iI (↑(cntF C b i) : Int)) = iI (↑(cntF C b (i + 1)) : Int) from (congrArg iI (by show _ = ((cntF C b i + (if numI (C i) = b then 1 else 0) : Nat) : Int); rw [if_neg (by omega)]; omega)), show (iI (↑i + 1)) = iI (↑(i + 1) : Int) from (congrArg iI (by omega))] at h
            exact h
          have hP2 : ∀ j, j < i + 1 → ¬ (numI (C j) = b ∧ cntF C b j = x) := fun j hj => by
            rcases Nat.lt_or_ge j i with g | g
            · exact hP j g
            · rw [show j = i by omega]; omega
          exact ih5 (i + 1) _ _ _ _ (by omega) (by omega) hP2 hMw hH (by omega) hT hl2
        · refine lv_iload_n E.1 E.2.1 dX8_placeOfType_24 rfl (lv_at hl 3 rfl) ?_
          refine lv_iload_n E.1 E.2.1 dX8_placeOfType_25 rfl (lv_at hl 2 rfl) ?_
          refine fw_icmp_ne (tgt := 32) E dX8_placeOfType_26 (by decide) (by omega) (by omega) (by omega) (by omega) (fun c7 => ?_) (fun c7 => ?_)
          · refine lv_iinc (v := iI ((↑(cntF C b i) : Int) + 1)) (lv' := [(3, .int (iI ((↑(cntF C b i) : Int) + 1))), (0, .ref a), (1, .int (iI b)), (2, .int (iI ↑x)), (4, .int (iI ↑i))]) E.1 E.2.1 dX8_placeOfType_32 hl (k := 3) rfl (iI_inc rfl) (by decide) rfl (fun ls hl => ?_)
            refine lv_iinc (v := iI (↑i + 1)) (lv' := [(4, .int (iI (↑i + 1))), (3, .int (iI ((↑(cntF C b i) : Int) + 1))), (0, .ref a), (1, .int (iI b)), (2, .int (iI ↑x))]) E.1 E.2.1 dX8_placeOfType_35 hl (k := 4) rfl (iI_inc rfl) (by decide) rfl (fun ls hl => ?_)
            refine lv_goto (tgt := 5) E.1 E.2.1 dX8_placeOfType_38 (by decide) ?_
            have hl2 : lv_has ls 5 [(0, .ref a), (1, .int (iI b)), (2, .int (iI ↑x)), (3, .int (iI (↑(cntF C b (i + 1)) : Int))), (4, .int (iI (↑(i + 1) : Int)))] := by
              have h := lv_sub hl [2, 3, 4, 1, 0] rfl (l' := [(0, .ref a), (1, .int (iI b)), (2, .int (iI ↑x)), (3, .int (iI ((↑(cntF C b i) : Int) + 1))), (4, .int (iI (↑i + 1)))])
              rw [show (iI ((↑(cntF C b i) : Int) + 1)) = iI (↑(cntF C b (i + 1)) : Int) from (congrArg iI (by show _ = ((cntF C b i + (if numI (C i) = b then 1 else 0) : Nat) : Int); rw [if_pos (by omega)]; omega)), show (iI (↑i + 1)) = iI (↑(i + 1) : Int) from (congrArg iI (by omega))] at h
              exact h
            have hP2 : ∀ j, j < i + 1 → ¬ (numI (C j) = b ∧ cntF C b j = x) := fun j hj => by
              rcases Nat.lt_or_ge j i with g | g
              · exact hP j g
              · rw [show j = i by omega]; omega
            exact ih5 (i + 1) _ _ _ _ (by omega) (by omega) hP2 hMw hH (by omega) hT hl2
          · refine lv_iload E.1 E.2.1 dX8_placeOfType_29 (lv_at hl 4 rfl) ?_
            refine fw_iret E hr hlk hH ?_ dX8_placeOfType_31
            exact ⟨by rw [plF_eq (i := i) ⟨by omega, by omega⟩ n (by omega)], hMw, hz⟩
  exact loop5_1 (n - 0 + 1) 0 _ _ _ _ (Nat.lt_succ_self _) (Nat.zero_le _) (fun j h => absurd h (Nat.not_lt_zero j)) rfl hH (by omega) hT (lv_sub hl [2, 3, 4, 1, 0] rfl)

def btB (me sz : Nat → Int) (i j : Nat) : Int := if me i = me j then (if sz i = sz j then (if i < j then 1 else 0) else if sz i < sz j then 1 else 0) else if me i < me j then 1 else 0
theorem btB_01 (me sz : Nat → Int) (i j : Nat) : btB me sz i j = 0 ∨ btB me sz i j = 1 := by unfold btB; (repeat' split) <;> first | exact Or.inl rfl | exact Or.inr rfl
theorem btB_irr (me sz : Nat → Int) (i : Nat) : btB me sz i i = 0 := by unfold btB; rw [if_pos rfl, if_pos rfl, if_neg (by omega)]
theorem k_withRank (l : Launch) (G : fw_G) (M : fw_M) (N : Nat) (ko : Nat) (me sz od : Nat → Int) (hQ : rnAt G M ko me sz od) (i : Nat) (hi : i < 16) : fMet l yX4_withRank cX4_withRank 2 (some .int) 1 30 0 0 G M N [.ref ko, .int (iI ↑i)] (fw_pi (fun r M1 n1 => r = iI (od i) ∧ M1 = M ∧ n1 = N)) := by
  refine fw_met RX4 rfl (by decide +kernel) (Nat.le_of_ble_eq_true rfl) ?_
  intro pG e s m args below meth cG ls E hr hlk hnm hK hH hz hl
  refine lv_aload_n E.1 E.2.1 dX4_withRank_0 rfl (lv_at hl 0 rfl) ?_
  refine fw_get E hK hH hQ.2.1 fc_X4 2 (by decide) ql_RX4_18 rfl rfl dX4_withRank_1 ?_
  refine lv_iload_n E.1 E.2.1 dX4_withRank_4 rfl (lv_at hl 1 rfl) ?_
  refine fw_cSN (As := [.ref (ko + 3), .int (iI ↑i)]) (rest := []) E hK hH hl fL_X9_at ql_RX4_53 qs_yX9_at (k_at l G _ _ (ko + 3) 16 od ↑i i hQ.2.2.2.2 (by omega) (by omega) (by omega)) rfl rfl (Nat.le_of_ble_eq_true rfl) ⟨Nat.le_of_ble_eq_true rfl, Nat.le_of_ble_eq_true rfl⟩ ⟨Nat.le_of_ble_eq_true rfl, Nat.le_of_ble_eq_true rfl⟩ dX4_withRank_5 (fw_ki fun r3 M2 H1 locs1 hp1 hH hz1 => ?_)
  obtain ⟨rfl, hM9, hz2⟩ := hp1
  replace hz := hz2.trans hz
  clear hz1 hz2
  rw [hM9] at hH
  refine fw_iret E hr hlk hH ?_ dX4_withRank_8
  exact ⟨rfl, rfl, hz⟩
theorem k_isBetter (l : Launch) (G : fw_G) (M : fw_M) (N : Nat) (ko : Nat) (me sz od : Nat → Int) (hQ : rnAt G M ko me sz od) (i j : Nat) (hi : i < 16) (hj : j < 16) (hmb : ∀ k, k < 16 → (0 ≤ me k ∧ me k ≤ 999999) ∧ (0 ≤ sz k ∧ sz k ≤ 40)) : fMet l yX4_isBetter cX4_isBetter 3 (some .boolean) 1 60 0 0 G M N [.ref ko, .int (iI ↑i), .int (iI ↑j)] (fw_pi (fun r M1 n1 => r = iI (btB me sz i j) ∧ M1 = M ∧ n1 = N)) := by
  refine fw_met RX4 rfl (by decide +kernel) (Nat.le_of_ble_eq_true rfl) ?_
  intro pG e s m args below meth cG ls E hr hlk hnm hK hH hz hl
  have bi := hmb i hi
  have bj := hmb j hj
  refine lv_aload_n E.1 E.2.1 dX4_isBetter_0 rfl (lv_at hl 0 rfl) ?_
  refine fw_get E hK hH hQ.2.1 fc_X4 0 (by decide) ql_RX4_9 rfl rfl dX4_isBetter_1 ?_
  refine lv_iload_n E.1 E.2.1 dX4_isBetter_4 rfl (lv_at hl 1 rfl) ?_
  refine fw_cSN (As := [.ref (ko + 1), .int (iI ↑i)]) (rest := []) E hK hH hl fL_X9_at ql_RX4_53 qs_yX9_at (k_at l G _ _ (ko + 1) 16 me ↑i i hQ.2.2.1 (by omega) (by omega) (by omega)) rfl rfl (Nat.le_of_ble_eq_true rfl) ⟨Nat.le_of_ble_eq_true rfl, Nat.le_of_ble_eq_true rfl⟩ ⟨Nat.le_of_ble_eq_true rfl, Nat.le_of_ble_eq_true rfl⟩ dX4_isBetter_5 (fw_ki fun r3 M2 H1 locs1 hp1 hH hz1 => ?_)
  obtain ⟨rfl, hM9, hz2⟩ := hp1
  replace hz := hz2.trans hz
  clear hz1 hz2
  rw [hM9] at hH
  refine lv_aload_n E.1 E.2.1 dX4_isBetter_8 rfl (lv_at hl 0 rfl) ?_
  refine fw_get E hK hH hQ.2.1 fc_X4 0 (by decide) ql_RX4_9 rfl rfl dX4_isBetter_9 ?_
  refine lv_iload_n E.1 E.2.1 dX4_isBetter_12 rfl (lv_at hl 2 rfl) ?_
  refine fw_cSN (As := [.ref (ko + 1), .int (iI ↑j)]) (rest := [.int (iI (me i))]) E hK hH hl fL_X9_at ql_RX4_53 qs_yX9_at (k_at l G _ _ (ko + 1) 16 me ↑j j hQ.2.2.1 (by omega) (by omega) (by omega)) rfl rfl (Nat.le_of_ble_eq_true rfl) ⟨Nat.le_of_ble_eq_true rfl, Nat.le_of_ble_eq_true rfl⟩ ⟨Nat.le_of_ble_eq_true rfl, Nat.le_of_ble_eq_true rfl⟩ dX4_isBetter_13 (fw_ki fun r6 M5 H1 locs1 hp4 hH hz1 => ?_)
  obtain ⟨rfl, hM9, hz2⟩ := hp4
  replace hz := hz2.trans hz
  clear hz1 hz2
  rw [hM9] at hH
  refine fw_icmp_eq (tgt := 44) E dX4_isBetter_16 (by decide) (by omega) (by omega) (by omega) (by omega) (fun c7 => ?_) (fun c7 => ?_)
  · refine lv_aload_n E.1 E.2.1 dX4_isBetter_44 rfl (lv_at hl 0 rfl) ?_
    refine fw_get E hK hH hQ.2.1 fc_X4 1 (by decide) ql_RX4_15 rfl rfl dX4_isBetter_45 ?_
    refine lv_iload_n E.1 E.2.1 dX4_isBetter_48 rfl (lv_at hl 1 rfl) ?_
    refine fw_cSN (As := [.ref (ko + 2), .int (iI ↑i)]) (rest := []) E hK hH hl fL_X9_at ql_RX4_53 qs_yX9_at (k_at l G _ _ (ko + 2) 16 sz ↑i i hQ.2.2.2.1 (by omega) (by omega) (by omega)) rfl rfl (Nat.le_of_ble_eq_true rfl) ⟨Nat.le_of_ble_eq_true rfl, Nat.le_of_ble_eq_true rfl⟩ ⟨Nat.le_of_ble_eq_true rfl, Nat.le_of_ble_eq_true rfl⟩ dX4_isBetter_49 (fw_ki fun r10 M9 H1 locs1 hp8 hH hz1 => ?_)
    obtain ⟨rfl, hM9, hz2⟩ := hp8
    replace hz := hz2.trans hz
    clear hz1 hz2
    rw [hM9] at hH
    refine lv_aload_n E.1 E.2.1 dX4_isBetter_52 rfl (lv_at hl 0 rfl) ?_
    refine fw_get E hK hH hQ.2.1 fc_X4 1 (by decide) ql_RX4_15 rfl rfl dX4_isBetter_53 ?_
    refine lv_iload_n E.1 E.2.1 dX4_isBetter_56 rfl (lv_at hl 2 rfl) ?_
    refine fw_cSN (As := [.ref (ko + 2), .int (iI ↑j)]) (rest := [.int (iI (sz i))]) E hK hH hl fL_X9_at ql_RX4_53 qs_yX9_at (k_at l G _ _ (ko + 2) 16 sz ↑j j hQ.2.2.2.1 (by omega) (by omega) (by omega)) rfl rfl (Nat.le_of_ble_eq_true rfl) ⟨Nat.le_of_ble_eq_true rfl, Nat.le_of_ble_eq_true rfl⟩ ⟨Nat.le_of_ble_eq_true rfl, Nat.le_of_ble_eq_true rfl⟩ dX4_isBetter_57 (fw_ki fun r13 M12 H1 locs1 hp11 hH hz1 => ?_)
    obtain ⟨rfl, hM9, hz2⟩ := hp11
    replace hz := hz2.trans hz
    clear hz1 hz2
    rw [hM9] at hH
    refine fw_icmp_eq (tgt := 88) E dX4_isBetter_60 (by decide) (by omega) (by omega) (by omega) (by omega) (fun c14 => ?_) (fun c14 => ?_)
    · refine lv_iload_n E.1 E.2.1 dX4_isBetter_88 rfl (lv_at hl 1 rfl) ?_
      refine lv_iload_n E.1 E.2.1 dX4_isBetter_89 rfl (lv_at hl 2 rfl) ?_
      refine fw_icmp_ge (tgt := 97) E dX4_isBetter_90 (by decide) (by omega) (by omega) (by omega) (by omega) (fun c15 => ?_) (fun c15 => ?_)
      · refine lv_iconst (v := iI 0) E.1 E.2.1 dX4_isBetter_97 (by decide) ?_
        refine fw_zret (r := (iI 0)) E hr hlk hH (by rfl) ?_ dX4_isBetter_98
        exact ⟨congrArg iI (by unfold btB; (repeat' split) <;> omega), rfl, hz⟩
      · refine lv_iconst (v := iI 1) E.1 E.2.1 dX4_isBetter_93 (by decide) ?_
        refine lv_goto (tgt := 98) E.1 E.2.1 dX4_isBetter_94 (by decide) ?_
        refine fw_zret (r := (iI 1)) E hr hlk hH (by rfl) ?_ dX4_isBetter_98
        exact ⟨congrArg iI (by unfold btB; (repeat' split) <;> omega), rfl, hz⟩
    · refine lv_aload_n E.1 E.2.1 dX4_isBetter_63 rfl (lv_at hl 0 rfl) ?_
      refine fw_get E hK hH hQ.2.1 fc_X4 1 (by decide) ql_RX4_15 rfl rfl dX4_isBetter_64 ?_
      refine lv_iload_n E.1 E.2.1 dX4_isBetter_67 rfl (lv_at hl 1 rfl) ?_
      refine fw_cSN (As := [.ref (ko + 2), .int (iI ↑i)]) (rest := []) E hK hH hl fL_X9_at ql_RX4_53 qs_yX9_at (k_at l G _ _ (ko + 2) 16 sz ↑i i hQ.2.2.2.1 (by omega) (by omega) (by omega)) rfl rfl (Nat.le_of_ble_eq_true rfl) ⟨Nat.le_of_ble_eq_true rfl, Nat.le_of_ble_eq_true rfl⟩ ⟨Nat.le_of_ble_eq_true rfl, Nat.le_of_ble_eq_true rfl⟩ dX4_isBetter_68 (fw_ki fun r18 M17 H1 locs1 hp16 hH hz1 => ?_)
      obtain ⟨rfl, hM9, hz2⟩ := hp16
      replace hz := hz2.trans hz
      clear hz1 hz2
      rw [hM9] at hH
      refine lv_aload_n E.1 E.2.1 dX4_isBetter_71 rfl (lv_at hl 0 rfl) ?_
      refine fw_get E hK hH hQ.2.1 fc_X4 1 (by decide) ql_RX4_15 rfl rfl dX4_isBetter_72 ?_
      refine lv_iload_n E.1 E.2.1 dX4_isBetter_75 rfl (lv_at hl 2 rfl) ?_
      refine fw_cSN (As := [.ref (ko + 2), .int (iI ↑j)]) (rest := [.int (iI (sz i))]) E hK hH hl fL_X9_at ql_RX4_53 qs_yX9_at (k_at l G _ _ (ko + 2) 16 sz ↑j j hQ.2.2.2.1 (by omega) (by omega) (by omega)) rfl rfl (Nat.le_of_ble_eq_true rfl) ⟨Nat.le_of_ble_eq_true rfl, Nat.le_of_ble_eq_true rfl⟩ ⟨Nat.le_of_ble_eq_true rfl, Nat.le_of_ble_eq_true rfl⟩ dX4_isBetter_76 (fw_ki fun r21 M20 H1 locs1 hp19 hH hz1 => ?_)
      obtain ⟨rfl, hM9, hz2⟩ := hp19
      replace hz := hz2.trans hz
      clear hz1 hz2
      rw [hM9] at hH
      refine fw_icmp_ge (tgt := 86) E dX4_isBetter_79 (by decide) (by omega) (by omega) (by omega) (by omega) (fun c22 => ?_) (fun c22 => ?_)
      · refine lv_iconst (v := iI 0) E.1 E.2.1 dX4_isBetter_86 (by decide) ?_
        refine fw_zret (r := (iI 0)) E hr hlk hH (by rfl) ?_ dX4_isBetter_87
        exact ⟨congrArg iI (by unfold btB; (repeat' split) <;> omega), rfl, hz⟩
      · refine lv_iconst (v := iI 1) E.1 E.2.1 dX4_isBetter_82 (by decide) ?_
        refine lv_goto (tgt := 87) E.1 E.2.1 dX4_isBetter_83 (by decide) ?_
        refine fw_zret (r := (iI 1)) E hr hlk hH (by rfl) ?_ dX4_isBetter_87
        exact ⟨congrArg iI (by unfold btB; (repeat' split) <;> omega), rfl, hz⟩
  · refine lv_aload_n E.1 E.2.1 dX4_isBetter_19 rfl (lv_at hl 0 rfl) ?_
    refine fw_get E hK hH hQ.2.1 fc_X4 0 (by decide) ql_RX4_9 rfl rfl dX4_isBetter_20 ?_
    refine lv_iload_n E.1 E.2.1 dX4_isBetter_23 rfl (lv_at hl 1 rfl) ?_
    refine fw_cSN (As := [.ref (ko + 1), .int (iI ↑i)]) (rest := []) E hK hH hl fL_X9_at ql_RX4_53 qs_yX9_at (k_at l G _ _ (ko + 1) 16 me ↑i i hQ.2.2.1 (by omega) (by omega) (by omega)) rfl rfl (Nat.le_of_ble_eq_true rfl) ⟨Nat.le_of_ble_eq_true rfl, Nat.le_of_ble_eq_true rfl⟩ ⟨Nat.le_of_ble_eq_true rfl, Nat.le_of_ble_eq_true rfl⟩ dX4_isBetter_24 (fw_ki fun r25 M24 H1 locs1 hp23 hH hz1 => ?_)
    obtain ⟨rfl, hM9, hz2⟩ := hp23
    replace hz := hz2.trans hz
    clear hz1 hz2
    rw [hM9] at hH
    refine lv_aload_n E.1 E.2.1 dX4_isBetter_27 rfl (lv_at hl 0 rfl) ?_
    refine fw_get E hK hH hQ.2.1 fc_X4 0 (by decide) ql_RX4_9 rfl rfl dX4_isBetter_28 ?_
    refine lv_iload_n E.1 E.2.1 dX4_isBetter_31 rfl (lv_at hl 2 rfl) ?_
    refine fw_cSN (As := [.ref (ko + 1), .int (iI ↑j)]) (rest := [.int (iI (me i))]) E hK hH hl fL_X9_at ql_RX4_53 qs_yX9_at (k_at l G _ _ (ko + 1) 16 me ↑j j hQ.2.2.1 (by omega) (by omega) (by omega)) rfl rfl (Nat.le_of_ble_eq_true rfl) ⟨Nat.le_of_ble_eq_true rfl, Nat.le_of_ble_eq_true rfl⟩ ⟨Nat.le_of_ble_eq_true rfl, Nat.le_of_ble_eq_true rfl⟩ dX4_isBetter_32 (fw_ki fun r28 M27 H1 locs1 hp26 hH hz1 => ?_)
    obtain ⟨rfl, hM9, hz2⟩ := hp26
    replace hz := hz2.trans hz
    clear hz1 hz2
    rw [hM9] at hH
    refine fw_icmp_ge (tgt := 42) E dX4_isBetter_35 (by decide) (by omega) (by omega) (by omega) (by omega) (fun c29 => ?_) (fun c29 => ?_)
    · refine lv_iconst (v := iI 0) E.1 E.2.1 dX4_isBetter_42 (by decide) ?_
      refine fw_zret (r := (iI 0)) E hr hlk hH (by rfl) ?_ dX4_isBetter_43
      exact ⟨congrArg iI (by unfold btB; (repeat' split) <;> omega), rfl, hz⟩
    · refine lv_iconst (v := iI 1) E.1 E.2.1 dX4_isBetter_38 (by decide) ?_
      refine lv_goto (tgt := 43) E.1 E.2.1 dX4_isBetter_39 (by decide) ?_
      refine fw_zret (r := (iI 1)) E hr hlk hH (by rfl) ?_ dX4_isBetter_43
      exact ⟨congrArg iI (by unfold btB; (repeat' split) <;> omega), rfl, hz⟩

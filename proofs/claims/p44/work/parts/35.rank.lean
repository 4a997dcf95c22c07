def btB (me sz : Nat → Int) (i j : Nat) : Int := if me i = me j then (if sz i = sz j then (if i < j then 1 else 0) else if sz i < sz j then 1 else 0) else if me i < me j then 1 else 0
theorem btB_01 (me sz : Nat → Int) (i j : Nat) : btB me sz i j = 0 ∨ btB me sz i j = 1 := by unfold btB; (repeat' split) <;> first | exact Or.inl rfl | exact Or.inr rfl
theorem btB_irr (me sz : Nat → Int) (i : Nat) : btB me sz i i = 0 := by unfold btB; rw [if_pos rfl, if_pos rfl, if_neg (by omega)]
theorem k_withRank (l : Launch) (G : fw_G) (M : fw_M) (N : Nat) (ko : Nat) (me sz od : Nat → Int) (hQ : rnAt G M ko me sz od) (i : Nat) (hi : i < 16) : fMet l yX4_withRank cX4_withRank 2 (some .int) 1 30 0 0 G M N [.ref ko, .int (iI ↑i)] (fw_pi (fun r M1 n1 => r = iI (od i) ∧ M1 = M ∧ n1 = N)) := by
  refine fw_met RX4 rfl (by decide +kernel) (Nat.le_of_ble_eq_true rfl) ?_
  intro pG e s m args below meth cG ls E hr hlk hnm hK hH hz hl
  refine lv_aload_n E.1 E.2.1 dX4_withRank_0 rfl (lv_at hl 0 rfl) ?_
  refine fw_get E hK hH hQ.2.1 fc_X4 2 (by decide) ql_RX4_18 rfl rfl dX4_withRank_1 ?_
  refine lv_iload_n E.1 E.2.1 dX4_withRank_4 rfl (lv_at hl 1 rfl) ?_
  refine fw_cSN (As := [.ref (ko + 3), .int (iI ↑i)]) (rest := []) E hK hH hl fL_X9_at ql_RX4_53 qs_yX9_at (k_at l G _ _ (ko + 3) 16 od ↑i i hQ.2.2.2.2 (by omega) (by omega) (by omega)) rfl rfl (Nat.le_of_ble_eq_true rfl) ⟨Nat.le_of_ble_eq_true rfl, Nat.le_of_ble_eq_true rfl⟩ ⟨Nat.le_of_ble_eq_true rfl, Nat.le_of_ble_eq_true rfl⟩ dX4_withRank_5 (fw_ki fun r3 M2 H1 locs1 hp1 hH hz1 => ?_)
  obtain ⟨rfl, hM9, hz2⟩ := hp1
  replace hz := hz2.trans hz
  clear hz1 hz2
  rw [hM9] at hH
  refine fw_iret E hr hlk hH ?_ dX4_withRank_8
  exact ⟨rfl, rfl, hz⟩
theorem k_isBetter (l : Launch) (G : fw_G) (M : fw_M) (N : Nat) (ko : Nat) (me sz od : Nat → Int) (hQ : rnAt G M ko me sz od) (i j : Nat) (hi : i < 16) (hj : j < 16) (hmb : ∀ k, k < 16 → (0 ≤ me k ∧ me k ≤ 999999) ∧ (0 ≤ sz k ∧ sz k ≤ 40)) : fMet l yX4_isBetter cX4_isBetter 3 (some .boolean) 1 60 0 0 G M N [.ref ko, .int (iI ↑i), .int (iI ↑j)] (fw_pi (fun r M1 n1 => r = iI (btB me sz i j) ∧ M1 = M ∧ n1 = N)) := by
  refine fw_met RX4 rfl (by decide +kernel) (Nat.le_of_ble_eq_true rfl) ?_
  intro pG e s m args below meth cG ls E hr hlk hnm hK hH hz hl
  have bi := hmb i hi
  have bj := hmb j hj
  refine lv_aload_n E.1 E.2.1 dX4_isBetter_0 rfl (lv_at hl 0 rfl) ?_
  refine fw_get E hK hH hQ.2.1 fc_X4 0 (by decide) ql_RX4_9 rfl rfl dX4_isBetter_1 ?_
  refine lv_iload_n E.1 E.2.1 dX4_isBetter_4 rfl (lv_at hl 1 rfl) ?_
  refine fw_cSN (As := [.ref (ko + 1), .int (iI ↑i)]) (rest := []) E hK hH hl fL_X9_at ql_RX4_53 qs_yX9_at (k_at l G _ _ (ko + 1) 16 me ↑i i hQ.2.2.1 (by omega) (by omega) (by omega)) rfl rfl (Nat.le_of_ble_eq_true rfl) ⟨Nat.le_of_ble_eq_true rfl, Nat.le_of_ble_eq_true rfl⟩ ⟨Nat.le_of_ble_eq_true rfl, Nat.le_of_ble_eq_true rfl⟩ dX4_isBetter_5 (fw_ki fun r3 M2 H1 locs1 hp1 hH hz1 => ?_)
  obtain ⟨rfl, hM9, hz2⟩ := hp1
  replace hz := hz2.trans hz
  clear hz1 hz2
  rw [hM9] at hH
  refine lv_aload_n E.1 E.2.1 dX4_isBetter_8 rfl (lv_at hl 0 rfl) ?_
  refine fw_get E hK hH hQ.2.1 fc_X4 0 (by decide) ql_RX4_9 rfl rfl dX4_isBetter_9 ?_
  refine lv_iload_n E.1 E.2.1 dX4_isBetter_12 rfl (lv_at hl 2 rfl) ?_
  refine fw_cSN (As := [.ref (ko + 1), .int (iI ↑j)]) (rest := [.int (iI (me i))]) E hK hH hl fL_X9_at ql_RX4_53 qs_yX9_at (k_at l G _ _ (ko + 1) 16 me ↑j j hQ.2.2.1 (by omega) (by omega) (by omega)) rfl rfl (Nat.le_of_ble_eq_true rfl) ⟨Nat.le_of_ble_eq_true rfl, Nat.le_of_ble_eq_true rfl⟩ ⟨Nat.le_of_ble_eq_true rfl, Nat.le_of_ble_eq_true rfl⟩ dX4_isBetter_13 (fw_ki fun r6 M5 H1 locs1 hp4 hH hz1 => ?_)
  obtain ⟨rfl, hM9, hz2⟩ := hp4
  replace hz := hz2.trans hz
  clear hz1 hz2
  rw [hM9] at hH
  refine fw_icmp_eq (tgt := 44) E dX4_isBetter_16 (by decide) (by omega) (by omega) (by omega) (by omega) (fun c7 => ?_) (fun c7 => ?_)
  · refine lv_aload_n E.1 E.2.1 dX4_isBetter_44 rfl (lv_at hl 0 rfl) ?_
    refine fw_get E hK hH hQ.2.1 fc_X4 1 (by decide) ql_RX4_15 rfl rfl dX4_isBetter_45 ?_
    refine lv_iload_n E.1 E.2.1 dX4_isBetter_48 rfl (lv_at hl 1 rfl) ?_
    refine fw_cSN (As := [.ref (ko + 2), .int (iI ↑i)]) (rest := []) E hK hH hl fL_X9_at ql_RX4_53 qs_yX9_at (k_at l G _ _ (ko + 2) 16 sz ↑i i hQ.2.2.2.1 (by omega) (by omega) (by omega)) rfl rfl (Nat.le_of_ble_eq_true rfl) ⟨Nat.le_of_ble_eq_true rfl, Nat.le_of_ble_eq_true rfl⟩ ⟨Nat.le_of_ble_eq_true rfl, Nat.le_of_ble_eq_true rfl⟩ dX4_isBetter_49 (fw_ki fun r10 M9 H1 locs1 hp8 hH hz1 => ?_)
    obtain ⟨rfl, hM9, hz2⟩ := hp8
    replace hz := hz2.trans hz
    clear hz1 hz2
    rw [hM9] at hH
    refine lv_aload_n E.1 E.2.1 dX4_isBetter_52 rfl (lv_at hl 0 rfl) ?_
    refine fw_get E hK hH hQ.2.1 fc_X4 1 (by decide) ql_RX4_15 rfl rfl dX4_isBetter_53 ?_
    refine lv_iload_n E.1 E.2.1 dX4_isBetter_56 rfl (lv_at hl 2 rfl) ?_
    refine fw_cSN (As := [.ref (ko + 2), .int (iI ↑j)]) (rest := [.int (iI (sz i))]) E hK hH hl fL_X9_at ql_RX4_53 qs_yX9_at (k_at l G _ _ (ko + 2) 16 sz ↑j j hQ.2.2.2.1 (by omega) (by omega) (by omega)) rfl rfl (Nat.le_of_ble_eq_true rfl) ⟨Nat.le_of_ble_eq_true rfl, Nat.le_of_ble_eq_true rfl⟩ ⟨Nat.le_of_ble_eq_true rfl, Nat.le_of_ble_eq_true rfl⟩ dX4_isBetter_57 (fw_ki fun r13 M12 H1 locs1 hp11 hH hz1 => ?_)
    obtain ⟨rfl, hM9, hz2⟩ := hp11
    replace hz := hz2.trans hz
    clear hz1 hz2
    rw [hM9] at hH
    refine fw_icmp_eq (tgt := 88) E dX4_isBetter_60 (by decide) (by omega) (by omega) (by omega) (by omega) (fun c14 => ?_) (fun c14 => ?_)
    · refine lv_iload_n E.1 E.2.1 dX4_isBetter_88 rfl (lv_at hl 1 rfl) ?_
      refine lv_iload_n E.1 E.2.1 dX4_isBetter_89 rfl (lv_at hl 2 rfl) ?_
      refine fw_icmp_ge (tgt := 97) E dX4_isBetter_90 (by decide) (by omega) (by omega) (by omega) (by omega) (fun c15 => ?_) (fun c15 => ?_)
      · refine lv_iconst (v := iI 0) E.1 E.2.1 dX4_isBetter_97 (by decide) ?_
        refine fw_zret (r := (iI 0)) E hr hlk hH (by rfl) ?_ dX4_isBetter_98
        exact ⟨congrArg iI (by unfold btB; (repeat' split) <;> omega), rfl, hz⟩
      · refine lv_iconst (v := iI 1) E.1 E.2.1 dX4_isBetter_93 (by decide) ?_
        refine lv_goto (tgt := 98) E.1 E.2.1 dX4_isBetter_94 (by decide) ?_
        refine fw_zret (r := (iI 1)) E hr hlk hH (by rfl) ?_ dX4_isBetter_98
        exact ⟨congrArg iI (by unfold btB; (repeat' split) <;> omega), rfl, hz⟩
    · refine lv_aload_n E.1 E.2.1 dX4_isBetter_63 rfl (lv_at hl 0 rfl) ?_
      refine fw_get E hK hH hQ.2.1 fc_X4 1 (by decide) ql_RX4_15 rfl rfl dX4_isBetter_64 ?_
      refine lv_iload_n E.1 E.2.1 dX4_isBetter_67 rfl (lv_at hl 1 rfl) ?_
      refine fw_cSN (As := [.ref (ko + 2), .int (iI ↑i)]) (rest := []) E hK hH hl fL_X9_at ql_RX4_53 qs_yX9_at (k_at l G _ _ (ko + 2) 16 sz ↑i i hQ.2.2.2.1 (by omega) (by omega) (by omega)) rfl rfl (Nat.le_of_ble_eq_true rfl) ⟨Nat.le_of_ble_eq_true rfl, Nat.le_of_ble_eq_true rfl⟩ ⟨Nat.le_of_ble_eq_true rfl, Nat.le_of_ble_eq_true rfl⟩ dX4_isBetter_68 (fw_ki fun r18 M17 H1 locs1 hp16 hH hz1 => ?_)
      obtain ⟨rfl, hM9, hz2⟩ := hp16
      replace hz := hz2.trans hz
      clear hz1 hz2
      rw [hM9] at hH
      refine lv_aload_n E.1 E.2.1 dX4_isBetter_71 rfl (lv_at hl 0 rfl) ?_
      refine fw_get E hK hH hQ.2.1 fc_X4 1 (by decide) ql_RX4_15 rfl rfl dX4_isBetter_72 ?_
      refine lv_iload_n E.1 E.2.1 dX4_isBetter_75 rfl (lv_at hl 2 rfl) ?_
      refine fw_cSN (As := [.ref (ko + 2), .int (iI ↑j)]) (rest := [.int (iI (sz i))]) E hK hH hl fL_X9_at ql_RX4_53 qs_yX9_at (k_at l G _ _ (ko + 2) 16 sz ↑j j hQ.2.2.2.1 (by omega) (by omega) (by omega)) rfl rfl (Nat.le_of_ble_eq_true rfl) ⟨Nat.le_of_ble_eq_true rfl, Nat.le_of_ble_eq_true rfl⟩ ⟨Nat.le_of_ble_eq_true rfl, Nat.le_of_ble_eq_true rfl⟩ dX4_isBetter_76 (fw_ki fun r21 M20 H1 locs1 hp19 hH hz1 => ?_)
      obtain ⟨rfl, hM9, hz2⟩ := hp19
      replace hz := hz2.trans hz
      clear hz1 hz2
      rw [hM9] at hH
      refine fw_icmp_ge (tgt := 86) E dX4_isBetter_79 (by decide) (by omega) (by omega) (by omega) (by omega) (fun c22 => ?_) (fun c22 => ?_)
      · refine lv_iconst (v := iI 0) E.1 E.2.1 dX4_isBetter_86 (by decide) ?_
        refine fw_zret (r := (iI 0)) E hr hlk hH (by rfl) ?_ dX4_isBetter_87
        exact ⟨congrArg iI (by unfold btB; (repeat' split) <;> omega), rfl, hz⟩
      · refine lv_iconst (v := iI 1) E.1 E.2.1 dX4_isBetter_82 (by decide) ?_
        refine lv_goto (tgt := 87) E.1 E.2.1 dX4_isBetter_83 (by decide) ?_
        refine fw_zret (r := (iI 1)) E hr hlk hH (by rfl) ?_ dX4_isBetter_87
        exact ⟨congrArg iI (by unfold btB; (repeat' split) <;> omega), rfl, hz⟩
  · refine lv_aload_n E.1 E.2.1 dX4_isBetter_19 rfl (lv_at hl 0 rfl) ?_
    refine fw_get E hK hH hQ.2.1 fc_X4 0 (by decide) ql_RX4_9 rfl rfl dX4_isBetter_20 ?_
    refine lv_iload_n E.1 E.2.1 dX4_isBetter_23 rfl (lv_at hl 1 rfl) ?_
    refine fw_cSN (As := [.ref (ko + 1), .int (iI ↑i)]) (rest := []) E hK hH hl fL_X9_at ql_RX4_53 qs_yX9_at (k_at l G _ _ (ko + 1) 16 me ↑i i hQ.2.2.1 (by omega) (by omega) (by omega)) rfl rfl (Nat.le_of_ble_eq_true rfl) ⟨Nat.le_of_ble_eq_true rfl, Nat.le_of_ble_eq_true rfl⟩ ⟨Nat.le_of_ble_eq_true rfl, Nat.le_of_ble_eq_true rfl⟩ dX4_isBetter_24 (fw_ki fun r25 M24 H1 locs1 hp23 hH hz1 => ?_)
    obtain ⟨rfl, hM9, hz2⟩ := hp23
    replace hz := hz2.trans hz
    clear hz1 hz2
    rw [hM9] at hH
    refine lv_aload_n E.1 E.2.1 dX4_isBetter_27 rfl (lv_at hl 0 rfl) ?_
    refine fw_get E hK hH hQ.2.1 fc_X4 0 (by decide) ql_RX4_9 rfl rfl dX4_isBetter_28 ?_
    refine lv_iload_n E.1 E.2.1 dX4_isBetter_31 rfl (lv_at hl 2 rfl) ?_
    refine fw_cSN (As := [.ref (ko + 1), .int (iI ↑j)]) (rest := [.int (iI (me i))]) E hK hH hl fL_X9_at ql_RX4_53 qs_yX9_at (k_at l G _ _ (ko + 1) 16 me ↑j j hQ.2.2.1 (by omega) (by omega) (by omega)) rfl rfl (Nat.le_of_ble_eq_true rfl) ⟨Nat.le_of_ble_eq_true rfl, Nat.le_of_ble_eq_true rfl⟩ ⟨Nat.le_of_ble_eq_true rfl, Nat.le_of_ble_eq_true rfl⟩ dX4_isBetter_32 (fw_ki fun r28 M27 H1 locs1 hp26 hH hz1 => ?_)
    obtain ⟨rfl, hM9, hz2⟩ := hp26
    replace hz := hz2.trans hz
    clear hz1 hz2
    rw [hM9] at hH
    refine fw_icmp_ge (tgt := 42) E dX4_isBetter_35 (by decide) (by omega) (by omega) (by omega) (by omega) (fun c29 => ?_) (fun c29 => ?_)
    · refine lv_iconst (v := iI 0) E.1 E.2.1 dX4_isBetter_42 (by decide) ?_
      refine fw_zret (r := (iI 0)) E hr hlk hH (by rfl) ?_ dX4_isBetter_43
      exact ⟨congrArg iI (by unfold btB; (repeat' split) <;> omega), rfl, hz⟩
    · refine lv_iconst (v := iI 1) E.1 E.2.1 dX4_isBetter_38 (by decide) ?_
      refine lv_goto (tgt := 43) E.1 E.2.1 dX4_isBetter_39 (by decide) ?_
      refine fw_zret (r := (iI 1)) E hr hlk hH (by rfl) ?_ dX4_isBetter_43
      exact ⟨congrArg iI (by unfold btB; (repeat' split) <;> omega), rfl, hz⟩
def insP (me sz od : Nat → Int) (i : Nat) : Nat → Nat
  | 0 => 0
  | r + 1 => if btB me sz i (od r).toNat = 1 then insP me sz od i r else r + 1
def insO (me sz od : Nat → Int) (i : Nat) : Nat → Int := fun k => if k < insP me sz od i i then od k else if k = insP me sz od i i then ↑i else if k ≤ i then od (k - 1) else od k
theorem insP_go {me sz od : Nat → Int} {i r : Nat} (h0 : 0 < r) (h : btB me sz i (od (r - 1)).toNat = 1) : insP me sz od i r = insP me sz od i (r - 1) := by
  obtain ⟨r, rfl⟩ : ∃ y, r = y + 1 := ⟨r - 1, by omega⟩
  show (if btB me sz i (od r).toNat = 1 then insP me sz od i r else r + 1) = _
  have h2 : btB me sz i (od r).toNat = 1 := h
  rw [if_pos h2]; rfl
theorem insP_stop {me sz od : Nat → Int} {i r : Nat} (h0 : 0 < r) (h : btB me sz i (od (r - 1)).toNat = 0) : insP me sz od i r = r := by
  obtain ⟨r, rfl⟩ : ∃ y, r = y + 1 := ⟨r - 1, by omega⟩
  show (if btB me sz i (od r).toNat = 1 then insP me sz od i r else r + 1) = _
  have h2 : btB me sz i (od r).toNat = 0 := h
  rw [if_neg (by omega)]
theorem insO_of {me sz od w : Nat → Int} {i r : Nat} (hr : r ≤ i) (hp : insP me sz od i i = r) (h1 : ∀ k, k < r → w k = od k) (h2 : ∀ k, r < k → k ≤ i → w k = od (k - 1)) (h3 : ∀ k, i < k → w k = od k) : zup w r ↑i = insO me sz od i := by
  funext k
  unfold insO
  rw [hp]
  rcases Nat.lt_trichotomy k r with g | g | g
  · rw [if_pos g, zup_ne (by omega), h1 k g]
  · rw [if_neg (by omega), if_pos g, g, zup_eq]
  · rw [if_neg (by omega), if_neg (by omega), zup_ne (by omega)]
    by_cases hk : k ≤ i
    · rw [if_pos hk, h2 k g hk]
    · rw [if_neg hk, h3 k (by omega)]
set_option maxHeartbeats 1000000 in
theorem k_insert (l : Launch) (G : fw_G) (M : fw_M) (N : Nat) (ko : Nat) (me sz od : Nat → Int) (hQ : rnAt G M ko me sz od) (i : Nat) (hi : i < 16) (hmb : ∀ k, k < 16 → (0 ≤ me k ∧ me k ≤ 999999) ∧ (0 ≤ sz k ∧ sz k ≤ 40)) (hob : ∀ k, k < i → 0 ≤ od k ∧ od k < 16) : fMet l yX4_insert cX4_insert 3 none 2 90 0 0 G M N [.ref ko, .int (iI ↑i)] (fw_pv (fun M1 n1 => rnAt G M1 ko me sz (insO me sz od i) ∧ (∀ q, q ≠ ko + 3 → M1 q = M q) ∧ n1 = N)) := by
  refine fw_met RX4 rfl (by decide +kernel) (Nat.le_of_ble_eq_true rfl) ?_
  intro pG e s m args below meth cG ls E hr hlk hnm hK hH hz hl
  obtain ⟨hbo, n0, n1, n2, n3⟩ := hQ
  refine lv_iload_n E.1 E.2.1 dX4_insert_0 rfl (lv_at hl 1 rfl) ?_
  refine lv_istore_n (lv' := [(2, .int (iI ↑i)), (0, .ref ko), (1, .int (iI ↑i))]) E.1 E.2.1 dX4_insert_1 rfl hl (by decide) rfl (fun ls hl => ?_)
  have loop2_1 : ∀ (d2 : Nat) (r : Nat) (w : Nat → Int) (Mw2 : fw_M) (H : Heap) (locs : List Loc) (ls : Array Slot), r < d2 → r ≤ i → insP me sz od i i = insP me sz od i r → (∀ k, k < r → w k = od k) → (∀ k, r < k → k ≤ i → w k = od (k - 1)) → (∀ k, i < k → w k = od k) → (∀ q, q ≠ ko + 3 → Mw2 q = M q) → fw_H G s Mw2 H locs → H.size = N → Mw2 ko = some (.inr (4, [.ref (ko + 1), .ref (ko + 2), .ref (ko + 3)])) → Mw2 (ko + 1) = some (fI G 16 (fun j0 => iI (me j0))) → Mw2 (ko + 2) = some (fI G 16 (fun j0 => iI (sz j0))) → Mw2 (ko + 3) = some (fI G 16 (fun j0 => iI (w j0))) → lv_has ls 3 [(0, .ref ko), (1, .int (iI ↑i)), (2, .int (iI ↑r))] → W pG l e ({ frames := 2, cells := 0, slots := 0, locals := 90 } : Room) s m args below meth cG H locs (0) (0) (MQ below (fw_Q G (fw_pv (fun M1 n1 => rnAt G M1 ko me sz (insO me sz od i) ∧ (∀ q, q ≠ ko + 3 → M1 q = M q) ∧ n1 = N))) args s 0 0 (fun q => G.2.2.1 ≤ q)) (F0 m 2 ls []) := by
    intro d2
    induction d2 with
    | zero => intro r w Mw2 H locs ls hd; exact absurd hd (Nat.not_lt_zero _)
    | succ d2 ih2 =>
      intro r w Mw2 H locs ls hd2 ir hP h1 h2 h3 hfr0 hH hz n0 n1 n2 n3 hl
      refine lv_iload_n E.1 E.2.1 dX4_insert_2 rfl (lv_at hl 2 rfl) ?_
      refine fw_if_le (tgt := 48) E dX4_insert_3 (by decide) (by omega) (by omega) (fun c1 => ?_) (fun c1 => ?_)
      · refine lv_aload_n E.1 E.2.1 dX4_insert_48 rfl (lv_at hl 0 rfl) ?_
        refine fw_get E hK hH n0 fc_X4 2 (by decide) ql_RX4_18 rfl rfl dX4_insert_49 ?_
        refine lv_iload_n E.1 E.2.1 dX4_insert_52 rfl (lv_at hl 2 rfl) ?_
        refine lv_iload_n E.1 E.2.1 dX4_insert_53 rfl (lv_at hl 1 rfl) ?_
        refine fw_cSN (As := [.ref (ko + 3), .int (iI ↑r), .int (iI ↑i)]) (rest := []) E hK hH hl fL_X9_put ql_RX4_37 qs_yX9_put (k_put l G _ _ (ko + 3) 16 w ↑r r ↑i n3 (by omega) (by omega) (by omega) (by omega)) rfl rfl (Nat.le_of_ble_eq_true rfl) ⟨Nat.le_of_ble_eq_true rfl, Nat.le_of_ble_eq_true rfl⟩ ⟨Nat.le_of_ble_eq_true rfl, Nat.le_of_ble_eq_true rfl⟩ dX4_insert_54 (fw_kv fun M3 H1 locs1 hp2 hH hz1 => ?_)
        obtain ⟨hM8, hz2⟩ := hp2
        have hfr : ∀ q, q ≠ ko + 3 → M3 q = Mw2 q := fun q h => by rw [hM8]; exact fw_up_ne h
        have n3 : M3 (ko + 3) = some (fI G 16 (fun j0 => iI ((zup w r ↑i) j0))) := by rw [hM8]; exact fw_up_eq
        replace hz := hz2.trans hz
        clear hz1 hz2
        have fr4 := hfr
        replace n0 : M3 ko = some (.inr (4, [.ref (ko + 1), .ref (ko + 2), .ref (ko + 3)])) := (fr4 _ (by omega)).trans n0
        replace n1 : M3 (ko + 1) = some (fI G 16 (fun j0 => iI (me j0))) := (fr4 _ (by omega)).trans n1
        replace n2 : M3 (ko + 2) = some (fI G 16 (fun j0 => iI (sz j0))) := (fr4 _ (by omega)).trans n2
        refine fw_vret E hr hlk hH ?_ dX4_insert_57
        exact ⟨⟨hbo, n0, n1, n2, by rw [← insO_of ir (hP.trans (by rw [show r = 0 by omega]; rfl)) h1 h2 h3]; exact n3⟩, (fun q hq => by rw [fr4 q (by omega)]; exact hfr0 q hq), hz⟩
      · have ho9 := hob (r - 1) (by omega)
        have hw9 := h1 (r - 1) (by omega)
        refine lv_aload_n E.1 E.2.1 dX4_insert_6 rfl (lv_at hl 0 rfl) ?_
        refine lv_iload_n E.1 E.2.1 dX4_insert_7 rfl (lv_at hl 1 rfl) ?_
        refine lv_aload_n E.1 E.2.1 dX4_insert_8 rfl (lv_at hl 0 rfl) ?_
        refine fw_get E hK hH n0 fc_X4 2 (by decide) ql_RX4_18 rfl rfl dX4_insert_9 ?_
        refine lv_iload_n E.1 E.2.1 dX4_insert_12 rfl (lv_at hl 2 rfl) ?_
        refine lv_iconst (v := iI 1) E.1 E.2.1 dX4_insert_13 (by decide) ?_
        refine fw_isub E dX4_insert_14 ?_
        refine fw_cv (y := iI (↑(r - 1) : Int)) (congrArg iI (by omega)) ?_
        refine fw_cSN (As := [.ref (ko + 3), .int (iI (↑(r - 1) : Int))]) (rest := [.int (iI ↑i), .ref ko]) E hK hH hl fL_X9_at ql_RX4_53 qs_yX9_at (k_at l G _ _ (ko + 3) 16 w (↑(r - 1) : Int) (r - 1) n3 (by omega) (by omega) (by omega)) rfl rfl (Nat.le_of_ble_eq_true rfl) ⟨Nat.le_of_ble_eq_true rfl, Nat.le_of_ble_eq_true rfl⟩ ⟨Nat.le_of_ble_eq_true rfl, Nat.le_of_ble_eq_true rfl⟩ dX4_insert_15 (fw_ki fun r7 M6 H1 locs1 hp5 hH hz1 => ?_)
        obtain ⟨rfl, hM9, hz2⟩ := hp5
        replace hz := hz2.trans hz
        clear hz1 hz2
        rw [hM9] at hH
        refine fw_cv (y := iI (↑((od (r - 1)).toNat))) (congrArg iI (by omega)) ?_
        have hbt := btB_01 me sz i ((od (r - 1)).toNat)
        refine fw_cV (As := [.int (iI ↑i), .int (iI (↑((od (r - 1)).toNat)))]) (rest := []) E hK hH hl n0 fc_X4 fL_X4_isBetter ql_RX4_57 qi_yX4_isBetter qv_yX4_isBetter (k_isBetter l G _ _ ko me sz w ⟨hbo, n0, n1, n2, n3⟩ i ((od (r - 1)).toNat) (by omega) (by omega) hmb) rfl rfl (Nat.le_of_ble_eq_true rfl) ⟨Nat.le_of_ble_eq_true rfl, Nat.le_of_ble_eq_true rfl⟩ ⟨Nat.le_of_ble_eq_true rfl, Nat.le_of_ble_eq_true rfl⟩ dX4_insert_18 (fw_ki fun r10 M9 H1 locs1 hp8 hH hz1 => ?_)
        obtain ⟨rfl, hM9, hz2⟩ := hp8
        replace hz := hz2.trans hz
        clear hz1 hz2
        rw [hM9] at hH
        refine fw_if_eq (tgt := 48) E dX4_insert_21 (by decide) (by omega) (by omega) (fun c11 => ?_) (fun c11 => ?_)
        · refine lv_aload_n E.1 E.2.1 dX4_insert_48 rfl (lv_at hl 0 rfl) ?_
          refine fw_get E hK hH n0 fc_X4 2 (by decide) ql_RX4_18 rfl rfl dX4_insert_49 ?_
          refine lv_iload_n E.1 E.2.1 dX4_insert_52 rfl (lv_at hl 2 rfl) ?_
          refine lv_iload_n E.1 E.2.1 dX4_insert_53 rfl (lv_at hl 1 rfl) ?_
          refine fw_cSN (As := [.ref (ko + 3), .int (iI ↑r), .int (iI ↑i)]) (rest := []) E hK hH hl fL_X9_put ql_RX4_37 qs_yX9_put (k_put l G _ _ (ko + 3) 16 w ↑r r ↑i n3 (by omega) (by omega) (by omega) (by omega)) rfl rfl (Nat.le_of_ble_eq_true rfl) ⟨Nat.le_of_ble_eq_true rfl, Nat.le_of_ble_eq_true rfl⟩ ⟨Nat.le_of_ble_eq_true rfl, Nat.le_of_ble_eq_true rfl⟩ dX4_insert_54 (fw_kv fun M13 H1 locs1 hp12 hH hz1 => ?_)
          obtain ⟨hM8, hz2⟩ := hp12
          have hfr : ∀ q, q ≠ ko + 3 → M13 q = Mw2 q := fun q h => by rw [hM8]; exact fw_up_ne h
          have n3 : M13 (ko + 3) = some (fI G 16 (fun j0 => iI ((zup w r ↑i) j0))) := by rw [hM8]; exact fw_up_eq
          replace hz := hz2.trans hz
          clear hz1 hz2
          have fr14 := hfr
          replace n0 : M13 ko = some (.inr (4, [.ref (ko + 1), .ref (ko + 2), .ref (ko + 3)])) := (fr14 _ (by omega)).trans n0
          replace n1 : M13 (ko + 1) = some (fI G 16 (fun j0 => iI (me j0))) := (fr14 _ (by omega)).trans n1
          replace n2 : M13 (ko + 2) = some (fI G 16 (fun j0 => iI (sz j0))) := (fr14 _ (by omega)).trans n2
          refine fw_vret E hr hlk hH ?_ dX4_insert_57
          exact ⟨⟨hbo, n0, n1, n2, by rw [← insO_of ir (hP.trans (insP_stop (by omega) (by omega))) h1 h2 h3]; exact n3⟩, (fun q hq => by rw [fr14 q (by omega)]; exact hfr0 q hq), hz⟩
        · refine lv_aload_n E.1 E.2.1 dX4_insert_24 rfl (lv_at hl 0 rfl) ?_
          refine fw_get E hK hH n0 fc_X4 2 (by decide) ql_RX4_18 rfl rfl dX4_insert_25 ?_
          refine lv_iload_n E.1 E.2.1 dX4_insert_28 rfl (lv_at hl 2 rfl) ?_
          refine lv_aload_n E.1 E.2.1 dX4_insert_29 rfl (lv_at hl 0 rfl) ?_
          refine fw_get E hK hH n0 fc_X4 2 (by decide) ql_RX4_18 rfl rfl dX4_insert_30 ?_
          refine lv_iload_n E.1 E.2.1 dX4_insert_33 rfl (lv_at hl 2 rfl) ?_
          refine lv_iconst (v := iI 1) E.1 E.2.1 dX4_insert_34 (by decide) ?_
          refine fw_isub E dX4_insert_35 ?_
          refine fw_cv (y := iI (↑(r - 1) : Int)) (congrArg iI (by omega)) ?_
          refine fw_cSN (As := [.ref (ko + 3), .int (iI (↑(r - 1) : Int))]) (rest := [.int (iI ↑r), .ref (ko + 3)]) E hK hH hl fL_X9_at ql_RX4_53 qs_yX9_at (k_at l G _ _ (ko + 3) 16 w (↑(r - 1) : Int) (r - 1) n3 (by omega) (by omega) (by omega)) rfl rfl (Nat.le_of_ble_eq_true rfl) ⟨Nat.le_of_ble_eq_true rfl, Nat.le_of_ble_eq_true rfl⟩ ⟨Nat.le_of_ble_eq_true rfl, Nat.le_of_ble_eq_true rfl⟩ dX4_insert_36 (fw_ki fun r17 M16 H1 locs1 hp15 hH hz1 => ?_)
          obtain ⟨rfl, hM9, hz2⟩ := hp15
          replace hz := hz2.trans hz
          clear hz1 hz2
          rw [hM9] at hH
          refine fw_cv (y := iI (od (r - 1))) (congrArg iI hw9) ?_
          refine fw_cSN (As := [.ref (ko + 3), .int (iI ↑r), .int (iI (od (r - 1)))]) (rest := []) E hK hH hl fL_X9_put ql_RX4_37 qs_yX9_put (k_put l G _ _ (ko + 3) 16 w ↑r r (od (r - 1)) n3 (by omega) (by omega) (by omega) (by omega)) rfl rfl (Nat.le_of_ble_eq_true rfl) ⟨Nat.le_of_ble_eq_true rfl, Nat.le_of_ble_eq_true rfl⟩ ⟨Nat.le_of_ble_eq_true rfl, Nat.le_of_ble_eq_true rfl⟩ dX4_insert_39 (fw_kv fun M19 H1 locs1 hp18 hH hz1 => ?_)
          obtain ⟨hM8, hz2⟩ := hp18
          have hfr : ∀ q, q ≠ ko + 3 → M19 q = Mw2 q := fun q h => by rw [hM8]; exact fw_up_ne h
          have n3 : M19 (ko + 3) = some (fI G 16 (fun j0 => iI ((zup w r (od (r - 1))) j0))) := by rw [hM8]; exact fw_up_eq
          replace hz := hz2.trans hz
          clear hz1 hz2
          have fr20 := hfr
          replace n0 : M19 ko = some (.inr (4, [.ref (ko + 1), .ref (ko + 2), .ref (ko + 3)])) := (fr20 _ (by omega)).trans n0
          replace n1 : M19 (ko + 1) = some (fI G 16 (fun j0 => iI (me j0))) := (fr20 _ (by omega)).trans n1
          replace n2 : M19 (ko + 2) = some (fI G 16 (fun j0 => iI (sz j0))) := (fr20 _ (by omega)).trans n2
          refine lv_iinc (v := iI (↑(r - 1))) (lv' := [(2, .int (iI (↑(r - 1)))), (0, .ref ko), (1, .int (iI ↑i))]) E.1 E.2.1 dX4_insert_42 hl (k := 2) rfl (iI_inc (congrArg iI (by omega))) (by decide) rfl (fun ls hl => ?_)
          refine lv_goto (tgt := 2) E.1 E.2.1 dX4_insert_45 (by decide) ?_
          exact ih2 (r - 1) (zup w r (od (r - 1))) _ _ _ _ (by omega) (by omega) (hP.trans (insP_go (by omega) (by omega))) (fun k g => by rw [zup_ne (by omega)]; exact h1 k (by omega)) (fun k g1 g2 => by
              by_cases hk9 : k = r
              · rw [hk9, zup_eq]
              · rw [zup_ne hk9]; exact h2 k (by omega) g2) (fun k g => by rw [zup_ne (by omega)]; exact h3 k g) (fun q hq => by rw [fr20 q (by omega)]; exact hfr0 q hq) hH (by omega) n0 n1 n2 n3 (lv_sub hl [1, 2, 0] rfl)
  exact loop2_1 (i + 1) i od _ _ _ _ (Nat.lt_succ_self _) (Nat.le_refl _) rfl (fun _ _ => rfl) (fun k g1 g2 => absurd g1 (by omega)) (fun _ _ => rfl) (fun _ _ => rfl) hH (by omega) n0 n1 n2 n3 (lv_sub hl [1, 2, 0] rfl)

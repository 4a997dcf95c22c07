set_option maxHeartbeats 1000000 in
theorem k_gcopy (l : Launch) (G : fw_G) (M : fw_M) (N : Nat) (go o cn : Nat) (lk gn mi : Int) (T : Nat → aT) (hG : gcW G M go o lk cn gn mi T) (hTk : ∀ k, k < cn → aOK (T k)) (to o2 cn2 : Nat) (lk2 gn2 mi2 : Int) (T2 : Nat → aT) (hX : gcW G M to o2 lk2 cn2 gn2 mi2 T2) (s1 : go + 170 ≤ to) : fMet l yX2_copyFrom cX2_copyFrom 3 none 3 110 0 0 G M N [.ref to, .ref go] (fw_pv (fun M1 n1 => gcW G M1 to o2 lk cn gn mi T ∧ (∀ q, (q < to ∨ to + 10 ≤ q) ∧ (q < to + 10 + 80 * o2 ∨ to + 90 + 80 * o2 ≤ q) → M1 q = M q) ∧ n1 = N)) := by
  refine fw_met RX2 rfl (by decide +kernel) (Nat.le_of_ble_eq_true rfl) ?_
  intro pG e s m args below meth cG ls E hr hlk hnm hK hH hz hl
  obtain ⟨hgb, ho1, hcn⟩ := hG.o1
  obtain ⟨x0b, x0, ⟨tl2, xd⟩, xr, xr2, _, xa, ho2, hcn2⟩ := hX
  have xt : gtW G M (to + 10 + 80 * o2) 0 T := ⟨fun j hj => absurd hj (Nat.not_lt_zero j), xa, Nat.zero_le _⟩
  refine lv_aload_n E.1 E.2.1 dX2_copyFrom_0 rfl (lv_at hl 0 rfl) ?_
  refine fw_get E hK hH x0 fc_X2 0 (by decide) ql_RX2_12 rfl rfl dX2_copyFrom_1 ?_
  refine lv_aload_n E.1 E.2.1 dX2_copyFrom_4 rfl (lv_at hl 1 rfl) ?_
  refine fw_get E hK hH hG.2.1 fc_X2 0 (by decide) ql_RX2_12 rfl rfl dX2_copyFrom_5 ?_
  obtain ⟨tl11, hD11⟩ := hG.2.2.1
  refine fw_cV (As := [.ref (go + 1)]) (rest := []) E hK hH hl xd.2.1 fc_X1 fL_X1_copyFrom ql_RX2_58 qi_yX1_copyFrom qv_yX1_copyFrom (k_dcopy l G _ _ (to + 1) (go + 1) tl2 tl11 lk2 lk xd hD11 (by omega)) rfl rfl (Nat.le_of_ble_eq_true rfl) ⟨Nat.le_of_ble_eq_true rfl, Nat.le_of_ble_eq_true rfl⟩ ⟨Nat.le_of_ble_eq_true rfl, Nat.le_of_ble_eq_true rfl⟩ dX2_copyFrom_8 (fw_kv fun M2 H1 locs1 hp1 hH hz1 => ?_)
  obtain ⟨xd11, hfr, hz2⟩ := hp1
  replace hz := hz2.trans hz
  clear hz1 hz2
  have fr3 := hfr
  replace x0 : M2 to = some (.inr (2, [.ref (to + 1), .ref (to + 3), .ref (to + 8 + o2), .ref (to + 9 - o2), .int (iI ↑cn2), .int (iI gn2), .int (iI mi2)])) := (fr3 _ (by omega)).trans x0
  replace xr := gvRow.fr xr (fun q h1 h2 => fr3 q (by omega))
  replace xr2 := gvRow.fr xr2 (fun q h1 h2 => fr3 q (by omega))
  replace xt := gtW.fr xt (fun q h1 h2 => fr3 q (by omega))
  replace hG := gcW.fr hG (fun q h1 h2 => fr3 q (by omega))
  refine lv_iconst (v := iI 0) E.1 E.2.1 dX2_copyFrom_11 (by decide) ?_
  refine lv_istore_n (lv' := [(2, .int (iI 0)), (0, .ref to), (1, .ref go)]) E.1 E.2.1 dX2_copyFrom_12 rfl hl (by decide) rfl (fun ls hl => ?_)
  have hfr0 : ∀ q, (q < to ∨ to + 10 ≤ q) ∧ (q < to + 10 + 80 * o2 ∨ to + 90 + 80 * o2 ≤ q) → M2 q = M q := (fun q hq => by rw [fr3 q (by omega)])
  have loop13_1 : ∀ (d13 : Nat) (i : Nat) (Mw13 : fw_M) (H : Heap) (locs : List Loc) (ls : Array Slot), cn - i < d13 → i ≤ cn → (∀ q, (q < to ∨ to + 10 ≤ q) ∧ (q < to + 10 + 80 * o2 ∨ to + 90 + 80 * o2 ≤ q) → Mw13 q = M q) → fw_H G s Mw13 H locs → H.size = N → Mw13 to = some (.inr (2, [.ref (to + 1), .ref (to + 3), .ref (to + 8 + o2), .ref (to + 9 - o2), .int (iI ↑cn2), .int (iI gn2), .int (iI mi2)])) → drAt G Mw13 (to + 1) tl2 0 lk → gvRow G Mw13 (to + 8 + o2) (to + 10 + 80 * o2) → gvRow G Mw13 (to + 9 - o2) (to + 90 - 80 * o2) → gtW G Mw13 (to + 10 + 80 * o2) i T → gcW G Mw13 go o lk cn gn mi T → lv_has ls 3 [(0, .ref to), (1, .ref go), (2, .int (iI ↑i))] → W pG l e ({ frames := 3, cells := 0, slots := 0, locals := 110 } : Room) s m args below meth cG H locs (0) (0) (MQ below (fw_Q G (fw_pv (fun M1 n1 => gcW G M1 to o2 lk cn gn mi T ∧ (∀ q, (q < to ∨ to + 10 ≤ q) ∧ (q < to + 10 + 80 * o2 ∨ to + 90 + 80 * o2 ≤ q) → M1 q = M q) ∧ n1 = N))) args s 0 0 (fun q => G.2.2.1 ≤ q)) (F0 m 13 ls []) := by
    intro d13
    induction d13 with
    | zero => intro i Mw13 H locs ls hd; exact absurd hd (Nat.not_lt_zero _)
    | succ d13 ih13 =>
      intro i Mw13 H locs ls hd13 ii hfr0 hH hz x0 xd xr xr2 xt hG hl
      refine lv_iload_n E.1 E.2.1 dX2_copyFrom_13 rfl (lv_at hl 2 rfl) ?_
      refine lv_aload_n E.1 E.2.1 dX2_copyFrom_14 rfl (lv_at hl 1 rfl) ?_
      refine fw_get E hK hH hG.2.1 fc_X2 4 (by decide) ql_RX2_36 rfl rfl dX2_copyFrom_15 ?_
      refine fw_icmp_ge (tgt := 40) E dX2_copyFrom_18 (by decide) (by omega) (by omega) (by omega) (by omega) (fun c4 => ?_) (fun c4 => ?_)
      · refine lv_aload_n E.1 E.2.1 dX2_copyFrom_40 rfl (lv_at hl 0 rfl) ?_
        refine lv_aload_n E.1 E.2.1 dX2_copyFrom_41 rfl (lv_at hl 1 rfl) ?_
        refine fw_get E hK hH hG.2.1 fc_X2 4 (by decide) ql_RX2_36 rfl rfl dX2_copyFrom_42 ?_
        refine fw_put E hK hH (by omega) x0 fc_X2 4 (by decide) ql_RX2_36 rfl rfl rfl rfl (Nat.le_of_ble_eq_true rfl) dX2_copyFrom_45 (fun H1 locs1 hH hz1 => ?_)
        replace hz := hz1.trans hz; clear hz1
        obtain ⟨M5, hM6⟩ : ∃ MX, MX = fw_up Mw13 to (.inr (2, [.ref (to + 1), .ref (to + 3), .ref (to + 8 + o2), .ref (to + 9 - o2), .int (iI ↑cn), .int (iI gn2), .int (iI mi2)])) := ⟨_, rfl⟩
        replace hH := fw_H.nm hM6 hH
        have fr7 : ∀ q, q ≠ to → M5 q = Mw13 q := fun q h => by rw [hM6]; exact fw_up_ne h
        replace xd := drAt.fr xd (fun q h1 h2 => fr7 q (by omega))
        replace xr := gvRow.fr xr (fun q h1 h2 => fr7 q (by omega))
        replace xr2 := gvRow.fr xr2 (fun q h1 h2 => fr7 q (by omega))
        replace xt := gtW.fr xt (fun q h1 h2 => fr7 q (by omega))
        replace hG := gcW.fr hG (fun q h1 h2 => fr7 q (by omega))
        have x0 : M5 to = some (.inr (2, [.ref (to + 1), .ref (to + 3), .ref (to + 8 + o2), .ref (to + 9 - o2), .int (iI ↑cn), .int (iI gn2), .int (iI mi2)])) := by rw [hM6]; exact fw_up_eq
        refine lv_aload_n E.1 E.2.1 dX2_copyFrom_48 rfl (lv_at hl 0 rfl) ?_
        refine lv_aload_n E.1 E.2.1 dX2_copyFrom_49 rfl (lv_at hl 1 rfl) ?_
        refine fw_get E hK hH hG.2.1 fc_X2 5 (by decide) ql_RX2_55 rfl rfl dX2_copyFrom_50 ?_
        refine fw_put E hK hH (by omega) x0 fc_X2 5 (by decide) ql_RX2_55 rfl rfl rfl rfl (Nat.le_of_ble_eq_true rfl) dX2_copyFrom_53 (fun H1 locs1 hH hz1 => ?_)
        replace hz := hz1.trans hz; clear hz1
        obtain ⟨M8, hM9⟩ : ∃ MX, MX = fw_up M5 to (.inr (2, [.ref (to + 1), .ref (to + 3), .ref (to + 8 + o2), .ref (to + 9 - o2), .int (iI ↑cn), .int (iI gn), .int (iI mi2)])) := ⟨_, rfl⟩
        replace hH := fw_H.nm hM9 hH
        have fr10 : ∀ q, q ≠ to → M8 q = M5 q := fun q h => by rw [hM9]; exact fw_up_ne h
        replace xd := drAt.fr xd (fun q h1 h2 => fr10 q (by omega))
        replace xr := gvRow.fr xr (fun q h1 h2 => fr10 q (by omega))
        replace xr2 := gvRow.fr xr2 (fun q h1 h2 => fr10 q (by omega))
        replace xt := gtW.fr xt (fun q h1 h2 => fr10 q (by omega))
        replace hG := gcW.fr hG (fun q h1 h2 => fr10 q (by omega))
        have x0 : M8 to = some (.inr (2, [.ref (to + 1), .ref (to + 3), .ref (to + 8 + o2), .ref (to + 9 - o2), .int (iI ↑cn), .int (iI gn), .int (iI mi2)])) := by rw [hM9]; exact fw_up_eq
        refine lv_aload_n E.1 E.2.1 dX2_copyFrom_56 rfl (lv_at hl 0 rfl) ?_
        refine lv_aload_n E.1 E.2.1 dX2_copyFrom_57 rfl (lv_at hl 1 rfl) ?_
        refine fw_get E hK hH hG.2.1 fc_X2 6 (by decide) ql_RX2_61 rfl rfl dX2_copyFrom_58 ?_
        refine fw_put E hK hH (by omega) x0 fc_X2 6 (by decide) ql_RX2_61 rfl rfl rfl rfl (Nat.le_of_ble_eq_true rfl) dX2_copyFrom_61 (fun H1 locs1 hH hz1 => ?_)
        replace hz := hz1.trans hz; clear hz1
        obtain ⟨M11, hM12⟩ : ∃ MX, MX = fw_up M8 to (.inr (2, [.ref (to + 1), .ref (to + 3), .ref (to + 8 + o2), .ref (to + 9 - o2), .int (iI ↑cn), .int (iI gn), .int (iI mi)])) := ⟨_, rfl⟩
        replace hH := fw_H.nm hM12 hH
        have fr13 : ∀ q, q ≠ to → M11 q = M8 q := fun q h => by rw [hM12]; exact fw_up_ne h
        replace xd := drAt.fr xd (fun q h1 h2 => fr13 q (by omega))
        replace xr := gvRow.fr xr (fun q h1 h2 => fr13 q (by omega))
        replace xr2 := gvRow.fr xr2 (fun q h1 h2 => fr13 q (by omega))
        replace xt := gtW.fr xt (fun q h1 h2 => fr13 q (by omega))
        replace hG := gcW.fr hG (fun q h1 h2 => fr13 q (by omega))
        have x0 : M11 to = some (.inr (2, [.ref (to + 1), .ref (to + 3), .ref (to + 8 + o2), .ref (to + 9 - o2), .int (iI ↑cn), .int (iI gn), .int (iI mi)])) := by rw [hM12]; exact fw_up_eq
        refine fw_vret E hr hlk hH ?_ dX2_copyFrom_64
        have e9 : i = cn := by omega
        rw [e9] at xt
        exact ⟨⟨x0b, x0, ⟨_, xd⟩, xr, xr2, xt.1, xt.2.1, ho2, hcn⟩, (fun q hq => by rw [fr13 q (by omega), fr10 q (by omega), fr7 q (by omega)]; exact hfr0 q hq), hz⟩
      · have hti := (hTk i (by omega)).1
        refine lv_aload_n E.1 E.2.1 dX2_copyFrom_21 rfl (lv_at hl 0 rfl) ?_
        refine lv_iload_n E.1 E.2.1 dX2_copyFrom_22 rfl (lv_at hl 2 rfl) ?_
        obtain ⟨f84, hw84, hf84⟩ := id xr
        refine fw_cV (As := [.int (iI ↑i)]) (rest := []) E hK hH hl x0 fc_X2 fL_X2_tree ql_RX2_40 qi_yX2_tree qv_yX2_tree (k_tree l G _ _ to (to + 8 + o2) (to + 9 - o2) i (to + 10 + 80 * o2 + 5 * i) ↑cn2 gn2 mi2 f84 x0 hw84 (by omega) (hf84 i (by omega))) rfl rfl (Nat.le_of_ble_eq_true rfl) ⟨Nat.le_of_ble_eq_true rfl, Nat.le_of_ble_eq_true rfl⟩ ⟨Nat.le_of_ble_eq_true rfl, Nat.le_of_ble_eq_true rfl⟩ dX2_copyFrom_23 (fw_kr fun r16 M15 H1 locs1 hp14 hH hz1 => ?_)
        obtain ⟨rfl, hM9, hz2⟩ := hp14
        have hya84 := xt.2.1 i (by omega)
        replace hz := hz2.trans hz
        clear hz1 hz2
        rw [hM9] at hH
        refine lv_aload_n E.1 E.2.1 dX2_copyFrom_26 rfl (lv_at hl 1 rfl) ?_
        refine lv_iload_n E.1 E.2.1 dX2_copyFrom_27 rfl (lv_at hl 2 rfl) ?_
        refine fw_cV (As := [.int (iI ↑i)]) (rest := [.ref (to + 10 + 80 * o2 + 5 * i)]) E hK hH hl hG.2.1 fc_X2 fL_X2_tree ql_RX2_40 qi_yX2_tree qv_yX2_tree (k_treeG l G _ _ go o cn lk gn mi T hG i (by omega)) rfl rfl (Nat.le_of_ble_eq_true rfl) ⟨Nat.le_of_ble_eq_true rfl, Nat.le_of_ble_eq_true rfl⟩ ⟨Nat.le_of_ble_eq_true rfl, Nat.le_of_ble_eq_true rfl⟩ dX2_copyFrom_28 (fw_kr fun r19 M18 H1 locs1 hp17 hH hz1 => ?_)
        obtain ⟨rfl, hM9, hz2⟩ := hp17
        have hT93 := hG.tr (j := i) (by omega)
        replace hz := hz2.trans hz
        clear hz1 hz2
        rw [hM9] at hH
        obtain ⟨_, _, _, _, ua99, ub99, hob99, _⟩ := id hya84
        refine fw_cV (As := [.ref (go + 10 + 80 * o + 5 * i)]) (rest := []) E hK hH hl hob99.2.1 fc_X8 fL_X8_copyFrom ql_RX2_44 qi_yX8_copyFrom qv_yX8_copyFrom (k_copyG l G _ _ (to + 10 + 80 * o2 + 5 * i) (go + 10 + 80 * o + 5 * i) (T i) hya84 hT93 hti (by omega)) rfl rfl (Nat.le_of_ble_eq_true rfl) ⟨Nat.le_of_ble_eq_true rfl, Nat.le_of_ble_eq_true rfl⟩ ⟨Nat.le_of_ble_eq_true rfl, Nat.le_of_ble_eq_true rfl⟩ dX2_copyFrom_31 (fw_kv fun M21 H1 locs1 hp20 hH hz1 => ?_)
        obtain ⟨hC99, hfr, hz2⟩ := hp20
        have xt100 := xt.set (k := i) (by omega) rfl hC99 (fun q q1 q2 q3 => hfr q (by omega))
        replace hz := hz2.trans hz
        clear hz1 hz2
        have fr22 := hfr
        replace x0 : M21 to = some (.inr (2, [.ref (to + 1), .ref (to + 3), .ref (to + 8 + o2), .ref (to + 9 - o2), .int (iI ↑cn2), .int (iI gn2), .int (iI mi2)])) := (fr22 _ (by omega)).trans x0
        replace xd := drAt.fr xd (fun q h1 h2 => fr22 q (by omega))
        replace xr := gvRow.fr xr (fun q h1 h2 => fr22 q (by omega))
        replace xr2 := gvRow.fr xr2 (fun q h1 h2 => fr22 q (by omega))
        replace hG := gcW.fr hG (fun q h1 h2 => fr22 q (by omega))
        replace hT93 := aTw.fr hT93 (fun q h1 h2 => fr22 q (by omega))
        refine lv_iinc (v := iI (↑i + 1)) (lv' := [(2, .int (iI (↑i + 1))), (0, .ref to), (1, .ref go)]) E.1 E.2.1 dX2_copyFrom_34 hl (k := 2) rfl (iI_inc rfl) (by decide) rfl (fun ls hl => ?_)
        refine lv_goto (tgt := 13) E.1 E.2.1 dX2_copyFrom_37 (by decide) ?_
        exact ih13 (i + 1) _ _ _ _ (by omega) (by omega) (fun q hq => by rw [fr22 q (by omega)]; exact hfr0 q hq) hH (by omega) x0 xd xr xr2 xt100 hG (lv_sub hl [1, 2, 0] rfl)
  exact loop13_1 (cn - 0 + 1) 0 _ _ _ _ (Nat.lt_succ_self _) (Nat.zero_le _) hfr0 hH (by omega) x0 xd11 xr xr2 xt hG (lv_sub hl [1, 2, 0] rfl)

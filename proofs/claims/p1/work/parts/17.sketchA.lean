theorem k_write0 (l : Launch) (G : fw_G) (M : fw_M) (N : Nat) (t : Nat) (hbt : G.2.2.1 ≤ t) (t0 : M t = some (.inr (8, [.ref (t + 1), .ref (t + 2), .ref (t + 3), .ref (t + 4), .int (iI 0), .int (iI 0)]))) (t1 : M (t + 1) = some (fI G 40 (fun j0 => iI (z0 j0)))) (t2 : M (t + 2) = some (fI G 40 (fun j0 => iI (z0 j0)))) (cd v : Int) (hcd : -2147483648 ≤ cd ∧ cd < 2147483648) (hv : -2147483648 ≤ v ∧ v < 2147483648) : fMet l yX8_write cX8_write 4 none 1 30 0 0 G M N [.ref t, .int (iI 0), .int (iI cd), .int (iI v)] (fw_pv (fun M1 n1 => (M1 t = M t ∧ ∀ q, q < t ∨ t + 5 ≤ q → M1 q = M q) ∧ n1 = N)) := by
  refine fw_met RX8 rfl (by decide +kernel) (Nat.le_of_ble_eq_true rfl) ?_
  intro p e s m args below meth c ls E hr hlk hnm hK hH hz hl
  refine lv_aload_n E.1 E.2.1 dX8_write_0 rfl (lv_at hl 0 rfl) ?_
  refine fw_get E hK hH t0 fc_X8 0 (by decide) ql_RX8_9 rfl rfl dX8_write_1 ?_
  refine lv_iload_n E.1 E.2.1 dX8_write_4 rfl (lv_at hl 1 rfl) ?_
  refine lv_iload_n E.1 E.2.1 dX8_write_5 rfl (lv_at hl 2 rfl) ?_
  refine fw_cSN (As := [.ref (t + 1), .int (iI 0), .int (iI cd)]) (rest := []) E hK hH hl fL_X9_put ql_RX8_55 qs_yX9_put (k_put l G _ _ (t + 1) 40 z0 0 0 cd t1 (by omega) (by omega) (by omega) (by omega)) rfl rfl (Nat.le_of_ble_eq_true rfl) ⟨Nat.le_of_ble_eq_true rfl, Nat.le_of_ble_eq_true rfl⟩ ⟨Nat.le_of_ble_eq_true rfl, Nat.le_of_ble_eq_true rfl⟩ dX8_write_6 (fw_kv fun M12 H1 locs1 hp11 hH hz1 => ?_)
  obtain ⟨hM8, hz2⟩ := hp11
  have hfr : ∀ q, q ≠ t + 1 → M12 q = M q := fun q h => by rw [hM8]; exact fw_up_ne h
  have t1 : M12 (t + 1) = some (fI G 40 (fun j0 => iI ((zup z0 0 cd) j0))) := by rw [hM8]; exact fw_up_eq
  replace hz := hz2.trans hz
  clear hz1 hz2
  have fr13 := hfr
  replace t0 : M12 t = some (.inr (8, [.ref (t + 1), .ref (t + 2), .ref (t + 3), .ref (t + 4), .int (iI 0), .int (iI 0)])) := (fr13 _ (by omega)).trans t0
  replace t2 : M12 (t + 2) = some (fI G 40 (fun j0 => iI (z0 j0))) := (fr13 _ (by omega)).trans t2
  refine lv_aload_n E.1 E.2.1 dX8_write_9 rfl (lv_at hl 0 rfl) ?_
  refine fw_get E hK hH t0 fc_X8 1 (by decide) ql_RX8_15 rfl rfl dX8_write_10 ?_
  refine lv_iload_n E.1 E.2.1 dX8_write_13 rfl (lv_at hl 1 rfl) ?_
  refine lv_iload_n E.1 E.2.1 dX8_write_14 rfl (lv_at hl 2 rfl) ?_
  refine lv_iconst (v := iI 1) E.1 E.2.1 dX8_write_15 (by decide) ?_
  refine fw_icmp_gt (tgt := 23) E dX8_write_16 (by decide) (by omega) (by omega) (by omega) (by omega) (fun c14 => ?_) (fun c14 => ?_)
  · refine lv_iconst (v := iI 0) E.1 E.2.1 dX8_write_23 (by decide) ?_
    refine fw_cSN (As := [.ref (t + 2), .int (iI 0), .int (iI 0)]) (rest := []) E hK hH hl fL_X9_put ql_RX8_55 qs_yX9_put (k_put l G _ _ (t + 2) 40 z0 0 0 0 t2 (by omega) (by omega) (by omega) (by omega)) rfl rfl (Nat.le_of_ble_eq_true rfl) ⟨Nat.le_of_ble_eq_true rfl, Nat.le_of_ble_eq_true rfl⟩ ⟨Nat.le_of_ble_eq_true rfl, Nat.le_of_ble_eq_true rfl⟩ dX8_write_24 (fw_kv fun M16 H1 locs1 hp15 hH hz1 => ?_)
    obtain ⟨hM8, hz2⟩ := hp15
    have hfr : ∀ q, q ≠ t + 2 → M16 q = M12 q := fun q h => by rw [hM8]; exact fw_up_ne h
    have t2 : M16 (t + 2) = some (fI G 40 (fun j0 => iI ((zup z0 0 0) j0))) := by rw [hM8]; exact fw_up_eq
    replace hz := hz2.trans hz
    clear hz1 hz2
    have fr17 := hfr
    replace t0 : M16 t = some (.inr (8, [.ref (t + 1), .ref (t + 2), .ref (t + 3), .ref (t + 4), .int (iI 0), .int (iI 0)])) := (fr17 _ (by omega)).trans t0
    replace t1 : M16 (t + 1) = some (fI G 40 (fun j0 => iI ((zup z0 0 cd) j0))) := (fr17 _ (by omega)).trans t1
    refine fw_vret E hr hlk hH ?_ dX8_write_27
    exact ⟨⟨by rw [fr17 t (by omega), fr13 t (by omega)], (fun q hq => by rw [fr17 q (by omega), fr13 q (by omega)])⟩, hz⟩
  · refine lv_iload_n E.1 E.2.1 dX8_write_19 rfl (lv_at hl 3 rfl) ?_
    refine lv_goto (tgt := 24) E.1 E.2.1 dX8_write_20 (by decide) ?_
    refine fw_cSN (As := [.ref (t + 2), .int (iI 0), .int (iI v)]) (rest := []) E hK hH hl fL_X9_put ql_RX8_55 qs_yX9_put (k_put l G _ _ (t + 2) 40 z0 0 0 v t2 (by omega) (by omega) (by omega) (by omega)) rfl rfl (Nat.le_of_ble_eq_true rfl) ⟨Nat.le_of_ble_eq_true rfl, Nat.le_of_ble_eq_true rfl⟩ ⟨Nat.le_of_ble_eq_true rfl, Nat.le_of_ble_eq_true rfl⟩ dX8_write_24 (fw_kv fun M19 H1 locs1 hp18 hH hz1 => ?_)
    obtain ⟨hM8, hz2⟩ := hp18
    have hfr : ∀ q, q ≠ t + 2 → M19 q = M12 q := fun q h => by rw [hM8]; exact fw_up_ne h
    have t2 : M19 (t + 2) = some (fI G 40 (fun j0 => iI ((zup z0 0 v) j0))) := by rw [hM8]; exact fw_up_eq
    replace hz := hz2.trans hz
    clear hz1 hz2
    have fr20 := hfr
    replace t0 : M19 t = some (.inr (8, [.ref (t + 1), .ref (t + 2), .ref (t + 3), .ref (t + 4), .int (iI 0), .int (iI 0)])) := (fr20 _ (by omega)).trans t0
    replace t1 : M19 (t + 1) = some (fI G 40 (fun j0 => iI ((zup z0 0 cd) j0))) := (fr20 _ (by omega)).trans t1
    refine fw_vret E hr hlk hH ?_ dX8_write_27
    exact ⟨⟨by rw [fr20 t (by omega), fr13 t (by omega)], (fun q hq => by rw [fr20 q (by omega), fr13 q (by omega)])⟩, hz⟩
theorem k_append0 (l : Launch) (G : fw_G) (M : fw_M) (N : Nat) (t : Nat) (hbt : G.2.2.1 ≤ t) (t0 : M t = some (.inr (8, [.ref (t + 1), .ref (t + 2), .ref (t + 3), .ref (t + 4), .int (iI 0), .int (iI 0)]))) (t1 : M (t + 1) = some (fI G 40 (fun j0 => iI (z0 j0)))) (t2 : M (t + 2) = some (fI G 40 (fun j0 => iI (z0 j0)))) (cd v : Int) (hcd : -2147483648 ≤ cd ∧ cd < 2147483648) (hv : -2147483648 ≤ v ∧ v < 2147483648) : fMet l yX8_append cX8_append 3 none 2 60 0 0 G M N [.ref t, .int (iI cd), .int (iI v)] (fw_pv (fun M1 n1 => (∀ q, q < t ∨ t + 5 ≤ q → M1 q = M q) ∧ n1 = N)) := by
  refine fw_met RX8 rfl (by decide +kernel) (Nat.le_of_ble_eq_true rfl) ?_
  intro p e s m args below meth c ls E hr hlk hnm hK hH hz hl
  refine lv_aload_n E.1 E.2.1 dX8_append_0 rfl (lv_at hl 0 rfl) ?_
  refine fw_get E hK hH t0 fc_X8 4 (by decide) ql_RX8_41 rfl rfl dX8_append_1 ?_
  refine lv_bipush (v := iI 40) E.1 E.2.1 dX8_append_4 (by decide) ?_
  refine fw_icmp_ge (tgt := 29) E dX8_append_6 (by decide) (by omega) (by omega) (by omega) (by omega) (fun c8 => ?_) (fun c8 => ?_)
  · exact absurd c8 (by omega)
  · refine lv_aload_n E.1 E.2.1 dX8_append_9 rfl (lv_at hl 0 rfl) ?_
    refine lv_aload_n E.1 E.2.1 dX8_append_10 rfl (lv_at hl 0 rfl) ?_
    refine fw_get E hK hH t0 fc_X8 4 (by decide) ql_RX8_41 rfl rfl dX8_append_11 ?_
    refine lv_iload_n E.1 E.2.1 dX8_append_14 rfl (lv_at hl 1 rfl) ?_
    refine lv_iload_n E.1 E.2.1 dX8_append_15 rfl (lv_at hl 2 rfl) ?_
    refine fw_cV (As := [.int (iI 0), .int (iI cd), .int (iI v)]) (rest := []) E hK hH hl t0 fc_X8 fL_X8_write ql_RX8_59 qi_yX8_write qv_yX8_write (k_write0 l G _ _ t (by omega) t0 t1 t2 cd v (by omega) (by omega)) rfl rfl (Nat.le_of_ble_eq_true rfl) ⟨Nat.le_of_ble_eq_true rfl, Nat.le_of_ble_eq_true rfl⟩ ⟨Nat.le_of_ble_eq_true rfl, Nat.le_of_ble_eq_true rfl⟩ dX8_append_16 (fw_kv fun M10 H1 locs1 hp9 hH hz1 => ?_)
    obtain ⟨⟨hk, hfr⟩, hz2⟩ := hp9
    replace t0 := hk.trans t0
    replace hz := hz2.trans hz
    clear hz1 hz2
    have fr11 := hfr
    refine lv_aload_n E.1 E.2.1 dX8_append_19 rfl (lv_at hl 0 rfl) ?_
    refine lv_dup E.1 E.2.1 dX8_append_20 rfl ?_
    refine fw_get E hK hH t0 fc_X8 4 (by decide) ql_RX8_41 rfl rfl dX8_append_21 ?_
    refine lv_iconst (v := iI 1) E.1 E.2.1 dX8_append_24 (by decide) ?_
    refine fw_iadd E dX8_append_25 ?_
    refine fw_cv (y := iI (1)) (by decide) ?_
    refine fw_put E hK hH (by omega) t0 fc_X8 4 (by decide) ql_RX8_41 rfl rfl rfl rfl (Nat.le_of_ble_eq_true rfl) dX8_append_26 (fun H1 locs1 hH hz1 => ?_)
    replace hz := hz1.trans hz; clear hz1
    obtain ⟨M12, hM13⟩ : ∃ M9, M9 = fw_up M10 t (.inr (8, [.ref (t + 1), .ref (t + 2), .ref (t + 3), .ref (t + 4), .int (iI (1)), .int (iI 0)])) := ⟨_, rfl⟩
    replace hH := fw_H.nm hM13 hH
    have fr14 : ∀ q, q ≠ t → M12 q = M10 q := fun q h => by rw [hM13]; exact fw_up_ne h
    have t0 : M12 t = some (.inr (8, [.ref (t + 1), .ref (t + 2), .ref (t + 3), .ref (t + 4), .int (iI (1)), .int (iI 0)])) := by rw [hM13]; exact fw_up_eq
    refine fw_vret E hr hlk hH ?_ dX8_append_29
    exact ⟨(fun q hq => by rw [fr14 q (by omega), fr11 q (by omega)]), hz⟩
theorem k_accepts0 (l : Launch) (G : fw_G) (M : fw_M) (N : Nat) (a : Nat) (hB : bn0 G M a) (cd : Int) (hc0 : 0 ≤ cd) (hc1 : cd ≤ 13) : fMet l yX7_accepts cX7_accepts 7 (some .boolean) 1 30 0 0 G M N [.ref (a + 1), .int (iI cd)] (fw_pi (fun r M1 n1 => ∃ b : Int, r = iI b ∧ ((b = 1 ∧ cd ≤ 8) ∨ (b = 0 ∧ 8 < cd)) ∧ M1 = M ∧ n1 = N)) := by
  refine fw_met RX7 rfl (by decide +kernel) (Nat.le_of_ble_eq_true rfl) ?_
  intro p e s m args below meth c ls E hr hlk hnm hK hH hz hl
  obtain ⟨hb, _, c1, _, _, _, _, _, c7, c8, _, _, _, _, _, _, _, _, _, _⟩ := hB.c
  refine lv_aload_n E.1 E.2.1 dX7_accepts_0 rfl (lv_at hl 0 rfl) ?_
  refine fw_get E hK hH c1 fc_X7 3 (by decide) ql_RX7_32 rfl rfl dX7_accepts_1 ?_
  refine lv_iconst (v := iI 1) E.1 E.2.1 dX7_accepts_4 (by decide) ?_
  refine fw_isub E dX7_accepts_5 ?_
  refine fw_cv (y := iI (0)) (by decide) ?_
  refine lv_istore_n (lv' := [(2, .int (iI (0))), (0, .ref (a + 1)), (1, .int (iI cd))]) E.1 E.2.1 dX7_accepts_6 rfl hl (by decide) rfl (fun ls hl => ?_)
  refine lv_iload_n E.1 E.2.1 dX7_accepts_7 rfl (lv_at hl 0 rfl) ?_
  refine fw_if_lt (tgt := 36) E dX7_accepts_8 (by decide) (by omega) (by omega) (fun c37 => ?_) (fun c37 => ?_)
  · exact absurd c37 (by omega)
  · refine lv_aload_n E.1 E.2.1 dX7_accepts_11 rfl (lv_at hl 1 rfl) ?_
    refine fw_get E hK hH c1 fc_X7 1 (by decide) ql_RX7_18 rfl rfl dX7_accepts_12 ?_
    refine lv_iload_n E.1 E.2.1 dX7_accepts_15 rfl (lv_at hl 0 rfl) ?_
    refine fw_cSN (As := [.ref (a + 7), .int (iI (0))]) (rest := []) E hK hH hl fL_X9_at ql_RX7_42 qs_yX9_at (k_at l G _ _ (a + 7) 40 (zup z0 0 1) 0 0 c7 (by omega) (by omega) (by omega)) rfl rfl (Nat.le_of_ble_eq_true rfl) ⟨Nat.le_of_ble_eq_true rfl, Nat.le_of_ble_eq_true rfl⟩ ⟨Nat.le_of_ble_eq_true rfl, Nat.le_of_ble_eq_true rfl⟩ dX7_accepts_16 (fw_ki fun r40 M39 H1 locs1 hp38 hH hz1 => ?_)
    obtain ⟨rfl, hM9, hz2⟩ := hp38
    refine fw_cv (y := iI 1) (by rw [zup_eq]) ?_
    replace hz := hz2.trans hz
    clear hz1 hz2
    rw [hM9] at hH
    refine lv_iload_n E.1 E.2.1 dX7_accepts_19 rfl (lv_at hl 2 rfl) ?_
    refine lv_bipush (v := iI 8) E.1 E.2.1 dX7_accepts_20 (by decide) ?_
    refine fw_icmp_gt (tgt := 29) E dX7_accepts_22 (by decide) (by omega) (by omega) (by omega) (by omega) (fun c41 => ?_) (fun c41 => ?_)
    · refine lv_iconst (v := iI 0) E.1 E.2.1 dX7_accepts_29 (by decide) ?_
      refine fw_cS (As := [.int (iI 0)]) (rest := [.int (iI 1)]) E hK hH hl fL_X7_needOf ql_RX7_46 qs_yX7_needOf (k_needOf l G _ _ 0 (by omega) (by omega)) rfl rfl (Nat.le_of_ble_eq_true rfl) ⟨Nat.le_of_ble_eq_true rfl, Nat.le_of_ble_eq_true rfl⟩ ⟨Nat.le_of_ble_eq_true rfl, Nat.le_of_ble_eq_true rfl⟩ dX7_accepts_30 (fw_ki fun r44 M43 H1 locs1 hp42 hH hz1 => ?_)
      obtain ⟨rfl, hM9, hz2⟩ := hp42
      replace hz := hz2.trans hz
      clear hz1 hz2
      rw [hM9] at hH
      refine fw_icmp_eq (tgt := 38) E dX7_accepts_33 (by decide) (by omega) (by omega) (by omega) (by omega) (fun c45 => ?_) (fun c45 => ?_)
      · exact absurd c45 (by omega)
      · refine lv_iconst (v := iI 0) E.1 E.2.1 dX7_accepts_36 (by decide) ?_
        refine fw_zret (r := (iI 0)) E hr hlk hH (by rfl) ?_ dX7_accepts_37
        exact ⟨_, rfl, by omega, rfl, hz⟩
    · refine lv_iconst (v := iI 1) E.1 E.2.1 dX7_accepts_25 (by decide) ?_
      refine lv_goto (tgt := 30) E.1 E.2.1 dX7_accepts_26 (by decide) ?_
      refine fw_cS (As := [.int (iI 1)]) (rest := [.int (iI 1)]) E hK hH hl fL_X7_needOf ql_RX7_46 qs_yX7_needOf (k_needOf l G _ _ 1 (by omega) (by omega)) rfl rfl (Nat.le_of_ble_eq_true rfl) ⟨Nat.le_of_ble_eq_true rfl, Nat.le_of_ble_eq_true rfl⟩ ⟨Nat.le_of_ble_eq_true rfl, Nat.le_of_ble_eq_true rfl⟩ dX7_accepts_30 (fw_ki fun r48 M47 H1 locs1 hp46 hH hz1 => ?_)
      obtain ⟨rfl, hM9, hz2⟩ := hp46
      replace hz := hz2.trans hz
      clear hz1 hz2
      rw [hM9] at hH
      refine fw_icmp_eq (tgt := 38) E dX7_accepts_33 (by decide) (by omega) (by omega) (by omega) (by omega) (fun c49 => ?_) (fun c49 => ?_)
      · refine lv_aload_n E.1 E.2.1 dX7_accepts_38 rfl (lv_at hl 1 rfl) ?_
        refine fw_get E hK hH c1 fc_X7 4 (by decide) ql_RX7_35 rfl rfl dX7_accepts_39 ?_
        refine lv_aload_n E.1 E.2.1 dX7_accepts_42 rfl (lv_at hl 1 rfl) ?_
        refine fw_get E hK hH c1 fc_X7 1 (by decide) ql_RX7_18 rfl rfl dX7_accepts_43 ?_
        refine lv_iload_n E.1 E.2.1 dX7_accepts_46 rfl (lv_at hl 0 rfl) ?_
        refine fw_cSN (As := [.ref (a + 7), .int (iI (0))]) (rest := [.int (iI 1)]) E hK hH hl fL_X9_at ql_RX7_42 qs_yX9_at (k_at l G _ _ (a + 7) 40 (zup z0 0 1) 0 0 c7 (by omega) (by omega) (by omega)) rfl rfl (Nat.le_of_ble_eq_true rfl) ⟨Nat.le_of_ble_eq_true rfl, Nat.le_of_ble_eq_true rfl⟩ ⟨Nat.le_of_ble_eq_true rfl, Nat.le_of_ble_eq_true rfl⟩ dX7_accepts_47 (fw_ki fun r52 M51 H1 locs1 hp50 hH hz1 => ?_)
        obtain ⟨rfl, hM9, hz2⟩ := hp50
        refine fw_cv (y := iI 1) (by rw [zup_eq]) ?_
        replace hz := hz2.trans hz
        clear hz1 hz2
        rw [hM9] at hH
        refine fw_isub E dX7_accepts_50 ?_
        refine fw_cv (y := iI (0)) (by decide) ?_
        refine lv_iconst (v := iI 1) E.1 E.2.1 dX7_accepts_51 (by decide) ?_
        refine fw_iadd E dX7_accepts_52 ?_
        refine fw_cv (y := iI (1)) (by decide) ?_
        refine lv_istore_n (lv' := [(3, .int (iI (1))), (2, .int (iI (0))), (0, .ref (a + 1)), (1, .int (iI cd))]) E.1 E.2.1 dX7_accepts_53 rfl hl (by decide) rfl (fun ls hl => ?_)
        refine fw_getsN E hH hK.me.2.2.1 ql_RX7_50 dX7_accepts_54 ?_
        refine lv_iload_n E.1 E.2.1 dX7_accepts_57 rfl (lv_at hl 3 rfl) ?_
        refine fw_cSN (As := [.ref (G.2.2.2.2 0), .int (iI cd)]) (rest := []) E hK hH hl fL_X9_at ql_RX7_42 qs_yX9_at (k_atS l G _ _ cd (cd).toNat (by omega) (by omega)) rfl rfl (Nat.le_of_ble_eq_true rfl) ⟨Nat.le_of_ble_eq_true rfl, Nat.le_of_ble_eq_true rfl⟩ ⟨Nat.le_of_ble_eq_true rfl, Nat.le_of_ble_eq_true rfl⟩ dX7_accepts_58 (fw_ki fun r56 M55 H1 locs1 hp54 hH hz1 => ?_)
        obtain ⟨rfl, hM9, hz2⟩ := hp54
        obtain ⟨pr53, hpr53⟩ : ∃ y, y = zPARTS (cd).toNat := ⟨_, rfl⟩
        have hlpr53 := zPARTS_le (cd).toNat
        rw [← hpr53] at hlpr53
        refine fw_cv (y := iI pr53) (by rw [hpr53]) ?_
        replace hz := hz2.trans hz
        clear hz1 hz2
        rw [hM9] at hH
        refine lv_istore (lv' := [(4, .int (iI pr53)), (3, .int (iI (1))), (2, .int (iI (0))), (0, .ref (a + 1)), (1, .int (iI cd))]) E.1 E.2.1 dX7_accepts_61 hl (by decide) rfl (fun ls hl => ?_)
        refine lv_iconst (v := iI 0) E.1 E.2.1 dX7_accepts_63 (by decide) ?_
        refine lv_istore (lv' := [(5, .int (iI 0)), (4, .int (iI pr53)), (3, .int (iI (1))), (2, .int (iI (0))), (0, .ref (a + 1)), (1, .int (iI cd))]) E.1 E.2.1 dX7_accepts_64 hl (by decide) rfl (fun ls hl => ?_)
        have loop66_1 : ∀ (d66 : Nat) (pt : Int) (sz : Int) (Mw66 : fw_M) (H : Heap) (locs : List Loc) (ls : Array Slot), (pr53 - pt).toNat < d66 → 0 ≤ pt → pt ≤ pr53 → 0 ≤ sz → sz ≤ 1 + 3 * pt → Mw66 = M → fw_H G s Mw66 H locs → H.size = N → Mw66 (a + 1) = some (.inr (7, [.ref (a + 2), .ref (a + 7), .ref (a + 8), .int (iI 1), .int (iI 1)])) → Mw66 (a + 7) = some (fI G 40 (fun j0 => iI ((zup z0 0 1) j0))) → Mw66 (a + 8) = some (fI G 40 (fun j0 => iI ((zup z0 0 1) j0))) → lv_has ls 7 [(0, .ref (a + 1)), (1, .int (iI cd)), (2, .int (iI (0))), (3, .int (iI sz)), (4, .int (iI pr53)), (5, .int (iI pt))] → W p l e ({ frames := 1, cells := 0, slots := 0, locals := 30 } : Room) s m args below meth c H locs (0) (0) (MQ below (fw_Q G (fw_pi (fun r M1 n1 => ∃ b : Int, r = iI b ∧ ((b = 1 ∧ cd ≤ 8) ∨ (b = 0 ∧ 8 < cd)) ∧ M1 = M ∧ n1 = N))) args s 0 0 (fun q => G.2.2.1 ≤ q)) (F0 m 66 ls []) := by
          intro d66
          induction d66 with
          | zero => intro pt sz Mw66 H locs ls hd; exact absurd hd (Nat.not_lt_zero _)
          | succ d66 ih66 =>
            intro pt sz Mw66 H locs ls hd66 i1 i2 i3 i4 hMw hH hz c1 c7 c8 hl
            refine lv_iload E.1 E.2.1 dX7_accepts_66 (lv_at hl 5 rfl) ?_
            refine lv_iload E.1 E.2.1 dX7_accepts_68 (lv_at hl 4 rfl) ?_
            refine fw_icmp_ge (tgt := 121) E dX7_accepts_70 (by decide) (by omega) (by omega) (by omega) (by omega) (fun c57 => ?_) (fun c57 => ?_)
            · refine lv_iload_n E.1 E.2.1 dX7_accepts_121 rfl (lv_at hl 3 rfl) ?_
              refine lv_bipush (v := iI 40) E.1 E.2.1 dX7_accepts_122 (by decide) ?_
              refine fw_icmp_gt (tgt := 131) E dX7_accepts_124 (by decide) (by omega) (by omega) (by omega) (by omega) (fun c58 => ?_) (fun c58 => ?_)
              · refine lv_iconst (v := iI 0) E.1 E.2.1 dX7_accepts_131 (by decide) ?_
                refine fw_zret (r := (iI 0)) E hr hlk hH (by rfl) ?_ dX7_accepts_132
                exact ⟨_, rfl, by omega, hMw, hz⟩
              · refine lv_iconst (v := iI 1) E.1 E.2.1 dX7_accepts_127 (by decide) ?_
                refine lv_goto (tgt := 132) E.1 E.2.1 dX7_accepts_128 (by decide) ?_
                refine fw_zret (r := (iI 1)) E hr hlk hH (by rfl) ?_ dX7_accepts_132
                exact ⟨_, rfl, by omega, hMw, hz⟩
            · refine lv_iload_n E.1 E.2.1 dX7_accepts_73 rfl (lv_at hl 1 rfl) ?_
              refine lv_iload E.1 E.2.1 dX7_accepts_74 (lv_at hl 5 rfl) ?_
              refine fw_cSN (As := [.int (iI cd), .int (iI pt)]) (rest := []) E hK hH hl fL_X9_isNumberPart ql_RX7_53 qs_yX9_isNumberPart (k_isNumberPart l G _ _ cd pt (by omega) (by omega)) rfl rfl (Nat.le_of_ble_eq_true rfl) ⟨Nat.le_of_ble_eq_true rfl, Nat.le_of_ble_eq_true rfl⟩ ⟨Nat.le_of_ble_eq_true rfl, Nat.le_of_ble_eq_true rfl⟩ dX7_accepts_76 (fw_ki fun r62 M61 H1 locs1 hp60 hH hz1 => ?_)
              obtain ⟨b59, rfl, hb59, hM9, hz2⟩ := hp60
              replace hz := hz2.trans hz
              clear hz1 hz2
              rw [hM9] at hH
              refine lv_istore (lv' := [(6, .int (iI b59)), (0, .ref (a + 1)), (1, .int (iI cd)), (2, .int (iI (0))), (3, .int (iI sz)), (4, .int (iI pr53)), (5, .int (iI pt))]) E.1 E.2.1 dX7_accepts_79 hl (by decide) rfl (fun ls hl => ?_)
              refine lv_iload_n E.1 E.2.1 dX7_accepts_81 rfl (lv_at hl 4 rfl) ?_
              refine lv_iload E.1 E.2.1 dX7_accepts_82 (lv_at hl 0 rfl) ?_
              refine fw_cS (As := [.int (iI b59)]) (rest := [.int (iI sz)]) E hK hH hl fL_X7_needOf ql_RX7_46 qs_yX7_needOf (k_needOf l G _ _ b59 (by omega) (by omega)) rfl rfl (Nat.le_of_ble_eq_true rfl) ⟨Nat.le_of_ble_eq_true rfl, Nat.le_of_ble_eq_true rfl⟩ ⟨Nat.le_of_ble_eq_true rfl, Nat.le_of_ble_eq_true rfl⟩ dX7_accepts_84 (fw_ki fun r66 M65 H1 locs1 hp64 hH hz1 => ?_)
              obtain ⟨rfl, hM9, hz2⟩ := hp64
              obtain ⟨nd63, hnd63⟩ : ∃ y, y = (if b59 = 0 then (3 : Int) else 1) := ⟨_, rfl⟩
              refine fw_cv (y := iI nd63) (by rw [hnd63]) ?_
              have hlnd63 : 1 ≤ nd63 ∧ nd63 ≤ 3 := by rw [hnd63]; split <;> omega
              replace hz := hz2.trans hz
              clear hz1 hz2
              rw [hM9] at hH
              refine fw_iadd E dX7_accepts_87 ?_
              refine lv_istore_n (lv' := [(3, .int (iI (sz + nd63))), (6, .int (iI b59)), (0, .ref (a + 1)), (1, .int (iI cd)), (2, .int (iI (0))), (4, .int (iI pr53)), (5, .int (iI pt))]) E.1 E.2.1 dX7_accepts_88 rfl hl (by decide) rfl (fun ls hl => ?_)
              refine lv_aload_n E.1 E.2.1 dX7_accepts_89 rfl (lv_at hl 2 rfl) ?_
              refine fw_get E hK hH c1 fc_X7 2 (by decide) ql_RX7_22 rfl rfl dX7_accepts_90 ?_
              refine lv_iload_n E.1 E.2.1 dX7_accepts_93 rfl (lv_at hl 4 rfl) ?_
              refine fw_cSN (As := [.ref (a + 8), .int (iI (0))]) (rest := []) E hK hH hl fL_X9_at ql_RX7_42 qs_yX9_at (k_at l G _ _ (a + 8) 40 (zup z0 0 1) 0 0 c8 (by omega) (by omega) (by omega)) rfl rfl (Nat.le_of_ble_eq_true rfl) ⟨Nat.le_of_ble_eq_true rfl, Nat.le_of_ble_eq_true rfl⟩ ⟨Nat.le_of_ble_eq_true rfl, Nat.le_of_ble_eq_true rfl⟩ dX7_accepts_94 (fw_ki fun r69 M68 H1 locs1 hp67 hH hz1 => ?_)
              obtain ⟨rfl, hM9, hz2⟩ := hp67
              refine fw_cv (y := iI 1) (by rw [zup_eq]) ?_
              replace hz := hz2.trans hz
              clear hz1 hz2
              rw [hM9] at hH
              refine lv_iload E.1 E.2.1 dX7_accepts_97 (lv_at hl 1 rfl) ?_
              refine fw_if_eq (tgt := 106) E dX7_accepts_99 (by decide) (by omega) (by omega) (fun c70 => ?_) (fun c70 => ?_)
              · refine lv_iconst (v := iI 2) E.1 E.2.1 dX7_accepts_106 (by decide) ?_
                refine fw_iadd E dX7_accepts_107 ?_
                refine fw_cv (y := iI (3)) (by decide) ?_
                refine lv_bipush (v := iI 8) E.1 E.2.1 dX7_accepts_108 (by decide) ?_
                refine fw_icmp_le (tgt := 115) E dX7_accepts_110 (by decide) (by omega) (by omega) (by omega) (by omega) (fun c71 => ?_) (fun c71 => ?_)
                · refine lv_iinc (v := iI (pt + 1)) (lv' := [(5, .int (iI (pt + 1))), (3, .int (iI (sz + nd63))), (6, .int (iI b59)), (0, .ref (a + 1)), (1, .int (iI cd)), (2, .int (iI (0))), (4, .int (iI pr53))]) E.1 E.2.1 dX7_accepts_115 hl (k := 6) rfl (iI_inc rfl) (by decide) rfl (fun ls hl => ?_)
                  refine lv_goto (tgt := 66) E.1 E.2.1 dX7_accepts_118 (by decide) ?_
                  exact ih66 (pt + 1) (sz + nd63) _ _ _ _ (by omega) (by omega) (by omega) (by omega) (by omega) hMw hH (by omega) c1 c7 c8 (lv_sub hl [3, 4, 5, 1, 6, 0] rfl)
                · exact absurd c71 (by omega)
              · refine lv_iconst (v := iI 1) E.1 E.2.1 dX7_accepts_102 (by decide) ?_
                refine lv_goto (tgt := 107) E.1 E.2.1 dX7_accepts_103 (by decide) ?_
                refine fw_iadd E dX7_accepts_107 ?_
                refine fw_cv (y := iI (2)) (by decide) ?_
                refine lv_bipush (v := iI 8) E.1 E.2.1 dX7_accepts_108 (by decide) ?_
                refine fw_icmp_le (tgt := 115) E dX7_accepts_110 (by decide) (by omega) (by omega) (by omega) (by omega) (fun c72 => ?_) (fun c72 => ?_)
                · refine lv_iinc (v := iI (pt + 1)) (lv' := [(5, .int (iI (pt + 1))), (3, .int (iI (sz + nd63))), (6, .int (iI b59)), (0, .ref (a + 1)), (1, .int (iI cd)), (2, .int (iI (0))), (4, .int (iI pr53))]) E.1 E.2.1 dX7_accepts_115 hl (k := 6) rfl (iI_inc rfl) (by decide) rfl (fun ls hl => ?_)
                  refine lv_goto (tgt := 66) E.1 E.2.1 dX7_accepts_118 (by decide) ?_
                  exact ih66 (pt + 1) (sz + nd63) _ _ _ _ (by omega) (by omega) (by omega) (by omega) (by omega) hMw hH (by omega) c1 c7 c8 (lv_sub hl [3, 4, 5, 1, 6, 0] rfl)
                · exact absurd c72 (by omega)
        exact loop66_1 ((pr53 - 0).toNat + 1) 0 1 _ _ _ _ (Nat.lt_succ_self _) (by omega) (by omega) (by omega) (by omega) rfl hH (by omega) c1 c7 c8 (lv_sub hl [4, 5, 3, 2, 1, 0] rfl)
      · exact absurd c49 (by omega)
theorem k_miss0 (l : Launch) (G : fw_G) (M : fw_M) (N : Nat) (t : Nat) (hbt : G.2.2.1 ≤ t) (nd lw : Nat → Int) (ms le : Int) (s0 : M t = some (.inr (7, [.ref (t + 1), .ref (t + 6), .ref (t + 7), .int (iI ms), .int (iI le)]))) (s6 : M (t + 6) = some (fI G 40 (fun j0 => iI (nd j0)))) (s7 : M (t + 7) = some (fI G 40 (fun j0 => iI (lw j0)))) (k : Nat) (b w : Int) (hms : ms = ↑k) (hk : k < 40) (hb0 : 0 ≤ b) (hb1 : b ≤ 1) : fMet l yX7_miss cX7_miss 3 none 1 30 0 0 G M N [.ref t, .int (iI b), .int (iI w)] (fw_pv (fun M1 n1 => (∃ (nd1 lw1 : Nat → Int) (le1 : Int), M1 t = some (.inr (7, [.ref (t + 1), .ref (t + 6), .ref (t + 7), .int (iI (ms + 1)), .int (iI le1)])) ∧ M1 (t + 6) = some (fI G 40 (fun j0 => iI (nd1 j0))) ∧ M1 (t + 7) = some (fI G 40 (fun j0 => iI (lw1 j0))) ∧ ∀ q, (q ≠ t ∧ q ≠ t + 6 ∧ q ≠ t + 7) → M1 q = M q) ∧ n1 = N)) := by
  refine fw_met RX7 rfl (by decide +kernel) (Nat.le_of_ble_eq_true rfl) ?_
  intro p e s m args below meth c ls E hr hlk hnm hK hH hz hl
  refine lv_aload_n E.1 E.2.1 dX7_miss_0 rfl (lv_at hl 0 rfl) ?_
  refine fw_get E hK hH s0 fc_X7 1 (by decide) ql_RX7_18 rfl rfl dX7_miss_1 ?_
  refine lv_aload_n E.1 E.2.1 dX7_miss_4 rfl (lv_at hl 0 rfl) ?_
  refine fw_get E hK hH s0 fc_X7 3 (by decide) ql_RX7_32 rfl rfl dX7_miss_5 ?_
  refine lv_iload_n E.1 E.2.1 dX7_miss_8 rfl (lv_at hl 1 rfl) ?_
  refine fw_cS (As := [.int (iI b)]) (rest := [.int (iI ms), .ref (t + 6)]) E hK hH hl fL_X7_needOf ql_RX7_46 qs_yX7_needOf (k_needOf l G _ _ b (by omega) (by omega)) rfl rfl (Nat.le_of_ble_eq_true rfl) ⟨Nat.le_of_ble_eq_true rfl, Nat.le_of_ble_eq_true rfl⟩ ⟨Nat.le_of_ble_eq_true rfl, Nat.le_of_ble_eq_true rfl⟩ dX7_miss_9 (fw_ki fun r3 M2 H1 locs1 hp1 hH hz1 => ?_)
  obtain ⟨rfl, hM9, hz2⟩ := hp1
  replace hz := hz2.trans hz
  clear hz1 hz2
  rw [hM9] at hH
  refine fw_cSN (As := [.ref (t + 6), .int (iI ms), .int (iI (if b = 0 then 3 else 1))]) (rest := []) E hK hH hl fL_X9_put ql_RX7_61 qs_yX9_put (k_put l G _ _ (t + 6) 40 nd ms k (if b = 0 then 3 else 1) s6 (by omega) (by omega) (by omega) (by omega)) rfl rfl (Nat.le_of_ble_eq_true rfl) ⟨Nat.le_of_ble_eq_true rfl, Nat.le_of_ble_eq_true rfl⟩ ⟨Nat.le_of_ble_eq_true rfl, Nat.le_of_ble_eq_true rfl⟩ dX7_miss_12 (fw_kv fun M5 H1 locs1 hp4 hH hz1 => ?_)
  obtain ⟨hM8, hz2⟩ := hp4
  have hfr : ∀ q, q ≠ t + 6 → M5 q = M q := fun q h => by rw [hM8]; exact fw_up_ne h
  have s6 : M5 (t + 6) = some (fI G 40 (fun j0 => iI ((zup nd k (if b = 0 then 3 else 1)) j0))) := by rw [hM8]; exact fw_up_eq
  replace hz := hz2.trans hz
  clear hz1 hz2
  have fr6 := hfr
  replace s0 : M5 t = some (.inr (7, [.ref (t + 1), .ref (t + 6), .ref (t + 7), .int (iI ms), .int (iI le)])) := (fr6 _ (by omega)).trans s0
  replace s7 : M5 (t + 7) = some (fI G 40 (fun j0 => iI (lw j0))) := (fr6 _ (by omega)).trans s7
  refine lv_aload_n E.1 E.2.1 dX7_miss_15 rfl (lv_at hl 0 rfl) ?_
  refine fw_get E hK hH s0 fc_X7 2 (by decide) ql_RX7_22 rfl rfl dX7_miss_16 ?_
  refine lv_aload_n E.1 E.2.1 dX7_miss_19 rfl (lv_at hl 0 rfl) ?_
  refine fw_get E hK hH s0 fc_X7 3 (by decide) ql_RX7_32 rfl rfl dX7_miss_20 ?_
  refine lv_iload_n E.1 E.2.1 dX7_miss_23 rfl (lv_at hl 2 rfl) ?_
  refine fw_cSN (As := [.ref (t + 7), .int (iI ms), .int (iI w)]) (rest := []) E hK hH hl fL_X9_put ql_RX7_61 qs_yX9_put (k_put l G _ _ (t + 7) 40 lw ms k w s7 (by omega) (by omega) (by omega) (by omega)) rfl rfl (Nat.le_of_ble_eq_true rfl) ⟨Nat.le_of_ble_eq_true rfl, Nat.le_of_ble_eq_true rfl⟩ ⟨Nat.le_of_ble_eq_true rfl, Nat.le_of_ble_eq_true rfl⟩ dX7_miss_24 (fw_kv fun M8 H1 locs1 hp7 hH hz1 => ?_)
  obtain ⟨hM8, hz2⟩ := hp7
  have hfr : ∀ q, q ≠ t + 7 → M8 q = M5 q := fun q h => by rw [hM8]; exact fw_up_ne h
  have s7 : M8 (t + 7) = some (fI G 40 (fun j0 => iI ((zup lw k w) j0))) := by rw [hM8]; exact fw_up_eq
  replace hz := hz2.trans hz
  clear hz1 hz2
  have fr9 := hfr
  replace s0 : M8 t = some (.inr (7, [.ref (t + 1), .ref (t + 6), .ref (t + 7), .int (iI ms), .int (iI le)])) := (fr9 _ (by omega)).trans s0
  replace s6 : M8 (t + 6) = some (fI G 40 (fun j0 => iI ((zup nd k (if b = 0 then 3 else 1)) j0))) := (fr9 _ (by omega)).trans s6
  refine lv_aload_n E.1 E.2.1 dX7_miss_27 rfl (lv_at hl 0 rfl) ?_
  refine lv_dup E.1 E.2.1 dX7_miss_28 rfl ?_
  refine fw_get E hK hH s0 fc_X7 3 (by decide) ql_RX7_32 rfl rfl dX7_miss_29 ?_
  refine lv_iconst (v := iI 1) E.1 E.2.1 dX7_miss_32 (by decide) ?_
  refine fw_iadd E dX7_miss_33 ?_
  refine fw_put E hK hH (by omega) s0 fc_X7 3 (by decide) ql_RX7_32 rfl rfl rfl rfl (Nat.le_of_ble_eq_true rfl) dX7_miss_34 (fun H1 locs1 hH hz1 => ?_)
  replace hz := hz1.trans hz; clear hz1
  obtain ⟨M10, hM11⟩ : ∃ M9, M9 = fw_up M8 t (.inr (7, [.ref (t + 1), .ref (t + 6), .ref (t + 7), .int (iI (ms + 1)), .int (iI le)])) := ⟨_, rfl⟩
  replace hH := fw_H.nm hM11 hH
  have fr12 : ∀ q, q ≠ t → M10 q = M8 q := fun q h => by rw [hM11]; exact fw_up_ne h
  replace s6 : M10 (t + 6) = some (fI G 40 (fun j0 => iI ((zup nd k (if b = 0 then 3 else 1)) j0))) := (fr12 _ (by omega)).trans s6
  replace s7 : M10 (t + 7) = some (fI G 40 (fun j0 => iI ((zup lw k w) j0))) := (fr12 _ (by omega)).trans s7
  have s0 : M10 t = some (.inr (7, [.ref (t + 1), .ref (t + 6), .ref (t + 7), .int (iI (ms + 1)), .int (iI le)])) := by rw [hM11]; exact fw_up_eq
  refine lv_aload_n E.1 E.2.1 dX7_miss_37 rfl (lv_at hl 0 rfl) ?_
  refine lv_dup E.1 E.2.1 dX7_miss_38 rfl ?_
  refine fw_get E hK hH s0 fc_X7 4 (by decide) ql_RX7_35 rfl rfl dX7_miss_39 ?_
  refine lv_iload_n E.1 E.2.1 dX7_miss_42 rfl (lv_at hl 1 rfl) ?_
  refine fw_cS (As := [.int (iI b)]) (rest := [.int (iI le), .ref t]) E hK hH hl fL_X7_needOf ql_RX7_46 qs_yX7_needOf (k_needOf l G _ _ b (by omega) (by omega)) rfl rfl (Nat.le_of_ble_eq_true rfl) ⟨Nat.le_of_ble_eq_true rfl, Nat.le_of_ble_eq_true rfl⟩ ⟨Nat.le_of_ble_eq_true rfl, Nat.le_of_ble_eq_true rfl⟩ dX7_miss_43 (fw_ki fun r15 M14 H1 locs1 hp13 hH hz1 => ?_)
  obtain ⟨rfl, hM9, hz2⟩ := hp13
  replace hz := hz2.trans hz
  clear hz1 hz2
  rw [hM9] at hH
  refine fw_iadd E dX7_miss_46 ?_
  refine fw_put E hK hH (by omega) s0 fc_X7 4 (by decide) ql_RX7_35 rfl rfl rfl rfl (Nat.le_of_ble_eq_true rfl) dX7_miss_47 (fun H1 locs1 hH hz1 => ?_)
  replace hz := hz1.trans hz; clear hz1
  obtain ⟨M16, hM17⟩ : ∃ M9, M9 = fw_up M10 t (.inr (7, [.ref (t + 1), .ref (t + 6), .ref (t + 7), .int (iI (ms + 1)), .int (iI (le + (if b = 0 then 3 else 1)))])) := ⟨_, rfl⟩
  replace hH := fw_H.nm hM17 hH
  have fr18 : ∀ q, q ≠ t → M16 q = M10 q := fun q h => by rw [hM17]; exact fw_up_ne h
  replace s6 : M16 (t + 6) = some (fI G 40 (fun j0 => iI ((zup nd k (if b = 0 then 3 else 1)) j0))) := (fr18 _ (by omega)).trans s6
  replace s7 : M16 (t + 7) = some (fI G 40 (fun j0 => iI ((zup lw k w) j0))) := (fr18 _ (by omega)).trans s7
  have s0 : M16 t = some (.inr (7, [.ref (t + 1), .ref (t + 6), .ref (t + 7), .int (iI (ms + 1)), .int (iI (le + (if b = 0 then 3 else 1)))])) := by rw [hM17]; exact fw_up_eq
  refine fw_vret E hr hlk hH ?_ dX7_miss_50
  exact ⟨⟨_, _, _, s0, s6, s7, fun q hq => by rw [fr18 q (by omega), fr12 q (by omega), fr9 q (by omega), fr6 q (by omega)]⟩, hz⟩
theorem k_take0 (l : Launch) (G : fw_G) (M : fw_M) (N : Nat) (a : Nat) (hB : bn0 G M a) (cd v : Int) (hc0 : 0 ≤ cd) (hc1 : cd ≤ 13) (hv : -2147483648 ≤ v ∧ v < 2147483648) : fMet l yX7_take cX7_take 5 none 3 110 0 0 G M N [.ref (a + 1), .int (iI cd), .int (iI v)] (fw_pv (fun M1 n1 => ((∃ le : Int, M1 (a + 1) = some (.inr (7, [.ref (a + 2), .ref (a + 7), .ref (a + 8), .int (iI (zPARTS cd.toNat)), .int (iI le)]))) ∧ (∀ q, q < a + 1 ∨ a + 9 ≤ q → M1 q = M q)) ∧ n1 = N)) := by
  refine fw_met RX7 rfl (by decide +kernel) (Nat.le_of_ble_eq_true rfl) ?_
  intro p e s m args below meth c ls E hr hlk hnm hK hH hz hl
  obtain ⟨hb, _, c1, c2, c3, c4, _, _, c7, c8, _, _, _, _, _, _, _, _, _, _⟩ := hB.c
  have hzu : (zup z0 0 1) 0 = 1 := zup_eq
  refine lv_aload_n E.1 E.2.1 dX7_take_0 rfl (lv_at hl 0 rfl) ?_
  refine fw_get E hK hH c1 fc_X7 2 (by decide) ql_RX7_22 rfl rfl dX7_take_1 ?_
  refine lv_aload_n E.1 E.2.1 dX7_take_4 rfl (lv_at hl 0 rfl) ?_
  refine fw_get E hK hH c1 fc_X7 3 (by decide) ql_RX7_32 rfl rfl dX7_take_5 ?_
  refine lv_iconst (v := iI 1) E.1 E.2.1 dX7_take_8 (by decide) ?_
  refine fw_isub E dX7_take_9 ?_
  refine fw_cv (y := iI (0)) (by decide) ?_
  refine fw_cSN (As := [.ref (a + 8), .int (iI (0))]) (rest := []) E hK hH hl fL_X9_at ql_RX7_42 qs_yX9_at (k_at l G _ _ (a + 8) 40 (zup z0 0 1) 0 0 c8 (by omega) (by omega) (by omega)) rfl rfl (Nat.le_of_ble_eq_true rfl) ⟨Nat.le_of_ble_eq_true rfl, Nat.le_of_ble_eq_true rfl⟩ ⟨Nat.le_of_ble_eq_true rfl, Nat.le_of_ble_eq_true rfl⟩ dX7_take_10 (fw_ki fun r3 M2 H1 locs1 hp1 hH hz1 => ?_)
  obtain ⟨rfl, hM9, hz2⟩ := hp1
  refine fw_cv (y := iI 1) (by rw [zup_eq]) ?_
  replace hz := hz2.trans hz
  clear hz1 hz2
  rw [hM9] at hH
  refine lv_istore_n (lv' := [(3, .int (iI 1)), (0, .ref (a + 1)), (1, .int (iI cd)), (2, .int (iI v))]) E.1 E.2.1 dX7_take_13 rfl hl (by decide) rfl (fun ls hl => ?_)
  refine lv_aload_n E.1 E.2.1 dX7_take_14 rfl (lv_at hl 1 rfl) ?_
  refine lv_dup E.1 E.2.1 dX7_take_15 rfl ?_
  refine fw_get E hK hH c1 fc_X7 4 (by decide) ql_RX7_35 rfl rfl dX7_take_16 ?_
  refine lv_iconst (v := iI 1) E.1 E.2.1 dX7_take_19 (by decide) ?_
  refine lv_aload_n E.1 E.2.1 dX7_take_20 rfl (lv_at hl 1 rfl) ?_
  refine fw_get E hK hH c1 fc_X7 1 (by decide) ql_RX7_18 rfl rfl dX7_take_21 ?_
  refine lv_aload_n E.1 E.2.1 dX7_take_24 rfl (lv_at hl 1 rfl) ?_
  refine fw_get E hK hH c1 fc_X7 3 (by decide) ql_RX7_32 rfl rfl dX7_take_25 ?_
  refine lv_iconst (v := iI 1) E.1 E.2.1 dX7_take_28 (by decide) ?_
  refine fw_isub E dX7_take_29 ?_
  refine fw_cv (y := iI (0)) (by decide) ?_
  refine fw_cSN (As := [.ref (a + 7), .int (iI (0))]) (rest := [.int (iI 1), .int (iI 1), .ref (a + 1)]) E hK hH hl fL_X9_at ql_RX7_42 qs_yX9_at (k_at l G _ _ (a + 7) 40 (zup z0 0 1) 0 0 c7 (by omega) (by omega) (by omega)) rfl rfl (Nat.le_of_ble_eq_true rfl) ⟨Nat.le_of_ble_eq_true rfl, Nat.le_of_ble_eq_true rfl⟩ ⟨Nat.le_of_ble_eq_true rfl, Nat.le_of_ble_eq_true rfl⟩ dX7_take_30 (fw_ki fun r6 M5 H1 locs1 hp4 hH hz1 => ?_)
  obtain ⟨rfl, hM9, hz2⟩ := hp4
  refine fw_cv (y := iI 1) (by rw [zup_eq]) ?_
  replace hz := hz2.trans hz
  clear hz1 hz2
  rw [hM9] at hH
  refine fw_isub E dX7_take_33 ?_
  refine fw_cv (y := iI (0)) (by decide) ?_
  refine fw_iadd E dX7_take_34 ?_
  refine fw_cv (y := iI (1)) (by decide) ?_
  refine fw_put E hK hH (by omega) c1 fc_X7 4 (by decide) ql_RX7_35 rfl rfl rfl rfl (Nat.le_of_ble_eq_true rfl) dX7_take_35 (fun H1 locs1 hH hz1 => ?_)
  replace hz := hz1.trans hz; clear hz1
  obtain ⟨M7, hM8⟩ : ∃ M9, M9 = fw_up M (a + 1) (.inr (7, [.ref (a + 2), .ref (a + 7), .ref (a + 8), .int (iI 1), .int (iI (1))])) := ⟨_, rfl⟩
  replace hH := fw_H.nm hM8 hH
  have fr9 : ∀ q, q ≠ (a + 1) → M7 q = M q := fun q h => by rw [hM8]; exact fw_up_ne h
  replace c2 : M7 (a + 2) = some (.inr (8, [.ref (a + 3), .ref (a + 4), .ref (a + 5), .ref (a + 6), .int (iI 0), .int (iI 0)])) := (fr9 _ (by omega)).trans c2
  replace c3 : M7 (a + 3) = some (fI G 40 (fun j0 => iI (z0 j0))) := (fr9 _ (by omega)).trans c3
  replace c4 : M7 (a + 4) = some (fI G 40 (fun j0 => iI (z0 j0))) := (fr9 _ (by omega)).trans c4
  replace c7 : M7 (a + 7) = some (fI G 40 (fun j0 => iI ((zup z0 0 1) j0))) := (fr9 _ (by omega)).trans c7
  replace c8 : M7 (a + 8) = some (fI G 40 (fun j0 => iI ((zup z0 0 1) j0))) := (fr9 _ (by omega)).trans c8
  have c1 : M7 (a + 1) = some (.inr (7, [.ref (a + 2), .ref (a + 7), .ref (a + 8), .int (iI 1), .int (iI (1))])) := by rw [hM8]; exact fw_up_eq
  refine lv_aload_n E.1 E.2.1 dX7_take_38 rfl (lv_at hl 1 rfl) ?_
  refine lv_dup E.1 E.2.1 dX7_take_39 rfl ?_
  refine fw_get E hK hH c1 fc_X7 3 (by decide) ql_RX7_32 rfl rfl dX7_take_40 ?_
  refine lv_iconst (v := iI 1) E.1 E.2.1 dX7_take_43 (by decide) ?_
  refine fw_isub E dX7_take_44 ?_
  refine fw_cv (y := iI (0)) (by decide) ?_
  refine fw_put E hK hH (by omega) c1 fc_X7 3 (by decide) ql_RX7_32 rfl rfl rfl rfl (Nat.le_of_ble_eq_true rfl) dX7_take_45 (fun H1 locs1 hH hz1 => ?_)
  replace hz := hz1.trans hz; clear hz1
  obtain ⟨M10, hM11⟩ : ∃ M9, M9 = fw_up M7 (a + 1) (.inr (7, [.ref (a + 2), .ref (a + 7), .ref (a + 8), .int (iI (0)), .int (iI (1))])) := ⟨_, rfl⟩
  replace hH := fw_H.nm hM11 hH
  have fr12 : ∀ q, q ≠ (a + 1) → M10 q = M7 q := fun q h => by rw [hM11]; exact fw_up_ne h
  replace c2 : M10 (a + 2) = some (.inr (8, [.ref (a + 3), .ref (a + 4), .ref (a + 5), .ref (a + 6), .int (iI 0), .int (iI 0)])) := (fr12 _ (by omega)).trans c2
  replace c3 : M10 (a + 3) = some (fI G 40 (fun j0 => iI (z0 j0))) := (fr12 _ (by omega)).trans c3
  replace c4 : M10 (a + 4) = some (fI G 40 (fun j0 => iI (z0 j0))) := (fr12 _ (by omega)).trans c4
  replace c7 : M10 (a + 7) = some (fI G 40 (fun j0 => iI ((zup z0 0 1) j0))) := (fr12 _ (by omega)).trans c7
  replace c8 : M10 (a + 8) = some (fI G 40 (fun j0 => iI ((zup z0 0 1) j0))) := (fr12 _ (by omega)).trans c8
  have c1 : M10 (a + 1) = some (.inr (7, [.ref (a + 2), .ref (a + 7), .ref (a + 8), .int (iI (0)), .int (iI (1))])) := by rw [hM11]; exact fw_up_eq
  refine lv_aload_n E.1 E.2.1 dX7_take_48 rfl (lv_at hl 1 rfl) ?_
  refine fw_get E hK hH c1 fc_X7 0 (by decide) ql_RX7_12 rfl rfl dX7_take_49 ?_
  refine lv_iload_n E.1 E.2.1 dX7_take_52 rfl (lv_at hl 2 rfl) ?_
  refine lv_iload_n E.1 E.2.1 dX7_take_53 rfl (lv_at hl 3 rfl) ?_
  refine fw_cV (As := [.int (iI cd), .int (iI v)]) (rest := []) E hK hH hl c2 fc_X8 fL_X8_append ql_RX7_57 qi_yX8_append qv_yX8_append (k_append0 l G _ _ (a + 2) (by omega) c2 c3 c4 cd v (by omega) (by omega)) rfl rfl (Nat.le_of_ble_eq_true rfl) ⟨Nat.le_of_ble_eq_true rfl, Nat.le_of_ble_eq_true rfl⟩ ⟨Nat.le_of_ble_eq_true rfl, Nat.le_of_ble_eq_true rfl⟩ dX7_take_54 (fw_kv fun M14 H1 locs1 hp13 hH hz1 => ?_)
  obtain ⟨hfr, hz2⟩ := hp13
  replace hz := hz2.trans hz
  clear hz1 hz2
  have fr15 := hfr
  replace c7 : M14 (a + 7) = some (fI G 40 (fun j0 => iI ((zup z0 0 1) j0))) := (fr15 _ (by omega)).trans c7
  replace c8 : M14 (a + 8) = some (fI G 40 (fun j0 => iI ((zup z0 0 1) j0))) := (fr15 _ (by omega)).trans c8
  replace c1 : M14 (a + 1) = some (.inr (7, [.ref (a + 2), .ref (a + 7), .ref (a + 8), .int (iI (0)), .int (iI (1))])) := (fr15 _ (by omega)).trans c1
  refine fw_getsN E hH hK.me.2.2.1 ql_RX7_50 dX7_take_57 ?_
  refine lv_iload_n E.1 E.2.1 dX7_take_60 rfl (lv_at hl 2 rfl) ?_
  refine fw_cSN (As := [.ref (G.2.2.2.2 0), .int (iI cd)]) (rest := []) E hK hH hl fL_X9_at ql_RX7_42 qs_yX9_at (k_atS l G _ _ cd (cd).toNat (by omega) (by omega)) rfl rfl (Nat.le_of_ble_eq_true rfl) ⟨Nat.le_of_ble_eq_true rfl, Nat.le_of_ble_eq_true rfl⟩ ⟨Nat.le_of_ble_eq_true rfl, Nat.le_of_ble_eq_true rfl⟩ dX7_take_61 (fw_ki fun r19 M18 H1 locs1 hp17 hH hz1 => ?_)
  obtain ⟨rfl, hM9, hz2⟩ := hp17
  obtain ⟨pr16, hpr16⟩ : ∃ y, y = zPARTS (cd).toNat := ⟨_, rfl⟩
  have hlpr16 := zPARTS_le (cd).toNat
  rw [← hpr16] at hlpr16
  refine fw_cv (y := iI pr16) (by rw [hpr16]) ?_
  replace hz := hz2.trans hz
  clear hz1 hz2
  rw [hM9] at hH
  refine lv_iconst (v := iI 1) E.1 E.2.1 dX7_take_64 (by decide) ?_
  refine fw_isub E dX7_take_65 ?_
  refine lv_istore (lv' := [(4, .int (iI (pr16 - 1))), (3, .int (iI 1)), (0, .ref (a + 1)), (1, .int (iI cd)), (2, .int (iI v))]) E.1 E.2.1 dX7_take_66 hl (by decide) rfl (fun ls hl => ?_)
  have loop68_1 : ∀ (d68 : Nat) (pt : Int) (ms : Int) (le : Int) (nd : Nat → Int) (lw : Nat → Int) (Mw68 : fw_M) (H : Heap) (locs : List Loc) (ls : Array Slot), (pt + 1).toNat < d68 → -1 ≤ pt → pt ≤ pr16 - 1 → ms = pr16 - 1 - pt → (∀ q, q < a + 1 ∨ a + 9 ≤ q → Mw68 q = M q) → fw_H G s Mw68 H locs → H.size = N → Mw68 (a + 1) = some (.inr (7, [.ref (a + 2), .ref (a + 7), .ref (a + 8), .int (iI ms), .int (iI le)])) → Mw68 (a + 7) = some (fI G 40 (fun j0 => iI (nd j0))) → Mw68 (a + 8) = some (fI G 40 (fun j0 => iI (lw j0))) → lv_has ls 5 [(0, .ref (a + 1)), (1, .int (iI cd)), (2, .int (iI v)), (3, .int (iI 1)), (4, .int (iI pt))] → W p l e ({ frames := 3, cells := 0, slots := 0, locals := 110 } : Room) s m args below meth c H locs (0) (0) (MQ below (fw_Q G (fw_pv (fun M1 n1 => ((∃ le : Int, M1 (a + 1) = some (.inr (7, [.ref (a + 2), .ref (a + 7), .ref (a + 8), .int (iI (zPARTS cd.toNat)), .int (iI le)]))) ∧ (∀ q, q < a + 1 ∨ a + 9 ≤ q → M1 q = M q)) ∧ n1 = N))) args s 0 0 (fun q => G.2.2.1 ≤ q)) (F0 m 68 ls []) := by
    intro d68
    induction d68 with
    | zero => intro pt ms le nd lw Mw68 H locs ls hd; exact absurd hd (Nat.not_lt_zero _)
    | succ d68 ih68 =>
      intro pt ms le nd lw Mw68 H locs ls hd68 i1 i2 i3 hfr0 hH hz c1 c7 c8 hl
      refine lv_iload E.1 E.2.1 dX7_take_68 (lv_at hl 4 rfl) ?_
      refine fw_if_lt (tgt := 92) E dX7_take_70 (by decide) (by omega) (by omega) (fun c20 => ?_) (fun c20 => ?_)
      · refine fw_vret E hr hlk hH ?_ dX7_take_92
        exact ⟨⟨⟨_, by rw [← hpr16, show pr16 = ms by omega]; exact c1⟩, hfr0⟩, hz⟩
      · refine lv_aload_n E.1 E.2.1 dX7_take_73 rfl (lv_at hl 0 rfl) ?_
        refine lv_iload_n E.1 E.2.1 dX7_take_74 rfl (lv_at hl 1 rfl) ?_
        refine lv_iload E.1 E.2.1 dX7_take_75 (lv_at hl 4 rfl) ?_
        refine fw_cSN (As := [.int (iI cd), .int (iI pt)]) (rest := [.ref (a + 1)]) E hK hH hl fL_X9_isNumberPart ql_RX7_53 qs_yX9_isNumberPart (k_isNumberPart l G _ _ cd pt (by omega) (by omega)) rfl rfl (Nat.le_of_ble_eq_true rfl) ⟨Nat.le_of_ble_eq_true rfl, Nat.le_of_ble_eq_true rfl⟩ ⟨Nat.le_of_ble_eq_true rfl, Nat.le_of_ble_eq_true rfl⟩ dX7_take_77 (fw_ki fun r24 M23 H1 locs1 hp22 hH hz1 => ?_)
        obtain ⟨b21, rfl, hb21, hM9, hz2⟩ := hp22
        replace hz := hz2.trans hz
        clear hz1 hz2
        rw [hM9] at hH
        refine lv_iload_n E.1 E.2.1 dX7_take_80 rfl (lv_at hl 3 rfl) ?_
        refine lv_iconst (v := iI 1) E.1 E.2.1 dX7_take_81 (by decide) ?_
        refine fw_iadd E dX7_take_82 ?_
        refine fw_cv (y := iI (2)) (by decide) ?_
        refine fw_cV (As := [.int (iI b21), .int (iI (2))]) (rest := []) E hK hH hl c1 fc_X7 fL_X7_miss ql_RX7_38 qi_yX7_miss qv_yX7_miss (k_miss0 l G _ _ (a + 1) (by omega) nd lw ms le c1 c7 c8 ms.toNat b21 2 (by omega) (by omega) (by omega) (by omega)) rfl rfl (Nat.le_of_ble_eq_true rfl) ⟨Nat.le_of_ble_eq_true rfl, Nat.le_of_ble_eq_true rfl⟩ ⟨Nat.le_of_ble_eq_true rfl, Nat.le_of_ble_eq_true rfl⟩ dX7_take_83 (fw_kv fun M26 H1 locs1 hp25 hH hz1 => ?_)
        obtain ⟨⟨nd1, lw1, le1, c1n, c7n, c8n, hfr⟩, hz2⟩ := hp25
        replace hz := hz2.trans hz
        clear hz1 hz2
        have fr27 := hfr
        refine lv_iinc (v := iI (pt - 1)) (lv' := [(4, .int (iI (pt - 1))), (0, .ref (a + 1)), (1, .int (iI cd)), (2, .int (iI v)), (3, .int (iI 1))]) E.1 E.2.1 dX7_take_86 hl (k := 4) rfl (iI_inc rfl) (by decide) rfl (fun ls hl => ?_)
        refine lv_goto (tgt := 68) E.1 E.2.1 dX7_take_89 (by decide) ?_
        exact ih68 (pt - 1) (ms + 1) le1 nd1 lw1 _ _ _ _ (by omega) (by omega) (by omega) (by omega) (fun q hq => by rw [fr27 q (by omega)]; exact hfr0 q hq) hH (by omega) c1n c7n c8n (lv_sub hl [1, 2, 3, 4, 0] rfl)
  exact loop68_1 (((pr16 - 1) + 1).toNat + 1) (pr16 - 1) 0 1 (zup z0 0 1) (zup z0 0 1) _ _ _ _ (Nat.lt_succ_self _) (by omega) (by omega) (by omega) (fun q hq => by rw [fr15 q (by omega), fr12 q (by omega), fr9 q (by omega)]) hH (by omega) c1 c7 c8 (lv_sub hl [2, 3, 4, 1, 0] rfl)
theorem x_sketch (l : Launch) (hlt : l.stackTraces = false) (G : fw_G) (M : fw_M) (N : Nat) (a : Nat) (hB : bn0 G M a) (z1 z2 : Int) (hz1 : -2147483648 ≤ z1 ∧ z1 < 2147483648) (hz2 : -2147483648 ≤ z2 ∧ z2 < 2147483648) : fxMet l yX9_sketch cX9_sketch 3 (some .int) 8 170 2 12 G M N [.ref a, .int (iI z1), .int (iI z2)] (fw_pi (fun r M1 n1 => kS_sketch z1 z2 = 0 ∧ r = iI (zPARTS z1.toNat) ∧ ∀ q, a + 378 ≤ q → M1 q = M q)) (fun E9 M1 n1 => (E9 = "java/lang/IllegalArgumentException" ∧ kS_sketch z1 z2 = 1 ∨ E9 = "java/lang/IllegalStateException" ∧ kS_sketch z1 z2 = 2) ∧ M1 = M) := by
  refine fx_met RX9 rfl (by decide +kernel) (Nat.le_of_ble_eq_true rfl) ?_
  intro p e s m args below meth c ls E hr hlk hxt hK hH hz hl
  have hH0 := hH
  obtain ⟨hb, c0, c1, _, _, _, _, _, _, _, _, _, _, _, _, _, _, _, _, _⟩ := hB.c
  refine lv_iload_n E.1 E.2.1 dX9_sketch_0 rfl (lv_at hl 1 rfl) ?_
  refine lv_iload_n E.1 E.2.1 dX9_sketch_1 rfl (lv_at hl 2 rfl) ?_
  refine fx_cS (As := [.int (iI z1), .int (iI z2)]) (rest := []) E hK hH hl fL_X9_requireNode ql_RX9_68 qs_yX9_requireNode (k_requireNode l hlt G _ _ z1 z2 (by omega) (by omega)) rfl rfl (Nat.le_of_ble_eq_true rfl) ⟨Nat.le_of_ble_eq_true rfl, Nat.le_of_ble_eq_true rfl⟩ ⟨by show _ ≤ (2 : Nat); omega, by show _ ≤ (12 : Nat); omega⟩ dX9_sketch_2 (fun E9 ce q9 M1 H1 locs1 hp hH hz1 hcell hv9 hcl9 => ?_) ?_
  · obtain ⟨hE, hc9, hM9⟩ := hp
    exact fx_out hxt hlk hH hcell hv9 hcl9 ⟨Or.inl ⟨hE, (by unfold kS_sketch; (repeat' split) <;> omega)⟩, hM9⟩ (by omega) (by omega)
  · refine fw_kv fun M1 H1 locs1 hp hH hz1 => ?_
    obtain ⟨hok, hM9, hz2⟩ := hp
    replace hz := hz2.trans hz
    clear hz1 hz2
    rw [hM9] at hH
    refine lv_aload_n E.1 E.2.1 dX9_sketch_5 rfl (lv_at hl 0 rfl) ?_
    refine fw_get E hK hH c0 fc_X9 0 (by decide) ql_RX9_10 rfl rfl dX9_sketch_6 ?_
    refine lv_iload_n E.1 E.2.1 dX9_sketch_9 rfl (lv_at hl 1 rfl) ?_
    refine fw_cV (As := [.int (iI z1)]) (rest := []) E hK hH hl c1 fc_X7 fL_X7_accepts ql_RX9_72 qi_yX7_accepts qv_yX7_accepts (k_accepts0 l G _ _ a hB z1 (by omega) (by omega)) rfl rfl (Nat.le_of_ble_eq_true rfl) ⟨Nat.le_of_ble_eq_true rfl, Nat.le_of_ble_eq_true rfl⟩ ⟨by show _ ≤ (2 : Nat); omega, by show _ ≤ (12 : Nat); omega⟩ dX9_sketch_10 (fw_ki fun r3 M2 H1 locs1 hp1 hH hz1 => ?_)
    obtain ⟨b, rfl, hbb, hM9, hz2⟩ := hp1
    replace hz := hz2.trans hz
    clear hz1 hz2
    rw [hM9] at hH
    refine fw_if_ne (tgt := 26) E dX9_sketch_13 (by decide) (by omega) (by omega) (fun c4 => ?_) (fun c4 => ?_)
    · refine lv_aload_n E.1 E.2.1 dX9_sketch_26 rfl (lv_at hl 0 rfl) ?_
      refine fw_get E hK hH c0 fc_X9 0 (by decide) ql_RX9_10 rfl rfl dX9_sketch_27 ?_
      refine lv_iload_n E.1 E.2.1 dX9_sketch_30 rfl (lv_at hl 1 rfl) ?_
      refine lv_iload_n E.1 E.2.1 dX9_sketch_31 rfl (lv_at hl 2 rfl) ?_
      refine fw_cV (As := [.int (iI z1), .int (iI z2)]) (rest := []) E hK hH hl c1 fc_X7 fL_X7_take ql_RX9_83 qi_yX7_take qv_yX7_take (k_take0 l G _ _ a hB z1 z2 (by omega) (by omega) (by omega)) rfl rfl (Nat.le_of_ble_eq_true rfl) ⟨Nat.le_of_ble_eq_true rfl, Nat.le_of_ble_eq_true rfl⟩ ⟨by show _ ≤ (2 : Nat); omega, by show _ ≤ (12 : Nat); omega⟩ dX9_sketch_32 (fw_kv fun M6 H1 locs1 hp5 hH hz1 => ?_)
      obtain ⟨⟨⟨le, c1⟩, hfr⟩, hz2⟩ := hp5
      replace hz := hz2.trans hz
      clear hz1 hz2
      have fr7 := hfr
      replace c0 : M6 a = some (.inr (9, [.ref (a + 1), .ref (a + 9), .ref (a + 17), .ref (a + 21), .ref (a + 26), .ref (a + 30), .ref (a + 33), .ref (a + 203), .ref (a + 373)])) := (fr7 _ (by omega)).trans c0
      refine lv_aload_n E.1 E.2.1 dX9_sketch_35 rfl (lv_at hl 0 rfl) ?_
      refine fw_get E hK hH c0 fc_X9 0 (by decide) ql_RX9_10 rfl rfl dX9_sketch_36 ?_
      refine fw_getN E hK hH c1 fc_X7 3 (by decide) ql_RX9_86 rfl rfl dX9_sketch_39 ?_
      refine W.widen (k := 2) (n := 12) (by omega) (by omega) ?_
      refine vx_ret (fw_iret E hr hlk hH ?_ dX9_sketch_42)
      exact ⟨(by unfold kS_sketch; (repeat' split) <;> omega), rfl, (fun q hq => by rw [fr7 q (by omega)])⟩
    · exact fx_thr hlt E hK hH0 hH hl hxt hlk (cls := "java/lang/IllegalStateException") (names := ["java/lang/RuntimeException", "java/lang/Exception"]) (i := 3) (text := "the NODE cannot come to the SKETCH") xf_ISE xn_all ql_RX9_76 xi_ISE xw_ISE xg_ISE rfl dX9_sketch_16 dX9_sketch_19 dX9_sketch_20 dX9_sketch_22 dX9_sketch_25 ⟨Nat.le_of_ble_eq_true rfl, Nat.le_of_ble_eq_true rfl, by show _ ≤ (2 : Nat); omega, by show _ ≤ (12 : Nat); omega⟩ (fun n1 hn1 => ⟨Or.inr ⟨rfl, (by unfold kS_sketch; (repeat' split) <;> omega)⟩, rfl⟩) (by omega) (by omega)

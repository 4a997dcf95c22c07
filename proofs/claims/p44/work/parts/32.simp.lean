theorem k_behindG (l : Launch) (G : fw_G) (M : fw_M) (N : Nat) (a : Nat) (cs vs ss hs : Nat → Int) (n lv z : Int) (hT : trAt G M a cs vs ss hs n lv) (hz : -2147483648 ≤ z ∧ z < 2147483648) : fMet l yX8_behind cX8_behind 2 (some .int) 1 30 0 0 G M N [.ref a, .int (iI z)] (fw_pi (fun r M1 n1 => r = iI (z + atF ss 40 z) ∧ M1 = M ∧ n1 = N)) := by
  refine fw_met RX8 rfl (by decide +kernel) (Nat.le_of_ble_eq_true rfl) ?_
  intro pG e s m args below meth cG ls E hr hlk hnm hK hH hz hl
  refine lv_iload_n E.1 E.2.1 dX8_behind_0 rfl (lv_at hl 1 rfl) ?_
  refine lv_aload_n E.1 E.2.1 dX8_behind_1 rfl (lv_at hl 0 rfl) ?_
  refine fw_get E hK hH hT.2.1 fc_X8 2 (by decide) ql_RX8_18 rfl rfl dX8_behind_2 ?_
  refine lv_iload_n E.1 E.2.1 dX8_behind_5 rfl (lv_at hl 1 rfl) ?_
  refine fw_cSN (As := [.ref (a + 3), .int (iI z)]) (rest := [.int (iI z)]) E hK hH hl fL_X9_at ql_RX8_24 qs_yX9_at (k_atG l G _ _ (a + 3) 40 ss z hT.2.2.2.2.1 (by omega) (by omega)) rfl rfl (Nat.le_of_ble_eq_true rfl) ⟨Nat.le_of_ble_eq_true rfl, Nat.le_of_ble_eq_true rfl⟩ ⟨Nat.le_of_ble_eq_true rfl, Nat.le_of_ble_eq_true rfl⟩ dX8_behind_6 (fw_ki fun r3 M2 H1 locs1 hp1 hH hz1 => ?_)
  obtain ⟨rfl, hM9, hz2⟩ := hp1
  replace hz := hz2.trans hz
  clear hz1 hz2
  rw [hM9] at hH
  refine fw_iadd E dX8_behind_9 ?_
  refine fw_iret E hr hlk hH ?_ dX8_behind_10
  exact ⟨rfl, rfl, hz⟩
theorem k_isFoldable (l : Launch) (G : fw_G) (M : fw_M) (N : Nat) (a n : Nat) (C V : Nat → Int) (sp : Nat → Nat) (hA : tw G M a n C V sp) (hv : vtOK n C V sp) (p : Nat) (hp : p < n) : fMet l yX6_isFoldable cX6_isFoldable 2 (some .boolean) 3 90 0 0 G M N [.ref a, .int (iI ↑p)] (fw_pi (fun r M1 n1 => (∃ b : Int, r = iI b ∧ ((b = 1 ∧ C p ≤ 8 ∧ 1 < sp p ∧ ∀ k, p ≤ k → k < p + sp p → C k ≠ 1) ∨ b = 0)) ∧ M1 = M ∧ n1 = N)) := by
  refine fw_met RX6 rfl (by decide +kernel) (Nat.le_of_ble_eq_true rfl) ?_
  intro pG e s m args below meth cG ls E hr hlk hnm hK hH hz hl
  obtain ⟨cs, vs, ss, hs, hT, hag, hbd⟩ := hA
  obtain ⟨⟨hn0, hn1⟩, hs0, hc0, hsp, hty, hnd⟩ := id hv
  have hc13 := (hnd p hp).1
  have hcp := (hag p hp).1
  have hpe := sp_le hsp hp
  refine lv_aload_n E.1 E.2.1 dX6_isFoldable_0 rfl (lv_at hl 0 rfl) ?_
  refine lv_iload_n E.1 E.2.1 dX6_isFoldable_1 rfl (lv_at hl 1 rfl) ?_
  refine fw_cV (As := [.int (iI ↑p)]) (rest := []) E hK hH hl hT.2.1 fc_X8 fL_X8_isNumber ql_RX6_48 qi_yX8_isNumber qv_yX8_isNumber (k_isNumber l G _ _ a cs vs ss hs (↑n : Int) (↑(lvF n C sp) : Int) ↑p p hT (by omega) (by omega) (by omega)) rfl rfl (Nat.le_of_ble_eq_true rfl) ⟨Nat.le_of_ble_eq_true rfl, Nat.le_of_ble_eq_true rfl⟩ ⟨Nat.le_of_ble_eq_true rfl, Nat.le_of_ble_eq_true rfl⟩ dX6_isFoldable_2 (fw_ki fun r4 M3 H1 locs1 hp2 hH hz1 => ?_)
  obtain ⟨rfl, hM9, hz2⟩ := hp2
  obtain ⟨b1, hb1⟩ : ∃ y, y = (if cs p ≤ 8 then (1 : Int) else 0) := ⟨_, rfl⟩
  refine fw_cv (y := iI b1) (by rw [hb1]) ?_
  replace hb1 : (b1 = 1 ∧ cs p ≤ 8) ∨ (b1 = 0 ∧ 8 < cs p) := by rw [hb1]; split <;> omega
  replace hz := hz2.trans hz
  clear hz1 hz2
  rw [hM9] at hH
  refine fw_if_eq (tgt := 29) E dX6_isFoldable_5 (by decide) (by omega) (by omega) (fun c5 => ?_) (fun c5 => ?_)
  · refine lv_iconst (v := iI 0) E.1 E.2.1 dX6_isFoldable_29 (by decide) ?_
    refine fw_zret (r := (iI 0)) E hr hlk hH (by rfl) ?_ dX6_isFoldable_30
    exact ⟨⟨_, rfl, Or.inr rfl⟩, rfl, hz⟩
  · refine lv_aload_n E.1 E.2.1 dX6_isFoldable_8 rfl (lv_at hl 0 rfl) ?_
    refine lv_iload_n E.1 E.2.1 dX6_isFoldable_9 rfl (lv_at hl 1 rfl) ?_
    refine fw_cV (As := [.int (iI ↑p)]) (rest := []) E hK hH hl hT.2.1 fc_X8 fL_X8_span ql_RX6_52 qi_yX8_span qv_yX8_span (k_span l G _ _ a cs vs ss hs (↑n : Int) (↑(lvF n C sp) : Int) ↑p p hT (by omega) (by omega)) rfl rfl (Nat.le_of_ble_eq_true rfl) ⟨Nat.le_of_ble_eq_true rfl, Nat.le_of_ble_eq_true rfl⟩ ⟨Nat.le_of_ble_eq_true rfl, Nat.le_of_ble_eq_true rfl⟩ dX6_isFoldable_10 (fw_ki fun r8 M7 H1 locs1 hp6 hH hz1 => ?_)
    obtain ⟨rfl, hM9, hz2⟩ := hp6
    replace hz := hz2.trans hz
    clear hz1 hz2
    rw [hM9] at hH
    refine fw_cv (y := iI (↑(sp p) : Int)) (congrArg iI (hag p hp).2.2) ?_
    refine lv_iconst (v := iI 1) E.1 E.2.1 dX6_isFoldable_13 (by decide) ?_
    refine fw_icmp_le (tgt := 29) E dX6_isFoldable_14 (by decide) (by omega) (by omega) (by omega) (by omega) (fun c9 => ?_) (fun c9 => ?_)
    · refine lv_iconst (v := iI 0) E.1 E.2.1 dX6_isFoldable_29 (by decide) ?_
      refine fw_zret (r := (iI 0)) E hr hlk hH (by rfl) ?_ dX6_isFoldable_30
      exact ⟨⟨_, rfl, Or.inr rfl⟩, rfl, hz⟩
    · refine lv_aload_n E.1 E.2.1 dX6_isFoldable_17 rfl (lv_at hl 0 rfl) ?_
      refine lv_iload_n E.1 E.2.1 dX6_isFoldable_18 rfl (lv_at hl 1 rfl) ?_
      refine fw_cV (As := [.int (iI ↑p)]) (rest := []) E hK hH hl hT.2.1 fc_X8 fL_X8_hasInput ql_RX6_56 qi_yX8_hasInput qv_yX8_hasInput (k_hasInput l G _ _ a n C V sp ⟨_, _, _, _, hT, hag, hbd⟩ hv p (by omega) ) rfl rfl (Nat.le_of_ble_eq_true rfl) ⟨Nat.le_of_ble_eq_true rfl, Nat.le_of_ble_eq_true rfl⟩ ⟨Nat.le_of_ble_eq_true rfl, Nat.le_of_ble_eq_true rfl⟩ dX6_isFoldable_19 (fw_ki fun r13 M12 H1 locs1 hp11 hH hz1 => ?_)
      obtain ⟨⟨b10, rfl, hb10⟩, hM9, hz2⟩ := hp11
      replace hz := hz2.trans hz
      clear hz1 hz2
      rw [hM9] at hH
      refine fw_if_ne (tgt := 29) E dX6_isFoldable_22 (by decide) (by omega) (by omega) (fun c14 => ?_) (fun c14 => ?_)
      · refine lv_iconst (v := iI 0) E.1 E.2.1 dX6_isFoldable_29 (by decide) ?_
        refine fw_zret (r := (iI 0)) E hr hlk hH (by rfl) ?_ dX6_isFoldable_30
        exact ⟨⟨_, rfl, Or.inr rfl⟩, rfl, hz⟩
      · refine lv_iconst (v := iI 1) E.1 E.2.1 dX6_isFoldable_25 (by decide) ?_
        refine lv_goto (tgt := 30) E.1 E.2.1 dX6_isFoldable_26 (by decide) ?_
        refine fw_zret (r := (iI 1)) E hr hlk hH (by rfl) ?_ dX6_isFoldable_30
        exact ⟨⟨_, rfl, Or.inl ⟨rfl, by omega, by omega, hb10.resolve_left (by omega) |>.2⟩⟩, rfl, hz⟩
set_option maxHeartbeats 1000000 in
theorem k_isNothing (l : Launch) (G : fw_G) (M : fw_M) (N : Nat) (a n : Nat) (C V : Nat → Int) (sp : Nat → Nat) (hA : tw G M a n C V sp) (hv : vtOK n C V sp) (p : Nat) (hp : p < n) : fMet l yX6_isNothing cX6_isNothing 5 (some .boolean) 3 90 0 0 G M N [.ref a, .int (iI ↑p)] (fw_pi (fun r M1 n1 => (∃ b : Int, r = iI b ∧ ((b = 1 ∧ C p ≤ 8 ∧ 1 < sp p ∧ ∀ inp, evF inp C V sp p = 0) ∨ b = 0)) ∧ M1 = M ∧ n1 = N)) := by
  refine fw_met RX6 rfl (by decide +kernel) (Nat.le_of_ble_eq_true rfl) ?_
  intro pG e s m args below meth cG ls E hr hlk hnm hK hH hz hl
  obtain ⟨cs, vs, ss, hs, hT, hag, hbd⟩ := hA
  obtain ⟨⟨hn0, hn1⟩, hs0, hc0, hsp, hty, hnd⟩ := id hv
  have hc13 := (hnd p hp).1
  have hcp := (hag p hp).1
  refine lv_iload_n E.1 E.2.1 dX6_isNothing_0 rfl (lv_at hl 1 rfl) ?_
  refine lv_iconst (v := iI 1) E.1 E.2.1 dX6_isNothing_1 (by decide) ?_
  refine fw_iadd E dX6_isNothing_2 ?_
  refine fw_cv (y := iI (↑(p + 1) : Int)) (congrArg iI (by omega)) ?_
  refine lv_istore_n (lv' := [(2, .int (iI (↑(p + 1) : Int))), (0, .ref a), (1, .int (iI ↑p))]) E.1 E.2.1 dX6_isNothing_3 rfl hl (by decide) rfl (fun ls hl => ?_)
  refine lv_aload_n E.1 E.2.1 dX6_isNothing_4 rfl (lv_at hl 1 rfl) ?_
  refine lv_iload_n E.1 E.2.1 dX6_isNothing_5 rfl (lv_at hl 0 rfl) ?_
  refine fw_cV (As := [.int (iI (↑(p + 1) : Int))]) (rest := []) E hK hH hl hT.2.1 fc_X8 fL_X8_behind ql_RX6_59 qi_yX8_behind qv_yX8_behind (k_behindG l G _ _ a cs vs ss hs (↑n : Int) (↑(lvF n C sp) : Int) (↑(p + 1) : Int) hT (by omega)) rfl rfl (Nat.le_of_ble_eq_true rfl) ⟨Nat.le_of_ble_eq_true rfl, Nat.le_of_ble_eq_true rfl⟩ ⟨Nat.le_of_ble_eq_true rfl, Nat.le_of_ble_eq_true rfl⟩ dX6_isNothing_6 (fw_ki fun r3 M2 H1 locs1 hp1 hH hz1 => ?_)
  obtain ⟨rfl, hM9, hz2⟩ := hp1
  replace hz := hz2.trans hz
  clear hz1 hz2
  rw [hM9] at hH
  have hb2 := atF_b (n := 40) (z := ↑(p + 1)) hbd
  obtain ⟨q2, hq2⟩ : ∃ y : Nat, (↑y : Int) = ↑(p + 1) + atF ss 40 ↑(p + 1) := ⟨(↑(p + 1) + atF ss 40 ↑(p + 1)).toNat, by omega⟩
  refine fw_cv (y := iI ↑q2) (by rw [hq2]) ?_
  refine lv_istore_n (lv' := [(3, .int (iI ↑q2)), (2, .int (iI (↑(p + 1) : Int))), (0, .ref a), (1, .int (iI ↑p))]) E.1 E.2.1 dX6_isNothing_9 rfl hl (by decide) rfl (fun ls hl => ?_)
  refine lv_aload_n E.1 E.2.1 dX6_isNothing_10 rfl (lv_at hl 2 rfl) ?_
  refine lv_iload_n E.1 E.2.1 dX6_isNothing_11 rfl (lv_at hl 3 rfl) ?_
  refine fw_cV (As := [.int (iI ↑p)]) (rest := []) E hK hH hl hT.2.1 fc_X8 fL_X8_code ql_RX6_62 qi_yX8_code qv_yX8_code (k_code l G _ _ a cs vs ss hs (↑n : Int) (↑(lvF n C sp) : Int) ↑p p hT (by omega) (by omega)) rfl rfl (Nat.le_of_ble_eq_true rfl) ⟨Nat.le_of_ble_eq_true rfl, Nat.le_of_ble_eq_true rfl⟩ ⟨Nat.le_of_ble_eq_true rfl, Nat.le_of_ble_eq_true rfl⟩ dX6_isNothing_12 (fw_ki fun r6 M5 H1 locs1 hp4 hH hz1 => ?_)
  obtain ⟨rfl, hM9, hz2⟩ := hp4
  replace hz := hz2.trans hz
  clear hz1 hz2
  rw [hM9] at hH
  refine fw_cv (y := iI (C p)) (congrArg iI hcp) ?_
  refine lv_istore (lv' := [(4, .int (iI (C p))), (3, .int (iI ↑q2)), (2, .int (iI (↑(p + 1) : Int))), (0, .ref a), (1, .int (iI ↑p))]) E.1 E.2.1 dX6_isNothing_15 hl (by decide) rfl (fun ls hl => ?_)
  refine lv_iload E.1 E.2.1 dX6_isNothing_17 (lv_at hl 0 rfl) ?_
  refine lv_iconst (v := iI 3) E.1 E.2.1 dX6_isNothing_19 (by decide) ?_
  refine fw_icmp_ne (tgt := 32) E dX6_isNothing_20 (by decide) (by omega) (by omega) (by omega) (by omega) (fun c7 => ?_) (fun c7 => ?_)
  · refine lv_iload E.1 E.2.1 dX6_isNothing_32 (lv_at hl 0 rfl) ?_
    refine lv_iconst (v := iI 4) E.1 E.2.1 dX6_isNothing_34 (by decide) ?_
    refine fw_icmp_ne (tgt := 60) E dX6_isNothing_35 (by decide) (by omega) (by omega) (by omega) (by omega) (fun c8 => ?_) (fun c8 => ?_)
    · refine lv_iconst (v := iI 0) E.1 E.2.1 dX6_isNothing_60 (by decide) ?_
      refine fw_zret (r := (iI 0)) E hr hlk hH (by rfl) ?_ dX6_isNothing_61
      exact ⟨⟨_, rfl, Or.inr rfl⟩, rfl, hz⟩
    · have hx : C p = 4 := by omega
      have q0 : p + 1 < p + sp p ∧ p + 1 < n := chP_lt hsp hp (i := 0) (by rw [hx]; decide)
      have f2 : q2 = p + 1 + sp (p + 1) := by rw [atF_in (k := p + 1) (by omega) (by omega), (hag (p + 1) q0.2).2.2] at hq2; omega
      have c1e : chP sp p 1 = q2 := by rw [f2]; rfl
      have q1 : q2 < n := by rw [← c1e]; exact (chP_lt hsp hp (i := 1) (by rw [hx]; decide)).2
      refine lv_aload_n E.1 E.2.1 dX6_isNothing_38 rfl (lv_at hl 3 rfl) ?_
      refine lv_iload_n E.1 E.2.1 dX6_isNothing_39 rfl (lv_at hl 2 rfl) ?_
      refine lv_iconst (v := iI 0) E.1 E.2.1 dX6_isNothing_40 (by decide) ?_
      refine fw_cV (As := [.int (iI (↑(p + 1) : Int)), .int (iI 0)]) (rest := []) E hK hH hl hT.2.1 fc_X8 fL_X8_isConstant ql_RX6_65 qi_yX8_isConstant qv_yX8_isConstant (k_isConstant l G _ _ a n C V sp ⟨_, _, _, _, hT, hag, hbd⟩ hv (p + 1) 0 (by omega) (by omega)) rfl rfl (Nat.le_of_ble_eq_true rfl) ⟨Nat.le_of_ble_eq_true rfl, Nat.le_of_ble_eq_true rfl⟩ ⟨Nat.le_of_ble_eq_true rfl, Nat.le_of_ble_eq_true rfl⟩ dX6_isNothing_41 (fw_ki fun r12 M11 H1 locs1 hp10 hH hz1 => ?_)
      obtain ⟨⟨b9, rfl, hb9⟩, hM9, hz2⟩ := hp10
      replace hz := hz2.trans hz
      clear hz1 hz2
      rw [hM9] at hH
      refine fw_if_ne (tgt := 56) E dX6_isNothing_44 (by decide) (by omega) (by omega) (fun c13 => ?_) (fun c13 => ?_)
      · refine lv_iconst (v := iI 1) E.1 E.2.1 dX6_isNothing_56 (by decide) ?_
        refine lv_goto (tgt := 61) E.1 E.2.1 dX6_isNothing_57 (by decide) ?_
        refine fw_zret (r := (iI 1)) E hr hlk hH (by rfl) ?_ dX6_isNothing_61
        exact ⟨⟨_, rfl, Or.inl ⟨rfl, by omega, by omega, no_prod hv hp hx (i := 0) (by omega) (hb9.resolve_right (by omega)).2.1 (hb9.resolve_right (by omega)).2.2⟩⟩, rfl, hz⟩
      · refine lv_aload_n E.1 E.2.1 dX6_isNothing_47 rfl (lv_at hl 3 rfl) ?_
        refine lv_iload_n E.1 E.2.1 dX6_isNothing_48 rfl (lv_at hl 1 rfl) ?_
        refine lv_iconst (v := iI 0) E.1 E.2.1 dX6_isNothing_49 (by decide) ?_
        refine fw_cV (As := [.int (iI ↑q2), .int (iI 0)]) (rest := []) E hK hH hl hT.2.1 fc_X8 fL_X8_isConstant ql_RX6_65 qi_yX8_isConstant qv_yX8_isConstant (k_isConstant l G _ _ a n C V sp ⟨_, _, _, _, hT, hag, hbd⟩ hv q2 0 (by omega) (by omega)) rfl rfl (Nat.le_of_ble_eq_true rfl) ⟨Nat.le_of_ble_eq_true rfl, Nat.le_of_ble_eq_true rfl⟩ ⟨Nat.le_of_ble_eq_true rfl, Nat.le_of_ble_eq_true rfl⟩ dX6_isNothing_50 (fw_ki fun r17 M16 H1 locs1 hp15 hH hz1 => ?_)
        obtain ⟨⟨b14, rfl, hb14⟩, hM9, hz2⟩ := hp15
        replace hz := hz2.trans hz
        clear hz1 hz2
        rw [hM9] at hH
        refine fw_if_eq (tgt := 60) E dX6_isNothing_53 (by decide) (by omega) (by omega) (fun c18 => ?_) (fun c18 => ?_)
        · refine lv_iconst (v := iI 0) E.1 E.2.1 dX6_isNothing_60 (by decide) ?_
          refine fw_zret (r := (iI 0)) E hr hlk hH (by rfl) ?_ dX6_isNothing_61
          exact ⟨⟨_, rfl, Or.inr rfl⟩, rfl, hz⟩
        · refine lv_iconst (v := iI 1) E.1 E.2.1 dX6_isNothing_56 (by decide) ?_
          refine lv_goto (tgt := 61) E.1 E.2.1 dX6_isNothing_57 (by decide) ?_
          refine fw_zret (r := (iI 1)) E hr hlk hH (by rfl) ?_ dX6_isNothing_61
          exact ⟨⟨_, rfl, Or.inl ⟨rfl, by omega, by omega, no_prod hv hp hx (i := 1) (by omega) (by rw [c1e]; exact (hb14.resolve_right (by omega)).2.1) (by rw [c1e]; exact (hb14.resolve_right (by omega)).2.2)⟩⟩, rfl, hz⟩
  · have hx : C p = 3 := by omega
    have q0 : p + 1 < p + sp p ∧ p + 1 < n := chP_lt hsp hp (i := 0) (by rw [hx]; decide)
    have f2 : q2 = p + 1 + sp (p + 1) := by rw [atF_in (k := p + 1) (by omega) (by omega), (hag (p + 1) q0.2).2.2] at hq2; omega
    have c1e : chP sp p 1 = q2 := by rw [f2]; rfl
    have q1 : q2 < n := by rw [← c1e]; exact (chP_lt hsp hp (i := 1) (by rw [hx]; decide)).2
    refine lv_aload_n E.1 E.2.1 dX6_isNothing_23 rfl (lv_at hl 3 rfl) ?_
    refine lv_iload_n E.1 E.2.1 dX6_isNothing_24 rfl (lv_at hl 2 rfl) ?_
    refine lv_iload_n E.1 E.2.1 dX6_isNothing_25 rfl (lv_at hl 1 rfl) ?_
    refine fw_cV (As := [.int (iI (↑(p + 1) : Int)), .int (iI ↑q2)]) (rest := []) E hK hH hl hT.2.1 fc_X8 fL_X8_sameParts ql_RX6_69 qi_yX8_sameParts qv_yX8_sameParts (k_sameParts l G _ _ a n C V sp ⟨_, _, _, _, hT, hag, hbd⟩ hv (p + 1) q2 (by omega) (by omega) ) rfl rfl (Nat.le_of_ble_eq_true rfl) ⟨Nat.le_of_ble_eq_true rfl, Nat.le_of_ble_eq_true rfl⟩ ⟨Nat.le_of_ble_eq_true rfl, Nat.le_of_ble_eq_true rfl⟩ dX6_isNothing_26 (fw_ki fun r22 M21 H1 locs1 hp20 hH hz1 => ?_)
    obtain ⟨⟨b19, rfl, hb19⟩, hM9, hz2⟩ := hp20
    replace hz := hz2.trans hz
    clear hz1 hz2
    rw [hM9] at hH
    refine fw_if_ne (tgt := 56) E dX6_isNothing_29 (by decide) (by omega) (by omega) (fun c23 => ?_) (fun c23 => ?_)
    · refine lv_iconst (v := iI 1) E.1 E.2.1 dX6_isNothing_56 (by decide) ?_
      refine lv_goto (tgt := 61) E.1 E.2.1 dX6_isNothing_57 (by decide) ?_
      refine fw_zret (r := (iI 1)) E hr hlk hH (by rfl) ?_ dX6_isNothing_61
      exact ⟨⟨_, rfl, Or.inl ⟨rfl, by omega, by omega, no_part hv hp hx (fun inp => by rw [c1e]; exact st_same hv q0.2 q1 (hb19.resolve_right (by omega)).2.1 (hb19.resolve_right (by omega)).2.2 inp)⟩⟩, rfl, hz⟩
    · refine lv_iload E.1 E.2.1 dX6_isNothing_32 (lv_at hl 0 rfl) ?_
      refine lv_iconst (v := iI 4) E.1 E.2.1 dX6_isNothing_34 (by decide) ?_
      refine fw_icmp_ne (tgt := 60) E dX6_isNothing_35 (by decide) (by omega) (by omega) (by omega) (by omega) (fun c24 => ?_) (fun c24 => ?_)
      · refine lv_iconst (v := iI 0) E.1 E.2.1 dX6_isNothing_60 (by decide) ?_
        refine fw_zret (r := (iI 0)) E hr hlk hH (by rfl) ?_ dX6_isNothing_61
        exact ⟨⟨_, rfl, Or.inr rfl⟩, rfl, hz⟩
      · have hx : C p = 4 := by omega
        have q0 : p + 1 < p + sp p ∧ p + 1 < n := chP_lt hsp hp (i := 0) (by rw [hx]; decide)
        have f2 : q2 = p + 1 + sp (p + 1) := by rw [atF_in (k := p + 1) (by omega) (by omega), (hag (p + 1) q0.2).2.2] at hq2; omega
        have c1e : chP sp p 1 = q2 := by rw [f2]; rfl
        have q1 : q2 < n := by rw [← c1e]; exact (chP_lt hsp hp (i := 1) (by rw [hx]; decide)).2
        refine lv_aload_n E.1 E.2.1 dX6_isNothing_38 rfl (lv_at hl 3 rfl) ?_
        refine lv_iload_n E.1 E.2.1 dX6_isNothing_39 rfl (lv_at hl 2 rfl) ?_
        refine lv_iconst (v := iI 0) E.1 E.2.1 dX6_isNothing_40 (by decide) ?_
        refine fw_cV (As := [.int (iI (↑(p + 1) : Int)), .int (iI 0)]) (rest := []) E hK hH hl hT.2.1 fc_X8 fL_X8_isConstant ql_RX6_65 qi_yX8_isConstant qv_yX8_isConstant (k_isConstant l G _ _ a n C V sp ⟨_, _, _, _, hT, hag, hbd⟩ hv (p + 1) 0 (by omega) (by omega)) rfl rfl (Nat.le_of_ble_eq_true rfl) ⟨Nat.le_of_ble_eq_true rfl, Nat.le_of_ble_eq_true rfl⟩ ⟨Nat.le_of_ble_eq_true rfl, Nat.le_of_ble_eq_true rfl⟩ dX6_isNothing_41 (fw_ki fun r28 M27 H1 locs1 hp26 hH hz1 => ?_)
        obtain ⟨⟨b25, rfl, hb25⟩, hM9, hz2⟩ := hp26
        replace hz := hz2.trans hz
        clear hz1 hz2
        rw [hM9] at hH
        refine fw_if_ne (tgt := 56) E dX6_isNothing_44 (by decide) (by omega) (by omega) (fun c29 => ?_) (fun c29 => ?_)
        · refine lv_iconst (v := iI 1) E.1 E.2.1 dX6_isNothing_56 (by decide) ?_
          refine lv_goto (tgt := 61) E.1 E.2.1 dX6_isNothing_57 (by decide) ?_
          refine fw_zret (r := (iI 1)) E hr hlk hH (by rfl) ?_ dX6_isNothing_61
          exact ⟨⟨_, rfl, Or.inl ⟨rfl, by omega, by omega, no_prod hv hp hx (i := 0) (by omega) (hb25.resolve_right (by omega)).2.1 (hb25.resolve_right (by omega)).2.2⟩⟩, rfl, hz⟩
        · refine lv_aload_n E.1 E.2.1 dX6_isNothing_47 rfl (lv_at hl 3 rfl) ?_
          refine lv_iload_n E.1 E.2.1 dX6_isNothing_48 rfl (lv_at hl 1 rfl) ?_
          refine lv_iconst (v := iI 0) E.1 E.2.1 dX6_isNothing_49 (by decide) ?_
          refine fw_cV (As := [.int (iI ↑q2), .int (iI 0)]) (rest := []) E hK hH hl hT.2.1 fc_X8 fL_X8_isConstant ql_RX6_65 qi_yX8_isConstant qv_yX8_isConstant (k_isConstant l G _ _ a n C V sp ⟨_, _, _, _, hT, hag, hbd⟩ hv q2 0 (by omega) (by omega)) rfl rfl (Nat.le_of_ble_eq_true rfl) ⟨Nat.le_of_ble_eq_true rfl, Nat.le_of_ble_eq_true rfl⟩ ⟨Nat.le_of_ble_eq_true rfl, Nat.le_of_ble_eq_true rfl⟩ dX6_isNothing_50 (fw_ki fun r33 M32 H1 locs1 hp31 hH hz1 => ?_)
          obtain ⟨⟨b30, rfl, hb30⟩, hM9, hz2⟩ := hp31
          replace hz := hz2.trans hz
          clear hz1 hz2
          rw [hM9] at hH
          refine fw_if_eq (tgt := 60) E dX6_isNothing_53 (by decide) (by omega) (by omega) (fun c34 => ?_) (fun c34 => ?_)
          · refine lv_iconst (v := iI 0) E.1 E.2.1 dX6_isNothing_60 (by decide) ?_
            refine fw_zret (r := (iI 0)) E hr hlk hH (by rfl) ?_ dX6_isNothing_61
            exact ⟨⟨_, rfl, Or.inr rfl⟩, rfl, hz⟩
          · refine lv_iconst (v := iI 1) E.1 E.2.1 dX6_isNothing_56 (by decide) ?_
            refine lv_goto (tgt := 61) E.1 E.2.1 dX6_isNothing_57 (by decide) ?_
            refine fw_zret (r := (iI 1)) E hr hlk hH (by rfl) ?_ dX6_isNothing_61
            exact ⟨⟨_, rfl, Or.inl ⟨rfl, by omega, by omega, no_prod hv hp hx (i := 1) (by omega) (by rw [c1e]; exact (hb30.resolve_right (by omega)).2.1) (by rw [c1e]; exact (hb30.resolve_right (by omega)).2.2)⟩⟩, rfl, hz⟩
set_option maxHeartbeats 2000000 in
theorem k_partThatStays (l : Launch) (G : fw_G) (M : fw_M) (N : Nat) (a n : Nat) (C V : Nat → Int) (sp : Nat → Nat) (hA : tw G M a n C V sp) (hv : vtOK n C V sp) (p : Nat) (hp : p < n) : fMet l yX6_partThatStays cX6_partThatStays 4 (some .int) 3 90 0 0 G M N [.ref a, .int (iI ↑p)] (fw_pi (fun r M1 n1 => (∃ z : Int, r = iI z ∧ (z = -1 ∨ ∃ q : Nat, z = ↑q ∧ stOK n C V sp p q)) ∧ M1 = M ∧ n1 = N)) := by
  refine fw_met RX6 rfl (by decide +kernel) (Nat.le_of_ble_eq_true rfl) ?_
  intro pG e s m args below meth cG ls E hr hlk hnm hK hH hz hl
  obtain ⟨cs, vs, ss, hs, hT, hag, hbd⟩ := hA
  obtain ⟨⟨hn0, hn1⟩, hs0, hc0, hsp, hty, hnd⟩ := id hv
  have hc13 := (hnd p hp).1
  have hcp := (hag p hp).1
  refine lv_iload_n E.1 E.2.1 dX6_partThatStays_0 rfl (lv_at hl 1 rfl) ?_
  refine lv_iconst (v := iI 1) E.1 E.2.1 dX6_partThatStays_1 (by decide) ?_
  refine fw_iadd E dX6_partThatStays_2 ?_
  refine fw_cv (y := iI (↑(p + 1) : Int)) (congrArg iI (by omega)) ?_
  refine lv_istore_n (lv' := [(2, .int (iI (↑(p + 1) : Int))), (0, .ref a), (1, .int (iI ↑p))]) E.1 E.2.1 dX6_partThatStays_3 rfl hl (by decide) rfl (fun ls hl => ?_)
  refine lv_aload_n E.1 E.2.1 dX6_partThatStays_4 rfl (lv_at hl 1 rfl) ?_
  refine lv_iload_n E.1 E.2.1 dX6_partThatStays_5 rfl (lv_at hl 0 rfl) ?_
  refine fw_cV (As := [.int (iI (↑(p + 1) : Int))]) (rest := []) E hK hH hl hT.2.1 fc_X8 fL_X8_behind ql_RX6_59 qi_yX8_behind qv_yX8_behind (k_behindG l G _ _ a cs vs ss hs (↑n : Int) (↑(lvF n C sp) : Int) (↑(p + 1) : Int) hT (by omega)) rfl rfl (Nat.le_of_ble_eq_true rfl) ⟨Nat.le_of_ble_eq_true rfl, Nat.le_of_ble_eq_true rfl⟩ ⟨Nat.le_of_ble_eq_true rfl, Nat.le_of_ble_eq_true rfl⟩ dX6_partThatStays_6 (fw_ki fun r3 M2 H1 locs1 hp1 hH hz1 => ?_)
  obtain ⟨rfl, hM9, hz2⟩ := hp1
  replace hz := hz2.trans hz
  clear hz1 hz2
  rw [hM9] at hH
  have hb2 := atF_b (n := 40) (z := ↑(p + 1)) hbd
  obtain ⟨q2, hq2⟩ : ∃ y : Nat, (↑y : Int) = ↑(p + 1) + atF ss 40 ↑(p + 1) := ⟨(↑(p + 1) + atF ss 40 ↑(p + 1)).toNat, by omega⟩
  refine fw_cv (y := iI ↑q2) (by rw [hq2]) ?_
  refine lv_istore_n (lv' := [(3, .int (iI ↑q2)), (2, .int (iI (↑(p + 1) : Int))), (0, .ref a), (1, .int (iI ↑p))]) E.1 E.2.1 dX6_partThatStays_9 rfl hl (by decide) rfl (fun ls hl => ?_)
  refine lv_aload_n E.1 E.2.1 dX6_partThatStays_10 rfl (lv_at hl 2 rfl) ?_
  refine lv_iload_n E.1 E.2.1 dX6_partThatStays_11 rfl (lv_at hl 3 rfl) ?_
  refine fw_cV (As := [.int (iI ↑p)]) (rest := []) E hK hH hl hT.2.1 fc_X8 fL_X8_code ql_RX6_62 qi_yX8_code qv_yX8_code (k_code l G _ _ a cs vs ss hs (↑n : Int) (↑(lvF n C sp) : Int) ↑p p hT (by omega) (by omega)) rfl rfl (Nat.le_of_ble_eq_true rfl) ⟨Nat.le_of_ble_eq_true rfl, Nat.le_of_ble_eq_true rfl⟩ ⟨Nat.le_of_ble_eq_true rfl, Nat.le_of_ble_eq_true rfl⟩ dX6_partThatStays_12 (fw_ki fun r6 M5 H1 locs1 hp4 hH hz1 => ?_)
  obtain ⟨rfl, hM9, hz2⟩ := hp4
  replace hz := hz2.trans hz
  clear hz1 hz2
  rw [hM9] at hH
  refine fw_cv (y := iI (C p)) (congrArg iI hcp) ?_
  rcases (show C p = 2 ∨ C p = 3 ∨ C p = 4 ∨ C p = 5 ∨ C p = 6 ∨ C p = 7 ∨ C p = 8 ∨ C p = 9 ∨ C p = 10 ∨ C p = 11 ∨ C p = 12 ∨ C p = 13 ∨ C p = 0 ∨ C p = 1 by omega) with hx | hx | hx | hx | hx | hx | hx | hx | hx | hx | hx | hx | hx | hx
  · rw [hx]
    refine lv_tableIn (off := 61) (tgt := 76) E.1 E.2.1 dX6_partThatStays_15 (by decide) (by decide) (by decide +kernel) (by decide) ?_
    have q0 : p + 1 < p + sp p ∧ p + 1 < n := chP_lt hsp hp (i := 0) (by rw [hx]; decide)
    have f2 : q2 = p + 1 + sp (p + 1) := by rw [atF_in (k := p + 1) (by omega) (by omega), (hag (p + 1) q0.2).2.2] at hq2; omega
    have c1e : chP sp p 1 = q2 := by rw [f2]; rfl
    have q1 : q2 < n := by rw [← c1e]; exact (chP_lt hsp hp (i := 1) (by rw [hx]; decide)).2
    refine lv_aload_n E.1 E.2.1 dX6_partThatStays_76 rfl (lv_at hl 2 rfl) ?_
    refine lv_iload_n E.1 E.2.1 dX6_partThatStays_77 rfl (lv_at hl 0 rfl) ?_
    refine lv_iconst (v := iI 0) E.1 E.2.1 dX6_partThatStays_78 (by decide) ?_
    refine fw_cV (As := [.int (iI ↑q2), .int (iI 0)]) (rest := []) E hK hH hl hT.2.1 fc_X8 fL_X8_isConstant ql_RX6_65 qi_yX8_isConstant qv_yX8_isConstant (k_isConstant l G _ _ a n C V sp ⟨_, _, _, _, hT, hag, hbd⟩ hv q2 0 (by omega) (by omega)) rfl rfl (Nat.le_of_ble_eq_true rfl) ⟨Nat.le_of_ble_eq_true rfl, Nat.le_of_ble_eq_true rfl⟩ ⟨Nat.le_of_ble_eq_true rfl, Nat.le_of_ble_eq_true rfl⟩ dX6_partThatStays_79 (fw_ki fun r10 M9 H1 locs1 hp8 hH hz1 => ?_)
    obtain ⟨⟨b7, rfl, hb7⟩, hM9, hz2⟩ := hp8
    replace hz := hz2.trans hz
    clear hz1 hz2
    rw [hM9] at hH
    refine fw_if_eq (tgt := 89) E dX6_partThatStays_82 (by decide) (by omega) (by omega) (fun c11 => ?_) (fun c11 => ?_)
    · refine lv_aload_n E.1 E.2.1 dX6_partThatStays_89 rfl (lv_at hl 2 rfl) ?_
      refine lv_iload_n E.1 E.2.1 dX6_partThatStays_90 rfl (lv_at hl 1 rfl) ?_
      refine lv_iconst (v := iI 0) E.1 E.2.1 dX6_partThatStays_91 (by decide) ?_
      refine fw_cV (As := [.int (iI (↑(p + 1) : Int)), .int (iI 0)]) (rest := []) E hK hH hl hT.2.1 fc_X8 fL_X8_isConstant ql_RX6_65 qi_yX8_isConstant qv_yX8_isConstant (k_isConstant l G _ _ a n C V sp ⟨_, _, _, _, hT, hag, hbd⟩ hv (p + 1) 0 (by omega) (by omega)) rfl rfl (Nat.le_of_ble_eq_true rfl) ⟨Nat.le_of_ble_eq_true rfl, Nat.le_of_ble_eq_true rfl⟩ ⟨Nat.le_of_ble_eq_true rfl, Nat.le_of_ble_eq_true rfl⟩ dX6_partThatStays_92 (fw_ki fun r15 M14 H1 locs1 hp13 hH hz1 => ?_)
      obtain ⟨⟨b12, rfl, hb12⟩, hM9, hz2⟩ := hp13
      replace hz := hz2.trans hz
      clear hz1 hz2
      rw [hM9] at hH
      refine fw_if_eq (tgt := 102) E dX6_partThatStays_95 (by decide) (by omega) (by omega) (fun c16 => ?_) (fun c16 => ?_)
      · refine lv_iconst (v := iI (-1)) E.1 E.2.1 dX6_partThatStays_102 (by decide) ?_
        refine fw_iret E hr hlk hH ?_ dX6_partThatStays_103
        exact ⟨⟨_, rfl, Or.inl rfl⟩, rfl, hz⟩
      · refine lv_iload_n E.1 E.2.1 dX6_partThatStays_98 rfl (lv_at hl 0 rfl) ?_
        refine lv_goto (tgt := 103) E.1 E.2.1 dX6_partThatStays_99 (by decide) ?_
        refine fw_iret E hr hlk hH ?_ dX6_partThatStays_103
        exact ⟨⟨_, rfl, Or.inr ⟨q2, rfl, st_pair hv hp (i := 1) (by rw [hx]; decide) c1e (by unfold ptNm; omega) (by omega) (by omega) (fun inp => by rw [hx, show chP sp p 0 = p + 1 from rfl, evF_const hv q0.2 (hb12.resolve_right (by omega)).2.1, (hb12.resolve_right (by omega)).2.2, c1e]; show 0 + evF inp C V sp q2 = evF inp C V sp q2; omega)⟩⟩, rfl, hz⟩
    · refine lv_iload_n E.1 E.2.1 dX6_partThatStays_85 rfl (lv_at hl 1 rfl) ?_
      refine lv_goto (tgt := 103) E.1 E.2.1 dX6_partThatStays_86 (by decide) ?_
      refine fw_iret E hr hlk hH ?_ dX6_partThatStays_103
      exact ⟨⟨_, rfl, Or.inr ⟨(p + 1), rfl, st_pair hv hp (i := 0) (by rw [hx]; decide) rfl (by unfold ptNm; omega) (by omega) (by omega) (fun inp => by rw [hx, c1e, evF_const hv q1 (hb7.resolve_right (by omega)).2.1, (hb7.resolve_right (by omega)).2.2]; show evF inp C V sp (p + 1) + 0 = evF inp C V sp (p + 1); omega)⟩⟩, rfl, hz⟩
  · rw [hx]
    refine lv_tableIn (off := 89) (tgt := 104) E.1 E.2.1 dX6_partThatStays_15 (by decide) (by decide) (by decide +kernel) (by decide) ?_
    have q0 : p + 1 < p + sp p ∧ p + 1 < n := chP_lt hsp hp (i := 0) (by rw [hx]; decide)
    have f2 : q2 = p + 1 + sp (p + 1) := by rw [atF_in (k := p + 1) (by omega) (by omega), (hag (p + 1) q0.2).2.2] at hq2; omega
    have c1e : chP sp p 1 = q2 := by rw [f2]; rfl
    have q1 : q2 < n := by rw [← c1e]; exact (chP_lt hsp hp (i := 1) (by rw [hx]; decide)).2
    refine lv_aload_n E.1 E.2.1 dX6_partThatStays_104 rfl (lv_at hl 2 rfl) ?_
    refine lv_iload_n E.1 E.2.1 dX6_partThatStays_105 rfl (lv_at hl 0 rfl) ?_
    refine lv_iconst (v := iI 0) E.1 E.2.1 dX6_partThatStays_106 (by decide) ?_
    refine fw_cV (As := [.int (iI ↑q2), .int (iI 0)]) (rest := []) E hK hH hl hT.2.1 fc_X8 fL_X8_isConstant ql_RX6_65 qi_yX8_isConstant qv_yX8_isConstant (k_isConstant l G _ _ a n C V sp ⟨_, _, _, _, hT, hag, hbd⟩ hv q2 0 (by omega) (by omega)) rfl rfl (Nat.le_of_ble_eq_true rfl) ⟨Nat.le_of_ble_eq_true rfl, Nat.le_of_ble_eq_true rfl⟩ ⟨Nat.le_of_ble_eq_true rfl, Nat.le_of_ble_eq_true rfl⟩ dX6_partThatStays_107 (fw_ki fun r20 M19 H1 locs1 hp18 hH hz1 => ?_)
    obtain ⟨⟨b17, rfl, hb17⟩, hM9, hz2⟩ := hp18
    replace hz := hz2.trans hz
    clear hz1 hz2
    rw [hM9] at hH
    refine fw_if_eq (tgt := 117) E dX6_partThatStays_110 (by decide) (by omega) (by omega) (fun c21 => ?_) (fun c21 => ?_)
    · refine lv_iconst (v := iI (-1)) E.1 E.2.1 dX6_partThatStays_117 (by decide) ?_
      refine fw_iret E hr hlk hH ?_ dX6_partThatStays_118
      exact ⟨⟨_, rfl, Or.inl rfl⟩, rfl, hz⟩
    · refine lv_iload_n E.1 E.2.1 dX6_partThatStays_113 rfl (lv_at hl 1 rfl) ?_
      refine lv_goto (tgt := 118) E.1 E.2.1 dX6_partThatStays_114 (by decide) ?_
      refine fw_iret E hr hlk hH ?_ dX6_partThatStays_118
      exact ⟨⟨_, rfl, Or.inr ⟨(p + 1), rfl, st_pair hv hp (i := 0) (by rw [hx]; decide) rfl (by unfold ptNm; omega) (by omega) (by omega) (fun inp => by rw [hx, c1e, evF_const hv q1 (hb17.resolve_right (by omega)).2.1, (hb17.resolve_right (by omega)).2.2]; show evF inp C V sp (p + 1) - 0 = evF inp C V sp (p + 1); omega)⟩⟩, rfl, hz⟩
  · rw [hx]
    refine lv_tableIn (off := 104) (tgt := 119) E.1 E.2.1 dX6_partThatStays_15 (by decide) (by decide) (by decide +kernel) (by decide) ?_
    have q0 : p + 1 < p + sp p ∧ p + 1 < n := chP_lt hsp hp (i := 0) (by rw [hx]; decide)
    have f2 : q2 = p + 1 + sp (p + 1) := by rw [atF_in (k := p + 1) (by omega) (by omega), (hag (p + 1) q0.2).2.2] at hq2; omega
    have c1e : chP sp p 1 = q2 := by rw [f2]; rfl
    have q1 : q2 < n := by rw [← c1e]; exact (chP_lt hsp hp (i := 1) (by rw [hx]; decide)).2
    refine lv_aload_n E.1 E.2.1 dX6_partThatStays_119 rfl (lv_at hl 2 rfl) ?_
    refine lv_iload_n E.1 E.2.1 dX6_partThatStays_120 rfl (lv_at hl 0 rfl) ?_
    refine lv_iconst (v := iI 1) E.1 E.2.1 dX6_partThatStays_121 (by decide) ?_
    refine fw_cV (As := [.int (iI ↑q2), .int (iI 1)]) (rest := []) E hK hH hl hT.2.1 fc_X8 fL_X8_isConstant ql_RX6_65 qi_yX8_isConstant qv_yX8_isConstant (k_isConstant l G _ _ a n C V sp ⟨_, _, _, _, hT, hag, hbd⟩ hv q2 1 (by omega) (by omega)) rfl rfl (Nat.le_of_ble_eq_true rfl) ⟨Nat.le_of_ble_eq_true rfl, Nat.le_of_ble_eq_true rfl⟩ ⟨Nat.le_of_ble_eq_true rfl, Nat.le_of_ble_eq_true rfl⟩ dX6_partThatStays_122 (fw_ki fun r25 M24 H1 locs1 hp23 hH hz1 => ?_)
    obtain ⟨⟨b22, rfl, hb22⟩, hM9, hz2⟩ := hp23
    replace hz := hz2.trans hz
    clear hz1 hz2
    rw [hM9] at hH
    refine fw_if_eq (tgt := 132) E dX6_partThatStays_125 (by decide) (by omega) (by omega) (fun c26 => ?_) (fun c26 => ?_)
    · refine lv_aload_n E.1 E.2.1 dX6_partThatStays_132 rfl (lv_at hl 2 rfl) ?_
      refine lv_iload_n E.1 E.2.1 dX6_partThatStays_133 rfl (lv_at hl 1 rfl) ?_
      refine lv_iconst (v := iI 1) E.1 E.2.1 dX6_partThatStays_134 (by decide) ?_
      refine fw_cV (As := [.int (iI (↑(p + 1) : Int)), .int (iI 1)]) (rest := []) E hK hH hl hT.2.1 fc_X8 fL_X8_isConstant ql_RX6_65 qi_yX8_isConstant qv_yX8_isConstant (k_isConstant l G _ _ a n C V sp ⟨_, _, _, _, hT, hag, hbd⟩ hv (p + 1) 1 (by omega) (by omega)) rfl rfl (Nat.le_of_ble_eq_true rfl) ⟨Nat.le_of_ble_eq_true rfl, Nat.le_of_ble_eq_true rfl⟩ ⟨Nat.le_of_ble_eq_true rfl, Nat.le_of_ble_eq_true rfl⟩ dX6_partThatStays_135 (fw_ki fun r30 M29 H1 locs1 hp28 hH hz1 => ?_)
      obtain ⟨⟨b27, rfl, hb27⟩, hM9, hz2⟩ := hp28
      replace hz := hz2.trans hz
      clear hz1 hz2
      rw [hM9] at hH
      refine fw_if_eq (tgt := 145) E dX6_partThatStays_138 (by decide) (by omega) (by omega) (fun c31 => ?_) (fun c31 => ?_)
      · refine lv_iconst (v := iI (-1)) E.1 E.2.1 dX6_partThatStays_145 (by decide) ?_
        refine fw_iret E hr hlk hH ?_ dX6_partThatStays_146
        exact ⟨⟨_, rfl, Or.inl rfl⟩, rfl, hz⟩
      · refine lv_iload_n E.1 E.2.1 dX6_partThatStays_141 rfl (lv_at hl 0 rfl) ?_
        refine lv_goto (tgt := 146) E.1 E.2.1 dX6_partThatStays_142 (by decide) ?_
        refine fw_iret E hr hlk hH ?_ dX6_partThatStays_146
        exact ⟨⟨_, rfl, Or.inr ⟨q2, rfl, st_pair hv hp (i := 1) (by rw [hx]; decide) c1e (by unfold ptNm; omega) (by omega) (by omega) (fun inp => by rw [hx, show chP sp p 0 = p + 1 from rfl, evF_const hv q0.2 (hb27.resolve_right (by omega)).2.1, (hb27.resolve_right (by omega)).2.2, c1e]; exact Int.one_mul _)⟩⟩, rfl, hz⟩
    · refine lv_iload_n E.1 E.2.1 dX6_partThatStays_128 rfl (lv_at hl 1 rfl) ?_
      refine lv_goto (tgt := 146) E.1 E.2.1 dX6_partThatStays_129 (by decide) ?_
      refine fw_iret E hr hlk hH ?_ dX6_partThatStays_146
      exact ⟨⟨_, rfl, Or.inr ⟨(p + 1), rfl, st_pair hv hp (i := 0) (by rw [hx]; decide) rfl (by unfold ptNm; omega) (by omega) (by omega) (fun inp => by rw [hx, c1e, evF_const hv q1 (hb22.resolve_right (by omega)).2.1, (hb22.resolve_right (by omega)).2.2]; exact Int.mul_one _)⟩⟩, rfl, hz⟩
  · rw [hx]
    refine lv_tableIn (off := 132) (tgt := 147) E.1 E.2.1 dX6_partThatStays_15 (by decide) (by decide) (by decide +kernel) (by decide) ?_
    have q0 : p + 1 < p + sp p ∧ p + 1 < n := chP_lt hsp hp (i := 0) (by rw [hx]; decide)
    have f2 : q2 = p + 1 + sp (p + 1) := by rw [atF_in (k := p + 1) (by omega) (by omega), (hag (p + 1) q0.2).2.2] at hq2; omega
    have c1e : chP sp p 1 = q2 := by rw [f2]; rfl
    have q1 : q2 < n := by rw [← c1e]; exact (chP_lt hsp hp (i := 1) (by rw [hx]; decide)).2
    refine lv_aload_n E.1 E.2.1 dX6_partThatStays_147 rfl (lv_at hl 2 rfl) ?_
    refine lv_iload_n E.1 E.2.1 dX6_partThatStays_148 rfl (lv_at hl 0 rfl) ?_
    refine lv_iconst (v := iI 1) E.1 E.2.1 dX6_partThatStays_149 (by decide) ?_
    refine fw_cV (As := [.int (iI ↑q2), .int (iI 1)]) (rest := []) E hK hH hl hT.2.1 fc_X8 fL_X8_isConstant ql_RX6_65 qi_yX8_isConstant qv_yX8_isConstant (k_isConstant l G _ _ a n C V sp ⟨_, _, _, _, hT, hag, hbd⟩ hv q2 1 (by omega) (by omega)) rfl rfl (Nat.le_of_ble_eq_true rfl) ⟨Nat.le_of_ble_eq_true rfl, Nat.le_of_ble_eq_true rfl⟩ ⟨Nat.le_of_ble_eq_true rfl, Nat.le_of_ble_eq_true rfl⟩ dX6_partThatStays_150 (fw_ki fun r35 M34 H1 locs1 hp33 hH hz1 => ?_)
    obtain ⟨⟨b32, rfl, hb32⟩, hM9, hz2⟩ := hp33
    replace hz := hz2.trans hz
    clear hz1 hz2
    rw [hM9] at hH
    refine fw_if_eq (tgt := 160) E dX6_partThatStays_153 (by decide) (by omega) (by omega) (fun c36 => ?_) (fun c36 => ?_)
    · refine lv_iconst (v := iI (-1)) E.1 E.2.1 dX6_partThatStays_160 (by decide) ?_
      refine fw_iret E hr hlk hH ?_ dX6_partThatStays_161
      exact ⟨⟨_, rfl, Or.inl rfl⟩, rfl, hz⟩
    · refine lv_iload_n E.1 E.2.1 dX6_partThatStays_156 rfl (lv_at hl 1 rfl) ?_
      refine lv_goto (tgt := 161) E.1 E.2.1 dX6_partThatStays_157 (by decide) ?_
      refine fw_iret E hr hlk hH ?_ dX6_partThatStays_161
      exact ⟨⟨_, rfl, Or.inr ⟨(p + 1), rfl, st_pair hv hp (i := 0) (by rw [hx]; decide) rfl (by unfold ptNm; omega) (by omega) (by omega) (fun inp => by rw [hx, c1e, evF_const hv q1 (hb32.resolve_right (by omega)).2.1, (hb32.resolve_right (by omega)).2.2]; exact Int.tdiv_one _)⟩⟩, rfl, hz⟩
  · rw [hx]
    refine lv_tableIn (off := 147) (tgt := 162) E.1 E.2.1 dX6_partThatStays_15 (by decide) (by decide) (by decide +kernel) (by decide) ?_
    have q0 : p + 1 < p + sp p ∧ p + 1 < n := chP_lt hsp hp (i := 0) (by rw [hx]; decide)
    have f2 : q2 = p + 1 + sp (p + 1) := by rw [atF_in (k := p + 1) (by omega) (by omega), (hag (p + 1) q0.2).2.2] at hq2; omega
    have c1e : chP sp p 1 = q2 := by rw [f2]; rfl
    have q1 : q2 < n := by rw [← c1e]; exact (chP_lt hsp hp (i := 1) (by rw [hx]; decide)).2
    refine lv_aload_n E.1 E.2.1 dX6_partThatStays_162 rfl (lv_at hl 2 rfl) ?_
    refine lv_iload_n E.1 E.2.1 dX6_partThatStays_163 rfl (lv_at hl 1 rfl) ?_
    refine lv_iload_n E.1 E.2.1 dX6_partThatStays_164 rfl (lv_at hl 0 rfl) ?_
    refine fw_cV (As := [.int (iI (↑(p + 1) : Int)), .int (iI ↑q2)]) (rest := []) E hK hH hl hT.2.1 fc_X8 fL_X8_sameParts ql_RX6_69 qi_yX8_sameParts qv_yX8_sameParts (k_sameParts l G _ _ a n C V sp ⟨_, _, _, _, hT, hag, hbd⟩ hv (p + 1) q2 (by omega) (by omega) ) rfl rfl (Nat.le_of_ble_eq_true rfl) ⟨Nat.le_of_ble_eq_true rfl, Nat.le_of_ble_eq_true rfl⟩ ⟨Nat.le_of_ble_eq_true rfl, Nat.le_of_ble_eq_true rfl⟩ dX6_partThatStays_165 (fw_ki fun r40 M39 H1 locs1 hp38 hH hz1 => ?_)
    obtain ⟨⟨b37, rfl, hb37⟩, hM9, hz2⟩ := hp38
    replace hz := hz2.trans hz
    clear hz1 hz2
    rw [hM9] at hH
    refine fw_if_eq (tgt := 175) E dX6_partThatStays_168 (by decide) (by omega) (by omega) (fun c41 => ?_) (fun c41 => ?_)
    · refine lv_iconst (v := iI (-1)) E.1 E.2.1 dX6_partThatStays_175 (by decide) ?_
      refine fw_iret E hr hlk hH ?_ dX6_partThatStays_176
      exact ⟨⟨_, rfl, Or.inl rfl⟩, rfl, hz⟩
    · refine lv_iload_n E.1 E.2.1 dX6_partThatStays_171 rfl (lv_at hl 1 rfl) ?_
      refine lv_goto (tgt := 176) E.1 E.2.1 dX6_partThatStays_172 (by decide) ?_
      refine fw_iret E hr hlk hH ?_ dX6_partThatStays_176
      exact ⟨⟨_, rfl, Or.inr ⟨(p + 1), rfl, st_pair hv hp (i := 0) (by rw [hx]; decide) rfl (by unfold ptNm; omega) (by omega) (by omega) (fun inp => by rw [c1e, ← st_same hv q0.2 q1 (hb37.resolve_right (by omega)).2.1 (hb37.resolve_right (by omega)).2.2 inp]; exact prR_self (by omega))⟩⟩, rfl, hz⟩
  · rw [hx]
    refine lv_tableIn (off := 147) (tgt := 162) E.1 E.2.1 dX6_partThatStays_15 (by decide) (by decide) (by decide +kernel) (by decide) ?_
    have q0 : p + 1 < p + sp p ∧ p + 1 < n := chP_lt hsp hp (i := 0) (by rw [hx]; decide)
    have f2 : q2 = p + 1 + sp (p + 1) := by rw [atF_in (k := p + 1) (by omega) (by omega), (hag (p + 1) q0.2).2.2] at hq2; omega
    have c1e : chP sp p 1 = q2 := by rw [f2]; rfl
    have q1 : q2 < n := by rw [← c1e]; exact (chP_lt hsp hp (i := 1) (by rw [hx]; decide)).2
    refine lv_aload_n E.1 E.2.1 dX6_partThatStays_162 rfl (lv_at hl 2 rfl) ?_
    refine lv_iload_n E.1 E.2.1 dX6_partThatStays_163 rfl (lv_at hl 1 rfl) ?_
    refine lv_iload_n E.1 E.2.1 dX6_partThatStays_164 rfl (lv_at hl 0 rfl) ?_
    refine fw_cV (As := [.int (iI (↑(p + 1) : Int)), .int (iI ↑q2)]) (rest := []) E hK hH hl hT.2.1 fc_X8 fL_X8_sameParts ql_RX6_69 qi_yX8_sameParts qv_yX8_sameParts (k_sameParts l G _ _ a n C V sp ⟨_, _, _, _, hT, hag, hbd⟩ hv (p + 1) q2 (by omega) (by omega) ) rfl rfl (Nat.le_of_ble_eq_true rfl) ⟨Nat.le_of_ble_eq_true rfl, Nat.le_of_ble_eq_true rfl⟩ ⟨Nat.le_of_ble_eq_true rfl, Nat.le_of_ble_eq_true rfl⟩ dX6_partThatStays_165 (fw_ki fun r45 M44 H1 locs1 hp43 hH hz1 => ?_)
    obtain ⟨⟨b42, rfl, hb42⟩, hM9, hz2⟩ := hp43
    replace hz := hz2.trans hz
    clear hz1 hz2
    rw [hM9] at hH
    refine fw_if_eq (tgt := 175) E dX6_partThatStays_168 (by decide) (by omega) (by omega) (fun c46 => ?_) (fun c46 => ?_)
    · refine lv_iconst (v := iI (-1)) E.1 E.2.1 dX6_partThatStays_175 (by decide) ?_
      refine fw_iret E hr hlk hH ?_ dX6_partThatStays_176
      exact ⟨⟨_, rfl, Or.inl rfl⟩, rfl, hz⟩
    · refine lv_iload_n E.1 E.2.1 dX6_partThatStays_171 rfl (lv_at hl 1 rfl) ?_
      refine lv_goto (tgt := 176) E.1 E.2.1 dX6_partThatStays_172 (by decide) ?_
      refine fw_iret E hr hlk hH ?_ dX6_partThatStays_176
      exact ⟨⟨_, rfl, Or.inr ⟨(p + 1), rfl, st_pair hv hp (i := 0) (by rw [hx]; decide) rfl (by unfold ptNm; omega) (by omega) (by omega) (fun inp => by rw [c1e, ← st_same hv q0.2 q1 (hb42.resolve_right (by omega)).2.1 (hb42.resolve_right (by omega)).2.2 inp]; exact prR_self (by omega))⟩⟩, rfl, hz⟩
  · rw [hx]
    refine lv_tableIn (off := 162) (tgt := 177) E.1 E.2.1 dX6_partThatStays_15 (by decide) (by decide) (by decide +kernel) (by decide) ?_
    have q0 : p + 1 < p + sp p ∧ p + 1 < n := chP_lt hsp hp (i := 0) (by rw [hx]; decide)
    have f2 : q2 = p + 1 + sp (p + 1) := by rw [atF_in (k := p + 1) (by omega) (by omega), (hag (p + 1) q0.2).2.2] at hq2; omega
    have c1e : chP sp p 1 = q2 := by rw [f2]; rfl
    have q1 : q2 < n := by rw [← c1e]; exact (chP_lt hsp hp (i := 1) (by rw [hx]; decide)).2
    have f3 : q2 + sp q2 < n := by have g := (chP_lt hsp hp (i := 2) (by rw [hx]; decide)).2; have g2 : chP sp p 2 = q2 + sp q2 := (by show chP sp p 1 + sp (chP sp p 1) = _; rw [c1e]); omega
    refine lv_aload_n E.1 E.2.1 dX6_partThatStays_177 rfl (lv_at hl 2 rfl) ?_
    refine lv_iload_n E.1 E.2.1 dX6_partThatStays_178 rfl (lv_at hl 0 rfl) ?_
    refine lv_aload_n E.1 E.2.1 dX6_partThatStays_179 rfl (lv_at hl 2 rfl) ?_
    refine lv_iload_n E.1 E.2.1 dX6_partThatStays_180 rfl (lv_at hl 0 rfl) ?_
    refine fw_cV (As := [.int (iI ↑q2)]) (rest := [.int (iI ↑q2), .ref a]) E hK hH hl hT.2.1 fc_X8 fL_X8_behind ql_RX6_59 qi_yX8_behind qv_yX8_behind (k_behind l G _ _ a cs vs ss hs (↑n : Int) (↑(lvF n C sp) : Int) ↑q2 q2 hT (by omega) (by omega)) rfl rfl (Nat.le_of_ble_eq_true rfl) ⟨Nat.le_of_ble_eq_true rfl, Nat.le_of_ble_eq_true rfl⟩ ⟨Nat.le_of_ble_eq_true rfl, Nat.le_of_ble_eq_true rfl⟩ dX6_partThatStays_181 (fw_ki fun r49 M48 H1 locs1 hp47 hH hz1 => ?_)
    obtain ⟨rfl, hM9, hz2⟩ := hp47
    replace hz := hz2.trans hz
    clear hz1 hz2
    rw [hM9] at hH
    refine fw_cv (y := iI (↑(q2 + sp q2) : Int)) (congrArg iI (by rw [(hag q2 q1).2.2]; omega)) ?_
    refine fw_cV (As := [.int (iI ↑q2), .int (iI (↑(q2 + sp q2) : Int))]) (rest := []) E hK hH hl hT.2.1 fc_X8 fL_X8_sameParts ql_RX6_69 qi_yX8_sameParts qv_yX8_sameParts (k_sameParts l G _ _ a n C V sp ⟨_, _, _, _, hT, hag, hbd⟩ hv q2 (q2 + sp q2) (by omega) (by omega) ) rfl rfl (Nat.le_of_ble_eq_true rfl) ⟨Nat.le_of_ble_eq_true rfl, Nat.le_of_ble_eq_true rfl⟩ ⟨Nat.le_of_ble_eq_true rfl, Nat.le_of_ble_eq_true rfl⟩ dX6_partThatStays_184 (fw_ki fun r53 M52 H1 locs1 hp51 hH hz1 => ?_)
    obtain ⟨⟨b50, rfl, hb50⟩, hM9, hz2⟩ := hp51
    replace hz := hz2.trans hz
    clear hz1 hz2
    rw [hM9] at hH
    refine fw_if_eq (tgt := 194) E dX6_partThatStays_187 (by decide) (by omega) (by omega) (fun c54 => ?_) (fun c54 => ?_)
    · refine lv_iconst (v := iI (-1)) E.1 E.2.1 dX6_partThatStays_194 (by decide) ?_
      refine fw_iret E hr hlk hH ?_ dX6_partThatStays_195
      exact ⟨⟨_, rfl, Or.inl rfl⟩, rfl, hz⟩
    · refine lv_iload_n E.1 E.2.1 dX6_partThatStays_190 rfl (lv_at hl 0 rfl) ?_
      refine lv_goto (tgt := 195) E.1 E.2.1 dX6_partThatStays_191 (by decide) ?_
      refine fw_iret E hr hlk hH ?_ dX6_partThatStays_195
      exact ⟨⟨_, rfl, Or.inr ⟨q2, rfl, st_choice hv hp hx c1e q1 f3 (hb50.resolve_right (by omega)).2.1 (hb50.resolve_right (by omega)).2.2⟩⟩, rfl, hz⟩
  · rw [hx]
    refine lv_tableIn (off := 199) (tgt := 214) E.1 E.2.1 dX6_partThatStays_15 (by decide) (by decide) (by decide +kernel) (by decide) ?_
    refine lv_iconst (v := iI (-1)) E.1 E.2.1 dX6_partThatStays_214 (by decide) ?_
    refine fw_iret E hr hlk hH ?_ dX6_partThatStays_215
    exact ⟨⟨_, rfl, Or.inl rfl⟩, rfl, hz⟩
  · rw [hx]
    refine lv_tableIn (off := 199) (tgt := 214) E.1 E.2.1 dX6_partThatStays_15 (by decide) (by decide) (by decide +kernel) (by decide) ?_
    refine lv_iconst (v := iI (-1)) E.1 E.2.1 dX6_partThatStays_214 (by decide) ?_
    refine fw_iret E hr hlk hH ?_ dX6_partThatStays_215
    exact ⟨⟨_, rfl, Or.inl rfl⟩, rfl, hz⟩
  · rw [hx]
    refine lv_tableIn (off := 147) (tgt := 162) E.1 E.2.1 dX6_partThatStays_15 (by decide) (by decide) (by decide +kernel) (by decide) ?_
    have q0 : p + 1 < p + sp p ∧ p + 1 < n := chP_lt hsp hp (i := 0) (by rw [hx]; decide)
    have f2 : q2 = p + 1 + sp (p + 1) := by rw [atF_in (k := p + 1) (by omega) (by omega), (hag (p + 1) q0.2).2.2] at hq2; omega
    have c1e : chP sp p 1 = q2 := by rw [f2]; rfl
    have q1 : q2 < n := by rw [← c1e]; exact (chP_lt hsp hp (i := 1) (by rw [hx]; decide)).2
    refine lv_aload_n E.1 E.2.1 dX6_partThatStays_162 rfl (lv_at hl 2 rfl) ?_
    refine lv_iload_n E.1 E.2.1 dX6_partThatStays_163 rfl (lv_at hl 1 rfl) ?_
    refine lv_iload_n E.1 E.2.1 dX6_partThatStays_164 rfl (lv_at hl 0 rfl) ?_
    refine fw_cV (As := [.int (iI (↑(p + 1) : Int)), .int (iI ↑q2)]) (rest := []) E hK hH hl hT.2.1 fc_X8 fL_X8_sameParts ql_RX6_69 qi_yX8_sameParts qv_yX8_sameParts (k_sameParts l G _ _ a n C V sp ⟨_, _, _, _, hT, hag, hbd⟩ hv (p + 1) q2 (by omega) (by omega) ) rfl rfl (Nat.le_of_ble_eq_true rfl) ⟨Nat.le_of_ble_eq_true rfl, Nat.le_of_ble_eq_true rfl⟩ ⟨Nat.le_of_ble_eq_true rfl, Nat.le_of_ble_eq_true rfl⟩ dX6_partThatStays_165 (fw_ki fun r58 M57 H1 locs1 hp56 hH hz1 => ?_)
    obtain ⟨⟨b55, rfl, hb55⟩, hM9, hz2⟩ := hp56
    replace hz := hz2.trans hz
    clear hz1 hz2
    rw [hM9] at hH
    refine fw_if_eq (tgt := 175) E dX6_partThatStays_168 (by decide) (by omega) (by omega) (fun c59 => ?_) (fun c59 => ?_)
    · refine lv_iconst (v := iI (-1)) E.1 E.2.1 dX6_partThatStays_175 (by decide) ?_
      refine fw_iret E hr hlk hH ?_ dX6_partThatStays_176
      exact ⟨⟨_, rfl, Or.inl rfl⟩, rfl, hz⟩
    · refine lv_iload_n E.1 E.2.1 dX6_partThatStays_171 rfl (lv_at hl 1 rfl) ?_
      refine lv_goto (tgt := 176) E.1 E.2.1 dX6_partThatStays_172 (by decide) ?_
      refine fw_iret E hr hlk hH ?_ dX6_partThatStays_176
      exact ⟨⟨_, rfl, Or.inr ⟨(p + 1), rfl, st_pair hv hp (i := 0) (by rw [hx]; decide) rfl (by unfold ptNm; omega) (by omega) (by omega) (fun inp => by rw [c1e, ← st_same hv q0.2 q1 (hb55.resolve_right (by omega)).2.1 (hb55.resolve_right (by omega)).2.2 inp]; exact prR_self (by omega))⟩⟩, rfl, hz⟩
  · rw [hx]
    refine lv_tableIn (off := 147) (tgt := 162) E.1 E.2.1 dX6_partThatStays_15 (by decide) (by decide) (by decide +kernel) (by decide) ?_
    have q0 : p + 1 < p + sp p ∧ p + 1 < n := chP_lt hsp hp (i := 0) (by rw [hx]; decide)
    have f2 : q2 = p + 1 + sp (p + 1) := by rw [atF_in (k := p + 1) (by omega) (by omega), (hag (p + 1) q0.2).2.2] at hq2; omega
    have c1e : chP sp p 1 = q2 := by rw [f2]; rfl
    have q1 : q2 < n := by rw [← c1e]; exact (chP_lt hsp hp (i := 1) (by rw [hx]; decide)).2
    refine lv_aload_n E.1 E.2.1 dX6_partThatStays_162 rfl (lv_at hl 2 rfl) ?_
    refine lv_iload_n E.1 E.2.1 dX6_partThatStays_163 rfl (lv_at hl 1 rfl) ?_
    refine lv_iload_n E.1 E.2.1 dX6_partThatStays_164 rfl (lv_at hl 0 rfl) ?_
    refine fw_cV (As := [.int (iI (↑(p + 1) : Int)), .int (iI ↑q2)]) (rest := []) E hK hH hl hT.2.1 fc_X8 fL_X8_sameParts ql_RX6_69 qi_yX8_sameParts qv_yX8_sameParts (k_sameParts l G _ _ a n C V sp ⟨_, _, _, _, hT, hag, hbd⟩ hv (p + 1) q2 (by omega) (by omega) ) rfl rfl (Nat.le_of_ble_eq_true rfl) ⟨Nat.le_of_ble_eq_true rfl, Nat.le_of_ble_eq_true rfl⟩ ⟨Nat.le_of_ble_eq_true rfl, Nat.le_of_ble_eq_true rfl⟩ dX6_partThatStays_165 (fw_ki fun r63 M62 H1 locs1 hp61 hH hz1 => ?_)
    obtain ⟨⟨b60, rfl, hb60⟩, hM9, hz2⟩ := hp61
    replace hz := hz2.trans hz
    clear hz1 hz2
    rw [hM9] at hH
    refine fw_if_eq (tgt := 175) E dX6_partThatStays_168 (by decide) (by omega) (by omega) (fun c64 => ?_) (fun c64 => ?_)
    · refine lv_iconst (v := iI (-1)) E.1 E.2.1 dX6_partThatStays_175 (by decide) ?_
      refine fw_iret E hr hlk hH ?_ dX6_partThatStays_176
      exact ⟨⟨_, rfl, Or.inl rfl⟩, rfl, hz⟩
    · refine lv_iload_n E.1 E.2.1 dX6_partThatStays_171 rfl (lv_at hl 1 rfl) ?_
      refine lv_goto (tgt := 176) E.1 E.2.1 dX6_partThatStays_172 (by decide) ?_
      refine fw_iret E hr hlk hH ?_ dX6_partThatStays_176
      exact ⟨⟨_, rfl, Or.inr ⟨(p + 1), rfl, st_pair hv hp (i := 0) (by rw [hx]; decide) rfl (by unfold ptNm; omega) (by omega) (by omega) (fun inp => by rw [c1e, ← st_same hv q0.2 q1 (hb60.resolve_right (by omega)).2.1 (hb60.resolve_right (by omega)).2.2 inp]; exact prR_self (by omega))⟩⟩, rfl, hz⟩
  · rw [hx]
    refine lv_tableIn (off := 181) (tgt := 196) E.1 E.2.1 dX6_partThatStays_15 (by decide) (by decide) (by decide +kernel) (by decide) ?_
    have q0 : p + 1 < p + sp p ∧ p + 1 < n := chP_lt hsp hp (i := 0) (by rw [hx]; decide)
    have hc1 := (hnd (p + 1) q0.2).1
    refine lv_aload_n E.1 E.2.1 dX6_partThatStays_196 rfl (lv_at hl 2 rfl) ?_
    refine lv_iload_n E.1 E.2.1 dX6_partThatStays_197 rfl (lv_at hl 1 rfl) ?_
    refine fw_cV (As := [.int (iI (↑(p + 1) : Int))]) (rest := []) E hK hH hl hT.2.1 fc_X8 fL_X8_code ql_RX6_62 qi_yX8_code qv_yX8_code (k_code l G _ _ a cs vs ss hs (↑n : Int) (↑(lvF n C sp) : Int) (↑(p + 1) : Int) (p + 1) hT (by omega) (by omega)) rfl rfl (Nat.le_of_ble_eq_true rfl) ⟨Nat.le_of_ble_eq_true rfl, Nat.le_of_ble_eq_true rfl⟩ ⟨Nat.le_of_ble_eq_true rfl, Nat.le_of_ble_eq_true rfl⟩ dX6_partThatStays_198 (fw_ki fun r67 M66 H1 locs1 hp65 hH hz1 => ?_)
    obtain ⟨rfl, hM9, hz2⟩ := hp65
    replace hz := hz2.trans hz
    clear hz1 hz2
    rw [hM9] at hH
    refine fw_cv (y := iI (C (p + 1))) (congrArg iI (hag (p + 1) q0.2).1) ?_
    refine lv_bipush (v := iI 13) E.1 E.2.1 dX6_partThatStays_201 (by decide) ?_
    refine fw_icmp_ne (tgt := 212) E dX6_partThatStays_203 (by decide) (by omega) (by omega) (by omega) (by omega) (fun c68 => ?_) (fun c68 => ?_)
    · refine lv_iconst (v := iI (-1)) E.1 E.2.1 dX6_partThatStays_212 (by decide) ?_
      refine fw_iret E hr hlk hH ?_ dX6_partThatStays_213
      exact ⟨⟨_, rfl, Or.inl rfl⟩, rfl, hz⟩
    · refine lv_iload_n E.1 E.2.1 dX6_partThatStays_206 rfl (lv_at hl 1 rfl) ?_
      refine lv_iconst (v := iI 1) E.1 E.2.1 dX6_partThatStays_207 (by decide) ?_
      refine fw_iadd E dX6_partThatStays_208 ?_
      refine lv_goto (tgt := 213) E.1 E.2.1 dX6_partThatStays_209 (by decide) ?_
      refine fw_iret E hr hlk hH ?_ dX6_partThatStays_213
      exact ⟨⟨_, rfl, Or.inr ⟨(p + 2), by omega, st_notnot hv hp hx (by omega)⟩⟩, rfl, hz⟩
  · rw [hx]
    refine lv_tableOut (tgt := 214) E.1 E.2.1 dX6_partThatStays_15 (Or.inl (by decide)) (by decide) ?_
    refine lv_iconst (v := iI (-1)) E.1 E.2.1 dX6_partThatStays_214 (by decide) ?_
    refine fw_iret E hr hlk hH ?_ dX6_partThatStays_215
    exact ⟨⟨_, rfl, Or.inl rfl⟩, rfl, hz⟩
  · rw [hx]
    refine lv_tableOut (tgt := 214) E.1 E.2.1 dX6_partThatStays_15 (Or.inl (by decide)) (by decide) ?_
    refine lv_iconst (v := iI (-1)) E.1 E.2.1 dX6_partThatStays_214 (by decide) ?_
    refine fw_iret E hr hlk hH ?_ dX6_partThatStays_215
    exact ⟨⟨_, rfl, Or.inl rfl⟩, rfl, hz⟩

set_option maxHeartbeats 2000000 in
theorem k_changeAt (l : Launch) (G : fw_G) (M : fw_M) (N : Nat) (so a n p : Nat) (rs C V : Nat → Int) (sp : Nat → Nat) (hS : siAt G M so (fun _ => 0) rs) (hA : tw G M a n C V sp) (hv : vtOK n C V sp) (hsep : so + 4 ≤ a ∨ a + 5 ≤ so) (hp : p < n) : fMet l yX6_changeAt cX6_changeAt 4 (some .boolean) 4 130 0 0 G M N [.ref so, .ref a, .int (iI ↑p)] (fw_pi (fun r M1 n1 => (∃ b : Int, r = iI b ∧ ((b = 1 ∧ ∃ (n2 : Nat) (C2 V2 : Nat → Int) (sp2 : Nat → Nat), tw G M1 a n2 C2 V2 sp2 ∧ sR n C V sp n2 C2 V2 sp2 ∧ n2 < n) ∨ (b = 0 ∧ tw G M1 a n C V sp))) ∧ (∃ rs1 : Nat → Int, siAt G M1 so (fun _ => 0) rs1) ∧ (∀ q, (q < so + 1 ∨ so + 4 ≤ q) ∧ (q < a ∨ a + 5 ≤ q) → M1 q = M q) ∧ n1 = N)) := by
  refine fw_met RX6 rfl (by decide +kernel) (Nat.le_of_ble_eq_true rfl) ?_
  intro pG e s m args below meth cG ls E hr hlk hnm hK hH hz hl
  obtain ⟨hbs, s0, hR⟩ := hS
  obtain ⟨cs, vs, ss, hs, hT, hag, hbd⟩ := hA
  obtain ⟨⟨hn0, hn1⟩, hs0, hc0, hsp, hty, hnd⟩ := id hv
  refine lv_aload_n E.1 E.2.1 dX6_changeAt_0 rfl (lv_at hl 1 rfl) ?_
  refine lv_iload_n E.1 E.2.1 dX6_changeAt_1 rfl (lv_at hl 2 rfl) ?_
  refine fw_cS (As := [.ref a, .int (iI ↑p)]) (rest := []) E hK hH hl fL_X6_isFoldable ql_RX6_28 qs_yX6_isFoldable (k_isFoldable l G _ _ a n C V sp ⟨_, _, _, _, hT, hag, hbd⟩ hv p hp) rfl rfl (Nat.le_of_ble_eq_true rfl) ⟨Nat.le_of_ble_eq_true rfl, Nat.le_of_ble_eq_true rfl⟩ ⟨Nat.le_of_ble_eq_true rfl, Nat.le_of_ble_eq_true rfl⟩ dX6_changeAt_2 (fw_ki fun r4 M3 H1 locs1 hp2 hH hz1 => ?_)
  obtain ⟨⟨b1, rfl, hb1⟩, hM9, hz2⟩ := hp2
  replace hz := hz2.trans hz
  clear hz1 hz2
  rw [hM9] at hH
  refine fw_if_eq (tgt := 38) E dX6_changeAt_5 (by decide) (by omega) (by omega) (fun c5 => ?_) (fun c5 => ?_)
  · refine lv_aload_n E.1 E.2.1 dX6_changeAt_38 rfl (lv_at hl 1 rfl) ?_
    refine lv_iload_n E.1 E.2.1 dX6_changeAt_39 rfl (lv_at hl 2 rfl) ?_
    refine fw_cS (As := [.ref a, .int (iI ↑p)]) (rest := []) E hK hH hl fL_X6_partThatStays ql_RX6_39 qs_yX6_partThatStays (k_partThatStays l G _ _ a n C V sp ⟨_, _, _, _, hT, hag, hbd⟩ hv p hp) rfl rfl (Nat.le_of_ble_eq_true rfl) ⟨Nat.le_of_ble_eq_true rfl, Nat.le_of_ble_eq_true rfl⟩ ⟨Nat.le_of_ble_eq_true rfl, Nat.le_of_ble_eq_true rfl⟩ dX6_changeAt_40 (fw_ki fun r9 M8 H1 locs1 hp7 hH hz1 => ?_)
    obtain ⟨⟨b6, rfl, hb6⟩, hM9, hz2⟩ := hp7
    replace hz := hz2.trans hz
    clear hz1 hz2
    rw [hM9] at hH
    refine lv_istore_n (lv' := [(3, .int (iI b6)), (0, .ref so), (1, .ref a), (2, .int (iI ↑p))]) E.1 E.2.1 dX6_changeAt_43 rfl hl (by decide) rfl (fun ls hl => ?_)
    have hzb : -1 ≤ b6 ∧ b6 < 40 := by
      rcases hb6 with g | ⟨q, g, g2⟩
      · omega
      · have := g2.2.1; omega
    refine lv_iload_n E.1 E.2.1 dX6_changeAt_44 rfl (lv_at hl 0 rfl) ?_
    refine lv_iconst (v := iI (-1)) E.1 E.2.1 dX6_changeAt_45 (by decide) ?_
    refine fw_icmp_eq (tgt := 57) E dX6_changeAt_46 (by decide) (by omega) (by omega) (by omega) (by omega) (fun c10 => ?_) (fun c10 => ?_)
    · refine lv_aload_n E.1 E.2.1 dX6_changeAt_57 rfl (lv_at hl 2 rfl) ?_
      refine lv_iload_n E.1 E.2.1 dX6_changeAt_58 rfl (lv_at hl 3 rfl) ?_
      refine fw_cS (As := [.ref a, .int (iI ↑p)]) (rest := []) E hK hH hl fL_X6_isNothing ql_RX6_45 qs_yX6_isNothing (k_isNothing l G _ _ a n C V sp ⟨_, _, _, _, hT, hag, hbd⟩ hv p hp) rfl rfl (Nat.le_of_ble_eq_true rfl) ⟨Nat.le_of_ble_eq_true rfl, Nat.le_of_ble_eq_true rfl⟩ ⟨Nat.le_of_ble_eq_true rfl, Nat.le_of_ble_eq_true rfl⟩ dX6_changeAt_59 (fw_ki fun r14 M13 H1 locs1 hp12 hH hz1 => ?_)
      obtain ⟨⟨b11, rfl, hb11⟩, hM9, hz2⟩ := hp12
      replace hz := hz2.trans hz
      clear hz1 hz2
      rw [hM9] at hH
      refine fw_if_eq (tgt := 73) E dX6_changeAt_62 (by decide) (by omega) (by omega) (fun c15 => ?_) (fun c15 => ?_)
      · refine lv_iconst (v := iI 0) E.1 E.2.1 dX6_changeAt_73 (by decide) ?_
        refine fw_zret (r := (iI 0)) E hr hlk hH (by rfl) ?_ dX6_changeAt_74
        exact ⟨⟨_, rfl, Or.inr ⟨rfl, ⟨_, _, _, _, hT, hag, hbd⟩⟩⟩, ⟨rs, hbs, s0, hR⟩, (fun q h1 => rfl), hz⟩
      · have hno := (hb11.resolve_right (by omega)).2
        refine lv_aload_n E.1 E.2.1 dX6_changeAt_65 rfl (lv_at hl 2 rfl) ?_
        refine lv_iload_n E.1 E.2.1 dX6_changeAt_66 rfl (lv_at hl 3 rfl) ?_
        refine lv_iconst (v := iI 0) E.1 E.2.1 dX6_changeAt_67 (by decide) ?_
        refine fw_cV (As := [.int (iI ↑p), .int (iI 0)]) (rest := []) E hK hH hl hT.2.1 fc_X8 fL_X8_makeConstant ql_RX6_35 qi_yX8_makeConstant qv_yX8_makeConstant (k_makeConstant l G _ _ a n p 0 C V sp ⟨_, _, _, _, hT, hag, hbd⟩ hv hp hno.1 (by omega)) rfl rfl (Nat.le_of_ble_eq_true rfl) ⟨Nat.le_of_ble_eq_true rfl, Nat.le_of_ble_eq_true rfl⟩ ⟨Nat.le_of_ble_eq_true rfl, Nat.le_of_ble_eq_true rfl⟩ dX6_changeAt_68 (fw_kv fun M17 H1 locs1 hp16 hH hz1 => ?_)
        obtain ⟨hA42, hfr, hz2⟩ := hp16
        replace hz := hz2.trans hz
        clear hz1 hz2
        have fr18 := hfr
        replace s0 : M17 so = some (.inr (6, [.ref (so + 1)])) := (fr18 _ (by omega)).trans s0
        replace hR := rkAt.fr hR (fun q h1 h2 => fr18 q (by omega))
        refine lv_iconst (v := iI 1) E.1 E.2.1 dX6_changeAt_71 (by decide) ?_
        refine fw_zret (r := (iI 1)) E hr hlk hH (by rfl) ?_ dX6_changeAt_72
        exact ⟨⟨_, rfl, Or.inl ⟨rfl, _, _, _, _, hA42, (sR_const hv hp hno.1 (by omega) hno.2.1 hno.2.2).1, (sR_const hv hp hno.1 (by omega) hno.2.1 hno.2.2).2⟩⟩, ⟨rs, hbs, s0, hR⟩, (fun q h1 => by rw [fr18 q (by omega)]), hz⟩
    · obtain ⟨q9, hq9, hst⟩ := hb6.resolve_left (by omega)
      refine lv_aload_n E.1 E.2.1 dX6_changeAt_49 rfl (lv_at hl 2 rfl) ?_
      refine lv_iload_n E.1 E.2.1 dX6_changeAt_50 rfl (lv_at hl 3 rfl) ?_
      refine lv_iload_n E.1 E.2.1 dX6_changeAt_51 rfl (lv_at hl 0 rfl) ?_
      refine fw_cv (y := iI ↑q9) (congrArg iI hq9) ?_
      refine fw_cV (As := [.int (iI ↑p), .int (iI ↑q9)]) (rest := []) E hK hH hl hT.2.1 fc_X8 fL_X8_keepPart ql_RX6_42 qi_yX8_keepPart qv_yX8_keepPart (k_keepPart l G _ _ a n p q9 C V sp ⟨_, _, _, _, hT, hag, hbd⟩ hv hp hst.2.1 (Nat.le_of_lt hst.1) hst.2.2.1 hst.2.2.2.1) rfl rfl (Nat.le_of_ble_eq_true rfl) ⟨Nat.le_of_ble_eq_true rfl, Nat.le_of_ble_eq_true rfl⟩ ⟨Nat.le_of_ble_eq_true rfl, Nat.le_of_ble_eq_true rfl⟩ dX6_changeAt_52 (fw_kv fun M20 H1 locs1 hp19 hH hz1 => ?_)
      obtain ⟨hA57, hfr, hz2⟩ := hp19
      replace hz := hz2.trans hz
      clear hz1 hz2
      have fr21 := hfr
      replace s0 : M20 so = some (.inr (6, [.ref (so + 1)])) := (fr21 _ (by omega)).trans s0
      replace hR := rkAt.fr hR (fun q h1 h2 => fr21 q (by omega))
      refine lv_iconst (v := iI 1) E.1 E.2.1 dX6_changeAt_55 (by decide) ?_
      refine fw_zret (r := (iI 1)) E hr hlk hH (by rfl) ?_ dX6_changeAt_56
      exact ⟨⟨_, rfl, Or.inl ⟨rfl, _, _, _, _, hA57, (sR_keep hv hp hst).1, (sR_keep hv hp hst).2⟩⟩, ⟨rs, hbs, s0, hR⟩, (fun q h1 => by rw [fr21 q (by omega)]), hz⟩
  · have hfo := (hb1.resolve_right (by omega)).2
    refine lv_aload_n E.1 E.2.1 dX6_changeAt_8 rfl (lv_at hl 0 rfl) ?_
    refine fw_get E hK hH s0 fc_X6 0 (by decide) ql_RX6_12 rfl rfl dX6_changeAt_9 ?_
    refine lv_aload_n E.1 E.2.1 dX6_changeAt_12 rfl (lv_at hl 1 rfl) ?_
    refine lv_iload_n E.1 E.2.1 dX6_changeAt_13 rfl (lv_at hl 2 rfl) ?_
    refine fw_cV (As := [.ref a, .int (iI ↑p)]) (rest := []) E hK hH hl hR.2.1 fc_X5 fL_X5_resultOf ql_RX6_31 qi_yX5_resultOf qv_yX5_resultOf (k_resultOf l G _ _ (so + 1) a n p (fun _ => 0) rs (fun _ => 0) C V sp hR ⟨_, _, _, _, hT, hag, hbd⟩ hv hp (by omega) (fun k hk => ⟨rfl, by show (-99 : Int) ≤ 0 ∧ (0 : Int) ≤ 99; omega⟩)) rfl rfl (Nat.le_of_ble_eq_true rfl) ⟨Nat.le_of_ble_eq_true rfl, Nat.le_of_ble_eq_true rfl⟩ ⟨Nat.le_of_ble_eq_true rfl, Nat.le_of_ble_eq_true rfl⟩ dX6_changeAt_14 (fw_ki fun r24 M23 H1 locs1 hp22 hH hz1 => ?_)
    obtain ⟨rfl, ⟨rs72, hR72⟩, hfr, hz2⟩ := hp22
    replace hz := hz2.trans hz
    clear hz1 hz2
    have fr25 := hfr
    replace hT := trAt.fr hT (fun q h1 h2 => fr25 q (by omega))
    replace s0 : M23 so = some (.inr (6, [.ref (so + 1)])) := (fr25 _ (by omega)).trans s0
    refine lv_istore_n (lv' := [(3, .int (iI (evF (fun _ => 0) C V sp p))), (0, .ref so), (1, .ref a), (2, .int (iI ↑p))]) E.1 E.2.1 dX6_changeAt_17 rfl hl (by decide) rfl (fun ls hl => ?_)
    have heb := evF_b (inp := fun _ => 0) (V := V) hsp hn1 hp
    refine lv_iload_n E.1 E.2.1 dX6_changeAt_18 rfl (lv_at hl 0 rfl) ?_
    refine lv_bipush (v := iI (-99)) E.1 E.2.1 dX6_changeAt_19 (by decide) ?_
    refine fw_icmp_lt (tgt := 38) E dX6_changeAt_21 (by decide) (by omega) (by omega) (by omega) (by omega) (fun c26 => ?_) (fun c26 => ?_)
    · refine lv_aload_n E.1 E.2.1 dX6_changeAt_38 rfl (lv_at hl 2 rfl) ?_
      refine lv_iload_n E.1 E.2.1 dX6_changeAt_39 rfl (lv_at hl 3 rfl) ?_
      refine fw_cS (As := [.ref a, .int (iI ↑p)]) (rest := []) E hK hH hl fL_X6_partThatStays ql_RX6_39 qs_yX6_partThatStays (k_partThatStays l G _ _ a n C V sp ⟨_, _, _, _, hT, hag, hbd⟩ hv p hp) rfl rfl (Nat.le_of_ble_eq_true rfl) ⟨Nat.le_of_ble_eq_true rfl, Nat.le_of_ble_eq_true rfl⟩ ⟨Nat.le_of_ble_eq_true rfl, Nat.le_of_ble_eq_true rfl⟩ dX6_changeAt_40 (fw_ki fun r30 M29 H1 locs1 hp28 hH hz1 => ?_)
      obtain ⟨⟨b27, rfl, hb27⟩, hM9, hz2⟩ := hp28
      replace hz := hz2.trans hz
      clear hz1 hz2
      rw [hM9] at hH
      refine lv_istore_n (lv' := [(3, .int (iI b27)), (0, .ref so), (1, .ref a), (2, .int (iI ↑p))]) E.1 E.2.1 dX6_changeAt_43 rfl hl (by decide) rfl (fun ls hl => ?_)
      have hzb : -1 ≤ b27 ∧ b27 < 40 := by
        rcases hb27 with g | ⟨q, g, g2⟩
        · omega
        · have := g2.2.1; omega
      refine lv_iload_n E.1 E.2.1 dX6_changeAt_44 rfl (lv_at hl 0 rfl) ?_
      refine lv_iconst (v := iI (-1)) E.1 E.2.1 dX6_changeAt_45 (by decide) ?_
      refine fw_icmp_eq (tgt := 57) E dX6_changeAt_46 (by decide) (by omega) (by omega) (by omega) (by omega) (fun c31 => ?_) (fun c31 => ?_)
      · refine lv_aload_n E.1 E.2.1 dX6_changeAt_57 rfl (lv_at hl 2 rfl) ?_
        refine lv_iload_n E.1 E.2.1 dX6_changeAt_58 rfl (lv_at hl 3 rfl) ?_
        refine fw_cS (As := [.ref a, .int (iI ↑p)]) (rest := []) E hK hH hl fL_X6_isNothing ql_RX6_45 qs_yX6_isNothing (k_isNothing l G _ _ a n C V sp ⟨_, _, _, _, hT, hag, hbd⟩ hv p hp) rfl rfl (Nat.le_of_ble_eq_true rfl) ⟨Nat.le_of_ble_eq_true rfl, Nat.le_of_ble_eq_true rfl⟩ ⟨Nat.le_of_ble_eq_true rfl, Nat.le_of_ble_eq_true rfl⟩ dX6_changeAt_59 (fw_ki fun r35 M34 H1 locs1 hp33 hH hz1 => ?_)
        obtain ⟨⟨b32, rfl, hb32⟩, hM9, hz2⟩ := hp33
        replace hz := hz2.trans hz
        clear hz1 hz2
        rw [hM9] at hH
        refine fw_if_eq (tgt := 73) E dX6_changeAt_62 (by decide) (by omega) (by omega) (fun c36 => ?_) (fun c36 => ?_)
        · refine lv_iconst (v := iI 0) E.1 E.2.1 dX6_changeAt_73 (by decide) ?_
          refine fw_zret (r := (iI 0)) E hr hlk hH (by rfl) ?_ dX6_changeAt_74
          exact ⟨⟨_, rfl, Or.inr ⟨rfl, ⟨_, _, _, _, hT, hag, hbd⟩⟩⟩, ⟨rs72, hbs, s0, hR72⟩, (fun q h1 => by rw [fr25 q (by omega)]), hz⟩
        · have hno := (hb32.resolve_right (by omega)).2
          refine lv_aload_n E.1 E.2.1 dX6_changeAt_65 rfl (lv_at hl 2 rfl) ?_
          refine lv_iload_n E.1 E.2.1 dX6_changeAt_66 rfl (lv_at hl 3 rfl) ?_
          refine lv_iconst (v := iI 0) E.1 E.2.1 dX6_changeAt_67 (by decide) ?_
          refine fw_cV (As := [.int (iI ↑p), .int (iI 0)]) (rest := []) E hK hH hl hT.2.1 fc_X8 fL_X8_makeConstant ql_RX6_35 qi_yX8_makeConstant qv_yX8_makeConstant (k_makeConstant l G _ _ a n p 0 C V sp ⟨_, _, _, _, hT, hag, hbd⟩ hv hp hno.1 (by omega)) rfl rfl (Nat.le_of_ble_eq_true rfl) ⟨Nat.le_of_ble_eq_true rfl, Nat.le_of_ble_eq_true rfl⟩ ⟨Nat.le_of_ble_eq_true rfl, Nat.le_of_ble_eq_true rfl⟩ dX6_changeAt_68 (fw_kv fun M38 H1 locs1 hp37 hH hz1 => ?_)
          obtain ⟨hA111, hfr, hz2⟩ := hp37
          replace hz := hz2.trans hz
          clear hz1 hz2
          have fr39 := hfr
          replace s0 : M38 so = some (.inr (6, [.ref (so + 1)])) := (fr39 _ (by omega)).trans s0
          replace hR72 := rkAt.fr hR72 (fun q h1 h2 => fr39 q (by omega))
          refine lv_iconst (v := iI 1) E.1 E.2.1 dX6_changeAt_71 (by decide) ?_
          refine fw_zret (r := (iI 1)) E hr hlk hH (by rfl) ?_ dX6_changeAt_72
          exact ⟨⟨_, rfl, Or.inl ⟨rfl, _, _, _, _, hA111, (sR_const hv hp hno.1 (by omega) hno.2.1 hno.2.2).1, (sR_const hv hp hno.1 (by omega) hno.2.1 hno.2.2).2⟩⟩, ⟨rs72, hbs, s0, hR72⟩, (fun q h1 => by rw [fr39 q (by omega), fr25 q (by omega)]), hz⟩
      · obtain ⟨q9, hq9, hst⟩ := hb27.resolve_left (by omega)
        refine lv_aload_n E.1 E.2.1 dX6_changeAt_49 rfl (lv_at hl 2 rfl) ?_
        refine lv_iload_n E.1 E.2.1 dX6_changeAt_50 rfl (lv_at hl 3 rfl) ?_
        refine lv_iload_n E.1 E.2.1 dX6_changeAt_51 rfl (lv_at hl 0 rfl) ?_
        refine fw_cv (y := iI ↑q9) (congrArg iI hq9) ?_
        refine fw_cV (As := [.int (iI ↑p), .int (iI ↑q9)]) (rest := []) E hK hH hl hT.2.1 fc_X8 fL_X8_keepPart ql_RX6_42 qi_yX8_keepPart qv_yX8_keepPart (k_keepPart l G _ _ a n p q9 C V sp ⟨_, _, _, _, hT, hag, hbd⟩ hv hp hst.2.1 (Nat.le_of_lt hst.1) hst.2.2.1 hst.2.2.2.1) rfl rfl (Nat.le_of_ble_eq_true rfl) ⟨Nat.le_of_ble_eq_true rfl, Nat.le_of_ble_eq_true rfl⟩ ⟨Nat.le_of_ble_eq_true rfl, Nat.le_of_ble_eq_true rfl⟩ dX6_changeAt_52 (fw_kv fun M41 H1 locs1 hp40 hH hz1 => ?_)
        obtain ⟨hA126, hfr, hz2⟩ := hp40
        replace hz := hz2.trans hz
        clear hz1 hz2
        have fr42 := hfr
        replace s0 : M41 so = some (.inr (6, [.ref (so + 1)])) := (fr42 _ (by omega)).trans s0
        replace hR72 := rkAt.fr hR72 (fun q h1 h2 => fr42 q (by omega))
        refine lv_iconst (v := iI 1) E.1 E.2.1 dX6_changeAt_55 (by decide) ?_
        refine fw_zret (r := (iI 1)) E hr hlk hH (by rfl) ?_ dX6_changeAt_56
        exact ⟨⟨_, rfl, Or.inl ⟨rfl, _, _, _, _, hA126, (sR_keep hv hp hst).1, (sR_keep hv hp hst).2⟩⟩, ⟨rs72, hbs, s0, hR72⟩, (fun q h1 => by rw [fr42 q (by omega), fr25 q (by omega)]), hz⟩
    · refine lv_iload_n E.1 E.2.1 dX6_changeAt_24 rfl (lv_at hl 0 rfl) ?_
      refine lv_bipush (v := iI 99) E.1 E.2.1 dX6_changeAt_25 (by decide) ?_
      refine fw_icmp_gt (tgt := 38) E dX6_changeAt_27 (by decide) (by omega) (by omega) (by omega) (by omega) (fun c43 => ?_) (fun c43 => ?_)
      · refine lv_aload_n E.1 E.2.1 dX6_changeAt_38 rfl (lv_at hl 2 rfl) ?_
        refine lv_iload_n E.1 E.2.1 dX6_changeAt_39 rfl (lv_at hl 3 rfl) ?_
        refine fw_cS (As := [.ref a, .int (iI ↑p)]) (rest := []) E hK hH hl fL_X6_partThatStays ql_RX6_39 qs_yX6_partThatStays (k_partThatStays l G _ _ a n C V sp ⟨_, _, _, _, hT, hag, hbd⟩ hv p hp) rfl rfl (Nat.le_of_ble_eq_true rfl) ⟨Nat.le_of_ble_eq_true rfl, Nat.le_of_ble_eq_true rfl⟩ ⟨Nat.le_of_ble_eq_true rfl, Nat.le_of_ble_eq_true rfl⟩ dX6_changeAt_40 (fw_ki fun r47 M46 H1 locs1 hp45 hH hz1 => ?_)
        obtain ⟨⟨b44, rfl, hb44⟩, hM9, hz2⟩ := hp45
        replace hz := hz2.trans hz
        clear hz1 hz2
        rw [hM9] at hH
        refine lv_istore_n (lv' := [(3, .int (iI b44)), (0, .ref so), (1, .ref a), (2, .int (iI ↑p))]) E.1 E.2.1 dX6_changeAt_43 rfl hl (by decide) rfl (fun ls hl => ?_)
        have hzb : -1 ≤ b44 ∧ b44 < 40 := by
          rcases hb44 with g | ⟨q, g, g2⟩
          · omega
          · have := g2.2.1; omega
        refine lv_iload_n E.1 E.2.1 dX6_changeAt_44 rfl (lv_at hl 0 rfl) ?_
        refine lv_iconst (v := iI (-1)) E.1 E.2.1 dX6_changeAt_45 (by decide) ?_
        refine fw_icmp_eq (tgt := 57) E dX6_changeAt_46 (by decide) (by omega) (by omega) (by omega) (by omega) (fun c48 => ?_) (fun c48 => ?_)
        · refine lv_aload_n E.1 E.2.1 dX6_changeAt_57 rfl (lv_at hl 2 rfl) ?_
          refine lv_iload_n E.1 E.2.1 dX6_changeAt_58 rfl (lv_at hl 3 rfl) ?_
          refine fw_cS (As := [.ref a, .int (iI ↑p)]) (rest := []) E hK hH hl fL_X6_isNothing ql_RX6_45 qs_yX6_isNothing (k_isNothing l G _ _ a n C V sp ⟨_, _, _, _, hT, hag, hbd⟩ hv p hp) rfl rfl (Nat.le_of_ble_eq_true rfl) ⟨Nat.le_of_ble_eq_true rfl, Nat.le_of_ble_eq_true rfl⟩ ⟨Nat.le_of_ble_eq_true rfl, Nat.le_of_ble_eq_true rfl⟩ dX6_changeAt_59 (fw_ki fun r52 M51 H1 locs1 hp50 hH hz1 => ?_)
          obtain ⟨⟨b49, rfl, hb49⟩, hM9, hz2⟩ := hp50
          replace hz := hz2.trans hz
          clear hz1 hz2
          rw [hM9] at hH
          refine fw_if_eq (tgt := 73) E dX6_changeAt_62 (by decide) (by omega) (by omega) (fun c53 => ?_) (fun c53 => ?_)
          · refine lv_iconst (v := iI 0) E.1 E.2.1 dX6_changeAt_73 (by decide) ?_
            refine fw_zret (r := (iI 0)) E hr hlk hH (by rfl) ?_ dX6_changeAt_74
            exact ⟨⟨_, rfl, Or.inr ⟨rfl, ⟨_, _, _, _, hT, hag, hbd⟩⟩⟩, ⟨rs72, hbs, s0, hR72⟩, (fun q h1 => by rw [fr25 q (by omega)]), hz⟩
          · have hno := (hb49.resolve_right (by omega)).2
            refine lv_aload_n E.1 E.2.1 dX6_changeAt_65 rfl (lv_at hl 2 rfl) ?_
            refine lv_iload_n E.1 E.2.1 dX6_changeAt_66 rfl (lv_at hl 3 rfl) ?_
            refine lv_iconst (v := iI 0) E.1 E.2.1 dX6_changeAt_67 (by decide) ?_
            refine fw_cV (As := [.int (iI ↑p), .int (iI 0)]) (rest := []) E hK hH hl hT.2.1 fc_X8 fL_X8_makeConstant ql_RX6_35 qi_yX8_makeConstant qv_yX8_makeConstant (k_makeConstant l G _ _ a n p 0 C V sp ⟨_, _, _, _, hT, hag, hbd⟩ hv hp hno.1 (by omega)) rfl rfl (Nat.le_of_ble_eq_true rfl) ⟨Nat.le_of_ble_eq_true rfl, Nat.le_of_ble_eq_true rfl⟩ ⟨Nat.le_of_ble_eq_true rfl, Nat.le_of_ble_eq_true rfl⟩ dX6_changeAt_68 (fw_kv fun M55 H1 locs1 hp54 hH hz1 => ?_)
            obtain ⟨hA166, hfr, hz2⟩ := hp54
            replace hz := hz2.trans hz
            clear hz1 hz2
            have fr56 := hfr
            replace s0 : M55 so = some (.inr (6, [.ref (so + 1)])) := (fr56 _ (by omega)).trans s0
            replace hR72 := rkAt.fr hR72 (fun q h1 h2 => fr56 q (by omega))
            refine lv_iconst (v := iI 1) E.1 E.2.1 dX6_changeAt_71 (by decide) ?_
            refine fw_zret (r := (iI 1)) E hr hlk hH (by rfl) ?_ dX6_changeAt_72
            exact ⟨⟨_, rfl, Or.inl ⟨rfl, _, _, _, _, hA166, (sR_const hv hp hno.1 (by omega) hno.2.1 hno.2.2).1, (sR_const hv hp hno.1 (by omega) hno.2.1 hno.2.2).2⟩⟩, ⟨rs72, hbs, s0, hR72⟩, (fun q h1 => by rw [fr56 q (by omega), fr25 q (by omega)]), hz⟩
        · obtain ⟨q9, hq9, hst⟩ := hb44.resolve_left (by omega)
          refine lv_aload_n E.1 E.2.1 dX6_changeAt_49 rfl (lv_at hl 2 rfl) ?_
          refine lv_iload_n E.1 E.2.1 dX6_changeAt_50 rfl (lv_at hl 3 rfl) ?_
          refine lv_iload_n E.1 E.2.1 dX6_changeAt_51 rfl (lv_at hl 0 rfl) ?_
          refine fw_cv (y := iI ↑q9) (congrArg iI hq9) ?_
          refine fw_cV (As := [.int (iI ↑p), .int (iI ↑q9)]) (rest := []) E hK hH hl hT.2.1 fc_X8 fL_X8_keepPart ql_RX6_42 qi_yX8_keepPart qv_yX8_keepPart (k_keepPart l G _ _ a n p q9 C V sp ⟨_, _, _, _, hT, hag, hbd⟩ hv hp hst.2.1 (Nat.le_of_lt hst.1) hst.2.2.1 hst.2.2.2.1) rfl rfl (Nat.le_of_ble_eq_true rfl) ⟨Nat.le_of_ble_eq_true rfl, Nat.le_of_ble_eq_true rfl⟩ ⟨Nat.le_of_ble_eq_true rfl, Nat.le_of_ble_eq_true rfl⟩ dX6_changeAt_52 (fw_kv fun M58 H1 locs1 hp57 hH hz1 => ?_)
          obtain ⟨hA181, hfr, hz2⟩ := hp57
          replace hz := hz2.trans hz
          clear hz1 hz2
          have fr59 := hfr
          replace s0 : M58 so = some (.inr (6, [.ref (so + 1)])) := (fr59 _ (by omega)).trans s0
          replace hR72 := rkAt.fr hR72 (fun q h1 h2 => fr59 q (by omega))
          refine lv_iconst (v := iI 1) E.1 E.2.1 dX6_changeAt_55 (by decide) ?_
          refine fw_zret (r := (iI 1)) E hr hlk hH (by rfl) ?_ dX6_changeAt_56
          exact ⟨⟨_, rfl, Or.inl ⟨rfl, _, _, _, _, hA181, (sR_keep hv hp hst).1, (sR_keep hv hp hst).2⟩⟩, ⟨rs72, hbs, s0, hR72⟩, (fun q h1 => by rw [fr59 q (by omega), fr25 q (by omega)]), hz⟩
      · refine lv_aload_n E.1 E.2.1 dX6_changeAt_30 rfl (lv_at hl 2 rfl) ?_
        refine lv_iload_n E.1 E.2.1 dX6_changeAt_31 rfl (lv_at hl 3 rfl) ?_
        refine lv_iload_n E.1 E.2.1 dX6_changeAt_32 rfl (lv_at hl 0 rfl) ?_
        refine fw_cV (As := [.int (iI ↑p), .int (iI (evF (fun _ => 0) C V sp p))]) (rest := []) E hK hH hl hT.2.1 fc_X8 fL_X8_makeConstant ql_RX6_35 qi_yX8_makeConstant qv_yX8_makeConstant (k_makeConstant l G _ _ a n p (evF (fun _ => 0) C V sp p) C V sp ⟨_, _, _, _, hT, hag, hbd⟩ hv hp hfo.1 (by omega)) rfl rfl (Nat.le_of_ble_eq_true rfl) ⟨Nat.le_of_ble_eq_true rfl, Nat.le_of_ble_eq_true rfl⟩ ⟨Nat.le_of_ble_eq_true rfl, Nat.le_of_ble_eq_true rfl⟩ dX6_changeAt_33 (fw_kv fun M61 H1 locs1 hp60 hH hz1 => ?_)
        obtain ⟨hA194, hfr, hz2⟩ := hp60
        replace hz := hz2.trans hz
        clear hz1 hz2
        have fr62 := hfr
        replace s0 : M61 so = some (.inr (6, [.ref (so + 1)])) := (fr62 _ (by omega)).trans s0
        replace hR72 := rkAt.fr hR72 (fun q h1 h2 => fr62 q (by omega))
        refine lv_iconst (v := iI 1) E.1 E.2.1 dX6_changeAt_36 (by decide) ?_
        refine fw_zret (r := (iI 1)) E hr hlk hH (by rfl) ?_ dX6_changeAt_37
        exact ⟨⟨_, rfl, Or.inl ⟨rfl, _, _, _, _, hA194, (sR_const hv hp hfo.1 (by omega) hfo.2.1 (fun inp => evF_noin hv (sp_le hsp hp) hfo.2.2 inp (fun _ => 0) _ p (Nat.le_refl _) (Nat.le_refl _) (Nat.le_refl _) hp)).1, (sR_const hv hp hfo.1 (by omega) hfo.2.1 (fun inp => evF_noin hv (sp_le hsp hp) hfo.2.2 inp (fun _ => 0) _ p (Nat.le_refl _) (Nat.le_refl _) (Nat.le_refl _) hp)).2⟩⟩, ⟨rs72, hbs, s0, hR72⟩, (fun q h1 => by rw [fr62 q (by omega), fr25 q (by omega)]), hz⟩
set_option maxHeartbeats 2000000 in
theorem k_finish (l : Launch) (G : fw_G) (M : fw_M) (N : Nat) (so a n p : Nat) (rs C V : Nat → Int) (sp : Nat → Nat) (hS : siAt G M so (fun _ => 0) rs) (hA : tw G M a n C V sp) (hv : vtOK n C V sp) (hsep : so + 4 ≤ a ∨ a + 5 ≤ so) : fMet l yX6_finish cX6_finish 4 none 5 170 0 0 G M N [.ref so, .ref a] (fw_pv (fun M1 n1 => (∃ (n2 : Nat) (C2 V2 : Nat → Int) (sp2 : Nat → Nat), tw G M1 a n2 C2 V2 sp2 ∧ sR n C V sp n2 C2 V2 sp2) ∧ (∃ rs1 : Nat → Int, siAt G M1 so (fun _ => 0) rs1) ∧ (∀ q, (q < so + 1 ∨ so + 4 ≤ q) ∧ (q < a ∨ a + 5 ≤ q) → M1 q = M q) ∧ n1 = N)) := by
  refine fw_met RX6 rfl (by decide +kernel) (Nat.le_of_ble_eq_true rfl) ?_
  intro pG e s m args below meth cG ls E hr hlk hnm hK hH hz hl
  obtain ⟨hbs, s0, hR⟩ := hS
  refine lv_iconst (v := iI 0) E.1 E.2.1 dX6_finish_0 (by decide) ?_
  refine lv_istore_n (lv' := [(2, .int (iI 0)), (0, .ref so), (1, .ref a)]) E.1 E.2.1 dX6_finish_1 rfl hl (by decide) rfl (fun ls hl => ?_)
  refine lv_iconst (v := iI 0) E.1 E.2.1 dX6_finish_2 (by decide) ?_
  refine lv_istore_n (lv' := [(3, .int (iI 0)), (2, .int (iI 0)), (0, .ref so), (1, .ref a)]) E.1 E.2.1 dX6_finish_3 rfl hl (by decide) rfl (fun ls hl => ?_)
  have loop4_1 : ∀ (d4 : Nat) (t : Nat) (k : Nat) (n2 : Nat) (C2 : Nat → Int) (V2 : Nat → Int) (sp2 : Nat → Nat) (rs : Nat → Int) (Mw4 : fw_M) (H : Heap) (locs : List Loc) (ls : Array Slot), 1640 - t < d4 → t ≤ 1640 → k ≤ 40 → tw G Mw4 a n2 C2 V2 sp2 → sR n C V sp n2 C2 V2 sp2 → (∀ q, (q < so + 1 ∨ so + 4 ≤ q) ∧ (q < a ∨ a + 5 ≤ q) → Mw4 q = M q) → fw_H G s Mw4 H locs → H.size = N → Mw4 so = some (.inr (6, [.ref (so + 1)])) → rkAt G Mw4 (so + 1) (fun _ => 0) rs → lv_has ls 4 [(0, .ref so), (1, .ref a), (2, .int (iI ↑k)), (3, .int (iI ↑t))] → W pG l e ({ frames := 5, cells := 0, slots := 0, locals := 170 } : Room) s m args below meth cG H locs (0) (0) (MQ below (fw_Q G (fw_pv (fun M1 n1 => (∃ (n2 : Nat) (C2 V2 : Nat → Int) (sp2 : Nat → Nat), tw G M1 a n2 C2 V2 sp2 ∧ sR n C V sp n2 C2 V2 sp2) ∧ (∃ rs1 : Nat → Int, siAt G M1 so (fun _ => 0) rs1) ∧ (∀ q, (q < so + 1 ∨ so + 4 ≤ q) ∧ (q < a ∨ a + 5 ≤ q) → M1 q = M q) ∧ n1 = N))) args s 0 0 (fun q => G.2.2.1 ≤ q)) (F0 m 4 ls []) := by
    intro d4
    induction d4 with
    | zero => intro t k n2 C2 V2 sp2 rs Mw4 H locs ls hd; exact absurd hd (Nat.not_lt_zero _)
    | succ d4 ih4 =>
      intro t k n2 C2 V2 sp2 rs Mw4 H locs ls hd4 it ik hA hsR hfr0 hH hz s0 hR hl
      refine lv_iload_n E.1 E.2.1 dX6_finish_4 rfl (lv_at hl 3 rfl) ?_
      refine lv_sipush (v := iI 1640) E.1 E.2.1 dX6_finish_5 (by decide) ?_
      refine fw_icmp_ge (tgt := 42) E dX6_finish_8 (by decide) (by omega) (by omega) (by omega) (by omega) (fun c1 => ?_) (fun c1 => ?_)
      · refine fw_vret E hr hlk hH ?_ dX6_finish_42
        exact ⟨⟨n2, C2, V2, sp2, hA, hsR⟩, ⟨rs, hbs, s0, hR⟩, hfr0, hz⟩
      · obtain ⟨cs, vs, ss, hs, hT, hag, hbd⟩ := id hA
        have hn2 := hsR.1.1.2
        refine lv_iload_n E.1 E.2.1 dX6_finish_11 rfl (lv_at hl 2 rfl) ?_
        refine lv_aload_n E.1 E.2.1 dX6_finish_12 rfl (lv_at hl 1 rfl) ?_
        refine fw_getN E hK hH hT.2.1 fc_X8 4 (by decide) ql_RX6_18 rfl rfl dX6_finish_13 ?_
        refine fw_icmp_ge (tgt := 42) E dX6_finish_16 (by decide) (by omega) (by omega) (by omega) (by omega) (fun c2 => ?_) (fun c2 => ?_)
        · refine fw_vret E hr hlk hH ?_ dX6_finish_42
          exact ⟨⟨n2, C2, V2, sp2, hA, hsR⟩, ⟨rs, hbs, s0, hR⟩, hfr0, hz⟩
        · refine lv_aload_n E.1 E.2.1 dX6_finish_19 rfl (lv_at hl 0 rfl) ?_
          refine lv_aload_n E.1 E.2.1 dX6_finish_20 rfl (lv_at hl 1 rfl) ?_
          refine lv_iload_n E.1 E.2.1 dX6_finish_21 rfl (lv_at hl 2 rfl) ?_
          refine fw_cV (As := [.ref a, .int (iI ↑k)]) (rest := []) E hK hH hl s0 fc_X6 fL_X6_changeAt ql_RX6_24 qi_yX6_changeAt qv_yX6_changeAt (k_changeAt l G _ _ so a n2 k rs C2 V2 sp2 ⟨hbs, s0, hR⟩ hA hsR.1 hsep (by omega)) rfl rfl (Nat.le_of_ble_eq_true rfl) ⟨Nat.le_of_ble_eq_true rfl, Nat.le_of_ble_eq_true rfl⟩ ⟨Nat.le_of_ble_eq_true rfl, Nat.le_of_ble_eq_true rfl⟩ dX6_finish_22 (fw_ki fun r6 M5 H1 locs1 hp4 hH hz1 => ?_)
          obtain ⟨⟨b3, rfl, hb3⟩, ⟨rs31, _, sb31, hR31⟩, hfr, hz2⟩ := hp4
          replace hz := hz2.trans hz
          clear hz1 hz2
          have fr7 := hfr
          refine fw_if_eq (tgt := 32) E dX6_finish_25 (by decide) (by omega) (by omega) (fun c8 => ?_) (fun c8 => ?_)
          · have hA3 := (hb3.resolve_left (fun g => absurd g.1 (by omega))).2
            refine lv_iload_n E.1 E.2.1 dX6_finish_32 rfl (lv_at hl 2 rfl) ?_
            refine lv_iconst (v := iI 1) E.1 E.2.1 dX6_finish_33 (by decide) ?_
            refine fw_iadd E dX6_finish_34 ?_
            refine lv_istore_n (lv' := [(2, .int (iI ((↑k) + 1))), (0, .ref so), (1, .ref a), (3, .int (iI ↑t))]) E.1 E.2.1 dX6_finish_35 rfl hl (by decide) rfl (fun ls hl => ?_)
            refine lv_iinc (v := iI (↑t + 1)) (lv' := [(3, .int (iI (↑t + 1))), (2, .int (iI ((↑k) + 1))), (0, .ref so), (1, .ref a)]) E.1 E.2.1 dX6_finish_36 hl (k := 3) rfl (iI_inc rfl) (by decide) rfl (fun ls hl => ?_)
            refine lv_goto (tgt := 4) E.1 E.2.1 dX6_finish_39 (by decide) ?_
            exact ih4 (t + 1) (k + 1) n2 C2 V2 sp2 rs31 _ _ _ _ (by omega) (by omega) (by omega) hA3 hsR (fun q hq => by rw [fr7 q (by omega)]; exact hfr0 q hq) hH (by omega) sb31 hR31 (lv_sub hl [2, 3, 1, 0] rfl)
          · obtain ⟨n3, C3, V3, sp3, hA3, hsR3, hlt3⟩ := (hb3.resolve_right (fun g => absurd g.1 (by omega))).2
            refine lv_iconst (v := iI 0) E.1 E.2.1 dX6_finish_28 (by decide) ?_
            refine lv_goto (tgt := 35) E.1 E.2.1 dX6_finish_29 (by decide) ?_
            refine lv_istore_n (lv' := [(2, .int (iI 0)), (0, .ref so), (1, .ref a), (3, .int (iI ↑t))]) E.1 E.2.1 dX6_finish_35 rfl hl (by decide) rfl (fun ls hl => ?_)
            refine lv_iinc (v := iI (↑t + 1)) (lv' := [(3, .int (iI (↑t + 1))), (2, .int (iI 0)), (0, .ref so), (1, .ref a)]) E.1 E.2.1 dX6_finish_36 hl (k := 3) rfl (iI_inc rfl) (by decide) rfl (fun ls hl => ?_)
            refine lv_goto (tgt := 4) E.1 E.2.1 dX6_finish_39 (by decide) ?_
            exact ih4 (t + 1) 0 n3 C3 V3 sp3 rs31 _ _ _ _ (by omega) (by omega) (by omega) hA3 (sR_trans hsR hsR3) (fun q hq => by rw [fr7 q (by omega)]; exact hfr0 q hq) hH (by omega) sb31 hR31 (lv_sub hl [2, 3, 1, 0] rfl)
  exact loop4_1 (1640 - 0 + 1) 0 0 n C V sp rs _ _ _ _ (Nat.lt_succ_self _) (by omega) (by omega) hA (sR_refl hv) (fun _ _ => rfl) hH (by omega) s0 hR (lv_sub hl [2, 3, 1, 0] rfl)

theorem m_missing0 (l : Launch) (G : fw_G) (M : fw_M) (N : Nat) (rr : Nat) (u w : Nat) (hbu : G.2.2.1 ≤ u) (hbw : G.2.2.1 ≤ w) (huw : u ≠ w) (f g : Nat → Int) (u0 : M u = some (fB G 120 (fun j0 => iI (f j0)))) (w0 : M w = some (fI G 120 (fun j0 => iI (g j0))))  : fMet l yX10_missing cX10_missing 9 (some .int) 4 150 0 0 G M N [.ref rr, .int (iI 0), .ref u, .ref w] (fw_pi (fun r M1 n1 => r = iI 1 ∧ (∃ f1 g1 : Nat → Int, M1 u = some (fB G 120 (fun j0 => iI (f1 j0))) ∧ M1 w = some (fI G 120 (fun j0 => iI (g1 j0))) ∧ f1 0 = 1 ∧ ∀ q, (q ≠ u ∧ q ≠ w) → M1 q = M q) ∧ n1 = N)) := by
  refine fw_met RX10 rfl (by decide +kernel) (Nat.le_of_ble_eq_true rfl) ?_
  intro p e s m args below meth c ls E hr hlk hnm hK hH hz hl
  refine lv_aload_n E.1 E.2.1 dX10_missing_0 rfl (lv_at hl 2 rfl) ?_
  refine lv_iconst (v := iI 0) E.1 E.2.1 dX10_missing_1 (by decide) ?_
  refine lv_iconst (v := iI 1) E.1 E.2.1 dX10_missing_2 (by decide) ?_
  refine fw_zast E hK hH (by omega) u0 (iI_in (by omega) (by omega) (by omega)) dX10_missing_3 (fun H1 locs1 hH hz1 => ?_)
  replace hz := hz1.trans hz; clear hz1
  rw [show vp_nar .boolean (iI (1)) = iI (1) from by rfl, show upd (fun j0 => iI (f j0)) (iI (0)).toNatClampNeg (iI (1)) = fun j0 => iI ((zup f (0) (1)) j0) from by rw [iI_ix (by omega) (by omega)]; exact zup_upd _ _ _] at hH
  obtain ⟨M1, hM2⟩ : ∃ MX, MX = fw_up M u (fB G 120 (fun j0 => iI ((zup f (0) (1)) j0))) := ⟨_, rfl⟩
  replace hH := fw_H.nm hM2 hH
  have fr3 : ∀ q, q ≠ u → M1 q = M q := fun q h => by rw [hM2]; exact fw_up_ne h
  replace w0 : M1 w = some (fI G 120 (fun j0 => iI (g j0))) := (fr3 _ (by omega)).trans w0
  have u0 : M1 u = some (fB G 120 (fun j0 => iI ((zup f (0) (1)) j0))) := by rw [hM2]; exact fw_up_eq
  refine lv_aload_n E.1 E.2.1 dX10_missing_4 rfl (lv_at hl 3 rfl) ?_
  refine lv_iconst (v := iI 0) E.1 E.2.1 dX10_missing_5 (by decide) ?_
  refine lv_iconst (v := iI 1) E.1 E.2.1 dX10_missing_6 (by decide) ?_
  refine fw_iast E hK hH (by omega) w0 (iI_in (by omega) (by omega) (by omega)) dX10_missing_7 (fun H1 locs1 hH hz1 => ?_)
  replace hz := hz1.trans hz; clear hz1
  rw [show upd (fun j0 => iI (g j0)) (iI (0)).toNatClampNeg (iI (1)) = fun j0 => iI ((zup g (0) (1)) j0) from by rw [iI_ix (by omega) (by omega)]; exact zup_upd _ _ _] at hH
  obtain ⟨M4, hM5⟩ : ∃ MX, MX = fw_up M1 w (fI G 120 (fun j0 => iI ((zup g (0) (1)) j0))) := ⟨_, rfl⟩
  replace hH := fw_H.nm hM5 hH
  have fr6 : ∀ q, q ≠ w → M4 q = M1 q := fun q h => by rw [hM5]; exact fw_up_ne h
  replace u0 : M4 u = some (fB G 120 (fun j0 => iI ((zup f (0) (1)) j0))) := (fr6 _ (by omega)).trans u0
  have w0 : M4 w = some (fI G 120 (fun j0 => iI ((zup g (0) (1)) j0))) := by rw [hM5]; exact fw_up_eq
  refine lv_iconst (v := iI 1) E.1 E.2.1 dX10_missing_8 (by decide) ?_
  refine lv_istore (lv' := [(4, .int (iI 1)), (0, .ref rr), (1, .int (iI 0)), (2, .ref u), (3, .ref w)]) E.1 E.2.1 dX10_missing_9 hl (by decide) rfl (fun ls hl => ?_)
  refine lv_iconst (v := iI 0) E.1 E.2.1 dX10_missing_11 (by decide) ?_
  refine lv_istore (lv' := [(5, .int (iI 0)), (4, .int (iI 1)), (0, .ref rr), (1, .int (iI 0)), (2, .ref u), (3, .ref w)]) E.1 E.2.1 dX10_missing_12 hl (by decide) rfl (fun ls hl => ?_)
  refine lv_iload E.1 E.2.1 dX10_missing_14 (lv_at hl 0 rfl) ?_
  refine lv_iload_n E.1 E.2.1 dX10_missing_16 rfl (lv_at hl 3 rfl) ?_
  refine fw_icmp_ge (tgt := 99) E dX10_missing_17 (by decide) (by omega) (by omega) (by omega) (by omega) (fun c7 => ?_) (fun c7 => ?_)
  · refine lv_iload E.1 E.2.1 dX10_missing_99 (lv_at hl 1 rfl) ?_
    refine fw_iret E hr hlk hH ?_ dX10_missing_101
    exact ⟨rfl, ⟨_, _, u0, w0, zup_eq, (fun q hq => by rw [fr6 q (by omega), fr3 q (by omega)])⟩, hz⟩
  · exact absurd c7 (by omega)
theorem m_missing1 (l : Launch) (G : fw_G) (M : fw_M) (N : Nat) (u w : Nat) (hbu : G.2.2.1 ≤ u) (hbw : G.2.2.1 ≤ w) (huw : u ≠ w) (f g : Nat → Int) (u0 : M u = some (fB G 120 (fun j0 => iI (f j0)))) (w0 : M w = some (fI G 120 (fun j0 => iI (g j0)))) (rr : Nat) (rv : Nat → Int) (r0 : M rr = some (fI G 40 (fun j0 => iI (rv j0)))) (hur : u ≠ rr) (hwr : w ≠ rr) (cd : Int) (hc : 0 ≤ cd ∧ cd ≤ 13) (hn : cd * 256 ≤ rv 0 ∧ rv 0 < cd * 256 + 256) : fMet l yX10_missing cX10_missing 9 (some .int) 4 150 0 0 G M N [.ref rr, .int (iI 1), .ref u, .ref w] (fw_pi (fun r M1 n1 => r = iI (zPARTS cd.toNat) ∧ (∃ f1 g1 : Nat → Int, M1 u = some (fB G 120 (fun j0 => iI (f1 j0))) ∧ M1 w = some (fI G 120 (fun j0 => iI (g1 j0))) ∧ (∀ q : Nat, (↑q : Int) < zPARTS cd.toNat → (0 ≤ f1 q ∧ f1 q ≤ 1) ∧ g1 q = 2) ∧ ∀ q, (q ≠ u ∧ q ≠ w) → M1 q = M q) ∧ n1 = N)) := by
  refine fw_met RX10 rfl (by decide +kernel) (Nat.le_of_ble_eq_true rfl) ?_
  intro p e s m args below meth c ls E hr hlk hnm hK hH hz hl
  refine lv_aload_n E.1 E.2.1 dX10_missing_0 rfl (lv_at hl 2 rfl) ?_
  refine lv_iconst (v := iI 0) E.1 E.2.1 dX10_missing_1 (by decide) ?_
  refine lv_iconst (v := iI 1) E.1 E.2.1 dX10_missing_2 (by decide) ?_
  refine fw_zast E hK hH (by omega) u0 (iI_in (by omega) (by omega) (by omega)) dX10_missing_3 (fun H1 locs1 hH hz1 => ?_)
  replace hz := hz1.trans hz; clear hz1
  rw [show vp_nar .boolean (iI (1)) = iI (1) from by rfl, show upd (fun j0 => iI (f j0)) (iI (0)).toNatClampNeg (iI (1)) = fun j0 => iI ((zup f (0) (1)) j0) from by rw [iI_ix (by omega) (by omega)]; exact zup_upd _ _ _] at hH
  obtain ⟨M1, hM2⟩ : ∃ MX, MX = fw_up M u (fB G 120 (fun j0 => iI ((zup f (0) (1)) j0))) := ⟨_, rfl⟩
  replace hH := fw_H.nm hM2 hH
  have fr3 : ∀ q, q ≠ u → M1 q = M q := fun q h => by rw [hM2]; exact fw_up_ne h
  replace w0 : M1 w = some (fI G 120 (fun j0 => iI (g j0))) := (fr3 _ (by omega)).trans w0
  replace r0 : M1 rr = some (fI G 40 (fun j0 => iI (rv j0))) := (fr3 _ (by omega)).trans r0
  have u0 : M1 u = some (fB G 120 (fun j0 => iI ((zup f (0) (1)) j0))) := by rw [hM2]; exact fw_up_eq
  refine lv_aload_n E.1 E.2.1 dX10_missing_4 rfl (lv_at hl 3 rfl) ?_
  refine lv_iconst (v := iI 0) E.1 E.2.1 dX10_missing_5 (by decide) ?_
  refine lv_iconst (v := iI 1) E.1 E.2.1 dX10_missing_6 (by decide) ?_
  refine fw_iast E hK hH (by omega) w0 (iI_in (by omega) (by omega) (by omega)) dX10_missing_7 (fun H1 locs1 hH hz1 => ?_)
  replace hz := hz1.trans hz; clear hz1
  rw [show upd (fun j0 => iI (g j0)) (iI (0)).toNatClampNeg (iI (1)) = fun j0 => iI ((zup g (0) (1)) j0) from by rw [iI_ix (by omega) (by omega)]; exact zup_upd _ _ _] at hH
  obtain ⟨M4, hM5⟩ : ∃ MX, MX = fw_up M1 w (fI G 120 (fun j0 => iI ((zup g (0) (1)) j0))) := ⟨_, rfl⟩
  replace hH := fw_H.nm hM5 hH
  have fr6 : ∀ q, q ≠ w → M4 q = M1 q := fun q h => by rw [hM5]; exact fw_up_ne h
  replace r0 : M4 rr = some (fI G 40 (fun j0 => iI (rv j0))) := (fr6 _ (by omega)).trans r0
  replace u0 : M4 u = some (fB G 120 (fun j0 => iI ((zup f (0) (1)) j0))) := (fr6 _ (by omega)).trans u0
  have w0 : M4 w = some (fI G 120 (fun j0 => iI ((zup g (0) (1)) j0))) := by rw [hM5]; exact fw_up_eq
  refine lv_iconst (v := iI 1) E.1 E.2.1 dX10_missing_8 (by decide) ?_
  refine lv_istore (lv' := [(4, .int (iI 1)), (0, .ref rr), (1, .int (iI 1)), (2, .ref u), (3, .ref w)]) E.1 E.2.1 dX10_missing_9 hl (by decide) rfl (fun ls hl => ?_)
  refine lv_iconst (v := iI 0) E.1 E.2.1 dX10_missing_11 (by decide) ?_
  refine lv_istore (lv' := [(5, .int (iI 0)), (4, .int (iI 1)), (0, .ref rr), (1, .int (iI 1)), (2, .ref u), (3, .ref w)]) E.1 E.2.1 dX10_missing_12 hl (by decide) rfl (fun ls hl => ?_)
  refine lv_iload E.1 E.2.1 dX10_missing_14 (lv_at hl 0 rfl) ?_
  refine lv_iload_n E.1 E.2.1 dX10_missing_16 rfl (lv_at hl 3 rfl) ?_
  refine fw_icmp_ge (tgt := 99) E dX10_missing_17 (by decide) (by omega) (by omega) (by omega) (by omega) (fun c7 => ?_) (fun c7 => ?_)
  · exact absurd c7 (by omega)
  · refine lv_iinc (v := iI (0)) (lv' := [(4, .int (iI (0))), (5, .int (iI 0)), (0, .ref rr), (1, .int (iI 1)), (2, .ref u), (3, .ref w)]) E.1 E.2.1 dX10_missing_20 hl (k := 1) rfl (by decide) (by decide) rfl (fun ls hl => ?_)
    refine lv_aload_n E.1 E.2.1 dX10_missing_23 rfl (lv_at hl 5 rfl) ?_
    refine lv_iload E.1 E.2.1 dX10_missing_24 (lv_at hl 0 rfl) ?_
    refine fw_iald E hK hH w0 (iI_in (by omega) (by omega) (by omega)) dX10_missing_26 ?_
    refine fw_cv (y := iI (1)) (by rw [iI_ix (by omega) (by omega)]; rfl) ?_
    refine lv_istore (lv' := [(6, .int (iI (1))), (4, .int (iI (0))), (5, .int (iI 0)), (0, .ref rr), (1, .int (iI 1)), (2, .ref u), (3, .ref w)]) E.1 E.2.1 dX10_missing_27 hl (by decide) rfl (fun ls hl => ?_)
    refine lv_aload_n E.1 E.2.1 dX10_missing_29 rfl (lv_at hl 3 rfl) ?_
    refine lv_iload E.1 E.2.1 dX10_missing_30 (lv_at hl 2 rfl) ?_
    refine fw_iald E hK hH r0 (iI_in (by omega) (by omega) (by omega)) dX10_missing_32 ?_
    refine fw_cv (y := iI (rv 0)) (by rw [iI_ix (by omega) (by omega)]; rfl) ?_
    refine fw_cS (As := [.int (iI (rv 0))]) (rest := []) E hK hH hl fL_X10_codeOf ql_RX10_35 qs_yX10_codeOf (m_codeOf l G _ _ (rv 0) cd (by omega) (by omega)) rfl rfl (Nat.le_of_ble_eq_true rfl) ⟨Nat.le_of_ble_eq_true rfl, Nat.le_of_ble_eq_true rfl⟩ ⟨Nat.le_of_ble_eq_true rfl, Nat.le_of_ble_eq_true rfl⟩ dX10_missing_33 (fw_ki fun r10 M9 H1 locs1 hp8 hH hz1 => ?_)
    obtain ⟨rfl, hM9, hz2⟩ := hp8
    replace hz := hz2.trans hz
    clear hz1 hz2
    rw [hM9] at hH
    refine fw_cS (As := [.int (iI cd)]) (rest := []) E hK hH hl fL_X10_beneath ql_RX10_27 qs_yX10_beneath (m_beneath l G _ _ cd hc) rfl rfl (Nat.le_of_ble_eq_true rfl) ⟨Nat.le_of_ble_eq_true rfl, Nat.le_of_ble_eq_true rfl⟩ ⟨Nat.le_of_ble_eq_true rfl, Nat.le_of_ble_eq_true rfl⟩ dX10_missing_36 (fw_kr fun r13 M12 H1 locs1 hp11 hH hz1 => ?_)
    obtain ⟨⟨i, hi5, hr9, hli⟩, hM9, hz2⟩ := hp11
    rw [hr9]
    have hl3 := sLen_le i hi5
    replace hz := hz2.trans hz
    clear hz1 hz2
    rw [hM9] at hH
    refine lv_astore (lv' := [(7, .ref (G.2.2.2.2 (30 + i))), (6, .int (iI (1))), (4, .int (iI (0))), (5, .int (iI 0)), (0, .ref rr), (1, .int (iI 1)), (2, .ref u), (3, .ref w)]) E.1 E.2.1 dX10_missing_39 hl (by decide) rfl (fun ls hl => ?_)
    refine lv_aload E.1 E.2.1 dX10_missing_41 (lv_at hl 0 rfl) ?_
    refine fw_cVX (As := []) (rest := []) E hK hH hl ((hK.me.2.2.2.2.2.2.2.2).2.2.1 i hi5).1 fL_J0_length_8abf5 ql_RX10_13 qi_yJ0_length_8abf5 qv_yJ0_length_8abf5 (j_length l G _ _ i hi5) rfl rfl (Nat.le_of_ble_eq_true rfl) ⟨Nat.le_of_ble_eq_true rfl, Nat.le_of_ble_eq_true rfl⟩ ⟨Nat.le_of_ble_eq_true rfl, Nat.le_of_ble_eq_true rfl⟩ dX10_missing_43 (fw_ki fun r M1 H1 locs1 hp hH hz1 => ?_)
    obtain ⟨rfl, hM9, hz2⟩ := hp
    replace hz := hz2.trans hz
    clear hz1 hz2
    rw [hM9] at hH
    refine lv_iconst (v := iI 1) E.1 E.2.1 dX10_missing_46 (by decide) ?_
    refine fw_isub E dX10_missing_47 ?_
    refine lv_istore (lv' := [(8, .int (iI ((sLen i : Int) - 1))), (7, .ref (G.2.2.2.2 (30 + i))), (6, .int (iI (1))), (4, .int (iI (0))), (5, .int (iI 0)), (0, .ref rr), (1, .int (iI 1)), (2, .ref u), (3, .ref w)]) E.1 E.2.1 dX10_missing_48 hl (by decide) rfl (fun ls hl => ?_)
    have loop50_1 : ∀ (d50 : Nat) (jt : Int) (mn : Int) (f : Nat → Int) (g : Nat → Int) (Mw50 : fw_M) (H : Heap) (locs : List Loc) (ls : Array Slot), (jt + 1).toNat < d50 → -1 ≤ jt → jt ≤ (sLen i : Int) - 1 → mn = (sLen i : Int) - 1 - jt → (∀ q : Nat, (↑q : Int) < mn → (0 ≤ f q ∧ f q ≤ 1) ∧ g q = 2) → (∀ q, (q ≠ u ∧ q ≠ w) → Mw50 q = M q) → fw_H G s Mw50 H locs → H.size = N → Mw50 u = some (fB G 120 (fun j0 => iI (f j0))) → Mw50 w = some (fI G 120 (fun j0 => iI (g j0))) → lv_has ls 9 [(0, .ref rr), (1, .int (iI 1)), (2, .ref u), (3, .ref w), (4, .int (iI mn)), (5, .int (iI 0)), (6, .int (iI (1))), (7, .ref (G.2.2.2.2 (30 + i))), (8, .int (iI jt))] → W p l e ({ frames := 4, cells := 0, slots := 0, locals := 150 } : Room) s m args below meth c H locs (0) (0) (MQ below (fw_Q G (fw_pi (fun r M1 n1 => r = iI (zPARTS cd.toNat) ∧ (∃ f1 g1 : Nat → Int, M1 u = some (fB G 120 (fun j0 => iI (f1 j0))) ∧ M1 w = some (fI G 120 (fun j0 => iI (g1 j0))) ∧ (∀ q : Nat, (↑q : Int) < zPARTS cd.toNat → (0 ≤ f1 q ∧ f1 q ≤ 1) ∧ g1 q = 2) ∧ ∀ q, (q ≠ u ∧ q ≠ w) → M1 q = M q) ∧ n1 = N))) args s 0 0 (fun q => G.2.2.1 ≤ q)) (F0 m 50 ls []) := by
      intro d50
      induction d50 with
      | zero => intro jt mn f g Mw50 H locs ls hd; exact absurd hd (Nat.not_lt_zero _)
      | succ d50 ih50 =>
        intro jt mn f g Mw50 H locs ls hd50 i1 i2 i3 hP hfr0 hH hz u0 w0 hl
        refine lv_iload E.1 E.2.1 dX10_missing_50 (lv_at hl 8 rfl) ?_
        refine fw_if_lt (tgt := 93) E dX10_missing_52 (by decide) (by omega) (by omega) (fun c14 => ?_) (fun c14 => ?_)
        · refine lv_iinc (v := iI (1)) (lv' := [(5, .int (iI (1))), (0, .ref rr), (1, .int (iI 1)), (2, .ref u), (3, .ref w), (4, .int (iI mn)), (6, .int (iI (1))), (7, .ref (G.2.2.2.2 (30 + i))), (8, .int (iI jt))]) E.1 E.2.1 dX10_missing_93 hl (k := 5) rfl (by decide) (by decide) rfl (fun ls hl => ?_)
          refine lv_goto (tgt := 14) E.1 E.2.1 dX10_missing_96 (by decide) ?_
          refine lv_iload E.1 E.2.1 dX10_missing_14 (lv_at hl 0 rfl) ?_
          refine lv_iload_n E.1 E.2.1 dX10_missing_16 rfl (lv_at hl 2 rfl) ?_
          refine fw_icmp_ge (tgt := 99) E dX10_missing_17 (by decide) (by omega) (by omega) (by omega) (by omega) (fun c15 => ?_) (fun c15 => ?_)
          · refine lv_iload E.1 E.2.1 dX10_missing_99 (lv_at hl 5 rfl) ?_
            refine fw_iret E hr hlk hH ?_ dX10_missing_101
            exact ⟨congrArg iI (by omega), ⟨_, _, u0, w0, fun q hq => hP q (by omega), hfr0⟩, hz⟩
          · exact absurd c15 (by omega)
        · refine lv_aload_n E.1 E.2.1 dX10_missing_55 rfl (lv_at hl 2 rfl) ?_
          refine lv_iload E.1 E.2.1 dX10_missing_56 (lv_at hl 4 rfl) ?_
          refine lv_aload E.1 E.2.1 dX10_missing_58 (lv_at hl 7 rfl) ?_
          refine lv_iload E.1 E.2.1 dX10_missing_60 (lv_at hl 8 rfl) ?_
          refine fw_cVX (As := [.int (iI jt)]) (rest := [.int (iI mn), .ref u]) E hK hH hl ((hK.me.2.2.2.2.2.2.2.2).2.2.1 i hi5).1 fL_J0_charAt_5068e ql_RX10_19 qi_yJ0_charAt_5068e qv_yJ0_charAt_5068e (j_charAt l G _ _ i jt.toNat jt hi5 (by omega) (by omega)) rfl rfl (Nat.le_of_ble_eq_true rfl) ⟨Nat.le_of_ble_eq_true rfl, Nat.le_of_ble_eq_true rfl⟩ ⟨Nat.le_of_ble_eq_true rfl, Nat.le_of_ble_eq_true rfl⟩ dX10_missing_62 (fw_ki fun r M1 H1 locs1 hp hH hz1 => ?_)
          obtain ⟨⟨ch, rfl, hch⟩, hM9, hz2⟩ := hp
          replace hz := hz2.trans hz
          clear hz1 hz2
          rw [hM9] at hH
          refine lv_bipush (v := iI 110) E.1 E.2.1 dX10_missing_65 (by decide) ?_
          refine fw_icmp_ne (tgt := 74) E dX10_missing_67 (by decide) (by omega) (by omega) (by omega) (by omega) (fun c16 => ?_) (fun c16 => ?_)
          · refine lv_iconst (v := iI 0) E.1 E.2.1 dX10_missing_74 (by decide) ?_
            refine fw_zast E hK hH (by omega) u0 (iI_in (by omega) (by omega) (by omega)) dX10_missing_75 (fun H1 locs1 hH hz1 => ?_)
            replace hz := hz1.trans hz; clear hz1
            rw [show vp_nar .boolean (iI (0)) = iI (0) from by rfl, show upd (fun j0 => iI (f j0)) (iI (mn)).toNatClampNeg (iI (0)) = fun j0 => iI ((zup f ((mn).toNat) (0)) j0) from by rw [iI_ix (by omega) (by omega)]; exact zup_upd _ _ _] at hH
            obtain ⟨M17, hM18⟩ : ∃ MX, MX = fw_up Mw50 u (fB G 120 (fun j0 => iI ((zup f ((mn).toNat) (0)) j0))) := ⟨_, rfl⟩
            replace hH := fw_H.nm hM18 hH
            have fr19 : ∀ q, q ≠ u → M17 q = Mw50 q := fun q h => by rw [hM18]; exact fw_up_ne h
            replace w0 : M17 w = some (fI G 120 (fun j0 => iI (g j0))) := (fr19 _ (by omega)).trans w0
            have u0 : M17 u = some (fB G 120 (fun j0 => iI ((zup f ((mn).toNat) (0)) j0))) := by rw [hM18]; exact fw_up_eq
            refine lv_aload_n E.1 E.2.1 dX10_missing_76 rfl (lv_at hl 3 rfl) ?_
            refine lv_iload E.1 E.2.1 dX10_missing_77 (lv_at hl 4 rfl) ?_
            refine lv_iinc (v := iI (mn + 1)) (lv' := [(4, .int (iI (mn + 1))), (0, .ref rr), (1, .int (iI 1)), (2, .ref u), (3, .ref w), (5, .int (iI 0)), (6, .int (iI (1))), (7, .ref (G.2.2.2.2 (30 + i))), (8, .int (iI jt))]) E.1 E.2.1 dX10_missing_79 hl (k := 4) rfl (iI_inc rfl) (by decide) rfl (fun ls hl => ?_)
            refine lv_iload E.1 E.2.1 dX10_missing_82 (lv_at hl 6 rfl) ?_
            refine lv_iconst (v := iI 1) E.1 E.2.1 dX10_missing_84 (by decide) ?_
            refine fw_iadd E dX10_missing_85 ?_
            refine fw_cv (y := iI (2)) (by decide) ?_
            refine fw_iast E hK hH (by omega) w0 (iI_in (by omega) (by omega) (by omega)) dX10_missing_86 (fun H1 locs1 hH hz1 => ?_)
            replace hz := hz1.trans hz; clear hz1
            rw [show upd (fun j0 => iI (g j0)) (iI (mn)).toNatClampNeg (iI (2)) = fun j0 => iI ((zup g ((mn).toNat) (2)) j0) from by rw [iI_ix (by omega) (by omega)]; exact zup_upd _ _ _] at hH
            obtain ⟨M20, hM21⟩ : ∃ MX, MX = fw_up M17 w (fI G 120 (fun j0 => iI ((zup g ((mn).toNat) (2)) j0))) := ⟨_, rfl⟩
            replace hH := fw_H.nm hM21 hH
            have fr22 : ∀ q, q ≠ w → M20 q = M17 q := fun q h => by rw [hM21]; exact fw_up_ne h
            replace u0 : M20 u = some (fB G 120 (fun j0 => iI ((zup f ((mn).toNat) (0)) j0))) := (fr22 _ (by omega)).trans u0
            have w0 : M20 w = some (fI G 120 (fun j0 => iI ((zup g ((mn).toNat) (2)) j0))) := by rw [hM21]; exact fw_up_eq
            refine lv_iinc (v := iI (jt - 1)) (lv' := [(8, .int (iI (jt - 1))), (4, .int (iI (mn + 1))), (0, .ref rr), (1, .int (iI 1)), (2, .ref u), (3, .ref w), (5, .int (iI 0)), (6, .int (iI (1))), (7, .ref (G.2.2.2.2 (30 + i)))]) E.1 E.2.1 dX10_missing_87 hl (k := 8) rfl (iI_inc rfl) (by decide) rfl (fun ls hl => ?_)
            refine lv_goto (tgt := 50) E.1 E.2.1 dX10_missing_90 (by decide) ?_
            exact ih50 (jt - 1) (mn + 1) (zup f ((mn).toNat) (0)) (zup g ((mn).toNat) (2)) _ _ _ _ (by omega) (by omega) (by omega) (by omega) (fun q hq => by
                by_cases hq2 : q = mn.toNat
                · rw [hq2, zup_eq, zup_eq]; exact ⟨by omega, by omega⟩
                · rw [zup_ne hq2, zup_ne hq2]; exact hP q (by omega)) (fun q hq => by rw [fr22 q (by omega), fr19 q (by omega)]; exact hfr0 q hq) hH (by omega) u0 w0 (lv_sub hl [2, 3, 4, 5, 1, 6, 7, 8, 0] rfl)
          · refine lv_iconst (v := iI 1) E.1 E.2.1 dX10_missing_70 (by decide) ?_
            refine lv_goto (tgt := 75) E.1 E.2.1 dX10_missing_71 (by decide) ?_
            refine fw_zast E hK hH (by omega) u0 (iI_in (by omega) (by omega) (by omega)) dX10_missing_75 (fun H1 locs1 hH hz1 => ?_)
            replace hz := hz1.trans hz; clear hz1
            rw [show vp_nar .boolean (iI (1)) = iI (1) from by rfl, show upd (fun j0 => iI (f j0)) (iI (mn)).toNatClampNeg (iI (1)) = fun j0 => iI ((zup f ((mn).toNat) (1)) j0) from by rw [iI_ix (by omega) (by omega)]; exact zup_upd _ _ _] at hH
            obtain ⟨M23, hM24⟩ : ∃ MX, MX = fw_up Mw50 u (fB G 120 (fun j0 => iI ((zup f ((mn).toNat) (1)) j0))) := ⟨_, rfl⟩
            replace hH := fw_H.nm hM24 hH
            have fr25 : ∀ q, q ≠ u → M23 q = Mw50 q := fun q h => by rw [hM24]; exact fw_up_ne h
            replace w0 : M23 w = some (fI G 120 (fun j0 => iI (g j0))) := (fr25 _ (by omega)).trans w0
            have u0 : M23 u = some (fB G 120 (fun j0 => iI ((zup f ((mn).toNat) (1)) j0))) := by rw [hM24]; exact fw_up_eq
            refine lv_aload_n E.1 E.2.1 dX10_missing_76 rfl (lv_at hl 3 rfl) ?_
            refine lv_iload E.1 E.2.1 dX10_missing_77 (lv_at hl 4 rfl) ?_
            refine lv_iinc (v := iI (mn + 1)) (lv' := [(4, .int (iI (mn + 1))), (0, .ref rr), (1, .int (iI 1)), (2, .ref u), (3, .ref w), (5, .int (iI 0)), (6, .int (iI (1))), (7, .ref (G.2.2.2.2 (30 + i))), (8, .int (iI jt))]) E.1 E.2.1 dX10_missing_79 hl (k := 4) rfl (iI_inc rfl) (by decide) rfl (fun ls hl => ?_)
            refine lv_iload E.1 E.2.1 dX10_missing_82 (lv_at hl 6 rfl) ?_
            refine lv_iconst (v := iI 1) E.1 E.2.1 dX10_missing_84 (by decide) ?_
            refine fw_iadd E dX10_missing_85 ?_
            refine fw_cv (y := iI (2)) (by decide) ?_
            refine fw_iast E hK hH (by omega) w0 (iI_in (by omega) (by omega) (by omega)) dX10_missing_86 (fun H1 locs1 hH hz1 => ?_)
            replace hz := hz1.trans hz; clear hz1
            rw [show upd (fun j0 => iI (g j0)) (iI (mn)).toNatClampNeg (iI (2)) = fun j0 => iI ((zup g ((mn).toNat) (2)) j0) from by rw [iI_ix (by omega) (by omega)]; exact zup_upd _ _ _] at hH
            obtain ⟨M26, hM27⟩ : ∃ MX, MX = fw_up M23 w (fI G 120 (fun j0 => iI ((zup g ((mn).toNat) (2)) j0))) := ⟨_, rfl⟩
            replace hH := fw_H.nm hM27 hH
            have fr28 : ∀ q, q ≠ w → M26 q = M23 q := fun q h => by rw [hM27]; exact fw_up_ne h
            replace u0 : M26 u = some (fB G 120 (fun j0 => iI ((zup f ((mn).toNat) (1)) j0))) := (fr28 _ (by omega)).trans u0
            have w0 : M26 w = some (fI G 120 (fun j0 => iI ((zup g ((mn).toNat) (2)) j0))) := by rw [hM27]; exact fw_up_eq
            refine lv_iinc (v := iI (jt - 1)) (lv' := [(8, .int (iI (jt - 1))), (4, .int (iI (mn + 1))), (0, .ref rr), (1, .int (iI 1)), (2, .ref u), (3, .ref w), (5, .int (iI 0)), (6, .int (iI (1))), (7, .ref (G.2.2.2.2 (30 + i)))]) E.1 E.2.1 dX10_missing_87 hl (k := 8) rfl (iI_inc rfl) (by decide) rfl (fun ls hl => ?_)
            refine lv_goto (tgt := 50) E.1 E.2.1 dX10_missing_90 (by decide) ?_
            exact ih50 (jt - 1) (mn + 1) (zup f ((mn).toNat) (1)) (zup g ((mn).toNat) (2)) _ _ _ _ (by omega) (by omega) (by omega) (by omega) (fun q hq => by
                by_cases hq2 : q = mn.toNat
                · rw [hq2, zup_eq, zup_eq]; exact ⟨by omega, by omega⟩
                · rw [zup_ne hq2, zup_ne hq2]; exact hP q (by omega)) (fun q hq => by rw [fr28 q (by omega), fr25 q (by omega)]; exact hfr0 q hq) hH (by omega) u0 w0 (lv_sub hl [2, 3, 4, 5, 1, 6, 7, 8, 0] rfl)
    exact loop50_1 ((((sLen i : Int) - 1) + 1).toNat + 1) ((sLen i : Int) - 1) 0 (zup f (0) (1)) (zup g (0) (1)) _ _ _ _ (Nat.lt_succ_self _) (by omega) (by omega) (by omega) (fun q hq => absurd hq (by omega)) (fun q hq => by rw [fr6 q (by omega), fr3 q (by omega)]) hH (by omega) u0 w0 (lv_sub hl [5, 6, 7, 8, 3, 4, 2, 1, 0] rfl)
set_option maxHeartbeats 4000000 in
theorem y_sketch (l : Launch) (G : fw_G) (M : fw_M) (N : Nat) (b : Nat) (hD : md0 G M b) (hbN : b + 7 ≤ N) (z1 z2 : Int) (hz1 : -2147483648 ≤ z1 ∧ z1 < 2147483648) (hz2 : -2147483648 ≤ z2 ∧ z2 < 2147483648) : fMet l yX10_sketch cX10_sketch 9 (some .int) 8 190 2 240 G M N [.ref b, .int (iI z1), .int (iI z2)] (fw_pi (fun r M1 n1 => mth M1 b (kS_sketch z1 z2) ∧ (kS_sketch z1 z2 = 0 → r = iI (zPARTS z1.toNat)) ∧ ∀ q, b + 7 ≤ q → q < N → M1 q = M q)) := by
  refine fw_met RX10 rfl (by decide +kernel) (Nat.le_of_ble_eq_true rfl) ?_
  intro p e s m args below meth c ls E hr hlk hnm hK hH hz hl
  obtain ⟨hb, m0, _, m2, _, _, _⟩ := id hD
  refine lv_aload_n E.1 E.2.1 dX10_sketch_0 rfl (lv_at hl 0 rfl) ?_
  refine lv_iconst (v := iI 0) E.1 E.2.1 dX10_sketch_1 (by decide) ?_
  refine fw_put E hK hH (by omega) m0 fc_X10 1 (by decide) ql_RX10_163 rfl rfl rfl rfl (Nat.le_of_ble_eq_true rfl) dX10_sketch_2 (fun H1 locs1 hH hz1 => ?_)
  replace hz := hz1.trans hz; clear hz1
  obtain ⟨M1, hM2⟩ : ∃ MX, MX = fw_up M b (.inr (10, [.ref (b + 1), .int (iI 0), .ref (b + 2), .int (iI 0), .int (iI 0), .ref (b + 3), .int (iI 0), .ref (b + 4), .ref (b + 5), .int (iI 0), .int (iI 1), .int (iI 0), .ref (b + 6), .int (iI 0), .int (iI 70), .int (iI 20), .int (iI 5), .int (iI 2), .int (iI 1), .int (iI 0), .int (iI 0)])) := ⟨_, rfl⟩
  replace hH := fw_H.nm hM2 hH
  have fr3 : ∀ q, q ≠ b → M1 q = M q := fun q h => by rw [hM2]; exact fw_up_ne h
  replace m2 : M1 (b + 2) = some (fI G 40 (fun j0 => iI (z0 j0))) := (fr3 _ (by omega)).trans m2
  have m0 : M1 b = some (.inr (10, [.ref (b + 1), .int (iI 0), .ref (b + 2), .int (iI 0), .int (iI 0), .ref (b + 3), .int (iI 0), .ref (b + 4), .ref (b + 5), .int (iI 0), .int (iI 1), .int (iI 0), .ref (b + 6), .int (iI 0), .int (iI 70), .int (iI 20), .int (iI 5), .int (iI 2), .int (iI 1), .int (iI 0), .int (iI 0)])) := by rw [hM2]; exact fw_up_eq
  refine lv_iload_n E.1 E.2.1 dX10_sketch_5 rfl (lv_at hl 1 rfl) ?_
  refine lv_iload_n E.1 E.2.1 dX10_sketch_6 rfl (lv_at hl 2 rfl) ?_
  refine fw_cS (As := [.int (iI z1), .int (iI z2)]) (rest := []) E hK hH hl fL_X10_isCode ql_RX10_172 qs_yX10_isCode (m_isCode l G _ _ z1 z2 (by omega) (by omega)) rfl rfl (Nat.le_of_ble_eq_true rfl) ⟨Nat.le_of_ble_eq_true rfl, Nat.le_of_ble_eq_true rfl⟩ ⟨by show _ ≤ (2 : Nat); omega, by show _ ≤ (240 : Nat); omega⟩ dX10_sketch_7 (fw_ki fun r7 M6 H1 locs1 hp5 hH hz1 => ?_)
  obtain ⟨b4, rfl, hb4, hM9, hz2⟩ := hp5
  replace hz := hz2.trans hz
  clear hz1 hz2
  rw [hM9] at hH
  refine fw_if_ne (tgt := 19) E dX10_sketch_10 (by decide) (by omega) (by omega) (fun c8 => ?_) (fun c8 => ?_)
  · refine lv_bipush (v := iI 120) E.1 E.2.1 dX10_sketch_19 (by decide) ?_
    refine fw_newZ (N := 120) E hK hH hz qa_boolean (by decide) (by decide) (by decide) ⟨by show _ ≤ (2 : Nat); omega, by show _ ≤ (240 : Nat); omega⟩ dX10_sketch_21 (fun H1 hH hz1 => ?_)
    replace hz : H1.size = N + 1 := by omega
    clear hz1
    obtain ⟨M9, hM10⟩ : ∃ MX, MX = fw_up M1 N (fB G 120 (fun j0 => iI (z0 j0))) := ⟨_, rfl⟩
    replace hH := fw_H.nm hM10 hH
    have fr11 : ∀ q, q ≠ N → M9 q = M1 q := fun q h => by rw [hM10]; exact fw_up_ne h
    replace m2 : M9 (b + 2) = some (fI G 40 (fun j0 => iI (z0 j0))) := (fr11 _ (by omega)).trans m2
    replace m0 : M9 b = some (.inr (10, [.ref (b + 1), .int (iI 0), .ref (b + 2), .int (iI 0), .int (iI 0), .ref (b + 3), .int (iI 0), .ref (b + 4), .ref (b + 5), .int (iI 0), .int (iI 1), .int (iI 0), .ref (b + 6), .int (iI 0), .int (iI 70), .int (iI 20), .int (iI 5), .int (iI 2), .int (iI 1), .int (iI 0), .int (iI 0)])) := (fr11 _ (by omega)).trans m0
    have hn0 : M9 N = some (fB G 120 (fun j0 => iI (z0 j0))) := by rw [hM10]; exact fw_up_eq
    refine lv_astore_n (lv' := [(3, .ref N), (0, .ref b), (1, .int (iI z1)), (2, .int (iI z2))]) E.1 E.2.1 dX10_sketch_23 rfl hl (by decide) rfl (fun ls hl => ?_)
    refine lv_bipush (v := iI 120) E.1 E.2.1 dX10_sketch_24 (by decide) ?_
    refine fw_newI (N := 120) E hK hH hz qa_int (by decide) (by decide) (by decide) ⟨by show _ ≤ (2 : Nat); omega, by show _ ≤ (240 : Nat); omega⟩ dX10_sketch_26 (fun H1 hH hz1 => ?_)
    replace hz : H1.size = N + 2 := by omega
    clear hz1
    obtain ⟨M12, hM13⟩ : ∃ MX, MX = fw_up M9 (N + 1) (fI G 120 (fun j0 => iI (z0 j0))) := ⟨_, rfl⟩
    replace hH := fw_H.nm hM13 hH
    have fr14 : ∀ q, q ≠ N + 1 → M12 q = M9 q := fun q h => by rw [hM13]; exact fw_up_ne h
    replace m2 : M12 (b + 2) = some (fI G 40 (fun j0 => iI (z0 j0))) := (fr14 _ (by omega)).trans m2
    replace m0 : M12 b = some (.inr (10, [.ref (b + 1), .int (iI 0), .ref (b + 2), .int (iI 0), .int (iI 0), .ref (b + 3), .int (iI 0), .ref (b + 4), .ref (b + 5), .int (iI 0), .int (iI 1), .int (iI 0), .ref (b + 6), .int (iI 0), .int (iI 70), .int (iI 20), .int (iI 5), .int (iI 2), .int (iI 1), .int (iI 0), .int (iI 0)])) := (fr14 _ (by omega)).trans m0
    replace hn0 : M12 N = some (fB G 120 (fun j0 => iI (z0 j0))) := (fr14 _ (by omega)).trans hn0
    have hn1 : M12 (N + 1) = some (fI G 120 (fun j0 => iI (z0 j0))) := by rw [hM13]; exact fw_up_eq
    refine lv_astore (lv' := [(4, .ref (N + 1)), (3, .ref N), (0, .ref b), (1, .int (iI z1)), (2, .int (iI z2))]) E.1 E.2.1 dX10_sketch_28 hl (by decide) rfl (fun ls hl => ?_)
    refine lv_aload_n E.1 E.2.1 dX10_sketch_30 rfl (lv_at hl 2 rfl) ?_
    refine fw_get E hK hH m0 fc_X10 2 (by decide) ql_RX10_127 rfl rfl dX10_sketch_31 ?_
    refine lv_aload_n E.1 E.2.1 dX10_sketch_34 rfl (lv_at hl 2 rfl) ?_
    refine fw_get E hK hH m0 fc_X10 3 (by decide) ql_RX10_179 rfl rfl dX10_sketch_35 ?_
    refine lv_aload_n E.1 E.2.1 dX10_sketch_38 rfl (lv_at hl 1 rfl) ?_
    refine lv_aload E.1 E.2.1 dX10_sketch_39 (lv_at hl 0 rfl) ?_
    refine fw_cS (As := [.ref (b + 2), .int (iI 0), .ref N, .ref (N + 1)]) (rest := []) E hK hH hl fL_X10_missing ql_RX10_182 qs_yX10_missing (m_missing0 l G _ _ (b + 2) N (N + 1) (by omega) (by omega) (by omega) _ _ hn0 hn1) rfl rfl (Nat.le_of_ble_eq_true rfl) ⟨Nat.le_of_ble_eq_true rfl, Nat.le_of_ble_eq_true rfl⟩ ⟨by show _ ≤ (2 : Nat); omega, by show _ ≤ (240 : Nat); omega⟩ dX10_sketch_41 (fw_ki fun r17 M16 H1 locs1 hp15 hH hz1 => ?_)
    obtain ⟨rfl, ⟨f1, g1, u1, w1, hf1, hfr⟩, hz2⟩ := hp15
    replace hz := hz2.trans hz
    clear hz1 hz2
    have fr18 := hfr
    replace m2 : M16 (b + 2) = some (fI G 40 (fun j0 => iI (z0 j0))) := (fr18 _ (by omega)).trans m2
    replace m0 : M16 b = some (.inr (10, [.ref (b + 1), .int (iI 0), .ref (b + 2), .int (iI 0), .int (iI 0), .ref (b + 3), .int (iI 0), .ref (b + 4), .ref (b + 5), .int (iI 0), .int (iI 1), .int (iI 0), .ref (b + 6), .int (iI 0), .int (iI 70), .int (iI 20), .int (iI 5), .int (iI 2), .int (iI 1), .int (iI 0), .int (iI 0)])) := (fr18 _ (by omega)).trans m0
    refine lv_istore (lv' := [(5, .int (iI 1)), (4, .ref (N + 1)), (3, .ref N), (0, .ref b), (1, .int (iI z1)), (2, .int (iI z2))]) E.1 E.2.1 dX10_sketch_44 hl (by decide) rfl (fun ls hl => ?_)
    refine lv_iload E.1 E.2.1 dX10_sketch_46 (lv_at hl 0 rfl) ?_
    refine fw_if_eq (tgt := 73) E dX10_sketch_48 (by decide) (by omega) (by omega) (fun c19 => ?_) (fun c19 => ?_)
    · exact absurd c19 (by omega)
    · refine lv_iload_n E.1 E.2.1 dX10_sketch_51 rfl (lv_at hl 4 rfl) ?_
      refine fw_cS (As := [.int (iI z1)]) (rest := []) E hK hH hl fL_X10_isNumber ql_RX10_23 qs_yX10_isNumber (m_isNumber l G _ _ z1 (by omega)) rfl rfl (Nat.le_of_ble_eq_true rfl) ⟨Nat.le_of_ble_eq_true rfl, Nat.le_of_ble_eq_true rfl⟩ ⟨by show _ ≤ (2 : Nat); omega, by show _ ≤ (240 : Nat); omega⟩ dX10_sketch_52 (fw_ki fun r23 M22 H1 locs1 hp21 hH hz1 => ?_)
      obtain ⟨b20, rfl, hb20, hM9, hz2⟩ := hp21
      replace hz := hz2.trans hz
      clear hz1 hz2
      rw [hM9] at hH
      refine lv_aload_n E.1 E.2.1 dX10_sketch_55 rfl (lv_at hl 2 rfl) ?_
      refine lv_iload E.1 E.2.1 dX10_sketch_56 (lv_at hl 0 rfl) ?_
      refine lv_iconst (v := iI 1) E.1 E.2.1 dX10_sketch_58 (by decide) ?_
      refine fw_isub E dX10_sketch_59 ?_
      refine fw_cv (y := iI (0)) (by decide) ?_
      refine fw_zald E hK hH u1 (iI_in (by omega) (by omega) (by omega)) dX10_sketch_60 ?_
      refine fw_cv (y := iI (1)) (by rw [iI_ix (by omega) (by omega)]; exact congrArg iI hf1) ?_
      refine fw_icmp_ne (tgt := 73) E dX10_sketch_61 (by decide) (by omega) (by omega) (by omega) (by omega) (fun c24 => ?_) (fun c24 => ?_)
      · refine lv_aload_n E.1 E.2.1 dX10_sketch_73 rfl (lv_at hl 3 rfl) ?_
        refine lv_iconst (v := iI 2) E.1 E.2.1 dX10_sketch_74 (by decide) ?_
        refine fw_cV (As := [.int (iI 2)]) (rest := []) E hK hH hl m0 fc_X10 fL_X10_no ql_RX10_176 qi_yX10_no qv_yX10_no (m_no l G _ _ b (by omega) m0 2) rfl rfl (Nat.le_of_ble_eq_true rfl) ⟨Nat.le_of_ble_eq_true rfl, Nat.le_of_ble_eq_true rfl⟩ ⟨by show _ ≤ (2 : Nat); omega, by show _ ≤ (240 : Nat); omega⟩ dX10_sketch_75 (fw_ki fun r27 M26 H1 locs1 hp25 hH hz1 => ?_)
        obtain ⟨rfl, ⟨hmt, hfr⟩, hz2⟩ := hp25
        replace hz := hz2.trans hz
        clear hz1 hz2
        have fr28 := hfr
        replace m2 : M26 (b + 2) = some (fI G 40 (fun j0 => iI (z0 j0))) := (fr28 _ (by omega)).trans m2
        replace u1 : M26 N = some (fB G 120 (fun j0 => iI (f1 j0))) := (fr28 _ (by omega)).trans u1
        replace w1 : M26 (N + 1) = some (fI G 120 (fun j0 => iI (g1 j0))) := (fr28 _ (by omega)).trans w1
        refine W.widen (k := 2) (n := 240) (by omega) (by omega) ?_
        refine fw_iret E hr hlk hH ?_ dX10_sketch_78
        have hk := (show kS_sketch z1 z2 = 2 by unfold kS_sketch; (repeat' split) <;> omega)
        exact ⟨by rw [hk]; exact hmt, fun h => absurd (hk.symm.trans h) (by decide), (fun q hq hq2 => by rw [fr28 q (by omega), fr18 q (by omega), fr14 q (by omega), fr11 q (by omega), fr3 q (by omega)])⟩
      · refine lv_aload_n E.1 E.2.1 dX10_sketch_64 rfl (lv_at hl 3 rfl) ?_
        refine fw_get E hK hH m0 fc_X10 3 (by decide) ql_RX10_179 rfl rfl dX10_sketch_65 ?_
        refine lv_bipush (v := iI 40) E.1 E.2.1 dX10_sketch_68 (by decide) ?_
        refine fw_icmp_ne (tgt := 79) E dX10_sketch_70 (by decide) (by omega) (by omega) (by omega) (by omega) (fun c29 => ?_) (fun c29 => ?_)
        · refine lv_aload_n E.1 E.2.1 dX10_sketch_79 rfl (lv_at hl 3 rfl) ?_
          refine fw_get E hK hH m0 fc_X10 2 (by decide) ql_RX10_127 rfl rfl dX10_sketch_80 ?_
          refine lv_aload_n E.1 E.2.1 dX10_sketch_83 rfl (lv_at hl 3 rfl) ?_
          refine fw_get E hK hH m0 fc_X10 3 (by decide) ql_RX10_179 rfl rfl dX10_sketch_84 ?_
          refine lv_iload_n E.1 E.2.1 dX10_sketch_87 rfl (lv_at hl 4 rfl) ?_
          refine lv_iload_n E.1 E.2.1 dX10_sketch_88 rfl (lv_at hl 5 rfl) ?_
          refine fw_cS (As := [.int (iI z1), .int (iI z2)]) (rest := [.int (iI 0), .ref (b + 2)]) E hK hH hl fL_X10_nodeOf ql_RX10_186 qs_yX10_nodeOf (m_nodeOf l G _ _ z1 z2 (by omega) (by omega)) rfl rfl (Nat.le_of_ble_eq_true rfl) ⟨Nat.le_of_ble_eq_true rfl, Nat.le_of_ble_eq_true rfl⟩ ⟨by show _ ≤ (2 : Nat); omega, by show _ ≤ (240 : Nat); omega⟩ dX10_sketch_89 (fw_ki fun r32 M31 H1 locs1 hp30 hH hz1 => ?_)
          obtain ⟨nv, rfl, hnv, hM9, hz2⟩ := hp30
          replace hz := hz2.trans hz
          clear hz1 hz2
          rw [hM9] at hH
          refine fw_iast E hK hH (by omega) m2 (iI_in (by omega) (by omega) (by omega)) dX10_sketch_92 (fun H1 locs1 hH hz1 => ?_)
          replace hz := hz1.trans hz; clear hz1
          rw [show upd (fun j0 => iI (z0 j0)) (iI (0)).toNatClampNeg (iI (nv)) = fun j0 => iI ((zup z0 (0) (nv)) j0) from by rw [iI_ix (by omega) (by omega)]; exact zup_upd _ _ _] at hH
          obtain ⟨M33, hM34⟩ : ∃ MX, MX = fw_up M16 (b + 2) (fI G 40 (fun j0 => iI ((zup z0 (0) (nv)) j0))) := ⟨_, rfl⟩
          replace hH := fw_H.nm hM34 hH
          have fr35 : ∀ q, q ≠ (b + 2) → M33 q = M16 q := fun q h => by rw [hM34]; exact fw_up_ne h
          replace m0 : M33 b = some (.inr (10, [.ref (b + 1), .int (iI 0), .ref (b + 2), .int (iI 0), .int (iI 0), .ref (b + 3), .int (iI 0), .ref (b + 4), .ref (b + 5), .int (iI 0), .int (iI 1), .int (iI 0), .ref (b + 6), .int (iI 0), .int (iI 70), .int (iI 20), .int (iI 5), .int (iI 2), .int (iI 1), .int (iI 0), .int (iI 0)])) := (fr35 _ (by omega)).trans m0
          replace u1 : M33 N = some (fB G 120 (fun j0 => iI (f1 j0))) := (fr35 _ (by omega)).trans u1
          replace w1 : M33 (N + 1) = some (fI G 120 (fun j0 => iI (g1 j0))) := (fr35 _ (by omega)).trans w1
          have m2 : M33 (b + 2) = some (fI G 40 (fun j0 => iI ((zup z0 (0) (nv)) j0))) := by rw [hM34]; exact fw_up_eq
          refine lv_aload_n E.1 E.2.1 dX10_sketch_93 rfl (lv_at hl 3 rfl) ?_
          refine fw_get E hK hH m0 fc_X10 2 (by decide) ql_RX10_127 rfl rfl dX10_sketch_94 ?_
          refine lv_aload_n E.1 E.2.1 dX10_sketch_97 rfl (lv_at hl 3 rfl) ?_
          refine fw_get E hK hH m0 fc_X10 3 (by decide) ql_RX10_179 rfl rfl dX10_sketch_98 ?_
          refine lv_iconst (v := iI 1) E.1 E.2.1 dX10_sketch_101 (by decide) ?_
          refine fw_iadd E dX10_sketch_102 ?_
          refine fw_cv (y := iI (1)) (by decide) ?_
          refine lv_aload_n E.1 E.2.1 dX10_sketch_103 rfl (lv_at hl 2 rfl) ?_
          refine lv_aload E.1 E.2.1 dX10_sketch_104 (lv_at hl 1 rfl) ?_
          refine fw_cS (As := [.ref (b + 2), .int (iI (1)), .ref N, .ref (N + 1)]) (rest := []) E hK hH hl fL_X10_missing ql_RX10_182 qs_yX10_missing (m_missing1 l G _ _ N (N + 1) (by omega) (by omega) (by omega) _ _ u1 w1 (b + 2) _ m2 (by omega) (by omega) z1 (by omega) (by rw [show (zup z0 (0) (nv)) 0 = nv from zup_eq]; exact hnv)) rfl rfl (Nat.le_of_ble_eq_true rfl) ⟨Nat.le_of_ble_eq_true rfl, Nat.le_of_ble_eq_true rfl⟩ ⟨by show _ ≤ (2 : Nat); omega, by show _ ≤ (240 : Nat); omega⟩ dX10_sketch_106 (fw_ki fun r38 M37 H1 locs1 hp36 hH hz1 => ?_)
          obtain ⟨hr9, ⟨f2, g2, u2, w2, hP2, hfr⟩, hz2⟩ := hp36
          obtain ⟨pr, hpr⟩ : ∃ y, y = zPARTS z1.toNat := ⟨_, rfl⟩
          have hlpr := zPARTS_le z1.toNat
          rw [← hpr] at hlpr hr9 hP2
          rw [hr9]
          replace hz := hz2.trans hz
          clear hz1 hz2
          have fr39 := hfr
          replace m0 : M37 b = some (.inr (10, [.ref (b + 1), .int (iI 0), .ref (b + 2), .int (iI 0), .int (iI 0), .ref (b + 3), .int (iI 0), .ref (b + 4), .ref (b + 5), .int (iI 0), .int (iI 1), .int (iI 0), .ref (b + 6), .int (iI 0), .int (iI 70), .int (iI 20), .int (iI 5), .int (iI 2), .int (iI 1), .int (iI 0), .int (iI 0)])) := (fr39 _ (by omega)).trans m0
          replace m2 : M37 (b + 2) = some (fI G 40 (fun j0 => iI ((zup z0 (0) (nv)) j0))) := (fr39 _ (by omega)).trans m2
          refine lv_istore (lv' := [(5, .int (iI pr)), (4, .ref (N + 1)), (3, .ref N), (0, .ref b), (1, .int (iI z1)), (2, .int (iI z2))]) E.1 E.2.1 dX10_sketch_109 hl (by decide) rfl (fun ls hl => ?_)
          refine lv_aload_n E.1 E.2.1 dX10_sketch_111 rfl (lv_at hl 3 rfl) ?_
          refine fw_get E hK hH m0 fc_X10 3 (by decide) ql_RX10_179 rfl rfl dX10_sketch_112 ?_
          refine lv_iconst (v := iI 1) E.1 E.2.1 dX10_sketch_115 (by decide) ?_
          refine fw_iadd E dX10_sketch_116 ?_
          refine fw_cv (y := iI (1)) (by decide) ?_
          refine lv_istore (lv' := [(6, .int (iI (1))), (5, .int (iI pr)), (4, .ref (N + 1)), (3, .ref N), (0, .ref b), (1, .int (iI z1)), (2, .int (iI z2))]) E.1 E.2.1 dX10_sketch_117 hl (by decide) rfl (fun ls hl => ?_)
          refine lv_iconst (v := iI 0) E.1 E.2.1 dX10_sketch_119 (by decide) ?_
          refine lv_istore (lv' := [(7, .int (iI 0)), (6, .int (iI (1))), (5, .int (iI pr)), (4, .ref (N + 1)), (3, .ref N), (0, .ref b), (1, .int (iI z1)), (2, .int (iI z2))]) E.1 E.2.1 dX10_sketch_120 hl (by decide) rfl (fun ls hl => ?_)
          refine lv_iconst (v := iI 0) E.1 E.2.1 dX10_sketch_122 (by decide) ?_
          refine lv_istore (lv' := [(8, .int (iI 0)), (7, .int (iI 0)), (6, .int (iI (1))), (5, .int (iI pr)), (4, .ref (N + 1)), (3, .ref N), (0, .ref b), (1, .int (iI z1)), (2, .int (iI z2))]) E.1 E.2.1 dX10_sketch_123 hl (by decide) rfl (fun ls hl => ?_)
          have loop125_1 : ∀ (d125 : Nat) (sz : Int) (kt : Int) (Mw125 : fw_M) (H : Heap) (locs : List Loc) (ls : Array Slot), (pr - kt).toNat < d125 → 0 ≤ kt → kt ≤ pr → 1 ≤ sz → sz ≤ 1 + 3 * kt → (∀ q, b + 7 ≤ q → q < N → Mw125 q = M q) → fw_H G s Mw125 H locs → H.size = N + 2 → Mw125 b = some (.inr (10, [.ref (b + 1), .int (iI 0), .ref (b + 2), .int (iI 0), .int (iI 0), .ref (b + 3), .int (iI 0), .ref (b + 4), .ref (b + 5), .int (iI 0), .int (iI 1), .int (iI 0), .ref (b + 6), .int (iI 0), .int (iI 70), .int (iI 20), .int (iI 5), .int (iI 2), .int (iI 1), .int (iI 0), .int (iI 0)])) → Mw125 N = some (fB G 120 (fun j0 => iI (f2 j0))) → Mw125 (N + 1) = some (fI G 120 (fun j0 => iI (g2 j0))) → lv_has ls 9 [(0, .ref b), (1, .int (iI z1)), (2, .int (iI z2)), (3, .ref N), (4, .ref (N + 1)), (5, .int (iI pr)), (6, .int (iI sz)), (7, .int (iI 0)), (8, .int (iI kt))] → W p l e ({ frames := 8, cells := 2, slots := 240, locals := 190 } : Room) s m args below meth c H locs (2) (240) (MQ below (fw_Q G (fw_pi (fun r M1 n1 => mth M1 b (kS_sketch z1 z2) ∧ (kS_sketch z1 z2 = 0 → r = iI (zPARTS z1.toNat)) ∧ ∀ q, b + 7 ≤ q → q < N → M1 q = M q))) args s 2 240 (fun q => G.2.2.1 ≤ q)) (F0 m 125 ls []) := by
            intro d125
            induction d125 with
            | zero => intro sz kt Mw125 H locs ls hd; exact absurd hd (Nat.not_lt_zero _)
            | succ d125 ih125 =>
              intro sz kt Mw125 H locs ls hd125 i1 i2 i3 i4 hfr0 hH hz m0 u2 w2 hl
              refine lv_iload E.1 E.2.1 dX10_sketch_125 (lv_at hl 8 rfl) ?_
              refine lv_iload E.1 E.2.1 dX10_sketch_127 (lv_at hl 5 rfl) ?_
              refine fw_icmp_ge (tgt := 188) E dX10_sketch_129 (by decide) (by omega) (by omega) (by omega) (by omega) (fun c40 => ?_) (fun c40 => ?_)
              · refine lv_iload E.1 E.2.1 dX10_sketch_188 (lv_at hl 6 rfl) ?_
                refine lv_bipush (v := iI 40) E.1 E.2.1 dX10_sketch_190 (by decide) ?_
                refine fw_icmp_gt (tgt := 200) E dX10_sketch_192 (by decide) (by omega) (by omega) (by omega) (by omega) (fun c41 => ?_) (fun c41 => ?_)
                · exact absurd c41 (by omega)
                · refine lv_iload E.1 E.2.1 dX10_sketch_195 (lv_at hl 7 rfl) ?_
                  refine fw_if_eq (tgt := 206) E dX10_sketch_197 (by decide) (by omega) (by omega) (fun c42 => ?_) (fun c42 => ?_)
                  · refine lv_aload_n E.1 E.2.1 dX10_sketch_206 rfl (lv_at hl 0 rfl) ?_
                    refine lv_dup E.1 E.2.1 dX10_sketch_207 rfl ?_
                    refine fw_get E hK hH m0 fc_X10 3 (by decide) ql_RX10_179 rfl rfl dX10_sketch_208 ?_
                    refine lv_iconst (v := iI 1) E.1 E.2.1 dX10_sketch_211 (by decide) ?_
                    refine fw_iadd E dX10_sketch_212 ?_
                    refine fw_cv (y := iI (1)) (by decide) ?_
                    refine fw_put E hK hH (by omega) m0 fc_X10 3 (by decide) ql_RX10_179 rfl rfl rfl rfl (Nat.le_of_ble_eq_true rfl) dX10_sketch_213 (fun H1 locs1 hH hz1 => ?_)
                    replace hz := hz1.trans hz; clear hz1
                    obtain ⟨M43, hM44⟩ : ∃ MX, MX = fw_up Mw125 b (.inr (10, [.ref (b + 1), .int (iI 0), .ref (b + 2), .int (iI (1)), .int (iI 0), .ref (b + 3), .int (iI 0), .ref (b + 4), .ref (b + 5), .int (iI 0), .int (iI 1), .int (iI 0), .ref (b + 6), .int (iI 0), .int (iI 70), .int (iI 20), .int (iI 5), .int (iI 2), .int (iI 1), .int (iI 0), .int (iI 0)])) := ⟨_, rfl⟩
                    replace hH := fw_H.nm hM44 hH
                    have fr45 : ∀ q, q ≠ b → M43 q = Mw125 q := fun q h => by rw [hM44]; exact fw_up_ne h
                    replace u2 : M43 N = some (fB G 120 (fun j0 => iI (f2 j0))) := (fr45 _ (by omega)).trans u2
                    replace w2 : M43 (N + 1) = some (fI G 120 (fun j0 => iI (g2 j0))) := (fr45 _ (by omega)).trans w2
                    have m0 : M43 b = some (.inr (10, [.ref (b + 1), .int (iI 0), .ref (b + 2), .int (iI (1)), .int (iI 0), .ref (b + 3), .int (iI 0), .ref (b + 4), .ref (b + 5), .int (iI 0), .int (iI 1), .int (iI 0), .ref (b + 6), .int (iI 0), .int (iI 70), .int (iI 20), .int (iI 5), .int (iI 2), .int (iI 1), .int (iI 0), .int (iI 0)])) := by rw [hM44]; exact fw_up_eq
                    refine lv_iload E.1 E.2.1 dX10_sketch_216 (lv_at hl 5 rfl) ?_
                    refine W.widen (k := 2) (n := 240) (by omega) (by omega) ?_
                    refine fw_iret E hr hlk hH ?_ dX10_sketch_218
                    have hk := (show kS_sketch z1 z2 = 0 by unfold kS_sketch; (repeat' split) <;> omega)
                    exact ⟨⟨_, m0, by rw [hk]; rfl⟩, fun _ => by rw [← hpr], fun q hq hq2 => by rw [fr45 q (by omega)]; exact hfr0 q hq hq2⟩
                  · exact absurd c42 (by omega)
              · refine lv_iload E.1 E.2.1 dX10_sketch_132 (lv_at hl 6 rfl) ?_
                refine lv_aload_n E.1 E.2.1 dX10_sketch_134 rfl (lv_at hl 3 rfl) ?_
                refine lv_iload E.1 E.2.1 dX10_sketch_135 (lv_at hl 8 rfl) ?_
                refine fw_zald E hK hH u2 (iI_in (by omega) (by omega) (by omega)) dX10_sketch_137 ?_
                refine fw_cv (y := iI (f2 kt.toNat)) (by rw [iI_ix (by omega) (by omega)]) ?_
                refine fw_if_eq (tgt := 145) E dX10_sketch_138 (by decide) (by have := hP2 kt.toNat (by omega); omega) (by have := hP2 kt.toNat (by omega); omega) (fun c46 => ?_) (fun c46 => ?_)
                · refine lv_iconst (v := iI 3) E.1 E.2.1 dX10_sketch_145 (by decide) ?_
                  refine fw_iadd E dX10_sketch_146 ?_
                  refine lv_istore (lv' := [(6, .int (iI (sz + 3))), (0, .ref b), (1, .int (iI z1)), (2, .int (iI z2)), (3, .ref N), (4, .ref (N + 1)), (5, .int (iI pr)), (7, .int (iI 0)), (8, .int (iI kt))]) E.1 E.2.1 dX10_sketch_147 hl (by decide) rfl (fun ls hl => ?_)
                  refine lv_iload E.1 E.2.1 dX10_sketch_149 (lv_at hl 7 rfl) ?_
                  refine lv_aload E.1 E.2.1 dX10_sketch_151 (lv_at hl 5 rfl) ?_
                  refine lv_iload E.1 E.2.1 dX10_sketch_153 (lv_at hl 8 rfl) ?_
                  refine fw_iald E hK hH w2 (iI_in (by omega) (by omega) (by omega)) dX10_sketch_155 ?_
                  refine fw_cv (y := iI (2)) (by rw [iI_ix (by omega) (by omega), (hP2 kt.toNat (by omega)).2]) ?_
                  refine lv_aload_n E.1 E.2.1 dX10_sketch_156 rfl (lv_at hl 4 rfl) ?_
                  refine lv_iload E.1 E.2.1 dX10_sketch_157 (lv_at hl 8 rfl) ?_
                  refine fw_zald E hK hH u2 (iI_in (by omega) (by omega) (by omega)) dX10_sketch_159 ?_
                  refine fw_cv (y := iI (f2 kt.toNat)) (by rw [iI_ix (by omega) (by omega)]) ?_
                  refine fw_if_eq (tgt := 167) E dX10_sketch_160 (by decide) (by have := hP2 kt.toNat (by omega); omega) (by have := hP2 kt.toNat (by omega); omega) (fun c47 => ?_) (fun c47 => ?_)
                  · refine lv_iconst (v := iI 1) E.1 E.2.1 dX10_sketch_167 (by decide) ?_
                    refine fw_iadd E dX10_sketch_168 ?_
                    refine fw_cv (y := iI (3)) (by decide) ?_
                    refine lv_bipush (v := iI 8) E.1 E.2.1 dX10_sketch_169 (by decide) ?_
                    refine fw_icmp_le (tgt := 178) E dX10_sketch_171 (by decide) (by omega) (by omega) (by omega) (by omega) (fun c48 => ?_) (fun c48 => ?_)
                    · refine lv_iconst (v := iI 0) E.1 E.2.1 dX10_sketch_178 (by decide) ?_
                      refine lv_ior E.1 E.2.1 dX10_sketch_179 ?_
                      refine fw_cv (y := iI (0)) (by decide) ?_
                      refine lv_istore (lv' := [(7, .int (iI (0))), (6, .int (iI (sz + 3))), (0, .ref b), (1, .int (iI z1)), (2, .int (iI z2)), (3, .ref N), (4, .ref (N + 1)), (5, .int (iI pr)), (8, .int (iI kt))]) E.1 E.2.1 dX10_sketch_180 hl (by decide) rfl (fun ls hl => ?_)
                      refine lv_iinc (v := iI (kt + 1)) (lv' := [(8, .int (iI (kt + 1))), (7, .int (iI (0))), (6, .int (iI (sz + 3))), (0, .ref b), (1, .int (iI z1)), (2, .int (iI z2)), (3, .ref N), (4, .ref (N + 1)), (5, .int (iI pr))]) E.1 E.2.1 dX10_sketch_182 hl (k := 8) rfl (iI_inc rfl) (by decide) rfl (fun ls hl => ?_)
                      refine lv_goto (tgt := 125) E.1 E.2.1 dX10_sketch_185 (by decide) ?_
                      refine W.widen (k := 2) (n := 240) (by omega) (by omega) ?_
                      exact ih125 (sz + 3) (kt + 1) _ _ _ _ (by omega) (by omega) (by omega) (by omega) (by omega) hfr0 hH (by omega) m0 u2 w2 (lv_sub hl [3, 4, 5, 6, 7, 8, 2, 1, 0] rfl)
                    · exact absurd c48 (by omega)
                  · refine lv_iconst (v := iI 0) E.1 E.2.1 dX10_sketch_163 (by decide) ?_
                    refine lv_goto (tgt := 168) E.1 E.2.1 dX10_sketch_164 (by decide) ?_
                    refine fw_iadd E dX10_sketch_168 ?_
                    refine fw_cv (y := iI (2)) (by decide) ?_
                    refine lv_bipush (v := iI 8) E.1 E.2.1 dX10_sketch_169 (by decide) ?_
                    refine fw_icmp_le (tgt := 178) E dX10_sketch_171 (by decide) (by omega) (by omega) (by omega) (by omega) (fun c49 => ?_) (fun c49 => ?_)
                    · refine lv_iconst (v := iI 0) E.1 E.2.1 dX10_sketch_178 (by decide) ?_
                      refine lv_ior E.1 E.2.1 dX10_sketch_179 ?_
                      refine fw_cv (y := iI (0)) (by decide) ?_
                      refine lv_istore (lv' := [(7, .int (iI (0))), (6, .int (iI (sz + 3))), (0, .ref b), (1, .int (iI z1)), (2, .int (iI z2)), (3, .ref N), (4, .ref (N + 1)), (5, .int (iI pr)), (8, .int (iI kt))]) E.1 E.2.1 dX10_sketch_180 hl (by decide) rfl (fun ls hl => ?_)
                      refine lv_iinc (v := iI (kt + 1)) (lv' := [(8, .int (iI (kt + 1))), (7, .int (iI (0))), (6, .int (iI (sz + 3))), (0, .ref b), (1, .int (iI z1)), (2, .int (iI z2)), (3, .ref N), (4, .ref (N + 1)), (5, .int (iI pr))]) E.1 E.2.1 dX10_sketch_182 hl (k := 8) rfl (iI_inc rfl) (by decide) rfl (fun ls hl => ?_)
                      refine lv_goto (tgt := 125) E.1 E.2.1 dX10_sketch_185 (by decide) ?_
                      refine W.widen (k := 2) (n := 240) (by omega) (by omega) ?_
                      exact ih125 (sz + 3) (kt + 1) _ _ _ _ (by omega) (by omega) (by omega) (by omega) (by omega) hfr0 hH (by omega) m0 u2 w2 (lv_sub hl [3, 4, 5, 6, 7, 8, 2, 1, 0] rfl)
                    · exact absurd c49 (by omega)
                · refine lv_iconst (v := iI 1) E.1 E.2.1 dX10_sketch_141 (by decide) ?_
                  refine lv_goto (tgt := 146) E.1 E.2.1 dX10_sketch_142 (by decide) ?_
                  refine fw_iadd E dX10_sketch_146 ?_
                  refine lv_istore (lv' := [(6, .int (iI (sz + 1))), (0, .ref b), (1, .int (iI z1)), (2, .int (iI z2)), (3, .ref N), (4, .ref (N + 1)), (5, .int (iI pr)), (7, .int (iI 0)), (8, .int (iI kt))]) E.1 E.2.1 dX10_sketch_147 hl (by decide) rfl (fun ls hl => ?_)
                  refine lv_iload E.1 E.2.1 dX10_sketch_149 (lv_at hl 7 rfl) ?_
                  refine lv_aload E.1 E.2.1 dX10_sketch_151 (lv_at hl 5 rfl) ?_
                  refine lv_iload E.1 E.2.1 dX10_sketch_153 (lv_at hl 8 rfl) ?_
                  refine fw_iald E hK hH w2 (iI_in (by omega) (by omega) (by omega)) dX10_sketch_155 ?_
                  refine fw_cv (y := iI (2)) (by rw [iI_ix (by omega) (by omega), (hP2 kt.toNat (by omega)).2]) ?_
                  refine lv_aload_n E.1 E.2.1 dX10_sketch_156 rfl (lv_at hl 4 rfl) ?_
                  refine lv_iload E.1 E.2.1 dX10_sketch_157 (lv_at hl 8 rfl) ?_
                  refine fw_zald E hK hH u2 (iI_in (by omega) (by omega) (by omega)) dX10_sketch_159 ?_
                  refine fw_cv (y := iI (f2 kt.toNat)) (by rw [iI_ix (by omega) (by omega)]) ?_
                  refine fw_if_eq (tgt := 167) E dX10_sketch_160 (by decide) (by have := hP2 kt.toNat (by omega); omega) (by have := hP2 kt.toNat (by omega); omega) (fun c50 => ?_) (fun c50 => ?_)
                  · refine lv_iconst (v := iI 1) E.1 E.2.1 dX10_sketch_167 (by decide) ?_
                    refine fw_iadd E dX10_sketch_168 ?_
                    refine fw_cv (y := iI (3)) (by decide) ?_
                    refine lv_bipush (v := iI 8) E.1 E.2.1 dX10_sketch_169 (by decide) ?_
                    refine fw_icmp_le (tgt := 178) E dX10_sketch_171 (by decide) (by omega) (by omega) (by omega) (by omega) (fun c51 => ?_) (fun c51 => ?_)
                    · refine lv_iconst (v := iI 0) E.1 E.2.1 dX10_sketch_178 (by decide) ?_
                      refine lv_ior E.1 E.2.1 dX10_sketch_179 ?_
                      refine fw_cv (y := iI (0)) (by decide) ?_
                      refine lv_istore (lv' := [(7, .int (iI (0))), (6, .int (iI (sz + 1))), (0, .ref b), (1, .int (iI z1)), (2, .int (iI z2)), (3, .ref N), (4, .ref (N + 1)), (5, .int (iI pr)), (8, .int (iI kt))]) E.1 E.2.1 dX10_sketch_180 hl (by decide) rfl (fun ls hl => ?_)
                      refine lv_iinc (v := iI (kt + 1)) (lv' := [(8, .int (iI (kt + 1))), (7, .int (iI (0))), (6, .int (iI (sz + 1))), (0, .ref b), (1, .int (iI z1)), (2, .int (iI z2)), (3, .ref N), (4, .ref (N + 1)), (5, .int (iI pr))]) E.1 E.2.1 dX10_sketch_182 hl (k := 8) rfl (iI_inc rfl) (by decide) rfl (fun ls hl => ?_)
                      refine lv_goto (tgt := 125) E.1 E.2.1 dX10_sketch_185 (by decide) ?_
                      refine W.widen (k := 2) (n := 240) (by omega) (by omega) ?_
                      exact ih125 (sz + 1) (kt + 1) _ _ _ _ (by omega) (by omega) (by omega) (by omega) (by omega) hfr0 hH (by omega) m0 u2 w2 (lv_sub hl [3, 4, 5, 6, 7, 8, 2, 1, 0] rfl)
                    · exact absurd c51 (by omega)
                  · refine lv_iconst (v := iI 0) E.1 E.2.1 dX10_sketch_163 (by decide) ?_
                    refine lv_goto (tgt := 168) E.1 E.2.1 dX10_sketch_164 (by decide) ?_
                    refine fw_iadd E dX10_sketch_168 ?_
                    refine fw_cv (y := iI (2)) (by decide) ?_
                    refine lv_bipush (v := iI 8) E.1 E.2.1 dX10_sketch_169 (by decide) ?_
                    refine fw_icmp_le (tgt := 178) E dX10_sketch_171 (by decide) (by omega) (by omega) (by omega) (by omega) (fun c52 => ?_) (fun c52 => ?_)
                    · refine lv_iconst (v := iI 0) E.1 E.2.1 dX10_sketch_178 (by decide) ?_
                      refine lv_ior E.1 E.2.1 dX10_sketch_179 ?_
                      refine fw_cv (y := iI (0)) (by decide) ?_
                      refine lv_istore (lv' := [(7, .int (iI (0))), (6, .int (iI (sz + 1))), (0, .ref b), (1, .int (iI z1)), (2, .int (iI z2)), (3, .ref N), (4, .ref (N + 1)), (5, .int (iI pr)), (8, .int (iI kt))]) E.1 E.2.1 dX10_sketch_180 hl (by decide) rfl (fun ls hl => ?_)
                      refine lv_iinc (v := iI (kt + 1)) (lv' := [(8, .int (iI (kt + 1))), (7, .int (iI (0))), (6, .int (iI (sz + 1))), (0, .ref b), (1, .int (iI z1)), (2, .int (iI z2)), (3, .ref N), (4, .ref (N + 1)), (5, .int (iI pr))]) E.1 E.2.1 dX10_sketch_182 hl (k := 8) rfl (iI_inc rfl) (by decide) rfl (fun ls hl => ?_)
                      refine lv_goto (tgt := 125) E.1 E.2.1 dX10_sketch_185 (by decide) ?_
                      refine W.widen (k := 2) (n := 240) (by omega) (by omega) ?_
                      exact ih125 (sz + 1) (kt + 1) _ _ _ _ (by omega) (by omega) (by omega) (by omega) (by omega) hfr0 hH (by omega) m0 u2 w2 (lv_sub hl [3, 4, 5, 6, 7, 8, 2, 1, 0] rfl)
                    · exact absurd c52 (by omega)
          refine W.widen (k := 2) (n := 240) (by omega) (by omega) ?_
          exact loop125_1 ((pr - 0).toNat + 1) 1 0 _ _ _ _ (Nat.lt_succ_self _) (by omega) (by omega) (by omega) (by omega) (fun q hq hq2 => by rw [fr39 q (by omega), fr35 q (by omega), fr18 q (by omega), fr14 q (by omega), fr11 q (by omega), fr3 q (by omega)]) hH (by omega) m0 u2 w2 (lv_sub hl [6, 7, 8, 5, 4, 3, 2, 1, 0] rfl)
        · exact absurd c29 (by omega)
  · refine lv_aload_n E.1 E.2.1 dX10_sketch_13 rfl (lv_at hl 0 rfl) ?_
    refine lv_iconst (v := iI 1) E.1 E.2.1 dX10_sketch_14 (by decide) ?_
    refine fw_cV (As := [.int (iI 1)]) (rest := []) E hK hH hl m0 fc_X10 fL_X10_no ql_RX10_176 qi_yX10_no qv_yX10_no (m_no l G _ _ b (by omega) m0 1) rfl rfl (Nat.le_of_ble_eq_true rfl) ⟨Nat.le_of_ble_eq_true rfl, Nat.le_of_ble_eq_true rfl⟩ ⟨by show _ ≤ (2 : Nat); omega, by show _ ≤ (240 : Nat); omega⟩ dX10_sketch_15 (fw_ki fun r55 M54 H1 locs1 hp53 hH hz1 => ?_)
    obtain ⟨rfl, ⟨hmt, hfr⟩, hz2⟩ := hp53
    replace hz := hz2.trans hz
    clear hz1 hz2
    have fr56 := hfr
    replace m2 : M54 (b + 2) = some (fI G 40 (fun j0 => iI (z0 j0))) := (fr56 _ (by omega)).trans m2
    refine W.widen (k := 2) (n := 240) (by omega) (by omega) ?_
    refine fw_iret E hr hlk hH ?_ dX10_sketch_18
    have hk := (show kS_sketch z1 z2 = 1 by unfold kS_sketch; (repeat' split) <;> omega)
    exact ⟨by rw [hk]; exact hmt, fun h => absurd (hk.symm.trans h) (by decide), (fun q hq hq2 => by rw [fr56 q (by omega), fr3 q (by omega)])⟩
theorem y_plant (l : Launch) (G : fw_G) (M : fw_M) (N : Nat) (b : Nat) (hD : md0 G M b) (hbN : b + 7 ≤ N)  : fMet l yX10_plant cX10_plant 1 (some .int) 8 190 2 240 G M N [.ref b] (fw_pi (fun r M1 n1 => mth M1 b (1) ∧ (1 = 0 → r = iI (0)) ∧ ∀ q, b + 7 ≤ q → q < N → M1 q = M q)) := by
  refine fw_met RX10 rfl (by decide +kernel) (Nat.le_of_ble_eq_true rfl) ?_
  intro p e s m args below meth c ls E hr hlk hnm hK hH hz hl
  obtain ⟨hb, m0, _, m2, _, _, _⟩ := id hD
  refine lv_aload_n E.1 E.2.1 dX10_plant_0 rfl (lv_at hl 0 rfl) ?_
  refine lv_iconst (v := iI 0) E.1 E.2.1 dX10_plant_1 (by decide) ?_
  refine fw_put E hK hH (by omega) m0 fc_X10 1 (by decide) ql_RX10_163 rfl rfl rfl rfl (Nat.le_of_ble_eq_true rfl) dX10_plant_2 (fun H1 locs1 hH hz1 => ?_)
  replace hz := hz1.trans hz; clear hz1
  obtain ⟨M1, hM2⟩ : ∃ MX, MX = fw_up M b (.inr (10, [.ref (b + 1), .int (iI 0), .ref (b + 2), .int (iI 0), .int (iI 0), .ref (b + 3), .int (iI 0), .ref (b + 4), .ref (b + 5), .int (iI 0), .int (iI 1), .int (iI 0), .ref (b + 6), .int (iI 0), .int (iI 70), .int (iI 20), .int (iI 5), .int (iI 2), .int (iI 1), .int (iI 0), .int (iI 0)])) := ⟨_, rfl⟩
  replace hH := fw_H.nm hM2 hH
  have fr3 : ∀ q, q ≠ b → M1 q = M q := fun q h => by rw [hM2]; exact fw_up_ne h
  replace m2 : M1 (b + 2) = some (fI G 40 (fun j0 => iI (z0 j0))) := (fr3 _ (by omega)).trans m2
  have m0 : M1 b = some (.inr (10, [.ref (b + 1), .int (iI 0), .ref (b + 2), .int (iI 0), .int (iI 0), .ref (b + 3), .int (iI 0), .ref (b + 4), .ref (b + 5), .int (iI 0), .int (iI 1), .int (iI 0), .ref (b + 6), .int (iI 0), .int (iI 70), .int (iI 20), .int (iI 5), .int (iI 2), .int (iI 1), .int (iI 0), .int (iI 0)])) := by rw [hM2]; exact fw_up_eq
  refine lv_aload_n E.1 E.2.1 dX10_plant_5 rfl (lv_at hl 0 rfl) ?_
  refine fw_get E hK hH m0 fc_X10 2 (by decide) ql_RX10_127 rfl rfl dX10_plant_6 ?_
  refine lv_aload_n E.1 E.2.1 dX10_plant_9 rfl (lv_at hl 0 rfl) ?_
  refine fw_get E hK hH m0 fc_X10 3 (by decide) ql_RX10_179 rfl rfl dX10_plant_10 ?_
  refine lv_bipush (v := iI 120) E.1 E.2.1 dX10_plant_13 (by decide) ?_
  refine fw_newZ (N := 120) E hK hH hz qa_boolean (by decide) (by decide) (by decide) ⟨by show _ ≤ (2 : Nat); omega, by show _ ≤ (240 : Nat); omega⟩ dX10_plant_15 (fun H1 hH hz1 => ?_)
  replace hz : H1.size = N + 1 := by omega
  clear hz1
  obtain ⟨M4, hM5⟩ : ∃ MX, MX = fw_up M1 N (fB G 120 (fun j0 => iI (z0 j0))) := ⟨_, rfl⟩
  replace hH := fw_H.nm hM5 hH
  have fr6 : ∀ q, q ≠ N → M4 q = M1 q := fun q h => by rw [hM5]; exact fw_up_ne h
  replace m2 : M4 (b + 2) = some (fI G 40 (fun j0 => iI (z0 j0))) := (fr6 _ (by omega)).trans m2
  replace m0 : M4 b = some (.inr (10, [.ref (b + 1), .int (iI 0), .ref (b + 2), .int (iI 0), .int (iI 0), .ref (b + 3), .int (iI 0), .ref (b + 4), .ref (b + 5), .int (iI 0), .int (iI 1), .int (iI 0), .ref (b + 6), .int (iI 0), .int (iI 70), .int (iI 20), .int (iI 5), .int (iI 2), .int (iI 1), .int (iI 0), .int (iI 0)])) := (fr6 _ (by omega)).trans m0
  have hn0 : M4 N = some (fB G 120 (fun j0 => iI (z0 j0))) := by rw [hM5]; exact fw_up_eq
  refine lv_bipush (v := iI 120) E.1 E.2.1 dX10_plant_17 (by decide) ?_
  refine fw_newI (N := 120) E hK hH hz qa_int (by decide) (by decide) (by decide) ⟨by show _ ≤ (2 : Nat); omega, by show _ ≤ (240 : Nat); omega⟩ dX10_plant_19 (fun H1 hH hz1 => ?_)
  replace hz : H1.size = N + 2 := by omega
  clear hz1
  obtain ⟨M7, hM8⟩ : ∃ MX, MX = fw_up M4 (N + 1) (fI G 120 (fun j0 => iI (z0 j0))) := ⟨_, rfl⟩
  replace hH := fw_H.nm hM8 hH
  have fr9 : ∀ q, q ≠ N + 1 → M7 q = M4 q := fun q h => by rw [hM8]; exact fw_up_ne h
  replace m2 : M7 (b + 2) = some (fI G 40 (fun j0 => iI (z0 j0))) := (fr9 _ (by omega)).trans m2
  replace m0 : M7 b = some (.inr (10, [.ref (b + 1), .int (iI 0), .ref (b + 2), .int (iI 0), .int (iI 0), .ref (b + 3), .int (iI 0), .ref (b + 4), .ref (b + 5), .int (iI 0), .int (iI 1), .int (iI 0), .ref (b + 6), .int (iI 0), .int (iI 70), .int (iI 20), .int (iI 5), .int (iI 2), .int (iI 1), .int (iI 0), .int (iI 0)])) := (fr9 _ (by omega)).trans m0
  replace hn0 : M7 N = some (fB G 120 (fun j0 => iI (z0 j0))) := (fr9 _ (by omega)).trans hn0
  have hn1 : M7 (N + 1) = some (fI G 120 (fun j0 => iI (z0 j0))) := by rw [hM8]; exact fw_up_eq
  refine fw_cS (As := [.ref (b + 2), .int (iI 0), .ref N, .ref (N + 1)]) (rest := []) E hK hH hl fL_X10_missing ql_RX10_182 qs_yX10_missing (m_missing0 l G _ _ (b + 2) N (N + 1) (by omega) (by omega) (by omega) _ _ hn0 hn1) rfl rfl (Nat.le_of_ble_eq_true rfl) ⟨Nat.le_of_ble_eq_true rfl, Nat.le_of_ble_eq_true rfl⟩ ⟨by show _ ≤ (2 : Nat); omega, by show _ ≤ (240 : Nat); omega⟩ dX10_plant_21 (fw_ki fun r12 M11 H1 locs1 hp10 hH hz1 => ?_)
  obtain ⟨rfl, ⟨f1, g1, u1, w1, hf1, hfr⟩, hz2⟩ := hp10
  replace hz := hz2.trans hz
  clear hz1 hz2
  have fr13 := hfr
  replace m2 : M11 (b + 2) = some (fI G 40 (fun j0 => iI (z0 j0))) := (fr13 _ (by omega)).trans m2
  replace m0 : M11 b = some (.inr (10, [.ref (b + 1), .int (iI 0), .ref (b + 2), .int (iI 0), .int (iI 0), .ref (b + 3), .int (iI 0), .ref (b + 4), .ref (b + 5), .int (iI 0), .int (iI 1), .int (iI 0), .ref (b + 6), .int (iI 0), .int (iI 70), .int (iI 20), .int (iI 5), .int (iI 2), .int (iI 1), .int (iI 0), .int (iI 0)])) := (fr13 _ (by omega)).trans m0
  refine fw_if_gt (tgt := 36) E dX10_plant_24 (by decide) (by omega) (by omega) (fun c14 => ?_) (fun c14 => ?_)
  · refine lv_aload_n E.1 E.2.1 dX10_plant_36 rfl (lv_at hl 0 rfl) ?_
    refine lv_iconst (v := iI 1) E.1 E.2.1 dX10_plant_37 (by decide) ?_
    refine fw_cV (As := [.int (iI 1)]) (rest := []) E hK hH hl m0 fc_X10 fL_X10_no ql_RX10_176 qi_yX10_no qv_yX10_no (m_no l G _ _ b (by omega) m0 1) rfl rfl (Nat.le_of_ble_eq_true rfl) ⟨Nat.le_of_ble_eq_true rfl, Nat.le_of_ble_eq_true rfl⟩ ⟨by show _ ≤ (2 : Nat); omega, by show _ ≤ (240 : Nat); omega⟩ dX10_plant_38 (fw_ki fun r17 M16 H1 locs1 hp15 hH hz1 => ?_)
    obtain ⟨rfl, ⟨hmt, hfr⟩, hz2⟩ := hp15
    replace hz := hz2.trans hz
    clear hz1 hz2
    have fr18 := hfr
    replace m2 : M16 (b + 2) = some (fI G 40 (fun j0 => iI (z0 j0))) := (fr18 _ (by omega)).trans m2
    refine W.widen (k := 2) (n := 240) (by omega) (by omega) ?_
    refine fw_iret E hr hlk hH ?_ dX10_plant_41
    exact ⟨hmt, fun h => absurd h (by decide), (fun q hq hq2 => by rw [fr18 q (by omega), fr13 q (by omega), fr9 q (by omega), fr6 q (by omega), fr3 q (by omega)])⟩
  · exact absurd c14 (by omega)

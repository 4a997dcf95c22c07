theorem pcP.mono {b : Int} {e nb n e1 nb1 : Nat} {f : Nat → Int} (h : pcP b e nb n f) (he : e ≤ e1) (hn : nb ≤ nb1) : pcP b e1 nb1 n f := by
  obtain ⟨C, V, sp, hh, ⟨a1, a2⟩, a3, a4, a5, a6, a7, a8, a9, a10⟩ := h
  exact ⟨C, V, sp, hh, ⟨a1, by omega⟩, a3, a4, a5, a6, a7, a8, a9, by omega⟩
theorem bn0.fr {G : fw_G} {M M1 : fw_M} {a : Nat} (h : bn0 G M a) (hf : ∀ q, a ≤ q → q < a + 378 → M1 q = M q) : bn0 G M1 a := by
  obtain ⟨h0, h1, h2, h3, h4, h5, h6, h7, h8, h9⟩ := h
  exact ⟨h0.fr (fun q u v => hf q (by omega) (by omega)), h1.fr (fun q u v => hf q (by omega) (by omega)), h2.fr (fun q u v => hf q (by omega) (by omega)), h3.fr (fun q u v => hf q (by omega) (by omega)), h4.fr (fun q u v => hf q (by omega) (by omega)), h5.fr (fun q u v => hf q (by omega) (by omega)), h6.fr (fun q u v => hf q (by omega) (by omega)), h7.fr (fun q u v => hf q (by omega) (by omega)), h8.fr (fun q u v => hf q (by omega) (by omega)), h9.fr (fun q u v => hf q (by omega) (by omega))⟩
def T0 : Nat → aT := fun _ => (0, z0, z0, fun _ => 0)
def j00 : aJ := (z0, z0, z0, z0, 0, 0, 1)
def ra0 : aR := (70, 20, 5, 2, 1)
theorem gv0_W {G : fw_G} {M : fw_M} {a : Nat} (h : gvAt G M a 0 z0 0 0 (fun _ => z0) (fun _ => z0) (fun _ => z0) (fun _ => z0) (fun _ => 0) (fun _ => 0) 0 0 0) : gcW G M a 0 0 0 0 0 T0 ∧ gyW G M a 0 0 T0 := by
  obtain ⟨h0, h1, h2, h3, h4, h5, h6⟩ := h
  have ht : ∀ j, j < 32 → tany G M (a + 10 + 5 * j) := fun j hj => ⟨_, _, _, _, _, _, h6 j hj, fun k => ⟨by show (0 : Int) ≤ 0; omega, by show (0 : Int) ≤ 40; omega⟩⟩
  refine ⟨⟨h0, h1, ⟨z0, h2⟩, h4, h5, fun j hj => absurd hj (Nat.not_lt_zero j), fun j hj => ht j (by omega), by omega, by omega⟩, fun j hj => absurd hj (Nat.not_lt_zero j), fun j hj => ?_, by omega, by omega⟩
  have := ht (j + 16) (by omega)
  rw [show a + 10 + 5 * (j + 16) = a + 90 - 80 * 0 + 5 * j by omega] at this
  exact this
theorem bn0_R {G : fw_G} {M : fw_M} {b : Nat} (h : bn0 G M b) : bnR G M b 0 0 0 0 0 T0 j00 ra0 ∧ skE G M (b + 1) ∧ bnO 0 0 T0 j00 ra0 := by
  obtain ⟨h0, h1, h2, h3, h4, h5, h6, h7, h8, h9⟩ := h
  have hz : rnB z0 z0 := fun k hk => ⟨⟨by show (0 : Int) ≤ 0; omega, by show (0 : Int) ≤ 999999; omega⟩, by show (0 : Int) ≤ 0; omega, by show (0 : Int) ≤ 40; omega⟩
  have g1 := gv0_W h7
  have g2 := gv0_W h8
  refine ⟨⟨h0, ⟨z0, z0, h2⟩, ⟨_, _, _, h3, hz⟩, ⟨h4.1, h4.2.1⟩, ⟨_, _, _, h4.2.2, hz⟩, ⟨z0, h5⟩, ⟨z0, z0, h6⟩, g1.1, g1.2, ⟨_, _, _, _, _, _, g2.1, g2.2⟩, ⟨_, _, _, _, _, _, h9, fun k => ⟨by show (0 : Int) ≤ 0; omega, by show (0 : Int) ≤ 40; omega⟩⟩⟩, ⟨_, _, _, _, _, _, _, h1, zup_eq, zup_eq⟩, ⟨Nat.zero_le _, fun k hk => absurd hk (Nat.not_lt_zero k), ⟨by show (0 : Int) ≤ 0; omega, by show (0 : Int) ≤ 2; omega⟩, by show (0 : Int) ≤ 1; omega, by show (1 : Int) ≤ 99; omega⟩, ⟨by decide, by decide, by decide, ⟨by decide, by decide⟩, by decide⟩, ⟨by omega, by omega⟩, fun k hk => absurd hk (Nat.not_lt_zero k)⟩
/-- the law's own object, with its two rows -/
def lgA (G : fw_G) (M : fw_M) (a dw cn cs : Nat) : Prop := G.2.2.1 ≤ a ∧ M a = some (.inr (10, [.ref (a + 1), .ref (G.2.2.2.2 3), .int (iI ↑dw), .int (iI ↑cn), .ref (a + 379), .int (iI ↑cs), .ref (a + 380)])) ∧ (∃ f1 : Nat → Option Nat, M (a + 379) = some (fU G 16 f1)) ∧ ∃ f2 : Nat → Option Nat, M (a + 380) = some (fU G 12 f2)
theorem lgA.fr {G : fw_G} {M M1 : fw_M} {a dw cn cs : Nat} (h : lgA G M a dw cn cs) (hf : ∀ q, (q = a ∨ q = a + 379 ∨ q = a + 380) → True → M1 q = M q) : lgA G M1 a dw cn cs := by
  obtain ⟨h0, h1, ⟨f1, h2⟩, f2, h3⟩ := h
  exact ⟨h0, (hf _ (by omega) trivial).trans h1, ⟨f1, (hf _ (by omega) trivial).trans h2⟩, f2, (hf _ (by omega) trivial).trans h3⟩
theorem l_init (l : Launch) (G : fw_G) (M : fw_M) (N : Nat) (a dw : Nat) (hb : G.2.2.1 ≤ a) (ha : M a = some (.inr (10, [.null, .null, .int 0, .int 0, .null, .int 0, .null]))) (hN : N = a + 1) : fMet l yX10_init cX10_init 3 none 5 160 380 11874 G M N [.ref a, .ref (G.2.2.2.2 3), .int (iI ↑dw)] (fw_pv (fun M1 n1 => lgA G M1 a dw 0 0 ∧ bn0 G M1 (a + 1) ∧ (∀ q, q < a → M1 q = M q) ∧ n1 = a + 381)) := by
  refine fw_met RX10 rfl (by decide +kernel) (Nat.le_of_ble_eq_true rfl) ?_
  intro pG e s m args below meth cG ls E hr hlk hnm hK hH hz hl
  have hz := hz.trans hN
  refine lv_aload_n E.1 E.2.1 dX10_init_0 rfl (lv_at hl 0 rfl) ?_
  refine fw_obj E ql_RX10_1 qi_obj qc_obj hl dX10_init_1 ⟨by decide, by decide⟩ ?_
  refine lv_aload_n E.1 E.2.1 dX10_init_4 rfl (lv_at hl 0 rfl) ?_
  refine fw_new (fs := [.null, .null, .null, .null, .null, .null, .null, .null, .null]) E hK hH hz fc_X9 ql_RX10_7 qt_RX9 qn_RX9 (fun j hj => by rcases (show j = 0 ∨ j = 1 ∨ j = 2 ∨ j = 3 ∨ j = 4 ∨ j = 5 ∨ j = 6 ∨ j = 7 ∨ j = 8 by omega) with rfl | rfl | rfl | rfl | rfl | rfl | rfl | rfl | rfl <;> rfl) ⟨by show _ ≤ (380 : Nat); omega, by show _ ≤ (11874 : Nat); omega⟩ dX10_init_5 (fun H1 hH hz1 => ?_)
  replace hz : H1.size = a + 2 := by omega
  clear hz1
  obtain ⟨M1, hM2⟩ : ∃ MX, MX = fw_up M (a + 1) (.inr (9, [.null, .null, .null, .null, .null, .null, .null, .null, .null])) := ⟨_, rfl⟩
  replace hH := fw_H.nm hM2 hH
  have fr3 : ∀ q, q ≠ a + 1 → M1 q = M q := fun q h => by rw [hM2]; exact fw_up_ne h
  replace ha : M1 a = some (.inr (10, [.null, .null, .int 0, .int 0, .null, .int 0, .null])) := (fr3 _ (by omega)).trans ha
  have hn0 : M1 (a + 1) = some (.inr (9, [.null, .null, .null, .null, .null, .null, .null, .null, .null])) := by rw [hM2]; exact fw_up_eq
  refine lv_dup E.1 E.2.1 dX10_init_8 rfl ?_
  refine fw_cI (As := []) (rest := [.ref (a + 1), .ref a]) E hK hH hl fL_X9_init rfl ql_RX10_9 qi_yX9_init (k_Barnacle_init l G _ _ (a + 1) (by omega) hn0 (by omega)) rfl rfl (Nat.le_of_ble_eq_true rfl) ⟨Nat.le_of_ble_eq_true rfl, Nat.le_of_ble_eq_true rfl⟩ ⟨by show _ ≤ (380 : Nat); omega, by show _ ≤ (11874 : Nat); omega⟩ dX10_init_9 (fw_kv fun M5 H1 locs1 hp4 hH hz1 => ?_)
  obtain ⟨hbn0, hz2, hfr⟩ := hp4
  replace hz : H1.size = a + 379 := by omega
  clear hz1 hz2
  have fr6 := hfr
  replace ha : M5 a = some (.inr (10, [.null, .null, .int 0, .int 0, .null, .int 0, .null])) := (fr6 _ (by omega)).trans ha
  refine fw_putF E hK hH (by omega) ha fc_X10 0 (by decide) ql_RX10_10 rfl rfl hnm rfl rfl (Nat.le_of_ble_eq_true rfl) dX10_init_12 (fun H1 locs1 hH hz1 => ?_)
  replace hz := hz1.trans hz; clear hz1
  obtain ⟨M7, hM8⟩ : ∃ MX, MX = fw_up M5 a (.inr (10, [.ref (a + 1), .null, .int 0, .int 0, .null, .int 0, .null])) := ⟨_, rfl⟩
  replace hH := fw_H.nm hM8 hH
  have fr9 : ∀ q, q ≠ a → M7 q = M5 q := fun q h => by rw [hM8]; exact fw_up_ne h
  replace hbn0 := bn0.fr hbn0 (fun q h1 h2 => fr9 q (by omega))
  have ha : M7 a = some (.inr (10, [.ref (a + 1), .null, .int 0, .int 0, .null, .int 0, .null])) := by rw [hM8]; exact fw_up_eq
  refine lv_aload_n E.1 E.2.1 dX10_init_15 rfl (lv_at hl 0 rfl) ?_
  refine lv_bipush (v := iI 16) E.1 E.2.1 dX10_init_16 (by decide) ?_
  refine fw_newV (N := 16) E hK hH hz ql_RX10_16 qo_arr (by decide) (by decide) (by decide) ⟨by show _ ≤ (380 : Nat); omega, by show _ ≤ (11874 : Nat); omega⟩ dX10_init_18 (fun H1 hH hz1 => ?_)
  replace hz : H1.size = a + 380 := by omega
  clear hz1
  obtain ⟨M10, hM11⟩ : ∃ MX, MX = fw_up M7 (a + 379) (fU G 16 (fun _ => none)) := ⟨_, rfl⟩
  replace hH := fw_H.nm hM11 hH
  have fr12 : ∀ q, q ≠ a + 379 → M10 q = M7 q := fun q h => by rw [hM11]; exact fw_up_ne h
  replace hbn0 := bn0.fr hbn0 (fun q h1 h2 => fr12 q (by omega))
  replace ha : M10 a = some (.inr (10, [.ref (a + 1), .null, .int 0, .int 0, .null, .int 0, .null])) := (fr12 _ (by omega)).trans ha
  have hn1 : M10 (a + 379) = some (fU G 16 (fun _ => none)) := by rw [hM11]; exact fw_up_eq
  refine fw_put E hK hH (by omega) ha fc_X10 4 (by decide) ql_RX10_18 rfl rfl rfl rfl (Nat.le_of_ble_eq_true rfl) dX10_init_21 (fun H1 locs1 hH hz1 => ?_)
  replace hz := hz1.trans hz; clear hz1
  obtain ⟨M13, hM14⟩ : ∃ MX, MX = fw_up M10 a (.inr (10, [.ref (a + 1), .null, .int 0, .int 0, .ref (a + 379), .int 0, .null])) := ⟨_, rfl⟩
  replace hH := fw_H.nm hM14 hH
  have fr15 : ∀ q, q ≠ a → M13 q = M10 q := fun q h => by rw [hM14]; exact fw_up_ne h
  replace hbn0 := bn0.fr hbn0 (fun q h1 h2 => fr15 q (by omega))
  replace hn1 : M13 (a + 379) = some (fU G 16 (fun _ => none)) := (fr15 _ (by omega)).trans hn1
  have ha : M13 a = some (.inr (10, [.ref (a + 1), .null, .int 0, .int 0, .ref (a + 379), .int 0, .null])) := by rw [hM14]; exact fw_up_eq
  refine lv_aload_n E.1 E.2.1 dX10_init_24 rfl (lv_at hl 0 rfl) ?_
  refine lv_bipush (v := iI 12) E.1 E.2.1 dX10_init_25 (by decide) ?_
  refine fw_newV (N := 12) E hK hH hz ql_RX10_16 qo_arr (by decide) (by decide) (by decide) ⟨by show _ ≤ (380 : Nat); omega, by show _ ≤ (11874 : Nat); omega⟩ dX10_init_27 (fun H1 hH hz1 => ?_)
  replace hz : H1.size = a + 381 := by omega
  clear hz1
  obtain ⟨M16, hM17⟩ : ∃ MX, MX = fw_up M13 (a + 380) (fU G 12 (fun _ => none)) := ⟨_, rfl⟩
  replace hH := fw_H.nm hM17 hH
  have fr18 : ∀ q, q ≠ a + 380 → M16 q = M13 q := fun q h => by rw [hM17]; exact fw_up_ne h
  replace hbn0 := bn0.fr hbn0 (fun q h1 h2 => fr18 q (by omega))
  replace hn1 : M16 (a + 379) = some (fU G 16 (fun _ => none)) := (fr18 _ (by omega)).trans hn1
  replace ha : M16 a = some (.inr (10, [.ref (a + 1), .null, .int 0, .int 0, .ref (a + 379), .int 0, .null])) := (fr18 _ (by omega)).trans ha
  have hn2 : M16 (a + 380) = some (fU G 12 (fun _ => none)) := by rw [hM17]; exact fw_up_eq
  refine fw_putF E hK hH (by omega) ha fc_X10 6 (by decide) ql_RX10_22 rfl rfl hnm rfl rfl (Nat.le_of_ble_eq_true rfl) dX10_init_30 (fun H1 locs1 hH hz1 => ?_)
  replace hz := hz1.trans hz; clear hz1
  obtain ⟨M19, hM20⟩ : ∃ MX, MX = fw_up M16 a (.inr (10, [.ref (a + 1), .null, .int 0, .int 0, .ref (a + 379), .int 0, .ref (a + 380)])) := ⟨_, rfl⟩
  replace hH := fw_H.nm hM20 hH
  have fr21 : ∀ q, q ≠ a → M19 q = M16 q := fun q h => by rw [hM20]; exact fw_up_ne h
  replace hbn0 := bn0.fr hbn0 (fun q h1 h2 => fr21 q (by omega))
  replace hn1 : M19 (a + 379) = some (fU G 16 (fun _ => none)) := (fr21 _ (by omega)).trans hn1
  replace hn2 : M19 (a + 380) = some (fU G 12 (fun _ => none)) := (fr21 _ (by omega)).trans hn2
  have ha : M19 a = some (.inr (10, [.ref (a + 1), .null, .int 0, .int 0, .ref (a + 379), .int 0, .ref (a + 380)])) := by rw [hM20]; exact fw_up_eq
  refine lv_aload_n E.1 E.2.1 dX10_init_33 rfl (lv_at hl 0 rfl) ?_
  refine lv_aload_n E.1 E.2.1 dX10_init_34 rfl (lv_at hl 1 rfl) ?_
  refine fw_putF E hK hH (by omega) ha fc_X10 1 (by decide) ql_RX10_25 rfl rfl hnm rfl rfl (Nat.le_of_ble_eq_true rfl) dX10_init_35 (fun H1 locs1 hH hz1 => ?_)
  replace hz := hz1.trans hz; clear hz1
  obtain ⟨M22, hM23⟩ : ∃ MX, MX = fw_up M19 a (.inr (10, [.ref (a + 1), .ref (G.2.2.2.2 3), .int 0, .int 0, .ref (a + 379), .int 0, .ref (a + 380)])) := ⟨_, rfl⟩
  replace hH := fw_H.nm hM23 hH
  have fr24 : ∀ q, q ≠ a → M22 q = M19 q := fun q h => by rw [hM23]; exact fw_up_ne h
  replace hbn0 := bn0.fr hbn0 (fun q h1 h2 => fr24 q (by omega))
  replace hn1 : M22 (a + 379) = some (fU G 16 (fun _ => none)) := (fr24 _ (by omega)).trans hn1
  replace hn2 : M22 (a + 380) = some (fU G 12 (fun _ => none)) := (fr24 _ (by omega)).trans hn2
  have ha : M22 a = some (.inr (10, [.ref (a + 1), .ref (G.2.2.2.2 3), .int 0, .int 0, .ref (a + 379), .int 0, .ref (a + 380)])) := by rw [hM23]; exact fw_up_eq
  refine lv_aload_n E.1 E.2.1 dX10_init_38 rfl (lv_at hl 0 rfl) ?_
  refine lv_iload_n E.1 E.2.1 dX10_init_39 rfl (lv_at hl 2 rfl) ?_
  refine fw_put E hK hH (by omega) ha fc_X10 2 (by decide) ql_RX10_28 rfl rfl rfl rfl (Nat.le_of_ble_eq_true rfl) dX10_init_40 (fun H1 locs1 hH hz1 => ?_)
  replace hz := hz1.trans hz; clear hz1
  obtain ⟨M25, hM26⟩ : ∃ MX, MX = fw_up M22 a (.inr (10, [.ref (a + 1), .ref (G.2.2.2.2 3), .int (iI ↑dw), .int 0, .ref (a + 379), .int 0, .ref (a + 380)])) := ⟨_, rfl⟩
  replace hH := fw_H.nm hM26 hH
  have fr27 : ∀ q, q ≠ a → M25 q = M22 q := fun q h => by rw [hM26]; exact fw_up_ne h
  replace hbn0 := bn0.fr hbn0 (fun q h1 h2 => fr27 q (by omega))
  replace hn1 : M25 (a + 379) = some (fU G 16 (fun _ => none)) := (fr27 _ (by omega)).trans hn1
  replace hn2 : M25 (a + 380) = some (fU G 12 (fun _ => none)) := (fr27 _ (by omega)).trans hn2
  have ha : M25 a = some (.inr (10, [.ref (a + 1), .ref (G.2.2.2.2 3), .int (iI ↑dw), .int 0, .ref (a + 379), .int 0, .ref (a + 380)])) := by rw [hM26]; exact fw_up_eq
  refine W.widen (k := 380) (n := 11874) (by omega) (by omega) ?_
  refine fw_vret E hr hlk hH ?_ dX10_init_43
  exact ⟨⟨hb, ha, ⟨_, hn1⟩, _, hn2⟩, hbn0, (fun q hq => by rw [fr27 q (by omega), fr24 q (by omega), fr21 q (by omega), fr18 q (by omega), fr15 q (by omega), fr12 q (by omega), fr9 q (by omega), fr6 q (by omega), fr3 q (by omega)]), by omega⟩

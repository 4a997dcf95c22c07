def gvT (x y z : Int) (t : aT) : Int := evF (casI (fun _ => x) (fun _ => y) (fun _ => z) 0) t.2.1 t.2.2.1 t.2.2.2 0
def rkT (j : aJ) (cn : Nat) (T : Nat → aT) (x : Nat) : Nat := (ordF (fun k => meT j (T k)) (fun k => szT j (T k)) cn x).toNat
theorem rkT_lt (j : aJ) {cn : Nat} (T : Nat → aT) {x : Nat} (hx : x < cn) : rkT j cn T x < cn := by
  have h := ordF_b (fun k => meT j (T k)) (fun k => szT j (T k)) cn x hx
  unfold rkT
  omega
theorem b_gives (l : Launch) (G : fw_G) (M : fw_M) (N : Nat) (b o cn : Nat) (lk gn mi : Int) (T : Nat → aT) (j : aJ) (ra : aR) (hW : bnR G M b o cn lk gn mi T j ra) (hO : bnO cn lk T j ra) (x : Nat) (hx : x < cn) (y z w : Int) (hy : -99 ≤ y ∧ y ≤ 99) (hz9 : -99 ≤ z ∧ z ≤ 99) (hw : -99 ≤ w ∧ w ≤ 99) : fMet l yX9_gives cX9_gives 6 (some .int) 4 140 0 0 G M N [.ref b, .int (iI ↑x), .int (iI y), .int (iI z), .int (iI w)] (fw_pi (fun r M1 n1 => r = iI (gvT y z w (T x)) ∧ bnR G M1 b o cn lk gn mi T j ra ∧ (∀ q, q < b + 9 ∨ b + 378 ≤ q → M1 q = M q) ∧ n1 = N)) := by
  refine fw_met RX9 rfl (by decide +kernel) (Nat.le_of_ble_eq_true rfl) ?_
  intro pG e s m args below meth cG ls E hr hlk hnm hK hH hz hl
  obtain ⟨hbn, hJ, hK1, hB, hQ, ⟨rs6, hS6⟩, ⟨ip5, rs5, hR5⟩, hG, hY, hX, hZ⟩ := hW
  obtain ⟨hj, hr9, hlu, hTk⟩ := hO
  obtain ⟨hgb, ho1, hcn⟩ := hG.o1
  have hvx := (hTk x hx).1
  have hv1 := hvx.1
  refine lv_aload_n E.1 E.2.1 dX9_gives_0 rfl (lv_at hl 0 rfl) ?_
  refine lv_iload_n E.1 E.2.1 dX9_gives_1 rfl (lv_at hl 1 rfl) ?_
  refine fw_cV (As := [.int (iI ↑x)]) (rest := []) E hK hH hl hbn.2 fc_X9 fL_X9_requireTree ql_RX9_108 qi_yX9_requireTree qv_yX9_requireTree (k_reqTree l G _ _ b o cn lk gn mi T hbn hG x (by omega)) rfl rfl (Nat.le_of_ble_eq_true rfl) ⟨Nat.le_of_ble_eq_true rfl, Nat.le_of_ble_eq_true rfl⟩ ⟨Nat.le_of_ble_eq_true rfl, Nat.le_of_ble_eq_true rfl⟩ dX9_gives_2 (fw_kr fun r3 M2 H1 locs1 hp1 hH hz1 => ?_)
  obtain ⟨rfl, hM9, hz2⟩ := hp1
  have hT10 := hG.tr (j := x) (by omega)
  replace hz := hz2.trans hz
  clear hz1 hz2
  rw [hM9] at hH
  refine lv_astore (lv' := [(5, .ref (b + 33 + 10 + 80 * o + 5 * x)), (0, .ref b), (1, .int (iI ↑x)), (2, .int (iI y)), (3, .int (iI z)), (4, .int (iI w))]) E.1 E.2.1 dX9_gives_5 hl (by decide) rfl (fun ls hl => ?_)
  refine lv_iload_n E.1 E.2.1 dX9_gives_7 rfl (lv_at hl 3 rfl) ?_
  refine lv_iload_n E.1 E.2.1 dX9_gives_8 rfl (lv_at hl 4 rfl) ?_
  refine lv_iload E.1 E.2.1 dX9_gives_9 (lv_at hl 5 rfl) ?_
  refine fw_cS (As := [.int (iI y), .int (iI z), .int (iI w)]) (rest := []) E hK hH hl fL_X9_requireInputs ql_RX9_116 qs_yX9_requireInputs (k_reqInputs l G _ _ y z w (by omega) (by omega) (by omega)) rfl rfl (Nat.le_of_ble_eq_true rfl) ⟨Nat.le_of_ble_eq_true rfl, Nat.le_of_ble_eq_true rfl⟩ ⟨Nat.le_of_ble_eq_true rfl, Nat.le_of_ble_eq_true rfl⟩ dX9_gives_11 (fw_kv fun M5 H1 locs1 hp4 hH hz1 => ?_)
  obtain ⟨hM9, hz2⟩ := hp4
  replace hz := hz2.trans hz
  clear hz1 hz2
  rw [hM9] at hH
  refine lv_aload_n E.1 E.2.1 dX9_gives_14 rfl (lv_at hl 1 rfl) ?_
  refine fw_get E hK hH hbn.2 fc_X9 5 (by decide) ql_RX9_47 rfl rfl dX9_gives_15 ?_
  refine lv_iload_n E.1 E.2.1 dX9_gives_18 rfl (lv_at hl 3 rfl) ?_
  refine lv_iload_n E.1 E.2.1 dX9_gives_19 rfl (lv_at hl 4 rfl) ?_
  refine lv_iload E.1 E.2.1 dX9_gives_20 (lv_at hl 5 rfl) ?_
  refine fw_cV (As := [.int (iI y), .int (iI z), .int (iI w)]) (rest := []) E hK hH hl hR5.2.1 fc_X5 fL_X5_setInputs ql_RX9_242 qi_yX5_setInputs qv_yX5_setInputs (k_setInputs l G _ _ (b + 30) ip5 rs5 y z w hR5) rfl rfl (Nat.le_of_ble_eq_true rfl) ⟨Nat.le_of_ble_eq_true rfl, Nat.le_of_ble_eq_true rfl⟩ ⟨Nat.le_of_ble_eq_true rfl, Nat.le_of_ble_eq_true rfl⟩ dX9_gives_22 (fw_kv fun M7 H1 locs1 hp6 hH hz1 => ?_)
  obtain ⟨⟨ip30, hR30, ea30, eb30, ec30⟩, hfr, hz2⟩ := hp6
  replace hz := hz2.trans hz
  clear hz1 hz2
  have fr8 := hfr
  replace hbn := bnAt.fr hbn (fun q h1 h2 => fr8 q (by omega))
  replace hJ := jW.fr hJ (fun q h1 h2 => fr8 q (by omega))
  replace hK1 := rnW.fr hK1 (fun q h1 h2 => fr8 q (by omega))
  replace hB := brW.fr hB (fun q h1 h2 => fr8 q (by omega))
  replace hQ := rnW.fr hQ (fun q h1 h2 => fr8 q (by omega))
  replace hS6 := siAt.fr hS6 (fun q h1 h2 => fr8 q (by omega))
  replace hG := gcW.fr hG (fun q h1 h2 => fr8 q (by omega))
  replace hY := gyW.fr hY (fun q h1 h2 => fr8 q (by omega))
  replace hX := gvX.fr hX (fun q h1 h2 => fr8 q (by omega))
  replace hZ := tany.fr hZ (fun q h1 h2 => fr8 q (by omega))
  replace hT10 := aTw.fr hT10 (fun q h1 h2 => fr8 q (by omega))
  refine lv_aload_n E.1 E.2.1 dX9_gives_25 rfl (lv_at hl 1 rfl) ?_
  refine fw_get E hK hH hbn.2 fc_X9 5 (by decide) ql_RX9_47 rfl rfl dX9_gives_26 ?_
  refine lv_aload E.1 E.2.1 dX9_gives_29 (lv_at hl 0 rfl) ?_
  refine lv_iconst (v := iI 0) E.1 E.2.1 dX9_gives_31 (by decide) ?_
  refine fw_cV (As := [.ref (b + 33 + 10 + 80 * o + 5 * x), .int (iI 0)]) (rest := []) E hK hH hl hR30.2.1 fc_X5 fL_X5_resultOf ql_RX9_245 qi_yX5_resultOf qv_yX5_resultOf (k_resultOf l G _ _ (b + 30) (b + 33 + 10 + 80 * o + 5 * x) (T x).1 0 ip30 rs5 (casI (fun _ => y) (fun _ => z) (fun _ => w) 0) (T x).2.1 (T x).2.2.1 (T x).2.2.2 hR30 hT10 hvx hvx.1.1 (by omega) (casI_ip (fi := fun _ => y) (se := fun _ => z) (th := fun _ => w) (k := 0) ea30 eb30 ec30 hy hz9 hw)) rfl rfl (Nat.le_of_ble_eq_true rfl) ⟨Nat.le_of_ble_eq_true rfl, Nat.le_of_ble_eq_true rfl⟩ ⟨Nat.le_of_ble_eq_true rfl, Nat.le_of_ble_eq_true rfl⟩ dX9_gives_32 (fw_ki fun r11 M10 H1 locs1 hp9 hH hz1 => ?_)
  obtain ⟨rfl, ⟨rs50, hR50⟩, hfr, hz2⟩ := hp9
  replace hz := hz2.trans hz
  clear hz1 hz2
  have fr12 := hfr
  replace hbn := bnAt.fr hbn (fun q h1 h2 => fr12 q (by omega))
  replace hJ := jW.fr hJ (fun q h1 h2 => fr12 q (by omega))
  replace hK1 := rnW.fr hK1 (fun q h1 h2 => fr12 q (by omega))
  replace hB := brW.fr hB (fun q h1 h2 => fr12 q (by omega))
  replace hQ := rnW.fr hQ (fun q h1 h2 => fr12 q (by omega))
  replace hS6 := siAt.fr hS6 (fun q h1 h2 => fr12 q (by omega))
  replace hG := gcW.fr hG (fun q h1 h2 => fr12 q (by omega))
  replace hY := gyW.fr hY (fun q h1 h2 => fr12 q (by omega))
  replace hX := gvX.fr hX (fun q h1 h2 => fr12 q (by omega))
  replace hZ := tany.fr hZ (fun q h1 h2 => fr12 q (by omega))
  replace hT10 := aTw.fr hT10 (fun q h1 h2 => fr12 q (by omega))
  refine fw_iret E hr hlk hH ?_ dX9_gives_35
  exact ⟨rfl, ⟨hbn, hJ, hK1, hB, hQ, ⟨_, hS6⟩, ⟨_, _, hR50⟩, hG, hY.z, hX, hZ⟩, (fun q hq => by rw [fr12 q (by omega), fr8 q (by omega)]), hz⟩
theorem b_error (l : Launch) (G : fw_G) (M : fw_M) (N : Nat) (b o cn : Nat) (lk gn mi : Int) (T : Nat → aT) (j : aJ) (ra : aR) (hW : bnR G M b o cn lk gn mi T j ra) (hO : bnO cn lk T j ra) (x : Nat) (hx : x < cn) : fMet l yX9_error cX9_error 2 (some .int) 4 150 0 0 G M N [.ref b, .int (iI ↑x)] (fw_pi (fun r M1 n1 => r = iI (erT j (T x) 0) ∧ bnR G M1 b o cn lk gn mi T j ra ∧ (∀ q, q < b + 9 ∨ b + 378 ≤ q → M1 q = M q) ∧ n1 = N)) := by
  refine fw_met RX9 rfl (by decide +kernel) (Nat.le_of_ble_eq_true rfl) ?_
  intro pG e s m args below meth cG ls E hr hlk hnm hK hH hz hl
  obtain ⟨hbn, hJ, hK1, hB, hQ, ⟨rs6, hS6⟩, ⟨ip5, rs5, hR5⟩, hG, hY, hX, hZ⟩ := hW
  obtain ⟨hj, hr9, hlu, hTk⟩ := hO
  obtain ⟨hgb, ho1, hcn⟩ := hG.o1
  have hvx := (hTk x hx).1
  have hv1 := hvx.1
  refine lv_aload_n E.1 E.2.1 dX9_error_0 rfl (lv_at hl 0 rfl) ?_
  refine fw_get E hK hH hbn.2 fc_X9 1 (by decide) ql_RX9_19 rfl rfl dX9_error_1 ?_
  refine lv_aload_n E.1 E.2.1 dX9_error_4 rfl (lv_at hl 0 rfl) ?_
  refine lv_iload_n E.1 E.2.1 dX9_error_5 rfl (lv_at hl 1 rfl) ?_
  refine fw_cV (As := [.int (iI ↑x)]) (rest := [.ref (b + 9)]) E hK hH hl hbn.2 fc_X9 fL_X9_requireTree ql_RX9_108 qi_yX9_requireTree qv_yX9_requireTree (k_reqTree l G _ _ b o cn lk gn mi T hbn hG x (by omega)) rfl rfl (Nat.le_of_ble_eq_true rfl) ⟨Nat.le_of_ble_eq_true rfl, Nat.le_of_ble_eq_true rfl⟩ ⟨Nat.le_of_ble_eq_true rfl, Nat.le_of_ble_eq_true rfl⟩ dX9_error_6 (fw_kr fun r3 M2 H1 locs1 hp1 hH hz1 => ?_)
  obtain ⟨rfl, hM9, hz2⟩ := hp1
  have hT12 := hG.tr (j := x) (by omega)
  replace hz := hz2.trans hz
  clear hz1 hz2
  rw [hM9] at hH
  refine lv_iconst (v := iI 0) E.1 E.2.1 dX9_error_9 (by decide) ?_
  refine fw_cV (As := [.ref (b + 33 + 10 + 80 * o + 5 * x), .int (iI 0)]) (rest := []) E hK hH hl hJ.c fc_X3 fL_X3_errorOf ql_RX9_249 qi_yX3_errorOf qv_yX3_errorOf (k_errorG l G _ _ (b + 9) (b + 33 + 10 + 80 * o + 5 * x) j (T x) hJ hT12 hvx hj (by omega) 0 (by omega)) rfl rfl (Nat.le_of_ble_eq_true rfl) ⟨Nat.le_of_ble_eq_true rfl, Nat.le_of_ble_eq_true rfl⟩ ⟨Nat.le_of_ble_eq_true rfl, Nat.le_of_ble_eq_true rfl⟩ dX9_error_10 (fw_ki fun r6 M5 H1 locs1 hp4 hH hz1 => ?_)
  obtain ⟨rfl, hJ19, hfr, hz2⟩ := hp4
  replace hz := hz2.trans hz
  clear hz1 hz2
  have fr7 := hfr
  replace hbn := bnAt.fr hbn (fun q h1 h2 => fr7 q (by omega))
  replace hK1 := rnW.fr hK1 (fun q h1 h2 => fr7 q (by omega))
  replace hB := brW.fr hB (fun q h1 h2 => fr7 q (by omega))
  replace hQ := rnW.fr hQ (fun q h1 h2 => fr7 q (by omega))
  replace hS6 := siAt.fr hS6 (fun q h1 h2 => fr7 q (by omega))
  replace hR5 := rkAt.fr hR5 (fun q h1 h2 => fr7 q (by omega))
  replace hG := gcW.fr hG (fun q h1 h2 => fr7 q (by omega))
  replace hY := gyW.fr hY (fun q h1 h2 => fr7 q (by omega))
  replace hX := gvX.fr hX (fun q h1 h2 => fr7 q (by omega))
  replace hZ := tany.fr hZ (fun q h1 h2 => fr7 q (by omega))
  replace hT12 := aTw.fr hT12 (fun q h1 h2 => fr7 q (by omega))
  refine fw_iret E hr hlk hH ?_ dX9_error_13
  exact ⟨rfl, ⟨hbn, hJ19, hK1, hB, hQ, ⟨_, hS6⟩, ⟨_, _, hR5⟩, hG, hY.z, hX, hZ⟩, (fun q hq => by rw [fr7 q (by omega)]), hz⟩
theorem b_merit (l : Launch) (G : fw_G) (M : fw_M) (N : Nat) (b o cn : Nat) (lk gn mi : Int) (T : Nat → aT) (j : aJ) (ra : aR) (hW : bnR G M b o cn lk gn mi T j ra) (hO : bnO cn lk T j ra) (x : Nat) (hx : x < cn) : fMet l yX9_merit cX9_merit 2 (some .int) 5 180 0 0 G M N [.ref b, .int (iI ↑x)] (fw_pi (fun r M1 n1 => r = iI (meT j (T x)) ∧ bnR G M1 b o cn lk gn mi T j ra ∧ (∀ q, q < b + 9 ∨ b + 378 ≤ q → M1 q = M q) ∧ n1 = N)) := by
  refine fw_met RX9 rfl (by decide +kernel) (Nat.le_of_ble_eq_true rfl) ?_
  intro pG e s m args below meth cG ls E hr hlk hnm hK hH hz hl
  obtain ⟨hbn, hJ, hK1, hB, hQ, ⟨rs6, hS6⟩, ⟨ip5, rs5, hR5⟩, hG, hY, hX, hZ⟩ := hW
  obtain ⟨hj, hr9, hlu, hTk⟩ := hO
  obtain ⟨hgb, ho1, hcn⟩ := hG.o1
  have hvx := (hTk x hx).1
  have hv1 := hvx.1
  refine lv_aload_n E.1 E.2.1 dX9_merit_0 rfl (lv_at hl 0 rfl) ?_
  refine fw_get E hK hH hbn.2 fc_X9 1 (by decide) ql_RX9_19 rfl rfl dX9_merit_1 ?_
  refine lv_aload_n E.1 E.2.1 dX9_merit_4 rfl (lv_at hl 0 rfl) ?_
  refine lv_iload_n E.1 E.2.1 dX9_merit_5 rfl (lv_at hl 1 rfl) ?_
  refine fw_cV (As := [.int (iI ↑x)]) (rest := [.ref (b + 9)]) E hK hH hl hbn.2 fc_X9 fL_X9_requireTree ql_RX9_108 qi_yX9_requireTree qv_yX9_requireTree (k_reqTree l G _ _ b o cn lk gn mi T hbn hG x (by omega)) rfl rfl (Nat.le_of_ble_eq_true rfl) ⟨Nat.le_of_ble_eq_true rfl, Nat.le_of_ble_eq_true rfl⟩ ⟨Nat.le_of_ble_eq_true rfl, Nat.le_of_ble_eq_true rfl⟩ dX9_merit_6 (fw_kr fun r3 M2 H1 locs1 hp1 hH hz1 => ?_)
  obtain ⟨rfl, hM9, hz2⟩ := hp1
  have hT12 := hG.tr (j := x) (by omega)
  replace hz := hz2.trans hz
  clear hz1 hz2
  rw [hM9] at hH
  refine fw_cV (As := [.ref (b + 33 + 10 + 80 * o + 5 * x)]) (rest := []) E hK hH hl hJ.c fc_X3 fL_X3_meritOf ql_RX9_252 qi_yX3_meritOf qv_yX3_meritOf (k_meritG l G _ _ (b + 9) (b + 33 + 10 + 80 * o + 5 * x) j (T x) hJ hT12 hvx hj (by omega)) rfl rfl (Nat.le_of_ble_eq_true rfl) ⟨Nat.le_of_ble_eq_true rfl, Nat.le_of_ble_eq_true rfl⟩ ⟨Nat.le_of_ble_eq_true rfl, Nat.le_of_ble_eq_true rfl⟩ dX9_merit_9 (fw_ki fun r6 M5 H1 locs1 hp4 hH hz1 => ?_)
  obtain ⟨rfl, hJ18, hfr, hz2⟩ := hp4
  replace hz := hz2.trans hz
  clear hz1 hz2
  have fr7 := hfr
  replace hbn := bnAt.fr hbn (fun q h1 h2 => fr7 q (by omega))
  replace hK1 := rnW.fr hK1 (fun q h1 h2 => fr7 q (by omega))
  replace hB := brW.fr hB (fun q h1 h2 => fr7 q (by omega))
  replace hQ := rnW.fr hQ (fun q h1 h2 => fr7 q (by omega))
  replace hS6 := siAt.fr hS6 (fun q h1 h2 => fr7 q (by omega))
  replace hR5 := rkAt.fr hR5 (fun q h1 h2 => fr7 q (by omega))
  replace hG := gcW.fr hG (fun q h1 h2 => fr7 q (by omega))
  replace hY := gyW.fr hY (fun q h1 h2 => fr7 q (by omega))
  replace hX := gvX.fr hX (fun q h1 h2 => fr7 q (by omega))
  replace hZ := tany.fr hZ (fun q h1 h2 => fr7 q (by omega))
  replace hT12 := aTw.fr hT12 (fun q h1 h2 => fr7 q (by omega))
  refine fw_iret E hr hlk hH ?_ dX9_merit_12
  exact ⟨rfl, ⟨hbn, hJ18, hK1, hB, hQ, ⟨_, hS6⟩, ⟨_, _, hR5⟩, hG, hY.z, hX, hZ⟩, (fun q hq => by rw [fr7 q (by omega)]), hz⟩
theorem b_ranked (l : Launch) (G : fw_G) (M : fw_M) (N : Nat) (b o cn : Nat) (lk gn mi : Int) (T : Nat → aT) (j : aJ) (ra : aR) (hW : bnR G M b o cn lk gn mi T j ra) (hO : bnO cn lk T j ra) (x : Nat) (hx : x < cn) : fMet l yX9_ranked cX9_ranked 2 (some .int) 6 230 0 0 G M N [.ref b, .int (iI ↑x)] (fw_pi (fun r M1 n1 => r = iI ↑(rkT j cn T x) ∧ bnR G M1 b o cn lk gn mi T j ra ∧ (∀ q, q < b + 9 ∨ b + 378 ≤ q → M1 q = M q) ∧ n1 = N)) := by
  refine fw_met RX9 rfl (by decide +kernel) (Nat.le_of_ble_eq_true rfl) ?_
  intro pG e s m args below meth cG ls E hr hlk hnm hK hH hz hl
  obtain ⟨hbn, hJ, hK1, hB, hQ, ⟨rs6, hS6⟩, ⟨ip5, rs5, hR5⟩, hG, hY, hX, hZ⟩ := hW
  obtain ⟨hj, hr9, hlu, hTk⟩ := hO
  obtain ⟨hgb, ho1, hcn⟩ := hG.o1
  refine lv_iload_n E.1 E.2.1 dX9_ranked_0 rfl (lv_at hl 1 rfl) ?_
  refine fw_if_lt (tgt := 15) E dX9_ranked_1 (by decide) (by omega) (by omega) (fun c1 => ?_) (fun c1 => ?_)
  · exfalso; omega
  · refine lv_iload_n E.1 E.2.1 dX9_ranked_4 rfl (lv_at hl 1 rfl) ?_
    refine lv_aload_n E.1 E.2.1 dX9_ranked_5 rfl (lv_at hl 0 rfl) ?_
    refine fw_get E hK hH hbn.2 fc_X9 6 (by decide) ql_RX9_54 rfl rfl dX9_ranked_6 ?_
    refine fw_getN E hK hH hG.2.1 fc_X2 4 (by decide) ql_RX9_99 rfl rfl dX9_ranked_9 ?_
    refine fw_icmp_lt (tgt := 26) E dX9_ranked_12 (by decide) (by omega) (by omega) (by omega) (by omega) (fun c2 => ?_) (fun c2 => ?_)
    · refine lv_aload_n E.1 E.2.1 dX9_ranked_26 rfl (lv_at hl 0 rfl) ?_
      refine fw_get E hK hH hbn.2 fc_X9 2 (by decide) ql_RX9_26 rfl rfl dX9_ranked_27 ?_
      refine lv_aload_n E.1 E.2.1 dX9_ranked_30 rfl (lv_at hl 0 rfl) ?_
      refine fw_get E hK hH hbn.2 fc_X9 6 (by decide) ql_RX9_54 rfl rfl dX9_ranked_31 ?_
      refine lv_aload_n E.1 E.2.1 dX9_ranked_34 rfl (lv_at hl 0 rfl) ?_
      refine fw_get E hK hH hbn.2 fc_X9 1 (by decide) ql_RX9_19 rfl rfl dX9_ranked_35 ?_
      refine fw_cV (As := [.ref (b + 33), .ref (b + 9)]) (rest := []) E hK hH hl hK1.c fc_X4 fL_X4_rank ql_RX9_264 qi_yX4_rank qv_yX4_rank (k_rank l G _ _ (b + 17) (b + 9) j (b + 33) o cn lk gn mi T hG hK1 hJ hj hTk (by omega) (by omega)) rfl rfl (Nat.le_of_ble_eq_true rfl) ⟨Nat.le_of_ble_eq_true rfl, Nat.le_of_ble_eq_true rfl⟩ ⟨Nat.le_of_ble_eq_true rfl, Nat.le_of_ble_eq_true rfl⟩ dX9_ranked_38 (fw_kv fun M4 H1 locs1 hp3 hH hz1 => ?_)
      obtain ⟨hQ20, hJ20, hfr, hz2⟩ := hp3
      replace hz := hz2.trans hz
      clear hz1 hz2
      have fr5 := hfr
      replace hbn := bnAt.fr hbn (fun q h1 h2 => fr5 q (by omega))
      replace hB := brW.fr hB (fun q h1 h2 => fr5 q (by omega))
      replace hQ := rnW.fr hQ (fun q h1 h2 => fr5 q (by omega))
      replace hS6 := siAt.fr hS6 (fun q h1 h2 => fr5 q (by omega))
      replace hR5 := rkAt.fr hR5 (fun q h1 h2 => fr5 q (by omega))
      replace hG := gcW.fr hG (fun q h1 h2 => fr5 q (by omega))
      replace hY := gyW.fr hY (fun q h1 h2 => fr5 q (by omega))
      replace hX := gvX.fr hX (fun q h1 h2 => fr5 q (by omega))
      replace hZ := tany.fr hZ (fun q h1 h2 => fr5 q (by omega))
      refine lv_aload_n E.1 E.2.1 dX9_ranked_41 rfl (lv_at hl 0 rfl) ?_
      refine fw_get E hK hH hbn.2 fc_X9 2 (by decide) ql_RX9_26 rfl rfl dX9_ranked_42 ?_
      refine lv_iload_n E.1 E.2.1 dX9_ranked_45 rfl (lv_at hl 1 rfl) ?_
      refine fw_cV (As := [.int (iI ↑x)]) (rest := []) E hK hH hl hQ20.c fc_X4 fL_X4_withRank ql_RX9_268 qi_yX4_withRank qv_yX4_withRank (k_withRankG l G _ _ (b + 17) cn (fun k => meT j (T k)) (fun k => szT j (T k)) hQ20 hcn x (by omega)) rfl rfl (Nat.le_of_ble_eq_true rfl) ⟨Nat.le_of_ble_eq_true rfl, Nat.le_of_ble_eq_true rfl⟩ ⟨Nat.le_of_ble_eq_true rfl, Nat.le_of_ble_eq_true rfl⟩ dX9_ranked_46 (fw_ki fun r8 M7 H1 locs1 hp6 hH hz1 => ?_)
      obtain ⟨rfl, hM9, hz2⟩ := hp6
      have hob37 := ordF_b (fun k => meT j (T k)) (fun k => szT j (T k)) cn x (by omega)
      refine fw_cv (y := iI (↑(ordF (fun k => meT j (T k)) (fun k => szT j (T k)) cn x).toNat)) (congrArg iI (by omega)) ?_
      replace hz := hz2.trans hz
      clear hz1 hz2
      rw [hM9] at hH
      refine fw_iret E hr hlk hH ?_ dX9_ranked_49
      exact ⟨rfl, ⟨hbn, hJ20, hQ20.w, hB, hQ, ⟨_, hS6⟩, ⟨_, _, hR5⟩, hG, hY.z, hX, hZ⟩, (fun q hq => by rw [fr5 q (by omega)]), hz⟩
    · exfalso; omega
def ecT (j : aJ) (c : aT) (p : Nat) (d : aT) (q : Nat) : Int := if crOK c p d q then erT j (crT c p d q) 0 else -1
theorem b_errorCrossed (l : Launch) (G : fw_G) (M : fw_M) (N : Nat) (b o cn : Nat) (lk gn mi : Int) (T : Nat → aT) (j : aJ) (ra : aR) (hW : bnR G M b o cn lk gn mi T j ra) (hO : bnO cn lk T j ra) (x p y q : Nat) (hx : x < cn) (hy : y < cn) (hp : p < (T x).1) (hq : q < (T y).1) : fMet l yX9_errorCrossed cX9_errorCrossed 7 (some .int) 5 180 0 0 G M N [.ref b, .int (iI ↑x), .int (iI ↑p), .int (iI ↑y), .int (iI ↑q)] (fw_pi (fun r M1 n1 => r = iI (ecT j (T x) p (T y) q) ∧ bnR G M1 b o cn lk gn mi T j ra ∧ (∀ q, q < b + 9 ∨ b + 378 ≤ q → M1 q = M q) ∧ n1 = N)) := by
  refine fw_met RX9 rfl (by decide +kernel) (Nat.le_of_ble_eq_true rfl) ?_
  intro pG e s m args below meth cG ls E hr hlk hnm hK hH hz hl
  obtain ⟨hbn, hJ, hK1, hB, hQ, ⟨rs6, hS6⟩, ⟨ip5, rs5, hR5⟩, hG, hY, hX, hZ⟩ := hW
  obtain ⟨hj, hr9, hlu, hTk⟩ := hO
  obtain ⟨hgb, ho1, hcn⟩ := hG.o1
  have hox := hTk x hx
  have hvx := hox.1
  have hv1 := hvx.1
  have hoy := hTk y hy
  have hvy := hoy.1
  have hv2 := hvy.1
  refine lv_aload_n E.1 E.2.1 dX9_errorCrossed_0 rfl (lv_at hl 0 rfl) ?_
  refine lv_iload_n E.1 E.2.1 dX9_errorCrossed_1 rfl (lv_at hl 1 rfl) ?_
  refine lv_iload_n E.1 E.2.1 dX9_errorCrossed_2 rfl (lv_at hl 2 rfl) ?_
  refine fw_cV (As := [.int (iI ↑x), .int (iI ↑p)]) (rest := []) E hK hH hl hbn.2 fc_X9 fL_X9_requirePlace ql_RX9_141 qi_yX9_requirePlace qv_yX9_requirePlace (k_reqPlace l G _ _ b o cn lk gn mi T hbn hG x p (by omega) (by omega) (by omega)) rfl rfl (Nat.le_of_ble_eq_true rfl) ⟨Nat.le_of_ble_eq_true rfl, Nat.le_of_ble_eq_true rfl⟩ ⟨Nat.le_of_ble_eq_true rfl, Nat.le_of_ble_eq_true rfl⟩ dX9_errorCrossed_3 (fw_kr fun r3 M2 H1 locs1 hp1 hH hz1 => ?_)
  obtain ⟨rfl, hM9, hz2⟩ := hp1
  have hT15 := hG.tr (j := x) (by omega)
  replace hz := hz2.trans hz
  clear hz1 hz2
  rw [hM9] at hH
  refine lv_astore (lv' := [(5, .ref (b + 33 + 10 + 80 * o + 5 * x)), (0, .ref b), (1, .int (iI ↑x)), (2, .int (iI ↑p)), (3, .int (iI ↑y)), (4, .int (iI ↑q))]) E.1 E.2.1 dX9_errorCrossed_6 hl (by decide) rfl (fun ls hl => ?_)
  refine lv_aload_n E.1 E.2.1 dX9_errorCrossed_8 rfl (lv_at hl 1 rfl) ?_
  refine lv_iload_n E.1 E.2.1 dX9_errorCrossed_9 rfl (lv_at hl 4 rfl) ?_
  refine lv_iload E.1 E.2.1 dX9_errorCrossed_10 (lv_at hl 5 rfl) ?_
  refine fw_cV (As := [.int (iI ↑y), .int (iI ↑q)]) (rest := []) E hK hH hl hbn.2 fc_X9 fL_X9_requirePlace ql_RX9_141 qi_yX9_requirePlace qv_yX9_requirePlace (k_reqPlace l G _ _ b o cn lk gn mi T hbn hG y q (by omega) (by omega) (by omega)) rfl rfl (Nat.le_of_ble_eq_true rfl) ⟨Nat.le_of_ble_eq_true rfl, Nat.le_of_ble_eq_true rfl⟩ ⟨Nat.le_of_ble_eq_true rfl, Nat.le_of_ble_eq_true rfl⟩ dX9_errorCrossed_12 (fw_kr fun r6 M5 H1 locs1 hp4 hH hz1 => ?_)
  obtain ⟨rfl, hM9, hz2⟩ := hp4
  have hT25 := hG.tr (j := y) (by omega)
  replace hz := hz2.trans hz
  clear hz1 hz2
  rw [hM9] at hH
  refine lv_astore (lv' := [(6, .ref (b + 33 + 10 + 80 * o + 5 * y)), (5, .ref (b + 33 + 10 + 80 * o + 5 * x)), (0, .ref b), (1, .int (iI ↑x)), (2, .int (iI ↑p)), (3, .int (iI ↑y)), (4, .int (iI ↑q))]) E.1 E.2.1 dX9_errorCrossed_15 hl (by decide) rfl (fun ls hl => ?_)
  refine lv_aload_n E.1 E.2.1 dX9_errorCrossed_17 rfl (lv_at hl 2 rfl) ?_
  refine fw_get E hK hH hbn.2 fc_X9 8 (by decide) ql_RX9_64 rfl rfl dX9_errorCrossed_18 ?_
  refine lv_aload E.1 E.2.1 dX9_errorCrossed_21 (lv_at hl 1 rfl) ?_
  refine lv_iload_n E.1 E.2.1 dX9_errorCrossed_23 rfl (lv_at hl 4 rfl) ?_
  refine lv_aload E.1 E.2.1 dX9_errorCrossed_24 (lv_at hl 0 rfl) ?_
  refine lv_iload E.1 E.2.1 dX9_errorCrossed_26 (lv_at hl 6 rfl) ?_
  obtain ⟨_, _, _, _, ua38, ub38, hob38, _⟩ := id hZ
  refine fw_cV (As := [.ref (b + 33 + 10 + 80 * o + 5 * x), .int (iI ↑p), .ref (b + 33 + 10 + 80 * o + 5 * y), .int (iI ↑q)]) (rest := []) E hK hH hl hob38.2.1 fc_X8 fL_X8_becomeCrossed ql_RX9_145 qi_yX8_becomeCrossed qv_yX8_becomeCrossed (k_crossG l G _ _ (b + 373) (b + 33 + 10 + 80 * o + 5 * x) (b + 33 + 10 + 80 * o + 5 * y) (T x) (T y) p q hZ hT15 hT25 hvx hvy (by omega) (by omega) (by omega) (by omega)) rfl rfl (Nat.le_of_ble_eq_true rfl) ⟨Nat.le_of_ble_eq_true rfl, Nat.le_of_ble_eq_true rfl⟩ ⟨Nat.le_of_ble_eq_true rfl, Nat.le_of_ble_eq_true rfl⟩ dX9_errorCrossed_28 (fw_ki fun r9 M8 H1 locs1 hp7 hH hz1 => ?_)
  obtain ⟨b38, rfl, hcr, hfr, hz2⟩ := hp7
  have hb38 : b38 = 0 ∨ b38 = 1 := hcr.elim (fun h => Or.inr h.1) (fun h => Or.inl h.1)
  replace hz := hz2.trans hz
  clear hz1 hz2
  have fr10 := hfr
  replace hbn := bnAt.fr hbn (fun q h1 h2 => fr10 q (by omega))
  replace hJ := jW.fr hJ (fun q h1 h2 => fr10 q (by omega))
  replace hK1 := rnW.fr hK1 (fun q h1 h2 => fr10 q (by omega))
  replace hB := brW.fr hB (fun q h1 h2 => fr10 q (by omega))
  replace hQ := rnW.fr hQ (fun q h1 h2 => fr10 q (by omega))
  replace hS6 := siAt.fr hS6 (fun q h1 h2 => fr10 q (by omega))
  replace hR5 := rkAt.fr hR5 (fun q h1 h2 => fr10 q (by omega))
  replace hG := gcW.fr hG (fun q h1 h2 => fr10 q (by omega))
  replace hY := gyW.fr hY (fun q h1 h2 => fr10 q (by omega))
  replace hX := gvX.fr hX (fun q h1 h2 => fr10 q (by omega))
  replace hT15 := aTw.fr hT15 (fun q h1 h2 => fr10 q (by omega))
  replace hT25 := aTw.fr hT25 (fun q h1 h2 => fr10 q (by omega))
  refine fw_if_ne (tgt := 36) E dX9_errorCrossed_31 (by decide) (by omega) (by omega) (fun c11 => ?_) (fun c11 => ?_)
  · obtain ⟨hk9, hCy⟩ : crOK (T x) p (T y) q ∧ aTw G M8 (b + 373) (crT (T x) p (T y) q) := hcr.elim (fun h => h.2) (fun h => absurd h.1 (by omega))
    have hvc := (crT_ok hox hoy hp hq hk9).1
    refine lv_aload_n E.1 E.2.1 dX9_errorCrossed_36 rfl (lv_at hl 2 rfl) ?_
    refine fw_get E hK hH hbn.2 fc_X9 1 (by decide) ql_RX9_19 rfl rfl dX9_errorCrossed_37 ?_
    refine lv_aload_n E.1 E.2.1 dX9_errorCrossed_40 rfl (lv_at hl 2 rfl) ?_
    refine fw_get E hK hH hbn.2 fc_X9 8 (by decide) ql_RX9_64 rfl rfl dX9_errorCrossed_41 ?_
    refine lv_iconst (v := iI 0) E.1 E.2.1 dX9_errorCrossed_44 (by decide) ?_
    refine fw_cV (As := [.ref (b + 373), .int (iI 0)]) (rest := []) E hK hH hl hJ.c fc_X3 fL_X3_errorOf ql_RX9_249 qi_yX3_errorOf qv_yX3_errorOf (k_errorG l G _ _ (b + 9) (b + 373) j (crT (T x) p (T y) q) hJ hCy hvc hj (by omega) 0 hvc.1.1) rfl rfl (Nat.le_of_ble_eq_true rfl) ⟨Nat.le_of_ble_eq_true rfl, Nat.le_of_ble_eq_true rfl⟩ ⟨Nat.le_of_ble_eq_true rfl, Nat.le_of_ble_eq_true rfl⟩ dX9_errorCrossed_45 (fw_ki fun r14 M13 H1 locs1 hp12 hH hz1 => ?_)
    obtain ⟨rfl, hJ65, hfr, hz2⟩ := hp12
    replace hz := hz2.trans hz
    clear hz1 hz2
    have fr15 := hfr
    replace hbn := bnAt.fr hbn (fun q h1 h2 => fr15 q (by omega))
    replace hK1 := rnW.fr hK1 (fun q h1 h2 => fr15 q (by omega))
    replace hB := brW.fr hB (fun q h1 h2 => fr15 q (by omega))
    replace hQ := rnW.fr hQ (fun q h1 h2 => fr15 q (by omega))
    replace hS6 := siAt.fr hS6 (fun q h1 h2 => fr15 q (by omega))
    replace hR5 := rkAt.fr hR5 (fun q h1 h2 => fr15 q (by omega))
    replace hG := gcW.fr hG (fun q h1 h2 => fr15 q (by omega))
    replace hY := gyW.fr hY (fun q h1 h2 => fr15 q (by omega))
    replace hX := gvX.fr hX (fun q h1 h2 => fr15 q (by omega))
    replace hT15 := aTw.fr hT15 (fun q h1 h2 => fr15 q (by omega))
    replace hT25 := aTw.fr hT25 (fun q h1 h2 => fr15 q (by omega))
    replace hCy := aTw.fr hCy (fun q h1 h2 => fr15 q (by omega))
    refine fw_iret E hr hlk hH ?_ dX9_errorCrossed_48
    exact ⟨(by unfold ecT; rw [if_pos hk9]), ⟨hbn, hJ65, hK1, hB, hQ, ⟨_, hS6⟩, ⟨_, _, hR5⟩, hG, hY.z, hX, hCy.any⟩, (fun q hq => by rw [fr15 q (by omega), fr10 q (by omega)]), hz⟩
  · obtain ⟨hk9, hCn⟩ : ¬ crOK (T x) p (T y) q ∧ tany G M8 (b + 373) := hcr.elim (fun h => absurd h.1 (by omega)) (fun h => h.2)
    refine lv_iconst (v := iI (-1)) E.1 E.2.1 dX9_errorCrossed_34 (by decide) ?_
    refine fw_iret E hr hlk hH ?_ dX9_errorCrossed_35
    exact ⟨(by unfold ecT; rw [if_neg hk9]), ⟨hbn, hJ, hK1, hB, hQ, ⟨_, hS6⟩, ⟨_, _, hR5⟩, hG, hY.z, hX, hCn⟩, (fun q hq => by rw [fr10 q (by omega)]), hz⟩
set_option maxHeartbeats 1000000 in
theorem b_bestHoist (l : Launch) (G : fw_G) (M : fw_M) (N : Nat) (b o cn : Nat) (lk gn mi : Int) (T : Nat → aT) (j : aJ) (ra : aR) (hW : bnR G M b o cn lk gn mi T j ra) (hO : bnO cn lk T j ra) (x : Nat) (hx : x < cn) : fMet l yX9_bestHoist cX9_bestHoist 7 (some .int) 4 160 0 0 G M N [.ref b, .int (iI ↑x)] (fw_pi (fun r M1 n1 => (∃ p : Nat, r = iI ↑p ∧ p < (T x).1 ∧ (T x).2.1 p ≤ 8 ∧ erT j (T x) p ≤ erT j (T x) 0) ∧ bnR G M1 b o cn lk gn mi T j ra ∧ (∀ q, q < b + 9 ∨ b + 378 ≤ q → M1 q = M q) ∧ n1 = N)) := by
  refine fw_met RX9 rfl (by decide +kernel) (Nat.le_of_ble_eq_true rfl) ?_
  intro pG e s m args below meth cG ls E hr hlk hnm hK hH hz hl
  obtain ⟨hbn, hJ, hK1, hB, hQ, ⟨rs6, hS6⟩, ⟨ip5, rs5, hR5⟩, hG, hY, hX, hZ⟩ := hW
  obtain ⟨hj, hr9, hlu, hTk⟩ := hO
  obtain ⟨hgb, ho1, hcn⟩ := hG.o1
  have hvx := (hTk x hx).1
  have hv1 := hvx.1
  refine lv_aload_n E.1 E.2.1 dX9_bestHoist_0 rfl (lv_at hl 0 rfl) ?_
  refine lv_iload_n E.1 E.2.1 dX9_bestHoist_1 rfl (lv_at hl 1 rfl) ?_
  refine fw_cV (As := [.int (iI ↑x)]) (rest := []) E hK hH hl hbn.2 fc_X9 fL_X9_requireTree ql_RX9_108 qi_yX9_requireTree qv_yX9_requireTree (k_reqTree l G _ _ b o cn lk gn mi T hbn hG x (by omega)) rfl rfl (Nat.le_of_ble_eq_true rfl) ⟨Nat.le_of_ble_eq_true rfl, Nat.le_of_ble_eq_true rfl⟩ ⟨Nat.le_of_ble_eq_true rfl, Nat.le_of_ble_eq_true rfl⟩ dX9_bestHoist_2 (fw_kr fun r3 M2 H1 locs1 hp1 hH hz1 => ?_)
  obtain ⟨rfl, hM9, hz2⟩ := hp1
  have hT11 := hG.tr (j := x) (by omega)
  replace hz := hz2.trans hz
  clear hz1 hz2
  rw [hM9] at hH
  refine lv_astore_n (lv' := [(2, .ref (b + 33 + 10 + 80 * o + 5 * x)), (0, .ref b), (1, .int (iI ↑x))]) E.1 E.2.1 dX9_bestHoist_5 rfl hl (by decide) rfl (fun ls hl => ?_)
  refine lv_iconst (v := iI 0) E.1 E.2.1 dX9_bestHoist_6 (by decide) ?_
  refine lv_istore_n (lv' := [(3, .int (iI 0)), (2, .ref (b + 33 + 10 + 80 * o + 5 * x)), (0, .ref b), (1, .int (iI ↑x))]) E.1 E.2.1 dX9_bestHoist_7 rfl hl (by decide) rfl (fun ls hl => ?_)
  refine lv_aload_n E.1 E.2.1 dX9_bestHoist_8 rfl (lv_at hl 2 rfl) ?_
  refine fw_get E hK hH hbn.2 fc_X9 1 (by decide) ql_RX9_19 rfl rfl dX9_bestHoist_9 ?_
  refine lv_aload_n E.1 E.2.1 dX9_bestHoist_12 rfl (lv_at hl 1 rfl) ?_
  refine lv_iconst (v := iI 0) E.1 E.2.1 dX9_bestHoist_13 (by decide) ?_
  refine fw_cV (As := [.ref (b + 33 + 10 + 80 * o + 5 * x), .int (iI 0)]) (rest := []) E hK hH hl hJ.c fc_X3 fL_X3_errorOf ql_RX9_249 qi_yX3_errorOf qv_yX3_errorOf (k_errorG l G _ _ (b + 9) (b + 33 + 10 + 80 * o + 5 * x) j (T x) hJ hT11 hvx hj (by omega) 0 hv1.1) rfl rfl (Nat.le_of_ble_eq_true rfl) ⟨Nat.le_of_ble_eq_true rfl, Nat.le_of_ble_eq_true rfl⟩ ⟨Nat.le_of_ble_eq_true rfl, Nat.le_of_ble_eq_true rfl⟩ dX9_bestHoist_14 (fw_ki fun r6 M5 H1 locs1 hp4 hH hz1 => ?_)
  obtain ⟨rfl, hJ24, hfr, hz2⟩ := hp4
  replace hz := hz2.trans hz
  clear hz1 hz2
  have fr7 := hfr
  replace hbn := bnAt.fr hbn (fun q h1 h2 => fr7 q (by omega))
  replace hK1 := rnW.fr hK1 (fun q h1 h2 => fr7 q (by omega))
  replace hB := brW.fr hB (fun q h1 h2 => fr7 q (by omega))
  replace hQ := rnW.fr hQ (fun q h1 h2 => fr7 q (by omega))
  replace hS6 := siAt.fr hS6 (fun q h1 h2 => fr7 q (by omega))
  replace hR5 := rkAt.fr hR5 (fun q h1 h2 => fr7 q (by omega))
  replace hG := gcW.fr hG (fun q h1 h2 => fr7 q (by omega))
  replace hY := gyW.fr hY (fun q h1 h2 => fr7 q (by omega))
  replace hX := gvX.fr hX (fun q h1 h2 => fr7 q (by omega))
  replace hZ := tany.fr hZ (fun q h1 h2 => fr7 q (by omega))
  replace hT11 := aTw.fr hT11 (fun q h1 h2 => fr7 q (by omega))
  have hb0 := erT_b hj hvx hv1.1
  refine lv_istore (lv' := [(4, .int (iI (erT j (T x) 0))), (3, .int (iI 0)), (2, .ref (b + 33 + 10 + 80 * o + 5 * x)), (0, .ref b), (1, .int (iI ↑x))]) E.1 E.2.1 dX9_bestHoist_17 hl (by decide) rfl (fun ls hl => ?_)
  refine lv_iconst (v := iI 1) E.1 E.2.1 dX9_bestHoist_19 (by decide) ?_
  refine lv_istore (lv' := [(5, .int (iI 1)), (4, .int (iI (erT j (T x) 0))), (3, .int (iI 0)), (2, .ref (b + 33 + 10 + 80 * o + 5 * x)), (0, .ref b), (1, .int (iI ↑x))]) E.1 E.2.1 dX9_bestHoist_20 hl (by decide) rfl (fun ls hl => ?_)
  have hfr0 : ∀ q, q < b + 9 ∨ b + 378 ≤ q → M5 q = M q := (fun q hq => by rw [fr7 q (by omega)])
  have loop22_1 : ∀ (d22 : Nat) (i : Nat) (bp : Nat) (be : Int) (Mw22 : fw_M) (H : Heap) (locs : List Loc) (ls : Array Slot), (T x).1 - i < d22 → i ≤ (T x).1 → bp < (T x).1 → be = erT j (T x) bp → be ≤ erT j (T x) 0 → (T x).2.1 bp ≤ 8 → (∀ q, q < b + 9 ∨ b + 378 ≤ q → Mw22 q = M q) → fw_H G s Mw22 H locs → H.size = N → bnAt G Mw22 b → jW G Mw22 (b + 9) j → rnW G Mw22 (b + 17) → brW G Mw22 (b + 21) ra → rnW G Mw22 (b + 22) → siAt G Mw22 (b + 26) (fun _ => 0) rs6 → rkAt G Mw22 (b + 30) ip5 rs5 → gcW G Mw22 (b + 33) o lk cn gn mi T → gyW G Mw22 (b + 33) o 0 T → gvX G Mw22 (b + 203) → tany G Mw22 (b + 373) → aTw G Mw22 (b + 33 + 10 + 80 * o + 5 * x) (T x) → lv_has ls 7 [(0, .ref b), (1, .int (iI ↑x)), (2, .ref (b + 33 + 10 + 80 * o + 5 * x)), (3, .int (iI ↑bp)), (4, .int (iI be)), (5, .int (iI ↑i))] → W pG l e ({ frames := 4, cells := 0, slots := 0, locals := 160 } : Room) s m args below meth cG H locs (0) (0) (MQ below (fw_Q G (fw_pi (fun r M1 n1 => (∃ p : Nat, r = iI ↑p ∧ p < (T x).1 ∧ (T x).2.1 p ≤ 8 ∧ erT j (T x) p ≤ erT j (T x) 0) ∧ bnR G M1 b o cn lk gn mi T j ra ∧ (∀ q, q < b + 9 ∨ b + 378 ≤ q → M1 q = M q) ∧ n1 = N))) args s 0 0 (fun q => G.2.2.1 ≤ q)) (F0 m 22 ls []) := by
    intro d22
    induction d22 with
    | zero => intro i bp be Mw22 H locs ls hd; exact absurd hd (Nat.not_lt_zero _)
    | succ d22 ih22 =>
      intro i bp be Mw22 H locs ls hd22 i0 hbp hbe hbl hb8 hfr0 hH hz hbn hJ hK1 hB hQ hS6 hR5 hG hY hX hZ hTx hl
      have hbb := erT_b hj hvx hbp
      refine lv_iload E.1 E.2.1 dX9_bestHoist_22 (lv_at hl 5 rfl) ?_
      refine lv_aload_n E.1 E.2.1 dX9_bestHoist_24 rfl (lv_at hl 2 rfl) ?_
      refine fw_getN E hK hH hTx.c fc_X8 4 (by decide) ql_RX9_93 rfl rfl dX9_bestHoist_25 ?_
      refine fw_icmp_ge (tgt := 93) E dX9_bestHoist_28 (by decide) (by omega) (by omega) (by omega) (by omega) (fun c8 => ?_) (fun c8 => ?_)
      · refine lv_iload_n E.1 E.2.1 dX9_bestHoist_93 rfl (lv_at hl 3 rfl) ?_
        refine fw_iret E hr hlk hH ?_ dX9_bestHoist_94
        exact ⟨⟨bp, rfl, hbp, hb8, by omega⟩, ⟨hbn, hJ, hK1, hB, hQ, ⟨_, hS6⟩, ⟨_, _, hR5⟩, hG, hY.z, hX, hZ⟩, hfr0, hz⟩
      · refine lv_aload_n E.1 E.2.1 dX9_bestHoist_31 rfl (lv_at hl 2 rfl) ?_
        refine lv_iload E.1 E.2.1 dX9_bestHoist_32 (lv_at hl 5 rfl) ?_
        refine fw_cV (As := [.int (iI ↑i)]) (rest := []) E hK hH hl hTx.c fc_X8 fL_X8_isNumber ql_RX9_152 qi_yX8_isNumber qv_yX8_isNumber (k_isNumberG l G _ _ (b + 33 + 10 + 80 * o + 5 * x) (T x) hTx hvx i (by omega)) rfl rfl (Nat.le_of_ble_eq_true rfl) ⟨Nat.le_of_ble_eq_true rfl, Nat.le_of_ble_eq_true rfl⟩ ⟨Nat.le_of_ble_eq_true rfl, Nat.le_of_ble_eq_true rfl⟩ dX9_bestHoist_34 (fw_ki fun r11 M10 H1 locs1 hp9 hH hz1 => ?_)
        obtain ⟨rfl, hM9, hz2⟩ := hp9
        have hnm61 := numI_cases ((T x).2.1 i)
        replace hz := hz2.trans hz
        clear hz1 hz2
        rw [hM9] at hH
        refine fw_if_eq (tgt := 87) E dX9_bestHoist_37 (by decide) (by omega) (by omega) (fun c12 => ?_) (fun c12 => ?_)
        · refine lv_iinc (v := iI (↑i + 1)) (lv' := [(5, .int (iI (↑i + 1))), (0, .ref b), (1, .int (iI ↑x)), (2, .ref (b + 33 + 10 + 80 * o + 5 * x)), (3, .int (iI ↑bp)), (4, .int (iI be))]) E.1 E.2.1 dX9_bestHoist_87 hl (k := 5) rfl (iI_inc rfl) (by decide) rfl (fun ls hl => ?_)
          refine lv_goto (tgt := 22) E.1 E.2.1 dX9_bestHoist_90 (by decide) ?_
          exact ih22 (i + 1) bp be _ _ _ _ (by omega) (by omega) (by omega) (by first | rfl | exact hbe) (by omega) (by first | exact hb8 | omega) hfr0 hH (by omega) hbn hJ hK1 hB hQ hS6 hR5 hG hY hX hZ hTx (lv_sub hl [1, 2, 3, 4, 5, 0] rfl)
        · refine lv_aload_n E.1 E.2.1 dX9_bestHoist_40 rfl (lv_at hl 0 rfl) ?_
          refine fw_get E hK hH hbn.2 fc_X9 1 (by decide) ql_RX9_19 rfl rfl dX9_bestHoist_41 ?_
          refine lv_aload_n E.1 E.2.1 dX9_bestHoist_44 rfl (lv_at hl 2 rfl) ?_
          refine lv_iload E.1 E.2.1 dX9_bestHoist_45 (lv_at hl 5 rfl) ?_
          refine fw_cV (As := [.ref (b + 33 + 10 + 80 * o + 5 * x), .int (iI ↑i)]) (rest := []) E hK hH hl hJ.c fc_X3 fL_X3_errorOf ql_RX9_249 qi_yX3_errorOf qv_yX3_errorOf (k_errorG l G _ _ (b + 9) (b + 33 + 10 + 80 * o + 5 * x) j (T x) hJ hTx hvx hj (by omega) i (by omega)) rfl rfl (Nat.le_of_ble_eq_true rfl) ⟨Nat.le_of_ble_eq_true rfl, Nat.le_of_ble_eq_true rfl⟩ ⟨Nat.le_of_ble_eq_true rfl, Nat.le_of_ble_eq_true rfl⟩ dX9_bestHoist_47 (fw_ki fun r15 M14 H1 locs1 hp13 hH hz1 => ?_)
          obtain ⟨rfl, hJ75, hfr, hz2⟩ := hp13
          replace hz := hz2.trans hz
          clear hz1 hz2
          have fr16 := hfr
          replace hbn := bnAt.fr hbn (fun q h1 h2 => fr16 q (by omega))
          replace hK1 := rnW.fr hK1 (fun q h1 h2 => fr16 q (by omega))
          replace hB := brW.fr hB (fun q h1 h2 => fr16 q (by omega))
          replace hQ := rnW.fr hQ (fun q h1 h2 => fr16 q (by omega))
          replace hS6 := siAt.fr hS6 (fun q h1 h2 => fr16 q (by omega))
          replace hR5 := rkAt.fr hR5 (fun q h1 h2 => fr16 q (by omega))
          replace hG := gcW.fr hG (fun q h1 h2 => fr16 q (by omega))
          replace hY := gyW.fr hY (fun q h1 h2 => fr16 q (by omega))
          replace hX := gvX.fr hX (fun q h1 h2 => fr16 q (by omega))
          replace hZ := tany.fr hZ (fun q h1 h2 => fr16 q (by omega))
          replace hTx := aTw.fr hTx (fun q h1 h2 => fr16 q (by omega))
          have hbi := erT_b hj hvx (show i < (T x).1 by omega)
          refine lv_istore (lv' := [(6, .int (iI (erT j (T x) i))), (0, .ref b), (1, .int (iI ↑x)), (2, .ref (b + 33 + 10 + 80 * o + 5 * x)), (3, .int (iI ↑bp)), (4, .int (iI be)), (5, .int (iI ↑i))]) E.1 E.2.1 dX9_bestHoist_50 hl (by decide) rfl (fun ls hl => ?_)
          refine lv_iload E.1 E.2.1 dX9_bestHoist_52 (lv_at hl 0 rfl) ?_
          refine lv_iload E.1 E.2.1 dX9_bestHoist_54 (lv_at hl 5 rfl) ?_
          refine fw_icmp_lt (tgt := 80) E dX9_bestHoist_56 (by decide) (by omega) (by omega) (by omega) (by omega) (fun c17 => ?_) (fun c17 => ?_)
          · refine lv_iload E.1 E.2.1 dX9_bestHoist_80 (lv_at hl 6 rfl) ?_
            refine lv_istore_n (lv' := [(3, .int (iI ↑i)), (6, .int (iI (erT j (T x) i))), (0, .ref b), (1, .int (iI ↑x)), (2, .ref (b + 33 + 10 + 80 * o + 5 * x)), (4, .int (iI be)), (5, .int (iI ↑i))]) E.1 E.2.1 dX9_bestHoist_82 rfl hl (by decide) rfl (fun ls hl => ?_)
            refine lv_iload E.1 E.2.1 dX9_bestHoist_83 (lv_at hl 1 rfl) ?_
            refine lv_istore (lv' := [(4, .int (iI (erT j (T x) i))), (3, .int (iI ↑i)), (6, .int (iI (erT j (T x) i))), (0, .ref b), (1, .int (iI ↑x)), (2, .ref (b + 33 + 10 + 80 * o + 5 * x)), (5, .int (iI ↑i))]) E.1 E.2.1 dX9_bestHoist_85 hl (by decide) rfl (fun ls hl => ?_)
            refine lv_iinc (v := iI (↑i + 1)) (lv' := [(5, .int (iI (↑i + 1))), (4, .int (iI (erT j (T x) i))), (3, .int (iI ↑i)), (6, .int (iI (erT j (T x) i))), (0, .ref b), (1, .int (iI ↑x)), (2, .ref (b + 33 + 10 + 80 * o + 5 * x))]) E.1 E.2.1 dX9_bestHoist_87 hl (k := 6) rfl (iI_inc rfl) (by decide) rfl (fun ls hl => ?_)
            refine lv_goto (tgt := 22) E.1 E.2.1 dX9_bestHoist_90 (by decide) ?_
            exact ih22 (i + 1) i (erT j (T x) i) _ _ _ _ (by omega) (by omega) (by omega) (by first | rfl | exact hbe) (by omega) (by first | exact hb8 | omega) (fun q hq => by rw [fr16 q (by omega)]; exact hfr0 q hq) hH (by omega) hbn hJ75 hK1 hB hQ hS6 hR5 hG hY hX hZ hTx (lv_sub hl [4, 5, 6, 2, 1, 0] rfl)
          · refine lv_iload E.1 E.2.1 dX9_bestHoist_59 (lv_at hl 0 rfl) ?_
            refine lv_iload E.1 E.2.1 dX9_bestHoist_61 (lv_at hl 5 rfl) ?_
            refine fw_icmp_ne (tgt := 87) E dX9_bestHoist_63 (by decide) (by omega) (by omega) (by omega) (by omega) (fun c18 => ?_) (fun c18 => ?_)
            · refine lv_iinc (v := iI (↑i + 1)) (lv' := [(5, .int (iI (↑i + 1))), (6, .int (iI (erT j (T x) i))), (0, .ref b), (1, .int (iI ↑x)), (2, .ref (b + 33 + 10 + 80 * o + 5 * x)), (3, .int (iI ↑bp)), (4, .int (iI be))]) E.1 E.2.1 dX9_bestHoist_87 hl (k := 6) rfl (iI_inc rfl) (by decide) rfl (fun ls hl => ?_)
              refine lv_goto (tgt := 22) E.1 E.2.1 dX9_bestHoist_90 (by decide) ?_
              exact ih22 (i + 1) bp be _ _ _ _ (by omega) (by omega) (by omega) (by first | rfl | exact hbe) (by omega) (by first | exact hb8 | omega) (fun q hq => by rw [fr16 q (by omega)]; exact hfr0 q hq) hH (by omega) hbn hJ75 hK1 hB hQ hS6 hR5 hG hY hX hZ hTx (lv_sub hl [2, 3, 4, 5, 6, 0] rfl)
            · have hsp1 := sp_le hvx.2.2.2.1 (show i < (T x).1 by omega)
              have hsp2 := sp_le hvx.2.2.2.1 hbp
              refine lv_aload_n E.1 E.2.1 dX9_bestHoist_66 rfl (lv_at hl 3 rfl) ?_
              refine lv_iload E.1 E.2.1 dX9_bestHoist_67 (lv_at hl 6 rfl) ?_
              refine fw_cV (As := [.int (iI ↑i)]) (rest := []) E hK hH hl hTx.c fc_X8 fL_X8_span ql_RX9_236 qi_yX8_span qv_yX8_span (k_spanG l G _ _ (b + 33 + 10 + 80 * o + 5 * x) (T x) hTx hvx i (by omega)) rfl rfl (Nat.le_of_ble_eq_true rfl) ⟨Nat.le_of_ble_eq_true rfl, Nat.le_of_ble_eq_true rfl⟩ ⟨Nat.le_of_ble_eq_true rfl, Nat.le_of_ble_eq_true rfl⟩ dX9_bestHoist_69 (fw_ki fun r21 M20 H1 locs1 hp19 hH hz1 => ?_)
              obtain ⟨rfl, hM9, hz2⟩ := hp19
              replace hz := hz2.trans hz
              clear hz1 hz2
              rw [hM9] at hH
              refine lv_aload_n E.1 E.2.1 dX9_bestHoist_72 rfl (lv_at hl 3 rfl) ?_
              refine lv_iload_n E.1 E.2.1 dX9_bestHoist_73 rfl (lv_at hl 4 rfl) ?_
              refine fw_cV (As := [.int (iI ↑bp)]) (rest := [.int (iI (↑((T x).2.2.2 i)))]) E hK hH hl hTx.c fc_X8 fL_X8_span ql_RX9_236 qi_yX8_span qv_yX8_span (k_spanG l G _ _ (b + 33 + 10 + 80 * o + 5 * x) (T x) hTx hvx bp (by omega)) rfl rfl (Nat.le_of_ble_eq_true rfl) ⟨Nat.le_of_ble_eq_true rfl, Nat.le_of_ble_eq_true rfl⟩ ⟨Nat.le_of_ble_eq_true rfl, Nat.le_of_ble_eq_true rfl⟩ dX9_bestHoist_74 (fw_ki fun r24 M23 H1 locs1 hp22 hH hz1 => ?_)
              obtain ⟨rfl, hM9, hz2⟩ := hp22
              replace hz := hz2.trans hz
              clear hz1 hz2
              rw [hM9] at hH
              refine fw_icmp_ge (tgt := 87) E dX9_bestHoist_77 (by decide) (by omega) (by omega) (by omega) (by omega) (fun c25 => ?_) (fun c25 => ?_)
              · refine lv_iinc (v := iI (↑i + 1)) (lv' := [(5, .int (iI (↑i + 1))), (6, .int (iI (erT j (T x) i))), (0, .ref b), (1, .int (iI ↑x)), (2, .ref (b + 33 + 10 + 80 * o + 5 * x)), (3, .int (iI ↑bp)), (4, .int (iI be))]) E.1 E.2.1 dX9_bestHoist_87 hl (k := 6) rfl (iI_inc rfl) (by decide) rfl (fun ls hl => ?_)
                refine lv_goto (tgt := 22) E.1 E.2.1 dX9_bestHoist_90 (by decide) ?_
                exact ih22 (i + 1) bp be _ _ _ _ (by omega) (by omega) (by omega) (by first | rfl | exact hbe) (by omega) (by first | exact hb8 | omega) (fun q hq => by rw [fr16 q (by omega)]; exact hfr0 q hq) hH (by omega) hbn hJ75 hK1 hB hQ hS6 hR5 hG hY hX hZ hTx (lv_sub hl [2, 3, 4, 5, 6, 0] rfl)
              · refine lv_iload E.1 E.2.1 dX9_bestHoist_80 (lv_at hl 6 rfl) ?_
                refine lv_istore_n (lv' := [(3, .int (iI ↑i)), (6, .int (iI (erT j (T x) i))), (0, .ref b), (1, .int (iI ↑x)), (2, .ref (b + 33 + 10 + 80 * o + 5 * x)), (4, .int (iI be)), (5, .int (iI ↑i))]) E.1 E.2.1 dX9_bestHoist_82 rfl hl (by decide) rfl (fun ls hl => ?_)
                refine lv_iload E.1 E.2.1 dX9_bestHoist_83 (lv_at hl 1 rfl) ?_
                refine lv_istore (lv' := [(4, .int (iI (erT j (T x) i))), (3, .int (iI ↑i)), (6, .int (iI (erT j (T x) i))), (0, .ref b), (1, .int (iI ↑x)), (2, .ref (b + 33 + 10 + 80 * o + 5 * x)), (5, .int (iI ↑i))]) E.1 E.2.1 dX9_bestHoist_85 hl (by decide) rfl (fun ls hl => ?_)
                refine lv_iinc (v := iI (↑i + 1)) (lv' := [(5, .int (iI (↑i + 1))), (4, .int (iI (erT j (T x) i))), (3, .int (iI ↑i)), (6, .int (iI (erT j (T x) i))), (0, .ref b), (1, .int (iI ↑x)), (2, .ref (b + 33 + 10 + 80 * o + 5 * x))]) E.1 E.2.1 dX9_bestHoist_87 hl (k := 6) rfl (iI_inc rfl) (by decide) rfl (fun ls hl => ?_)
                refine lv_goto (tgt := 22) E.1 E.2.1 dX9_bestHoist_90 (by decide) ?_
                exact ih22 (i + 1) i (erT j (T x) i) _ _ _ _ (by omega) (by omega) (by omega) (by first | rfl | exact hbe) (by omega) (by first | exact hb8 | omega) (fun q hq => by rw [fr16 q (by omega)]; exact hfr0 q hq) hH (by omega) hbn hJ75 hK1 hB hQ hS6 hR5 hG hY hX hZ hTx (lv_sub hl [4, 5, 6, 2, 1, 0] rfl)
  exact loop22_1 ((T x).1 - 1 + 1) 1 0 (erT j (T x) 0) _ _ _ _ (Nat.lt_succ_self _) (by omega) (by omega) rfl (Int.le_refl _) hvx.2.2.1 hfr0 hH (by omega) hbn hJ24 hK1 hB hQ hS6 hR5 hG hY hX hZ hT11 (lv_sub hl [4, 5, 3, 2, 1, 0] rfl)

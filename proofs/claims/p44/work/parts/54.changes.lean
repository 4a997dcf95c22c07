def mcT (t : aT) (p : Nat) (v : Int) : aT := (t.1 - t.2.2.2 p + 1, rpF p (t.2.2.2 p) 1 0 t.2.1 (fun _ => 0), rpF p (t.2.2.2 p) 1 0 t.2.2.1 (fun _ => v), rpS p (t.2.2.2 p) 1 0 t.2.2.2 (fun _ => 1))
theorem mcT_at (t : aT) (p : Nat) (v : Int) : (mcT t p v).2.1 p = 0 ∧ (mcT t p v).2.2.1 p = v := by
  refine ⟨?_, ?_⟩
  · show rpF p (t.2.2.2 p) 1 0 t.2.1 (fun _ => 0) p = 0
    unfold rpF
    rw [if_neg (Nat.lt_irrefl p), if_pos (Nat.lt_succ_self p)]
  · show rpF p (t.2.2.2 p) 1 0 t.2.2.1 (fun _ => v) p = v
    unfold rpF
    rw [if_neg (Nat.lt_irrefl p), if_pos (Nat.lt_succ_self p)]
theorem mcT_ok {t : aT} {p : Nat} {v : Int} (ht : aOK t) (hp : p < t.1) (h8 : t.2.1 p ≤ 8) (hv : -99 ≤ v ∧ v ≤ 99) : aOK (mcT t p v) := by
  obtain ⟨hw, hl⟩ := ht
  obtain ⟨⟨hn0, hn1⟩, hs0, hc0, hsp, hty, hnd⟩ := id hw
  have hpe := sp_le hsp hp
  have hp1 := sp_pos hsp hp
  have hm : t.1 - t.2.2.2 p + 1 ≤ 40 := by omega
  refine ⟨rp_vtOK hw hp (one_vtOK hv) (show 0 < 1 by omega) (by omega) (by show t.1 - t.2.2.2 p + 1 ≤ 40; omega), ?_⟩
  have h1 : htF (fun _ => (0 : Int)) (fun _ => 1) 0 = 1 := by
    rw [htF_eq one_spOK (by omega) (show 0 < 1 by omega)]
    rfl
  have h2 : 1 ≤ htF t.2.1 t.2.2.2 p := by rw [htF_eq hsp hn1 hp]; omega
  have h9 := rp_ht_ahead hsp hp hn1 one_spOK (show 0 < 1 by omega) (by omega) (by show t.1 - t.2.2.2 p + 1 ≤ 40; omega) (by rw [h1]; exact h2) t.1 0 (by omega) (Nat.zero_le _)
  have e1 : lvF t.1 t.2.1 t.2.2.2 = htF t.2.1 t.2.2.2 0 := if_neg (by omega)
  rw [e1] at hl
  show lvF (t.1 - t.2.2.2 p + 1) (rpF p (t.2.2.2 p) 1 0 t.2.1 (fun _ => 0)) (rpS p (t.2.2.2 p) 1 0 t.2.2.2 (fun _ => 1)) ≤ 8
  unfold lvF
  split
  · exact Nat.zero_le _
  · exact Nat.le_trans h9 hl
theorem erT_kp {j : aJ} {t : aT} {q : Nat} (ht : aOK t) (hq : q < t.1) : erT j (kpT t q) 0 = erT j t q := by
  obtain ⟨⟨hn0, hn1⟩, hs0, hc0, hsp, hty, hnd⟩ := id ht.1
  have hqe := sp_le hsp hq
  have hq1 := sp_pos hsp hq
  refine errS_eq (fun k hk => ?_) _ (Nat.le_refl _)
  have h := rp_rc_in (V := t.2.2.1) (V2 := t.2.2.1) (z := (0 : Int)) (evS_ok (casI j.1 j.2.1 j.2.2.1 k)) hsp hn0 hsp hq hn1 (by omega) t.1 q (by omega) (Nat.le_refl _) (by omega)
  rw [Nat.sub_self] at h
  exact h
def setT (T : Nat → aT) (x : Nat) (t : aT) : Nat → aT := fun i => if i = x then t else T i
theorem setT_eq (T : Nat → aT) (x : Nat) (t : aT) : setT T x t x = t := if_pos rfl
theorem setT_ok {cn : Nat} {T : Nat → aT} {x : Nat} {t : aT} (h : ∀ k, k < cn → aOK (T k)) (ht : aOK t) : ∀ k, k < cn → aOK (setT T x t k) := fun k hk => by
  unfold setT
  split
  · exact ht
  · exact h k hk
theorem k_constG (l : Launch) (G : fw_G) (M : fw_M) (N : Nat) (a : Nat) (t : aT) (p : Nat) (v : Int) (hA : aTw G M a t) (ht : vtOK t.1 t.2.1 t.2.2.1 t.2.2.2) (hp : p < t.1) (h8 : t.2.1 p ≤ 8) (hv : -99 ≤ v ∧ v ≤ 99) : fMet l yX8_makeConstant cX8_makeConstant 4 none 2 80 0 0 G M N [.ref a, .int (iI ↑p), .int (iI v)] (fw_pv (fun M1 n1 => aTw G M1 a (mcT t p v) ∧ (∀ q, q < a ∨ a + 5 ≤ q → M1 q = M q) ∧ n1 = N)) := k_makeConstant l G M N a t.1 p v t.2.1 t.2.2.1 t.2.2.2 hA ht hp h8 hv
def sRT (t t1 : aT) : Prop := sR t.1 t.2.1 t.2.2.1 t.2.2.2 t1.1 t1.2.1 t1.2.2.1 t1.2.2.2
theorem sRT_ok {t t1 : aT} (ht : aOK t) (h : sRT t t1) : aOK t1 := by
  obtain ⟨h1, h2, h3, h4⟩ := h
  refine ⟨h1, ?_⟩
  have e1 : lvF t.1 t.2.1 t.2.2.2 = htF t.2.1 t.2.2.2 0 := if_neg (by have := ht.1.1; omega)
  have e2 : lvF t1.1 t1.2.1 t1.2.2.2 = htF t1.2.1 t1.2.2.2 0 := if_neg (by have := h1.1; omega)
  have h5 := ht.2
  rw [e1] at h5
  rw [e2]
  exact Nat.le_trans h3 h5
theorem sRT_er {j : aJ} {t t1 : aT} (h : sRT t t1) : erT j t1 0 = erT j t 0 := errS_eq (fun k _ => h.2.2.2 _) _ (Nat.le_refl _)
theorem sRT_gv {x y z : Int} {t t1 : aT} (h : sRT t t1) : gvT x y z t1 = gvT x y z t := h.2.2.2 _
theorem k_finishG (l : Launch) (G : fw_G) (M : fw_M) (N : Nat) (so a : Nat) (rs : Nat → Int) (t : aT) (hS : siAt G M so (fun _ => 0) rs) (hA : aTw G M a t) (hv : vtOK t.1 t.2.1 t.2.2.1 t.2.2.2) (hsep : so + 4 ≤ a ∨ a + 5 ≤ so) : fMet l yX6_finish cX6_finish 4 none 5 170 0 0 G M N [.ref so, .ref a] (fw_pv (fun M1 n1 => (∃ t1 : aT, aTw G M1 a t1 ∧ sRT t t1) ∧ (∃ rs1 : Nat → Int, siAt G M1 so (fun _ => 0) rs1) ∧ (∀ q, (q < so + 1 ∨ so + 4 ≤ q) ∧ (q < a ∨ a + 5 ≤ q) → M1 q = M q) ∧ n1 = N)) := by
  refine fMet.mv (k_finish l G M N so a t.1 0 rs t.2.1 t.2.2.1 t.2.2.2 hS hA hv hsep) (fun M1 n1 h => ?_)
  obtain ⟨⟨n2, C2, V2, sp2, h1, h2⟩, h3⟩ := h
  exact ⟨⟨(n2, C2, V2, sp2), h1, h2⟩, h3⟩
theorem b_cross (l : Launch) (G : fw_G) (M : fw_M) (N : Nat) (b o cn : Nat) (lk gn mi : Int) (T : Nat → aT) (j : aJ) (ra : aR) (hW : bnR G M b o cn lk gn mi T j ra) (hO : bnO cn lk T j ra) (x p y q : Nat) (hx : x < cn) (hy : y < cn) (hp : p < (T x).1) (hq : q < (T y).1) : fMet l yX9_cross cX9_cross 7 (some .int) 5 180 0 0 G M N [.ref b, .int (iI ↑x), .int (iI ↑p), .int (iI ↑y), .int (iI ↑q)] (fw_pi (fun r M1 n1 => ((r = iI (-1) ∧ ¬ crOK (T x) p (T y) q ∧ bnR G M1 b o cn lk gn mi T j ra) ∨ (r = iI ↑(crT (T x) p (T y) q).1 ∧ crOK (T x) p (T y) q ∧ bnR G M1 b o cn lk gn mi (setT T x (crT (T x) p (T y) q)) j ra)) ∧ (∀ q, q < b + 9 ∨ b + 378 ≤ q → M1 q = M q) ∧ n1 = N)) := by
  refine fw_met RX9 rfl (by decide +kernel) (Nat.le_of_ble_eq_true rfl) ?_
  intro pG e s m args below meth cG ls E hr hlk hnm hK hH hz hl
  obtain ⟨hbn, hJ, hK1, hB, hQ, ⟨rs6, hS6⟩, ⟨ip5, rs5, hR5⟩, hG, hY, hX, hZ⟩ := hW
  obtain ⟨hj, hr9, hlu, hTk⟩ := hO
  obtain ⟨hgb, ho1, hcn⟩ := hG.o1
  have hox := hTk x hx
  have hvx := hox.1
  have hv1 := hvx.1
  have hoy := hTk y hy
  have hvy := hoy.1
  have hv2 := hvy.1
  refine lv_aload_n E.1 E.2.1 dX9_cross_0 rfl (lv_at hl 0 rfl) ?_
  refine lv_iload_n E.1 E.2.1 dX9_cross_1 rfl (lv_at hl 1 rfl) ?_
  refine lv_iload_n E.1 E.2.1 dX9_cross_2 rfl (lv_at hl 2 rfl) ?_
  refine fw_cV (As := [.int (iI ↑x), .int (iI ↑p)]) (rest := []) E hK hH hl hbn.2 fc_X9 fL_X9_requirePlace ql_RX9_141 qi_yX9_requirePlace qv_yX9_requirePlace (k_reqPlace l G _ _ b o cn lk gn mi T hbn hG x p (by omega) (by omega) (by omega)) rfl rfl (Nat.le_of_ble_eq_true rfl) ⟨Nat.le_of_ble_eq_true rfl, Nat.le_of_ble_eq_true rfl⟩ ⟨Nat.le_of_ble_eq_true rfl, Nat.le_of_ble_eq_true rfl⟩ dX9_cross_3 (fw_kr fun r3 M2 H1 locs1 hp1 hH hz1 => ?_)
  obtain ⟨rfl, hM9, hz2⟩ := hp1
  have hT15 := hG.tr (j := x) (by omega)
  replace hz := hz2.trans hz
  clear hz1 hz2
  rw [hM9] at hH
  refine lv_astore (lv' := [(5, .ref (b + 33 + 10 + 80 * o + 5 * x)), (0, .ref b), (1, .int (iI ↑x)), (2, .int (iI ↑p)), (3, .int (iI ↑y)), (4, .int (iI ↑q))]) E.1 E.2.1 dX9_cross_6 hl (by decide) rfl (fun ls hl => ?_)
  refine lv_aload_n E.1 E.2.1 dX9_cross_8 rfl (lv_at hl 1 rfl) ?_
  refine lv_iload_n E.1 E.2.1 dX9_cross_9 rfl (lv_at hl 4 rfl) ?_
  refine lv_iload E.1 E.2.1 dX9_cross_10 (lv_at hl 5 rfl) ?_
  refine fw_cV (As := [.int (iI ↑y), .int (iI ↑q)]) (rest := []) E hK hH hl hbn.2 fc_X9 fL_X9_requirePlace ql_RX9_141 qi_yX9_requirePlace qv_yX9_requirePlace (k_reqPlace l G _ _ b o cn lk gn mi T hbn hG y q (by omega) (by omega) (by omega)) rfl rfl (Nat.le_of_ble_eq_true rfl) ⟨Nat.le_of_ble_eq_true rfl, Nat.le_of_ble_eq_true rfl⟩ ⟨Nat.le_of_ble_eq_true rfl, Nat.le_of_ble_eq_true rfl⟩ dX9_cross_12 (fw_kr fun r6 M5 H1 locs1 hp4 hH hz1 => ?_)
  obtain ⟨rfl, hM9, hz2⟩ := hp4
  have hT25 := hG.tr (j := y) (by omega)
  replace hz := hz2.trans hz
  clear hz1 hz2
  rw [hM9] at hH
  refine lv_astore (lv' := [(6, .ref (b + 33 + 10 + 80 * o + 5 * y)), (5, .ref (b + 33 + 10 + 80 * o + 5 * x)), (0, .ref b), (1, .int (iI ↑x)), (2, .int (iI ↑p)), (3, .int (iI ↑y)), (4, .int (iI ↑q))]) E.1 E.2.1 dX9_cross_15 hl (by decide) rfl (fun ls hl => ?_)
  refine lv_aload_n E.1 E.2.1 dX9_cross_17 rfl (lv_at hl 2 rfl) ?_
  refine fw_get E hK hH hbn.2 fc_X9 8 (by decide) ql_RX9_64 rfl rfl dX9_cross_18 ?_
  refine lv_aload E.1 E.2.1 dX9_cross_21 (lv_at hl 1 rfl) ?_
  refine lv_iload_n E.1 E.2.1 dX9_cross_23 rfl (lv_at hl 4 rfl) ?_
  refine lv_aload E.1 E.2.1 dX9_cross_24 (lv_at hl 0 rfl) ?_
  refine lv_iload E.1 E.2.1 dX9_cross_26 (lv_at hl 6 rfl) ?_
  obtain ⟨_, _, _, _, ua38, ub38, hob38, _⟩ := id hZ
  refine fw_cV (As := [.ref (b + 33 + 10 + 80 * o + 5 * x), .int (iI ↑p), .ref (b + 33 + 10 + 80 * o + 5 * y), .int (iI ↑q)]) (rest := []) E hK hH hl hob38.2.1 fc_X8 fL_X8_becomeCrossed ql_RX9_145 qi_yX8_becomeCrossed qv_yX8_becomeCrossed (k_crossG l G _ _ (b + 373) (b + 33 + 10 + 80 * o + 5 * x) (b + 33 + 10 + 80 * o + 5 * y) (T x) (T y) p q hZ hT15 hT25 hvx hvy (by omega) (by omega) (by omega) (by omega)) rfl rfl (Nat.le_of_ble_eq_true rfl) ⟨Nat.le_of_ble_eq_true rfl, Nat.le_of_ble_eq_true rfl⟩ ⟨Nat.le_of_ble_eq_true rfl, Nat.le_of_ble_eq_true rfl⟩ dX9_cross_28 (fw_ki fun r9 M8 H1 locs1 hp7 hH hz1 => ?_)
  obtain ⟨b38, rfl, hcr, hfr, hz2⟩ := hp7
  have hb38 : b38 = 0 ∨ b38 = 1 := hcr.elim (fun h => Or.inr h.1) (fun h => Or.inl h.1)
  replace hz := hz2.trans hz
  clear hz1 hz2
  have fr10 := hfr
  replace hbn := bnAt.fr hbn (fun q h1 h2 => fr10 q (by omega))
  replace hJ := jW.fr hJ (fun q h1 h2 => fr10 q (by omega))
  replace hK1 := rnW.fr hK1 (fun q h1 h2 => fr10 q (by omega))
  replace hB := brW.fr hB (fun q h1 h2 => fr10 q (by omega))
  replace hQ := rnW.fr hQ (fun q h1 h2 => fr10 q (by omega))
  replace hS6 := siAt.fr hS6 (fun q h1 h2 => fr10 q (by omega))
  replace hR5 := rkAt.fr hR5 (fun q h1 h2 => fr10 q (by omega))
  replace hG := gcW.fr hG (fun q h1 h2 => fr10 q (by omega))
  replace hY := gyW.fr hY (fun q h1 h2 => fr10 q (by omega))
  replace hX := gvX.fr hX (fun q h1 h2 => fr10 q (by omega))
  replace hT15 := aTw.fr hT15 (fun q h1 h2 => fr10 q (by omega))
  replace hT25 := aTw.fr hT25 (fun q h1 h2 => fr10 q (by omega))
  refine fw_if_ne (tgt := 36) E dX9_cross_31 (by decide) (by omega) (by omega) (fun c11 => ?_) (fun c11 => ?_)
  · obtain ⟨hk9, hCy⟩ : crOK (T x) p (T y) q ∧ aTw G M8 (b + 373) (crT (T x) p (T y) q) := hcr.elim (fun h => h.2) (fun h => absurd h.1 (by omega))
    have hvo := crT_ok hox hoy hp hq hk9
    have hvc := hvo.1
    have hvn := hvc.1
    refine lv_aload E.1 E.2.1 dX9_cross_36 (lv_at hl 1 rfl) ?_
    refine lv_aload_n E.1 E.2.1 dX9_cross_38 rfl (lv_at hl 2 rfl) ?_
    refine fw_get E hK hH hbn.2 fc_X9 8 (by decide) ql_RX9_64 rfl rfl dX9_cross_39 ?_
    refine fw_cV (As := [.ref (b + 373)]) (rest := []) E hK hH hl hT15.c fc_X8 fL_X8_copyFrom ql_RX9_149 qi_yX8_copyFrom qv_yX8_copyFrom (k_copyG l G _ _ (b + 33 + 10 + 80 * o + 5 * x) (b + 373) (crT (T x) p (T y) q) hT15.any hCy hvc (by omega)) rfl rfl (Nat.le_of_ble_eq_true rfl) ⟨Nat.le_of_ble_eq_true rfl, Nat.le_of_ble_eq_true rfl⟩ ⟨Nat.le_of_ble_eq_true rfl, Nat.le_of_ble_eq_true rfl⟩ dX9_cross_42 (fw_kv fun M13 H1 locs1 hp12 hH hz1 => ?_)
    obtain ⟨hC65, hfr, hz2⟩ := hp12
    have hG65 : gcW G M13 (b + 33) o lk cn gn mi (setT T x (crT (T x) p (T y) q)) := hG.set hx hC65 (fun q q1 q2 => hfr q (by omega))
    replace hz := hz2.trans hz
    clear hz1 hz2
    have fr14 := hfr
    replace hbn := bnAt.fr hbn (fun q h1 h2 => fr14 q (by omega))
    replace hJ := jW.fr hJ (fun q h1 h2 => fr14 q (by omega))
    replace hK1 := rnW.fr hK1 (fun q h1 h2 => fr14 q (by omega))
    replace hB := brW.fr hB (fun q h1 h2 => fr14 q (by omega))
    replace hQ := rnW.fr hQ (fun q h1 h2 => fr14 q (by omega))
    replace hS6 := siAt.fr hS6 (fun q h1 h2 => fr14 q (by omega))
    replace hR5 := rkAt.fr hR5 (fun q h1 h2 => fr14 q (by omega))
    replace hY := gyW.fr hY (fun q h1 h2 => fr14 q (by omega))
    replace hX := gvX.fr hX (fun q h1 h2 => fr14 q (by omega))
    replace hCy := aTw.fr hCy (fun q h1 h2 => fr14 q (by omega))
    refine lv_aload E.1 E.2.1 dX9_cross_45 (lv_at hl 1 rfl) ?_
    refine fw_getN E hK hH hC65.c fc_X8 4 (by decide) ql_RX9_93 rfl rfl dX9_cross_47 ?_
    refine fw_iret E hr hlk hH ?_ dX9_cross_50
    exact ⟨Or.inr ⟨rfl, hk9, ⟨hbn, hJ, hK1, hB, hQ, ⟨_, hS6⟩, ⟨_, _, hR5⟩, hG65, hY.z, hX, hCy.any⟩⟩, (fun q hq => by rw [fr14 q (by omega), fr10 q (by omega)]), hz⟩
  · obtain ⟨hk9, hCn⟩ : ¬ crOK (T x) p (T y) q ∧ tany G M8 (b + 373) := hcr.elim (fun h => absurd h.1 (by omega)) (fun h => h.2)
    refine lv_iconst (v := iI (-1)) E.1 E.2.1 dX9_cross_34 (by decide) ?_
    refine fw_iret E hr hlk hH ?_ dX9_cross_35
    exact ⟨Or.inl ⟨rfl, hk9, ⟨hbn, hJ, hK1, hB, hQ, ⟨_, hS6⟩, ⟨_, _, hR5⟩, hG, hY.z, hX, hCn⟩⟩, (fun q hq => by rw [fr10 q (by omega)]), hz⟩
theorem b_hoist (l : Launch) (G : fw_G) (M : fw_M) (N : Nat) (b o cn : Nat) (lk gn mi : Int) (T : Nat → aT) (j : aJ) (ra : aR) (hW : bnR G M b o cn lk gn mi T j ra) (hO : bnO cn lk T j ra) (x : Nat) (hx : x < cn) (p : Nat) (hp : p < (T x).1) (h8 : (T x).2.1 p ≤ 8) : fMet l yX9_hoist cX9_hoist 4 (some .int) 4 150 0 0 G M N [.ref b, .int (iI ↑x), .int (iI ↑p)] (fw_pi (fun r M1 n1 => (r = iI ↑(kpT (T x) p).1 ∧ bnR G M1 b o cn lk gn mi (setT T x (kpT (T x) p)) j ra) ∧ (∀ q, q < b + 9 ∨ b + 378 ≤ q → M1 q = M q) ∧ n1 = N)) := by
  refine fw_met RX9 rfl (by decide +kernel) (Nat.le_of_ble_eq_true rfl) ?_
  intro pG e s m args below meth cG ls E hr hlk hnm hK hH hz hl
  obtain ⟨hbn, hJ, hK1, hB, hQ, ⟨rs6, hS6⟩, ⟨ip5, rs5, hR5⟩, hG, hY, hX, hZ⟩ := hW
  obtain ⟨hj, hr9, hlu, hTk⟩ := hO
  obtain ⟨hgb, ho1, hcn⟩ := hG.o1
  have hox := hTk x hx
  have hvx := (hTk x hx).1
  have hv1 := hvx.1
  have hkn := (kpT_ok hox hp h8).1.1
  refine lv_aload_n E.1 E.2.1 dX9_hoist_0 rfl (lv_at hl 0 rfl) ?_
  refine lv_iload_n E.1 E.2.1 dX9_hoist_1 rfl (lv_at hl 1 rfl) ?_
  refine lv_iload_n E.1 E.2.1 dX9_hoist_2 rfl (lv_at hl 2 rfl) ?_
  refine fw_cV (As := [.int (iI ↑x), .int (iI ↑p)]) (rest := []) E hK hH hl hbn.2 fc_X9 fL_X9_requirePlace ql_RX9_141 qi_yX9_requirePlace qv_yX9_requirePlace (k_reqPlace l G _ _ b o cn lk gn mi T hbn hG x p (by omega) (by omega) (by omega)) rfl rfl (Nat.le_of_ble_eq_true rfl) ⟨Nat.le_of_ble_eq_true rfl, Nat.le_of_ble_eq_true rfl⟩ ⟨Nat.le_of_ble_eq_true rfl, Nat.le_of_ble_eq_true rfl⟩ dX9_hoist_3 (fw_kr fun r3 M2 H1 locs1 hp1 hH hz1 => ?_)
  obtain ⟨rfl, hM9, hz2⟩ := hp1
  have hT13 := hG.tr (j := x) (by omega)
  replace hz := hz2.trans hz
  clear hz1 hz2
  rw [hM9] at hH
  refine lv_astore_n (lv' := [(3, .ref (b + 33 + 10 + 80 * o + 5 * x)), (0, .ref b), (1, .int (iI ↑x)), (2, .int (iI ↑p))]) E.1 E.2.1 dX9_hoist_6 rfl hl (by decide) rfl (fun ls hl => ?_)
  refine lv_aload_n E.1 E.2.1 dX9_hoist_7 rfl (lv_at hl 0 rfl) ?_
  refine lv_iload_n E.1 E.2.1 dX9_hoist_8 rfl (lv_at hl 3 rfl) ?_
  refine fw_cV (As := [.int (iI ↑p)]) (rest := []) E hK hH hl hT13.c fc_X8 fL_X8_isNumber ql_RX9_152 qi_yX8_isNumber qv_yX8_isNumber (k_isNumberG l G _ _ (b + 33 + 10 + 80 * o + 5 * x) (T x) hT13 hvx p (by omega)) rfl rfl (Nat.le_of_ble_eq_true rfl) ⟨Nat.le_of_ble_eq_true rfl, Nat.le_of_ble_eq_true rfl⟩ ⟨Nat.le_of_ble_eq_true rfl, Nat.le_of_ble_eq_true rfl⟩ dX9_hoist_9 (fw_ki fun r6 M5 H1 locs1 hp4 hH hz1 => ?_)
  obtain ⟨rfl, hM9, hz2⟩ := hp4
  have hnm22 := numI_cases ((T x).2.1 p)
  replace hz := hz2.trans hz
  clear hz1 hz2
  rw [hM9] at hH
  refine fw_if_ne (tgt := 17) E dX9_hoist_12 (by decide) (by omega) (by omega) (fun c7 => ?_) (fun c7 => ?_)
  · refine lv_aload_n E.1 E.2.1 dX9_hoist_17 rfl (lv_at hl 0 rfl) ?_
    refine lv_iconst (v := iI 0) E.1 E.2.1 dX9_hoist_18 (by decide) ?_
    refine lv_iload_n E.1 E.2.1 dX9_hoist_19 rfl (lv_at hl 3 rfl) ?_
    refine fw_cV (As := [.int (iI 0), .int (iI ↑p)]) (rest := []) E hK hH hl hT13.c fc_X8 fL_X8_keepPart ql_RX9_155 qi_yX8_keepPart qv_yX8_keepPart (k_keepG l G _ _ (b + 33 + 10 + 80 * o + 5 * x) (T x) p hT13 hvx (by omega) (by omega)) rfl rfl (Nat.le_of_ble_eq_true rfl) ⟨Nat.le_of_ble_eq_true rfl, Nat.le_of_ble_eq_true rfl⟩ ⟨Nat.le_of_ble_eq_true rfl, Nat.le_of_ble_eq_true rfl⟩ dX9_hoist_20 (fw_kv fun M9 H1 locs1 hp8 hH hz1 => ?_)
    obtain ⟨hC32, hfr, hz2⟩ := hp8
    have hG32 : gcW G M9 (b + 33) o lk cn gn mi (setT T x (kpT (T x) p)) := hG.set hx hC32 (fun q q1 q2 => hfr q (by omega))
    replace hz := hz2.trans hz
    clear hz1 hz2
    have fr10 := hfr
    replace hbn := bnAt.fr hbn (fun q h1 h2 => fr10 q (by omega))
    replace hJ := jW.fr hJ (fun q h1 h2 => fr10 q (by omega))
    replace hK1 := rnW.fr hK1 (fun q h1 h2 => fr10 q (by omega))
    replace hB := brW.fr hB (fun q h1 h2 => fr10 q (by omega))
    replace hQ := rnW.fr hQ (fun q h1 h2 => fr10 q (by omega))
    replace hS6 := siAt.fr hS6 (fun q h1 h2 => fr10 q (by omega))
    replace hR5 := rkAt.fr hR5 (fun q h1 h2 => fr10 q (by omega))
    replace hY := gyW.fr hY (fun q h1 h2 => fr10 q (by omega))
    replace hX := gvX.fr hX (fun q h1 h2 => fr10 q (by omega))
    replace hZ := tany.fr hZ (fun q h1 h2 => fr10 q (by omega))
    refine lv_aload_n E.1 E.2.1 dX9_hoist_23 rfl (lv_at hl 0 rfl) ?_
    refine fw_getN E hK hH hC32.c fc_X8 4 (by decide) ql_RX9_93 rfl rfl dX9_hoist_24 ?_
    refine fw_iret E hr hlk hH ?_ dX9_hoist_27
    exact ⟨⟨rfl, ⟨hbn, hJ, hK1, hB, hQ, ⟨_, hS6⟩, ⟨_, _, hR5⟩, hG32, hY.z, hX, hZ⟩⟩, (fun q hq => by rw [fr10 q (by omega)]), hz⟩
  · exact absurd c7 (by omega)
theorem b_wither (l : Launch) (G : fw_G) (M : fw_M) (N : Nat) (b o cn : Nat) (lk gn mi : Int) (T : Nat → aT) (j : aJ) (ra : aR) (hW : bnR G M b o cn lk gn mi T j ra) (hO : bnO cn lk T j ra) (x : Nat) (hx : x < cn) (p : Nat) (v : Int) (hp : p < (T x).1) (hv9 : -99 ≤ v ∧ v ≤ 99) : fMet l yX9_wither cX9_wither 5 (some .int) 4 150 0 0 G M N [.ref b, .int (iI ↑x), .int (iI ↑p), .int (iI v)] (fw_pi (fun r M1 n1 => ((r = iI (-1) ∧ bnR G M1 b o cn lk gn mi T j ra) ∨ ((T x).2.1 p ≤ 8 ∧ r = iI ↑(mcT (T x) p v).1 ∧ bnR G M1 b o cn lk gn mi (setT T x (mcT (T x) p v)) j ra)) ∧ (∀ q, q < b + 9 ∨ b + 378 ≤ q → M1 q = M q) ∧ n1 = N)) := by
  refine fw_met RX9 rfl (by decide +kernel) (Nat.le_of_ble_eq_true rfl) ?_
  intro pG e s m args below meth cG ls E hr hlk hnm hK hH hz hl
  obtain ⟨hbn, hJ, hK1, hB, hQ, ⟨rs6, hS6⟩, ⟨ip5, rs5, hR5⟩, hG, hY, hX, hZ⟩ := hW
  obtain ⟨hj, hr9, hlu, hTk⟩ := hO
  obtain ⟨hgb, ho1, hcn⟩ := hG.o1
  have hox := hTk x hx
  have hvx := (hTk x hx).1
  have hv1 := hvx.1
  refine lv_aload_n E.1 E.2.1 dX9_wither_0 rfl (lv_at hl 0 rfl) ?_
  refine lv_iload_n E.1 E.2.1 dX9_wither_1 rfl (lv_at hl 1 rfl) ?_
  refine lv_iload_n E.1 E.2.1 dX9_wither_2 rfl (lv_at hl 2 rfl) ?_
  refine fw_cV (As := [.int (iI ↑x), .int (iI ↑p)]) (rest := []) E hK hH hl hbn.2 fc_X9 fL_X9_requirePlace ql_RX9_141 qi_yX9_requirePlace qv_yX9_requirePlace (k_reqPlace l G _ _ b o cn lk gn mi T hbn hG x p (by omega) (by omega) (by omega)) rfl rfl (Nat.le_of_ble_eq_true rfl) ⟨Nat.le_of_ble_eq_true rfl, Nat.le_of_ble_eq_true rfl⟩ ⟨Nat.le_of_ble_eq_true rfl, Nat.le_of_ble_eq_true rfl⟩ dX9_wither_3 (fw_kr fun r3 M2 H1 locs1 hp1 hH hz1 => ?_)
  obtain ⟨rfl, hM9, hz2⟩ := hp1
  have hT12 := hG.tr (j := x) (by omega)
  replace hz := hz2.trans hz
  clear hz1 hz2
  rw [hM9] at hH
  refine lv_astore (lv' := [(4, .ref (b + 33 + 10 + 80 * o + 5 * x)), (0, .ref b), (1, .int (iI ↑x)), (2, .int (iI ↑p)), (3, .int (iI v))]) E.1 E.2.1 dX9_wither_6 hl (by decide) rfl (fun ls hl => ?_)
  refine lv_iload_n E.1 E.2.1 dX9_wither_8 rfl (lv_at hl 4 rfl) ?_
  refine lv_bipush (v := iI (-99)) E.1 E.2.1 dX9_wither_9 (by decide) ?_
  refine fw_icmp_lt (tgt := 20) E dX9_wither_11 (by decide) (by omega) (by omega) (by omega) (by omega) (fun c4 => ?_) (fun c4 => ?_)
  · exfalso; omega
  · refine lv_iload_n E.1 E.2.1 dX9_wither_14 rfl (lv_at hl 4 rfl) ?_
    refine lv_bipush (v := iI 99) E.1 E.2.1 dX9_wither_15 (by decide) ?_
    refine fw_icmp_le (tgt := 30) E dX9_wither_17 (by decide) (by omega) (by omega) (by omega) (by omega) (fun c5 => ?_) (fun c5 => ?_)
    · refine lv_aload E.1 E.2.1 dX9_wither_30 (lv_at hl 0 rfl) ?_
      refine lv_iload_n E.1 E.2.1 dX9_wither_32 rfl (lv_at hl 3 rfl) ?_
      refine fw_cV (As := [.int (iI ↑p)]) (rest := []) E hK hH hl hT12.c fc_X8 fL_X8_isNumber ql_RX9_152 qi_yX8_isNumber qv_yX8_isNumber (k_isNumberG l G _ _ (b + 33 + 10 + 80 * o + 5 * x) (T x) hT12 hvx p (by omega)) rfl rfl (Nat.le_of_ble_eq_true rfl) ⟨Nat.le_of_ble_eq_true rfl, Nat.le_of_ble_eq_true rfl⟩ ⟨Nat.le_of_ble_eq_true rfl, Nat.le_of_ble_eq_true rfl⟩ dX9_wither_33 (fw_ki fun r8 M7 H1 locs1 hp6 hH hz1 => ?_)
      obtain ⟨rfl, hM9, hz2⟩ := hp6
      have hnm28 := numI_cases ((T x).2.1 p)
      replace hz := hz2.trans hz
      clear hz1 hz2
      rw [hM9] at hH
      refine fw_if_ne (tgt := 41) E dX9_wither_36 (by decide) (by omega) (by omega) (fun c9 => ?_) (fun c9 => ?_)
      · have hmo := (mcT_ok hox hp (by omega) hv9).1.1
        refine lv_aload E.1 E.2.1 dX9_wither_41 (lv_at hl 0 rfl) ?_
        refine lv_iload_n E.1 E.2.1 dX9_wither_43 rfl (lv_at hl 3 rfl) ?_
        refine lv_iload_n E.1 E.2.1 dX9_wither_44 rfl (lv_at hl 4 rfl) ?_
        refine fw_cV (As := [.int (iI ↑p), .int (iI v)]) (rest := []) E hK hH hl hT12.c fc_X8 fL_X8_makeConstant ql_RX9_175 qi_yX8_makeConstant qv_yX8_makeConstant (k_constG l G _ _ (b + 33 + 10 + 80 * o + 5 * x) (T x) p v hT12 hvx (by omega) (by omega) (by omega)) rfl rfl (Nat.le_of_ble_eq_true rfl) ⟨Nat.le_of_ble_eq_true rfl, Nat.le_of_ble_eq_true rfl⟩ ⟨Nat.le_of_ble_eq_true rfl, Nat.le_of_ble_eq_true rfl⟩ dX9_wither_45 (fw_kv fun M11 H1 locs1 hp10 hH hz1 => ?_)
        obtain ⟨hC39, hfr, hz2⟩ := hp10
        have hG39 : gcW G M11 (b + 33) o lk cn gn mi (setT T x (mcT (T x) p v)) := hG.set hx hC39 (fun q q1 q2 => hfr q (by omega))
        replace hz := hz2.trans hz
        clear hz1 hz2
        have fr12 := hfr
        replace hbn := bnAt.fr hbn (fun q h1 h2 => fr12 q (by omega))
        replace hJ := jW.fr hJ (fun q h1 h2 => fr12 q (by omega))
        replace hK1 := rnW.fr hK1 (fun q h1 h2 => fr12 q (by omega))
        replace hB := brW.fr hB (fun q h1 h2 => fr12 q (by omega))
        replace hQ := rnW.fr hQ (fun q h1 h2 => fr12 q (by omega))
        replace hS6 := siAt.fr hS6 (fun q h1 h2 => fr12 q (by omega))
        replace hR5 := rkAt.fr hR5 (fun q h1 h2 => fr12 q (by omega))
        replace hY := gyW.fr hY (fun q h1 h2 => fr12 q (by omega))
        replace hX := gvX.fr hX (fun q h1 h2 => fr12 q (by omega))
        replace hZ := tany.fr hZ (fun q h1 h2 => fr12 q (by omega))
        refine lv_aload E.1 E.2.1 dX9_wither_48 (lv_at hl 0 rfl) ?_
        refine fw_getN E hK hH hC39.c fc_X8 4 (by decide) ql_RX9_93 rfl rfl dX9_wither_50 ?_
        refine fw_iret E hr hlk hH ?_ dX9_wither_53
        exact ⟨Or.inr ⟨by omega, rfl, ⟨hbn, hJ, hK1, hB, hQ, ⟨_, hS6⟩, ⟨_, _, hR5⟩, hG39, hY.z, hX, hZ⟩⟩, (fun q hq => by rw [fr12 q (by omega)]), hz⟩
      · refine lv_iconst (v := iI (-1)) E.1 E.2.1 dX9_wither_39 (by decide) ?_
        refine fw_iret E hr hlk hH ?_ dX9_wither_40
        exact ⟨Or.inl ⟨rfl, ⟨hbn, hJ, hK1, hB, hQ, ⟨_, hS6⟩, ⟨_, _, hR5⟩, hG, hY.z, hX, hZ⟩⟩, (fun _ _ => rfl), hz⟩
    · exfalso; omega
theorem b_simplify (l : Launch) (G : fw_G) (M : fw_M) (N : Nat) (b o cn : Nat) (lk gn mi : Int) (T : Nat → aT) (j : aJ) (ra : aR) (hW : bnR G M b o cn lk gn mi T j ra) (hO : bnO cn lk T j ra) (x : Nat) (hx : x < cn) : fMet l yX9_simplify cX9_simplify 4 (some .int) 6 220 0 0 G M N [.ref b, .int (iI ↑x)] (fw_pi (fun r M1 n1 => (∃ t1 : aT, sRT (T x) t1 ∧ r = iI (↑(T x).1 - ↑t1.1) ∧ bnR G M1 b o cn lk gn mi (setT T x t1) j ra) ∧ (∀ q, q < b + 9 ∨ b + 378 ≤ q → M1 q = M q) ∧ n1 = N)) := by
  refine fw_met RX9 rfl (by decide +kernel) (Nat.le_of_ble_eq_true rfl) ?_
  intro pG e s m args below meth cG ls E hr hlk hnm hK hH hz hl
  obtain ⟨hbn, hJ, hK1, hB, hQ, ⟨rs6, hS6⟩, ⟨ip5, rs5, hR5⟩, hG, hY, hX, hZ⟩ := hW
  obtain ⟨hj, hr9, hlu, hTk⟩ := hO
  obtain ⟨hgb, ho1, hcn⟩ := hG.o1
  have hox := hTk x hx
  have hvx := (hTk x hx).1
  have hv1 := hvx.1
  refine lv_aload_n E.1 E.2.1 dX9_simplify_0 rfl (lv_at hl 0 rfl) ?_
  refine lv_iload_n E.1 E.2.1 dX9_simplify_1 rfl (lv_at hl 1 rfl) ?_
  refine fw_cV (As := [.int (iI ↑x)]) (rest := []) E hK hH hl hbn.2 fc_X9 fL_X9_requireTree ql_RX9_108 qi_yX9_requireTree qv_yX9_requireTree (k_reqTree l G _ _ b o cn lk gn mi T hbn hG x (by omega)) rfl rfl (Nat.le_of_ble_eq_true rfl) ⟨Nat.le_of_ble_eq_true rfl, Nat.le_of_ble_eq_true rfl⟩ ⟨Nat.le_of_ble_eq_true rfl, Nat.le_of_ble_eq_true rfl⟩ dX9_simplify_2 (fw_kr fun r3 M2 H1 locs1 hp1 hH hz1 => ?_)
  obtain ⟨rfl, hM9, hz2⟩ := hp1
  have hT11 := hG.tr (j := x) (by omega)
  replace hz := hz2.trans hz
  clear hz1 hz2
  rw [hM9] at hH
  refine lv_astore_n (lv' := [(2, .ref (b + 33 + 10 + 80 * o + 5 * x)), (0, .ref b), (1, .int (iI ↑x))]) E.1 E.2.1 dX9_simplify_5 rfl hl (by decide) rfl (fun ls hl => ?_)
  refine lv_aload_n E.1 E.2.1 dX9_simplify_6 rfl (lv_at hl 0 rfl) ?_
  refine fw_getN E hK hH hT11.c fc_X8 4 (by decide) ql_RX9_93 rfl rfl dX9_simplify_7 ?_
  refine lv_istore_n (lv' := [(3, .int (iI (↑(T x).1))), (2, .ref (b + 33 + 10 + 80 * o + 5 * x)), (0, .ref b), (1, .int (iI ↑x))]) E.1 E.2.1 dX9_simplify_10 rfl hl (by decide) rfl (fun ls hl => ?_)
  refine lv_aload_n E.1 E.2.1 dX9_simplify_11 rfl (lv_at hl 2 rfl) ?_
  refine fw_get E hK hH hbn.2 fc_X9 4 (by decide) ql_RX9_40 rfl rfl dX9_simplify_12 ?_
  refine lv_aload_n E.1 E.2.1 dX9_simplify_15 rfl (lv_at hl 1 rfl) ?_
  refine fw_cV (As := [.ref (b + 33 + 10 + 80 * o + 5 * x)]) (rest := []) E hK hH hl hS6.2.1 fc_X6 fL_X6_finish ql_RX9_178 qi_yX6_finish qv_yX6_finish (k_finishG l G _ _ (b + 26) (b + 33 + 10 + 80 * o + 5 * x) rs6 (T x) hS6 hT11 hvx (by omega)) rfl rfl (Nat.le_of_ble_eq_true rfl) ⟨Nat.le_of_ble_eq_true rfl, Nat.le_of_ble_eq_true rfl⟩ ⟨Nat.le_of_ble_eq_true rfl, Nat.le_of_ble_eq_true rfl⟩ dX9_simplify_16 (fw_kv fun M5 H1 locs1 hp4 hH hz1 => ?_)
  obtain ⟨⟨t1, hC24, hsr⟩, ⟨rs24, hS24⟩, hfr, hz2⟩ := hp4
  have hl1 := (sRT_ok hox hsr).1.1
  have hG24 : gcW G M5 (b + 33) o lk cn gn mi (setT T x t1) := hG.set hx hC24 (fun q q1 q2 => hfr q (by omega))
  replace hz := hz2.trans hz
  clear hz1 hz2
  have fr6 := hfr
  replace hbn := bnAt.fr hbn (fun q h1 h2 => fr6 q (by omega))
  replace hJ := jW.fr hJ (fun q h1 h2 => fr6 q (by omega))
  replace hK1 := rnW.fr hK1 (fun q h1 h2 => fr6 q (by omega))
  replace hB := brW.fr hB (fun q h1 h2 => fr6 q (by omega))
  replace hQ := rnW.fr hQ (fun q h1 h2 => fr6 q (by omega))
  replace hR5 := rkAt.fr hR5 (fun q h1 h2 => fr6 q (by omega))
  replace hY := gyW.fr hY (fun q h1 h2 => fr6 q (by omega))
  replace hX := gvX.fr hX (fun q h1 h2 => fr6 q (by omega))
  replace hZ := tany.fr hZ (fun q h1 h2 => fr6 q (by omega))
  refine lv_iload_n E.1 E.2.1 dX9_simplify_19 rfl (lv_at hl 0 rfl) ?_
  refine lv_aload_n E.1 E.2.1 dX9_simplify_20 rfl (lv_at hl 1 rfl) ?_
  refine fw_getN E hK hH hC24.c fc_X8 4 (by decide) ql_RX9_93 rfl rfl dX9_simplify_21 ?_
  refine fw_isub E dX9_simplify_24 ?_
  refine fw_iret E hr hlk hH ?_ dX9_simplify_25
  exact ⟨⟨t1, hsr, rfl, ⟨hbn, hJ, hK1, hB, hQ, ⟨_, hS24⟩, ⟨_, _, hR5⟩, hG24, hY.z, hX, hZ⟩⟩, (fun q hq => by rw [fr6 q (by omega)]), hz⟩

theorem spOK_congr {n : Nat} {C D : Nat → Int} {sp : Nat → Nat} (h : ∀ k, k < n → D k = C k) (hs : spOK n C sp) : spOK n D sp := fun k hk => by
  rw [h k hk]
  exact hs k hk
theorem htF_congr {n : Nat} {C D : Nat → Int} {sp : Nat → Nat} (h : ∀ k, k < n → D k = C k) (hs : spOK n C sp) (hn : n ≤ 40) : ∀ d k, n - k ≤ d → k < n → htF D sp k = htF C sp k := by
  intro d
  induction d with
  | zero => intro k h1 h2; omega
  | succ d ih =>
    intro k h1 h2
    rw [htF_eq hs hn h2, htF_eq (spOK_congr h hs) hn h2, h k h2]
    exact congrArg (fun y => 1 + y) (mxU_congr _ (fun i hi => by
      have h4 := (hs k h2).1 i hi
      have h5 := chP_gt sp k i
      exact ih _ (by omega) h4))
theorem lvF_congr {n : Nat} {C D : Nat → Int} {sp : Nat → Nat} (h : ∀ k, k < n → D k = C k) (hs : spOK n C sp) (hn : n ≤ 40) : lvF n D sp = lvF n C sp := by
  unfold lvF
  by_cases h0 : n = 0
  · rw [if_pos h0, if_pos h0]
  · rw [if_neg h0, if_neg h0]
    exact htF_congr h hs hn (n - 0) 0 (Nat.le_refl _) (by omega)
/-- a TREE of the bench: its object at a holds n nodes -/
def tw (G : fw_G) (M : fw_M) (a n : Nat) (C V : Nat → Int) (sp : Nat → Nat) : Prop := ∃ cs vs ss hs : Nat → Int, trAt G M a cs vs ss hs ↑n ↑(lvF n C sp) ∧ (∀ k, k < n → cs k = C k ∧ vs k = V k ∧ ss k = ↑(sp k)) ∧ ∀ k, 0 ≤ ss k ∧ ss k ≤ 40
theorem tw.fr {G : fw_G} {M M1 : fw_M} {a n : Nat} {C V : Nat → Int} {sp : Nat → Nat} (h : tw G M a n C V sp) (hf : ∀ q, a ≤ q → q < a + 5 → M1 q = M q) : tw G M1 a n C V sp := by
  obtain ⟨cs, vs, ss, hs, h1, h2, h3⟩ := h
  exact ⟨cs, vs, ss, hs, h1.fr hf, h2, h3⟩
/-- a TREE whatever it holds -/
def tany (G : fw_G) (M : fw_M) (a : Nat) : Prop := ∃ (cs vs ss hs : Nat → Int) (n lv : Int), trAt G M a cs vs ss hs n lv ∧ ∀ k, 0 ≤ ss k ∧ ss k ≤ 40
theorem tany.fr {G : fw_G} {M M1 : fw_M} {a : Nat} (h : tany G M a) (hf : ∀ q, a ≤ q → q < a + 5 → M1 q = M q) : tany G M1 a := by
  obtain ⟨cs, vs, ss, hs, n, lv, h1, h2⟩ := h
  exact ⟨cs, vs, ss, hs, n, lv, h1.fr hf, h2⟩
theorem tw.any {G : fw_G} {M : fw_M} {a n : Nat} {C V : Nat → Int} {sp : Nat → Nat} (h : tw G M a n C V sp) : tany G M a := by
  obtain ⟨cs, vs, ss, hs, h1, h2, h3⟩ := h
  exact ⟨cs, vs, ss, hs, _, _, h1, h3⟩
theorem tw_of {G : fw_G} {M : fw_M} {a n : Nat} {C V cs vs ss hs : Nat → Int} {sp : Nat → Nat} (hT : trAt G M a cs vs (msF 0 n sp ss) hs ↑n ↑(lvF n cs sp)) (hsp : spOK n C sp) (hn : n ≤ 40) (hag : ∀ k, k < n → cs k = C k ∧ vs k = V k) (hbd : ∀ k, 0 ≤ ss k ∧ ss k ≤ 40) : tw G M a n C V sp := by
  refine ⟨cs, vs, msF 0 n sp ss, hs, ?_, fun k hk => ⟨(hag k hk).1, (hag k hk).2, msF_in (Nat.zero_le k) hk⟩, fun k => ?_⟩
  · rw [← lvF_congr (fun k hk => (hag k hk).1) hsp hn]; exact hT
  · unfold msF
    by_cases h : 0 ≤ k ∧ k < n
    · rw [if_pos h]
      have := sp_le hsp h.2
      omega
    · rw [if_neg h]; exact hbd k
theorem nd_w {x v : Int} (h : ndOK x v) : (if x ≤ 1 then v else 0) = v := by
  obtain ⟨-, -, -, h4⟩ := h
  split
  · rfl
  · exact (h4 (by omega)).symm
def cgF (s d m : Nat) (f : Nat → Int) : Nat → Int := fun k => if s ≤ k ∧ k < m then f (k + d) else f k
theorem cgF_0 (s d : Nat) (f : Nat → Int) : cgF s d s f = f := by
  funext k
  unfold cgF
  rw [if_neg (by omega)]
theorem cgF_at {s d m k : Nat} {f : Nat → Int} (h : m ≤ k) : cgF s d m f k = f k := by
  unfold cgF
  rw [if_neg (by omega)]
theorem cgF_step {s d i : Nat} (h : s + d ≤ i) (f : Nat → Int) : zup (cgF s d (i - d) f) (i - d) (f i) = cgF s d (i + 1 - d) f := by
  funext k
  unfold cgF zup
  by_cases h1 : k = i - d
  · rw [if_pos h1, if_pos (by omega), show k + d = i by omega]
  · rw [if_neg h1]
    show (if s ≤ k ∧ k < i - d then f (k + d) else f k) = _
    by_cases h2 : s ≤ k ∧ k < i - d
    · rw [if_pos h2, if_pos (by omega)]
    · rw [if_neg h2, if_neg (by omega)]
def kpF (p q i : Nat) (f : Nat → Int) : Nat → Int := fun k => if p ≤ k ∧ k < p + i then f (q + (k - p)) else f k
theorem kpF_0 (p q : Nat) (f : Nat → Int) : kpF p q 0 f = f := by
  funext k
  unfold kpF
  rw [if_neg (by omega)]
theorem kpF_at {p q i : Nat} (h : p ≤ q) (f : Nat → Int) : kpF p q i f (q + i) = f (q + i) := by
  unfold kpF
  rw [if_neg (by omega)]
theorem kpF_step (p q i : Nat) (f : Nat → Int) : zup (kpF p q i f) (p + i) (f (q + i)) = kpF p q (i + 1) f := by
  funext k
  unfold kpF zup
  by_cases h1 : k = p + i
  · rw [if_pos h1, if_pos (by omega), show q + (k - p) = q + i by omega]
  · rw [if_neg h1]
    show (if p ≤ k ∧ k < p + i then f (q + (k - p)) else f k) = _
    by_cases h2 : p ≤ k ∧ k < p + i
    · rw [if_pos h2, if_pos (by omega)]
    · rw [if_neg h2, if_neg (by omega)]
theorem k_copyFrom (l : Launch) (G : fw_G) (M : fw_M) (N : Nat) (a o n : Nat) (C V : Nat → Int) (sp : Nat → Nat) (hA : tany G M a) (hO : tw G M o n C V sp) (hv : vtOK n C V sp) (hao : a + 5 ≤ o ∨ o + 5 ≤ a) : fMet l yX8_copyFrom cX8_copyFrom 2 none 2 80 0 0 G M N [.ref a, .ref o] (fw_pv (fun M1 n1 => tw G M1 a n C V sp ∧ (∀ q, q < a ∨ a + 5 ≤ q → M1 q = M q) ∧ n1 = N)) := by
  refine fw_met RX8 rfl (by decide +kernel) (Nat.le_of_ble_eq_true rfl) ?_
  intro pG e s m args below meth cG ls E hr hlk hnm hK hH hz hl
  obtain ⟨cs, vs, ss, hs, n0, lv, hT, hbd⟩ := hA
  obtain ⟨cs2, vs2, ss2, hs2, hO2, hag, hbd2⟩ := hO
  obtain ⟨⟨hn0, hn1⟩, -, -, hsp, -, hnd⟩ := hv
  obtain ⟨hb9, t0, t1, t2, t3, t4⟩ := hT
  refine lv_aload_n E.1 E.2.1 dX8_copyFrom_0 rfl (lv_at hl 0 rfl) ?_
  refine lv_iconst (v := iI 0) E.1 E.2.1 dX8_copyFrom_1 (by decide) ?_
  refine fw_put E hK hH (by omega) t0 fc_X8 4 (by decide) ql_RX8_41 rfl rfl rfl rfl (Nat.le_of_ble_eq_true rfl) dX8_copyFrom_2 (fun H1 locs1 hH hz1 => ?_)
  replace hz := hz1.trans hz; clear hz1
  obtain ⟨M1, hM2⟩ : ∃ MX, MX = fw_up M a (.inr (8, [.ref (a + 1), .ref (a + 2), .ref (a + 3), .ref (a + 4), .int (iI 0), .int (iI lv)])) := ⟨_, rfl⟩
  replace hH := fw_H.nm hM2 hH
  have fr3 : ∀ q, q ≠ a → M1 q = M q := fun q h => by rw [hM2]; exact fw_up_ne h
  replace hO2 := trAt.fr hO2 (fun q h1 h2 => fr3 q (by omega))
  replace t1 : M1 (a + 1) = some (fI G 40 (fun j0 => iI (cs j0))) := (fr3 _ (by omega)).trans t1
  replace t2 : M1 (a + 2) = some (fI G 40 (fun j0 => iI (vs j0))) := (fr3 _ (by omega)).trans t2
  replace t3 : M1 (a + 3) = some (fI G 40 (fun j0 => iI (ss j0))) := (fr3 _ (by omega)).trans t3
  replace t4 : M1 (a + 4) = some (fI G 40 (fun j0 => iI (hs j0))) := (fr3 _ (by omega)).trans t4
  have t0 : M1 a = some (.inr (8, [.ref (a + 1), .ref (a + 2), .ref (a + 3), .ref (a + 4), .int (iI 0), .int (iI lv)])) := by rw [hM2]; exact fw_up_eq
  have hTp : trAt G M1 a cs vs ss hs 0 lv := ⟨hb9, t0, t1, t2, t3, t4⟩
  refine lv_aload_n E.1 E.2.1 dX8_copyFrom_5 rfl (lv_at hl 0 rfl) ?_
  refine lv_aload_n E.1 E.2.1 dX8_copyFrom_6 rfl (lv_at hl 1 rfl) ?_
  refine lv_iconst (v := iI 0) E.1 E.2.1 dX8_copyFrom_7 (by decide) ?_
  refine lv_aload_n E.1 E.2.1 dX8_copyFrom_8 rfl (lv_at hl 1 rfl) ?_
  refine fw_get E hK hH hO2.2.1 fc_X8 4 (by decide) ql_RX8_41 rfl rfl dX8_copyFrom_9 ?_
  refine fw_cV (As := [.ref o, .int (iI 0), .int (iI ((↑n : Int)))]) (rest := []) E hK hH hl hTp.2.1 fc_X8 fL_X8_appendFrom ql_RX8_63 qi_yX8_appendFrom qv_yX8_appendFrom (k_appendFrom l G _ _ a o cs vs ss hs lv cs2 vs2 ss2 hs2 (↑n : Int) (↑(lvF n C sp) : Int) 0 0 n hTp hO2 (by omega) (by omega) (by omega) (by omega)) rfl rfl (Nat.le_of_ble_eq_true rfl) ⟨Nat.le_of_ble_eq_true rfl, Nat.le_of_ble_eq_true rfl⟩ ⟨Nat.le_of_ble_eq_true rfl, Nat.le_of_ble_eq_true rfl⟩ dX8_copyFrom_12 (fw_kv fun M5 H1 locs1 hp4 hH hz1 => ?_)
  obtain ⟨hT26, hfr, hz2⟩ := hp4
  replace hz := hz2.trans hz
  clear hz1 hz2
  have fr6 := hfr
  replace hO2 := trAt.fr hO2 (fun q h1 h2 => fr6 q (by omega))
  refine lv_aload_n E.1 E.2.1 dX8_copyFrom_15 rfl (lv_at hl 0 rfl) ?_
  refine fw_cV (As := []) (rest := []) E hK hH hl hT26.2.1 fc_X8 fL_X8_measure ql_RX8_67 qi_yX8_measure qv_yX8_measure (k_measure l G _ _ a (apF 0 (n - 0) 0 cs cs2) (apF 0 (n - 0) 0 vs vs2) ss hs lv (0 + (n - 0)) sp hT26 (by omega) (by simp only [Nat.sub_zero, Nat.zero_add]; exact spOK_congr (fun k hk => by have := apF_in (n := 0) (len := n) (s := 0) (f := cs) (g := cs2) hk; simp only [Nat.zero_add] at this; rw [this]; exact (hag k hk).1) hsp) (fun k hk => by simp only [Nat.sub_zero, Nat.zero_add] at hk ⊢; have := apF_in (n := 0) (len := n) (s := 0) (f := cs) (g := cs2) hk; simp only [Nat.zero_add] at this; rw [this, (hag k hk).1]; exact (hnd k hk).1)) rfl rfl (Nat.le_of_ble_eq_true rfl) ⟨Nat.le_of_ble_eq_true rfl, Nat.le_of_ble_eq_true rfl⟩ ⟨Nat.le_of_ble_eq_true rfl, Nat.le_of_ble_eq_true rfl⟩ dX8_copyFrom_16 (fw_kv fun M8 H1 locs1 hp7 hH hz1 => ?_)
  obtain ⟨hT33, hfr, hz2⟩ := hp7
  replace hz := hz2.trans hz
  clear hz1 hz2
  have fr9 := hfr
  replace hO2 := trAt.fr hO2 (fun q h1 h2 => fr9 q (by omega))
  refine fw_vret E hr hlk hH ?_ dX8_copyFrom_19
  simp only [Nat.sub_zero, Nat.zero_add] at hT33
  exact ⟨tw_of hT33 hsp hn1 (fun k hk => by have e1 := apF_in (n := 0) (len := n) (s := 0) (f := cs) (g := cs2) hk; have e2 := apF_in (n := 0) (len := n) (s := 0) (f := vs) (g := vs2) hk; simp only [Nat.zero_add] at e1 e2; rw [e1, e2]; exact ⟨(hag k hk).1, (hag k hk).2.1⟩) hbd, (fun q hq => by rw [fr9 q (by omega), fr6 q (by omega), fr3 q (by omega)]), hz⟩
theorem k_write (l : Launch) (G : fw_G) (M : fw_M) (N : Nat) (a : Nat) (cs vs ss hs : Nat → Int) (n lv : Int) (z : Int) (k : Nat) (x v : Int) (hT : trAt G M a cs vs ss hs n lv) (hzk : z = ↑k) (hk : k < 40) (hx : -2147483648 ≤ x ∧ x < 2147483648) (hv : -2147483648 ≤ v ∧ v < 2147483648) : fMet l yX8_write cX8_write 4 none 1 30 0 0 G M N [.ref a, .int (iI z), .int (iI x), .int (iI v)] (fw_pv (fun M1 n1 => trAt G M1 a (zup cs k x) (zup vs k (if x ≤ 1 then v else 0)) ss hs n lv ∧ (∀ q, q < a ∨ a + 5 ≤ q → M1 q = M q) ∧ n1 = N)) := by
  refine fw_met RX8 rfl (by decide +kernel) (Nat.le_of_ble_eq_true rfl) ?_
  intro pG e s m args below meth cG ls E hr hlk hnm hK hH hz hl
  obtain ⟨hb, t0, t1, t2, t3, t4⟩ := hT
  refine lv_aload_n E.1 E.2.1 dX8_write_0 rfl (lv_at hl 0 rfl) ?_
  refine fw_get E hK hH t0 fc_X8 0 (by decide) ql_RX8_9 rfl rfl dX8_write_1 ?_
  refine lv_iload_n E.1 E.2.1 dX8_write_4 rfl (lv_at hl 1 rfl) ?_
  refine lv_iload_n E.1 E.2.1 dX8_write_5 rfl (lv_at hl 2 rfl) ?_
  refine fw_cSN (As := [.ref (a + 1), .int (iI z), .int (iI x)]) (rest := []) E hK hH hl fL_X9_put ql_RX8_55 qs_yX9_put (k_put l G _ _ (a + 1) 40 cs z k x t1 (by omega) (by omega) (by omega) (by omega)) rfl rfl (Nat.le_of_ble_eq_true rfl) ⟨Nat.le_of_ble_eq_true rfl, Nat.le_of_ble_eq_true rfl⟩ ⟨Nat.le_of_ble_eq_true rfl, Nat.le_of_ble_eq_true rfl⟩ dX8_write_6 (fw_kv fun M2 H1 locs1 hp1 hH hz1 => ?_)
  obtain ⟨hM8, hz2⟩ := hp1
  have hfr : ∀ q, q ≠ a + 1 → M2 q = M q := fun q h => by rw [hM8]; exact fw_up_ne h
  have t1 : M2 (a + 1) = some (fI G 40 (fun j0 => iI ((zup cs k x) j0))) := by rw [hM8]; exact fw_up_eq
  replace hz := hz2.trans hz
  clear hz1 hz2
  have fr3 := hfr
  replace t0 : M2 a = some (.inr (8, [.ref (a + 1), .ref (a + 2), .ref (a + 3), .ref (a + 4), .int (iI n), .int (iI lv)])) := (fr3 _ (by omega)).trans t0
  replace t2 : M2 (a + 2) = some (fI G 40 (fun j0 => iI (vs j0))) := (fr3 _ (by omega)).trans t2
  replace t3 : M2 (a + 3) = some (fI G 40 (fun j0 => iI (ss j0))) := (fr3 _ (by omega)).trans t3
  replace t4 : M2 (a + 4) = some (fI G 40 (fun j0 => iI (hs j0))) := (fr3 _ (by omega)).trans t4
  refine lv_aload_n E.1 E.2.1 dX8_write_9 rfl (lv_at hl 0 rfl) ?_
  refine fw_get E hK hH t0 fc_X8 1 (by decide) ql_RX8_15 rfl rfl dX8_write_10 ?_
  refine lv_iload_n E.1 E.2.1 dX8_write_13 rfl (lv_at hl 1 rfl) ?_
  refine lv_iload_n E.1 E.2.1 dX8_write_14 rfl (lv_at hl 2 rfl) ?_
  refine lv_iconst (v := iI 1) E.1 E.2.1 dX8_write_15 (by decide) ?_
  refine fw_icmp_gt (tgt := 23) E dX8_write_16 (by decide) (by omega) (by omega) (by omega) (by omega) (fun c4 => ?_) (fun c4 => ?_)
  · refine lv_iconst (v := iI 0) E.1 E.2.1 dX8_write_23 (by decide) ?_
    refine fw_cSN (As := [.ref (a + 2), .int (iI z), .int (iI 0)]) (rest := []) E hK hH hl fL_X9_put ql_RX8_55 qs_yX9_put (k_put l G _ _ (a + 2) 40 vs z k 0 t2 (by omega) (by omega) (by omega) (by omega)) rfl rfl (Nat.le_of_ble_eq_true rfl) ⟨Nat.le_of_ble_eq_true rfl, Nat.le_of_ble_eq_true rfl⟩ ⟨Nat.le_of_ble_eq_true rfl, Nat.le_of_ble_eq_true rfl⟩ dX8_write_24 (fw_kv fun M6 H1 locs1 hp5 hH hz1 => ?_)
    obtain ⟨hM8, hz2⟩ := hp5
    have hfr : ∀ q, q ≠ a + 2 → M6 q = M2 q := fun q h => by rw [hM8]; exact fw_up_ne h
    have t2 : M6 (a + 2) = some (fI G 40 (fun j0 => iI ((zup vs k 0) j0))) := by rw [hM8]; exact fw_up_eq
    replace hz := hz2.trans hz
    clear hz1 hz2
    have fr7 := hfr
    replace t0 : M6 a = some (.inr (8, [.ref (a + 1), .ref (a + 2), .ref (a + 3), .ref (a + 4), .int (iI n), .int (iI lv)])) := (fr7 _ (by omega)).trans t0
    replace t3 : M6 (a + 3) = some (fI G 40 (fun j0 => iI (ss j0))) := (fr7 _ (by omega)).trans t3
    replace t4 : M6 (a + 4) = some (fI G 40 (fun j0 => iI (hs j0))) := (fr7 _ (by omega)).trans t4
    replace t1 : M6 (a + 1) = some (fI G 40 (fun j0 => iI ((zup cs k x) j0))) := (fr7 _ (by omega)).trans t1
    refine fw_vret E hr hlk hH ?_ dX8_write_27
    exact ⟨⟨hb, t0, t1, by rw [if_neg (by omega)]; exact t2, t3, t4⟩, (fun q hq => by rw [fr7 q (by omega), fr3 q (by omega)]), hz⟩
  · refine lv_iload_n E.1 E.2.1 dX8_write_19 rfl (lv_at hl 3 rfl) ?_
    refine lv_goto (tgt := 24) E.1 E.2.1 dX8_write_20 (by decide) ?_
    refine fw_cSN (As := [.ref (a + 2), .int (iI z), .int (iI v)]) (rest := []) E hK hH hl fL_X9_put ql_RX8_55 qs_yX9_put (k_put l G _ _ (a + 2) 40 vs z k v t2 (by omega) (by omega) (by omega) (by omega)) rfl rfl (Nat.le_of_ble_eq_true rfl) ⟨Nat.le_of_ble_eq_true rfl, Nat.le_of_ble_eq_true rfl⟩ ⟨Nat.le_of_ble_eq_true rfl, Nat.le_of_ble_eq_true rfl⟩ dX8_write_24 (fw_kv fun M9 H1 locs1 hp8 hH hz1 => ?_)
    obtain ⟨hM8, hz2⟩ := hp8
    have hfr : ∀ q, q ≠ a + 2 → M9 q = M2 q := fun q h => by rw [hM8]; exact fw_up_ne h
    have t2 : M9 (a + 2) = some (fI G 40 (fun j0 => iI ((zup vs k v) j0))) := by rw [hM8]; exact fw_up_eq
    replace hz := hz2.trans hz
    clear hz1 hz2
    have fr10 := hfr
    replace t0 : M9 a = some (.inr (8, [.ref (a + 1), .ref (a + 2), .ref (a + 3), .ref (a + 4), .int (iI n), .int (iI lv)])) := (fr10 _ (by omega)).trans t0
    replace t3 : M9 (a + 3) = some (fI G 40 (fun j0 => iI (ss j0))) := (fr10 _ (by omega)).trans t3
    replace t4 : M9 (a + 4) = some (fI G 40 (fun j0 => iI (hs j0))) := (fr10 _ (by omega)).trans t4
    replace t1 : M9 (a + 1) = some (fI G 40 (fun j0 => iI ((zup cs k x) j0))) := (fr10 _ (by omega)).trans t1
    refine fw_vret E hr hlk hH ?_ dX8_write_27
    exact ⟨⟨hb, t0, t1, by rw [if_pos (by omega)]; exact t2, t3, t4⟩, (fun q hq => by rw [fr10 q (by omega), fr3 q (by omega)]), hz⟩
theorem k_closeGap (l : Launch) (G : fw_G) (M : fw_M) (N : Nat) (a : Nat) (cs vs ss hs : Nat → Int) (lv : Int) (nN sN eN : Nat) (hT : trAt G M a cs vs ss hs ↑nN lv) (h1 : sN ≤ eN) (h2 : eN ≤ nN) (h3 : nN ≤ 40) : fMet l yX8_closeGap cX8_closeGap 5 none 1 40 0 0 G M N [.ref a, .int (iI ↑sN), .int (iI ↑eN)] (fw_pv (fun M1 n1 => trAt G M1 a (cgF sN (eN - sN) (nN - (eN - sN)) cs) (cgF sN (eN - sN) (nN - (eN - sN)) vs) ss hs ↑(nN - (eN - sN)) lv ∧ (∀ q, q < a ∨ a + 5 ≤ q → M1 q = M q) ∧ n1 = N)) := by
  refine fw_met RX8 rfl (by decide +kernel) (Nat.le_of_ble_eq_true rfl) ?_
  intro pG e s m args below meth cG ls E hr hlk hnm hK hH hz hl
  obtain ⟨hb, t0, t1, t2, t3, t4⟩ := hT
  refine lv_iload_n E.1 E.2.1 dX8_closeGap_0 rfl (lv_at hl 2 rfl) ?_
  refine lv_iload_n E.1 E.2.1 dX8_closeGap_1 rfl (lv_at hl 1 rfl) ?_
  refine fw_isub E dX8_closeGap_2 ?_
  refine lv_istore_n (lv' := [(3, .int (iI ((↑eN) - (↑sN)))), (0, .ref a), (1, .int (iI ↑sN)), (2, .int (iI ↑eN))]) E.1 E.2.1 dX8_closeGap_3 rfl hl (by decide) rfl (fun ls hl => ?_)
  refine lv_iload_n E.1 E.2.1 dX8_closeGap_4 rfl (lv_at hl 3 rfl) ?_
  refine lv_istore (lv' := [(4, .int (iI ↑eN)), (3, .int (iI ((↑eN) - (↑sN)))), (0, .ref a), (1, .int (iI ↑sN)), (2, .int (iI ↑eN))]) E.1 E.2.1 dX8_closeGap_5 hl (by decide) rfl (fun ls hl => ?_)
  have loop7_1 : ∀ (d7 : Nat) (i : Nat) (Mw7 : fw_M) (H : Heap) (locs : List Loc) (ls : Array Slot), nN - i < d7 → eN ≤ i → i ≤ nN → (∀ q, q < a ∨ a + 5 ≤ q → Mw7 q = M q) → fw_H G s Mw7 H locs → H.size = N → Mw7 a = some (.inr (8, [.ref (a + 1), .ref (a + 2), .ref (a + 3), .ref (a + 4), .int (iI (↑nN : Int)), .int (iI lv)])) → Mw7 (a + 1) = some (fI G 40 (fun j0 => iI ((cgF sN (eN - sN) (i - (eN - sN)) cs) j0))) → Mw7 (a + 2) = some (fI G 40 (fun j0 => iI ((cgF sN (eN - sN) (i - (eN - sN)) vs) j0))) → Mw7 (a + 3) = some (fI G 40 (fun j0 => iI (ss j0))) → Mw7 (a + 4) = some (fI G 40 (fun j0 => iI (hs j0))) → lv_has ls 5 [(0, .ref a), (1, .int (iI ↑sN)), (2, .int (iI ↑eN)), (3, .int (iI (↑eN - ↑sN))), (4, .int (iI ↑i))] → W pG l e ({ frames := 1, cells := 0, slots := 0, locals := 40 } : Room) s m args below meth cG H locs (0) (0) (MQ below (fw_Q G (fw_pv (fun M1 n1 => trAt G M1 a (cgF sN (eN - sN) (nN - (eN - sN)) cs) (cgF sN (eN - sN) (nN - (eN - sN)) vs) ss hs ↑(nN - (eN - sN)) lv ∧ (∀ q, q < a ∨ a + 5 ≤ q → M1 q = M q) ∧ n1 = N))) args s 0 0 (fun q => G.2.2.1 ≤ q)) (F0 m 7 ls []) := by
    intro d7
    induction d7 with
    | zero => intro i Mw7 H locs ls hd; exact absurd hd (Nat.not_lt_zero _)
    | succ d7 ih7 =>
      intro i Mw7 H locs ls hd7 i1 i2 hfr0 hH hz t0 t1 t2 t3 t4 hl
      refine lv_iload E.1 E.2.1 dX8_closeGap_7 (lv_at hl 4 rfl) ?_
      refine lv_aload_n E.1 E.2.1 dX8_closeGap_9 rfl (lv_at hl 0 rfl) ?_
      refine fw_get E hK hH t0 fc_X8 4 (by decide) ql_RX8_41 rfl rfl dX8_closeGap_10 ?_
      refine fw_icmp_ge (tgt := 62) E dX8_closeGap_13 (by decide) (by omega) (by omega) (by omega) (by omega) (fun c1 => ?_) (fun c1 => ?_)
      · refine lv_aload_n E.1 E.2.1 dX8_closeGap_62 rfl (lv_at hl 0 rfl) ?_
        refine lv_dup E.1 E.2.1 dX8_closeGap_63 rfl ?_
        refine fw_get E hK hH t0 fc_X8 4 (by decide) ql_RX8_41 rfl rfl dX8_closeGap_64 ?_
        refine lv_iload_n E.1 E.2.1 dX8_closeGap_67 rfl (lv_at hl 3 rfl) ?_
        refine fw_isub E dX8_closeGap_68 ?_
        refine fw_put E hK hH (by omega) t0 fc_X8 4 (by decide) ql_RX8_41 rfl rfl rfl rfl (Nat.le_of_ble_eq_true rfl) dX8_closeGap_69 (fun H1 locs1 hH hz1 => ?_)
        replace hz := hz1.trans hz; clear hz1
        obtain ⟨M2, hM3⟩ : ∃ MX, MX = fw_up Mw7 a (.inr (8, [.ref (a + 1), .ref (a + 2), .ref (a + 3), .ref (a + 4), .int (iI ((↑nN : Int) - (↑eN - ↑sN))), .int (iI lv)])) := ⟨_, rfl⟩
        replace hH := fw_H.nm hM3 hH
        have fr4 : ∀ q, q ≠ a → M2 q = Mw7 q := fun q h => by rw [hM3]; exact fw_up_ne h
        replace t1 : M2 (a + 1) = some (fI G 40 (fun j0 => iI ((cgF sN (eN - sN) (i - (eN - sN)) cs) j0))) := (fr4 _ (by omega)).trans t1
        replace t2 : M2 (a + 2) = some (fI G 40 (fun j0 => iI ((cgF sN (eN - sN) (i - (eN - sN)) vs) j0))) := (fr4 _ (by omega)).trans t2
        replace t3 : M2 (a + 3) = some (fI G 40 (fun j0 => iI (ss j0))) := (fr4 _ (by omega)).trans t3
        replace t4 : M2 (a + 4) = some (fI G 40 (fun j0 => iI (hs j0))) := (fr4 _ (by omega)).trans t4
        have t0 : M2 a = some (.inr (8, [.ref (a + 1), .ref (a + 2), .ref (a + 3), .ref (a + 4), .int (iI ((↑nN : Int) - (↑eN - ↑sN))), .int (iI lv)])) := by rw [hM3]; exact fw_up_eq
        refine fw_vret E hr hlk hH ?_ dX8_closeGap_72
        have e9 : i = nN := by omega
        subst e9
        exact ⟨⟨hb, by rw [show ((↑(i - (eN - sN)) : Int)) = ↑i - (↑eN - ↑sN) by omega]; exact t0, t1, t2, t3, t4⟩, (fun q hq => by rw [fr4 q (by omega)]; exact hfr0 q hq), hz⟩
      · refine lv_aload_n E.1 E.2.1 dX8_closeGap_16 rfl (lv_at hl 0 rfl) ?_
        refine fw_get E hK hH t0 fc_X8 0 (by decide) ql_RX8_9 rfl rfl dX8_closeGap_17 ?_
        refine lv_iload E.1 E.2.1 dX8_closeGap_20 (lv_at hl 4 rfl) ?_
        refine lv_iload_n E.1 E.2.1 dX8_closeGap_22 rfl (lv_at hl 3 rfl) ?_
        refine fw_isub E dX8_closeGap_23 ?_
        refine lv_aload_n E.1 E.2.1 dX8_closeGap_24 rfl (lv_at hl 0 rfl) ?_
        refine fw_get E hK hH t0 fc_X8 0 (by decide) ql_RX8_9 rfl rfl dX8_closeGap_25 ?_
        refine lv_iload E.1 E.2.1 dX8_closeGap_28 (lv_at hl 4 rfl) ?_
        refine fw_cSN (As := [.ref (a + 1), .int (iI ↑i)]) (rest := [.int (iI ((↑i) - (↑eN - ↑sN))), .ref (a + 1)]) E hK hH hl fL_X9_at ql_RX8_24 qs_yX9_at (k_at l G _ _ (a + 1) 40 (cgF sN (eN - sN) (i - (eN - sN)) cs) ↑i i t1 (by omega) (by omega) (by omega)) rfl rfl (Nat.le_of_ble_eq_true rfl) ⟨Nat.le_of_ble_eq_true rfl, Nat.le_of_ble_eq_true rfl⟩ ⟨Nat.le_of_ble_eq_true rfl, Nat.le_of_ble_eq_true rfl⟩ dX8_closeGap_30 (fw_ki fun r7 M6 H1 locs1 hp5 hH hz1 => ?_)
        obtain ⟨rfl, hM9, hz2⟩ := hp5
        refine fw_cv (y := iI (cs i)) (congrArg iI (cgF_at (by omega))) ?_
        replace hz := hz2.trans hz
        clear hz1 hz2
        rw [hM9] at hH
        refine fw_cSN (As := [.ref (a + 1), .int (iI ((↑i) - (↑eN - ↑sN))), .int (iI (cs i))]) (rest := []) E hK hH hl fL_X9_put ql_RX8_55 qs_yX9_put (k_put l G _ _ (a + 1) 40 (cgF sN (eN - sN) (i - (eN - sN)) cs) ((↑i) - (↑eN - ↑sN)) (i - (eN - sN)) (cs i) t1 (by omega) (by omega) (by omega) (by omega)) rfl rfl (Nat.le_of_ble_eq_true rfl) ⟨Nat.le_of_ble_eq_true rfl, Nat.le_of_ble_eq_true rfl⟩ ⟨Nat.le_of_ble_eq_true rfl, Nat.le_of_ble_eq_true rfl⟩ dX8_closeGap_33 (fw_kv fun M9 H1 locs1 hp8 hH hz1 => ?_)
        obtain ⟨hM8, hz2⟩ := hp8
        have hfr : ∀ q, q ≠ a + 1 → M9 q = Mw7 q := fun q h => by rw [hM8]; exact fw_up_ne h
        have t1 : M9 (a + 1) = some (fI G 40 (fun j0 => iI ((zup (cgF sN (eN - sN) (i - (eN - sN)) cs) (i - (eN - sN)) (cs i)) j0))) := by rw [hM8]; exact fw_up_eq
        replace hz := hz2.trans hz
        clear hz1 hz2
        have fr10 := hfr
        replace t0 : M9 a = some (.inr (8, [.ref (a + 1), .ref (a + 2), .ref (a + 3), .ref (a + 4), .int (iI (↑nN : Int)), .int (iI lv)])) := (fr10 _ (by omega)).trans t0
        replace t2 : M9 (a + 2) = some (fI G 40 (fun j0 => iI ((cgF sN (eN - sN) (i - (eN - sN)) vs) j0))) := (fr10 _ (by omega)).trans t2
        replace t3 : M9 (a + 3) = some (fI G 40 (fun j0 => iI (ss j0))) := (fr10 _ (by omega)).trans t3
        replace t4 : M9 (a + 4) = some (fI G 40 (fun j0 => iI (hs j0))) := (fr10 _ (by omega)).trans t4
        refine lv_aload_n E.1 E.2.1 dX8_closeGap_36 rfl (lv_at hl 0 rfl) ?_
        refine fw_get E hK hH t0 fc_X8 1 (by decide) ql_RX8_15 rfl rfl dX8_closeGap_37 ?_
        refine lv_iload E.1 E.2.1 dX8_closeGap_40 (lv_at hl 4 rfl) ?_
        refine lv_iload_n E.1 E.2.1 dX8_closeGap_42 rfl (lv_at hl 3 rfl) ?_
        refine fw_isub E dX8_closeGap_43 ?_
        refine lv_aload_n E.1 E.2.1 dX8_closeGap_44 rfl (lv_at hl 0 rfl) ?_
        refine fw_get E hK hH t0 fc_X8 1 (by decide) ql_RX8_15 rfl rfl dX8_closeGap_45 ?_
        refine lv_iload E.1 E.2.1 dX8_closeGap_48 (lv_at hl 4 rfl) ?_
        refine fw_cSN (As := [.ref (a + 2), .int (iI ↑i)]) (rest := [.int (iI ((↑i) - (↑eN - ↑sN))), .ref (a + 2)]) E hK hH hl fL_X9_at ql_RX8_24 qs_yX9_at (k_at l G _ _ (a + 2) 40 (cgF sN (eN - sN) (i - (eN - sN)) vs) ↑i i t2 (by omega) (by omega) (by omega)) rfl rfl (Nat.le_of_ble_eq_true rfl) ⟨Nat.le_of_ble_eq_true rfl, Nat.le_of_ble_eq_true rfl⟩ ⟨Nat.le_of_ble_eq_true rfl, Nat.le_of_ble_eq_true rfl⟩ dX8_closeGap_50 (fw_ki fun r13 M12 H1 locs1 hp11 hH hz1 => ?_)
        obtain ⟨rfl, hM9, hz2⟩ := hp11
        refine fw_cv (y := iI (vs i)) (congrArg iI (cgF_at (by omega))) ?_
        replace hz := hz2.trans hz
        clear hz1 hz2
        rw [hM9] at hH
        refine fw_cSN (As := [.ref (a + 2), .int (iI ((↑i) - (↑eN - ↑sN))), .int (iI (vs i))]) (rest := []) E hK hH hl fL_X9_put ql_RX8_55 qs_yX9_put (k_put l G _ _ (a + 2) 40 (cgF sN (eN - sN) (i - (eN - sN)) vs) ((↑i) - (↑eN - ↑sN)) (i - (eN - sN)) (vs i) t2 (by omega) (by omega) (by omega) (by omega)) rfl rfl (Nat.le_of_ble_eq_true rfl) ⟨Nat.le_of_ble_eq_true rfl, Nat.le_of_ble_eq_true rfl⟩ ⟨Nat.le_of_ble_eq_true rfl, Nat.le_of_ble_eq_true rfl⟩ dX8_closeGap_53 (fw_kv fun M15 H1 locs1 hp14 hH hz1 => ?_)
        obtain ⟨hM8, hz2⟩ := hp14
        have hfr : ∀ q, q ≠ a + 2 → M15 q = M9 q := fun q h => by rw [hM8]; exact fw_up_ne h
        have t2 : M15 (a + 2) = some (fI G 40 (fun j0 => iI ((zup (cgF sN (eN - sN) (i - (eN - sN)) vs) (i - (eN - sN)) (vs i)) j0))) := by rw [hM8]; exact fw_up_eq
        replace hz := hz2.trans hz
        clear hz1 hz2
        have fr16 := hfr
        replace t0 : M15 a = some (.inr (8, [.ref (a + 1), .ref (a + 2), .ref (a + 3), .ref (a + 4), .int (iI (↑nN : Int)), .int (iI lv)])) := (fr16 _ (by omega)).trans t0
        replace t3 : M15 (a + 3) = some (fI G 40 (fun j0 => iI (ss j0))) := (fr16 _ (by omega)).trans t3
        replace t4 : M15 (a + 4) = some (fI G 40 (fun j0 => iI (hs j0))) := (fr16 _ (by omega)).trans t4
        replace t1 : M15 (a + 1) = some (fI G 40 (fun j0 => iI ((zup (cgF sN (eN - sN) (i - (eN - sN)) cs) (i - (eN - sN)) (cs i)) j0))) := (fr16 _ (by omega)).trans t1
        refine lv_iinc (v := iI (↑i + 1)) (lv' := [(4, .int (iI (↑i + 1))), (0, .ref a), (1, .int (iI ↑sN)), (2, .int (iI ↑eN)), (3, .int (iI (↑eN - ↑sN)))]) E.1 E.2.1 dX8_closeGap_56 hl (k := 4) rfl (iI_inc rfl) (by decide) rfl (fun ls hl => ?_)
        refine lv_goto (tgt := 7) E.1 E.2.1 dX8_closeGap_59 (by decide) ?_
        exact ih7 (i + 1) _ _ _ _ (by omega) (by omega) (by omega) (fun q hq => by rw [fr16 q (by omega), fr10 q (by omega)]; exact hfr0 q hq) hH (by omega) t0 (by rw [← cgF_step (by omega)]; exact t1) (by rw [← cgF_step (by omega)]; exact t2) t3 t4 (lv_sub hl [1, 2, 3, 4, 0] rfl)
  exact loop7_1 (nN - eN + 1) eN _ _ _ _ (Nat.lt_succ_self _) (Nat.le_refl _) (by omega) (fun _ _ => rfl) hH (by omega) t0 (by rw [show eN - (eN - sN) = sN by omega, cgF_0]; exact t1) (by rw [show eN - (eN - sN) = sN by omega, cgF_0]; exact t2) t3 t4 (lv_sub hl [2, 3, 4, 1, 0] rfl)

theorem k_copyR (l : Launch) (G : fw_G) (M : fw_M) (N : Nat) (a o n : Nat) (C V cs2 vs2 ss2 hs2 : Nat → Int) (lv2 : Int) (sp : Nat → Nat) (hA : tany G M a) (hO2 : trAt G M o cs2 vs2 ss2 hs2 ↑n lv2) (hag : ∀ k, k < n → cs2 k = C k ∧ vs2 k = V k ∧ True) (hv : vtOK n C V sp) (hao : a + 5 ≤ o ∨ o + 5 ≤ a) : fMet l yX8_copyFrom cX8_copyFrom 2 none 2 80 0 0 G M N [.ref a, .ref o] (fw_pv (fun M1 n1 => tw G M1 a n C V sp ∧ (∀ q, q < a ∨ a + 5 ≤ q → M1 q = M q) ∧ n1 = N)) := by
  refine fw_met RX8 rfl (by decide +kernel) (Nat.le_of_ble_eq_true rfl) ?_
  intro pG e s m args below meth cG ls E hr hlk hnm hK hH hz hl
  obtain ⟨cs, vs, ss, hs, n0, lv, hT, hbd⟩ := hA
  obtain ⟨⟨hn0, hn1⟩, -, -, hsp, -, hnd⟩ := hv
  obtain ⟨hb9, t0, t1, t2, t3, t4⟩ := hT
  refine lv_aload_n E.1 E.2.1 dX8_copyFrom_0 rfl (lv_at hl 0 rfl) ?_
  refine lv_iconst (v := iI 0) E.1 E.2.1 dX8_copyFrom_1 (by decide) ?_
  refine fw_put E hK hH (by omega) t0 fc_X8 4 (by decide) ql_RX8_41 rfl rfl rfl rfl (Nat.le_of_ble_eq_true rfl) dX8_copyFrom_2 (fun H1 locs1 hH hz1 => ?_)
  replace hz := hz1.trans hz; clear hz1
  obtain ⟨M1, hM2⟩ : ∃ MX, MX = fw_up M a (.inr (8, [.ref (a + 1), .ref (a + 2), .ref (a + 3), .ref (a + 4), .int (iI 0), .int (iI lv)])) := ⟨_, rfl⟩
  replace hH := fw_H.nm hM2 hH
  have fr3 : ∀ q, q ≠ a → M1 q = M q := fun q h => by rw [hM2]; exact fw_up_ne h
  replace hO2 := trAt.fr hO2 (fun q h1 h2 => fr3 q (by omega))
  replace t1 : M1 (a + 1) = some (fI G 40 (fun j0 => iI (cs j0))) := (fr3 _ (by omega)).trans t1
  replace t2 : M1 (a + 2) = some (fI G 40 (fun j0 => iI (vs j0))) := (fr3 _ (by omega)).trans t2
  replace t3 : M1 (a + 3) = some (fI G 40 (fun j0 => iI (ss j0))) := (fr3 _ (by omega)).trans t3
  replace t4 : M1 (a + 4) = some (fI G 40 (fun j0 => iI (hs j0))) := (fr3 _ (by omega)).trans t4
  have t0 : M1 a = some (.inr (8, [.ref (a + 1), .ref (a + 2), .ref (a + 3), .ref (a + 4), .int (iI 0), .int (iI lv)])) := by rw [hM2]; exact fw_up_eq
  have hTp : trAt G M1 a cs vs ss hs 0 lv := ⟨hb9, t0, t1, t2, t3, t4⟩
  refine lv_aload_n E.1 E.2.1 dX8_copyFrom_5 rfl (lv_at hl 0 rfl) ?_
  refine lv_aload_n E.1 E.2.1 dX8_copyFrom_6 rfl (lv_at hl 1 rfl) ?_
  refine lv_iconst (v := iI 0) E.1 E.2.1 dX8_copyFrom_7 (by decide) ?_
  refine lv_aload_n E.1 E.2.1 dX8_copyFrom_8 rfl (lv_at hl 1 rfl) ?_
  refine fw_get E hK hH hO2.2.1 fc_X8 4 (by decide) ql_RX8_41 rfl rfl dX8_copyFrom_9 ?_
  refine fw_cV (As := [.ref o, .int (iI 0), .int (iI ((↑n : Int)))]) (rest := []) E hK hH hl hTp.2.1 fc_X8 fL_X8_appendFrom ql_RX8_63 qi_yX8_appendFrom qv_yX8_appendFrom (k_appendFrom l G _ _ a o cs vs ss hs lv cs2 vs2 ss2 hs2 (↑n : Int) lv2 0 0 n hTp hO2 (by omega) (by omega) (by omega) (by omega)) rfl rfl (Nat.le_of_ble_eq_true rfl) ⟨Nat.le_of_ble_eq_true rfl, Nat.le_of_ble_eq_true rfl⟩ ⟨Nat.le_of_ble_eq_true rfl, Nat.le_of_ble_eq_true rfl⟩ dX8_copyFrom_12 (fw_kv fun M5 H1 locs1 hp4 hH hz1 => ?_)
  obtain ⟨hT25, hfr, hz2⟩ := hp4
  replace hz := hz2.trans hz
  clear hz1 hz2
  have fr6 := hfr
  replace hO2 := trAt.fr hO2 (fun q h1 h2 => fr6 q (by omega))
  refine lv_aload_n E.1 E.2.1 dX8_copyFrom_15 rfl (lv_at hl 0 rfl) ?_
  refine fw_cV (As := []) (rest := []) E hK hH hl hT25.2.1 fc_X8 fL_X8_measure ql_RX8_67 qi_yX8_measure qv_yX8_measure (k_measure l G _ _ a (apF 0 (n - 0) 0 cs cs2) (apF 0 (n - 0) 0 vs vs2) ss hs lv (0 + (n - 0)) sp hT25 (by omega) (by simp only [Nat.sub_zero, Nat.zero_add]; exact spOK_congr (fun k hk => by have := apF_in (n := 0) (len := n) (s := 0) (f := cs) (g := cs2) hk; simp only [Nat.zero_add] at this; rw [this]; exact (hag k hk).1) hsp) (fun k hk => by simp only [Nat.sub_zero, Nat.zero_add] at hk ⊢; have := apF_in (n := 0) (len := n) (s := 0) (f := cs) (g := cs2) hk; simp only [Nat.zero_add] at this; rw [this, (hag k hk).1]; exact (hnd k hk).1)) rfl rfl (Nat.le_of_ble_eq_true rfl) ⟨Nat.le_of_ble_eq_true rfl, Nat.le_of_ble_eq_true rfl⟩ ⟨Nat.le_of_ble_eq_true rfl, Nat.le_of_ble_eq_true rfl⟩ dX8_copyFrom_16 (fw_kv fun M8 H1 locs1 hp7 hH hz1 => ?_)
  obtain ⟨hT32, hfr, hz2⟩ := hp7
  replace hz := hz2.trans hz
  clear hz1 hz2
  have fr9 := hfr
  replace hO2 := trAt.fr hO2 (fun q h1 h2 => fr9 q (by omega))
  refine fw_vret E hr hlk hH ?_ dX8_copyFrom_19
  simp only [Nat.sub_zero, Nat.zero_add] at hT32
  exact ⟨tw_of hT32 hsp hn1 (fun k hk => by have e1 := apF_in (n := 0) (len := n) (s := 0) (f := cs) (g := cs2) hk; have e2 := apF_in (n := 0) (len := n) (s := 0) (f := vs) (g := vs2) hk; simp only [Nat.zero_add] at e1 e2; rw [e1, e2]; exact ⟨(hag k hk).1, (hag k hk).2.1⟩) hbd, (fun q hq => by rw [fr9 q (by omega), fr6 q (by omega), fr3 q (by omega)]), hz⟩
def gtW (G : fw_G) (M : fw_M) (tb k : Nat) (Y : Nat → aT) : Prop := (∀ j, j < k → aTw G M (tb + 5 * j) (Y j)) ∧ (∀ j, j < 16 → tany G M (tb + 5 * j)) ∧ k ≤ 16
theorem gtW.fr {G : fw_G} {M M1 : fw_M} {tb k : Nat} {Y : Nat → aT} (h : gtW G M tb k Y) (hf : ∀ q, tb ≤ q → q < tb + 80 → M1 q = M q) : gtW G M1 tb k Y := by
  obtain ⟨h1, h2, hk⟩ := h
  exact ⟨fun j hj => (h1 j hj).fr (fun q q1 q2 => hf q (by omega) (by omega)), fun j hj => (h2 j hj).fr (fun q q1 q2 => hf q (by omega) (by omega)), hk⟩
theorem gtW.set {G : fw_G} {M M1 : fw_M} {tb k : Nat} {Y : Nat → aT} (h : gtW G M tb k Y) (hk : k < 16) {t : aT} (hY : t = Y k) (ht : aTw G M1 (tb + 5 * k) t) (hf : ∀ q, tb ≤ q → q < tb + 80 → (q < tb + 5 * k ∨ tb + 5 * k + 5 ≤ q) → M1 q = M q) : gtW G M1 tb (k + 1) Y := by
  obtain ⟨h1, h2, _⟩ := h
  refine ⟨fun i hi => ?_, fun i hi => ?_, hk⟩
  · by_cases e : i = k
    · rw [e, ← hY]; exact ht
    · exact (h1 i (by omega)).fr (fun q q1 q2 => hf q (by omega) (by omega) (by omega))
  · by_cases e : i = k
    · rw [e]; exact ht.any
    · exact (h2 i hi).fr (fun q q1 q2 => hf q (by omega) (by omega) (by omega))
def smT (a b : aT) : Int := if a.1 = b.1 ∧ snF a.2.1 a.2.2.1 b.2.1 b.2.2.1 (min a.1 b.1) = b.1 then 1 else 0
def twK (T : Nat → aT) (i : Nat) : Nat → Int
  | 0 => 0
  | e + 1 => if twK T i e = 1 then 1 else smT (T e) (T i)
theorem twK_go {T : Nat → aT} {i k : Nat} (h : twK T i k = 1) : ∀ m, k ≤ m → twK T i m = 1 := by
  intro m
  induction m with
  | zero => intro hk; rw [show k = 0 by omega] at h; exact h
  | succ m ih =>
    intro hk
    by_cases e : k = m + 1
    · rw [← e]; exact h
    · show (if twK T i m = 1 then 1 else smT (T m) (T i)) = 1
      rw [if_pos (ih (by omega))]
theorem twK_01 (T : Nat → aT) (i : Nat) : ∀ k, twK T i k = 0 ∨ twK T i k = 1 := by
  intro k
  induction k with
  | zero => exact Or.inl rfl
  | succ k ih =>
    show (if twK T i k = 1 then (1 : Int) else smT (T k) (T i)) = 0 ∨ (if twK T i k = 1 then (1 : Int) else smT (T k) (T i)) = 1
    unfold smT
    (repeat' split) <;> first | exact Or.inl rfl | exact Or.inr rfl
def dfF (T : Nat → aT) : Nat → Nat
  | 0 => 0
  | i + 1 => dfF T i + (if twK T i i = 0 then 1 else 0)
theorem dfF_le (T : Nat → aT) : ∀ i, dfF T i ≤ i := by
  intro i
  induction i with
  | zero => exact Nat.le_refl _
  | succ i ih =>
    show dfF T i + (if twK T i i = 0 then 1 else 0) ≤ i + 1
    split <;> omega
/-- any GROVE -/
def gvX (G : fw_G) (M : fw_M) (go : Nat) : Prop := ∃ (o : Nat) (lk : Int) (cn : Nat) (gn mi : Int) (T : Nat → aT), gcW G M go o lk cn gn mi T ∧ gyW G M go o 0 T
theorem gvX.fr {G : fw_G} {M M1 : fw_M} {go : Nat} (h : gvX G M go) (hf : ∀ q, go ≤ q → q < go + 170 → M1 q = M q) : gvX G M1 go := by
  obtain ⟨o, lk, cn, gn, mi, T, h1, h2⟩ := h
  have ho := h1.o1
  exact ⟨o, lk, cn, gn, mi, T, h1.fr (fun q q1 _ => hf q (by omega) (by omega)), h2.fr (fun q q1 q2 => hf q (by omega) (by omega))⟩
theorem k_dcopy (l : Launch) (G : fw_G) (M : fw_M) (N : Nat) (a b : Nat) (tl tl2 : Nat → Int) (lk lk2 : Int) (hA : drAt G M a tl 0 lk) (hB : drAt G M b tl2 0 lk2) (hab : a + 2 ≤ b ∨ b + 2 ≤ a) : fMet l yX1_copyFrom cX1_copyFrom 3 none 2 60 0 0 G M N [.ref a, .ref b] (fw_pv (fun M1 n1 => drAt G M1 a tl 0 lk2 ∧ (∀ q, q ≠ a → M1 q = M q) ∧ n1 = N)) := by
  refine fw_met RX1 rfl (by decide +kernel) (Nat.le_of_ble_eq_true rfl) ?_
  intro pG e s m args below meth cG ls E hr hlk hnm hK hH hz hl
  obtain ⟨hba, d0, d1⟩ := hA
  obtain ⟨hbb, e0, e1⟩ := hB
  refine lv_iconst (v := iI 0) E.1 E.2.1 dX1_copyFrom_0 (by decide) ?_
  refine lv_istore_n (lv' := [(2, .int (iI 0)), (0, .ref a), (1, .ref b)]) E.1 E.2.1 dX1_copyFrom_1 rfl hl (by decide) rfl (fun ls hl => ?_)
  refine lv_iload_n E.1 E.2.1 dX1_copyFrom_2 rfl (lv_at hl 0 rfl) ?_
  refine lv_aload_n E.1 E.2.1 dX1_copyFrom_3 rfl (lv_at hl 2 rfl) ?_
  refine fw_get E hK hH e0 fc_X1 1 (by decide) ql_RX1_15 rfl rfl dX1_copyFrom_4 ?_
  refine fw_icmp_ge (tgt := 32) E dX1_copyFrom_7 (by decide) (by omega) (by omega) (by omega) (by omega) (fun c1 => ?_) (fun c1 => ?_)
  · refine lv_aload_n E.1 E.2.1 dX1_copyFrom_32 rfl (lv_at hl 1 rfl) ?_
    refine lv_aload_n E.1 E.2.1 dX1_copyFrom_33 rfl (lv_at hl 2 rfl) ?_
    refine fw_get E hK hH e0 fc_X1 1 (by decide) ql_RX1_15 rfl rfl dX1_copyFrom_34 ?_
    refine fw_put E hK hH (by omega) d0 fc_X1 1 (by decide) ql_RX1_15 rfl rfl rfl rfl (Nat.le_of_ble_eq_true rfl) dX1_copyFrom_37 (fun H1 locs1 hH hz1 => ?_)
    replace hz := hz1.trans hz; clear hz1
    obtain ⟨M2, hM3⟩ : ∃ MX, MX = fw_up M a (.inr (1, [.ref (a + 1), .int (iI 0), .int (iI lk)])) := ⟨_, rfl⟩
    replace hH := fw_H.nm hM3 hH
    have fr4 : ∀ q, q ≠ a → M2 q = M q := fun q h => by rw [hM3]; exact fw_up_ne h
    replace d1 : M2 (a + 1) = some (fI G 40 (fun j0 => iI (tl j0))) := (fr4 _ (by omega)).trans d1
    replace e0 : M2 b = some (.inr (1, [.ref (b + 1), .int (iI 0), .int (iI lk2)])) := (fr4 _ (by omega)).trans e0
    replace e1 : M2 (b + 1) = some (fI G 40 (fun j0 => iI (tl2 j0))) := (fr4 _ (by omega)).trans e1
    have d0 : M2 a = some (.inr (1, [.ref (a + 1), .int (iI 0), .int (iI lk)])) := by rw [hM3]; exact fw_up_eq
    refine lv_aload_n E.1 E.2.1 dX1_copyFrom_40 rfl (lv_at hl 1 rfl) ?_
    refine lv_aload_n E.1 E.2.1 dX1_copyFrom_41 rfl (lv_at hl 2 rfl) ?_
    refine fw_get E hK hH e0 fc_X1 2 (by decide) ql_RX1_27 rfl rfl dX1_copyFrom_42 ?_
    refine fw_put E hK hH (by omega) d0 fc_X1 2 (by decide) ql_RX1_27 rfl rfl rfl rfl (Nat.le_of_ble_eq_true rfl) dX1_copyFrom_45 (fun H1 locs1 hH hz1 => ?_)
    replace hz := hz1.trans hz; clear hz1
    obtain ⟨M5, hM6⟩ : ∃ MX, MX = fw_up M2 a (.inr (1, [.ref (a + 1), .int (iI 0), .int (iI lk2)])) := ⟨_, rfl⟩
    replace hH := fw_H.nm hM6 hH
    have fr7 : ∀ q, q ≠ a → M5 q = M2 q := fun q h => by rw [hM6]; exact fw_up_ne h
    replace d1 : M5 (a + 1) = some (fI G 40 (fun j0 => iI (tl j0))) := (fr7 _ (by omega)).trans d1
    replace e0 : M5 b = some (.inr (1, [.ref (b + 1), .int (iI 0), .int (iI lk2)])) := (fr7 _ (by omega)).trans e0
    replace e1 : M5 (b + 1) = some (fI G 40 (fun j0 => iI (tl2 j0))) := (fr7 _ (by omega)).trans e1
    have d0 : M5 a = some (.inr (1, [.ref (a + 1), .int (iI 0), .int (iI lk2)])) := by rw [hM6]; exact fw_up_eq
    refine fw_vret E hr hlk hH ?_ dX1_copyFrom_48
    exact ⟨⟨hba, d0, d1⟩, (fun q hq => by rw [fr7 q (by omega), fr4 q (by omega)]), hz⟩
  · exact absurd c1 (by omega)
theorem k_twin (l : Launch) (G : fw_G) (M : fw_M) (N : Nat) (go o cn : Nat) (lk gn mi : Int) (T : Nat → aT) (hG : gcW G M go o lk cn gn mi T) (hTk : ∀ k, k < cn → aOK (T k)) (x : Nat) (hx : x < cn) : fMet l yX2_hasEarlierTwin cX2_hasEarlierTwin 5 (some .boolean) 3 90 0 0 G M N [.ref go, .int (iI ↑x)] (fw_pi (fun r M1 n1 => r = iI (twK T x x) ∧ M1 = M ∧ n1 = N)) := by
  refine fw_met RX2 rfl (by decide +kernel) (Nat.le_of_ble_eq_true rfl) ?_
  intro pG e s m args below meth cG ls E hr hlk hnm hK hH hz hl
  obtain ⟨hgb, ho1, hcn⟩ := hG.o1
  refine lv_aload_n E.1 E.2.1 dX2_hasEarlierTwin_0 rfl (lv_at hl 0 rfl) ?_
  refine lv_iload_n E.1 E.2.1 dX2_hasEarlierTwin_1 rfl (lv_at hl 1 rfl) ?_
  refine fw_cV (As := [.int (iI ↑x)]) (rest := []) E hK hH hl hG.2.1 fc_X2 fL_X2_tree ql_RX2_40 qi_yX2_tree qv_yX2_tree (k_treeG l G _ _ go o cn lk gn mi T hG x (by omega)) rfl rfl (Nat.le_of_ble_eq_true rfl) ⟨Nat.le_of_ble_eq_true rfl, Nat.le_of_ble_eq_true rfl⟩ ⟨Nat.le_of_ble_eq_true rfl, Nat.le_of_ble_eq_true rfl⟩ dX2_hasEarlierTwin_2 (fw_kr fun r3 M2 H1 locs1 hp1 hH hz1 => ?_)
  obtain ⟨rfl, hM9, hz2⟩ := hp1
  have hT6 := hG.tr (j := x) (by omega)
  replace hz := hz2.trans hz
  clear hz1 hz2
  rw [hM9] at hH
  refine lv_astore_n (lv' := [(2, .ref (go + 10 + 80 * o + 5 * x)), (0, .ref go), (1, .int (iI ↑x))]) E.1 E.2.1 dX2_hasEarlierTwin_5 rfl hl (by decide) rfl (fun ls hl => ?_)
  refine lv_iconst (v := iI 0) E.1 E.2.1 dX2_hasEarlierTwin_6 (by decide) ?_
  refine lv_istore_n (lv' := [(3, .int (iI 0)), (2, .ref (go + 10 + 80 * o + 5 * x)), (0, .ref go), (1, .int (iI ↑x))]) E.1 E.2.1 dX2_hasEarlierTwin_7 rfl hl (by decide) rfl (fun ls hl => ?_)
  have loop8_1 : ∀ (d8 : Nat) (i : Nat) (Mw8 : fw_M) (H : Heap) (locs : List Loc) (ls : Array Slot), x - i < d8 → i ≤ x → twK T x i = 0 → Mw8 = M → fw_H G s Mw8 H locs → H.size = N → gcW G Mw8 go o lk cn gn mi T → aTw G Mw8 (go + 10 + 80 * o + 5 * x) (T x) → lv_has ls 5 [(0, .ref go), (1, .int (iI ↑x)), (2, .ref (go + 10 + 80 * o + 5 * x)), (3, .int (iI ↑i))] → W pG l e ({ frames := 3, cells := 0, slots := 0, locals := 90 } : Room) s m args below meth cG H locs (0) (0) (MQ below (fw_Q G (fw_pi (fun r M1 n1 => r = iI (twK T x x) ∧ M1 = M ∧ n1 = N))) args s 0 0 (fun q => G.2.2.1 ≤ q)) (F0 m 8 ls []) := by
    intro d8
    induction d8 with
    | zero => intro i Mw8 H locs ls hd; exact absurd hd (Nat.not_lt_zero _)
    | succ d8 ih8 =>
      intro i Mw8 H locs ls hd8 ii hP hMw hH hz hG hTx hl
      have htx := hTk x hx
      have hvx := htx.1
      have hvn := hvx.1
      refine lv_iload_n E.1 E.2.1 dX2_hasEarlierTwin_8 rfl (lv_at hl 3 rfl) ?_
      refine lv_iload_n E.1 E.2.1 dX2_hasEarlierTwin_9 rfl (lv_at hl 1 rfl) ?_
      refine fw_icmp_ge (tgt := 53) E dX2_hasEarlierTwin_10 (by decide) (by omega) (by omega) (by omega) (by omega) (fun c4 => ?_) (fun c4 => ?_)
      · refine lv_iconst (v := iI 0) E.1 E.2.1 dX2_hasEarlierTwin_53 (by decide) ?_
        refine fw_zret (r := (iI 0)) E hr hlk hH (by rfl) ?_ dX2_hasEarlierTwin_54
        have e9 : i = x := by omega
        exact ⟨by rw [← hP, e9], hMw, hz⟩
      · refine lv_aload_n E.1 E.2.1 dX2_hasEarlierTwin_13 rfl (lv_at hl 0 rfl) ?_
        refine lv_iload_n E.1 E.2.1 dX2_hasEarlierTwin_14 rfl (lv_at hl 3 rfl) ?_
        refine fw_cV (As := [.int (iI ↑i)]) (rest := []) E hK hH hl hG.2.1 fc_X2 fL_X2_tree ql_RX2_40 qi_yX2_tree qv_yX2_tree (k_treeG l G _ _ go o cn lk gn mi T hG i (by omega)) rfl rfl (Nat.le_of_ble_eq_true rfl) ⟨Nat.le_of_ble_eq_true rfl, Nat.le_of_ble_eq_true rfl⟩ ⟨Nat.le_of_ble_eq_true rfl, Nat.le_of_ble_eq_true rfl⟩ dX2_hasEarlierTwin_15 (fw_kr fun r7 M6 H1 locs1 hp5 hH hz1 => ?_)
        obtain ⟨rfl, hM9, hz2⟩ := hp5
        have hT33 := hG.tr (j := i) (by omega)
        replace hz := hz2.trans hz
        clear hz1 hz2
        rw [hM9] at hH
        refine lv_astore (lv' := [(4, .ref (go + 10 + 80 * o + 5 * i)), (0, .ref go), (1, .int (iI ↑x)), (2, .ref (go + 10 + 80 * o + 5 * x)), (3, .int (iI ↑i))]) E.1 E.2.1 dX2_hasEarlierTwin_18 hl (by decide) rfl (fun ls hl => ?_)
        have hti := (hTk i (by omega)).1
        have htin := hti.1
        refine lv_aload E.1 E.2.1 dX2_hasEarlierTwin_20 (lv_at hl 0 rfl) ?_
        refine fw_getN E hK hH hT33.c fc_X8 4 (by decide) ql_RX2_48 rfl rfl dX2_hasEarlierTwin_22 ?_
        refine lv_aload_n E.1 E.2.1 dX2_hasEarlierTwin_25 rfl (lv_at hl 3 rfl) ?_
        refine fw_getN E hK hH hTx.c fc_X8 4 (by decide) ql_RX2_48 rfl rfl dX2_hasEarlierTwin_26 ?_
        refine fw_icmp_ne (tgt := 47) E dX2_hasEarlierTwin_29 (by decide) (by omega) (by omega) (by omega) (by omega) (fun c8 => ?_) (fun c8 => ?_)
        · refine lv_iinc (v := iI (↑i + 1)) (lv' := [(3, .int (iI (↑i + 1))), (4, .ref (go + 10 + 80 * o + 5 * i)), (0, .ref go), (1, .int (iI ↑x)), (2, .ref (go + 10 + 80 * o + 5 * x))]) E.1 E.2.1 dX2_hasEarlierTwin_47 hl (k := 4) rfl (iI_inc rfl) (by decide) rfl (fun ls hl => ?_)
          refine lv_goto (tgt := 8) E.1 E.2.1 dX2_hasEarlierTwin_50 (by decide) ?_
          exact ih8 (i + 1) _ _ _ _ (by omega) (by omega) (by show (if twK T x i = 1 then (1 : Int) else smT (T i) (T x)) = 0; rw [if_neg (by omega)]; unfold smT; exact if_neg (by omega)) hMw hH (by omega) hG hTx (lv_sub hl [2, 3, 4, 0] rfl)
        · refine lv_aload E.1 E.2.1 dX2_hasEarlierTwin_32 (lv_at hl 0 rfl) ?_
          refine lv_aload_n E.1 E.2.1 dX2_hasEarlierTwin_34 rfl (lv_at hl 3 rfl) ?_
          refine fw_cV (As := [.ref (go + 10 + 80 * o + 5 * x)]) (rest := []) E hK hH hl hT33.c fc_X8 fL_X8_sameNodes ql_RX2_51 qi_yX8_sameNodes qv_yX8_sameNodes (k_sameNodes l G _ _ (go + 10 + 80 * o + 5 * i) ((T i).1) ((T i).2.1) ((T i).2.2.1) ((T i).2.2.2) hT33 hti (go + 10 + 80 * o + 5 * x) ((T x).1) ((T x).2.1) ((T x).2.2.1) ((T x).2.2.2) hTx hvx) rfl rfl (Nat.le_of_ble_eq_true rfl) ⟨Nat.le_of_ble_eq_true rfl, Nat.le_of_ble_eq_true rfl⟩ ⟨Nat.le_of_ble_eq_true rfl, Nat.le_of_ble_eq_true rfl⟩ dX2_hasEarlierTwin_35 (fw_ki fun r11 M10 H1 locs1 hp9 hH hz1 => ?_)
          obtain ⟨rfl, hM9, hz2⟩ := hp9
          have hsn52 := snF_le (T i).2.1 (T i).2.2.1 (T x).2.1 (T x).2.2.1 (min (T i).1 (T x).1)
          replace hz := hz2.trans hz
          clear hz1 hz2
          rw [hM9] at hH
          refine lv_aload_n E.1 E.2.1 dX2_hasEarlierTwin_38 rfl (lv_at hl 3 rfl) ?_
          refine fw_getN E hK hH hTx.c fc_X8 4 (by decide) ql_RX2_48 rfl rfl dX2_hasEarlierTwin_39 ?_
          refine fw_icmp_ne (tgt := 47) E dX2_hasEarlierTwin_42 (by decide) (by omega) (by omega) (by omega) (by omega) (fun c12 => ?_) (fun c12 => ?_)
          · refine lv_iinc (v := iI (↑i + 1)) (lv' := [(3, .int (iI (↑i + 1))), (4, .ref (go + 10 + 80 * o + 5 * i)), (0, .ref go), (1, .int (iI ↑x)), (2, .ref (go + 10 + 80 * o + 5 * x))]) E.1 E.2.1 dX2_hasEarlierTwin_47 hl (k := 4) rfl (iI_inc rfl) (by decide) rfl (fun ls hl => ?_)
            refine lv_goto (tgt := 8) E.1 E.2.1 dX2_hasEarlierTwin_50 (by decide) ?_
            exact ih8 (i + 1) _ _ _ _ (by omega) (by omega) (by show (if twK T x i = 1 then (1 : Int) else smT (T i) (T x)) = 0; rw [if_neg (by omega)]; unfold smT; exact if_neg (by omega)) hMw hH (by omega) hG hTx (lv_sub hl [2, 3, 4, 0] rfl)
          · refine lv_iconst (v := iI 1) E.1 E.2.1 dX2_hasEarlierTwin_45 (by decide) ?_
            refine fw_zret (r := (iI 1)) E hr hlk hH (by rfl) ?_ dX2_hasEarlierTwin_46
            have h9 : twK T x (i + 1) = 1 := by show (if twK T x i = 1 then (1 : Int) else smT (T i) (T x)) = 1; rw [if_neg (by omega)]; unfold smT; exact if_pos ⟨by omega, by omega⟩
            exact ⟨by rw [twK_go h9 x (by omega)], hMw, hz⟩
  exact loop8_1 (x - 0 + 1) 0 _ _ _ _ (Nat.lt_succ_self _) (Nat.zero_le _) rfl rfl hH (by omega) hG (hG.tr hx) (lv_sub hl [2, 3, 1, 0] rfl)
theorem gcW.add {G : fw_G} {M M1 : fw_M} {go o : Nat} {lk : Int} {cn : Nat} {gn mi : Int} {T : Nat → aT} (h : gcW G M go o lk cn gn mi T) {t : aT} (hc : cn < 16) (ht : aTw G M1 (go + 10 + 80 * o + 5 * cn) t) (hd : M1 go = some (.inr (2, [.ref (go + 1), .ref (go + 3), .ref (go + 8 + o), .ref (go + 9 - o), .int (iI (↑(cn + 1) : Int)), .int (iI gn), .int (iI mi)]))) (hf : ∀ q, q ≠ go ∧ (q < go + 10 + 80 * o + 5 * cn ∨ go + 10 + 80 * o + 5 * cn + 5 ≤ q) → M1 q = M q) : gcW G M1 go o lk (cn + 1) gn mi (fun i => if i = cn then t else T i) := by
  obtain ⟨h0, h1, ⟨tl, h2⟩, h3, h4, h5, h6, h7, _⟩ := h
  refine ⟨h0, hd, ⟨tl, h2.fr (fun q q1 q2 => hf q (by omega))⟩, h3.fr (fun q q1 q2 => hf q (by omega)), h4.fr (fun q q1 q2 => hf q (by omega)), fun i hi => ?_, fun i hi => ?_, h7, hc⟩
  · by_cases e : i = cn
    · show aTw G M1 _ (if i = cn then t else T i)
      rw [if_pos e, e]; exact ht
    · show aTw G M1 _ (if i = cn then t else T i)
      rw [if_neg e]; exact (h5 i (by omega)).fr (fun q q1 q2 => hf q (by omega))
  · by_cases e : i = cn
    · rw [e]; exact ht.any
    · exact (h6 i hi).fr (fun q q1 q2 => hf q (by omega))
theorem k_gadd (l : Launch) (G : fw_G) (M : fw_M) (N : Nat) (go o cn : Nat) (lk gn mi : Int) (T : Nat → aT) (hG : gcW G M go o lk cn gn mi T) (po : Nat) (t : aT) (cs2 vs2 ss2 hs2 : Nat → Int) (lv2 : Int) (hO2 : trAt G M po cs2 vs2 ss2 hs2 ↑t.1 lv2) (hag : ∀ k, k < t.1 → cs2 k = t.2.1 k ∧ vs2 k = t.2.2.1 k ∧ True) (ht : vtOK t.1 t.2.1 t.2.2.1 t.2.2.2) (hc9 : cn < 16) (sp9 : po + 5 ≤ go) : fMet l yX2_add cX2_add 2 none 3 110 0 0 G M N [.ref go, .ref po] (fw_pv (fun M1 n1 => gcW G M1 go o lk (cn + 1) gn mi (fun i => if i = cn then t else T i) ∧ (∀ q, q ≠ go ∧ (q < go + 10 + 80 * o + 5 * cn ∨ go + 10 + 80 * o + 5 * cn + 5 ≤ q) → M1 q = M q) ∧ n1 = N)) := by
  refine fw_met RX2 rfl (by decide +kernel) (Nat.le_of_ble_eq_true rfl) ?_
  intro pG e s m args below meth cG ls E hr hlk hnm hK hH hz hl
  obtain ⟨hgb, ho1, hcn⟩ := hG.o1
  refine lv_aload_n E.1 E.2.1 dX2_add_0 rfl (lv_at hl 0 rfl) ?_
  refine fw_get E hK hH hG.2.1 fc_X2 4 (by decide) ql_RX2_36 rfl rfl dX2_add_1 ?_
  refine lv_bipush (v := iI 16) E.1 E.2.1 dX2_add_4 (by decide) ?_
  refine fw_icmp_ge (tgt := 31) E dX2_add_6 (by decide) (by omega) (by omega) (by omega) (by omega) (fun c1 => ?_) (fun c1 => ?_)
  · exact absurd c1 (by omega)
  · refine lv_aload_n E.1 E.2.1 dX2_add_9 rfl (lv_at hl 0 rfl) ?_
    refine lv_aload_n E.1 E.2.1 dX2_add_10 rfl (lv_at hl 0 rfl) ?_
    refine fw_get E hK hH hG.2.1 fc_X2 4 (by decide) ql_RX2_36 rfl rfl dX2_add_11 ?_
    refine fw_cV (As := [.int (iI ↑cn)]) (rest := []) E hK hH hl hG.2.1 fc_X2 fL_X2_tree ql_RX2_40 qi_yX2_tree qv_yX2_tree (k_treeG l G _ _ go o cn lk gn mi T hG cn (by omega)) rfl rfl (Nat.le_of_ble_eq_true rfl) ⟨Nat.le_of_ble_eq_true rfl, Nat.le_of_ble_eq_true rfl⟩ ⟨Nat.le_of_ble_eq_true rfl, Nat.le_of_ble_eq_true rfl⟩ dX2_add_14 (fw_kr fun r4 M3 H1 locs1 hp2 hH hz1 => ?_)
    obtain ⟨rfl, hM9, hz2⟩ := hp2
    replace hz := hz2.trans hz
    clear hz1 hz2
    rw [hM9] at hH
    refine lv_aload_n E.1 E.2.1 dX2_add_17 rfl (lv_at hl 1 rfl) ?_
    have hya : tany G M (go + 10 + 80 * o + 5 * cn) := hG.2.2.2.2.2.2.1 cn (by omega)
    obtain ⟨_, _, _, _, ua19, ub19, hob19, _⟩ := id hya
    have h0 := hG.2.1
    refine fw_cV (As := [.ref po]) (rest := []) E hK hH hl hob19.2.1 fc_X8 fL_X8_copyFrom ql_RX2_44 qi_yX8_copyFrom qv_yX8_copyFrom (k_copyR l G _ _ (go + 10 + 80 * o + 5 * cn) po t.1 t.2.1 t.2.2.1 cs2 vs2 ss2 hs2 lv2 t.2.2.2 hya hO2 hag ht (by omega)) rfl rfl (Nat.le_of_ble_eq_true rfl) ⟨Nat.le_of_ble_eq_true rfl, Nat.le_of_ble_eq_true rfl⟩ ⟨Nat.le_of_ble_eq_true rfl, Nat.le_of_ble_eq_true rfl⟩ dX2_add_18 (fw_kv fun M6 H1 locs1 hp5 hH hz1 => ?_)
    obtain ⟨hC, hfr, hz2⟩ := hp5
    replace hz := hz2.trans hz
    clear hz1 hz2
    have fr7 := hfr
    replace h0 : M6 go = some (.inr (2, [.ref (go + 1), .ref (go + 3), .ref (go + 8 + o), .ref (go + 9 - o), .int (iI ↑cn), .int (iI gn), .int (iI mi)])) := (fr7 _ (by omega)).trans h0
    refine lv_aload_n E.1 E.2.1 dX2_add_21 rfl (lv_at hl 0 rfl) ?_
    refine lv_dup E.1 E.2.1 dX2_add_22 rfl ?_
    refine fw_get E hK hH h0 fc_X2 4 (by decide) ql_RX2_36 rfl rfl dX2_add_23 ?_
    refine lv_iconst (v := iI 1) E.1 E.2.1 dX2_add_26 (by decide) ?_
    refine fw_iadd E dX2_add_27 ?_
    refine fw_put E hK hH (by omega) h0 fc_X2 4 (by decide) ql_RX2_36 rfl rfl rfl rfl (Nat.le_of_ble_eq_true rfl) dX2_add_28 (fun H1 locs1 hH hz1 => ?_)
    replace hz := hz1.trans hz; clear hz1
    obtain ⟨M8, hM9⟩ : ∃ MX, MX = fw_up M6 go (.inr (2, [.ref (go + 1), .ref (go + 3), .ref (go + 8 + o), .ref (go + 9 - o), .int (iI ((↑cn) + 1)), .int (iI gn), .int (iI mi)])) := ⟨_, rfl⟩
    replace hH := fw_H.nm hM9 hH
    have fr10 : ∀ q, q ≠ go → M8 q = M6 q := fun q h => by rw [hM9]; exact fw_up_ne h
    replace hC := aTw.fr hC (fun q h1 h2 => fr10 q (by omega))
    have h0 : M8 go = some (.inr (2, [.ref (go + 1), .ref (go + 3), .ref (go + 8 + o), .ref (go + 9 - o), .int (iI ((↑cn) + 1)), .int (iI gn), .int (iI mi)])) := by rw [hM9]; exact fw_up_eq
    refine fw_vret E hr hlk hH ?_ dX2_add_31
    have hfa : ∀ q, q ≠ go ∧ (q < go + 10 + 80 * o + 5 * cn ∨ go + 10 + 80 * o + 5 * cn + 5 ≤ q) → M8 q = M q := (fun q hq => by rw [fr10 q (by omega), fr7 q (by omega)])
    exact ⟨hG.add hc9 hC (by rw [show ((↑(cn + 1) : Int)) = ↑cn + 1 by omega]; exact h0) hfa, hfa, hz⟩

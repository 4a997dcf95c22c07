def md0 (G : fw_G) (M : fw_M) (b : Nat) : Prop := G.2.2.1 ≤ b ∧ M b = some (.inr (10, [.ref (b + 1), .int (iI 0), .ref (b + 2), .int (iI 0), .int (iI 0), .ref (b + 3), .int (iI 0), .ref (b + 4), .ref (b + 5), .int (iI 0), .int (iI 1), .int (iI 0), .ref (b + 6), .int (iI 0), .int (iI 70), .int (iI 20), .int (iI 5), .int (iI 2), .int (iI 1), .int (iI 0), .int (iI 0)])) ∧ M (b + 1) = some (fI G 41 (fun j0 => iI (z0 j0))) ∧ M (b + 2) = some (fI G 40 (fun j0 => iI (z0 j0))) ∧ M (b + 4) = some (fI G 36 (fun j0 => iI (z0 j0))) ∧ M (b + 5) = some (fI G 12 (fun j0 => iI (z0 j0))) ∧ M (b + 6) = some (fI G 40 (fun j0 => iI (z0 j0)))
theorem md0.fr {G : fw_G} {M M1 : fw_M} {b : Nat} (h : md0 G M b) (hf : ∀ q, b ≤ q → q < b + 7 → M1 q = M q) : md0 G M1 b := by
  obtain ⟨h0, h1, h2, h3, h4, h5, h6⟩ := h
  exact ⟨h0, (hf _ (by omega) (by omega)).trans h1, (hf _ (by omega) (by omega)).trans h2, (hf _ (by omega) (by omega)).trans h3, (hf _ (by omega) (by omega)).trans h4, (hf _ (by omega) (by omega)).trans h5, (hf _ (by omega) (by omega)).trans h6⟩
def mth (M : fw_M) (b : Nat) (k : Int) : Prop := ∃ fs : List Value, M b = some (.inr (10, fs)) ∧ fs[1]? = some (.int (iI k))
theorem zP {c : Int} (h : 0 ≤ c ∧ c ≤ 13) : zPARTS c.toNat = if c ≤ 1 then 0 else if c < 8 ∨ c = 9 ∨ c = 10 then 2 else if c = 8 then 3 else if c = 13 then 1 else 2 := by
  rcases (show c = 0 ∨ c = 1 ∨ c = 2 ∨ c = 3 ∨ c = 4 ∨ c = 5 ∨ c = 6 ∨ c = 7 ∨ c = 8 ∨ c = 9 ∨ c = 10 ∨ c = 11 ∨ c = 12 ∨ c = 13 by omega) with rfl | rfl | rfl | rfl | rfl | rfl | rfl | rfl | rfl | rfl | rfl | rfl | rfl | rfl <;> decide
set_option maxHeartbeats 4000000 in
theorem k_Model_init (l : Launch) (G : fw_G) (M : fw_M) (N : Nat) (b : Nat) (hb : G.2.2.1 ≤ b) (ha : M b = some (.inr (10, [.null, .int 0, .null, .int 0, .int 0, .null, .int 0, .null, .null, .int 0, .int 0, .int 0, .null, .int 0, .int 0, .int 0, .int 0, .int 0, .int 0, .int 0, .int 0]))) (hN : N = b + 1) : fMet l yX10_init cX10_init 1 none 1 14 6 185 G M N [.ref b] (fw_pv (fun M1 n1 => md0 G M1 b ∧ n1 = b + 7 ∧ ∀ q, q < b → M1 q = M q)) := by
  refine fw_met RX10 rfl (by decide +kernel) (Nat.le_of_ble_eq_true rfl) ?_
  intro p e s m args below meth c ls E hr hlk hnm hK hH hz hl
  have hz := hz.trans hN
  refine lv_aload_n E.1 E.2.1 dX10_init_0 rfl (lv_at hl 0 rfl) ?_
  refine fw_obj E ql_RX10_121 qi_obj qc_obj hl dX10_init_1 ⟨by decide, by decide⟩ ?_
  refine lv_aload_n E.1 E.2.1 dX10_init_4 rfl (lv_at hl 0 rfl) ?_
  refine lv_bipush (v := iI 41) E.1 E.2.1 dX10_init_5 (by decide) ?_
  refine fw_newI (N := 41) E hK hH hz qa_int (by decide) (by decide) (by decide) ⟨Nat.le_of_ble_eq_true rfl, Nat.le_of_ble_eq_true rfl⟩ dX10_init_7 (fun H1 hH hz1 => ?_)
  replace hz : H1.size = b + 2 := by omega
  clear hz1
  obtain ⟨M1, hM2⟩ : ∃ MX, MX = fw_up M (b + 1) (fI G 41 (fun j0 => iI (z0 j0))) := ⟨_, rfl⟩
  replace hH := fw_H.nm hM2 hH
  have fr3 : ∀ q, q ≠ b + 1 → M1 q = M q := fun q h => by rw [hM2]; exact fw_up_ne h
  replace ha : M1 b = some (.inr (10, [.null, .int 0, .null, .int 0, .int 0, .null, .int 0, .null, .null, .int 0, .int 0, .int 0, .null, .int 0, .int 0, .int 0, .int 0, .int 0, .int 0, .int 0, .int 0])) := (fr3 _ (by omega)).trans ha
  have hn0 : M1 (b + 1) = some (fI G 41 (fun j0 => iI (z0 j0))) := by rw [hM2]; exact fw_up_eq
  refine fw_putF E hK hH (by omega) ha fc_X10 0 (by decide) ql_RX10_72 rfl rfl hnm rfl rfl (Nat.le_of_ble_eq_true rfl) dX10_init_9 (fun H1 locs1 hH hz1 => ?_)
  replace hz := hz1.trans hz; clear hz1
  obtain ⟨M4, hM5⟩ : ∃ MX, MX = fw_up M1 b (.inr (10, [.ref (b + 1), .int 0, .null, .int 0, .int 0, .null, .int 0, .null, .null, .int 0, .int 0, .int 0, .null, .int 0, .int 0, .int 0, .int 0, .int 0, .int 0, .int 0, .int 0])) := ⟨_, rfl⟩
  replace hH := fw_H.nm hM5 hH
  have fr6 : ∀ q, q ≠ b → M4 q = M1 q := fun q h => by rw [hM5]; exact fw_up_ne h
  replace hn0 : M4 (b + 1) = some (fI G 41 (fun j0 => iI (z0 j0))) := (fr6 _ (by omega)).trans hn0
  have ha : M4 b = some (.inr (10, [.ref (b + 1), .int 0, .null, .int 0, .int 0, .null, .int 0, .null, .null, .int 0, .int 0, .int 0, .null, .int 0, .int 0, .int 0, .int 0, .int 0, .int 0, .int 0, .int 0])) := by rw [hM5]; exact fw_up_eq
  refine lv_aload_n E.1 E.2.1 dX10_init_12 rfl (lv_at hl 0 rfl) ?_
  refine lv_bipush (v := iI 40) E.1 E.2.1 dX10_init_13 (by decide) ?_
  refine fw_newI (N := 40) E hK hH hz qa_int (by decide) (by decide) (by decide) ⟨Nat.le_of_ble_eq_true rfl, Nat.le_of_ble_eq_true rfl⟩ dX10_init_15 (fun H1 hH hz1 => ?_)
  replace hz : H1.size = b + 3 := by omega
  clear hz1
  obtain ⟨M7, hM8⟩ : ∃ MX, MX = fw_up M4 (b + 2) (fI G 40 (fun j0 => iI (z0 j0))) := ⟨_, rfl⟩
  replace hH := fw_H.nm hM8 hH
  have fr9 : ∀ q, q ≠ b + 2 → M7 q = M4 q := fun q h => by rw [hM8]; exact fw_up_ne h
  replace hn0 : M7 (b + 1) = some (fI G 41 (fun j0 => iI (z0 j0))) := (fr9 _ (by omega)).trans hn0
  replace ha : M7 b = some (.inr (10, [.ref (b + 1), .int 0, .null, .int 0, .int 0, .null, .int 0, .null, .null, .int 0, .int 0, .int 0, .null, .int 0, .int 0, .int 0, .int 0, .int 0, .int 0, .int 0, .int 0])) := (fr9 _ (by omega)).trans ha
  have hn1 : M7 (b + 2) = some (fI G 40 (fun j0 => iI (z0 j0))) := by rw [hM8]; exact fw_up_eq
  refine fw_putF E hK hH (by omega) ha fc_X10 2 (by decide) ql_RX10_127 rfl rfl hnm rfl rfl (Nat.le_of_ble_eq_true rfl) dX10_init_17 (fun H1 locs1 hH hz1 => ?_)
  replace hz := hz1.trans hz; clear hz1
  obtain ⟨M10, hM11⟩ : ∃ MX, MX = fw_up M7 b (.inr (10, [.ref (b + 1), .int 0, .ref (b + 2), .int 0, .int 0, .null, .int 0, .null, .null, .int 0, .int 0, .int 0, .null, .int 0, .int 0, .int 0, .int 0, .int 0, .int 0, .int 0, .int 0])) := ⟨_, rfl⟩
  replace hH := fw_H.nm hM11 hH
  have fr12 : ∀ q, q ≠ b → M10 q = M7 q := fun q h => by rw [hM11]; exact fw_up_ne h
  replace hn0 : M10 (b + 1) = some (fI G 41 (fun j0 => iI (z0 j0))) := (fr12 _ (by omega)).trans hn0
  replace hn1 : M10 (b + 2) = some (fI G 40 (fun j0 => iI (z0 j0))) := (fr12 _ (by omega)).trans hn1
  have ha : M10 b = some (.inr (10, [.ref (b + 1), .int 0, .ref (b + 2), .int 0, .int 0, .null, .int 0, .null, .null, .int 0, .int 0, .int 0, .null, .int 0, .int 0, .int 0, .int 0, .int 0, .int 0, .int 0, .int 0])) := by rw [hM11]; exact fw_up_eq
  refine lv_aload_n E.1 E.2.1 dX10_init_20 rfl (lv_at hl 0 rfl) ?_
  refine lv_bipush (v := iI 16) E.1 E.2.1 dX10_init_21 (by decide) ?_
  refine fw_newU (N := 16) E hH hz ql_RX10_130 qo_arr (by decide) (by decide) (by decide) ⟨Nat.le_of_ble_eq_true rfl, Nat.le_of_ble_eq_true rfl⟩ dX10_init_23 (fun H1 hH hz1 => ?_)
  replace hz : H1.size = b + 4 := by omega
  clear hz1
  refine fw_put E hK hH (by omega) ha fc_X10 5 (by decide) ql_RX10_131 rfl rfl rfl rfl (Nat.le_of_ble_eq_true rfl) dX10_init_26 (fun H1 locs1 hH hz1 => ?_)
  replace hz := hz1.trans hz; clear hz1
  obtain ⟨M13, hM14⟩ : ∃ MX, MX = fw_up M10 b (.inr (10, [.ref (b + 1), .int 0, .ref (b + 2), .int 0, .int 0, .ref (b + 3), .int 0, .null, .null, .int 0, .int 0, .int 0, .null, .int 0, .int 0, .int 0, .int 0, .int 0, .int 0, .int 0, .int 0])) := ⟨_, rfl⟩
  replace hH := fw_H.nm hM14 hH
  have fr15 : ∀ q, q ≠ b → M13 q = M10 q := fun q h => by rw [hM14]; exact fw_up_ne h
  replace hn0 : M13 (b + 1) = some (fI G 41 (fun j0 => iI (z0 j0))) := (fr15 _ (by omega)).trans hn0
  replace hn1 : M13 (b + 2) = some (fI G 40 (fun j0 => iI (z0 j0))) := (fr15 _ (by omega)).trans hn1
  have ha : M13 b = some (.inr (10, [.ref (b + 1), .int 0, .ref (b + 2), .int 0, .int 0, .ref (b + 3), .int 0, .null, .null, .int 0, .int 0, .int 0, .null, .int 0, .int 0, .int 0, .int 0, .int 0, .int 0, .int 0, .int 0])) := by rw [hM14]; exact fw_up_eq
  refine lv_aload_n E.1 E.2.1 dX10_init_29 rfl (lv_at hl 0 rfl) ?_
  refine lv_bipush (v := iI 36) E.1 E.2.1 dX10_init_30 (by decide) ?_
  refine fw_newI (N := 36) E hK hH hz qa_int (by decide) (by decide) (by decide) ⟨Nat.le_of_ble_eq_true rfl, Nat.le_of_ble_eq_true rfl⟩ dX10_init_32 (fun H1 hH hz1 => ?_)
  replace hz : H1.size = b + 5 := by omega
  clear hz1
  obtain ⟨M16, hM17⟩ : ∃ MX, MX = fw_up M13 (b + 4) (fI G 36 (fun j0 => iI (z0 j0))) := ⟨_, rfl⟩
  replace hH := fw_H.nm hM17 hH
  have fr18 : ∀ q, q ≠ b + 4 → M16 q = M13 q := fun q h => by rw [hM17]; exact fw_up_ne h
  replace hn0 : M16 (b + 1) = some (fI G 41 (fun j0 => iI (z0 j0))) := (fr18 _ (by omega)).trans hn0
  replace hn1 : M16 (b + 2) = some (fI G 40 (fun j0 => iI (z0 j0))) := (fr18 _ (by omega)).trans hn1
  replace ha : M16 b = some (.inr (10, [.ref (b + 1), .int 0, .ref (b + 2), .int 0, .int 0, .ref (b + 3), .int 0, .null, .null, .int 0, .int 0, .int 0, .null, .int 0, .int 0, .int 0, .int 0, .int 0, .int 0, .int 0, .int 0])) := (fr18 _ (by omega)).trans ha
  have hn2 : M16 (b + 4) = some (fI G 36 (fun j0 => iI (z0 j0))) := by rw [hM17]; exact fw_up_eq
  refine fw_putF E hK hH (by omega) ha fc_X10 7 (by decide) ql_RX10_135 rfl rfl hnm rfl rfl (Nat.le_of_ble_eq_true rfl) dX10_init_34 (fun H1 locs1 hH hz1 => ?_)
  replace hz := hz1.trans hz; clear hz1
  obtain ⟨M19, hM20⟩ : ∃ MX, MX = fw_up M16 b (.inr (10, [.ref (b + 1), .int 0, .ref (b + 2), .int 0, .int 0, .ref (b + 3), .int 0, .ref (b + 4), .null, .int 0, .int 0, .int 0, .null, .int 0, .int 0, .int 0, .int 0, .int 0, .int 0, .int 0, .int 0])) := ⟨_, rfl⟩
  replace hH := fw_H.nm hM20 hH
  have fr21 : ∀ q, q ≠ b → M19 q = M16 q := fun q h => by rw [hM20]; exact fw_up_ne h
  replace hn0 : M19 (b + 1) = some (fI G 41 (fun j0 => iI (z0 j0))) := (fr21 _ (by omega)).trans hn0
  replace hn1 : M19 (b + 2) = some (fI G 40 (fun j0 => iI (z0 j0))) := (fr21 _ (by omega)).trans hn1
  replace hn2 : M19 (b + 4) = some (fI G 36 (fun j0 => iI (z0 j0))) := (fr21 _ (by omega)).trans hn2
  have ha : M19 b = some (.inr (10, [.ref (b + 1), .int 0, .ref (b + 2), .int 0, .int 0, .ref (b + 3), .int 0, .ref (b + 4), .null, .int 0, .int 0, .int 0, .null, .int 0, .int 0, .int 0, .int 0, .int 0, .int 0, .int 0, .int 0])) := by rw [hM20]; exact fw_up_eq
  refine lv_aload_n E.1 E.2.1 dX10_init_37 rfl (lv_at hl 0 rfl) ?_
  refine lv_bipush (v := iI 12) E.1 E.2.1 dX10_init_38 (by decide) ?_
  refine fw_newI (N := 12) E hK hH hz qa_int (by decide) (by decide) (by decide) ⟨Nat.le_of_ble_eq_true rfl, Nat.le_of_ble_eq_true rfl⟩ dX10_init_40 (fun H1 hH hz1 => ?_)
  replace hz : H1.size = b + 6 := by omega
  clear hz1
  obtain ⟨M22, hM23⟩ : ∃ MX, MX = fw_up M19 (b + 5) (fI G 12 (fun j0 => iI (z0 j0))) := ⟨_, rfl⟩
  replace hH := fw_H.nm hM23 hH
  have fr24 : ∀ q, q ≠ b + 5 → M22 q = M19 q := fun q h => by rw [hM23]; exact fw_up_ne h
  replace hn0 : M22 (b + 1) = some (fI G 41 (fun j0 => iI (z0 j0))) := (fr24 _ (by omega)).trans hn0
  replace hn1 : M22 (b + 2) = some (fI G 40 (fun j0 => iI (z0 j0))) := (fr24 _ (by omega)).trans hn1
  replace hn2 : M22 (b + 4) = some (fI G 36 (fun j0 => iI (z0 j0))) := (fr24 _ (by omega)).trans hn2
  replace ha : M22 b = some (.inr (10, [.ref (b + 1), .int 0, .ref (b + 2), .int 0, .int 0, .ref (b + 3), .int 0, .ref (b + 4), .null, .int 0, .int 0, .int 0, .null, .int 0, .int 0, .int 0, .int 0, .int 0, .int 0, .int 0, .int 0])) := (fr24 _ (by omega)).trans ha
  have hn3 : M22 (b + 5) = some (fI G 12 (fun j0 => iI (z0 j0))) := by rw [hM23]; exact fw_up_eq
  refine fw_putF E hK hH (by omega) ha fc_X10 8 (by decide) ql_RX10_138 rfl rfl hnm rfl rfl (Nat.le_of_ble_eq_true rfl) dX10_init_42 (fun H1 locs1 hH hz1 => ?_)
  replace hz := hz1.trans hz; clear hz1
  obtain ⟨M25, hM26⟩ : ∃ MX, MX = fw_up M22 b (.inr (10, [.ref (b + 1), .int 0, .ref (b + 2), .int 0, .int 0, .ref (b + 3), .int 0, .ref (b + 4), .ref (b + 5), .int 0, .int 0, .int 0, .null, .int 0, .int 0, .int 0, .int 0, .int 0, .int 0, .int 0, .int 0])) := ⟨_, rfl⟩
  replace hH := fw_H.nm hM26 hH
  have fr27 : ∀ q, q ≠ b → M25 q = M22 q := fun q h => by rw [hM26]; exact fw_up_ne h
  replace hn0 : M25 (b + 1) = some (fI G 41 (fun j0 => iI (z0 j0))) := (fr27 _ (by omega)).trans hn0
  replace hn1 : M25 (b + 2) = some (fI G 40 (fun j0 => iI (z0 j0))) := (fr27 _ (by omega)).trans hn1
  replace hn2 : M25 (b + 4) = some (fI G 36 (fun j0 => iI (z0 j0))) := (fr27 _ (by omega)).trans hn2
  replace hn3 : M25 (b + 5) = some (fI G 12 (fun j0 => iI (z0 j0))) := (fr27 _ (by omega)).trans hn3
  have ha : M25 b = some (.inr (10, [.ref (b + 1), .int 0, .ref (b + 2), .int 0, .int 0, .ref (b + 3), .int 0, .ref (b + 4), .ref (b + 5), .int 0, .int 0, .int 0, .null, .int 0, .int 0, .int 0, .int 0, .int 0, .int 0, .int 0, .int 0])) := by rw [hM26]; exact fw_up_eq
  refine lv_aload_n E.1 E.2.1 dX10_init_45 rfl (lv_at hl 0 rfl) ?_
  refine lv_iconst (v := iI 1) E.1 E.2.1 dX10_init_46 (by decide) ?_
  refine fw_put E hK hH (by omega) ha fc_X10 10 (by decide) ql_RX10_141 rfl rfl rfl rfl (Nat.le_of_ble_eq_true rfl) dX10_init_47 (fun H1 locs1 hH hz1 => ?_)
  replace hz := hz1.trans hz; clear hz1
  obtain ⟨M28, hM29⟩ : ∃ MX, MX = fw_up M25 b (.inr (10, [.ref (b + 1), .int 0, .ref (b + 2), .int 0, .int 0, .ref (b + 3), .int 0, .ref (b + 4), .ref (b + 5), .int 0, .int (iI 1), .int 0, .null, .int 0, .int 0, .int 0, .int 0, .int 0, .int 0, .int 0, .int 0])) := ⟨_, rfl⟩
  replace hH := fw_H.nm hM29 hH
  have fr30 : ∀ q, q ≠ b → M28 q = M25 q := fun q h => by rw [hM29]; exact fw_up_ne h
  replace hn0 : M28 (b + 1) = some (fI G 41 (fun j0 => iI (z0 j0))) := (fr30 _ (by omega)).trans hn0
  replace hn1 : M28 (b + 2) = some (fI G 40 (fun j0 => iI (z0 j0))) := (fr30 _ (by omega)).trans hn1
  replace hn2 : M28 (b + 4) = some (fI G 36 (fun j0 => iI (z0 j0))) := (fr30 _ (by omega)).trans hn2
  replace hn3 : M28 (b + 5) = some (fI G 12 (fun j0 => iI (z0 j0))) := (fr30 _ (by omega)).trans hn3
  have ha : M28 b = some (.inr (10, [.ref (b + 1), .int 0, .ref (b + 2), .int 0, .int 0, .ref (b + 3), .int 0, .ref (b + 4), .ref (b + 5), .int 0, .int (iI 1), .int 0, .null, .int 0, .int 0, .int 0, .int 0, .int 0, .int 0, .int 0, .int 0])) := by rw [hM29]; exact fw_up_eq
  refine lv_aload_n E.1 E.2.1 dX10_init_50 rfl (lv_at hl 0 rfl) ?_
  refine lv_bipush (v := iI 40) E.1 E.2.1 dX10_init_51 (by decide) ?_
  refine fw_newI (N := 40) E hK hH hz qa_int (by decide) (by decide) (by decide) ⟨Nat.le_of_ble_eq_true rfl, Nat.le_of_ble_eq_true rfl⟩ dX10_init_53 (fun H1 hH hz1 => ?_)
  replace hz : H1.size = b + 7 := by omega
  clear hz1
  obtain ⟨M31, hM32⟩ : ∃ MX, MX = fw_up M28 (b + 6) (fI G 40 (fun j0 => iI (z0 j0))) := ⟨_, rfl⟩
  replace hH := fw_H.nm hM32 hH
  have fr33 : ∀ q, q ≠ b + 6 → M31 q = M28 q := fun q h => by rw [hM32]; exact fw_up_ne h
  replace hn0 : M31 (b + 1) = some (fI G 41 (fun j0 => iI (z0 j0))) := (fr33 _ (by omega)).trans hn0
  replace hn1 : M31 (b + 2) = some (fI G 40 (fun j0 => iI (z0 j0))) := (fr33 _ (by omega)).trans hn1
  replace hn2 : M31 (b + 4) = some (fI G 36 (fun j0 => iI (z0 j0))) := (fr33 _ (by omega)).trans hn2
  replace hn3 : M31 (b + 5) = some (fI G 12 (fun j0 => iI (z0 j0))) := (fr33 _ (by omega)).trans hn3
  replace ha : M31 b = some (.inr (10, [.ref (b + 1), .int 0, .ref (b + 2), .int 0, .int 0, .ref (b + 3), .int 0, .ref (b + 4), .ref (b + 5), .int 0, .int (iI 1), .int 0, .null, .int 0, .int 0, .int 0, .int 0, .int 0, .int 0, .int 0, .int 0])) := (fr33 _ (by omega)).trans ha
  have hn4 : M31 (b + 6) = some (fI G 40 (fun j0 => iI (z0 j0))) := by rw [hM32]; exact fw_up_eq
  refine fw_put E hK hH (by omega) ha fc_X10 12 (by decide) ql_RX10_145 rfl rfl rfl rfl (Nat.le_of_ble_eq_true rfl) dX10_init_55 (fun H1 locs1 hH hz1 => ?_)
  replace hz := hz1.trans hz; clear hz1
  obtain ⟨M34, hM35⟩ : ∃ MX, MX = fw_up M31 b (.inr (10, [.ref (b + 1), .int 0, .ref (b + 2), .int 0, .int 0, .ref (b + 3), .int 0, .ref (b + 4), .ref (b + 5), .int 0, .int (iI 1), .int 0, .ref (b + 6), .int 0, .int 0, .int 0, .int 0, .int 0, .int 0, .int 0, .int 0])) := ⟨_, rfl⟩
  replace hH := fw_H.nm hM35 hH
  have fr36 : ∀ q, q ≠ b → M34 q = M31 q := fun q h => by rw [hM35]; exact fw_up_ne h
  replace hn0 : M34 (b + 1) = some (fI G 41 (fun j0 => iI (z0 j0))) := (fr36 _ (by omega)).trans hn0
  replace hn1 : M34 (b + 2) = some (fI G 40 (fun j0 => iI (z0 j0))) := (fr36 _ (by omega)).trans hn1
  replace hn2 : M34 (b + 4) = some (fI G 36 (fun j0 => iI (z0 j0))) := (fr36 _ (by omega)).trans hn2
  replace hn3 : M34 (b + 5) = some (fI G 12 (fun j0 => iI (z0 j0))) := (fr36 _ (by omega)).trans hn3
  replace hn4 : M34 (b + 6) = some (fI G 40 (fun j0 => iI (z0 j0))) := (fr36 _ (by omega)).trans hn4
  have ha : M34 b = some (.inr (10, [.ref (b + 1), .int 0, .ref (b + 2), .int 0, .int 0, .ref (b + 3), .int 0, .ref (b + 4), .ref (b + 5), .int 0, .int (iI 1), .int 0, .ref (b + 6), .int 0, .int 0, .int 0, .int 0, .int 0, .int 0, .int 0, .int 0])) := by rw [hM35]; exact fw_up_eq
  refine lv_aload_n E.1 E.2.1 dX10_init_58 rfl (lv_at hl 0 rfl) ?_
  refine lv_bipush (v := iI 70) E.1 E.2.1 dX10_init_59 (by decide) ?_
  refine fw_put E hK hH (by omega) ha fc_X10 14 (by decide) ql_RX10_148 rfl rfl rfl rfl (Nat.le_of_ble_eq_true rfl) dX10_init_61 (fun H1 locs1 hH hz1 => ?_)
  replace hz := hz1.trans hz; clear hz1
  obtain ⟨M37, hM38⟩ : ∃ MX, MX = fw_up M34 b (.inr (10, [.ref (b + 1), .int 0, .ref (b + 2), .int 0, .int 0, .ref (b + 3), .int 0, .ref (b + 4), .ref (b + 5), .int 0, .int (iI 1), .int 0, .ref (b + 6), .int 0, .int (iI 70), .int 0, .int 0, .int 0, .int 0, .int 0, .int 0])) := ⟨_, rfl⟩
  replace hH := fw_H.nm hM38 hH
  have fr39 : ∀ q, q ≠ b → M37 q = M34 q := fun q h => by rw [hM38]; exact fw_up_ne h
  replace hn0 : M37 (b + 1) = some (fI G 41 (fun j0 => iI (z0 j0))) := (fr39 _ (by omega)).trans hn0
  replace hn1 : M37 (b + 2) = some (fI G 40 (fun j0 => iI (z0 j0))) := (fr39 _ (by omega)).trans hn1
  replace hn2 : M37 (b + 4) = some (fI G 36 (fun j0 => iI (z0 j0))) := (fr39 _ (by omega)).trans hn2
  replace hn3 : M37 (b + 5) = some (fI G 12 (fun j0 => iI (z0 j0))) := (fr39 _ (by omega)).trans hn3
  replace hn4 : M37 (b + 6) = some (fI G 40 (fun j0 => iI (z0 j0))) := (fr39 _ (by omega)).trans hn4
  have ha : M37 b = some (.inr (10, [.ref (b + 1), .int 0, .ref (b + 2), .int 0, .int 0, .ref (b + 3), .int 0, .ref (b + 4), .ref (b + 5), .int 0, .int (iI 1), .int 0, .ref (b + 6), .int 0, .int (iI 70), .int 0, .int 0, .int 0, .int 0, .int 0, .int 0])) := by rw [hM38]; exact fw_up_eq
  refine lv_aload_n E.1 E.2.1 dX10_init_64 rfl (lv_at hl 0 rfl) ?_
  refine lv_bipush (v := iI 20) E.1 E.2.1 dX10_init_65 (by decide) ?_
  refine fw_put E hK hH (by omega) ha fc_X10 15 (by decide) ql_RX10_151 rfl rfl rfl rfl (Nat.le_of_ble_eq_true rfl) dX10_init_67 (fun H1 locs1 hH hz1 => ?_)
  replace hz := hz1.trans hz; clear hz1
  obtain ⟨M40, hM41⟩ : ∃ MX, MX = fw_up M37 b (.inr (10, [.ref (b + 1), .int 0, .ref (b + 2), .int 0, .int 0, .ref (b + 3), .int 0, .ref (b + 4), .ref (b + 5), .int 0, .int (iI 1), .int 0, .ref (b + 6), .int 0, .int (iI 70), .int (iI 20), .int 0, .int 0, .int 0, .int 0, .int 0])) := ⟨_, rfl⟩
  replace hH := fw_H.nm hM41 hH
  have fr42 : ∀ q, q ≠ b → M40 q = M37 q := fun q h => by rw [hM41]; exact fw_up_ne h
  replace hn0 : M40 (b + 1) = some (fI G 41 (fun j0 => iI (z0 j0))) := (fr42 _ (by omega)).trans hn0
  replace hn1 : M40 (b + 2) = some (fI G 40 (fun j0 => iI (z0 j0))) := (fr42 _ (by omega)).trans hn1
  replace hn2 : M40 (b + 4) = some (fI G 36 (fun j0 => iI (z0 j0))) := (fr42 _ (by omega)).trans hn2
  replace hn3 : M40 (b + 5) = some (fI G 12 (fun j0 => iI (z0 j0))) := (fr42 _ (by omega)).trans hn3
  replace hn4 : M40 (b + 6) = some (fI G 40 (fun j0 => iI (z0 j0))) := (fr42 _ (by omega)).trans hn4
  have ha : M40 b = some (.inr (10, [.ref (b + 1), .int 0, .ref (b + 2), .int 0, .int 0, .ref (b + 3), .int 0, .ref (b + 4), .ref (b + 5), .int 0, .int (iI 1), .int 0, .ref (b + 6), .int 0, .int (iI 70), .int (iI 20), .int 0, .int 0, .int 0, .int 0, .int 0])) := by rw [hM41]; exact fw_up_eq
  refine lv_aload_n E.1 E.2.1 dX10_init_70 rfl (lv_at hl 0 rfl) ?_
  refine lv_iconst (v := iI 5) E.1 E.2.1 dX10_init_71 (by decide) ?_
  refine fw_put E hK hH (by omega) ha fc_X10 16 (by decide) ql_RX10_154 rfl rfl rfl rfl (Nat.le_of_ble_eq_true rfl) dX10_init_72 (fun H1 locs1 hH hz1 => ?_)
  replace hz := hz1.trans hz; clear hz1
  obtain ⟨M43, hM44⟩ : ∃ MX, MX = fw_up M40 b (.inr (10, [.ref (b + 1), .int 0, .ref (b + 2), .int 0, .int 0, .ref (b + 3), .int 0, .ref (b + 4), .ref (b + 5), .int 0, .int (iI 1), .int 0, .ref (b + 6), .int 0, .int (iI 70), .int (iI 20), .int (iI 5), .int 0, .int 0, .int 0, .int 0])) := ⟨_, rfl⟩
  replace hH := fw_H.nm hM44 hH
  have fr45 : ∀ q, q ≠ b → M43 q = M40 q := fun q h => by rw [hM44]; exact fw_up_ne h
  replace hn0 : M43 (b + 1) = some (fI G 41 (fun j0 => iI (z0 j0))) := (fr45 _ (by omega)).trans hn0
  replace hn1 : M43 (b + 2) = some (fI G 40 (fun j0 => iI (z0 j0))) := (fr45 _ (by omega)).trans hn1
  replace hn2 : M43 (b + 4) = some (fI G 36 (fun j0 => iI (z0 j0))) := (fr45 _ (by omega)).trans hn2
  replace hn3 : M43 (b + 5) = some (fI G 12 (fun j0 => iI (z0 j0))) := (fr45 _ (by omega)).trans hn3
  replace hn4 : M43 (b + 6) = some (fI G 40 (fun j0 => iI (z0 j0))) := (fr45 _ (by omega)).trans hn4
  have ha : M43 b = some (.inr (10, [.ref (b + 1), .int 0, .ref (b + 2), .int 0, .int 0, .ref (b + 3), .int 0, .ref (b + 4), .ref (b + 5), .int 0, .int (iI 1), .int 0, .ref (b + 6), .int 0, .int (iI 70), .int (iI 20), .int (iI 5), .int 0, .int 0, .int 0, .int 0])) := by rw [hM44]; exact fw_up_eq
  refine lv_aload_n E.1 E.2.1 dX10_init_75 rfl (lv_at hl 0 rfl) ?_
  refine lv_iconst (v := iI 2) E.1 E.2.1 dX10_init_76 (by decide) ?_
  refine fw_put E hK hH (by omega) ha fc_X10 17 (by decide) ql_RX10_157 rfl rfl rfl rfl (Nat.le_of_ble_eq_true rfl) dX10_init_77 (fun H1 locs1 hH hz1 => ?_)
  replace hz := hz1.trans hz; clear hz1
  obtain ⟨M46, hM47⟩ : ∃ MX, MX = fw_up M43 b (.inr (10, [.ref (b + 1), .int 0, .ref (b + 2), .int 0, .int 0, .ref (b + 3), .int 0, .ref (b + 4), .ref (b + 5), .int 0, .int (iI 1), .int 0, .ref (b + 6), .int 0, .int (iI 70), .int (iI 20), .int (iI 5), .int (iI 2), .int 0, .int 0, .int 0])) := ⟨_, rfl⟩
  replace hH := fw_H.nm hM47 hH
  have fr48 : ∀ q, q ≠ b → M46 q = M43 q := fun q h => by rw [hM47]; exact fw_up_ne h
  replace hn0 : M46 (b + 1) = some (fI G 41 (fun j0 => iI (z0 j0))) := (fr48 _ (by omega)).trans hn0
  replace hn1 : M46 (b + 2) = some (fI G 40 (fun j0 => iI (z0 j0))) := (fr48 _ (by omega)).trans hn1
  replace hn2 : M46 (b + 4) = some (fI G 36 (fun j0 => iI (z0 j0))) := (fr48 _ (by omega)).trans hn2
  replace hn3 : M46 (b + 5) = some (fI G 12 (fun j0 => iI (z0 j0))) := (fr48 _ (by omega)).trans hn3
  replace hn4 : M46 (b + 6) = some (fI G 40 (fun j0 => iI (z0 j0))) := (fr48 _ (by omega)).trans hn4
  have ha : M46 b = some (.inr (10, [.ref (b + 1), .int 0, .ref (b + 2), .int 0, .int 0, .ref (b + 3), .int 0, .ref (b + 4), .ref (b + 5), .int 0, .int (iI 1), .int 0, .ref (b + 6), .int 0, .int (iI 70), .int (iI 20), .int (iI 5), .int (iI 2), .int 0, .int 0, .int 0])) := by rw [hM47]; exact fw_up_eq
  refine lv_aload_n E.1 E.2.1 dX10_init_80 rfl (lv_at hl 0 rfl) ?_
  refine lv_iconst (v := iI 1) E.1 E.2.1 dX10_init_81 (by decide) ?_
  refine fw_put E hK hH (by omega) ha fc_X10 18 (by decide) ql_RX10_160 rfl rfl rfl rfl (Nat.le_of_ble_eq_true rfl) dX10_init_82 (fun H1 locs1 hH hz1 => ?_)
  replace hz := hz1.trans hz; clear hz1
  obtain ⟨M49, hM50⟩ : ∃ MX, MX = fw_up M46 b (.inr (10, [.ref (b + 1), .int 0, .ref (b + 2), .int 0, .int 0, .ref (b + 3), .int 0, .ref (b + 4), .ref (b + 5), .int 0, .int (iI 1), .int 0, .ref (b + 6), .int 0, .int (iI 70), .int (iI 20), .int (iI 5), .int (iI 2), .int (iI 1), .int 0, .int 0])) := ⟨_, rfl⟩
  replace hH := fw_H.nm hM50 hH
  have fr51 : ∀ q, q ≠ b → M49 q = M46 q := fun q h => by rw [hM50]; exact fw_up_ne h
  replace hn0 : M49 (b + 1) = some (fI G 41 (fun j0 => iI (z0 j0))) := (fr51 _ (by omega)).trans hn0
  replace hn1 : M49 (b + 2) = some (fI G 40 (fun j0 => iI (z0 j0))) := (fr51 _ (by omega)).trans hn1
  replace hn2 : M49 (b + 4) = some (fI G 36 (fun j0 => iI (z0 j0))) := (fr51 _ (by omega)).trans hn2
  replace hn3 : M49 (b + 5) = some (fI G 12 (fun j0 => iI (z0 j0))) := (fr51 _ (by omega)).trans hn3
  replace hn4 : M49 (b + 6) = some (fI G 40 (fun j0 => iI (z0 j0))) := (fr51 _ (by omega)).trans hn4
  have ha : M49 b = some (.inr (10, [.ref (b + 1), .int 0, .ref (b + 2), .int 0, .int 0, .ref (b + 3), .int 0, .ref (b + 4), .ref (b + 5), .int 0, .int (iI 1), .int 0, .ref (b + 6), .int 0, .int (iI 70), .int (iI 20), .int (iI 5), .int (iI 2), .int (iI 1), .int 0, .int 0])) := by rw [hM50]; exact fw_up_eq
  refine fw_vret E hr hlk hH ?_ dX10_init_85
  exact ⟨⟨hb, ha, hn0, hn1, hn2, hn3, hn4⟩, by omega, (fun q hq => by rw [fr51 q (by omega), fr48 q (by omega), fr45 q (by omega), fr42 q (by omega), fr39 q (by omega), fr36 q (by omega), fr33 q (by omega), fr30 q (by omega), fr27 q (by omega), fr24 q (by omega), fr21 q (by omega), fr18 q (by omega), fr15 q (by omega), fr12 q (by omega), fr9 q (by omega), fr6 q (by omega), fr3 q (by omega)])⟩
theorem m_isIn (l : Launch) (G : fw_G) (M : fw_M) (N : Nat) (x y z : Int) (hx : -2147483648 ≤ x ∧ x < 2147483648) (hy : -2147483648 ≤ y ∧ y < 2147483648) (hz : -2147483648 ≤ z ∧ z < 2147483648) : fMet l yX10_isIn cX10_isIn 3 (some .boolean) 0 0 0 0 G M N [.int (iI x), .int (iI y), .int (iI z)] (fw_pi (fun r M1 n1 => ∃ b : Int, r = iI b ∧ ((b = 1 ∧ (y ≤ x ∧ x ≤ z)) ∨ (b = 0 ∧ (x < y ∨ z < x))) ∧ M1 = M ∧ n1 = N)) := by
  refine fw_met RX10 rfl (by decide +kernel) (Nat.le_of_ble_eq_true rfl) ?_
  intro p e s m args below meth c ls E hr hlk hnm hK hH hz hl
  refine lv_iload_n E.1 E.2.1 dX10_isIn_0 rfl (lv_at hl 0 rfl) ?_
  refine lv_iload_n E.1 E.2.1 dX10_isIn_1 rfl (lv_at hl 1 rfl) ?_
  refine fw_icmp_lt (tgt := 14) E dX10_isIn_2 (by decide) (by omega) (by omega) (by omega) (by omega) (fun c1 => ?_) (fun c1 => ?_)
  · refine lv_iconst (v := iI 0) E.1 E.2.1 dX10_isIn_14 (by decide) ?_
    refine fw_zret (r := (iI 0)) E hr hlk hH (by rfl) ?_ dX10_isIn_15
    exact ⟨_, rfl, by omega, rfl, hz⟩
  · refine lv_iload_n E.1 E.2.1 dX10_isIn_5 rfl (lv_at hl 0 rfl) ?_
    refine lv_iload_n E.1 E.2.1 dX10_isIn_6 rfl (lv_at hl 2 rfl) ?_
    refine fw_icmp_gt (tgt := 14) E dX10_isIn_7 (by decide) (by omega) (by omega) (by omega) (by omega) (fun c2 => ?_) (fun c2 => ?_)
    · refine lv_iconst (v := iI 0) E.1 E.2.1 dX10_isIn_14 (by decide) ?_
      refine fw_zret (r := (iI 0)) E hr hlk hH (by rfl) ?_ dX10_isIn_15
      exact ⟨_, rfl, by omega, rfl, hz⟩
    · refine lv_iconst (v := iI 1) E.1 E.2.1 dX10_isIn_10 (by decide) ?_
      refine lv_goto (tgt := 15) E.1 E.2.1 dX10_isIn_11 (by decide) ?_
      refine fw_zret (r := (iI 1)) E hr hlk hH (by rfl) ?_ dX10_isIn_15
      exact ⟨_, rfl, by omega, rfl, hz⟩
theorem m_isNumber (l : Launch) (G : fw_G) (M : fw_M) (N : Nat) (x : Int) (hx : -2147483648 ≤ x ∧ x < 2147483648) : fMet l yX10_isNumber cX10_isNumber 1 (some .boolean) 0 0 0 0 G M N [.int (iI x)] (fw_pi (fun r M1 n1 => ∃ b : Int, r = iI b ∧ ((b = 1 ∧ x < 9) ∨ (b = 0 ∧ (9 ≤ x))) ∧ M1 = M ∧ n1 = N)) := by
  refine fw_met RX10 rfl (by decide +kernel) (Nat.le_of_ble_eq_true rfl) ?_
  intro p e s m args below meth c ls E hr hlk hnm hK hH hz hl
  refine lv_iload_n E.1 E.2.1 dX10_isNumber_0 rfl (lv_at hl 0 rfl) ?_
  refine lv_bipush (v := iI 9) E.1 E.2.1 dX10_isNumber_1 (by decide) ?_
  refine fw_icmp_ge (tgt := 10) E dX10_isNumber_3 (by decide) (by omega) (by omega) (by omega) (by omega) (fun c1 => ?_) (fun c1 => ?_)
  · refine lv_iconst (v := iI 0) E.1 E.2.1 dX10_isNumber_10 (by decide) ?_
    refine fw_zret (r := (iI 0)) E hr hlk hH (by rfl) ?_ dX10_isNumber_11
    exact ⟨_, rfl, by omega, rfl, hz⟩
  · refine lv_iconst (v := iI 1) E.1 E.2.1 dX10_isNumber_6 (by decide) ?_
    refine lv_goto (tgt := 11) E.1 E.2.1 dX10_isNumber_7 (by decide) ?_
    refine fw_zret (r := (iI 1)) E hr hlk hH (by rfl) ?_ dX10_isNumber_11
    exact ⟨_, rfl, by omega, rfl, hz⟩
theorem m_isCode (l : Launch) (G : fw_G) (M : fw_M) (N : Nat) (cd v : Int) (hcd : -2147483648 ≤ cd ∧ cd < 2147483648) (hv : -2147483648 ≤ v ∧ v < 2147483648) : fMet l yX10_isCode cX10_isCode 2 (some .boolean) 1 30 0 0 G M N [.int (iI cd), .int (iI v)] (fw_pi (fun r M1 n1 => ∃ b : Int, r = iI b ∧ ((b = 1 ∧ ((0 ≤ cd ∧ cd ≤ 13) ∧ (cd ≠ 0 ∨ (-99 ≤ v ∧ v ≤ 99)) ∧ (cd ≠ 1 ∨ (0 ≤ v ∧ v ≤ 2)))) ∨ (b = 0 ∧ (¬ ((0 ≤ cd ∧ cd ≤ 13) ∧ (cd ≠ 0 ∨ (-99 ≤ v ∧ v ≤ 99)) ∧ (cd ≠ 1 ∨ (0 ≤ v ∧ v ≤ 2)))))) ∧ M1 = M ∧ n1 = N)) := by
  refine fw_met RX10 rfl (by decide +kernel) (Nat.le_of_ble_eq_true rfl) ?_
  intro p e s m args below meth c ls E hr hlk hnm hK hH hz hl
  refine lv_iload_n E.1 E.2.1 dX10_isCode_0 rfl (lv_at hl 0 rfl) ?_
  refine lv_iconst (v := iI 0) E.1 E.2.1 dX10_isCode_1 (by decide) ?_
  refine lv_bipush (v := iI 13) E.1 E.2.1 dX10_isCode_2 (by decide) ?_
  refine fw_cS (As := [.int (iI cd), .int (iI 0), .int (iI 13)]) (rest := []) E hK hH hl fL_X10_isIn ql_RX10_94 qs_yX10_isIn (m_isIn l G _ _ cd 0 13 (by omega) (by omega) (by omega)) rfl rfl (Nat.le_of_ble_eq_true rfl) ⟨Nat.le_of_ble_eq_true rfl, Nat.le_of_ble_eq_true rfl⟩ ⟨Nat.le_of_ble_eq_true rfl, Nat.le_of_ble_eq_true rfl⟩ dX10_isCode_4 (fw_ki fun r4 M3 H1 locs1 hp2 hH hz1 => ?_)
  obtain ⟨b1, rfl, hb1, hM9, hz2⟩ := hp2
  replace hz := hz2.trans hz
  clear hz1 hz2
  rw [hM9] at hH
  refine fw_if_eq (tgt := 43) E dX10_isCode_7 (by decide) (by omega) (by omega) (fun c5 => ?_) (fun c5 => ?_)
  · refine lv_iconst (v := iI 0) E.1 E.2.1 dX10_isCode_43 (by decide) ?_
    refine fw_zret (r := (iI 0)) E hr hlk hH (by rfl) ?_ dX10_isCode_44
    exact ⟨_, rfl, by omega, rfl, hz⟩
  · refine lv_iload_n E.1 E.2.1 dX10_isCode_10 rfl (lv_at hl 0 rfl) ?_
    refine fw_if_ne (tgt := 25) E dX10_isCode_11 (by decide) (by omega) (by omega) (fun c6 => ?_) (fun c6 => ?_)
    · refine lv_iload_n E.1 E.2.1 dX10_isCode_25 rfl (lv_at hl 0 rfl) ?_
      refine lv_iconst (v := iI 1) E.1 E.2.1 dX10_isCode_26 (by decide) ?_
      refine fw_icmp_ne (tgt := 39) E dX10_isCode_27 (by decide) (by omega) (by omega) (by omega) (by omega) (fun c7 => ?_) (fun c7 => ?_)
      · refine lv_iconst (v := iI 1) E.1 E.2.1 dX10_isCode_39 (by decide) ?_
        refine lv_goto (tgt := 44) E.1 E.2.1 dX10_isCode_40 (by decide) ?_
        refine fw_zret (r := (iI 1)) E hr hlk hH (by rfl) ?_ dX10_isCode_44
        exact ⟨_, rfl, by omega, rfl, hz⟩
      · refine lv_iload_n E.1 E.2.1 dX10_isCode_30 rfl (lv_at hl 1 rfl) ?_
        refine lv_iconst (v := iI 0) E.1 E.2.1 dX10_isCode_31 (by decide) ?_
        refine lv_iconst (v := iI 2) E.1 E.2.1 dX10_isCode_32 (by decide) ?_
        refine fw_cS (As := [.int (iI v), .int (iI 0), .int (iI 2)]) (rest := []) E hK hH hl fL_X10_isIn ql_RX10_94 qs_yX10_isIn (m_isIn l G _ _ v 0 2 (by omega) (by omega) (by omega)) rfl rfl (Nat.le_of_ble_eq_true rfl) ⟨Nat.le_of_ble_eq_true rfl, Nat.le_of_ble_eq_true rfl⟩ ⟨Nat.le_of_ble_eq_true rfl, Nat.le_of_ble_eq_true rfl⟩ dX10_isCode_33 (fw_ki fun r11 M10 H1 locs1 hp9 hH hz1 => ?_)
        obtain ⟨b8, rfl, hb8, hM9, hz2⟩ := hp9
        replace hz := hz2.trans hz
        clear hz1 hz2
        rw [hM9] at hH
        refine fw_if_eq (tgt := 43) E dX10_isCode_36 (by decide) (by omega) (by omega) (fun c12 => ?_) (fun c12 => ?_)
        · refine lv_iconst (v := iI 0) E.1 E.2.1 dX10_isCode_43 (by decide) ?_
          refine fw_zret (r := (iI 0)) E hr hlk hH (by rfl) ?_ dX10_isCode_44
          exact ⟨_, rfl, by omega, rfl, hz⟩
        · refine lv_iconst (v := iI 1) E.1 E.2.1 dX10_isCode_39 (by decide) ?_
          refine lv_goto (tgt := 44) E.1 E.2.1 dX10_isCode_40 (by decide) ?_
          refine fw_zret (r := (iI 1)) E hr hlk hH (by rfl) ?_ dX10_isCode_44
          exact ⟨_, rfl, by omega, rfl, hz⟩
    · refine lv_iload_n E.1 E.2.1 dX10_isCode_14 rfl (lv_at hl 1 rfl) ?_
      refine lv_bipush (v := iI (-99)) E.1 E.2.1 dX10_isCode_15 (by decide) ?_
      refine lv_bipush (v := iI 99) E.1 E.2.1 dX10_isCode_17 (by decide) ?_
      refine fw_cS (As := [.int (iI v), .int (iI (-99)), .int (iI 99)]) (rest := []) E hK hH hl fL_X10_isIn ql_RX10_94 qs_yX10_isIn (m_isIn l G _ _ v (-99) 99 (by omega) (by omega) (by omega)) rfl rfl (Nat.le_of_ble_eq_true rfl) ⟨Nat.le_of_ble_eq_true rfl, Nat.le_of_ble_eq_true rfl⟩ ⟨Nat.le_of_ble_eq_true rfl, Nat.le_of_ble_eq_true rfl⟩ dX10_isCode_19 (fw_ki fun r16 M15 H1 locs1 hp14 hH hz1 => ?_)
      obtain ⟨b13, rfl, hb13, hM9, hz2⟩ := hp14
      replace hz := hz2.trans hz
      clear hz1 hz2
      rw [hM9] at hH
      refine fw_if_eq (tgt := 43) E dX10_isCode_22 (by decide) (by omega) (by omega) (fun c17 => ?_) (fun c17 => ?_)
      · refine lv_iconst (v := iI 0) E.1 E.2.1 dX10_isCode_43 (by decide) ?_
        refine fw_zret (r := (iI 0)) E hr hlk hH (by rfl) ?_ dX10_isCode_44
        exact ⟨_, rfl, by omega, rfl, hz⟩
      · refine lv_iload_n E.1 E.2.1 dX10_isCode_25 rfl (lv_at hl 0 rfl) ?_
        refine lv_iconst (v := iI 1) E.1 E.2.1 dX10_isCode_26 (by decide) ?_
        refine fw_icmp_ne (tgt := 39) E dX10_isCode_27 (by decide) (by omega) (by omega) (by omega) (by omega) (fun c18 => ?_) (fun c18 => ?_)
        · refine lv_iconst (v := iI 1) E.1 E.2.1 dX10_isCode_39 (by decide) ?_
          refine lv_goto (tgt := 44) E.1 E.2.1 dX10_isCode_40 (by decide) ?_
          refine fw_zret (r := (iI 1)) E hr hlk hH (by rfl) ?_ dX10_isCode_44
          exact ⟨_, rfl, by omega, rfl, hz⟩
        · refine lv_iload_n E.1 E.2.1 dX10_isCode_30 rfl (lv_at hl 1 rfl) ?_
          refine lv_iconst (v := iI 0) E.1 E.2.1 dX10_isCode_31 (by decide) ?_
          refine lv_iconst (v := iI 2) E.1 E.2.1 dX10_isCode_32 (by decide) ?_
          refine fw_cS (As := [.int (iI v), .int (iI 0), .int (iI 2)]) (rest := []) E hK hH hl fL_X10_isIn ql_RX10_94 qs_yX10_isIn (m_isIn l G _ _ v 0 2 (by omega) (by omega) (by omega)) rfl rfl (Nat.le_of_ble_eq_true rfl) ⟨Nat.le_of_ble_eq_true rfl, Nat.le_of_ble_eq_true rfl⟩ ⟨Nat.le_of_ble_eq_true rfl, Nat.le_of_ble_eq_true rfl⟩ dX10_isCode_33 (fw_ki fun r22 M21 H1 locs1 hp20 hH hz1 => ?_)
          obtain ⟨b19, rfl, hb19, hM9, hz2⟩ := hp20
          replace hz := hz2.trans hz
          clear hz1 hz2
          rw [hM9] at hH
          refine fw_if_eq (tgt := 43) E dX10_isCode_36 (by decide) (by omega) (by omega) (fun c23 => ?_) (fun c23 => ?_)
          · refine lv_iconst (v := iI 0) E.1 E.2.1 dX10_isCode_43 (by decide) ?_
            refine fw_zret (r := (iI 0)) E hr hlk hH (by rfl) ?_ dX10_isCode_44
            exact ⟨_, rfl, by omega, rfl, hz⟩
          · refine lv_iconst (v := iI 1) E.1 E.2.1 dX10_isCode_39 (by decide) ?_
            refine lv_goto (tgt := 44) E.1 E.2.1 dX10_isCode_40 (by decide) ?_
            refine fw_zret (r := (iI 1)) E hr hlk hH (by rfl) ?_ dX10_isCode_44
            exact ⟨_, rfl, by omega, rfl, hz⟩
theorem m_node (l : Launch) (G : fw_G) (M : fw_M) (N : Nat) (cd v : Int) (hc : 0 ≤ cd ∧ cd ≤ 13) (hv : -99 ≤ v ∧ v ≤ 99) : fMet l yX10_node cX10_node 2 (some .int) 0 0 0 0 G M N [.int (iI cd), .int (iI v)] (fw_pi (fun r M1 n1 => r = iI (cd * 256 + v + 128) ∧ M1 = M ∧ n1 = N)) := by
  refine fw_met RX10 rfl (by decide +kernel) (Nat.le_of_ble_eq_true rfl) ?_
  intro p e s m args below meth c ls E hr hlk hnm hK hH hz hl
  refine lv_iload_n E.1 E.2.1 dX10_node_0 rfl (lv_at hl 0 rfl) ?_
  refine lv_sipush (v := iI 256) E.1 E.2.1 dX10_node_1 (by decide) ?_
  refine fw_imul E dX10_node_4 ?_
  refine lv_iload_n E.1 E.2.1 dX10_node_5 rfl (lv_at hl 1 rfl) ?_
  refine fw_iadd E dX10_node_6 ?_
  refine lv_sipush (v := iI 128) E.1 E.2.1 dX10_node_7 (by decide) ?_
  refine fw_iadd E dX10_node_10 ?_
  refine fw_iret E hr hlk hH ?_ dX10_node_11
  exact ⟨rfl, rfl, hz⟩
theorem m_nodeOf (l : Launch) (G : fw_G) (M : fw_M) (N : Nat) (cd v : Int) (hv : -2147483648 ≤ v ∧ v < 2147483648) (hok : (0 ≤ cd ∧ cd ≤ 13) ∧ (cd ≠ 0 ∨ (-99 ≤ v ∧ v ≤ 99)) ∧ (cd ≠ 1 ∨ (0 ≤ v ∧ v ≤ 2))) : fMet l yX10_nodeOf cX10_nodeOf 2 (some .int) 1 30 0 0 G M N [.int (iI cd), .int (iI v)] (fw_pi (fun r M1 n1 => ∃ nv : Int, r = iI nv ∧ (cd * 256 ≤ nv ∧ nv < cd * 256 + 256) ∧ M1 = M ∧ n1 = N)) := by
  refine fw_met RX10 rfl (by decide +kernel) (Nat.le_of_ble_eq_true rfl) ?_
  intro p e s m args below meth c ls E hr hlk hnm hK hH hz hl
  refine lv_iload_n E.1 E.2.1 dX10_nodeOf_0 rfl (lv_at hl 0 rfl) ?_
  refine lv_iload_n E.1 E.2.1 dX10_nodeOf_1 rfl (lv_at hl 0 rfl) ?_
  refine lv_iconst (v := iI 1) E.1 E.2.1 dX10_nodeOf_2 (by decide) ?_
  refine fw_icmp_gt (tgt := 10) E dX10_nodeOf_3 (by decide) (by omega) (by omega) (by omega) (by omega) (fun c1 => ?_) (fun c1 => ?_)
  · refine lv_iconst (v := iI 0) E.1 E.2.1 dX10_nodeOf_10 (by decide) ?_
    refine fw_cS (As := [.int (iI cd), .int (iI 0)]) (rest := []) E hK hH hl fL_X10_node ql_RX10_62 qs_yX10_node (m_node l G _ _ cd 0 (by omega) (by omega)) rfl rfl (Nat.le_of_ble_eq_true rfl) ⟨Nat.le_of_ble_eq_true rfl, Nat.le_of_ble_eq_true rfl⟩ ⟨Nat.le_of_ble_eq_true rfl, Nat.le_of_ble_eq_true rfl⟩ dX10_nodeOf_11 (fw_ki fun r4 M3 H1 locs1 hp2 hH hz1 => ?_)
    obtain ⟨rfl, hM9, hz2⟩ := hp2
    replace hz := hz2.trans hz
    clear hz1 hz2
    rw [hM9] at hH
    refine fw_iret E hr hlk hH ?_ dX10_nodeOf_14
    exact ⟨_, rfl, by omega, rfl, hz⟩
  · refine lv_iload_n E.1 E.2.1 dX10_nodeOf_6 rfl (lv_at hl 1 rfl) ?_
    refine lv_goto (tgt := 11) E.1 E.2.1 dX10_nodeOf_7 (by decide) ?_
    refine fw_cS (As := [.int (iI cd), .int (iI v)]) (rest := []) E hK hH hl fL_X10_node ql_RX10_62 qs_yX10_node (m_node l G _ _ cd v (by omega) (by omega)) rfl rfl (Nat.le_of_ble_eq_true rfl) ⟨Nat.le_of_ble_eq_true rfl, Nat.le_of_ble_eq_true rfl⟩ ⟨Nat.le_of_ble_eq_true rfl, Nat.le_of_ble_eq_true rfl⟩ dX10_nodeOf_11 (fw_ki fun r7 M6 H1 locs1 hp5 hH hz1 => ?_)
    obtain ⟨rfl, hM9, hz2⟩ := hp5
    replace hz := hz2.trans hz
    clear hz1 hz2
    rw [hM9] at hH
    refine fw_iret E hr hlk hH ?_ dX10_nodeOf_14
    exact ⟨_, rfl, by omega, rfl, hz⟩
theorem m_codeOf (l : Launch) (G : fw_G) (M : fw_M) (N : Nat) (n cd : Int) (hc : 0 ≤ cd ∧ cd ≤ 13) (hn : cd * 256 ≤ n ∧ n < cd * 256 + 256) : fMet l yX10_codeOf cX10_codeOf 1 (some .int) 0 0 0 0 G M N [.int (iI n)] (fw_pi (fun r M1 n1 => r = iI cd ∧ M1 = M ∧ n1 = N)) := by
  refine fw_met RX10 rfl (by decide +kernel) (Nat.le_of_ble_eq_true rfl) ?_
  intro p e s m args below meth c ls E hr hlk hnm hK hH hz hl
  refine lv_iload_n E.1 E.2.1 dX10_codeOf_0 rfl (lv_at hl 0 rfl) ?_
  refine lv_sipush (v := iI 256) E.1 E.2.1 dX10_codeOf_1 (by decide) ?_
  refine fw_idiv E (by omega) (by omega) (by omega) (by omega) (by omega) dX10_codeOf_4 ?_
  refine fw_iret E hr hlk hH ?_ dX10_codeOf_5
  exact ⟨congrArg iI (by rw [Int.tdiv_eq_ediv_of_nonneg (by omega)]; omega), rfl, hz⟩
theorem m_beneath (l : Launch) (G : fw_G) (M : fw_M) (N : Nat) (cd : Int) (hc : 0 ≤ cd ∧ cd ≤ 13) : fMet l yX10_beneath cX10_beneath 1 (some (.object "java/lang/String")) 0 0 0 0 G M N [.int (iI cd)] (fw_pr (fun r M1 n1 => (∃ i : Nat, i < 5 ∧ r = G.2.2.2.2 (30 + i) ∧ (sLen i : Int) = zPARTS cd.toNat) ∧ M1 = M ∧ n1 = N)) := by
  refine fw_met RX10 rfl (by decide +kernel) (Nat.le_of_ble_eq_true rfl) ?_
  intro p e s m args below meth c ls E hr hlk hnm hK hH hz hl
  refine lv_iload_n E.1 E.2.1 dX10_beneath_0 rfl (lv_at hl 0 rfl) ?_
  refine lv_iconst (v := iI 1) E.1 E.2.1 dX10_beneath_1 (by decide) ?_
  refine fw_icmp_gt (tgt := 8) E dX10_beneath_2 (by decide) (by omega) (by omega) (by omega) (by omega) (fun c1 => ?_) (fun c1 => ?_)
  · refine lv_iload_n E.1 E.2.1 dX10_beneath_8 rfl (lv_at hl 0 rfl) ?_
    refine lv_bipush (v := iI 8) E.1 E.2.1 dX10_beneath_9 (by decide) ?_
    refine fw_icmp_lt (tgt := 26) E dX10_beneath_11 (by decide) (by omega) (by omega) (by omega) (by omega) (fun c2 => ?_) (fun c2 => ?_)
    · refine fw_ldcS (i := 21) (tx := "nn") E hK rfl dX10_beneath_26 ?_
      refine fw_aret E hr (Or.inl ⟨_, rfl⟩) hlk hH ?_ dX10_beneath_28
      exact ⟨⟨1, by decide, rfl, by rw [zP hc]; (repeat' split) <;> first | rfl | omega⟩, rfl, hz⟩
    · refine lv_iload_n E.1 E.2.1 dX10_beneath_14 rfl (lv_at hl 0 rfl) ?_
      refine lv_bipush (v := iI 9) E.1 E.2.1 dX10_beneath_15 (by decide) ?_
      refine fw_icmp_eq (tgt := 26) E dX10_beneath_17 (by decide) (by omega) (by omega) (by omega) (by omega) (fun c3 => ?_) (fun c3 => ?_)
      · refine fw_ldcS (i := 21) (tx := "nn") E hK rfl dX10_beneath_26 ?_
        refine fw_aret E hr (Or.inl ⟨_, rfl⟩) hlk hH ?_ dX10_beneath_28
        exact ⟨⟨1, by decide, rfl, by rw [zP hc]; (repeat' split) <;> first | rfl | omega⟩, rfl, hz⟩
      · refine lv_iload_n E.1 E.2.1 dX10_beneath_20 rfl (lv_at hl 0 rfl) ?_
        refine lv_bipush (v := iI 10) E.1 E.2.1 dX10_beneath_21 (by decide) ?_
        refine fw_icmp_ne (tgt := 29) E dX10_beneath_23 (by decide) (by omega) (by omega) (by omega) (by omega) (fun c4 => ?_) (fun c4 => ?_)
        · refine lv_iload_n E.1 E.2.1 dX10_beneath_29 rfl (lv_at hl 0 rfl) ?_
          refine lv_bipush (v := iI 8) E.1 E.2.1 dX10_beneath_30 (by decide) ?_
          refine fw_icmp_ne (tgt := 40) E dX10_beneath_32 (by decide) (by omega) (by omega) (by omega) (by omega) (fun c5 => ?_) (fun c5 => ?_)
          · refine lv_iload_n E.1 E.2.1 dX10_beneath_40 rfl (lv_at hl 0 rfl) ?_
            refine lv_bipush (v := iI 13) E.1 E.2.1 dX10_beneath_41 (by decide) ?_
            refine fw_icmp_ne (tgt := 51) E dX10_beneath_43 (by decide) (by omega) (by omega) (by omega) (by omega) (fun c6 => ?_) (fun c6 => ?_)
            · refine fw_ldcS (i := 24) (tx := "cc") E hK rfl dX10_beneath_51 ?_
              refine fw_aret E hr (Or.inl ⟨_, rfl⟩) hlk hH ?_ dX10_beneath_53
              exact ⟨⟨4, by decide, rfl, by rw [zP hc]; (repeat' split) <;> first | rfl | omega⟩, rfl, hz⟩
            · refine fw_ldcS (i := 23) (tx := "c") E hK rfl dX10_beneath_46 ?_
              refine lv_goto (tgt := 53) E.1 E.2.1 dX10_beneath_48 (by decide) ?_
              refine fw_aret E hr (Or.inl ⟨_, rfl⟩) hlk hH ?_ dX10_beneath_53
              exact ⟨⟨3, by decide, rfl, by rw [zP hc]; (repeat' split) <;> first | rfl | omega⟩, rfl, hz⟩
          · refine fw_ldcS (i := 22) (tx := "cnn") E hK rfl dX10_beneath_35 ?_
            refine lv_goto (tgt := 53) E.1 E.2.1 dX10_beneath_37 (by decide) ?_
            refine fw_aret E hr (Or.inl ⟨_, rfl⟩) hlk hH ?_ dX10_beneath_53
            exact ⟨⟨2, by decide, rfl, by rw [zP hc]; (repeat' split) <;> first | rfl | omega⟩, rfl, hz⟩
        · refine fw_ldcS (i := 21) (tx := "nn") E hK rfl dX10_beneath_26 ?_
          refine fw_aret E hr (Or.inl ⟨_, rfl⟩) hlk hH ?_ dX10_beneath_28
          exact ⟨⟨1, by decide, rfl, by rw [zP hc]; (repeat' split) <;> first | rfl | omega⟩, rfl, hz⟩
  · refine fw_ldcS (i := 20) (tx := "") E hK rfl dX10_beneath_5 ?_
    refine fw_aret E hr (Or.inl ⟨_, rfl⟩) hlk hH ?_ dX10_beneath_7
    exact ⟨⟨0, by decide, rfl, by rw [zP hc]; (repeat' split) <;> first | rfl | omega⟩, rfl, hz⟩
theorem m_thrown (l : Launch) (G : fw_G) (M : fw_M) (N : Nat) (b : Nat) (k : Int) (hm : mth M b k) : fMet l yX10_thrown cX10_thrown 1 (some .int) 8 170 0 0 G M N [.ref b] (fw_pi (fun r M1 n1 => r = iI k ∧ M1 = M ∧ n1 = N)) := by
  refine fw_met RX10 rfl (by decide +kernel) (Nat.le_of_ble_eq_true rfl) ?_
  intro p e s m args below meth c ls E hr hlk hnm hK hH hz hl
  obtain ⟨fs, h0, h1⟩ := hm
  refine lv_aload_n E.1 E.2.1 dX10_thrown_0 rfl (lv_at hl 0 rfl) ?_
  refine fw_get E hK hH h0 fc_X10 1 (by decide) ql_RX10_163 rfl h1 dX10_thrown_1 ?_
  refine fw_iret E hr hlk hH ?_ dX10_thrown_4
  exact ⟨rfl, rfl, hz⟩
theorem m_no (l : Launch) (G : fw_G) (M : fw_M) (N : Nat) (b : Nat) (hb : G.2.2.1 ≤ b) (m0 : M b = some (.inr (10, [.ref (b + 1), .int (iI 0), .ref (b + 2), .int (iI 0), .int (iI 0), .ref (b + 3), .int (iI 0), .ref (b + 4), .ref (b + 5), .int (iI 0), .int (iI 1), .int (iI 0), .ref (b + 6), .int (iI 0), .int (iI 70), .int (iI 20), .int (iI 5), .int (iI 2), .int (iI 1), .int (iI 0), .int (iI 0)]))) (k : Int) : fMet l yX10_no cX10_no 2 (some .int) 0 0 0 0 G M N [.ref b, .int (iI k)] (fw_pi (fun r M1 n1 => r = iI 0 ∧ (mth M1 b k ∧ ∀ q, q ≠ b → M1 q = M q) ∧ n1 = N)) := by
  refine fw_met RX10 rfl (by decide +kernel) (Nat.le_of_ble_eq_true rfl) ?_
  intro p e s m args below meth c ls E hr hlk hnm hK hH hz hl
  refine lv_aload_n E.1 E.2.1 dX10_no_0 rfl (lv_at hl 0 rfl) ?_
  refine lv_iload_n E.1 E.2.1 dX10_no_1 rfl (lv_at hl 1 rfl) ?_
  refine fw_put E hK hH (by omega) m0 fc_X10 1 (by decide) ql_RX10_163 rfl rfl rfl rfl (Nat.le_of_ble_eq_true rfl) dX10_no_2 (fun H1 locs1 hH hz1 => ?_)
  replace hz := hz1.trans hz; clear hz1
  obtain ⟨M1, hM2⟩ : ∃ MX, MX = fw_up M b (.inr (10, [.ref (b + 1), .int (iI k), .ref (b + 2), .int (iI 0), .int (iI 0), .ref (b + 3), .int (iI 0), .ref (b + 4), .ref (b + 5), .int (iI 0), .int (iI 1), .int (iI 0), .ref (b + 6), .int (iI 0), .int (iI 70), .int (iI 20), .int (iI 5), .int (iI 2), .int (iI 1), .int (iI 0), .int (iI 0)])) := ⟨_, rfl⟩
  replace hH := fw_H.nm hM2 hH
  have fr3 : ∀ q, q ≠ b → M1 q = M q := fun q h => by rw [hM2]; exact fw_up_ne h
  have m0 : M1 b = some (.inr (10, [.ref (b + 1), .int (iI k), .ref (b + 2), .int (iI 0), .int (iI 0), .ref (b + 3), .int (iI 0), .ref (b + 4), .ref (b + 5), .int (iI 0), .int (iI 1), .int (iI 0), .ref (b + 6), .int (iI 0), .int (iI 70), .int (iI 20), .int (iI 5), .int (iI 2), .int (iI 1), .int (iI 0), .int (iI 0)])) := by rw [hM2]; exact fw_up_eq
  refine lv_iconst (v := iI 0) E.1 E.2.1 dX10_no_5 (by decide) ?_
  refine fw_iret E hr hlk hH ?_ dX10_no_6
  exact ⟨rfl, ⟨⟨_, m0, rfl⟩, fun q hq => by rw [fr3 q hq]⟩, hz⟩
theorem m_ok (l : Launch) (G : fw_G) (M : fw_M) (N : Nat) (b : Nat) (hb : G.2.2.1 ≤ b) (m0 : M b = some (.inr (10, [.ref (b + 1), .int (iI 0), .ref (b + 2), .int (iI 0), .int (iI 0), .ref (b + 3), .int (iI 0), .ref (b + 4), .ref (b + 5), .int (iI 0), .int (iI 1), .int (iI 0), .ref (b + 6), .int (iI 0), .int (iI 70), .int (iI 20), .int (iI 5), .int (iI 2), .int (iI 1), .int (iI 0), .int (iI 0)]))) (k : Int) : fMet l yX10_ok cX10_ok 2 (some .int) 0 0 0 0 G M N [.ref b, .int (iI k)] (fw_pi (fun r M1 n1 => r = iI k ∧ (mth M1 b 0 ∧ ∀ q, q ≠ b → M1 q = M q) ∧ n1 = N)) := by
  refine fw_met RX10 rfl (by decide +kernel) (Nat.le_of_ble_eq_true rfl) ?_
  intro p e s m args below meth c ls E hr hlk hnm hK hH hz hl
  refine lv_aload_n E.1 E.2.1 dX10_ok_0 rfl (lv_at hl 0 rfl) ?_
  refine lv_iconst (v := iI 0) E.1 E.2.1 dX10_ok_1 (by decide) ?_
  refine fw_put E hK hH (by omega) m0 fc_X10 1 (by decide) ql_RX10_163 rfl rfl rfl rfl (Nat.le_of_ble_eq_true rfl) dX10_ok_2 (fun H1 locs1 hH hz1 => ?_)
  replace hz := hz1.trans hz; clear hz1
  obtain ⟨M1, hM2⟩ : ∃ MX, MX = fw_up M b (.inr (10, [.ref (b + 1), .int (iI 0), .ref (b + 2), .int (iI 0), .int (iI 0), .ref (b + 3), .int (iI 0), .ref (b + 4), .ref (b + 5), .int (iI 0), .int (iI 1), .int (iI 0), .ref (b + 6), .int (iI 0), .int (iI 70), .int (iI 20), .int (iI 5), .int (iI 2), .int (iI 1), .int (iI 0), .int (iI 0)])) := ⟨_, rfl⟩
  replace hH := fw_H.nm hM2 hH
  have fr3 : ∀ q, q ≠ b → M1 q = M q := fun q h => by rw [hM2]; exact fw_up_ne h
  have m0 : M1 b = some (.inr (10, [.ref (b + 1), .int (iI 0), .ref (b + 2), .int (iI 0), .int (iI 0), .ref (b + 3), .int (iI 0), .ref (b + 4), .ref (b + 5), .int (iI 0), .int (iI 1), .int (iI 0), .ref (b + 6), .int (iI 0), .int (iI 70), .int (iI 20), .int (iI 5), .int (iI 2), .int (iI 1), .int (iI 0), .int (iI 0)])) := by rw [hM2]; exact fw_up_eq
  refine lv_iload_n E.1 E.2.1 dX10_ok_5 rfl (lv_at hl 1 rfl) ?_
  refine fw_iret E hr hlk hH ?_ dX10_ok_6
  exact ⟨rfl, ⟨⟨_, m0, rfl⟩, fun q hq => by rw [fr3 q hq]⟩, hz⟩
theorem m_isTree (l : Launch) (G : fw_G) (M : fw_M) (N : Nat) (b : Nat) (m0 : M b = some (.inr (10, [.ref (b + 1), .int (iI 0), .ref (b + 2), .int (iI 0), .int (iI 0), .ref (b + 3), .int (iI 0), .ref (b + 4), .ref (b + 5), .int (iI 0), .int (iI 1), .int (iI 0), .ref (b + 6), .int (iI 0), .int (iI 70), .int (iI 20), .int (iI 5), .int (iI 2), .int (iI 1), .int (iI 0), .int (iI 0)]))) (z : Int) (hz : -2147483648 ≤ z ∧ z < 2147483648) : fMet l yX10_isTree cX10_isTree 2 (some .boolean) 1 30 0 0 G M N [.ref b, .int (iI z)] (fw_pi (fun r M1 n1 => r = iI 0 ∧ M1 = M ∧ n1 = N)) := by
  refine fw_met RX10 rfl (by decide +kernel) (Nat.le_of_ble_eq_true rfl) ?_
  intro p e s m args below meth c ls E hr hlk hnm hK hH hz hl
  refine lv_iload_n E.1 E.2.1 dX10_isTree_0 rfl (lv_at hl 1 rfl) ?_
  refine lv_iconst (v := iI 0) E.1 E.2.1 dX10_isTree_1 (by decide) ?_
  refine lv_aload_n E.1 E.2.1 dX10_isTree_2 rfl (lv_at hl 0 rfl) ?_
  refine fw_get E hK hH m0 fc_X10 4 (by decide) ql_RX10_166 rfl rfl dX10_isTree_3 ?_
  refine lv_iconst (v := iI 1) E.1 E.2.1 dX10_isTree_6 (by decide) ?_
  refine fw_isub E dX10_isTree_7 ?_
  refine fw_cv (y := iI (-1)) (by decide) ?_
  refine fw_cS (As := [.int (iI z), .int (iI 0), .int (iI (-1))]) (rest := []) E hK hH hl fL_X10_isIn ql_RX10_94 qs_yX10_isIn (m_isIn l G _ _ z 0 (-1) (by omega) (by omega) (by omega)) rfl rfl (Nat.le_of_ble_eq_true rfl) ⟨Nat.le_of_ble_eq_true rfl, Nat.le_of_ble_eq_true rfl⟩ ⟨Nat.le_of_ble_eq_true rfl, Nat.le_of_ble_eq_true rfl⟩ dX10_isTree_8 (fw_ki fun r4 M3 H1 locs1 hp2 hH hz1 => ?_)
  obtain ⟨b1, rfl, hb1, hM9, hz2⟩ := hp2
  replace hz := hz2.trans hz
  clear hz1 hz2
  rw [hM9] at hH
  refine fw_zret (r := (iI b1)) E hr hlk hH (by rw [show b1 = 0 by omega]; rfl) ?_ dX10_isTree_11
  exact ⟨congrArg iI (by omega), rfl, hz⟩
theorem m_isPlace (l : Launch) (G : fw_G) (M : fw_M) (N : Nat) (b : Nat) (m0 : M b = some (.inr (10, [.ref (b + 1), .int (iI 0), .ref (b + 2), .int (iI 0), .int (iI 0), .ref (b + 3), .int (iI 0), .ref (b + 4), .ref (b + 5), .int (iI 0), .int (iI 1), .int (iI 0), .ref (b + 6), .int (iI 0), .int (iI 70), .int (iI 20), .int (iI 5), .int (iI 2), .int (iI 1), .int (iI 0), .int (iI 0)]))) (z w : Int) (hz : -2147483648 ≤ z ∧ z < 2147483648) (hw : -2147483648 ≤ w ∧ w < 2147483648) : fMet l yX10_isPlace cX10_isPlace 3 (some .boolean) 2 60 0 0 G M N [.ref b, .int (iI z), .int (iI w)] (fw_pi (fun r M1 n1 => r = iI 0 ∧ M1 = M ∧ n1 = N)) := by
  refine fw_met RX10 rfl (by decide +kernel) (Nat.le_of_ble_eq_true rfl) ?_
  intro p e s m args below meth c ls E hr hlk hnm hK hH hz hl
  refine lv_aload_n E.1 E.2.1 dX10_isPlace_0 rfl (lv_at hl 0 rfl) ?_
  refine lv_iload_n E.1 E.2.1 dX10_isPlace_1 rfl (lv_at hl 1 rfl) ?_
  refine fw_cV (As := [.int (iI z)]) (rest := []) E hK hH hl m0 fc_X10 fL_X10_isTree ql_RX10_169 qi_yX10_isTree qv_yX10_isTree (m_isTree l G _ _ b m0 z (by omega)) rfl rfl (Nat.le_of_ble_eq_true rfl) ⟨Nat.le_of_ble_eq_true rfl, Nat.le_of_ble_eq_true rfl⟩ ⟨Nat.le_of_ble_eq_true rfl, Nat.le_of_ble_eq_true rfl⟩ dX10_isPlace_2 (fw_ki fun r3 M2 H1 locs1 hp1 hH hz1 => ?_)
  obtain ⟨rfl, hM9, hz2⟩ := hp1
  replace hz := hz2.trans hz
  clear hz1 hz2
  rw [hM9] at hH
  refine fw_if_eq (tgt := 29) E dX10_isPlace_5 (by decide) (by omega) (by omega) (fun c4 => ?_) (fun c4 => ?_)
  · refine lv_iconst (v := iI 0) E.1 E.2.1 dX10_isPlace_29 (by decide) ?_
    refine fw_zret (r := (iI 0)) E hr hlk hH (by rfl) ?_ dX10_isPlace_30
    exact ⟨rfl, rfl, hz⟩
  · exact absurd c4 (by omega)

/-- the GROVE: its DRAWS, its spare TREE, two rows of sixteen TREES each; slots 0 to 15 and 16 to 31; o: where the row in use begins (0 or 16) -/
def gvRow (G : fw_G) (M : fw_M) (a : Nat) (b : Nat) : Prop := ∃ f : Nat → Option Nat, M a = some (fT G 16 f) ∧ ∀ j, j < 16 → f j = some (b + 5 * j)
theorem gvRow.fr {G : fw_G} {M M1 : fw_M} {a b : Nat} (h : gvRow G M a b) (hf : ∀ q, a ≤ q → q < a + 1 → M1 q = M q) : gvRow G M1 a b := by
  obtain ⟨f, h1, h2⟩ := h
  exact ⟨f, (hf _ (by omega) (by omega)).trans h1, h2⟩
def gvTr (G : fw_G) (M : fw_M) (a : Nat) (C V S Hh : Nat → Nat → Int) (nn lv : Nat → Int) : Prop := ∀ j, j < 32 → trAt G M (a + 10 + 5 * j) (C j) (V j) (S j) (Hh j) (nn j) (lv j)
theorem gvTr.fr {G : fw_G} {M M1 : fw_M} {a : Nat} {C V S Hh : Nat → Nat → Int} {nn lv : Nat → Int} (h : gvTr G M a C V S Hh nn lv) (hf : ∀ q, a + 10 ≤ q → q < a + 170 → M1 q = M q) : gvTr G M1 a C V S Hh nn lv := fun j hj => (h j hj).fr (fun q h1 h2 => hf q (by omega) (by omega))
def gvAt (G : fw_G) (M : fw_M) (a : Nat) (o : Nat) (tl : Nat → Int) (w lk : Int) (C V S Hh : Nat → Nat → Int) (nn lv : Nat → Int) (cn gn mi : Int) : Prop := G.2.2.1 ≤ a ∧ M a = some (.inr (2, [.ref (a + 1), .ref (a + 3), .ref (if o = 0 then a + 8 else a + 9), .ref (if o = 0 then a + 9 else a + 8), .int (iI cn), .int (iI gn), .int (iI mi)])) ∧ drAt G M (a + 1) tl w lk ∧ (∃ cs vs ss hs n1 l1, trAt G M (a + 3) cs vs ss hs n1 l1) ∧ gvRow G M (a + 8) (a + 10) ∧ gvRow G M (a + 9) (a + 90) ∧ gvTr G M a C V S Hh nn lv
theorem gvAt.fr {G : fw_G} {M M1 : fw_M} {a o : Nat} {tl : Nat → Int} {w lk : Int} {C V S Hh : Nat → Nat → Int} {nn lv : Nat → Int} {cn gn mi : Int} (h : gvAt G M a o tl w lk C V S Hh nn lv cn gn mi) (hf : ∀ q, a ≤ q → q < a + 170 → M1 q = M q) : gvAt G M1 a o tl w lk C V S Hh nn lv cn gn mi := by
  obtain ⟨h0, h1, h2, ⟨cs, vs, ss, hs, n1, l1, h3⟩, h4, h5, h6⟩ := h
  exact ⟨h0, (hf _ (by omega) (by omega)).trans h1, h2.fr (fun q h8 h9 => hf q (by omega) (by omega)), ⟨cs, vs, ss, hs, n1, l1, h3.fr (fun q h8 h9 => hf q (by omega) (by omega))⟩, h4.fr (fun q h8 h9 => hf q (by omega) (by omega)), h5.fr (fun q h8 h9 => hf q (by omega) (by omega)), h6.fr (fun q h8 h9 => hf q (by omega) (by omega))⟩
/-- a new GROVE: two rows of sixteen TREES -/
theorem k_Grove_init (l : Launch) (G : fw_G) (M : fw_M) (N : Nat) (a : Nat) (hb : G.2.2.1 ≤ a) (ha : M a = some (.inr (2, [.null, .null, .null, .null, .int 0, .int 0, .int 0]))) (hN : N = a + 1) : fMet l yX2_init cX2_init 2 none 2 40 169 5553 G M N [.ref a] (fw_pv (fun M1 n1 => gvAt G M1 a 0 z0 0 0 (fun _ => z0) (fun _ => z0) (fun _ => z0) (fun _ => z0) (fun _ => 0) (fun _ => 0) 0 0 0 ∧ n1 = N + 169 ∧ ∀ q, q < a → M1 q = M q)) := by
  refine fw_met RX2 rfl (by decide +kernel) (Nat.le_of_ble_eq_true rfl) ?_
  intro pG e s m args below meth cG ls E hr hlk hnm hK hH hz hl
  have hz := hz.trans hN
  refine lv_aload_n E.1 E.2.1 dX2_init_0 rfl (lv_at hl 0 rfl) ?_
  refine fw_obj E ql_RX2_3 qi_obj qc_obj hl dX2_init_1 ⟨by decide, by decide⟩ ?_
  refine lv_aload_n E.1 E.2.1 dX2_init_4 rfl (lv_at hl 0 rfl) ?_
  refine fw_new (fs := [.null, .int 0, .int 0]) E hK hH hz fc_X1 ql_RX2_9 qt_RX1 qn_RX1 (fun j hj => by rcases (show j = 0 ∨ j = 1 ∨ j = 2 by omega) with rfl | rfl | rfl <;> rfl) ⟨by show _ ≤ (169 : Nat); omega, by show _ ≤ (5553 : Nat); omega⟩ dX2_init_5 (fun H1 hH hz1 => ?_)
  replace hz : H1.size = a + 2 := by omega
  clear hz1
  obtain ⟨M1, hM2⟩ : ∃ MX, MX = fw_up M (a + 1) (.inr (1, [.null, .int 0, .int 0])) := ⟨_, rfl⟩
  replace hH := fw_H.nm hM2 hH
  have fr3 : ∀ q, q ≠ a + 1 → M1 q = M q := fun q h => by rw [hM2]; exact fw_up_ne h
  replace ha : M1 a = some (.inr (2, [.null, .null, .null, .null, .int 0, .int 0, .int 0])) := (fr3 _ (by omega)).trans ha
  have hn0 : M1 (a + 1) = some (.inr (1, [.null, .int 0, .int 0])) := by rw [hM2]; exact fw_up_eq
  refine lv_dup E.1 E.2.1 dX2_init_8 rfl ?_
  refine fw_cIN (As := []) (rest := [.ref (a + 1), .ref a]) E hK hH hl fL_X1_init rfl ql_RX2_11 qi_yX1_init (k_Draws_init l G _ _ (a + 1) (by omega) hn0 (by omega)) rfl rfl (Nat.le_of_ble_eq_true rfl) ⟨Nat.le_of_ble_eq_true rfl, Nat.le_of_ble_eq_true rfl⟩ ⟨by show _ ≤ (169 : Nat); omega, by show _ ≤ (5553 : Nat); omega⟩ dX2_init_9 (fw_kv fun M5 H1 locs1 hp4 hH hz1 => ?_)
  obtain ⟨hdrAt2, hz2, hfr⟩ := hp4
  replace hz : H1.size = a + 3 := by omega
  clear hz1 hz2
  have fr6 := hfr
  replace ha : M5 a = some (.inr (2, [.null, .null, .null, .null, .int 0, .int 0, .int 0])) := (fr6 _ (by omega)).trans ha
  refine fw_putF E hK hH (by omega) ha fc_X2 0 (by decide) ql_RX2_12 rfl rfl hnm rfl rfl (Nat.le_of_ble_eq_true rfl) dX2_init_12 (fun H1 locs1 hH hz1 => ?_)
  replace hz := hz1.trans hz; clear hz1
  obtain ⟨M7, hM8⟩ : ∃ MX, MX = fw_up M5 a (.inr (2, [.ref (a + 1), .null, .null, .null, .int 0, .int 0, .int 0])) := ⟨_, rfl⟩
  replace hH := fw_H.nm hM8 hH
  have fr9 : ∀ q, q ≠ a → M7 q = M5 q := fun q h => by rw [hM8]; exact fw_up_ne h
  replace hdrAt2 := drAt.fr hdrAt2 (fun q h1 h2 => fr9 q (by omega))
  have ha : M7 a = some (.inr (2, [.ref (a + 1), .null, .null, .null, .int 0, .int 0, .int 0])) := by rw [hM8]; exact fw_up_eq
  refine lv_aload_n E.1 E.2.1 dX2_init_15 rfl (lv_at hl 0 rfl) ?_
  refine fw_new (fs := [.null, .null, .null, .null, .int 0, .int 0]) E hK hH hz fc_X8 ql_RX2_18 qt_RX8 qn_RX8 (fun j hj => by rcases (show j = 0 ∨ j = 1 ∨ j = 2 ∨ j = 3 ∨ j = 4 ∨ j = 5 by omega) with rfl | rfl | rfl | rfl | rfl | rfl <;> rfl) ⟨by show _ ≤ (169 : Nat); omega, by show _ ≤ (5553 : Nat); omega⟩ dX2_init_16 (fun H1 hH hz1 => ?_)
  replace hz : H1.size = a + 4 := by omega
  clear hz1
  obtain ⟨M10, hM11⟩ : ∃ MX, MX = fw_up M7 (a + 3) (.inr (8, [.null, .null, .null, .null, .int 0, .int 0])) := ⟨_, rfl⟩
  replace hH := fw_H.nm hM11 hH
  have fr12 : ∀ q, q ≠ a + 3 → M10 q = M7 q := fun q h => by rw [hM11]; exact fw_up_ne h
  replace hdrAt2 := drAt.fr hdrAt2 (fun q h1 h2 => fr12 q (by omega))
  replace ha : M10 a = some (.inr (2, [.ref (a + 1), .null, .null, .null, .int 0, .int 0, .int 0])) := (fr12 _ (by omega)).trans ha
  have hn2 : M10 (a + 3) = some (.inr (8, [.null, .null, .null, .null, .int 0, .int 0])) := by rw [hM11]; exact fw_up_eq
  refine lv_dup E.1 E.2.1 dX2_init_19 rfl ?_
  refine fw_cIN (As := []) (rest := [.ref (a + 3), .ref a]) E hK hH hl fL_X8_init rfl ql_RX2_20 qi_yX8_init (k_Tree_init l G _ _ (a + 3) (by omega) hn2 (by omega)) rfl rfl (Nat.le_of_ble_eq_true rfl) ⟨Nat.le_of_ble_eq_true rfl, Nat.le_of_ble_eq_true rfl⟩ ⟨by show _ ≤ (169 : Nat); omega, by show _ ≤ (5553 : Nat); omega⟩ dX2_init_20 (fw_kv fun M14 H1 locs1 hp13 hH hz1 => ?_)
  obtain ⟨htrAt4, hz2, hfr⟩ := hp13
  replace hz : H1.size = a + 8 := by omega
  clear hz1 hz2
  have fr15 := hfr
  replace hdrAt2 := drAt.fr hdrAt2 (fun q h1 h2 => fr15 q (by omega))
  replace ha : M14 a = some (.inr (2, [.ref (a + 1), .null, .null, .null, .int 0, .int 0, .int 0])) := (fr15 _ (by omega)).trans ha
  refine fw_putF E hK hH (by omega) ha fc_X2 1 (by decide) ql_RX2_21 rfl rfl hnm rfl rfl (Nat.le_of_ble_eq_true rfl) dX2_init_23 (fun H1 locs1 hH hz1 => ?_)
  replace hz := hz1.trans hz; clear hz1
  obtain ⟨M16, hM17⟩ : ∃ MX, MX = fw_up M14 a (.inr (2, [.ref (a + 1), .ref (a + 3), .null, .null, .int 0, .int 0, .int 0])) := ⟨_, rfl⟩
  replace hH := fw_H.nm hM17 hH
  have fr18 : ∀ q, q ≠ a → M16 q = M14 q := fun q h => by rw [hM17]; exact fw_up_ne h
  replace hdrAt2 := drAt.fr hdrAt2 (fun q h1 h2 => fr18 q (by omega))
  replace htrAt4 := trAt.fr htrAt4 (fun q h1 h2 => fr18 q (by omega))
  have ha : M16 a = some (.inr (2, [.ref (a + 1), .ref (a + 3), .null, .null, .int 0, .int 0, .int 0])) := by rw [hM17]; exact fw_up_eq
  refine lv_aload_n E.1 E.2.1 dX2_init_26 rfl (lv_at hl 0 rfl) ?_
  refine lv_bipush (v := iI 16) E.1 E.2.1 dX2_init_27 (by decide) ?_
  refine fw_newT (N := 16) E hK hH hz ql_RX2_18 qo_RX8 (by decide) (by decide) (by decide) ⟨by show _ ≤ (169 : Nat); omega, by show _ ≤ (5553 : Nat); omega⟩ dX2_init_29 (fun H1 hH hz1 => ?_)
  replace hz : H1.size = a + 9 := by omega
  clear hz1
  obtain ⟨M19, hM20⟩ : ∃ MX, MX = fw_up M16 (a + 8) (fT G 16 (fun _ => none)) := ⟨_, rfl⟩
  replace hH := fw_H.nm hM20 hH
  have fr21 : ∀ q, q ≠ a + 8 → M19 q = M16 q := fun q h => by rw [hM20]; exact fw_up_ne h
  replace hdrAt2 := drAt.fr hdrAt2 (fun q h1 h2 => fr21 q (by omega))
  replace htrAt4 := trAt.fr htrAt4 (fun q h1 h2 => fr21 q (by omega))
  replace ha : M19 a = some (.inr (2, [.ref (a + 1), .ref (a + 3), .null, .null, .int 0, .int 0, .int 0])) := (fr21 _ (by omega)).trans ha
  have hn4 : M19 (a + 8) = some (fT G 16 (fun _ => none)) := by rw [hM20]; exact fw_up_eq
  refine fw_put E hK hH (by omega) ha fc_X2 2 (by decide) ql_RX2_25 rfl rfl rfl rfl (Nat.le_of_ble_eq_true rfl) dX2_init_32 (fun H1 locs1 hH hz1 => ?_)
  replace hz := hz1.trans hz; clear hz1
  obtain ⟨M22, hM23⟩ : ∃ MX, MX = fw_up M19 a (.inr (2, [.ref (a + 1), .ref (a + 3), .ref (a + 8), .null, .int 0, .int 0, .int 0])) := ⟨_, rfl⟩
  replace hH := fw_H.nm hM23 hH
  have fr24 : ∀ q, q ≠ a → M22 q = M19 q := fun q h => by rw [hM23]; exact fw_up_ne h
  replace hdrAt2 := drAt.fr hdrAt2 (fun q h1 h2 => fr24 q (by omega))
  replace htrAt4 := trAt.fr htrAt4 (fun q h1 h2 => fr24 q (by omega))
  replace hn4 : M22 (a + 8) = some (fT G 16 (fun _ => none)) := (fr24 _ (by omega)).trans hn4
  have ha : M22 a = some (.inr (2, [.ref (a + 1), .ref (a + 3), .ref (a + 8), .null, .int 0, .int 0, .int 0])) := by rw [hM23]; exact fw_up_eq
  refine lv_aload_n E.1 E.2.1 dX2_init_35 rfl (lv_at hl 0 rfl) ?_
  refine lv_bipush (v := iI 16) E.1 E.2.1 dX2_init_36 (by decide) ?_
  refine fw_newT (N := 16) E hK hH hz ql_RX2_18 qo_RX8 (by decide) (by decide) (by decide) ⟨by show _ ≤ (169 : Nat); omega, by show _ ≤ (5553 : Nat); omega⟩ dX2_init_38 (fun H1 hH hz1 => ?_)
  replace hz : H1.size = a + 10 := by omega
  clear hz1
  obtain ⟨M25, hM26⟩ : ∃ MX, MX = fw_up M22 (a + 9) (fT G 16 (fun _ => none)) := ⟨_, rfl⟩
  replace hH := fw_H.nm hM26 hH
  have fr27 : ∀ q, q ≠ a + 9 → M25 q = M22 q := fun q h => by rw [hM26]; exact fw_up_ne h
  replace hdrAt2 := drAt.fr hdrAt2 (fun q h1 h2 => fr27 q (by omega))
  replace htrAt4 := trAt.fr htrAt4 (fun q h1 h2 => fr27 q (by omega))
  replace hn4 : M25 (a + 8) = some (fT G 16 (fun _ => none)) := (fr27 _ (by omega)).trans hn4
  replace ha : M25 a = some (.inr (2, [.ref (a + 1), .ref (a + 3), .ref (a + 8), .null, .int 0, .int 0, .int 0])) := (fr27 _ (by omega)).trans ha
  have hn5 : M25 (a + 9) = some (fT G 16 (fun _ => none)) := by rw [hM26]; exact fw_up_eq
  refine fw_put E hK hH (by omega) ha fc_X2 3 (by decide) ql_RX2_29 rfl rfl rfl rfl (Nat.le_of_ble_eq_true rfl) dX2_init_41 (fun H1 locs1 hH hz1 => ?_)
  replace hz := hz1.trans hz; clear hz1
  obtain ⟨M28, hM29⟩ : ∃ MX, MX = fw_up M25 a (.inr (2, [.ref (a + 1), .ref (a + 3), .ref (a + 8), .ref (a + 9), .int 0, .int 0, .int 0])) := ⟨_, rfl⟩
  replace hH := fw_H.nm hM29 hH
  have fr30 : ∀ q, q ≠ a → M28 q = M25 q := fun q h => by rw [hM29]; exact fw_up_ne h
  replace hdrAt2 := drAt.fr hdrAt2 (fun q h1 h2 => fr30 q (by omega))
  replace htrAt4 := trAt.fr htrAt4 (fun q h1 h2 => fr30 q (by omega))
  replace hn4 : M28 (a + 8) = some (fT G 16 (fun _ => none)) := (fr30 _ (by omega)).trans hn4
  replace hn5 : M28 (a + 9) = some (fT G 16 (fun _ => none)) := (fr30 _ (by omega)).trans hn5
  have ha : M28 a = some (.inr (2, [.ref (a + 1), .ref (a + 3), .ref (a + 8), .ref (a + 9), .int 0, .int 0, .int 0])) := by rw [hM29]; exact fw_up_eq
  refine lv_iconst (v := iI 0) E.1 E.2.1 dX2_init_44 (by decide) ?_
  refine lv_istore_n (lv' := [(1, .int (iI 0)), (0, .ref a)]) E.1 E.2.1 dX2_init_45 rfl hl (by decide) rfl (fun ls hl => ?_)
  have hfb0 : ∀ q, q < a → M28 q = M q := by intro q hq; rw [fr30 q (by omega), fr27 q (by omega), fr24 q (by omega), fr21 q (by omega), fr18 q (by omega), fr15 q (by omega), fr12 q (by omega), fr9 q (by omega), fr6 q (by omega), fr3 q (by omega)]
  have loop46_1 : ∀ (d46 : Nat) (i : Nat) (f : Nat → Option Nat) (Mw46 : fw_M) (H : Heap) (locs : List Loc) (ls : Array Slot), 16 - i < d46 → (∀ j, j < i → f j = some (a + 10 + 5 * j)) → i ≤ 16 → (∀ q, q < a → Mw46 q = M q) → fw_H G s Mw46 H locs → H.size = a + 10 + 5 * i → Mw46 a = some (.inr (2, [.ref (a + 1), .ref (a + 3), .ref (a + 8), .ref (a + 9), .int 0, .int 0, .int 0])) → drAt G Mw46 (a + 1) z0 0 0 → trAt G Mw46 (a + 3) z0 z0 z0 z0 0 0 → Mw46 (a + 8) = some (fT G 16 f) → Mw46 (a + 9) = some (fT G 16 (fun _ => none)) → (∀ j, j < i → trAt G Mw46 (a + 10 + 5 * j) z0 z0 z0 z0 0 0) → lv_has ls 2 [(0, .ref a), (1, .int (iI ↑i))] → W pG l e ({ frames := 2, cells := 169, slots := 5553, locals := 40 } : Room) s m args below meth cG H locs (9 + 5 * i) (241 + 166 * i) (MQ below (fw_Q G (fw_pv (fun M1 n1 => gvAt G M1 a 0 z0 0 0 (fun _ => z0) (fun _ => z0) (fun _ => z0) (fun _ => z0) (fun _ => 0) (fun _ => 0) 0 0 0 ∧ n1 = N + 169 ∧ ∀ q, q < a → M1 q = M q))) args s 169 5553 (fun q => G.2.2.1 ≤ q)) (F0 m 46 ls []) := by
    intro d46
    induction d46 with
    | zero => intro i f Mw46 H locs ls hd; exact absurd hd (Nat.not_lt_zero _)
    | succ d46 ih46 =>
      intro i f Mw46 H locs ls hd46 hf1 hi hfb hH hz ha hDr hNo h8 h9 hTr hl
      refine lv_iload_n E.1 E.2.1 dX2_init_46 rfl (lv_at hl 1 rfl) ?_
      refine lv_aload_n E.1 E.2.1 dX2_init_47 rfl (lv_at hl 0 rfl) ?_
      refine fw_get E hK hH ha fc_X2 2 (by decide) ql_RX2_25 rfl rfl dX2_init_48 ?_
      refine fw_alenT E hK hH h8 dX2_init_51 ?_
      refine fw_cv (y := iI 16) (by decide) ?_
      refine fw_icmp_ge (tgt := 74) E dX2_init_52 (by decide) (by omega) (by omega) (by omega) (by omega) (fun c31 => ?_) (fun c31 => ?_)
      · refine lv_iconst (v := iI 0) E.1 E.2.1 dX2_init_74 (by decide) ?_
        refine lv_istore_n (lv' := [(1, .int (iI 0)), (0, .ref a)]) E.1 E.2.1 dX2_init_75 rfl hl (by decide) rfl (fun ls hl => ?_)
        have loop76_2 : ∀ (d76 : Nat) (i : Nat) (f2 : Nat → Option Nat) (Mw76 : fw_M) (H : Heap) (locs : List Loc) (ls : Array Slot), 16 - i < d76 → (∀ j, j < i → f2 j = some (a + 90 + 5 * j)) → i ≤ 16 → (∀ q, q < a → Mw76 q = M q) → fw_H G s Mw76 H locs → H.size = a + 90 + 5 * i → Mw76 a = some (.inr (2, [.ref (a + 1), .ref (a + 3), .ref (a + 8), .ref (a + 9), .int 0, .int 0, .int 0])) → drAt G Mw76 (a + 1) z0 0 0 → trAt G Mw76 (a + 3) z0 z0 z0 z0 0 0 → Mw76 (a + 8) = some (fT G 16 f) → Mw76 (a + 9) = some (fT G 16 f2) → (∀ j, j < 16 + i → trAt G Mw76 (a + 10 + 5 * j) z0 z0 z0 z0 0 0) → lv_has ls 2 [(0, .ref a), (1, .int (iI ↑i))] → W pG l e ({ frames := 2, cells := 169, slots := 5553, locals := 40 } : Room) s m args below meth cG H locs (89 + 5 * i) (2897 + 166 * i) (MQ below (fw_Q G (fw_pv (fun M1 n1 => gvAt G M1 a 0 z0 0 0 (fun _ => z0) (fun _ => z0) (fun _ => z0) (fun _ => z0) (fun _ => 0) (fun _ => 0) 0 0 0 ∧ n1 = N + 169 ∧ ∀ q, q < a → M1 q = M q))) args s 169 5553 (fun q => G.2.2.1 ≤ q)) (F0 m 76 ls []) := by
          intro d76
          induction d76 with
          | zero => intro i f2 Mw76 H locs ls hd; exact absurd hd (Nat.not_lt_zero _)
          | succ d76 ih76 =>
            intro i f2 Mw76 H locs ls hd76 hf2 hi hfb hH hz ha hDr hNo h8 h9 hTr hl
            refine lv_iload_n E.1 E.2.1 dX2_init_76 rfl (lv_at hl 1 rfl) ?_
            refine lv_aload_n E.1 E.2.1 dX2_init_77 rfl (lv_at hl 0 rfl) ?_
            refine fw_get E hK hH ha fc_X2 3 (by decide) ql_RX2_29 rfl rfl dX2_init_78 ?_
            refine fw_alenT E hK hH h9 dX2_init_81 ?_
            refine fw_cv (y := iI 16) (by decide) ?_
            refine fw_icmp_ge (tgt := 104) E dX2_init_82 (by decide) (by omega) (by omega) (by omega) (by omega) (fun c32 => ?_) (fun c32 => ?_)
            · refine W.widen (k := 169) (n := 5553) (by omega) (by omega) ?_
              refine fw_vret E hr hlk hH ?_ dX2_init_104
              exact ⟨⟨hb, ha, hDr, ⟨_, _, _, _, _, _, hNo⟩, ⟨f, h8, fun j hj => hf1 j (by omega)⟩, ⟨f2, h9, fun j hj => hf2 j (by omega)⟩, fun j hj => hTr j (by omega)⟩, by omega, hfb⟩
            · refine lv_aload_n E.1 E.2.1 dX2_init_85 rfl (lv_at hl 0 rfl) ?_
              refine fw_get E hK hH ha fc_X2 3 (by decide) ql_RX2_29 rfl rfl dX2_init_86 ?_
              refine lv_iload_n E.1 E.2.1 dX2_init_89 rfl (lv_at hl 1 rfl) ?_
              refine fw_new (fs := [.null, .null, .null, .null, .int 0, .int 0]) E hK hH hz fc_X8 ql_RX2_18 qt_RX8 qn_RX8 (fun j hj => by rcases (show j = 0 ∨ j = 1 ∨ j = 2 ∨ j = 3 ∨ j = 4 ∨ j = 5 by omega) with rfl | rfl | rfl | rfl | rfl | rfl <;> rfl) ⟨by show _ ≤ (169 : Nat); omega, by show _ ≤ (5553 : Nat); omega⟩ dX2_init_90 (fun H1 hH hz1 => ?_)
              replace hz : H1.size = a + 90 + 5 * i + 1 := by omega
              clear hz1
              obtain ⟨M33, hM34⟩ : ∃ MX, MX = fw_up Mw76 (a + 90 + 5 * i) (.inr (8, [.null, .null, .null, .null, .int 0, .int 0])) := ⟨_, rfl⟩
              replace hH := fw_H.nm hM34 hH
              have fr35 : ∀ q, q ≠ a + 90 + 5 * i → M33 q = Mw76 q := fun q h => by rw [hM34]; exact fw_up_ne h
              replace ha : M33 a = some (.inr (2, [.ref (a + 1), .ref (a + 3), .ref (a + 8), .ref (a + 9), .int 0, .int 0, .int 0])) := (fr35 _ (by omega)).trans ha
              replace hDr := drAt.fr hDr (fun q h1 h2 => fr35 q (by omega))
              replace hNo := trAt.fr hNo (fun q h1 h2 => fr35 q (by omega))
              replace h8 : M33 (a + 8) = some (fT G 16 f) := (fr35 _ (by omega)).trans h8
              replace h9 : M33 (a + 9) = some (fT G 16 f2) := (fr35 _ (by omega)).trans h9
              replace hTr := fun (j : Nat) (hj : j < 16 + i) => trAt.fr (hTr j hj) (fun q h1 h2 => fr35 q (by omega))
              have hn6 : M33 (a + 90 + 5 * i) = some (.inr (8, [.null, .null, .null, .null, .int 0, .int 0])) := by rw [hM34]; exact fw_up_eq
              refine lv_dup E.1 E.2.1 dX2_init_93 rfl ?_
              refine fw_cIN (As := []) (rest := [.ref (a + 90 + 5 * i), .int (iI ↑i), .ref (a + 9)]) E hK hH hl fL_X8_init rfl ql_RX2_20 qi_yX8_init (k_Tree_init l G _ _ (a + 90 + 5 * i) (by omega) hn6 (by omega)) rfl rfl (Nat.le_of_ble_eq_true rfl) ⟨Nat.le_of_ble_eq_true rfl, Nat.le_of_ble_eq_true rfl⟩ ⟨by show _ ≤ (169 : Nat); omega, by show _ ≤ (5553 : Nat); omega⟩ dX2_init_94 (fw_kv fun M37 H1 locs1 hp36 hH hz1 => ?_)
              obtain ⟨htrAt8, hz2, hfr⟩ := hp36
              replace hz : H1.size = a + 90 + 5 * i + 5 := by omega
              clear hz1 hz2
              have fr38 := hfr
              replace ha : M37 a = some (.inr (2, [.ref (a + 1), .ref (a + 3), .ref (a + 8), .ref (a + 9), .int 0, .int 0, .int 0])) := (fr38 _ (by omega)).trans ha
              replace hDr := drAt.fr hDr (fun q h1 h2 => fr38 q (by omega))
              replace hNo := trAt.fr hNo (fun q h1 h2 => fr38 q (by omega))
              replace h8 : M37 (a + 8) = some (fT G 16 f) := (fr38 _ (by omega)).trans h8
              replace h9 : M37 (a + 9) = some (fT G 16 f2) := (fr38 _ (by omega)).trans h9
              replace hTr := fun (j : Nat) (hj : j < 16 + i) => trAt.fr (hTr j hj) (fun q h1 h2 => fr38 q (by omega))
              refine fw_aast E hK hH (by omega) h9 htrAt8.2.1 (iI_in (by omega) (by omega) (by omega)) dX2_init_97 (fun H1 locs1 hH hz1 => ?_)
              replace hz := hz1.trans hz; clear hz1
              rw [iI_ix (by omega) (by omega), show (↑i : Int).toNat = i from by omega] at hH
              obtain ⟨M39, hM40⟩ : ∃ MX, MX = fw_up M37 (a + 9) (fT G 16 (va_up f2 i (some (a + 90 + 5 * i)))) := ⟨_, rfl⟩
              replace hH := fw_H.nm hM40 hH
              have fr41 : ∀ q, q ≠ (a + 9) → M39 q = M37 q := fun q h => by rw [hM40]; exact fw_up_ne h
              replace ha : M39 a = some (.inr (2, [.ref (a + 1), .ref (a + 3), .ref (a + 8), .ref (a + 9), .int 0, .int 0, .int 0])) := (fr41 _ (by omega)).trans ha
              replace hDr := drAt.fr hDr (fun q h1 h2 => fr41 q (by omega))
              replace hNo := trAt.fr hNo (fun q h1 h2 => fr41 q (by omega))
              replace h8 : M39 (a + 8) = some (fT G 16 f) := (fr41 _ (by omega)).trans h8
              replace hTr := fun (j : Nat) (hj : j < 16 + i) => trAt.fr (hTr j hj) (fun q h1 h2 => fr41 q (by omega))
              replace htrAt8 := trAt.fr htrAt8 (fun q h1 h2 => fr41 q (by omega))
              have h9 : M39 (a + 9) = some (fT G 16 (va_up f2 i (some (a + 90 + 5 * i)))) := by rw [hM40]; exact fw_up_eq
              refine lv_iinc (v := iI (↑i + 1)) (lv' := [(1, .int (iI (↑i + 1))), (0, .ref a)]) E.1 E.2.1 dX2_init_98 hl (k := 1) rfl (iI_inc rfl) (by decide) rfl (fun ls hl => ?_)
              refine lv_goto (tgt := 76) E.1 E.2.1 dX2_init_101 (by decide) ?_
              refine W.widen (k := 89 + 5 * (i + 1)) (n := 2897 + 166 * (i + 1)) (by omega) (by omega) ?_
              exact ih76 (i + 1) (va_up f2 i (some (a + 90 + 5 * i))) _ _ _ _ (by omega) (fun j hj => if h9 : j = i then (by unfold va_up; rw [if_pos h9, h9]) else (by unfold va_up; rw [if_neg h9]; exact hf2 j (by omega))) (by omega) (fun q hq => by rw [fr41 q (by omega), fr38 q (by omega), fr35 q (by omega)]; exact hfb q hq) hH (by omega) ha hDr hNo h8 h9 (fun j hj => if h9 : j < 16 + i then hTr j h9 else (by rw [show a + 10 + 5 * j = a + 90 + 5 * i by omega]; exact htrAt8)) (lv_sub hl [1, 0] rfl)
        refine W.widen (k := 89 + 5 * 0) (n := 2897 + 166 * 0) (by omega) (by omega) ?_
        exact loop76_2 (16 - 0 + 1) 0 (fun _ => none) _ _ _ _ (Nat.lt_succ_self _) (fun j hj => absurd hj (Nat.not_lt_zero j)) (by omega) hfb hH (by omega) ha hDr hNo h8 h9 (fun j hj => hTr j (by omega)) (lv_sub hl [1, 0] rfl)
      · refine lv_aload_n E.1 E.2.1 dX2_init_55 rfl (lv_at hl 0 rfl) ?_
        refine fw_get E hK hH ha fc_X2 2 (by decide) ql_RX2_25 rfl rfl dX2_init_56 ?_
        refine lv_iload_n E.1 E.2.1 dX2_init_59 rfl (lv_at hl 1 rfl) ?_
        refine fw_new (fs := [.null, .null, .null, .null, .int 0, .int 0]) E hK hH hz fc_X8 ql_RX2_18 qt_RX8 qn_RX8 (fun j hj => by rcases (show j = 0 ∨ j = 1 ∨ j = 2 ∨ j = 3 ∨ j = 4 ∨ j = 5 by omega) with rfl | rfl | rfl | rfl | rfl | rfl <;> rfl) ⟨by show _ ≤ (169 : Nat); omega, by show _ ≤ (5553 : Nat); omega⟩ dX2_init_60 (fun H1 hH hz1 => ?_)
        replace hz : H1.size = a + 10 + 5 * i + 1 := by omega
        clear hz1
        obtain ⟨M42, hM43⟩ : ∃ MX, MX = fw_up Mw46 (a + 10 + 5 * i) (.inr (8, [.null, .null, .null, .null, .int 0, .int 0])) := ⟨_, rfl⟩
        replace hH := fw_H.nm hM43 hH
        have fr44 : ∀ q, q ≠ a + 10 + 5 * i → M42 q = Mw46 q := fun q h => by rw [hM43]; exact fw_up_ne h
        replace ha : M42 a = some (.inr (2, [.ref (a + 1), .ref (a + 3), .ref (a + 8), .ref (a + 9), .int 0, .int 0, .int 0])) := (fr44 _ (by omega)).trans ha
        replace hDr := drAt.fr hDr (fun q h1 h2 => fr44 q (by omega))
        replace hNo := trAt.fr hNo (fun q h1 h2 => fr44 q (by omega))
        replace h8 : M42 (a + 8) = some (fT G 16 f) := (fr44 _ (by omega)).trans h8
        replace h9 : M42 (a + 9) = some (fT G 16 (fun _ => none)) := (fr44 _ (by omega)).trans h9
        replace hTr := fun (j : Nat) (hj : j < i) => trAt.fr (hTr j hj) (fun q h1 h2 => fr44 q (by omega))
        have hn6 : M42 (a + 10 + 5 * i) = some (.inr (8, [.null, .null, .null, .null, .int 0, .int 0])) := by rw [hM43]; exact fw_up_eq
        refine lv_dup E.1 E.2.1 dX2_init_63 rfl ?_
        refine fw_cIN (As := []) (rest := [.ref (a + 10 + 5 * i), .int (iI ↑i), .ref (a + 8)]) E hK hH hl fL_X8_init rfl ql_RX2_20 qi_yX8_init (k_Tree_init l G _ _ (a + 10 + 5 * i) (by omega) hn6 (by omega)) rfl rfl (Nat.le_of_ble_eq_true rfl) ⟨Nat.le_of_ble_eq_true rfl, Nat.le_of_ble_eq_true rfl⟩ ⟨by show _ ≤ (169 : Nat); omega, by show _ ≤ (5553 : Nat); omega⟩ dX2_init_64 (fw_kv fun M46 H1 locs1 hp45 hH hz1 => ?_)
        obtain ⟨htrAt8, hz2, hfr⟩ := hp45
        replace hz : H1.size = a + 10 + 5 * i + 5 := by omega
        clear hz1 hz2
        have fr47 := hfr
        replace ha : M46 a = some (.inr (2, [.ref (a + 1), .ref (a + 3), .ref (a + 8), .ref (a + 9), .int 0, .int 0, .int 0])) := (fr47 _ (by omega)).trans ha
        replace hDr := drAt.fr hDr (fun q h1 h2 => fr47 q (by omega))
        replace hNo := trAt.fr hNo (fun q h1 h2 => fr47 q (by omega))
        replace h8 : M46 (a + 8) = some (fT G 16 f) := (fr47 _ (by omega)).trans h8
        replace h9 : M46 (a + 9) = some (fT G 16 (fun _ => none)) := (fr47 _ (by omega)).trans h9
        replace hTr := fun (j : Nat) (hj : j < i) => trAt.fr (hTr j hj) (fun q h1 h2 => fr47 q (by omega))
        refine fw_aast E hK hH (by omega) h8 htrAt8.2.1 (iI_in (by omega) (by omega) (by omega)) dX2_init_67 (fun H1 locs1 hH hz1 => ?_)
        replace hz := hz1.trans hz; clear hz1
        rw [iI_ix (by omega) (by omega), show (↑i : Int).toNat = i from by omega] at hH
        obtain ⟨M48, hM49⟩ : ∃ MX, MX = fw_up M46 (a + 8) (fT G 16 (va_up f i (some (a + 10 + 5 * i)))) := ⟨_, rfl⟩
        replace hH := fw_H.nm hM49 hH
        have fr50 : ∀ q, q ≠ (a + 8) → M48 q = M46 q := fun q h => by rw [hM49]; exact fw_up_ne h
        replace ha : M48 a = some (.inr (2, [.ref (a + 1), .ref (a + 3), .ref (a + 8), .ref (a + 9), .int 0, .int 0, .int 0])) := (fr50 _ (by omega)).trans ha
        replace hDr := drAt.fr hDr (fun q h1 h2 => fr50 q (by omega))
        replace hNo := trAt.fr hNo (fun q h1 h2 => fr50 q (by omega))
        replace h9 : M48 (a + 9) = some (fT G 16 (fun _ => none)) := (fr50 _ (by omega)).trans h9
        replace hTr := fun (j : Nat) (hj : j < i) => trAt.fr (hTr j hj) (fun q h1 h2 => fr50 q (by omega))
        replace htrAt8 := trAt.fr htrAt8 (fun q h1 h2 => fr50 q (by omega))
        have h8 : M48 (a + 8) = some (fT G 16 (va_up f i (some (a + 10 + 5 * i)))) := by rw [hM49]; exact fw_up_eq
        refine lv_iinc (v := iI (↑i + 1)) (lv' := [(1, .int (iI (↑i + 1))), (0, .ref a)]) E.1 E.2.1 dX2_init_68 hl (k := 1) rfl (iI_inc rfl) (by decide) rfl (fun ls hl => ?_)
        refine lv_goto (tgt := 46) E.1 E.2.1 dX2_init_71 (by decide) ?_
        refine W.widen (k := 9 + 5 * (i + 1)) (n := 241 + 166 * (i + 1)) (by omega) (by omega) ?_
        exact ih46 (i + 1) (va_up f i (some (a + 10 + 5 * i))) _ _ _ _ (by omega) (fun j hj => if h9 : j = i then (by unfold va_up; rw [if_pos h9, h9]) else (by unfold va_up; rw [if_neg h9]; exact hf1 j (by omega))) (by omega) (fun q hq => by rw [fr50 q (by omega), fr47 q (by omega), fr44 q (by omega)]; exact hfb q hq) hH (by omega) ha hDr hNo h8 h9 (fun j hj => if h9 : j < i then hTr j h9 else (by rw [show a + 10 + 5 * j = a + 10 + 5 * i by omega]; exact htrAt8)) (lv_sub hl [1, 0] rfl)
  refine W.widen (k := 9 + 5 * 0) (n := 241 + 166 * 0) (by omega) (by omega) ?_
  exact loop46_1 (16 - 0 + 1) 0 (fun _ => none) _ _ _ _ (Nat.lt_succ_self _) (fun j hj => absurd hj (Nat.not_lt_zero j)) (by omega) hfb0 hH (by omega) ha hdrAt2 htrAt4 hn4 hn5 (fun j hj => absurd hj (Nat.not_lt_zero j)) (lv_sub hl [1, 0] rfl)
/-- the bench itself: one object that knows all others -/
def bnAt (G : fw_G) (M : fw_M) (a : Nat) : Prop := G.2.2.1 ≤ a ∧ M a = some (.inr (9, [.ref (a + 1), .ref (a + 9), .ref (a + 17), .ref (a + 21), .ref (a + 26), .ref (a + 30), .ref (a + 33), .ref (a + 203), .ref (a + 373)]))
theorem bnAt.fr {G : fw_G} {M M1 : fw_M} {a : Nat} (h : bnAt G M a) (hf : ∀ q, a ≤ q → q < a + 1 → M1 q = M q) : bnAt G M1 a := ⟨h.1, (hf _ (by omega) (by omega)).trans h.2⟩
/-- a new bench -/
def bn0 (G : fw_G) (M : fw_M) (a : Nat) : Prop := bnAt G M a ∧ skAt G M (a + 1) z0 z0 z0 z0 0 0 (zup z0 0 1) (zup z0 0 1) 1 1 ∧ jdAt G M (a + 9) z0 z0 z0 z0 z0 z0 0 0 1 ∧ rnAt G M (a + 17) z0 z0 z0 ∧ brAt G M (a + 21) z0 z0 z0 70 20 5 2 1 ∧ siAt G M (a + 26) z0 z0 ∧ rkAt G M (a + 30) z0 z0 ∧ gvAt G M (a + 33) 0 z0 0 0 (fun _ => z0) (fun _ => z0) (fun _ => z0) (fun _ => z0) (fun _ => 0) (fun _ => 0) 0 0 0 ∧ gvAt G M (a + 203) 0 z0 0 0 (fun _ => z0) (fun _ => z0) (fun _ => z0) (fun _ => z0) (fun _ => 0) (fun _ => 0) 0 0 0 ∧ trAt G M (a + 373) z0 z0 z0 z0 0 0
set_option maxHeartbeats 20000000 in
/-- a new bench -/
theorem k_Barnacle_init (l : Launch) (G : fw_G) (M : fw_M) (N : Nat) (a : Nat) (hb : G.2.2.1 ≤ a) (ha : M a = some (.inr (9, [.null, .null, .null, .null, .null, .null, .null, .null, .null]))) (hN : N = a + 1) : fMet l yX9_init cX9_init 1 none 4 130 377 11837 G M N [.ref a] (fw_pv (fun M1 n1 => bn0 G M1 a ∧ n1 = N + 377 ∧ ∀ q, q < a → M1 q = M q)) := by
  refine fw_met RX9 rfl (by decide +kernel) (Nat.le_of_ble_eq_true rfl) ?_
  intro pG e s m args below meth cG ls E hr hlk hnm hK hH hz hl
  have hz := hz.trans hN
  refine lv_aload_n E.1 E.2.1 dX9_init_0 rfl (lv_at hl 0 rfl) ?_
  refine fw_obj E ql_RX9_1 qi_obj qc_obj hl dX9_init_1 ⟨by decide, by decide⟩ ?_
  refine lv_aload_n E.1 E.2.1 dX9_init_4 rfl (lv_at hl 0 rfl) ?_
  refine fw_new (fs := [.null, .null, .null, .int 0, .int 0]) E hK hH hz fc_X7 ql_RX9_7 qt_RX7 qn_RX7 (fun j hj => by rcases (show j = 0 ∨ j = 1 ∨ j = 2 ∨ j = 3 ∨ j = 4 by omega) with rfl | rfl | rfl | rfl | rfl <;> rfl) ⟨Nat.le_of_ble_eq_true rfl, Nat.le_of_ble_eq_true rfl⟩ dX9_init_5 (fun H1 hH hz1 => ?_)
  replace hz : H1.size = a + 2 := by omega
  clear hz1
  obtain ⟨M1, hM2⟩ : ∃ MX, MX = fw_up M (a + 1) (.inr (7, [.null, .null, .null, .int 0, .int 0])) := ⟨_, rfl⟩
  replace hH := fw_H.nm hM2 hH
  have fr3 : ∀ q, q ≠ a + 1 → M1 q = M q := fun q h => by rw [hM2]; exact fw_up_ne h
  replace ha : M1 a = some (.inr (9, [.null, .null, .null, .null, .null, .null, .null, .null, .null])) := (fr3 _ (by omega)).trans ha
  have hn0 : M1 (a + 1) = some (.inr (7, [.null, .null, .null, .int 0, .int 0])) := by rw [hM2]; exact fw_up_eq
  refine lv_dup E.1 E.2.1 dX9_init_8 rfl ?_
  refine fw_cI (As := []) (rest := [.ref (a + 1), .ref a]) E hK hH hl fL_X7_init rfl ql_RX9_9 qi_yX7_init (k_Sketch_init l G _ _ (a + 1) (by omega) hn0 (by omega)) rfl rfl (Nat.le_of_ble_eq_true rfl) ⟨Nat.le_of_ble_eq_true rfl, Nat.le_of_ble_eq_true rfl⟩ ⟨Nat.le_of_ble_eq_true rfl, Nat.le_of_ble_eq_true rfl⟩ dX9_init_9 (fw_kv fun M5 H1 locs1 hp4 hH hz1 => ?_)
  obtain ⟨hskAt2, hz2, hfr⟩ := hp4
  replace hz : H1.size = a + 9 := by omega
  clear hz1 hz2
  have fr6 := hfr
  replace ha : M5 a = some (.inr (9, [.null, .null, .null, .null, .null, .null, .null, .null, .null])) := (fr6 _ (by omega)).trans ha
  refine fw_putF E hK hH (by omega) ha fc_X9 0 (by decide) ql_RX9_10 rfl rfl hnm rfl rfl (Nat.le_of_ble_eq_true rfl) dX9_init_12 (fun H1 locs1 hH hz1 => ?_)
  replace hz := hz1.trans hz; clear hz1
  obtain ⟨M7, hM8⟩ : ∃ MX, MX = fw_up M5 a (.inr (9, [.ref (a + 1), .null, .null, .null, .null, .null, .null, .null, .null])) := ⟨_, rfl⟩
  replace hH := fw_H.nm hM8 hH
  have fr9 : ∀ q, q ≠ a → M7 q = M5 q := fun q h => by rw [hM8]; exact fw_up_ne h
  replace hskAt2 := skAt.fr hskAt2 (fun q h1 h2 => fr9 q (by omega))
  have ha : M7 a = some (.inr (9, [.ref (a + 1), .null, .null, .null, .null, .null, .null, .null, .null])) := by rw [hM8]; exact fw_up_eq
  refine lv_aload_n E.1 E.2.1 dX9_init_15 rfl (lv_at hl 0 rfl) ?_
  refine fw_new (fs := [.null, .null, .null, .null, .null, .int 0, .int 0, .int 0]) E hK hH hz fc_X3 ql_RX9_16 qt_RX3 qn_RX3 (fun j hj => by rcases (show j = 0 ∨ j = 1 ∨ j = 2 ∨ j = 3 ∨ j = 4 ∨ j = 5 ∨ j = 6 ∨ j = 7 by omega) with rfl | rfl | rfl | rfl | rfl | rfl | rfl | rfl <;> rfl) ⟨Nat.le_of_ble_eq_true rfl, Nat.le_of_ble_eq_true rfl⟩ dX9_init_16 (fun H1 hH hz1 => ?_)
  replace hz : H1.size = a + 10 := by omega
  clear hz1
  obtain ⟨M10, hM11⟩ : ∃ MX, MX = fw_up M7 (a + 9) (.inr (3, [.null, .null, .null, .null, .null, .int 0, .int 0, .int 0])) := ⟨_, rfl⟩
  replace hH := fw_H.nm hM11 hH
  have fr12 : ∀ q, q ≠ a + 9 → M10 q = M7 q := fun q h => by rw [hM11]; exact fw_up_ne h
  replace hskAt2 := skAt.fr hskAt2 (fun q h1 h2 => fr12 q (by omega))
  replace ha : M10 a = some (.inr (9, [.ref (a + 1), .null, .null, .null, .null, .null, .null, .null, .null])) := (fr12 _ (by omega)).trans ha
  have hn2 : M10 (a + 9) = some (.inr (3, [.null, .null, .null, .null, .null, .int 0, .int 0, .int 0])) := by rw [hM11]; exact fw_up_eq
  refine lv_dup E.1 E.2.1 dX9_init_19 rfl ?_
  refine fw_cIN (As := []) (rest := [.ref (a + 9), .ref a]) E hK hH hl fL_X3_init rfl ql_RX9_18 qi_yX3_init (k_Judge_init l G _ _ (a + 9) (by omega) hn2 (by omega)) rfl rfl (Nat.le_of_ble_eq_true rfl) ⟨Nat.le_of_ble_eq_true rfl, Nat.le_of_ble_eq_true rfl⟩ ⟨Nat.le_of_ble_eq_true rfl, Nat.le_of_ble_eq_true rfl⟩ dX9_init_20 (fw_kv fun M14 H1 locs1 hp13 hH hz1 => ?_)
  obtain ⟨hjdAt4, hz2, hfr⟩ := hp13
  replace hz : H1.size = a + 17 := by omega
  clear hz1 hz2
  have fr15 := hfr
  replace hskAt2 := skAt.fr hskAt2 (fun q h1 h2 => fr15 q (by omega))
  replace ha : M14 a = some (.inr (9, [.ref (a + 1), .null, .null, .null, .null, .null, .null, .null, .null])) := (fr15 _ (by omega)).trans ha
  refine fw_putF E hK hH (by omega) ha fc_X9 1 (by decide) ql_RX9_19 rfl rfl hnm rfl rfl (Nat.le_of_ble_eq_true rfl) dX9_init_23 (fun H1 locs1 hH hz1 => ?_)
  replace hz := hz1.trans hz; clear hz1
  obtain ⟨M16, hM17⟩ : ∃ MX, MX = fw_up M14 a (.inr (9, [.ref (a + 1), .ref (a + 9), .null, .null, .null, .null, .null, .null, .null])) := ⟨_, rfl⟩
  replace hH := fw_H.nm hM17 hH
  have fr18 : ∀ q, q ≠ a → M16 q = M14 q := fun q h => by rw [hM17]; exact fw_up_ne h
  replace hskAt2 := skAt.fr hskAt2 (fun q h1 h2 => fr18 q (by omega))
  replace hjdAt4 := jdAt.fr hjdAt4 (fun q h1 h2 => fr18 q (by omega))
  have ha : M16 a = some (.inr (9, [.ref (a + 1), .ref (a + 9), .null, .null, .null, .null, .null, .null, .null])) := by rw [hM17]; exact fw_up_eq
  refine lv_aload_n E.1 E.2.1 dX9_init_26 rfl (lv_at hl 0 rfl) ?_
  refine fw_new (fs := [.null, .null, .null]) E hK hH hz fc_X4 ql_RX9_23 qt_RX4 qn_RX4 (fun j hj => by rcases (show j = 0 ∨ j = 1 ∨ j = 2 by omega) with rfl | rfl | rfl <;> rfl) ⟨Nat.le_of_ble_eq_true rfl, Nat.le_of_ble_eq_true rfl⟩ dX9_init_27 (fun H1 hH hz1 => ?_)
  replace hz : H1.size = a + 18 := by omega
  clear hz1
  obtain ⟨M19, hM20⟩ : ∃ MX, MX = fw_up M16 (a + 17) (.inr (4, [.null, .null, .null])) := ⟨_, rfl⟩
  replace hH := fw_H.nm hM20 hH
  have fr21 : ∀ q, q ≠ a + 17 → M19 q = M16 q := fun q h => by rw [hM20]; exact fw_up_ne h
  replace hskAt2 := skAt.fr hskAt2 (fun q h1 h2 => fr21 q (by omega))
  replace hjdAt4 := jdAt.fr hjdAt4 (fun q h1 h2 => fr21 q (by omega))
  replace ha : M19 a = some (.inr (9, [.ref (a + 1), .ref (a + 9), .null, .null, .null, .null, .null, .null, .null])) := (fr21 _ (by omega)).trans ha
  have hn4 : M19 (a + 17) = some (.inr (4, [.null, .null, .null])) := by rw [hM20]; exact fw_up_eq
  refine lv_dup E.1 E.2.1 dX9_init_30 rfl ?_
  refine fw_cIN (As := []) (rest := [.ref (a + 17), .ref a]) E hK hH hl fL_X4_init rfl ql_RX9_25 qi_yX4_init (k_Ranking_init l G _ _ (a + 17) (by omega) hn4 (by omega)) rfl rfl (Nat.le_of_ble_eq_true rfl) ⟨Nat.le_of_ble_eq_true rfl, Nat.le_of_ble_eq_true rfl⟩ ⟨Nat.le_of_ble_eq_true rfl, Nat.le_of_ble_eq_true rfl⟩ dX9_init_31 (fw_kv fun M23 H1 locs1 hp22 hH hz1 => ?_)
  obtain ⟨hrnAt6, hz2, hfr⟩ := hp22
  replace hz : H1.size = a + 21 := by omega
  clear hz1 hz2
  have fr24 := hfr
  replace hskAt2 := skAt.fr hskAt2 (fun q h1 h2 => fr24 q (by omega))
  replace hjdAt4 := jdAt.fr hjdAt4 (fun q h1 h2 => fr24 q (by omega))
  replace ha : M23 a = some (.inr (9, [.ref (a + 1), .ref (a + 9), .null, .null, .null, .null, .null, .null, .null])) := (fr24 _ (by omega)).trans ha
  refine fw_putF E hK hH (by omega) ha fc_X9 2 (by decide) ql_RX9_26 rfl rfl hnm rfl rfl (Nat.le_of_ble_eq_true rfl) dX9_init_34 (fun H1 locs1 hH hz1 => ?_)
  replace hz := hz1.trans hz; clear hz1
  obtain ⟨M25, hM26⟩ : ∃ MX, MX = fw_up M23 a (.inr (9, [.ref (a + 1), .ref (a + 9), .ref (a + 17), .null, .null, .null, .null, .null, .null])) := ⟨_, rfl⟩
  replace hH := fw_H.nm hM26 hH
  have fr27 : ∀ q, q ≠ a → M25 q = M23 q := fun q h => by rw [hM26]; exact fw_up_ne h
  replace hskAt2 := skAt.fr hskAt2 (fun q h1 h2 => fr27 q (by omega))
  replace hjdAt4 := jdAt.fr hjdAt4 (fun q h1 h2 => fr27 q (by omega))
  replace hrnAt6 := rnAt.fr hrnAt6 (fun q h1 h2 => fr27 q (by omega))
  have ha : M25 a = some (.inr (9, [.ref (a + 1), .ref (a + 9), .ref (a + 17), .null, .null, .null, .null, .null, .null])) := by rw [hM26]; exact fw_up_eq
  refine lv_aload_n E.1 E.2.1 dX9_init_37 rfl (lv_at hl 0 rfl) ?_
  refine fw_new (fs := [.null, .int 0, .int 0, .int 0, .int 0, .int 0]) E hK hH hz fc_X0 ql_RX9_30 qt_RX0 qn_RX0 (fun j hj => by rcases (show j = 0 ∨ j = 1 ∨ j = 2 ∨ j = 3 ∨ j = 4 ∨ j = 5 by omega) with rfl | rfl | rfl | rfl | rfl | rfl <;> rfl) ⟨Nat.le_of_ble_eq_true rfl, Nat.le_of_ble_eq_true rfl⟩ dX9_init_38 (fun H1 hH hz1 => ?_)
  replace hz : H1.size = a + 22 := by omega
  clear hz1
  obtain ⟨M28, hM29⟩ : ∃ MX, MX = fw_up M25 (a + 21) (.inr (0, [.null, .int 0, .int 0, .int 0, .int 0, .int 0])) := ⟨_, rfl⟩
  replace hH := fw_H.nm hM29 hH
  have fr30 : ∀ q, q ≠ a + 21 → M28 q = M25 q := fun q h => by rw [hM29]; exact fw_up_ne h
  replace hskAt2 := skAt.fr hskAt2 (fun q h1 h2 => fr30 q (by omega))
  replace hjdAt4 := jdAt.fr hjdAt4 (fun q h1 h2 => fr30 q (by omega))
  replace hrnAt6 := rnAt.fr hrnAt6 (fun q h1 h2 => fr30 q (by omega))
  replace ha : M28 a = some (.inr (9, [.ref (a + 1), .ref (a + 9), .ref (a + 17), .null, .null, .null, .null, .null, .null])) := (fr30 _ (by omega)).trans ha
  have hn6 : M28 (a + 21) = some (.inr (0, [.null, .int 0, .int 0, .int 0, .int 0, .int 0])) := by rw [hM29]; exact fw_up_eq
  refine lv_dup E.1 E.2.1 dX9_init_41 rfl ?_
  refine fw_cIN (As := []) (rest := [.ref (a + 21), .ref a]) E hK hH hl fL_X0_init rfl ql_RX9_32 qi_yX0_init (k_Breeder_init l G _ _ (a + 21) (by omega) hn6 (by omega)) rfl rfl (Nat.le_of_ble_eq_true rfl) ⟨Nat.le_of_ble_eq_true rfl, Nat.le_of_ble_eq_true rfl⟩ ⟨Nat.le_of_ble_eq_true rfl, Nat.le_of_ble_eq_true rfl⟩ dX9_init_42 (fw_kv fun M32 H1 locs1 hp31 hH hz1 => ?_)
  obtain ⟨hbrAt8, hz2, hfr⟩ := hp31
  replace hz : H1.size = a + 26 := by omega
  clear hz1 hz2
  have fr33 := hfr
  replace hskAt2 := skAt.fr hskAt2 (fun q h1 h2 => fr33 q (by omega))
  replace hjdAt4 := jdAt.fr hjdAt4 (fun q h1 h2 => fr33 q (by omega))
  replace hrnAt6 := rnAt.fr hrnAt6 (fun q h1 h2 => fr33 q (by omega))
  replace ha : M32 a = some (.inr (9, [.ref (a + 1), .ref (a + 9), .ref (a + 17), .null, .null, .null, .null, .null, .null])) := (fr33 _ (by omega)).trans ha
  refine fw_putF E hK hH (by omega) ha fc_X9 3 (by decide) ql_RX9_33 rfl rfl hnm rfl rfl (Nat.le_of_ble_eq_true rfl) dX9_init_45 (fun H1 locs1 hH hz1 => ?_)
  replace hz := hz1.trans hz; clear hz1
  obtain ⟨M34, hM35⟩ : ∃ MX, MX = fw_up M32 a (.inr (9, [.ref (a + 1), .ref (a + 9), .ref (a + 17), .ref (a + 21), .null, .null, .null, .null, .null])) := ⟨_, rfl⟩
  replace hH := fw_H.nm hM35 hH
  have fr36 : ∀ q, q ≠ a → M34 q = M32 q := fun q h => by rw [hM35]; exact fw_up_ne h
  replace hskAt2 := skAt.fr hskAt2 (fun q h1 h2 => fr36 q (by omega))
  replace hjdAt4 := jdAt.fr hjdAt4 (fun q h1 h2 => fr36 q (by omega))
  replace hrnAt6 := rnAt.fr hrnAt6 (fun q h1 h2 => fr36 q (by omega))
  replace hbrAt8 := brAt.fr hbrAt8 (fun q h1 h2 => fr36 q (by omega))
  have ha : M34 a = some (.inr (9, [.ref (a + 1), .ref (a + 9), .ref (a + 17), .ref (a + 21), .null, .null, .null, .null, .null])) := by rw [hM35]; exact fw_up_eq
  refine lv_aload_n E.1 E.2.1 dX9_init_48 rfl (lv_at hl 0 rfl) ?_
  refine fw_new (fs := [.null]) E hK hH hz fc_X6 ql_RX9_37 qt_RX6 qn_RX6 (fun j hj => by rcases (show j = 0 by omega) with rfl <;> rfl) ⟨Nat.le_of_ble_eq_true rfl, Nat.le_of_ble_eq_true rfl⟩ dX9_init_49 (fun H1 hH hz1 => ?_)
  replace hz : H1.size = a + 27 := by omega
  clear hz1
  obtain ⟨M37, hM38⟩ : ∃ MX, MX = fw_up M34 (a + 26) (.inr (6, [.null])) := ⟨_, rfl⟩
  replace hH := fw_H.nm hM38 hH
  have fr39 : ∀ q, q ≠ a + 26 → M37 q = M34 q := fun q h => by rw [hM38]; exact fw_up_ne h
  replace hskAt2 := skAt.fr hskAt2 (fun q h1 h2 => fr39 q (by omega))
  replace hjdAt4 := jdAt.fr hjdAt4 (fun q h1 h2 => fr39 q (by omega))
  replace hrnAt6 := rnAt.fr hrnAt6 (fun q h1 h2 => fr39 q (by omega))
  replace hbrAt8 := brAt.fr hbrAt8 (fun q h1 h2 => fr39 q (by omega))
  replace ha : M37 a = some (.inr (9, [.ref (a + 1), .ref (a + 9), .ref (a + 17), .ref (a + 21), .null, .null, .null, .null, .null])) := (fr39 _ (by omega)).trans ha
  have hn8 : M37 (a + 26) = some (.inr (6, [.null])) := by rw [hM38]; exact fw_up_eq
  refine lv_dup E.1 E.2.1 dX9_init_52 rfl ?_
  refine fw_cIN (As := []) (rest := [.ref (a + 26), .ref a]) E hK hH hl fL_X6_init rfl ql_RX9_39 qi_yX6_init (k_Simplifier_init l G _ _ (a + 26) (by omega) hn8 (by omega)) rfl rfl (Nat.le_of_ble_eq_true rfl) ⟨Nat.le_of_ble_eq_true rfl, Nat.le_of_ble_eq_true rfl⟩ ⟨Nat.le_of_ble_eq_true rfl, Nat.le_of_ble_eq_true rfl⟩ dX9_init_53 (fw_kv fun M41 H1 locs1 hp40 hH hz1 => ?_)
  obtain ⟨hsiAt10, hz2, hfr⟩ := hp40
  replace hz : H1.size = a + 30 := by omega
  clear hz1 hz2
  have fr42 := hfr
  replace hskAt2 := skAt.fr hskAt2 (fun q h1 h2 => fr42 q (by omega))
  replace hjdAt4 := jdAt.fr hjdAt4 (fun q h1 h2 => fr42 q (by omega))
  replace hrnAt6 := rnAt.fr hrnAt6 (fun q h1 h2 => fr42 q (by omega))
  replace hbrAt8 := brAt.fr hbrAt8 (fun q h1 h2 => fr42 q (by omega))
  replace ha : M41 a = some (.inr (9, [.ref (a + 1), .ref (a + 9), .ref (a + 17), .ref (a + 21), .null, .null, .null, .null, .null])) := (fr42 _ (by omega)).trans ha
  refine fw_putF E hK hH (by omega) ha fc_X9 4 (by decide) ql_RX9_40 rfl rfl hnm rfl rfl (Nat.le_of_ble_eq_true rfl) dX9_init_56 (fun H1 locs1 hH hz1 => ?_)
  replace hz := hz1.trans hz; clear hz1
  obtain ⟨M43, hM44⟩ : ∃ MX, MX = fw_up M41 a (.inr (9, [.ref (a + 1), .ref (a + 9), .ref (a + 17), .ref (a + 21), .ref (a + 26), .null, .null, .null, .null])) := ⟨_, rfl⟩
  replace hH := fw_H.nm hM44 hH
  have fr45 : ∀ q, q ≠ a → M43 q = M41 q := fun q h => by rw [hM44]; exact fw_up_ne h
  replace hskAt2 := skAt.fr hskAt2 (fun q h1 h2 => fr45 q (by omega))
  replace hjdAt4 := jdAt.fr hjdAt4 (fun q h1 h2 => fr45 q (by omega))
  replace hrnAt6 := rnAt.fr hrnAt6 (fun q h1 h2 => fr45 q (by omega))
  replace hbrAt8 := brAt.fr hbrAt8 (fun q h1 h2 => fr45 q (by omega))
  replace hsiAt10 := siAt.fr hsiAt10 (fun q h1 h2 => fr45 q (by omega))
  have ha : M43 a = some (.inr (9, [.ref (a + 1), .ref (a + 9), .ref (a + 17), .ref (a + 21), .ref (a + 26), .null, .null, .null, .null])) := by rw [hM44]; exact fw_up_eq
  refine lv_aload_n E.1 E.2.1 dX9_init_59 rfl (lv_at hl 0 rfl) ?_
  refine fw_new (fs := [.null, .null]) E hK hH hz fc_X5 ql_RX9_44 qt_RX5 qn_RX5 (fun j hj => by rcases (show j = 0 ∨ j = 1 by omega) with rfl | rfl <;> rfl) ⟨Nat.le_of_ble_eq_true rfl, Nat.le_of_ble_eq_true rfl⟩ dX9_init_60 (fun H1 hH hz1 => ?_)
  replace hz : H1.size = a + 31 := by omega
  clear hz1
  obtain ⟨M46, hM47⟩ : ∃ MX, MX = fw_up M43 (a + 30) (.inr (5, [.null, .null])) := ⟨_, rfl⟩
  replace hH := fw_H.nm hM47 hH
  have fr48 : ∀ q, q ≠ a + 30 → M46 q = M43 q := fun q h => by rw [hM47]; exact fw_up_ne h
  replace hskAt2 := skAt.fr hskAt2 (fun q h1 h2 => fr48 q (by omega))
  replace hjdAt4 := jdAt.fr hjdAt4 (fun q h1 h2 => fr48 q (by omega))
  replace hrnAt6 := rnAt.fr hrnAt6 (fun q h1 h2 => fr48 q (by omega))
  replace hbrAt8 := brAt.fr hbrAt8 (fun q h1 h2 => fr48 q (by omega))
  replace hsiAt10 := siAt.fr hsiAt10 (fun q h1 h2 => fr48 q (by omega))
  replace ha : M46 a = some (.inr (9, [.ref (a + 1), .ref (a + 9), .ref (a + 17), .ref (a + 21), .ref (a + 26), .null, .null, .null, .null])) := (fr48 _ (by omega)).trans ha
  have hn10 : M46 (a + 30) = some (.inr (5, [.null, .null])) := by rw [hM47]; exact fw_up_eq
  refine lv_dup E.1 E.2.1 dX9_init_63 rfl ?_
  refine fw_cIN (As := []) (rest := [.ref (a + 30), .ref a]) E hK hH hl fL_X5_init rfl ql_RX9_46 qi_yX5_init (k_Reckoner_init l G _ _ (a + 30) (by omega) hn10 (by omega)) rfl rfl (Nat.le_of_ble_eq_true rfl) ⟨Nat.le_of_ble_eq_true rfl, Nat.le_of_ble_eq_true rfl⟩ ⟨Nat.le_of_ble_eq_true rfl, Nat.le_of_ble_eq_true rfl⟩ dX9_init_64 (fw_kv fun M50 H1 locs1 hp49 hH hz1 => ?_)
  obtain ⟨hrkAt12, hz2, hfr⟩ := hp49
  replace hz : H1.size = a + 33 := by omega
  clear hz1 hz2
  have fr51 := hfr
  replace hskAt2 := skAt.fr hskAt2 (fun q h1 h2 => fr51 q (by omega))
  replace hjdAt4 := jdAt.fr hjdAt4 (fun q h1 h2 => fr51 q (by omega))
  replace hrnAt6 := rnAt.fr hrnAt6 (fun q h1 h2 => fr51 q (by omega))
  replace hbrAt8 := brAt.fr hbrAt8 (fun q h1 h2 => fr51 q (by omega))
  replace hsiAt10 := siAt.fr hsiAt10 (fun q h1 h2 => fr51 q (by omega))
  replace ha : M50 a = some (.inr (9, [.ref (a + 1), .ref (a + 9), .ref (a + 17), .ref (a + 21), .ref (a + 26), .null, .null, .null, .null])) := (fr51 _ (by omega)).trans ha
  refine fw_putF E hK hH (by omega) ha fc_X9 5 (by decide) ql_RX9_47 rfl rfl hnm rfl rfl (Nat.le_of_ble_eq_true rfl) dX9_init_67 (fun H1 locs1 hH hz1 => ?_)
  replace hz := hz1.trans hz; clear hz1
  obtain ⟨M52, hM53⟩ : ∃ MX, MX = fw_up M50 a (.inr (9, [.ref (a + 1), .ref (a + 9), .ref (a + 17), .ref (a + 21), .ref (a + 26), .ref (a + 30), .null, .null, .null])) := ⟨_, rfl⟩
  replace hH := fw_H.nm hM53 hH
  have fr54 : ∀ q, q ≠ a → M52 q = M50 q := fun q h => by rw [hM53]; exact fw_up_ne h
  replace hskAt2 := skAt.fr hskAt2 (fun q h1 h2 => fr54 q (by omega))
  replace hjdAt4 := jdAt.fr hjdAt4 (fun q h1 h2 => fr54 q (by omega))
  replace hrnAt6 := rnAt.fr hrnAt6 (fun q h1 h2 => fr54 q (by omega))
  replace hbrAt8 := brAt.fr hbrAt8 (fun q h1 h2 => fr54 q (by omega))
  replace hsiAt10 := siAt.fr hsiAt10 (fun q h1 h2 => fr54 q (by omega))
  replace hrkAt12 := rkAt.fr hrkAt12 (fun q h1 h2 => fr54 q (by omega))
  have ha : M52 a = some (.inr (9, [.ref (a + 1), .ref (a + 9), .ref (a + 17), .ref (a + 21), .ref (a + 26), .ref (a + 30), .null, .null, .null])) := by rw [hM53]; exact fw_up_eq
  refine lv_aload_n E.1 E.2.1 dX9_init_70 rfl (lv_at hl 0 rfl) ?_
  refine fw_new (fs := [.null, .null, .null, .null, .int 0, .int 0, .int 0]) E hK hH hz fc_X2 ql_RX9_51 qt_RX2 qn_RX2 (fun j hj => by rcases (show j = 0 ∨ j = 1 ∨ j = 2 ∨ j = 3 ∨ j = 4 ∨ j = 5 ∨ j = 6 by omega) with rfl | rfl | rfl | rfl | rfl | rfl | rfl <;> rfl) ⟨Nat.le_of_ble_eq_true rfl, Nat.le_of_ble_eq_true rfl⟩ dX9_init_71 (fun H1 hH hz1 => ?_)
  replace hz : H1.size = a + 34 := by omega
  clear hz1
  obtain ⟨M55, hM56⟩ : ∃ MX, MX = fw_up M52 (a + 33) (.inr (2, [.null, .null, .null, .null, .int 0, .int 0, .int 0])) := ⟨_, rfl⟩
  replace hH := fw_H.nm hM56 hH
  have fr57 : ∀ q, q ≠ a + 33 → M55 q = M52 q := fun q h => by rw [hM56]; exact fw_up_ne h
  replace hskAt2 := skAt.fr hskAt2 (fun q h1 h2 => fr57 q (by omega))
  replace hjdAt4 := jdAt.fr hjdAt4 (fun q h1 h2 => fr57 q (by omega))
  replace hrnAt6 := rnAt.fr hrnAt6 (fun q h1 h2 => fr57 q (by omega))
  replace hbrAt8 := brAt.fr hbrAt8 (fun q h1 h2 => fr57 q (by omega))
  replace hsiAt10 := siAt.fr hsiAt10 (fun q h1 h2 => fr57 q (by omega))
  replace hrkAt12 := rkAt.fr hrkAt12 (fun q h1 h2 => fr57 q (by omega))
  replace ha : M55 a = some (.inr (9, [.ref (a + 1), .ref (a + 9), .ref (a + 17), .ref (a + 21), .ref (a + 26), .ref (a + 30), .null, .null, .null])) := (fr57 _ (by omega)).trans ha
  have hn12 : M55 (a + 33) = some (.inr (2, [.null, .null, .null, .null, .int 0, .int 0, .int 0])) := by rw [hM56]; exact fw_up_eq
  refine lv_dup E.1 E.2.1 dX9_init_74 rfl ?_
  refine fw_cI (As := []) (rest := [.ref (a + 33), .ref a]) E hK hH hl fL_X2_init rfl ql_RX9_53 qi_yX2_init (k_Grove_init l G _ _ (a + 33) (by omega) hn12 (by omega)) rfl rfl (Nat.le_of_ble_eq_true rfl) ⟨Nat.le_of_ble_eq_true rfl, Nat.le_of_ble_eq_true rfl⟩ ⟨Nat.le_of_ble_eq_true rfl, Nat.le_of_ble_eq_true rfl⟩ dX9_init_75 (fw_kv fun M59 H1 locs1 hp58 hH hz1 => ?_)
  obtain ⟨hgvAt14, hz2, hfr⟩ := hp58
  replace hz : H1.size = a + 203 := by omega
  clear hz1 hz2
  have fr60 := hfr
  replace hskAt2 := skAt.fr hskAt2 (fun q h1 h2 => fr60 q (by omega))
  replace hjdAt4 := jdAt.fr hjdAt4 (fun q h1 h2 => fr60 q (by omega))
  replace hrnAt6 := rnAt.fr hrnAt6 (fun q h1 h2 => fr60 q (by omega))
  replace hbrAt8 := brAt.fr hbrAt8 (fun q h1 h2 => fr60 q (by omega))
  replace hsiAt10 := siAt.fr hsiAt10 (fun q h1 h2 => fr60 q (by omega))
  replace hrkAt12 := rkAt.fr hrkAt12 (fun q h1 h2 => fr60 q (by omega))
  replace ha : M59 a = some (.inr (9, [.ref (a + 1), .ref (a + 9), .ref (a + 17), .ref (a + 21), .ref (a + 26), .ref (a + 30), .null, .null, .null])) := (fr60 _ (by omega)).trans ha
  refine fw_putF E hK hH (by omega) ha fc_X9 6 (by decide) ql_RX9_54 rfl rfl hnm rfl rfl (Nat.le_of_ble_eq_true rfl) dX9_init_78 (fun H1 locs1 hH hz1 => ?_)
  replace hz := hz1.trans hz; clear hz1
  obtain ⟨M61, hM62⟩ : ∃ MX, MX = fw_up M59 a (.inr (9, [.ref (a + 1), .ref (a + 9), .ref (a + 17), .ref (a + 21), .ref (a + 26), .ref (a + 30), .ref (a + 33), .null, .null])) := ⟨_, rfl⟩
  replace hH := fw_H.nm hM62 hH
  have fr63 : ∀ q, q ≠ a → M61 q = M59 q := fun q h => by rw [hM62]; exact fw_up_ne h
  replace hskAt2 := skAt.fr hskAt2 (fun q h1 h2 => fr63 q (by omega))
  replace hjdAt4 := jdAt.fr hjdAt4 (fun q h1 h2 => fr63 q (by omega))
  replace hrnAt6 := rnAt.fr hrnAt6 (fun q h1 h2 => fr63 q (by omega))
  replace hbrAt8 := brAt.fr hbrAt8 (fun q h1 h2 => fr63 q (by omega))
  replace hsiAt10 := siAt.fr hsiAt10 (fun q h1 h2 => fr63 q (by omega))
  replace hrkAt12 := rkAt.fr hrkAt12 (fun q h1 h2 => fr63 q (by omega))
  replace hgvAt14 := gvAt.fr hgvAt14 (fun q h1 h2 => fr63 q (by omega))
  have ha : M61 a = some (.inr (9, [.ref (a + 1), .ref (a + 9), .ref (a + 17), .ref (a + 21), .ref (a + 26), .ref (a + 30), .ref (a + 33), .null, .null])) := by rw [hM62]; exact fw_up_eq
  refine lv_aload_n E.1 E.2.1 dX9_init_81 rfl (lv_at hl 0 rfl) ?_
  refine fw_new (fs := [.null, .null, .null, .null, .int 0, .int 0, .int 0]) E hK hH hz fc_X2 ql_RX9_51 qt_RX2 qn_RX2 (fun j hj => by rcases (show j = 0 ∨ j = 1 ∨ j = 2 ∨ j = 3 ∨ j = 4 ∨ j = 5 ∨ j = 6 by omega) with rfl | rfl | rfl | rfl | rfl | rfl | rfl <;> rfl) ⟨Nat.le_of_ble_eq_true rfl, Nat.le_of_ble_eq_true rfl⟩ dX9_init_82 (fun H1 hH hz1 => ?_)
  replace hz : H1.size = a + 204 := by omega
  clear hz1
  obtain ⟨M64, hM65⟩ : ∃ MX, MX = fw_up M61 (a + 203) (.inr (2, [.null, .null, .null, .null, .int 0, .int 0, .int 0])) := ⟨_, rfl⟩
  replace hH := fw_H.nm hM65 hH
  have fr66 : ∀ q, q ≠ a + 203 → M64 q = M61 q := fun q h => by rw [hM65]; exact fw_up_ne h
  replace hskAt2 := skAt.fr hskAt2 (fun q h1 h2 => fr66 q (by omega))
  replace hjdAt4 := jdAt.fr hjdAt4 (fun q h1 h2 => fr66 q (by omega))
  replace hrnAt6 := rnAt.fr hrnAt6 (fun q h1 h2 => fr66 q (by omega))
  replace hbrAt8 := brAt.fr hbrAt8 (fun q h1 h2 => fr66 q (by omega))
  replace hsiAt10 := siAt.fr hsiAt10 (fun q h1 h2 => fr66 q (by omega))
  replace hrkAt12 := rkAt.fr hrkAt12 (fun q h1 h2 => fr66 q (by omega))
  replace hgvAt14 := gvAt.fr hgvAt14 (fun q h1 h2 => fr66 q (by omega))
  replace ha : M64 a = some (.inr (9, [.ref (a + 1), .ref (a + 9), .ref (a + 17), .ref (a + 21), .ref (a + 26), .ref (a + 30), .ref (a + 33), .null, .null])) := (fr66 _ (by omega)).trans ha
  have hn14 : M64 (a + 203) = some (.inr (2, [.null, .null, .null, .null, .int 0, .int 0, .int 0])) := by rw [hM65]; exact fw_up_eq
  refine lv_dup E.1 E.2.1 dX9_init_85 rfl ?_
  refine fw_cI (As := []) (rest := [.ref (a + 203), .ref a]) E hK hH hl fL_X2_init rfl ql_RX9_53 qi_yX2_init (k_Grove_init l G _ _ (a + 203) (by omega) hn14 (by omega)) rfl rfl (Nat.le_of_ble_eq_true rfl) ⟨Nat.le_of_ble_eq_true rfl, Nat.le_of_ble_eq_true rfl⟩ ⟨Nat.le_of_ble_eq_true rfl, Nat.le_of_ble_eq_true rfl⟩ dX9_init_86 (fw_kv fun M68 H1 locs1 hp67 hH hz1 => ?_)
  obtain ⟨hgvAt16, hz2, hfr⟩ := hp67
  replace hz : H1.size = a + 373 := by omega
  clear hz1 hz2
  have fr69 := hfr
  replace hskAt2 := skAt.fr hskAt2 (fun q h1 h2 => fr69 q (by omega))
  replace hjdAt4 := jdAt.fr hjdAt4 (fun q h1 h2 => fr69 q (by omega))
  replace hrnAt6 := rnAt.fr hrnAt6 (fun q h1 h2 => fr69 q (by omega))
  replace hbrAt8 := brAt.fr hbrAt8 (fun q h1 h2 => fr69 q (by omega))
  replace hsiAt10 := siAt.fr hsiAt10 (fun q h1 h2 => fr69 q (by omega))
  replace hrkAt12 := rkAt.fr hrkAt12 (fun q h1 h2 => fr69 q (by omega))
  replace hgvAt14 := gvAt.fr hgvAt14 (fun q h1 h2 => fr69 q (by omega))
  replace ha : M68 a = some (.inr (9, [.ref (a + 1), .ref (a + 9), .ref (a + 17), .ref (a + 21), .ref (a + 26), .ref (a + 30), .ref (a + 33), .null, .null])) := (fr69 _ (by omega)).trans ha
  refine fw_putF E hK hH (by omega) ha fc_X9 7 (by decide) ql_RX9_58 rfl rfl hnm rfl rfl (Nat.le_of_ble_eq_true rfl) dX9_init_89 (fun H1 locs1 hH hz1 => ?_)
  replace hz := hz1.trans hz; clear hz1
  obtain ⟨M70, hM71⟩ : ∃ MX, MX = fw_up M68 a (.inr (9, [.ref (a + 1), .ref (a + 9), .ref (a + 17), .ref (a + 21), .ref (a + 26), .ref (a + 30), .ref (a + 33), .ref (a + 203), .null])) := ⟨_, rfl⟩
  replace hH := fw_H.nm hM71 hH
  have fr72 : ∀ q, q ≠ a → M70 q = M68 q := fun q h => by rw [hM71]; exact fw_up_ne h
  replace hskAt2 := skAt.fr hskAt2 (fun q h1 h2 => fr72 q (by omega))
  replace hjdAt4 := jdAt.fr hjdAt4 (fun q h1 h2 => fr72 q (by omega))
  replace hrnAt6 := rnAt.fr hrnAt6 (fun q h1 h2 => fr72 q (by omega))
  replace hbrAt8 := brAt.fr hbrAt8 (fun q h1 h2 => fr72 q (by omega))
  replace hsiAt10 := siAt.fr hsiAt10 (fun q h1 h2 => fr72 q (by omega))
  replace hrkAt12 := rkAt.fr hrkAt12 (fun q h1 h2 => fr72 q (by omega))
  replace hgvAt14 := gvAt.fr hgvAt14 (fun q h1 h2 => fr72 q (by omega))
  replace hgvAt16 := gvAt.fr hgvAt16 (fun q h1 h2 => fr72 q (by omega))
  have ha : M70 a = some (.inr (9, [.ref (a + 1), .ref (a + 9), .ref (a + 17), .ref (a + 21), .ref (a + 26), .ref (a + 30), .ref (a + 33), .ref (a + 203), .null])) := by rw [hM71]; exact fw_up_eq
  refine lv_aload_n E.1 E.2.1 dX9_init_92 rfl (lv_at hl 0 rfl) ?_
  refine fw_new (fs := [.null, .null, .null, .null, .int 0, .int 0]) E hK hH hz fc_X8 ql_RX9_61 qt_RX8 qn_RX8 (fun j hj => by rcases (show j = 0 ∨ j = 1 ∨ j = 2 ∨ j = 3 ∨ j = 4 ∨ j = 5 by omega) with rfl | rfl | rfl | rfl | rfl | rfl <;> rfl) ⟨Nat.le_of_ble_eq_true rfl, Nat.le_of_ble_eq_true rfl⟩ dX9_init_93 (fun H1 hH hz1 => ?_)
  replace hz : H1.size = a + 374 := by omega
  clear hz1
  obtain ⟨M73, hM74⟩ : ∃ MX, MX = fw_up M70 (a + 373) (.inr (8, [.null, .null, .null, .null, .int 0, .int 0])) := ⟨_, rfl⟩
  replace hH := fw_H.nm hM74 hH
  have fr75 : ∀ q, q ≠ a + 373 → M73 q = M70 q := fun q h => by rw [hM74]; exact fw_up_ne h
  replace hskAt2 := skAt.fr hskAt2 (fun q h1 h2 => fr75 q (by omega))
  replace hjdAt4 := jdAt.fr hjdAt4 (fun q h1 h2 => fr75 q (by omega))
  replace hrnAt6 := rnAt.fr hrnAt6 (fun q h1 h2 => fr75 q (by omega))
  replace hbrAt8 := brAt.fr hbrAt8 (fun q h1 h2 => fr75 q (by omega))
  replace hsiAt10 := siAt.fr hsiAt10 (fun q h1 h2 => fr75 q (by omega))
  replace hrkAt12 := rkAt.fr hrkAt12 (fun q h1 h2 => fr75 q (by omega))
  replace hgvAt14 := gvAt.fr hgvAt14 (fun q h1 h2 => fr75 q (by omega))
  replace hgvAt16 := gvAt.fr hgvAt16 (fun q h1 h2 => fr75 q (by omega))
  replace ha : M73 a = some (.inr (9, [.ref (a + 1), .ref (a + 9), .ref (a + 17), .ref (a + 21), .ref (a + 26), .ref (a + 30), .ref (a + 33), .ref (a + 203), .null])) := (fr75 _ (by omega)).trans ha
  have hn16 : M73 (a + 373) = some (.inr (8, [.null, .null, .null, .null, .int 0, .int 0])) := by rw [hM74]; exact fw_up_eq
  refine lv_dup E.1 E.2.1 dX9_init_96 rfl ?_
  refine fw_cIN (As := []) (rest := [.ref (a + 373), .ref a]) E hK hH hl fL_X8_init rfl ql_RX9_63 qi_yX8_init (k_Tree_init l G _ _ (a + 373) (by omega) hn16 (by omega)) rfl rfl (Nat.le_of_ble_eq_true rfl) ⟨Nat.le_of_ble_eq_true rfl, Nat.le_of_ble_eq_true rfl⟩ ⟨Nat.le_of_ble_eq_true rfl, Nat.le_of_ble_eq_true rfl⟩ dX9_init_97 (fw_kv fun M77 H1 locs1 hp76 hH hz1 => ?_)
  obtain ⟨htrAt18, hz2, hfr⟩ := hp76
  replace hz : H1.size = a + 378 := by omega
  clear hz1 hz2
  have fr78 := hfr
  replace hskAt2 := skAt.fr hskAt2 (fun q h1 h2 => fr78 q (by omega))
  replace hjdAt4 := jdAt.fr hjdAt4 (fun q h1 h2 => fr78 q (by omega))
  replace hrnAt6 := rnAt.fr hrnAt6 (fun q h1 h2 => fr78 q (by omega))
  replace hbrAt8 := brAt.fr hbrAt8 (fun q h1 h2 => fr78 q (by omega))
  replace hsiAt10 := siAt.fr hsiAt10 (fun q h1 h2 => fr78 q (by omega))
  replace hrkAt12 := rkAt.fr hrkAt12 (fun q h1 h2 => fr78 q (by omega))
  replace hgvAt14 := gvAt.fr hgvAt14 (fun q h1 h2 => fr78 q (by omega))
  replace hgvAt16 := gvAt.fr hgvAt16 (fun q h1 h2 => fr78 q (by omega))
  replace ha : M77 a = some (.inr (9, [.ref (a + 1), .ref (a + 9), .ref (a + 17), .ref (a + 21), .ref (a + 26), .ref (a + 30), .ref (a + 33), .ref (a + 203), .null])) := (fr78 _ (by omega)).trans ha
  refine fw_putF E hK hH (by omega) ha fc_X9 8 (by decide) ql_RX9_64 rfl rfl hnm rfl rfl (Nat.le_of_ble_eq_true rfl) dX9_init_100 (fun H1 locs1 hH hz1 => ?_)
  replace hz := hz1.trans hz; clear hz1
  obtain ⟨M79, hM80⟩ : ∃ MX, MX = fw_up M77 a (.inr (9, [.ref (a + 1), .ref (a + 9), .ref (a + 17), .ref (a + 21), .ref (a + 26), .ref (a + 30), .ref (a + 33), .ref (a + 203), .ref (a + 373)])) := ⟨_, rfl⟩
  replace hH := fw_H.nm hM80 hH
  have fr81 : ∀ q, q ≠ a → M79 q = M77 q := fun q h => by rw [hM80]; exact fw_up_ne h
  replace hskAt2 := skAt.fr hskAt2 (fun q h1 h2 => fr81 q (by omega))
  replace hjdAt4 := jdAt.fr hjdAt4 (fun q h1 h2 => fr81 q (by omega))
  replace hrnAt6 := rnAt.fr hrnAt6 (fun q h1 h2 => fr81 q (by omega))
  replace hbrAt8 := brAt.fr hbrAt8 (fun q h1 h2 => fr81 q (by omega))
  replace hsiAt10 := siAt.fr hsiAt10 (fun q h1 h2 => fr81 q (by omega))
  replace hrkAt12 := rkAt.fr hrkAt12 (fun q h1 h2 => fr81 q (by omega))
  replace hgvAt14 := gvAt.fr hgvAt14 (fun q h1 h2 => fr81 q (by omega))
  replace hgvAt16 := gvAt.fr hgvAt16 (fun q h1 h2 => fr81 q (by omega))
  replace htrAt18 := trAt.fr htrAt18 (fun q h1 h2 => fr81 q (by omega))
  have ha : M79 a = some (.inr (9, [.ref (a + 1), .ref (a + 9), .ref (a + 17), .ref (a + 21), .ref (a + 26), .ref (a + 30), .ref (a + 33), .ref (a + 203), .ref (a + 373)])) := by rw [hM80]; exact fw_up_eq
  refine fw_vret E hr hlk hH ?_ dX9_init_103
  exact ⟨⟨⟨hb, ha⟩, hskAt2, hjdAt4, hrnAt6, hbrAt8, hsiAt10, hrkAt12, hgvAt14, hgvAt16, htrAt18⟩, by omega, by intro q hq; rw [fr81 q (by omega), fr78 q (by omega), fr75 q (by omega), fr72 q (by omega), fr69 q (by omega), fr66 q (by omega), fr63 q (by omega), fr60 q (by omega), fr57 q (by omega), fr54 q (by omega), fr51 q (by omega), fr48 q (by omega), fr45 q (by omega), fr42 q (by omega), fr39 q (by omega), fr36 q (by omega), fr33 q (by omega), fr30 q (by omega), fr27 q (by omega), fr24 q (by omega), fr21 q (by omega), fr18 q (by omega), fr15 q (by omega), fr12 q (by omega), fr9 q (by omega), fr6 q (by omega), fr3 q (by omega)]⟩

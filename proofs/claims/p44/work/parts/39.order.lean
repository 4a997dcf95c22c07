theorem k_treeG (l : Launch) (G : fw_G) (M : fw_M) (N : Nat) (go o cn : Nat) (lk gn mi : Int) (T : Nat → aT) (hG : gcW G M go o lk cn gn mi T) (i : Nat) (hi : i < 16) : fMet l yX2_tree cX2_tree 2 (some (.object "Barnacle$Tree")) 1 40 0 0 G M N [.ref go, .int (iI ↑i)] (fw_pr (fun r M1 n1 => r = go + 10 + 80 * o + 5 * i ∧ M1 = M ∧ n1 = N)) := by
  obtain ⟨f, hw, hf⟩ := hG.2.2.2.1
  exact k_tree l G M N go (go + 8 + o) (go + 9 - o) i (go + 10 + 80 * o + 5 * i) ↑cn gn mi f hG.2.1 hw hi (hf i hi)
theorem k_youngG (l : Launch) (G : fw_G) (M : fw_M) (N : Nat) (go o cn : Nat) (lk gn mi : Int) (T : Nat → aT) (hG : gcW G M go o lk cn gn mi T) (i : Nat) (hi : i < 16) : fMet l yX2_youngTree cX2_youngTree 2 (some (.object "Barnacle$Tree")) 1 40 0 0 G M N [.ref go, .int (iI ↑i)] (fw_pr (fun r M1 n1 => r = go + 90 - 80 * o + 5 * i ∧ M1 = M ∧ n1 = N)) := by
  obtain ⟨f, hw, hf⟩ := hG.2.2.2.2.1
  exact k_youngTree l G M N go (go + 8 + o) (go + 9 - o) i (go + 90 - 80 * o + 5 * i) ↑cn gn mi f hG.2.1 hw hi (hf i hi)
theorem k_errorG (l : Launch) (G : fw_G) (M : fw_M) (N : Nat) (jo a : Nat) (j : aJ) (t : aT) (hJ : jW G M jo j) (hA : aTw G M a t) (hv : vtOK t.1 t.2.1 t.2.2.1 t.2.2.2) (hj : jOK j) (hsep : jo + 8 ≤ a ∨ a + 5 ≤ jo) (p : Nat) (hp : p < t.1) : fMet l yX3_errorOf cX3_errorOf 6 (some .int) 2 100 0 0 G M N [.ref jo, .ref a, .int (iI ↑p)] (fw_pi (fun r M1 n1 => r = iI (erT j t p) ∧ jW G M1 jo j ∧ (∀ q, q < jo + 1 ∨ jo + 4 ≤ q → M1 q = M q) ∧ n1 = N)) := by
  obtain ⟨ip, rs, hJ⟩ := hJ
  exact k_errorOf l G M N jo a t.1 j.2.2.2.2.1 ip rs j.1 j.2.1 j.2.2.1 j.2.2.2.1 j.2.2.2.2.2.1 j.2.2.2.2.2.2 t.2.1 t.2.2.1 t.2.2.2 hJ hA hv hj.1 hj.2.1 hsep p hp
theorem k_meritG (l : Launch) (G : fw_G) (M : fw_M) (N : Nat) (jo a : Nat) (j : aJ) (t : aT) (hJ : jW G M jo j) (hA : aTw G M a t) (hv : vtOK t.1 t.2.1 t.2.2.1 t.2.2.2) (hj : jOK j) (hsep : jo + 8 ≤ a ∨ a + 5 ≤ jo) : fMet l yX3_meritOf cX3_meritOf 3 (some .int) 3 140 0 0 G M N [.ref jo, .ref a] (fw_pi (fun r M1 n1 => r = iI (meT j t) ∧ jW G M1 jo j ∧ (∀ q, q < jo + 1 ∨ jo + 4 ≤ q → M1 q = M q) ∧ n1 = N)) := by
  obtain ⟨ip, rs, hJ⟩ := hJ
  exact k_meritOf l G M N jo a t.1 j.2.2.2.2.1 ip rs j.1 j.2.1 j.2.2.1 j.2.2.2.1 j.2.2.2.2.2.1 j.2.2.2.2.2.2 t.2.1 t.2.2.1 t.2.2.2 hJ hA hv hj.1 hj.2.1 hsep hj.2.2.1
theorem k_hitsG (l : Launch) (G : fw_G) (M : fw_M) (N : Nat) (jo a : Nat) (j : aJ) (t : aT) (hJ : jW G M jo j) (hA : aTw G M a t) (hv : vtOK t.1 t.2.1 t.2.2.1 t.2.2.2) (hj : jOK j) (hsep : jo + 8 ≤ a ∨ a + 5 ≤ jo) : fMet l yX3_hitsOf cX3_hitsOf 4 (some .int) 2 100 0 0 G M N [.ref jo, .ref a] (fw_pi (fun r M1 n1 => r = iI (htT j t) ∧ jW G M1 jo j ∧ (∀ q, q < jo + 1 ∨ jo + 4 ≤ q → M1 q = M q) ∧ n1 = N)) := by
  obtain ⟨ip, rs, hJ⟩ := hJ
  exact k_hitsOf l G M N jo a t.1 j.2.2.2.2.1 ip rs j.1 j.2.1 j.2.2.1 j.2.2.2.1 j.2.2.2.2.2.1 j.2.2.2.2.2.2 t.2.1 t.2.2.1 t.2.2.2 hJ hA hv hj.1 hj.2.1 hsep
theorem k_copyG (l : Launch) (G : fw_G) (M : fw_M) (N : Nat) (a o : Nat) (t : aT) (hA : tany G M a) (hO : aTw G M o t) (hv : vtOK t.1 t.2.1 t.2.2.1 t.2.2.2) (hao : a + 5 ≤ o ∨ o + 5 ≤ a) : fMet l yX8_copyFrom cX8_copyFrom 2 none 2 80 0 0 G M N [.ref a, .ref o] (fw_pv (fun M1 n1 => aTw G M1 a t ∧ (∀ q, q < a ∨ a + 5 ≤ q → M1 q = M q) ∧ n1 = N)) := k_copyFrom l G M N a o t.1 t.2.1 t.2.2.1 t.2.2.2 hA hO hv hao
set_option maxHeartbeats 1000000 in
theorem k_rank (l : Launch) (G : fw_G) (M : fw_M) (N : Nat) (ko jo : Nat) (j : aJ) (go o cn : Nat) (lk gn mi : Int) (T : Nat → aT) (hG : gcW G M go o lk cn gn mi T) (hK0 : rnW G M ko) (hJ : jW G M jo j) (hj : jOK j) (hT : ∀ k, k < cn → aOK (T k)) (s1 : jo + 8 ≤ ko) (s2 : ko + 4 ≤ go) : fMet l yX4_rank cX4_rank 5 none 4 180 0 0 G M N [.ref ko, .ref go, .ref jo] (fw_pv (fun M1 n1 => rnO G M1 ko cn (fun k => meT j (T k)) (fun k => szT j (T k)) ∧ jW G M1 jo j ∧ (∀ q, (q < jo + 1 ∨ jo + 4 ≤ q) ∧ (q < ko ∨ ko + 4 ≤ q) → M1 q = M q) ∧ n1 = N)) := by
  refine fw_met RX4 rfl (by decide +kernel) (Nat.le_of_ble_eq_true rfl) ?_
  intro pG e s m args below meth cG ls E hr hlk hnm hK hH hz hl
  obtain ⟨hgb, ho1, hcn⟩ := hG.o1
  obtain ⟨m0, s0, w0, ⟨hbo, n0, n1, n2, n3⟩, hmb0⟩ := hK0
  have hjw := hj.2.2.1
  refine lv_iconst (v := iI 0) E.1 E.2.1 dX4_rank_0 (by decide) ?_
  refine lv_istore_n (lv' := [(3, .int (iI 0)), (0, .ref ko), (1, .ref go), (2, .ref jo)]) E.1 E.2.1 dX4_rank_1 rfl hl (by decide) rfl (fun ls hl => ?_)
  have loop2_1 : ∀ (d2 : Nat) (i : Nat) (mq : Nat → Int) (sq : Nat → Int) (wq : Nat → Int) (Mw2 : fw_M) (H : Heap) (locs : List Loc) (ls : Array Slot), cn - i < d2 → i ≤ cn → rnB mq sq → (∀ k, k < i → mq k = meT j (T k) ∧ sq k = szT j (T k)) → (∀ k, k < i → wq k = ordF (fun k => meT j (T k)) (fun k => szT j (T k)) i k) → (∀ q, (q < jo + 1 ∨ jo + 4 ≤ q) ∧ (q < ko ∨ ko + 4 ≤ q) → Mw2 q = M q) → fw_H G s Mw2 H locs → H.size = N → Mw2 ko = some (.inr (4, [.ref (ko + 1), .ref (ko + 2), .ref (ko + 3)])) → Mw2 (ko + 1) = some (fI G 16 (fun j0 => iI (mq j0))) → Mw2 (ko + 2) = some (fI G 16 (fun j0 => iI (sq j0))) → Mw2 (ko + 3) = some (fI G 16 (fun j0 => iI (wq j0))) → gcW G Mw2 go o lk cn gn mi T → jW G Mw2 jo j → lv_has ls 5 [(0, .ref ko), (1, .ref go), (2, .ref jo), (3, .int (iI ↑i))] → W pG l e ({ frames := 4, cells := 0, slots := 0, locals := 180 } : Room) s m args below meth cG H locs (0) (0) (MQ below (fw_Q G (fw_pv (fun M1 n1 => rnO G M1 ko cn (fun k => meT j (T k)) (fun k => szT j (T k)) ∧ jW G M1 jo j ∧ (∀ q, (q < jo + 1 ∨ jo + 4 ≤ q) ∧ (q < ko ∨ ko + 4 ≤ q) → M1 q = M q) ∧ n1 = N))) args s 0 0 (fun q => G.2.2.1 ≤ q)) (F0 m 2 ls []) := by
    intro d2
    induction d2 with
    | zero => intro i mq sq wq Mw2 H locs ls hd; exact absurd hd (Nat.not_lt_zero _)
    | succ d2 ih2 =>
      intro i mq sq wq Mw2 H locs ls hd2 ii hB hA hO hfr0 hH hz n0 n1 n2 n3 hG hJ hl
      refine lv_iload_n E.1 E.2.1 dX4_rank_2 rfl (lv_at hl 3 rfl) ?_
      refine lv_aload_n E.1 E.2.1 dX4_rank_3 rfl (lv_at hl 1 rfl) ?_
      refine fw_getN E hK hH hG.2.1 fc_X2 4 (by decide) ql_RX4_21 rfl rfl dX4_rank_4 ?_
      refine fw_icmp_ge (tgt := 67) E dX4_rank_7 (by decide) (by omega) (by omega) (by omega) (by omega) (fun c1 => ?_) (fun c1 => ?_)
      · refine fw_vret E hr hlk hH ?_ dX4_rank_67
        have e9 : i = cn := by omega
        subst e9
        exact ⟨⟨mq, sq, wq, ⟨hbo, n0, n1, n2, n3⟩, hB, hA, hO⟩, hJ, hfr0, hz⟩
      · have hti := hT i (by omega)
        have htn := hti.1.1
        refine lv_aload_n E.1 E.2.1 dX4_rank_10 rfl (lv_at hl 1 rfl) ?_
        refine lv_iload_n E.1 E.2.1 dX4_rank_11 rfl (lv_at hl 3 rfl) ?_
        refine fw_cV (As := [.int (iI ↑i)]) (rest := []) E hK hH hl hG.2.1 fc_X2 fL_X2_tree ql_RX4_27 qi_yX2_tree qv_yX2_tree (k_treeG l G _ _ go o cn lk gn mi T hG i (by omega)) rfl rfl (Nat.le_of_ble_eq_true rfl) ⟨Nat.le_of_ble_eq_true rfl, Nat.le_of_ble_eq_true rfl⟩ ⟨Nat.le_of_ble_eq_true rfl, Nat.le_of_ble_eq_true rfl⟩ dX4_rank_12 (fw_kr fun r4 M3 H1 locs1 hp2 hH hz1 => ?_)
        obtain ⟨rfl, hM9, hz2⟩ := hp2
        have hT27 := hG.tr (j := i) (by omega)
        replace hz := hz2.trans hz
        clear hz1 hz2
        rw [hM9] at hH
        refine lv_astore (lv' := [(4, .ref (go + 10 + 80 * o + 5 * i)), (0, .ref ko), (1, .ref go), (2, .ref jo), (3, .int (iI ↑i))]) E.1 E.2.1 dX4_rank_15 hl (by decide) rfl (fun ls hl => ?_)
        refine lv_aload_n E.1 E.2.1 dX4_rank_17 rfl (lv_at hl 1 rfl) ?_
        refine fw_get E hK hH n0 fc_X4 0 (by decide) ql_RX4_9 rfl rfl dX4_rank_18 ?_
        refine lv_iload_n E.1 E.2.1 dX4_rank_21 rfl (lv_at hl 4 rfl) ?_
        refine lv_aload_n E.1 E.2.1 dX4_rank_22 rfl (lv_at hl 3 rfl) ?_
        refine lv_aload E.1 E.2.1 dX4_rank_23 (lv_at hl 0 rfl) ?_
        refine fw_cV (As := [.ref (go + 10 + 80 * o + 5 * i)]) (rest := [.int (iI ↑i), .ref (ko + 1)]) E hK hH hl hJ.c fc_X3 fL_X3_meritOf ql_RX4_31 qi_yX3_meritOf qv_yX3_meritOf (k_meritG l G _ _ jo (go + 10 + 80 * o + 5 * i) j (T i) hJ hT27 hti.1 hj (by omega)) rfl rfl (Nat.le_of_ble_eq_true rfl) ⟨Nat.le_of_ble_eq_true rfl, Nat.le_of_ble_eq_true rfl⟩ ⟨Nat.le_of_ble_eq_true rfl, Nat.le_of_ble_eq_true rfl⟩ dX4_rank_25 (fw_ki fun r7 M6 H1 locs1 hp5 hH hz1 => ?_)
        obtain ⟨rfl, hJ39, hfr, hz2⟩ := hp5
        replace hz := hz2.trans hz
        clear hz1 hz2
        have fr8 := hfr
        replace n0 : M6 ko = some (.inr (4, [.ref (ko + 1), .ref (ko + 2), .ref (ko + 3)])) := (fr8 _ (by omega)).trans n0
        replace n1 : M6 (ko + 1) = some (fI G 16 (fun j0 => iI (mq j0))) := (fr8 _ (by omega)).trans n1
        replace n2 : M6 (ko + 2) = some (fI G 16 (fun j0 => iI (sq j0))) := (fr8 _ (by omega)).trans n2
        replace n3 : M6 (ko + 3) = some (fI G 16 (fun j0 => iI (wq j0))) := (fr8 _ (by omega)).trans n3
        replace hG := gcW.fr hG (fun q h1 h2 => fr8 q (by omega))
        replace hT27 := aTw.fr hT27 (fun q h1 h2 => fr8 q (by omega))
        refine fw_cSN (As := [.ref (ko + 1), .int (iI ↑i), .int (iI (meT j (T i)))]) (rest := []) E hK hH hl fL_X9_put ql_RX4_37 qs_yX9_put (k_put l G _ _ (ko + 1) 16 mq ↑i i (meT j (T i)) n1 (by omega) (by omega) (by omega) (by omega)) rfl rfl (Nat.le_of_ble_eq_true rfl) ⟨Nat.le_of_ble_eq_true rfl, Nat.le_of_ble_eq_true rfl⟩ ⟨Nat.le_of_ble_eq_true rfl, Nat.le_of_ble_eq_true rfl⟩ dX4_rank_28 (fw_kv fun M10 H1 locs1 hp9 hH hz1 => ?_)
        obtain ⟨hM8, hz2⟩ := hp9
        have hfr : ∀ q, q ≠ ko + 1 → M10 q = M6 q := fun q h => by rw [hM8]; exact fw_up_ne h
        have n1 : M10 (ko + 1) = some (fI G 16 (fun j0 => iI ((zup mq i (meT j (T i))) j0))) := by rw [hM8]; exact fw_up_eq
        replace hz := hz2.trans hz
        clear hz1 hz2
        have fr11 := hfr
        replace n0 : M10 ko = some (.inr (4, [.ref (ko + 1), .ref (ko + 2), .ref (ko + 3)])) := (fr11 _ (by omega)).trans n0
        replace n2 : M10 (ko + 2) = some (fI G 16 (fun j0 => iI (sq j0))) := (fr11 _ (by omega)).trans n2
        replace n3 : M10 (ko + 3) = some (fI G 16 (fun j0 => iI (wq j0))) := (fr11 _ (by omega)).trans n3
        replace hG := gcW.fr hG (fun q h1 h2 => fr11 q (by omega))
        replace hT27 := aTw.fr hT27 (fun q h1 h2 => fr11 q (by omega))
        replace hJ39 := jW.fr hJ39 (fun q h1 h2 => fr11 q (by omega))
        refine lv_aload_n E.1 E.2.1 dX4_rank_31 rfl (lv_at hl 1 rfl) ?_
        refine fw_get E hK hH n0 fc_X4 1 (by decide) ql_RX4_15 rfl rfl dX4_rank_32 ?_
        refine lv_iload_n E.1 E.2.1 dX4_rank_35 rfl (lv_at hl 4 rfl) ?_
        refine lv_aload_n E.1 E.2.1 dX4_rank_36 rfl (lv_at hl 3 rfl) ?_
        refine fw_getN E hK hH hJ39.c fc_X3 6 (by decide) ql_RX4_41 rfl rfl dX4_rank_37 ?_
        refine lv_iconst (v := iI 2) E.1 E.2.1 dX4_rank_40 (by decide) ?_
        refine fw_icmp_ne (tgt := 52) E dX4_rank_41 (by decide) (by omega) (by omega) (by omega) (by omega) (fun c12 => ?_) (fun c12 => ?_)
        · refine lv_iconst (v := iI 0) E.1 E.2.1 dX4_rank_52 (by decide) ?_
          refine fw_cSN (As := [.ref (ko + 2), .int (iI ↑i), .int (iI 0)]) (rest := []) E hK hH hl fL_X9_put ql_RX4_37 qs_yX9_put (k_put l G _ _ (ko + 2) 16 sq ↑i i 0 n2 (by omega) (by omega) (by omega) (by omega)) rfl rfl (Nat.le_of_ble_eq_true rfl) ⟨Nat.le_of_ble_eq_true rfl, Nat.le_of_ble_eq_true rfl⟩ ⟨Nat.le_of_ble_eq_true rfl, Nat.le_of_ble_eq_true rfl⟩ dX4_rank_53 (fw_kv fun M14 H1 locs1 hp13 hH hz1 => ?_)
          obtain ⟨hM8, hz2⟩ := hp13
          have hfr : ∀ q, q ≠ ko + 2 → M14 q = M10 q := fun q h => by rw [hM8]; exact fw_up_ne h
          have n2 : M14 (ko + 2) = some (fI G 16 (fun j0 => iI ((zup sq i 0) j0))) := by rw [hM8]; exact fw_up_eq
          replace hz := hz2.trans hz
          clear hz1 hz2
          have fr15 := hfr
          replace n0 : M14 ko = some (.inr (4, [.ref (ko + 1), .ref (ko + 2), .ref (ko + 3)])) := (fr15 _ (by omega)).trans n0
          replace n3 : M14 (ko + 3) = some (fI G 16 (fun j0 => iI (wq j0))) := (fr15 _ (by omega)).trans n3
          replace hG := gcW.fr hG (fun q h1 h2 => fr15 q (by omega))
          replace hT27 := aTw.fr hT27 (fun q h1 h2 => fr15 q (by omega))
          replace hJ39 := jW.fr hJ39 (fun q h1 h2 => fr15 q (by omega))
          replace n1 : M14 (ko + 1) = some (fI G 16 (fun j0 => iI ((zup mq i (meT j (T i))) j0))) := (fr15 _ (by omega)).trans n1
          have hbt := meT_b hj hti.1
          have hbs := szT_b (j := j) hti.1
          have hsz9 : (zup sq i 0) i = szT j (T i) := by rw [zup_eq]; unfold szT; rw [if_neg (by omega)]
          have hmb9 : rnB (zup mq i (meT j (T i))) (zup sq i 0) := fun k hk => by
            by_cases e : k = i
            · rw [e, hsz9, zup_eq]; exact ⟨⟨by omega, by omega⟩, hbs⟩
            · rw [zup_ne e, zup_ne e]; exact hB k hk
          have hob9 : ∀ k, k < i → 0 ≤ wq k ∧ wq k < 16 := fun k hk => by
            have := ordF_b (fun k => meT j (T k)) (fun k => szT j (T k)) i k hk; rw [hO k hk]; omega
          have hA9 : ∀ k, k ≤ i → (zup mq i (meT j (T i))) k = meT j (T k) ∧ (zup sq i 0) k = szT j (T k) := fun k hk => by
            by_cases e : k = i
            · rw [e, hsz9, zup_eq]; exact ⟨rfl, rfl⟩
            · rw [zup_ne e, zup_ne e]; exact hA k (by omega)
          refine lv_aload_n E.1 E.2.1 dX4_rank_56 rfl (lv_at hl 1 rfl) ?_
          refine lv_iload_n E.1 E.2.1 dX4_rank_57 rfl (lv_at hl 4 rfl) ?_
          refine fw_cV (As := [.int (iI ↑i)]) (rest := []) E hK hH hl n0 fc_X4 fL_X4_insert ql_RX4_49 qi_yX4_insert qv_yX4_insert (k_insert l G _ _ ko (zup mq i (meT j (T i))) (zup sq i 0) wq ⟨hbo, n0, n1, n2, n3⟩ i (by omega) hmb9 hob9) rfl rfl (Nat.le_of_ble_eq_true rfl) ⟨Nat.le_of_ble_eq_true rfl, Nat.le_of_ble_eq_true rfl⟩ ⟨Nat.le_of_ble_eq_true rfl, Nat.le_of_ble_eq_true rfl⟩ dX4_rank_58 (fw_kv fun M17 H1 locs1 hp16 hH hz1 => ?_)
          obtain ⟨⟨_, nx99, ny99, nz99, nw99⟩, hfr, hz2⟩ := hp16
          replace hz := hz2.trans hz
          clear hz1 hz2
          have fr18 := hfr
          replace hG := gcW.fr hG (fun q h1 h2 => fr18 q (by omega))
          replace hT27 := aTw.fr hT27 (fun q h1 h2 => fr18 q (by omega))
          replace hJ39 := jW.fr hJ39 (fun q h1 h2 => fr18 q (by omega))
          refine lv_iinc (v := iI (↑i + 1)) (lv' := [(3, .int (iI (↑i + 1))), (4, .ref (go + 10 + 80 * o + 5 * i)), (0, .ref ko), (1, .ref go), (2, .ref jo)]) E.1 E.2.1 dX4_rank_61 hl (k := 4) rfl (iI_inc rfl) (by decide) rfl (fun ls hl => ?_)
          refine lv_goto (tgt := 2) E.1 E.2.1 dX4_rank_64 (by decide) ?_
          exact ih2 (i + 1) (zup mq i (meT j (T i))) (zup sq i 0) (insO (zup mq i (meT j (T i))) (zup sq i 0) wq i) _ _ _ _ (by omega) (by omega) hmb9 (fun k hk => hA9 k (by omega)) (fun k hk => insO_congr hO (fun k hk => ordF_b (fun k => meT j (T k)) (fun k => szT j (T k)) i k hk) hA9 k (by omega)) (fun q hq => by rw [fr18 q (by omega), fr15 q (by omega), fr11 q (by omega), fr8 q (by omega)]; exact hfr0 q hq) hH (by omega) nx99 ny99 nz99 nw99 hG hJ39 (lv_sub hl [2, 3, 4, 0] rfl)
        · refine lv_aload E.1 E.2.1 dX4_rank_44 (lv_at hl 0 rfl) ?_
          refine fw_getN E hK hH hT27.c fc_X8 4 (by decide) ql_RX4_44 rfl rfl dX4_rank_46 ?_
          refine lv_goto (tgt := 53) E.1 E.2.1 dX4_rank_49 (by decide) ?_
          refine fw_cSN (As := [.ref (ko + 2), .int (iI ↑i), .int (iI (↑(T i).1))]) (rest := []) E hK hH hl fL_X9_put ql_RX4_37 qs_yX9_put (k_put l G _ _ (ko + 2) 16 sq ↑i i (↑(T i).1) n2 (by omega) (by omega) (by omega) (by omega)) rfl rfl (Nat.le_of_ble_eq_true rfl) ⟨Nat.le_of_ble_eq_true rfl, Nat.le_of_ble_eq_true rfl⟩ ⟨Nat.le_of_ble_eq_true rfl, Nat.le_of_ble_eq_true rfl⟩ dX4_rank_53 (fw_kv fun M20 H1 locs1 hp19 hH hz1 => ?_)
          obtain ⟨hM8, hz2⟩ := hp19
          have hfr : ∀ q, q ≠ ko + 2 → M20 q = M10 q := fun q h => by rw [hM8]; exact fw_up_ne h
          have n2 : M20 (ko + 2) = some (fI G 16 (fun j0 => iI ((zup sq i (↑(T i).1)) j0))) := by rw [hM8]; exact fw_up_eq
          replace hz := hz2.trans hz
          clear hz1 hz2
          have fr21 := hfr
          replace n0 : M20 ko = some (.inr (4, [.ref (ko + 1), .ref (ko + 2), .ref (ko + 3)])) := (fr21 _ (by omega)).trans n0
          replace n3 : M20 (ko + 3) = some (fI G 16 (fun j0 => iI (wq j0))) := (fr21 _ (by omega)).trans n3
          replace hG := gcW.fr hG (fun q h1 h2 => fr21 q (by omega))
          replace hT27 := aTw.fr hT27 (fun q h1 h2 => fr21 q (by omega))
          replace hJ39 := jW.fr hJ39 (fun q h1 h2 => fr21 q (by omega))
          replace n1 : M20 (ko + 1) = some (fI G 16 (fun j0 => iI ((zup mq i (meT j (T i))) j0))) := (fr21 _ (by omega)).trans n1
          have hbt := meT_b hj hti.1
          have hbs := szT_b (j := j) hti.1
          have hsz9 : (zup sq i (↑(T i).1)) i = szT j (T i) := by rw [zup_eq]; unfold szT; rw [if_pos (by omega)]
          have hmb9 : rnB (zup mq i (meT j (T i))) (zup sq i (↑(T i).1)) := fun k hk => by
            by_cases e : k = i
            · rw [e, hsz9, zup_eq]; exact ⟨⟨by omega, by omega⟩, hbs⟩
            · rw [zup_ne e, zup_ne e]; exact hB k hk
          have hob9 : ∀ k, k < i → 0 ≤ wq k ∧ wq k < 16 := fun k hk => by
            have := ordF_b (fun k => meT j (T k)) (fun k => szT j (T k)) i k hk; rw [hO k hk]; omega
          have hA9 : ∀ k, k ≤ i → (zup mq i (meT j (T i))) k = meT j (T k) ∧ (zup sq i (↑(T i).1)) k = szT j (T k) := fun k hk => by
            by_cases e : k = i
            · rw [e, hsz9, zup_eq]; exact ⟨rfl, rfl⟩
            · rw [zup_ne e, zup_ne e]; exact hA k (by omega)
          refine lv_aload_n E.1 E.2.1 dX4_rank_56 rfl (lv_at hl 1 rfl) ?_
          refine lv_iload_n E.1 E.2.1 dX4_rank_57 rfl (lv_at hl 4 rfl) ?_
          refine fw_cV (As := [.int (iI ↑i)]) (rest := []) E hK hH hl n0 fc_X4 fL_X4_insert ql_RX4_49 qi_yX4_insert qv_yX4_insert (k_insert l G _ _ ko (zup mq i (meT j (T i))) (zup sq i (↑(T i).1)) wq ⟨hbo, n0, n1, n2, n3⟩ i (by omega) hmb9 hob9) rfl rfl (Nat.le_of_ble_eq_true rfl) ⟨Nat.le_of_ble_eq_true rfl, Nat.le_of_ble_eq_true rfl⟩ ⟨Nat.le_of_ble_eq_true rfl, Nat.le_of_ble_eq_true rfl⟩ dX4_rank_58 (fw_kv fun M23 H1 locs1 hp22 hH hz1 => ?_)
          obtain ⟨⟨_, nx141, ny141, nz141, nw141⟩, hfr, hz2⟩ := hp22
          replace hz := hz2.trans hz
          clear hz1 hz2
          have fr24 := hfr
          replace hG := gcW.fr hG (fun q h1 h2 => fr24 q (by omega))
          replace hT27 := aTw.fr hT27 (fun q h1 h2 => fr24 q (by omega))
          replace hJ39 := jW.fr hJ39 (fun q h1 h2 => fr24 q (by omega))
          refine lv_iinc (v := iI (↑i + 1)) (lv' := [(3, .int (iI (↑i + 1))), (4, .ref (go + 10 + 80 * o + 5 * i)), (0, .ref ko), (1, .ref go), (2, .ref jo)]) E.1 E.2.1 dX4_rank_61 hl (k := 4) rfl (iI_inc rfl) (by decide) rfl (fun ls hl => ?_)
          refine lv_goto (tgt := 2) E.1 E.2.1 dX4_rank_64 (by decide) ?_
          exact ih2 (i + 1) (zup mq i (meT j (T i))) (zup sq i (↑(T i).1)) (insO (zup mq i (meT j (T i))) (zup sq i (↑(T i).1)) wq i) _ _ _ _ (by omega) (by omega) hmb9 (fun k hk => hA9 k (by omega)) (fun k hk => insO_congr hO (fun k hk => ordF_b (fun k => meT j (T k)) (fun k => szT j (T k)) i k hk) hA9 k (by omega)) (fun q hq => by rw [fr24 q (by omega), fr21 q (by omega), fr11 q (by omega), fr8 q (by omega)]; exact hfr0 q hq) hH (by omega) nx141 ny141 nz141 nw141 hG hJ39 (lv_sub hl [2, 3, 4, 0] rfl)
  exact loop2_1 (cn - 0 + 1) 0 m0 s0 w0 _ _ _ _ (Nat.lt_succ_self _) (Nat.zero_le _) hmb0 (fun k h => absurd h (Nat.not_lt_zero k)) (fun k h => absurd h (Nat.not_lt_zero k)) (fun _ _ => rfl) hH (by omega) n0 n1 n2 n3 hG hJ (lv_sub hl [1, 2, 3, 0] rfl)

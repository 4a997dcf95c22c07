theorem gyW.z {G : fw_G} {M : fw_M} {go o k : Nat} {Y Y2 : Nat → aT} (h : gyW G M go o k Y) : gyW G M go o 0 Y2 := ⟨fun j hj => absurd hj (Nat.not_lt_zero j), h.2.1, h.2.2.1, Nat.zero_le _⟩
set_option maxHeartbeats 4000000 in
theorem k_errorAfter (l : Launch) (G : fw_G) (M : fw_M) (N : Nat) (bo jo dg : Nat) (ra : aR) (j : aJ) (go o cn : Nat) (lk gn mi : Int) (T : Nat → aT) (hG : gcW G M go o lk cn gn mi T) (hB : brW G M bo ra) (hQ : rnW G M (bo + 1)) (hY : gyW G M go o 0 T) (hJ : jW G M jo j) (hj : jOK j) (hTk : ∀ k, k < cn → aOK (T k)) (hr9 : rOK ra) (hlu : 0 ≤ lk ∧ lk < 10000) (hc0 : 0 < cn) (hdg : dg ≤ 10) (s0 : jo + 8 ≤ bo) (s1 : bo + 5 ≤ go) : fMet l yX0_errorAfter cX0_errorAfter 7 (some .int) 6 220 0 0 G M N [.ref bo, .int (iI ↑dg), .ref go, .ref jo] (fw_pi (fun r M1 n1 => r = iI (erT j ((brD j cn ra lk T dg).2 (bst j cn (brD j cn ra lk T dg).2)) 0) ∧ (∃ (o1 : Nat) (gn1 mi1 : Int), gcW G M1 go o1 (brD j cn ra lk T dg).1 cn gn1 mi1 (brD j cn ra lk T dg).2 ∧ gyW G M1 go o1 0 T) ∧ jW G M1 jo j ∧ brW G M1 bo ra ∧ rnW G M1 (bo + 1) ∧ (∀ q, (q < jo + 1 ∨ jo + 4 ≤ q) ∧ (q < bo + 1 ∨ bo + 5 ≤ q) ∧ (q < go ∨ go + 170 ≤ q) → M1 q = M q) ∧ n1 = N)) := by
  refine fw_met RX0 rfl (by decide +kernel) (Nat.le_of_ble_eq_true rfl) ?_
  intro pG e s m args below meth cG ls E hr hlk hnm hK hH hz hl
  obtain ⟨r91, r92, r93, r94, r95⟩ := id hr9
  refine lv_iconst (v := iI 0) E.1 E.2.1 dX0_errorAfter_0 (by decide) ?_
  refine lv_istore (lv' := [(4, .int (iI 0)), (0, .ref bo), (1, .int (iI ↑dg)), (2, .ref go), (3, .ref jo)]) E.1 E.2.1 dX0_errorAfter_1 hl (by decide) rfl (fun ls hl => ?_)
  have hfr0 : ∀ q, (q < jo + 1 ∨ jo + 4 ≤ q) ∧ (q < bo + 1 ∨ bo + 5 ≤ q) ∧ (q < go ∨ go + 170 ≤ q) → M q = M q := (fun _ _ => rfl)
  have loop3_1 : ∀ (d3 : Nat) (d : Nat) (oq : Nat) (gq : Int) (mq : Int) (Mw3 : fw_M) (H : Heap) (locs : List Loc) (ls : Array Slot), dg - d < d3 → d ≤ dg → (∀ q, (q < jo + 1 ∨ jo + 4 ≤ q) ∧ (q < bo + 1 ∨ bo + 5 ≤ q) ∧ (q < go ∨ go + 170 ≤ q) → Mw3 q = M q) → fw_H G s Mw3 H locs → H.size = N → brW G Mw3 bo ra → rnW G Mw3 (bo + 1)  → gcW G Mw3 go oq ((brD j cn ra lk T d).1) cn gq mq ((brD j cn ra lk T d).2) → gyW G Mw3 go oq 0 T → jW G Mw3 jo j → lv_has ls 7 [(0, .ref bo), (1, .int (iI ↑dg)), (2, .ref go), (3, .ref jo), (4, .int (iI ↑d))] → W pG l e ({ frames := 6, cells := 0, slots := 0, locals := 220 } : Room) s m args below meth cG H locs (0) (0) (MQ below (fw_Q G (fw_pi (fun r M1 n1 => r = iI (erT j ((brD j cn ra lk T dg).2 (bst j cn (brD j cn ra lk T dg).2)) 0) ∧ (∃ (o1 : Nat) (gn1 mi1 : Int), gcW G M1 go o1 (brD j cn ra lk T dg).1 cn gn1 mi1 (brD j cn ra lk T dg).2 ∧ gyW G M1 go o1 0 T) ∧ jW G M1 jo j ∧ brW G M1 bo ra ∧ rnW G M1 (bo + 1) ∧ (∀ q, (q < jo + 1 ∨ jo + 4 ≤ q) ∧ (q < bo + 1 ∨ bo + 5 ≤ q) ∧ (q < go ∨ go + 170 ≤ q) → M1 q = M q) ∧ n1 = N))) args s 0 0 (fun q => G.2.2.1 ≤ q)) (F0 m 3 ls []) := by
    intro d3
    induction d3 with
    | zero => intro d oq gq mq Mw3 H locs ls hd; exact absurd hd (Nat.not_lt_zero _)
    | succ d3 ih3 =>
      intro d oq gq mq Mw3 H locs ls hd3 idd hfr0 hH hz hB hQ hG hY hJ hl
      obtain ⟨hgb, ho1, hcn⟩ := hG.o1
      have hbd := brD_ok (j := j) (r := ra) hlu hc0 hTk d
      have hld := hbd.1
      have hTd := hbd.2
      have hkn : kpN ra cn ≤ cn := Nat.min_le_right _ _
      refine lv_iload E.1 E.2.1 dX0_errorAfter_3 (lv_at hl 4 rfl) ?_
      refine lv_iload_n E.1 E.2.1 dX0_errorAfter_5 rfl (lv_at hl 1 rfl) ?_
      refine fw_icmp_ge (tgt := 109) E dX0_errorAfter_6 (by decide) (by omega) (by omega) (by omega) (by omega) (fun c1 => ?_) (fun c1 => ?_)
      · refine lv_aload_n E.1 E.2.1 dX0_errorAfter_109 rfl (lv_at hl 0 rfl) ?_
        refine fw_get E hK hH hB.2 fc_X0 0 (by decide) ql_RX0_12 rfl rfl dX0_errorAfter_110 ?_
        refine lv_aload_n E.1 E.2.1 dX0_errorAfter_113 rfl (lv_at hl 2 rfl) ?_
        refine lv_aload_n E.1 E.2.1 dX0_errorAfter_114 rfl (lv_at hl 3 rfl) ?_
        refine fw_cV (As := [.ref go, .ref jo]) (rest := []) E hK hH hl hQ.c fc_X4 fL_X4_rank ql_RX0_34 qi_yX4_rank qv_yX4_rank (k_rank l G _ _ (bo + 1) jo j go oq cn ((brD j cn ra lk T d).1) gq mq ((brD j cn ra lk T d).2) hG hQ hJ hj hTd (by omega) (by omega)) rfl rfl (Nat.le_of_ble_eq_true rfl) ⟨Nat.le_of_ble_eq_true rfl, Nat.le_of_ble_eq_true rfl⟩ ⟨Nat.le_of_ble_eq_true rfl, Nat.le_of_ble_eq_true rfl⟩ dX0_errorAfter_115 (fw_kv fun M3 H1 locs1 hp2 hH hz1 => ?_)
        obtain ⟨hQ26, hJ26, hfr, hz2⟩ := hp2
        replace hz := hz2.trans hz
        clear hz1 hz2
        have fr4 := hfr
        replace hB := brW.fr hB (fun q h1 h2 => fr4 q (by omega))
        replace hG := gcW.fr hG (fun q h1 h2 => fr4 q (by omega))
        replace hY := gyW.fr hY (fun q h1 h2 => fr4 q (by omega))
        refine lv_aload_n E.1 E.2.1 dX0_errorAfter_118 rfl (lv_at hl 3 rfl) ?_
        refine lv_aload_n E.1 E.2.1 dX0_errorAfter_119 rfl (lv_at hl 2 rfl) ?_
        refine lv_aload_n E.1 E.2.1 dX0_errorAfter_120 rfl (lv_at hl 0 rfl) ?_
        refine fw_get E hK hH hB.2 fc_X0 0 (by decide) ql_RX0_12 rfl rfl dX0_errorAfter_121 ?_
        refine lv_iconst (v := iI 0) E.1 E.2.1 dX0_errorAfter_124 (by decide) ?_
        refine fw_cV (As := [.int (iI 0)]) (rest := [.ref go, .ref jo]) E hK hH hl hQ26.c fc_X4 fL_X4_withRank ql_RX0_53 qi_yX4_withRank qv_yX4_withRank (k_withRankG l G _ _ (bo + 1) cn (fun k => meT j ((brD j cn ra lk T d).2 k)) (fun k => szT j ((brD j cn ra lk T d).2 k)) hQ26 hcn 0 (by omega)) rfl rfl (Nat.le_of_ble_eq_true rfl) ⟨Nat.le_of_ble_eq_true rfl, Nat.le_of_ble_eq_true rfl⟩ ⟨Nat.le_of_ble_eq_true rfl, Nat.le_of_ble_eq_true rfl⟩ dX0_errorAfter_125 (fw_ki fun r7 M6 H1 locs1 hp5 hH hz1 => ?_)
        obtain ⟨rfl, hM9, hz2⟩ := hp5
        have hob39 := ordF_b (fun k => meT j ((brD j cn ra lk T d).2 k)) (fun k => szT j ((brD j cn ra lk T d).2 k)) cn 0 (by omega)
        refine fw_cv (y := iI (↑(ordF (fun k => meT j ((brD j cn ra lk T d).2 k)) (fun k => szT j ((brD j cn ra lk T d).2 k)) cn 0).toNat)) (congrArg iI (by omega)) ?_
        replace hz := hz2.trans hz
        clear hz1 hz2
        rw [hM9] at hH
        refine fw_cV (As := [.int (iI (↑(ordF (fun k => meT j ((brD j cn ra lk T d).2 k)) (fun k => szT j ((brD j cn ra lk T d).2 k)) cn 0).toNat))]) (rest := [.ref jo]) E hK hH hl hG.2.1 fc_X2 fL_X2_tree ql_RX0_57 qi_yX2_tree qv_yX2_tree (k_treeG l G _ _ go oq cn ((brD j cn ra lk T d).1) gq mq ((brD j cn ra lk T d).2) hG ((ordF (fun k => meT j ((brD j cn ra lk T d).2 k)) (fun k => szT j ((brD j cn ra lk T d).2 k)) cn 0).toNat) (by omega)) rfl rfl (Nat.le_of_ble_eq_true rfl) ⟨Nat.le_of_ble_eq_true rfl, Nat.le_of_ble_eq_true rfl⟩ ⟨Nat.le_of_ble_eq_true rfl, Nat.le_of_ble_eq_true rfl⟩ dX0_errorAfter_128 (fw_kr fun r10 M9 H1 locs1 hp8 hH hz1 => ?_)
        obtain ⟨rfl, hM9, hz2⟩ := hp8
        have hT46 := hG.tr (j := ((ordF (fun k => meT j ((brD j cn ra lk T d).2 k)) (fun k => szT j ((brD j cn ra lk T d).2 k)) cn 0).toNat)) (by omega)
        replace hz := hz2.trans hz
        clear hz1 hz2
        rw [hM9] at hH
        refine lv_iconst (v := iI 0) E.1 E.2.1 dX0_errorAfter_131 (by decide) ?_
        refine fw_cV (As := [.ref (go + 10 + 80 * oq + 5 * ((ordF (fun k => meT j ((brD j cn ra lk T d).2 k)) (fun k => szT j ((brD j cn ra lk T d).2 k)) cn 0).toNat)), .int (iI 0)]) (rest := []) E hK hH hl hJ26.c fc_X3 fL_X3_errorOf ql_RX0_73 qi_yX3_errorOf qv_yX3_errorOf (k_errorG l G _ _ jo (go + 10 + 80 * oq + 5 * ((ordF (fun k => meT j ((brD j cn ra lk T d).2 k)) (fun k => szT j ((brD j cn ra lk T d).2 k)) cn 0).toNat)) j ((brD j cn ra lk T d).2 ((ordF (fun k => meT j ((brD j cn ra lk T d).2 k)) (fun k => szT j ((brD j cn ra lk T d).2 k)) cn 0).toNat)) hJ26 hT46 (hTd _ (by omega)).1 hj (by omega) 0 (hTd _ (by omega)).1.1.1) rfl rfl (Nat.le_of_ble_eq_true rfl) ⟨Nat.le_of_ble_eq_true rfl, Nat.le_of_ble_eq_true rfl⟩ ⟨Nat.le_of_ble_eq_true rfl, Nat.le_of_ble_eq_true rfl⟩ dX0_errorAfter_132 (fw_ki fun r13 M12 H1 locs1 hp11 hH hz1 => ?_)
        obtain ⟨rfl, hJ53, hfr, hz2⟩ := hp11
        replace hz := hz2.trans hz
        clear hz1 hz2
        have fr14 := hfr
        replace hB := brW.fr hB (fun q h1 h2 => fr14 q (by omega))
        replace hG := gcW.fr hG (fun q h1 h2 => fr14 q (by omega))
        replace hY := gyW.fr hY (fun q h1 h2 => fr14 q (by omega))
        replace hQ26 := rnO.fr hQ26 (fun q h1 h2 => fr14 q (by omega))
        replace hT46 := aTw.fr hT46 (fun q h1 h2 => fr14 q (by omega))
        have e9 : d = dg := by omega
        subst e9
        refine fw_iret E hr hlk hH ?_ dX0_errorAfter_135
        exact ⟨rfl, ⟨oq, gq, mq, hG, hY⟩, hJ53, hB, hQ26.w, (fun q hq => by rw [fr14 q (by omega), fr4 q (by omega)]; exact hfr0 q hq), hz⟩
      · refine lv_aload_n E.1 E.2.1 dX0_errorAfter_9 rfl (lv_at hl 0 rfl) ?_
        refine fw_get E hK hH hB.2 fc_X0 0 (by decide) ql_RX0_12 rfl rfl dX0_errorAfter_10 ?_
        refine lv_aload_n E.1 E.2.1 dX0_errorAfter_13 rfl (lv_at hl 2 rfl) ?_
        refine lv_aload_n E.1 E.2.1 dX0_errorAfter_14 rfl (lv_at hl 3 rfl) ?_
        refine fw_cV (As := [.ref go, .ref jo]) (rest := []) E hK hH hl hQ.c fc_X4 fL_X4_rank ql_RX0_34 qi_yX4_rank qv_yX4_rank (k_rank l G _ _ (bo + 1) jo j go oq cn ((brD j cn ra lk T d).1) gq mq ((brD j cn ra lk T d).2) hG hQ hJ hj hTd (by omega) (by omega)) rfl rfl (Nat.le_of_ble_eq_true rfl) ⟨Nat.le_of_ble_eq_true rfl, Nat.le_of_ble_eq_true rfl⟩ ⟨Nat.le_of_ble_eq_true rfl, Nat.le_of_ble_eq_true rfl⟩ dX0_errorAfter_15 (fw_kv fun M16 H1 locs1 hp15 hH hz1 => ?_)
        obtain ⟨hQ71, hJ71, hfr, hz2⟩ := hp15
        replace hz := hz2.trans hz
        clear hz1 hz2
        have fr17 := hfr
        replace hB := brW.fr hB (fun q h1 h2 => fr17 q (by omega))
        replace hG := gcW.fr hG (fun q h1 h2 => fr17 q (by omega))
        replace hY := gyW.fr hY (fun q h1 h2 => fr17 q (by omega))
        refine lv_aload_n E.1 E.2.1 dX0_errorAfter_18 rfl (lv_at hl 0 rfl) ?_
        refine fw_get E hK hH hB.2 fc_X0 5 (by decide) ql_RX0_31 rfl rfl dX0_errorAfter_19 ?_
        refine lv_aload_n E.1 E.2.1 dX0_errorAfter_22 rfl (lv_at hl 2 rfl) ?_
        refine fw_getN E hK hH hG.2.1 fc_X2 4 (by decide) ql_RX0_38 rfl rfl dX0_errorAfter_23 ?_
        refine fw_min (a := ↑ra.2.2.2.2) (b := ↑cn) E ql_RX0_43 hl (by omega) (by omega) (by omega) (by omega) ⟨by decide, by decide⟩ ⟨by show _ ≤ (0 : Nat); omega, by show _ ≤ (0 : Nat); omega⟩ dX0_errorAfter_26 qs_J9_min qn_J9 qc_J9_min ?_
        refine fw_cv (y := iI (↑(kpN ra cn))) (congrArg iI (by unfold kpN; omega)) ?_
        refine lv_istore (lv' := [(5, .int (iI (↑(kpN ra cn)))), (0, .ref bo), (1, .int (iI ↑dg)), (2, .ref go), (3, .ref jo), (4, .int (iI ↑d))]) E.1 E.2.1 dX0_errorAfter_29 hl (by decide) rfl (fun ls hl => ?_)
        refine lv_iconst (v := iI 0) E.1 E.2.1 dX0_errorAfter_31 (by decide) ?_
        refine lv_istore (lv' := [(6, .int (iI 0)), (5, .int (iI (↑(kpN ra cn)))), (0, .ref bo), (1, .int (iI ↑dg)), (2, .ref go), (3, .ref jo), (4, .int (iI ↑d))]) E.1 E.2.1 dX0_errorAfter_32 hl (by decide) rfl (fun ls hl => ?_)
        have hfr0 : ∀ q, (q < jo + 1 ∨ jo + 4 ≤ q) ∧ (q < bo + 1 ∨ bo + 5 ≤ q) ∧ (q < go ∨ go + 170 ≤ q) → M16 q = M q := (fun q hq => by rw [fr17 q (by omega)]; exact hfr0 q hq)
        have loop34_2 : ∀ (d34 : Nat) (i : Nat) (Mw34 : fw_M) (H : Heap) (locs : List Loc) (ls : Array Slot), kpN ra cn - i < d34 → i ≤ kpN ra cn → (∀ q, (q < jo + 1 ∨ jo + 4 ≤ q) ∧ (q < bo + 1 ∨ bo + 5 ≤ q) ∧ (q < go ∨ go + 170 ≤ q) → Mw34 q = M q) → fw_H G s Mw34 H locs → H.size = N → brW G Mw34 bo ra → rnO G Mw34 (bo + 1) cn (fun k => meT j ((brD j cn ra lk T d).2 k)) (fun k => szT j ((brD j cn ra lk T d).2 k)) → gcW G Mw34 go oq ((brD j cn ra lk T d).1) cn gq mq ((brD j cn ra lk T d).2) → gyW G Mw34 go oq i (gnT (fun k => meT j ((brD j cn ra lk T d).2 k)) (fun k => szT j ((brD j cn ra lk T d).2 k)) cn (brD j cn ra lk T d).2 ra (brD j cn ra lk T d).1) → jW G Mw34 jo j → lv_has ls 7 [(0, .ref bo), (1, .int (iI ↑dg)), (2, .ref go), (3, .ref jo), (4, .int (iI ↑d)), (5, .int (iI (↑(kpN ra cn)))), (6, .int (iI ↑i))] → W pG l e ({ frames := 6, cells := 0, slots := 0, locals := 220 } : Room) s m args below meth cG H locs (0) (0) (MQ below (fw_Q G (fw_pi (fun r M1 n1 => r = iI (erT j ((brD j cn ra lk T dg).2 (bst j cn (brD j cn ra lk T dg).2)) 0) ∧ (∃ (o1 : Nat) (gn1 mi1 : Int), gcW G M1 go o1 (brD j cn ra lk T dg).1 cn gn1 mi1 (brD j cn ra lk T dg).2 ∧ gyW G M1 go o1 0 T) ∧ jW G M1 jo j ∧ brW G M1 bo ra ∧ rnW G M1 (bo + 1) ∧ (∀ q, (q < jo + 1 ∨ jo + 4 ≤ q) ∧ (q < bo + 1 ∨ bo + 5 ≤ q) ∧ (q < go ∨ go + 170 ≤ q) → M1 q = M q) ∧ n1 = N))) args s 0 0 (fun q => G.2.2.1 ≤ q)) (F0 m 34 ls []) := by
          intro d34
          induction d34 with
          | zero => intro i Mw34 H locs ls hd; exact absurd hd (Nat.not_lt_zero _)
          | succ d34 ih34 =>
            intro i Mw34 H locs ls hd34 ii hfr0 hH hz hB hQ hG hY hJ hl
            refine lv_iload E.1 E.2.1 dX0_errorAfter_34 (lv_at hl 6 rfl) ?_
            refine lv_iload E.1 E.2.1 dX0_errorAfter_36 (lv_at hl 5 rfl) ?_
            refine fw_icmp_ge (tgt := 69) E dX0_errorAfter_38 (by decide) (by omega) (by omega) (by omega) (by omega) (fun c18 => ?_) (fun c18 => ?_)
            · refine lv_iload E.1 E.2.1 dX0_errorAfter_69 (lv_at hl 5 rfl) ?_
              refine lv_istore (lv' := [(6, .int (iI (↑(kpN ra cn)))), (0, .ref bo), (1, .int (iI ↑dg)), (2, .ref go), (3, .ref jo), (4, .int (iI ↑d)), (5, .int (iI (↑(kpN ra cn))))]) E.1 E.2.1 dX0_errorAfter_71 hl (by decide) rfl (fun ls hl => ?_)
              have hfr0 : ∀ q, (q < jo + 1 ∨ jo + 4 ≤ q) ∧ (q < bo + 1 ∨ bo + 5 ≤ q) ∧ (q < go ∨ go + 170 ≤ q) → Mw34 q = M q := hfr0
              have loop73_3 : ∀ (d73 : Nat) (i : Nat) (mr : Int) (Mw73 : fw_M) (H : Heap) (locs : List Loc) (ls : Array Slot), cn - i < d73 → kpN ra cn ≤ i → i ≤ cn → (∀ q, (q < jo + 1 ∨ jo + 4 ≤ q) ∧ (q < bo + 1 ∨ bo + 5 ≤ q) ∧ (q < go ∨ go + 170 ≤ q) → Mw73 q = M q) → fw_H G s Mw73 H locs → H.size = N → brW G Mw73 bo ra → rnO G Mw73 (bo + 1) cn (fun k => meT j ((brD j cn ra lk T d).2 k)) (fun k => szT j ((brD j cn ra lk T d).2 k)) → gcW G Mw73 go oq (gnL (fun k => meT j ((brD j cn ra lk T d).2 k)) (fun k => szT j ((brD j cn ra lk T d).2 k)) cn (brD j cn ra lk T d).2 ra (brD j cn ra lk T d).1 (i - kpN ra cn)) cn gq mr ((brD j cn ra lk T d).2) → gyW G Mw73 go oq i (gnT (fun k => meT j ((brD j cn ra lk T d).2 k)) (fun k => szT j ((brD j cn ra lk T d).2 k)) cn (brD j cn ra lk T d).2 ra (brD j cn ra lk T d).1) → jW G Mw73 jo j → lv_has ls 7 [(0, .ref bo), (1, .int (iI ↑dg)), (2, .ref go), (3, .ref jo), (4, .int (iI ↑d)), (5, .int (iI (↑(kpN ra cn)))), (6, .int (iI ↑i))] → W pG l e ({ frames := 6, cells := 0, slots := 0, locals := 220 } : Room) s m args below meth cG H locs (0) (0) (MQ below (fw_Q G (fw_pi (fun r M1 n1 => r = iI (erT j ((brD j cn ra lk T dg).2 (bst j cn (brD j cn ra lk T dg).2)) 0) ∧ (∃ (o1 : Nat) (gn1 mi1 : Int), gcW G M1 go o1 (brD j cn ra lk T dg).1 cn gn1 mi1 (brD j cn ra lk T dg).2 ∧ gyW G M1 go o1 0 T) ∧ jW G M1 jo j ∧ brW G M1 bo ra ∧ rnW G M1 (bo + 1) ∧ (∀ q, (q < jo + 1 ∨ jo + 4 ≤ q) ∧ (q < bo + 1 ∨ bo + 5 ≤ q) ∧ (q < go ∨ go + 170 ≤ q) → M1 q = M q) ∧ n1 = N))) args s 0 0 (fun q => G.2.2.1 ≤ q)) (F0 m 73 ls []) := by
                intro d73
                induction d73 with
                | zero => intro i mr Mw73 H locs ls hd; exact absurd hd (Nat.not_lt_zero _)
                | succ d73 ih73 =>
                  intro i mr Mw73 H locs ls hd73 i1 i2 hfr0 hH hz hB hQ hG hY hJ hl
                  have hgl := gnL_b (me := (fun k => meT j ((brD j cn ra lk T d).2 k))) (sz := (fun k => szT j ((brD j cn ra lk T d).2 k))) (r := ra) hld hc0 hTd (i - kpN ra cn)
                  refine lv_iload E.1 E.2.1 dX0_errorAfter_73 (lv_at hl 6 rfl) ?_
                  refine lv_aload_n E.1 E.2.1 dX0_errorAfter_75 rfl (lv_at hl 2 rfl) ?_
                  refine fw_getN E hK hH hG.2.1 fc_X2 4 (by decide) ql_RX0_38 rfl rfl dX0_errorAfter_76 ?_
                  refine fw_icmp_ge (tgt := 99) E dX0_errorAfter_79 (by decide) (by omega) (by omega) (by omega) (by omega) (fun c19 => ?_) (fun c19 => ?_)
                  · refine lv_aload_n E.1 E.2.1 dX0_errorAfter_99 rfl (lv_at hl 2 rfl) ?_
                    have e9 : i = cn := by omega
                    refine fw_cV (As := []) (rest := []) E hK hH hl hG.2.1 fc_X2 fL_X2_replaceByYoung ql_RX0_70 qi_yX2_replaceByYoung qv_yX2_replaceByYoung (k_replaceByYoung l G _ _ go (go + 8 + oq) (go + 9 - oq) ↑cn gq mr hgb hG.2.1) rfl rfl (Nat.le_of_ble_eq_true rfl) ⟨Nat.le_of_ble_eq_true rfl, Nat.le_of_ble_eq_true rfl⟩ ⟨Nat.le_of_ble_eq_true rfl, Nat.le_of_ble_eq_true rfl⟩ dX0_errorAfter_100 (fw_kv fun M21 H1 locs1 hp20 hH hz1 => ?_)
                    obtain ⟨hob, hfr, hz2⟩ := hp20
                    rw [e9] at hG hY
                    obtain ⟨hG113, hY113⟩ := g_swap hG hY hob hfr
                    replace hz := hz2.trans hz
                    clear hz1 hz2
                    have fr22 := hfr
                    replace hB := brW.fr hB (fun q h1 h2 => fr22 q (by omega))
                    replace hQ := rnO.fr hQ (fun q h1 h2 => fr22 q (by omega))
                    replace hJ := jW.fr hJ (fun q h1 h2 => fr22 q (by omega))
                    refine lv_iinc (v := iI (↑d + 1)) (lv' := [(4, .int (iI (↑d + 1))), (0, .ref bo), (1, .int (iI ↑dg)), (2, .ref go), (3, .ref jo), (5, .int (iI (↑(kpN ra cn)))), (6, .int (iI ↑i))]) E.1 E.2.1 dX0_errorAfter_103 hl (k := 4) rfl (iI_inc rfl) (by decide) rfl (fun ls hl => ?_)
                    refine lv_goto (tgt := 3) E.1 E.2.1 dX0_errorAfter_106 (by decide) ?_
                    exact ih3 (d + 1) (1 - oq) (gq + 1) mr _ _ _ _ (by omega) (by omega) (fun q hq => by rw [fr22 q (by omega)]; exact hfr0 q hq) hH (by omega) hB hQ.w hG113 hY113.z hJ (lv_sub hl [1, 2, 3, 4, 0] rfl)
                  · refine lv_aload_n E.1 E.2.1 dX0_errorAfter_82 rfl (lv_at hl 0 rfl) ?_
                    refine lv_aload_n E.1 E.2.1 dX0_errorAfter_83 rfl (lv_at hl 2 rfl) ?_
                    refine lv_aload_n E.1 E.2.1 dX0_errorAfter_84 rfl (lv_at hl 2 rfl) ?_
                    refine lv_iload E.1 E.2.1 dX0_errorAfter_85 (lv_at hl 6 rfl) ?_
                    refine fw_cV (As := [.int (iI ↑i)]) (rest := [.ref go, .ref bo]) E hK hH hl hG.2.1 fc_X2 fL_X2_youngTree ql_RX0_49 qi_yX2_youngTree qv_yX2_youngTree (k_youngG l G _ _ go oq cn (gnL (fun k => meT j ((brD j cn ra lk T d).2 k)) (fun k => szT j ((brD j cn ra lk T d).2 k)) cn (brD j cn ra lk T d).2 ra (brD j cn ra lk T d).1 (i - kpN ra cn)) gq mr ((brD j cn ra lk T d).2) hG i (by omega)) rfl rfl (Nat.le_of_ble_eq_true rfl) ⟨Nat.le_of_ble_eq_true rfl, Nat.le_of_ble_eq_true rfl⟩ ⟨Nat.le_of_ble_eq_true rfl, Nat.le_of_ble_eq_true rfl⟩ dX0_errorAfter_87 (fw_kr fun r25 M24 H1 locs1 hp23 hH hz1 => ?_)
                    obtain ⟨rfl, hM9, hz2⟩ := hp23
                    have hya131 := hY.2.1 i (by omega)
                    replace hz := hz2.trans hz
                    clear hz1 hz2
                    rw [hM9] at hH
                    refine fw_cV (As := [.ref go, .ref (go + 90 - 80 * oq + 5 * i)]) (rest := []) E hK hH hl hB.2 fc_X0 fL_X0_makeYoung ql_RX0_66 qi_yX0_makeYoung qv_yX0_makeYoung (k_makeYoung l G _ _ bo (go + 90 - 80 * oq + 5 * i) ra (fun k => meT j ((brD j cn ra lk T d).2 k)) (fun k => szT j ((brD j cn ra lk T d).2 k)) go oq cn (gnL (fun k => meT j ((brD j cn ra lk T d).2 k)) (fun k => szT j ((brD j cn ra lk T d).2 k)) cn (brD j cn ra lk T d).2 ra (brD j cn ra lk T d).1 (i - kpN ra cn)) gq mr ((brD j cn ra lk T d).2) hG hB hQ hya131 hTd hr9 hgl hc0 (by omega) (by omega)) rfl rfl (Nat.le_of_ble_eq_true rfl) ⟨Nat.le_of_ble_eq_true rfl, Nat.le_of_ble_eq_true rfl⟩ ⟨Nat.le_of_ble_eq_true rfl, Nat.le_of_ble_eq_true rfl⟩ dX0_errorAfter_90 (fw_kv fun M27 H1 locs1 hp26 hH hz1 => ?_)
                    obtain ⟨hC137, ⟨mi137, hG137⟩, hfr, hz2⟩ := hp26
                    have hY137 := hY.set (k := i) (by omega) (show (mkF (fun k => meT j ((brD j cn ra lk T d).2 k)) (fun k => szT j ((brD j cn ra lk T d).2 k)) cn (brD j cn ra lk T d).2 ra (gnL (fun k => meT j ((brD j cn ra lk T d).2 k)) (fun k => szT j ((brD j cn ra lk T d).2 k)) cn (brD j cn ra lk T d).2 ra (brD j cn ra lk T d).1 (i - kpN ra cn))).2 = gnT (fun k => meT j ((brD j cn ra lk T d).2 k)) (fun k => szT j ((brD j cn ra lk T d).2 k)) cn (brD j cn ra lk T d).2 ra (brD j cn ra lk T d).1 i from (if_neg (by omega)).symm) hC137 (fun q q1 q2 q3 => hfr q (by omega))
                    replace hz := hz2.trans hz
                    clear hz1 hz2
                    have fr28 := hfr
                    replace hB := brW.fr hB (fun q h1 h2 => fr28 q (by omega))
                    replace hQ := rnO.fr hQ (fun q h1 h2 => fr28 q (by omega))
                    replace hJ := jW.fr hJ (fun q h1 h2 => fr28 q (by omega))
                    refine lv_iinc (v := iI (↑i + 1)) (lv' := [(6, .int (iI (↑i + 1))), (0, .ref bo), (1, .int (iI ↑dg)), (2, .ref go), (3, .ref jo), (4, .int (iI ↑d)), (5, .int (iI (↑(kpN ra cn))))]) E.1 E.2.1 dX0_errorAfter_93 hl (k := 6) rfl (iI_inc rfl) (by decide) rfl (fun ls hl => ?_)
                    refine lv_goto (tgt := 73) E.1 E.2.1 dX0_errorAfter_96 (by decide) ?_
                    exact ih73 (i + 1) mi137 _ _ _ _ (by omega) (by omega) (by omega) (fun q hq => by rw [fr28 q (by omega)]; exact hfr0 q hq) hH (by omega) hB hQ (by rw [show i + 1 - kpN ra cn = (i - kpN ra cn) + 1 by omega]; exact hG137) hY137 hJ (lv_sub hl [1, 2, 3, 4, 5, 6, 0] rfl)
              exact loop73_3 (cn - (kpN ra cn) + 1) (kpN ra cn) mq _ _ _ _ (Nat.lt_succ_self _) (Nat.le_refl _) hkn hfr0 hH (by omega) hB hQ (by rw [Nat.sub_self]; exact hG) (by rw [show kpN ra cn = i by omega]; exact hY) hJ (lv_sub hl [1, 2, 3, 4, 5, 6, 0] rfl)
            · refine lv_aload_n E.1 E.2.1 dX0_errorAfter_41 rfl (lv_at hl 2 rfl) ?_
              refine lv_iload E.1 E.2.1 dX0_errorAfter_42 (lv_at hl 6 rfl) ?_
              refine fw_cV (As := [.int (iI ↑i)]) (rest := []) E hK hH hl hG.2.1 fc_X2 fL_X2_youngTree ql_RX0_49 qi_yX2_youngTree qv_yX2_youngTree (k_youngG l G _ _ go oq cn ((brD j cn ra lk T d).1) gq mq ((brD j cn ra lk T d).2) hG i (by omega)) rfl rfl (Nat.le_of_ble_eq_true rfl) ⟨Nat.le_of_ble_eq_true rfl, Nat.le_of_ble_eq_true rfl⟩ ⟨Nat.le_of_ble_eq_true rfl, Nat.le_of_ble_eq_true rfl⟩ dX0_errorAfter_44 (fw_kr fun r31 M30 H1 locs1 hp29 hH hz1 => ?_)
              obtain ⟨rfl, hM9, hz2⟩ := hp29
              have hya152 := hY.2.1 i (by omega)
              replace hz := hz2.trans hz
              clear hz1 hz2
              rw [hM9] at hH
              refine lv_aload_n E.1 E.2.1 dX0_errorAfter_47 rfl (lv_at hl 2 rfl) ?_
              refine lv_aload_n E.1 E.2.1 dX0_errorAfter_48 rfl (lv_at hl 0 rfl) ?_
              refine fw_get E hK hH hB.2 fc_X0 0 (by decide) ql_RX0_12 rfl rfl dX0_errorAfter_49 ?_
              refine lv_iload E.1 E.2.1 dX0_errorAfter_52 (lv_at hl 6 rfl) ?_
              refine fw_cV (As := [.int (iI ↑i)]) (rest := [.ref go, .ref (go + 90 - 80 * oq + 5 * i)]) E hK hH hl hQ.c fc_X4 fL_X4_withRank ql_RX0_53 qi_yX4_withRank qv_yX4_withRank (k_withRankG l G _ _ (bo + 1) cn (fun k => meT j ((brD j cn ra lk T d).2 k)) (fun k => szT j ((brD j cn ra lk T d).2 k)) hQ hcn i (by omega)) rfl rfl (Nat.le_of_ble_eq_true rfl) ⟨Nat.le_of_ble_eq_true rfl, Nat.le_of_ble_eq_true rfl⟩ ⟨Nat.le_of_ble_eq_true rfl, Nat.le_of_ble_eq_true rfl⟩ dX0_errorAfter_54 (fw_ki fun r34 M33 H1 locs1 hp32 hH hz1 => ?_)
              obtain ⟨rfl, hM9, hz2⟩ := hp32
              have hob162 := ordF_b (fun k => meT j ((brD j cn ra lk T d).2 k)) (fun k => szT j ((brD j cn ra lk T d).2 k)) cn i (by omega)
              refine fw_cv (y := iI (↑(ordF (fun k => meT j ((brD j cn ra lk T d).2 k)) (fun k => szT j ((brD j cn ra lk T d).2 k)) cn i).toNat)) (congrArg iI (by omega)) ?_
              replace hz := hz2.trans hz
              clear hz1 hz2
              rw [hM9] at hH
              refine fw_cV (As := [.int (iI (↑(ordF (fun k => meT j ((brD j cn ra lk T d).2 k)) (fun k => szT j ((brD j cn ra lk T d).2 k)) cn i).toNat))]) (rest := [.ref (go + 90 - 80 * oq + 5 * i)]) E hK hH hl hG.2.1 fc_X2 fL_X2_tree ql_RX0_57 qi_yX2_tree qv_yX2_tree (k_treeG l G _ _ go oq cn ((brD j cn ra lk T d).1) gq mq ((brD j cn ra lk T d).2) hG ((ordF (fun k => meT j ((brD j cn ra lk T d).2 k)) (fun k => szT j ((brD j cn ra lk T d).2 k)) cn i).toNat) (by omega)) rfl rfl (Nat.le_of_ble_eq_true rfl) ⟨Nat.le_of_ble_eq_true rfl, Nat.le_of_ble_eq_true rfl⟩ ⟨Nat.le_of_ble_eq_true rfl, Nat.le_of_ble_eq_true rfl⟩ dX0_errorAfter_57 (fw_kr fun r37 M36 H1 locs1 hp35 hH hz1 => ?_)
              obtain ⟨rfl, hM9, hz2⟩ := hp35
              have hT169 := hG.tr (j := ((ordF (fun k => meT j ((brD j cn ra lk T d).2 k)) (fun k => szT j ((brD j cn ra lk T d).2 k)) cn i).toNat)) (by omega)
              replace hz := hz2.trans hz
              clear hz1 hz2
              rw [hM9] at hH
              obtain ⟨_, _, _, _, ua175, ub175, hob175, _⟩ := id hya152
              refine fw_cV (As := [.ref (go + 10 + 80 * oq + 5 * ((ordF (fun k => meT j ((brD j cn ra lk T d).2 k)) (fun k => szT j ((brD j cn ra lk T d).2 k)) cn i).toNat))]) (rest := []) E hK hH hl hob175.2.1 fc_X8 fL_X8_copyFrom ql_RX0_60 qi_yX8_copyFrom qv_yX8_copyFrom (k_copyG l G _ _ (go + 90 - 80 * oq + 5 * i) (go + 10 + 80 * oq + 5 * ((ordF (fun k => meT j ((brD j cn ra lk T d).2 k)) (fun k => szT j ((brD j cn ra lk T d).2 k)) cn i).toNat)) ((brD j cn ra lk T d).2 ((ordF (fun k => meT j ((brD j cn ra lk T d).2 k)) (fun k => szT j ((brD j cn ra lk T d).2 k)) cn i).toNat)) hya152 hT169 (hTd _ (by omega)).1 (by omega)) rfl rfl (Nat.le_of_ble_eq_true rfl) ⟨Nat.le_of_ble_eq_true rfl, Nat.le_of_ble_eq_true rfl⟩ ⟨Nat.le_of_ble_eq_true rfl, Nat.le_of_ble_eq_true rfl⟩ dX0_errorAfter_60 (fw_kv fun M39 H1 locs1 hp38 hH hz1 => ?_)
              obtain ⟨hC175, hfr, hz2⟩ := hp38
              have hY176 := hY.set (k := i) (by omega) (show ((brD j cn ra lk T d).2 ((ordF (fun k => meT j ((brD j cn ra lk T d).2 k)) (fun k => szT j ((brD j cn ra lk T d).2 k)) cn i).toNat)) = gnT (fun k => meT j ((brD j cn ra lk T d).2 k)) (fun k => szT j ((brD j cn ra lk T d).2 k)) cn (brD j cn ra lk T d).2 ra (brD j cn ra lk T d).1 i from (if_pos (by omega)).symm) hC175 (fun q q1 q2 q3 => hfr q (by omega))
              replace hz := hz2.trans hz
              clear hz1 hz2
              have fr40 := hfr
              replace hB := brW.fr hB (fun q h1 h2 => fr40 q (by omega))
              replace hQ := rnO.fr hQ (fun q h1 h2 => fr40 q (by omega))
              replace hG := gcW.fr hG (fun q h1 h2 => fr40 q (by omega))
              replace hJ := jW.fr hJ (fun q h1 h2 => fr40 q (by omega))
              replace hT169 := aTw.fr hT169 (fun q h1 h2 => fr40 q (by omega))
              refine lv_iinc (v := iI (↑i + 1)) (lv' := [(6, .int (iI (↑i + 1))), (0, .ref bo), (1, .int (iI ↑dg)), (2, .ref go), (3, .ref jo), (4, .int (iI ↑d)), (5, .int (iI (↑(kpN ra cn))))]) E.1 E.2.1 dX0_errorAfter_63 hl (k := 6) rfl (iI_inc rfl) (by decide) rfl (fun ls hl => ?_)
              refine lv_goto (tgt := 34) E.1 E.2.1 dX0_errorAfter_66 (by decide) ?_
              exact ih34 (i + 1) _ _ _ _ (by omega) (by omega) (fun q hq => by rw [fr40 q (by omega)]; exact hfr0 q hq) hH (by omega) hB hQ hG hY176 hJ (lv_sub hl [1, 2, 3, 4, 5, 6, 0] rfl)
        exact loop34_2 (kpN ra cn - 0 + 1) 0 _ _ _ _ (Nat.lt_succ_self _) (Nat.zero_le _) hfr0 hH (by omega) hB hQ71 hG hY.z hJ71 (lv_sub hl [2, 3, 4, 5, 6, 1, 0] rfl)
  exact loop3_1 (dg - 0 + 1) 0 o gn mi _ _ _ _ (Nat.lt_succ_self _) (Nat.zero_le _) hfr0 hH (by omega) hB hQ hG hY hJ (lv_sub hl [1, 2, 3, 4, 0] rfl)

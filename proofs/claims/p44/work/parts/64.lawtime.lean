set_option maxHeartbeats 2000000 in
theorem law_eight {pG : Program} {l : Launch} {e : Env} {s : State} {m : MethodId} {args : Array Value} {below : List Frame} {meth : Method} {cG : Code} {G : fw_G} {M : fw_M} {H : Heap} {locs : List Loc} {ls : Array Slot} {Q : State → Prop} {cells slots N : Nat} (E : CallFix pG m cG code 21 s args fwT RL) (hK : fw_K G s) (a dw cn o tm : Nat) (lk gn mi : Int) (T : Nat → aT) (j : aJ) (ra : aR) (hO : bnO cn lk T j ra) (hra : 0 < ra.2.2.2.2) (hc0 : 0 < cn) (haN : a + 381 ≤ N) (hd9 : dw + 100 ≤ 20000) (hcl : cells + 8 ≤ 600104) (hsl : slots + 128 ≤ 7301314) (hH : fw_H G s M H locs) (hz : H.size = N) (hA : lgA G M a dw cn j.2.2.2.2.1) (hW : bnR G M (a + 1) o cn lk gn mi T j ra) (hE : skE G M (a + 2)) (hl : lv_has ls 21 [(0, .ref (G.2.2.2.2 3)), (1, .int (iI ↑tm)), (2, .ref a), (3, .ref (a + 1))]) (kk : ∀ (M1 : fw_M) (H1 : Heap) (locs1 : List Loc) (ls1 : Array Slot) (N1 : Nat), N ≤ N1 → fw_H G s M1 H1 locs1 → H1.size = N1 → lv_has ls1 21 [(0, .ref (G.2.2.2.2 3)), (1, .int (iI ↑tm))] → W pG l e room_1 s m args below meth cG H1 locs1 (cells + 8) (slots + 128) Q (F0 m 826 ls1 [])) : W pG l e room_1 s m args below meth cG H locs (cells) (slots) Q (F0 m 133 ls []) := by
  refine lv_iconst (v := iI 0) E.1 E.2.1 dL_law_133 (by decide) ?_
  refine lv_istore (lv' := [(4, .int (iI 0)), (0, .ref (G.2.2.2.2 3)), (1, .int (iI ↑tm)), (2, .ref a), (3, .ref (a + 1))]) E.1 E.2.1 dL_law_134 hl (by decide) rfl (fun ls hl => ?_)
  have loop136_1 : ∀ (d136 : Nat) (stp : Nat) (dwl : Nat) (ol : Nat) (lkl : Int) (gl : Int) (ml : Int) (Tl : Nat → aT) (sz : Nat) (Mw136 : fw_M) (H : Heap) (locs : List Loc) (ls : Array Slot), 8 - stp < d136 → stp ≤ 8 → dw ≤ dwl ∧ dwl ≤ dw + 10 * stp → N ≤ sz → bnO cn lkl Tl j ra → fw_H G s Mw136 H locs → H.size = sz → lgA G Mw136 a dwl cn j.2.2.2.2.1 → bnR G Mw136 (a + 1) ol cn lkl gl ml Tl j ra → skE G Mw136 (a + 2) → lv_has ls 21 [(0, .ref (G.2.2.2.2 3)), (1, .int (iI ↑tm)), (2, .ref a), (3, .ref (a + 1)), (4, .int (iI ↑stp))] → W pG l e room_1 s m args below meth cG H locs (cells + stp) (slots + 16 * stp) Q (F0 m 136 ls []) := by
    intro d136
    induction d136 with
    | zero => intro stp dwl ol lkl gl ml Tl sz Mw136 H locs ls hd; exact absurd hd (Nat.not_lt_zero _)
    | succ d136 ih136 =>
      intro stp dwl ol lkl gl ml Tl sz Mw136 H locs ls hd136 hst hdl hsz hOl hH hz hA hW hE hl
      refine lv_iload E.1 E.2.1 dL_law_136 (lv_at hl 4 rfl) ?_
      refine lv_bipush (v := iI 8) E.1 E.2.1 dL_law_138 (by decide) ?_
      refine fw_icmp_ge (tgt := 826) E dL_law_140 (by decide) (by omega) (by omega) (by omega) (by omega) (fun c1 => ?_) (fun c1 => ?_)
      · refine W.widen (k := cells + 8) (n := slots + 128) (by omega) (by omega) ?_
        exact kk _ _ _ _ _ (by omega) hH hz (lv_sub hl [0, 1] rfl)
      · refine law_step (N := sz) E hK a dwl cn ol tm stp lkl gl ml Tl j ra hOl hra hc0 (by omega) (by omega) (by omega) (by omega) hH hz hA hW hE (lv_sub hl [0, 1, 2, 3, 4] rfl) (fun M1 H1 locs1 ls dw1 o1 lk1 gn1 mi1 T1 hda hdb hH hz hA hW hE hO1 hl => ?_)
        refine lv_iinc (v := iI (↑stp + 1)) (lv' := [(4, .int (iI (↑stp + 1))), (0, .ref (G.2.2.2.2 3)), (1, .int (iI ↑tm)), (2, .ref a), (3, .ref (a + 1))]) E.1 E.2.1 dL_law_820 hl (k := 4) rfl (iI_inc rfl) (by decide) rfl (fun ls hl => ?_)
        refine lv_goto (tgt := 136) E.1 E.2.1 dL_law_823 (by decide) ?_
        refine W.widen (k := cells + (stp + 1)) (n := slots + 16 * (stp + 1)) (by omega) (by omega) ?_
        exact ih136 (stp + 1) dw1 o1 lk1 gn1 mi1 T1 (sz + 1) _ _ _ _ (by omega) (by omega) (by omega) (by omega) hO1 hH (by omega) hA hW hE (lv_sub hl [1, 2, 3, 4, 0] rfl)
  refine W.widen (k := cells + 0) (n := slots + 16 * 0) (by omega) (by omega) ?_
  exact loop136_1 (8 - 0 + 1) 0 dw o lk gn mi T N _ _ _ _ (Nat.lt_succ_self _) (Nat.zero_le _) (by omega) (Nat.le_refl _) hO hH (by omega) hA hW hE (lv_sub hl [1, 2, 3, 4, 0] rfl)
set_option maxHeartbeats 4000000 in
theorem law_time {pG : Program} {l : Launch} {e : Env} {s : State} {m : MethodId} {args : Array Value} {below : List Frame} {meth : Method} {cG : Code} {G : fw_G} {M : fw_M} {H : Heap} {locs : List Loc} {ls : Array Slot} {Q : State → Prop} {cells slots N : Nat} (E : CallFix pG m cG code 21 s args fwT RL) (hK : fw_K G s) (tm : Nat) (htm : tm < 3) (hcl : cells + 1992 ≤ 600104) (hsl : slots + 331631 ≤ 7301314) (hH : fw_H G s M H locs) (hz : H.size = N)  (hl : lv_has ls 21 [(0, .ref (G.2.2.2.2 3)), (1, .int (iI ↑tm))]) (kk : ∀ (M1 : fw_M) (H1 : Heap) (locs1 : List Loc) (ls1 : Array Slot) (N1 : Nat), N ≤ N1 → fw_H G s M1 H1 locs1 → H1.size = N1 → lv_has ls1 21 [(0, .ref (G.2.2.2.2 3)), (1, .int (iI ↑tm))] → W pG l e room_1 s m args below meth cG H1 locs1 (cells + 1992) (slots + 331631) Q (F0 m 826 ls1 [])) : W pG l e room_1 s m args below meth cG H locs (cells) (slots) Q (F0 m 7 ls []) := by
  obtain ⟨a, haE⟩ : ∃ y, y = N := ⟨_, rfl⟩
  rw [← haE] at hz
  have hgb := hH.1.1
  rw [hz] at hgb
  refine fw_new (fs := [.null, .null, .int 0, .int 0, .null, .int 0, .null]) E hK hH hz fc_X10 ql_RL_9 qt_RX10 qn_RX10 (fun j hj => by rcases (show j = 0 ∨ j = 1 ∨ j = 2 ∨ j = 3 ∨ j = 4 ∨ j = 5 ∨ j = 6 by omega) with rfl | rfl | rfl | rfl | rfl | rfl | rfl <;> rfl) ⟨by show _ ≤ (600104 : Nat); omega, by show _ ≤ (7301314 : Nat); omega⟩ dL_law_7 (fun H1 hH hz1 => ?_)
  replace hz : H1.size = a + 1 := by omega
  clear hz1
  obtain ⟨M1, hM2⟩ : ∃ MX, MX = fw_up M a (.inr (10, [.null, .null, .int 0, .int 0, .null, .int 0, .null])) := ⟨_, rfl⟩
  replace hH := fw_H.nm hM2 hH
  have fr3 : ∀ q, q ≠ a → M1 q = M q := fun q h => by rw [hM2]; exact fw_up_ne h
  have hn0 : M1 a = some (.inr (10, [.null, .null, .int 0, .int 0, .null, .int 0, .null])) := by rw [hM2]; exact fw_up_eq
  refine lv_dup E.1 E.2.1 dL_law_10 rfl ?_
  refine lv_aload_n E.1 E.2.1 dL_law_11 rfl (lv_at hl 0 rfl) ?_
  refine lv_bipush (v := iI 31) E.1 E.2.1 dL_law_12 (by decide) ?_
  refine lv_iload_n E.1 E.2.1 dL_law_14 rfl (lv_at hl 1 rfl) ?_
  refine fw_imul E dL_law_15 ?_
  refine lv_bipush (v := iI 7) E.1 E.2.1 dL_law_16 (by decide) ?_
  refine fw_iadd E dL_law_18 ?_
  refine fw_cv (y := iI (↑(31 * tm + 7))) (congrArg iI (by omega)) ?_
  refine fw_cI (As := [.ref (G.2.2.2.2 3), .int (iI (↑(31 * tm + 7)))]) (rest := [.ref a]) E hK hH hl fL_X10_init rfl ql_RL_11 qi_yX10_init (l_init l G _ _ a (31 * tm + 7) (by omega) hn0 (by omega)) rfl rfl (Nat.le_of_ble_eq_true rfl) ⟨Nat.le_of_ble_eq_true rfl, Nat.le_of_ble_eq_true rfl⟩ ⟨by show _ ≤ (600104 : Nat); omega, by show _ ≤ (7301314 : Nat); omega⟩ dL_law_19 (fw_kv fun M5 H1 locs1 hp4 hH hz1 => ?_)
  obtain ⟨hA0, hb0, hfr, hz2⟩ := hp4
  replace hz := hz2
  obtain ⟨hW0, hE0, hO0⟩ := bn0_R hb0
  clear hz1
  have fr6 := hfr
  refine lv_astore_n (lv' := [(2, .ref a), (0, .ref (G.2.2.2.2 3)), (1, .int (iI ↑tm))]) E.1 E.2.1 dL_law_22 rfl hl (by decide) rfl (fun ls hl => ?_)
  refine lv_aload_n E.1 E.2.1 dL_law_23 rfl (lv_at hl 0 rfl) ?_
  refine fw_get E hK hH hA0.2.1 fc_X10 0 (by decide) ql_RL_14 rfl rfl dL_law_24 ?_
  refine lv_astore_n (lv' := [(3, .ref (a + 1)), (2, .ref a), (0, .ref (G.2.2.2.2 3)), (1, .int (iI ↑tm))]) E.1 E.2.1 dL_law_27 rfl hl (by decide) rfl (fun ls hl => ?_)
  refine lv_iconst (v := iI 2) E.1 E.2.1 dL_law_28 (by decide) ?_
  refine lv_aload_n E.1 E.2.1 dL_law_29 rfl (lv_at hl 1 rfl) ?_
  refine lv_iconst (v := iI 4) E.1 E.2.1 dL_law_30 (by decide) ?_
  refine fw_cV (As := [.int (iI 4)]) (rest := [.int (iI 2)]) E hK hH hl hA0.2.1 fc_X10 fL_X10_draw ql_RL_18 qi_yX10_draw qv_yX10_draw (l_draw l G _ _ a (31 * tm + 7) 4 ↑0 ↑0 hA0.1 hA0.2.1 (by omega) (by omega)) rfl rfl (Nat.le_of_ble_eq_true rfl) ⟨Nat.le_of_ble_eq_true rfl, Nat.le_of_ble_eq_true rfl⟩ ⟨by show _ ≤ (600104 : Nat); omega, by show _ ≤ (7301314 : Nat); omega⟩ dL_law_31 (fw_ki fun r9 M8 H1 locs1 hp7 hH hz1 => ?_)
  obtain ⟨⟨kp, rfl, hkp⟩, hob, hfr, hz2⟩ := hp7
  have hA34 := hA0.dw hob hfr
  replace hz := hz2.trans hz
  clear hz1 hz2
  have fr10 := hfr
  replace hW0 := bnR.fr hW0 (fun q h1 h2 => fr10 q (by omega))
  replace hE0 := skE.fr hE0 (fun q h1 h2 => fr10 q (by omega))
  refine fw_iadd E dL_law_34 ?_
  refine fw_cv (y := iI (↑(2 + kp))) (congrArg iI (by omega)) ?_
  refine lv_istore (lv' := [(4, .int (iI (↑(2 + kp)))), (3, .ref (a + 1)), (2, .ref a), (0, .ref (G.2.2.2.2 3)), (1, .int (iI ↑tm))]) E.1 E.2.1 dL_law_35 hl (by decide) rfl (fun ls hl => ?_)
  have loop37_1 : ∀ (d37 : Nat) (k : Nat) (cn : Nat) (dw : Nat) (T : Nat → aT) (sz : Nat) (Mw37 : fw_M) (H : Heap) (locs : List Loc) (ls : Array Slot), k < d37 → 2 ≤ cn + k ∧ cn + k ≤ 5 → dw + 484 * k ≤ 2600 → a + 381 ≤ sz → bnO cn 0 T j00 ra0 → fw_H G s Mw37 H locs → H.size = sz → lgA G Mw37 a dw cn 0 → bnR G Mw37 (a + 1) 0 cn 0 0 0 T j00 ra0 → skE G Mw37 (a + 2) → lv_has ls 21 [(0, .ref (G.2.2.2.2 3)), (1, .int (iI ↑tm)), (2, .ref a), (3, .ref (a + 1)), (4, .int (iI ↑k))] → W pG l e room_1 s m args below meth cG H locs (cells + (1981 - 320 * k)) (slots + (331491 - 63922 * k)) Q (F0 m 37 ls []) := by
    intro d37
    induction d37 with
    | zero => intro k cn dw T sz Mw37 H locs ls hd; exact absurd hd (Nat.not_lt_zero _)
    | succ d37 ih37 =>
      intro k cn dw T sz Mw37 H locs ls hd37 hk5 hdw hsz hOp hH hz hA hW hE hl
      refine lv_iload E.1 E.2.1 dL_law_37 (lv_at hl 4 rfl) ?_
      refine fw_if_le (tgt := 57) E dL_law_39 (by decide) (by omega) (by omega) (fun c11 => ?_) (fun c11 => ?_)
      · refine lv_iconst (v := iI 1) E.1 E.2.1 dL_law_57 (by decide) ?_
        refine lv_aload_n E.1 E.2.1 dL_law_58 rfl (lv_at hl 2 rfl) ?_
        refine lv_iconst (v := iI 3) E.1 E.2.1 dL_law_59 (by decide) ?_
        refine fw_cV (As := [.int (iI 3)]) (rest := [.int (iI 1)]) E hK hH hl hA.2.1 fc_X10 fL_X10_draw ql_RL_18 qi_yX10_draw qv_yX10_draw (l_draw l G _ _ a dw 3 ↑cn ↑0 hA.1 hA.2.1 (by omega) (by omega)) rfl rfl (Nat.le_of_ble_eq_true rfl) ⟨Nat.le_of_ble_eq_true rfl, Nat.le_of_ble_eq_true rfl⟩ ⟨by show _ ≤ (600104 : Nat); omega, by show _ ≤ (7301314 : Nat); omega⟩ dL_law_60 (fw_ki fun r14 M13 H1 locs1 hp12 hH hz1 => ?_)
        obtain ⟨⟨kc, rfl, hkc⟩, hob, hfr, hz2⟩ := hp12
        have hA56 := hA.dw hob hfr
        replace hz := hz2.trans hz
        clear hz1 hz2
        have fr15 := hfr
        replace hW := bnR.fr hW (fun q h1 h2 => fr15 q (by omega))
        replace hE := skE.fr hE (fun q h1 h2 => fr15 q (by omega))
        refine fw_iadd E dL_law_63 ?_
        refine fw_cv (y := iI (↑(1 + kc))) (congrArg iI (by omega)) ?_
        refine lv_istore (lv' := [(4, .int (iI (↑(1 + kc)))), (0, .ref (G.2.2.2.2 3)), (1, .int (iI ↑tm)), (2, .ref a), (3, .ref (a + 1))]) E.1 E.2.1 dL_law_64 hl (by decide) rfl (fun ls hl => ?_)
        have loop66_2 : ∀ (d66 : Nat) (k2 : Nat) (dw2 : Nat) (jv : aJ) (sz2 : Nat) (Mw66 : fw_M) (H : Heap) (locs : List Loc) (ls : Array Slot), k2 < d66 → jv.2.2.2.2.1 + k2 ≤ 3 → dw2 + 4 * k2 ≤ 2800 → a + 381 ≤ sz2 → bnO cn 0 T jv ra0 → fw_H G s Mw66 H locs → H.size = sz2 → lgA G Mw66 a dw2 cn jv.2.2.2.2.1 → bnR G Mw66 (a + 1) 0 cn 0 0 0 T jv ra0 → skE G Mw66 (a + 2) → lv_has ls 21 [(0, .ref (G.2.2.2.2 3)), (1, .int (iI ↑tm)), (2, .ref a), (3, .ref (a + 1)), (4, .int (iI ↑k2))] → W pG l e room_1 s m args below meth cG H locs (cells + (1984 - k2)) (slots + (331503 - 4 * k2)) Q (F0 m 66 ls []) := by
          intro d66
          induction d66 with
          | zero => intro k2 dw2 jv sz2 Mw66 H locs ls hd; exact absurd hd (Nat.not_lt_zero _)
          | succ d66 ih66 =>
            intro k2 dw2 jv sz2 Mw66 H locs ls hd66 hk6 hdw2 hsz2 hOc hH hz hA hW hE hl
            refine lv_iload E.1 E.2.1 dL_law_66 (lv_at hl 4 rfl) ?_
            refine fw_if_le (tgt := 86) E dL_law_68 (by decide) (by omega) (by omega) (fun c16 => ?_) (fun c16 => ?_)
            · refine lv_aload_n E.1 E.2.1 dL_law_86 rfl (lv_at hl 3 rfl) ?_
              refine lv_aload_n E.1 E.2.1 dL_law_87 rfl (lv_at hl 2 rfl) ?_
              refine lv_sipush (v := iI 10000) E.1 E.2.1 dL_law_88 (by decide) ?_
              refine fw_cV (As := [.int (iI 10000)]) (rest := [.ref (a + 1)]) E hK hH hl hA.2.1 fc_X10 fL_X10_draw ql_RL_18 qi_yX10_draw qv_yX10_draw (l_draw l G _ _ a dw2 10000 ↑cn ↑jv.2.2.2.2.1 hA.1 hA.2.1 (by omega) (by omega)) rfl rfl (Nat.le_of_ble_eq_true rfl) ⟨Nat.le_of_ble_eq_true rfl, Nat.le_of_ble_eq_true rfl⟩ ⟨by show _ ≤ (600104 : Nat); omega, by show _ ≤ (7301314 : Nat); omega⟩ dL_law_91 (fw_ki fun r19 M18 H1 locs1 hp17 hH hz1 => ?_)
              obtain ⟨⟨kl, rfl, hkl⟩, hob, hfr, hz2⟩ := hp17
              have hA78 := hA.dw hob hfr
              replace hz := hz2.trans hz
              clear hz1 hz2
              have fr20 := hfr
              replace hW := bnR.fr hW (fun q h1 h2 => fr20 q (by omega))
              replace hE := skE.fr hE (fun q h1 h2 => fr20 q (by omega))
              refine fw_cV (As := [.int (iI ↑kl)]) (rest := []) E hK hH hl hW.1.2 fc_X9 fL_X9_setLuck ql_RL_29 qi_yX9_setLuck qv_yX9_setLuck (b_setLuck l G _ _ (a + 1) 0 cn 0 0 0 T jv ra0 hW hOc ↑kl (by omega)) rfl rfl (Nat.le_of_ble_eq_true rfl) ⟨Nat.le_of_ble_eq_true rfl, Nat.le_of_ble_eq_true rfl⟩ ⟨by show _ ≤ (600104 : Nat); omega, by show _ ≤ (7301314 : Nat); omega⟩ dL_law_94 (fw_ki fun r23 M22 H1 locs1 hp21 hH hz1 => ?_)
              obtain ⟨hW86, hfr, hz2⟩ := hp21
              have hO86 : bnO cn (↑kl : Int) T jv ra0 := ⟨hOc.1, hOc.2.1, ⟨by omega, by omega⟩, hOc.2.2.2⟩
              replace hz := hz2.trans hz
              clear hz1 hz2
              have fr24 := hfr
              replace hE := skE.fr hE (fun q h1 h2 => fr24 q (by omega))
              replace hA78 := lgA.fr hA78 (fun q h1 h2 => fr24 q (by omega))
              refine lv_pop E.1 E.2.1 dL_law_97 rfl ?_
              refine lv_aload_n E.1 E.2.1 dL_law_98 rfl (lv_at hl 3 rfl) ?_
              refine lv_iconst (v := iI 1) E.1 E.2.1 dL_law_99 (by decide) ?_
              refine lv_aload_n E.1 E.2.1 dL_law_100 rfl (lv_at hl 2 rfl) ?_
              refine lv_iconst (v := iI 4) E.1 E.2.1 dL_law_101 (by decide) ?_
              refine fw_cV (As := [.int (iI 4)]) (rest := [.int (iI 1), .ref (a + 1)]) E hK hH hl hA78.2.1 fc_X10 fL_X10_draw ql_RL_18 qi_yX10_draw qv_yX10_draw (l_draw l G _ _ a (dw2 + 1) 4 ↑cn ↑jv.2.2.2.2.1 hA78.1 hA78.2.1 (by omega) (by omega)) rfl rfl (Nat.le_of_ble_eq_true rfl) ⟨Nat.le_of_ble_eq_true rfl, Nat.le_of_ble_eq_true rfl⟩ ⟨by show _ ≤ (600104 : Nat); omega, by show _ ≤ (7301314 : Nat); omega⟩ dL_law_102 (fw_ki fun r27 M26 H1 locs1 hp25 hH hz1 => ?_)
              obtain ⟨⟨kt, rfl, hkt⟩, hob, hfr, hz2⟩ := hp25
              have hA99 := hA78.dw hob hfr
              replace hz := hz2.trans hz
              clear hz1 hz2
              have fr28 := hfr
              replace hE := skE.fr hE (fun q h1 h2 => fr28 q (by omega))
              replace hW86 := bnR.fr hW86 (fun q h1 h2 => fr28 q (by omega))
              refine fw_iadd E dL_law_105 ?_
              refine fw_cv (y := iI (↑(1 + kt))) (congrArg iI (by omega)) ?_
              refine lv_iconst (v := iI 1) E.1 E.2.1 dL_law_106 (by decide) ?_
              refine lv_aload_n E.1 E.2.1 dL_law_107 rfl (lv_at hl 2 rfl) ?_
              refine lv_iconst (v := iI 3) E.1 E.2.1 dL_law_108 (by decide) ?_
              refine fw_cV (As := [.int (iI 3)]) (rest := [.int (iI 1), .int (iI (↑(1 + kt))), .ref (a + 1)]) E hK hH hl hA99.2.1 fc_X10 fL_X10_draw ql_RL_18 qi_yX10_draw qv_yX10_draw (l_draw l G _ _ a ((dw2 + 1) + 1) 3 ↑cn ↑jv.2.2.2.2.1 hA99.1 hA99.2.1 (by omega) (by omega)) rfl rfl (Nat.le_of_ble_eq_true rfl) ⟨Nat.le_of_ble_eq_true rfl, Nat.le_of_ble_eq_true rfl⟩ ⟨by show _ ≤ (600104 : Nat); omega, by show _ ≤ (7301314 : Nat); omega⟩ dL_law_109 (fw_ki fun r31 M30 H1 locs1 hp29 hH hz1 => ?_)
              obtain ⟨⟨ke, rfl, hke⟩, hob, hfr, hz2⟩ := hp29
              have hA112 := hA99.dw hob hfr
              replace hz := hz2.trans hz
              clear hz1 hz2
              have fr32 := hfr
              replace hE := skE.fr hE (fun q h1 h2 => fr32 q (by omega))
              replace hW86 := bnR.fr hW86 (fun q h1 h2 => fr32 q (by omega))
              refine fw_iadd E dL_law_112 ?_
              refine fw_cv (y := iI (↑(1 + ke))) (congrArg iI (by omega)) ?_
              refine fw_cV (As := [.int (iI (↑(1 + kt))), .int (iI (↑(1 + ke)))]) (rest := []) E hK hH hl hW86.1.2 fc_X9 fL_X9_setChoosing ql_RL_34 qi_yX9_setChoosing qv_yX9_setChoosing (b_setChoosing l G _ _ (a + 1) 0 cn (↑kl : Int) 0 0 T jv ra0 hW86 hO86 (1 + kt) (1 + ke) (by omega) (by omega)) rfl rfl (Nat.le_of_ble_eq_true rfl) ⟨Nat.le_of_ble_eq_true rfl, Nat.le_of_ble_eq_true rfl⟩ ⟨by show _ ≤ (600104 : Nat); omega, by show _ ≤ (7301314 : Nat); omega⟩ dL_law_113 (fw_ki fun r35 M34 H1 locs1 hp33 hH hz1 => ?_)
              obtain ⟨hW122, hfr, hz2⟩ := hp33
              have hO122 : bnO cn (↑kl : Int) T jv (ra0.1, ra0.2.1, ra0.2.2.1, (1 + kt), (1 + ke)) := ⟨hO86.1, ⟨hO86.2.1.1, hO86.2.1.2.1, hO86.2.1.2.2.1, (show 1 ≤ (1 + kt) ∧ (1 + kt) ≤ 5 by omega), (show (1 + ke) ≤ 4 by omega)⟩, hO86.2.2.1, hO86.2.2.2⟩
              replace hz := hz2.trans hz
              clear hz1 hz2
              have fr36 := hfr
              replace hE := skE.fr hE (fun q h1 h2 => fr36 q (by omega))
              replace hA112 := lgA.fr hA112 (fun q h1 h2 => fr36 q (by omega))
              refine lv_pop E.1 E.2.1 dL_law_116 rfl ?_
              refine lv_aload_n E.1 E.2.1 dL_law_117 rfl (lv_at hl 3 rfl) ?_
              refine lv_aload_n E.1 E.2.1 dL_law_118 rfl (lv_at hl 2 rfl) ?_
              refine lv_iconst (v := iI 3) E.1 E.2.1 dL_law_119 (by decide) ?_
              refine fw_cV (As := [.int (iI 3)]) (rest := [.ref (a + 1)]) E hK hH hl hA112.2.1 fc_X10 fL_X10_draw ql_RL_18 qi_yX10_draw qv_yX10_draw (l_draw l G _ _ a (((dw2 + 1) + 1) + 1) 3 ↑cn ↑jv.2.2.2.2.1 hA112.1 hA112.2.1 (by omega) (by omega)) rfl rfl (Nat.le_of_ble_eq_true rfl) ⟨Nat.le_of_ble_eq_true rfl, Nat.le_of_ble_eq_true rfl⟩ ⟨by show _ ≤ (600104 : Nat); omega, by show _ ≤ (7301314 : Nat); omega⟩ dL_law_120 (fw_ki fun r39 M38 H1 locs1 hp37 hH hz1 => ?_)
              obtain ⟨⟨ky, rfl, hky⟩, hob, hfr, hz2⟩ := hp37
              have hA134 := hA112.dw hob hfr
              replace hz := hz2.trans hz
              clear hz1 hz2
              have fr40 := hfr
              replace hE := skE.fr hE (fun q h1 h2 => fr40 q (by omega))
              replace hW122 := bnR.fr hW122 (fun q h1 h2 => fr40 q (by omega))
              refine lv_aload_n E.1 E.2.1 dL_law_123 rfl (lv_at hl 2 rfl) ?_
              refine lv_bipush (v := iI 9) E.1 E.2.1 dL_law_124 (by decide) ?_
              refine fw_cV (As := [.int (iI 9)]) (rest := [.int (iI ↑ky), .ref (a + 1)]) E hK hH hl hA134.2.1 fc_X10 fL_X10_draw ql_RL_18 qi_yX10_draw qv_yX10_draw (l_draw l G _ _ a ((((dw2 + 1) + 1) + 1) + 1) 9 ↑cn ↑jv.2.2.2.2.1 hA134.1 hA134.2.1 (by omega) (by omega)) rfl rfl (Nat.le_of_ble_eq_true rfl) ⟨Nat.le_of_ble_eq_true rfl, Nat.le_of_ble_eq_true rfl⟩ ⟨by show _ ≤ (600104 : Nat); omega, by show _ ≤ (7301314 : Nat); omega⟩ dL_law_126 (fw_ki fun r43 M42 H1 locs1 hp41 hH hz1 => ?_)
              obtain ⟨⟨kz, rfl, hkz⟩, hob, hfr, hz2⟩ := hp41
              have hA144 := hA134.dw hob hfr
              replace hz := hz2.trans hz
              clear hz1 hz2
              have fr44 := hfr
              replace hE := skE.fr hE (fun q h1 h2 => fr44 q (by omega))
              replace hW122 := bnR.fr hW122 (fun q h1 h2 => fr44 q (by omega))
              refine fw_cV (As := [.int (iI ↑ky), .int (iI ↑kz)]) (rest := []) E hK hH hl hW122.1.2 fc_X9 fL_X9_setWay ql_RL_38 qi_yX9_setWay qv_yX9_setWay (b_setWay l G _ _ (a + 1) 0 cn (↑kl : Int) 0 0 T jv (ra0.1, ra0.2.1, ra0.2.2.1, (1 + kt), (1 + ke)) hW122 hO122 ↑ky ↑kz (by omega) (by omega)) rfl rfl (Nat.le_of_ble_eq_true rfl) ⟨Nat.le_of_ble_eq_true rfl, Nat.le_of_ble_eq_true rfl⟩ ⟨by show _ ≤ (600104 : Nat); omega, by show _ ≤ (7301314 : Nat); omega⟩ dL_law_129 (fw_ki fun r47 M46 H1 locs1 hp45 hH hz1 => ?_)
              obtain ⟨hW152, hfr, hz2⟩ := hp45
              have hO152 : bnO cn (↑kl : Int) T (jv.1, jv.2.1, jv.2.2.1, jv.2.2.2.1, jv.2.2.2.2.1, (↑ky : Int), (↑kz : Int)) (ra0.1, ra0.2.1, ra0.2.2.1, (1 + kt), (1 + ke)) := ⟨⟨hO122.1.1, hO122.1.2.1, (show 0 ≤ (↑ky : Int) ∧ (↑ky : Int) ≤ 2 by omega), (show 0 ≤ (↑kz : Int) ∧ (↑kz : Int) ≤ 99 by omega)⟩, hO122.2.1, hO122.2.2.1, hO122.2.2.2⟩
              replace hz := hz2.trans hz
              clear hz1 hz2
              have fr48 := hfr
              replace hE := skE.fr hE (fun q h1 h2 => fr48 q (by omega))
              replace hA144 := lgA.fr hA144 (fun q h1 h2 => fr48 q (by omega))
              refine lv_pop E.1 E.2.1 dL_law_132 rfl ?_
              refine W.widen (k := cells + 1984) (n := slots + 331503) (by omega) (by omega) ?_
              exact law_eight (cells := cells + 1984) (slots := slots + 331503) (N := sz2) E hK a (((((dw2 + 1) + 1) + 1) + 1) + 1) cn 0 tm (↑kl : Int) 0 0 T (jv.1, jv.2.1, jv.2.2.1, jv.2.2.2.1, jv.2.2.2.2.1, (↑ky : Int), (↑kz : Int)) (ra0.1, ra0.2.1, ra0.2.2.1, (1 + kt), (1 + ke)) hO152 (show 0 < _ from by show 0 < 1 + ke; omega) (by omega) (by omega) (by omega) (by omega) (by omega) hH hz hA144 hW152 hE (lv_sub hl [0, 1, 2, 3] rfl) (fun M1 H1 locs1 ls1 N1 h1 h2 h3 h4 => kk M1 H1 locs1 ls1 N1 (by omega) h2 h3 h4)
            · refine lv_aload_n E.1 E.2.1 dL_law_71 rfl (lv_at hl 2 rfl) ?_
              refine fw_cV (As := []) (rest := []) E hK hH hl hA.2.1 fc_X10 fL_X10_addCase ql_RL_26 qi_yX10_addCase qv_yX10_addCase (l_addCase l G _ _ a dw2 cn 0 0 0 0 T jv ra0 hA hW hOc hE (by omega) (by omega) (by omega)) rfl rfl (Nat.le_of_ble_eq_true rfl) ⟨Nat.le_of_ble_eq_true rfl, Nat.le_of_ble_eq_true rfl⟩ ⟨by show _ ≤ (600104 : Nat); omega, by show _ ≤ (7301314 : Nat); omega⟩ dL_law_72 (fw_ki fun r51 M50 H1 locs1 hp49 hH hz1 => ?_)
              obtain ⟨rfl, ⟨dwp164, jp164, hda164, hdb164, hcs164, hjo164, hA164, hW164, hE164⟩, hfr, hz2⟩ := hp49
              rw [hz] at hz2 hfr
              obtain ⟨sz164, hsz164⟩ : ∃ y, y = H1.size := ⟨_, rfl⟩
              rw [← hsz164] at hz2
              replace hz := hsz164.symm
              have hO164 : bnO cn 0 T jp164 ra0 := ⟨hjo164, hOc.2.1, hOc.2.2.1, hOc.2.2.2⟩
              clear hz1
              have fr52 := hfr
              refine fw_if_ne (tgt := 80) E dL_law_75 (by decide) (by omega) (by omega) (fun c53 => ?_) (fun c53 => ?_)
              · refine lv_iinc (v := iI (↑(k2 - 1))) (lv' := [(4, .int (iI (↑(k2 - 1)))), (0, .ref (G.2.2.2.2 3)), (1, .int (iI ↑tm)), (2, .ref a), (3, .ref (a + 1))]) E.1 E.2.1 dL_law_80 hl (k := 4) rfl (iI_inc (congrArg iI (by omega))) (by decide) rfl (fun ls hl => ?_)
                refine lv_goto (tgt := 66) E.1 E.2.1 dL_law_83 (by decide) ?_
                refine W.widen (k := cells + (1984 - (k2 - 1))) (n := slots + (331503 - 4 * (k2 - 1))) (by omega) (by omega) ?_
                exact ih66 (k2 - 1) dwp164 jp164 sz164 _ _ _ _ (by omega) (by omega) (by omega) (by omega) hO164 hH (by omega) hA164 hW164 hE164 (lv_sub hl [1, 2, 3, 4, 0] rfl)
              · exact absurd c53 (by omega)
        refine W.widen (k := cells + (1984 - (1 + kc))) (n := slots + (331503 - 4 * (1 + kc))) (by omega) (by omega) ?_
        exact loop66_2 ((1 + kc) + 1) (1 + kc) (dw + 1) j00 sz _ _ _ _ (Nat.lt_succ_self _) (show 0 + (1 + kc) ≤ 3 by omega) (by omega) (by omega) hOp hH (by omega) hA56 hW hE (lv_sub hl [1, 2, 3, 4, 0] rfl)
      · refine lv_aload_n E.1 E.2.1 dL_law_42 rfl (lv_at hl 2 rfl) ?_
        refine fw_cV (As := []) (rest := []) E hK hH hl hA.2.1 fc_X10 fL_X10_plant ql_RL_22 qi_yX10_plant qv_yX10_plant (l_plant l G _ _ a dw cn 0 0 0 0 T j00 ra0 hA hW hOp hE (by omega) (by omega) (by omega)) rfl rfl (Nat.le_of_ble_eq_true rfl) ⟨Nat.le_of_ble_eq_true rfl, Nat.le_of_ble_eq_true rfl⟩ ⟨by show _ ≤ (600104 : Nat); omega, by show _ ≤ (7301314 : Nat); omega⟩ dL_law_43 (fw_ki fun r56 M55 H1 locs1 hp54 hH hz1 => ?_)
        obtain ⟨rfl, ⟨dwp182, Tp182, hda182, hdb182, hA182, hW182, hT182, hE182⟩, hfr, hz2⟩ := hp54
        rw [hz] at hz2 hfr
        obtain ⟨sz182, hsz182⟩ : ∃ y, y = H1.size := ⟨_, rfl⟩
        rw [← hsz182] at hz2
        replace hz := hsz182.symm
        have hO182 : bnO (cn + 1) 0 Tp182 j00 ra0 := ⟨hOp.1, hOp.2.1, hOp.2.2.1, hT182⟩
        clear hz1
        have fr57 := hfr
        refine fw_if_ne (tgt := 51) E dL_law_46 (by decide) (by omega) (by omega) (fun c58 => ?_) (fun c58 => ?_)
        · refine lv_iinc (v := iI (↑(k - 1))) (lv' := [(4, .int (iI (↑(k - 1)))), (0, .ref (G.2.2.2.2 3)), (1, .int (iI ↑tm)), (2, .ref a), (3, .ref (a + 1))]) E.1 E.2.1 dL_law_51 hl (k := 4) rfl (iI_inc (congrArg iI (by omega))) (by decide) rfl (fun ls hl => ?_)
          refine lv_goto (tgt := 37) E.1 E.2.1 dL_law_54 (by decide) ?_
          refine W.widen (k := cells + (1981 - 320 * (k - 1))) (n := slots + (331491 - 63922 * (k - 1))) (by omega) (by omega) ?_
          exact ih37 (k - 1) (cn + 1) dwp182 Tp182 sz182 _ _ _ _ (by omega) (by omega) (by omega) (by omega) hO182 hH (by omega) hA182 hW182 hE182 (lv_sub hl [1, 2, 3, 4, 0] rfl)
        · exact absurd c58 (by omega)
  refine W.widen (k := cells + (1981 - 320 * (2 + kp))) (n := slots + (331491 - 63922 * (2 + kp))) (by omega) (by omega) ?_
  exact loop37_1 ((2 + kp) + 1) (2 + kp) 0 (31 * tm + 7 + 1) T0 (a + 381) _ _ _ _ (Nat.lt_succ_self _) (by omega) (by omega) (Nat.le_refl _) hO0 hH (by omega) hA34 hW0 hE0 (lv_sub hl [3, 4, 2, 1, 0] rfl)

theorem gvT_b {x y z : Int} {t : aT} (ht : vtOK t.1 t.2.1 t.2.2.1 t.2.2.2) : -9999 ≤ gvT x y z t ∧ gvT x y z t ≤ 9999 := evF_vb ht ht.1.1
theorem lg_self (x : Int64) : lg_cmp x x = iI 0 := by
  unfold lg_cmp
  rw [if_neg Int64.lt_irrefl, if_pos rfl]
  rfl
theorem lgA.dw {G : fw_G} {M M1 : fw_M} {a dw dw1 cn cs : Nat} (h : lgA G M a dw cn cs) (hob : M1 a = some (.inr (10, [.ref (a + 1), .ref (G.2.2.2.2 3), .int (iI ↑dw1), .int (iI ↑cn), .ref (a + 379), .int (iI ↑cs), .ref (a + 380)]))) (hf : ∀ q, q ≠ a → M1 q = M q) : lgA G M1 a dw1 cn cs := by
  obtain ⟨h0, h1, ⟨f1, h2⟩, f2, h3⟩ := h
  exact ⟨h0, hob, ⟨f1, (hf _ (by omega)).trans h2⟩, f2, (hf _ (by omega)).trans h3⟩
theorem rkT_ne (j : aJ) {cn : Nat} (T : Nat → aT) {x y : Nat} (h : x < y) (hy : y < cn) : rkT j cn T x ≠ rkT j cn T y := by
  intro e
  have h1 := ordF_b (fun k => meT j (T k)) (fun k => szT j (T k)) cn x (by omega)
  have h2 := ordF_b (fun k => meT j (T k)) (fun k => szT j (T k)) cn y hy
  unfold rkT at e
  exact ordF_inj (fun k => meT j (T k)) (fun k => szT j (T k)) cn x y h hy (by omega)
theorem rkT_le (j : aJ) {cn : Nat} (T : Nat → aT) {x y : Nat} (h : x ≤ y) (hy : y < cn) : meT j (T (rkT j cn T x)) ≤ meT j (T (rkT j cn T y)) := ordF_le (fun k => meT j (T k)) (fun k => szT j (T k)) cn x y h hy
theorem ab_ix {n : Nat} {C : Nat → Int} {sp : Nat → Nat} (h : spOK n C sp) {ab k : Nat} (ha : ab < n) (h1 : ab < k) (h2 : k < ab + sp ab) (h3 : ∀ i, ab < i → i < k → i + sp i ≤ k) : ∃ ip, ip < arN (C ab) ∧ chP sp ab ip = k := by
  obtain ⟨p, p1, p2, p3⟩ := chP_find sp ab k (arN (C ab)) h1 (by rw [← (h ab ha).2]; exact h2)
  refine ⟨p, p1, ?_⟩
  rcases Nat.eq_or_lt_of_le p2 with e | e
  · exact e
  · have q1 := h3 (chP sp ab p) (chP_gt sp ab p) e
    have q2 : chP sp ab (p + 1) = chP sp ab p + sp (chP sp ab p) := rfl
    omega
theorem nm_or {x y : Int} {i : Nat} (h : y ≤ 8 ↔ ptNm x i) : (y ≤ 8 ∧ nmP x i = 1) ∨ (8 < y ∧ nmP x i = 0) := by
  unfold ptNm at h
  unfold nmP
  by_cases hp : x < 11 ∧ ¬ (x = 8 ∧ i = 0)
  · rw [if_pos hp]; exact Or.inl ⟨h.mpr hp, rfl⟩
  · rw [if_neg hp]; exact Or.inr ⟨Int.not_le.mp (fun q => hp (h.mp q)), rfl⟩
set_option maxHeartbeats 8000000 in
theorem law_step {pG : Program} {l : Launch} {e : Env} {s : State} {m : MethodId} {args : Array Value} {below : List Frame} {meth : Method} {cG : Code} {G : fw_G} {M : fw_M} {H : Heap} {locs : List Loc} {ls : Array Slot} {Q : State → Prop} {cells slots N : Nat} (E : CallFix pG m cG code 21 s args fwT RL) (hK : fw_K G s) (a dw cn o tm stp : Nat) (lk gn mi : Int) (T : Nat → aT) (j : aJ) (ra : aR) (hO : bnO cn lk T j ra) (hra : 0 < ra.2.2.2.2) (hc0 : 0 < cn) (haN : a + 381 ≤ N) (hd9 : dw + 20 ≤ 20000) (hcl : cells + 1 ≤ 600104) (hsl : slots + 16 ≤ 7301314) (hH : fw_H G s M H locs) (hz : H.size = N) (hA : lgA G M a dw cn j.2.2.2.2.1) (hW : bnR G M (a + 1) o cn lk gn mi T j ra) (hE : skE G M (a + 2)) (hl : lv_has ls 21 [(0, .ref (G.2.2.2.2 3)), (1, .int (iI ↑tm)), (2, .ref a), (3, .ref (a + 1)), (4, .int (iI ↑stp))]) (kk : ∀ (M1 : fw_M) (H1 : Heap) (locs1 : List Loc) (ls1 : Array Slot) (dw1 o1 : Nat) (lk1 gn1 mi1 : Int) (T1 : Nat → aT), dw ≤ dw1 → dw1 ≤ dw + 10 → fw_H G s M1 H1 locs1 → H1.size = N + 1 → lgA G M1 a dw1 cn j.2.2.2.2.1 → bnR G M1 (a + 1) o1 cn lk1 gn1 mi1 T1 j ra → skE G M1 (a + 2) → bnO cn lk1 T1 j ra → lv_has ls1 21 [(0, .ref (G.2.2.2.2 3)), (1, .int (iI ↑tm)), (2, .ref a), (3, .ref (a + 1)), (4, .int (iI ↑stp))] → W pG l e room_1 s m args below meth cG H1 locs1 (cells + 1) (slots + 16) Q (F0 m 820 ls1 [])) : W pG l e room_1 s m args below meth cG H locs (cells) (slots) Q (F0 m 143 ls []) := by
  have hTk := hO.2.2.2
  have hj9 := hO.1
  obtain ⟨hgb, ho1, hcn⟩ := hW.2.2.2.2.2.2.2.1.o1
  have hba := hA.1
  have join506 : ∀ (dwj : Nat) (oj : Nat) (lkj : Int) (gj : Int) (mj : Int) (TT : Nat → aT) (Mj506 : fw_M) (H : Heap) (locs : List Loc) (ls : Array Slot), dw ≤ dwj ∧ dwj ≤ dw + 6 → bnO cn lkj TT j ra → fw_H G s Mj506 H locs → H.size = N → lgA G Mj506 a dwj cn j.2.2.2.2.1 → bnR G Mj506 (a + 1) oj cn lkj gj mj TT j ra → skE G Mj506 (a + 2) → lv_has ls 21 [(0, .ref (G.2.2.2.2 3)), (1, .int (iI ↑tm)), (2, .ref a), (3, .ref (a + 1)), (4, .int (iI ↑stp))] → W pG l e room_1 s m args below meth cG H locs (cells) (slots) Q (F0 m 506 ls []) := by
    intro dwj oj lkj gj mj TT Mj506 H locs ls hdj hOj hH hz hA hW hE hl
    have hTj := hOj.2.2.2
    refine lv_aload_n E.1 E.2.1 dL_law_506 rfl (lv_at hl 3 rfl) ?_
    refine fw_cV (As := []) (rest := []) E hK hH hl hW.1.2 fc_X9 fL_X9_trees ql_RL_41 qi_yX9_trees qv_yX9_trees (b_trees l G _ _ (a + 1) oj cn lkj gj mj TT hW.1 hW.2.2.2.2.2.2.2.1) rfl rfl (Nat.le_of_ble_eq_true rfl) ⟨Nat.le_of_ble_eq_true rfl, Nat.le_of_ble_eq_true rfl⟩ ⟨by show _ ≤ (600104 : Nat); omega, by show _ ≤ (7301314 : Nat); omega⟩ dL_law_507 (fw_ki fun r3 M2 H1 locs1 hp1 hH hz1 => ?_)
    obtain ⟨rfl, hM9, hz2⟩ := hp1
    replace hz := hz2.trans hz
    clear hz1 hz2
    rw [hM9] at hH
    refine fw_newZ (N := cn) E hK hH hz qa_boolean (fun q => by have := Int32.lt_iff_toInt_lt.mp q; rw [iI_toInt (by omega) (by omega)] at this; have h9 : (0 : Int32).toInt = 0 := (by decide); omega) (by rw [iI_ix (by omega) (by omega)]; exact Int.toNat_natCast _) (by show cn * 1 ≤ _; omega) ⟨by show _ ≤ (600104 : Nat); omega, by show _ ≤ (7301314 : Nat); omega⟩ dL_law_510 (fun H1 hH hz1 => ?_)
    replace hz : H1.size = N + 1 := by omega
    clear hz1
    obtain ⟨M4, hM5⟩ : ∃ MX, MX = fw_up Mj506 N (fB G cn (fun j0 => iI (z0 j0))) := ⟨_, rfl⟩
    replace hH := fw_H.nm hM5 hH
    have fr6 : ∀ q, q ≠ N → M4 q = Mj506 q := fun q h => by rw [hM5]; exact fw_up_ne h
    replace hA := lgA.fr hA (fun q h1 h2 => fr6 q (by omega))
    replace hW := bnR.fr hW (fun q h1 h2 => fr6 q (by omega))
    replace hE := skE.fr hE (fun q h1 h2 => fr6 q (by omega))
    have hn0 : M4 N = some (fB G cn (fun j0 => iI (z0 j0))) := by rw [hM5]; exact fw_up_eq
    refine lv_astore (lv' := [(16, .ref N), (0, .ref (G.2.2.2.2 3)), (1, .int (iI ↑tm)), (2, .ref a), (3, .ref (a + 1)), (4, .int (iI ↑stp))]) E.1 E.2.1 dL_law_512 hl (by decide) rfl (fun ls hl => ?_)
    refine lv_iconst (v := iI 0) E.1 E.2.1 dL_law_514 (by decide) ?_
    refine lv_istore (lv' := [(17, .int (iI 0)), (16, .ref N), (0, .ref (G.2.2.2.2 3)), (1, .int (iI ↑tm)), (2, .ref a), (3, .ref (a + 1)), (4, .int (iI ↑stp))]) E.1 E.2.1 dL_law_515 hl (by decide) rfl (fun ls hl => ?_)
    have loop517_1 : ∀ (d517 : Nat) (i : Nat) (g : Nat → Int) (Mw517 : fw_M) (H : Heap) (locs : List Loc) (ls : Array Slot), cn - i < d517 → i ≤ cn → (∀ k, k < cn → (∀ r, r < i → rkT j cn TT r ≠ k) → g k = 0) → fw_H G s Mw517 H locs → H.size = N + 1 → lgA G Mw517 a dwj cn j.2.2.2.2.1 → bnR G Mw517 (a + 1) oj cn lkj gj mj TT j ra → skE G Mw517 (a + 2) → Mw517 N = some (fB G cn (fun j0 => iI (g j0))) → lv_has ls 21 [(0, .ref (G.2.2.2.2 3)), (1, .int (iI ↑tm)), (2, .ref a), (3, .ref (a + 1)), (4, .int (iI ↑stp)), (16, .ref N), (17, .int (iI ↑i))] → W pG l e room_1 s m args below meth cG H locs (cells + 1) (slots + 16) Q (F0 m 517 ls []) := by
      intro d517
      induction d517 with
      | zero => intro i g Mw517 H locs ls hd; exact absurd hd (Nat.not_lt_zero _)
      | succ d517 ih517 =>
        intro i g Mw517 H locs ls hd517 ii hg hH hz hA hW hE hm hl
        refine lv_iload E.1 E.2.1 dL_law_517 (lv_at hl 6 rfl) ?_
        refine lv_aload_n E.1 E.2.1 dL_law_519 rfl (lv_at hl 3 rfl) ?_
        refine fw_cV (As := []) (rest := [.int (iI ↑i)]) E hK hH hl hW.1.2 fc_X9 fL_X9_trees ql_RL_41 qi_yX9_trees qv_yX9_trees (b_trees l G _ _ (a + 1) oj cn lkj gj mj TT hW.1 hW.2.2.2.2.2.2.2.1) rfl rfl (Nat.le_of_ble_eq_true rfl) ⟨Nat.le_of_ble_eq_true rfl, Nat.le_of_ble_eq_true rfl⟩ ⟨by show _ ≤ (600104 : Nat); omega, by show _ ≤ (7301314 : Nat); omega⟩ dL_law_520 (fw_ki fun r9 M8 H1 locs1 hp7 hH hz1 => ?_)
        obtain ⟨rfl, hM9, hz2⟩ := hp7
        replace hz := hz2.trans hz
        clear hz1 hz2
        rw [hM9] at hH
        refine fw_icmp_ge (tgt := 600) E dL_law_523 (by decide) (by omega) (by omega) (by omega) (by omega) (fun c10 => ?_) (fun c10 => ?_)
        · refine lv_aload_n E.1 E.2.1 dL_law_600 rfl (lv_at hl 2 rfl) ?_
          refine lv_aload_n E.1 E.2.1 dL_law_601 rfl (lv_at hl 3 rfl) ?_
          refine fw_cV (As := []) (rest := [.ref a]) E hK hH hl hW.1.2 fc_X9 fL_X9_trees ql_RL_41 qi_yX9_trees qv_yX9_trees (b_trees l G _ _ (a + 1) oj cn lkj gj mj TT hW.1 hW.2.2.2.2.2.2.2.1) rfl rfl (Nat.le_of_ble_eq_true rfl) ⟨Nat.le_of_ble_eq_true rfl, Nat.le_of_ble_eq_true rfl⟩ ⟨by show _ ≤ (600104 : Nat); omega, by show _ ≤ (7301314 : Nat); omega⟩ dL_law_602 (fw_ki fun r13 M12 H1 locs1 hp11 hH hz1 => ?_)
          obtain ⟨rfl, hM9, hz2⟩ := hp11
          replace hz := hz2.trans hz
          clear hz1 hz2
          rw [hM9] at hH
          refine fw_cV (As := [.int (iI (↑cn))]) (rest := []) E hK hH hl hA.2.1 fc_X10 fL_X10_draw ql_RL_18 qi_yX10_draw qv_yX10_draw (l_draw l G _ _ a dwj cn ↑cn ↑j.2.2.2.2.1 hA.1 hA.2.1 (by omega) (by omega)) rfl rfl (Nat.le_of_ble_eq_true rfl) ⟨Nat.le_of_ble_eq_true rfl, Nat.le_of_ble_eq_true rfl⟩ ⟨by show _ ≤ (600104 : Nat); omega, by show _ ≤ (7301314 : Nat); omega⟩ dL_law_605 (fw_ki fun r16 M15 H1 locs1 hp14 hH hz1 => ?_)
          obtain ⟨⟨t9, rfl, ht9⟩, hob, hfr, hz2⟩ := hp14
          have hA49 := hA.dw hob hfr
          replace hz := hz2.trans hz
          clear hz1 hz2
          have fr17 := hfr
          replace hW := bnR.fr hW (fun q h1 h2 => fr17 q (by omega))
          replace hE := skE.fr hE (fun q h1 h2 => fr17 q (by omega))
          replace hm : M15 N = some (fB G cn (fun j0 => iI (g j0))) := (fr17 _ (by omega)).trans hm
          refine lv_istore (lv' := [(5, .int (iI ↑t9)), (0, .ref (G.2.2.2.2 3)), (1, .int (iI ↑tm)), (2, .ref a), (3, .ref (a + 1)), (4, .int (iI ↑stp)), (16, .ref N), (17, .int (iI ↑i))]) E.1 E.2.1 dL_law_608 hl (by decide) rfl (fun ls hl => ?_)
          have ht9o := hTj t9 (by omega)
          have ht9s := ht9o.1.1
          have hdep := ht9o.2
          have hs0 := ht9o.1.2.1
          have hcr0 := ht9o.1.2.2.1
          have hnd0 := (ht9o.1.2.2.2.2.2 0 (by omega)).1
          refine lv_aload_n E.1 E.2.1 dL_law_610 rfl (lv_at hl 4 rfl) ?_
          refine lv_iload E.1 E.2.1 dL_law_611 (lv_at hl 0 rfl) ?_
          refine fw_cV (As := [.int (iI ↑t9)]) (rest := []) E hK hH hl hW.1.2 fc_X9 fL_X9_size ql_RL_45 qi_yX9_size qv_yX9_size (b_size l G _ _ (a + 1) oj cn lkj gj mj TT hW.1 hW.2.2.2.2.2.2.2.1 t9 (by omega) (hTj t9 (by omega)).1) rfl rfl (Nat.le_of_ble_eq_true rfl) ⟨Nat.le_of_ble_eq_true rfl, Nat.le_of_ble_eq_true rfl⟩ ⟨by show _ ≤ (600104 : Nat); omega, by show _ ≤ (7301314 : Nat); omega⟩ dL_law_613 (fw_ki fun r20 M19 H1 locs1 hp18 hH hz1 => ?_)
          obtain ⟨rfl, hM9, hz2⟩ := hp18
          have hsz67 := (hTj t9 (by omega)).1.1
          replace hz := hz2.trans hz
          clear hz1 hz2
          rw [hM9] at hH
          refine lv_bipush (v := iI 40) E.1 E.2.1 dL_law_616 (by decide) ?_
          refine fw_icmp_gt (tgt := 677) E dL_law_618 (by decide) (by omega) (by omega) (by omega) (by omega) (fun c21 => ?_) (fun c21 => ?_)
          · exfalso; omega
          · refine lv_aload_n E.1 E.2.1 dL_law_621 rfl (lv_at hl 4 rfl) ?_
            refine lv_iload E.1 E.2.1 dL_law_622 (lv_at hl 0 rfl) ?_
            refine fw_cV (As := [.int (iI ↑t9)]) (rest := []) E hK hH hl hW.1.2 fc_X9 fL_X9_depth ql_RL_96 qi_yX9_depth qv_yX9_depth (b_depth l G _ _ (a + 1) oj cn lkj gj mj TT hW.1 hW.2.2.2.2.2.2.2.1 t9 (by omega) (hTj t9 (by omega)).1) rfl rfl (Nat.le_of_ble_eq_true rfl) ⟨Nat.le_of_ble_eq_true rfl, Nat.le_of_ble_eq_true rfl⟩ ⟨by show _ ≤ (600104 : Nat); omega, by show _ ≤ (7301314 : Nat); omega⟩ dL_law_624 (fw_ki fun r24 M23 H1 locs1 hp22 hH hz1 => ?_)
            obtain ⟨rfl, hM9, hz2⟩ := hp22
            have hsz78 := (hTj t9 (by omega)).1.1
            replace hz := hz2.trans hz
            clear hz1 hz2
            rw [hM9] at hH
            refine lv_bipush (v := iI 8) E.1 E.2.1 dL_law_627 (by decide) ?_
            refine fw_icmp_gt (tgt := 677) E dL_law_629 (by decide) (by omega) (by omega) (by omega) (by omega) (fun c25 => ?_) (fun c25 => ?_)
            · exfalso; omega
            · refine lv_aload_n E.1 E.2.1 dL_law_632 rfl (lv_at hl 4 rfl) ?_
              refine lv_iload E.1 E.2.1 dL_law_633 (lv_at hl 0 rfl) ?_
              refine lv_iconst (v := iI 0) E.1 E.2.1 dL_law_635 (by decide) ?_
              refine fw_cV (As := [.int (iI ↑t9), .int (iI 0)]) (rest := []) E hK hH hl hW.1.2 fc_X9 fL_X9_sizeAt ql_RL_99 qi_yX9_sizeAt qv_yX9_sizeAt (b_sizeAt l G _ _ (a + 1) oj cn lkj gj mj TT hW.1 hW.2.2.2.2.2.2.2.1 t9 (by omega) (hTj t9 (by omega)).1 0 (by omega)) rfl rfl (Nat.le_of_ble_eq_true rfl) ⟨Nat.le_of_ble_eq_true rfl, Nat.le_of_ble_eq_true rfl⟩ ⟨by show _ ≤ (600104 : Nat); omega, by show _ ≤ (7301314 : Nat); omega⟩ dL_law_636 (fw_ki fun r28 M27 H1 locs1 hp26 hH hz1 => ?_)
              obtain ⟨rfl, hM9, hz2⟩ := hp26
              have hsz90 := (hTj t9 (by omega)).1.1
              replace hz := hz2.trans hz
              clear hz1 hz2
              rw [hM9] at hH
              refine lv_aload_n E.1 E.2.1 dL_law_639 rfl (lv_at hl 4 rfl) ?_
              refine lv_iload E.1 E.2.1 dL_law_640 (lv_at hl 0 rfl) ?_
              refine fw_cV (As := [.int (iI ↑t9)]) (rest := [.int (iI (↑((TT t9).2.2.2 0)))]) E hK hH hl hW.1.2 fc_X9 fL_X9_size ql_RL_45 qi_yX9_size qv_yX9_size (b_size l G _ _ (a + 1) oj cn lkj gj mj TT hW.1 hW.2.2.2.2.2.2.2.1 t9 (by omega) (hTj t9 (by omega)).1) rfl rfl (Nat.le_of_ble_eq_true rfl) ⟨Nat.le_of_ble_eq_true rfl, Nat.le_of_ble_eq_true rfl⟩ ⟨by show _ ≤ (600104 : Nat); omega, by show _ ≤ (7301314 : Nat); omega⟩ dL_law_642 (fw_ki fun r31 M30 H1 locs1 hp29 hH hz1 => ?_)
              obtain ⟨rfl, hM9, hz2⟩ := hp29
              have hsz98 := (hTj t9 (by omega)).1.1
              replace hz := hz2.trans hz
              clear hz1 hz2
              rw [hM9] at hH
              refine fw_icmp_ne (tgt := 677) E dL_law_645 (by decide) (by omega) (by omega) (by omega) (by omega) (fun c32 => ?_) (fun c32 => ?_)
              · exfalso; omega
              · refine lv_aload_n E.1 E.2.1 dL_law_648 rfl (lv_at hl 4 rfl) ?_
                refine lv_iload E.1 E.2.1 dL_law_649 (lv_at hl 0 rfl) ?_
                refine lv_iconst (v := iI 0) E.1 E.2.1 dL_law_651 (by decide) ?_
                refine fw_cV (As := [.int (iI ↑t9), .int (iI 0)]) (rest := []) E hK hH hl hW.1.2 fc_X9 fL_X9_codeAt ql_RL_87 qi_yX9_codeAt qv_yX9_codeAt (b_codeAt l G _ _ (a + 1) oj cn lkj gj mj TT hW.1 hW.2.2.2.2.2.2.2.1 t9 (by omega) (hTj t9 (by omega)).1 0 (by omega)) rfl rfl (Nat.le_of_ble_eq_true rfl) ⟨Nat.le_of_ble_eq_true rfl, Nat.le_of_ble_eq_true rfl⟩ ⟨by show _ ≤ (600104 : Nat); omega, by show _ ≤ (7301314 : Nat); omega⟩ dL_law_652 (fw_ki fun r35 M34 H1 locs1 hp33 hH hz1 => ?_)
                obtain ⟨rfl, hM9, hz2⟩ := hp33
                have hsz109 := (hTj t9 (by omega)).1.1
                replace hz := hz2.trans hz
                clear hz1 hz2
                rw [hM9] at hH
                refine lv_bipush (v := iI 8) E.1 E.2.1 dL_law_655 (by decide) ?_
                refine fw_icmp_gt (tgt := 677) E dL_law_657 (by decide) (by omega) (by omega) (by omega) (by omega) (fun c36 => ?_) (fun c36 => ?_)
                · exfalso; omega
                · refine lv_aload_n E.1 E.2.1 dL_law_660 rfl (lv_at hl 4 rfl) ?_
                  refine lv_iload E.1 E.2.1 dL_law_661 (lv_at hl 0 rfl) ?_
                  refine lv_iload E.1 E.2.1 dL_law_663 (lv_at hl 0 rfl) ?_
                  refine fw_cV (As := [.int (iI ↑t9), .int (iI ↑t9)]) (rest := []) E hK hH hl hW.1.2 fc_X9 fL_X9_alike ql_RL_102 qi_yX9_alike qv_yX9_alike (b_alike l G _ _ (a + 1) oj cn lkj gj mj TT hW.1 hW.2.2.2.2.2.2.2.1 t9 (by omega) (hTj t9 (by omega)).1) rfl rfl (Nat.le_of_ble_eq_true rfl) ⟨Nat.le_of_ble_eq_true rfl, Nat.le_of_ble_eq_true rfl⟩ ⟨by show _ ≤ (600104 : Nat); omega, by show _ ≤ (7301314 : Nat); omega⟩ dL_law_665 (fw_ki fun r39 M38 H1 locs1 hp37 hH hz1 => ?_)
                  obtain ⟨rfl, hM9, hz2⟩ := hp37
                  have hsz121 := (hTj t9 (by omega)).1.1
                  replace hz := hz2.trans hz
                  clear hz1 hz2
                  rw [hM9] at hH
                  refine lv_aload_n E.1 E.2.1 dL_law_668 rfl (lv_at hl 4 rfl) ?_
                  refine lv_iload E.1 E.2.1 dL_law_669 (lv_at hl 0 rfl) ?_
                  refine fw_cV (As := [.int (iI ↑t9)]) (rest := [.int (iI (↑(TT t9).1))]) E hK hH hl hW.1.2 fc_X9 fL_X9_size ql_RL_45 qi_yX9_size qv_yX9_size (b_size l G _ _ (a + 1) oj cn lkj gj mj TT hW.1 hW.2.2.2.2.2.2.2.1 t9 (by omega) (hTj t9 (by omega)).1) rfl rfl (Nat.le_of_ble_eq_true rfl) ⟨Nat.le_of_ble_eq_true rfl, Nat.le_of_ble_eq_true rfl⟩ ⟨by show _ ≤ (600104 : Nat); omega, by show _ ≤ (7301314 : Nat); omega⟩ dL_law_671 (fw_ki fun r42 M41 H1 locs1 hp40 hH hz1 => ?_)
                  obtain ⟨rfl, hM9, hz2⟩ := hp40
                  have hsz129 := (hTj t9 (by omega)).1.1
                  replace hz := hz2.trans hz
                  clear hz1 hz2
                  rw [hM9] at hH
                  refine fw_icmp_eq (tgt := 679) E dL_law_674 (by decide) (by omega) (by omega) (by omega) (by omega) (fun c43 => ?_) (fun c43 => ?_)
                  · refine lv_iconst (v := iI 1) E.1 E.2.1 dL_law_679 (by decide) ?_
                    refine lv_istore (lv' := [(17, .int (iI 1)), (5, .int (iI ↑t9)), (0, .ref (G.2.2.2.2 3)), (1, .int (iI ↑tm)), (2, .ref a), (3, .ref (a + 1)), (4, .int (iI ↑stp)), (16, .ref N)]) E.1 E.2.1 dL_law_680 hl (by decide) rfl (fun ls hl => ?_)
                    have loop682_2 : ∀ (d682 : Nat) (k : Nat) (Mw682 : fw_M) (H : Heap) (locs : List Loc) (ls : Array Slot), (TT t9).1 - k < d682 → 1 ≤ k → k ≤ (TT t9).1 → fw_H G s Mw682 H locs → H.size = N + 1 → lgA G Mw682 a (dwj + 1) cn j.2.2.2.2.1 → bnR G Mw682 (a + 1) oj cn lkj gj mj TT j ra → skE G Mw682 (a + 2) → lv_has ls 21 [(0, .ref (G.2.2.2.2 3)), (1, .int (iI ↑tm)), (2, .ref a), (3, .ref (a + 1)), (4, .int (iI ↑stp)), (5, .int (iI ↑t9)), (17, .int (iI ↑k))] → W pG l e room_1 s m args below meth cG H locs (cells + 1) (slots + 16) Q (F0 m 682 ls []) := by
                      intro d682
                      induction d682 with
                      | zero => intro k Mw682 H locs ls hd; exact absurd hd (Nat.not_lt_zero _)
                      | succ d682 ih682 =>
                        intro k Mw682 H locs ls hd682 hk1 hk2 hH hz hA hW hE hl
                        refine lv_iload E.1 E.2.1 dL_law_682 (lv_at hl 6 rfl) ?_
                        refine lv_aload_n E.1 E.2.1 dL_law_684 rfl (lv_at hl 3 rfl) ?_
                        refine lv_iload E.1 E.2.1 dL_law_685 (lv_at hl 5 rfl) ?_
                        refine fw_cV (As := [.int (iI ↑t9)]) (rest := [.int (iI ↑k)]) E hK hH hl hW.1.2 fc_X9 fL_X9_size ql_RL_45 qi_yX9_size qv_yX9_size (b_size l G _ _ (a + 1) oj cn lkj gj mj TT hW.1 hW.2.2.2.2.2.2.2.1 t9 (by omega) (hTj t9 (by omega)).1) rfl rfl (Nat.le_of_ble_eq_true rfl) ⟨Nat.le_of_ble_eq_true rfl, Nat.le_of_ble_eq_true rfl⟩ ⟨by show _ ≤ (600104 : Nat); omega, by show _ ≤ (7301314 : Nat); omega⟩ dL_law_687 (fw_ki fun r46 M45 H1 locs1 hp44 hH hz1 => ?_)
                        obtain ⟨rfl, hM9, hz2⟩ := hp44
                        have hsz147 := (hTj t9 (by omega)).1.1
                        replace hz := hz2.trans hz
                        clear hz1 hz2
                        rw [hM9] at hH
                        refine fw_icmp_ge (tgt := 820) E dL_law_690 (by decide) (by omega) (by omega) (by omega) (by omega) (fun c47 => ?_) (fun c47 => ?_)
                        · exact kk _ _ _ _ (dwj + 1) oj lkj gj mj TT (by omega) (by omega) hH hz hA hW hE hOj (lv_sub hl [0, 1, 2, 3, 4] rfl)
                        · refine lv_aload_n E.1 E.2.1 dL_law_693 rfl (lv_at hl 3 rfl) ?_
                          refine lv_iload E.1 E.2.1 dL_law_694 (lv_at hl 5 rfl) ?_
                          refine lv_iload E.1 E.2.1 dL_law_696 (lv_at hl 6 rfl) ?_
                          refine fw_cV (As := [.int (iI ↑t9), .int (iI ↑k)]) (rest := []) E hK hH hl hW.1.2 fc_X9 fL_X9_above ql_RL_105 qi_yX9_above qv_yX9_above (b_above l G _ _ (a + 1) oj cn lkj gj mj TT hW.1 hW.2.2.2.2.2.2.2.1 t9 (by omega) ht9o.1 k (by omega) (by omega)) rfl rfl (Nat.le_of_ble_eq_true rfl) ⟨Nat.le_of_ble_eq_true rfl, Nat.le_of_ble_eq_true rfl⟩ ⟨by show _ ≤ (600104 : Nat); omega, by show _ ≤ (7301314 : Nat); omega⟩ dL_law_698 (fw_ki fun r50 M49 H1 locs1 hp48 hH hz1 => ?_)
                          obtain ⟨⟨ab, rfl, hab1, hab2, hab3⟩, hM9, hz2⟩ := hp48
                          obtain ⟨ip, hip1, hip2⟩ := ab_ix ht9o.1.2.2.2.1 (show ab < (TT t9).1 by omega) hab1 hab2 hab3
                          replace hz := hz2.trans hz
                          clear hz1 hz2
                          rw [hM9] at hH
                          refine lv_istore (lv' := [(18, .int (iI ↑ab)), (0, .ref (G.2.2.2.2 3)), (1, .int (iI ↑tm)), (2, .ref a), (3, .ref (a + 1)), (4, .int (iI ↑stp)), (5, .int (iI ↑t9)), (17, .int (iI ↑k))]) E.1 E.2.1 dL_law_701 hl (by decide) rfl (fun ls hl => ?_)
                          refine lv_iconst (v := iI 0) E.1 E.2.1 dL_law_703 (by decide) ?_
                          refine lv_istore (lv' := [(19, .int (iI 0)), (18, .int (iI ↑ab)), (0, .ref (G.2.2.2.2 3)), (1, .int (iI ↑tm)), (2, .ref a), (3, .ref (a + 1)), (4, .int (iI ↑stp)), (5, .int (iI ↑t9)), (17, .int (iI ↑k))]) E.1 E.2.1 dL_law_704 hl (by decide) rfl (fun ls hl => ?_)
                          refine lv_iload E.1 E.2.1 dL_law_706 (lv_at hl 1 rfl) ?_
                          refine lv_iconst (v := iI 1) E.1 E.2.1 dL_law_708 (by decide) ?_
                          refine fw_iadd E dL_law_709 ?_
                          refine lv_istore (lv' := [(20, .int (iI ((↑ab) + 1))), (19, .int (iI 0)), (18, .int (iI ↑ab)), (0, .ref (G.2.2.2.2 3)), (1, .int (iI ↑tm)), (2, .ref a), (3, .ref (a + 1)), (4, .int (iI ↑stp)), (5, .int (iI ↑t9)), (17, .int (iI ↑k))]) E.1 E.2.1 dL_law_710 hl (by decide) rfl (fun ls hl => ?_)
                          have loop712_3 : ∀ (d712 : Nat) (i : Nat) (Mw712 : fw_M) (H : Heap) (locs : List Loc) (ls : Array Slot), ip - i < d712 → i ≤ ip → fw_H G s Mw712 H locs → H.size = N + 1 → lgA G Mw712 a (dwj + 1) cn j.2.2.2.2.1 → bnR G Mw712 (a + 1) oj cn lkj gj mj TT j ra → skE G Mw712 (a + 2) → lv_has ls 21 [(0, .ref (G.2.2.2.2 3)), (1, .int (iI ↑tm)), (2, .ref a), (3, .ref (a + 1)), (4, .int (iI ↑stp)), (5, .int (iI ↑t9)), (17, .int (iI ↑k)), (18, .int (iI ↑ab)), (19, .int (iI ↑i)), (20, .int (iI (↑(chP (TT t9).2.2.2 ab i))))] → W pG l e room_1 s m args below meth cG H locs (cells + 1) (slots + 16) Q (F0 m 712 ls []) := by
                            intro d712
                            induction d712 with
                            | zero => intro i Mw712 H locs ls hd; exact absurd hd (Nat.not_lt_zero _)
                            | succ d712 ih712 =>
                              intro i Mw712 H locs ls hd712 ii hH hz hA hW hE hl
                              have hci := chP_mono (TT t9).2.2.2 ab ii
                              have hcx : i = ip → chP (TT t9).2.2.2 ab i = k := fun e => by rw [e]; exact hip2
                              have hcy : i < ip → chP (TT t9).2.2.2 ab i < k := fun h => by
                                have q1 := chP_mono (TT t9).2.2.2 ab (show i + 1 ≤ ip by omega)
                                have q2 : chP (TT t9).2.2.2 ab (i + 1) = chP (TT t9).2.2.2 ab i + (TT t9).2.2.2 (chP (TT t9).2.2.2 ab i) := rfl
                                have q3 := sp_pos ht9o.1.2.2.2.1 (show chP (TT t9).2.2.2 ab i < (TT t9).1 by omega)
                                omega
                              rw [hip2] at hci
                              refine lv_iload E.1 E.2.1 dL_law_712 (lv_at hl 9 rfl) ?_
                              refine lv_iload E.1 E.2.1 dL_law_714 (lv_at hl 6 rfl) ?_
                              refine fw_icmp_ge (tgt := 738) E dL_law_716 (by decide) (by omega) (by omega) (by omega) (by omega) (fun c51 => ?_) (fun c51 => ?_)
                              · have e9 : i = ip := by omega
                                subst e9
                                have hty9 := ht9o.1.2.2.2.2.1 ab (by omega) i hip1
                                rw [hip2] at hty9
                                have hnm9 := nm_or hty9
                                have hnda := (ht9o.1.2.2.2.2.2 ab (by omega)).1
                                have hndk := (ht9o.1.2.2.2.2.2 k (by omega)).1
                                have hnst := sp_nest ht9o.1.2.2.2.1 (show ab < (TT t9).1 by omega) hab1 hab2
                                have hsle := sp_le ht9o.1.2.2.2.1 (show ab < (TT t9).1 by omega)
                                have hart := arN_le ((TT t9).2.1 ab)
                                refine lv_iload E.1 E.2.1 dL_law_738 (lv_at hl 7 rfl) ?_
                                refine fw_if_lt (tgt := 812) E dL_law_740 (by decide) (by omega) (by omega) (fun c52 => ?_) (fun c52 => ?_)
                                · exfalso; omega
                                · refine lv_iload E.1 E.2.1 dL_law_743 (lv_at hl 8 rfl) ?_
                                  refine lv_aload_n E.1 E.2.1 dL_law_745 rfl (lv_at hl 3 rfl) ?_
                                  refine lv_iload E.1 E.2.1 dL_law_746 (lv_at hl 5 rfl) ?_
                                  refine lv_iload E.1 E.2.1 dL_law_748 (lv_at hl 7 rfl) ?_
                                  refine fw_cV (As := [.int (iI ↑t9), .int (iI ↑ab)]) (rest := [.int (iI ↑i)]) E hK hH hl hW.1.2 fc_X9 fL_X9_codeAt ql_RL_87 qi_yX9_codeAt qv_yX9_codeAt (b_codeAt l G _ _ (a + 1) oj cn lkj gj mj TT hW.1 hW.2.2.2.2.2.2.2.1 t9 (by omega) (hTj t9 (by omega)).1 ab (by omega)) rfl rfl (Nat.le_of_ble_eq_true rfl) ⟨Nat.le_of_ble_eq_true rfl, Nat.le_of_ble_eq_true rfl⟩ ⟨by show _ ≤ (600104 : Nat); omega, by show _ ≤ (7301314 : Nat); omega⟩ dL_law_750 (fw_ki fun r55 M54 H1 locs1 hp53 hH hz1 => ?_)
                                  obtain ⟨rfl, hM9, hz2⟩ := hp53
                                  have hsz205 := (hTj t9 (by omega)).1.1
                                  replace hz := hz2.trans hz
                                  clear hz1 hz2
                                  rw [hM9] at hH
                                  refine fw_cS (As := [.int (iI ((TT t9).2.1 ab))]) (rest := [.int (iI ↑i)]) E hK hH hl fL_X10_many ql_RL_108 qs_yX10_many (l_many l G _ _ ((TT t9).2.1 ab) (by omega)) rfl rfl (Nat.le_of_ble_eq_true rfl) ⟨Nat.le_of_ble_eq_true rfl, Nat.le_of_ble_eq_true rfl⟩ ⟨by show _ ≤ (600104 : Nat); omega, by show _ ≤ (7301314 : Nat); omega⟩ dL_law_753 (fw_ki fun r58 M57 H1 locs1 hp56 hH hz1 => ?_)
                                  obtain ⟨rfl, hM9, hz2⟩ := hp56
                                  have har211 := arN_le ((TT t9).2.1 ab)
                                  replace hz := hz2.trans hz
                                  clear hz1 hz2
                                  rw [hM9] at hH
                                  refine fw_icmp_ge (tgt := 812) E dL_law_756 (by decide) (by omega) (by omega) (by omega) (by omega) (fun c59 => ?_) (fun c59 => ?_)
                                  · exfalso; omega
                                  · refine lv_aload_n E.1 E.2.1 dL_law_759 rfl (lv_at hl 3 rfl) ?_
                                    refine lv_iload E.1 E.2.1 dL_law_760 (lv_at hl 5 rfl) ?_
                                    refine lv_iload E.1 E.2.1 dL_law_762 (lv_at hl 7 rfl) ?_
                                    refine fw_cV (As := [.int (iI ↑t9), .int (iI ↑ab)]) (rest := []) E hK hH hl hW.1.2 fc_X9 fL_X9_codeAt ql_RL_87 qi_yX9_codeAt qv_yX9_codeAt (b_codeAt l G _ _ (a + 1) oj cn lkj gj mj TT hW.1 hW.2.2.2.2.2.2.2.1 t9 (by omega) (hTj t9 (by omega)).1 ab (by omega)) rfl rfl (Nat.le_of_ble_eq_true rfl) ⟨Nat.le_of_ble_eq_true rfl, Nat.le_of_ble_eq_true rfl⟩ ⟨by show _ ≤ (600104 : Nat); omega, by show _ ≤ (7301314 : Nat); omega⟩ dL_law_764 (fw_ki fun r62 M61 H1 locs1 hp60 hH hz1 => ?_)
                                    obtain ⟨rfl, hM9, hz2⟩ := hp60
                                    have hsz222 := (hTj t9 (by omega)).1.1
                                    replace hz := hz2.trans hz
                                    clear hz1 hz2
                                    rw [hM9] at hH
                                    refine lv_iload E.1 E.2.1 dL_law_767 (lv_at hl 8 rfl) ?_
                                    refine fw_cS (As := [.int (iI ((TT t9).2.1 ab)), .int (iI ↑i)]) (rest := []) E hK hH hl fL_X10_isNumber ql_RL_111 qs_yX10_isNumber (l_isNumber l G _ _ ((TT t9).2.1 ab) i (by omega) (by omega)) rfl rfl (Nat.le_of_ble_eq_true rfl) ⟨Nat.le_of_ble_eq_true rfl, Nat.le_of_ble_eq_true rfl⟩ ⟨by show _ ≤ (600104 : Nat); omega, by show _ ≤ (7301314 : Nat); omega⟩ dL_law_769 (fw_ki fun r65 M64 H1 locs1 hp63 hH hz1 => ?_)
                                    obtain ⟨rfl, hM9, hz2⟩ := hp63
                                    have hnm229 := nmP_01 ((TT t9).2.1 ab) i
                                    replace hz := hz2.trans hz
                                    clear hz1 hz2
                                    rw [hM9] at hH
                                    refine lv_aload_n E.1 E.2.1 dL_law_772 rfl (lv_at hl 3 rfl) ?_
                                    refine lv_iload E.1 E.2.1 dL_law_773 (lv_at hl 5 rfl) ?_
                                    refine lv_iload E.1 E.2.1 dL_law_775 (lv_at hl 6 rfl) ?_
                                    refine fw_cV (As := [.int (iI ↑t9), .int (iI ↑k)]) (rest := [.int (iI (nmP ((TT t9).2.1 ab) i))]) E hK hH hl hW.1.2 fc_X9 fL_X9_codeAt ql_RL_87 qi_yX9_codeAt qv_yX9_codeAt (b_codeAt l G _ _ (a + 1) oj cn lkj gj mj TT hW.1 hW.2.2.2.2.2.2.2.1 t9 (by omega) (hTj t9 (by omega)).1 k (by omega)) rfl rfl (Nat.le_of_ble_eq_true rfl) ⟨Nat.le_of_ble_eq_true rfl, Nat.le_of_ble_eq_true rfl⟩ ⟨by show _ ≤ (600104 : Nat); omega, by show _ ≤ (7301314 : Nat); omega⟩ dL_law_777 (fw_ki fun r68 M67 H1 locs1 hp66 hH hz1 => ?_)
                                    obtain ⟨rfl, hM9, hz2⟩ := hp66
                                    have hsz238 := (hTj t9 (by omega)).1.1
                                    replace hz := hz2.trans hz
                                    clear hz1 hz2
                                    rw [hM9] at hH
                                    refine lv_bipush (v := iI 9) E.1 E.2.1 dL_law_780 (by decide) ?_
                                    refine fw_icmp_ge (tgt := 789) E dL_law_782 (by decide) (by omega) (by omega) (by omega) (by omega) (fun c69 => ?_) (fun c69 => ?_)
                                    · refine lv_iconst (v := iI 0) E.1 E.2.1 dL_law_789 (by decide) ?_
                                      refine fw_icmp_ne (tgt := 812) E dL_law_790 (by decide) (by omega) (by omega) (by omega) (by omega) (fun c70 => ?_) (fun c70 => ?_)
                                      · exfalso; omega
                                      · refine lv_aload_n E.1 E.2.1 dL_law_793 rfl (lv_at hl 3 rfl) ?_
                                        refine lv_iload E.1 E.2.1 dL_law_794 (lv_at hl 5 rfl) ?_
                                        refine lv_iload E.1 E.2.1 dL_law_796 (lv_at hl 7 rfl) ?_
                                        refine fw_cV (As := [.int (iI ↑t9), .int (iI ↑ab)]) (rest := []) E hK hH hl hW.1.2 fc_X9 fL_X9_sizeAt ql_RL_99 qi_yX9_sizeAt qv_yX9_sizeAt (b_sizeAt l G _ _ (a + 1) oj cn lkj gj mj TT hW.1 hW.2.2.2.2.2.2.2.1 t9 (by omega) (hTj t9 (by omega)).1 ab (by omega)) rfl rfl (Nat.le_of_ble_eq_true rfl) ⟨Nat.le_of_ble_eq_true rfl, Nat.le_of_ble_eq_true rfl⟩ ⟨by show _ ≤ (600104 : Nat); omega, by show _ ≤ (7301314 : Nat); omega⟩ dL_law_798 (fw_ki fun r73 M72 H1 locs1 hp71 hH hz1 => ?_)
                                        obtain ⟨rfl, hM9, hz2⟩ := hp71
                                        have hsz252 := (hTj t9 (by omega)).1.1
                                        replace hz := hz2.trans hz
                                        clear hz1 hz2
                                        rw [hM9] at hH
                                        refine lv_aload_n E.1 E.2.1 dL_law_801 rfl (lv_at hl 3 rfl) ?_
                                        refine lv_iload E.1 E.2.1 dL_law_802 (lv_at hl 5 rfl) ?_
                                        refine lv_iload E.1 E.2.1 dL_law_804 (lv_at hl 6 rfl) ?_
                                        refine fw_cV (As := [.int (iI ↑t9), .int (iI ↑k)]) (rest := [.int (iI (↑((TT t9).2.2.2 ab)))]) E hK hH hl hW.1.2 fc_X9 fL_X9_sizeAt ql_RL_99 qi_yX9_sizeAt qv_yX9_sizeAt (b_sizeAt l G _ _ (a + 1) oj cn lkj gj mj TT hW.1 hW.2.2.2.2.2.2.2.1 t9 (by omega) (hTj t9 (by omega)).1 k (by omega)) rfl rfl (Nat.le_of_ble_eq_true rfl) ⟨Nat.le_of_ble_eq_true rfl, Nat.le_of_ble_eq_true rfl⟩ ⟨by show _ ≤ (600104 : Nat); omega, by show _ ≤ (7301314 : Nat); omega⟩ dL_law_806 (fw_ki fun r76 M75 H1 locs1 hp74 hH hz1 => ?_)
                                        obtain ⟨rfl, hM9, hz2⟩ := hp74
                                        have hsz261 := (hTj t9 (by omega)).1.1
                                        replace hz := hz2.trans hz
                                        clear hz1 hz2
                                        rw [hM9] at hH
                                        refine fw_icmp_gt (tgt := 814) E dL_law_809 (by decide) (by omega) (by omega) (by omega) (by omega) (fun c77 => ?_) (fun c77 => ?_)
                                        · refine lv_iinc (v := iI (↑k + 1)) (lv' := [(17, .int (iI (↑k + 1))), (0, .ref (G.2.2.2.2 3)), (1, .int (iI ↑tm)), (2, .ref a), (3, .ref (a + 1)), (4, .int (iI ↑stp)), (5, .int (iI ↑t9)), (18, .int (iI ↑ab)), (19, .int (iI ↑i)), (20, .int (iI (↑(chP (TT t9).2.2.2 ab i))))]) E.1 E.2.1 dL_law_814 hl (k := 6) rfl (iI_inc rfl) (by decide) rfl (fun ls hl => ?_)
                                          refine lv_goto (tgt := 682) E.1 E.2.1 dL_law_817 (by decide) ?_
                                          refine W.widen (k := cells + 1) (n := slots + 16) (by omega) (by omega) ?_
                                          exact ih682 (k + 1) _ _ _ _ (by omega) (by omega) (by omega) hH (by omega) hA hW hE (lv_sub hl [1, 2, 3, 4, 5, 6, 0] rfl)
                                        · exfalso; omega
                                    · refine lv_iconst (v := iI 1) E.1 E.2.1 dL_law_785 (by decide) ?_
                                      refine lv_goto (tgt := 790) E.1 E.2.1 dL_law_786 (by decide) ?_
                                      refine fw_icmp_ne (tgt := 812) E dL_law_790 (by decide) (by omega) (by omega) (by omega) (by omega) (fun c78 => ?_) (fun c78 => ?_)
                                      · exfalso; omega
                                      · refine lv_aload_n E.1 E.2.1 dL_law_793 rfl (lv_at hl 3 rfl) ?_
                                        refine lv_iload E.1 E.2.1 dL_law_794 (lv_at hl 5 rfl) ?_
                                        refine lv_iload E.1 E.2.1 dL_law_796 (lv_at hl 7 rfl) ?_
                                        refine fw_cV (As := [.int (iI ↑t9), .int (iI ↑ab)]) (rest := []) E hK hH hl hW.1.2 fc_X9 fL_X9_sizeAt ql_RL_99 qi_yX9_sizeAt qv_yX9_sizeAt (b_sizeAt l G _ _ (a + 1) oj cn lkj gj mj TT hW.1 hW.2.2.2.2.2.2.2.1 t9 (by omega) (hTj t9 (by omega)).1 ab (by omega)) rfl rfl (Nat.le_of_ble_eq_true rfl) ⟨Nat.le_of_ble_eq_true rfl, Nat.le_of_ble_eq_true rfl⟩ ⟨by show _ ≤ (600104 : Nat); omega, by show _ ≤ (7301314 : Nat); omega⟩ dL_law_798 (fw_ki fun r81 M80 H1 locs1 hp79 hH hz1 => ?_)
                                        obtain ⟨rfl, hM9, hz2⟩ := hp79
                                        have hsz280 := (hTj t9 (by omega)).1.1
                                        replace hz := hz2.trans hz
                                        clear hz1 hz2
                                        rw [hM9] at hH
                                        refine lv_aload_n E.1 E.2.1 dL_law_801 rfl (lv_at hl 3 rfl) ?_
                                        refine lv_iload E.1 E.2.1 dL_law_802 (lv_at hl 5 rfl) ?_
                                        refine lv_iload E.1 E.2.1 dL_law_804 (lv_at hl 6 rfl) ?_
                                        refine fw_cV (As := [.int (iI ↑t9), .int (iI ↑k)]) (rest := [.int (iI (↑((TT t9).2.2.2 ab)))]) E hK hH hl hW.1.2 fc_X9 fL_X9_sizeAt ql_RL_99 qi_yX9_sizeAt qv_yX9_sizeAt (b_sizeAt l G _ _ (a + 1) oj cn lkj gj mj TT hW.1 hW.2.2.2.2.2.2.2.1 t9 (by omega) (hTj t9 (by omega)).1 k (by omega)) rfl rfl (Nat.le_of_ble_eq_true rfl) ⟨Nat.le_of_ble_eq_true rfl, Nat.le_of_ble_eq_true rfl⟩ ⟨by show _ ≤ (600104 : Nat); omega, by show _ ≤ (7301314 : Nat); omega⟩ dL_law_806 (fw_ki fun r84 M83 H1 locs1 hp82 hH hz1 => ?_)
                                        obtain ⟨rfl, hM9, hz2⟩ := hp82
                                        have hsz289 := (hTj t9 (by omega)).1.1
                                        replace hz := hz2.trans hz
                                        clear hz1 hz2
                                        rw [hM9] at hH
                                        refine fw_icmp_gt (tgt := 814) E dL_law_809 (by decide) (by omega) (by omega) (by omega) (by omega) (fun c85 => ?_) (fun c85 => ?_)
                                        · refine lv_iinc (v := iI (↑k + 1)) (lv' := [(17, .int (iI (↑k + 1))), (0, .ref (G.2.2.2.2 3)), (1, .int (iI ↑tm)), (2, .ref a), (3, .ref (a + 1)), (4, .int (iI ↑stp)), (5, .int (iI ↑t9)), (18, .int (iI ↑ab)), (19, .int (iI ↑i)), (20, .int (iI (↑(chP (TT t9).2.2.2 ab i))))]) E.1 E.2.1 dL_law_814 hl (k := 6) rfl (iI_inc rfl) (by decide) rfl (fun ls hl => ?_)
                                          refine lv_goto (tgt := 682) E.1 E.2.1 dL_law_817 (by decide) ?_
                                          refine W.widen (k := cells + 1) (n := slots + 16) (by omega) (by omega) ?_
                                          exact ih682 (k + 1) _ _ _ _ (by omega) (by omega) (by omega) hH (by omega) hA hW hE (lv_sub hl [1, 2, 3, 4, 5, 6, 0] rfl)
                                        · exfalso; omega
                              · have hcz := sp_le ht9o.1.2.2.2.1 (show chP (TT t9).2.2.2 ab i < (TT t9).1 by omega)
                                refine lv_iinc (v := iI (↑i + 1)) (lv' := [(19, .int (iI (↑i + 1))), (0, .ref (G.2.2.2.2 3)), (1, .int (iI ↑tm)), (2, .ref a), (3, .ref (a + 1)), (4, .int (iI ↑stp)), (5, .int (iI ↑t9)), (17, .int (iI ↑k)), (18, .int (iI ↑ab)), (20, .int (iI (↑(chP (TT t9).2.2.2 ab i))))]) E.1 E.2.1 dL_law_719 hl (k := 8) rfl (iI_inc rfl) (by decide) rfl (fun ls hl => ?_)
                                refine lv_iload E.1 E.2.1 dL_law_722 (lv_at hl 9 rfl) ?_
                                refine lv_aload_n E.1 E.2.1 dL_law_724 rfl (lv_at hl 4 rfl) ?_
                                refine lv_iload E.1 E.2.1 dL_law_725 (lv_at hl 6 rfl) ?_
                                refine lv_iload E.1 E.2.1 dL_law_727 (lv_at hl 9 rfl) ?_
                                refine fw_cV (As := [.int (iI ↑t9), .int (iI (↑(chP (TT t9).2.2.2 ab i)))]) (rest := [.int (iI (↑(chP (TT t9).2.2.2 ab i)))]) E hK hH hl hW.1.2 fc_X9 fL_X9_sizeAt ql_RL_99 qi_yX9_sizeAt qv_yX9_sizeAt (b_sizeAt l G _ _ (a + 1) oj cn lkj gj mj TT hW.1 hW.2.2.2.2.2.2.2.1 t9 (by omega) (hTj t9 (by omega)).1 (chP (TT t9).2.2.2 ab i) (by omega)) rfl rfl (Nat.le_of_ble_eq_true rfl) ⟨Nat.le_of_ble_eq_true rfl, Nat.le_of_ble_eq_true rfl⟩ ⟨by show _ ≤ (600104 : Nat); omega, by show _ ≤ (7301314 : Nat); omega⟩ dL_law_729 (fw_ki fun r88 M87 H1 locs1 hp86 hH hz1 => ?_)
                                obtain ⟨rfl, hM9, hz2⟩ := hp86
                                have hsz307 := (hTj t9 (by omega)).1.1
                                replace hz := hz2.trans hz
                                clear hz1 hz2
                                rw [hM9] at hH
                                refine fw_iadd E dL_law_732 ?_
                                refine fw_cv (y := iI (↑(chP (TT t9).2.2.2 ab (i + 1)))) (congrArg iI (by show _ = ((chP (TT t9).2.2.2 ab i + (TT t9).2.2.2 (chP (TT t9).2.2.2 ab i) : Nat) : Int); omega)) ?_
                                refine lv_istore (lv' := [(20, .int (iI (↑(chP (TT t9).2.2.2 ab (i + 1))))), (19, .int (iI (↑i + 1))), (0, .ref (G.2.2.2.2 3)), (1, .int (iI ↑tm)), (2, .ref a), (3, .ref (a + 1)), (4, .int (iI ↑stp)), (5, .int (iI ↑t9)), (17, .int (iI ↑k)), (18, .int (iI ↑ab))]) E.1 E.2.1 dL_law_733 hl (by decide) rfl (fun ls hl => ?_)
                                refine lv_goto (tgt := 712) E.1 E.2.1 dL_law_735 (by decide) ?_
                                refine W.widen (k := cells + 1) (n := slots + 16) (by omega) (by omega) ?_
                                exact ih712 (i + 1) _ _ _ _ (by omega) (by omega) hH (by omega) hA hW hE (lv_sub hl [2, 3, 4, 5, 6, 7, 8, 9, 1, 0] rfl)
                          refine W.widen (k := cells + 1) (n := slots + 16) (by omega) (by omega) ?_
                          exact loop712_3 (ip - 0 + 1) 0 _ _ _ _ (Nat.lt_succ_self _) (Nat.zero_le _) hH (by omega) hA hW hE (lv_sub hl [3, 4, 5, 6, 7, 8, 9, 2, 1, 0] rfl)
                    refine W.widen (k := cells + 1) (n := slots + 16) (by omega) (by omega) ?_
                    exact loop682_2 ((TT t9).1 - 1 + 1) 1 _ _ _ _ (Nat.lt_succ_self _) (Nat.le_refl _) (by omega) hH (by omega) hA49 hW hE (lv_sub hl [2, 3, 4, 5, 6, 1, 0] rfl)
                  · exfalso; omega
        · refine lv_aload_n E.1 E.2.1 dL_law_526 rfl (lv_at hl 3 rfl) ?_
          refine lv_iload E.1 E.2.1 dL_law_527 (lv_at hl 6 rfl) ?_
          refine fw_cV (As := [.int (iI ↑i)]) (rest := []) E hK hH hl hW.1.2 fc_X9 fL_X9_ranked ql_RL_65 qi_yX9_ranked qv_yX9_ranked (b_ranked l G _ _ (a + 1) oj cn lkj gj mj TT j ra hW hOj i (by omega)) rfl rfl (Nat.le_of_ble_eq_true rfl) ⟨Nat.le_of_ble_eq_true rfl, Nat.le_of_ble_eq_true rfl⟩ ⟨by show _ ≤ (600104 : Nat); omega, by show _ ≤ (7301314 : Nat); omega⟩ dL_law_529 (fw_ki fun r91 M90 H1 locs1 hp89 hH hz1 => ?_)
          obtain ⟨rfl, hW326, hfr, hz2⟩ := hp89
          have hrk326 := rkT_lt j TT (x := i) (cn := cn) (by omega)
          have hmb326 := meT_b hj9 (hTj _ hrk326).1
          replace hz := hz2.trans hz
          clear hz1 hz2
          have fr92 := hfr
          replace hA := lgA.fr hA (fun q h1 h2 => fr92 q (by omega))
          replace hE := skE.fr hE (fun q h1 h2 => fr92 q (by omega))
          replace hm : M90 N = some (fB G cn (fun j0 => iI (g j0))) := (fr92 _ (by omega)).trans hm
          refine lv_istore (lv' := [(18, .int (iI (↑(rkT j cn TT i)))), (0, .ref (G.2.2.2.2 3)), (1, .int (iI ↑tm)), (2, .ref a), (3, .ref (a + 1)), (4, .int (iI ↑stp)), (16, .ref N), (17, .int (iI ↑i))]) E.1 E.2.1 dL_law_532 hl (by decide) rfl (fun ls hl => ?_)
          refine lv_aload E.1 E.2.1 dL_law_534 (lv_at hl 6 rfl) ?_
          refine lv_iload E.1 E.2.1 dL_law_536 (lv_at hl 0 rfl) ?_
          refine fw_zald E hK hH hm (iI_in (by omega) (by omega) (by omega)) dL_law_538 ?_
          refine fw_cv (y := iI (g (rkT j cn TT i))) (by rw [iI_ix (by omega) (by omega), Int.toNat_natCast]) ?_
          have hg0 : g (rkT j cn TT i) = 0 := hg _ (rkT_lt j TT (by omega)) (fun r hr => rkT_ne j TT hr (by omega))
          refine fw_if_ne (tgt := 586) E dL_law_539 (by decide) (by omega) (by omega) (fun c93 => ?_) (fun c93 => ?_)
          · exfalso; omega
          · refine lv_aload_n E.1 E.2.1 dL_law_542 rfl (lv_at hl 4 rfl) ?_
            refine lv_iload E.1 E.2.1 dL_law_543 (lv_at hl 0 rfl) ?_
            refine fw_cV (As := [.int (iI (↑(rkT j cn TT i)))]) (rest := []) E hK hH hl hW326.1.2 fc_X9 fL_X9_merit ql_RL_68 qi_yX9_merit qv_yX9_merit (b_merit l G _ _ (a + 1) oj cn lkj gj mj TT j ra hW326 hOj (rkT j cn TT i) (by omega)) rfl rfl (Nat.le_of_ble_eq_true rfl) ⟨Nat.le_of_ble_eq_true rfl, Nat.le_of_ble_eq_true rfl⟩ ⟨by show _ ≤ (600104 : Nat); omega, by show _ ≤ (7301314 : Nat); omega⟩ dL_law_545 (fw_ki fun r96 M95 H1 locs1 hp94 hH hz1 => ?_)
            obtain ⟨rfl, hW346, hfr, hz2⟩ := hp94
            have hmb346 := meT_b hj9 (hTj (rkT j cn TT i) (by omega)).1
            replace hz := hz2.trans hz
            clear hz1 hz2
            have fr97 := hfr
            replace hA := lgA.fr hA (fun q h1 h2 => fr97 q (by omega))
            replace hE := skE.fr hE (fun q h1 h2 => fr97 q (by omega))
            replace hm : M95 N = some (fB G cn (fun j0 => iI (g j0))) := (fr97 _ (by omega)).trans hm
            refine lv_aload_n E.1 E.2.1 dL_law_548 rfl (lv_at hl 4 rfl) ?_
            refine lv_aload_n E.1 E.2.1 dL_law_549 rfl (lv_at hl 4 rfl) ?_
            refine lv_iconst (v := iI 0) E.1 E.2.1 dL_law_550 (by decide) ?_
            refine fw_cV (As := [.int (iI 0)]) (rest := [.ref (a + 1), .int (iI (meT j (TT (rkT j cn TT i))))]) E hK hH hl hW346.1.2 fc_X9 fL_X9_ranked ql_RL_65 qi_yX9_ranked qv_yX9_ranked (b_ranked l G _ _ (a + 1) oj cn lkj gj mj TT j ra hW346 hOj 0 (by omega)) rfl rfl (Nat.le_of_ble_eq_true rfl) ⟨Nat.le_of_ble_eq_true rfl, Nat.le_of_ble_eq_true rfl⟩ ⟨by show _ ≤ (600104 : Nat); omega, by show _ ≤ (7301314 : Nat); omega⟩ dL_law_551 (fw_ki fun r100 M99 H1 locs1 hp98 hH hz1 => ?_)
            obtain ⟨rfl, hW358, hfr, hz2⟩ := hp98
            have hrk358 := rkT_lt j TT (x := 0) (cn := cn) (by omega)
            have hmb358 := meT_b hj9 (hTj _ hrk358).1
            replace hz := hz2.trans hz
            clear hz1 hz2
            have fr101 := hfr
            replace hA := lgA.fr hA (fun q h1 h2 => fr101 q (by omega))
            replace hE := skE.fr hE (fun q h1 h2 => fr101 q (by omega))
            replace hm : M99 N = some (fB G cn (fun j0 => iI (g j0))) := (fr101 _ (by omega)).trans hm
            refine fw_cV (As := [.int (iI (↑(rkT j cn TT 0)))]) (rest := [.int (iI (meT j (TT (rkT j cn TT i))))]) E hK hH hl hW358.1.2 fc_X9 fL_X9_merit ql_RL_68 qi_yX9_merit qv_yX9_merit (b_merit l G _ _ (a + 1) oj cn lkj gj mj TT j ra hW358 hOj (rkT j cn TT 0) (by omega)) rfl rfl (Nat.le_of_ble_eq_true rfl) ⟨Nat.le_of_ble_eq_true rfl, Nat.le_of_ble_eq_true rfl⟩ ⟨by show _ ≤ (600104 : Nat); omega, by show _ ≤ (7301314 : Nat); omega⟩ dL_law_554 (fw_ki fun r104 M103 H1 locs1 hp102 hH hz1 => ?_)
            obtain ⟨rfl, hW368, hfr, hz2⟩ := hp102
            have hmb368 := meT_b hj9 (hTj (rkT j cn TT 0) (by omega)).1
            replace hz := hz2.trans hz
            clear hz1 hz2
            have fr105 := hfr
            replace hA := lgA.fr hA (fun q h1 h2 => fr105 q (by omega))
            replace hE := skE.fr hE (fun q h1 h2 => fr105 q (by omega))
            replace hm : M103 N = some (fB G cn (fun j0 => iI (g j0))) := (fr105 _ (by omega)).trans hm
            have hle0 := rkT_le j TT (Nat.zero_le i) (show i < cn by omega)
            refine fw_icmp_lt (tgt := 586) E dL_law_557 (by decide) (by omega) (by omega) (by omega) (by omega) (fun c106 => ?_) (fun c106 => ?_)
            · exfalso; omega
            · refine lv_iload E.1 E.2.1 dL_law_560 (lv_at hl 7 rfl) ?_
              refine fw_if_le (tgt := 588) E dL_law_562 (by decide) (by omega) (by omega) (fun c107 => ?_) (fun c107 => ?_)
              · refine lv_aload E.1 E.2.1 dL_law_588 (lv_at hl 6 rfl) ?_
                refine lv_iload E.1 E.2.1 dL_law_590 (lv_at hl 0 rfl) ?_
                refine lv_iconst (v := iI 1) E.1 E.2.1 dL_law_592 (by decide) ?_
                refine fw_zast E hK hH (by omega) hm (iI_in (by omega) (by omega) (by omega)) dL_law_593 (fun H1 locs1 hH hz1 => ?_)
                replace hz := hz1.trans hz; clear hz1
                rw [show vp_nar .boolean (iI (1)) = iI (1) from by rfl, show upd (fun j0 => iI (g j0)) (iI (↑(rkT j cn TT i))).toNatClampNeg (iI (1)) = fun j0 => iI ((zup g ((rkT j cn TT i)) (1)) j0) from by rw [iI_ix (by omega) (by omega), show (↑(rkT j cn TT i) : Int).toNat = (rkT j cn TT i) from by omega]; exact zup_upd _ _ _] at hH
                obtain ⟨M108, hM109⟩ : ∃ MX, MX = fw_up M103 N (fB G cn (fun j0 => iI ((zup g ((rkT j cn TT i)) (1)) j0))) := ⟨_, rfl⟩
                replace hH := fw_H.nm hM109 hH
                have fr110 : ∀ q, q ≠ N → M108 q = M103 q := fun q h => by rw [hM109]; exact fw_up_ne h
                replace hA := lgA.fr hA (fun q h1 h2 => fr110 q (by omega))
                replace hE := skE.fr hE (fun q h1 h2 => fr110 q (by omega))
                replace hW368 := bnR.fr hW368 (fun q h1 h2 => fr110 q (by omega))
                have hm : M108 N = some (fB G cn (fun j0 => iI ((zup g ((rkT j cn TT i)) (1)) j0))) := by rw [hM109]; exact fw_up_eq
                refine lv_iinc (v := iI (↑i + 1)) (lv' := [(17, .int (iI (↑i + 1))), (18, .int (iI (↑(rkT j cn TT i)))), (0, .ref (G.2.2.2.2 3)), (1, .int (iI ↑tm)), (2, .ref a), (3, .ref (a + 1)), (4, .int (iI ↑stp)), (16, .ref N)]) E.1 E.2.1 dL_law_594 hl (k := 7) rfl (iI_inc rfl) (by decide) rfl (fun ls hl => ?_)
                refine lv_goto (tgt := 517) E.1 E.2.1 dL_law_597 (by decide) ?_
                refine W.widen (k := cells + 1) (n := slots + 16) (by omega) (by omega) ?_
                exact ih517 (i + 1) (zup g ((rkT j cn TT i)) (1)) _ _ _ _ (by omega) (by omega) (fun k hk h => by rw [zup_ne (fun e => h i (by omega) e.symm)]; exact hg k hk (fun r hr => h r (by omega))) hH (by omega) hA hW368 hE hm (lv_sub hl [2, 3, 4, 5, 6, 7, 0] rfl)
              · refine lv_aload_n E.1 E.2.1 dL_law_565 rfl (lv_at hl 4 rfl) ?_
                refine lv_iload E.1 E.2.1 dL_law_566 (lv_at hl 0 rfl) ?_
                refine fw_cV (As := [.int (iI (↑(rkT j cn TT i)))]) (rest := []) E hK hH hl hW368.1.2 fc_X9 fL_X9_merit ql_RL_68 qi_yX9_merit qv_yX9_merit (b_merit l G _ _ (a + 1) oj cn lkj gj mj TT j ra hW368 hOj (rkT j cn TT i) (by omega)) rfl rfl (Nat.le_of_ble_eq_true rfl) ⟨Nat.le_of_ble_eq_true rfl, Nat.le_of_ble_eq_true rfl⟩ ⟨by show _ ≤ (600104 : Nat); omega, by show _ ≤ (7301314 : Nat); omega⟩ dL_law_568 (fw_ki fun r113 M112 H1 locs1 hp111 hH hz1 => ?_)
                obtain ⟨rfl, hW401, hfr, hz2⟩ := hp111
                have hmb401 := meT_b hj9 (hTj (rkT j cn TT i) (by omega)).1
                replace hz := hz2.trans hz
                clear hz1 hz2
                have fr114 := hfr
                replace hA := lgA.fr hA (fun q h1 h2 => fr114 q (by omega))
                replace hE := skE.fr hE (fun q h1 h2 => fr114 q (by omega))
                replace hm : M112 N = some (fB G cn (fun j0 => iI (g j0))) := (fr114 _ (by omega)).trans hm
                refine lv_aload_n E.1 E.2.1 dL_law_571 rfl (lv_at hl 4 rfl) ?_
                refine lv_aload_n E.1 E.2.1 dL_law_572 rfl (lv_at hl 4 rfl) ?_
                refine lv_iload E.1 E.2.1 dL_law_573 (lv_at hl 7 rfl) ?_
                refine lv_iconst (v := iI 1) E.1 E.2.1 dL_law_575 (by decide) ?_
                refine fw_isub E dL_law_576 ?_
                refine fw_cv (y := iI (↑(i - 1))) (congrArg iI (by omega)) ?_
                refine fw_cV (As := [.int (iI (↑(i - 1)))]) (rest := [.ref (a + 1), .int (iI (meT j (TT (rkT j cn TT i))))]) E hK hH hl hW401.1.2 fc_X9 fL_X9_ranked ql_RL_65 qi_yX9_ranked qv_yX9_ranked (b_ranked l G _ _ (a + 1) oj cn lkj gj mj TT j ra hW401 hOj (i - 1) (by omega)) rfl rfl (Nat.le_of_ble_eq_true rfl) ⟨Nat.le_of_ble_eq_true rfl, Nat.le_of_ble_eq_true rfl⟩ ⟨by show _ ≤ (600104 : Nat); omega, by show _ ≤ (7301314 : Nat); omega⟩ dL_law_577 (fw_ki fun r117 M116 H1 locs1 hp115 hH hz1 => ?_)
                obtain ⟨rfl, hW416, hfr, hz2⟩ := hp115
                have hrk416 := rkT_lt j TT (x := (i - 1)) (cn := cn) (by omega)
                have hmb416 := meT_b hj9 (hTj _ hrk416).1
                replace hz := hz2.trans hz
                clear hz1 hz2
                have fr118 := hfr
                replace hA := lgA.fr hA (fun q h1 h2 => fr118 q (by omega))
                replace hE := skE.fr hE (fun q h1 h2 => fr118 q (by omega))
                replace hm : M116 N = some (fB G cn (fun j0 => iI (g j0))) := (fr118 _ (by omega)).trans hm
                refine fw_cV (As := [.int (iI (↑(rkT j cn TT (i - 1))))]) (rest := [.int (iI (meT j (TT (rkT j cn TT i))))]) E hK hH hl hW416.1.2 fc_X9 fL_X9_merit ql_RL_68 qi_yX9_merit qv_yX9_merit (b_merit l G _ _ (a + 1) oj cn lkj gj mj TT j ra hW416 hOj (rkT j cn TT (i - 1)) (by omega)) rfl rfl (Nat.le_of_ble_eq_true rfl) ⟨Nat.le_of_ble_eq_true rfl, Nat.le_of_ble_eq_true rfl⟩ ⟨by show _ ≤ (600104 : Nat); omega, by show _ ≤ (7301314 : Nat); omega⟩ dL_law_580 (fw_ki fun r121 M120 H1 locs1 hp119 hH hz1 => ?_)
                obtain ⟨rfl, hW426, hfr, hz2⟩ := hp119
                have hmb426 := meT_b hj9 (hTj (rkT j cn TT (i - 1)) (by omega)).1
                replace hz := hz2.trans hz
                clear hz1 hz2
                have fr122 := hfr
                replace hA := lgA.fr hA (fun q h1 h2 => fr122 q (by omega))
                replace hE := skE.fr hE (fun q h1 h2 => fr122 q (by omega))
                replace hm : M120 N = some (fB G cn (fun j0 => iI (g j0))) := (fr122 _ (by omega)).trans hm
                have hle1 := rkT_le j TT (show i - 1 ≤ i by omega) (show i < cn by omega)
                refine fw_icmp_ge (tgt := 588) E dL_law_583 (by decide) (by omega) (by omega) (by omega) (by omega) (fun c123 => ?_) (fun c123 => ?_)
                · refine lv_aload E.1 E.2.1 dL_law_588 (lv_at hl 6 rfl) ?_
                  refine lv_iload E.1 E.2.1 dL_law_590 (lv_at hl 0 rfl) ?_
                  refine lv_iconst (v := iI 1) E.1 E.2.1 dL_law_592 (by decide) ?_
                  refine fw_zast E hK hH (by omega) hm (iI_in (by omega) (by omega) (by omega)) dL_law_593 (fun H1 locs1 hH hz1 => ?_)
                  replace hz := hz1.trans hz; clear hz1
                  rw [show vp_nar .boolean (iI (1)) = iI (1) from by rfl, show upd (fun j0 => iI (g j0)) (iI (↑(rkT j cn TT i))).toNatClampNeg (iI (1)) = fun j0 => iI ((zup g ((rkT j cn TT i)) (1)) j0) from by rw [iI_ix (by omega) (by omega), show (↑(rkT j cn TT i) : Int).toNat = (rkT j cn TT i) from by omega]; exact zup_upd _ _ _] at hH
                  obtain ⟨M124, hM125⟩ : ∃ MX, MX = fw_up M120 N (fB G cn (fun j0 => iI ((zup g ((rkT j cn TT i)) (1)) j0))) := ⟨_, rfl⟩
                  replace hH := fw_H.nm hM125 hH
                  have fr126 : ∀ q, q ≠ N → M124 q = M120 q := fun q h => by rw [hM125]; exact fw_up_ne h
                  replace hA := lgA.fr hA (fun q h1 h2 => fr126 q (by omega))
                  replace hE := skE.fr hE (fun q h1 h2 => fr126 q (by omega))
                  replace hW426 := bnR.fr hW426 (fun q h1 h2 => fr126 q (by omega))
                  have hm : M124 N = some (fB G cn (fun j0 => iI ((zup g ((rkT j cn TT i)) (1)) j0))) := by rw [hM125]; exact fw_up_eq
                  refine lv_iinc (v := iI (↑i + 1)) (lv' := [(17, .int (iI (↑i + 1))), (18, .int (iI (↑(rkT j cn TT i)))), (0, .ref (G.2.2.2.2 3)), (1, .int (iI ↑tm)), (2, .ref a), (3, .ref (a + 1)), (4, .int (iI ↑stp)), (16, .ref N)]) E.1 E.2.1 dL_law_594 hl (k := 7) rfl (iI_inc rfl) (by decide) rfl (fun ls hl => ?_)
                  refine lv_goto (tgt := 517) E.1 E.2.1 dL_law_597 (by decide) ?_
                  refine W.widen (k := cells + 1) (n := slots + 16) (by omega) (by omega) ?_
                  exact ih517 (i + 1) (zup g ((rkT j cn TT i)) (1)) _ _ _ _ (by omega) (by omega) (fun k hk h => by rw [zup_ne (fun e => h i (by omega) e.symm)]; exact hg k hk (fun r hr => h r (by omega))) hH (by omega) hA hW426 hE hm (lv_sub hl [2, 3, 4, 5, 6, 7, 0] rfl)
                · exfalso; omega
    refine W.widen (k := cells + 1) (n := slots + 16) (by omega) (by omega) ?_
    exact loop517_1 (cn - 0 + 1) 0 z0 _ _ _ _ (Nat.lt_succ_self _) (Nat.zero_le _) (fun _ _ _ => rfl) hH (by omega) hA hW hE hn0 (lv_sub hl [2, 3, 4, 5, 6, 1, 0] rfl)
  refine lv_aload_n E.1 E.2.1 dL_law_143 rfl (lv_at hl 2 rfl) ?_
  refine lv_aload_n E.1 E.2.1 dL_law_144 rfl (lv_at hl 3 rfl) ?_
  refine fw_cV (As := []) (rest := [.ref a]) E hK hH hl hW.1.2 fc_X9 fL_X9_trees ql_RL_41 qi_yX9_trees qv_yX9_trees (b_trees l G _ _ (a + 1) o cn lk gn mi T hW.1 hW.2.2.2.2.2.2.2.1) rfl rfl (Nat.le_of_ble_eq_true rfl) ⟨Nat.le_of_ble_eq_true rfl, Nat.le_of_ble_eq_true rfl⟩ ⟨by show _ ≤ (600104 : Nat); omega, by show _ ≤ (7301314 : Nat); omega⟩ dL_law_145 (fw_ki fun r129 M128 H1 locs1 hp127 hH hz1 => ?_)
  obtain ⟨rfl, hM9, hz2⟩ := hp127
  replace hz := hz2.trans hz
  clear hz1 hz2
  rw [hM9] at hH
  refine fw_cV (As := [.int (iI (↑cn))]) (rest := []) E hK hH hl hA.2.1 fc_X10 fL_X10_draw ql_RL_18 qi_yX10_draw qv_yX10_draw (l_draw l G _ _ a dw cn ↑cn ↑j.2.2.2.2.1 hA.1 hA.2.1 (by omega) (by omega)) rfl rfl (Nat.le_of_ble_eq_true rfl) ⟨Nat.le_of_ble_eq_true rfl, Nat.le_of_ble_eq_true rfl⟩ ⟨by show _ ≤ (600104 : Nat); omega, by show _ ≤ (7301314 : Nat); omega⟩ dL_law_148 (fw_ki fun r132 M131 H1 locs1 hp130 hH hz1 => ?_)
  obtain ⟨⟨kr464, rfl, hkr464⟩, hob, hfr, hz2⟩ := hp130
  have hA464 := hA.dw hob hfr
  replace hz := hz2.trans hz
  clear hz1 hz2
  have fr133 := hfr
  replace hW := bnR.fr hW (fun q h1 h2 => fr133 q (by omega))
  replace hE := skE.fr hE (fun q h1 h2 => fr133 q (by omega))
  refine lv_istore (lv' := [(5, .int (iI ↑kr464)), (0, .ref (G.2.2.2.2 3)), (1, .int (iI ↑tm)), (2, .ref a), (3, .ref (a + 1)), (4, .int (iI ↑stp))]) E.1 E.2.1 dL_law_151 hl (by decide) rfl (fun ls hl => ?_)
  refine lv_aload_n E.1 E.2.1 dL_law_153 rfl (lv_at hl 3 rfl) ?_
  refine lv_aload_n E.1 E.2.1 dL_law_154 rfl (lv_at hl 4 rfl) ?_
  refine lv_iload E.1 E.2.1 dL_law_155 (lv_at hl 0 rfl) ?_
  refine fw_cV (As := [.int (iI ↑kr464)]) (rest := [.ref a]) E hK hH hl hW.1.2 fc_X9 fL_X9_size ql_RL_45 qi_yX9_size qv_yX9_size (b_size l G _ _ (a + 1) o cn lk gn mi T hW.1 hW.2.2.2.2.2.2.2.1 kr464 (by omega) (hTk kr464 (by omega)).1) rfl rfl (Nat.le_of_ble_eq_true rfl) ⟨Nat.le_of_ble_eq_true rfl, Nat.le_of_ble_eq_true rfl⟩ ⟨by show _ ≤ (600104 : Nat); omega, by show _ ≤ (7301314 : Nat); omega⟩ dL_law_157 (fw_ki fun r136 M135 H1 locs1 hp134 hH hz1 => ?_)
  obtain ⟨rfl, hM9, hz2⟩ := hp134
  have hsz476 := (hTk kr464 (by omega)).1.1
  replace hz := hz2.trans hz
  clear hz1 hz2
  rw [hM9] at hH
  refine fw_cV (As := [.int (iI (↑(T kr464).1))]) (rest := []) E hK hH hl hA464.2.1 fc_X10 fL_X10_draw ql_RL_18 qi_yX10_draw qv_yX10_draw (l_draw l G _ _ a (dw + 1) ((T kr464).1) ↑cn ↑j.2.2.2.2.1 hA464.1 hA464.2.1 (by omega) (by omega)) rfl rfl (Nat.le_of_ble_eq_true rfl) ⟨Nat.le_of_ble_eq_true rfl, Nat.le_of_ble_eq_true rfl⟩ ⟨by show _ ≤ (600104 : Nat); omega, by show _ ≤ (7301314 : Nat); omega⟩ dL_law_160 (fw_ki fun r139 M138 H1 locs1 hp137 hH hz1 => ?_)
  obtain ⟨⟨kr482, rfl, hkr482⟩, hob, hfr, hz2⟩ := hp137
  have hA482 := hA464.dw hob hfr
  replace hz := hz2.trans hz
  clear hz1 hz2
  have fr140 := hfr
  replace hW := bnR.fr hW (fun q h1 h2 => fr140 q (by omega))
  replace hE := skE.fr hE (fun q h1 h2 => fr140 q (by omega))
  refine lv_istore (lv' := [(6, .int (iI ↑kr482)), (5, .int (iI ↑kr464)), (0, .ref (G.2.2.2.2 3)), (1, .int (iI ↑tm)), (2, .ref a), (3, .ref (a + 1)), (4, .int (iI ↑stp))]) E.1 E.2.1 dL_law_163 hl (by decide) rfl (fun ls hl => ?_)
  refine lv_aload_n E.1 E.2.1 dL_law_165 rfl (lv_at hl 4 rfl) ?_
  refine lv_aload_n E.1 E.2.1 dL_law_166 rfl (lv_at hl 5 rfl) ?_
  refine fw_cV (As := []) (rest := [.ref a]) E hK hH hl hW.1.2 fc_X9 fL_X9_trees ql_RL_41 qi_yX9_trees qv_yX9_trees (b_trees l G _ _ (a + 1) o cn lk gn mi T hW.1 hW.2.2.2.2.2.2.2.1) rfl rfl (Nat.le_of_ble_eq_true rfl) ⟨Nat.le_of_ble_eq_true rfl, Nat.le_of_ble_eq_true rfl⟩ ⟨by show _ ≤ (600104 : Nat); omega, by show _ ≤ (7301314 : Nat); omega⟩ dL_law_167 (fw_ki fun r143 M142 H1 locs1 hp141 hH hz1 => ?_)
  obtain ⟨rfl, hM9, hz2⟩ := hp141
  replace hz := hz2.trans hz
  clear hz1 hz2
  rw [hM9] at hH
  refine fw_cV (As := [.int (iI (↑cn))]) (rest := []) E hK hH hl hA482.2.1 fc_X10 fL_X10_draw ql_RL_18 qi_yX10_draw qv_yX10_draw (l_draw l G _ _ a ((dw + 1) + 1) cn ↑cn ↑j.2.2.2.2.1 hA482.1 hA482.2.1 (by omega) (by omega)) rfl rfl (Nat.le_of_ble_eq_true rfl) ⟨Nat.le_of_ble_eq_true rfl, Nat.le_of_ble_eq_true rfl⟩ ⟨by show _ ≤ (600104 : Nat); omega, by show _ ≤ (7301314 : Nat); omega⟩ dL_law_170 (fw_ki fun r146 M145 H1 locs1 hp144 hH hz1 => ?_)
  obtain ⟨⟨kr498, rfl, hkr498⟩, hob, hfr, hz2⟩ := hp144
  have hA498 := hA482.dw hob hfr
  replace hz := hz2.trans hz
  clear hz1 hz2
  have fr147 := hfr
  replace hW := bnR.fr hW (fun q h1 h2 => fr147 q (by omega))
  replace hE := skE.fr hE (fun q h1 h2 => fr147 q (by omega))
  refine lv_istore (lv' := [(7, .int (iI ↑kr498)), (6, .int (iI ↑kr482)), (5, .int (iI ↑kr464)), (0, .ref (G.2.2.2.2 3)), (1, .int (iI ↑tm)), (2, .ref a), (3, .ref (a + 1)), (4, .int (iI ↑stp))]) E.1 E.2.1 dL_law_173 hl (by decide) rfl (fun ls hl => ?_)
  refine lv_aload_n E.1 E.2.1 dL_law_175 rfl (lv_at hl 5 rfl) ?_
  refine lv_aload_n E.1 E.2.1 dL_law_176 rfl (lv_at hl 6 rfl) ?_
  refine lv_iload E.1 E.2.1 dL_law_177 (lv_at hl 0 rfl) ?_
  refine fw_cV (As := [.int (iI ↑kr498)]) (rest := [.ref a]) E hK hH hl hW.1.2 fc_X9 fL_X9_size ql_RL_45 qi_yX9_size qv_yX9_size (b_size l G _ _ (a + 1) o cn lk gn mi T hW.1 hW.2.2.2.2.2.2.2.1 kr498 (by omega) (hTk kr498 (by omega)).1) rfl rfl (Nat.le_of_ble_eq_true rfl) ⟨Nat.le_of_ble_eq_true rfl, Nat.le_of_ble_eq_true rfl⟩ ⟨by show _ ≤ (600104 : Nat); omega, by show _ ≤ (7301314 : Nat); omega⟩ dL_law_179 (fw_ki fun r150 M149 H1 locs1 hp148 hH hz1 => ?_)
  obtain ⟨rfl, hM9, hz2⟩ := hp148
  have hsz510 := (hTk kr498 (by omega)).1.1
  replace hz := hz2.trans hz
  clear hz1 hz2
  rw [hM9] at hH
  refine fw_cV (As := [.int (iI (↑(T kr498).1))]) (rest := []) E hK hH hl hA498.2.1 fc_X10 fL_X10_draw ql_RL_18 qi_yX10_draw qv_yX10_draw (l_draw l G _ _ a (((dw + 1) + 1) + 1) ((T kr498).1) ↑cn ↑j.2.2.2.2.1 hA498.1 hA498.2.1 (by omega) (by omega)) rfl rfl (Nat.le_of_ble_eq_true rfl) ⟨Nat.le_of_ble_eq_true rfl, Nat.le_of_ble_eq_true rfl⟩ ⟨by show _ ≤ (600104 : Nat); omega, by show _ ≤ (7301314 : Nat); omega⟩ dL_law_182 (fw_ki fun r153 M152 H1 locs1 hp151 hH hz1 => ?_)
  obtain ⟨⟨kr516, rfl, hkr516⟩, hob, hfr, hz2⟩ := hp151
  have hA516 := hA498.dw hob hfr
  replace hz := hz2.trans hz
  clear hz1 hz2
  have fr154 := hfr
  replace hW := bnR.fr hW (fun q h1 h2 => fr154 q (by omega))
  replace hE := skE.fr hE (fun q h1 h2 => fr154 q (by omega))
  refine lv_istore (lv' := [(8, .int (iI ↑kr516)), (7, .int (iI ↑kr498)), (6, .int (iI ↑kr482)), (5, .int (iI ↑kr464)), (0, .ref (G.2.2.2.2 3)), (1, .int (iI ↑tm)), (2, .ref a), (3, .ref (a + 1)), (4, .int (iI ↑stp))]) E.1 E.2.1 dL_law_185 hl (by decide) rfl (fun ls hl => ?_)
  refine lv_aload_n E.1 E.2.1 dL_law_187 rfl (lv_at hl 7 rfl) ?_
  refine fw_cV (As := []) (rest := []) E hK hH hl hW.1.2 fc_X9 fL_X9_digest ql_RL_48 qi_yX9_digest qv_yX9_digest (b_digest l G _ _ (a + 1) o cn lk gn mi T j ra hW hO hE) rfl rfl (Nat.le_of_ble_eq_true rfl) ⟨Nat.le_of_ble_eq_true rfl, Nat.le_of_ble_eq_true rfl⟩ ⟨by show _ ≤ (600104 : Nat); omega, by show _ ≤ (7301314 : Nat); omega⟩ dL_law_188 (fw_kl fun r157 M156 H1 locs1 hp155 hH hz1 => ?_)
  obtain ⟨rfl, hW526, hfr, hz2⟩ := hp155
  replace hz := hz2.trans hz
  clear hz1 hz2
  have fr158 := hfr
  replace hE := skE.fr hE (fun q h1 h2 => fr158 q (by omega))
  replace hA516 := lgA.fr hA516 (fun q h1 h2 => fr158 q (by omega))
  refine lv_lstore (lv' := [(9, .long (dgA cn lk gn mi T j)), (8, .int (iI ↑kr516)), (7, .int (iI ↑kr498)), (6, .int (iI ↑kr482)), (5, .int (iI ↑kr464)), (0, .ref (G.2.2.2.2 3)), (1, .int (iI ↑tm)), (2, .ref a), (3, .ref (a + 1)), (4, .int (iI ↑stp))]) E.1 E.2.1 dL_law_191 hl (by decide) rfl (fun ls hl => ?_)
  refine lv_aload_n E.1 E.2.1 dL_law_193 rfl (lv_at hl 8 rfl) ?_
  refine lv_iload E.1 E.2.1 dL_law_194 (lv_at hl 4 rfl) ?_
  refine lv_iload E.1 E.2.1 dL_law_196 (lv_at hl 3 rfl) ?_
  refine lv_iload E.1 E.2.1 dL_law_198 (lv_at hl 2 rfl) ?_
  refine lv_iload E.1 E.2.1 dL_law_200 (lv_at hl 1 rfl) ?_
  refine fw_cV (As := [.int (iI ↑kr464), .int (iI ↑kr482), .int (iI ↑kr498), .int (iI ↑kr516)]) (rest := []) E hK hH hl hW526.1.2 fc_X9 fL_X9_errorCrossed ql_RL_52 qi_yX9_errorCrossed qv_yX9_errorCrossed (b_errorCrossed l G _ _ (a + 1) o cn lk gn mi T j ra hW526 hO kr464 kr482 kr498 kr516 (by omega) (by omega) (by omega) (by omega)) rfl rfl (Nat.le_of_ble_eq_true rfl) ⟨Nat.le_of_ble_eq_true rfl, Nat.le_of_ble_eq_true rfl⟩ ⟨by show _ ≤ (600104 : Nat); omega, by show _ ≤ (7301314 : Nat); omega⟩ dL_law_202 (fw_ki fun r161 M160 H1 locs1 hp159 hH hz1 => ?_)
  obtain ⟨rfl, hW539, hfr, hz2⟩ := hp159
  replace hz := hz2.trans hz
  clear hz1 hz2
  have fr162 := hfr
  replace hE := skE.fr hE (fun q h1 h2 => fr162 q (by omega))
  replace hA516 := lgA.fr hA516 (fun q h1 h2 => fr162 q (by omega))
  refine lv_istore (lv' := [(11, .int (iI (ecT j (T kr464) kr482 (T kr498) kr516))), (9, .long (dgA cn lk gn mi T j)), (8, .int (iI ↑kr516)), (7, .int (iI ↑kr498)), (6, .int (iI ↑kr482)), (5, .int (iI ↑kr464)), (0, .ref (G.2.2.2.2 3)), (1, .int (iI ↑tm)), (2, .ref a), (3, .ref (a + 1)), (4, .int (iI ↑stp))]) E.1 E.2.1 dL_law_205 hl (by decide) rfl (fun ls hl => ?_)
  refine lv_aload_n E.1 E.2.1 dL_law_207 rfl (lv_at hl 9 rfl) ?_
  refine lv_iload E.1 E.2.1 dL_law_208 (lv_at hl 5 rfl) ?_
  refine fw_cV (As := [.int (iI ↑kr464)]) (rest := []) E hK hH hl hW539.1.2 fc_X9 fL_X9_bestHoist ql_RL_56 qi_yX9_bestHoist qv_yX9_bestHoist (b_bestHoist l G _ _ (a + 1) o cn lk gn mi T j ra hW539 hO kr464 (by omega)) rfl rfl (Nat.le_of_ble_eq_true rfl) ⟨Nat.le_of_ble_eq_true rfl, Nat.le_of_ble_eq_true rfl⟩ ⟨by show _ ≤ (600104 : Nat); omega, by show _ ≤ (7301314 : Nat); omega⟩ dL_law_210 (fw_ki fun r165 M164 H1 locs1 hp163 hH hz1 => ?_)
  obtain ⟨⟨bh549, rfl, hbh1, hbh2, hbh3⟩, hW549, hfr, hz2⟩ := hp163
  replace hz := hz2.trans hz
  clear hz1 hz2
  have fr166 := hfr
  replace hE := skE.fr hE (fun q h1 h2 => fr166 q (by omega))
  replace hA516 := lgA.fr hA516 (fun q h1 h2 => fr166 q (by omega))
  refine lv_istore (lv' := [(12, .int (iI (↑bh549))), (11, .int (iI (ecT j (T kr464) kr482 (T kr498) kr516))), (9, .long (dgA cn lk gn mi T j)), (8, .int (iI ↑kr516)), (7, .int (iI ↑kr498)), (6, .int (iI ↑kr482)), (5, .int (iI ↑kr464)), (0, .ref (G.2.2.2.2 3)), (1, .int (iI ↑tm)), (2, .ref a), (3, .ref (a + 1)), (4, .int (iI ↑stp))]) E.1 E.2.1 dL_law_213 hl (by decide) rfl (fun ls hl => ?_)
  refine lv_aload_n E.1 E.2.1 dL_law_215 rfl (lv_at hl 10 rfl) ?_
  refine lv_iload E.1 E.2.1 dL_law_216 (lv_at hl 6 rfl) ?_
  refine fw_cV (As := [.int (iI ↑kr464)]) (rest := []) E hK hH hl hW549.1.2 fc_X9 fL_X9_error ql_RL_59 qi_yX9_error qv_yX9_error (b_error l G _ _ (a + 1) o cn lk gn mi T j ra hW549 hO kr464 (by omega)) rfl rfl (Nat.le_of_ble_eq_true rfl) ⟨Nat.le_of_ble_eq_true rfl, Nat.le_of_ble_eq_true rfl⟩ ⟨by show _ ≤ (600104 : Nat); omega, by show _ ≤ (7301314 : Nat); omega⟩ dL_law_218 (fw_ki fun r169 M168 H1 locs1 hp167 hH hz1 => ?_)
  obtain ⟨rfl, hW559, hfr, hz2⟩ := hp167
  have heb559 := erT_b (p := 0) hj9 (hTk kr464 (by omega)).1 (hTk kr464 (by omega)).1.1.1
  replace hz := hz2.trans hz
  clear hz1 hz2
  have fr170 := hfr
  replace hE := skE.fr hE (fun q h1 h2 => fr170 q (by omega))
  replace hA516 := lgA.fr hA516 (fun q h1 h2 => fr170 q (by omega))
  refine lv_istore (lv' := [(13, .int (iI (erT j (T kr464) 0))), (12, .int (iI (↑bh549))), (11, .int (iI (ecT j (T kr464) kr482 (T kr498) kr516))), (9, .long (dgA cn lk gn mi T j)), (8, .int (iI ↑kr516)), (7, .int (iI ↑kr498)), (6, .int (iI ↑kr482)), (5, .int (iI ↑kr464)), (0, .ref (G.2.2.2.2 3)), (1, .int (iI ↑tm)), (2, .ref a), (3, .ref (a + 1)), (4, .int (iI ↑stp))]) E.1 E.2.1 dL_law_221 hl (by decide) rfl (fun ls hl => ?_)
  refine lv_aload_n E.1 E.2.1 dL_law_223 rfl (lv_at hl 11 rfl) ?_
  refine lv_iconst (v := iI 2) E.1 E.2.1 dL_law_224 (by decide) ?_
  refine fw_cV (As := [.int (iI 2)]) (rest := []) E hK hH hl hW559.1.2 fc_X9 fL_X9_errorBred ql_RL_62 qi_yX9_errorBred qv_yX9_errorBred (b_errorBred l G _ _ (a + 1) o cn lk gn mi T j ra hW559 hO 2 (by omega) hc0) rfl rfl (Nat.le_of_ble_eq_true rfl) ⟨Nat.le_of_ble_eq_true rfl, Nat.le_of_ble_eq_true rfl⟩ ⟨by show _ ≤ (600104 : Nat); omega, by show _ ≤ (7301314 : Nat); omega⟩ dL_law_225 (fw_ki fun r173 M172 H1 locs1 hp171 hH hz1 => ?_)
  obtain ⟨rfl, hW570, hfr, hz2⟩ := hp171
  have hbd0 := brD_ok (j := j) (r := ra) (T := T) hO.2.2.1 hc0 hTk 2
  have hbs := bst_lt j hc0 (brD j cn ra lk T 2).2
  have hbeb := erT_b (p := 0) hj9 (hbd0.2 _ hbs).1 (hbd0.2 _ hbs).1.1.1
  replace hz := hz2.trans hz
  clear hz1 hz2
  have fr174 := hfr
  replace hE := skE.fr hE (fun q h1 h2 => fr174 q (by omega))
  replace hA516 := lgA.fr hA516 (fun q h1 h2 => fr174 q (by omega))
  refine lv_istore (lv' := [(14, .int (iI (erT j ((brD j cn ra lk T 2).2 (bst j cn (brD j cn ra lk T 2).2)) 0))), (13, .int (iI (erT j (T kr464) 0))), (12, .int (iI (↑bh549))), (11, .int (iI (ecT j (T kr464) kr482 (T kr498) kr516))), (9, .long (dgA cn lk gn mi T j)), (8, .int (iI ↑kr516)), (7, .int (iI ↑kr498)), (6, .int (iI ↑kr482)), (5, .int (iI ↑kr464)), (0, .ref (G.2.2.2.2 3)), (1, .int (iI ↑tm)), (2, .ref a), (3, .ref (a + 1)), (4, .int (iI ↑stp))]) E.1 E.2.1 dL_law_228 hl (by decide) rfl (fun ls hl => ?_)
  refine lv_aload_n E.1 E.2.1 dL_law_230 rfl (lv_at hl 12 rfl) ?_
  refine lv_aload_n E.1 E.2.1 dL_law_231 rfl (lv_at hl 12 rfl) ?_
  refine lv_iconst (v := iI 0) E.1 E.2.1 dL_law_232 (by decide) ?_
  refine fw_cV (As := [.int (iI 0)]) (rest := [.ref (a + 1)]) E hK hH hl hW570.1.2 fc_X9 fL_X9_ranked ql_RL_65 qi_yX9_ranked qv_yX9_ranked (b_ranked l G _ _ (a + 1) o cn lk gn mi T j ra hW570 hO 0 (by omega)) rfl rfl (Nat.le_of_ble_eq_true rfl) ⟨Nat.le_of_ble_eq_true rfl, Nat.le_of_ble_eq_true rfl⟩ ⟨by show _ ≤ (600104 : Nat); omega, by show _ ≤ (7301314 : Nat); omega⟩ dL_law_233 (fw_ki fun r177 M176 H1 locs1 hp175 hH hz1 => ?_)
  obtain ⟨rfl, hW584, hfr, hz2⟩ := hp175
  have hrk584 := rkT_lt j T (x := 0) (cn := cn) (by omega)
  have hmb584 := meT_b hj9 (hTk _ hrk584).1
  replace hz := hz2.trans hz
  clear hz1 hz2
  have fr178 := hfr
  replace hE := skE.fr hE (fun q h1 h2 => fr178 q (by omega))
  replace hA516 := lgA.fr hA516 (fun q h1 h2 => fr178 q (by omega))
  refine fw_cV (As := [.int (iI (↑(rkT j cn T 0)))]) (rest := []) E hK hH hl hW584.1.2 fc_X9 fL_X9_merit ql_RL_68 qi_yX9_merit qv_yX9_merit (b_merit l G _ _ (a + 1) o cn lk gn mi T j ra hW584 hO (rkT j cn T 0) (by omega)) rfl rfl (Nat.le_of_ble_eq_true rfl) ⟨Nat.le_of_ble_eq_true rfl, Nat.le_of_ble_eq_true rfl⟩ ⟨by show _ ≤ (600104 : Nat); omega, by show _ ≤ (7301314 : Nat); omega⟩ dL_law_236 (fw_ki fun r181 M180 H1 locs1 hp179 hH hz1 => ?_)
  obtain ⟨rfl, hW593, hfr, hz2⟩ := hp179
  have hmb593 := meT_b hj9 (hTk (rkT j cn T 0) (by omega)).1
  replace hz := hz2.trans hz
  clear hz1 hz2
  have fr182 := hfr
  replace hE := skE.fr hE (fun q h1 h2 => fr182 q (by omega))
  replace hA516 := lgA.fr hA516 (fun q h1 h2 => fr182 q (by omega))
  refine lv_istore (lv' := [(15, .int (iI (meT j (T (rkT j cn T 0))))), (14, .int (iI (erT j ((brD j cn ra lk T 2).2 (bst j cn (brD j cn ra lk T 2).2)) 0))), (13, .int (iI (erT j (T kr464) 0))), (12, .int (iI (↑bh549))), (11, .int (iI (ecT j (T kr464) kr482 (T kr498) kr516))), (9, .long (dgA cn lk gn mi T j)), (8, .int (iI ↑kr516)), (7, .int (iI ↑kr498)), (6, .int (iI ↑kr482)), (5, .int (iI ↑kr464)), (0, .ref (G.2.2.2.2 3)), (1, .int (iI ↑tm)), (2, .ref a), (3, .ref (a + 1)), (4, .int (iI ↑stp))]) E.1 E.2.1 dL_law_239 hl (by decide) rfl (fun ls hl => ?_)
  refine lv_aload_n E.1 E.2.1 dL_law_241 rfl (lv_at hl 13 rfl) ?_
  refine fw_cV (As := []) (rest := []) E hK hH hl hW593.1.2 fc_X9 fL_X9_digest ql_RL_48 qi_yX9_digest qv_yX9_digest (b_digest l G _ _ (a + 1) o cn lk gn mi T j ra hW593 hO hE) rfl rfl (Nat.le_of_ble_eq_true rfl) ⟨Nat.le_of_ble_eq_true rfl, Nat.le_of_ble_eq_true rfl⟩ ⟨by show _ ≤ (600104 : Nat); omega, by show _ ≤ (7301314 : Nat); omega⟩ dL_law_242 (fw_kl fun r185 M184 H1 locs1 hp183 hH hz1 => ?_)
  obtain ⟨rfl, hW603, hfr, hz2⟩ := hp183
  replace hz := hz2.trans hz
  clear hz1 hz2
  have fr186 := hfr
  replace hE := skE.fr hE (fun q h1 h2 => fr186 q (by omega))
  replace hA516 := lgA.fr hA516 (fun q h1 h2 => fr186 q (by omega))
  refine lv_lload E.1 E.2.1 dL_law_245 (lv_at hl 5 rfl) ?_
  refine W.lcmp E.1 E.2.1 dL_law_247 ?_
  refine fw_cv (y := iI 0) (lg_self _) ?_
  refine fw_if_eq (tgt := 253) E dL_law_248 (by decide) (by omega) (by omega) (fun c187 => ?_) (fun c187 => ?_)
  · refine lv_aload_n E.1 E.2.1 dL_law_253 rfl (lv_at hl 12 rfl) ?_
    refine lv_iconst (v := iI 5) E.1 E.2.1 dL_law_254 (by decide) ?_
    refine fw_cV (As := [.int (iI 5)]) (rest := []) E hK hH hl hA516.2.1 fc_X10 fL_X10_draw ql_RL_18 qi_yX10_draw qv_yX10_draw (l_draw l G _ _ a ((((dw + 1) + 1) + 1) + 1) 5 ↑cn ↑j.2.2.2.2.1 hA516.1 hA516.2.1 (by omega) (by omega)) rfl rfl (Nat.le_of_ble_eq_true rfl) ⟨Nat.le_of_ble_eq_true rfl, Nat.le_of_ble_eq_true rfl⟩ ⟨by show _ ≤ (600104 : Nat); omega, by show _ ≤ (7301314 : Nat); omega⟩ dL_law_255 (fw_ki fun r190 M189 H1 locs1 hp188 hH hz1 => ?_)
    obtain ⟨⟨kr616, rfl, hkr616⟩, hob, hfr, hz2⟩ := hp188
    have hA616 := hA516.dw hob hfr
    replace hz := hz2.trans hz
    clear hz1 hz2
    have fr191 := hfr
    replace hE := skE.fr hE (fun q h1 h2 => fr191 q (by omega))
    replace hW603 := bnR.fr hW603 (fun q h1 h2 => fr191 q (by omega))
    rcases (show kr616 = 0 ∨ kr616 = 1 ∨ kr616 = 2 ∨ kr616 = 3 ∨ kr616 = 4 by omega) with hs9 | hs9 | hs9 | hs9 | hs9
    · refine fw_cv (y := iI 0) (congrArg iI (by omega)) ?_
      refine lv_tableIn (off := 30) (tgt := 288) E.1 E.2.1 dL_law_258 (by decide) (by decide) (by decide +kernel) (by decide) ?_
      refine lv_aload_n E.1 E.2.1 dL_law_288 rfl (lv_at hl 13 rfl) ?_
      refine lv_iload E.1 E.2.1 dL_law_289 (lv_at hl 9 rfl) ?_
      refine lv_iload E.1 E.2.1 dL_law_291 (lv_at hl 8 rfl) ?_
      refine lv_iload E.1 E.2.1 dL_law_293 (lv_at hl 7 rfl) ?_
      refine lv_iload E.1 E.2.1 dL_law_295 (lv_at hl 6 rfl) ?_
      refine fw_cV (As := [.int (iI ↑kr464), .int (iI ↑kr482), .int (iI ↑kr498), .int (iI ↑kr516)]) (rest := []) E hK hH hl hW603.1.2 fc_X9 fL_X9_cross ql_RL_71 qi_yX9_cross qv_yX9_cross (b_cross l G _ _ (a + 1) o cn lk gn mi T j ra hW603 hO kr464 kr482 kr498 kr516 (by omega) (by omega) (by omega) (by omega)) rfl rfl (Nat.le_of_ble_eq_true rfl) ⟨Nat.le_of_ble_eq_true rfl, Nat.le_of_ble_eq_true rfl⟩ ⟨by show _ ≤ (600104 : Nat); omega, by show _ ≤ (7301314 : Nat); omega⟩ dL_law_297 (fw_ki fun r9 M195 H1 locs1 hp194 hH hz1 => ?_)
      obtain ⟨hcase, hfr, hz2⟩ := hp194
      replace hz := hz2.trans hz
      clear hz1 hz2
      have fr196 := hfr
      replace hE := skE.fr hE (fun q h1 h2 => fr196 q (by omega))
      replace hA616 := lgA.fr hA616 (fun q h1 h2 => fr196 q (by omega))
      rcases hcase with ⟨hr9, hk9, hW632⟩ | ⟨hr9, hk9, hW632⟩
      · rw [hr9]
        have hec : ecT j (T kr464) kr482 (T kr498) kr516 = -1 := if_neg hk9
        refine fw_if_ge (tgt := 307) E dL_law_300 (by decide) (by omega) (by omega) (fun c197 => ?_) (fun c197 => ?_)
        · exact absurd c197 (by omega)
        · refine lv_iconst (v := iI 1) E.1 E.2.1 dL_law_303 (by decide) ?_
          refine lv_goto (tgt := 308) E.1 E.2.1 dL_law_304 (by decide) ?_
          refine lv_iload E.1 E.2.1 dL_law_308 (lv_at hl 4 rfl) ?_
          refine fw_if_ge (tgt := 317) E dL_law_310 (by decide) (by omega) (by omega) (fun c198 => ?_) (fun c198 => ?_)
          · refine lv_iconst (v := iI 0) E.1 E.2.1 dL_law_317 (by decide) ?_
            refine fw_icmp_ne (tgt := 337) E dL_law_318 (by decide) (by omega) (by omega) (by omega) (by omega) (fun c199 => ?_) (fun c199 => ?_)
            · exfalso; omega
            · exact absurd c199 (by omega)
          · refine lv_iconst (v := iI 1) E.1 E.2.1 dL_law_313 (by decide) ?_
            refine lv_goto (tgt := 318) E.1 E.2.1 dL_law_314 (by decide) ?_
            refine fw_icmp_ne (tgt := 337) E dL_law_318 (by decide) (by omega) (by omega) (by omega) (by omega) (fun c200 => ?_) (fun c200 => ?_)
            · exact absurd c200 (by omega)
            · refine lv_iload E.1 E.2.1 dL_law_321 (lv_at hl 4 rfl) ?_
              refine fw_if_lt (tgt := 506) E dL_law_323 (by decide) (by omega) (by omega) (fun c201 => ?_) (fun c201 => ?_)
              · exact join506 (((((dw + 1) + 1) + 1) + 1) + 1) o lk gn mi T _ _ _ _ (by omega) hO hH (by omega) hA616 hW632 hE (lv_sub hl [10, 11, 12, 13, 14] rfl)
              · refine lv_aload_n E.1 E.2.1 dL_law_326 rfl (lv_at hl 13 rfl) ?_
                refine lv_iload E.1 E.2.1 dL_law_327 (lv_at hl 9 rfl) ?_
                refine fw_cV (As := [.int (iI ↑kr464)]) (rest := []) E hK hH hl hW632.1.2 fc_X9 fL_X9_error ql_RL_59 qi_yX9_error qv_yX9_error (b_error l G _ _ (a + 1) o cn lk gn mi T j ra hW632 hO kr464 (by omega)) rfl rfl (Nat.le_of_ble_eq_true rfl) ⟨Nat.le_of_ble_eq_true rfl, Nat.le_of_ble_eq_true rfl⟩ ⟨by show _ ≤ (600104 : Nat); omega, by show _ ≤ (7301314 : Nat); omega⟩ dL_law_329 (fw_ki fun r204 M203 H1 locs1 hp202 hH hz1 => ?_)
                obtain ⟨rfl, hW661, hfr, hz2⟩ := hp202
                have heb661 := erT_b (p := 0) hj9 (hTk kr464 (by omega)).1 (hTk kr464 (by omega)).1.1.1
                replace hz := hz2.trans hz
                clear hz1 hz2
                have fr205 := hfr
                replace hE := skE.fr hE (fun q h1 h2 => fr205 q (by omega))
                replace hA616 := lgA.fr hA616 (fun q h1 h2 => fr205 q (by omega))
                refine lv_iload E.1 E.2.1 dL_law_332 (lv_at hl 4 rfl) ?_
                refine fw_icmp_eq (tgt := 506) E dL_law_334 (by decide) (by omega) (by omega) (by omega) (by omega) (fun c206 => ?_) (fun c206 => ?_)
                · exact join506 (((((dw + 1) + 1) + 1) + 1) + 1) o lk gn mi T _ _ _ _ (by omega) hO hH (by omega) hA616 hW661 hE (lv_sub hl [10, 11, 12, 13, 14] rfl)
                · exfalso; omega
      · rw [hr9]
        have hec : ecT j (T kr464) kr482 (T kr498) kr516 = erT j (crT (T kr464) kr482 (T kr498) kr516) 0 := if_pos hk9
        obtain ⟨TN, hTN⟩ : ∃ y, y = setT T kr464 (crT (T kr464) kr482 (T kr498) kr516) := ⟨_, rfl⟩
        rw [← hTN] at hW632
        have hTx : TN kr464 = crT (T kr464) kr482 (T kr498) kr516 := by rw [hTN]; exact setT_eq _ _ _
        have hTk2 : ∀ k, k < cn → aOK (TN k) := by rw [hTN]; exact setT_ok hTk (crT_ok (hTk _ (by omega)) (hTk _ (by omega)) (by omega) (by omega) hk9)
        have hO2 : bnO cn lk TN j ra := ⟨hO.1, hO.2.1, hO.2.2.1, hTk2⟩
        have hTs : (TN kr464).1 = (crT (T kr464) kr482 (T kr498) kr516).1 := by rw [hTx]
        have hTe : erT j (TN kr464) 0 = erT j (crT (T kr464) kr482 (T kr498) kr516) 0 := by rw [hTx]
        have hcn9 := crT_ok (hTk kr464 (by omega)) (hTk kr498 (by omega)) (by omega) (by omega) hk9
        have hcn1 := hcn9.1.1
        have hceb := erT_b hj9 hcn9.1 hcn9.1.1.1
        refine fw_if_ge (tgt := 307) E dL_law_300 (by decide) (by omega) (by omega) (fun c207 => ?_) (fun c207 => ?_)
        · refine lv_iconst (v := iI 0) E.1 E.2.1 dL_law_307 (by decide) ?_
          refine lv_iload E.1 E.2.1 dL_law_308 (lv_at hl 4 rfl) ?_
          refine fw_if_ge (tgt := 317) E dL_law_310 (by decide) (by omega) (by omega) (fun c208 => ?_) (fun c208 => ?_)
          · refine lv_iconst (v := iI 0) E.1 E.2.1 dL_law_317 (by decide) ?_
            refine fw_icmp_ne (tgt := 337) E dL_law_318 (by decide) (by omega) (by omega) (by omega) (by omega) (fun c209 => ?_) (fun c209 => ?_)
            · exact absurd c209 (by omega)
            · refine lv_iload E.1 E.2.1 dL_law_321 (lv_at hl 4 rfl) ?_
              refine fw_if_lt (tgt := 506) E dL_law_323 (by decide) (by omega) (by omega) (fun c210 => ?_) (fun c210 => ?_)
              · exact join506 (((((dw + 1) + 1) + 1) + 1) + 1) o lk gn mi TN _ _ _ _ (by omega) hO2 hH (by omega) hA616 hW632 hE (lv_sub hl [10, 11, 12, 13, 14] rfl)
              · refine lv_aload_n E.1 E.2.1 dL_law_326 rfl (lv_at hl 13 rfl) ?_
                refine lv_iload E.1 E.2.1 dL_law_327 (lv_at hl 9 rfl) ?_
                refine fw_cV (As := [.int (iI ↑kr464)]) (rest := []) E hK hH hl hW632.1.2 fc_X9 fL_X9_error ql_RL_59 qi_yX9_error qv_yX9_error (b_error l G _ _ (a + 1) o cn lk gn mi TN j ra hW632 hO2 kr464 (by omega)) rfl rfl (Nat.le_of_ble_eq_true rfl) ⟨Nat.le_of_ble_eq_true rfl, Nat.le_of_ble_eq_true rfl⟩ ⟨by show _ ≤ (600104 : Nat); omega, by show _ ≤ (7301314 : Nat); omega⟩ dL_law_329 (fw_ki fun r213 M212 H1 locs1 hp211 hH hz1 => ?_)
                obtain ⟨rfl, hW697, hfr, hz2⟩ := hp211
                have heb697 := erT_b (p := 0) hj9 (hTk2 kr464 (by omega)).1 (hTk2 kr464 (by omega)).1.1.1
                replace hz := hz2.trans hz
                clear hz1 hz2
                have fr214 := hfr
                replace hE := skE.fr hE (fun q h1 h2 => fr214 q (by omega))
                replace hA616 := lgA.fr hA616 (fun q h1 h2 => fr214 q (by omega))
                refine lv_iload E.1 E.2.1 dL_law_332 (lv_at hl 4 rfl) ?_
                refine fw_icmp_eq (tgt := 506) E dL_law_334 (by decide) (by omega) (by omega) (by omega) (by omega) (fun c215 => ?_) (fun c215 => ?_)
                · exact join506 (((((dw + 1) + 1) + 1) + 1) + 1) o lk gn mi TN _ _ _ _ (by omega) hO2 hH (by omega) hA616 hW697 hE (lv_sub hl [10, 11, 12, 13, 14] rfl)
                · exfalso; omega
          · refine lv_iconst (v := iI 1) E.1 E.2.1 dL_law_313 (by decide) ?_
            refine lv_goto (tgt := 318) E.1 E.2.1 dL_law_314 (by decide) ?_
            refine fw_icmp_ne (tgt := 337) E dL_law_318 (by decide) (by omega) (by omega) (by omega) (by omega) (fun c216 => ?_) (fun c216 => ?_)
            · exfalso; omega
            · exact absurd c216 (by omega)
        · refine lv_iconst (v := iI 1) E.1 E.2.1 dL_law_303 (by decide) ?_
          refine lv_goto (tgt := 308) E.1 E.2.1 dL_law_304 (by decide) ?_
          refine lv_iload E.1 E.2.1 dL_law_308 (lv_at hl 4 rfl) ?_
          refine fw_if_ge (tgt := 317) E dL_law_310 (by decide) (by omega) (by omega) (fun c217 => ?_) (fun c217 => ?_)
          · refine lv_iconst (v := iI 0) E.1 E.2.1 dL_law_317 (by decide) ?_
            refine fw_icmp_ne (tgt := 337) E dL_law_318 (by decide) (by omega) (by omega) (by omega) (by omega) (fun c218 => ?_) (fun c218 => ?_)
            · exfalso; omega
            · exact absurd c218 (by omega)
          · refine lv_iconst (v := iI 1) E.1 E.2.1 dL_law_313 (by decide) ?_
            refine lv_goto (tgt := 318) E.1 E.2.1 dL_law_314 (by decide) ?_
            refine fw_icmp_ne (tgt := 337) E dL_law_318 (by decide) (by omega) (by omega) (by omega) (by omega) (fun c219 => ?_) (fun c219 => ?_)
            · exact absurd c219 (by omega)
            · refine lv_iload E.1 E.2.1 dL_law_321 (lv_at hl 4 rfl) ?_
              refine fw_if_lt (tgt := 506) E dL_law_323 (by decide) (by omega) (by omega) (fun c220 => ?_) (fun c220 => ?_)
              · exact join506 (((((dw + 1) + 1) + 1) + 1) + 1) o lk gn mi TN _ _ _ _ (by omega) hO2 hH (by omega) hA616 hW632 hE (lv_sub hl [10, 11, 12, 13, 14] rfl)
              · refine lv_aload_n E.1 E.2.1 dL_law_326 rfl (lv_at hl 13 rfl) ?_
                refine lv_iload E.1 E.2.1 dL_law_327 (lv_at hl 9 rfl) ?_
                refine fw_cV (As := [.int (iI ↑kr464)]) (rest := []) E hK hH hl hW632.1.2 fc_X9 fL_X9_error ql_RL_59 qi_yX9_error qv_yX9_error (b_error l G _ _ (a + 1) o cn lk gn mi TN j ra hW632 hO2 kr464 (by omega)) rfl rfl (Nat.le_of_ble_eq_true rfl) ⟨Nat.le_of_ble_eq_true rfl, Nat.le_of_ble_eq_true rfl⟩ ⟨by show _ ≤ (600104 : Nat); omega, by show _ ≤ (7301314 : Nat); omega⟩ dL_law_329 (fw_ki fun r223 M222 H1 locs1 hp221 hH hz1 => ?_)
                obtain ⟨rfl, hW731, hfr, hz2⟩ := hp221
                have heb731 := erT_b (p := 0) hj9 (hTk2 kr464 (by omega)).1 (hTk2 kr464 (by omega)).1.1.1
                replace hz := hz2.trans hz
                clear hz1 hz2
                have fr224 := hfr
                replace hE := skE.fr hE (fun q h1 h2 => fr224 q (by omega))
                replace hA616 := lgA.fr hA616 (fun q h1 h2 => fr224 q (by omega))
                refine lv_iload E.1 E.2.1 dL_law_332 (lv_at hl 4 rfl) ?_
                refine fw_icmp_eq (tgt := 506) E dL_law_334 (by decide) (by omega) (by omega) (by omega) (by omega) (fun c225 => ?_) (fun c225 => ?_)
                · exact join506 (((((dw + 1) + 1) + 1) + 1) + 1) o lk gn mi TN _ _ _ _ (by omega) hO2 hH (by omega) hA616 hW731 hE (lv_sub hl [10, 11, 12, 13, 14] rfl)
                · exfalso; omega
    · refine fw_cv (y := iI 1) (congrArg iI (by omega)) ?_
      refine lv_tableIn (off := 81) (tgt := 339) E.1 E.2.1 dL_law_258 (by decide) (by decide) (by decide +kernel) (by decide) ?_
      refine lv_aload_n E.1 E.2.1 dL_law_339 rfl (lv_at hl 13 rfl) ?_
      refine lv_iload E.1 E.2.1 dL_law_340 (lv_at hl 9 rfl) ?_
      refine lv_iload E.1 E.2.1 dL_law_342 (lv_at hl 3 rfl) ?_
      refine fw_cV (As := [.int (iI ↑kr464), .int (iI (↑bh549))]) (rest := []) E hK hH hl hW603.1.2 fc_X9 fL_X9_hoist ql_RL_74 qi_yX9_hoist qv_yX9_hoist (b_hoist l G _ _ (a + 1) o cn lk gn mi T j ra hW603 hO kr464 (by omega) bh549 hbh1 hbh2) rfl rfl (Nat.le_of_ble_eq_true rfl) ⟨Nat.le_of_ble_eq_true rfl, Nat.le_of_ble_eq_true rfl⟩ ⟨by show _ ≤ (600104 : Nat); omega, by show _ ≤ (7301314 : Nat); omega⟩ dL_law_344 (fw_ki fun r9 M229 H1 locs1 hp228 hH hz1 => ?_)
      obtain ⟨⟨rfl, hW748⟩, hfr, hz2⟩ := hp228
      replace hz := hz2.trans hz
      clear hz1 hz2
      have fr230 := hfr
      replace hE := skE.fr hE (fun q h1 h2 => fr230 q (by omega))
      replace hA616 := lgA.fr hA616 (fun q h1 h2 => fr230 q (by omega))
      obtain ⟨TN, hTN⟩ : ∃ y, y = setT T kr464 (kpT (T kr464) bh549) := ⟨_, rfl⟩
      rw [← hTN] at hW748
      have hTx : TN kr464 = kpT (T kr464) bh549 := by rw [hTN]; exact setT_eq _ _ _
      have hTk2 : ∀ k, k < cn → aOK (TN k) := by rw [hTN]; exact setT_ok hTk (kpT_ok (hTk _ (by omega)) hbh1 hbh2)
      have hO2 : bnO cn lk TN j ra := ⟨hO.1, hO.2.1, hO.2.2.1, hTk2⟩
      have hTs : (TN kr464).1 = (kpT (T kr464) bh549).1 := by rw [hTx]
      have hTe : erT j (TN kr464) 0 = erT j (kpT (T kr464) bh549) 0 := by rw [hTx]
      have hkn := (kpT_ok (hTk kr464 (by omega)) hbh1 hbh2).1.1
      have hke := erT_kp (j := j) (hTk kr464 (by omega)) hbh1
      refine lv_iconst (v := iI 1) E.1 E.2.1 dL_law_347 (by decide) ?_
      refine fw_icmp_lt (tgt := 362) E dL_law_348 (by decide) (by omega) (by omega) (by omega) (by omega) (fun c231 => ?_) (fun c231 => ?_)
      · exfalso; omega
      · refine lv_aload_n E.1 E.2.1 dL_law_351 rfl (lv_at hl 13 rfl) ?_
        refine lv_iload E.1 E.2.1 dL_law_352 (lv_at hl 9 rfl) ?_
        refine fw_cV (As := [.int (iI ↑kr464)]) (rest := []) E hK hH hl hW748.1.2 fc_X9 fL_X9_error ql_RL_59 qi_yX9_error qv_yX9_error (b_error l G _ _ (a + 1) o cn lk gn mi TN j ra hW748 hO2 kr464 (by omega)) rfl rfl (Nat.le_of_ble_eq_true rfl) ⟨Nat.le_of_ble_eq_true rfl, Nat.le_of_ble_eq_true rfl⟩ ⟨by show _ ≤ (600104 : Nat); omega, by show _ ≤ (7301314 : Nat); omega⟩ dL_law_354 (fw_ki fun r234 M233 H1 locs1 hp232 hH hz1 => ?_)
        obtain ⟨rfl, hW769, hfr, hz2⟩ := hp232
        have heb769 := erT_b (p := 0) hj9 (hTk2 kr464 (by omega)).1 (hTk2 kr464 (by omega)).1.1.1
        replace hz := hz2.trans hz
        clear hz1 hz2
        have fr235 := hfr
        replace hE := skE.fr hE (fun q h1 h2 => fr235 q (by omega))
        replace hA616 := lgA.fr hA616 (fun q h1 h2 => fr235 q (by omega))
        refine lv_iload E.1 E.2.1 dL_law_357 (lv_at hl 2 rfl) ?_
        refine fw_icmp_le (tgt := 506) E dL_law_359 (by decide) (by omega) (by omega) (by omega) (by omega) (fun c236 => ?_) (fun c236 => ?_)
        · exact join506 (((((dw + 1) + 1) + 1) + 1) + 1) o lk gn mi TN _ _ _ _ (by omega) hO2 hH (by omega) hA616 hW769 hE (lv_sub hl [10, 11, 12, 13, 14] rfl)
        · exfalso; omega
    · refine fw_cv (y := iI 2) (congrArg iI (by omega)) ?_
      refine lv_tableIn (off := 106) (tgt := 364) E.1 E.2.1 dL_law_258 (by decide) (by decide) (by decide +kernel) (by decide) ?_
      refine lv_aload_n E.1 E.2.1 dL_law_364 rfl (lv_at hl 13 rfl) ?_
      refine lv_iload E.1 E.2.1 dL_law_365 (lv_at hl 9 rfl) ?_
      refine lv_iconst (v := iI 3) E.1 E.2.1 dL_law_367 (by decide) ?_
      refine lv_bipush (v := iI (-2)) E.1 E.2.1 dL_law_368 (by decide) ?_
      refine lv_bipush (v := iI 7) E.1 E.2.1 dL_law_370 (by decide) ?_
      refine fw_cV (As := [.int (iI ↑kr464), .int (iI 3), .int (iI (-2)), .int (iI 7)]) (rest := []) E hK hH hl hW603.1.2 fc_X9 fL_X9_gives ql_RL_77 qi_yX9_gives qv_yX9_gives (b_gives l G _ _ (a + 1) o cn lk gn mi T j ra hW603 hO kr464 (by omega) 3 (-2) 7 (by omega) (by omega) (by omega)) rfl rfl (Nat.le_of_ble_eq_true rfl) ⟨Nat.le_of_ble_eq_true rfl, Nat.le_of_ble_eq_true rfl⟩ ⟨by show _ ≤ (600104 : Nat); omega, by show _ ≤ (7301314 : Nat); omega⟩ dL_law_372 (fw_ki fun r239 M238 H1 locs1 hp237 hH hz1 => ?_)
      obtain ⟨rfl, hW788, hfr, hz2⟩ := hp237
      have hgv788 := gvT_b (x := 3) (y := -2) (z := 7) (hTk kr464 (by omega)).1
      replace hz := hz2.trans hz
      clear hz1 hz2
      have fr240 := hfr
      replace hE := skE.fr hE (fun q h1 h2 => fr240 q (by omega))
      replace hA616 := lgA.fr hA616 (fun q h1 h2 => fr240 q (by omega))
      refine lv_istore (lv' := [(16, .int (iI (gvT 3 (-2) 7 (T kr464)))), (15, .int (iI (meT j (T (rkT j cn T 0))))), (14, .int (iI (erT j ((brD j cn ra lk T 2).2 (bst j cn (brD j cn ra lk T 2).2)) 0))), (13, .int (iI (erT j (T kr464) 0))), (12, .int (iI (↑bh549))), (11, .int (iI (ecT j (T kr464) kr482 (T kr498) kr516))), (9, .long (dgA cn lk gn mi T j)), (8, .int (iI ↑kr516)), (7, .int (iI ↑kr498)), (6, .int (iI ↑kr482)), (5, .int (iI ↑kr464)), (0, .ref (G.2.2.2.2 3)), (1, .int (iI ↑tm)), (2, .ref a), (3, .ref (a + 1)), (4, .int (iI ↑stp))]) E.1 E.2.1 dL_law_375 hl (by decide) rfl (fun ls hl => ?_)
      refine lv_aload_n E.1 E.2.1 dL_law_377 rfl (lv_at hl 14 rfl) ?_
      refine lv_iload E.1 E.2.1 dL_law_378 (lv_at hl 10 rfl) ?_
      refine fw_cV (As := [.int (iI ↑kr464)]) (rest := []) E hK hH hl hW788.1.2 fc_X9 fL_X9_size ql_RL_45 qi_yX9_size qv_yX9_size (b_size l G _ _ (a + 1) o cn lk gn mi T hW788.1 hW788.2.2.2.2.2.2.2.1 kr464 (by omega) (hTk kr464 (by omega)).1) rfl rfl (Nat.le_of_ble_eq_true rfl) ⟨Nat.le_of_ble_eq_true rfl, Nat.le_of_ble_eq_true rfl⟩ ⟨by show _ ≤ (600104 : Nat); omega, by show _ ≤ (7301314 : Nat); omega⟩ dL_law_380 (fw_ki fun r243 M242 H1 locs1 hp241 hH hz1 => ?_)
      obtain ⟨rfl, hM9, hz2⟩ := hp241
      have hsz799 := (hTk kr464 (by omega)).1.1
      replace hz := hz2.trans hz
      clear hz1 hz2
      rw [hM9] at hH
      refine lv_istore (lv' := [(17, .int (iI (↑(T kr464).1))), (16, .int (iI (gvT 3 (-2) 7 (T kr464)))), (15, .int (iI (meT j (T (rkT j cn T 0))))), (14, .int (iI (erT j ((brD j cn ra lk T 2).2 (bst j cn (brD j cn ra lk T 2).2)) 0))), (13, .int (iI (erT j (T kr464) 0))), (12, .int (iI (↑bh549))), (11, .int (iI (ecT j (T kr464) kr482 (T kr498) kr516))), (9, .long (dgA cn lk gn mi T j)), (8, .int (iI ↑kr516)), (7, .int (iI ↑kr498)), (6, .int (iI ↑kr482)), (5, .int (iI ↑kr464)), (0, .ref (G.2.2.2.2 3)), (1, .int (iI ↑tm)), (2, .ref a), (3, .ref (a + 1)), (4, .int (iI ↑stp))]) E.1 E.2.1 dL_law_383 hl (by decide) rfl (fun ls hl => ?_)
      refine lv_aload_n E.1 E.2.1 dL_law_385 rfl (lv_at hl 15 rfl) ?_
      refine lv_iload E.1 E.2.1 dL_law_386 (lv_at hl 11 rfl) ?_
      refine fw_cV (As := [.int (iI ↑kr464)]) (rest := []) E hK hH hl hW788.1.2 fc_X9 fL_X9_simplify ql_RL_80 qi_yX9_simplify qv_yX9_simplify (b_simplify l G _ _ (a + 1) o cn lk gn mi T j ra hW788 hO kr464 (by omega)) rfl rfl (Nat.le_of_ble_eq_true rfl) ⟨Nat.le_of_ble_eq_true rfl, Nat.le_of_ble_eq_true rfl⟩ ⟨by show _ ≤ (600104 : Nat); omega, by show _ ≤ (7301314 : Nat); omega⟩ dL_law_388 (fw_ki fun r9 M247 H1 locs1 hp246 hH hz1 => ?_)
      obtain ⟨⟨t1, hsr, rfl, hW808⟩, hfr, hz2⟩ := hp246
      replace hz := hz2.trans hz
      clear hz1 hz2
      have fr248 := hfr
      replace hE := skE.fr hE (fun q h1 h2 => fr248 q (by omega))
      replace hA616 := lgA.fr hA616 (fun q h1 h2 => fr248 q (by omega))
      obtain ⟨TN, hTN⟩ : ∃ y, y = setT T kr464 t1 := ⟨_, rfl⟩
      rw [← hTN] at hW808
      have hTx : TN kr464 = t1 := by rw [hTN]; exact setT_eq _ _ _
      have hTk2 : ∀ k, k < cn → aOK (TN k) := by rw [hTN]; exact setT_ok hTk (sRT_ok (hTk _ (by omega)) hsr)
      have hO2 : bnO cn lk TN j ra := ⟨hO.1, hO.2.1, hO.2.2.1, hTk2⟩
      have hTs : (TN kr464).1 = (t1).1 := by rw [hTx]
      have hTe : erT j (TN kr464) 0 = erT j t1 0 := by rw [hTx]
      have hs1 := (sRT_ok (hTk kr464 (by omega)) hsr).1.1
      have hs2 := hsr.2.1
      have hs3 := sRT_er (j := j) hsr
      have hs4 : gvT 3 (-2) 7 (TN kr464) = gvT 3 (-2) 7 (T kr464) := by rw [hTx]; exact sRT_gv hsr
      refine lv_iload E.1 E.2.1 dL_law_391 (lv_at hl 0 rfl) ?_
      refine lv_aload_n E.1 E.2.1 dL_law_393 rfl (lv_at hl 15 rfl) ?_
      refine lv_iload E.1 E.2.1 dL_law_394 (lv_at hl 11 rfl) ?_
      refine fw_cV (As := [.int (iI ↑kr464)]) (rest := [.int (iI (↑(T kr464).1)), .int (iI (↑(T kr464).1 - ↑t1.1))]) E hK hH hl hW808.1.2 fc_X9 fL_X9_size ql_RL_45 qi_yX9_size qv_yX9_size (b_size l G _ _ (a + 1) o cn lk gn mi TN hW808.1 hW808.2.2.2.2.2.2.2.1 kr464 (by omega) (hTk2 kr464 (by omega)).1) rfl rfl (Nat.le_of_ble_eq_true rfl) ⟨Nat.le_of_ble_eq_true rfl, Nat.le_of_ble_eq_true rfl⟩ ⟨by show _ ≤ (600104 : Nat); omega, by show _ ≤ (7301314 : Nat); omega⟩ dL_law_396 (fw_ki fun r251 M250 H1 locs1 hp249 hH hz1 => ?_)
      obtain ⟨rfl, hM9, hz2⟩ := hp249
      have hsz829 := (hTk2 kr464 (by omega)).1.1
      replace hz := hz2.trans hz
      clear hz1 hz2
      rw [hM9] at hH
      refine fw_isub E dL_law_399 ?_
      refine fw_icmp_ne (tgt := 441) E dL_law_400 (by decide) (by omega) (by omega) (by omega) (by omega) (fun c252 => ?_) (fun c252 => ?_)
      · exfalso; omega
      · refine lv_aload_n E.1 E.2.1 dL_law_403 rfl (lv_at hl 15 rfl) ?_
        refine lv_iload E.1 E.2.1 dL_law_404 (lv_at hl 11 rfl) ?_
        refine fw_cV (As := [.int (iI ↑kr464)]) (rest := []) E hK hH hl hW808.1.2 fc_X9 fL_X9_size ql_RL_45 qi_yX9_size qv_yX9_size (b_size l G _ _ (a + 1) o cn lk gn mi TN hW808.1 hW808.2.2.2.2.2.2.2.1 kr464 (by omega) (hTk2 kr464 (by omega)).1) rfl rfl (Nat.le_of_ble_eq_true rfl) ⟨Nat.le_of_ble_eq_true rfl, Nat.le_of_ble_eq_true rfl⟩ ⟨by show _ ≤ (600104 : Nat); omega, by show _ ≤ (7301314 : Nat); omega⟩ dL_law_406 (fw_ki fun r255 M254 H1 locs1 hp253 hH hz1 => ?_)
        obtain ⟨rfl, hM9, hz2⟩ := hp253
        have hsz840 := (hTk2 kr464 (by omega)).1.1
        replace hz := hz2.trans hz
        clear hz1 hz2
        rw [hM9] at hH
        refine lv_iload E.1 E.2.1 dL_law_409 (lv_at hl 0 rfl) ?_
        refine fw_icmp_gt (tgt := 441) E dL_law_411 (by decide) (by omega) (by omega) (by omega) (by omega) (fun c256 => ?_) (fun c256 => ?_)
        · exfalso; omega
        · refine lv_aload_n E.1 E.2.1 dL_law_414 rfl (lv_at hl 15 rfl) ?_
          refine lv_iload E.1 E.2.1 dL_law_415 (lv_at hl 11 rfl) ?_
          refine lv_iconst (v := iI 3) E.1 E.2.1 dL_law_417 (by decide) ?_
          refine lv_bipush (v := iI (-2)) E.1 E.2.1 dL_law_418 (by decide) ?_
          refine lv_bipush (v := iI 7) E.1 E.2.1 dL_law_420 (by decide) ?_
          refine fw_cV (As := [.int (iI ↑kr464), .int (iI 3), .int (iI (-2)), .int (iI 7)]) (rest := []) E hK hH hl hW808.1.2 fc_X9 fL_X9_gives ql_RL_77 qi_yX9_gives qv_yX9_gives (b_gives l G _ _ (a + 1) o cn lk gn mi TN j ra hW808 hO2 kr464 (by omega) 3 (-2) 7 (by omega) (by omega) (by omega)) rfl rfl (Nat.le_of_ble_eq_true rfl) ⟨Nat.le_of_ble_eq_true rfl, Nat.le_of_ble_eq_true rfl⟩ ⟨by show _ ≤ (600104 : Nat); omega, by show _ ≤ (7301314 : Nat); omega⟩ dL_law_422 (fw_ki fun r259 M258 H1 locs1 hp257 hH hz1 => ?_)
          obtain ⟨rfl, hW854, hfr, hz2⟩ := hp257
          have hgv854 := gvT_b (x := 3) (y := -2) (z := 7) (hTk2 kr464 (by omega)).1
          replace hz := hz2.trans hz
          clear hz1 hz2
          have fr260 := hfr
          replace hE := skE.fr hE (fun q h1 h2 => fr260 q (by omega))
          replace hA616 := lgA.fr hA616 (fun q h1 h2 => fr260 q (by omega))
          refine lv_iload E.1 E.2.1 dL_law_425 (lv_at hl 1 rfl) ?_
          refine fw_icmp_ne (tgt := 441) E dL_law_427 (by decide) (by omega) (by omega) (by omega) (by omega) (fun c261 => ?_) (fun c261 => ?_)
          · exfalso; omega
          · refine lv_aload_n E.1 E.2.1 dL_law_430 rfl (lv_at hl 15 rfl) ?_
            refine lv_iload E.1 E.2.1 dL_law_431 (lv_at hl 11 rfl) ?_
            refine fw_cV (As := [.int (iI ↑kr464)]) (rest := []) E hK hH hl hW854.1.2 fc_X9 fL_X9_error ql_RL_59 qi_yX9_error qv_yX9_error (b_error l G _ _ (a + 1) o cn lk gn mi TN j ra hW854 hO2 kr464 (by omega)) rfl rfl (Nat.le_of_ble_eq_true rfl) ⟨Nat.le_of_ble_eq_true rfl, Nat.le_of_ble_eq_true rfl⟩ ⟨by show _ ≤ (600104 : Nat); omega, by show _ ≤ (7301314 : Nat); omega⟩ dL_law_433 (fw_ki fun r264 M263 H1 locs1 hp262 hH hz1 => ?_)
            obtain ⟨rfl, hW867, hfr, hz2⟩ := hp262
            have heb867 := erT_b (p := 0) hj9 (hTk2 kr464 (by omega)).1 (hTk2 kr464 (by omega)).1.1.1
            replace hz := hz2.trans hz
            clear hz1 hz2
            have fr265 := hfr
            replace hE := skE.fr hE (fun q h1 h2 => fr265 q (by omega))
            replace hA616 := lgA.fr hA616 (fun q h1 h2 => fr265 q (by omega))
            refine lv_iload E.1 E.2.1 dL_law_436 (lv_at hl 4 rfl) ?_
            refine fw_icmp_eq (tgt := 506) E dL_law_438 (by decide) (by omega) (by omega) (by omega) (by omega) (fun c266 => ?_) (fun c266 => ?_)
            · exact join506 (((((dw + 1) + 1) + 1) + 1) + 1) o lk gn mi TN _ _ _ _ (by omega) hO2 hH (by omega) hA616 hW867 hE (lv_sub hl [12, 13, 14, 15, 16] rfl)
            · exfalso; omega
    · refine fw_cv (y := iI 3) (congrArg iI (by omega)) ?_
      refine lv_tableIn (off := 185) (tgt := 443) E.1 E.2.1 dL_law_258 (by decide) (by decide) (by decide +kernel) (by decide) ?_
      refine lv_aload_n E.1 E.2.1 dL_law_443 rfl (lv_at hl 13 rfl) ?_
      refine lv_iload E.1 E.2.1 dL_law_444 (lv_at hl 9 rfl) ?_
      refine lv_iload E.1 E.2.1 dL_law_446 (lv_at hl 8 rfl) ?_
      refine lv_iconst (v := iI 4) E.1 E.2.1 dL_law_448 (by decide) ?_
      refine fw_cV (As := [.int (iI ↑kr464), .int (iI ↑kr482), .int (iI 4)]) (rest := []) E hK hH hl hW603.1.2 fc_X9 fL_X9_wither ql_RL_83 qi_yX9_wither qv_yX9_wither (b_wither l G _ _ (a + 1) o cn lk gn mi T j ra hW603 hO kr464 (by omega) kr482 4 (by omega) (by omega)) rfl rfl (Nat.le_of_ble_eq_true rfl) ⟨Nat.le_of_ble_eq_true rfl, Nat.le_of_ble_eq_true rfl⟩ ⟨by show _ ≤ (600104 : Nat); omega, by show _ ≤ (7301314 : Nat); omega⟩ dL_law_449 (fw_ki fun r9 M270 H1 locs1 hp269 hH hz1 => ?_)
      obtain ⟨hcase, hfr, hz2⟩ := hp269
      replace hz := hz2.trans hz
      clear hz1 hz2
      have fr271 := hfr
      replace hE := skE.fr hE (fun q h1 h2 => fr271 q (by omega))
      replace hA616 := lgA.fr hA616 (fun q h1 h2 => fr271 q (by omega))
      rcases hcase with ⟨hr9, hW885⟩ | ⟨h89, hr9, hW885⟩
      · rw [hr9]
        refine fw_if_le (tgt := 506) E dL_law_452 (by decide) (by omega) (by omega) (fun c272 => ?_) (fun c272 => ?_)
        · exact join506 (((((dw + 1) + 1) + 1) + 1) + 1) o lk gn mi T _ _ _ _ (by omega) hO hH (by omega) hA616 hW885 hE (lv_sub hl [10, 11, 12, 13, 14] rfl)
        · exact absurd c272 (by omega)
      · rw [hr9]
        obtain ⟨TN, hTN⟩ : ∃ y, y = setT T kr464 (mcT (T kr464) kr482 4) := ⟨_, rfl⟩
        rw [← hTN] at hW885
        have hTx : TN kr464 = mcT (T kr464) kr482 4 := by rw [hTN]; exact setT_eq _ _ _
        have hTk2 : ∀ k, k < cn → aOK (TN k) := by rw [hTN]; exact setT_ok hTk (mcT_ok (hTk _ (by omega)) (by omega) h89 (by omega))
        have hO2 : bnO cn lk TN j ra := ⟨hO.1, hO.2.1, hO.2.2.1, hTk2⟩
        have hTs : (TN kr464).1 = (mcT (T kr464) kr482 4).1 := by rw [hTx]
        have hTe : erT j (TN kr464) 0 = erT j (mcT (T kr464) kr482 4) 0 := by rw [hTx]
        have hmo := (mcT_ok (v := 4) (hTk kr464 (by omega)) (by omega) h89 (by omega)).1.1
        have hma := mcT_at (T kr464) kr482 4
        have hmp := sp_le (hTk kr464 (by omega)).1.2.2.2.1 (show kr482 < (T kr464).1 by omega)
        have hms : (mcT (T kr464) kr482 4).1 = (T kr464).1 - (T kr464).2.2.2 kr482 + 1 := rfl
        rw [← hTx] at hma
        refine fw_if_le (tgt := 506) E dL_law_452 (by decide) (by omega) (by omega) (fun c273 => ?_) (fun c273 => ?_)
        · exact join506 (((((dw + 1) + 1) + 1) + 1) + 1) o lk gn mi TN _ _ _ _ (by omega) hO2 hH (by omega) hA616 hW885 hE (lv_sub hl [10, 11, 12, 13, 14] rfl)
        · refine lv_aload_n E.1 E.2.1 dL_law_455 rfl (lv_at hl 13 rfl) ?_
          refine lv_iload E.1 E.2.1 dL_law_456 (lv_at hl 9 rfl) ?_
          refine lv_iload E.1 E.2.1 dL_law_458 (lv_at hl 8 rfl) ?_
          refine fw_cV (As := [.int (iI ↑kr464), .int (iI ↑kr482)]) (rest := []) E hK hH hl hW885.1.2 fc_X9 fL_X9_codeAt ql_RL_87 qi_yX9_codeAt qv_yX9_codeAt (b_codeAt l G _ _ (a + 1) o cn lk gn mi TN hW885.1 hW885.2.2.2.2.2.2.2.1 kr464 (by omega) (hTk2 kr464 (by omega)).1 kr482 (by omega)) rfl rfl (Nat.le_of_ble_eq_true rfl) ⟨Nat.le_of_ble_eq_true rfl, Nat.le_of_ble_eq_true rfl⟩ ⟨by show _ ≤ (600104 : Nat); omega, by show _ ≤ (7301314 : Nat); omega⟩ dL_law_460 (fw_ki fun r276 M275 H1 locs1 hp274 hH hz1 => ?_)
          obtain ⟨rfl, hM9, hz2⟩ := hp274
          have hsz915 := (hTk2 kr464 (by omega)).1.1
          replace hz := hz2.trans hz
          clear hz1 hz2
          rw [hM9] at hH
          refine fw_if_ne (tgt := 478) E dL_law_463 (by decide) (by omega) (by omega) (fun c277 => ?_) (fun c277 => ?_)
          · exfalso; omega
          · refine lv_aload_n E.1 E.2.1 dL_law_466 rfl (lv_at hl 13 rfl) ?_
            refine lv_iload E.1 E.2.1 dL_law_467 (lv_at hl 9 rfl) ?_
            refine lv_iload E.1 E.2.1 dL_law_469 (lv_at hl 8 rfl) ?_
            refine fw_cV (As := [.int (iI ↑kr464), .int (iI ↑kr482)]) (rest := []) E hK hH hl hW885.1.2 fc_X9 fL_X9_valueAt ql_RL_90 qi_yX9_valueAt qv_yX9_valueAt (b_valueAt l G _ _ (a + 1) o cn lk gn mi TN hW885.1 hW885.2.2.2.2.2.2.2.1 kr464 (by omega) (hTk2 kr464 (by omega)).1 kr482 (by omega)) rfl rfl (Nat.le_of_ble_eq_true rfl) ⟨Nat.le_of_ble_eq_true rfl, Nat.le_of_ble_eq_true rfl⟩ ⟨by show _ ≤ (600104 : Nat); omega, by show _ ≤ (7301314 : Nat); omega⟩ dL_law_471 (fw_ki fun r280 M279 H1 locs1 hp278 hH hz1 => ?_)
            obtain ⟨rfl, hM9, hz2⟩ := hp278
            have hsz926 := (hTk2 kr464 (by omega)).1.1
            replace hz := hz2.trans hz
            clear hz1 hz2
            rw [hM9] at hH
            refine lv_iconst (v := iI 4) E.1 E.2.1 dL_law_474 (by decide) ?_
            refine fw_icmp_eq (tgt := 506) E dL_law_475 (by decide) (by omega) (by omega) (by omega) (by omega) (fun c281 => ?_) (fun c281 => ?_)
            · exact join506 (((((dw + 1) + 1) + 1) + 1) + 1) o lk gn mi TN _ _ _ _ (by omega) hO2 hH (by omega) hA616 hW885 hE (lv_sub hl [10, 11, 12, 13, 14] rfl)
            · exfalso; omega
    · refine fw_cv (y := iI 4) (congrArg iI (by omega)) ?_
      refine lv_tableOut (tgt := 480) E.1 E.2.1 dL_law_258 (Or.inr (by decide)) (by decide) ?_
      refine lv_aload_n E.1 E.2.1 dL_law_480 rfl (lv_at hl 13 rfl) ?_
      refine lv_iconst (v := iI 2) E.1 E.2.1 dL_law_481 (by decide) ?_
      refine fw_cV (As := [.int (iI 2)]) (rest := []) E hK hH hl hW603.1.2 fc_X9 fL_X9_breed ql_RL_93 qi_yX9_breed qv_yX9_breed (b_breed l G _ _ (a + 1) o cn lk gn mi T j ra hW603 hO 2 (by omega) hc0) rfl rfl (Nat.le_of_ble_eq_true rfl) ⟨Nat.le_of_ble_eq_true rfl, Nat.le_of_ble_eq_true rfl⟩ ⟨by show _ ≤ (600104 : Nat); omega, by show _ ≤ (7301314 : Nat); omega⟩ dL_law_482 (fw_ki fun r284 M283 H1 locs1 hp282 hH hz1 => ?_)
      obtain ⟨rfl, ⟨o9, gn9, mi9, hW940⟩, hfr, hz2⟩ := hp282
      obtain ⟨LN, hLN⟩ : ∃ y, y = (brD j cn ra lk T 2).1 := ⟨_, rfl⟩
      obtain ⟨TN, hTN⟩ : ∃ y, y = (brD j cn ra lk T 2).2 := ⟨_, rfl⟩
      have hbd := brD_ok (j := j) (r := ra) (T := T) hO.2.2.1 hc0 hTk 2
      have hbb := brD_best (j := j) (r := ra) (lk := lk) (T := T) hc0 hra 2
      rw [← hLN, ← hTN] at hW940 hbd
      rw [← hTN] at hbb
      have hO2 : bnO cn LN TN j ra := ⟨hO.1, hO.2.1, hbd.1, hbd.2⟩
      have hTk2 := hbd.2
      change meT j (TN (rkT j cn TN 0)) ≤ meT j (T (rkT j cn T 0)) at hbb
      replace hz := hz2.trans hz
      clear hz1 hz2
      have fr285 := hfr
      replace hE := skE.fr hE (fun q h1 h2 => fr285 q (by omega))
      replace hA616 := lgA.fr hA616 (fun q h1 h2 => fr285 q (by omega))
      refine lv_iload E.1 E.2.1 dL_law_485 (lv_at hl 1 rfl) ?_
      refine fw_icmp_ne (tgt := 504) E dL_law_487 (by decide) (by omega) (by omega) (by omega) (by omega) (fun c286 => ?_) (fun c286 => ?_)
      · exfalso; omega
      · refine lv_aload_n E.1 E.2.1 dL_law_490 rfl (lv_at hl 13 rfl) ?_
        refine lv_aload_n E.1 E.2.1 dL_law_491 rfl (lv_at hl 13 rfl) ?_
        refine lv_iconst (v := iI 0) E.1 E.2.1 dL_law_492 (by decide) ?_
        refine fw_cV (As := [.int (iI 0)]) (rest := [.ref (a + 1)]) E hK hH hl hW940.1.2 fc_X9 fL_X9_ranked ql_RL_65 qi_yX9_ranked qv_yX9_ranked (b_ranked l G _ _ (a + 1) o9 cn LN gn9 mi9 TN j ra hW940 hO2 0 (by omega)) rfl rfl (Nat.le_of_ble_eq_true rfl) ⟨Nat.le_of_ble_eq_true rfl, Nat.le_of_ble_eq_true rfl⟩ ⟨by show _ ≤ (600104 : Nat); omega, by show _ ≤ (7301314 : Nat); omega⟩ dL_law_493 (fw_ki fun r289 M288 H1 locs1 hp287 hH hz1 => ?_)
        obtain ⟨rfl, hW962, hfr, hz2⟩ := hp287
        have hrk962 := rkT_lt j TN (x := 0) (cn := cn) (by omega)
        have hmb962 := meT_b hj9 (hTk2 _ hrk962).1
        replace hz := hz2.trans hz
        clear hz1 hz2
        have fr290 := hfr
        replace hE := skE.fr hE (fun q h1 h2 => fr290 q (by omega))
        replace hA616 := lgA.fr hA616 (fun q h1 h2 => fr290 q (by omega))
        refine fw_cV (As := [.int (iI (↑(rkT j cn TN 0)))]) (rest := []) E hK hH hl hW962.1.2 fc_X9 fL_X9_merit ql_RL_68 qi_yX9_merit qv_yX9_merit (b_merit l G _ _ (a + 1) o9 cn LN gn9 mi9 TN j ra hW962 hO2 (rkT j cn TN 0) (by omega)) rfl rfl (Nat.le_of_ble_eq_true rfl) ⟨Nat.le_of_ble_eq_true rfl, Nat.le_of_ble_eq_true rfl⟩ ⟨by show _ ≤ (600104 : Nat); omega, by show _ ≤ (7301314 : Nat); omega⟩ dL_law_496 (fw_ki fun r293 M292 H1 locs1 hp291 hH hz1 => ?_)
        obtain ⟨rfl, hW971, hfr, hz2⟩ := hp291
        have hmb971 := meT_b hj9 (hTk2 (rkT j cn TN 0) (by omega)).1
        replace hz := hz2.trans hz
        clear hz1 hz2
        have fr294 := hfr
        replace hE := skE.fr hE (fun q h1 h2 => fr294 q (by omega))
        replace hA616 := lgA.fr hA616 (fun q h1 h2 => fr294 q (by omega))
        refine lv_iload E.1 E.2.1 dL_law_499 (lv_at hl 0 rfl) ?_
        refine fw_icmp_le (tgt := 506) E dL_law_501 (by decide) (by omega) (by omega) (by omega) (by omega) (fun c295 => ?_) (fun c295 => ?_)
        · exact join506 (((((dw + 1) + 1) + 1) + 1) + 1) o9 LN gn9 mi9 TN _ _ _ _ (by omega) hO2 hH (by omega) hA616 hW971 hE (lv_sub hl [10, 11, 12, 13, 14] rfl)
        · exfalso; omega
  · exact absurd c187 (by omega)

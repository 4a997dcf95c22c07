/-- the bench but for its sketch -/
def bnR (G : fw_G) (M : fw_M) (b o cn : Nat) (lk gn mi : Int) (T : Nat → aT) (j : aJ) (ra : aR) : Prop := bnAt G M b ∧ jW G M (b + 9) j ∧ rnW G M (b + 17) ∧ brW G M (b + 21) ra ∧ rnW G M (b + 22) ∧ (∃ rs : Nat → Int, siAt G M (b + 26) (fun _ => 0) rs) ∧ (∃ ip rs : Nat → Int, rkAt G M (b + 30) ip rs) ∧ gcW G M (b + 33) o lk cn gn mi T ∧ gyW G M (b + 33) o 0 T ∧ gvX G M (b + 203) ∧ tany G M (b + 373)
theorem bnR.fr {G : fw_G} {M M1 : fw_M} {b o cn : Nat} {lk gn mi : Int} {T : Nat → aT} {j : aJ} {ra : aR} (h : bnR G M b o cn lk gn mi T j ra) (hf : ∀ q, (q = b ∨ (b + 9 ≤ q ∧ q < b + 378)) → True → M1 q = M q) : bnR G M1 b o cn lk gn mi T j ra := by
  obtain ⟨h0, h1, h2, h3, h4, ⟨rs6, h5⟩, ⟨ip5, rs5, h6⟩, h7, h8, h9, h10⟩ := h
  have ho := h7.o1
  exact ⟨h0.fr (fun q q1 q2 => hf q (by omega) trivial), h1.fr (fun q q1 q2 => hf q (by omega) trivial), h2.fr (fun q q1 q2 => hf q (by omega) trivial), h3.fr (fun q q1 q2 => hf q (by omega) trivial), h4.fr (fun q q1 q2 => hf q (by omega) trivial), ⟨rs6, h5.fr (fun q q1 q2 => hf q (by omega) trivial)⟩, ⟨ip5, rs5, h6.fr (fun q q1 q2 => hf q (by omega) trivial)⟩, h7.fr (fun q q1 q2 => hf q (by omega) trivial), h8.fr (fun q q1 q2 => hf q (by omega) trivial), h9.fr (fun q q1 q2 => hf q (by omega) trivial), h10.fr (fun q q1 q2 => hf q (by omega) trivial)⟩
def bnO (cn : Nat) (lk : Int) (T : Nat → aT) (j : aJ) (ra : aR) : Prop := jOK j ∧ rOK ra ∧ (0 ≤ lk ∧ lk < 10000) ∧ ∀ k, k < cn → aOK (T k)
/-- the sketch holds the first k nodes of a TREE -/
def skT (G : fw_G) (M : fw_M) (a : Nat) (t : aT) (k : Nat) : Prop := ∃ (cs vs ss hs nd lw : Nat → Int) (lv : Int), skAt G M a cs vs ss hs ↑k lv nd lw ↑(pnN t.1 t.2.2.2 k) ↑(k + nsN t.1 t.2.1 t.2.2.2 k) ∧ skS t.1 t.2.1 t.2.2.2 k nd lw ∧ ∀ i, i < k → cs i = t.2.1 i ∧ vs i = t.2.2.1 i
theorem skT.fr {G : fw_G} {M M1 : fw_M} {a : Nat} {t : aT} {k : Nat} (h : skT G M a t k) (hf : ∀ q, a ≤ q → q < a + 8 → M1 q = M q) : skT G M1 a t k := by
  obtain ⟨cs, vs, ss, hs, nd, lw, lv, h1, h2⟩ := h
  exact ⟨cs, vs, ss, hs, nd, lw, lv, h1.fr hf, h2⟩
def skE (G : fw_G) (M : fw_M) (a : Nat) : Prop := ∃ (cs vs ss hs nd lw : Nat → Int) (lv : Int), skAt G M a cs vs ss hs 0 lv nd lw 1 1 ∧ nd 0 = 1 ∧ lw 0 = 1
theorem skE.fr {G : fw_G} {M M1 : fw_M} {a : Nat} (h : skE G M a) (hf : ∀ q, a ≤ q → q < a + 8 → M1 q = M q) : skE G M1 a := by
  obtain ⟨cs, vs, ss, hs, nd, lw, lv, h1, h2⟩ := h
  exact ⟨cs, vs, ss, hs, nd, lw, lv, h1.fr hf, h2⟩
theorem skE.t {G : fw_G} {M : fw_M} {a : Nat} (h : skE G M a) {t : aT} (ht : aOK t) : skT G M a t 0 := by
  obtain ⟨cs, vs, ss, hs, nd, lw, lv, h1, h2, h3⟩ := h
  obtain ⟨g1, g2, g3⟩ := skS_0 ht.1 ht.2 h2 h3
  exact ⟨cs, vs, ss, hs, nd, lw, lv, by rw [g2, g3]; exact h1, g1, fun i hi => absurd hi (Nat.not_lt_zero i)⟩
theorem k_reqTree (l : Launch) (G : fw_G) (M : fw_M) (N : Nat) (b o cn : Nat) (lk gn mi : Int) (T : Nat → aT) (hbn : bnAt G M b) (hG : gcW G M (b + 33) o lk cn gn mi T) (x : Nat) (hx : x < cn) : fMet l yX9_requireTree cX9_requireTree 2 (some (.object "Barnacle$Tree")) 2 70 0 0 G M N [.ref b, .int (iI ↑x)] (fw_pr (fun r M1 n1 => r = b + 33 + 10 + 80 * o + 5 * x ∧ M1 = M ∧ n1 = N)) := by
  refine fw_met RX9 rfl (by decide +kernel) (Nat.le_of_ble_eq_true rfl) ?_
  intro pG e s m args below meth cG ls E hr hlk hnm hK hH hz hl
  obtain ⟨hgb, ho1, hcn⟩ := hG.o1
  refine lv_iload_n E.1 E.2.1 dX9_requireTree_0 rfl (lv_at hl 1 rfl) ?_
  refine fw_if_lt (tgt := 15) E dX9_requireTree_1 (by decide) (by omega) (by omega) (fun c1 => ?_) (fun c1 => ?_)
  · exfalso; omega
  · refine lv_iload_n E.1 E.2.1 dX9_requireTree_4 rfl (lv_at hl 1 rfl) ?_
    refine lv_aload_n E.1 E.2.1 dX9_requireTree_5 rfl (lv_at hl 0 rfl) ?_
    refine fw_get E hK hH hbn.2 fc_X9 6 (by decide) ql_RX9_54 rfl rfl dX9_requireTree_6 ?_
    refine fw_getN E hK hH hG.2.1 fc_X2 4 (by decide) ql_RX9_99 rfl rfl dX9_requireTree_9 ?_
    refine fw_icmp_lt (tgt := 26) E dX9_requireTree_12 (by decide) (by omega) (by omega) (by omega) (by omega) (fun c2 => ?_) (fun c2 => ?_)
    · refine lv_aload_n E.1 E.2.1 dX9_requireTree_26 rfl (lv_at hl 0 rfl) ?_
      refine fw_get E hK hH hbn.2 fc_X9 6 (by decide) ql_RX9_54 rfl rfl dX9_requireTree_27 ?_
      refine lv_iload_n E.1 E.2.1 dX9_requireTree_30 rfl (lv_at hl 1 rfl) ?_
      refine fw_cV (As := [.int (iI ↑x)]) (rest := []) E hK hH hl hG.2.1 fc_X2 fL_X2_tree ql_RX9_277 qi_yX2_tree qv_yX2_tree (k_treeG l G _ _ (b + 33) o cn lk gn mi T hG x (by omega)) rfl rfl (Nat.le_of_ble_eq_true rfl) ⟨Nat.le_of_ble_eq_true rfl, Nat.le_of_ble_eq_true rfl⟩ ⟨Nat.le_of_ble_eq_true rfl, Nat.le_of_ble_eq_true rfl⟩ dX9_requireTree_31 (fw_kr fun r5 M4 H1 locs1 hp3 hH hz1 => ?_)
      obtain ⟨rfl, hM9, hz2⟩ := hp3
      have hT15 := hG.tr (j := x) (by omega)
      replace hz := hz2.trans hz
      clear hz1 hz2
      rw [hM9] at hH
      refine fw_aret E hr (Or.inl ⟨_, rfl⟩) hlk hH ?_ dX9_requireTree_34
      exact ⟨rfl, rfl, hz⟩
    · exfalso; omega
theorem k_reqPlace (l : Launch) (G : fw_G) (M : fw_M) (N : Nat) (b o cn : Nat) (lk gn mi : Int) (T : Nat → aT) (hbn : bnAt G M b) (hG : gcW G M (b + 33) o lk cn gn mi T) (x p : Nat) (hx : x < cn) (hp : p < (T x).1) (hv9 : (T x).1 ≤ 40) : fMet l yX9_requirePlace cX9_requirePlace 4 (some (.object "Barnacle$Tree")) 3 110 0 0 G M N [.ref b, .int (iI ↑x), .int (iI ↑p)] (fw_pr (fun r M1 n1 => r = b + 33 + 10 + 80 * o + 5 * x ∧ M1 = M ∧ n1 = N)) := by
  refine fw_met RX9 rfl (by decide +kernel) (Nat.le_of_ble_eq_true rfl) ?_
  intro pG e s m args below meth cG ls E hr hlk hnm hK hH hz hl
  obtain ⟨hgb, ho1, hcn⟩ := hG.o1
  refine lv_aload_n E.1 E.2.1 dX9_requirePlace_0 rfl (lv_at hl 0 rfl) ?_
  refine lv_iload_n E.1 E.2.1 dX9_requirePlace_1 rfl (lv_at hl 1 rfl) ?_
  refine fw_cV (As := [.int (iI ↑x)]) (rest := []) E hK hH hl hbn.2 fc_X9 fL_X9_requireTree ql_RX9_108 qi_yX9_requireTree qv_yX9_requireTree (k_reqTree l G _ _ b o cn lk gn mi T hbn hG x (by omega)) rfl rfl (Nat.le_of_ble_eq_true rfl) ⟨Nat.le_of_ble_eq_true rfl, Nat.le_of_ble_eq_true rfl⟩ ⟨Nat.le_of_ble_eq_true rfl, Nat.le_of_ble_eq_true rfl⟩ dX9_requirePlace_2 (fw_kr fun r3 M2 H1 locs1 hp1 hH hz1 => ?_)
  obtain ⟨rfl, hM9, hz2⟩ := hp1
  have hT6 := hG.tr (j := x) (by omega)
  replace hz := hz2.trans hz
  clear hz1 hz2
  rw [hM9] at hH
  refine lv_astore_n (lv' := [(3, .ref (b + 33 + 10 + 80 * o + 5 * x)), (0, .ref b), (1, .int (iI ↑x)), (2, .int (iI ↑p))]) E.1 E.2.1 dX9_requirePlace_5 rfl hl (by decide) rfl (fun ls hl => ?_)
  refine lv_iload_n E.1 E.2.1 dX9_requirePlace_6 rfl (lv_at hl 3 rfl) ?_
  refine fw_if_lt (tgt := 18) E dX9_requirePlace_7 (by decide) (by omega) (by omega) (fun c4 => ?_) (fun c4 => ?_)
  · exfalso; omega
  · refine lv_iload_n E.1 E.2.1 dX9_requirePlace_10 rfl (lv_at hl 3 rfl) ?_
    refine lv_aload_n E.1 E.2.1 dX9_requirePlace_11 rfl (lv_at hl 0 rfl) ?_
    refine fw_getN E hK hH hT6.c fc_X8 4 (by decide) ql_RX9_93 rfl rfl dX9_requirePlace_12 ?_
    refine fw_icmp_lt (tgt := 29) E dX9_requirePlace_15 (by decide) (by omega) (by omega) (by omega) (by omega) (fun c5 => ?_) (fun c5 => ?_)
    · refine lv_aload_n E.1 E.2.1 dX9_requirePlace_29 rfl (lv_at hl 0 rfl) ?_
      refine fw_aret E hr (Or.inl ⟨_, rfl⟩) hlk hH ?_ dX9_requirePlace_30
      exact ⟨rfl, rfl, hz⟩
    · exfalso; omega
theorem k_reqNode (l : Launch) (G : fw_G) (M : fw_M) (N : Nat) (x v : Int) (hn : ndOK x v) : fMet l yX9_requireNode cX9_requireNode 2 none 0 0 0 0 G M N [.int (iI x), .int (iI v)] (fw_pv (fun M1 n1 => M1 = M ∧ n1 = N)) := by
  refine fw_met RX9 rfl (by decide +kernel) (Nat.le_of_ble_eq_true rfl) ?_
  intro pG e s m args below meth cG ls E hr hlk hnm hK hH hz hl
  have hnb := nd_b hn
  obtain ⟨hn1, hn2, hn3, hn4⟩ := hn
  refine lv_iload_n E.1 E.2.1 dX9_requireNode_0 rfl (lv_at hl 0 rfl) ?_
  refine fw_if_lt (tgt := 10) E dX9_requireNode_1 (by decide) (by omega) (by omega) (fun c1 => ?_) (fun c1 => ?_)
  · exfalso; omega
  · refine lv_iload_n E.1 E.2.1 dX9_requireNode_4 rfl (lv_at hl 0 rfl) ?_
    refine lv_bipush (v := iI 13) E.1 E.2.1 dX9_requireNode_5 (by decide) ?_
    refine fw_icmp_le (tgt := 21) E dX9_requireNode_7 (by decide) (by omega) (by omega) (by omega) (by omega) (fun c2 => ?_) (fun c2 => ?_)
    · refine lv_iload_n E.1 E.2.1 dX9_requireNode_21 rfl (lv_at hl 0 rfl) ?_
      refine fw_if_ne (tgt := 48) E dX9_requireNode_22 (by decide) (by omega) (by omega) (fun c3 => ?_) (fun c3 => ?_)
      · refine lv_iload_n E.1 E.2.1 dX9_requireNode_48 rfl (lv_at hl 0 rfl) ?_
        refine lv_iconst (v := iI 1) E.1 E.2.1 dX9_requireNode_49 (by decide) ?_
        refine fw_icmp_ne (tgt := 73) E dX9_requireNode_50 (by decide) (by omega) (by omega) (by omega) (by omega) (fun c4 => ?_) (fun c4 => ?_)
        · refine fw_vret E hr hlk hH ?_ dX9_requireNode_73
          exact ⟨rfl, hz⟩
        · have hn6 := hn3 (by omega)
          refine lv_iload_n E.1 E.2.1 dX9_requireNode_53 rfl (lv_at hl 1 rfl) ?_
          refine fw_if_lt (tgt := 62) E dX9_requireNode_54 (by decide) (by omega) (by omega) (fun c5 => ?_) (fun c5 => ?_)
          · exfalso; omega
          · refine lv_iload_n E.1 E.2.1 dX9_requireNode_57 rfl (lv_at hl 1 rfl) ?_
            refine lv_iconst (v := iI 3) E.1 E.2.1 dX9_requireNode_58 (by decide) ?_
            refine fw_icmp_lt (tgt := 73) E dX9_requireNode_59 (by decide) (by omega) (by omega) (by omega) (by omega) (fun c6 => ?_) (fun c6 => ?_)
            · refine fw_vret E hr hlk hH ?_ dX9_requireNode_73
              exact ⟨rfl, hz⟩
            · exfalso; omega
      · have hn5 := hn2 (by omega)
        refine lv_iload_n E.1 E.2.1 dX9_requireNode_25 rfl (lv_at hl 1 rfl) ?_
        refine lv_bipush (v := iI (-99)) E.1 E.2.1 dX9_requireNode_26 (by decide) ?_
        refine fw_icmp_lt (tgt := 37) E dX9_requireNode_28 (by decide) (by omega) (by omega) (by omega) (by omega) (fun c7 => ?_) (fun c7 => ?_)
        · exfalso; omega
        · refine lv_iload_n E.1 E.2.1 dX9_requireNode_31 rfl (lv_at hl 1 rfl) ?_
          refine lv_bipush (v := iI 99) E.1 E.2.1 dX9_requireNode_32 (by decide) ?_
          refine fw_icmp_le (tgt := 48) E dX9_requireNode_34 (by decide) (by omega) (by omega) (by omega) (by omega) (fun c8 => ?_) (fun c8 => ?_)
          · refine lv_iload_n E.1 E.2.1 dX9_requireNode_48 rfl (lv_at hl 0 rfl) ?_
            refine lv_iconst (v := iI 1) E.1 E.2.1 dX9_requireNode_49 (by decide) ?_
            refine fw_icmp_ne (tgt := 73) E dX9_requireNode_50 (by decide) (by omega) (by omega) (by omega) (by omega) (fun c9 => ?_) (fun c9 => ?_)
            · refine fw_vret E hr hlk hH ?_ dX9_requireNode_73
              exact ⟨rfl, hz⟩
            · have hn6 := hn3 (by omega)
              refine lv_iload_n E.1 E.2.1 dX9_requireNode_53 rfl (lv_at hl 1 rfl) ?_
              refine fw_if_lt (tgt := 62) E dX9_requireNode_54 (by decide) (by omega) (by omega) (fun c10 => ?_) (fun c10 => ?_)
              · exfalso; omega
              · refine lv_iload_n E.1 E.2.1 dX9_requireNode_57 rfl (lv_at hl 1 rfl) ?_
                refine lv_iconst (v := iI 3) E.1 E.2.1 dX9_requireNode_58 (by decide) ?_
                refine fw_icmp_lt (tgt := 73) E dX9_requireNode_59 (by decide) (by omega) (by omega) (by omega) (by omega) (fun c11 => ?_) (fun c11 => ?_)
                · refine fw_vret E hr hlk hH ?_ dX9_requireNode_73
                  exact ⟨rfl, hz⟩
                · exfalso; omega
          · exfalso; omega
    · exfalso; omega
theorem k_isInput (l : Launch) (G : fw_G) (M : fw_M) (N : Nat) (x : Int) (hx : -99 ≤ x ∧ x ≤ 99) : fMet l yX9_isInput cX9_isInput 1 (some .boolean) 0 0 0 0 G M N [.int (iI x)] (fw_pi (fun r M1 n1 => r = iI 1 ∧ M1 = M ∧ n1 = N)) := by
  refine fw_met RX9 rfl (by decide +kernel) (Nat.le_of_ble_eq_true rfl) ?_
  intro pG e s m args below meth cG ls E hr hlk hnm hK hH hz hl
  refine lv_iload_n E.1 E.2.1 dX9_isInput_0 rfl (lv_at hl 0 rfl) ?_
  refine lv_bipush (v := iI (-99)) E.1 E.2.1 dX9_isInput_1 (by decide) ?_
  refine fw_icmp_lt (tgt := 16) E dX9_isInput_3 (by decide) (by omega) (by omega) (by omega) (by omega) (fun c1 => ?_) (fun c1 => ?_)
  · exact absurd c1 (by omega)
  · refine lv_iload_n E.1 E.2.1 dX9_isInput_6 rfl (lv_at hl 0 rfl) ?_
    refine lv_bipush (v := iI 99) E.1 E.2.1 dX9_isInput_7 (by decide) ?_
    refine fw_icmp_gt (tgt := 16) E dX9_isInput_9 (by decide) (by omega) (by omega) (by omega) (by omega) (fun c2 => ?_) (fun c2 => ?_)
    · exact absurd c2 (by omega)
    · refine lv_iconst (v := iI 1) E.1 E.2.1 dX9_isInput_12 (by decide) ?_
      refine lv_goto (tgt := 17) E.1 E.2.1 dX9_isInput_13 (by decide) ?_
      refine fw_zret (r := (iI 1)) E hr hlk hH (by rfl) ?_ dX9_isInput_17
      exact ⟨rfl, rfl, hz⟩
theorem k_reqInputs (l : Launch) (G : fw_G) (M : fw_M) (N : Nat) (x y z : Int) (hx : -99 ≤ x ∧ x ≤ 99) (hy : -99 ≤ y ∧ y ≤ 99) (hz9 : -99 ≤ z ∧ z ≤ 99) : fMet l yX9_requireInputs cX9_requireInputs 3 none 1 30 0 0 G M N [.int (iI x), .int (iI y), .int (iI z)] (fw_pv (fun M1 n1 => M1 = M ∧ n1 = N)) := by
  refine fw_met RX9 rfl (by decide +kernel) (Nat.le_of_ble_eq_true rfl) ?_
  intro pG e s m args below meth cG ls E hr hlk hnm hK hH hz hl
  refine lv_iload_n E.1 E.2.1 dX9_requireInputs_0 rfl (lv_at hl 0 rfl) ?_
  refine fw_cS (As := [.int (iI x)]) (rest := []) E hK hH hl fL_X9_isInput ql_RX9_315 qs_yX9_isInput (k_isInput l G _ _ x (by omega)) rfl rfl (Nat.le_of_ble_eq_true rfl) ⟨Nat.le_of_ble_eq_true rfl, Nat.le_of_ble_eq_true rfl⟩ ⟨Nat.le_of_ble_eq_true rfl, Nat.le_of_ble_eq_true rfl⟩ dX9_requireInputs_1 (fw_ki fun r3 M2 H1 locs1 hp1 hH hz1 => ?_)
  obtain ⟨rfl, hM9, hz2⟩ := hp1
  replace hz := hz2.trans hz
  clear hz1 hz2
  rw [hM9] at hH
  refine fw_if_eq (tgt := 21) E dX9_requireInputs_4 (by decide) (by omega) (by omega) (fun c4 => ?_) (fun c4 => ?_)
  · exact absurd c4 (by omega)
  · refine lv_iload_n E.1 E.2.1 dX9_requireInputs_7 rfl (lv_at hl 1 rfl) ?_
    refine fw_cS (As := [.int (iI y)]) (rest := []) E hK hH hl fL_X9_isInput ql_RX9_315 qs_yX9_isInput (k_isInput l G _ _ y (by omega)) rfl rfl (Nat.le_of_ble_eq_true rfl) ⟨Nat.le_of_ble_eq_true rfl, Nat.le_of_ble_eq_true rfl⟩ ⟨Nat.le_of_ble_eq_true rfl, Nat.le_of_ble_eq_true rfl⟩ dX9_requireInputs_8 (fw_ki fun r7 M6 H1 locs1 hp5 hH hz1 => ?_)
    obtain ⟨rfl, hM9, hz2⟩ := hp5
    replace hz := hz2.trans hz
    clear hz1 hz2
    rw [hM9] at hH
    refine fw_if_eq (tgt := 21) E dX9_requireInputs_11 (by decide) (by omega) (by omega) (fun c8 => ?_) (fun c8 => ?_)
    · exact absurd c8 (by omega)
    · refine lv_iload_n E.1 E.2.1 dX9_requireInputs_14 rfl (lv_at hl 2 rfl) ?_
      refine fw_cS (As := [.int (iI z)]) (rest := []) E hK hH hl fL_X9_isInput ql_RX9_315 qs_yX9_isInput (k_isInput l G _ _ z (by omega)) rfl rfl (Nat.le_of_ble_eq_true rfl) ⟨Nat.le_of_ble_eq_true rfl, Nat.le_of_ble_eq_true rfl⟩ ⟨Nat.le_of_ble_eq_true rfl, Nat.le_of_ble_eq_true rfl⟩ dX9_requireInputs_15 (fw_ki fun r11 M10 H1 locs1 hp9 hH hz1 => ?_)
      obtain ⟨rfl, hM9, hz2⟩ := hp9
      replace hz := hz2.trans hz
      clear hz1 hz2
      rw [hM9] at hH
      refine fw_if_ne (tgt := 32) E dX9_requireInputs_18 (by decide) (by omega) (by omega) (fun c12 => ?_) (fun c12 => ?_)
      · refine fw_vret E hr hlk hH ?_ dX9_requireInputs_32
        exact ⟨rfl, hz⟩
      · exact absurd c12 (by omega)
theorem k_reqBreeding (l : Launch) (G : fw_G) (M : fw_M) (N : Nat) (b o cn : Nat) (lk gn mi : Int) (T : Nat → aT) (hbn : bnAt G M b) (hG : gcW G M (b + 33) o lk cn gn mi T) (dg : Nat) (hd : 1 ≤ dg ∧ dg ≤ 10) (hc0 : 0 < cn) : fMet l yX9_requireBreeding cX9_requireBreeding 2 none 0 0 0 0 G M N [.ref b, .int (iI ↑dg)] (fw_pv (fun M1 n1 => M1 = M ∧ n1 = N)) := by
  refine fw_met RX9 rfl (by decide +kernel) (Nat.le_of_ble_eq_true rfl) ?_
  intro pG e s m args below meth cG ls E hr hlk hnm hK hH hz hl
  obtain ⟨hgb, ho1, hcn⟩ := hG.o1
  refine lv_iload_n E.1 E.2.1 dX9_requireBreeding_0 rfl (lv_at hl 1 rfl) ?_
  refine lv_iconst (v := iI 1) E.1 E.2.1 dX9_requireBreeding_1 (by decide) ?_
  refine fw_icmp_lt (tgt := 11) E dX9_requireBreeding_2 (by decide) (by omega) (by omega) (by omega) (by omega) (fun c1 => ?_) (fun c1 => ?_)
  · exfalso; omega
  · refine lv_iload_n E.1 E.2.1 dX9_requireBreeding_5 rfl (lv_at hl 1 rfl) ?_
    refine lv_bipush (v := iI 10) E.1 E.2.1 dX9_requireBreeding_6 (by decide) ?_
    refine fw_icmp_le (tgt := 22) E dX9_requireBreeding_8 (by decide) (by omega) (by omega) (by omega) (by omega) (fun c2 => ?_) (fun c2 => ?_)
    · refine lv_aload_n E.1 E.2.1 dX9_requireBreeding_22 rfl (lv_at hl 0 rfl) ?_
      refine fw_get E hK hH hbn.2 fc_X9 6 (by decide) ql_RX9_54 rfl rfl dX9_requireBreeding_23 ?_
      refine fw_getN E hK hH hG.2.1 fc_X2 4 (by decide) ql_RX9_99 rfl rfl dX9_requireBreeding_26 ?_
      refine fw_if_ne (tgt := 43) E dX9_requireBreeding_29 (by decide) (by omega) (by omega) (fun c3 => ?_) (fun c3 => ?_)
      · refine fw_vret E hr hlk hH ?_ dX9_requireBreeding_43
        exact ⟨rfl, hz⟩
      · exfalso; omega
    · exfalso; omega

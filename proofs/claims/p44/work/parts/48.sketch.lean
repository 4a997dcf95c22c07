theorem k_isNumberPart (l : Launch) (G : fw_G) (M : fw_M) (N : Nat) (c z : Int) (i : Nat) (hc : 0 ≤ c ∧ c ≤ 13) (hzi : z = ↑i) (hi : i ≤ 3) : fMet l yX9_isNumberPart cX9_isNumberPart 2 (some .boolean) 0 0 0 0 G M N [.int (iI c), .int (iI z)] (fw_pi (fun r M1 n1 => r = iI (nmP c i) ∧ M1 = M ∧ n1 = N)) := by
  refine fw_met RX9 rfl (by decide +kernel) (Nat.le_of_ble_eq_true rfl) ?_
  intro pG e s m args below meth cG ls E hr hlk hnm hK hH hz hl
  refine lv_iload_n E.1 E.2.1 dX9_isNumberPart_0 rfl (lv_at hl 0 rfl) ?_
  refine lv_bipush (v := iI 11) E.1 E.2.1 dX9_isNumberPart_1 (by decide) ?_
  refine fw_icmp_ge (tgt := 20) E dX9_isNumberPart_3 (by decide) (by omega) (by omega) (by omega) (by omega) (fun c1 => ?_) (fun c1 => ?_)
  · refine lv_iconst (v := iI 0) E.1 E.2.1 dX9_isNumberPart_20 (by decide) ?_
    refine fw_zret (r := (iI 0)) E hr hlk hH (by rfl) ?_ dX9_isNumberPart_21
    exact ⟨congrArg iI (by unfold nmP; split <;> omega), rfl, hz⟩
  · refine lv_iload_n E.1 E.2.1 dX9_isNumberPart_6 rfl (lv_at hl 0 rfl) ?_
    refine lv_bipush (v := iI 8) E.1 E.2.1 dX9_isNumberPart_7 (by decide) ?_
    refine fw_icmp_ne (tgt := 16) E dX9_isNumberPart_9 (by decide) (by omega) (by omega) (by omega) (by omega) (fun c2 => ?_) (fun c2 => ?_)
    · refine lv_iconst (v := iI 1) E.1 E.2.1 dX9_isNumberPart_16 (by decide) ?_
      refine lv_goto (tgt := 21) E.1 E.2.1 dX9_isNumberPart_17 (by decide) ?_
      refine fw_zret (r := (iI 1)) E hr hlk hH (by rfl) ?_ dX9_isNumberPart_21
      exact ⟨congrArg iI (by unfold nmP; split <;> omega), rfl, hz⟩
    · refine lv_iload_n E.1 E.2.1 dX9_isNumberPart_12 rfl (lv_at hl 1 rfl) ?_
      refine fw_if_eq (tgt := 20) E dX9_isNumberPart_13 (by decide) (by omega) (by omega) (fun c3 => ?_) (fun c3 => ?_)
      · refine lv_iconst (v := iI 0) E.1 E.2.1 dX9_isNumberPart_20 (by decide) ?_
        refine fw_zret (r := (iI 0)) E hr hlk hH (by rfl) ?_ dX9_isNumberPart_21
        exact ⟨congrArg iI (by unfold nmP; split <;> omega), rfl, hz⟩
      · refine lv_iconst (v := iI 1) E.1 E.2.1 dX9_isNumberPart_16 (by decide) ?_
        refine lv_goto (tgt := 21) E.1 E.2.1 dX9_isNumberPart_17 (by decide) ?_
        refine fw_zret (r := (iI 1)) E hr hlk hH (by rfl) ?_ dX9_isNumberPart_21
        exact ⟨congrArg iI (by unfold nmP; split <;> omega), rfl, hz⟩
theorem k_append (l : Launch) (G : fw_G) (M : fw_M) (N : Nat) (a : Nat) (cs vs ss hs : Nat → Int) (lv : Int) (k : Nat) (x v : Int) (hT : trAt G M a cs vs ss hs ↑k lv) (hk : k < 40) (hx : -2147483648 ≤ x ∧ x < 2147483648) (hv : -2147483648 ≤ v ∧ v < 2147483648) : fMet l yX8_append cX8_append 3 none 2 60 0 0 G M N [.ref a, .int (iI x), .int (iI v)] (fw_pv (fun M1 n1 => trAt G M1 a (zup cs k x) (zup vs k (if x ≤ 1 then v else 0)) ss hs ↑(k + 1) lv ∧ (∀ q, q < a ∨ a + 5 ≤ q → M1 q = M q) ∧ n1 = N)) := by
  refine fw_met RX8 rfl (by decide +kernel) (Nat.le_of_ble_eq_true rfl) ?_
  intro pG e s m args below meth cG ls E hr hlk hnm hK hH hz hl
  refine lv_aload_n E.1 E.2.1 dX8_append_0 rfl (lv_at hl 0 rfl) ?_
  refine fw_get E hK hH hT.2.1 fc_X8 4 (by decide) ql_RX8_41 rfl rfl dX8_append_1 ?_
  refine lv_bipush (v := iI 40) E.1 E.2.1 dX8_append_4 (by decide) ?_
  refine fw_icmp_ge (tgt := 29) E dX8_append_6 (by decide) (by omega) (by omega) (by omega) (by omega) (fun c1 => ?_) (fun c1 => ?_)
  · exact absurd c1 (by omega)
  · refine lv_aload_n E.1 E.2.1 dX8_append_9 rfl (lv_at hl 0 rfl) ?_
    refine lv_aload_n E.1 E.2.1 dX8_append_10 rfl (lv_at hl 0 rfl) ?_
    refine fw_get E hK hH hT.2.1 fc_X8 4 (by decide) ql_RX8_41 rfl rfl dX8_append_11 ?_
    refine lv_iload_n E.1 E.2.1 dX8_append_14 rfl (lv_at hl 1 rfl) ?_
    refine lv_iload_n E.1 E.2.1 dX8_append_15 rfl (lv_at hl 2 rfl) ?_
    refine fw_cV (As := [.int (iI ((↑k : Int))), .int (iI x), .int (iI v)]) (rest := []) E hK hH hl hT.2.1 fc_X8 fL_X8_write ql_RX8_59 qi_yX8_write qv_yX8_write (k_write l G _ _ a cs vs ss hs (↑k : Int) lv (↑k : Int) k x v hT (by omega) (by omega) (by omega) (by omega)) rfl rfl (Nat.le_of_ble_eq_true rfl) ⟨Nat.le_of_ble_eq_true rfl, Nat.le_of_ble_eq_true rfl⟩ ⟨Nat.le_of_ble_eq_true rfl, Nat.le_of_ble_eq_true rfl⟩ dX8_append_16 (fw_kv fun M3 H1 locs1 hp2 hH hz1 => ?_)
    obtain ⟨hT13, hfr, hz2⟩ := hp2
    replace hz := hz2.trans hz
    clear hz1 hz2
    have fr4 := hfr
    obtain ⟨hb9, t0, t1, t2, t3, t4⟩ := hT13
    refine lv_aload_n E.1 E.2.1 dX8_append_19 rfl (lv_at hl 0 rfl) ?_
    refine lv_dup E.1 E.2.1 dX8_append_20 rfl ?_
    refine fw_get E hK hH t0 fc_X8 4 (by decide) ql_RX8_41 rfl rfl dX8_append_21 ?_
    refine lv_iconst (v := iI 1) E.1 E.2.1 dX8_append_24 (by decide) ?_
    refine fw_iadd E dX8_append_25 ?_
    refine fw_put E hK hH (by omega) t0 fc_X8 4 (by decide) ql_RX8_41 rfl rfl rfl rfl (Nat.le_of_ble_eq_true rfl) dX8_append_26 (fun H1 locs1 hH hz1 => ?_)
    replace hz := hz1.trans hz; clear hz1
    obtain ⟨M5, hM6⟩ : ∃ MX, MX = fw_up M3 a (.inr (8, [.ref (a + 1), .ref (a + 2), .ref (a + 3), .ref (a + 4), .int (iI ((↑k : Int) + 1)), .int (iI lv)])) := ⟨_, rfl⟩
    replace hH := fw_H.nm hM6 hH
    have fr7 : ∀ q, q ≠ a → M5 q = M3 q := fun q h => by rw [hM6]; exact fw_up_ne h
    replace t1 : M5 (a + 1) = some (fI G 40 (fun j0 => iI ((zup cs k x) j0))) := (fr7 _ (by omega)).trans t1
    replace t2 : M5 (a + 2) = some (fI G 40 (fun j0 => iI ((zup vs k (if x ≤ 1 then v else 0)) j0))) := (fr7 _ (by omega)).trans t2
    replace t3 : M5 (a + 3) = some (fI G 40 (fun j0 => iI (ss j0))) := (fr7 _ (by omega)).trans t3
    replace t4 : M5 (a + 4) = some (fI G 40 (fun j0 => iI (hs j0))) := (fr7 _ (by omega)).trans t4
    have t0 : M5 a = some (.inr (8, [.ref (a + 1), .ref (a + 2), .ref (a + 3), .ref (a + 4), .int (iI ((↑k : Int) + 1)), .int (iI lv)])) := by rw [hM6]; exact fw_up_eq
    refine fw_vret E hr hlk hH ?_ dX8_append_29
    exact ⟨⟨hb9, by rw [show ((↑(k + 1) : Int)) = ↑k + 1 by omega]; exact t0, t1, t2, t3, t4⟩, (fun q hq => by rw [fr7 q (by omega), fr4 q (by omega)]), hz⟩
theorem k_accepts (l : Launch) (G : fw_G) (M : fw_M) (N : Nat) (a n k : Nat) (C V : Nat → Int) (sp : Nat → Nat) (cs vs ss hs nd lw : Nat → Int) (lv : Int) (hv : vtOK n C V sp) (hk : k < n) (hS : skAt G M a cs vs ss hs ↑k lv nd lw ↑(pnN n sp k) ↑(k + (nsN n C sp k))) (hs9 : skS n C sp k nd lw) : fMet l yX7_accepts cX7_accepts 7 (some .boolean) 1 40 0 0 G M N [.ref a, .int (iI (C k))] (fw_pi (fun r M1 n1 => r = iI 1 ∧ M1 = M ∧ n1 = N)) := by
  refine fw_met RX7 rfl (by decide +kernel) (Nat.le_of_ble_eq_true rfl) ?_
  intro pG e s m args below meth cG ls E hr hlk hnm hK hH hz hl
  obtain ⟨⟨hn0, hn1⟩, hs0, hc0, hsp, hty, hnd⟩ := id hv
  have hk1 := sp_pos hsp hk
  have hke := sp_le hsp hk
  have hpk := pn_eq hsp hn1 hk
  have hpl := pn_le hsp hn1 (n - k) k (Nat.le_refl _)
  have hnk := ns_eq hsp hn1 hk
  have hndk := hnd k hk
  have hck := hndk.1
  have har := arN_le (C k)
  have he := (hsp k hk).2
  obtain ⟨hnd1, L, hL, hL1, hL2⟩ := hs9 k hk ⟨Nat.le_refl _, fun j h1 h2 => absurd h1 (by omega)⟩
  refine lv_aload_n E.1 E.2.1 dX7_accepts_0 rfl (lv_at hl 0 rfl) ?_
  refine fw_get E hK hH hS.2.1 fc_X7 3 (by decide) ql_RX7_32 rfl rfl dX7_accepts_1 ?_
  refine lv_iconst (v := iI 1) E.1 E.2.1 dX7_accepts_4 (by decide) ?_
  refine fw_isub E dX7_accepts_5 ?_
  refine fw_cv (y := iI (↑(pnN n sp (k + sp k)))) (congrArg iI (by omega)) ?_
  refine lv_istore_n (lv' := [(2, .int (iI (↑(pnN n sp (k + sp k))))), (0, .ref a), (1, .int (iI (C k)))]) E.1 E.2.1 dX7_accepts_6 rfl hl (by decide) rfl (fun ls hl => ?_)
  refine lv_iload_n E.1 E.2.1 dX7_accepts_7 rfl (lv_at hl 0 rfl) ?_
  refine fw_if_lt (tgt := 36) E dX7_accepts_8 (by decide) (by omega) (by omega) (fun c1 => ?_) (fun c1 => ?_)
  · exact absurd c1 (by omega)
  · refine lv_aload_n E.1 E.2.1 dX7_accepts_11 rfl (lv_at hl 1 rfl) ?_
    refine fw_get E hK hH hS.2.1 fc_X7 1 (by decide) ql_RX7_18 rfl rfl dX7_accepts_12 ?_
    refine lv_iload_n E.1 E.2.1 dX7_accepts_15 rfl (lv_at hl 0 rfl) ?_
    refine fw_cSN (As := [.ref (a + 6), .int (iI (↑(pnN n sp (k + sp k))))]) (rest := []) E hK hH hl fL_X9_at ql_RX7_42 qs_yX9_at (k_at l G _ _ (a + 6) 40 nd (↑(pnN n sp (k + sp k))) (pnN n sp (k + sp k)) hS.2.2.2.1 (by omega) (by omega) (by omega)) rfl rfl (Nat.le_of_ble_eq_true rfl) ⟨Nat.le_of_ble_eq_true rfl, Nat.le_of_ble_eq_true rfl⟩ ⟨Nat.le_of_ble_eq_true rfl, Nat.le_of_ble_eq_true rfl⟩ dX7_accepts_16 (fw_ki fun r4 M3 H1 locs1 hp2 hH hz1 => ?_)
    obtain ⟨rfl, hM9, hz2⟩ := hp2
    refine fw_cv (y := iI (↑(ndN (C k)))) (congrArg iI hnd1) ?_
    replace hz := hz2.trans hz
    clear hz1 hz2
    rw [hM9] at hH
    refine lv_iload_n E.1 E.2.1 dX7_accepts_19 rfl (lv_at hl 2 rfl) ?_
    refine lv_bipush (v := iI 8) E.1 E.2.1 dX7_accepts_20 (by decide) ?_
    refine fw_icmp_gt (tgt := 29) E dX7_accepts_22 (by decide) (by omega) (by omega) (by omega) (by omega) (fun c5 => ?_) (fun c5 => ?_)
    · have hn9 : ndN (C k) = 3 := if_neg (by omega)
      refine lv_iconst (v := iI 0) E.1 E.2.1 dX7_accepts_29 (by decide) ?_
      refine fw_cS (As := [.int (iI 0)]) (rest := [.int (iI (↑(ndN (C k))))]) E hK hH hl fL_X7_needOf ql_RX7_46 qs_yX7_needOf (k_needOf l G _ _ 0 (by omega) (by omega)) rfl rfl (Nat.le_of_ble_eq_true rfl) ⟨Nat.le_of_ble_eq_true rfl, Nat.le_of_ble_eq_true rfl⟩ ⟨Nat.le_of_ble_eq_true rfl, Nat.le_of_ble_eq_true rfl⟩ dX7_accepts_30 (fw_ki fun r8 M7 H1 locs1 hp6 hH hz1 => ?_)
      obtain ⟨rfl, hM9, hz2⟩ := hp6
      replace hz := hz2.trans hz
      clear hz1 hz2
      rw [hM9] at hH
      refine fw_icmp_eq (tgt := 38) E dX7_accepts_33 (by decide) (by omega) (by omega) (by omega) (by omega) (fun c9 => ?_) (fun c9 => ?_)
      · refine lv_aload_n E.1 E.2.1 dX7_accepts_38 rfl (lv_at hl 1 rfl) ?_
        refine fw_get E hK hH hS.2.1 fc_X7 4 (by decide) ql_RX7_35 rfl rfl dX7_accepts_39 ?_
        refine lv_aload_n E.1 E.2.1 dX7_accepts_42 rfl (lv_at hl 1 rfl) ?_
        refine fw_get E hK hH hS.2.1 fc_X7 1 (by decide) ql_RX7_18 rfl rfl dX7_accepts_43 ?_
        refine lv_iload_n E.1 E.2.1 dX7_accepts_46 rfl (lv_at hl 0 rfl) ?_
        refine fw_cSN (As := [.ref (a + 6), .int (iI (↑(pnN n sp (k + sp k))))]) (rest := [.int (iI ↑(k + (nsN n C sp k)))]) E hK hH hl fL_X9_at ql_RX7_42 qs_yX9_at (k_at l G _ _ (a + 6) 40 nd (↑(pnN n sp (k + sp k))) (pnN n sp (k + sp k)) hS.2.2.2.1 (by omega) (by omega) (by omega)) rfl rfl (Nat.le_of_ble_eq_true rfl) ⟨Nat.le_of_ble_eq_true rfl, Nat.le_of_ble_eq_true rfl⟩ ⟨Nat.le_of_ble_eq_true rfl, Nat.le_of_ble_eq_true rfl⟩ dX7_accepts_47 (fw_ki fun r12 M11 H1 locs1 hp10 hH hz1 => ?_)
        obtain ⟨rfl, hM9, hz2⟩ := hp10
        refine fw_cv (y := iI (↑(ndN (C k)))) (congrArg iI hnd1) ?_
        replace hz := hz2.trans hz
        clear hz1 hz2
        rw [hM9] at hH
        refine fw_isub E dX7_accepts_50 ?_
        refine lv_iconst (v := iI 1) E.1 E.2.1 dX7_accepts_51 (by decide) ?_
        refine fw_iadd E dX7_accepts_52 ?_
        refine lv_istore_n (lv' := [(3, .int (iI (((↑(k + (nsN n C sp k))) - (↑(ndN (C k)))) + 1))), (2, .int (iI (↑(pnN n sp (k + sp k))))), (0, .ref a), (1, .int (iI (C k)))]) E.1 E.2.1 dX7_accepts_53 rfl hl (by decide) rfl (fun ls hl => ?_)
        refine fw_getsN E hH hK.me.2.2.1 ql_RX7_50 dX7_accepts_54 ?_
        refine lv_iload_n E.1 E.2.1 dX7_accepts_57 rfl (lv_at hl 3 rfl) ?_
        refine fw_cSN (As := [.ref (G.2.2.2.2 0), .int (iI (C k))]) (rest := []) E hK hH hl fL_X9_at ql_RX7_42 qs_yX9_at (k_at0 l G _ _ (C k) ((C k).toNat) (by omega) (by omega)) rfl rfl (Nat.le_of_ble_eq_true rfl) ⟨Nat.le_of_ble_eq_true rfl, Nat.le_of_ble_eq_true rfl⟩ ⟨Nat.le_of_ble_eq_true rfl, Nat.le_of_ble_eq_true rfl⟩ dX7_accepts_58 (fw_ki fun r15 M14 H1 locs1 hp13 hH hz1 => ?_)
        obtain ⟨rfl, hM9, hz2⟩ := hp13
        refine fw_cv (y := iI (↑(arN (C k)))) (by rw [zPARTS_ar hck]) ?_
        replace hz := hz2.trans hz
        clear hz1 hz2
        rw [hM9] at hH
        refine lv_istore (lv' := [(4, .int (iI (↑(arN (C k))))), (3, .int (iI (((↑(k + (nsN n C sp k))) - (↑(ndN (C k)))) + 1))), (2, .int (iI (↑(pnN n sp (k + sp k))))), (0, .ref a), (1, .int (iI (C k)))]) E.1 E.2.1 dX7_accepts_61 hl (by decide) rfl (fun ls hl => ?_)
        refine lv_iconst (v := iI 0) E.1 E.2.1 dX7_accepts_63 (by decide) ?_
        refine lv_istore (lv' := [(5, .int (iI 0)), (4, .int (iI (↑(arN (C k))))), (3, .int (iI (((↑(k + (nsN n C sp k))) - (↑(ndN (C k)))) + 1))), (2, .int (iI (↑(pnN n sp (k + sp k))))), (0, .ref a), (1, .int (iI (C k)))]) E.1 E.2.1 dX7_accepts_64 hl (by decide) rfl (fun ls hl => ?_)
        have loop66_1 : ∀ (d66 : Nat) (i : Nat) (z : Int) (Mw66 : fw_M) (H : Heap) (locs : List Loc) (ls : Array Slot), arN (C k) - i < d66 → i ≤ arN (C k) → z = ↑(k + 1) + ↑(nsN n C sp (k + 1)) - ↑(nsN n C sp (chP sp k i)) + ↑(nsN n C sp (k + sp k)) → Mw66 = M → fw_H G s Mw66 H locs → H.size = N → skAt G Mw66 a cs vs ss hs ↑k lv nd lw (↑(pnN n sp k)) (↑(k + (nsN n C sp k))) → lv_has ls 7 [(0, .ref a), (1, .int (iI (C k))), (2, .int (iI (↑(pnN n sp (k + sp k))))), (3, .int (iI z)), (4, .int (iI (↑(arN (C k))))), (5, .int (iI ↑i))] → W pG l e ({ frames := 1, cells := 0, slots := 0, locals := 40 } : Room) s m args below meth cG H locs (0) (0) (MQ below (fw_Q G (fw_pi (fun r M1 n1 => r = iI 1 ∧ M1 = M ∧ n1 = N))) args s 0 0 (fun q => G.2.2.1 ≤ q)) (F0 m 66 ls []) := by
          intro d66
          induction d66 with
          | zero => intro i z Mw66 H locs ls hd; exact absurd hd (Nat.not_lt_zero _)
          | succ d66 ih66 =>
            intro i z Mw66 H locs ls hd66 ii hzz hMw hH hz hS hl
            refine lv_iload E.1 E.2.1 dX7_accepts_66 (lv_at hl 5 rfl) ?_
            refine lv_iload E.1 E.2.1 dX7_accepts_68 (lv_at hl 4 rfl) ?_
            refine fw_icmp_ge (tgt := 121) E dX7_accepts_70 (by decide) (by omega) (by omega) (by omega) (by omega) (fun c16 => ?_) (fun c16 => ?_)
            · have e9 : i = arN (C k) := by omega
              rw [e9, ← he] at hzz
              have hnl := ns_le hv (n - (k + 1)) (k + 1) (Nat.le_refl _) (by omega)
              refine lv_iload_n E.1 E.2.1 dX7_accepts_121 rfl (lv_at hl 3 rfl) ?_
              refine lv_bipush (v := iI 40) E.1 E.2.1 dX7_accepts_122 (by decide) ?_
              refine fw_icmp_gt (tgt := 131) E dX7_accepts_124 (by decide) (by omega) (by omega) (by omega) (by omega) (fun c17 => ?_) (fun c17 => ?_)
              · exact absurd c17 (by omega)
              · refine lv_iconst (v := iI 1) E.1 E.2.1 dX7_accepts_127 (by decide) ?_
                refine lv_goto (tgt := 132) E.1 E.2.1 dX7_accepts_128 (by decide) ?_
                refine fw_zret (r := (iI 1)) E hr hlk hH (by rfl) ?_ dX7_accepts_132
                exact ⟨rfl, hMw, hz⟩
            · obtain ⟨hq1, hq2, hq3⟩ := ch_step hsp hk (i := i) (by omega)
              have hqg := chP_gt sp k i
              have hqp := sp_pos hsp hq1
              have hqh := htF_in hsp hn1 (n - k) k (Nat.le_refl _) hk (chP sp k i) (by omega) (by omega)
              have hqd := (nd_le hv (n - (chP sp k i)) (chP sp k i) (Nat.le_refl _) hq1).2
              have hqt := htF_eq hsp hn1 hq1
              have hqn := nm_need hty hk (i := i) (by omega)
              have hqn2 := hqn.2
              have hqs := ns_eq hsp hn1 hq1
              refine lv_iload_n E.1 E.2.1 dX7_accepts_73 rfl (lv_at hl 1 rfl) ?_
              refine lv_iload E.1 E.2.1 dX7_accepts_74 (lv_at hl 5 rfl) ?_
              refine fw_cSN (As := [.int (iI (C k)), .int (iI ↑i)]) (rest := []) E hK hH hl fL_X9_isNumberPart ql_RX7_53 qs_yX9_isNumberPart (k_isNumberPart l G _ _ (C k) ↑i i (by omega) (by omega) (by omega)) rfl rfl (Nat.le_of_ble_eq_true rfl) ⟨Nat.le_of_ble_eq_true rfl, Nat.le_of_ble_eq_true rfl⟩ ⟨Nat.le_of_ble_eq_true rfl, Nat.le_of_ble_eq_true rfl⟩ dX7_accepts_76 (fw_ki fun r20 M19 H1 locs1 hp18 hH hz1 => ?_)
              obtain ⟨rfl, hM9, hz2⟩ := hp18
              have hnm100 := nmP_01 (C k) i
              replace hz := hz2.trans hz
              clear hz1 hz2
              rw [hM9] at hH
              refine lv_istore (lv' := [(6, .int (iI (nmP (C k) i))), (0, .ref a), (1, .int (iI (C k))), (2, .int (iI (↑(pnN n sp (k + sp k))))), (3, .int (iI z)), (4, .int (iI (↑(arN (C k))))), (5, .int (iI ↑i))]) E.1 E.2.1 dX7_accepts_79 hl (by decide) rfl (fun ls hl => ?_)
              refine lv_iload_n E.1 E.2.1 dX7_accepts_81 rfl (lv_at hl 4 rfl) ?_
              refine lv_iload E.1 E.2.1 dX7_accepts_82 (lv_at hl 0 rfl) ?_
              refine fw_cS (As := [.int (iI (nmP (C k) i))]) (rest := [.int (iI z)]) E hK hH hl fL_X7_needOf ql_RX7_46 qs_yX7_needOf (k_needOf l G _ _ (nmP (C k) i) (by omega) (by omega)) rfl rfl (Nat.le_of_ble_eq_true rfl) ⟨Nat.le_of_ble_eq_true rfl, Nat.le_of_ble_eq_true rfl⟩ ⟨Nat.le_of_ble_eq_true rfl, Nat.le_of_ble_eq_true rfl⟩ dX7_accepts_84 (fw_ki fun r23 M22 H1 locs1 hp21 hH hz1 => ?_)
              obtain ⟨rfl, hM9, hz2⟩ := hp21
              replace hz := hz2.trans hz
              clear hz1 hz2
              rw [hM9] at hH
              refine fw_iadd E dX7_accepts_87 ?_
              refine lv_istore_n (lv' := [(3, .int (iI (z + (if nmP (C k) i = 0 then 3 else 1)))), (6, .int (iI (nmP (C k) i))), (0, .ref a), (1, .int (iI (C k))), (2, .int (iI (↑(pnN n sp (k + sp k))))), (4, .int (iI (↑(arN (C k))))), (5, .int (iI ↑i))]) E.1 E.2.1 dX7_accepts_88 rfl hl (by decide) rfl (fun ls hl => ?_)
              refine lv_aload_n E.1 E.2.1 dX7_accepts_89 rfl (lv_at hl 2 rfl) ?_
              refine fw_get E hK hH hS.2.1 fc_X7 2 (by decide) ql_RX7_22 rfl rfl dX7_accepts_90 ?_
              refine lv_iload_n E.1 E.2.1 dX7_accepts_93 rfl (lv_at hl 4 rfl) ?_
              refine fw_cSN (As := [.ref (a + 7), .int (iI (↑(pnN n sp (k + sp k))))]) (rest := []) E hK hH hl fL_X9_at ql_RX7_42 qs_yX9_at (k_at l G _ _ (a + 7) 40 lw (↑(pnN n sp (k + sp k))) (pnN n sp (k + sp k)) hS.2.2.2.2 (by omega) (by omega) (by omega)) rfl rfl (Nat.le_of_ble_eq_true rfl) ⟨Nat.le_of_ble_eq_true rfl, Nat.le_of_ble_eq_true rfl⟩ ⟨Nat.le_of_ble_eq_true rfl, Nat.le_of_ble_eq_true rfl⟩ dX7_accepts_94 (fw_ki fun r26 M25 H1 locs1 hp24 hH hz1 => ?_)
              obtain ⟨rfl, hM9, hz2⟩ := hp24
              refine fw_cv (y := iI ↑L) (congrArg iI hL) ?_
              replace hz := hz2.trans hz
              clear hz1 hz2
              rw [hM9] at hH
              refine lv_iload E.1 E.2.1 dX7_accepts_97 (lv_at hl 1 rfl) ?_
              refine fw_if_eq (tgt := 106) E dX7_accepts_99 (by decide) (by omega) (by omega) (fun c27 => ?_) (fun c27 => ?_)
              · refine lv_iconst (v := iI 2) E.1 E.2.1 dX7_accepts_106 (by decide) ?_
                refine fw_iadd E dX7_accepts_107 ?_
                refine lv_bipush (v := iI 8) E.1 E.2.1 dX7_accepts_108 (by decide) ?_
                refine fw_icmp_le (tgt := 115) E dX7_accepts_110 (by decide) (by omega) (by omega) (by omega) (by omega) (fun c28 => ?_) (fun c28 => ?_)
                · refine lv_iinc (v := iI (↑i + 1)) (lv' := [(5, .int (iI (↑i + 1))), (3, .int (iI (z + (if nmP (C k) i = 0 then 3 else 1)))), (6, .int (iI (nmP (C k) i))), (0, .ref a), (1, .int (iI (C k))), (2, .int (iI (↑(pnN n sp (k + sp k))))), (4, .int (iI (↑(arN (C k)))))]) E.1 E.2.1 dX7_accepts_115 hl (k := 6) rfl (iI_inc rfl) (by decide) rfl (fun ls hl => ?_)
                  refine lv_goto (tgt := 66) E.1 E.2.1 dX7_accepts_118 (by decide) ?_
                  exact ih66 (i + 1) (z + (if nmP (C k) i = 0 then 3 else 1)) _ _ _ _ (by omega) (by omega) (by rw [hq2, hqn.1]; omega) hMw hH (by omega) hS (lv_sub hl [3, 4, 5, 1, 6, 0] rfl)
                · exact absurd c28 (by omega)
              · refine lv_iconst (v := iI 1) E.1 E.2.1 dX7_accepts_102 (by decide) ?_
                refine lv_goto (tgt := 107) E.1 E.2.1 dX7_accepts_103 (by decide) ?_
                refine fw_iadd E dX7_accepts_107 ?_
                refine lv_bipush (v := iI 8) E.1 E.2.1 dX7_accepts_108 (by decide) ?_
                refine fw_icmp_le (tgt := 115) E dX7_accepts_110 (by decide) (by omega) (by omega) (by omega) (by omega) (fun c29 => ?_) (fun c29 => ?_)
                · refine lv_iinc (v := iI (↑i + 1)) (lv' := [(5, .int (iI (↑i + 1))), (3, .int (iI (z + (if nmP (C k) i = 0 then 3 else 1)))), (6, .int (iI (nmP (C k) i))), (0, .ref a), (1, .int (iI (C k))), (2, .int (iI (↑(pnN n sp (k + sp k))))), (4, .int (iI (↑(arN (C k)))))]) E.1 E.2.1 dX7_accepts_115 hl (k := 6) rfl (iI_inc rfl) (by decide) rfl (fun ls hl => ?_)
                  refine lv_goto (tgt := 66) E.1 E.2.1 dX7_accepts_118 (by decide) ?_
                  exact ih66 (i + 1) (z + (if nmP (C k) i = 0 then 3 else 1)) _ _ _ _ (by omega) (by omega) (by rw [hq2, hqn.1]; omega) hMw hH (by omega) hS (lv_sub hl [3, 4, 5, 1, 6, 0] rfl)
                · exact absurd c29 (by omega)
        exact loop66_1 (arN (C k) - 0 + 1) 0 (↑(k + (nsN n C sp k)) - ↑(ndN (C k)) + 1) _ _ _ _ (Nat.lt_succ_self _) (Nat.zero_le _) (by rw [show chP sp k 0 = k + 1 from rfl]; omega) rfl hH (by omega) hS (lv_sub hl [4, 5, 3, 2, 1, 0] rfl)
      · exact absurd (by omega) c9
    · have hn9 : ndN (C k) = 1 := if_pos (by omega)
      refine lv_iconst (v := iI 1) E.1 E.2.1 dX7_accepts_25 (by decide) ?_
      refine lv_goto (tgt := 30) E.1 E.2.1 dX7_accepts_26 (by decide) ?_
      refine fw_cS (As := [.int (iI 1)]) (rest := [.int (iI (↑(ndN (C k))))]) E hK hH hl fL_X7_needOf ql_RX7_46 qs_yX7_needOf (k_needOf l G _ _ 1 (by omega) (by omega)) rfl rfl (Nat.le_of_ble_eq_true rfl) ⟨Nat.le_of_ble_eq_true rfl, Nat.le_of_ble_eq_true rfl⟩ ⟨Nat.le_of_ble_eq_true rfl, Nat.le_of_ble_eq_true rfl⟩ dX7_accepts_30 (fw_ki fun r32 M31 H1 locs1 hp30 hH hz1 => ?_)
      obtain ⟨rfl, hM9, hz2⟩ := hp30
      replace hz := hz2.trans hz
      clear hz1 hz2
      rw [hM9] at hH
      refine fw_icmp_eq (tgt := 38) E dX7_accepts_33 (by decide) (by omega) (by omega) (by omega) (by omega) (fun c33 => ?_) (fun c33 => ?_)
      · refine lv_aload_n E.1 E.2.1 dX7_accepts_38 rfl (lv_at hl 1 rfl) ?_
        refine fw_get E hK hH hS.2.1 fc_X7 4 (by decide) ql_RX7_35 rfl rfl dX7_accepts_39 ?_
        refine lv_aload_n E.1 E.2.1 dX7_accepts_42 rfl (lv_at hl 1 rfl) ?_
        refine fw_get E hK hH hS.2.1 fc_X7 1 (by decide) ql_RX7_18 rfl rfl dX7_accepts_43 ?_
        refine lv_iload_n E.1 E.2.1 dX7_accepts_46 rfl (lv_at hl 0 rfl) ?_
        refine fw_cSN (As := [.ref (a + 6), .int (iI (↑(pnN n sp (k + sp k))))]) (rest := [.int (iI ↑(k + (nsN n C sp k)))]) E hK hH hl fL_X9_at ql_RX7_42 qs_yX9_at (k_at l G _ _ (a + 6) 40 nd (↑(pnN n sp (k + sp k))) (pnN n sp (k + sp k)) hS.2.2.2.1 (by omega) (by omega) (by omega)) rfl rfl (Nat.le_of_ble_eq_true rfl) ⟨Nat.le_of_ble_eq_true rfl, Nat.le_of_ble_eq_true rfl⟩ ⟨Nat.le_of_ble_eq_true rfl, Nat.le_of_ble_eq_true rfl⟩ dX7_accepts_47 (fw_ki fun r36 M35 H1 locs1 hp34 hH hz1 => ?_)
        obtain ⟨rfl, hM9, hz2⟩ := hp34
        refine fw_cv (y := iI (↑(ndN (C k)))) (congrArg iI hnd1) ?_
        replace hz := hz2.trans hz
        clear hz1 hz2
        rw [hM9] at hH
        refine fw_isub E dX7_accepts_50 ?_
        refine lv_iconst (v := iI 1) E.1 E.2.1 dX7_accepts_51 (by decide) ?_
        refine fw_iadd E dX7_accepts_52 ?_
        refine lv_istore_n (lv' := [(3, .int (iI (((↑(k + (nsN n C sp k))) - (↑(ndN (C k)))) + 1))), (2, .int (iI (↑(pnN n sp (k + sp k))))), (0, .ref a), (1, .int (iI (C k)))]) E.1 E.2.1 dX7_accepts_53 rfl hl (by decide) rfl (fun ls hl => ?_)
        refine fw_getsN E hH hK.me.2.2.1 ql_RX7_50 dX7_accepts_54 ?_
        refine lv_iload_n E.1 E.2.1 dX7_accepts_57 rfl (lv_at hl 3 rfl) ?_
        refine fw_cSN (As := [.ref (G.2.2.2.2 0), .int (iI (C k))]) (rest := []) E hK hH hl fL_X9_at ql_RX7_42 qs_yX9_at (k_at0 l G _ _ (C k) ((C k).toNat) (by omega) (by omega)) rfl rfl (Nat.le_of_ble_eq_true rfl) ⟨Nat.le_of_ble_eq_true rfl, Nat.le_of_ble_eq_true rfl⟩ ⟨Nat.le_of_ble_eq_true rfl, Nat.le_of_ble_eq_true rfl⟩ dX7_accepts_58 (fw_ki fun r39 M38 H1 locs1 hp37 hH hz1 => ?_)
        obtain ⟨rfl, hM9, hz2⟩ := hp37
        refine fw_cv (y := iI (↑(arN (C k)))) (by rw [zPARTS_ar hck]) ?_
        replace hz := hz2.trans hz
        clear hz1 hz2
        rw [hM9] at hH
        refine lv_istore (lv' := [(4, .int (iI (↑(arN (C k))))), (3, .int (iI (((↑(k + (nsN n C sp k))) - (↑(ndN (C k)))) + 1))), (2, .int (iI (↑(pnN n sp (k + sp k))))), (0, .ref a), (1, .int (iI (C k)))]) E.1 E.2.1 dX7_accepts_61 hl (by decide) rfl (fun ls hl => ?_)
        refine lv_iconst (v := iI 0) E.1 E.2.1 dX7_accepts_63 (by decide) ?_
        refine lv_istore (lv' := [(5, .int (iI 0)), (4, .int (iI (↑(arN (C k))))), (3, .int (iI (((↑(k + (nsN n C sp k))) - (↑(ndN (C k)))) + 1))), (2, .int (iI (↑(pnN n sp (k + sp k))))), (0, .ref a), (1, .int (iI (C k)))]) E.1 E.2.1 dX7_accepts_64 hl (by decide) rfl (fun ls hl => ?_)
        have loop66_1 : ∀ (d66 : Nat) (i : Nat) (z : Int) (Mw66 : fw_M) (H : Heap) (locs : List Loc) (ls : Array Slot), arN (C k) - i < d66 → i ≤ arN (C k) → z = ↑(k + 1) + ↑(nsN n C sp (k + 1)) - ↑(nsN n C sp (chP sp k i)) + ↑(nsN n C sp (k + sp k)) → Mw66 = M → fw_H G s Mw66 H locs → H.size = N → skAt G Mw66 a cs vs ss hs ↑k lv nd lw (↑(pnN n sp k)) (↑(k + (nsN n C sp k))) → lv_has ls 7 [(0, .ref a), (1, .int (iI (C k))), (2, .int (iI (↑(pnN n sp (k + sp k))))), (3, .int (iI z)), (4, .int (iI (↑(arN (C k))))), (5, .int (iI ↑i))] → W pG l e ({ frames := 1, cells := 0, slots := 0, locals := 40 } : Room) s m args below meth cG H locs (0) (0) (MQ below (fw_Q G (fw_pi (fun r M1 n1 => r = iI 1 ∧ M1 = M ∧ n1 = N))) args s 0 0 (fun q => G.2.2.1 ≤ q)) (F0 m 66 ls []) := by
          intro d66
          induction d66 with
          | zero => intro i z Mw66 H locs ls hd; exact absurd hd (Nat.not_lt_zero _)
          | succ d66 ih66 =>
            intro i z Mw66 H locs ls hd66 ii hzz hMw hH hz hS hl
            refine lv_iload E.1 E.2.1 dX7_accepts_66 (lv_at hl 5 rfl) ?_
            refine lv_iload E.1 E.2.1 dX7_accepts_68 (lv_at hl 4 rfl) ?_
            refine fw_icmp_ge (tgt := 121) E dX7_accepts_70 (by decide) (by omega) (by omega) (by omega) (by omega) (fun c40 => ?_) (fun c40 => ?_)
            · have e9 : i = arN (C k) := by omega
              rw [e9, ← he] at hzz
              have hnl := ns_le hv (n - (k + 1)) (k + 1) (Nat.le_refl _) (by omega)
              refine lv_iload_n E.1 E.2.1 dX7_accepts_121 rfl (lv_at hl 3 rfl) ?_
              refine lv_bipush (v := iI 40) E.1 E.2.1 dX7_accepts_122 (by decide) ?_
              refine fw_icmp_gt (tgt := 131) E dX7_accepts_124 (by decide) (by omega) (by omega) (by omega) (by omega) (fun c41 => ?_) (fun c41 => ?_)
              · exact absurd c41 (by omega)
              · refine lv_iconst (v := iI 1) E.1 E.2.1 dX7_accepts_127 (by decide) ?_
                refine lv_goto (tgt := 132) E.1 E.2.1 dX7_accepts_128 (by decide) ?_
                refine fw_zret (r := (iI 1)) E hr hlk hH (by rfl) ?_ dX7_accepts_132
                exact ⟨rfl, hMw, hz⟩
            · obtain ⟨hq1, hq2, hq3⟩ := ch_step hsp hk (i := i) (by omega)
              have hqg := chP_gt sp k i
              have hqp := sp_pos hsp hq1
              have hqh := htF_in hsp hn1 (n - k) k (Nat.le_refl _) hk (chP sp k i) (by omega) (by omega)
              have hqd := (nd_le hv (n - (chP sp k i)) (chP sp k i) (Nat.le_refl _) hq1).2
              have hqt := htF_eq hsp hn1 hq1
              have hqn := nm_need hty hk (i := i) (by omega)
              have hqn2 := hqn.2
              have hqs := ns_eq hsp hn1 hq1
              refine lv_iload_n E.1 E.2.1 dX7_accepts_73 rfl (lv_at hl 1 rfl) ?_
              refine lv_iload E.1 E.2.1 dX7_accepts_74 (lv_at hl 5 rfl) ?_
              refine fw_cSN (As := [.int (iI (C k)), .int (iI ↑i)]) (rest := []) E hK hH hl fL_X9_isNumberPart ql_RX7_53 qs_yX9_isNumberPart (k_isNumberPart l G _ _ (C k) ↑i i (by omega) (by omega) (by omega)) rfl rfl (Nat.le_of_ble_eq_true rfl) ⟨Nat.le_of_ble_eq_true rfl, Nat.le_of_ble_eq_true rfl⟩ ⟨Nat.le_of_ble_eq_true rfl, Nat.le_of_ble_eq_true rfl⟩ dX7_accepts_76 (fw_ki fun r44 M43 H1 locs1 hp42 hH hz1 => ?_)
              obtain ⟨rfl, hM9, hz2⟩ := hp42
              have hnm212 := nmP_01 (C k) i
              replace hz := hz2.trans hz
              clear hz1 hz2
              rw [hM9] at hH
              refine lv_istore (lv' := [(6, .int (iI (nmP (C k) i))), (0, .ref a), (1, .int (iI (C k))), (2, .int (iI (↑(pnN n sp (k + sp k))))), (3, .int (iI z)), (4, .int (iI (↑(arN (C k))))), (5, .int (iI ↑i))]) E.1 E.2.1 dX7_accepts_79 hl (by decide) rfl (fun ls hl => ?_)
              refine lv_iload_n E.1 E.2.1 dX7_accepts_81 rfl (lv_at hl 4 rfl) ?_
              refine lv_iload E.1 E.2.1 dX7_accepts_82 (lv_at hl 0 rfl) ?_
              refine fw_cS (As := [.int (iI (nmP (C k) i))]) (rest := [.int (iI z)]) E hK hH hl fL_X7_needOf ql_RX7_46 qs_yX7_needOf (k_needOf l G _ _ (nmP (C k) i) (by omega) (by omega)) rfl rfl (Nat.le_of_ble_eq_true rfl) ⟨Nat.le_of_ble_eq_true rfl, Nat.le_of_ble_eq_true rfl⟩ ⟨Nat.le_of_ble_eq_true rfl, Nat.le_of_ble_eq_true rfl⟩ dX7_accepts_84 (fw_ki fun r47 M46 H1 locs1 hp45 hH hz1 => ?_)
              obtain ⟨rfl, hM9, hz2⟩ := hp45
              replace hz := hz2.trans hz
              clear hz1 hz2
              rw [hM9] at hH
              refine fw_iadd E dX7_accepts_87 ?_
              refine lv_istore_n (lv' := [(3, .int (iI (z + (if nmP (C k) i = 0 then 3 else 1)))), (6, .int (iI (nmP (C k) i))), (0, .ref a), (1, .int (iI (C k))), (2, .int (iI (↑(pnN n sp (k + sp k))))), (4, .int (iI (↑(arN (C k))))), (5, .int (iI ↑i))]) E.1 E.2.1 dX7_accepts_88 rfl hl (by decide) rfl (fun ls hl => ?_)
              refine lv_aload_n E.1 E.2.1 dX7_accepts_89 rfl (lv_at hl 2 rfl) ?_
              refine fw_get E hK hH hS.2.1 fc_X7 2 (by decide) ql_RX7_22 rfl rfl dX7_accepts_90 ?_
              refine lv_iload_n E.1 E.2.1 dX7_accepts_93 rfl (lv_at hl 4 rfl) ?_
              refine fw_cSN (As := [.ref (a + 7), .int (iI (↑(pnN n sp (k + sp k))))]) (rest := []) E hK hH hl fL_X9_at ql_RX7_42 qs_yX9_at (k_at l G _ _ (a + 7) 40 lw (↑(pnN n sp (k + sp k))) (pnN n sp (k + sp k)) hS.2.2.2.2 (by omega) (by omega) (by omega)) rfl rfl (Nat.le_of_ble_eq_true rfl) ⟨Nat.le_of_ble_eq_true rfl, Nat.le_of_ble_eq_true rfl⟩ ⟨Nat.le_of_ble_eq_true rfl, Nat.le_of_ble_eq_true rfl⟩ dX7_accepts_94 (fw_ki fun r50 M49 H1 locs1 hp48 hH hz1 => ?_)
              obtain ⟨rfl, hM9, hz2⟩ := hp48
              refine fw_cv (y := iI ↑L) (congrArg iI hL) ?_
              replace hz := hz2.trans hz
              clear hz1 hz2
              rw [hM9] at hH
              refine lv_iload E.1 E.2.1 dX7_accepts_97 (lv_at hl 1 rfl) ?_
              refine fw_if_eq (tgt := 106) E dX7_accepts_99 (by decide) (by omega) (by omega) (fun c51 => ?_) (fun c51 => ?_)
              · refine lv_iconst (v := iI 2) E.1 E.2.1 dX7_accepts_106 (by decide) ?_
                refine fw_iadd E dX7_accepts_107 ?_
                refine lv_bipush (v := iI 8) E.1 E.2.1 dX7_accepts_108 (by decide) ?_
                refine fw_icmp_le (tgt := 115) E dX7_accepts_110 (by decide) (by omega) (by omega) (by omega) (by omega) (fun c52 => ?_) (fun c52 => ?_)
                · refine lv_iinc (v := iI (↑i + 1)) (lv' := [(5, .int (iI (↑i + 1))), (3, .int (iI (z + (if nmP (C k) i = 0 then 3 else 1)))), (6, .int (iI (nmP (C k) i))), (0, .ref a), (1, .int (iI (C k))), (2, .int (iI (↑(pnN n sp (k + sp k))))), (4, .int (iI (↑(arN (C k)))))]) E.1 E.2.1 dX7_accepts_115 hl (k := 6) rfl (iI_inc rfl) (by decide) rfl (fun ls hl => ?_)
                  refine lv_goto (tgt := 66) E.1 E.2.1 dX7_accepts_118 (by decide) ?_
                  exact ih66 (i + 1) (z + (if nmP (C k) i = 0 then 3 else 1)) _ _ _ _ (by omega) (by omega) (by rw [hq2, hqn.1]; omega) hMw hH (by omega) hS (lv_sub hl [3, 4, 5, 1, 6, 0] rfl)
                · exact absurd c52 (by omega)
              · refine lv_iconst (v := iI 1) E.1 E.2.1 dX7_accepts_102 (by decide) ?_
                refine lv_goto (tgt := 107) E.1 E.2.1 dX7_accepts_103 (by decide) ?_
                refine fw_iadd E dX7_accepts_107 ?_
                refine lv_bipush (v := iI 8) E.1 E.2.1 dX7_accepts_108 (by decide) ?_
                refine fw_icmp_le (tgt := 115) E dX7_accepts_110 (by decide) (by omega) (by omega) (by omega) (by omega) (fun c53 => ?_) (fun c53 => ?_)
                · refine lv_iinc (v := iI (↑i + 1)) (lv' := [(5, .int (iI (↑i + 1))), (3, .int (iI (z + (if nmP (C k) i = 0 then 3 else 1)))), (6, .int (iI (nmP (C k) i))), (0, .ref a), (1, .int (iI (C k))), (2, .int (iI (↑(pnN n sp (k + sp k))))), (4, .int (iI (↑(arN (C k)))))]) E.1 E.2.1 dX7_accepts_115 hl (k := 6) rfl (iI_inc rfl) (by decide) rfl (fun ls hl => ?_)
                  refine lv_goto (tgt := 66) E.1 E.2.1 dX7_accepts_118 (by decide) ?_
                  exact ih66 (i + 1) (z + (if nmP (C k) i = 0 then 3 else 1)) _ _ _ _ (by omega) (by omega) (by rw [hq2, hqn.1]; omega) hMw hH (by omega) hS (lv_sub hl [3, 4, 5, 1, 6, 0] rfl)
                · exact absurd c53 (by omega)
        exact loop66_1 (arN (C k) - 0 + 1) 0 (↑(k + (nsN n C sp k)) - ↑(ndN (C k)) + 1) _ _ _ _ (Nat.lt_succ_self _) (Nat.zero_le _) (by rw [show chP sp k 0 = k + 1 from rfl]; omega) rfl hH (by omega) hS (lv_sub hl [4, 5, 3, 2, 1, 0] rfl)
      · exact absurd (by omega) c33
set_option maxHeartbeats 1000000 in
theorem k_take (l : Launch) (G : fw_G) (M : fw_M) (N : Nat) (a n k : Nat) (C V : Nat → Int) (sp : Nat → Nat) (cs vs ss hs nd lw : Nat → Int) (lv : Int) (hv : vtOK n C V sp) (hk : k < n) (hS : skAt G M a cs vs ss hs ↑k lv nd lw ↑(pnN n sp k) ↑(k + (nsN n C sp k))) (hs9 : skS n C sp k nd lw) : fMet l yX7_take cX7_take 5 none 3 100 0 0 G M N [.ref a, .int (iI (C k)), .int (iI (V k))] (fw_pv (fun M1 n1 => (∃ nd1 lw1 : Nat → Int, skAt G M1 a (zup cs k (C k)) (zup vs k (V k)) ss hs ↑(k + 1) lv nd1 lw1 ↑(pnN n sp (k + 1)) ↑(k + 1 + (nsN n C sp (k + 1))) ∧ skS n C sp (k + 1) nd1 lw1) ∧ (∀ q, q < a ∨ a + 8 ≤ q → M1 q = M q) ∧ n1 = N)) := by
  refine fw_met RX7 rfl (by decide +kernel) (Nat.le_of_ble_eq_true rfl) ?_
  intro pG e s m args below meth cG ls E hr hlk hnm hK hH hz hl
  obtain ⟨⟨hn0, hn1⟩, hs0, hc0, hsp, hty, hnd⟩ := id hv
  have hk1 := sp_pos hsp hk
  have hke := sp_le hsp hk
  have hpk := pn_eq hsp hn1 hk
  have hpl := pn_le hsp hn1 (n - k) k (Nat.le_refl _)
  have hnk := ns_eq hsp hn1 hk
  have hndk := hnd k hk
  have hck := hndk.1
  have har := arN_le (C k)
  have he := (hsp k hk).2
  obtain ⟨hnd1, L, hL, hL1, hL2⟩ := hs9 k hk ⟨Nat.le_refl _, fun j h1 h2 => absurd h1 (by omega)⟩
  have hvk := nd_b hndk
  obtain ⟨hb, h0, h1, h6, h7⟩ := hS
  refine lv_aload_n E.1 E.2.1 dX7_take_0 rfl (lv_at hl 0 rfl) ?_
  refine fw_get E hK hH h0 fc_X7 2 (by decide) ql_RX7_22 rfl rfl dX7_take_1 ?_
  refine lv_aload_n E.1 E.2.1 dX7_take_4 rfl (lv_at hl 0 rfl) ?_
  refine fw_get E hK hH h0 fc_X7 3 (by decide) ql_RX7_32 rfl rfl dX7_take_5 ?_
  refine lv_iconst (v := iI 1) E.1 E.2.1 dX7_take_8 (by decide) ?_
  refine fw_isub E dX7_take_9 ?_
  refine fw_cv (y := iI (↑(pnN n sp (k + sp k)))) (congrArg iI (by omega)) ?_
  refine fw_cSN (As := [.ref (a + 7), .int (iI (↑(pnN n sp (k + sp k))))]) (rest := []) E hK hH hl fL_X9_at ql_RX7_42 qs_yX9_at (k_at l G _ _ (a + 7) 40 lw (↑(pnN n sp (k + sp k))) (pnN n sp (k + sp k)) h7 (by omega) (by omega) (by omega)) rfl rfl (Nat.le_of_ble_eq_true rfl) ⟨Nat.le_of_ble_eq_true rfl, Nat.le_of_ble_eq_true rfl⟩ ⟨Nat.le_of_ble_eq_true rfl, Nat.le_of_ble_eq_true rfl⟩ dX7_take_10 (fw_ki fun r3 M2 H1 locs1 hp1 hH hz1 => ?_)
  obtain ⟨rfl, hM9, hz2⟩ := hp1
  refine fw_cv (y := iI ↑L) (congrArg iI hL) ?_
  replace hz := hz2.trans hz
  clear hz1 hz2
  rw [hM9] at hH
  refine lv_istore_n (lv' := [(3, .int (iI ↑L)), (0, .ref a), (1, .int (iI (C k))), (2, .int (iI (V k)))]) E.1 E.2.1 dX7_take_13 rfl hl (by decide) rfl (fun ls hl => ?_)
  refine lv_aload_n E.1 E.2.1 dX7_take_14 rfl (lv_at hl 1 rfl) ?_
  refine lv_dup E.1 E.2.1 dX7_take_15 rfl ?_
  refine fw_get E hK hH h0 fc_X7 4 (by decide) ql_RX7_35 rfl rfl dX7_take_16 ?_
  refine lv_iconst (v := iI 1) E.1 E.2.1 dX7_take_19 (by decide) ?_
  refine lv_aload_n E.1 E.2.1 dX7_take_20 rfl (lv_at hl 1 rfl) ?_
  refine fw_get E hK hH h0 fc_X7 1 (by decide) ql_RX7_18 rfl rfl dX7_take_21 ?_
  refine lv_aload_n E.1 E.2.1 dX7_take_24 rfl (lv_at hl 1 rfl) ?_
  refine fw_get E hK hH h0 fc_X7 3 (by decide) ql_RX7_32 rfl rfl dX7_take_25 ?_
  refine lv_iconst (v := iI 1) E.1 E.2.1 dX7_take_28 (by decide) ?_
  refine fw_isub E dX7_take_29 ?_
  refine fw_cv (y := iI (↑(pnN n sp (k + sp k)))) (congrArg iI (by omega)) ?_
  refine fw_cSN (As := [.ref (a + 6), .int (iI (↑(pnN n sp (k + sp k))))]) (rest := [.int (iI 1), .int (iI (↑(k + (nsN n C sp k)))), .ref a]) E hK hH hl fL_X9_at ql_RX7_42 qs_yX9_at (k_at l G _ _ (a + 6) 40 nd (↑(pnN n sp (k + sp k))) (pnN n sp (k + sp k)) h6 (by omega) (by omega) (by omega)) rfl rfl (Nat.le_of_ble_eq_true rfl) ⟨Nat.le_of_ble_eq_true rfl, Nat.le_of_ble_eq_true rfl⟩ ⟨Nat.le_of_ble_eq_true rfl, Nat.le_of_ble_eq_true rfl⟩ dX7_take_30 (fw_ki fun r6 M5 H1 locs1 hp4 hH hz1 => ?_)
  obtain ⟨rfl, hM9, hz2⟩ := hp4
  refine fw_cv (y := iI (↑(ndN (C k)))) (congrArg iI hnd1) ?_
  replace hz := hz2.trans hz
  clear hz1 hz2
  rw [hM9] at hH
  refine fw_isub E dX7_take_33 ?_
  refine fw_iadd E dX7_take_34 ?_
  refine fw_put E hK hH (by omega) h0 fc_X7 4 (by decide) ql_RX7_35 rfl rfl rfl rfl (Nat.le_of_ble_eq_true rfl) dX7_take_35 (fun H1 locs1 hH hz1 => ?_)
  replace hz := hz1.trans hz; clear hz1
  obtain ⟨M7, hM8⟩ : ∃ MX, MX = fw_up M a (.inr (7, [.ref (a + 1), .ref (a + 6), .ref (a + 7), .int (iI (↑(pnN n sp k))), .int (iI ((↑(k + (nsN n C sp k))) + (1 - (↑(ndN (C k))))))])) := ⟨_, rfl⟩
  replace hH := fw_H.nm hM8 hH
  have fr9 : ∀ q, q ≠ a → M7 q = M q := fun q h => by rw [hM8]; exact fw_up_ne h
  replace h1 := trAt.fr h1 (fun q h1 h2 => fr9 q (by omega))
  replace h6 : M7 (a + 6) = some (fI G 40 (fun j0 => iI (nd j0))) := (fr9 _ (by omega)).trans h6
  replace h7 : M7 (a + 7) = some (fI G 40 (fun j0 => iI (lw j0))) := (fr9 _ (by omega)).trans h7
  have h0 : M7 a = some (.inr (7, [.ref (a + 1), .ref (a + 6), .ref (a + 7), .int (iI (↑(pnN n sp k))), .int (iI ((↑(k + (nsN n C sp k))) + (1 - (↑(ndN (C k))))))])) := by rw [hM8]; exact fw_up_eq
  refine lv_aload_n E.1 E.2.1 dX7_take_38 rfl (lv_at hl 1 rfl) ?_
  refine lv_dup E.1 E.2.1 dX7_take_39 rfl ?_
  refine fw_get E hK hH h0 fc_X7 3 (by decide) ql_RX7_32 rfl rfl dX7_take_40 ?_
  refine lv_iconst (v := iI 1) E.1 E.2.1 dX7_take_43 (by decide) ?_
  refine fw_isub E dX7_take_44 ?_
  refine fw_put E hK hH (by omega) h0 fc_X7 3 (by decide) ql_RX7_32 rfl rfl rfl rfl (Nat.le_of_ble_eq_true rfl) dX7_take_45 (fun H1 locs1 hH hz1 => ?_)
  replace hz := hz1.trans hz; clear hz1
  obtain ⟨M10, hM11⟩ : ∃ MX, MX = fw_up M7 a (.inr (7, [.ref (a + 1), .ref (a + 6), .ref (a + 7), .int (iI ((↑(pnN n sp k)) - 1)), .int (iI ((↑(k + (nsN n C sp k))) + (1 - (↑(ndN (C k))))))])) := ⟨_, rfl⟩
  replace hH := fw_H.nm hM11 hH
  have fr12 : ∀ q, q ≠ a → M10 q = M7 q := fun q h => by rw [hM11]; exact fw_up_ne h
  replace h1 := trAt.fr h1 (fun q h1 h2 => fr12 q (by omega))
  replace h6 : M10 (a + 6) = some (fI G 40 (fun j0 => iI (nd j0))) := (fr12 _ (by omega)).trans h6
  replace h7 : M10 (a + 7) = some (fI G 40 (fun j0 => iI (lw j0))) := (fr12 _ (by omega)).trans h7
  have h0 : M10 a = some (.inr (7, [.ref (a + 1), .ref (a + 6), .ref (a + 7), .int (iI ((↑(pnN n sp k)) - 1)), .int (iI ((↑(k + (nsN n C sp k))) + (1 - (↑(ndN (C k))))))])) := by rw [hM11]; exact fw_up_eq
  refine lv_aload_n E.1 E.2.1 dX7_take_48 rfl (lv_at hl 1 rfl) ?_
  refine fw_get E hK hH h0 fc_X7 0 (by decide) ql_RX7_12 rfl rfl dX7_take_49 ?_
  refine lv_iload_n E.1 E.2.1 dX7_take_52 rfl (lv_at hl 2 rfl) ?_
  refine lv_iload_n E.1 E.2.1 dX7_take_53 rfl (lv_at hl 3 rfl) ?_
  refine fw_cV (As := [.int (iI (C k)), .int (iI (V k))]) (rest := []) E hK hH hl h1.2.1 fc_X8 fL_X8_append ql_RX7_57 qi_yX8_append qv_yX8_append (k_append l G _ _ (a + 1) cs vs ss hs lv k (C k) (V k) h1 (by omega) (by omega) (by omega)) rfl rfl (Nat.le_of_ble_eq_true rfl) ⟨Nat.le_of_ble_eq_true rfl, Nat.le_of_ble_eq_true rfl⟩ ⟨Nat.le_of_ble_eq_true rfl, Nat.le_of_ble_eq_true rfl⟩ dX7_take_54 (fw_kv fun M14 H1 locs1 hp13 hH hz1 => ?_)
  obtain ⟨hT77, hfr, hz2⟩ := hp13
  replace hz := hz2.trans hz
  clear hz1 hz2
  have fr15 := hfr
  replace h6 : M14 (a + 6) = some (fI G 40 (fun j0 => iI (nd j0))) := (fr15 _ (by omega)).trans h6
  replace h7 : M14 (a + 7) = some (fI G 40 (fun j0 => iI (lw j0))) := (fr15 _ (by omega)).trans h7
  replace h0 : M14 a = some (.inr (7, [.ref (a + 1), .ref (a + 6), .ref (a + 7), .int (iI ((↑(pnN n sp k)) - 1)), .int (iI ((↑(k + (nsN n C sp k))) + (1 - (↑(ndN (C k))))))])) := (fr15 _ (by omega)).trans h0
  rw [nd_w hndk] at hT77
  have hS : skAt G M14 a (zup cs k (C k)) (zup vs k (V k)) ss hs ↑(k + 1) lv nd lw ↑(pnN n sp (k + sp k)) ↑(k + 1 + (nsN n C sp (k + sp k))) := ⟨hb, by rw [show (↑(pnN n sp (k + sp k)) : Int) = ↑(pnN n sp k) - 1 by omega, show ((↑(k + 1 + (nsN n C sp (k + sp k)))) : Int) = ↑(k + (nsN n C sp k)) + (1 - ↑(ndN (C k))) by omega]; exact h0, hT77, h6, h7⟩
  rw [he] at hS
  refine fw_getsN E hH hK.me.2.2.1 ql_RX7_50 dX7_take_57 ?_
  refine lv_iload_n E.1 E.2.1 dX7_take_60 rfl (lv_at hl 2 rfl) ?_
  refine fw_cSN (As := [.ref (G.2.2.2.2 0), .int (iI (C k))]) (rest := []) E hK hH hl fL_X9_at ql_RX7_42 qs_yX9_at (k_at0 l G _ _ (C k) ((C k).toNat) (by omega) (by omega)) rfl rfl (Nat.le_of_ble_eq_true rfl) ⟨Nat.le_of_ble_eq_true rfl, Nat.le_of_ble_eq_true rfl⟩ ⟨Nat.le_of_ble_eq_true rfl, Nat.le_of_ble_eq_true rfl⟩ dX7_take_61 (fw_ki fun r18 M17 H1 locs1 hp16 hH hz1 => ?_)
  obtain ⟨rfl, hM9, hz2⟩ := hp16
  refine fw_cv (y := iI (↑(arN (C k)))) (by rw [zPARTS_ar hck]) ?_
  replace hz := hz2.trans hz
  clear hz1 hz2
  rw [hM9] at hH
  refine lv_iconst (v := iI 1) E.1 E.2.1 dX7_take_64 (by decide) ?_
  refine fw_isub E dX7_take_65 ?_
  refine lv_istore (lv' := [(4, .int (iI ((↑(arN (C k))) - 1))), (3, .int (iI ↑L)), (0, .ref a), (1, .int (iI (C k))), (2, .int (iI (V k)))]) E.1 E.2.1 dX7_take_66 hl (by decide) rfl (fun ls hl => ?_)
  have hfr0 : ∀ q, q < a ∨ a + 8 ≤ q → M14 q = M q := (fun q hq => by rw [fr15 q (by omega), fr12 q (by omega), fr9 q (by omega)])
  have loop68_1 : ∀ (d68 : Nat) (i : Nat) (ndv : Nat → Int) (lwv : Nat → Int) (Mw68 : fw_M) (H : Heap) (locs : List Loc) (ls : Array Slot), i < d68 → i ≤ arN (C k) → skS n C sp (chP sp k i) ndv lwv → (∀ q, q < a ∨ a + 8 ≤ q → Mw68 q = M q) → fw_H G s Mw68 H locs → H.size = N → skAt G Mw68 a (zup cs k (C k)) (zup vs k (V k)) ss hs (↑(k + 1)) lv ndv lwv (↑(pnN n sp (chP sp k i))) (↑(k + 1 + (nsN n C sp (chP sp k i)))) → lv_has ls 5 [(0, .ref a), (1, .int (iI (C k))), (2, .int (iI (V k))), (3, .int (iI ↑L)), (4, .int (iI (↑i - 1)))] → W pG l e ({ frames := 3, cells := 0, slots := 0, locals := 100 } : Room) s m args below meth cG H locs (0) (0) (MQ below (fw_Q G (fw_pv (fun M1 n1 => (∃ nd1 lw1 : Nat → Int, skAt G M1 a (zup cs k (C k)) (zup vs k (V k)) ss hs ↑(k + 1) lv nd1 lw1 ↑(pnN n sp (k + 1)) ↑(k + 1 + (nsN n C sp (k + 1))) ∧ skS n C sp (k + 1) nd1 lw1) ∧ (∀ q, q < a ∨ a + 8 ≤ q → M1 q = M q) ∧ n1 = N))) args s 0 0 (fun q => G.2.2.1 ≤ q)) (F0 m 68 ls []) := by
    intro d68
    induction d68 with
    | zero => intro i ndv lwv Mw68 H locs ls hd; exact absurd hd (Nat.not_lt_zero _)
    | succ d68 ih68 =>
      intro i ndv lwv Mw68 H locs ls hd68 ii hSK hfr0 hH hz hS hl
      refine lv_iload E.1 E.2.1 dX7_take_68 (lv_at hl 4 rfl) ?_
      refine fw_if_lt (tgt := 92) E dX7_take_70 (by decide) (by omega) (by omega) (fun c19 => ?_) (fun c19 => ?_)
      · refine fw_vret E hr hlk hH ?_ dX7_take_92
        have e9 : i = 0 := by omega
        subst e9
        exact ⟨⟨ndv, lwv, hS, hSK⟩, hfr0, hz⟩
      · obtain ⟨hq1, hq2, hq3⟩ := ch_step hsp hk (i := i - 1) (by omega)
        rw [show i - 1 + 1 = i by omega] at hq2 hq3
        have hqg := chP_gt sp k (i - 1)
        have hqp := sp_pos hsp hq1
        have hqh := htF_in hsp hn1 (n - k) k (Nat.le_refl _) hk (chP sp k (i - 1)) (by omega) (by omega)
        have hqn := (nm_need hty hk (i := i - 1) (by omega)).1
        have hqs := ns_eq hsp hn1 hq1
        have hqu := pn_eq hsp hn1 hq1
        have hqv := pn_le hsp hn1 (n - (chP sp k (i - 1))) (chP sp k (i - 1)) (Nat.le_refl _)
        rw [← hq2] at hqs hqu
        refine lv_aload_n E.1 E.2.1 dX7_take_73 rfl (lv_at hl 0 rfl) ?_
        refine lv_iload_n E.1 E.2.1 dX7_take_74 rfl (lv_at hl 1 rfl) ?_
        refine lv_iload E.1 E.2.1 dX7_take_75 (lv_at hl 4 rfl) ?_
        refine fw_cSN (As := [.int (iI (C k)), .int (iI (↑i - 1))]) (rest := [.ref a]) E hK hH hl fL_X9_isNumberPart ql_RX7_53 qs_yX9_isNumberPart (k_isNumberPart l G _ _ (C k) (↑i - 1) (i - 1) (by omega) (by omega) (by omega)) rfl rfl (Nat.le_of_ble_eq_true rfl) ⟨Nat.le_of_ble_eq_true rfl, Nat.le_of_ble_eq_true rfl⟩ ⟨Nat.le_of_ble_eq_true rfl, Nat.le_of_ble_eq_true rfl⟩ dX7_take_77 (fw_ki fun r22 M21 H1 locs1 hp20 hH hz1 => ?_)
        obtain ⟨rfl, hM9, hz2⟩ := hp20
        have hnm125 := nmP_01 (C k) (i - 1)
        replace hz := hz2.trans hz
        clear hz1 hz2
        rw [hM9] at hH
        refine lv_iload_n E.1 E.2.1 dX7_take_80 rfl (lv_at hl 3 rfl) ?_
        refine lv_iconst (v := iI 1) E.1 E.2.1 dX7_take_81 (by decide) ?_
        refine fw_iadd E dX7_take_82 ?_
        refine fw_cV (As := [.int (iI (nmP (C k) (i - 1))), .int (iI ((↑L) + 1))]) (rest := []) E hK hH hl hS.2.1 fc_X7 fL_X7_miss ql_RX7_38 qi_yX7_miss qv_yX7_miss (k_miss l G _ _ a (zup cs k (C k)) (zup vs k (V k)) ss hs (↑(k + 1)) lv ndv lwv (↑(pnN n sp (chP sp k i))) (↑(k + 1 + (nsN n C sp (chP sp k i)))) (pnN n sp (chP sp k i)) (nmP (C k) (i - 1)) ((↑L) + 1) hS (by omega) (by omega) (by omega) (by omega)) rfl rfl (Nat.le_of_ble_eq_true rfl) ⟨Nat.le_of_ble_eq_true rfl, Nat.le_of_ble_eq_true rfl⟩ ⟨Nat.le_of_ble_eq_true rfl, Nat.le_of_ble_eq_true rfl⟩ dX7_take_83 (fw_kv fun M24 H1 locs1 hp23 hH hz1 => ?_)
        obtain ⟨hS, hz2, hfr⟩ := hp23
        replace hz := hz2.trans hz
        clear hz1 hz2
        have fr25 := hfr
        rw [hqn] at hS
        refine lv_iinc (v := iI (↑(i - 1) - 1)) (lv' := [(4, .int (iI (↑(i - 1) - 1))), (0, .ref a), (1, .int (iI (C k))), (2, .int (iI (V k))), (3, .int (iI ↑L))]) E.1 E.2.1 dX7_take_86 hl (k := 4) rfl (iI_inc (congrArg iI (by omega))) (by decide) rfl (fun ls hl => ?_)
        refine lv_goto (tgt := 68) E.1 E.2.1 dX7_take_89 (by decide) ?_
        exact ih68 (i - 1) (zup ndv (pnN n sp (chP sp k i)) ↑(ndN (C (chP sp k (i - 1))))) (zup lwv (pnN n sp (chP sp k i)) ((↑L) + 1)) _ _ _ _ (by omega) (by omega) (by rw [hq2]; exact skS_push hsp hn1 hq1 (L := L + 1) (by rw [← hq2]; exact hSK) rfl (by omega) (by omega) (by omega)) (fun q hq => by rw [fr25 q (by omega)]; exact hfr0 q hq) hH (by omega) (by rw [show (↑(pnN n sp (chP sp k (i - 1))) : Int) = ↑(pnN n sp (chP sp k i)) + 1 by omega, show ((↑(k + 1 + (nsN n C sp (chP sp k (i - 1))))) : Int) = ↑(k + 1 + (nsN n C sp (chP sp k i))) + ↑(ndN (C (chP sp k (i - 1)))) by omega]; exact hS) (lv_sub hl [1, 2, 3, 4, 0] rfl)
  exact loop68_1 ((arN (C k)) + 1) (arN (C k)) nd lw _ _ _ _ (Nat.lt_succ_self _) (Nat.le_refl _) (by rw [← he]; exact skS_pop hsp hk hs9) hfr0 hH (by omega) hS (lv_sub hl [2, 3, 4, 1, 0] rfl)

set_option maxHeartbeats 4000000 in
theorem l_plant (l : Launch) (G : fw_G) (M : fw_M) (N : Nat) (a dw cn o : Nat) (lk gn mi : Int) (T : Nat → aT) (j : aJ) (ra : aR) (hA : lgA G M a dw cn j.2.2.2.2.1) (hW : bnR G M (a + 1) o cn lk gn mi T j ra) (hO : bnO cn lk T j ra) (hE : skE G M (a + 2)) (haN : a + 381 ≤ N) (hc9 : cn < 16) (hd9 : dw + 500 ≤ 20000) : fMet l yX10_plant cX10_plant 4 (some .boolean) 8 230 320 63922 G M N [.ref a] (fw_pi (fun r M1 n1 => r = iI 1 ∧ (∃ (dw1 : Nat) (T1 : Nat → aT), dw ≤ dw1 ∧ dw1 ≤ dw + 484 ∧ lgA G M1 a dw1 (cn + 1) j.2.2.2.2.1 ∧ bnR G M1 (a + 1) o (cn + 1) lk gn mi T1 j ra ∧ (∀ k, k < cn + 1 → aOK (T1 k)) ∧ skE G M1 (a + 2)) ∧ (∀ q, (q < a ∨ a + 381 ≤ q) ∧ q < N → M1 q = M q) ∧ N ≤ n1)) := by
  refine fw_met RX10 rfl (by decide +kernel) (Nat.le_of_ble_eq_true rfl) ?_
  intro pG e s m args below meth cG ls E hr hlk hnm hK hH hz hl
  obtain ⟨hba, g0, ⟨f1, u1⟩, f2, u2⟩ := hA
  have hO9 := id hO
  obtain ⟨hj, hr9, hlu, hTk⟩ := hO
  have join27 : ∀ (ca : Nat) (t : aT) (f : Nat → Int) (dwj : Nat) (sz : Nat) (Mj27 : fw_M) (H : Heap) (locs : List Loc) (ls : Array Slot), aOK t → (∀ k, k < t.1 → f (2 * k) = t.2.1 k ∧ f (2 * k + 1) = t.2.2.1 k) → N ≤ ca ∧ ca < sz → dw ≤ dwj ∧ dwj ≤ dw + 484 → (∀ q, (q < a ∨ a + 381 ≤ q) ∧ q < N → Mj27 q = M q) → fw_H G s Mj27 H locs → H.size = sz → Mj27 a = some (.inr (10, [.ref (a + 1), .ref (G.2.2.2.2 3), .int (iI ↑dwj), .int (iI ↑cn), .ref (a + 379), .int (iI ↑j.2.2.2.2.1), .ref (a + 380)])) → Mj27 (a + 379) = some (fU G 16 f1) → Mj27 (a + 380) = some (fU G 12 f2) → bnR G Mj27 (a + 1) o cn lk gn mi T j ra → skE G Mj27 (a + 2) → Mj27 ca = some (fI G (2 * t.1) (fun j0 => iI (f j0))) → lv_has ls 4 [(0, .ref a), (1, .ref ca)] → W pG l e ({ frames := 8, cells := 320, slots := 63922, locals := 230 } : Room) s m args below meth cG H locs (320) (63922) (MQ below (fw_Q G (fw_pi (fun r M1 n1 => r = iI 1 ∧ (∃ (dw1 : Nat) (T1 : Nat → aT), dw ≤ dw1 ∧ dw1 ≤ dw + 484 ∧ lgA G M1 a dw1 (cn + 1) j.2.2.2.2.1 ∧ bnR G M1 (a + 1) o (cn + 1) lk gn mi T1 j ra ∧ (∀ k, k < cn + 1 → aOK (T1 k)) ∧ skE G M1 (a + 2)) ∧ (∀ q, (q < a ∨ a + 381 ≤ q) ∧ q < N → M1 q = M q) ∧ N ≤ n1))) args s 320 63922 (fun q => G.2.2.1 ≤ q)) (F0 m 27 ls []) := by
    intro ca t f dwj sz Mj27 H locs ls ht hag hca hdj hfr0 hH hz g0 u1 u2 hW hE hA hl
    refine lv_iconst (v := iI 1) E.1 E.2.1 dX10_plant_27 (by decide) ?_
    refine fw_cv (y := iI (↑(pnN t.1 t.2.2.2 0))) (congrArg iI (by rw [(skS_0 (nd := fun _ => 1) (lw := fun _ => 1) ht.1 ht.2 rfl rfl).2.1]; rfl)) ?_
    refine lv_istore_n (lv' := [(2, .int (iI (↑(pnN t.1 t.2.2.2 0)))), (0, .ref a), (1, .ref ca)]) E.1 E.2.1 dX10_plant_28 rfl hl (by decide) rfl (fun ls hl => ?_)
    refine lv_iconst (v := iI 0) E.1 E.2.1 dX10_plant_29 (by decide) ?_
    refine lv_istore_n (lv' := [(3, .int (iI 0)), (2, .int (iI (↑(pnN t.1 t.2.2.2 0)))), (0, .ref a), (1, .ref ca)]) E.1 E.2.1 dX10_plant_30 rfl hl (by decide) rfl (fun ls hl => ?_)
    have loop31_1 : ∀ (d31 : Nat) (i : Nat) (Mw31 : fw_M) (H : Heap) (locs : List Loc) (ls : Array Slot), t.1 - i < d31 → i ≤ t.1 → (∀ q, (q < a ∨ a + 381 ≤ q) ∧ q < N → Mw31 q = M q) → fw_H G s Mw31 H locs → H.size = sz → Mw31 a = some (.inr (10, [.ref (a + 1), .ref (G.2.2.2.2 3), .int (iI ↑dwj), .int (iI ↑cn), .ref (a + 379), .int (iI ↑j.2.2.2.2.1), .ref (a + 380)])) → Mw31 (a + 379) = some (fU G 16 f1) → Mw31 (a + 380) = some (fU G 12 f2) → bnR G Mw31 (a + 1) o cn lk gn mi T j ra → skT G Mw31 (a + 2) t i → Mw31 ca = some (fI G (2 * t.1) (fun j0 => iI (f j0))) → lv_has ls 4 [(0, .ref a), (1, .ref ca), (2, .int (iI (↑(pnN t.1 t.2.2.2 i)))), (3, .int (iI (↑(2 * i))))] → W pG l e ({ frames := 8, cells := 320, slots := 63922, locals := 230 } : Room) s m args below meth cG H locs (320) (63922) (MQ below (fw_Q G (fw_pi (fun r M1 n1 => r = iI 1 ∧ (∃ (dw1 : Nat) (T1 : Nat → aT), dw ≤ dw1 ∧ dw1 ≤ dw + 484 ∧ lgA G M1 a dw1 (cn + 1) j.2.2.2.2.1 ∧ bnR G M1 (a + 1) o (cn + 1) lk gn mi T1 j ra ∧ (∀ k, k < cn + 1 → aOK (T1 k)) ∧ skE G M1 (a + 2)) ∧ (∀ q, (q < a ∨ a + 381 ≤ q) ∧ q < N → M1 q = M q) ∧ N ≤ n1))) args s 320 63922 (fun q => G.2.2.1 ≤ q)) (F0 m 31 ls []) := by
      intro d31
      induction d31 with
      | zero => intro i Mw31 H locs ls hd; exact absurd hd (Nat.not_lt_zero _)
      | succ d31 ih31 =>
        intro i Mw31 H locs ls hd31 ii hfr0 hH hz g0 u1 u2 hW hSk hA hl
        have ht1 := ht.1.1
        refine lv_iload_n E.1 E.2.1 dX10_plant_31 rfl (lv_at hl 3 rfl) ?_
        refine lv_aload_n E.1 E.2.1 dX10_plant_32 rfl (lv_at hl 1 rfl) ?_
        refine fw_alen E hK hH hA dX10_plant_33 ?_
        refine fw_cv (y := iI (↑(2 * t.1))) (nI_iI _) ?_
        refine fw_icmp_ge (tgt := 90) E dX10_plant_34 (by decide) (by omega) (by omega) (by omega) (by omega) (fun c1 => ?_) (fun c1 => ?_)
        · have e9 : i = t.1 := by omega
          rw [e9] at hSk
          refine lv_aload_n E.1 E.2.1 dX10_plant_90 rfl (lv_at hl 0 rfl) ?_
          refine fw_get E hK hH g0 fc_X10 4 (by decide) ql_RX10_18 rfl rfl dX10_plant_91 ?_
          refine lv_aload_n E.1 E.2.1 dX10_plant_94 rfl (lv_at hl 0 rfl) ?_
          refine fw_get E hK hH g0 fc_X10 3 (by decide) ql_RX10_74 rfl rfl dX10_plant_95 ?_
          refine lv_aload_n E.1 E.2.1 dX10_plant_98 rfl (lv_at hl 1 rfl) ?_
          refine fw_aastU E hK hH (by omega) u1 hA (iI_in (by omega) (by omega) (by omega)) qo_arr dX10_plant_99 (fun H1 locs1 hH hz1 => ?_)
          replace hz := hz1.trans hz; clear hz1
          obtain ⟨va33, hva33⟩ : ∃ y, y = va_up f1 (iI ↑cn).toNatClampNeg (some ca) := ⟨_, rfl⟩
          rw [← hva33] at hH
          obtain ⟨M2, hM3⟩ : ∃ MX, MX = fw_up Mw31 (a + 379) (fU G 16 va33) := ⟨_, rfl⟩
          replace hH := fw_H.nm hM3 hH
          have fr4 : ∀ q, q ≠ (a + 379) → M2 q = Mw31 q := fun q h => by rw [hM3]; exact fw_up_ne h
          replace g0 : M2 a = some (.inr (10, [.ref (a + 1), .ref (G.2.2.2.2 3), .int (iI ↑dwj), .int (iI ↑cn), .ref (a + 379), .int (iI ↑j.2.2.2.2.1), .ref (a + 380)])) := (fr4 _ (by omega)).trans g0
          replace u2 : M2 (a + 380) = some (fU G 12 f2) := (fr4 _ (by omega)).trans u2
          replace hW := bnR.fr hW (fun q h1 h2 => fr4 q (by omega))
          replace hSk := skT.fr hSk (fun q h1 h2 => fr4 q (by omega))
          replace hA : M2 ca = some (fI G (2 * t.1) (fun j0 => iI (f j0))) := (fr4 _ (by omega)).trans hA
          have u1 : M2 (a + 379) = some (fU G 16 va33) := by rw [hM3]; exact fw_up_eq
          refine lv_aload_n E.1 E.2.1 dX10_plant_100 rfl (lv_at hl 0 rfl) ?_
          refine fw_get E hK hH g0 fc_X10 0 (by decide) ql_RX10_10 rfl rfl dX10_plant_101 ?_
          refine fw_cV (As := []) (rest := []) E hK hH hl hW.1.2 fc_X9 fL_X9_plant ql_RX10_77 qi_yX9_plant qv_yX9_plant (b_plant l G _ _ (a + 1) o cn lk gn mi T j ra hW hO9 t hSk ht hc9) rfl rfl (Nat.le_of_ble_eq_true rfl) ⟨Nat.le_of_ble_eq_true rfl, Nat.le_of_ble_eq_true rfl⟩ ⟨by show _ ≤ (320 : Nat); omega, by show _ ≤ (63922 : Nat); omega⟩ dX10_plant_104 (fw_ki fun r7 M6 H1 locs1 hp5 hH hz1 => ?_)
          obtain ⟨rfl, hW48, hE48, hfr, hz2⟩ := hp5
          replace hz := hz2.trans hz
          clear hz1 hz2
          have fr8 := hfr
          replace g0 : M6 a = some (.inr (10, [.ref (a + 1), .ref (G.2.2.2.2 3), .int (iI ↑dwj), .int (iI ↑cn), .ref (a + 379), .int (iI ↑j.2.2.2.2.1), .ref (a + 380)])) := (fr8 _ (by omega)).trans g0
          replace u2 : M6 (a + 380) = some (fU G 12 f2) := (fr8 _ (by omega)).trans u2
          replace hA : M6 ca = some (fI G (2 * t.1) (fun j0 => iI (f j0))) := (fr8 _ (by omega)).trans hA
          replace u1 : M6 (a + 379) = some (fU G 16 va33) := (fr8 _ (by omega)).trans u1
          refine lv_aload_n E.1 E.2.1 dX10_plant_107 rfl (lv_at hl 0 rfl) ?_
          refine lv_dup E.1 E.2.1 dX10_plant_108 rfl ?_
          refine fw_get E hK hH g0 fc_X10 3 (by decide) ql_RX10_74 rfl rfl dX10_plant_109 ?_
          refine lv_dup_x1 E.1 E.2.1 dX10_plant_112 rfl rfl ?_
          refine lv_iconst (v := iI 1) E.1 E.2.1 dX10_plant_113 (by decide) ?_
          refine fw_iadd E dX10_plant_114 ?_
          refine fw_put E hK hH (by omega) g0 fc_X10 3 (by decide) ql_RX10_74 rfl rfl rfl rfl (Nat.le_of_ble_eq_true rfl) dX10_plant_115 (fun H1 locs1 hH hz1 => ?_)
          replace hz := hz1.trans hz; clear hz1
          obtain ⟨M9, hM10⟩ : ∃ MX, MX = fw_up M6 a (.inr (10, [.ref (a + 1), .ref (G.2.2.2.2 3), .int (iI ↑dwj), .int (iI ((↑cn) + 1)), .ref (a + 379), .int (iI ↑j.2.2.2.2.1), .ref (a + 380)])) := ⟨_, rfl⟩
          replace hH := fw_H.nm hM10 hH
          have fr11 : ∀ q, q ≠ a → M9 q = M6 q := fun q h => by rw [hM10]; exact fw_up_ne h
          replace u2 : M9 (a + 380) = some (fU G 12 f2) := (fr11 _ (by omega)).trans u2
          replace hA : M9 ca = some (fI G (2 * t.1) (fun j0 => iI (f j0))) := (fr11 _ (by omega)).trans hA
          replace u1 : M9 (a + 379) = some (fU G 16 va33) := (fr11 _ (by omega)).trans u1
          replace hW48 := bnR.fr hW48 (fun q h1 h2 => fr11 q (by omega))
          replace hE48 := skE.fr hE48 (fun q h1 h2 => fr11 q (by omega))
          have g0 : M9 a = some (.inr (10, [.ref (a + 1), .ref (G.2.2.2.2 3), .int (iI ↑dwj), .int (iI ((↑cn) + 1)), .ref (a + 379), .int (iI ↑j.2.2.2.2.1), .ref (a + 380)])) := by rw [hM10]; exact fw_up_eq
          refine fw_icmp_ne (tgt := 135) E dX10_plant_118 (by decide) (by omega) (by omega) (by omega) (by omega) (fun c12 => ?_) (fun c12 => ?_)
          · exact absurd c12 (by omega)
          · refine lv_aload_n E.1 E.2.1 dX10_plant_121 rfl (lv_at hl 0 rfl) ?_
            refine fw_get E hK hH g0 fc_X10 0 (by decide) ql_RX10_10 rfl rfl dX10_plant_122 ?_
            refine fw_cV (As := []) (rest := []) E hK hH hl hW48.1.2 fc_X9 fL_X9_sketched ql_RX10_70 qi_yX9_sketched qv_yX9_sketched (b_sketchedE l G _ _ (a + 1) hW48.1 hE48) rfl rfl (Nat.le_of_ble_eq_true rfl) ⟨Nat.le_of_ble_eq_true rfl, Nat.le_of_ble_eq_true rfl⟩ ⟨by show _ ≤ (320 : Nat); omega, by show _ ≤ (63922 : Nat); omega⟩ dX10_plant_125 (fw_ki fun r15 M14 H1 locs1 hp13 hH hz1 => ?_)
            obtain ⟨rfl, hM9, hz2⟩ := hp13
            replace hz := hz2.trans hz
            clear hz1 hz2
            rw [hM9] at hH
            refine fw_if_ne (tgt := 135) E dX10_plant_128 (by decide) (by omega) (by omega) (fun c16 => ?_) (fun c16 => ?_)
            · exact absurd c16 (by omega)
            · refine lv_iconst (v := iI 1) E.1 E.2.1 dX10_plant_131 (by decide) ?_
              refine lv_goto (tgt := 136) E.1 E.2.1 dX10_plant_132 (by decide) ?_
              refine W.widen (k := 320) (n := 63922) (by omega) (by omega) ?_
              refine fw_zret (r := (iI 1)) E hr hlk hH (by rfl) ?_ dX10_plant_136
              exact ⟨rfl, ⟨dwj + 0, setT T cn t, by omega, by omega, ⟨hba, by rw [show ((↑(cn + 1)) : Int) = ↑cn + 1 by omega]; exact g0, ⟨_, u1⟩, _, u2⟩, hW48, setT_add hTk ht, hE48⟩, (fun q hq => by rw [fr11 q (by omega), fr8 q (by omega), fr4 q (by omega)]; exact hfr0 q hq), by omega⟩
        · have hndi := ht.1.2.2.2.2.2 i (by omega)
          have hndc := hndi.1
          have hpp := pn_parts ht.1.2.2.2.1 ht.1.1.2 (show i < t.1 by omega)
          have hpl := pn_le ht.1.2.2.2.1 ht.1.1.2 (t.1 - i) i (Nat.le_refl _)
          have har := arN_le (t.2.1 i)
          have hai := hag i (by omega)
          refine lv_iload_n E.1 E.2.1 dX10_plant_37 rfl (lv_at hl 2 rfl) ?_
          refine lv_aload_n E.1 E.2.1 dX10_plant_38 rfl (lv_at hl 1 rfl) ?_
          refine lv_iload_n E.1 E.2.1 dX10_plant_39 rfl (lv_at hl 3 rfl) ?_
          refine fw_iald E hK hH hA (iI_in (by omega) (by omega) (by omega)) dX10_plant_40 ?_
          refine fw_cv (y := iI (t.2.1 i)) (by rw [iI_ix (by omega) (by omega), Int.toNat_natCast, hai.1]) ?_
          refine fw_cS (As := [.int (iI (t.2.1 i))]) (rest := [.int (iI (↑(pnN t.1 t.2.2.2 i)))]) E hK hH hl fL_X10_many ql_RX10_52 qs_yX10_many (l_many l G _ _ (t.2.1 i) (by omega)) rfl rfl (Nat.le_of_ble_eq_true rfl) ⟨Nat.le_of_ble_eq_true rfl, Nat.le_of_ble_eq_true rfl⟩ ⟨by show _ ≤ (320 : Nat); omega, by show _ ≤ (63922 : Nat); omega⟩ dX10_plant_41 (fw_ki fun r19 M18 H1 locs1 hp17 hH hz1 => ?_)
          obtain ⟨rfl, hM9, hz2⟩ := hp17
          have har101 := arN_le (t.2.1 i)
          replace hz := hz2.trans hz
          clear hz1 hz2
          rw [hM9] at hH
          refine lv_iconst (v := iI 1) E.1 E.2.1 dX10_plant_44 (by decide) ?_
          refine fw_isub E dX10_plant_45 ?_
          refine fw_iadd E dX10_plant_46 ?_
          refine fw_cv (y := iI (↑(pnN t.1 t.2.2.2 (i + 1)))) (congrArg iI (by omega)) ?_
          refine lv_istore_n (lv' := [(2, .int (iI (↑(pnN t.1 t.2.2.2 (i + 1))))), (0, .ref a), (1, .ref ca), (3, .int (iI (↑(2 * i))))]) E.1 E.2.1 dX10_plant_47 rfl hl (by decide) rfl (fun ls hl => ?_)
          refine lv_aload_n E.1 E.2.1 dX10_plant_48 rfl (lv_at hl 1 rfl) ?_
          refine fw_get E hK hH g0 fc_X10 0 (by decide) ql_RX10_10 rfl rfl dX10_plant_49 ?_
          refine lv_aload_n E.1 E.2.1 dX10_plant_52 rfl (lv_at hl 2 rfl) ?_
          refine lv_iload_n E.1 E.2.1 dX10_plant_53 rfl (lv_at hl 3 rfl) ?_
          refine fw_iald E hK hH hA (iI_in (by omega) (by omega) (by omega)) dX10_plant_54 ?_
          refine fw_cv (y := iI (t.2.1 i)) (by rw [iI_ix (by omega) (by omega), Int.toNat_natCast, hai.1]) ?_
          refine lv_aload_n E.1 E.2.1 dX10_plant_55 rfl (lv_at hl 2 rfl) ?_
          refine lv_iload_n E.1 E.2.1 dX10_plant_56 rfl (lv_at hl 3 rfl) ?_
          refine lv_iconst (v := iI 1) E.1 E.2.1 dX10_plant_57 (by decide) ?_
          refine fw_iadd E dX10_plant_58 ?_
          refine fw_iald E hK hH hA (iI_in (by omega) (by omega) (by omega)) dX10_plant_59 ?_
          refine fw_cv (y := iI (t.2.2.1 i)) (by rw [iI_ix (by omega) (by omega), show ((↑(2 * i) : Int) + 1).toNat = 2 * i + 1 by omega, hai.2]) ?_
          refine fw_cV (As := [.int (iI (t.2.1 i)), .int (iI (t.2.2.1 i))]) (rest := []) E hK hH hl hW.1.2 fc_X9 fL_X9_sketch ql_RX10_67 qi_yX9_sketch qv_yX9_sketch (b_sketch l G _ _ (a + 1) i t hW.1 hSk ht (by omega)) rfl rfl (Nat.le_of_ble_eq_true rfl) ⟨Nat.le_of_ble_eq_true rfl, Nat.le_of_ble_eq_true rfl⟩ ⟨by show _ ≤ (320 : Nat); omega, by show _ ≤ (63922 : Nat); omega⟩ dX10_plant_60 (fw_ki fun r22 M21 H1 locs1 hp20 hH hz1 => ?_)
          obtain ⟨rfl, hK124, hfr, hz2⟩ := hp20
          replace hz := hz2.trans hz
          clear hz1 hz2
          have fr23 := hfr
          replace g0 : M21 a = some (.inr (10, [.ref (a + 1), .ref (G.2.2.2.2 3), .int (iI ↑dwj), .int (iI ↑cn), .ref (a + 379), .int (iI ↑j.2.2.2.2.1), .ref (a + 380)])) := (fr23 _ (by omega)).trans g0
          replace u1 : M21 (a + 379) = some (fU G 16 f1) := (fr23 _ (by omega)).trans u1
          replace u2 : M21 (a + 380) = some (fU G 12 f2) := (fr23 _ (by omega)).trans u2
          replace hW := bnR.fr hW (fun q h1 h2 => fr23 q (by omega))
          replace hA : M21 ca = some (fI G (2 * t.1) (fun j0 => iI (f j0))) := (fr23 _ (by omega)).trans hA
          refine lv_iload_n E.1 E.2.1 dX10_plant_63 rfl (lv_at hl 0 rfl) ?_
          refine fw_icmp_ne (tgt := 82) E dX10_plant_64 (by decide) (by omega) (by omega) (by omega) (by omega) (fun c24 => ?_) (fun c24 => ?_)
          · exact absurd c24 (by omega)
          · refine lv_aload_n E.1 E.2.1 dX10_plant_67 rfl (lv_at hl 1 rfl) ?_
            refine fw_get E hK hH g0 fc_X10 0 (by decide) ql_RX10_10 rfl rfl dX10_plant_68 ?_
            refine fw_cV (As := []) (rest := []) E hK hH hl hW.1.2 fc_X9 fL_X9_sketched ql_RX10_70 qi_yX9_sketched qv_yX9_sketched (b_sketched l G _ _ (a + 1) (i + 1) t hW.1 hK124 ht) rfl rfl (Nat.le_of_ble_eq_true rfl) ⟨Nat.le_of_ble_eq_true rfl, Nat.le_of_ble_eq_true rfl⟩ ⟨by show _ ≤ (320 : Nat); omega, by show _ ≤ (63922 : Nat); omega⟩ dX10_plant_71 (fw_ki fun r27 M26 H1 locs1 hp25 hH hz1 => ?_)
            obtain ⟨rfl, hM9, hz2⟩ := hp25
            replace hz := hz2.trans hz
            clear hz1 hz2
            rw [hM9] at hH
            refine lv_iload_n E.1 E.2.1 dX10_plant_74 rfl (lv_at hl 3 rfl) ?_
            refine lv_iconst (v := iI 2) E.1 E.2.1 dX10_plant_75 (by decide) ?_
            refine fw_idiv E (by omega) (by omega) (by omega) (by omega) (by omega) dX10_plant_76 ?_
            refine fw_cv (y := iI (↑i)) (congrArg iI (show ((2 * i / 2 : Nat) : Int) = ↑i by omega)) ?_
            refine lv_iconst (v := iI 1) E.1 E.2.1 dX10_plant_77 (by decide) ?_
            refine fw_iadd E dX10_plant_78 ?_
            refine fw_icmp_eq (tgt := 84) E dX10_plant_79 (by decide) (by omega) (by omega) (by omega) (by omega) (fun c28 => ?_) (fun c28 => ?_)
            · refine lv_iinc (v := iI (↑(2 * (i + 1)))) (lv' := [(3, .int (iI (↑(2 * (i + 1))))), (2, .int (iI (↑(pnN t.1 t.2.2.2 (i + 1))))), (0, .ref a), (1, .ref ca)]) E.1 E.2.1 dX10_plant_84 hl (k := 3) rfl (iI_inc (congrArg iI (by omega))) (by decide) rfl (fun ls hl => ?_)
              refine lv_goto (tgt := 31) E.1 E.2.1 dX10_plant_87 (by decide) ?_
              refine W.widen (k := 320) (n := 63922) (by omega) (by omega) ?_
              exact ih31 (i + 1) _ _ _ _ (by omega) (by omega) (fun q hq => by rw [fr23 q (by omega)]; exact hfr0 q hq) hH (by omega) g0 u1 u2 hW hK124 hA (lv_sub hl [2, 3, 1, 0] rfl)
            · exact absurd (by omega) c28
    refine W.widen (k := 320) (n := 63922) (by omega) (by omega) ?_
    exact loop31_1 (t.1 - 0 + 1) 0 _ _ _ _ (Nat.lt_succ_self _) (Nat.zero_le _) hfr0 hH (by omega) g0 u1 u2 hW (hE.t ht) hA (lv_sub hl [2, 3, 1, 0] rfl)
  have join13 : ∀ (ca : Nat) (n : Nat) (f : Nat → Int) (dwj : Nat) (sz : Nat) (Mj13 : fw_M) (H : Heap) (locs : List Loc) (ls : Array Slot), pcP 1 5 121 n f → N ≤ ca ∧ ca < sz → dw ≤ dwj ∧ dwj ≤ dw + 364 → (∀ q, (q < a ∨ a + 381 ≤ q) ∧ q < N → Mj13 q = M q) → fw_H G s Mj13 H locs → H.size = sz → Mj13 a = some (.inr (10, [.ref (a + 1), .ref (G.2.2.2.2 3), .int (iI ↑dwj), .int (iI ↑cn), .ref (a + 379), .int (iI ↑j.2.2.2.2.1), .ref (a + 380)])) → Mj13 (a + 379) = some (fU G 16 f1) → Mj13 (a + 380) = some (fU G 12 f2) → bnR G Mj13 (a + 1) o cn lk gn mi T j ra → skE G Mj13 (a + 2) → Mj13 ca = some (fI G (2 * n) (fun j0 => iI (f j0))) → lv_has ls 4 [(0, .ref a), (1, .ref ca)] → W pG l e ({ frames := 8, cells := 320, slots := 63922, locals := 230 } : Room) s m args below meth cG H locs (241) (48242) (MQ below (fw_Q G (fw_pi (fun r M1 n1 => r = iI 1 ∧ (∃ (dw1 : Nat) (T1 : Nat → aT), dw ≤ dw1 ∧ dw1 ≤ dw + 484 ∧ lgA G M1 a dw1 (cn + 1) j.2.2.2.2.1 ∧ bnR G M1 (a + 1) o (cn + 1) lk gn mi T1 j ra ∧ (∀ k, k < cn + 1 → aOK (T1 k)) ∧ skE G M1 (a + 2)) ∧ (∀ q, (q < a ∨ a + 381 ≤ q) ∧ q < N → M1 q = M q) ∧ N ≤ n1))) args s 320 63922 (fun q => G.2.2.1 ≤ q)) (F0 m 13 ls []) := by
    intro ca n f dwj sz Mj13 H locs ls hpc hca hdj hfr0 hH hz g0 u1 u2 hW hE hA hl
    have hpn := hpc.n0
    refine lv_aload_n E.1 E.2.1 dX10_plant_13 rfl (lv_at hl 1 rfl) ?_
    refine fw_alen E hK hH hA dX10_plant_14 ?_
    refine fw_cv (y := iI (↑(2 * n))) (nI_iI _) ?_
    refine lv_bipush (v := iI 80) E.1 E.2.1 dX10_plant_15 (by decide) ?_
    refine fw_icmp_le (tgt := 27) E dX10_plant_17 (by decide) (by omega) (by omega) (by omega) (by omega) (fun c29 => ?_) (fun c29 => ?_)
    · refine W.widen (k := 320) (n := 63922) (by omega) (by omega) ?_
      obtain ⟨t, ht, htn, hag⟩ := pcP_tree hpc (by omega) (by omega)
      rw [← htn] at hag
      rw [← htn] at hA
      exact join27 ca t f dwj sz _ _ _ _ ht hag (by omega) (by omega) hfr0 hH (by omega) g0 u1 u2 hW hE hA (lv_sub hl [0, 1] rfl)
    · refine lv_aload_n E.1 E.2.1 dX10_plant_20 rfl (lv_at hl 0 rfl) ?_
      refine lv_iconst (v := iI 1) E.1 E.2.1 dX10_plant_21 (by decide) ?_
      refine lv_iconst (v := iI 3) E.1 E.2.1 dX10_plant_22 (by decide) ?_
      refine fw_cV (As := [.int (iI 1), .int (iI 3)]) (rest := []) E hK hH hl g0 fc_X10 fL_X10_grown ql_RX10_59 qi_yX10_grown qv_yX10_grown (l_grown3 l G _ _ a dwj 1 ↑cn ↑j.2.2.2.2.1 (by omega) (by omega) g0 (by omega) (by omega)) rfl rfl (Nat.le_of_ble_eq_true rfl) ⟨Nat.le_of_ble_eq_true rfl, Nat.le_of_ble_eq_true rfl⟩ ⟨by show _ ≤ (320 : Nat); omega, by show _ ≤ (63922 : Nat); omega⟩ dX10_plant_23 (fw_kr fun rg174 M31 H1 locs1 hp30 hH hz1 => ?_)
      obtain ⟨⟨ng174, fg174, hra174, hrb174, hR174, hpc174⟩, ⟨dwg174, hob174, hda174, hdb174⟩, hfr, hz2⟩ := hp30
      rw [hz] at hra174 hfr hz2
      obtain ⟨sz174, hsz174⟩ : ∃ y, y = H1.size := ⟨_, rfl⟩
      rw [← hsz174] at hrb174 hz2
      replace hz := hsz174.symm
      have hng174 := hpc174.n0
      clear hz1
      have fr32 := hfr
      replace u1 : M31 (a + 379) = some (fU G 16 f1) := (fr32 _ (by omega)).trans u1
      replace u2 : M31 (a + 380) = some (fU G 12 f2) := (fr32 _ (by omega)).trans u2
      replace hW := bnR.fr hW (fun q h1 h2 => fr32 q (by omega))
      replace hE := skE.fr hE (fun q h1 h2 => fr32 q (by omega))
      replace hA : M31 ca = some (fI G (2 * n) (fun j0 => iI (f j0))) := (fr32 _ (by omega)).trans hA
      refine lv_astore_n (lv' := [(1, .ref rg174), (0, .ref a)]) E.1 E.2.1 dX10_plant_26 rfl hl (by decide) rfl (fun ls hl => ?_)
      refine W.widen (k := 320) (n := 63922) (by omega) (by omega) ?_
      obtain ⟨t, ht, htn, hag⟩ := pcP_tree (hpc174.mono (Nat.le_refl _) (Nat.le_refl _)) (by omega) (by omega)
      rw [← htn] at hag
      rw [← htn] at hR174
      exact join27 rg174 t fg174 dwg174 sz174 _ _ _ _ ht hag (by omega) (by omega) (fun q hq => by rw [fr32 q (by omega)]; exact hfr0 q hq) hH (by omega) hob174 u1 u2 hW hE hR174 (lv_sub hl [1, 0] rfl)
  refine lv_aload_n E.1 E.2.1 dX10_plant_0 rfl (lv_at hl 0 rfl) ?_
  refine lv_iconst (v := iI 1) E.1 E.2.1 dX10_plant_1 (by decide) ?_
  refine lv_iconst (v := iI 2) E.1 E.2.1 dX10_plant_2 (by decide) ?_
  refine lv_aload_n E.1 E.2.1 dX10_plant_3 rfl (lv_at hl 0 rfl) ?_
  refine lv_iconst (v := iI 3) E.1 E.2.1 dX10_plant_4 (by decide) ?_
  refine fw_cV (As := [.int (iI 3)]) (rest := [.int (iI 2), .int (iI 1), .ref a]) E hK hH hl g0 fc_X10 fL_X10_draw ql_RX10_48 qi_yX10_draw qv_yX10_draw (l_draw l G _ _ a dw 3 ↑cn ↑j.2.2.2.2.1 (by omega) g0 (by omega) (by omega)) rfl rfl (Nat.le_of_ble_eq_true rfl) ⟨Nat.le_of_ble_eq_true rfl, Nat.le_of_ble_eq_true rfl⟩ ⟨by show _ ≤ (320 : Nat); omega, by show _ ≤ (63922 : Nat); omega⟩ dX10_plant_5 (fw_ki fun r35 M34 H1 locs1 hp33 hH hz1 => ?_)
  obtain ⟨⟨kr199, rfl, hkr199⟩, hob199, hfr, hz2⟩ := hp33
  replace hz := hz2.trans hz
  clear hz1 hz2
  have fr36 := hfr
  replace u1 : M34 (a + 379) = some (fU G 16 f1) := (fr36 _ (by omega)).trans u1
  replace u2 : M34 (a + 380) = some (fU G 12 f2) := (fr36 _ (by omega)).trans u2
  replace hW := bnR.fr hW (fun q h1 h2 => fr36 q (by omega))
  replace hE := skE.fr hE (fun q h1 h2 => fr36 q (by omega))
  refine fw_iadd E dX10_plant_8 ?_
  rcases (show kr199 = 0 ∨ kr199 = 1 ∨ kr199 = 2 by omega) with hk9 | hk9 | hk9
  · refine fw_cv (y := iI 2) (congrArg iI (by omega)) ?_
    refine fw_cV (As := [.int (iI 1), .int (iI 2)]) (rest := []) E hK hH hl hob199 fc_X10 fL_X10_grown ql_RX10_59 qi_yX10_grown qv_yX10_grown (l_grown2 l G _ _ a (dw + 1) 1 ↑cn ↑j.2.2.2.2.1 (by omega) (by omega) hob199 (by omega) (by omega)) rfl rfl (Nat.le_of_ble_eq_true rfl) ⟨Nat.le_of_ble_eq_true rfl, Nat.le_of_ble_eq_true rfl⟩ ⟨by show _ ≤ (320 : Nat); omega, by show _ ≤ (63922 : Nat); omega⟩ dX10_plant_9 (fw_kr fun rg211 M38 H1 locs1 hp37 hH hz1 => ?_)
    obtain ⟨⟨ng211, fg211, hra211, hrb211, hR211, hpc211⟩, ⟨dwg211, hob211, hda211, hdb211⟩, hfr, hz2⟩ := hp37
    rw [hz] at hra211 hfr hz2
    obtain ⟨sz211, hsz211⟩ : ∃ y, y = H1.size := ⟨_, rfl⟩
    rw [← hsz211] at hrb211 hz2
    replace hz := hsz211.symm
    have hng211 := hpc211.n0
    clear hz1
    have fr39 := hfr
    replace u1 : M38 (a + 379) = some (fU G 16 f1) := (fr39 _ (by omega)).trans u1
    replace u2 : M38 (a + 380) = some (fU G 12 f2) := (fr39 _ (by omega)).trans u2
    replace hW := bnR.fr hW (fun q h1 h2 => fr39 q (by omega))
    replace hE := skE.fr hE (fun q h1 h2 => fr39 q (by omega))
    refine lv_astore_n (lv' := [(1, .ref rg211), (0, .ref a)]) E.1 E.2.1 dX10_plant_12 rfl hl (by decide) rfl (fun ls hl => ?_)
    refine W.widen (k := 241) (n := 48242) (by omega) (by omega) ?_
    exact join13 rg211 ng211 fg211 dwg211 sz211 _ _ _ _ (hpc211.mono (by omega) (by omega)) (by omega) (by omega) (fun q hq => by rw [fr39 q (by omega), fr36 q (by omega)]) hH (by omega) hob211 u1 u2 hW hE hR211 (lv_sub hl [1, 0] rfl)
  · refine fw_cv (y := iI 3) (congrArg iI (by omega)) ?_
    refine fw_cV (As := [.int (iI 1), .int (iI 3)]) (rest := []) E hK hH hl hob199 fc_X10 fL_X10_grown ql_RX10_59 qi_yX10_grown qv_yX10_grown (l_grown3 l G _ _ a (dw + 1) 1 ↑cn ↑j.2.2.2.2.1 (by omega) (by omega) hob199 (by omega) (by omega)) rfl rfl (Nat.le_of_ble_eq_true rfl) ⟨Nat.le_of_ble_eq_true rfl, Nat.le_of_ble_eq_true rfl⟩ ⟨by show _ ≤ (320 : Nat); omega, by show _ ≤ (63922 : Nat); omega⟩ dX10_plant_9 (fw_kr fun rg228 M41 H1 locs1 hp40 hH hz1 => ?_)
    obtain ⟨⟨ng228, fg228, hra228, hrb228, hR228, hpc228⟩, ⟨dwg228, hob228, hda228, hdb228⟩, hfr, hz2⟩ := hp40
    rw [hz] at hra228 hfr hz2
    obtain ⟨sz228, hsz228⟩ : ∃ y, y = H1.size := ⟨_, rfl⟩
    rw [← hsz228] at hrb228 hz2
    replace hz := hsz228.symm
    have hng228 := hpc228.n0
    clear hz1
    have fr42 := hfr
    replace u1 : M41 (a + 379) = some (fU G 16 f1) := (fr42 _ (by omega)).trans u1
    replace u2 : M41 (a + 380) = some (fU G 12 f2) := (fr42 _ (by omega)).trans u2
    replace hW := bnR.fr hW (fun q h1 h2 => fr42 q (by omega))
    replace hE := skE.fr hE (fun q h1 h2 => fr42 q (by omega))
    refine lv_astore_n (lv' := [(1, .ref rg228), (0, .ref a)]) E.1 E.2.1 dX10_plant_12 rfl hl (by decide) rfl (fun ls hl => ?_)
    refine W.widen (k := 241) (n := 48242) (by omega) (by omega) ?_
    exact join13 rg228 ng228 fg228 dwg228 sz228 _ _ _ _ (hpc228.mono (by omega) (by omega)) (by omega) (by omega) (fun q hq => by rw [fr42 q (by omega), fr36 q (by omega)]) hH (by omega) hob228 u1 u2 hW hE hR228 (lv_sub hl [1, 0] rfl)
  · refine fw_cv (y := iI 4) (congrArg iI (by omega)) ?_
    refine fw_cV (As := [.int (iI 1), .int (iI 4)]) (rest := []) E hK hH hl hob199 fc_X10 fL_X10_grown ql_RX10_59 qi_yX10_grown qv_yX10_grown (l_grown4 l G _ _ a (dw + 1) 1 ↑cn ↑j.2.2.2.2.1 (by omega) (by omega) hob199 (by omega) (by omega)) rfl rfl (Nat.le_of_ble_eq_true rfl) ⟨Nat.le_of_ble_eq_true rfl, Nat.le_of_ble_eq_true rfl⟩ ⟨by show _ ≤ (320 : Nat); omega, by show _ ≤ (63922 : Nat); omega⟩ dX10_plant_9 (fw_kr fun rg245 M44 H1 locs1 hp43 hH hz1 => ?_)
    obtain ⟨⟨ng245, fg245, hra245, hrb245, hR245, hpc245⟩, ⟨dwg245, hob245, hda245, hdb245⟩, hfr, hz2⟩ := hp43
    rw [hz] at hra245 hfr hz2
    obtain ⟨sz245, hsz245⟩ : ∃ y, y = H1.size := ⟨_, rfl⟩
    rw [← hsz245] at hrb245 hz2
    replace hz := hsz245.symm
    have hng245 := hpc245.n0
    clear hz1
    have fr45 := hfr
    replace u1 : M44 (a + 379) = some (fU G 16 f1) := (fr45 _ (by omega)).trans u1
    replace u2 : M44 (a + 380) = some (fU G 12 f2) := (fr45 _ (by omega)).trans u2
    replace hW := bnR.fr hW (fun q h1 h2 => fr45 q (by omega))
    replace hE := skE.fr hE (fun q h1 h2 => fr45 q (by omega))
    refine lv_astore_n (lv' := [(1, .ref rg245), (0, .ref a)]) E.1 E.2.1 dX10_plant_12 rfl hl (by decide) rfl (fun ls hl => ?_)
    refine W.widen (k := 241) (n := 48242) (by omega) (by omega) ?_
    exact join13 rg245 ng245 fg245 dwg245 sz245 _ _ _ _ (hpc245.mono (by omega) (by omega)) (by omega) (by omega) (fun q hq => by rw [fr45 q (by omega), fr36 q (by omega)]) hH (by omega) hob245 u1 u2 hW hE hR245 (lv_sub hl [1, 0] rfl)

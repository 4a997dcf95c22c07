set_option maxHeartbeats 4000000 in
theorem l_grown2 (l : Launch) (G : fw_G) (M : fw_M) (N : Nat) (a dw : Nat) (b tr cs : Int) (hba : G.2.2.1 ≤ a) (haN : a + 381 ≤ N) (g0 : M a = some (.inr (10, [.ref (a + 1), .ref (G.2.2.2.2 3), .int (iI ↑dw), .int (iI tr), .ref (a + 379), .int (iI cs), .ref (a + 380)]))) (hb : b = 0 ∨ b = 1) (hd9 : dw + 39 ≤ 20000) : fMet l yX10_grown cX10_grown 6 (some (.array .int)) 5 125 25 4826 G M N [.ref a, .int (iI b), .int (iI 2)] (fw_pr (fun r M1 n1 => (∃ (n : Nat) (f : Nat → Int), N ≤ r ∧ r < n1 ∧ M1 r = some (fI G (2 * n) (fun j0 => iI (f j0))) ∧ pcP b 3 13 n f) ∧ (∃ dw1 : Nat, M1 a = some (.inr (10, [.ref (a + 1), .ref (G.2.2.2.2 3), .int (iI ↑dw1), .int (iI tr), .ref (a + 379), .int (iI cs), .ref (a + 380)])) ∧ dw ≤ dw1 ∧ dw1 ≤ dw + 39) ∧ (∀ q, q ≠ a ∧ q < N → M1 q = M q) ∧ N ≤ n1)) := by
  refine fw_met RX10 rfl (by decide +kernel) (Nat.le_of_ble_eq_true rfl) ?_
  intro pG e s m args below meth cG ls E hr hlk hnm hK hH hz hl
  have join111 : ∀ (x : Int) (v : Int) (dwj : Nat) (f : Nat → Int) (Mj111 : fw_M) (H : Heap) (locs : List Loc) (ls : Array Slot), ndOK x v → numI x = b → 0 ≤ x → f 0 = x → f 1 = v → dw ≤ dwj ∧ dwj ≤ dw + 3 → (∀ q, q ≠ a ∧ q < N → Mj111 q = M q) → fw_H G s Mj111 H locs → H.size = N + 1 → Mj111 a = some (.inr (10, [.ref (a + 1), .ref (G.2.2.2.2 3), .int (iI ↑dwj), .int (iI tr), .ref (a + 379), .int (iI cs), .ref (a + 380)])) → Mj111 N = some (fI G 2 (fun j0 => iI (f j0))) → lv_has ls 6 [(0, .ref a), (1, .int (iI b)), (2, .int (iI 2)), (3, .int (iI x)), (4, .ref N)] → W pG l e ({ frames := 5, cells := 25, slots := 4826, locals := 125 } : Room) s m args below meth cG H locs (1) (2) (MQ below (fw_Q G (fw_pr (fun r M1 n1 => (∃ (n : Nat) (f : Nat → Int), N ≤ r ∧ r < n1 ∧ M1 r = some (fI G (2 * n) (fun j0 => iI (f j0))) ∧ pcP b 3 13 n f) ∧ (∃ dw1 : Nat, M1 a = some (.inr (10, [.ref (a + 1), .ref (G.2.2.2.2 3), .int (iI ↑dw1), .int (iI tr), .ref (a + 379), .int (iI cs), .ref (a + 380)])) ∧ dw ≤ dw1 ∧ dw1 ≤ dw + 39) ∧ (∀ q, q ≠ a ∧ q < N → M1 q = M q) ∧ N ≤ n1))) args s 25 4826 (fun q => G.2.2.1 ≤ q)) (F0 m 111 ls []) := by
    intro x v dwj f Mj111 H locs ls hnv hnx hxd hf0 hf1 hdj hfr0 hH hz g0 hA hl
    refine lv_iconst (v := iI 0) E.1 E.2.1 dX10_grown_111 (by decide) ?_
    refine lv_istore (lv' := [(5, .int (iI 0)), (0, .ref a), (1, .int (iI b)), (2, .int (iI 2)), (3, .int (iI x)), (4, .ref N)]) E.1 E.2.1 dX10_grown_112 hl (by decide) rfl (fun ls hl => ?_)
    have loop114_1 : ∀ (d114 : Nat) (i : Nat) (n : Nat) (cur : Nat) (h : Nat → Int) (dwl : Nat) (sz : Nat) (Mw114 : fw_M) (H : Heap) (locs : List Loc) (ls : Array Slot), arN x - i < d114 → i ≤ arN x → ptP x 2 i 4 n h → N ≤ cur ∧ cur < sz → dw ≤ dwl ∧ dwl ≤ dw + 3 + i * 12 → (∀ q, q ≠ a ∧ q < N → Mw114 q = M q) → fw_H G s Mw114 H locs → H.size = sz → Mw114 a = some (.inr (10, [.ref (a + 1), .ref (G.2.2.2.2 3), .int (iI ↑dwl), .int (iI tr), .ref (a + 379), .int (iI cs), .ref (a + 380)])) → Mw114 cur = some (fI G (2 * n) (fun j0 => iI (h j0))) → lv_has ls 6 [(0, .ref a), (1, .int (iI b)), (2, .int (iI 2)), (3, .int (iI x)), (4, .ref cur), (5, .int (iI ↑i))] → W pG l e ({ frames := 5, cells := 25, slots := 4826, locals := 125 } : Room) s m args below meth cG H locs (1 + i * 8) (2 + i * 1608) (MQ below (fw_Q G (fw_pr (fun r M1 n1 => (∃ (n : Nat) (f : Nat → Int), N ≤ r ∧ r < n1 ∧ M1 r = some (fI G (2 * n) (fun j0 => iI (f j0))) ∧ pcP b 3 13 n f) ∧ (∃ dw1 : Nat, M1 a = some (.inr (10, [.ref (a + 1), .ref (G.2.2.2.2 3), .int (iI ↑dw1), .int (iI tr), .ref (a + 379), .int (iI cs), .ref (a + 380)])) ∧ dw ≤ dw1 ∧ dw1 ≤ dw + 39) ∧ (∀ q, q ≠ a ∧ q < N → M1 q = M q) ∧ N ≤ n1))) args s 25 4826 (fun q => G.2.2.1 ≤ q)) (F0 m 114 ls []) := by
      intro d114
      induction d114 with
      | zero => intro i n cur h dwl sz Mw114 H locs ls hd; exact absurd hd (Nat.not_lt_zero _)
      | succ d114 ih114 =>
        intro i n cur h dwl sz Mw114 H locs ls hd114 ii hP hcur hdl hfr0 hH hz g0 hA hl
        have hpn := hP.n0
        have har := arN_le x
        have hnv0 := hnv.1
        refine lv_iload E.1 E.2.1 dX10_grown_114 (lv_at hl 5 rfl) ?_
        refine lv_iload_n E.1 E.2.1 dX10_grown_116 rfl (lv_at hl 3 rfl) ?_
        refine fw_cS (As := [.int (iI x)]) (rest := [.int (iI ↑i)]) E hK hH hl fL_X10_many ql_RX10_52 qs_yX10_many (l_many l G _ _ x (by omega)) rfl rfl (Nat.le_of_ble_eq_true rfl) ⟨Nat.le_of_ble_eq_true rfl, Nat.le_of_ble_eq_true rfl⟩ ⟨by show _ ≤ (25 : Nat); omega, by show _ ≤ (4826 : Nat); omega⟩ dX10_grown_117 (fw_ki fun r3 M2 H1 locs1 hp1 hH hz1 => ?_)
        obtain ⟨rfl, hM9, hz2⟩ := hp1
        have har19 := arN_le x
        replace hz := hz2.trans hz
        clear hz1 hz2
        rw [hM9] at hH
        refine fw_icmp_ge (tgt := 149) E dX10_grown_120 (by decide) (by omega) (by omega) (by omega) (by omega) (fun c4 => ?_) (fun c4 => ?_)
        · refine lv_aload E.1 E.2.1 dX10_grown_149 (lv_at hl 4 rfl) ?_
          refine W.widen (k := 25) (n := 4826) (by omega) (by omega) ?_
          refine fw_aret E hr (Or.inr ⟨_, rfl⟩) hlk hH ?_ dX10_grown_151
          have e9 : i = arN x := by omega
          exact ⟨⟨n, h, hcur.1, by omega, hA, by rw [← hnx]; exact ptP_end hP e9⟩, ⟨dwl, g0, by omega, by omega⟩, hfr0, by omega⟩
        · refine lv_aload E.1 E.2.1 dX10_grown_123 (lv_at hl 4 rfl) ?_
          refine lv_aload_n E.1 E.2.1 dX10_grown_125 rfl (lv_at hl 0 rfl) ?_
          refine lv_iload_n E.1 E.2.1 dX10_grown_126 rfl (lv_at hl 3 rfl) ?_
          refine lv_iload E.1 E.2.1 dX10_grown_127 (lv_at hl 5 rfl) ?_
          refine fw_cS (As := [.int (iI x), .int (iI ↑i)]) (rest := [.ref a, .ref cur]) E hK hH hl fL_X10_isNumber ql_RX10_55 qs_yX10_isNumber (l_isNumber l G _ _ x i (by omega) (by omega)) rfl rfl (Nat.le_of_ble_eq_true rfl) ⟨Nat.le_of_ble_eq_true rfl, Nat.le_of_ble_eq_true rfl⟩ ⟨by show _ ≤ (25 : Nat); omega, by show _ ≤ (4826 : Nat); omega⟩ dX10_grown_129 (fw_ki fun r7 M6 H1 locs1 hp5 hH hz1 => ?_)
          obtain ⟨rfl, hM9, hz2⟩ := hp5
          have hnm35 := nmP_01 x i
          replace hz := hz2.trans hz
          clear hz1 hz2
          rw [hM9] at hH
          refine lv_iload_n E.1 E.2.1 dX10_grown_132 rfl (lv_at hl 2 rfl) ?_
          refine lv_iconst (v := iI 1) E.1 E.2.1 dX10_grown_133 (by decide) ?_
          refine fw_isub E dX10_grown_134 ?_
          refine fw_cv (y := iI (1)) (by decide) ?_
          refine fw_cV (As := [.int (iI (nmP x i)), .int (iI (1))]) (rest := [.ref cur]) E hK hH hl g0 fc_X10 fL_X10_grown ql_RX10_59 qi_yX10_grown qv_yX10_grown (l_grown1 l G _ _ a dwl (nmP x i) tr cs (by omega) (by omega) g0 (by omega) (by omega)) rfl rfl (Nat.le_of_ble_eq_true rfl) ⟨Nat.le_of_ble_eq_true rfl, Nat.le_of_ble_eq_true rfl⟩ ⟨by show _ ≤ (25 : Nat); omega, by show _ ≤ (4826 : Nat); omega⟩ dX10_grown_135 (fw_kr fun rg45 M9 H1 locs1 hp8 hH hz1 => ?_)
          obtain ⟨⟨ng45, fg45, hra45, hrb45, hR45, hpc45⟩, ⟨dwg45, hob45, hda45, hdb45⟩, hfr, hz2⟩ := hp8
          rw [hz] at hra45 hfr hz2
          obtain ⟨sz45, hsz45⟩ : ∃ y, y = H1.size := ⟨_, rfl⟩
          rw [← hsz45] at hrb45 hz2
          replace hz := hsz45.symm
          have hng45 := hpc45.n0
          clear hz1
          have fr10 := hfr
          replace hA : M9 cur = some (fI G (2 * n) (fun j0 => iI (h j0))) := (fr10 _ (by omega)).trans hA
          refine fw_cS (As := [.ref cur, .ref rg45]) (rest := []) E hK hH hl fL_X10_joined ql_RX10_63 qs_yX10_joined (l_joined l G _ _ cur rg45 (2 * n) (2 * ng45) h fg45 hA hR45 (by omega) (by omega) (by omega) (by omega)) rfl rfl (Nat.le_of_ble_eq_true rfl) ⟨Nat.le_of_ble_eq_true rfl, Nat.le_of_ble_eq_true rfl⟩ ⟨by show _ ≤ (25 : Nat); omega, by show _ ≤ (4826 : Nat); omega⟩ dX10_grown_138 (fw_kr fun rj55 M12 H1 locs1 hp11 hH hz1 => ?_)
          obtain ⟨hr9, ⟨hj55, hJ55, hja55, hjb55⟩, hfr, hz2⟩ := hp11
          rw [hz] at hr9 hJ55 hfr hz2
          rw [hr9]
          replace hz : H1.size = sz45 + 1 := by omega
          clear hz1 hz2
          have fr13 := hfr
          replace hA : M12 cur = some (fI G (2 * n) (fun j0 => iI (h j0))) := (fr13 _ (by omega)).trans hA
          replace hob45 : M12 a = some (.inr (10, [.ref (a + 1), .ref (G.2.2.2.2 3), .int (iI ↑dwg45), .int (iI tr), .ref (a + 379), .int (iI cs), .ref (a + 380)])) := (fr13 _ (by omega)).trans hob45
          replace hR45 : M12 rg45 = some (fI G (2 * ng45) (fun j0 => iI (fg45 j0))) := (fr13 _ (by omega)).trans hR45
          refine lv_astore (lv' := [(4, .ref sz45), (0, .ref a), (1, .int (iI b)), (2, .int (iI 2)), (3, .int (iI x)), (5, .int (iI ↑i))]) E.1 E.2.1 dX10_grown_141 hl (by decide) rfl (fun ls hl => ?_)
          refine lv_iinc (v := iI (↑i + 1)) (lv' := [(5, .int (iI (↑i + 1))), (4, .ref sz45), (0, .ref a), (1, .int (iI b)), (2, .int (iI 2)), (3, .int (iI x))]) E.1 E.2.1 dX10_grown_143 hl (k := 5) rfl (iI_inc rfl) (by decide) rfl (fun ls hl => ?_)
          refine lv_goto (tgt := 114) E.1 E.2.1 dX10_grown_146 (by decide) ?_
          refine W.widen (k := 1 + (i + 1) * 8) (n := 2 + (i + 1) * 1608) (by omega) (by omega) ?_
          exact ih114 (i + 1) (n + ng45) sz45 hj55 dwg45 (sz45 + 1) _ _ _ _ (by omega) (by omega) (ptP_step hP hpc45 hja55 hjb55) (by omega) (by omega) (fun q hq => by rw [fr13 q (by omega), fr10 q (by omega)]; exact hfr0 q hq) hH (by omega) hob45 (by rw [show 2 * (n + ng45) = 2 * n + 2 * ng45 by omega]; exact hJ55) (lv_sub hl [2, 3, 4, 5, 1, 0] rfl)
    refine W.widen (k := 1 + 0 * 8) (n := 2 + 0 * 1608) (by omega) (by omega) ?_
    exact loop114_1 (arN x - 0 + 1) 0 1 N f dwj (N + 1) _ _ _ _ (Nat.lt_succ_self _) (Nat.zero_le _) (ptP_0 hf0 hf1 hnv) (by omega) (by omega) hfr0 hH (by omega) g0 hA (lv_sub hl [1, 2, 3, 4, 5, 0] rfl)
  refine lv_iload_n E.1 E.2.1 dX10_grown_0 rfl (lv_at hl 1 rfl) ?_
  refine fw_if_eq (tgt := 36) E dX10_grown_1 (by decide) (by omega) (by omega) (fun c14 => ?_) (fun c14 => ?_)
  · refine lv_iload_n E.1 E.2.1 dX10_grown_36 rfl (lv_at hl 2 rfl) ?_
    refine lv_iconst (v := iI 3) E.1 E.2.1 dX10_grown_37 (by decide) ?_
    refine fw_icmp_lt (tgt := 49) E dX10_grown_38 (by decide) (by omega) (by omega) (by omega) (by omega) (fun c15 => ?_) (fun c15 => ?_)
    · refine lv_bipush (v := iI 9) E.1 E.2.1 dX10_grown_49 (by decide) ?_
      refine lv_aload_n E.1 E.2.1 dX10_grown_51 rfl (lv_at hl 0 rfl) ?_
      refine lv_iconst (v := iI 2) E.1 E.2.1 dX10_grown_52 (by decide) ?_
      refine fw_cV (As := [.int (iI 2)]) (rest := [.int (iI 9)]) E hK hH hl g0 fc_X10 fL_X10_draw ql_RX10_48 qi_yX10_draw qv_yX10_draw (l_draw l G _ _ a dw 2 tr cs (by omega) g0 (by omega) (by omega)) rfl rfl (Nat.le_of_ble_eq_true rfl) ⟨Nat.le_of_ble_eq_true rfl, Nat.le_of_ble_eq_true rfl⟩ ⟨by show _ ≤ (25 : Nat); omega, by show _ ≤ (4826 : Nat); omega⟩ dX10_grown_53 (fw_ki fun r18 M17 H1 locs1 hp16 hH hz1 => ?_)
      obtain ⟨⟨kr80, rfl, hkr80⟩, hob80, hfr, hz2⟩ := hp16
      replace hz := hz2.trans hz
      clear hz1 hz2
      have fr19 := hfr
      refine fw_iadd E dX10_grown_56 ?_
      refine lv_goto (tgt := 68) E.1 E.2.1 dX10_grown_57 (by decide) ?_
      refine lv_istore_n (lv' := [(3, .int (iI (9 + (↑kr80)))), (0, .ref a), (1, .int (iI b)), (2, .int (iI 2))]) E.1 E.2.1 dX10_grown_68 rfl hl (by decide) rfl (fun ls hl => ?_)
      refine lv_iconst (v := iI 2) E.1 E.2.1 dX10_grown_69 (by decide) ?_
      refine fw_newI (N := 2) E hK hH hz qa_int (by decide) (by decide) (by decide) ⟨by show _ ≤ (25 : Nat); omega, by show _ ≤ (4826 : Nat); omega⟩ dX10_grown_70 (fun H1 hH hz1 => ?_)
      replace hz : H1.size = N + 1 := by omega
      clear hz1
      obtain ⟨M20, hM21⟩ : ∃ MX, MX = fw_up M17 N (fI G 2 (fun j0 => iI (z0 j0))) := ⟨_, rfl⟩
      replace hH := fw_H.nm hM21 hH
      have fr22 : ∀ q, q ≠ N → M20 q = M17 q := fun q h => by rw [hM21]; exact fw_up_ne h
      replace hob80 : M20 a = some (.inr (10, [.ref (a + 1), .ref (G.2.2.2.2 3), .int (iI (↑(dw + 1))), .int (iI tr), .ref (a + 379), .int (iI cs), .ref (a + 380)])) := (fr22 _ (by omega)).trans hob80
      have hn0 : M20 N = some (fI G 2 (fun j0 => iI (z0 j0))) := by rw [hM21]; exact fw_up_eq
      refine lv_dup E.1 E.2.1 dX10_grown_72 rfl ?_
      refine lv_iconst (v := iI 0) E.1 E.2.1 dX10_grown_73 (by decide) ?_
      refine lv_iload_n E.1 E.2.1 dX10_grown_74 rfl (lv_at hl 0 rfl) ?_
      refine fw_iast E hK hH (by omega) hn0 (iI_in (by omega) (by omega) (by omega)) dX10_grown_75 (fun H1 locs1 hH hz1 => ?_)
      replace hz := hz1.trans hz; clear hz1
      rw [show upd (fun j0 => iI (z0 j0)) (iI (0)).toNatClampNeg (iI (9 + (↑kr80))) = fun j0 => iI ((zup z0 (0) (9 + (↑kr80))) j0) from by rw [iI_ix (by omega) (by omega)]; exact zup_upd _ _ _] at hH
      obtain ⟨M23, hM24⟩ : ∃ MX, MX = fw_up M20 N (fI G 2 (fun j0 => iI ((zup z0 (0) (9 + (↑kr80))) j0))) := ⟨_, rfl⟩
      replace hH := fw_H.nm hM24 hH
      have fr25 : ∀ q, q ≠ N → M23 q = M20 q := fun q h => by rw [hM24]; exact fw_up_ne h
      replace hob80 : M23 a = some (.inr (10, [.ref (a + 1), .ref (G.2.2.2.2 3), .int (iI (↑(dw + 1))), .int (iI tr), .ref (a + 379), .int (iI cs), .ref (a + 380)])) := (fr25 _ (by omega)).trans hob80
      have hn0 : M23 N = some (fI G 2 (fun j0 => iI ((zup z0 (0) (9 + (↑kr80))) j0))) := by rw [hM24]; exact fw_up_eq
      refine lv_dup E.1 E.2.1 dX10_grown_76 rfl ?_
      refine lv_iconst (v := iI 1) E.1 E.2.1 dX10_grown_77 (by decide) ?_
      refine lv_iload_n E.1 E.2.1 dX10_grown_78 rfl (lv_at hl 0 rfl) ?_
      refine fw_if_ne (tgt := 94) E dX10_grown_79 (by decide) (by omega) (by omega) (fun c26 => ?_) (fun c26 => ?_)
      · refine lv_iload_n E.1 E.2.1 dX10_grown_94 rfl (lv_at hl 0 rfl) ?_
        refine lv_iconst (v := iI 1) E.1 E.2.1 dX10_grown_95 (by decide) ?_
        refine fw_icmp_ne (tgt := 107) E dX10_grown_96 (by decide) (by omega) (by omega) (by omega) (by omega) (fun c27 => ?_) (fun c27 => ?_)
        · refine lv_iconst (v := iI 0) E.1 E.2.1 dX10_grown_107 (by decide) ?_
          refine fw_iast E hK hH (by omega) hn0 (iI_in (by omega) (by omega) (by omega)) dX10_grown_108 (fun H1 locs1 hH hz1 => ?_)
          replace hz := hz1.trans hz; clear hz1
          rw [show upd (fun j0 => iI ((zup z0 (0) (9 + (↑kr80))) j0)) (iI (1)).toNatClampNeg (iI (0)) = fun j0 => iI ((zup (zup z0 (0) (9 + (↑kr80))) (1) (0)) j0) from by rw [iI_ix (by omega) (by omega)]; exact zup_upd _ _ _] at hH
          obtain ⟨M28, hM29⟩ : ∃ MX, MX = fw_up M23 N (fI G 2 (fun j0 => iI ((zup (zup z0 (0) (9 + (↑kr80))) (1) (0)) j0))) := ⟨_, rfl⟩
          replace hH := fw_H.nm hM29 hH
          have fr30 : ∀ q, q ≠ N → M28 q = M23 q := fun q h => by rw [hM29]; exact fw_up_ne h
          replace hob80 : M28 a = some (.inr (10, [.ref (a + 1), .ref (G.2.2.2.2 3), .int (iI (↑(dw + 1))), .int (iI tr), .ref (a + 379), .int (iI cs), .ref (a + 380)])) := (fr30 _ (by omega)).trans hob80
          have hn0 : M28 N = some (fI G 2 (fun j0 => iI ((zup (zup z0 (0) (9 + (↑kr80))) (1) (0)) j0))) := by rw [hM29]; exact fw_up_eq
          refine lv_astore (lv' := [(4, .ref N), (3, .int (iI (9 + (↑kr80)))), (0, .ref a), (1, .int (iI b)), (2, .int (iI 2))]) E.1 E.2.1 dX10_grown_109 hl (by decide) rfl (fun ls hl => ?_)
          exact join111 (9 + (↑kr80)) 0 (dw + 1) (zup (zup z0 (0) (9 + (↑kr80))) (1) (0)) _ _ _ _ ⟨(by omega), (fun _ => by omega), (fun _ => by omega), (fun _ => by omega)⟩ (by unfold numI; (repeat' split) <;> omega) (by omega) (by first | rfl | (rw [zup_ne (by omega), zup_eq])) zup_eq (by omega) (fun q hq => by rw [fr30 q (by omega), fr25 q (by omega), fr22 q (by omega), fr19 q (by omega)]) hH (by omega) hob80 hn0 (lv_sub hl [2, 3, 4, 1, 0] rfl)
        · refine lv_aload_n E.1 E.2.1 dX10_grown_99 rfl (lv_at hl 1 rfl) ?_
          refine lv_iconst (v := iI 3) E.1 E.2.1 dX10_grown_100 (by decide) ?_
          refine fw_cV (As := [.int (iI 3)]) (rest := [.int (iI 1), .ref N, .ref N]) E hK hH hl hob80 fc_X10 fL_X10_draw ql_RX10_48 qi_yX10_draw qv_yX10_draw (l_draw l G _ _ a (dw + 1) 3 tr cs (by omega) hob80 (by omega) (by omega)) rfl rfl (Nat.le_of_ble_eq_true rfl) ⟨Nat.le_of_ble_eq_true rfl, Nat.le_of_ble_eq_true rfl⟩ ⟨by show _ ≤ (25 : Nat); omega, by show _ ≤ (4826 : Nat); omega⟩ dX10_grown_101 (fw_ki fun r33 M32 H1 locs1 hp31 hH hz1 => ?_)
          obtain ⟨⟨kr128, rfl, hkr128⟩, hob128, hfr, hz2⟩ := hp31
          replace hz := hz2.trans hz
          clear hz1 hz2
          have fr34 := hfr
          replace hn0 : M32 N = some (fI G 2 (fun j0 => iI ((zup z0 (0) (9 + (↑kr80))) j0))) := (fr34 _ (by omega)).trans hn0
          refine lv_goto (tgt := 108) E.1 E.2.1 dX10_grown_104 (by decide) ?_
          refine fw_iast E hK hH (by omega) hn0 (iI_in (by omega) (by omega) (by omega)) dX10_grown_108 (fun H1 locs1 hH hz1 => ?_)
          replace hz := hz1.trans hz; clear hz1
          rw [show upd (fun j0 => iI ((zup z0 (0) (9 + (↑kr80))) j0)) (iI (1)).toNatClampNeg (iI (↑kr128)) = fun j0 => iI ((zup (zup z0 (0) (9 + (↑kr80))) (1) (↑kr128)) j0) from by rw [iI_ix (by omega) (by omega)]; exact zup_upd _ _ _] at hH
          obtain ⟨M35, hM36⟩ : ∃ MX, MX = fw_up M32 N (fI G 2 (fun j0 => iI ((zup (zup z0 (0) (9 + (↑kr80))) (1) (↑kr128)) j0))) := ⟨_, rfl⟩
          replace hH := fw_H.nm hM36 hH
          have fr37 : ∀ q, q ≠ N → M35 q = M32 q := fun q h => by rw [hM36]; exact fw_up_ne h
          replace hob128 : M35 a = some (.inr (10, [.ref (a + 1), .ref (G.2.2.2.2 3), .int (iI (↑((dw + 1) + 1))), .int (iI tr), .ref (a + 379), .int (iI cs), .ref (a + 380)])) := (fr37 _ (by omega)).trans hob128
          have hn0 : M35 N = some (fI G 2 (fun j0 => iI ((zup (zup z0 (0) (9 + (↑kr80))) (1) (↑kr128)) j0))) := by rw [hM36]; exact fw_up_eq
          refine lv_astore (lv' := [(4, .ref N), (3, .int (iI (9 + (↑kr80)))), (0, .ref a), (1, .int (iI b)), (2, .int (iI 2))]) E.1 E.2.1 dX10_grown_109 hl (by decide) rfl (fun ls hl => ?_)
          exact join111 (9 + (↑kr80)) ↑kr128 ((dw + 1) + 1) (zup (zup z0 (0) (9 + (↑kr80))) (1) (↑kr128)) _ _ _ _ ⟨(by omega), (fun _ => by omega), (fun _ => by omega), (fun _ => by omega)⟩ (by unfold numI; (repeat' split) <;> omega) (by omega) (by first | rfl | (rw [zup_ne (by omega), zup_eq])) zup_eq (by omega) (fun q hq => by rw [fr37 q (by omega), fr34 q (by omega), fr25 q (by omega), fr22 q (by omega), fr19 q (by omega)]) hH (by omega) hob128 hn0 (lv_sub hl [2, 3, 4, 1, 0] rfl)
      · refine lv_aload_n E.1 E.2.1 dX10_grown_82 rfl (lv_at hl 1 rfl) ?_
        refine lv_bipush (v := iI 25) E.1 E.2.1 dX10_grown_83 (by decide) ?_
        refine fw_cV (As := [.int (iI 25)]) (rest := [.int (iI 1), .ref N, .ref N]) E hK hH hl hob80 fc_X10 fL_X10_draw ql_RX10_48 qi_yX10_draw qv_yX10_draw (l_draw l G _ _ a (dw + 1) 25 tr cs (by omega) hob80 (by omega) (by omega)) rfl rfl (Nat.le_of_ble_eq_true rfl) ⟨Nat.le_of_ble_eq_true rfl, Nat.le_of_ble_eq_true rfl⟩ ⟨by show _ ≤ (25 : Nat); omega, by show _ ≤ (4826 : Nat); omega⟩ dX10_grown_85 (fw_ki fun r40 M39 H1 locs1 hp38 hH hz1 => ?_)
        obtain ⟨⟨kr147, rfl, hkr147⟩, hob147, hfr, hz2⟩ := hp38
        replace hz := hz2.trans hz
        clear hz1 hz2
        have fr41 := hfr
        replace hn0 : M39 N = some (fI G 2 (fun j0 => iI ((zup z0 (0) (9 + (↑kr80))) j0))) := (fr41 _ (by omega)).trans hn0
        refine lv_bipush (v := iI 8) E.1 E.2.1 dX10_grown_88 (by decide) ?_
        refine fw_isub E dX10_grown_90 ?_
        refine lv_goto (tgt := 108) E.1 E.2.1 dX10_grown_91 (by decide) ?_
        refine fw_iast E hK hH (by omega) hn0 (iI_in (by omega) (by omega) (by omega)) dX10_grown_108 (fun H1 locs1 hH hz1 => ?_)
        replace hz := hz1.trans hz; clear hz1
        rw [show upd (fun j0 => iI ((zup z0 (0) (9 + (↑kr80))) j0)) (iI (1)).toNatClampNeg (iI ((↑kr147) - 8)) = fun j0 => iI ((zup (zup z0 (0) (9 + (↑kr80))) (1) ((↑kr147) - 8)) j0) from by rw [iI_ix (by omega) (by omega)]; exact zup_upd _ _ _] at hH
        obtain ⟨M42, hM43⟩ : ∃ MX, MX = fw_up M39 N (fI G 2 (fun j0 => iI ((zup (zup z0 (0) (9 + (↑kr80))) (1) ((↑kr147) - 8)) j0))) := ⟨_, rfl⟩
        replace hH := fw_H.nm hM43 hH
        have fr44 : ∀ q, q ≠ N → M42 q = M39 q := fun q h => by rw [hM43]; exact fw_up_ne h
        replace hob147 : M42 a = some (.inr (10, [.ref (a + 1), .ref (G.2.2.2.2 3), .int (iI (↑((dw + 1) + 1))), .int (iI tr), .ref (a + 379), .int (iI cs), .ref (a + 380)])) := (fr44 _ (by omega)).trans hob147
        have hn0 : M42 N = some (fI G 2 (fun j0 => iI ((zup (zup z0 (0) (9 + (↑kr80))) (1) ((↑kr147) - 8)) j0))) := by rw [hM43]; exact fw_up_eq
        refine lv_astore (lv' := [(4, .ref N), (3, .int (iI (9 + (↑kr80)))), (0, .ref a), (1, .int (iI b)), (2, .int (iI 2))]) E.1 E.2.1 dX10_grown_109 hl (by decide) rfl (fun ls hl => ?_)
        exact join111 (9 + (↑kr80)) ((↑kr147) - 8) ((dw + 1) + 1) (zup (zup z0 (0) (9 + (↑kr80))) (1) ((↑kr147) - 8)) _ _ _ _ ⟨(by omega), (fun _ => by omega), (fun _ => by omega), (fun _ => by omega)⟩ (by unfold numI; (repeat' split) <;> omega) (by omega) (by first | rfl | (rw [zup_ne (by omega), zup_eq])) zup_eq (by omega) (fun q hq => by rw [fr44 q (by omega), fr41 q (by omega), fr25 q (by omega), fr22 q (by omega), fr19 q (by omega)]) hH (by omega) hob147 hn0 (lv_sub hl [2, 3, 4, 1, 0] rfl)
    · exact absurd c15 (by omega)
  · refine lv_iload_n E.1 E.2.1 dX10_grown_4 rfl (lv_at hl 2 rfl) ?_
    refine lv_iconst (v := iI 2) E.1 E.2.1 dX10_grown_5 (by decide) ?_
    refine fw_icmp_lt (tgt := 17) E dX10_grown_6 (by decide) (by omega) (by omega) (by omega) (by omega) (fun c45 => ?_) (fun c45 => ?_)
    · exact absurd c45 (by omega)
    · refine lv_aload_n E.1 E.2.1 dX10_grown_9 rfl (lv_at hl 0 rfl) ?_
      refine lv_iconst (v := iI 3) E.1 E.2.1 dX10_grown_10 (by decide) ?_
      refine fw_cV (As := [.int (iI 3)]) (rest := []) E hK hH hl g0 fc_X10 fL_X10_draw ql_RX10_48 qi_yX10_draw qv_yX10_draw (l_draw l G _ _ a dw 3 tr cs (by omega) g0 (by omega) (by omega)) rfl rfl (Nat.le_of_ble_eq_true rfl) ⟨Nat.le_of_ble_eq_true rfl, Nat.le_of_ble_eq_true rfl⟩ ⟨by show _ ≤ (25 : Nat); omega, by show _ ≤ (4826 : Nat); omega⟩ dX10_grown_11 (fw_ki fun r48 M47 H1 locs1 hp46 hH hz1 => ?_)
      obtain ⟨⟨kr173, rfl, hkr173⟩, hob173, hfr, hz2⟩ := hp46
      replace hz := hz2.trans hz
      clear hz1 hz2
      have fr49 := hfr
      refine fw_if_ne (tgt := 25) E dX10_grown_14 (by decide) (by omega) (by omega) (fun c50 => ?_) (fun c50 => ?_)
      · refine lv_iconst (v := iI 2) E.1 E.2.1 dX10_grown_25 (by decide) ?_
        refine lv_aload_n E.1 E.2.1 dX10_grown_26 rfl (lv_at hl 0 rfl) ?_
        refine lv_bipush (v := iI 7) E.1 E.2.1 dX10_grown_27 (by decide) ?_
        refine fw_cV (As := [.int (iI 7)]) (rest := [.int (iI 2)]) E hK hH hl hob173 fc_X10 fL_X10_draw ql_RX10_48 qi_yX10_draw qv_yX10_draw (l_draw l G _ _ a (dw + 1) 7 tr cs (by omega) hob173 (by omega) (by omega)) rfl rfl (Nat.le_of_ble_eq_true rfl) ⟨Nat.le_of_ble_eq_true rfl, Nat.le_of_ble_eq_true rfl⟩ ⟨by show _ ≤ (25 : Nat); omega, by show _ ≤ (4826 : Nat); omega⟩ dX10_grown_29 (fw_ki fun r53 M52 H1 locs1 hp51 hH hz1 => ?_)
        obtain ⟨⟨kr182, rfl, hkr182⟩, hob182, hfr, hz2⟩ := hp51
        replace hz := hz2.trans hz
        clear hz1 hz2
        have fr54 := hfr
        refine fw_iadd E dX10_grown_32 ?_
        refine lv_goto (tgt := 68) E.1 E.2.1 dX10_grown_33 (by decide) ?_
        refine lv_istore_n (lv' := [(3, .int (iI (2 + (↑kr182)))), (0, .ref a), (1, .int (iI b)), (2, .int (iI 2))]) E.1 E.2.1 dX10_grown_68 rfl hl (by decide) rfl (fun ls hl => ?_)
        refine lv_iconst (v := iI 2) E.1 E.2.1 dX10_grown_69 (by decide) ?_
        refine fw_newI (N := 2) E hK hH hz qa_int (by decide) (by decide) (by decide) ⟨by show _ ≤ (25 : Nat); omega, by show _ ≤ (4826 : Nat); omega⟩ dX10_grown_70 (fun H1 hH hz1 => ?_)
        replace hz : H1.size = N + 1 := by omega
        clear hz1
        obtain ⟨M55, hM56⟩ : ∃ MX, MX = fw_up M52 N (fI G 2 (fun j0 => iI (z0 j0))) := ⟨_, rfl⟩
        replace hH := fw_H.nm hM56 hH
        have fr57 : ∀ q, q ≠ N → M55 q = M52 q := fun q h => by rw [hM56]; exact fw_up_ne h
        replace hob182 : M55 a = some (.inr (10, [.ref (a + 1), .ref (G.2.2.2.2 3), .int (iI (↑((dw + 1) + 1))), .int (iI tr), .ref (a + 379), .int (iI cs), .ref (a + 380)])) := (fr57 _ (by omega)).trans hob182
        have hn0 : M55 N = some (fI G 2 (fun j0 => iI (z0 j0))) := by rw [hM56]; exact fw_up_eq
        refine lv_dup E.1 E.2.1 dX10_grown_72 rfl ?_
        refine lv_iconst (v := iI 0) E.1 E.2.1 dX10_grown_73 (by decide) ?_
        refine lv_iload_n E.1 E.2.1 dX10_grown_74 rfl (lv_at hl 0 rfl) ?_
        refine fw_iast E hK hH (by omega) hn0 (iI_in (by omega) (by omega) (by omega)) dX10_grown_75 (fun H1 locs1 hH hz1 => ?_)
        replace hz := hz1.trans hz; clear hz1
        rw [show upd (fun j0 => iI (z0 j0)) (iI (0)).toNatClampNeg (iI (2 + (↑kr182))) = fun j0 => iI ((zup z0 (0) (2 + (↑kr182))) j0) from by rw [iI_ix (by omega) (by omega)]; exact zup_upd _ _ _] at hH
        obtain ⟨M58, hM59⟩ : ∃ MX, MX = fw_up M55 N (fI G 2 (fun j0 => iI ((zup z0 (0) (2 + (↑kr182))) j0))) := ⟨_, rfl⟩
        replace hH := fw_H.nm hM59 hH
        have fr60 : ∀ q, q ≠ N → M58 q = M55 q := fun q h => by rw [hM59]; exact fw_up_ne h
        replace hob182 : M58 a = some (.inr (10, [.ref (a + 1), .ref (G.2.2.2.2 3), .int (iI (↑((dw + 1) + 1))), .int (iI tr), .ref (a + 379), .int (iI cs), .ref (a + 380)])) := (fr60 _ (by omega)).trans hob182
        have hn0 : M58 N = some (fI G 2 (fun j0 => iI ((zup z0 (0) (2 + (↑kr182))) j0))) := by rw [hM59]; exact fw_up_eq
        refine lv_dup E.1 E.2.1 dX10_grown_76 rfl ?_
        refine lv_iconst (v := iI 1) E.1 E.2.1 dX10_grown_77 (by decide) ?_
        refine lv_iload_n E.1 E.2.1 dX10_grown_78 rfl (lv_at hl 0 rfl) ?_
        refine fw_if_ne (tgt := 94) E dX10_grown_79 (by decide) (by omega) (by omega) (fun c61 => ?_) (fun c61 => ?_)
        · refine lv_iload_n E.1 E.2.1 dX10_grown_94 rfl (lv_at hl 0 rfl) ?_
          refine lv_iconst (v := iI 1) E.1 E.2.1 dX10_grown_95 (by decide) ?_
          refine fw_icmp_ne (tgt := 107) E dX10_grown_96 (by decide) (by omega) (by omega) (by omega) (by omega) (fun c62 => ?_) (fun c62 => ?_)
          · refine lv_iconst (v := iI 0) E.1 E.2.1 dX10_grown_107 (by decide) ?_
            refine fw_iast E hK hH (by omega) hn0 (iI_in (by omega) (by omega) (by omega)) dX10_grown_108 (fun H1 locs1 hH hz1 => ?_)
            replace hz := hz1.trans hz; clear hz1
            rw [show upd (fun j0 => iI ((zup z0 (0) (2 + (↑kr182))) j0)) (iI (1)).toNatClampNeg (iI (0)) = fun j0 => iI ((zup (zup z0 (0) (2 + (↑kr182))) (1) (0)) j0) from by rw [iI_ix (by omega) (by omega)]; exact zup_upd _ _ _] at hH
            obtain ⟨M63, hM64⟩ : ∃ MX, MX = fw_up M58 N (fI G 2 (fun j0 => iI ((zup (zup z0 (0) (2 + (↑kr182))) (1) (0)) j0))) := ⟨_, rfl⟩
            replace hH := fw_H.nm hM64 hH
            have fr65 : ∀ q, q ≠ N → M63 q = M58 q := fun q h => by rw [hM64]; exact fw_up_ne h
            replace hob182 : M63 a = some (.inr (10, [.ref (a + 1), .ref (G.2.2.2.2 3), .int (iI (↑((dw + 1) + 1))), .int (iI tr), .ref (a + 379), .int (iI cs), .ref (a + 380)])) := (fr65 _ (by omega)).trans hob182
            have hn0 : M63 N = some (fI G 2 (fun j0 => iI ((zup (zup z0 (0) (2 + (↑kr182))) (1) (0)) j0))) := by rw [hM64]; exact fw_up_eq
            refine lv_astore (lv' := [(4, .ref N), (3, .int (iI (2 + (↑kr182)))), (0, .ref a), (1, .int (iI b)), (2, .int (iI 2))]) E.1 E.2.1 dX10_grown_109 hl (by decide) rfl (fun ls hl => ?_)
            exact join111 (2 + (↑kr182)) 0 ((dw + 1) + 1) (zup (zup z0 (0) (2 + (↑kr182))) (1) (0)) _ _ _ _ ⟨(by omega), (fun _ => by omega), (fun _ => by omega), (fun _ => by omega)⟩ (by unfold numI; (repeat' split) <;> omega) (by omega) (by first | rfl | (rw [zup_ne (by omega), zup_eq])) zup_eq (by omega) (fun q hq => by rw [fr65 q (by omega), fr60 q (by omega), fr57 q (by omega), fr54 q (by omega), fr49 q (by omega)]) hH (by omega) hob182 hn0 (lv_sub hl [2, 3, 4, 1, 0] rfl)
          · refine lv_aload_n E.1 E.2.1 dX10_grown_99 rfl (lv_at hl 1 rfl) ?_
            refine lv_iconst (v := iI 3) E.1 E.2.1 dX10_grown_100 (by decide) ?_
            refine fw_cV (As := [.int (iI 3)]) (rest := [.int (iI 1), .ref N, .ref N]) E hK hH hl hob182 fc_X10 fL_X10_draw ql_RX10_48 qi_yX10_draw qv_yX10_draw (l_draw l G _ _ a ((dw + 1) + 1) 3 tr cs (by omega) hob182 (by omega) (by omega)) rfl rfl (Nat.le_of_ble_eq_true rfl) ⟨Nat.le_of_ble_eq_true rfl, Nat.le_of_ble_eq_true rfl⟩ ⟨by show _ ≤ (25 : Nat); omega, by show _ ≤ (4826 : Nat); omega⟩ dX10_grown_101 (fw_ki fun r68 M67 H1 locs1 hp66 hH hz1 => ?_)
            obtain ⟨⟨kr230, rfl, hkr230⟩, hob230, hfr, hz2⟩ := hp66
            replace hz := hz2.trans hz
            clear hz1 hz2
            have fr69 := hfr
            replace hn0 : M67 N = some (fI G 2 (fun j0 => iI ((zup z0 (0) (2 + (↑kr182))) j0))) := (fr69 _ (by omega)).trans hn0
            refine lv_goto (tgt := 108) E.1 E.2.1 dX10_grown_104 (by decide) ?_
            refine fw_iast E hK hH (by omega) hn0 (iI_in (by omega) (by omega) (by omega)) dX10_grown_108 (fun H1 locs1 hH hz1 => ?_)
            replace hz := hz1.trans hz; clear hz1
            rw [show upd (fun j0 => iI ((zup z0 (0) (2 + (↑kr182))) j0)) (iI (1)).toNatClampNeg (iI (↑kr230)) = fun j0 => iI ((zup (zup z0 (0) (2 + (↑kr182))) (1) (↑kr230)) j0) from by rw [iI_ix (by omega) (by omega)]; exact zup_upd _ _ _] at hH
            obtain ⟨M70, hM71⟩ : ∃ MX, MX = fw_up M67 N (fI G 2 (fun j0 => iI ((zup (zup z0 (0) (2 + (↑kr182))) (1) (↑kr230)) j0))) := ⟨_, rfl⟩
            replace hH := fw_H.nm hM71 hH
            have fr72 : ∀ q, q ≠ N → M70 q = M67 q := fun q h => by rw [hM71]; exact fw_up_ne h
            replace hob230 : M70 a = some (.inr (10, [.ref (a + 1), .ref (G.2.2.2.2 3), .int (iI (↑(((dw + 1) + 1) + 1))), .int (iI tr), .ref (a + 379), .int (iI cs), .ref (a + 380)])) := (fr72 _ (by omega)).trans hob230
            have hn0 : M70 N = some (fI G 2 (fun j0 => iI ((zup (zup z0 (0) (2 + (↑kr182))) (1) (↑kr230)) j0))) := by rw [hM71]; exact fw_up_eq
            refine lv_astore (lv' := [(4, .ref N), (3, .int (iI (2 + (↑kr182)))), (0, .ref a), (1, .int (iI b)), (2, .int (iI 2))]) E.1 E.2.1 dX10_grown_109 hl (by decide) rfl (fun ls hl => ?_)
            exact join111 (2 + (↑kr182)) ↑kr230 (((dw + 1) + 1) + 1) (zup (zup z0 (0) (2 + (↑kr182))) (1) (↑kr230)) _ _ _ _ ⟨(by omega), (fun _ => by omega), (fun _ => by omega), (fun _ => by omega)⟩ (by unfold numI; (repeat' split) <;> omega) (by omega) (by first | rfl | (rw [zup_ne (by omega), zup_eq])) zup_eq (by omega) (fun q hq => by rw [fr72 q (by omega), fr69 q (by omega), fr60 q (by omega), fr57 q (by omega), fr54 q (by omega), fr49 q (by omega)]) hH (by omega) hob230 hn0 (lv_sub hl [2, 3, 4, 1, 0] rfl)
        · refine lv_aload_n E.1 E.2.1 dX10_grown_82 rfl (lv_at hl 1 rfl) ?_
          refine lv_bipush (v := iI 25) E.1 E.2.1 dX10_grown_83 (by decide) ?_
          refine fw_cV (As := [.int (iI 25)]) (rest := [.int (iI 1), .ref N, .ref N]) E hK hH hl hob182 fc_X10 fL_X10_draw ql_RX10_48 qi_yX10_draw qv_yX10_draw (l_draw l G _ _ a ((dw + 1) + 1) 25 tr cs (by omega) hob182 (by omega) (by omega)) rfl rfl (Nat.le_of_ble_eq_true rfl) ⟨Nat.le_of_ble_eq_true rfl, Nat.le_of_ble_eq_true rfl⟩ ⟨by show _ ≤ (25 : Nat); omega, by show _ ≤ (4826 : Nat); omega⟩ dX10_grown_85 (fw_ki fun r75 M74 H1 locs1 hp73 hH hz1 => ?_)
          obtain ⟨⟨kr249, rfl, hkr249⟩, hob249, hfr, hz2⟩ := hp73
          replace hz := hz2.trans hz
          clear hz1 hz2
          have fr76 := hfr
          replace hn0 : M74 N = some (fI G 2 (fun j0 => iI ((zup z0 (0) (2 + (↑kr182))) j0))) := (fr76 _ (by omega)).trans hn0
          refine lv_bipush (v := iI 8) E.1 E.2.1 dX10_grown_88 (by decide) ?_
          refine fw_isub E dX10_grown_90 ?_
          refine lv_goto (tgt := 108) E.1 E.2.1 dX10_grown_91 (by decide) ?_
          refine fw_iast E hK hH (by omega) hn0 (iI_in (by omega) (by omega) (by omega)) dX10_grown_108 (fun H1 locs1 hH hz1 => ?_)
          replace hz := hz1.trans hz; clear hz1
          rw [show upd (fun j0 => iI ((zup z0 (0) (2 + (↑kr182))) j0)) (iI (1)).toNatClampNeg (iI ((↑kr249) - 8)) = fun j0 => iI ((zup (zup z0 (0) (2 + (↑kr182))) (1) ((↑kr249) - 8)) j0) from by rw [iI_ix (by omega) (by omega)]; exact zup_upd _ _ _] at hH
          obtain ⟨M77, hM78⟩ : ∃ MX, MX = fw_up M74 N (fI G 2 (fun j0 => iI ((zup (zup z0 (0) (2 + (↑kr182))) (1) ((↑kr249) - 8)) j0))) := ⟨_, rfl⟩
          replace hH := fw_H.nm hM78 hH
          have fr79 : ∀ q, q ≠ N → M77 q = M74 q := fun q h => by rw [hM78]; exact fw_up_ne h
          replace hob249 : M77 a = some (.inr (10, [.ref (a + 1), .ref (G.2.2.2.2 3), .int (iI (↑(((dw + 1) + 1) + 1))), .int (iI tr), .ref (a + 379), .int (iI cs), .ref (a + 380)])) := (fr79 _ (by omega)).trans hob249
          have hn0 : M77 N = some (fI G 2 (fun j0 => iI ((zup (zup z0 (0) (2 + (↑kr182))) (1) ((↑kr249) - 8)) j0))) := by rw [hM78]; exact fw_up_eq
          refine lv_astore (lv' := [(4, .ref N), (3, .int (iI (2 + (↑kr182)))), (0, .ref a), (1, .int (iI b)), (2, .int (iI 2))]) E.1 E.2.1 dX10_grown_109 hl (by decide) rfl (fun ls hl => ?_)
          exact join111 (2 + (↑kr182)) ((↑kr249) - 8) (((dw + 1) + 1) + 1) (zup (zup z0 (0) (2 + (↑kr182))) (1) ((↑kr249) - 8)) _ _ _ _ ⟨(by omega), (fun _ => by omega), (fun _ => by omega), (fun _ => by omega)⟩ (by unfold numI; (repeat' split) <;> omega) (by omega) (by first | rfl | (rw [zup_ne (by omega), zup_eq])) zup_eq (by omega) (fun q hq => by rw [fr79 q (by omega), fr76 q (by omega), fr60 q (by omega), fr57 q (by omega), fr54 q (by omega), fr49 q (by omega)]) hH (by omega) hob249 hn0 (lv_sub hl [2, 3, 4, 1, 0] rfl)
      · refine lv_aload_n E.1 E.2.1 dX10_grown_17 rfl (lv_at hl 0 rfl) ?_
        refine lv_iconst (v := iI 2) E.1 E.2.1 dX10_grown_18 (by decide) ?_
        refine fw_cV (As := [.int (iI 2)]) (rest := []) E hK hH hl hob173 fc_X10 fL_X10_draw ql_RX10_48 qi_yX10_draw qv_yX10_draw (l_draw l G _ _ a (dw + 1) 2 tr cs (by omega) hob173 (by omega) (by omega)) rfl rfl (Nat.le_of_ble_eq_true rfl) ⟨Nat.le_of_ble_eq_true rfl, Nat.le_of_ble_eq_true rfl⟩ ⟨by show _ ≤ (25 : Nat); omega, by show _ ≤ (4826 : Nat); omega⟩ dX10_grown_19 (fw_ki fun r82 M81 H1 locs1 hp80 hH hz1 => ?_)
        obtain ⟨⟨kr270, rfl, hkr270⟩, hob270, hfr, hz2⟩ := hp80
        replace hz := hz2.trans hz
        clear hz1 hz2
        have fr83 := hfr
        refine lv_goto (tgt := 68) E.1 E.2.1 dX10_grown_22 (by decide) ?_
        refine lv_istore_n (lv' := [(3, .int (iI ↑kr270)), (0, .ref a), (1, .int (iI b)), (2, .int (iI 2))]) E.1 E.2.1 dX10_grown_68 rfl hl (by decide) rfl (fun ls hl => ?_)
        refine lv_iconst (v := iI 2) E.1 E.2.1 dX10_grown_69 (by decide) ?_
        refine fw_newI (N := 2) E hK hH hz qa_int (by decide) (by decide) (by decide) ⟨by show _ ≤ (25 : Nat); omega, by show _ ≤ (4826 : Nat); omega⟩ dX10_grown_70 (fun H1 hH hz1 => ?_)
        replace hz : H1.size = N + 1 := by omega
        clear hz1
        obtain ⟨M84, hM85⟩ : ∃ MX, MX = fw_up M81 N (fI G 2 (fun j0 => iI (z0 j0))) := ⟨_, rfl⟩
        replace hH := fw_H.nm hM85 hH
        have fr86 : ∀ q, q ≠ N → M84 q = M81 q := fun q h => by rw [hM85]; exact fw_up_ne h
        replace hob270 : M84 a = some (.inr (10, [.ref (a + 1), .ref (G.2.2.2.2 3), .int (iI (↑((dw + 1) + 1))), .int (iI tr), .ref (a + 379), .int (iI cs), .ref (a + 380)])) := (fr86 _ (by omega)).trans hob270
        have hn0 : M84 N = some (fI G 2 (fun j0 => iI (z0 j0))) := by rw [hM85]; exact fw_up_eq
        refine lv_dup E.1 E.2.1 dX10_grown_72 rfl ?_
        refine lv_iconst (v := iI 0) E.1 E.2.1 dX10_grown_73 (by decide) ?_
        refine lv_iload_n E.1 E.2.1 dX10_grown_74 rfl (lv_at hl 0 rfl) ?_
        refine fw_iast E hK hH (by omega) hn0 (iI_in (by omega) (by omega) (by omega)) dX10_grown_75 (fun H1 locs1 hH hz1 => ?_)
        replace hz := hz1.trans hz; clear hz1
        rw [show upd (fun j0 => iI (z0 j0)) (iI (0)).toNatClampNeg (iI (↑kr270)) = fun j0 => iI ((zup z0 (0) (↑kr270)) j0) from by rw [iI_ix (by omega) (by omega)]; exact zup_upd _ _ _] at hH
        obtain ⟨M87, hM88⟩ : ∃ MX, MX = fw_up M84 N (fI G 2 (fun j0 => iI ((zup z0 (0) (↑kr270)) j0))) := ⟨_, rfl⟩
        replace hH := fw_H.nm hM88 hH
        have fr89 : ∀ q, q ≠ N → M87 q = M84 q := fun q h => by rw [hM88]; exact fw_up_ne h
        replace hob270 : M87 a = some (.inr (10, [.ref (a + 1), .ref (G.2.2.2.2 3), .int (iI (↑((dw + 1) + 1))), .int (iI tr), .ref (a + 379), .int (iI cs), .ref (a + 380)])) := (fr89 _ (by omega)).trans hob270
        have hn0 : M87 N = some (fI G 2 (fun j0 => iI ((zup z0 (0) (↑kr270)) j0))) := by rw [hM88]; exact fw_up_eq
        refine lv_dup E.1 E.2.1 dX10_grown_76 rfl ?_
        refine lv_iconst (v := iI 1) E.1 E.2.1 dX10_grown_77 (by decide) ?_
        refine lv_iload_n E.1 E.2.1 dX10_grown_78 rfl (lv_at hl 0 rfl) ?_
        refine fw_if_ne (tgt := 94) E dX10_grown_79 (by decide) (by omega) (by omega) (fun c90 => ?_) (fun c90 => ?_)
        · refine lv_iload_n E.1 E.2.1 dX10_grown_94 rfl (lv_at hl 0 rfl) ?_
          refine lv_iconst (v := iI 1) E.1 E.2.1 dX10_grown_95 (by decide) ?_
          refine fw_icmp_ne (tgt := 107) E dX10_grown_96 (by decide) (by omega) (by omega) (by omega) (by omega) (fun c91 => ?_) (fun c91 => ?_)
          · refine lv_iconst (v := iI 0) E.1 E.2.1 dX10_grown_107 (by decide) ?_
            refine fw_iast E hK hH (by omega) hn0 (iI_in (by omega) (by omega) (by omega)) dX10_grown_108 (fun H1 locs1 hH hz1 => ?_)
            replace hz := hz1.trans hz; clear hz1
            rw [show upd (fun j0 => iI ((zup z0 (0) (↑kr270)) j0)) (iI (1)).toNatClampNeg (iI (0)) = fun j0 => iI ((zup (zup z0 (0) (↑kr270)) (1) (0)) j0) from by rw [iI_ix (by omega) (by omega)]; exact zup_upd _ _ _] at hH
            obtain ⟨M92, hM93⟩ : ∃ MX, MX = fw_up M87 N (fI G 2 (fun j0 => iI ((zup (zup z0 (0) (↑kr270)) (1) (0)) j0))) := ⟨_, rfl⟩
            replace hH := fw_H.nm hM93 hH
            have fr94 : ∀ q, q ≠ N → M92 q = M87 q := fun q h => by rw [hM93]; exact fw_up_ne h
            replace hob270 : M92 a = some (.inr (10, [.ref (a + 1), .ref (G.2.2.2.2 3), .int (iI (↑((dw + 1) + 1))), .int (iI tr), .ref (a + 379), .int (iI cs), .ref (a + 380)])) := (fr94 _ (by omega)).trans hob270
            have hn0 : M92 N = some (fI G 2 (fun j0 => iI ((zup (zup z0 (0) (↑kr270)) (1) (0)) j0))) := by rw [hM93]; exact fw_up_eq
            refine lv_astore (lv' := [(4, .ref N), (3, .int (iI ↑kr270)), (0, .ref a), (1, .int (iI b)), (2, .int (iI 2))]) E.1 E.2.1 dX10_grown_109 hl (by decide) rfl (fun ls hl => ?_)
            exact join111 ↑kr270 0 ((dw + 1) + 1) (zup (zup z0 (0) (↑kr270)) (1) (0)) _ _ _ _ ⟨(by omega), (fun _ => by omega), (fun _ => by omega), (fun _ => by omega)⟩ (by unfold numI; (repeat' split) <;> omega) (by omega) (by first | rfl | (rw [zup_ne (by omega), zup_eq])) zup_eq (by omega) (fun q hq => by rw [fr94 q (by omega), fr89 q (by omega), fr86 q (by omega), fr83 q (by omega), fr49 q (by omega)]) hH (by omega) hob270 hn0 (lv_sub hl [2, 3, 4, 1, 0] rfl)
          · refine lv_aload_n E.1 E.2.1 dX10_grown_99 rfl (lv_at hl 1 rfl) ?_
            refine lv_iconst (v := iI 3) E.1 E.2.1 dX10_grown_100 (by decide) ?_
            refine fw_cV (As := [.int (iI 3)]) (rest := [.int (iI 1), .ref N, .ref N]) E hK hH hl hob270 fc_X10 fL_X10_draw ql_RX10_48 qi_yX10_draw qv_yX10_draw (l_draw l G _ _ a ((dw + 1) + 1) 3 tr cs (by omega) hob270 (by omega) (by omega)) rfl rfl (Nat.le_of_ble_eq_true rfl) ⟨Nat.le_of_ble_eq_true rfl, Nat.le_of_ble_eq_true rfl⟩ ⟨by show _ ≤ (25 : Nat); omega, by show _ ≤ (4826 : Nat); omega⟩ dX10_grown_101 (fw_ki fun r97 M96 H1 locs1 hp95 hH hz1 => ?_)
            obtain ⟨⟨kr317, rfl, hkr317⟩, hob317, hfr, hz2⟩ := hp95
            replace hz := hz2.trans hz
            clear hz1 hz2
            have fr98 := hfr
            replace hn0 : M96 N = some (fI G 2 (fun j0 => iI ((zup z0 (0) (↑kr270)) j0))) := (fr98 _ (by omega)).trans hn0
            refine lv_goto (tgt := 108) E.1 E.2.1 dX10_grown_104 (by decide) ?_
            refine fw_iast E hK hH (by omega) hn0 (iI_in (by omega) (by omega) (by omega)) dX10_grown_108 (fun H1 locs1 hH hz1 => ?_)
            replace hz := hz1.trans hz; clear hz1
            rw [show upd (fun j0 => iI ((zup z0 (0) (↑kr270)) j0)) (iI (1)).toNatClampNeg (iI (↑kr317)) = fun j0 => iI ((zup (zup z0 (0) (↑kr270)) (1) (↑kr317)) j0) from by rw [iI_ix (by omega) (by omega)]; exact zup_upd _ _ _] at hH
            obtain ⟨M99, hM100⟩ : ∃ MX, MX = fw_up M96 N (fI G 2 (fun j0 => iI ((zup (zup z0 (0) (↑kr270)) (1) (↑kr317)) j0))) := ⟨_, rfl⟩
            replace hH := fw_H.nm hM100 hH
            have fr101 : ∀ q, q ≠ N → M99 q = M96 q := fun q h => by rw [hM100]; exact fw_up_ne h
            replace hob317 : M99 a = some (.inr (10, [.ref (a + 1), .ref (G.2.2.2.2 3), .int (iI (↑(((dw + 1) + 1) + 1))), .int (iI tr), .ref (a + 379), .int (iI cs), .ref (a + 380)])) := (fr101 _ (by omega)).trans hob317
            have hn0 : M99 N = some (fI G 2 (fun j0 => iI ((zup (zup z0 (0) (↑kr270)) (1) (↑kr317)) j0))) := by rw [hM100]; exact fw_up_eq
            refine lv_astore (lv' := [(4, .ref N), (3, .int (iI ↑kr270)), (0, .ref a), (1, .int (iI b)), (2, .int (iI 2))]) E.1 E.2.1 dX10_grown_109 hl (by decide) rfl (fun ls hl => ?_)
            exact join111 ↑kr270 ↑kr317 (((dw + 1) + 1) + 1) (zup (zup z0 (0) (↑kr270)) (1) (↑kr317)) _ _ _ _ ⟨(by omega), (fun _ => by omega), (fun _ => by omega), (fun _ => by omega)⟩ (by unfold numI; (repeat' split) <;> omega) (by omega) (by first | rfl | (rw [zup_ne (by omega), zup_eq])) zup_eq (by omega) (fun q hq => by rw [fr101 q (by omega), fr98 q (by omega), fr89 q (by omega), fr86 q (by omega), fr83 q (by omega), fr49 q (by omega)]) hH (by omega) hob317 hn0 (lv_sub hl [2, 3, 4, 1, 0] rfl)
        · refine lv_aload_n E.1 E.2.1 dX10_grown_82 rfl (lv_at hl 1 rfl) ?_
          refine lv_bipush (v := iI 25) E.1 E.2.1 dX10_grown_83 (by decide) ?_
          refine fw_cV (As := [.int (iI 25)]) (rest := [.int (iI 1), .ref N, .ref N]) E hK hH hl hob270 fc_X10 fL_X10_draw ql_RX10_48 qi_yX10_draw qv_yX10_draw (l_draw l G _ _ a ((dw + 1) + 1) 25 tr cs (by omega) hob270 (by omega) (by omega)) rfl rfl (Nat.le_of_ble_eq_true rfl) ⟨Nat.le_of_ble_eq_true rfl, Nat.le_of_ble_eq_true rfl⟩ ⟨by show _ ≤ (25 : Nat); omega, by show _ ≤ (4826 : Nat); omega⟩ dX10_grown_85 (fw_ki fun r104 M103 H1 locs1 hp102 hH hz1 => ?_)
          obtain ⟨⟨kr336, rfl, hkr336⟩, hob336, hfr, hz2⟩ := hp102
          replace hz := hz2.trans hz
          clear hz1 hz2
          have fr105 := hfr
          replace hn0 : M103 N = some (fI G 2 (fun j0 => iI ((zup z0 (0) (↑kr270)) j0))) := (fr105 _ (by omega)).trans hn0
          refine lv_bipush (v := iI 8) E.1 E.2.1 dX10_grown_88 (by decide) ?_
          refine fw_isub E dX10_grown_90 ?_
          refine lv_goto (tgt := 108) E.1 E.2.1 dX10_grown_91 (by decide) ?_
          refine fw_iast E hK hH (by omega) hn0 (iI_in (by omega) (by omega) (by omega)) dX10_grown_108 (fun H1 locs1 hH hz1 => ?_)
          replace hz := hz1.trans hz; clear hz1
          rw [show upd (fun j0 => iI ((zup z0 (0) (↑kr270)) j0)) (iI (1)).toNatClampNeg (iI ((↑kr336) - 8)) = fun j0 => iI ((zup (zup z0 (0) (↑kr270)) (1) ((↑kr336) - 8)) j0) from by rw [iI_ix (by omega) (by omega)]; exact zup_upd _ _ _] at hH
          obtain ⟨M106, hM107⟩ : ∃ MX, MX = fw_up M103 N (fI G 2 (fun j0 => iI ((zup (zup z0 (0) (↑kr270)) (1) ((↑kr336) - 8)) j0))) := ⟨_, rfl⟩
          replace hH := fw_H.nm hM107 hH
          have fr108 : ∀ q, q ≠ N → M106 q = M103 q := fun q h => by rw [hM107]; exact fw_up_ne h
          replace hob336 : M106 a = some (.inr (10, [.ref (a + 1), .ref (G.2.2.2.2 3), .int (iI (↑(((dw + 1) + 1) + 1))), .int (iI tr), .ref (a + 379), .int (iI cs), .ref (a + 380)])) := (fr108 _ (by omega)).trans hob336
          have hn0 : M106 N = some (fI G 2 (fun j0 => iI ((zup (zup z0 (0) (↑kr270)) (1) ((↑kr336) - 8)) j0))) := by rw [hM107]; exact fw_up_eq
          refine lv_astore (lv' := [(4, .ref N), (3, .int (iI ↑kr270)), (0, .ref a), (1, .int (iI b)), (2, .int (iI 2))]) E.1 E.2.1 dX10_grown_109 hl (by decide) rfl (fun ls hl => ?_)
          exact join111 ↑kr270 ((↑kr336) - 8) (((dw + 1) + 1) + 1) (zup (zup z0 (0) (↑kr270)) (1) ((↑kr336) - 8)) _ _ _ _ ⟨(by omega), (fun _ => by omega), (fun _ => by omega), (fun _ => by omega)⟩ (by unfold numI; (repeat' split) <;> omega) (by omega) (by first | rfl | (rw [zup_ne (by omega), zup_eq])) zup_eq (by omega) (fun q hq => by rw [fr108 q (by omega), fr105 q (by omega), fr89 q (by omega), fr86 q (by omega), fr83 q (by omega), fr49 q (by omega)]) hH (by omega) hob336 hn0 (lv_sub hl [2, 3, 4, 1, 0] rfl)
set_option maxHeartbeats 4000000 in
theorem l_grown3 (l : Launch) (G : fw_G) (M : fw_M) (N : Nat) (a dw : Nat) (b tr cs : Int) (hba : G.2.2.1 ≤ a) (haN : a + 381 ≤ N) (g0 : M a = some (.inr (10, [.ref (a + 1), .ref (G.2.2.2.2 3), .int (iI ↑dw), .int (iI tr), .ref (a + 379), .int (iI cs), .ref (a + 380)]))) (hb : b = 0 ∨ b = 1) (hd9 : dw + 120 ≤ 20000) : fMet l yX10_grown cX10_grown 6 (some (.array .int)) 6 155 79 15680 G M N [.ref a, .int (iI b), .int (iI 3)] (fw_pr (fun r M1 n1 => (∃ (n : Nat) (f : Nat → Int), N ≤ r ∧ r < n1 ∧ M1 r = some (fI G (2 * n) (fun j0 => iI (f j0))) ∧ pcP b 4 40 n f) ∧ (∃ dw1 : Nat, M1 a = some (.inr (10, [.ref (a + 1), .ref (G.2.2.2.2 3), .int (iI ↑dw1), .int (iI tr), .ref (a + 379), .int (iI cs), .ref (a + 380)])) ∧ dw ≤ dw1 ∧ dw1 ≤ dw + 120) ∧ (∀ q, q ≠ a ∧ q < N → M1 q = M q) ∧ N ≤ n1)) := by
  refine fw_met RX10 rfl (by decide +kernel) (Nat.le_of_ble_eq_true rfl) ?_
  intro pG e s m args below meth cG ls E hr hlk hnm hK hH hz hl
  have join111 : ∀ (x : Int) (v : Int) (dwj : Nat) (f : Nat → Int) (Mj111 : fw_M) (H : Heap) (locs : List Loc) (ls : Array Slot), ndOK x v → numI x = b → 0 ≤ x → f 0 = x → f 1 = v → dw ≤ dwj ∧ dwj ≤ dw + 3 → (∀ q, q ≠ a ∧ q < N → Mj111 q = M q) → fw_H G s Mj111 H locs → H.size = N + 1 → Mj111 a = some (.inr (10, [.ref (a + 1), .ref (G.2.2.2.2 3), .int (iI ↑dwj), .int (iI tr), .ref (a + 379), .int (iI cs), .ref (a + 380)])) → Mj111 N = some (fI G 2 (fun j0 => iI (f j0))) → lv_has ls 6 [(0, .ref a), (1, .int (iI b)), (2, .int (iI 3)), (3, .int (iI x)), (4, .ref N)] → W pG l e ({ frames := 6, cells := 79, slots := 15680, locals := 155 } : Room) s m args below meth cG H locs (1) (2) (MQ below (fw_Q G (fw_pr (fun r M1 n1 => (∃ (n : Nat) (f : Nat → Int), N ≤ r ∧ r < n1 ∧ M1 r = some (fI G (2 * n) (fun j0 => iI (f j0))) ∧ pcP b 4 40 n f) ∧ (∃ dw1 : Nat, M1 a = some (.inr (10, [.ref (a + 1), .ref (G.2.2.2.2 3), .int (iI ↑dw1), .int (iI tr), .ref (a + 379), .int (iI cs), .ref (a + 380)])) ∧ dw ≤ dw1 ∧ dw1 ≤ dw + 120) ∧ (∀ q, q ≠ a ∧ q < N → M1 q = M q) ∧ N ≤ n1))) args s 79 15680 (fun q => G.2.2.1 ≤ q)) (F0 m 111 ls []) := by
    intro x v dwj f Mj111 H locs ls hnv hnx hxd hf0 hf1 hdj hfr0 hH hz g0 hA hl
    refine lv_iconst (v := iI 0) E.1 E.2.1 dX10_grown_111 (by decide) ?_
    refine lv_istore (lv' := [(5, .int (iI 0)), (0, .ref a), (1, .int (iI b)), (2, .int (iI 3)), (3, .int (iI x)), (4, .ref N)]) E.1 E.2.1 dX10_grown_112 hl (by decide) rfl (fun ls hl => ?_)
    have loop114_1 : ∀ (d114 : Nat) (i : Nat) (n : Nat) (cur : Nat) (h : Nat → Int) (dwl : Nat) (sz : Nat) (Mw114 : fw_M) (H : Heap) (locs : List Loc) (ls : Array Slot), arN x - i < d114 → i ≤ arN x → ptP x 3 i 13 n h → N ≤ cur ∧ cur < sz → dw ≤ dwl ∧ dwl ≤ dw + 3 + i * 39 → (∀ q, q ≠ a ∧ q < N → Mw114 q = M q) → fw_H G s Mw114 H locs → H.size = sz → Mw114 a = some (.inr (10, [.ref (a + 1), .ref (G.2.2.2.2 3), .int (iI ↑dwl), .int (iI tr), .ref (a + 379), .int (iI cs), .ref (a + 380)])) → Mw114 cur = some (fI G (2 * n) (fun j0 => iI (h j0))) → lv_has ls 6 [(0, .ref a), (1, .int (iI b)), (2, .int (iI 3)), (3, .int (iI x)), (4, .ref cur), (5, .int (iI ↑i))] → W pG l e ({ frames := 6, cells := 79, slots := 15680, locals := 155 } : Room) s m args below meth cG H locs (1 + i * 26) (2 + i * 5226) (MQ below (fw_Q G (fw_pr (fun r M1 n1 => (∃ (n : Nat) (f : Nat → Int), N ≤ r ∧ r < n1 ∧ M1 r = some (fI G (2 * n) (fun j0 => iI (f j0))) ∧ pcP b 4 40 n f) ∧ (∃ dw1 : Nat, M1 a = some (.inr (10, [.ref (a + 1), .ref (G.2.2.2.2 3), .int (iI ↑dw1), .int (iI tr), .ref (a + 379), .int (iI cs), .ref (a + 380)])) ∧ dw ≤ dw1 ∧ dw1 ≤ dw + 120) ∧ (∀ q, q ≠ a ∧ q < N → M1 q = M q) ∧ N ≤ n1))) args s 79 15680 (fun q => G.2.2.1 ≤ q)) (F0 m 114 ls []) := by
      intro d114
      induction d114 with
      | zero => intro i n cur h dwl sz Mw114 H locs ls hd; exact absurd hd (Nat.not_lt_zero _)
      | succ d114 ih114 =>
        intro i n cur h dwl sz Mw114 H locs ls hd114 ii hP hcur hdl hfr0 hH hz g0 hA hl
        have hpn := hP.n0
        have har := arN_le x
        have hnv0 := hnv.1
        refine lv_iload E.1 E.2.1 dX10_grown_114 (lv_at hl 5 rfl) ?_
        refine lv_iload_n E.1 E.2.1 dX10_grown_116 rfl (lv_at hl 3 rfl) ?_
        refine fw_cS (As := [.int (iI x)]) (rest := [.int (iI ↑i)]) E hK hH hl fL_X10_many ql_RX10_52 qs_yX10_many (l_many l G _ _ x (by omega)) rfl rfl (Nat.le_of_ble_eq_true rfl) ⟨Nat.le_of_ble_eq_true rfl, Nat.le_of_ble_eq_true rfl⟩ ⟨by show _ ≤ (79 : Nat); omega, by show _ ≤ (15680 : Nat); omega⟩ dX10_grown_117 (fw_ki fun r3 M2 H1 locs1 hp1 hH hz1 => ?_)
        obtain ⟨rfl, hM9, hz2⟩ := hp1
        have har19 := arN_le x
        replace hz := hz2.trans hz
        clear hz1 hz2
        rw [hM9] at hH
        refine fw_icmp_ge (tgt := 149) E dX10_grown_120 (by decide) (by omega) (by omega) (by omega) (by omega) (fun c4 => ?_) (fun c4 => ?_)
        · refine lv_aload E.1 E.2.1 dX10_grown_149 (lv_at hl 4 rfl) ?_
          refine W.widen (k := 79) (n := 15680) (by omega) (by omega) ?_
          refine fw_aret E hr (Or.inr ⟨_, rfl⟩) hlk hH ?_ dX10_grown_151
          have e9 : i = arN x := by omega
          exact ⟨⟨n, h, hcur.1, by omega, hA, by rw [← hnx]; exact ptP_end hP e9⟩, ⟨dwl, g0, by omega, by omega⟩, hfr0, by omega⟩
        · refine lv_aload E.1 E.2.1 dX10_grown_123 (lv_at hl 4 rfl) ?_
          refine lv_aload_n E.1 E.2.1 dX10_grown_125 rfl (lv_at hl 0 rfl) ?_
          refine lv_iload_n E.1 E.2.1 dX10_grown_126 rfl (lv_at hl 3 rfl) ?_
          refine lv_iload E.1 E.2.1 dX10_grown_127 (lv_at hl 5 rfl) ?_
          refine fw_cS (As := [.int (iI x), .int (iI ↑i)]) (rest := [.ref a, .ref cur]) E hK hH hl fL_X10_isNumber ql_RX10_55 qs_yX10_isNumber (l_isNumber l G _ _ x i (by omega) (by omega)) rfl rfl (Nat.le_of_ble_eq_true rfl) ⟨Nat.le_of_ble_eq_true rfl, Nat.le_of_ble_eq_true rfl⟩ ⟨by show _ ≤ (79 : Nat); omega, by show _ ≤ (15680 : Nat); omega⟩ dX10_grown_129 (fw_ki fun r7 M6 H1 locs1 hp5 hH hz1 => ?_)
          obtain ⟨rfl, hM9, hz2⟩ := hp5
          have hnm35 := nmP_01 x i
          replace hz := hz2.trans hz
          clear hz1 hz2
          rw [hM9] at hH
          refine lv_iload_n E.1 E.2.1 dX10_grown_132 rfl (lv_at hl 2 rfl) ?_
          refine lv_iconst (v := iI 1) E.1 E.2.1 dX10_grown_133 (by decide) ?_
          refine fw_isub E dX10_grown_134 ?_
          refine fw_cv (y := iI (2)) (by decide) ?_
          refine fw_cV (As := [.int (iI (nmP x i)), .int (iI (2))]) (rest := [.ref cur]) E hK hH hl g0 fc_X10 fL_X10_grown ql_RX10_59 qi_yX10_grown qv_yX10_grown (l_grown2 l G _ _ a dwl (nmP x i) tr cs (by omega) (by omega) g0 (by omega) (by omega)) rfl rfl (Nat.le_of_ble_eq_true rfl) ⟨Nat.le_of_ble_eq_true rfl, Nat.le_of_ble_eq_true rfl⟩ ⟨by show _ ≤ (79 : Nat); omega, by show _ ≤ (15680 : Nat); omega⟩ dX10_grown_135 (fw_kr fun rg45 M9 H1 locs1 hp8 hH hz1 => ?_)
          obtain ⟨⟨ng45, fg45, hra45, hrb45, hR45, hpc45⟩, ⟨dwg45, hob45, hda45, hdb45⟩, hfr, hz2⟩ := hp8
          rw [hz] at hra45 hfr hz2
          obtain ⟨sz45, hsz45⟩ : ∃ y, y = H1.size := ⟨_, rfl⟩
          rw [← hsz45] at hrb45 hz2
          replace hz := hsz45.symm
          have hng45 := hpc45.n0
          clear hz1
          have fr10 := hfr
          replace hA : M9 cur = some (fI G (2 * n) (fun j0 => iI (h j0))) := (fr10 _ (by omega)).trans hA
          refine fw_cS (As := [.ref cur, .ref rg45]) (rest := []) E hK hH hl fL_X10_joined ql_RX10_63 qs_yX10_joined (l_joined l G _ _ cur rg45 (2 * n) (2 * ng45) h fg45 hA hR45 (by omega) (by omega) (by omega) (by omega)) rfl rfl (Nat.le_of_ble_eq_true rfl) ⟨Nat.le_of_ble_eq_true rfl, Nat.le_of_ble_eq_true rfl⟩ ⟨by show _ ≤ (79 : Nat); omega, by show _ ≤ (15680 : Nat); omega⟩ dX10_grown_138 (fw_kr fun rj55 M12 H1 locs1 hp11 hH hz1 => ?_)
          obtain ⟨hr9, ⟨hj55, hJ55, hja55, hjb55⟩, hfr, hz2⟩ := hp11
          rw [hz] at hr9 hJ55 hfr hz2
          rw [hr9]
          replace hz : H1.size = sz45 + 1 := by omega
          clear hz1 hz2
          have fr13 := hfr
          replace hA : M12 cur = some (fI G (2 * n) (fun j0 => iI (h j0))) := (fr13 _ (by omega)).trans hA
          replace hob45 : M12 a = some (.inr (10, [.ref (a + 1), .ref (G.2.2.2.2 3), .int (iI ↑dwg45), .int (iI tr), .ref (a + 379), .int (iI cs), .ref (a + 380)])) := (fr13 _ (by omega)).trans hob45
          replace hR45 : M12 rg45 = some (fI G (2 * ng45) (fun j0 => iI (fg45 j0))) := (fr13 _ (by omega)).trans hR45
          refine lv_astore (lv' := [(4, .ref sz45), (0, .ref a), (1, .int (iI b)), (2, .int (iI 3)), (3, .int (iI x)), (5, .int (iI ↑i))]) E.1 E.2.1 dX10_grown_141 hl (by decide) rfl (fun ls hl => ?_)
          refine lv_iinc (v := iI (↑i + 1)) (lv' := [(5, .int (iI (↑i + 1))), (4, .ref sz45), (0, .ref a), (1, .int (iI b)), (2, .int (iI 3)), (3, .int (iI x))]) E.1 E.2.1 dX10_grown_143 hl (k := 5) rfl (iI_inc rfl) (by decide) rfl (fun ls hl => ?_)
          refine lv_goto (tgt := 114) E.1 E.2.1 dX10_grown_146 (by decide) ?_
          refine W.widen (k := 1 + (i + 1) * 26) (n := 2 + (i + 1) * 5226) (by omega) (by omega) ?_
          exact ih114 (i + 1) (n + ng45) sz45 hj55 dwg45 (sz45 + 1) _ _ _ _ (by omega) (by omega) (ptP_step hP hpc45 hja55 hjb55) (by omega) (by omega) (fun q hq => by rw [fr13 q (by omega), fr10 q (by omega)]; exact hfr0 q hq) hH (by omega) hob45 (by rw [show 2 * (n + ng45) = 2 * n + 2 * ng45 by omega]; exact hJ55) (lv_sub hl [2, 3, 4, 5, 1, 0] rfl)
    refine W.widen (k := 1 + 0 * 26) (n := 2 + 0 * 5226) (by omega) (by omega) ?_
    exact loop114_1 (arN x - 0 + 1) 0 1 N f dwj (N + 1) _ _ _ _ (Nat.lt_succ_self _) (Nat.zero_le _) (ptP_0 hf0 hf1 hnv) (by omega) (by omega) hfr0 hH (by omega) g0 hA (lv_sub hl [1, 2, 3, 4, 5, 0] rfl)
  refine lv_iload_n E.1 E.2.1 dX10_grown_0 rfl (lv_at hl 1 rfl) ?_
  refine fw_if_eq (tgt := 36) E dX10_grown_1 (by decide) (by omega) (by omega) (fun c14 => ?_) (fun c14 => ?_)
  · refine lv_iload_n E.1 E.2.1 dX10_grown_36 rfl (lv_at hl 2 rfl) ?_
    refine lv_iconst (v := iI 3) E.1 E.2.1 dX10_grown_37 (by decide) ?_
    refine fw_icmp_lt (tgt := 49) E dX10_grown_38 (by decide) (by omega) (by omega) (by omega) (by omega) (fun c15 => ?_) (fun c15 => ?_)
    · exact absurd c15 (by omega)
    · refine lv_aload_n E.1 E.2.1 dX10_grown_41 rfl (lv_at hl 0 rfl) ?_
      refine lv_iconst (v := iI 2) E.1 E.2.1 dX10_grown_42 (by decide) ?_
      refine fw_cV (As := [.int (iI 2)]) (rest := []) E hK hH hl g0 fc_X10 fL_X10_draw ql_RX10_48 qi_yX10_draw qv_yX10_draw (l_draw l G _ _ a dw 2 tr cs (by omega) g0 (by omega) (by omega)) rfl rfl (Nat.le_of_ble_eq_true rfl) ⟨Nat.le_of_ble_eq_true rfl, Nat.le_of_ble_eq_true rfl⟩ ⟨by show _ ≤ (79 : Nat); omega, by show _ ≤ (15680 : Nat); omega⟩ dX10_grown_43 (fw_ki fun r18 M17 H1 locs1 hp16 hH hz1 => ?_)
      obtain ⟨⟨kr80, rfl, hkr80⟩, hob80, hfr, hz2⟩ := hp16
      replace hz := hz2.trans hz
      clear hz1 hz2
      have fr19 := hfr
      refine fw_if_ne (tgt := 60) E dX10_grown_46 (by decide) (by omega) (by omega) (fun c20 => ?_) (fun c20 => ?_)
      · refine lv_bipush (v := iI 11) E.1 E.2.1 dX10_grown_60 (by decide) ?_
        refine lv_aload_n E.1 E.2.1 dX10_grown_62 rfl (lv_at hl 0 rfl) ?_
        refine lv_iconst (v := iI 3) E.1 E.2.1 dX10_grown_63 (by decide) ?_
        refine fw_cV (As := [.int (iI 3)]) (rest := [.int (iI 11)]) E hK hH hl hob80 fc_X10 fL_X10_draw ql_RX10_48 qi_yX10_draw qv_yX10_draw (l_draw l G _ _ a (dw + 1) 3 tr cs (by omega) hob80 (by omega) (by omega)) rfl rfl (Nat.le_of_ble_eq_true rfl) ⟨Nat.le_of_ble_eq_true rfl, Nat.le_of_ble_eq_true rfl⟩ ⟨by show _ ≤ (79 : Nat); omega, by show _ ≤ (15680 : Nat); omega⟩ dX10_grown_64 (fw_ki fun r23 M22 H1 locs1 hp21 hH hz1 => ?_)
        obtain ⟨⟨kr89, rfl, hkr89⟩, hob89, hfr, hz2⟩ := hp21
        replace hz := hz2.trans hz
        clear hz1 hz2
        have fr24 := hfr
        refine fw_iadd E dX10_grown_67 ?_
        refine lv_istore_n (lv' := [(3, .int (iI (11 + (↑kr89)))), (0, .ref a), (1, .int (iI b)), (2, .int (iI 3))]) E.1 E.2.1 dX10_grown_68 rfl hl (by decide) rfl (fun ls hl => ?_)
        refine lv_iconst (v := iI 2) E.1 E.2.1 dX10_grown_69 (by decide) ?_
        refine fw_newI (N := 2) E hK hH hz qa_int (by decide) (by decide) (by decide) ⟨by show _ ≤ (79 : Nat); omega, by show _ ≤ (15680 : Nat); omega⟩ dX10_grown_70 (fun H1 hH hz1 => ?_)
        replace hz : H1.size = N + 1 := by omega
        clear hz1
        obtain ⟨M25, hM26⟩ : ∃ MX, MX = fw_up M22 N (fI G 2 (fun j0 => iI (z0 j0))) := ⟨_, rfl⟩
        replace hH := fw_H.nm hM26 hH
        have fr27 : ∀ q, q ≠ N → M25 q = M22 q := fun q h => by rw [hM26]; exact fw_up_ne h
        replace hob89 : M25 a = some (.inr (10, [.ref (a + 1), .ref (G.2.2.2.2 3), .int (iI (↑((dw + 1) + 1))), .int (iI tr), .ref (a + 379), .int (iI cs), .ref (a + 380)])) := (fr27 _ (by omega)).trans hob89
        have hn0 : M25 N = some (fI G 2 (fun j0 => iI (z0 j0))) := by rw [hM26]; exact fw_up_eq
        refine lv_dup E.1 E.2.1 dX10_grown_72 rfl ?_
        refine lv_iconst (v := iI 0) E.1 E.2.1 dX10_grown_73 (by decide) ?_
        refine lv_iload_n E.1 E.2.1 dX10_grown_74 rfl (lv_at hl 0 rfl) ?_
        refine fw_iast E hK hH (by omega) hn0 (iI_in (by omega) (by omega) (by omega)) dX10_grown_75 (fun H1 locs1 hH hz1 => ?_)
        replace hz := hz1.trans hz; clear hz1
        rw [show upd (fun j0 => iI (z0 j0)) (iI (0)).toNatClampNeg (iI (11 + (↑kr89))) = fun j0 => iI ((zup z0 (0) (11 + (↑kr89))) j0) from by rw [iI_ix (by omega) (by omega)]; exact zup_upd _ _ _] at hH
        obtain ⟨M28, hM29⟩ : ∃ MX, MX = fw_up M25 N (fI G 2 (fun j0 => iI ((zup z0 (0) (11 + (↑kr89))) j0))) := ⟨_, rfl⟩
        replace hH := fw_H.nm hM29 hH
        have fr30 : ∀ q, q ≠ N → M28 q = M25 q := fun q h => by rw [hM29]; exact fw_up_ne h
        replace hob89 : M28 a = some (.inr (10, [.ref (a + 1), .ref (G.2.2.2.2 3), .int (iI (↑((dw + 1) + 1))), .int (iI tr), .ref (a + 379), .int (iI cs), .ref (a + 380)])) := (fr30 _ (by omega)).trans hob89
        have hn0 : M28 N = some (fI G 2 (fun j0 => iI ((zup z0 (0) (11 + (↑kr89))) j0))) := by rw [hM29]; exact fw_up_eq
        refine lv_dup E.1 E.2.1 dX10_grown_76 rfl ?_
        refine lv_iconst (v := iI 1) E.1 E.2.1 dX10_grown_77 (by decide) ?_
        refine lv_iload_n E.1 E.2.1 dX10_grown_78 rfl (lv_at hl 0 rfl) ?_
        refine fw_if_ne (tgt := 94) E dX10_grown_79 (by decide) (by omega) (by omega) (fun c31 => ?_) (fun c31 => ?_)
        · refine lv_iload_n E.1 E.2.1 dX10_grown_94 rfl (lv_at hl 0 rfl) ?_
          refine lv_iconst (v := iI 1) E.1 E.2.1 dX10_grown_95 (by decide) ?_
          refine fw_icmp_ne (tgt := 107) E dX10_grown_96 (by decide) (by omega) (by omega) (by omega) (by omega) (fun c32 => ?_) (fun c32 => ?_)
          · refine lv_iconst (v := iI 0) E.1 E.2.1 dX10_grown_107 (by decide) ?_
            refine fw_iast E hK hH (by omega) hn0 (iI_in (by omega) (by omega) (by omega)) dX10_grown_108 (fun H1 locs1 hH hz1 => ?_)
            replace hz := hz1.trans hz; clear hz1
            rw [show upd (fun j0 => iI ((zup z0 (0) (11 + (↑kr89))) j0)) (iI (1)).toNatClampNeg (iI (0)) = fun j0 => iI ((zup (zup z0 (0) (11 + (↑kr89))) (1) (0)) j0) from by rw [iI_ix (by omega) (by omega)]; exact zup_upd _ _ _] at hH
            obtain ⟨M33, hM34⟩ : ∃ MX, MX = fw_up M28 N (fI G 2 (fun j0 => iI ((zup (zup z0 (0) (11 + (↑kr89))) (1) (0)) j0))) := ⟨_, rfl⟩
            replace hH := fw_H.nm hM34 hH
            have fr35 : ∀ q, q ≠ N → M33 q = M28 q := fun q h => by rw [hM34]; exact fw_up_ne h
            replace hob89 : M33 a = some (.inr (10, [.ref (a + 1), .ref (G.2.2.2.2 3), .int (iI (↑((dw + 1) + 1))), .int (iI tr), .ref (a + 379), .int (iI cs), .ref (a + 380)])) := (fr35 _ (by omega)).trans hob89
            have hn0 : M33 N = some (fI G 2 (fun j0 => iI ((zup (zup z0 (0) (11 + (↑kr89))) (1) (0)) j0))) := by rw [hM34]; exact fw_up_eq
            refine lv_astore (lv' := [(4, .ref N), (3, .int (iI (11 + (↑kr89)))), (0, .ref a), (1, .int (iI b)), (2, .int (iI 3))]) E.1 E.2.1 dX10_grown_109 hl (by decide) rfl (fun ls hl => ?_)
            exact join111 (11 + (↑kr89)) 0 ((dw + 1) + 1) (zup (zup z0 (0) (11 + (↑kr89))) (1) (0)) _ _ _ _ ⟨(by omega), (fun _ => by omega), (fun _ => by omega), (fun _ => by omega)⟩ (by unfold numI; (repeat' split) <;> omega) (by omega) (by first | rfl | (rw [zup_ne (by omega), zup_eq])) zup_eq (by omega) (fun q hq => by rw [fr35 q (by omega), fr30 q (by omega), fr27 q (by omega), fr24 q (by omega), fr19 q (by omega)]) hH (by omega) hob89 hn0 (lv_sub hl [2, 3, 4, 1, 0] rfl)
          · refine lv_aload_n E.1 E.2.1 dX10_grown_99 rfl (lv_at hl 1 rfl) ?_
            refine lv_iconst (v := iI 3) E.1 E.2.1 dX10_grown_100 (by decide) ?_
            refine fw_cV (As := [.int (iI 3)]) (rest := [.int (iI 1), .ref N, .ref N]) E hK hH hl hob89 fc_X10 fL_X10_draw ql_RX10_48 qi_yX10_draw qv_yX10_draw (l_draw l G _ _ a ((dw + 1) + 1) 3 tr cs (by omega) hob89 (by omega) (by omega)) rfl rfl (Nat.le_of_ble_eq_true rfl) ⟨Nat.le_of_ble_eq_true rfl, Nat.le_of_ble_eq_true rfl⟩ ⟨by show _ ≤ (79 : Nat); omega, by show _ ≤ (15680 : Nat); omega⟩ dX10_grown_101 (fw_ki fun r38 M37 H1 locs1 hp36 hH hz1 => ?_)
            obtain ⟨⟨kr136, rfl, hkr136⟩, hob136, hfr, hz2⟩ := hp36
            replace hz := hz2.trans hz
            clear hz1 hz2
            have fr39 := hfr
            replace hn0 : M37 N = some (fI G 2 (fun j0 => iI ((zup z0 (0) (11 + (↑kr89))) j0))) := (fr39 _ (by omega)).trans hn0
            refine lv_goto (tgt := 108) E.1 E.2.1 dX10_grown_104 (by decide) ?_
            refine fw_iast E hK hH (by omega) hn0 (iI_in (by omega) (by omega) (by omega)) dX10_grown_108 (fun H1 locs1 hH hz1 => ?_)
            replace hz := hz1.trans hz; clear hz1
            rw [show upd (fun j0 => iI ((zup z0 (0) (11 + (↑kr89))) j0)) (iI (1)).toNatClampNeg (iI (↑kr136)) = fun j0 => iI ((zup (zup z0 (0) (11 + (↑kr89))) (1) (↑kr136)) j0) from by rw [iI_ix (by omega) (by omega)]; exact zup_upd _ _ _] at hH
            obtain ⟨M40, hM41⟩ : ∃ MX, MX = fw_up M37 N (fI G 2 (fun j0 => iI ((zup (zup z0 (0) (11 + (↑kr89))) (1) (↑kr136)) j0))) := ⟨_, rfl⟩
            replace hH := fw_H.nm hM41 hH
            have fr42 : ∀ q, q ≠ N → M40 q = M37 q := fun q h => by rw [hM41]; exact fw_up_ne h
            replace hob136 : M40 a = some (.inr (10, [.ref (a + 1), .ref (G.2.2.2.2 3), .int (iI (↑(((dw + 1) + 1) + 1))), .int (iI tr), .ref (a + 379), .int (iI cs), .ref (a + 380)])) := (fr42 _ (by omega)).trans hob136
            have hn0 : M40 N = some (fI G 2 (fun j0 => iI ((zup (zup z0 (0) (11 + (↑kr89))) (1) (↑kr136)) j0))) := by rw [hM41]; exact fw_up_eq
            refine lv_astore (lv' := [(4, .ref N), (3, .int (iI (11 + (↑kr89)))), (0, .ref a), (1, .int (iI b)), (2, .int (iI 3))]) E.1 E.2.1 dX10_grown_109 hl (by decide) rfl (fun ls hl => ?_)
            exact join111 (11 + (↑kr89)) ↑kr136 (((dw + 1) + 1) + 1) (zup (zup z0 (0) (11 + (↑kr89))) (1) (↑kr136)) _ _ _ _ ⟨(by omega), (fun _ => by omega), (fun _ => by omega), (fun _ => by omega)⟩ (by unfold numI; (repeat' split) <;> omega) (by omega) (by first | rfl | (rw [zup_ne (by omega), zup_eq])) zup_eq (by omega) (fun q hq => by rw [fr42 q (by omega), fr39 q (by omega), fr30 q (by omega), fr27 q (by omega), fr24 q (by omega), fr19 q (by omega)]) hH (by omega) hob136 hn0 (lv_sub hl [2, 3, 4, 1, 0] rfl)
        · refine lv_aload_n E.1 E.2.1 dX10_grown_82 rfl (lv_at hl 1 rfl) ?_
          refine lv_bipush (v := iI 25) E.1 E.2.1 dX10_grown_83 (by decide) ?_
          refine fw_cV (As := [.int (iI 25)]) (rest := [.int (iI 1), .ref N, .ref N]) E hK hH hl hob89 fc_X10 fL_X10_draw ql_RX10_48 qi_yX10_draw qv_yX10_draw (l_draw l G _ _ a ((dw + 1) + 1) 25 tr cs (by omega) hob89 (by omega) (by omega)) rfl rfl (Nat.le_of_ble_eq_true rfl) ⟨Nat.le_of_ble_eq_true rfl, Nat.le_of_ble_eq_true rfl⟩ ⟨by show _ ≤ (79 : Nat); omega, by show _ ≤ (15680 : Nat); omega⟩ dX10_grown_85 (fw_ki fun r45 M44 H1 locs1 hp43 hH hz1 => ?_)
          obtain ⟨⟨kr155, rfl, hkr155⟩, hob155, hfr, hz2⟩ := hp43
          replace hz := hz2.trans hz
          clear hz1 hz2
          have fr46 := hfr
          replace hn0 : M44 N = some (fI G 2 (fun j0 => iI ((zup z0 (0) (11 + (↑kr89))) j0))) := (fr46 _ (by omega)).trans hn0
          refine lv_bipush (v := iI 8) E.1 E.2.1 dX10_grown_88 (by decide) ?_
          refine fw_isub E dX10_grown_90 ?_
          refine lv_goto (tgt := 108) E.1 E.2.1 dX10_grown_91 (by decide) ?_
          refine fw_iast E hK hH (by omega) hn0 (iI_in (by omega) (by omega) (by omega)) dX10_grown_108 (fun H1 locs1 hH hz1 => ?_)
          replace hz := hz1.trans hz; clear hz1
          rw [show upd (fun j0 => iI ((zup z0 (0) (11 + (↑kr89))) j0)) (iI (1)).toNatClampNeg (iI ((↑kr155) - 8)) = fun j0 => iI ((zup (zup z0 (0) (11 + (↑kr89))) (1) ((↑kr155) - 8)) j0) from by rw [iI_ix (by omega) (by omega)]; exact zup_upd _ _ _] at hH
          obtain ⟨M47, hM48⟩ : ∃ MX, MX = fw_up M44 N (fI G 2 (fun j0 => iI ((zup (zup z0 (0) (11 + (↑kr89))) (1) ((↑kr155) - 8)) j0))) := ⟨_, rfl⟩
          replace hH := fw_H.nm hM48 hH
          have fr49 : ∀ q, q ≠ N → M47 q = M44 q := fun q h => by rw [hM48]; exact fw_up_ne h
          replace hob155 : M47 a = some (.inr (10, [.ref (a + 1), .ref (G.2.2.2.2 3), .int (iI (↑(((dw + 1) + 1) + 1))), .int (iI tr), .ref (a + 379), .int (iI cs), .ref (a + 380)])) := (fr49 _ (by omega)).trans hob155
          have hn0 : M47 N = some (fI G 2 (fun j0 => iI ((zup (zup z0 (0) (11 + (↑kr89))) (1) ((↑kr155) - 8)) j0))) := by rw [hM48]; exact fw_up_eq
          refine lv_astore (lv' := [(4, .ref N), (3, .int (iI (11 + (↑kr89)))), (0, .ref a), (1, .int (iI b)), (2, .int (iI 3))]) E.1 E.2.1 dX10_grown_109 hl (by decide) rfl (fun ls hl => ?_)
          exact join111 (11 + (↑kr89)) ((↑kr155) - 8) (((dw + 1) + 1) + 1) (zup (zup z0 (0) (11 + (↑kr89))) (1) ((↑kr155) - 8)) _ _ _ _ ⟨(by omega), (fun _ => by omega), (fun _ => by omega), (fun _ => by omega)⟩ (by unfold numI; (repeat' split) <;> omega) (by omega) (by first | rfl | (rw [zup_ne (by omega), zup_eq])) zup_eq (by omega) (fun q hq => by rw [fr49 q (by omega), fr46 q (by omega), fr30 q (by omega), fr27 q (by omega), fr24 q (by omega), fr19 q (by omega)]) hH (by omega) hob155 hn0 (lv_sub hl [2, 3, 4, 1, 0] rfl)
      · refine lv_bipush (v := iI 9) E.1 E.2.1 dX10_grown_49 (by decide) ?_
        refine lv_aload_n E.1 E.2.1 dX10_grown_51 rfl (lv_at hl 0 rfl) ?_
        refine lv_iconst (v := iI 2) E.1 E.2.1 dX10_grown_52 (by decide) ?_
        refine fw_cV (As := [.int (iI 2)]) (rest := [.int (iI 9)]) E hK hH hl hob80 fc_X10 fL_X10_draw ql_RX10_48 qi_yX10_draw qv_yX10_draw (l_draw l G _ _ a (dw + 1) 2 tr cs (by omega) hob80 (by omega) (by omega)) rfl rfl (Nat.le_of_ble_eq_true rfl) ⟨Nat.le_of_ble_eq_true rfl, Nat.le_of_ble_eq_true rfl⟩ ⟨by show _ ≤ (79 : Nat); omega, by show _ ≤ (15680 : Nat); omega⟩ dX10_grown_53 (fw_ki fun r52 M51 H1 locs1 hp50 hH hz1 => ?_)
        obtain ⟨⟨kr177, rfl, hkr177⟩, hob177, hfr, hz2⟩ := hp50
        replace hz := hz2.trans hz
        clear hz1 hz2
        have fr53 := hfr
        refine fw_iadd E dX10_grown_56 ?_
        refine lv_goto (tgt := 68) E.1 E.2.1 dX10_grown_57 (by decide) ?_
        refine lv_istore_n (lv' := [(3, .int (iI (9 + (↑kr177)))), (0, .ref a), (1, .int (iI b)), (2, .int (iI 3))]) E.1 E.2.1 dX10_grown_68 rfl hl (by decide) rfl (fun ls hl => ?_)
        refine lv_iconst (v := iI 2) E.1 E.2.1 dX10_grown_69 (by decide) ?_
        refine fw_newI (N := 2) E hK hH hz qa_int (by decide) (by decide) (by decide) ⟨by show _ ≤ (79 : Nat); omega, by show _ ≤ (15680 : Nat); omega⟩ dX10_grown_70 (fun H1 hH hz1 => ?_)
        replace hz : H1.size = N + 1 := by omega
        clear hz1
        obtain ⟨M54, hM55⟩ : ∃ MX, MX = fw_up M51 N (fI G 2 (fun j0 => iI (z0 j0))) := ⟨_, rfl⟩
        replace hH := fw_H.nm hM55 hH
        have fr56 : ∀ q, q ≠ N → M54 q = M51 q := fun q h => by rw [hM55]; exact fw_up_ne h
        replace hob177 : M54 a = some (.inr (10, [.ref (a + 1), .ref (G.2.2.2.2 3), .int (iI (↑((dw + 1) + 1))), .int (iI tr), .ref (a + 379), .int (iI cs), .ref (a + 380)])) := (fr56 _ (by omega)).trans hob177
        have hn0 : M54 N = some (fI G 2 (fun j0 => iI (z0 j0))) := by rw [hM55]; exact fw_up_eq
        refine lv_dup E.1 E.2.1 dX10_grown_72 rfl ?_
        refine lv_iconst (v := iI 0) E.1 E.2.1 dX10_grown_73 (by decide) ?_
        refine lv_iload_n E.1 E.2.1 dX10_grown_74 rfl (lv_at hl 0 rfl) ?_
        refine fw_iast E hK hH (by omega) hn0 (iI_in (by omega) (by omega) (by omega)) dX10_grown_75 (fun H1 locs1 hH hz1 => ?_)
        replace hz := hz1.trans hz; clear hz1
        rw [show upd (fun j0 => iI (z0 j0)) (iI (0)).toNatClampNeg (iI (9 + (↑kr177))) = fun j0 => iI ((zup z0 (0) (9 + (↑kr177))) j0) from by rw [iI_ix (by omega) (by omega)]; exact zup_upd _ _ _] at hH
        obtain ⟨M57, hM58⟩ : ∃ MX, MX = fw_up M54 N (fI G 2 (fun j0 => iI ((zup z0 (0) (9 + (↑kr177))) j0))) := ⟨_, rfl⟩
        replace hH := fw_H.nm hM58 hH
        have fr59 : ∀ q, q ≠ N → M57 q = M54 q := fun q h => by rw [hM58]; exact fw_up_ne h
        replace hob177 : M57 a = some (.inr (10, [.ref (a + 1), .ref (G.2.2.2.2 3), .int (iI (↑((dw + 1) + 1))), .int (iI tr), .ref (a + 379), .int (iI cs), .ref (a + 380)])) := (fr59 _ (by omega)).trans hob177
        have hn0 : M57 N = some (fI G 2 (fun j0 => iI ((zup z0 (0) (9 + (↑kr177))) j0))) := by rw [hM58]; exact fw_up_eq
        refine lv_dup E.1 E.2.1 dX10_grown_76 rfl ?_
        refine lv_iconst (v := iI 1) E.1 E.2.1 dX10_grown_77 (by decide) ?_
        refine lv_iload_n E.1 E.2.1 dX10_grown_78 rfl (lv_at hl 0 rfl) ?_
        refine fw_if_ne (tgt := 94) E dX10_grown_79 (by decide) (by omega) (by omega) (fun c60 => ?_) (fun c60 => ?_)
        · refine lv_iload_n E.1 E.2.1 dX10_grown_94 rfl (lv_at hl 0 rfl) ?_
          refine lv_iconst (v := iI 1) E.1 E.2.1 dX10_grown_95 (by decide) ?_
          refine fw_icmp_ne (tgt := 107) E dX10_grown_96 (by decide) (by omega) (by omega) (by omega) (by omega) (fun c61 => ?_) (fun c61 => ?_)
          · refine lv_iconst (v := iI 0) E.1 E.2.1 dX10_grown_107 (by decide) ?_
            refine fw_iast E hK hH (by omega) hn0 (iI_in (by omega) (by omega) (by omega)) dX10_grown_108 (fun H1 locs1 hH hz1 => ?_)
            replace hz := hz1.trans hz; clear hz1
            rw [show upd (fun j0 => iI ((zup z0 (0) (9 + (↑kr177))) j0)) (iI (1)).toNatClampNeg (iI (0)) = fun j0 => iI ((zup (zup z0 (0) (9 + (↑kr177))) (1) (0)) j0) from by rw [iI_ix (by omega) (by omega)]; exact zup_upd _ _ _] at hH
            obtain ⟨M62, hM63⟩ : ∃ MX, MX = fw_up M57 N (fI G 2 (fun j0 => iI ((zup (zup z0 (0) (9 + (↑kr177))) (1) (0)) j0))) := ⟨_, rfl⟩
            replace hH := fw_H.nm hM63 hH
            have fr64 : ∀ q, q ≠ N → M62 q = M57 q := fun q h => by rw [hM63]; exact fw_up_ne h
            replace hob177 : M62 a = some (.inr (10, [.ref (a + 1), .ref (G.2.2.2.2 3), .int (iI (↑((dw + 1) + 1))), .int (iI tr), .ref (a + 379), .int (iI cs), .ref (a + 380)])) := (fr64 _ (by omega)).trans hob177
            have hn0 : M62 N = some (fI G 2 (fun j0 => iI ((zup (zup z0 (0) (9 + (↑kr177))) (1) (0)) j0))) := by rw [hM63]; exact fw_up_eq
            refine lv_astore (lv' := [(4, .ref N), (3, .int (iI (9 + (↑kr177)))), (0, .ref a), (1, .int (iI b)), (2, .int (iI 3))]) E.1 E.2.1 dX10_grown_109 hl (by decide) rfl (fun ls hl => ?_)
            exact join111 (9 + (↑kr177)) 0 ((dw + 1) + 1) (zup (zup z0 (0) (9 + (↑kr177))) (1) (0)) _ _ _ _ ⟨(by omega), (fun _ => by omega), (fun _ => by omega), (fun _ => by omega)⟩ (by unfold numI; (repeat' split) <;> omega) (by omega) (by first | rfl | (rw [zup_ne (by omega), zup_eq])) zup_eq (by omega) (fun q hq => by rw [fr64 q (by omega), fr59 q (by omega), fr56 q (by omega), fr53 q (by omega), fr19 q (by omega)]) hH (by omega) hob177 hn0 (lv_sub hl [2, 3, 4, 1, 0] rfl)
          · refine lv_aload_n E.1 E.2.1 dX10_grown_99 rfl (lv_at hl 1 rfl) ?_
            refine lv_iconst (v := iI 3) E.1 E.2.1 dX10_grown_100 (by decide) ?_
            refine fw_cV (As := [.int (iI 3)]) (rest := [.int (iI 1), .ref N, .ref N]) E hK hH hl hob177 fc_X10 fL_X10_draw ql_RX10_48 qi_yX10_draw qv_yX10_draw (l_draw l G _ _ a ((dw + 1) + 1) 3 tr cs (by omega) hob177 (by omega) (by omega)) rfl rfl (Nat.le_of_ble_eq_true rfl) ⟨Nat.le_of_ble_eq_true rfl, Nat.le_of_ble_eq_true rfl⟩ ⟨by show _ ≤ (79 : Nat); omega, by show _ ≤ (15680 : Nat); omega⟩ dX10_grown_101 (fw_ki fun r67 M66 H1 locs1 hp65 hH hz1 => ?_)
            obtain ⟨⟨kr225, rfl, hkr225⟩, hob225, hfr, hz2⟩ := hp65
            replace hz := hz2.trans hz
            clear hz1 hz2
            have fr68 := hfr
            replace hn0 : M66 N = some (fI G 2 (fun j0 => iI ((zup z0 (0) (9 + (↑kr177))) j0))) := (fr68 _ (by omega)).trans hn0
            refine lv_goto (tgt := 108) E.1 E.2.1 dX10_grown_104 (by decide) ?_
            refine fw_iast E hK hH (by omega) hn0 (iI_in (by omega) (by omega) (by omega)) dX10_grown_108 (fun H1 locs1 hH hz1 => ?_)
            replace hz := hz1.trans hz; clear hz1
            rw [show upd (fun j0 => iI ((zup z0 (0) (9 + (↑kr177))) j0)) (iI (1)).toNatClampNeg (iI (↑kr225)) = fun j0 => iI ((zup (zup z0 (0) (9 + (↑kr177))) (1) (↑kr225)) j0) from by rw [iI_ix (by omega) (by omega)]; exact zup_upd _ _ _] at hH
            obtain ⟨M69, hM70⟩ : ∃ MX, MX = fw_up M66 N (fI G 2 (fun j0 => iI ((zup (zup z0 (0) (9 + (↑kr177))) (1) (↑kr225)) j0))) := ⟨_, rfl⟩
            replace hH := fw_H.nm hM70 hH
            have fr71 : ∀ q, q ≠ N → M69 q = M66 q := fun q h => by rw [hM70]; exact fw_up_ne h
            replace hob225 : M69 a = some (.inr (10, [.ref (a + 1), .ref (G.2.2.2.2 3), .int (iI (↑(((dw + 1) + 1) + 1))), .int (iI tr), .ref (a + 379), .int (iI cs), .ref (a + 380)])) := (fr71 _ (by omega)).trans hob225
            have hn0 : M69 N = some (fI G 2 (fun j0 => iI ((zup (zup z0 (0) (9 + (↑kr177))) (1) (↑kr225)) j0))) := by rw [hM70]; exact fw_up_eq
            refine lv_astore (lv' := [(4, .ref N), (3, .int (iI (9 + (↑kr177)))), (0, .ref a), (1, .int (iI b)), (2, .int (iI 3))]) E.1 E.2.1 dX10_grown_109 hl (by decide) rfl (fun ls hl => ?_)
            exact join111 (9 + (↑kr177)) ↑kr225 (((dw + 1) + 1) + 1) (zup (zup z0 (0) (9 + (↑kr177))) (1) (↑kr225)) _ _ _ _ ⟨(by omega), (fun _ => by omega), (fun _ => by omega), (fun _ => by omega)⟩ (by unfold numI; (repeat' split) <;> omega) (by omega) (by first | rfl | (rw [zup_ne (by omega), zup_eq])) zup_eq (by omega) (fun q hq => by rw [fr71 q (by omega), fr68 q (by omega), fr59 q (by omega), fr56 q (by omega), fr53 q (by omega), fr19 q (by omega)]) hH (by omega) hob225 hn0 (lv_sub hl [2, 3, 4, 1, 0] rfl)
        · refine lv_aload_n E.1 E.2.1 dX10_grown_82 rfl (lv_at hl 1 rfl) ?_
          refine lv_bipush (v := iI 25) E.1 E.2.1 dX10_grown_83 (by decide) ?_
          refine fw_cV (As := [.int (iI 25)]) (rest := [.int (iI 1), .ref N, .ref N]) E hK hH hl hob177 fc_X10 fL_X10_draw ql_RX10_48 qi_yX10_draw qv_yX10_draw (l_draw l G _ _ a ((dw + 1) + 1) 25 tr cs (by omega) hob177 (by omega) (by omega)) rfl rfl (Nat.le_of_ble_eq_true rfl) ⟨Nat.le_of_ble_eq_true rfl, Nat.le_of_ble_eq_true rfl⟩ ⟨by show _ ≤ (79 : Nat); omega, by show _ ≤ (15680 : Nat); omega⟩ dX10_grown_85 (fw_ki fun r74 M73 H1 locs1 hp72 hH hz1 => ?_)
          obtain ⟨⟨kr244, rfl, hkr244⟩, hob244, hfr, hz2⟩ := hp72
          replace hz := hz2.trans hz
          clear hz1 hz2
          have fr75 := hfr
          replace hn0 : M73 N = some (fI G 2 (fun j0 => iI ((zup z0 (0) (9 + (↑kr177))) j0))) := (fr75 _ (by omega)).trans hn0
          refine lv_bipush (v := iI 8) E.1 E.2.1 dX10_grown_88 (by decide) ?_
          refine fw_isub E dX10_grown_90 ?_
          refine lv_goto (tgt := 108) E.1 E.2.1 dX10_grown_91 (by decide) ?_
          refine fw_iast E hK hH (by omega) hn0 (iI_in (by omega) (by omega) (by omega)) dX10_grown_108 (fun H1 locs1 hH hz1 => ?_)
          replace hz := hz1.trans hz; clear hz1
          rw [show upd (fun j0 => iI ((zup z0 (0) (9 + (↑kr177))) j0)) (iI (1)).toNatClampNeg (iI ((↑kr244) - 8)) = fun j0 => iI ((zup (zup z0 (0) (9 + (↑kr177))) (1) ((↑kr244) - 8)) j0) from by rw [iI_ix (by omega) (by omega)]; exact zup_upd _ _ _] at hH
          obtain ⟨M76, hM77⟩ : ∃ MX, MX = fw_up M73 N (fI G 2 (fun j0 => iI ((zup (zup z0 (0) (9 + (↑kr177))) (1) ((↑kr244) - 8)) j0))) := ⟨_, rfl⟩
          replace hH := fw_H.nm hM77 hH
          have fr78 : ∀ q, q ≠ N → M76 q = M73 q := fun q h => by rw [hM77]; exact fw_up_ne h
          replace hob244 : M76 a = some (.inr (10, [.ref (a + 1), .ref (G.2.2.2.2 3), .int (iI (↑(((dw + 1) + 1) + 1))), .int (iI tr), .ref (a + 379), .int (iI cs), .ref (a + 380)])) := (fr78 _ (by omega)).trans hob244
          have hn0 : M76 N = some (fI G 2 (fun j0 => iI ((zup (zup z0 (0) (9 + (↑kr177))) (1) ((↑kr244) - 8)) j0))) := by rw [hM77]; exact fw_up_eq
          refine lv_astore (lv' := [(4, .ref N), (3, .int (iI (9 + (↑kr177)))), (0, .ref a), (1, .int (iI b)), (2, .int (iI 3))]) E.1 E.2.1 dX10_grown_109 hl (by decide) rfl (fun ls hl => ?_)
          exact join111 (9 + (↑kr177)) ((↑kr244) - 8) (((dw + 1) + 1) + 1) (zup (zup z0 (0) (9 + (↑kr177))) (1) ((↑kr244) - 8)) _ _ _ _ ⟨(by omega), (fun _ => by omega), (fun _ => by omega), (fun _ => by omega)⟩ (by unfold numI; (repeat' split) <;> omega) (by omega) (by first | rfl | (rw [zup_ne (by omega), zup_eq])) zup_eq (by omega) (fun q hq => by rw [fr78 q (by omega), fr75 q (by omega), fr59 q (by omega), fr56 q (by omega), fr53 q (by omega), fr19 q (by omega)]) hH (by omega) hob244 hn0 (lv_sub hl [2, 3, 4, 1, 0] rfl)
  · refine lv_iload_n E.1 E.2.1 dX10_grown_4 rfl (lv_at hl 2 rfl) ?_
    refine lv_iconst (v := iI 2) E.1 E.2.1 dX10_grown_5 (by decide) ?_
    refine fw_icmp_lt (tgt := 17) E dX10_grown_6 (by decide) (by omega) (by omega) (by omega) (by omega) (fun c79 => ?_) (fun c79 => ?_)
    · exact absurd c79 (by omega)
    · refine lv_aload_n E.1 E.2.1 dX10_grown_9 rfl (lv_at hl 0 rfl) ?_
      refine lv_iconst (v := iI 3) E.1 E.2.1 dX10_grown_10 (by decide) ?_
      refine fw_cV (As := [.int (iI 3)]) (rest := []) E hK hH hl g0 fc_X10 fL_X10_draw ql_RX10_48 qi_yX10_draw qv_yX10_draw (l_draw l G _ _ a dw 3 tr cs (by omega) g0 (by omega) (by omega)) rfl rfl (Nat.le_of_ble_eq_true rfl) ⟨Nat.le_of_ble_eq_true rfl, Nat.le_of_ble_eq_true rfl⟩ ⟨by show _ ≤ (79 : Nat); omega, by show _ ≤ (15680 : Nat); omega⟩ dX10_grown_11 (fw_ki fun r82 M81 H1 locs1 hp80 hH hz1 => ?_)
      obtain ⟨⟨kr269, rfl, hkr269⟩, hob269, hfr, hz2⟩ := hp80
      replace hz := hz2.trans hz
      clear hz1 hz2
      have fr83 := hfr
      refine fw_if_ne (tgt := 25) E dX10_grown_14 (by decide) (by omega) (by omega) (fun c84 => ?_) (fun c84 => ?_)
      · refine lv_iconst (v := iI 2) E.1 E.2.1 dX10_grown_25 (by decide) ?_
        refine lv_aload_n E.1 E.2.1 dX10_grown_26 rfl (lv_at hl 0 rfl) ?_
        refine lv_bipush (v := iI 7) E.1 E.2.1 dX10_grown_27 (by decide) ?_
        refine fw_cV (As := [.int (iI 7)]) (rest := [.int (iI 2)]) E hK hH hl hob269 fc_X10 fL_X10_draw ql_RX10_48 qi_yX10_draw qv_yX10_draw (l_draw l G _ _ a (dw + 1) 7 tr cs (by omega) hob269 (by omega) (by omega)) rfl rfl (Nat.le_of_ble_eq_true rfl) ⟨Nat.le_of_ble_eq_true rfl, Nat.le_of_ble_eq_true rfl⟩ ⟨by show _ ≤ (79 : Nat); omega, by show _ ≤ (15680 : Nat); omega⟩ dX10_grown_29 (fw_ki fun r87 M86 H1 locs1 hp85 hH hz1 => ?_)
        obtain ⟨⟨kr278, rfl, hkr278⟩, hob278, hfr, hz2⟩ := hp85
        replace hz := hz2.trans hz
        clear hz1 hz2
        have fr88 := hfr
        refine fw_iadd E dX10_grown_32 ?_
        refine lv_goto (tgt := 68) E.1 E.2.1 dX10_grown_33 (by decide) ?_
        refine lv_istore_n (lv' := [(3, .int (iI (2 + (↑kr278)))), (0, .ref a), (1, .int (iI b)), (2, .int (iI 3))]) E.1 E.2.1 dX10_grown_68 rfl hl (by decide) rfl (fun ls hl => ?_)
        refine lv_iconst (v := iI 2) E.1 E.2.1 dX10_grown_69 (by decide) ?_
        refine fw_newI (N := 2) E hK hH hz qa_int (by decide) (by decide) (by decide) ⟨by show _ ≤ (79 : Nat); omega, by show _ ≤ (15680 : Nat); omega⟩ dX10_grown_70 (fun H1 hH hz1 => ?_)
        replace hz : H1.size = N + 1 := by omega
        clear hz1
        obtain ⟨M89, hM90⟩ : ∃ MX, MX = fw_up M86 N (fI G 2 (fun j0 => iI (z0 j0))) := ⟨_, rfl⟩
        replace hH := fw_H.nm hM90 hH
        have fr91 : ∀ q, q ≠ N → M89 q = M86 q := fun q h => by rw [hM90]; exact fw_up_ne h
        replace hob278 : M89 a = some (.inr (10, [.ref (a + 1), .ref (G.2.2.2.2 3), .int (iI (↑((dw + 1) + 1))), .int (iI tr), .ref (a + 379), .int (iI cs), .ref (a + 380)])) := (fr91 _ (by omega)).trans hob278
        have hn0 : M89 N = some (fI G 2 (fun j0 => iI (z0 j0))) := by rw [hM90]; exact fw_up_eq
        refine lv_dup E.1 E.2.1 dX10_grown_72 rfl ?_
        refine lv_iconst (v := iI 0) E.1 E.2.1 dX10_grown_73 (by decide) ?_
        refine lv_iload_n E.1 E.2.1 dX10_grown_74 rfl (lv_at hl 0 rfl) ?_
        refine fw_iast E hK hH (by omega) hn0 (iI_in (by omega) (by omega) (by omega)) dX10_grown_75 (fun H1 locs1 hH hz1 => ?_)
        replace hz := hz1.trans hz; clear hz1
        rw [show upd (fun j0 => iI (z0 j0)) (iI (0)).toNatClampNeg (iI (2 + (↑kr278))) = fun j0 => iI ((zup z0 (0) (2 + (↑kr278))) j0) from by rw [iI_ix (by omega) (by omega)]; exact zup_upd _ _ _] at hH
        obtain ⟨M92, hM93⟩ : ∃ MX, MX = fw_up M89 N (fI G 2 (fun j0 => iI ((zup z0 (0) (2 + (↑kr278))) j0))) := ⟨_, rfl⟩
        replace hH := fw_H.nm hM93 hH
        have fr94 : ∀ q, q ≠ N → M92 q = M89 q := fun q h => by rw [hM93]; exact fw_up_ne h
        replace hob278 : M92 a = some (.inr (10, [.ref (a + 1), .ref (G.2.2.2.2 3), .int (iI (↑((dw + 1) + 1))), .int (iI tr), .ref (a + 379), .int (iI cs), .ref (a + 380)])) := (fr94 _ (by omega)).trans hob278
        have hn0 : M92 N = some (fI G 2 (fun j0 => iI ((zup z0 (0) (2 + (↑kr278))) j0))) := by rw [hM93]; exact fw_up_eq
        refine lv_dup E.1 E.2.1 dX10_grown_76 rfl ?_
        refine lv_iconst (v := iI 1) E.1 E.2.1 dX10_grown_77 (by decide) ?_
        refine lv_iload_n E.1 E.2.1 dX10_grown_78 rfl (lv_at hl 0 rfl) ?_
        refine fw_if_ne (tgt := 94) E dX10_grown_79 (by decide) (by omega) (by omega) (fun c95 => ?_) (fun c95 => ?_)
        · refine lv_iload_n E.1 E.2.1 dX10_grown_94 rfl (lv_at hl 0 rfl) ?_
          refine lv_iconst (v := iI 1) E.1 E.2.1 dX10_grown_95 (by decide) ?_
          refine fw_icmp_ne (tgt := 107) E dX10_grown_96 (by decide) (by omega) (by omega) (by omega) (by omega) (fun c96 => ?_) (fun c96 => ?_)
          · refine lv_iconst (v := iI 0) E.1 E.2.1 dX10_grown_107 (by decide) ?_
            refine fw_iast E hK hH (by omega) hn0 (iI_in (by omega) (by omega) (by omega)) dX10_grown_108 (fun H1 locs1 hH hz1 => ?_)
            replace hz := hz1.trans hz; clear hz1
            rw [show upd (fun j0 => iI ((zup z0 (0) (2 + (↑kr278))) j0)) (iI (1)).toNatClampNeg (iI (0)) = fun j0 => iI ((zup (zup z0 (0) (2 + (↑kr278))) (1) (0)) j0) from by rw [iI_ix (by omega) (by omega)]; exact zup_upd _ _ _] at hH
            obtain ⟨M97, hM98⟩ : ∃ MX, MX = fw_up M92 N (fI G 2 (fun j0 => iI ((zup (zup z0 (0) (2 + (↑kr278))) (1) (0)) j0))) := ⟨_, rfl⟩
            replace hH := fw_H.nm hM98 hH
            have fr99 : ∀ q, q ≠ N → M97 q = M92 q := fun q h => by rw [hM98]; exact fw_up_ne h
            replace hob278 : M97 a = some (.inr (10, [.ref (a + 1), .ref (G.2.2.2.2 3), .int (iI (↑((dw + 1) + 1))), .int (iI tr), .ref (a + 379), .int (iI cs), .ref (a + 380)])) := (fr99 _ (by omega)).trans hob278
            have hn0 : M97 N = some (fI G 2 (fun j0 => iI ((zup (zup z0 (0) (2 + (↑kr278))) (1) (0)) j0))) := by rw [hM98]; exact fw_up_eq
            refine lv_astore (lv' := [(4, .ref N), (3, .int (iI (2 + (↑kr278)))), (0, .ref a), (1, .int (iI b)), (2, .int (iI 3))]) E.1 E.2.1 dX10_grown_109 hl (by decide) rfl (fun ls hl => ?_)
            exact join111 (2 + (↑kr278)) 0 ((dw + 1) + 1) (zup (zup z0 (0) (2 + (↑kr278))) (1) (0)) _ _ _ _ ⟨(by omega), (fun _ => by omega), (fun _ => by omega), (fun _ => by omega)⟩ (by unfold numI; (repeat' split) <;> omega) (by omega) (by first | rfl | (rw [zup_ne (by omega), zup_eq])) zup_eq (by omega) (fun q hq => by rw [fr99 q (by omega), fr94 q (by omega), fr91 q (by omega), fr88 q (by omega), fr83 q (by omega)]) hH (by omega) hob278 hn0 (lv_sub hl [2, 3, 4, 1, 0] rfl)
          · refine lv_aload_n E.1 E.2.1 dX10_grown_99 rfl (lv_at hl 1 rfl) ?_
            refine lv_iconst (v := iI 3) E.1 E.2.1 dX10_grown_100 (by decide) ?_
            refine fw_cV (As := [.int (iI 3)]) (rest := [.int (iI 1), .ref N, .ref N]) E hK hH hl hob278 fc_X10 fL_X10_draw ql_RX10_48 qi_yX10_draw qv_yX10_draw (l_draw l G _ _ a ((dw + 1) + 1) 3 tr cs (by omega) hob278 (by omega) (by omega)) rfl rfl (Nat.le_of_ble_eq_true rfl) ⟨Nat.le_of_ble_eq_true rfl, Nat.le_of_ble_eq_true rfl⟩ ⟨by show _ ≤ (79 : Nat); omega, by show _ ≤ (15680 : Nat); omega⟩ dX10_grown_101 (fw_ki fun r102 M101 H1 locs1 hp100 hH hz1 => ?_)
            obtain ⟨⟨kr326, rfl, hkr326⟩, hob326, hfr, hz2⟩ := hp100
            replace hz := hz2.trans hz
            clear hz1 hz2
            have fr103 := hfr
            replace hn0 : M101 N = some (fI G 2 (fun j0 => iI ((zup z0 (0) (2 + (↑kr278))) j0))) := (fr103 _ (by omega)).trans hn0
            refine lv_goto (tgt := 108) E.1 E.2.1 dX10_grown_104 (by decide) ?_
            refine fw_iast E hK hH (by omega) hn0 (iI_in (by omega) (by omega) (by omega)) dX10_grown_108 (fun H1 locs1 hH hz1 => ?_)
            replace hz := hz1.trans hz; clear hz1
            rw [show upd (fun j0 => iI ((zup z0 (0) (2 + (↑kr278))) j0)) (iI (1)).toNatClampNeg (iI (↑kr326)) = fun j0 => iI ((zup (zup z0 (0) (2 + (↑kr278))) (1) (↑kr326)) j0) from by rw [iI_ix (by omega) (by omega)]; exact zup_upd _ _ _] at hH
            obtain ⟨M104, hM105⟩ : ∃ MX, MX = fw_up M101 N (fI G 2 (fun j0 => iI ((zup (zup z0 (0) (2 + (↑kr278))) (1) (↑kr326)) j0))) := ⟨_, rfl⟩
            replace hH := fw_H.nm hM105 hH
            have fr106 : ∀ q, q ≠ N → M104 q = M101 q := fun q h => by rw [hM105]; exact fw_up_ne h
            replace hob326 : M104 a = some (.inr (10, [.ref (a + 1), .ref (G.2.2.2.2 3), .int (iI (↑(((dw + 1) + 1) + 1))), .int (iI tr), .ref (a + 379), .int (iI cs), .ref (a + 380)])) := (fr106 _ (by omega)).trans hob326
            have hn0 : M104 N = some (fI G 2 (fun j0 => iI ((zup (zup z0 (0) (2 + (↑kr278))) (1) (↑kr326)) j0))) := by rw [hM105]; exact fw_up_eq
            refine lv_astore (lv' := [(4, .ref N), (3, .int (iI (2 + (↑kr278)))), (0, .ref a), (1, .int (iI b)), (2, .int (iI 3))]) E.1 E.2.1 dX10_grown_109 hl (by decide) rfl (fun ls hl => ?_)
            exact join111 (2 + (↑kr278)) ↑kr326 (((dw + 1) + 1) + 1) (zup (zup z0 (0) (2 + (↑kr278))) (1) (↑kr326)) _ _ _ _ ⟨(by omega), (fun _ => by omega), (fun _ => by omega), (fun _ => by omega)⟩ (by unfold numI; (repeat' split) <;> omega) (by omega) (by first | rfl | (rw [zup_ne (by omega), zup_eq])) zup_eq (by omega) (fun q hq => by rw [fr106 q (by omega), fr103 q (by omega), fr94 q (by omega), fr91 q (by omega), fr88 q (by omega), fr83 q (by omega)]) hH (by omega) hob326 hn0 (lv_sub hl [2, 3, 4, 1, 0] rfl)
        · refine lv_aload_n E.1 E.2.1 dX10_grown_82 rfl (lv_at hl 1 rfl) ?_
          refine lv_bipush (v := iI 25) E.1 E.2.1 dX10_grown_83 (by decide) ?_
          refine fw_cV (As := [.int (iI 25)]) (rest := [.int (iI 1), .ref N, .ref N]) E hK hH hl hob278 fc_X10 fL_X10_draw ql_RX10_48 qi_yX10_draw qv_yX10_draw (l_draw l G _ _ a ((dw + 1) + 1) 25 tr cs (by omega) hob278 (by omega) (by omega)) rfl rfl (Nat.le_of_ble_eq_true rfl) ⟨Nat.le_of_ble_eq_true rfl, Nat.le_of_ble_eq_true rfl⟩ ⟨by show _ ≤ (79 : Nat); omega, by show _ ≤ (15680 : Nat); omega⟩ dX10_grown_85 (fw_ki fun r109 M108 H1 locs1 hp107 hH hz1 => ?_)
          obtain ⟨⟨kr345, rfl, hkr345⟩, hob345, hfr, hz2⟩ := hp107
          replace hz := hz2.trans hz
          clear hz1 hz2
          have fr110 := hfr
          replace hn0 : M108 N = some (fI G 2 (fun j0 => iI ((zup z0 (0) (2 + (↑kr278))) j0))) := (fr110 _ (by omega)).trans hn0
          refine lv_bipush (v := iI 8) E.1 E.2.1 dX10_grown_88 (by decide) ?_
          refine fw_isub E dX10_grown_90 ?_
          refine lv_goto (tgt := 108) E.1 E.2.1 dX10_grown_91 (by decide) ?_
          refine fw_iast E hK hH (by omega) hn0 (iI_in (by omega) (by omega) (by omega)) dX10_grown_108 (fun H1 locs1 hH hz1 => ?_)
          replace hz := hz1.trans hz; clear hz1
          rw [show upd (fun j0 => iI ((zup z0 (0) (2 + (↑kr278))) j0)) (iI (1)).toNatClampNeg (iI ((↑kr345) - 8)) = fun j0 => iI ((zup (zup z0 (0) (2 + (↑kr278))) (1) ((↑kr345) - 8)) j0) from by rw [iI_ix (by omega) (by omega)]; exact zup_upd _ _ _] at hH
          obtain ⟨M111, hM112⟩ : ∃ MX, MX = fw_up M108 N (fI G 2 (fun j0 => iI ((zup (zup z0 (0) (2 + (↑kr278))) (1) ((↑kr345) - 8)) j0))) := ⟨_, rfl⟩
          replace hH := fw_H.nm hM112 hH
          have fr113 : ∀ q, q ≠ N → M111 q = M108 q := fun q h => by rw [hM112]; exact fw_up_ne h
          replace hob345 : M111 a = some (.inr (10, [.ref (a + 1), .ref (G.2.2.2.2 3), .int (iI (↑(((dw + 1) + 1) + 1))), .int (iI tr), .ref (a + 379), .int (iI cs), .ref (a + 380)])) := (fr113 _ (by omega)).trans hob345
          have hn0 : M111 N = some (fI G 2 (fun j0 => iI ((zup (zup z0 (0) (2 + (↑kr278))) (1) ((↑kr345) - 8)) j0))) := by rw [hM112]; exact fw_up_eq
          refine lv_astore (lv' := [(4, .ref N), (3, .int (iI (2 + (↑kr278)))), (0, .ref a), (1, .int (iI b)), (2, .int (iI 3))]) E.1 E.2.1 dX10_grown_109 hl (by decide) rfl (fun ls hl => ?_)
          exact join111 (2 + (↑kr278)) ((↑kr345) - 8) (((dw + 1) + 1) + 1) (zup (zup z0 (0) (2 + (↑kr278))) (1) ((↑kr345) - 8)) _ _ _ _ ⟨(by omega), (fun _ => by omega), (fun _ => by omega), (fun _ => by omega)⟩ (by unfold numI; (repeat' split) <;> omega) (by omega) (by first | rfl | (rw [zup_ne (by omega), zup_eq])) zup_eq (by omega) (fun q hq => by rw [fr113 q (by omega), fr110 q (by omega), fr94 q (by omega), fr91 q (by omega), fr88 q (by omega), fr83 q (by omega)]) hH (by omega) hob345 hn0 (lv_sub hl [2, 3, 4, 1, 0] rfl)
      · refine lv_aload_n E.1 E.2.1 dX10_grown_17 rfl (lv_at hl 0 rfl) ?_
        refine lv_iconst (v := iI 2) E.1 E.2.1 dX10_grown_18 (by decide) ?_
        refine fw_cV (As := [.int (iI 2)]) (rest := []) E hK hH hl hob269 fc_X10 fL_X10_draw ql_RX10_48 qi_yX10_draw qv_yX10_draw (l_draw l G _ _ a (dw + 1) 2 tr cs (by omega) hob269 (by omega) (by omega)) rfl rfl (Nat.le_of_ble_eq_true rfl) ⟨Nat.le_of_ble_eq_true rfl, Nat.le_of_ble_eq_true rfl⟩ ⟨by show _ ≤ (79 : Nat); omega, by show _ ≤ (15680 : Nat); omega⟩ dX10_grown_19 (fw_ki fun r116 M115 H1 locs1 hp114 hH hz1 => ?_)
        obtain ⟨⟨kr366, rfl, hkr366⟩, hob366, hfr, hz2⟩ := hp114
        replace hz := hz2.trans hz
        clear hz1 hz2
        have fr117 := hfr
        refine lv_goto (tgt := 68) E.1 E.2.1 dX10_grown_22 (by decide) ?_
        refine lv_istore_n (lv' := [(3, .int (iI ↑kr366)), (0, .ref a), (1, .int (iI b)), (2, .int (iI 3))]) E.1 E.2.1 dX10_grown_68 rfl hl (by decide) rfl (fun ls hl => ?_)
        refine lv_iconst (v := iI 2) E.1 E.2.1 dX10_grown_69 (by decide) ?_
        refine fw_newI (N := 2) E hK hH hz qa_int (by decide) (by decide) (by decide) ⟨by show _ ≤ (79 : Nat); omega, by show _ ≤ (15680 : Nat); omega⟩ dX10_grown_70 (fun H1 hH hz1 => ?_)
        replace hz : H1.size = N + 1 := by omega
        clear hz1
        obtain ⟨M118, hM119⟩ : ∃ MX, MX = fw_up M115 N (fI G 2 (fun j0 => iI (z0 j0))) := ⟨_, rfl⟩
        replace hH := fw_H.nm hM119 hH
        have fr120 : ∀ q, q ≠ N → M118 q = M115 q := fun q h => by rw [hM119]; exact fw_up_ne h
        replace hob366 : M118 a = some (.inr (10, [.ref (a + 1), .ref (G.2.2.2.2 3), .int (iI (↑((dw + 1) + 1))), .int (iI tr), .ref (a + 379), .int (iI cs), .ref (a + 380)])) := (fr120 _ (by omega)).trans hob366
        have hn0 : M118 N = some (fI G 2 (fun j0 => iI (z0 j0))) := by rw [hM119]; exact fw_up_eq
        refine lv_dup E.1 E.2.1 dX10_grown_72 rfl ?_
        refine lv_iconst (v := iI 0) E.1 E.2.1 dX10_grown_73 (by decide) ?_
        refine lv_iload_n E.1 E.2.1 dX10_grown_74 rfl (lv_at hl 0 rfl) ?_
        refine fw_iast E hK hH (by omega) hn0 (iI_in (by omega) (by omega) (by omega)) dX10_grown_75 (fun H1 locs1 hH hz1 => ?_)
        replace hz := hz1.trans hz; clear hz1
        rw [show upd (fun j0 => iI (z0 j0)) (iI (0)).toNatClampNeg (iI (↑kr366)) = fun j0 => iI ((zup z0 (0) (↑kr366)) j0) from by rw [iI_ix (by omega) (by omega)]; exact zup_upd _ _ _] at hH
        obtain ⟨M121, hM122⟩ : ∃ MX, MX = fw_up M118 N (fI G 2 (fun j0 => iI ((zup z0 (0) (↑kr366)) j0))) := ⟨_, rfl⟩
        replace hH := fw_H.nm hM122 hH
        have fr123 : ∀ q, q ≠ N → M121 q = M118 q := fun q h => by rw [hM122]; exact fw_up_ne h
        replace hob366 : M121 a = some (.inr (10, [.ref (a + 1), .ref (G.2.2.2.2 3), .int (iI (↑((dw + 1) + 1))), .int (iI tr), .ref (a + 379), .int (iI cs), .ref (a + 380)])) := (fr123 _ (by omega)).trans hob366
        have hn0 : M121 N = some (fI G 2 (fun j0 => iI ((zup z0 (0) (↑kr366)) j0))) := by rw [hM122]; exact fw_up_eq
        refine lv_dup E.1 E.2.1 dX10_grown_76 rfl ?_
        refine lv_iconst (v := iI 1) E.1 E.2.1 dX10_grown_77 (by decide) ?_
        refine lv_iload_n E.1 E.2.1 dX10_grown_78 rfl (lv_at hl 0 rfl) ?_
        refine fw_if_ne (tgt := 94) E dX10_grown_79 (by decide) (by omega) (by omega) (fun c124 => ?_) (fun c124 => ?_)
        · refine lv_iload_n E.1 E.2.1 dX10_grown_94 rfl (lv_at hl 0 rfl) ?_
          refine lv_iconst (v := iI 1) E.1 E.2.1 dX10_grown_95 (by decide) ?_
          refine fw_icmp_ne (tgt := 107) E dX10_grown_96 (by decide) (by omega) (by omega) (by omega) (by omega) (fun c125 => ?_) (fun c125 => ?_)
          · refine lv_iconst (v := iI 0) E.1 E.2.1 dX10_grown_107 (by decide) ?_
            refine fw_iast E hK hH (by omega) hn0 (iI_in (by omega) (by omega) (by omega)) dX10_grown_108 (fun H1 locs1 hH hz1 => ?_)
            replace hz := hz1.trans hz; clear hz1
            rw [show upd (fun j0 => iI ((zup z0 (0) (↑kr366)) j0)) (iI (1)).toNatClampNeg (iI (0)) = fun j0 => iI ((zup (zup z0 (0) (↑kr366)) (1) (0)) j0) from by rw [iI_ix (by omega) (by omega)]; exact zup_upd _ _ _] at hH
            obtain ⟨M126, hM127⟩ : ∃ MX, MX = fw_up M121 N (fI G 2 (fun j0 => iI ((zup (zup z0 (0) (↑kr366)) (1) (0)) j0))) := ⟨_, rfl⟩
            replace hH := fw_H.nm hM127 hH
            have fr128 : ∀ q, q ≠ N → M126 q = M121 q := fun q h => by rw [hM127]; exact fw_up_ne h
            replace hob366 : M126 a = some (.inr (10, [.ref (a + 1), .ref (G.2.2.2.2 3), .int (iI (↑((dw + 1) + 1))), .int (iI tr), .ref (a + 379), .int (iI cs), .ref (a + 380)])) := (fr128 _ (by omega)).trans hob366
            have hn0 : M126 N = some (fI G 2 (fun j0 => iI ((zup (zup z0 (0) (↑kr366)) (1) (0)) j0))) := by rw [hM127]; exact fw_up_eq
            refine lv_astore (lv' := [(4, .ref N), (3, .int (iI ↑kr366)), (0, .ref a), (1, .int (iI b)), (2, .int (iI 3))]) E.1 E.2.1 dX10_grown_109 hl (by decide) rfl (fun ls hl => ?_)
            exact join111 ↑kr366 0 ((dw + 1) + 1) (zup (zup z0 (0) (↑kr366)) (1) (0)) _ _ _ _ ⟨(by omega), (fun _ => by omega), (fun _ => by omega), (fun _ => by omega)⟩ (by unfold numI; (repeat' split) <;> omega) (by omega) (by first | rfl | (rw [zup_ne (by omega), zup_eq])) zup_eq (by omega) (fun q hq => by rw [fr128 q (by omega), fr123 q (by omega), fr120 q (by omega), fr117 q (by omega), fr83 q (by omega)]) hH (by omega) hob366 hn0 (lv_sub hl [2, 3, 4, 1, 0] rfl)
          · refine lv_aload_n E.1 E.2.1 dX10_grown_99 rfl (lv_at hl 1 rfl) ?_
            refine lv_iconst (v := iI 3) E.1 E.2.1 dX10_grown_100 (by decide) ?_
            refine fw_cV (As := [.int (iI 3)]) (rest := [.int (iI 1), .ref N, .ref N]) E hK hH hl hob366 fc_X10 fL_X10_draw ql_RX10_48 qi_yX10_draw qv_yX10_draw (l_draw l G _ _ a ((dw + 1) + 1) 3 tr cs (by omega) hob366 (by omega) (by omega)) rfl rfl (Nat.le_of_ble_eq_true rfl) ⟨Nat.le_of_ble_eq_true rfl, Nat.le_of_ble_eq_true rfl⟩ ⟨by show _ ≤ (79 : Nat); omega, by show _ ≤ (15680 : Nat); omega⟩ dX10_grown_101 (fw_ki fun r131 M130 H1 locs1 hp129 hH hz1 => ?_)
            obtain ⟨⟨kr413, rfl, hkr413⟩, hob413, hfr, hz2⟩ := hp129
            replace hz := hz2.trans hz
            clear hz1 hz2
            have fr132 := hfr
            replace hn0 : M130 N = some (fI G 2 (fun j0 => iI ((zup z0 (0) (↑kr366)) j0))) := (fr132 _ (by omega)).trans hn0
            refine lv_goto (tgt := 108) E.1 E.2.1 dX10_grown_104 (by decide) ?_
            refine fw_iast E hK hH (by omega) hn0 (iI_in (by omega) (by omega) (by omega)) dX10_grown_108 (fun H1 locs1 hH hz1 => ?_)
            replace hz := hz1.trans hz; clear hz1
            rw [show upd (fun j0 => iI ((zup z0 (0) (↑kr366)) j0)) (iI (1)).toNatClampNeg (iI (↑kr413)) = fun j0 => iI ((zup (zup z0 (0) (↑kr366)) (1) (↑kr413)) j0) from by rw [iI_ix (by omega) (by omega)]; exact zup_upd _ _ _] at hH
            obtain ⟨M133, hM134⟩ : ∃ MX, MX = fw_up M130 N (fI G 2 (fun j0 => iI ((zup (zup z0 (0) (↑kr366)) (1) (↑kr413)) j0))) := ⟨_, rfl⟩
            replace hH := fw_H.nm hM134 hH
            have fr135 : ∀ q, q ≠ N → M133 q = M130 q := fun q h => by rw [hM134]; exact fw_up_ne h
            replace hob413 : M133 a = some (.inr (10, [.ref (a + 1), .ref (G.2.2.2.2 3), .int (iI (↑(((dw + 1) + 1) + 1))), .int (iI tr), .ref (a + 379), .int (iI cs), .ref (a + 380)])) := (fr135 _ (by omega)).trans hob413
            have hn0 : M133 N = some (fI G 2 (fun j0 => iI ((zup (zup z0 (0) (↑kr366)) (1) (↑kr413)) j0))) := by rw [hM134]; exact fw_up_eq
            refine lv_astore (lv' := [(4, .ref N), (3, .int (iI ↑kr366)), (0, .ref a), (1, .int (iI b)), (2, .int (iI 3))]) E.1 E.2.1 dX10_grown_109 hl (by decide) rfl (fun ls hl => ?_)
            exact join111 ↑kr366 ↑kr413 (((dw + 1) + 1) + 1) (zup (zup z0 (0) (↑kr366)) (1) (↑kr413)) _ _ _ _ ⟨(by omega), (fun _ => by omega), (fun _ => by omega), (fun _ => by omega)⟩ (by unfold numI; (repeat' split) <;> omega) (by omega) (by first | rfl | (rw [zup_ne (by omega), zup_eq])) zup_eq (by omega) (fun q hq => by rw [fr135 q (by omega), fr132 q (by omega), fr123 q (by omega), fr120 q (by omega), fr117 q (by omega), fr83 q (by omega)]) hH (by omega) hob413 hn0 (lv_sub hl [2, 3, 4, 1, 0] rfl)
        · refine lv_aload_n E.1 E.2.1 dX10_grown_82 rfl (lv_at hl 1 rfl) ?_
          refine lv_bipush (v := iI 25) E.1 E.2.1 dX10_grown_83 (by decide) ?_
          refine fw_cV (As := [.int (iI 25)]) (rest := [.int (iI 1), .ref N, .ref N]) E hK hH hl hob366 fc_X10 fL_X10_draw ql_RX10_48 qi_yX10_draw qv_yX10_draw (l_draw l G _ _ a ((dw + 1) + 1) 25 tr cs (by omega) hob366 (by omega) (by omega)) rfl rfl (Nat.le_of_ble_eq_true rfl) ⟨Nat.le_of_ble_eq_true rfl, Nat.le_of_ble_eq_true rfl⟩ ⟨by show _ ≤ (79 : Nat); omega, by show _ ≤ (15680 : Nat); omega⟩ dX10_grown_85 (fw_ki fun r138 M137 H1 locs1 hp136 hH hz1 => ?_)
          obtain ⟨⟨kr432, rfl, hkr432⟩, hob432, hfr, hz2⟩ := hp136
          replace hz := hz2.trans hz
          clear hz1 hz2
          have fr139 := hfr
          replace hn0 : M137 N = some (fI G 2 (fun j0 => iI ((zup z0 (0) (↑kr366)) j0))) := (fr139 _ (by omega)).trans hn0
          refine lv_bipush (v := iI 8) E.1 E.2.1 dX10_grown_88 (by decide) ?_
          refine fw_isub E dX10_grown_90 ?_
          refine lv_goto (tgt := 108) E.1 E.2.1 dX10_grown_91 (by decide) ?_
          refine fw_iast E hK hH (by omega) hn0 (iI_in (by omega) (by omega) (by omega)) dX10_grown_108 (fun H1 locs1 hH hz1 => ?_)
          replace hz := hz1.trans hz; clear hz1
          rw [show upd (fun j0 => iI ((zup z0 (0) (↑kr366)) j0)) (iI (1)).toNatClampNeg (iI ((↑kr432) - 8)) = fun j0 => iI ((zup (zup z0 (0) (↑kr366)) (1) ((↑kr432) - 8)) j0) from by rw [iI_ix (by omega) (by omega)]; exact zup_upd _ _ _] at hH
          obtain ⟨M140, hM141⟩ : ∃ MX, MX = fw_up M137 N (fI G 2 (fun j0 => iI ((zup (zup z0 (0) (↑kr366)) (1) ((↑kr432) - 8)) j0))) := ⟨_, rfl⟩
          replace hH := fw_H.nm hM141 hH
          have fr142 : ∀ q, q ≠ N → M140 q = M137 q := fun q h => by rw [hM141]; exact fw_up_ne h
          replace hob432 : M140 a = some (.inr (10, [.ref (a + 1), .ref (G.2.2.2.2 3), .int (iI (↑(((dw + 1) + 1) + 1))), .int (iI tr), .ref (a + 379), .int (iI cs), .ref (a + 380)])) := (fr142 _ (by omega)).trans hob432
          have hn0 : M140 N = some (fI G 2 (fun j0 => iI ((zup (zup z0 (0) (↑kr366)) (1) ((↑kr432) - 8)) j0))) := by rw [hM141]; exact fw_up_eq
          refine lv_astore (lv' := [(4, .ref N), (3, .int (iI ↑kr366)), (0, .ref a), (1, .int (iI b)), (2, .int (iI 3))]) E.1 E.2.1 dX10_grown_109 hl (by decide) rfl (fun ls hl => ?_)
          exact join111 ↑kr366 ((↑kr432) - 8) (((dw + 1) + 1) + 1) (zup (zup z0 (0) (↑kr366)) (1) ((↑kr432) - 8)) _ _ _ _ ⟨(by omega), (fun _ => by omega), (fun _ => by omega), (fun _ => by omega)⟩ (by unfold numI; (repeat' split) <;> omega) (by omega) (by first | rfl | (rw [zup_ne (by omega), zup_eq])) zup_eq (by omega) (fun q hq => by rw [fr142 q (by omega), fr139 q (by omega), fr123 q (by omega), fr120 q (by omega), fr117 q (by omega), fr83 q (by omega)]) hH (by omega) hob432 hn0 (lv_sub hl [2, 3, 4, 1, 0] rfl)
set_option maxHeartbeats 4000000 in
theorem l_grown4 (l : Launch) (G : fw_G) (M : fw_M) (N : Nat) (a dw : Nat) (b tr cs : Int) (hba : G.2.2.1 ≤ a) (haN : a + 381 ≤ N) (g0 : M a = some (.inr (10, [.ref (a + 1), .ref (G.2.2.2.2 3), .int (iI ↑dw), .int (iI tr), .ref (a + 379), .int (iI cs), .ref (a + 380)]))) (hb : b = 0 ∨ b = 1) (hd9 : dw + 363 ≤ 20000) : fMet l yX10_grown cX10_grown 6 (some (.array .int)) 7 185 241 48242 G M N [.ref a, .int (iI b), .int (iI 4)] (fw_pr (fun r M1 n1 => (∃ (n : Nat) (f : Nat → Int), N ≤ r ∧ r < n1 ∧ M1 r = some (fI G (2 * n) (fun j0 => iI (f j0))) ∧ pcP b 5 121 n f) ∧ (∃ dw1 : Nat, M1 a = some (.inr (10, [.ref (a + 1), .ref (G.2.2.2.2 3), .int (iI ↑dw1), .int (iI tr), .ref (a + 379), .int (iI cs), .ref (a + 380)])) ∧ dw ≤ dw1 ∧ dw1 ≤ dw + 363) ∧ (∀ q, q ≠ a ∧ q < N → M1 q = M q) ∧ N ≤ n1)) := by
  refine fw_met RX10 rfl (by decide +kernel) (Nat.le_of_ble_eq_true rfl) ?_
  intro pG e s m args below meth cG ls E hr hlk hnm hK hH hz hl
  have join111 : ∀ (x : Int) (v : Int) (dwj : Nat) (f : Nat → Int) (Mj111 : fw_M) (H : Heap) (locs : List Loc) (ls : Array Slot), ndOK x v → numI x = b → 0 ≤ x → f 0 = x → f 1 = v → dw ≤ dwj ∧ dwj ≤ dw + 3 → (∀ q, q ≠ a ∧ q < N → Mj111 q = M q) → fw_H G s Mj111 H locs → H.size = N + 1 → Mj111 a = some (.inr (10, [.ref (a + 1), .ref (G.2.2.2.2 3), .int (iI ↑dwj), .int (iI tr), .ref (a + 379), .int (iI cs), .ref (a + 380)])) → Mj111 N = some (fI G 2 (fun j0 => iI (f j0))) → lv_has ls 6 [(0, .ref a), (1, .int (iI b)), (2, .int (iI 4)), (3, .int (iI x)), (4, .ref N)] → W pG l e ({ frames := 7, cells := 241, slots := 48242, locals := 185 } : Room) s m args below meth cG H locs (1) (2) (MQ below (fw_Q G (fw_pr (fun r M1 n1 => (∃ (n : Nat) (f : Nat → Int), N ≤ r ∧ r < n1 ∧ M1 r = some (fI G (2 * n) (fun j0 => iI (f j0))) ∧ pcP b 5 121 n f) ∧ (∃ dw1 : Nat, M1 a = some (.inr (10, [.ref (a + 1), .ref (G.2.2.2.2 3), .int (iI ↑dw1), .int (iI tr), .ref (a + 379), .int (iI cs), .ref (a + 380)])) ∧ dw ≤ dw1 ∧ dw1 ≤ dw + 363) ∧ (∀ q, q ≠ a ∧ q < N → M1 q = M q) ∧ N ≤ n1))) args s 241 48242 (fun q => G.2.2.1 ≤ q)) (F0 m 111 ls []) := by
    intro x v dwj f Mj111 H locs ls hnv hnx hxd hf0 hf1 hdj hfr0 hH hz g0 hA hl
    refine lv_iconst (v := iI 0) E.1 E.2.1 dX10_grown_111 (by decide) ?_
    refine lv_istore (lv' := [(5, .int (iI 0)), (0, .ref a), (1, .int (iI b)), (2, .int (iI 4)), (3, .int (iI x)), (4, .ref N)]) E.1 E.2.1 dX10_grown_112 hl (by decide) rfl (fun ls hl => ?_)
    have loop114_1 : ∀ (d114 : Nat) (i : Nat) (n : Nat) (cur : Nat) (h : Nat → Int) (dwl : Nat) (sz : Nat) (Mw114 : fw_M) (H : Heap) (locs : List Loc) (ls : Array Slot), arN x - i < d114 → i ≤ arN x → ptP x 4 i 40 n h → N ≤ cur ∧ cur < sz → dw ≤ dwl ∧ dwl ≤ dw + 3 + i * 120 → (∀ q, q ≠ a ∧ q < N → Mw114 q = M q) → fw_H G s Mw114 H locs → H.size = sz → Mw114 a = some (.inr (10, [.ref (a + 1), .ref (G.2.2.2.2 3), .int (iI ↑dwl), .int (iI tr), .ref (a + 379), .int (iI cs), .ref (a + 380)])) → Mw114 cur = some (fI G (2 * n) (fun j0 => iI (h j0))) → lv_has ls 6 [(0, .ref a), (1, .int (iI b)), (2, .int (iI 4)), (3, .int (iI x)), (4, .ref cur), (5, .int (iI ↑i))] → W pG l e ({ frames := 7, cells := 241, slots := 48242, locals := 185 } : Room) s m args below meth cG H locs (1 + i * 80) (2 + i * 16080) (MQ below (fw_Q G (fw_pr (fun r M1 n1 => (∃ (n : Nat) (f : Nat → Int), N ≤ r ∧ r < n1 ∧ M1 r = some (fI G (2 * n) (fun j0 => iI (f j0))) ∧ pcP b 5 121 n f) ∧ (∃ dw1 : Nat, M1 a = some (.inr (10, [.ref (a + 1), .ref (G.2.2.2.2 3), .int (iI ↑dw1), .int (iI tr), .ref (a + 379), .int (iI cs), .ref (a + 380)])) ∧ dw ≤ dw1 ∧ dw1 ≤ dw + 363) ∧ (∀ q, q ≠ a ∧ q < N → M1 q = M q) ∧ N ≤ n1))) args s 241 48242 (fun q => G.2.2.1 ≤ q)) (F0 m 114 ls []) := by
      intro d114
      induction d114 with
      | zero => intro i n cur h dwl sz Mw114 H locs ls hd; exact absurd hd (Nat.not_lt_zero _)
      | succ d114 ih114 =>
        intro i n cur h dwl sz Mw114 H locs ls hd114 ii hP hcur hdl hfr0 hH hz g0 hA hl
        have hpn := hP.n0
        have har := arN_le x
        have hnv0 := hnv.1
        refine lv_iload E.1 E.2.1 dX10_grown_114 (lv_at hl 5 rfl) ?_
        refine lv_iload_n E.1 E.2.1 dX10_grown_116 rfl (lv_at hl 3 rfl) ?_
        refine fw_cS (As := [.int (iI x)]) (rest := [.int (iI ↑i)]) E hK hH hl fL_X10_many ql_RX10_52 qs_yX10_many (l_many l G _ _ x (by omega)) rfl rfl (Nat.le_of_ble_eq_true rfl) ⟨Nat.le_of_ble_eq_true rfl, Nat.le_of_ble_eq_true rfl⟩ ⟨by show _ ≤ (241 : Nat); omega, by show _ ≤ (48242 : Nat); omega⟩ dX10_grown_117 (fw_ki fun r3 M2 H1 locs1 hp1 hH hz1 => ?_)
        obtain ⟨rfl, hM9, hz2⟩ := hp1
        have har19 := arN_le x
        replace hz := hz2.trans hz
        clear hz1 hz2
        rw [hM9] at hH
        refine fw_icmp_ge (tgt := 149) E dX10_grown_120 (by decide) (by omega) (by omega) (by omega) (by omega) (fun c4 => ?_) (fun c4 => ?_)
        · refine lv_aload E.1 E.2.1 dX10_grown_149 (lv_at hl 4 rfl) ?_
          refine W.widen (k := 241) (n := 48242) (by omega) (by omega) ?_
          refine fw_aret E hr (Or.inr ⟨_, rfl⟩) hlk hH ?_ dX10_grown_151
          have e9 : i = arN x := by omega
          exact ⟨⟨n, h, hcur.1, by omega, hA, by rw [← hnx]; exact ptP_end hP e9⟩, ⟨dwl, g0, by omega, by omega⟩, hfr0, by omega⟩
        · refine lv_aload E.1 E.2.1 dX10_grown_123 (lv_at hl 4 rfl) ?_
          refine lv_aload_n E.1 E.2.1 dX10_grown_125 rfl (lv_at hl 0 rfl) ?_
          refine lv_iload_n E.1 E.2.1 dX10_grown_126 rfl (lv_at hl 3 rfl) ?_
          refine lv_iload E.1 E.2.1 dX10_grown_127 (lv_at hl 5 rfl) ?_
          refine fw_cS (As := [.int (iI x), .int (iI ↑i)]) (rest := [.ref a, .ref cur]) E hK hH hl fL_X10_isNumber ql_RX10_55 qs_yX10_isNumber (l_isNumber l G _ _ x i (by omega) (by omega)) rfl rfl (Nat.le_of_ble_eq_true rfl) ⟨Nat.le_of_ble_eq_true rfl, Nat.le_of_ble_eq_true rfl⟩ ⟨by show _ ≤ (241 : Nat); omega, by show _ ≤ (48242 : Nat); omega⟩ dX10_grown_129 (fw_ki fun r7 M6 H1 locs1 hp5 hH hz1 => ?_)
          obtain ⟨rfl, hM9, hz2⟩ := hp5
          have hnm35 := nmP_01 x i
          replace hz := hz2.trans hz
          clear hz1 hz2
          rw [hM9] at hH
          refine lv_iload_n E.1 E.2.1 dX10_grown_132 rfl (lv_at hl 2 rfl) ?_
          refine lv_iconst (v := iI 1) E.1 E.2.1 dX10_grown_133 (by decide) ?_
          refine fw_isub E dX10_grown_134 ?_
          refine fw_cv (y := iI (3)) (by decide) ?_
          refine fw_cV (As := [.int (iI (nmP x i)), .int (iI (3))]) (rest := [.ref cur]) E hK hH hl g0 fc_X10 fL_X10_grown ql_RX10_59 qi_yX10_grown qv_yX10_grown (l_grown3 l G _ _ a dwl (nmP x i) tr cs (by omega) (by omega) g0 (by omega) (by omega)) rfl rfl (Nat.le_of_ble_eq_true rfl) ⟨Nat.le_of_ble_eq_true rfl, Nat.le_of_ble_eq_true rfl⟩ ⟨by show _ ≤ (241 : Nat); omega, by show _ ≤ (48242 : Nat); omega⟩ dX10_grown_135 (fw_kr fun rg45 M9 H1 locs1 hp8 hH hz1 => ?_)
          obtain ⟨⟨ng45, fg45, hra45, hrb45, hR45, hpc45⟩, ⟨dwg45, hob45, hda45, hdb45⟩, hfr, hz2⟩ := hp8
          rw [hz] at hra45 hfr hz2
          obtain ⟨sz45, hsz45⟩ : ∃ y, y = H1.size := ⟨_, rfl⟩
          rw [← hsz45] at hrb45 hz2
          replace hz := hsz45.symm
          have hng45 := hpc45.n0
          clear hz1
          have fr10 := hfr
          replace hA : M9 cur = some (fI G (2 * n) (fun j0 => iI (h j0))) := (fr10 _ (by omega)).trans hA
          refine fw_cS (As := [.ref cur, .ref rg45]) (rest := []) E hK hH hl fL_X10_joined ql_RX10_63 qs_yX10_joined (l_joined l G _ _ cur rg45 (2 * n) (2 * ng45) h fg45 hA hR45 (by omega) (by omega) (by omega) (by omega)) rfl rfl (Nat.le_of_ble_eq_true rfl) ⟨Nat.le_of_ble_eq_true rfl, Nat.le_of_ble_eq_true rfl⟩ ⟨by show _ ≤ (241 : Nat); omega, by show _ ≤ (48242 : Nat); omega⟩ dX10_grown_138 (fw_kr fun rj55 M12 H1 locs1 hp11 hH hz1 => ?_)
          obtain ⟨hr9, ⟨hj55, hJ55, hja55, hjb55⟩, hfr, hz2⟩ := hp11
          rw [hz] at hr9 hJ55 hfr hz2
          rw [hr9]
          replace hz : H1.size = sz45 + 1 := by omega
          clear hz1 hz2
          have fr13 := hfr
          replace hA : M12 cur = some (fI G (2 * n) (fun j0 => iI (h j0))) := (fr13 _ (by omega)).trans hA
          replace hob45 : M12 a = some (.inr (10, [.ref (a + 1), .ref (G.2.2.2.2 3), .int (iI ↑dwg45), .int (iI tr), .ref (a + 379), .int (iI cs), .ref (a + 380)])) := (fr13 _ (by omega)).trans hob45
          replace hR45 : M12 rg45 = some (fI G (2 * ng45) (fun j0 => iI (fg45 j0))) := (fr13 _ (by omega)).trans hR45
          refine lv_astore (lv' := [(4, .ref sz45), (0, .ref a), (1, .int (iI b)), (2, .int (iI 4)), (3, .int (iI x)), (5, .int (iI ↑i))]) E.1 E.2.1 dX10_grown_141 hl (by decide) rfl (fun ls hl => ?_)
          refine lv_iinc (v := iI (↑i + 1)) (lv' := [(5, .int (iI (↑i + 1))), (4, .ref sz45), (0, .ref a), (1, .int (iI b)), (2, .int (iI 4)), (3, .int (iI x))]) E.1 E.2.1 dX10_grown_143 hl (k := 5) rfl (iI_inc rfl) (by decide) rfl (fun ls hl => ?_)
          refine lv_goto (tgt := 114) E.1 E.2.1 dX10_grown_146 (by decide) ?_
          refine W.widen (k := 1 + (i + 1) * 80) (n := 2 + (i + 1) * 16080) (by omega) (by omega) ?_
          exact ih114 (i + 1) (n + ng45) sz45 hj55 dwg45 (sz45 + 1) _ _ _ _ (by omega) (by omega) (ptP_step hP hpc45 hja55 hjb55) (by omega) (by omega) (fun q hq => by rw [fr13 q (by omega), fr10 q (by omega)]; exact hfr0 q hq) hH (by omega) hob45 (by rw [show 2 * (n + ng45) = 2 * n + 2 * ng45 by omega]; exact hJ55) (lv_sub hl [2, 3, 4, 5, 1, 0] rfl)
    refine W.widen (k := 1 + 0 * 80) (n := 2 + 0 * 16080) (by omega) (by omega) ?_
    exact loop114_1 (arN x - 0 + 1) 0 1 N f dwj (N + 1) _ _ _ _ (Nat.lt_succ_self _) (Nat.zero_le _) (ptP_0 hf0 hf1 hnv) (by omega) (by omega) hfr0 hH (by omega) g0 hA (lv_sub hl [1, 2, 3, 4, 5, 0] rfl)
  refine lv_iload_n E.1 E.2.1 dX10_grown_0 rfl (lv_at hl 1 rfl) ?_
  refine fw_if_eq (tgt := 36) E dX10_grown_1 (by decide) (by omega) (by omega) (fun c14 => ?_) (fun c14 => ?_)
  · refine lv_iload_n E.1 E.2.1 dX10_grown_36 rfl (lv_at hl 2 rfl) ?_
    refine lv_iconst (v := iI 3) E.1 E.2.1 dX10_grown_37 (by decide) ?_
    refine fw_icmp_lt (tgt := 49) E dX10_grown_38 (by decide) (by omega) (by omega) (by omega) (by omega) (fun c15 => ?_) (fun c15 => ?_)
    · exact absurd c15 (by omega)
    · refine lv_aload_n E.1 E.2.1 dX10_grown_41 rfl (lv_at hl 0 rfl) ?_
      refine lv_iconst (v := iI 2) E.1 E.2.1 dX10_grown_42 (by decide) ?_
      refine fw_cV (As := [.int (iI 2)]) (rest := []) E hK hH hl g0 fc_X10 fL_X10_draw ql_RX10_48 qi_yX10_draw qv_yX10_draw (l_draw l G _ _ a dw 2 tr cs (by omega) g0 (by omega) (by omega)) rfl rfl (Nat.le_of_ble_eq_true rfl) ⟨Nat.le_of_ble_eq_true rfl, Nat.le_of_ble_eq_true rfl⟩ ⟨by show _ ≤ (241 : Nat); omega, by show _ ≤ (48242 : Nat); omega⟩ dX10_grown_43 (fw_ki fun r18 M17 H1 locs1 hp16 hH hz1 => ?_)
      obtain ⟨⟨kr80, rfl, hkr80⟩, hob80, hfr, hz2⟩ := hp16
      replace hz := hz2.trans hz
      clear hz1 hz2
      have fr19 := hfr
      refine fw_if_ne (tgt := 60) E dX10_grown_46 (by decide) (by omega) (by omega) (fun c20 => ?_) (fun c20 => ?_)
      · refine lv_bipush (v := iI 11) E.1 E.2.1 dX10_grown_60 (by decide) ?_
        refine lv_aload_n E.1 E.2.1 dX10_grown_62 rfl (lv_at hl 0 rfl) ?_
        refine lv_iconst (v := iI 3) E.1 E.2.1 dX10_grown_63 (by decide) ?_
        refine fw_cV (As := [.int (iI 3)]) (rest := [.int (iI 11)]) E hK hH hl hob80 fc_X10 fL_X10_draw ql_RX10_48 qi_yX10_draw qv_yX10_draw (l_draw l G _ _ a (dw + 1) 3 tr cs (by omega) hob80 (by omega) (by omega)) rfl rfl (Nat.le_of_ble_eq_true rfl) ⟨Nat.le_of_ble_eq_true rfl, Nat.le_of_ble_eq_true rfl⟩ ⟨by show _ ≤ (241 : Nat); omega, by show _ ≤ (48242 : Nat); omega⟩ dX10_grown_64 (fw_ki fun r23 M22 H1 locs1 hp21 hH hz1 => ?_)
        obtain ⟨⟨kr89, rfl, hkr89⟩, hob89, hfr, hz2⟩ := hp21
        replace hz := hz2.trans hz
        clear hz1 hz2
        have fr24 := hfr
        refine fw_iadd E dX10_grown_67 ?_
        refine lv_istore_n (lv' := [(3, .int (iI (11 + (↑kr89)))), (0, .ref a), (1, .int (iI b)), (2, .int (iI 4))]) E.1 E.2.1 dX10_grown_68 rfl hl (by decide) rfl (fun ls hl => ?_)
        refine lv_iconst (v := iI 2) E.1 E.2.1 dX10_grown_69 (by decide) ?_
        refine fw_newI (N := 2) E hK hH hz qa_int (by decide) (by decide) (by decide) ⟨by show _ ≤ (241 : Nat); omega, by show _ ≤ (48242 : Nat); omega⟩ dX10_grown_70 (fun H1 hH hz1 => ?_)
        replace hz : H1.size = N + 1 := by omega
        clear hz1
        obtain ⟨M25, hM26⟩ : ∃ MX, MX = fw_up M22 N (fI G 2 (fun j0 => iI (z0 j0))) := ⟨_, rfl⟩
        replace hH := fw_H.nm hM26 hH
        have fr27 : ∀ q, q ≠ N → M25 q = M22 q := fun q h => by rw [hM26]; exact fw_up_ne h
        replace hob89 : M25 a = some (.inr (10, [.ref (a + 1), .ref (G.2.2.2.2 3), .int (iI (↑((dw + 1) + 1))), .int (iI tr), .ref (a + 379), .int (iI cs), .ref (a + 380)])) := (fr27 _ (by omega)).trans hob89
        have hn0 : M25 N = some (fI G 2 (fun j0 => iI (z0 j0))) := by rw [hM26]; exact fw_up_eq
        refine lv_dup E.1 E.2.1 dX10_grown_72 rfl ?_
        refine lv_iconst (v := iI 0) E.1 E.2.1 dX10_grown_73 (by decide) ?_
        refine lv_iload_n E.1 E.2.1 dX10_grown_74 rfl (lv_at hl 0 rfl) ?_
        refine fw_iast E hK hH (by omega) hn0 (iI_in (by omega) (by omega) (by omega)) dX10_grown_75 (fun H1 locs1 hH hz1 => ?_)
        replace hz := hz1.trans hz; clear hz1
        rw [show upd (fun j0 => iI (z0 j0)) (iI (0)).toNatClampNeg (iI (11 + (↑kr89))) = fun j0 => iI ((zup z0 (0) (11 + (↑kr89))) j0) from by rw [iI_ix (by omega) (by omega)]; exact zup_upd _ _ _] at hH
        obtain ⟨M28, hM29⟩ : ∃ MX, MX = fw_up M25 N (fI G 2 (fun j0 => iI ((zup z0 (0) (11 + (↑kr89))) j0))) := ⟨_, rfl⟩
        replace hH := fw_H.nm hM29 hH
        have fr30 : ∀ q, q ≠ N → M28 q = M25 q := fun q h => by rw [hM29]; exact fw_up_ne h
        replace hob89 : M28 a = some (.inr (10, [.ref (a + 1), .ref (G.2.2.2.2 3), .int (iI (↑((dw + 1) + 1))), .int (iI tr), .ref (a + 379), .int (iI cs), .ref (a + 380)])) := (fr30 _ (by omega)).trans hob89
        have hn0 : M28 N = some (fI G 2 (fun j0 => iI ((zup z0 (0) (11 + (↑kr89))) j0))) := by rw [hM29]; exact fw_up_eq
        refine lv_dup E.1 E.2.1 dX10_grown_76 rfl ?_
        refine lv_iconst (v := iI 1) E.1 E.2.1 dX10_grown_77 (by decide) ?_
        refine lv_iload_n E.1 E.2.1 dX10_grown_78 rfl (lv_at hl 0 rfl) ?_
        refine fw_if_ne (tgt := 94) E dX10_grown_79 (by decide) (by omega) (by omega) (fun c31 => ?_) (fun c31 => ?_)
        · refine lv_iload_n E.1 E.2.1 dX10_grown_94 rfl (lv_at hl 0 rfl) ?_
          refine lv_iconst (v := iI 1) E.1 E.2.1 dX10_grown_95 (by decide) ?_
          refine fw_icmp_ne (tgt := 107) E dX10_grown_96 (by decide) (by omega) (by omega) (by omega) (by omega) (fun c32 => ?_) (fun c32 => ?_)
          · refine lv_iconst (v := iI 0) E.1 E.2.1 dX10_grown_107 (by decide) ?_
            refine fw_iast E hK hH (by omega) hn0 (iI_in (by omega) (by omega) (by omega)) dX10_grown_108 (fun H1 locs1 hH hz1 => ?_)
            replace hz := hz1.trans hz; clear hz1
            rw [show upd (fun j0 => iI ((zup z0 (0) (11 + (↑kr89))) j0)) (iI (1)).toNatClampNeg (iI (0)) = fun j0 => iI ((zup (zup z0 (0) (11 + (↑kr89))) (1) (0)) j0) from by rw [iI_ix (by omega) (by omega)]; exact zup_upd _ _ _] at hH
            obtain ⟨M33, hM34⟩ : ∃ MX, MX = fw_up M28 N (fI G 2 (fun j0 => iI ((zup (zup z0 (0) (11 + (↑kr89))) (1) (0)) j0))) := ⟨_, rfl⟩
            replace hH := fw_H.nm hM34 hH
            have fr35 : ∀ q, q ≠ N → M33 q = M28 q := fun q h => by rw [hM34]; exact fw_up_ne h
            replace hob89 : M33 a = some (.inr (10, [.ref (a + 1), .ref (G.2.2.2.2 3), .int (iI (↑((dw + 1) + 1))), .int (iI tr), .ref (a + 379), .int (iI cs), .ref (a + 380)])) := (fr35 _ (by omega)).trans hob89
            have hn0 : M33 N = some (fI G 2 (fun j0 => iI ((zup (zup z0 (0) (11 + (↑kr89))) (1) (0)) j0))) := by rw [hM34]; exact fw_up_eq
            refine lv_astore (lv' := [(4, .ref N), (3, .int (iI (11 + (↑kr89)))), (0, .ref a), (1, .int (iI b)), (2, .int (iI 4))]) E.1 E.2.1 dX10_grown_109 hl (by decide) rfl (fun ls hl => ?_)
            exact join111 (11 + (↑kr89)) 0 ((dw + 1) + 1) (zup (zup z0 (0) (11 + (↑kr89))) (1) (0)) _ _ _ _ ⟨(by omega), (fun _ => by omega), (fun _ => by omega), (fun _ => by omega)⟩ (by unfold numI; (repeat' split) <;> omega) (by omega) (by first | rfl | (rw [zup_ne (by omega), zup_eq])) zup_eq (by omega) (fun q hq => by rw [fr35 q (by omega), fr30 q (by omega), fr27 q (by omega), fr24 q (by omega), fr19 q (by omega)]) hH (by omega) hob89 hn0 (lv_sub hl [2, 3, 4, 1, 0] rfl)
          · refine lv_aload_n E.1 E.2.1 dX10_grown_99 rfl (lv_at hl 1 rfl) ?_
            refine lv_iconst (v := iI 3) E.1 E.2.1 dX10_grown_100 (by decide) ?_
            refine fw_cV (As := [.int (iI 3)]) (rest := [.int (iI 1), .ref N, .ref N]) E hK hH hl hob89 fc_X10 fL_X10_draw ql_RX10_48 qi_yX10_draw qv_yX10_draw (l_draw l G _ _ a ((dw + 1) + 1) 3 tr cs (by omega) hob89 (by omega) (by omega)) rfl rfl (Nat.le_of_ble_eq_true rfl) ⟨Nat.le_of_ble_eq_true rfl, Nat.le_of_ble_eq_true rfl⟩ ⟨by show _ ≤ (241 : Nat); omega, by show _ ≤ (48242 : Nat); omega⟩ dX10_grown_101 (fw_ki fun r38 M37 H1 locs1 hp36 hH hz1 => ?_)
            obtain ⟨⟨kr136, rfl, hkr136⟩, hob136, hfr, hz2⟩ := hp36
            replace hz := hz2.trans hz
            clear hz1 hz2
            have fr39 := hfr
            replace hn0 : M37 N = some (fI G 2 (fun j0 => iI ((zup z0 (0) (11 + (↑kr89))) j0))) := (fr39 _ (by omega)).trans hn0
            refine lv_goto (tgt := 108) E.1 E.2.1 dX10_grown_104 (by decide) ?_
            refine fw_iast E hK hH (by omega) hn0 (iI_in (by omega) (by omega) (by omega)) dX10_grown_108 (fun H1 locs1 hH hz1 => ?_)
            replace hz := hz1.trans hz; clear hz1
            rw [show upd (fun j0 => iI ((zup z0 (0) (11 + (↑kr89))) j0)) (iI (1)).toNatClampNeg (iI (↑kr136)) = fun j0 => iI ((zup (zup z0 (0) (11 + (↑kr89))) (1) (↑kr136)) j0) from by rw [iI_ix (by omega) (by omega)]; exact zup_upd _ _ _] at hH
            obtain ⟨M40, hM41⟩ : ∃ MX, MX = fw_up M37 N (fI G 2 (fun j0 => iI ((zup (zup z0 (0) (11 + (↑kr89))) (1) (↑kr136)) j0))) := ⟨_, rfl⟩
            replace hH := fw_H.nm hM41 hH
            have fr42 : ∀ q, q ≠ N → M40 q = M37 q := fun q h => by rw [hM41]; exact fw_up_ne h
            replace hob136 : M40 a = some (.inr (10, [.ref (a + 1), .ref (G.2.2.2.2 3), .int (iI (↑(((dw + 1) + 1) + 1))), .int (iI tr), .ref (a + 379), .int (iI cs), .ref (a + 380)])) := (fr42 _ (by omega)).trans hob136
            have hn0 : M40 N = some (fI G 2 (fun j0 => iI ((zup (zup z0 (0) (11 + (↑kr89))) (1) (↑kr136)) j0))) := by rw [hM41]; exact fw_up_eq
            refine lv_astore (lv' := [(4, .ref N), (3, .int (iI (11 + (↑kr89)))), (0, .ref a), (1, .int (iI b)), (2, .int (iI 4))]) E.1 E.2.1 dX10_grown_109 hl (by decide) rfl (fun ls hl => ?_)
            exact join111 (11 + (↑kr89)) ↑kr136 (((dw + 1) + 1) + 1) (zup (zup z0 (0) (11 + (↑kr89))) (1) (↑kr136)) _ _ _ _ ⟨(by omega), (fun _ => by omega), (fun _ => by omega), (fun _ => by omega)⟩ (by unfold numI; (repeat' split) <;> omega) (by omega) (by first | rfl | (rw [zup_ne (by omega), zup_eq])) zup_eq (by omega) (fun q hq => by rw [fr42 q (by omega), fr39 q (by omega), fr30 q (by omega), fr27 q (by omega), fr24 q (by omega), fr19 q (by omega)]) hH (by omega) hob136 hn0 (lv_sub hl [2, 3, 4, 1, 0] rfl)
        · refine lv_aload_n E.1 E.2.1 dX10_grown_82 rfl (lv_at hl 1 rfl) ?_
          refine lv_bipush (v := iI 25) E.1 E.2.1 dX10_grown_83 (by decide) ?_
          refine fw_cV (As := [.int (iI 25)]) (rest := [.int (iI 1), .ref N, .ref N]) E hK hH hl hob89 fc_X10 fL_X10_draw ql_RX10_48 qi_yX10_draw qv_yX10_draw (l_draw l G _ _ a ((dw + 1) + 1) 25 tr cs (by omega) hob89 (by omega) (by omega)) rfl rfl (Nat.le_of_ble_eq_true rfl) ⟨Nat.le_of_ble_eq_true rfl, Nat.le_of_ble_eq_true rfl⟩ ⟨by show _ ≤ (241 : Nat); omega, by show _ ≤ (48242 : Nat); omega⟩ dX10_grown_85 (fw_ki fun r45 M44 H1 locs1 hp43 hH hz1 => ?_)
          obtain ⟨⟨kr155, rfl, hkr155⟩, hob155, hfr, hz2⟩ := hp43
          replace hz := hz2.trans hz
          clear hz1 hz2
          have fr46 := hfr
          replace hn0 : M44 N = some (fI G 2 (fun j0 => iI ((zup z0 (0) (11 + (↑kr89))) j0))) := (fr46 _ (by omega)).trans hn0
          refine lv_bipush (v := iI 8) E.1 E.2.1 dX10_grown_88 (by decide) ?_
          refine fw_isub E dX10_grown_90 ?_
          refine lv_goto (tgt := 108) E.1 E.2.1 dX10_grown_91 (by decide) ?_
          refine fw_iast E hK hH (by omega) hn0 (iI_in (by omega) (by omega) (by omega)) dX10_grown_108 (fun H1 locs1 hH hz1 => ?_)
          replace hz := hz1.trans hz; clear hz1
          rw [show upd (fun j0 => iI ((zup z0 (0) (11 + (↑kr89))) j0)) (iI (1)).toNatClampNeg (iI ((↑kr155) - 8)) = fun j0 => iI ((zup (zup z0 (0) (11 + (↑kr89))) (1) ((↑kr155) - 8)) j0) from by rw [iI_ix (by omega) (by omega)]; exact zup_upd _ _ _] at hH
          obtain ⟨M47, hM48⟩ : ∃ MX, MX = fw_up M44 N (fI G 2 (fun j0 => iI ((zup (zup z0 (0) (11 + (↑kr89))) (1) ((↑kr155) - 8)) j0))) := ⟨_, rfl⟩
          replace hH := fw_H.nm hM48 hH
          have fr49 : ∀ q, q ≠ N → M47 q = M44 q := fun q h => by rw [hM48]; exact fw_up_ne h
          replace hob155 : M47 a = some (.inr (10, [.ref (a + 1), .ref (G.2.2.2.2 3), .int (iI (↑(((dw + 1) + 1) + 1))), .int (iI tr), .ref (a + 379), .int (iI cs), .ref (a + 380)])) := (fr49 _ (by omega)).trans hob155
          have hn0 : M47 N = some (fI G 2 (fun j0 => iI ((zup (zup z0 (0) (11 + (↑kr89))) (1) ((↑kr155) - 8)) j0))) := by rw [hM48]; exact fw_up_eq
          refine lv_astore (lv' := [(4, .ref N), (3, .int (iI (11 + (↑kr89)))), (0, .ref a), (1, .int (iI b)), (2, .int (iI 4))]) E.1 E.2.1 dX10_grown_109 hl (by decide) rfl (fun ls hl => ?_)
          exact join111 (11 + (↑kr89)) ((↑kr155) - 8) (((dw + 1) + 1) + 1) (zup (zup z0 (0) (11 + (↑kr89))) (1) ((↑kr155) - 8)) _ _ _ _ ⟨(by omega), (fun _ => by omega), (fun _ => by omega), (fun _ => by omega)⟩ (by unfold numI; (repeat' split) <;> omega) (by omega) (by first | rfl | (rw [zup_ne (by omega), zup_eq])) zup_eq (by omega) (fun q hq => by rw [fr49 q (by omega), fr46 q (by omega), fr30 q (by omega), fr27 q (by omega), fr24 q (by omega), fr19 q (by omega)]) hH (by omega) hob155 hn0 (lv_sub hl [2, 3, 4, 1, 0] rfl)
      · refine lv_bipush (v := iI 9) E.1 E.2.1 dX10_grown_49 (by decide) ?_
        refine lv_aload_n E.1 E.2.1 dX10_grown_51 rfl (lv_at hl 0 rfl) ?_
        refine lv_iconst (v := iI 2) E.1 E.2.1 dX10_grown_52 (by decide) ?_
        refine fw_cV (As := [.int (iI 2)]) (rest := [.int (iI 9)]) E hK hH hl hob80 fc_X10 fL_X10_draw ql_RX10_48 qi_yX10_draw qv_yX10_draw (l_draw l G _ _ a (dw + 1) 2 tr cs (by omega) hob80 (by omega) (by omega)) rfl rfl (Nat.le_of_ble_eq_true rfl) ⟨Nat.le_of_ble_eq_true rfl, Nat.le_of_ble_eq_true rfl⟩ ⟨by show _ ≤ (241 : Nat); omega, by show _ ≤ (48242 : Nat); omega⟩ dX10_grown_53 (fw_ki fun r52 M51 H1 locs1 hp50 hH hz1 => ?_)
        obtain ⟨⟨kr177, rfl, hkr177⟩, hob177, hfr, hz2⟩ := hp50
        replace hz := hz2.trans hz
        clear hz1 hz2
        have fr53 := hfr
        refine fw_iadd E dX10_grown_56 ?_
        refine lv_goto (tgt := 68) E.1 E.2.1 dX10_grown_57 (by decide) ?_
        refine lv_istore_n (lv' := [(3, .int (iI (9 + (↑kr177)))), (0, .ref a), (1, .int (iI b)), (2, .int (iI 4))]) E.1 E.2.1 dX10_grown_68 rfl hl (by decide) rfl (fun ls hl => ?_)
        refine lv_iconst (v := iI 2) E.1 E.2.1 dX10_grown_69 (by decide) ?_
        refine fw_newI (N := 2) E hK hH hz qa_int (by decide) (by decide) (by decide) ⟨by show _ ≤ (241 : Nat); omega, by show _ ≤ (48242 : Nat); omega⟩ dX10_grown_70 (fun H1 hH hz1 => ?_)
        replace hz : H1.size = N + 1 := by omega
        clear hz1
        obtain ⟨M54, hM55⟩ : ∃ MX, MX = fw_up M51 N (fI G 2 (fun j0 => iI (z0 j0))) := ⟨_, rfl⟩
        replace hH := fw_H.nm hM55 hH
        have fr56 : ∀ q, q ≠ N → M54 q = M51 q := fun q h => by rw [hM55]; exact fw_up_ne h
        replace hob177 : M54 a = some (.inr (10, [.ref (a + 1), .ref (G.2.2.2.2 3), .int (iI (↑((dw + 1) + 1))), .int (iI tr), .ref (a + 379), .int (iI cs), .ref (a + 380)])) := (fr56 _ (by omega)).trans hob177
        have hn0 : M54 N = some (fI G 2 (fun j0 => iI (z0 j0))) := by rw [hM55]; exact fw_up_eq
        refine lv_dup E.1 E.2.1 dX10_grown_72 rfl ?_
        refine lv_iconst (v := iI 0) E.1 E.2.1 dX10_grown_73 (by decide) ?_
        refine lv_iload_n E.1 E.2.1 dX10_grown_74 rfl (lv_at hl 0 rfl) ?_
        refine fw_iast E hK hH (by omega) hn0 (iI_in (by omega) (by omega) (by omega)) dX10_grown_75 (fun H1 locs1 hH hz1 => ?_)
        replace hz := hz1.trans hz; clear hz1
        rw [show upd (fun j0 => iI (z0 j0)) (iI (0)).toNatClampNeg (iI (9 + (↑kr177))) = fun j0 => iI ((zup z0 (0) (9 + (↑kr177))) j0) from by rw [iI_ix (by omega) (by omega)]; exact zup_upd _ _ _] at hH
        obtain ⟨M57, hM58⟩ : ∃ MX, MX = fw_up M54 N (fI G 2 (fun j0 => iI ((zup z0 (0) (9 + (↑kr177))) j0))) := ⟨_, rfl⟩
        replace hH := fw_H.nm hM58 hH
        have fr59 : ∀ q, q ≠ N → M57 q = M54 q := fun q h => by rw [hM58]; exact fw_up_ne h
        replace hob177 : M57 a = some (.inr (10, [.ref (a + 1), .ref (G.2.2.2.2 3), .int (iI (↑((dw + 1) + 1))), .int (iI tr), .ref (a + 379), .int (iI cs), .ref (a + 380)])) := (fr59 _ (by omega)).trans hob177
        have hn0 : M57 N = some (fI G 2 (fun j0 => iI ((zup z0 (0) (9 + (↑kr177))) j0))) := by rw [hM58]; exact fw_up_eq
        refine lv_dup E.1 E.2.1 dX10_grown_76 rfl ?_
        refine lv_iconst (v := iI 1) E.1 E.2.1 dX10_grown_77 (by decide) ?_
        refine lv_iload_n E.1 E.2.1 dX10_grown_78 rfl (lv_at hl 0 rfl) ?_
        refine fw_if_ne (tgt := 94) E dX10_grown_79 (by decide) (by omega) (by omega) (fun c60 => ?_) (fun c60 => ?_)
        · refine lv_iload_n E.1 E.2.1 dX10_grown_94 rfl (lv_at hl 0 rfl) ?_
          refine lv_iconst (v := iI 1) E.1 E.2.1 dX10_grown_95 (by decide) ?_
          refine fw_icmp_ne (tgt := 107) E dX10_grown_96 (by decide) (by omega) (by omega) (by omega) (by omega) (fun c61 => ?_) (fun c61 => ?_)
          · refine lv_iconst (v := iI 0) E.1 E.2.1 dX10_grown_107 (by decide) ?_
            refine fw_iast E hK hH (by omega) hn0 (iI_in (by omega) (by omega) (by omega)) dX10_grown_108 (fun H1 locs1 hH hz1 => ?_)
            replace hz := hz1.trans hz; clear hz1
            rw [show upd (fun j0 => iI ((zup z0 (0) (9 + (↑kr177))) j0)) (iI (1)).toNatClampNeg (iI (0)) = fun j0 => iI ((zup (zup z0 (0) (9 + (↑kr177))) (1) (0)) j0) from by rw [iI_ix (by omega) (by omega)]; exact zup_upd _ _ _] at hH
            obtain ⟨M62, hM63⟩ : ∃ MX, MX = fw_up M57 N (fI G 2 (fun j0 => iI ((zup (zup z0 (0) (9 + (↑kr177))) (1) (0)) j0))) := ⟨_, rfl⟩
            replace hH := fw_H.nm hM63 hH
            have fr64 : ∀ q, q ≠ N → M62 q = M57 q := fun q h => by rw [hM63]; exact fw_up_ne h
            replace hob177 : M62 a = some (.inr (10, [.ref (a + 1), .ref (G.2.2.2.2 3), .int (iI (↑((dw + 1) + 1))), .int (iI tr), .ref (a + 379), .int (iI cs), .ref (a + 380)])) := (fr64 _ (by omega)).trans hob177
            have hn0 : M62 N = some (fI G 2 (fun j0 => iI ((zup (zup z0 (0) (9 + (↑kr177))) (1) (0)) j0))) := by rw [hM63]; exact fw_up_eq
            refine lv_astore (lv' := [(4, .ref N), (3, .int (iI (9 + (↑kr177)))), (0, .ref a), (1, .int (iI b)), (2, .int (iI 4))]) E.1 E.2.1 dX10_grown_109 hl (by decide) rfl (fun ls hl => ?_)
            exact join111 (9 + (↑kr177)) 0 ((dw + 1) + 1) (zup (zup z0 (0) (9 + (↑kr177))) (1) (0)) _ _ _ _ ⟨(by omega), (fun _ => by omega), (fun _ => by omega), (fun _ => by omega)⟩ (by unfold numI; (repeat' split) <;> omega) (by omega) (by first | rfl | (rw [zup_ne (by omega), zup_eq])) zup_eq (by omega) (fun q hq => by rw [fr64 q (by omega), fr59 q (by omega), fr56 q (by omega), fr53 q (by omega), fr19 q (by omega)]) hH (by omega) hob177 hn0 (lv_sub hl [2, 3, 4, 1, 0] rfl)
          · refine lv_aload_n E.1 E.2.1 dX10_grown_99 rfl (lv_at hl 1 rfl) ?_
            refine lv_iconst (v := iI 3) E.1 E.2.1 dX10_grown_100 (by decide) ?_
            refine fw_cV (As := [.int (iI 3)]) (rest := [.int (iI 1), .ref N, .ref N]) E hK hH hl hob177 fc_X10 fL_X10_draw ql_RX10_48 qi_yX10_draw qv_yX10_draw (l_draw l G _ _ a ((dw + 1) + 1) 3 tr cs (by omega) hob177 (by omega) (by omega)) rfl rfl (Nat.le_of_ble_eq_true rfl) ⟨Nat.le_of_ble_eq_true rfl, Nat.le_of_ble_eq_true rfl⟩ ⟨by show _ ≤ (241 : Nat); omega, by show _ ≤ (48242 : Nat); omega⟩ dX10_grown_101 (fw_ki fun r67 M66 H1 locs1 hp65 hH hz1 => ?_)
            obtain ⟨⟨kr225, rfl, hkr225⟩, hob225, hfr, hz2⟩ := hp65
            replace hz := hz2.trans hz
            clear hz1 hz2
            have fr68 := hfr
            replace hn0 : M66 N = some (fI G 2 (fun j0 => iI ((zup z0 (0) (9 + (↑kr177))) j0))) := (fr68 _ (by omega)).trans hn0
            refine lv_goto (tgt := 108) E.1 E.2.1 dX10_grown_104 (by decide) ?_
            refine fw_iast E hK hH (by omega) hn0 (iI_in (by omega) (by omega) (by omega)) dX10_grown_108 (fun H1 locs1 hH hz1 => ?_)
            replace hz := hz1.trans hz; clear hz1
            rw [show upd (fun j0 => iI ((zup z0 (0) (9 + (↑kr177))) j0)) (iI (1)).toNatClampNeg (iI (↑kr225)) = fun j0 => iI ((zup (zup z0 (0) (9 + (↑kr177))) (1) (↑kr225)) j0) from by rw [iI_ix (by omega) (by omega)]; exact zup_upd _ _ _] at hH
            obtain ⟨M69, hM70⟩ : ∃ MX, MX = fw_up M66 N (fI G 2 (fun j0 => iI ((zup (zup z0 (0) (9 + (↑kr177))) (1) (↑kr225)) j0))) := ⟨_, rfl⟩
            replace hH := fw_H.nm hM70 hH
            have fr71 : ∀ q, q ≠ N → M69 q = M66 q := fun q h => by rw [hM70]; exact fw_up_ne h
            replace hob225 : M69 a = some (.inr (10, [.ref (a + 1), .ref (G.2.2.2.2 3), .int (iI (↑(((dw + 1) + 1) + 1))), .int (iI tr), .ref (a + 379), .int (iI cs), .ref (a + 380)])) := (fr71 _ (by omega)).trans hob225
            have hn0 : M69 N = some (fI G 2 (fun j0 => iI ((zup (zup z0 (0) (9 + (↑kr177))) (1) (↑kr225)) j0))) := by rw [hM70]; exact fw_up_eq
            refine lv_astore (lv' := [(4, .ref N), (3, .int (iI (9 + (↑kr177)))), (0, .ref a), (1, .int (iI b)), (2, .int (iI 4))]) E.1 E.2.1 dX10_grown_109 hl (by decide) rfl (fun ls hl => ?_)
            exact join111 (9 + (↑kr177)) ↑kr225 (((dw + 1) + 1) + 1) (zup (zup z0 (0) (9 + (↑kr177))) (1) (↑kr225)) _ _ _ _ ⟨(by omega), (fun _ => by omega), (fun _ => by omega), (fun _ => by omega)⟩ (by unfold numI; (repeat' split) <;> omega) (by omega) (by first | rfl | (rw [zup_ne (by omega), zup_eq])) zup_eq (by omega) (fun q hq => by rw [fr71 q (by omega), fr68 q (by omega), fr59 q (by omega), fr56 q (by omega), fr53 q (by omega), fr19 q (by omega)]) hH (by omega) hob225 hn0 (lv_sub hl [2, 3, 4, 1, 0] rfl)
        · refine lv_aload_n E.1 E.2.1 dX10_grown_82 rfl (lv_at hl 1 rfl) ?_
          refine lv_bipush (v := iI 25) E.1 E.2.1 dX10_grown_83 (by decide) ?_
          refine fw_cV (As := [.int (iI 25)]) (rest := [.int (iI 1), .ref N, .ref N]) E hK hH hl hob177 fc_X10 fL_X10_draw ql_RX10_48 qi_yX10_draw qv_yX10_draw (l_draw l G _ _ a ((dw + 1) + 1) 25 tr cs (by omega) hob177 (by omega) (by omega)) rfl rfl (Nat.le_of_ble_eq_true rfl) ⟨Nat.le_of_ble_eq_true rfl, Nat.le_of_ble_eq_true rfl⟩ ⟨by show _ ≤ (241 : Nat); omega, by show _ ≤ (48242 : Nat); omega⟩ dX10_grown_85 (fw_ki fun r74 M73 H1 locs1 hp72 hH hz1 => ?_)
          obtain ⟨⟨kr244, rfl, hkr244⟩, hob244, hfr, hz2⟩ := hp72
          replace hz := hz2.trans hz
          clear hz1 hz2
          have fr75 := hfr
          replace hn0 : M73 N = some (fI G 2 (fun j0 => iI ((zup z0 (0) (9 + (↑kr177))) j0))) := (fr75 _ (by omega)).trans hn0
          refine lv_bipush (v := iI 8) E.1 E.2.1 dX10_grown_88 (by decide) ?_
          refine fw_isub E dX10_grown_90 ?_
          refine lv_goto (tgt := 108) E.1 E.2.1 dX10_grown_91 (by decide) ?_
          refine fw_iast E hK hH (by omega) hn0 (iI_in (by omega) (by omega) (by omega)) dX10_grown_108 (fun H1 locs1 hH hz1 => ?_)
          replace hz := hz1.trans hz; clear hz1
          rw [show upd (fun j0 => iI ((zup z0 (0) (9 + (↑kr177))) j0)) (iI (1)).toNatClampNeg (iI ((↑kr244) - 8)) = fun j0 => iI ((zup (zup z0 (0) (9 + (↑kr177))) (1) ((↑kr244) - 8)) j0) from by rw [iI_ix (by omega) (by omega)]; exact zup_upd _ _ _] at hH
          obtain ⟨M76, hM77⟩ : ∃ MX, MX = fw_up M73 N (fI G 2 (fun j0 => iI ((zup (zup z0 (0) (9 + (↑kr177))) (1) ((↑kr244) - 8)) j0))) := ⟨_, rfl⟩
          replace hH := fw_H.nm hM77 hH
          have fr78 : ∀ q, q ≠ N → M76 q = M73 q := fun q h => by rw [hM77]; exact fw_up_ne h
          replace hob244 : M76 a = some (.inr (10, [.ref (a + 1), .ref (G.2.2.2.2 3), .int (iI (↑(((dw + 1) + 1) + 1))), .int (iI tr), .ref (a + 379), .int (iI cs), .ref (a + 380)])) := (fr78 _ (by omega)).trans hob244
          have hn0 : M76 N = some (fI G 2 (fun j0 => iI ((zup (zup z0 (0) (9 + (↑kr177))) (1) ((↑kr244) - 8)) j0))) := by rw [hM77]; exact fw_up_eq
          refine lv_astore (lv' := [(4, .ref N), (3, .int (iI (9 + (↑kr177)))), (0, .ref a), (1, .int (iI b)), (2, .int (iI 4))]) E.1 E.2.1 dX10_grown_109 hl (by decide) rfl (fun ls hl => ?_)
          exact join111 (9 + (↑kr177)) ((↑kr244) - 8) (((dw + 1) + 1) + 1) (zup (zup z0 (0) (9 + (↑kr177))) (1) ((↑kr244) - 8)) _ _ _ _ ⟨(by omega), (fun _ => by omega), (fun _ => by omega), (fun _ => by omega)⟩ (by unfold numI; (repeat' split) <;> omega) (by omega) (by first | rfl | (rw [zup_ne (by omega), zup_eq])) zup_eq (by omega) (fun q hq => by rw [fr78 q (by omega), fr75 q (by omega), fr59 q (by omega), fr56 q (by omega), fr53 q (by omega), fr19 q (by omega)]) hH (by omega) hob244 hn0 (lv_sub hl [2, 3, 4, 1, 0] rfl)
  · refine lv_iload_n E.1 E.2.1 dX10_grown_4 rfl (lv_at hl 2 rfl) ?_
    refine lv_iconst (v := iI 2) E.1 E.2.1 dX10_grown_5 (by decide) ?_
    refine fw_icmp_lt (tgt := 17) E dX10_grown_6 (by decide) (by omega) (by omega) (by omega) (by omega) (fun c79 => ?_) (fun c79 => ?_)
    · exact absurd c79 (by omega)
    · refine lv_aload_n E.1 E.2.1 dX10_grown_9 rfl (lv_at hl 0 rfl) ?_
      refine lv_iconst (v := iI 3) E.1 E.2.1 dX10_grown_10 (by decide) ?_
      refine fw_cV (As := [.int (iI 3)]) (rest := []) E hK hH hl g0 fc_X10 fL_X10_draw ql_RX10_48 qi_yX10_draw qv_yX10_draw (l_draw l G _ _ a dw 3 tr cs (by omega) g0 (by omega) (by omega)) rfl rfl (Nat.le_of_ble_eq_true rfl) ⟨Nat.le_of_ble_eq_true rfl, Nat.le_of_ble_eq_true rfl⟩ ⟨by show _ ≤ (241 : Nat); omega, by show _ ≤ (48242 : Nat); omega⟩ dX10_grown_11 (fw_ki fun r82 M81 H1 locs1 hp80 hH hz1 => ?_)
      obtain ⟨⟨kr269, rfl, hkr269⟩, hob269, hfr, hz2⟩ := hp80
      replace hz := hz2.trans hz
      clear hz1 hz2
      have fr83 := hfr
      refine fw_if_ne (tgt := 25) E dX10_grown_14 (by decide) (by omega) (by omega) (fun c84 => ?_) (fun c84 => ?_)
      · refine lv_iconst (v := iI 2) E.1 E.2.1 dX10_grown_25 (by decide) ?_
        refine lv_aload_n E.1 E.2.1 dX10_grown_26 rfl (lv_at hl 0 rfl) ?_
        refine lv_bipush (v := iI 7) E.1 E.2.1 dX10_grown_27 (by decide) ?_
        refine fw_cV (As := [.int (iI 7)]) (rest := [.int (iI 2)]) E hK hH hl hob269 fc_X10 fL_X10_draw ql_RX10_48 qi_yX10_draw qv_yX10_draw (l_draw l G _ _ a (dw + 1) 7 tr cs (by omega) hob269 (by omega) (by omega)) rfl rfl (Nat.le_of_ble_eq_true rfl) ⟨Nat.le_of_ble_eq_true rfl, Nat.le_of_ble_eq_true rfl⟩ ⟨by show _ ≤ (241 : Nat); omega, by show _ ≤ (48242 : Nat); omega⟩ dX10_grown_29 (fw_ki fun r87 M86 H1 locs1 hp85 hH hz1 => ?_)
        obtain ⟨⟨kr278, rfl, hkr278⟩, hob278, hfr, hz2⟩ := hp85
        replace hz := hz2.trans hz
        clear hz1 hz2
        have fr88 := hfr
        refine fw_iadd E dX10_grown_32 ?_
        refine lv_goto (tgt := 68) E.1 E.2.1 dX10_grown_33 (by decide) ?_
        refine lv_istore_n (lv' := [(3, .int (iI (2 + (↑kr278)))), (0, .ref a), (1, .int (iI b)), (2, .int (iI 4))]) E.1 E.2.1 dX10_grown_68 rfl hl (by decide) rfl (fun ls hl => ?_)
        refine lv_iconst (v := iI 2) E.1 E.2.1 dX10_grown_69 (by decide) ?_
        refine fw_newI (N := 2) E hK hH hz qa_int (by decide) (by decide) (by decide) ⟨by show _ ≤ (241 : Nat); omega, by show _ ≤ (48242 : Nat); omega⟩ dX10_grown_70 (fun H1 hH hz1 => ?_)
        replace hz : H1.size = N + 1 := by omega
        clear hz1
        obtain ⟨M89, hM90⟩ : ∃ MX, MX = fw_up M86 N (fI G 2 (fun j0 => iI (z0 j0))) := ⟨_, rfl⟩
        replace hH := fw_H.nm hM90 hH
        have fr91 : ∀ q, q ≠ N → M89 q = M86 q := fun q h => by rw [hM90]; exact fw_up_ne h
        replace hob278 : M89 a = some (.inr (10, [.ref (a + 1), .ref (G.2.2.2.2 3), .int (iI (↑((dw + 1) + 1))), .int (iI tr), .ref (a + 379), .int (iI cs), .ref (a + 380)])) := (fr91 _ (by omega)).trans hob278
        have hn0 : M89 N = some (fI G 2 (fun j0 => iI (z0 j0))) := by rw [hM90]; exact fw_up_eq
        refine lv_dup E.1 E.2.1 dX10_grown_72 rfl ?_
        refine lv_iconst (v := iI 0) E.1 E.2.1 dX10_grown_73 (by decide) ?_
        refine lv_iload_n E.1 E.2.1 dX10_grown_74 rfl (lv_at hl 0 rfl) ?_
        refine fw_iast E hK hH (by omega) hn0 (iI_in (by omega) (by omega) (by omega)) dX10_grown_75 (fun H1 locs1 hH hz1 => ?_)
        replace hz := hz1.trans hz; clear hz1
        rw [show upd (fun j0 => iI (z0 j0)) (iI (0)).toNatClampNeg (iI (2 + (↑kr278))) = fun j0 => iI ((zup z0 (0) (2 + (↑kr278))) j0) from by rw [iI_ix (by omega) (by omega)]; exact zup_upd _ _ _] at hH
        obtain ⟨M92, hM93⟩ : ∃ MX, MX = fw_up M89 N (fI G 2 (fun j0 => iI ((zup z0 (0) (2 + (↑kr278))) j0))) := ⟨_, rfl⟩
        replace hH := fw_H.nm hM93 hH
        have fr94 : ∀ q, q ≠ N → M92 q = M89 q := fun q h => by rw [hM93]; exact fw_up_ne h
        replace hob278 : M92 a = some (.inr (10, [.ref (a + 1), .ref (G.2.2.2.2 3), .int (iI (↑((dw + 1) + 1))), .int (iI tr), .ref (a + 379), .int (iI cs), .ref (a + 380)])) := (fr94 _ (by omega)).trans hob278
        have hn0 : M92 N = some (fI G 2 (fun j0 => iI ((zup z0 (0) (2 + (↑kr278))) j0))) := by rw [hM93]; exact fw_up_eq
        refine lv_dup E.1 E.2.1 dX10_grown_76 rfl ?_
        refine lv_iconst (v := iI 1) E.1 E.2.1 dX10_grown_77 (by decide) ?_
        refine lv_iload_n E.1 E.2.1 dX10_grown_78 rfl (lv_at hl 0 rfl) ?_
        refine fw_if_ne (tgt := 94) E dX10_grown_79 (by decide) (by omega) (by omega) (fun c95 => ?_) (fun c95 => ?_)
        · refine lv_iload_n E.1 E.2.1 dX10_grown_94 rfl (lv_at hl 0 rfl) ?_
          refine lv_iconst (v := iI 1) E.1 E.2.1 dX10_grown_95 (by decide) ?_
          refine fw_icmp_ne (tgt := 107) E dX10_grown_96 (by decide) (by omega) (by omega) (by omega) (by omega) (fun c96 => ?_) (fun c96 => ?_)
          · refine lv_iconst (v := iI 0) E.1 E.2.1 dX10_grown_107 (by decide) ?_
            refine fw_iast E hK hH (by omega) hn0 (iI_in (by omega) (by omega) (by omega)) dX10_grown_108 (fun H1 locs1 hH hz1 => ?_)
            replace hz := hz1.trans hz; clear hz1
            rw [show upd (fun j0 => iI ((zup z0 (0) (2 + (↑kr278))) j0)) (iI (1)).toNatClampNeg (iI (0)) = fun j0 => iI ((zup (zup z0 (0) (2 + (↑kr278))) (1) (0)) j0) from by rw [iI_ix (by omega) (by omega)]; exact zup_upd _ _ _] at hH
            obtain ⟨M97, hM98⟩ : ∃ MX, MX = fw_up M92 N (fI G 2 (fun j0 => iI ((zup (zup z0 (0) (2 + (↑kr278))) (1) (0)) j0))) := ⟨_, rfl⟩
            replace hH := fw_H.nm hM98 hH
            have fr99 : ∀ q, q ≠ N → M97 q = M92 q := fun q h => by rw [hM98]; exact fw_up_ne h
            replace hob278 : M97 a = some (.inr (10, [.ref (a + 1), .ref (G.2.2.2.2 3), .int (iI (↑((dw + 1) + 1))), .int (iI tr), .ref (a + 379), .int (iI cs), .ref (a + 380)])) := (fr99 _ (by omega)).trans hob278
            have hn0 : M97 N = some (fI G 2 (fun j0 => iI ((zup (zup z0 (0) (2 + (↑kr278))) (1) (0)) j0))) := by rw [hM98]; exact fw_up_eq
            refine lv_astore (lv' := [(4, .ref N), (3, .int (iI (2 + (↑kr278)))), (0, .ref a), (1, .int (iI b)), (2, .int (iI 4))]) E.1 E.2.1 dX10_grown_109 hl (by decide) rfl (fun ls hl => ?_)
            exact join111 (2 + (↑kr278)) 0 ((dw + 1) + 1) (zup (zup z0 (0) (2 + (↑kr278))) (1) (0)) _ _ _ _ ⟨(by omega), (fun _ => by omega), (fun _ => by omega), (fun _ => by omega)⟩ (by unfold numI; (repeat' split) <;> omega) (by omega) (by first | rfl | (rw [zup_ne (by omega), zup_eq])) zup_eq (by omega) (fun q hq => by rw [fr99 q (by omega), fr94 q (by omega), fr91 q (by omega), fr88 q (by omega), fr83 q (by omega)]) hH (by omega) hob278 hn0 (lv_sub hl [2, 3, 4, 1, 0] rfl)
          · refine lv_aload_n E.1 E.2.1 dX10_grown_99 rfl (lv_at hl 1 rfl) ?_
            refine lv_iconst (v := iI 3) E.1 E.2.1 dX10_grown_100 (by decide) ?_
            refine fw_cV (As := [.int (iI 3)]) (rest := [.int (iI 1), .ref N, .ref N]) E hK hH hl hob278 fc_X10 fL_X10_draw ql_RX10_48 qi_yX10_draw qv_yX10_draw (l_draw l G _ _ a ((dw + 1) + 1) 3 tr cs (by omega) hob278 (by omega) (by omega)) rfl rfl (Nat.le_of_ble_eq_true rfl) ⟨Nat.le_of_ble_eq_true rfl, Nat.le_of_ble_eq_true rfl⟩ ⟨by show _ ≤ (241 : Nat); omega, by show _ ≤ (48242 : Nat); omega⟩ dX10_grown_101 (fw_ki fun r102 M101 H1 locs1 hp100 hH hz1 => ?_)
            obtain ⟨⟨kr326, rfl, hkr326⟩, hob326, hfr, hz2⟩ := hp100
            replace hz := hz2.trans hz
            clear hz1 hz2
            have fr103 := hfr
            replace hn0 : M101 N = some (fI G 2 (fun j0 => iI ((zup z0 (0) (2 + (↑kr278))) j0))) := (fr103 _ (by omega)).trans hn0
            refine lv_goto (tgt := 108) E.1 E.2.1 dX10_grown_104 (by decide) ?_
            refine fw_iast E hK hH (by omega) hn0 (iI_in (by omega) (by omega) (by omega)) dX10_grown_108 (fun H1 locs1 hH hz1 => ?_)
            replace hz := hz1.trans hz; clear hz1
            rw [show upd (fun j0 => iI ((zup z0 (0) (2 + (↑kr278))) j0)) (iI (1)).toNatClampNeg (iI (↑kr326)) = fun j0 => iI ((zup (zup z0 (0) (2 + (↑kr278))) (1) (↑kr326)) j0) from by rw [iI_ix (by omega) (by omega)]; exact zup_upd _ _ _] at hH
            obtain ⟨M104, hM105⟩ : ∃ MX, MX = fw_up M101 N (fI G 2 (fun j0 => iI ((zup (zup z0 (0) (2 + (↑kr278))) (1) (↑kr326)) j0))) := ⟨_, rfl⟩
            replace hH := fw_H.nm hM105 hH
            have fr106 : ∀ q, q ≠ N → M104 q = M101 q := fun q h => by rw [hM105]; exact fw_up_ne h
            replace hob326 : M104 a = some (.inr (10, [.ref (a + 1), .ref (G.2.2.2.2 3), .int (iI (↑(((dw + 1) + 1) + 1))), .int (iI tr), .ref (a + 379), .int (iI cs), .ref (a + 380)])) := (fr106 _ (by omega)).trans hob326
            have hn0 : M104 N = some (fI G 2 (fun j0 => iI ((zup (zup z0 (0) (2 + (↑kr278))) (1) (↑kr326)) j0))) := by rw [hM105]; exact fw_up_eq
            refine lv_astore (lv' := [(4, .ref N), (3, .int (iI (2 + (↑kr278)))), (0, .ref a), (1, .int (iI b)), (2, .int (iI 4))]) E.1 E.2.1 dX10_grown_109 hl (by decide) rfl (fun ls hl => ?_)
            exact join111 (2 + (↑kr278)) ↑kr326 (((dw + 1) + 1) + 1) (zup (zup z0 (0) (2 + (↑kr278))) (1) (↑kr326)) _ _ _ _ ⟨(by omega), (fun _ => by omega), (fun _ => by omega), (fun _ => by omega)⟩ (by unfold numI; (repeat' split) <;> omega) (by omega) (by first | rfl | (rw [zup_ne (by omega), zup_eq])) zup_eq (by omega) (fun q hq => by rw [fr106 q (by omega), fr103 q (by omega), fr94 q (by omega), fr91 q (by omega), fr88 q (by omega), fr83 q (by omega)]) hH (by omega) hob326 hn0 (lv_sub hl [2, 3, 4, 1, 0] rfl)
        · refine lv_aload_n E.1 E.2.1 dX10_grown_82 rfl (lv_at hl 1 rfl) ?_
          refine lv_bipush (v := iI 25) E.1 E.2.1 dX10_grown_83 (by decide) ?_
          refine fw_cV (As := [.int (iI 25)]) (rest := [.int (iI 1), .ref N, .ref N]) E hK hH hl hob278 fc_X10 fL_X10_draw ql_RX10_48 qi_yX10_draw qv_yX10_draw (l_draw l G _ _ a ((dw + 1) + 1) 25 tr cs (by omega) hob278 (by omega) (by omega)) rfl rfl (Nat.le_of_ble_eq_true rfl) ⟨Nat.le_of_ble_eq_true rfl, Nat.le_of_ble_eq_true rfl⟩ ⟨by show _ ≤ (241 : Nat); omega, by show _ ≤ (48242 : Nat); omega⟩ dX10_grown_85 (fw_ki fun r109 M108 H1 locs1 hp107 hH hz1 => ?_)
          obtain ⟨⟨kr345, rfl, hkr345⟩, hob345, hfr, hz2⟩ := hp107
          replace hz := hz2.trans hz
          clear hz1 hz2
          have fr110 := hfr
          replace hn0 : M108 N = some (fI G 2 (fun j0 => iI ((zup z0 (0) (2 + (↑kr278))) j0))) := (fr110 _ (by omega)).trans hn0
          refine lv_bipush (v := iI 8) E.1 E.2.1 dX10_grown_88 (by decide) ?_
          refine fw_isub E dX10_grown_90 ?_
          refine lv_goto (tgt := 108) E.1 E.2.1 dX10_grown_91 (by decide) ?_
          refine fw_iast E hK hH (by omega) hn0 (iI_in (by omega) (by omega) (by omega)) dX10_grown_108 (fun H1 locs1 hH hz1 => ?_)
          replace hz := hz1.trans hz; clear hz1
          rw [show upd (fun j0 => iI ((zup z0 (0) (2 + (↑kr278))) j0)) (iI (1)).toNatClampNeg (iI ((↑kr345) - 8)) = fun j0 => iI ((zup (zup z0 (0) (2 + (↑kr278))) (1) ((↑kr345) - 8)) j0) from by rw [iI_ix (by omega) (by omega)]; exact zup_upd _ _ _] at hH
          obtain ⟨M111, hM112⟩ : ∃ MX, MX = fw_up M108 N (fI G 2 (fun j0 => iI ((zup (zup z0 (0) (2 + (↑kr278))) (1) ((↑kr345) - 8)) j0))) := ⟨_, rfl⟩
          replace hH := fw_H.nm hM112 hH
          have fr113 : ∀ q, q ≠ N → M111 q = M108 q := fun q h => by rw [hM112]; exact fw_up_ne h
          replace hob345 : M111 a = some (.inr (10, [.ref (a + 1), .ref (G.2.2.2.2 3), .int (iI (↑(((dw + 1) + 1) + 1))), .int (iI tr), .ref (a + 379), .int (iI cs), .ref (a + 380)])) := (fr113 _ (by omega)).trans hob345
          have hn0 : M111 N = some (fI G 2 (fun j0 => iI ((zup (zup z0 (0) (2 + (↑kr278))) (1) ((↑kr345) - 8)) j0))) := by rw [hM112]; exact fw_up_eq
          refine lv_astore (lv' := [(4, .ref N), (3, .int (iI (2 + (↑kr278)))), (0, .ref a), (1, .int (iI b)), (2, .int (iI 4))]) E.1 E.2.1 dX10_grown_109 hl (by decide) rfl (fun ls hl => ?_)
          exact join111 (2 + (↑kr278)) ((↑kr345) - 8) (((dw + 1) + 1) + 1) (zup (zup z0 (0) (2 + (↑kr278))) (1) ((↑kr345) - 8)) _ _ _ _ ⟨(by omega), (fun _ => by omega), (fun _ => by omega), (fun _ => by omega)⟩ (by unfold numI; (repeat' split) <;> omega) (by omega) (by first | rfl | (rw [zup_ne (by omega), zup_eq])) zup_eq (by omega) (fun q hq => by rw [fr113 q (by omega), fr110 q (by omega), fr94 q (by omega), fr91 q (by omega), fr88 q (by omega), fr83 q (by omega)]) hH (by omega) hob345 hn0 (lv_sub hl [2, 3, 4, 1, 0] rfl)
      · refine lv_aload_n E.1 E.2.1 dX10_grown_17 rfl (lv_at hl 0 rfl) ?_
        refine lv_iconst (v := iI 2) E.1 E.2.1 dX10_grown_18 (by decide) ?_
        refine fw_cV (As := [.int (iI 2)]) (rest := []) E hK hH hl hob269 fc_X10 fL_X10_draw ql_RX10_48 qi_yX10_draw qv_yX10_draw (l_draw l G _ _ a (dw + 1) 2 tr cs (by omega) hob269 (by omega) (by omega)) rfl rfl (Nat.le_of_ble_eq_true rfl) ⟨Nat.le_of_ble_eq_true rfl, Nat.le_of_ble_eq_true rfl⟩ ⟨by show _ ≤ (241 : Nat); omega, by show _ ≤ (48242 : Nat); omega⟩ dX10_grown_19 (fw_ki fun r116 M115 H1 locs1 hp114 hH hz1 => ?_)
        obtain ⟨⟨kr366, rfl, hkr366⟩, hob366, hfr, hz2⟩ := hp114
        replace hz := hz2.trans hz
        clear hz1 hz2
        have fr117 := hfr
        refine lv_goto (tgt := 68) E.1 E.2.1 dX10_grown_22 (by decide) ?_
        refine lv_istore_n (lv' := [(3, .int (iI ↑kr366)), (0, .ref a), (1, .int (iI b)), (2, .int (iI 4))]) E.1 E.2.1 dX10_grown_68 rfl hl (by decide) rfl (fun ls hl => ?_)
        refine lv_iconst (v := iI 2) E.1 E.2.1 dX10_grown_69 (by decide) ?_
        refine fw_newI (N := 2) E hK hH hz qa_int (by decide) (by decide) (by decide) ⟨by show _ ≤ (241 : Nat); omega, by show _ ≤ (48242 : Nat); omega⟩ dX10_grown_70 (fun H1 hH hz1 => ?_)
        replace hz : H1.size = N + 1 := by omega
        clear hz1
        obtain ⟨M118, hM119⟩ : ∃ MX, MX = fw_up M115 N (fI G 2 (fun j0 => iI (z0 j0))) := ⟨_, rfl⟩
        replace hH := fw_H.nm hM119 hH
        have fr120 : ∀ q, q ≠ N → M118 q = M115 q := fun q h => by rw [hM119]; exact fw_up_ne h
        replace hob366 : M118 a = some (.inr (10, [.ref (a + 1), .ref (G.2.2.2.2 3), .int (iI (↑((dw + 1) + 1))), .int (iI tr), .ref (a + 379), .int (iI cs), .ref (a + 380)])) := (fr120 _ (by omega)).trans hob366
        have hn0 : M118 N = some (fI G 2 (fun j0 => iI (z0 j0))) := by rw [hM119]; exact fw_up_eq
        refine lv_dup E.1 E.2.1 dX10_grown_72 rfl ?_
        refine lv_iconst (v := iI 0) E.1 E.2.1 dX10_grown_73 (by decide) ?_
        refine lv_iload_n E.1 E.2.1 dX10_grown_74 rfl (lv_at hl 0 rfl) ?_
        refine fw_iast E hK hH (by omega) hn0 (iI_in (by omega) (by omega) (by omega)) dX10_grown_75 (fun H1 locs1 hH hz1 => ?_)
        replace hz := hz1.trans hz; clear hz1
        rw [show upd (fun j0 => iI (z0 j0)) (iI (0)).toNatClampNeg (iI (↑kr366)) = fun j0 => iI ((zup z0 (0) (↑kr366)) j0) from by rw [iI_ix (by omega) (by omega)]; exact zup_upd _ _ _] at hH
        obtain ⟨M121, hM122⟩ : ∃ MX, MX = fw_up M118 N (fI G 2 (fun j0 => iI ((zup z0 (0) (↑kr366)) j0))) := ⟨_, rfl⟩
        replace hH := fw_H.nm hM122 hH
        have fr123 : ∀ q, q ≠ N → M121 q = M118 q := fun q h => by rw [hM122]; exact fw_up_ne h
        replace hob366 : M121 a = some (.inr (10, [.ref (a + 1), .ref (G.2.2.2.2 3), .int (iI (↑((dw + 1) + 1))), .int (iI tr), .ref (a + 379), .int (iI cs), .ref (a + 380)])) := (fr123 _ (by omega)).trans hob366
        have hn0 : M121 N = some (fI G 2 (fun j0 => iI ((zup z0 (0) (↑kr366)) j0))) := by rw [hM122]; exact fw_up_eq
        refine lv_dup E.1 E.2.1 dX10_grown_76 rfl ?_
        refine lv_iconst (v := iI 1) E.1 E.2.1 dX10_grown_77 (by decide) ?_
        refine lv_iload_n E.1 E.2.1 dX10_grown_78 rfl (lv_at hl 0 rfl) ?_
        refine fw_if_ne (tgt := 94) E dX10_grown_79 (by decide) (by omega) (by omega) (fun c124 => ?_) (fun c124 => ?_)
        · refine lv_iload_n E.1 E.2.1 dX10_grown_94 rfl (lv_at hl 0 rfl) ?_
          refine lv_iconst (v := iI 1) E.1 E.2.1 dX10_grown_95 (by decide) ?_
          refine fw_icmp_ne (tgt := 107) E dX10_grown_96 (by decide) (by omega) (by omega) (by omega) (by omega) (fun c125 => ?_) (fun c125 => ?_)
          · refine lv_iconst (v := iI 0) E.1 E.2.1 dX10_grown_107 (by decide) ?_
            refine fw_iast E hK hH (by omega) hn0 (iI_in (by omega) (by omega) (by omega)) dX10_grown_108 (fun H1 locs1 hH hz1 => ?_)
            replace hz := hz1.trans hz; clear hz1
            rw [show upd (fun j0 => iI ((zup z0 (0) (↑kr366)) j0)) (iI (1)).toNatClampNeg (iI (0)) = fun j0 => iI ((zup (zup z0 (0) (↑kr366)) (1) (0)) j0) from by rw [iI_ix (by omega) (by omega)]; exact zup_upd _ _ _] at hH
            obtain ⟨M126, hM127⟩ : ∃ MX, MX = fw_up M121 N (fI G 2 (fun j0 => iI ((zup (zup z0 (0) (↑kr366)) (1) (0)) j0))) := ⟨_, rfl⟩
            replace hH := fw_H.nm hM127 hH
            have fr128 : ∀ q, q ≠ N → M126 q = M121 q := fun q h => by rw [hM127]; exact fw_up_ne h
            replace hob366 : M126 a = some (.inr (10, [.ref (a + 1), .ref (G.2.2.2.2 3), .int (iI (↑((dw + 1) + 1))), .int (iI tr), .ref (a + 379), .int (iI cs), .ref (a + 380)])) := (fr128 _ (by omega)).trans hob366
            have hn0 : M126 N = some (fI G 2 (fun j0 => iI ((zup (zup z0 (0) (↑kr366)) (1) (0)) j0))) := by rw [hM127]; exact fw_up_eq
            refine lv_astore (lv' := [(4, .ref N), (3, .int (iI ↑kr366)), (0, .ref a), (1, .int (iI b)), (2, .int (iI 4))]) E.1 E.2.1 dX10_grown_109 hl (by decide) rfl (fun ls hl => ?_)
            exact join111 ↑kr366 0 ((dw + 1) + 1) (zup (zup z0 (0) (↑kr366)) (1) (0)) _ _ _ _ ⟨(by omega), (fun _ => by omega), (fun _ => by omega), (fun _ => by omega)⟩ (by unfold numI; (repeat' split) <;> omega) (by omega) (by first | rfl | (rw [zup_ne (by omega), zup_eq])) zup_eq (by omega) (fun q hq => by rw [fr128 q (by omega), fr123 q (by omega), fr120 q (by omega), fr117 q (by omega), fr83 q (by omega)]) hH (by omega) hob366 hn0 (lv_sub hl [2, 3, 4, 1, 0] rfl)
          · refine lv_aload_n E.1 E.2.1 dX10_grown_99 rfl (lv_at hl 1 rfl) ?_
            refine lv_iconst (v := iI 3) E.1 E.2.1 dX10_grown_100 (by decide) ?_
            refine fw_cV (As := [.int (iI 3)]) (rest := [.int (iI 1), .ref N, .ref N]) E hK hH hl hob366 fc_X10 fL_X10_draw ql_RX10_48 qi_yX10_draw qv_yX10_draw (l_draw l G _ _ a ((dw + 1) + 1) 3 tr cs (by omega) hob366 (by omega) (by omega)) rfl rfl (Nat.le_of_ble_eq_true rfl) ⟨Nat.le_of_ble_eq_true rfl, Nat.le_of_ble_eq_true rfl⟩ ⟨by show _ ≤ (241 : Nat); omega, by show _ ≤ (48242 : Nat); omega⟩ dX10_grown_101 (fw_ki fun r131 M130 H1 locs1 hp129 hH hz1 => ?_)
            obtain ⟨⟨kr413, rfl, hkr413⟩, hob413, hfr, hz2⟩ := hp129
            replace hz := hz2.trans hz
            clear hz1 hz2
            have fr132 := hfr
            replace hn0 : M130 N = some (fI G 2 (fun j0 => iI ((zup z0 (0) (↑kr366)) j0))) := (fr132 _ (by omega)).trans hn0
            refine lv_goto (tgt := 108) E.1 E.2.1 dX10_grown_104 (by decide) ?_
            refine fw_iast E hK hH (by omega) hn0 (iI_in (by omega) (by omega) (by omega)) dX10_grown_108 (fun H1 locs1 hH hz1 => ?_)
            replace hz := hz1.trans hz; clear hz1
            rw [show upd (fun j0 => iI ((zup z0 (0) (↑kr366)) j0)) (iI (1)).toNatClampNeg (iI (↑kr413)) = fun j0 => iI ((zup (zup z0 (0) (↑kr366)) (1) (↑kr413)) j0) from by rw [iI_ix (by omega) (by omega)]; exact zup_upd _ _ _] at hH
            obtain ⟨M133, hM134⟩ : ∃ MX, MX = fw_up M130 N (fI G 2 (fun j0 => iI ((zup (zup z0 (0) (↑kr366)) (1) (↑kr413)) j0))) := ⟨_, rfl⟩
            replace hH := fw_H.nm hM134 hH
            have fr135 : ∀ q, q ≠ N → M133 q = M130 q := fun q h => by rw [hM134]; exact fw_up_ne h
            replace hob413 : M133 a = some (.inr (10, [.ref (a + 1), .ref (G.2.2.2.2 3), .int (iI (↑(((dw + 1) + 1) + 1))), .int (iI tr), .ref (a + 379), .int (iI cs), .ref (a + 380)])) := (fr135 _ (by omega)).trans hob413
            have hn0 : M133 N = some (fI G 2 (fun j0 => iI ((zup (zup z0 (0) (↑kr366)) (1) (↑kr413)) j0))) := by rw [hM134]; exact fw_up_eq
            refine lv_astore (lv' := [(4, .ref N), (3, .int (iI ↑kr366)), (0, .ref a), (1, .int (iI b)), (2, .int (iI 4))]) E.1 E.2.1 dX10_grown_109 hl (by decide) rfl (fun ls hl => ?_)
            exact join111 ↑kr366 ↑kr413 (((dw + 1) + 1) + 1) (zup (zup z0 (0) (↑kr366)) (1) (↑kr413)) _ _ _ _ ⟨(by omega), (fun _ => by omega), (fun _ => by omega), (fun _ => by omega)⟩ (by unfold numI; (repeat' split) <;> omega) (by omega) (by first | rfl | (rw [zup_ne (by omega), zup_eq])) zup_eq (by omega) (fun q hq => by rw [fr135 q (by omega), fr132 q (by omega), fr123 q (by omega), fr120 q (by omega), fr117 q (by omega), fr83 q (by omega)]) hH (by omega) hob413 hn0 (lv_sub hl [2, 3, 4, 1, 0] rfl)
        · refine lv_aload_n E.1 E.2.1 dX10_grown_82 rfl (lv_at hl 1 rfl) ?_
          refine lv_bipush (v := iI 25) E.1 E.2.1 dX10_grown_83 (by decide) ?_
          refine fw_cV (As := [.int (iI 25)]) (rest := [.int (iI 1), .ref N, .ref N]) E hK hH hl hob366 fc_X10 fL_X10_draw ql_RX10_48 qi_yX10_draw qv_yX10_draw (l_draw l G _ _ a ((dw + 1) + 1) 25 tr cs (by omega) hob366 (by omega) (by omega)) rfl rfl (Nat.le_of_ble_eq_true rfl) ⟨Nat.le_of_ble_eq_true rfl, Nat.le_of_ble_eq_true rfl⟩ ⟨by show _ ≤ (241 : Nat); omega, by show _ ≤ (48242 : Nat); omega⟩ dX10_grown_85 (fw_ki fun r138 M137 H1 locs1 hp136 hH hz1 => ?_)
          obtain ⟨⟨kr432, rfl, hkr432⟩, hob432, hfr, hz2⟩ := hp136
          replace hz := hz2.trans hz
          clear hz1 hz2
          have fr139 := hfr
          replace hn0 : M137 N = some (fI G 2 (fun j0 => iI ((zup z0 (0) (↑kr366)) j0))) := (fr139 _ (by omega)).trans hn0
          refine lv_bipush (v := iI 8) E.1 E.2.1 dX10_grown_88 (by decide) ?_
          refine fw_isub E dX10_grown_90 ?_
          refine lv_goto (tgt := 108) E.1 E.2.1 dX10_grown_91 (by decide) ?_
          refine fw_iast E hK hH (by omega) hn0 (iI_in (by omega) (by omega) (by omega)) dX10_grown_108 (fun H1 locs1 hH hz1 => ?_)
          replace hz := hz1.trans hz; clear hz1
          rw [show upd (fun j0 => iI ((zup z0 (0) (↑kr366)) j0)) (iI (1)).toNatClampNeg (iI ((↑kr432) - 8)) = fun j0 => iI ((zup (zup z0 (0) (↑kr366)) (1) ((↑kr432) - 8)) j0) from by rw [iI_ix (by omega) (by omega)]; exact zup_upd _ _ _] at hH
          obtain ⟨M140, hM141⟩ : ∃ MX, MX = fw_up M137 N (fI G 2 (fun j0 => iI ((zup (zup z0 (0) (↑kr366)) (1) ((↑kr432) - 8)) j0))) := ⟨_, rfl⟩
          replace hH := fw_H.nm hM141 hH
          have fr142 : ∀ q, q ≠ N → M140 q = M137 q := fun q h => by rw [hM141]; exact fw_up_ne h
          replace hob432 : M140 a = some (.inr (10, [.ref (a + 1), .ref (G.2.2.2.2 3), .int (iI (↑(((dw + 1) + 1) + 1))), .int (iI tr), .ref (a + 379), .int (iI cs), .ref (a + 380)])) := (fr142 _ (by omega)).trans hob432
          have hn0 : M140 N = some (fI G 2 (fun j0 => iI ((zup (zup z0 (0) (↑kr366)) (1) ((↑kr432) - 8)) j0))) := by rw [hM141]; exact fw_up_eq
          refine lv_astore (lv' := [(4, .ref N), (3, .int (iI ↑kr366)), (0, .ref a), (1, .int (iI b)), (2, .int (iI 4))]) E.1 E.2.1 dX10_grown_109 hl (by decide) rfl (fun ls hl => ?_)
          exact join111 ↑kr366 ((↑kr432) - 8) (((dw + 1) + 1) + 1) (zup (zup z0 (0) (↑kr366)) (1) ((↑kr432) - 8)) _ _ _ _ ⟨(by omega), (fun _ => by omega), (fun _ => by omega), (fun _ => by omega)⟩ (by unfold numI; (repeat' split) <;> omega) (by omega) (by first | rfl | (rw [zup_ne (by omega), zup_eq])) zup_eq (by omega) (fun q hq => by rw [fr142 q (by omega), fr139 q (by omega), fr123 q (by omega), fr120 q (by omega), fr117 q (by omega), fr83 q (by omega)]) hH (by omega) hob432 hn0 (lv_sub hl [2, 3, 4, 1, 0] rfl)

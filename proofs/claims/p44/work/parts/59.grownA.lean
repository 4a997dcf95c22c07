theorem pcP.n0 {b : Int} {e nb n : Nat} {f : Nat → Int} (h : pcP b e nb n f) : 0 < n ∧ n ≤ nb := by
  obtain ⟨C, V, sp, hh, h1, _⟩ := h
  exact h1
theorem ptP.n0 {x : Int} {e i nb n : Nat} {f : Nat → Int} (h : ptP x e i nb n f) : 0 < n ∧ n ≤ 1 + i * nb := by
  obtain ⟨C, V, sp, hh, h1, _⟩ := h
  exact h1
set_option maxHeartbeats 4000000 in
theorem l_grown0 (l : Launch) (G : fw_G) (M : fw_M) (N : Nat) (a dw : Nat) (b tr cs : Int) (hba : G.2.2.1 ≤ a) (haN : a + 381 ≤ N) (g0 : M a = some (.inr (10, [.ref (a + 1), .ref (G.2.2.2.2 3), .int (iI ↑dw), .int (iI tr), .ref (a + 379), .int (iI cs), .ref (a + 380)]))) (hb : b = 1) (hd9 : dw + 3 ≤ 20000) : fMet l yX10_grown cX10_grown 6 (some (.array .int)) 3 60 1 2 G M N [.ref a, .int (iI b), .int (iI 0)] (fw_pr (fun r M1 n1 => (∃ (n : Nat) (f : Nat → Int), N ≤ r ∧ r < n1 ∧ M1 r = some (fI G (2 * n) (fun j0 => iI (f j0))) ∧ pcP b 1 1 n f) ∧ (∃ dw1 : Nat, M1 a = some (.inr (10, [.ref (a + 1), .ref (G.2.2.2.2 3), .int (iI ↑dw1), .int (iI tr), .ref (a + 379), .int (iI cs), .ref (a + 380)])) ∧ dw ≤ dw1 ∧ dw1 ≤ dw + 3) ∧ (∀ q, q ≠ a ∧ q < N → M1 q = M q) ∧ N ≤ n1)) := by
  refine fw_met RX10 rfl (by decide +kernel) (Nat.le_of_ble_eq_true rfl) ?_
  intro pG e s m args below meth cG ls E hr hlk hnm hK hH hz hl
  have join111 : ∀ (x : Int) (v : Int) (dwj : Nat) (f : Nat → Int) (Mj111 : fw_M) (H : Heap) (locs : List Loc) (ls : Array Slot), ndOK x v → numI x = b → x ≤ 1 → f 0 = x → f 1 = v → dw ≤ dwj ∧ dwj ≤ dw + 3 → (∀ q, q ≠ a ∧ q < N → Mj111 q = M q) → fw_H G s Mj111 H locs → H.size = N + 1 → Mj111 a = some (.inr (10, [.ref (a + 1), .ref (G.2.2.2.2 3), .int (iI ↑dwj), .int (iI tr), .ref (a + 379), .int (iI cs), .ref (a + 380)])) → Mj111 N = some (fI G 2 (fun j0 => iI (f j0))) → lv_has ls 6 [(0, .ref a), (1, .int (iI b)), (2, .int (iI 0)), (3, .int (iI x)), (4, .ref N)] → W pG l e ({ frames := 3, cells := 1, slots := 2, locals := 60 } : Room) s m args below meth cG H locs (1) (2) (MQ below (fw_Q G (fw_pr (fun r M1 n1 => (∃ (n : Nat) (f : Nat → Int), N ≤ r ∧ r < n1 ∧ M1 r = some (fI G (2 * n) (fun j0 => iI (f j0))) ∧ pcP b 1 1 n f) ∧ (∃ dw1 : Nat, M1 a = some (.inr (10, [.ref (a + 1), .ref (G.2.2.2.2 3), .int (iI ↑dw1), .int (iI tr), .ref (a + 379), .int (iI cs), .ref (a + 380)])) ∧ dw ≤ dw1 ∧ dw1 ≤ dw + 3) ∧ (∀ q, q ≠ a ∧ q < N → M1 q = M q) ∧ N ≤ n1))) args s 1 2 (fun q => G.2.2.1 ≤ q)) (F0 m 111 ls []) := by
    intro x v dwj f Mj111 H locs ls hnv hnx hxd hf0 hf1 hdj hfr0 hH hz g0 hA hl
    refine lv_iconst (v := iI 0) E.1 E.2.1 dX10_grown_111 (by decide) ?_
    refine lv_istore (lv' := [(5, .int (iI 0)), (0, .ref a), (1, .int (iI b)), (2, .int (iI 0)), (3, .int (iI x)), (4, .ref N)]) E.1 E.2.1 dX10_grown_112 hl (by decide) rfl (fun ls hl => ?_)
    have loop114_1 : ∀ (d114 : Nat) (i : Nat) (n : Nat) (cur : Nat) (h : Nat → Int) (dwl : Nat) (sz : Nat) (Mw114 : fw_M) (H : Heap) (locs : List Loc) (ls : Array Slot), arN x - i < d114 → i ≤ arN x → ptP x 0 i 0 n h → N ≤ cur ∧ cur < sz → dw ≤ dwl ∧ dwl ≤ dw + 3 + i * 0 → (∀ q, q ≠ a ∧ q < N → Mw114 q = M q) → fw_H G s Mw114 H locs → H.size = sz → Mw114 a = some (.inr (10, [.ref (a + 1), .ref (G.2.2.2.2 3), .int (iI ↑dwl), .int (iI tr), .ref (a + 379), .int (iI cs), .ref (a + 380)])) → Mw114 cur = some (fI G (2 * n) (fun j0 => iI (h j0))) → lv_has ls 6 [(0, .ref a), (1, .int (iI b)), (2, .int (iI 0)), (3, .int (iI x)), (4, .ref cur), (5, .int (iI ↑i))] → W pG l e ({ frames := 3, cells := 1, slots := 2, locals := 60 } : Room) s m args below meth cG H locs (1 + i * 1) (2 + i * 400) (MQ below (fw_Q G (fw_pr (fun r M1 n1 => (∃ (n : Nat) (f : Nat → Int), N ≤ r ∧ r < n1 ∧ M1 r = some (fI G (2 * n) (fun j0 => iI (f j0))) ∧ pcP b 1 1 n f) ∧ (∃ dw1 : Nat, M1 a = some (.inr (10, [.ref (a + 1), .ref (G.2.2.2.2 3), .int (iI ↑dw1), .int (iI tr), .ref (a + 379), .int (iI cs), .ref (a + 380)])) ∧ dw ≤ dw1 ∧ dw1 ≤ dw + 3) ∧ (∀ q, q ≠ a ∧ q < N → M1 q = M q) ∧ N ≤ n1))) args s 1 2 (fun q => G.2.2.1 ≤ q)) (F0 m 114 ls []) := by
      intro d114
      induction d114 with
      | zero => intro i n cur h dwl sz Mw114 H locs ls hd; exact absurd hd (Nat.not_lt_zero _)
      | succ d114 ih114 =>
        intro i n cur h dwl sz Mw114 H locs ls hd114 ii hP hcur hdl hfr0 hH hz g0 hA hl
        have hpn := hP.n0
        have har := arN_le x
        have hnv0 := hnv.1
        have har0 : arN x = 0 := by unfold arN; (repeat' split) <;> omega
        refine lv_iload E.1 E.2.1 dX10_grown_114 (lv_at hl 5 rfl) ?_
        refine lv_iload_n E.1 E.2.1 dX10_grown_116 rfl (lv_at hl 3 rfl) ?_
        refine fw_cS (As := [.int (iI x)]) (rest := [.int (iI ↑i)]) E hK hH hl fL_X10_many ql_RX10_52 qs_yX10_many (l_many l G _ _ x (by omega)) rfl rfl (Nat.le_of_ble_eq_true rfl) ⟨Nat.le_of_ble_eq_true rfl, Nat.le_of_ble_eq_true rfl⟩ ⟨by show _ ≤ (1 : Nat); omega, by show _ ≤ (2 : Nat); omega⟩ dX10_grown_117 (fw_ki fun r3 M2 H1 locs1 hp1 hH hz1 => ?_)
        obtain ⟨rfl, hM9, hz2⟩ := hp1
        have har20 := arN_le x
        replace hz := hz2.trans hz
        clear hz1 hz2
        rw [hM9] at hH
        refine fw_icmp_ge (tgt := 149) E dX10_grown_120 (by decide) (by omega) (by omega) (by omega) (by omega) (fun c4 => ?_) (fun c4 => ?_)
        · refine lv_aload E.1 E.2.1 dX10_grown_149 (lv_at hl 4 rfl) ?_
          refine W.widen (k := 1) (n := 2) (by omega) (by omega) ?_
          refine fw_aret E hr (Or.inr ⟨_, rfl⟩) hlk hH ?_ dX10_grown_151
          have e9 : i = arN x := by omega
          exact ⟨⟨n, h, hcur.1, by omega, hA, by rw [← hnx]; exact ptP_end hP e9⟩, ⟨dwl, g0, by omega, by omega⟩, hfr0, by omega⟩
        · exact absurd c4 (by omega)
    refine W.widen (k := 1 + 0 * 1) (n := 2 + 0 * 400) (by omega) (by omega) ?_
    exact loop114_1 (arN x - 0 + 1) 0 1 N f dwj (N + 1) _ _ _ _ (Nat.lt_succ_self _) (Nat.zero_le _) (ptP_0 hf0 hf1 hnv) (by omega) (by omega) hfr0 hH (by omega) g0 hA (lv_sub hl [1, 2, 3, 4, 5, 0] rfl)
  refine lv_iload_n E.1 E.2.1 dX10_grown_0 rfl (lv_at hl 1 rfl) ?_
  refine fw_if_eq (tgt := 36) E dX10_grown_1 (by decide) (by omega) (by omega) (fun c5 => ?_) (fun c5 => ?_)
  · refine lv_iload_n E.1 E.2.1 dX10_grown_36 rfl (lv_at hl 2 rfl) ?_
    refine lv_iconst (v := iI 3) E.1 E.2.1 dX10_grown_37 (by decide) ?_
    refine fw_icmp_lt (tgt := 49) E dX10_grown_38 (by decide) (by omega) (by omega) (by omega) (by omega) (fun c6 => ?_) (fun c6 => ?_)
    · refine lv_bipush (v := iI 9) E.1 E.2.1 dX10_grown_49 (by decide) ?_
      refine lv_aload_n E.1 E.2.1 dX10_grown_51 rfl (lv_at hl 0 rfl) ?_
      refine lv_iconst (v := iI 2) E.1 E.2.1 dX10_grown_52 (by decide) ?_
      refine fw_cV (As := [.int (iI 2)]) (rest := [.int (iI 9)]) E hK hH hl g0 fc_X10 fL_X10_draw ql_RX10_48 qi_yX10_draw qv_yX10_draw (l_draw l G _ _ a dw 2 tr cs (by omega) g0 (by omega) (by omega)) rfl rfl (Nat.le_of_ble_eq_true rfl) ⟨Nat.le_of_ble_eq_true rfl, Nat.le_of_ble_eq_true rfl⟩ ⟨by show _ ≤ (1 : Nat); omega, by show _ ≤ (2 : Nat); omega⟩ dX10_grown_53 (fw_ki fun r9 M8 H1 locs1 hp7 hH hz1 => ?_)
      obtain ⟨⟨kr43, rfl, hkr43⟩, hob43, hfr, hz2⟩ := hp7
      replace hz := hz2.trans hz
      clear hz1 hz2
      have fr10 := hfr
      refine fw_iadd E dX10_grown_56 ?_
      refine lv_goto (tgt := 68) E.1 E.2.1 dX10_grown_57 (by decide) ?_
      refine lv_istore_n (lv' := [(3, .int (iI (9 + (↑kr43)))), (0, .ref a), (1, .int (iI b)), (2, .int (iI 0))]) E.1 E.2.1 dX10_grown_68 rfl hl (by decide) rfl (fun ls hl => ?_)
      refine lv_iconst (v := iI 2) E.1 E.2.1 dX10_grown_69 (by decide) ?_
      refine fw_newI (N := 2) E hK hH hz qa_int (by decide) (by decide) (by decide) ⟨by show _ ≤ (1 : Nat); omega, by show _ ≤ (2 : Nat); omega⟩ dX10_grown_70 (fun H1 hH hz1 => ?_)
      replace hz : H1.size = N + 1 := by omega
      clear hz1
      obtain ⟨M11, hM12⟩ : ∃ MX, MX = fw_up M8 N (fI G 2 (fun j0 => iI (z0 j0))) := ⟨_, rfl⟩
      replace hH := fw_H.nm hM12 hH
      have fr13 : ∀ q, q ≠ N → M11 q = M8 q := fun q h => by rw [hM12]; exact fw_up_ne h
      replace hob43 : M11 a = some (.inr (10, [.ref (a + 1), .ref (G.2.2.2.2 3), .int (iI (↑(dw + 1))), .int (iI tr), .ref (a + 379), .int (iI cs), .ref (a + 380)])) := (fr13 _ (by omega)).trans hob43
      have hn0 : M11 N = some (fI G 2 (fun j0 => iI (z0 j0))) := by rw [hM12]; exact fw_up_eq
      refine lv_dup E.1 E.2.1 dX10_grown_72 rfl ?_
      refine lv_iconst (v := iI 0) E.1 E.2.1 dX10_grown_73 (by decide) ?_
      refine lv_iload_n E.1 E.2.1 dX10_grown_74 rfl (lv_at hl 0 rfl) ?_
      refine fw_iast E hK hH (by omega) hn0 (iI_in (by omega) (by omega) (by omega)) dX10_grown_75 (fun H1 locs1 hH hz1 => ?_)
      replace hz := hz1.trans hz; clear hz1
      rw [show upd (fun j0 => iI (z0 j0)) (iI (0)).toNatClampNeg (iI (9 + (↑kr43))) = fun j0 => iI ((zup z0 (0) (9 + (↑kr43))) j0) from by rw [iI_ix (by omega) (by omega)]; exact zup_upd _ _ _] at hH
      obtain ⟨M14, hM15⟩ : ∃ MX, MX = fw_up M11 N (fI G 2 (fun j0 => iI ((zup z0 (0) (9 + (↑kr43))) j0))) := ⟨_, rfl⟩
      replace hH := fw_H.nm hM15 hH
      have fr16 : ∀ q, q ≠ N → M14 q = M11 q := fun q h => by rw [hM15]; exact fw_up_ne h
      replace hob43 : M14 a = some (.inr (10, [.ref (a + 1), .ref (G.2.2.2.2 3), .int (iI (↑(dw + 1))), .int (iI tr), .ref (a + 379), .int (iI cs), .ref (a + 380)])) := (fr16 _ (by omega)).trans hob43
      have hn0 : M14 N = some (fI G 2 (fun j0 => iI ((zup z0 (0) (9 + (↑kr43))) j0))) := by rw [hM15]; exact fw_up_eq
      refine lv_dup E.1 E.2.1 dX10_grown_76 rfl ?_
      refine lv_iconst (v := iI 1) E.1 E.2.1 dX10_grown_77 (by decide) ?_
      refine lv_iload_n E.1 E.2.1 dX10_grown_78 rfl (lv_at hl 0 rfl) ?_
      refine fw_if_ne (tgt := 94) E dX10_grown_79 (by decide) (by omega) (by omega) (fun c17 => ?_) (fun c17 => ?_)
      · refine lv_iload_n E.1 E.2.1 dX10_grown_94 rfl (lv_at hl 0 rfl) ?_
        refine lv_iconst (v := iI 1) E.1 E.2.1 dX10_grown_95 (by decide) ?_
        refine fw_icmp_ne (tgt := 107) E dX10_grown_96 (by decide) (by omega) (by omega) (by omega) (by omega) (fun c18 => ?_) (fun c18 => ?_)
        · refine lv_iconst (v := iI 0) E.1 E.2.1 dX10_grown_107 (by decide) ?_
          refine fw_iast E hK hH (by omega) hn0 (iI_in (by omega) (by omega) (by omega)) dX10_grown_108 (fun H1 locs1 hH hz1 => ?_)
          replace hz := hz1.trans hz; clear hz1
          rw [show upd (fun j0 => iI ((zup z0 (0) (9 + (↑kr43))) j0)) (iI (1)).toNatClampNeg (iI (0)) = fun j0 => iI ((zup (zup z0 (0) (9 + (↑kr43))) (1) (0)) j0) from by rw [iI_ix (by omega) (by omega)]; exact zup_upd _ _ _] at hH
          obtain ⟨M19, hM20⟩ : ∃ MX, MX = fw_up M14 N (fI G 2 (fun j0 => iI ((zup (zup z0 (0) (9 + (↑kr43))) (1) (0)) j0))) := ⟨_, rfl⟩
          replace hH := fw_H.nm hM20 hH
          have fr21 : ∀ q, q ≠ N → M19 q = M14 q := fun q h => by rw [hM20]; exact fw_up_ne h
          replace hob43 : M19 a = some (.inr (10, [.ref (a + 1), .ref (G.2.2.2.2 3), .int (iI (↑(dw + 1))), .int (iI tr), .ref (a + 379), .int (iI cs), .ref (a + 380)])) := (fr21 _ (by omega)).trans hob43
          have hn0 : M19 N = some (fI G 2 (fun j0 => iI ((zup (zup z0 (0) (9 + (↑kr43))) (1) (0)) j0))) := by rw [hM20]; exact fw_up_eq
          refine lv_astore (lv' := [(4, .ref N), (3, .int (iI (9 + (↑kr43)))), (0, .ref a), (1, .int (iI b)), (2, .int (iI 0))]) E.1 E.2.1 dX10_grown_109 hl (by decide) rfl (fun ls hl => ?_)
          exact join111 (9 + (↑kr43)) 0 (dw + 1) (zup (zup z0 (0) (9 + (↑kr43))) (1) (0)) _ _ _ _ ⟨(by omega), (fun _ => by omega), (fun _ => by omega), (fun _ => by omega)⟩ (by unfold numI; (repeat' split) <;> omega) (by omega) (by first | rfl | (rw [zup_ne (by omega), zup_eq])) zup_eq (by omega) (fun q hq => by rw [fr21 q (by omega), fr16 q (by omega), fr13 q (by omega), fr10 q (by omega)]) hH (by omega) hob43 hn0 (lv_sub hl [2, 3, 4, 1, 0] rfl)
        · refine lv_aload_n E.1 E.2.1 dX10_grown_99 rfl (lv_at hl 1 rfl) ?_
          refine lv_iconst (v := iI 3) E.1 E.2.1 dX10_grown_100 (by decide) ?_
          refine fw_cV (As := [.int (iI 3)]) (rest := [.int (iI 1), .ref N, .ref N]) E hK hH hl hob43 fc_X10 fL_X10_draw ql_RX10_48 qi_yX10_draw qv_yX10_draw (l_draw l G _ _ a (dw + 1) 3 tr cs (by omega) hob43 (by omega) (by omega)) rfl rfl (Nat.le_of_ble_eq_true rfl) ⟨Nat.le_of_ble_eq_true rfl, Nat.le_of_ble_eq_true rfl⟩ ⟨by show _ ≤ (1 : Nat); omega, by show _ ≤ (2 : Nat); omega⟩ dX10_grown_101 (fw_ki fun r24 M23 H1 locs1 hp22 hH hz1 => ?_)
          obtain ⟨⟨kr91, rfl, hkr91⟩, hob91, hfr, hz2⟩ := hp22
          replace hz := hz2.trans hz
          clear hz1 hz2
          have fr25 := hfr
          replace hn0 : M23 N = some (fI G 2 (fun j0 => iI ((zup z0 (0) (9 + (↑kr43))) j0))) := (fr25 _ (by omega)).trans hn0
          refine lv_goto (tgt := 108) E.1 E.2.1 dX10_grown_104 (by decide) ?_
          refine fw_iast E hK hH (by omega) hn0 (iI_in (by omega) (by omega) (by omega)) dX10_grown_108 (fun H1 locs1 hH hz1 => ?_)
          replace hz := hz1.trans hz; clear hz1
          rw [show upd (fun j0 => iI ((zup z0 (0) (9 + (↑kr43))) j0)) (iI (1)).toNatClampNeg (iI (↑kr91)) = fun j0 => iI ((zup (zup z0 (0) (9 + (↑kr43))) (1) (↑kr91)) j0) from by rw [iI_ix (by omega) (by omega)]; exact zup_upd _ _ _] at hH
          obtain ⟨M26, hM27⟩ : ∃ MX, MX = fw_up M23 N (fI G 2 (fun j0 => iI ((zup (zup z0 (0) (9 + (↑kr43))) (1) (↑kr91)) j0))) := ⟨_, rfl⟩
          replace hH := fw_H.nm hM27 hH
          have fr28 : ∀ q, q ≠ N → M26 q = M23 q := fun q h => by rw [hM27]; exact fw_up_ne h
          replace hob91 : M26 a = some (.inr (10, [.ref (a + 1), .ref (G.2.2.2.2 3), .int (iI (↑((dw + 1) + 1))), .int (iI tr), .ref (a + 379), .int (iI cs), .ref (a + 380)])) := (fr28 _ (by omega)).trans hob91
          have hn0 : M26 N = some (fI G 2 (fun j0 => iI ((zup (zup z0 (0) (9 + (↑kr43))) (1) (↑kr91)) j0))) := by rw [hM27]; exact fw_up_eq
          refine lv_astore (lv' := [(4, .ref N), (3, .int (iI (9 + (↑kr43)))), (0, .ref a), (1, .int (iI b)), (2, .int (iI 0))]) E.1 E.2.1 dX10_grown_109 hl (by decide) rfl (fun ls hl => ?_)
          exact join111 (9 + (↑kr43)) ↑kr91 ((dw + 1) + 1) (zup (zup z0 (0) (9 + (↑kr43))) (1) (↑kr91)) _ _ _ _ ⟨(by omega), (fun _ => by omega), (fun _ => by omega), (fun _ => by omega)⟩ (by unfold numI; (repeat' split) <;> omega) (by omega) (by first | rfl | (rw [zup_ne (by omega), zup_eq])) zup_eq (by omega) (fun q hq => by rw [fr28 q (by omega), fr25 q (by omega), fr16 q (by omega), fr13 q (by omega), fr10 q (by omega)]) hH (by omega) hob91 hn0 (lv_sub hl [2, 3, 4, 1, 0] rfl)
      · refine lv_aload_n E.1 E.2.1 dX10_grown_82 rfl (lv_at hl 1 rfl) ?_
        refine lv_bipush (v := iI 25) E.1 E.2.1 dX10_grown_83 (by decide) ?_
        refine fw_cV (As := [.int (iI 25)]) (rest := [.int (iI 1), .ref N, .ref N]) E hK hH hl hob43 fc_X10 fL_X10_draw ql_RX10_48 qi_yX10_draw qv_yX10_draw (l_draw l G _ _ a (dw + 1) 25 tr cs (by omega) hob43 (by omega) (by omega)) rfl rfl (Nat.le_of_ble_eq_true rfl) ⟨Nat.le_of_ble_eq_true rfl, Nat.le_of_ble_eq_true rfl⟩ ⟨by show _ ≤ (1 : Nat); omega, by show _ ≤ (2 : Nat); omega⟩ dX10_grown_85 (fw_ki fun r31 M30 H1 locs1 hp29 hH hz1 => ?_)
        obtain ⟨⟨kr110, rfl, hkr110⟩, hob110, hfr, hz2⟩ := hp29
        replace hz := hz2.trans hz
        clear hz1 hz2
        have fr32 := hfr
        replace hn0 : M30 N = some (fI G 2 (fun j0 => iI ((zup z0 (0) (9 + (↑kr43))) j0))) := (fr32 _ (by omega)).trans hn0
        refine lv_bipush (v := iI 8) E.1 E.2.1 dX10_grown_88 (by decide) ?_
        refine fw_isub E dX10_grown_90 ?_
        refine lv_goto (tgt := 108) E.1 E.2.1 dX10_grown_91 (by decide) ?_
        refine fw_iast E hK hH (by omega) hn0 (iI_in (by omega) (by omega) (by omega)) dX10_grown_108 (fun H1 locs1 hH hz1 => ?_)
        replace hz := hz1.trans hz; clear hz1
        rw [show upd (fun j0 => iI ((zup z0 (0) (9 + (↑kr43))) j0)) (iI (1)).toNatClampNeg (iI ((↑kr110) - 8)) = fun j0 => iI ((zup (zup z0 (0) (9 + (↑kr43))) (1) ((↑kr110) - 8)) j0) from by rw [iI_ix (by omega) (by omega)]; exact zup_upd _ _ _] at hH
        obtain ⟨M33, hM34⟩ : ∃ MX, MX = fw_up M30 N (fI G 2 (fun j0 => iI ((zup (zup z0 (0) (9 + (↑kr43))) (1) ((↑kr110) - 8)) j0))) := ⟨_, rfl⟩
        replace hH := fw_H.nm hM34 hH
        have fr35 : ∀ q, q ≠ N → M33 q = M30 q := fun q h => by rw [hM34]; exact fw_up_ne h
        replace hob110 : M33 a = some (.inr (10, [.ref (a + 1), .ref (G.2.2.2.2 3), .int (iI (↑((dw + 1) + 1))), .int (iI tr), .ref (a + 379), .int (iI cs), .ref (a + 380)])) := (fr35 _ (by omega)).trans hob110
        have hn0 : M33 N = some (fI G 2 (fun j0 => iI ((zup (zup z0 (0) (9 + (↑kr43))) (1) ((↑kr110) - 8)) j0))) := by rw [hM34]; exact fw_up_eq
        refine lv_astore (lv' := [(4, .ref N), (3, .int (iI (9 + (↑kr43)))), (0, .ref a), (1, .int (iI b)), (2, .int (iI 0))]) E.1 E.2.1 dX10_grown_109 hl (by decide) rfl (fun ls hl => ?_)
        exact join111 (9 + (↑kr43)) ((↑kr110) - 8) ((dw + 1) + 1) (zup (zup z0 (0) (9 + (↑kr43))) (1) ((↑kr110) - 8)) _ _ _ _ ⟨(by omega), (fun _ => by omega), (fun _ => by omega), (fun _ => by omega)⟩ (by unfold numI; (repeat' split) <;> omega) (by omega) (by first | rfl | (rw [zup_ne (by omega), zup_eq])) zup_eq (by omega) (fun q hq => by rw [fr35 q (by omega), fr32 q (by omega), fr16 q (by omega), fr13 q (by omega), fr10 q (by omega)]) hH (by omega) hob110 hn0 (lv_sub hl [2, 3, 4, 1, 0] rfl)
    · exact absurd c6 (by omega)
  · refine lv_iload_n E.1 E.2.1 dX10_grown_4 rfl (lv_at hl 2 rfl) ?_
    refine lv_iconst (v := iI 2) E.1 E.2.1 dX10_grown_5 (by decide) ?_
    refine fw_icmp_lt (tgt := 17) E dX10_grown_6 (by decide) (by omega) (by omega) (by omega) (by omega) (fun c36 => ?_) (fun c36 => ?_)
    · refine lv_aload_n E.1 E.2.1 dX10_grown_17 rfl (lv_at hl 0 rfl) ?_
      refine lv_iconst (v := iI 2) E.1 E.2.1 dX10_grown_18 (by decide) ?_
      refine fw_cV (As := [.int (iI 2)]) (rest := []) E hK hH hl g0 fc_X10 fL_X10_draw ql_RX10_48 qi_yX10_draw qv_yX10_draw (l_draw l G _ _ a dw 2 tr cs (by omega) g0 (by omega) (by omega)) rfl rfl (Nat.le_of_ble_eq_true rfl) ⟨Nat.le_of_ble_eq_true rfl, Nat.le_of_ble_eq_true rfl⟩ ⟨by show _ ≤ (1 : Nat); omega, by show _ ≤ (2 : Nat); omega⟩ dX10_grown_19 (fw_ki fun r39 M38 H1 locs1 hp37 hH hz1 => ?_)
      obtain ⟨⟨kr135, rfl, hkr135⟩, hob135, hfr, hz2⟩ := hp37
      replace hz := hz2.trans hz
      clear hz1 hz2
      have fr40 := hfr
      refine lv_goto (tgt := 68) E.1 E.2.1 dX10_grown_22 (by decide) ?_
      refine lv_istore_n (lv' := [(3, .int (iI ↑kr135)), (0, .ref a), (1, .int (iI b)), (2, .int (iI 0))]) E.1 E.2.1 dX10_grown_68 rfl hl (by decide) rfl (fun ls hl => ?_)
      refine lv_iconst (v := iI 2) E.1 E.2.1 dX10_grown_69 (by decide) ?_
      refine fw_newI (N := 2) E hK hH hz qa_int (by decide) (by decide) (by decide) ⟨by show _ ≤ (1 : Nat); omega, by show _ ≤ (2 : Nat); omega⟩ dX10_grown_70 (fun H1 hH hz1 => ?_)
      replace hz : H1.size = N + 1 := by omega
      clear hz1
      obtain ⟨M41, hM42⟩ : ∃ MX, MX = fw_up M38 N (fI G 2 (fun j0 => iI (z0 j0))) := ⟨_, rfl⟩
      replace hH := fw_H.nm hM42 hH
      have fr43 : ∀ q, q ≠ N → M41 q = M38 q := fun q h => by rw [hM42]; exact fw_up_ne h
      replace hob135 : M41 a = some (.inr (10, [.ref (a + 1), .ref (G.2.2.2.2 3), .int (iI (↑(dw + 1))), .int (iI tr), .ref (a + 379), .int (iI cs), .ref (a + 380)])) := (fr43 _ (by omega)).trans hob135
      have hn0 : M41 N = some (fI G 2 (fun j0 => iI (z0 j0))) := by rw [hM42]; exact fw_up_eq
      refine lv_dup E.1 E.2.1 dX10_grown_72 rfl ?_
      refine lv_iconst (v := iI 0) E.1 E.2.1 dX10_grown_73 (by decide) ?_
      refine lv_iload_n E.1 E.2.1 dX10_grown_74 rfl (lv_at hl 0 rfl) ?_
      refine fw_iast E hK hH (by omega) hn0 (iI_in (by omega) (by omega) (by omega)) dX10_grown_75 (fun H1 locs1 hH hz1 => ?_)
      replace hz := hz1.trans hz; clear hz1
      rw [show upd (fun j0 => iI (z0 j0)) (iI (0)).toNatClampNeg (iI (↑kr135)) = fun j0 => iI ((zup z0 (0) (↑kr135)) j0) from by rw [iI_ix (by omega) (by omega)]; exact zup_upd _ _ _] at hH
      obtain ⟨M44, hM45⟩ : ∃ MX, MX = fw_up M41 N (fI G 2 (fun j0 => iI ((zup z0 (0) (↑kr135)) j0))) := ⟨_, rfl⟩
      replace hH := fw_H.nm hM45 hH
      have fr46 : ∀ q, q ≠ N → M44 q = M41 q := fun q h => by rw [hM45]; exact fw_up_ne h
      replace hob135 : M44 a = some (.inr (10, [.ref (a + 1), .ref (G.2.2.2.2 3), .int (iI (↑(dw + 1))), .int (iI tr), .ref (a + 379), .int (iI cs), .ref (a + 380)])) := (fr46 _ (by omega)).trans hob135
      have hn0 : M44 N = some (fI G 2 (fun j0 => iI ((zup z0 (0) (↑kr135)) j0))) := by rw [hM45]; exact fw_up_eq
      refine lv_dup E.1 E.2.1 dX10_grown_76 rfl ?_
      refine lv_iconst (v := iI 1) E.1 E.2.1 dX10_grown_77 (by decide) ?_
      refine lv_iload_n E.1 E.2.1 dX10_grown_78 rfl (lv_at hl 0 rfl) ?_
      refine fw_if_ne (tgt := 94) E dX10_grown_79 (by decide) (by omega) (by omega) (fun c47 => ?_) (fun c47 => ?_)
      · refine lv_iload_n E.1 E.2.1 dX10_grown_94 rfl (lv_at hl 0 rfl) ?_
        refine lv_iconst (v := iI 1) E.1 E.2.1 dX10_grown_95 (by decide) ?_
        refine fw_icmp_ne (tgt := 107) E dX10_grown_96 (by decide) (by omega) (by omega) (by omega) (by omega) (fun c48 => ?_) (fun c48 => ?_)
        · refine lv_iconst (v := iI 0) E.1 E.2.1 dX10_grown_107 (by decide) ?_
          refine fw_iast E hK hH (by omega) hn0 (iI_in (by omega) (by omega) (by omega)) dX10_grown_108 (fun H1 locs1 hH hz1 => ?_)
          replace hz := hz1.trans hz; clear hz1
          rw [show upd (fun j0 => iI ((zup z0 (0) (↑kr135)) j0)) (iI (1)).toNatClampNeg (iI (0)) = fun j0 => iI ((zup (zup z0 (0) (↑kr135)) (1) (0)) j0) from by rw [iI_ix (by omega) (by omega)]; exact zup_upd _ _ _] at hH
          obtain ⟨M49, hM50⟩ : ∃ MX, MX = fw_up M44 N (fI G 2 (fun j0 => iI ((zup (zup z0 (0) (↑kr135)) (1) (0)) j0))) := ⟨_, rfl⟩
          replace hH := fw_H.nm hM50 hH
          have fr51 : ∀ q, q ≠ N → M49 q = M44 q := fun q h => by rw [hM50]; exact fw_up_ne h
          replace hob135 : M49 a = some (.inr (10, [.ref (a + 1), .ref (G.2.2.2.2 3), .int (iI (↑(dw + 1))), .int (iI tr), .ref (a + 379), .int (iI cs), .ref (a + 380)])) := (fr51 _ (by omega)).trans hob135
          have hn0 : M49 N = some (fI G 2 (fun j0 => iI ((zup (zup z0 (0) (↑kr135)) (1) (0)) j0))) := by rw [hM50]; exact fw_up_eq
          refine lv_astore (lv' := [(4, .ref N), (3, .int (iI ↑kr135)), (0, .ref a), (1, .int (iI b)), (2, .int (iI 0))]) E.1 E.2.1 dX10_grown_109 hl (by decide) rfl (fun ls hl => ?_)
          exact join111 ↑kr135 0 (dw + 1) (zup (zup z0 (0) (↑kr135)) (1) (0)) _ _ _ _ ⟨(by omega), (fun _ => by omega), (fun _ => by omega), (fun _ => by omega)⟩ (by unfold numI; (repeat' split) <;> omega) (by omega) (by first | rfl | (rw [zup_ne (by omega), zup_eq])) zup_eq (by omega) (fun q hq => by rw [fr51 q (by omega), fr46 q (by omega), fr43 q (by omega), fr40 q (by omega)]) hH (by omega) hob135 hn0 (lv_sub hl [2, 3, 4, 1, 0] rfl)
        · refine lv_aload_n E.1 E.2.1 dX10_grown_99 rfl (lv_at hl 1 rfl) ?_
          refine lv_iconst (v := iI 3) E.1 E.2.1 dX10_grown_100 (by decide) ?_
          refine fw_cV (As := [.int (iI 3)]) (rest := [.int (iI 1), .ref N, .ref N]) E hK hH hl hob135 fc_X10 fL_X10_draw ql_RX10_48 qi_yX10_draw qv_yX10_draw (l_draw l G _ _ a (dw + 1) 3 tr cs (by omega) hob135 (by omega) (by omega)) rfl rfl (Nat.le_of_ble_eq_true rfl) ⟨Nat.le_of_ble_eq_true rfl, Nat.le_of_ble_eq_true rfl⟩ ⟨by show _ ≤ (1 : Nat); omega, by show _ ≤ (2 : Nat); omega⟩ dX10_grown_101 (fw_ki fun r54 M53 H1 locs1 hp52 hH hz1 => ?_)
          obtain ⟨⟨kr182, rfl, hkr182⟩, hob182, hfr, hz2⟩ := hp52
          replace hz := hz2.trans hz
          clear hz1 hz2
          have fr55 := hfr
          replace hn0 : M53 N = some (fI G 2 (fun j0 => iI ((zup z0 (0) (↑kr135)) j0))) := (fr55 _ (by omega)).trans hn0
          refine lv_goto (tgt := 108) E.1 E.2.1 dX10_grown_104 (by decide) ?_
          refine fw_iast E hK hH (by omega) hn0 (iI_in (by omega) (by omega) (by omega)) dX10_grown_108 (fun H1 locs1 hH hz1 => ?_)
          replace hz := hz1.trans hz; clear hz1
          rw [show upd (fun j0 => iI ((zup z0 (0) (↑kr135)) j0)) (iI (1)).toNatClampNeg (iI (↑kr182)) = fun j0 => iI ((zup (zup z0 (0) (↑kr135)) (1) (↑kr182)) j0) from by rw [iI_ix (by omega) (by omega)]; exact zup_upd _ _ _] at hH
          obtain ⟨M56, hM57⟩ : ∃ MX, MX = fw_up M53 N (fI G 2 (fun j0 => iI ((zup (zup z0 (0) (↑kr135)) (1) (↑kr182)) j0))) := ⟨_, rfl⟩
          replace hH := fw_H.nm hM57 hH
          have fr58 : ∀ q, q ≠ N → M56 q = M53 q := fun q h => by rw [hM57]; exact fw_up_ne h
          replace hob182 : M56 a = some (.inr (10, [.ref (a + 1), .ref (G.2.2.2.2 3), .int (iI (↑((dw + 1) + 1))), .int (iI tr), .ref (a + 379), .int (iI cs), .ref (a + 380)])) := (fr58 _ (by omega)).trans hob182
          have hn0 : M56 N = some (fI G 2 (fun j0 => iI ((zup (zup z0 (0) (↑kr135)) (1) (↑kr182)) j0))) := by rw [hM57]; exact fw_up_eq
          refine lv_astore (lv' := [(4, .ref N), (3, .int (iI ↑kr135)), (0, .ref a), (1, .int (iI b)), (2, .int (iI 0))]) E.1 E.2.1 dX10_grown_109 hl (by decide) rfl (fun ls hl => ?_)
          exact join111 ↑kr135 ↑kr182 ((dw + 1) + 1) (zup (zup z0 (0) (↑kr135)) (1) (↑kr182)) _ _ _ _ ⟨(by omega), (fun _ => by omega), (fun _ => by omega), (fun _ => by omega)⟩ (by unfold numI; (repeat' split) <;> omega) (by omega) (by first | rfl | (rw [zup_ne (by omega), zup_eq])) zup_eq (by omega) (fun q hq => by rw [fr58 q (by omega), fr55 q (by omega), fr46 q (by omega), fr43 q (by omega), fr40 q (by omega)]) hH (by omega) hob182 hn0 (lv_sub hl [2, 3, 4, 1, 0] rfl)
      · refine lv_aload_n E.1 E.2.1 dX10_grown_82 rfl (lv_at hl 1 rfl) ?_
        refine lv_bipush (v := iI 25) E.1 E.2.1 dX10_grown_83 (by decide) ?_
        refine fw_cV (As := [.int (iI 25)]) (rest := [.int (iI 1), .ref N, .ref N]) E hK hH hl hob135 fc_X10 fL_X10_draw ql_RX10_48 qi_yX10_draw qv_yX10_draw (l_draw l G _ _ a (dw + 1) 25 tr cs (by omega) hob135 (by omega) (by omega)) rfl rfl (Nat.le_of_ble_eq_true rfl) ⟨Nat.le_of_ble_eq_true rfl, Nat.le_of_ble_eq_true rfl⟩ ⟨by show _ ≤ (1 : Nat); omega, by show _ ≤ (2 : Nat); omega⟩ dX10_grown_85 (fw_ki fun r61 M60 H1 locs1 hp59 hH hz1 => ?_)
        obtain ⟨⟨kr201, rfl, hkr201⟩, hob201, hfr, hz2⟩ := hp59
        replace hz := hz2.trans hz
        clear hz1 hz2
        have fr62 := hfr
        replace hn0 : M60 N = some (fI G 2 (fun j0 => iI ((zup z0 (0) (↑kr135)) j0))) := (fr62 _ (by omega)).trans hn0
        refine lv_bipush (v := iI 8) E.1 E.2.1 dX10_grown_88 (by decide) ?_
        refine fw_isub E dX10_grown_90 ?_
        refine lv_goto (tgt := 108) E.1 E.2.1 dX10_grown_91 (by decide) ?_
        refine fw_iast E hK hH (by omega) hn0 (iI_in (by omega) (by omega) (by omega)) dX10_grown_108 (fun H1 locs1 hH hz1 => ?_)
        replace hz := hz1.trans hz; clear hz1
        rw [show upd (fun j0 => iI ((zup z0 (0) (↑kr135)) j0)) (iI (1)).toNatClampNeg (iI ((↑kr201) - 8)) = fun j0 => iI ((zup (zup z0 (0) (↑kr135)) (1) ((↑kr201) - 8)) j0) from by rw [iI_ix (by omega) (by omega)]; exact zup_upd _ _ _] at hH
        obtain ⟨M63, hM64⟩ : ∃ MX, MX = fw_up M60 N (fI G 2 (fun j0 => iI ((zup (zup z0 (0) (↑kr135)) (1) ((↑kr201) - 8)) j0))) := ⟨_, rfl⟩
        replace hH := fw_H.nm hM64 hH
        have fr65 : ∀ q, q ≠ N → M63 q = M60 q := fun q h => by rw [hM64]; exact fw_up_ne h
        replace hob201 : M63 a = some (.inr (10, [.ref (a + 1), .ref (G.2.2.2.2 3), .int (iI (↑((dw + 1) + 1))), .int (iI tr), .ref (a + 379), .int (iI cs), .ref (a + 380)])) := (fr65 _ (by omega)).trans hob201
        have hn0 : M63 N = some (fI G 2 (fun j0 => iI ((zup (zup z0 (0) (↑kr135)) (1) ((↑kr201) - 8)) j0))) := by rw [hM64]; exact fw_up_eq
        refine lv_astore (lv' := [(4, .ref N), (3, .int (iI ↑kr135)), (0, .ref a), (1, .int (iI b)), (2, .int (iI 0))]) E.1 E.2.1 dX10_grown_109 hl (by decide) rfl (fun ls hl => ?_)
        exact join111 ↑kr135 ((↑kr201) - 8) ((dw + 1) + 1) (zup (zup z0 (0) (↑kr135)) (1) ((↑kr201) - 8)) _ _ _ _ ⟨(by omega), (fun _ => by omega), (fun _ => by omega), (fun _ => by omega)⟩ (by unfold numI; (repeat' split) <;> omega) (by omega) (by first | rfl | (rw [zup_ne (by omega), zup_eq])) zup_eq (by omega) (fun q hq => by rw [fr65 q (by omega), fr62 q (by omega), fr46 q (by omega), fr43 q (by omega), fr40 q (by omega)]) hH (by omega) hob201 hn0 (lv_sub hl [2, 3, 4, 1, 0] rfl)
    · exact absurd c36 (by omega)
set_option maxHeartbeats 4000000 in
theorem l_grown1 (l : Launch) (G : fw_G) (M : fw_M) (N : Nat) (a dw : Nat) (b tr cs : Int) (hba : G.2.2.1 ≤ a) (haN : a + 381 ≤ N) (g0 : M a = some (.inr (10, [.ref (a + 1), .ref (G.2.2.2.2 3), .int (iI ↑dw), .int (iI tr), .ref (a + 379), .int (iI cs), .ref (a + 380)]))) (hb : b = 0 ∨ b = 1) (hd9 : dw + 12 ≤ 20000) : fMet l yX10_grown cX10_grown 6 (some (.array .int)) 4 95 7 1208 G M N [.ref a, .int (iI b), .int (iI 1)] (fw_pr (fun r M1 n1 => (∃ (n : Nat) (f : Nat → Int), N ≤ r ∧ r < n1 ∧ M1 r = some (fI G (2 * n) (fun j0 => iI (f j0))) ∧ pcP b 2 4 n f) ∧ (∃ dw1 : Nat, M1 a = some (.inr (10, [.ref (a + 1), .ref (G.2.2.2.2 3), .int (iI ↑dw1), .int (iI tr), .ref (a + 379), .int (iI cs), .ref (a + 380)])) ∧ dw ≤ dw1 ∧ dw1 ≤ dw + 12) ∧ (∀ q, q ≠ a ∧ q < N → M1 q = M q) ∧ N ≤ n1)) := by
  refine fw_met RX10 rfl (by decide +kernel) (Nat.le_of_ble_eq_true rfl) ?_
  intro pG e s m args below meth cG ls E hr hlk hnm hK hH hz hl
  have join111 : ∀ (x : Int) (v : Int) (dwj : Nat) (f : Nat → Int) (Mj111 : fw_M) (H : Heap) (locs : List Loc) (ls : Array Slot), ndOK x v → numI x = b → x ≤ 1 ∨ x = 9 ∨ x = 10 → f 0 = x → f 1 = v → dw ≤ dwj ∧ dwj ≤ dw + 3 → (∀ q, q ≠ a ∧ q < N → Mj111 q = M q) → fw_H G s Mj111 H locs → H.size = N + 1 → Mj111 a = some (.inr (10, [.ref (a + 1), .ref (G.2.2.2.2 3), .int (iI ↑dwj), .int (iI tr), .ref (a + 379), .int (iI cs), .ref (a + 380)])) → Mj111 N = some (fI G 2 (fun j0 => iI (f j0))) → lv_has ls 6 [(0, .ref a), (1, .int (iI b)), (2, .int (iI 1)), (3, .int (iI x)), (4, .ref N)] → W pG l e ({ frames := 4, cells := 7, slots := 1208, locals := 95 } : Room) s m args below meth cG H locs (1) (2) (MQ below (fw_Q G (fw_pr (fun r M1 n1 => (∃ (n : Nat) (f : Nat → Int), N ≤ r ∧ r < n1 ∧ M1 r = some (fI G (2 * n) (fun j0 => iI (f j0))) ∧ pcP b 2 4 n f) ∧ (∃ dw1 : Nat, M1 a = some (.inr (10, [.ref (a + 1), .ref (G.2.2.2.2 3), .int (iI ↑dw1), .int (iI tr), .ref (a + 379), .int (iI cs), .ref (a + 380)])) ∧ dw ≤ dw1 ∧ dw1 ≤ dw + 12) ∧ (∀ q, q ≠ a ∧ q < N → M1 q = M q) ∧ N ≤ n1))) args s 7 1208 (fun q => G.2.2.1 ≤ q)) (F0 m 111 ls []) := by
    intro x v dwj f Mj111 H locs ls hnv hnx hxd hf0 hf1 hdj hfr0 hH hz g0 hA hl
    refine lv_iconst (v := iI 0) E.1 E.2.1 dX10_grown_111 (by decide) ?_
    refine lv_istore (lv' := [(5, .int (iI 0)), (0, .ref a), (1, .int (iI b)), (2, .int (iI 1)), (3, .int (iI x)), (4, .ref N)]) E.1 E.2.1 dX10_grown_112 hl (by decide) rfl (fun ls hl => ?_)
    have loop114_1 : ∀ (d114 : Nat) (i : Nat) (n : Nat) (cur : Nat) (h : Nat → Int) (dwl : Nat) (sz : Nat) (Mw114 : fw_M) (H : Heap) (locs : List Loc) (ls : Array Slot), arN x - i < d114 → i ≤ arN x → ptP x 1 i 1 n h → N ≤ cur ∧ cur < sz → dw ≤ dwl ∧ dwl ≤ dw + 3 + i * 3 → (∀ q, q ≠ a ∧ q < N → Mw114 q = M q) → fw_H G s Mw114 H locs → H.size = sz → Mw114 a = some (.inr (10, [.ref (a + 1), .ref (G.2.2.2.2 3), .int (iI ↑dwl), .int (iI tr), .ref (a + 379), .int (iI cs), .ref (a + 380)])) → Mw114 cur = some (fI G (2 * n) (fun j0 => iI (h j0))) → lv_has ls 6 [(0, .ref a), (1, .int (iI b)), (2, .int (iI 1)), (3, .int (iI x)), (4, .ref cur), (5, .int (iI ↑i))] → W pG l e ({ frames := 4, cells := 7, slots := 1208, locals := 95 } : Room) s m args below meth cG H locs (1 + i * 2) (2 + i * 402) (MQ below (fw_Q G (fw_pr (fun r M1 n1 => (∃ (n : Nat) (f : Nat → Int), N ≤ r ∧ r < n1 ∧ M1 r = some (fI G (2 * n) (fun j0 => iI (f j0))) ∧ pcP b 2 4 n f) ∧ (∃ dw1 : Nat, M1 a = some (.inr (10, [.ref (a + 1), .ref (G.2.2.2.2 3), .int (iI ↑dw1), .int (iI tr), .ref (a + 379), .int (iI cs), .ref (a + 380)])) ∧ dw ≤ dw1 ∧ dw1 ≤ dw + 12) ∧ (∀ q, q ≠ a ∧ q < N → M1 q = M q) ∧ N ≤ n1))) args s 7 1208 (fun q => G.2.2.1 ≤ q)) (F0 m 114 ls []) := by
      intro d114
      induction d114 with
      | zero => intro i n cur h dwl sz Mw114 H locs ls hd; exact absurd hd (Nat.not_lt_zero _)
      | succ d114 ih114 =>
        intro i n cur h dwl sz Mw114 H locs ls hd114 ii hP hcur hdl hfr0 hH hz g0 hA hl
        have hpn := hP.n0
        have har := arN_le x
        have hnv0 := hnv.1
        refine lv_iload E.1 E.2.1 dX10_grown_114 (lv_at hl 5 rfl) ?_
        refine lv_iload_n E.1 E.2.1 dX10_grown_116 rfl (lv_at hl 3 rfl) ?_
        refine fw_cS (As := [.int (iI x)]) (rest := [.int (iI ↑i)]) E hK hH hl fL_X10_many ql_RX10_52 qs_yX10_many (l_many l G _ _ x (by omega)) rfl rfl (Nat.le_of_ble_eq_true rfl) ⟨Nat.le_of_ble_eq_true rfl, Nat.le_of_ble_eq_true rfl⟩ ⟨by show _ ≤ (7 : Nat); omega, by show _ ≤ (1208 : Nat); omega⟩ dX10_grown_117 (fw_ki fun r3 M2 H1 locs1 hp1 hH hz1 => ?_)
        obtain ⟨rfl, hM9, hz2⟩ := hp1
        have har19 := arN_le x
        replace hz := hz2.trans hz
        clear hz1 hz2
        rw [hM9] at hH
        refine fw_icmp_ge (tgt := 149) E dX10_grown_120 (by decide) (by omega) (by omega) (by omega) (by omega) (fun c4 => ?_) (fun c4 => ?_)
        · refine lv_aload E.1 E.2.1 dX10_grown_149 (lv_at hl 4 rfl) ?_
          refine W.widen (k := 7) (n := 1208) (by omega) (by omega) ?_
          refine fw_aret E hr (Or.inr ⟨_, rfl⟩) hlk hH ?_ dX10_grown_151
          have e9 : i = arN x := by omega
          exact ⟨⟨n, h, hcur.1, by omega, hA, by rw [← hnx]; exact ptP_end hP e9⟩, ⟨dwl, g0, by omega, by omega⟩, hfr0, by omega⟩
        · refine lv_aload E.1 E.2.1 dX10_grown_123 (lv_at hl 4 rfl) ?_
          refine lv_aload_n E.1 E.2.1 dX10_grown_125 rfl (lv_at hl 0 rfl) ?_
          refine lv_iload_n E.1 E.2.1 dX10_grown_126 rfl (lv_at hl 3 rfl) ?_
          refine lv_iload E.1 E.2.1 dX10_grown_127 (lv_at hl 5 rfl) ?_
          refine fw_cS (As := [.int (iI x), .int (iI ↑i)]) (rest := [.ref a, .ref cur]) E hK hH hl fL_X10_isNumber ql_RX10_55 qs_yX10_isNumber (l_isNumber l G _ _ x i (by omega) (by omega)) rfl rfl (Nat.le_of_ble_eq_true rfl) ⟨Nat.le_of_ble_eq_true rfl, Nat.le_of_ble_eq_true rfl⟩ ⟨by show _ ≤ (7 : Nat); omega, by show _ ≤ (1208 : Nat); omega⟩ dX10_grown_129 (fw_ki fun r7 M6 H1 locs1 hp5 hH hz1 => ?_)
          obtain ⟨rfl, hM9, hz2⟩ := hp5
          have hnm35 := nmP_01 x i
          replace hz := hz2.trans hz
          clear hz1 hz2
          rw [hM9] at hH
          have hnm9 : nmP x i = 1 := by unfold nmP; exact if_pos (by omega)
          refine lv_iload_n E.1 E.2.1 dX10_grown_132 rfl (lv_at hl 2 rfl) ?_
          refine lv_iconst (v := iI 1) E.1 E.2.1 dX10_grown_133 (by decide) ?_
          refine fw_isub E dX10_grown_134 ?_
          refine fw_cv (y := iI (0)) (by decide) ?_
          refine fw_cV (As := [.int (iI (nmP x i)), .int (iI (0))]) (rest := [.ref cur]) E hK hH hl g0 fc_X10 fL_X10_grown ql_RX10_59 qi_yX10_grown qv_yX10_grown (l_grown0 l G _ _ a dwl (nmP x i) tr cs (by omega) (by omega) g0 (by omega) (by omega)) rfl rfl (Nat.le_of_ble_eq_true rfl) ⟨Nat.le_of_ble_eq_true rfl, Nat.le_of_ble_eq_true rfl⟩ ⟨by show _ ≤ (7 : Nat); omega, by show _ ≤ (1208 : Nat); omega⟩ dX10_grown_135 (fw_kr fun rg46 M9 H1 locs1 hp8 hH hz1 => ?_)
          obtain ⟨⟨ng46, fg46, hra46, hrb46, hR46, hpc46⟩, ⟨dwg46, hob46, hda46, hdb46⟩, hfr, hz2⟩ := hp8
          rw [hz] at hra46 hfr hz2
          obtain ⟨sz46, hsz46⟩ : ∃ y, y = H1.size := ⟨_, rfl⟩
          rw [← hsz46] at hrb46 hz2
          replace hz := hsz46.symm
          have hng46 := hpc46.n0
          clear hz1
          have fr10 := hfr
          replace hA : M9 cur = some (fI G (2 * n) (fun j0 => iI (h j0))) := (fr10 _ (by omega)).trans hA
          refine fw_cS (As := [.ref cur, .ref rg46]) (rest := []) E hK hH hl fL_X10_joined ql_RX10_63 qs_yX10_joined (l_joined l G _ _ cur rg46 (2 * n) (2 * ng46) h fg46 hA hR46 (by omega) (by omega) (by omega) (by omega)) rfl rfl (Nat.le_of_ble_eq_true rfl) ⟨Nat.le_of_ble_eq_true rfl, Nat.le_of_ble_eq_true rfl⟩ ⟨by show _ ≤ (7 : Nat); omega, by show _ ≤ (1208 : Nat); omega⟩ dX10_grown_138 (fw_kr fun rj56 M12 H1 locs1 hp11 hH hz1 => ?_)
          obtain ⟨hr9, ⟨hj56, hJ56, hja56, hjb56⟩, hfr, hz2⟩ := hp11
          rw [hz] at hr9 hJ56 hfr hz2
          rw [hr9]
          replace hz : H1.size = sz46 + 1 := by omega
          clear hz1 hz2
          have fr13 := hfr
          replace hA : M12 cur = some (fI G (2 * n) (fun j0 => iI (h j0))) := (fr13 _ (by omega)).trans hA
          replace hob46 : M12 a = some (.inr (10, [.ref (a + 1), .ref (G.2.2.2.2 3), .int (iI ↑dwg46), .int (iI tr), .ref (a + 379), .int (iI cs), .ref (a + 380)])) := (fr13 _ (by omega)).trans hob46
          replace hR46 : M12 rg46 = some (fI G (2 * ng46) (fun j0 => iI (fg46 j0))) := (fr13 _ (by omega)).trans hR46
          refine lv_astore (lv' := [(4, .ref sz46), (0, .ref a), (1, .int (iI b)), (2, .int (iI 1)), (3, .int (iI x)), (5, .int (iI ↑i))]) E.1 E.2.1 dX10_grown_141 hl (by decide) rfl (fun ls hl => ?_)
          refine lv_iinc (v := iI (↑i + 1)) (lv' := [(5, .int (iI (↑i + 1))), (4, .ref sz46), (0, .ref a), (1, .int (iI b)), (2, .int (iI 1)), (3, .int (iI x))]) E.1 E.2.1 dX10_grown_143 hl (k := 5) rfl (iI_inc rfl) (by decide) rfl (fun ls hl => ?_)
          refine lv_goto (tgt := 114) E.1 E.2.1 dX10_grown_146 (by decide) ?_
          refine W.widen (k := 1 + (i + 1) * 2) (n := 2 + (i + 1) * 402) (by omega) (by omega) ?_
          exact ih114 (i + 1) (n + ng46) sz46 hj56 dwg46 (sz46 + 1) _ _ _ _ (by omega) (by omega) (ptP_step hP hpc46 hja56 hjb56) (by omega) (by omega) (fun q hq => by rw [fr13 q (by omega), fr10 q (by omega)]; exact hfr0 q hq) hH (by omega) hob46 (by rw [show 2 * (n + ng46) = 2 * n + 2 * ng46 by omega]; exact hJ56) (lv_sub hl [2, 3, 4, 5, 1, 0] rfl)
    refine W.widen (k := 1 + 0 * 2) (n := 2 + 0 * 402) (by omega) (by omega) ?_
    exact loop114_1 (arN x - 0 + 1) 0 1 N f dwj (N + 1) _ _ _ _ (Nat.lt_succ_self _) (Nat.zero_le _) (ptP_0 hf0 hf1 hnv) (by omega) (by omega) hfr0 hH (by omega) g0 hA (lv_sub hl [1, 2, 3, 4, 5, 0] rfl)
  refine lv_iload_n E.1 E.2.1 dX10_grown_0 rfl (lv_at hl 1 rfl) ?_
  refine fw_if_eq (tgt := 36) E dX10_grown_1 (by decide) (by omega) (by omega) (fun c14 => ?_) (fun c14 => ?_)
  · refine lv_iload_n E.1 E.2.1 dX10_grown_36 rfl (lv_at hl 2 rfl) ?_
    refine lv_iconst (v := iI 3) E.1 E.2.1 dX10_grown_37 (by decide) ?_
    refine fw_icmp_lt (tgt := 49) E dX10_grown_38 (by decide) (by omega) (by omega) (by omega) (by omega) (fun c15 => ?_) (fun c15 => ?_)
    · refine lv_bipush (v := iI 9) E.1 E.2.1 dX10_grown_49 (by decide) ?_
      refine lv_aload_n E.1 E.2.1 dX10_grown_51 rfl (lv_at hl 0 rfl) ?_
      refine lv_iconst (v := iI 2) E.1 E.2.1 dX10_grown_52 (by decide) ?_
      refine fw_cV (As := [.int (iI 2)]) (rest := [.int (iI 9)]) E hK hH hl g0 fc_X10 fL_X10_draw ql_RX10_48 qi_yX10_draw qv_yX10_draw (l_draw l G _ _ a dw 2 tr cs (by omega) g0 (by omega) (by omega)) rfl rfl (Nat.le_of_ble_eq_true rfl) ⟨Nat.le_of_ble_eq_true rfl, Nat.le_of_ble_eq_true rfl⟩ ⟨by show _ ≤ (7 : Nat); omega, by show _ ≤ (1208 : Nat); omega⟩ dX10_grown_53 (fw_ki fun r18 M17 H1 locs1 hp16 hH hz1 => ?_)
      obtain ⟨⟨kr81, rfl, hkr81⟩, hob81, hfr, hz2⟩ := hp16
      replace hz := hz2.trans hz
      clear hz1 hz2
      have fr19 := hfr
      refine fw_iadd E dX10_grown_56 ?_
      refine lv_goto (tgt := 68) E.1 E.2.1 dX10_grown_57 (by decide) ?_
      refine lv_istore_n (lv' := [(3, .int (iI (9 + (↑kr81)))), (0, .ref a), (1, .int (iI b)), (2, .int (iI 1))]) E.1 E.2.1 dX10_grown_68 rfl hl (by decide) rfl (fun ls hl => ?_)
      refine lv_iconst (v := iI 2) E.1 E.2.1 dX10_grown_69 (by decide) ?_
      refine fw_newI (N := 2) E hK hH hz qa_int (by decide) (by decide) (by decide) ⟨by show _ ≤ (7 : Nat); omega, by show _ ≤ (1208 : Nat); omega⟩ dX10_grown_70 (fun H1 hH hz1 => ?_)
      replace hz : H1.size = N + 1 := by omega
      clear hz1
      obtain ⟨M20, hM21⟩ : ∃ MX, MX = fw_up M17 N (fI G 2 (fun j0 => iI (z0 j0))) := ⟨_, rfl⟩
      replace hH := fw_H.nm hM21 hH
      have fr22 : ∀ q, q ≠ N → M20 q = M17 q := fun q h => by rw [hM21]; exact fw_up_ne h
      replace hob81 : M20 a = some (.inr (10, [.ref (a + 1), .ref (G.2.2.2.2 3), .int (iI (↑(dw + 1))), .int (iI tr), .ref (a + 379), .int (iI cs), .ref (a + 380)])) := (fr22 _ (by omega)).trans hob81
      have hn0 : M20 N = some (fI G 2 (fun j0 => iI (z0 j0))) := by rw [hM21]; exact fw_up_eq
      refine lv_dup E.1 E.2.1 dX10_grown_72 rfl ?_
      refine lv_iconst (v := iI 0) E.1 E.2.1 dX10_grown_73 (by decide) ?_
      refine lv_iload_n E.1 E.2.1 dX10_grown_74 rfl (lv_at hl 0 rfl) ?_
      refine fw_iast E hK hH (by omega) hn0 (iI_in (by omega) (by omega) (by omega)) dX10_grown_75 (fun H1 locs1 hH hz1 => ?_)
      replace hz := hz1.trans hz; clear hz1
      rw [show upd (fun j0 => iI (z0 j0)) (iI (0)).toNatClampNeg (iI (9 + (↑kr81))) = fun j0 => iI ((zup z0 (0) (9 + (↑kr81))) j0) from by rw [iI_ix (by omega) (by omega)]; exact zup_upd _ _ _] at hH
      obtain ⟨M23, hM24⟩ : ∃ MX, MX = fw_up M20 N (fI G 2 (fun j0 => iI ((zup z0 (0) (9 + (↑kr81))) j0))) := ⟨_, rfl⟩
      replace hH := fw_H.nm hM24 hH
      have fr25 : ∀ q, q ≠ N → M23 q = M20 q := fun q h => by rw [hM24]; exact fw_up_ne h
      replace hob81 : M23 a = some (.inr (10, [.ref (a + 1), .ref (G.2.2.2.2 3), .int (iI (↑(dw + 1))), .int (iI tr), .ref (a + 379), .int (iI cs), .ref (a + 380)])) := (fr25 _ (by omega)).trans hob81
      have hn0 : M23 N = some (fI G 2 (fun j0 => iI ((zup z0 (0) (9 + (↑kr81))) j0))) := by rw [hM24]; exact fw_up_eq
      refine lv_dup E.1 E.2.1 dX10_grown_76 rfl ?_
      refine lv_iconst (v := iI 1) E.1 E.2.1 dX10_grown_77 (by decide) ?_
      refine lv_iload_n E.1 E.2.1 dX10_grown_78 rfl (lv_at hl 0 rfl) ?_
      refine fw_if_ne (tgt := 94) E dX10_grown_79 (by decide) (by omega) (by omega) (fun c26 => ?_) (fun c26 => ?_)
      · refine lv_iload_n E.1 E.2.1 dX10_grown_94 rfl (lv_at hl 0 rfl) ?_
        refine lv_iconst (v := iI 1) E.1 E.2.1 dX10_grown_95 (by decide) ?_
        refine fw_icmp_ne (tgt := 107) E dX10_grown_96 (by decide) (by omega) (by omega) (by omega) (by omega) (fun c27 => ?_) (fun c27 => ?_)
        · refine lv_iconst (v := iI 0) E.1 E.2.1 dX10_grown_107 (by decide) ?_
          refine fw_iast E hK hH (by omega) hn0 (iI_in (by omega) (by omega) (by omega)) dX10_grown_108 (fun H1 locs1 hH hz1 => ?_)
          replace hz := hz1.trans hz; clear hz1
          rw [show upd (fun j0 => iI ((zup z0 (0) (9 + (↑kr81))) j0)) (iI (1)).toNatClampNeg (iI (0)) = fun j0 => iI ((zup (zup z0 (0) (9 + (↑kr81))) (1) (0)) j0) from by rw [iI_ix (by omega) (by omega)]; exact zup_upd _ _ _] at hH
          obtain ⟨M28, hM29⟩ : ∃ MX, MX = fw_up M23 N (fI G 2 (fun j0 => iI ((zup (zup z0 (0) (9 + (↑kr81))) (1) (0)) j0))) := ⟨_, rfl⟩
          replace hH := fw_H.nm hM29 hH
          have fr30 : ∀ q, q ≠ N → M28 q = M23 q := fun q h => by rw [hM29]; exact fw_up_ne h
          replace hob81 : M28 a = some (.inr (10, [.ref (a + 1), .ref (G.2.2.2.2 3), .int (iI (↑(dw + 1))), .int (iI tr), .ref (a + 379), .int (iI cs), .ref (a + 380)])) := (fr30 _ (by omega)).trans hob81
          have hn0 : M28 N = some (fI G 2 (fun j0 => iI ((zup (zup z0 (0) (9 + (↑kr81))) (1) (0)) j0))) := by rw [hM29]; exact fw_up_eq
          refine lv_astore (lv' := [(4, .ref N), (3, .int (iI (9 + (↑kr81)))), (0, .ref a), (1, .int (iI b)), (2, .int (iI 1))]) E.1 E.2.1 dX10_grown_109 hl (by decide) rfl (fun ls hl => ?_)
          exact join111 (9 + (↑kr81)) 0 (dw + 1) (zup (zup z0 (0) (9 + (↑kr81))) (1) (0)) _ _ _ _ ⟨(by omega), (fun _ => by omega), (fun _ => by omega), (fun _ => by omega)⟩ (by unfold numI; (repeat' split) <;> omega) (by omega) (by first | rfl | (rw [zup_ne (by omega), zup_eq])) zup_eq (by omega) (fun q hq => by rw [fr30 q (by omega), fr25 q (by omega), fr22 q (by omega), fr19 q (by omega)]) hH (by omega) hob81 hn0 (lv_sub hl [2, 3, 4, 1, 0] rfl)
        · refine lv_aload_n E.1 E.2.1 dX10_grown_99 rfl (lv_at hl 1 rfl) ?_
          refine lv_iconst (v := iI 3) E.1 E.2.1 dX10_grown_100 (by decide) ?_
          refine fw_cV (As := [.int (iI 3)]) (rest := [.int (iI 1), .ref N, .ref N]) E hK hH hl hob81 fc_X10 fL_X10_draw ql_RX10_48 qi_yX10_draw qv_yX10_draw (l_draw l G _ _ a (dw + 1) 3 tr cs (by omega) hob81 (by omega) (by omega)) rfl rfl (Nat.le_of_ble_eq_true rfl) ⟨Nat.le_of_ble_eq_true rfl, Nat.le_of_ble_eq_true rfl⟩ ⟨by show _ ≤ (7 : Nat); omega, by show _ ≤ (1208 : Nat); omega⟩ dX10_grown_101 (fw_ki fun r33 M32 H1 locs1 hp31 hH hz1 => ?_)
          obtain ⟨⟨kr129, rfl, hkr129⟩, hob129, hfr, hz2⟩ := hp31
          replace hz := hz2.trans hz
          clear hz1 hz2
          have fr34 := hfr
          replace hn0 : M32 N = some (fI G 2 (fun j0 => iI ((zup z0 (0) (9 + (↑kr81))) j0))) := (fr34 _ (by omega)).trans hn0
          refine lv_goto (tgt := 108) E.1 E.2.1 dX10_grown_104 (by decide) ?_
          refine fw_iast E hK hH (by omega) hn0 (iI_in (by omega) (by omega) (by omega)) dX10_grown_108 (fun H1 locs1 hH hz1 => ?_)
          replace hz := hz1.trans hz; clear hz1
          rw [show upd (fun j0 => iI ((zup z0 (0) (9 + (↑kr81))) j0)) (iI (1)).toNatClampNeg (iI (↑kr129)) = fun j0 => iI ((zup (zup z0 (0) (9 + (↑kr81))) (1) (↑kr129)) j0) from by rw [iI_ix (by omega) (by omega)]; exact zup_upd _ _ _] at hH
          obtain ⟨M35, hM36⟩ : ∃ MX, MX = fw_up M32 N (fI G 2 (fun j0 => iI ((zup (zup z0 (0) (9 + (↑kr81))) (1) (↑kr129)) j0))) := ⟨_, rfl⟩
          replace hH := fw_H.nm hM36 hH
          have fr37 : ∀ q, q ≠ N → M35 q = M32 q := fun q h => by rw [hM36]; exact fw_up_ne h
          replace hob129 : M35 a = some (.inr (10, [.ref (a + 1), .ref (G.2.2.2.2 3), .int (iI (↑((dw + 1) + 1))), .int (iI tr), .ref (a + 379), .int (iI cs), .ref (a + 380)])) := (fr37 _ (by omega)).trans hob129
          have hn0 : M35 N = some (fI G 2 (fun j0 => iI ((zup (zup z0 (0) (9 + (↑kr81))) (1) (↑kr129)) j0))) := by rw [hM36]; exact fw_up_eq
          refine lv_astore (lv' := [(4, .ref N), (3, .int (iI (9 + (↑kr81)))), (0, .ref a), (1, .int (iI b)), (2, .int (iI 1))]) E.1 E.2.1 dX10_grown_109 hl (by decide) rfl (fun ls hl => ?_)
          exact join111 (9 + (↑kr81)) ↑kr129 ((dw + 1) + 1) (zup (zup z0 (0) (9 + (↑kr81))) (1) (↑kr129)) _ _ _ _ ⟨(by omega), (fun _ => by omega), (fun _ => by omega), (fun _ => by omega)⟩ (by unfold numI; (repeat' split) <;> omega) (by omega) (by first | rfl | (rw [zup_ne (by omega), zup_eq])) zup_eq (by omega) (fun q hq => by rw [fr37 q (by omega), fr34 q (by omega), fr25 q (by omega), fr22 q (by omega), fr19 q (by omega)]) hH (by omega) hob129 hn0 (lv_sub hl [2, 3, 4, 1, 0] rfl)
      · refine lv_aload_n E.1 E.2.1 dX10_grown_82 rfl (lv_at hl 1 rfl) ?_
        refine lv_bipush (v := iI 25) E.1 E.2.1 dX10_grown_83 (by decide) ?_
        refine fw_cV (As := [.int (iI 25)]) (rest := [.int (iI 1), .ref N, .ref N]) E hK hH hl hob81 fc_X10 fL_X10_draw ql_RX10_48 qi_yX10_draw qv_yX10_draw (l_draw l G _ _ a (dw + 1) 25 tr cs (by omega) hob81 (by omega) (by omega)) rfl rfl (Nat.le_of_ble_eq_true rfl) ⟨Nat.le_of_ble_eq_true rfl, Nat.le_of_ble_eq_true rfl⟩ ⟨by show _ ≤ (7 : Nat); omega, by show _ ≤ (1208 : Nat); omega⟩ dX10_grown_85 (fw_ki fun r40 M39 H1 locs1 hp38 hH hz1 => ?_)
        obtain ⟨⟨kr148, rfl, hkr148⟩, hob148, hfr, hz2⟩ := hp38
        replace hz := hz2.trans hz
        clear hz1 hz2
        have fr41 := hfr
        replace hn0 : M39 N = some (fI G 2 (fun j0 => iI ((zup z0 (0) (9 + (↑kr81))) j0))) := (fr41 _ (by omega)).trans hn0
        refine lv_bipush (v := iI 8) E.1 E.2.1 dX10_grown_88 (by decide) ?_
        refine fw_isub E dX10_grown_90 ?_
        refine lv_goto (tgt := 108) E.1 E.2.1 dX10_grown_91 (by decide) ?_
        refine fw_iast E hK hH (by omega) hn0 (iI_in (by omega) (by omega) (by omega)) dX10_grown_108 (fun H1 locs1 hH hz1 => ?_)
        replace hz := hz1.trans hz; clear hz1
        rw [show upd (fun j0 => iI ((zup z0 (0) (9 + (↑kr81))) j0)) (iI (1)).toNatClampNeg (iI ((↑kr148) - 8)) = fun j0 => iI ((zup (zup z0 (0) (9 + (↑kr81))) (1) ((↑kr148) - 8)) j0) from by rw [iI_ix (by omega) (by omega)]; exact zup_upd _ _ _] at hH
        obtain ⟨M42, hM43⟩ : ∃ MX, MX = fw_up M39 N (fI G 2 (fun j0 => iI ((zup (zup z0 (0) (9 + (↑kr81))) (1) ((↑kr148) - 8)) j0))) := ⟨_, rfl⟩
        replace hH := fw_H.nm hM43 hH
        have fr44 : ∀ q, q ≠ N → M42 q = M39 q := fun q h => by rw [hM43]; exact fw_up_ne h
        replace hob148 : M42 a = some (.inr (10, [.ref (a + 1), .ref (G.2.2.2.2 3), .int (iI (↑((dw + 1) + 1))), .int (iI tr), .ref (a + 379), .int (iI cs), .ref (a + 380)])) := (fr44 _ (by omega)).trans hob148
        have hn0 : M42 N = some (fI G 2 (fun j0 => iI ((zup (zup z0 (0) (9 + (↑kr81))) (1) ((↑kr148) - 8)) j0))) := by rw [hM43]; exact fw_up_eq
        refine lv_astore (lv' := [(4, .ref N), (3, .int (iI (9 + (↑kr81)))), (0, .ref a), (1, .int (iI b)), (2, .int (iI 1))]) E.1 E.2.1 dX10_grown_109 hl (by decide) rfl (fun ls hl => ?_)
        exact join111 (9 + (↑kr81)) ((↑kr148) - 8) ((dw + 1) + 1) (zup (zup z0 (0) (9 + (↑kr81))) (1) ((↑kr148) - 8)) _ _ _ _ ⟨(by omega), (fun _ => by omega), (fun _ => by omega), (fun _ => by omega)⟩ (by unfold numI; (repeat' split) <;> omega) (by omega) (by first | rfl | (rw [zup_ne (by omega), zup_eq])) zup_eq (by omega) (fun q hq => by rw [fr44 q (by omega), fr41 q (by omega), fr25 q (by omega), fr22 q (by omega), fr19 q (by omega)]) hH (by omega) hob148 hn0 (lv_sub hl [2, 3, 4, 1, 0] rfl)
    · exact absurd c15 (by omega)
  · refine lv_iload_n E.1 E.2.1 dX10_grown_4 rfl (lv_at hl 2 rfl) ?_
    refine lv_iconst (v := iI 2) E.1 E.2.1 dX10_grown_5 (by decide) ?_
    refine fw_icmp_lt (tgt := 17) E dX10_grown_6 (by decide) (by omega) (by omega) (by omega) (by omega) (fun c45 => ?_) (fun c45 => ?_)
    · refine lv_aload_n E.1 E.2.1 dX10_grown_17 rfl (lv_at hl 0 rfl) ?_
      refine lv_iconst (v := iI 2) E.1 E.2.1 dX10_grown_18 (by decide) ?_
      refine fw_cV (As := [.int (iI 2)]) (rest := []) E hK hH hl g0 fc_X10 fL_X10_draw ql_RX10_48 qi_yX10_draw qv_yX10_draw (l_draw l G _ _ a dw 2 tr cs (by omega) g0 (by omega) (by omega)) rfl rfl (Nat.le_of_ble_eq_true rfl) ⟨Nat.le_of_ble_eq_true rfl, Nat.le_of_ble_eq_true rfl⟩ ⟨by show _ ≤ (7 : Nat); omega, by show _ ≤ (1208 : Nat); omega⟩ dX10_grown_19 (fw_ki fun r48 M47 H1 locs1 hp46 hH hz1 => ?_)
      obtain ⟨⟨kr173, rfl, hkr173⟩, hob173, hfr, hz2⟩ := hp46
      replace hz := hz2.trans hz
      clear hz1 hz2
      have fr49 := hfr
      refine lv_goto (tgt := 68) E.1 E.2.1 dX10_grown_22 (by decide) ?_
      refine lv_istore_n (lv' := [(3, .int (iI ↑kr173)), (0, .ref a), (1, .int (iI b)), (2, .int (iI 1))]) E.1 E.2.1 dX10_grown_68 rfl hl (by decide) rfl (fun ls hl => ?_)
      refine lv_iconst (v := iI 2) E.1 E.2.1 dX10_grown_69 (by decide) ?_
      refine fw_newI (N := 2) E hK hH hz qa_int (by decide) (by decide) (by decide) ⟨by show _ ≤ (7 : Nat); omega, by show _ ≤ (1208 : Nat); omega⟩ dX10_grown_70 (fun H1 hH hz1 => ?_)
      replace hz : H1.size = N + 1 := by omega
      clear hz1
      obtain ⟨M50, hM51⟩ : ∃ MX, MX = fw_up M47 N (fI G 2 (fun j0 => iI (z0 j0))) := ⟨_, rfl⟩
      replace hH := fw_H.nm hM51 hH
      have fr52 : ∀ q, q ≠ N → M50 q = M47 q := fun q h => by rw [hM51]; exact fw_up_ne h
      replace hob173 : M50 a = some (.inr (10, [.ref (a + 1), .ref (G.2.2.2.2 3), .int (iI (↑(dw + 1))), .int (iI tr), .ref (a + 379), .int (iI cs), .ref (a + 380)])) := (fr52 _ (by omega)).trans hob173
      have hn0 : M50 N = some (fI G 2 (fun j0 => iI (z0 j0))) := by rw [hM51]; exact fw_up_eq
      refine lv_dup E.1 E.2.1 dX10_grown_72 rfl ?_
      refine lv_iconst (v := iI 0) E.1 E.2.1 dX10_grown_73 (by decide) ?_
      refine lv_iload_n E.1 E.2.1 dX10_grown_74 rfl (lv_at hl 0 rfl) ?_
      refine fw_iast E hK hH (by omega) hn0 (iI_in (by omega) (by omega) (by omega)) dX10_grown_75 (fun H1 locs1 hH hz1 => ?_)
      replace hz := hz1.trans hz; clear hz1
      rw [show upd (fun j0 => iI (z0 j0)) (iI (0)).toNatClampNeg (iI (↑kr173)) = fun j0 => iI ((zup z0 (0) (↑kr173)) j0) from by rw [iI_ix (by omega) (by omega)]; exact zup_upd _ _ _] at hH
      obtain ⟨M53, hM54⟩ : ∃ MX, MX = fw_up M50 N (fI G 2 (fun j0 => iI ((zup z0 (0) (↑kr173)) j0))) := ⟨_, rfl⟩
      replace hH := fw_H.nm hM54 hH
      have fr55 : ∀ q, q ≠ N → M53 q = M50 q := fun q h => by rw [hM54]; exact fw_up_ne h
      replace hob173 : M53 a = some (.inr (10, [.ref (a + 1), .ref (G.2.2.2.2 3), .int (iI (↑(dw + 1))), .int (iI tr), .ref (a + 379), .int (iI cs), .ref (a + 380)])) := (fr55 _ (by omega)).trans hob173
      have hn0 : M53 N = some (fI G 2 (fun j0 => iI ((zup z0 (0) (↑kr173)) j0))) := by rw [hM54]; exact fw_up_eq
      refine lv_dup E.1 E.2.1 dX10_grown_76 rfl ?_
      refine lv_iconst (v := iI 1) E.1 E.2.1 dX10_grown_77 (by decide) ?_
      refine lv_iload_n E.1 E.2.1 dX10_grown_78 rfl (lv_at hl 0 rfl) ?_
      refine fw_if_ne (tgt := 94) E dX10_grown_79 (by decide) (by omega) (by omega) (fun c56 => ?_) (fun c56 => ?_)
      · refine lv_iload_n E.1 E.2.1 dX10_grown_94 rfl (lv_at hl 0 rfl) ?_
        refine lv_iconst (v := iI 1) E.1 E.2.1 dX10_grown_95 (by decide) ?_
        refine fw_icmp_ne (tgt := 107) E dX10_grown_96 (by decide) (by omega) (by omega) (by omega) (by omega) (fun c57 => ?_) (fun c57 => ?_)
        · refine lv_iconst (v := iI 0) E.1 E.2.1 dX10_grown_107 (by decide) ?_
          refine fw_iast E hK hH (by omega) hn0 (iI_in (by omega) (by omega) (by omega)) dX10_grown_108 (fun H1 locs1 hH hz1 => ?_)
          replace hz := hz1.trans hz; clear hz1
          rw [show upd (fun j0 => iI ((zup z0 (0) (↑kr173)) j0)) (iI (1)).toNatClampNeg (iI (0)) = fun j0 => iI ((zup (zup z0 (0) (↑kr173)) (1) (0)) j0) from by rw [iI_ix (by omega) (by omega)]; exact zup_upd _ _ _] at hH
          obtain ⟨M58, hM59⟩ : ∃ MX, MX = fw_up M53 N (fI G 2 (fun j0 => iI ((zup (zup z0 (0) (↑kr173)) (1) (0)) j0))) := ⟨_, rfl⟩
          replace hH := fw_H.nm hM59 hH
          have fr60 : ∀ q, q ≠ N → M58 q = M53 q := fun q h => by rw [hM59]; exact fw_up_ne h
          replace hob173 : M58 a = some (.inr (10, [.ref (a + 1), .ref (G.2.2.2.2 3), .int (iI (↑(dw + 1))), .int (iI tr), .ref (a + 379), .int (iI cs), .ref (a + 380)])) := (fr60 _ (by omega)).trans hob173
          have hn0 : M58 N = some (fI G 2 (fun j0 => iI ((zup (zup z0 (0) (↑kr173)) (1) (0)) j0))) := by rw [hM59]; exact fw_up_eq
          refine lv_astore (lv' := [(4, .ref N), (3, .int (iI ↑kr173)), (0, .ref a), (1, .int (iI b)), (2, .int (iI 1))]) E.1 E.2.1 dX10_grown_109 hl (by decide) rfl (fun ls hl => ?_)
          exact join111 ↑kr173 0 (dw + 1) (zup (zup z0 (0) (↑kr173)) (1) (0)) _ _ _ _ ⟨(by omega), (fun _ => by omega), (fun _ => by omega), (fun _ => by omega)⟩ (by unfold numI; (repeat' split) <;> omega) (by omega) (by first | rfl | (rw [zup_ne (by omega), zup_eq])) zup_eq (by omega) (fun q hq => by rw [fr60 q (by omega), fr55 q (by omega), fr52 q (by omega), fr49 q (by omega)]) hH (by omega) hob173 hn0 (lv_sub hl [2, 3, 4, 1, 0] rfl)
        · refine lv_aload_n E.1 E.2.1 dX10_grown_99 rfl (lv_at hl 1 rfl) ?_
          refine lv_iconst (v := iI 3) E.1 E.2.1 dX10_grown_100 (by decide) ?_
          refine fw_cV (As := [.int (iI 3)]) (rest := [.int (iI 1), .ref N, .ref N]) E hK hH hl hob173 fc_X10 fL_X10_draw ql_RX10_48 qi_yX10_draw qv_yX10_draw (l_draw l G _ _ a (dw + 1) 3 tr cs (by omega) hob173 (by omega) (by omega)) rfl rfl (Nat.le_of_ble_eq_true rfl) ⟨Nat.le_of_ble_eq_true rfl, Nat.le_of_ble_eq_true rfl⟩ ⟨by show _ ≤ (7 : Nat); omega, by show _ ≤ (1208 : Nat); omega⟩ dX10_grown_101 (fw_ki fun r63 M62 H1 locs1 hp61 hH hz1 => ?_)
          obtain ⟨⟨kr220, rfl, hkr220⟩, hob220, hfr, hz2⟩ := hp61
          replace hz := hz2.trans hz
          clear hz1 hz2
          have fr64 := hfr
          replace hn0 : M62 N = some (fI G 2 (fun j0 => iI ((zup z0 (0) (↑kr173)) j0))) := (fr64 _ (by omega)).trans hn0
          refine lv_goto (tgt := 108) E.1 E.2.1 dX10_grown_104 (by decide) ?_
          refine fw_iast E hK hH (by omega) hn0 (iI_in (by omega) (by omega) (by omega)) dX10_grown_108 (fun H1 locs1 hH hz1 => ?_)
          replace hz := hz1.trans hz; clear hz1
          rw [show upd (fun j0 => iI ((zup z0 (0) (↑kr173)) j0)) (iI (1)).toNatClampNeg (iI (↑kr220)) = fun j0 => iI ((zup (zup z0 (0) (↑kr173)) (1) (↑kr220)) j0) from by rw [iI_ix (by omega) (by omega)]; exact zup_upd _ _ _] at hH
          obtain ⟨M65, hM66⟩ : ∃ MX, MX = fw_up M62 N (fI G 2 (fun j0 => iI ((zup (zup z0 (0) (↑kr173)) (1) (↑kr220)) j0))) := ⟨_, rfl⟩
          replace hH := fw_H.nm hM66 hH
          have fr67 : ∀ q, q ≠ N → M65 q = M62 q := fun q h => by rw [hM66]; exact fw_up_ne h
          replace hob220 : M65 a = some (.inr (10, [.ref (a + 1), .ref (G.2.2.2.2 3), .int (iI (↑((dw + 1) + 1))), .int (iI tr), .ref (a + 379), .int (iI cs), .ref (a + 380)])) := (fr67 _ (by omega)).trans hob220
          have hn0 : M65 N = some (fI G 2 (fun j0 => iI ((zup (zup z0 (0) (↑kr173)) (1) (↑kr220)) j0))) := by rw [hM66]; exact fw_up_eq
          refine lv_astore (lv' := [(4, .ref N), (3, .int (iI ↑kr173)), (0, .ref a), (1, .int (iI b)), (2, .int (iI 1))]) E.1 E.2.1 dX10_grown_109 hl (by decide) rfl (fun ls hl => ?_)
          exact join111 ↑kr173 ↑kr220 ((dw + 1) + 1) (zup (zup z0 (0) (↑kr173)) (1) (↑kr220)) _ _ _ _ ⟨(by omega), (fun _ => by omega), (fun _ => by omega), (fun _ => by omega)⟩ (by unfold numI; (repeat' split) <;> omega) (by omega) (by first | rfl | (rw [zup_ne (by omega), zup_eq])) zup_eq (by omega) (fun q hq => by rw [fr67 q (by omega), fr64 q (by omega), fr55 q (by omega), fr52 q (by omega), fr49 q (by omega)]) hH (by omega) hob220 hn0 (lv_sub hl [2, 3, 4, 1, 0] rfl)
      · refine lv_aload_n E.1 E.2.1 dX10_grown_82 rfl (lv_at hl 1 rfl) ?_
        refine lv_bipush (v := iI 25) E.1 E.2.1 dX10_grown_83 (by decide) ?_
        refine fw_cV (As := [.int (iI 25)]) (rest := [.int (iI 1), .ref N, .ref N]) E hK hH hl hob173 fc_X10 fL_X10_draw ql_RX10_48 qi_yX10_draw qv_yX10_draw (l_draw l G _ _ a (dw + 1) 25 tr cs (by omega) hob173 (by omega) (by omega)) rfl rfl (Nat.le_of_ble_eq_true rfl) ⟨Nat.le_of_ble_eq_true rfl, Nat.le_of_ble_eq_true rfl⟩ ⟨by show _ ≤ (7 : Nat); omega, by show _ ≤ (1208 : Nat); omega⟩ dX10_grown_85 (fw_ki fun r70 M69 H1 locs1 hp68 hH hz1 => ?_)
        obtain ⟨⟨kr239, rfl, hkr239⟩, hob239, hfr, hz2⟩ := hp68
        replace hz := hz2.trans hz
        clear hz1 hz2
        have fr71 := hfr
        replace hn0 : M69 N = some (fI G 2 (fun j0 => iI ((zup z0 (0) (↑kr173)) j0))) := (fr71 _ (by omega)).trans hn0
        refine lv_bipush (v := iI 8) E.1 E.2.1 dX10_grown_88 (by decide) ?_
        refine fw_isub E dX10_grown_90 ?_
        refine lv_goto (tgt := 108) E.1 E.2.1 dX10_grown_91 (by decide) ?_
        refine fw_iast E hK hH (by omega) hn0 (iI_in (by omega) (by omega) (by omega)) dX10_grown_108 (fun H1 locs1 hH hz1 => ?_)
        replace hz := hz1.trans hz; clear hz1
        rw [show upd (fun j0 => iI ((zup z0 (0) (↑kr173)) j0)) (iI (1)).toNatClampNeg (iI ((↑kr239) - 8)) = fun j0 => iI ((zup (zup z0 (0) (↑kr173)) (1) ((↑kr239) - 8)) j0) from by rw [iI_ix (by omega) (by omega)]; exact zup_upd _ _ _] at hH
        obtain ⟨M72, hM73⟩ : ∃ MX, MX = fw_up M69 N (fI G 2 (fun j0 => iI ((zup (zup z0 (0) (↑kr173)) (1) ((↑kr239) - 8)) j0))) := ⟨_, rfl⟩
        replace hH := fw_H.nm hM73 hH
        have fr74 : ∀ q, q ≠ N → M72 q = M69 q := fun q h => by rw [hM73]; exact fw_up_ne h
        replace hob239 : M72 a = some (.inr (10, [.ref (a + 1), .ref (G.2.2.2.2 3), .int (iI (↑((dw + 1) + 1))), .int (iI tr), .ref (a + 379), .int (iI cs), .ref (a + 380)])) := (fr74 _ (by omega)).trans hob239
        have hn0 : M72 N = some (fI G 2 (fun j0 => iI ((zup (zup z0 (0) (↑kr173)) (1) ((↑kr239) - 8)) j0))) := by rw [hM73]; exact fw_up_eq
        refine lv_astore (lv' := [(4, .ref N), (3, .int (iI ↑kr173)), (0, .ref a), (1, .int (iI b)), (2, .int (iI 1))]) E.1 E.2.1 dX10_grown_109 hl (by decide) rfl (fun ls hl => ?_)
        exact join111 ↑kr173 ((↑kr239) - 8) ((dw + 1) + 1) (zup (zup z0 (0) (↑kr173)) (1) ((↑kr239) - 8)) _ _ _ _ ⟨(by omega), (fun _ => by omega), (fun _ => by omega), (fun _ => by omega)⟩ (by unfold numI; (repeat' split) <;> omega) (by omega) (by first | rfl | (rw [zup_ne (by omega), zup_eq])) zup_eq (by omega) (fun q hq => by rw [fr74 q (by omega), fr71 q (by omega), fr55 q (by omega), fr52 q (by omega), fr49 q (by omega)]) hH (by omega) hob239 hn0 (lv_sub hl [2, 3, 4, 1, 0] rfl)
    · exact absurd c45 (by omega)

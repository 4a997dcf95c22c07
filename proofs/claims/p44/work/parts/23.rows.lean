def apF (n len s : Nat) (f g : Nat → Int) : Nat → Int := fun k => if n ≤ k ∧ k < n + len then g (s + (k - n)) else f k
theorem apF_0 (n s : Nat) (f g : Nat → Int) : apF n 0 s f g = f := by
  funext k
  unfold apF
  rw [if_neg (by omega)]
theorem apF_step {n s i : Nat} (h : s ≤ i) (f g : Nat → Int) : apF n (i + 1 - s) s f g = zup (apF n (i - s) s f g) (n + (i - s)) (g i) := by
  funext k
  unfold apF zup
  by_cases h1 : k = n + (i - s)
  · rw [if_pos h1, if_pos (by omega), show s + (k - n) = i by omega]
  · rw [if_neg h1]
    show _ = (if n ≤ k ∧ k < n + (i - s) then g (s + (k - n)) else f k)
    by_cases h2 : n ≤ k ∧ k < n + (i - s)
    · rw [if_pos h2, if_pos (by omega)]
    · rw [if_neg h2, if_neg (by omega)]
theorem apF_in {n len s : Nat} {f g : Nat → Int} {k : Nat} (h : k < len) : apF n len s f g (n + k) = g (s + k) := by
  unfold apF
  rw [if_pos (by omega), show s + (n + k - n) = s + k by omega]
theorem apF_lt {n len s : Nat} {f g : Nat → Int} {k : Nat} (h : k < n) : apF n len s f g k = f k := by
  unfold apF
  rw [if_neg (by omega)]
theorem k_appendFrom (l : Launch) (G : fw_G) (M : fw_M) (N : Nat) (a o : Nat) (cs vs ss hs : Nat → Int) (lv : Int) (cs2 vs2 ss2 hs2 : Nat → Int) (n2 lv2 : Int) (nN sN tN : Nat) (hT : trAt G M a cs vs ss hs ↑nN lv) (hO : trAt G M o cs2 vs2 ss2 hs2 n2 lv2) (hao : a + 5 ≤ o ∨ o + 5 ≤ a) (hst : sN ≤ tN) (ht : tN ≤ 40) (hn : nN + (tN - sN) ≤ 40) : fMet l yX8_appendFrom cX8_appendFrom 5 none 1 30 0 0 G M N [.ref a, .ref o, .int (iI ↑sN), .int (iI ↑tN)] (fw_pv (fun M1 n1 => trAt G M1 a (apF nN (tN - sN) sN cs cs2) (apF nN (tN - sN) sN vs vs2) ss hs ↑(nN + (tN - sN)) lv ∧ (∀ q, q < a ∨ a + 5 ≤ q → M1 q = M q) ∧ n1 = N)) := by
  refine fw_met RX8 rfl (by decide +kernel) (Nat.le_of_ble_eq_true rfl) ?_
  intro pG e s m args below meth cG ls E hr hlk hnm hK hH hz hl
  obtain ⟨hb, t0, t1, t2, t3, t4⟩ := hT
  obtain ⟨hb2, o0, o1, o2, o3, o4⟩ := hO
  refine lv_iload_n E.1 E.2.1 dX8_appendFrom_0 rfl (lv_at hl 2 rfl) ?_
  refine lv_istore (lv' := [(4, .int (iI ↑sN)), (0, .ref a), (1, .ref o), (2, .int (iI ↑sN)), (3, .int (iI ↑tN))]) E.1 E.2.1 dX8_appendFrom_1 hl (by decide) rfl (fun ls hl => ?_)
  have loop3_1 : ∀ (d3 : Nat) (i : Nat) (Mw3 : fw_M) (H : Heap) (locs : List Loc) (ls : Array Slot), tN - i < d3 → sN ≤ i → i ≤ tN → (∀ q, q < a ∨ a + 5 ≤ q → Mw3 q = M q) → fw_H G s Mw3 H locs → H.size = N → Mw3 a = some (.inr (8, [.ref (a + 1), .ref (a + 2), .ref (a + 3), .ref (a + 4), .int (iI (↑(nN + (i - sN)) : Int)), .int (iI lv)])) → Mw3 (a + 1) = some (fI G 40 (fun j0 => iI ((apF nN (i - sN) sN cs cs2) j0))) → Mw3 (a + 2) = some (fI G 40 (fun j0 => iI ((apF nN (i - sN) sN vs vs2) j0))) → Mw3 (a + 3) = some (fI G 40 (fun j0 => iI (ss j0))) → Mw3 (a + 4) = some (fI G 40 (fun j0 => iI (hs j0))) → Mw3 o = some (.inr (8, [.ref (o + 1), .ref (o + 2), .ref (o + 3), .ref (o + 4), .int (iI n2), .int (iI lv2)])) → Mw3 (o + 1) = some (fI G 40 (fun j0 => iI (cs2 j0))) → Mw3 (o + 2) = some (fI G 40 (fun j0 => iI (vs2 j0))) → Mw3 (o + 3) = some (fI G 40 (fun j0 => iI (ss2 j0))) → Mw3 (o + 4) = some (fI G 40 (fun j0 => iI (hs2 j0))) → lv_has ls 5 [(0, .ref a), (1, .ref o), (2, .int (iI ↑sN)), (3, .int (iI ↑tN)), (4, .int (iI ↑i))] → W pG l e ({ frames := 1, cells := 0, slots := 0, locals := 30 } : Room) s m args below meth cG H locs (0) (0) (MQ below (fw_Q G (fw_pv (fun M1 n1 => trAt G M1 a (apF nN (tN - sN) sN cs cs2) (apF nN (tN - sN) sN vs vs2) ss hs ↑(nN + (tN - sN)) lv ∧ (∀ q, q < a ∨ a + 5 ≤ q → M1 q = M q) ∧ n1 = N))) args s 0 0 (fun q => G.2.2.1 ≤ q)) (F0 m 3 ls []) := by
    intro d3
    induction d3 with
    | zero => intro i Mw3 H locs ls hd; exact absurd hd (Nat.not_lt_zero _)
    | succ d3 ih3 =>
      intro i Mw3 H locs ls hd3 i1 i2 hfr0 hH hz t0 t1 t2 t3 t4 o0 o1 o2 o3 o4 hl
      refine lv_iload E.1 E.2.1 dX8_appendFrom_3 (lv_at hl 4 rfl) ?_
      refine lv_iload_n E.1 E.2.1 dX8_appendFrom_5 rfl (lv_at hl 3 rfl) ?_
      refine fw_icmp_ge (tgt := 65) E dX8_appendFrom_6 (by decide) (by omega) (by omega) (by omega) (by omega) (fun c1 => ?_) (fun c1 => ?_)
      · refine fw_vret E hr hlk hH ?_ dX8_appendFrom_65
        have e9 : i = tN := by omega
        subst e9
        exact ⟨⟨hb, t0, t1, t2, t3, t4⟩, hfr0, hz⟩
      · refine lv_aload_n E.1 E.2.1 dX8_appendFrom_9 rfl (lv_at hl 0 rfl) ?_
        refine fw_get E hK hH t0 fc_X8 0 (by decide) ql_RX8_9 rfl rfl dX8_appendFrom_10 ?_
        refine lv_aload_n E.1 E.2.1 dX8_appendFrom_13 rfl (lv_at hl 0 rfl) ?_
        refine fw_get E hK hH t0 fc_X8 4 (by decide) ql_RX8_41 rfl rfl dX8_appendFrom_14 ?_
        refine lv_aload_n E.1 E.2.1 dX8_appendFrom_17 rfl (lv_at hl 1 rfl) ?_
        refine fw_get E hK hH o0 fc_X8 0 (by decide) ql_RX8_9 rfl rfl dX8_appendFrom_18 ?_
        refine lv_iload E.1 E.2.1 dX8_appendFrom_21 (lv_at hl 4 rfl) ?_
        refine fw_cSN (As := [.ref (o + 1), .int (iI ↑i)]) (rest := [.int (iI (↑(nN + (i - sN)) : Int)), .ref (a + 1)]) E hK hH hl fL_X9_at ql_RX8_24 qs_yX9_at (k_at l G _ _ (o + 1) 40 cs2 ↑i i o1 (by omega) (by omega) (by omega)) rfl rfl (Nat.le_of_ble_eq_true rfl) ⟨Nat.le_of_ble_eq_true rfl, Nat.le_of_ble_eq_true rfl⟩ ⟨Nat.le_of_ble_eq_true rfl, Nat.le_of_ble_eq_true rfl⟩ dX8_appendFrom_23 (fw_ki fun r4 M3 H1 locs1 hp2 hH hz1 => ?_)
        obtain ⟨rfl, hM9, hz2⟩ := hp2
        replace hz := hz2.trans hz
        clear hz1 hz2
        rw [hM9] at hH
        refine fw_cSN (As := [.ref (a + 1), .int (iI (↑(nN + (i - sN)) : Int)), .int (iI (cs2 i))]) (rest := []) E hK hH hl fL_X9_put ql_RX8_55 qs_yX9_put (k_put l G _ _ (a + 1) 40 (apF nN (i - sN) sN cs cs2) (↑(nN + (i - sN)) : Int) (nN + (i - sN)) (cs2 i) t1 (by omega) (by omega) (by omega) (by omega)) rfl rfl (Nat.le_of_ble_eq_true rfl) ⟨Nat.le_of_ble_eq_true rfl, Nat.le_of_ble_eq_true rfl⟩ ⟨Nat.le_of_ble_eq_true rfl, Nat.le_of_ble_eq_true rfl⟩ dX8_appendFrom_26 (fw_kv fun M6 H1 locs1 hp5 hH hz1 => ?_)
        obtain ⟨hM8, hz2⟩ := hp5
        have hfr : ∀ q, q ≠ a + 1 → M6 q = Mw3 q := fun q h => by rw [hM8]; exact fw_up_ne h
        have t1 : M6 (a + 1) = some (fI G 40 (fun j0 => iI ((zup (apF nN (i - sN) sN cs cs2) (nN + (i - sN)) (cs2 i)) j0))) := by rw [hM8]; exact fw_up_eq
        replace hz := hz2.trans hz
        clear hz1 hz2
        have fr7 := hfr
        replace t0 : M6 a = some (.inr (8, [.ref (a + 1), .ref (a + 2), .ref (a + 3), .ref (a + 4), .int (iI (↑(nN + (i - sN)) : Int)), .int (iI lv)])) := (fr7 _ (by omega)).trans t0
        replace t2 : M6 (a + 2) = some (fI G 40 (fun j0 => iI ((apF nN (i - sN) sN vs vs2) j0))) := (fr7 _ (by omega)).trans t2
        replace t3 : M6 (a + 3) = some (fI G 40 (fun j0 => iI (ss j0))) := (fr7 _ (by omega)).trans t3
        replace t4 : M6 (a + 4) = some (fI G 40 (fun j0 => iI (hs j0))) := (fr7 _ (by omega)).trans t4
        replace o0 : M6 o = some (.inr (8, [.ref (o + 1), .ref (o + 2), .ref (o + 3), .ref (o + 4), .int (iI n2), .int (iI lv2)])) := (fr7 _ (by omega)).trans o0
        replace o1 : M6 (o + 1) = some (fI G 40 (fun j0 => iI (cs2 j0))) := (fr7 _ (by omega)).trans o1
        replace o2 : M6 (o + 2) = some (fI G 40 (fun j0 => iI (vs2 j0))) := (fr7 _ (by omega)).trans o2
        replace o3 : M6 (o + 3) = some (fI G 40 (fun j0 => iI (ss2 j0))) := (fr7 _ (by omega)).trans o3
        replace o4 : M6 (o + 4) = some (fI G 40 (fun j0 => iI (hs2 j0))) := (fr7 _ (by omega)).trans o4
        refine lv_aload_n E.1 E.2.1 dX8_appendFrom_29 rfl (lv_at hl 0 rfl) ?_
        refine fw_get E hK hH t0 fc_X8 1 (by decide) ql_RX8_15 rfl rfl dX8_appendFrom_30 ?_
        refine lv_aload_n E.1 E.2.1 dX8_appendFrom_33 rfl (lv_at hl 0 rfl) ?_
        refine fw_get E hK hH t0 fc_X8 4 (by decide) ql_RX8_41 rfl rfl dX8_appendFrom_34 ?_
        refine lv_aload_n E.1 E.2.1 dX8_appendFrom_37 rfl (lv_at hl 1 rfl) ?_
        refine fw_get E hK hH o0 fc_X8 1 (by decide) ql_RX8_15 rfl rfl dX8_appendFrom_38 ?_
        refine lv_iload E.1 E.2.1 dX8_appendFrom_41 (lv_at hl 4 rfl) ?_
        refine fw_cSN (As := [.ref (o + 2), .int (iI ↑i)]) (rest := [.int (iI (↑(nN + (i - sN)) : Int)), .ref (a + 2)]) E hK hH hl fL_X9_at ql_RX8_24 qs_yX9_at (k_at l G _ _ (o + 2) 40 vs2 ↑i i o2 (by omega) (by omega) (by omega)) rfl rfl (Nat.le_of_ble_eq_true rfl) ⟨Nat.le_of_ble_eq_true rfl, Nat.le_of_ble_eq_true rfl⟩ ⟨Nat.le_of_ble_eq_true rfl, Nat.le_of_ble_eq_true rfl⟩ dX8_appendFrom_43 (fw_ki fun r10 M9 H1 locs1 hp8 hH hz1 => ?_)
        obtain ⟨rfl, hM9, hz2⟩ := hp8
        replace hz := hz2.trans hz
        clear hz1 hz2
        rw [hM9] at hH
        refine fw_cSN (As := [.ref (a + 2), .int (iI (↑(nN + (i - sN)) : Int)), .int (iI (vs2 i))]) (rest := []) E hK hH hl fL_X9_put ql_RX8_55 qs_yX9_put (k_put l G _ _ (a + 2) 40 (apF nN (i - sN) sN vs vs2) (↑(nN + (i - sN)) : Int) (nN + (i - sN)) (vs2 i) t2 (by omega) (by omega) (by omega) (by omega)) rfl rfl (Nat.le_of_ble_eq_true rfl) ⟨Nat.le_of_ble_eq_true rfl, Nat.le_of_ble_eq_true rfl⟩ ⟨Nat.le_of_ble_eq_true rfl, Nat.le_of_ble_eq_true rfl⟩ dX8_appendFrom_46 (fw_kv fun M12 H1 locs1 hp11 hH hz1 => ?_)
        obtain ⟨hM8, hz2⟩ := hp11
        have hfr : ∀ q, q ≠ a + 2 → M12 q = M6 q := fun q h => by rw [hM8]; exact fw_up_ne h
        have t2 : M12 (a + 2) = some (fI G 40 (fun j0 => iI ((zup (apF nN (i - sN) sN vs vs2) (nN + (i - sN)) (vs2 i)) j0))) := by rw [hM8]; exact fw_up_eq
        replace hz := hz2.trans hz
        clear hz1 hz2
        have fr13 := hfr
        replace t0 : M12 a = some (.inr (8, [.ref (a + 1), .ref (a + 2), .ref (a + 3), .ref (a + 4), .int (iI (↑(nN + (i - sN)) : Int)), .int (iI lv)])) := (fr13 _ (by omega)).trans t0
        replace t3 : M12 (a + 3) = some (fI G 40 (fun j0 => iI (ss j0))) := (fr13 _ (by omega)).trans t3
        replace t4 : M12 (a + 4) = some (fI G 40 (fun j0 => iI (hs j0))) := (fr13 _ (by omega)).trans t4
        replace o0 : M12 o = some (.inr (8, [.ref (o + 1), .ref (o + 2), .ref (o + 3), .ref (o + 4), .int (iI n2), .int (iI lv2)])) := (fr13 _ (by omega)).trans o0
        replace o1 : M12 (o + 1) = some (fI G 40 (fun j0 => iI (cs2 j0))) := (fr13 _ (by omega)).trans o1
        replace o2 : M12 (o + 2) = some (fI G 40 (fun j0 => iI (vs2 j0))) := (fr13 _ (by omega)).trans o2
        replace o3 : M12 (o + 3) = some (fI G 40 (fun j0 => iI (ss2 j0))) := (fr13 _ (by omega)).trans o3
        replace o4 : M12 (o + 4) = some (fI G 40 (fun j0 => iI (hs2 j0))) := (fr13 _ (by omega)).trans o4
        replace t1 : M12 (a + 1) = some (fI G 40 (fun j0 => iI ((zup (apF nN (i - sN) sN cs cs2) (nN + (i - sN)) (cs2 i)) j0))) := (fr13 _ (by omega)).trans t1
        refine lv_aload_n E.1 E.2.1 dX8_appendFrom_49 rfl (lv_at hl 0 rfl) ?_
        refine lv_dup E.1 E.2.1 dX8_appendFrom_50 rfl ?_
        refine fw_get E hK hH t0 fc_X8 4 (by decide) ql_RX8_41 rfl rfl dX8_appendFrom_51 ?_
        refine lv_iconst (v := iI 1) E.1 E.2.1 dX8_appendFrom_54 (by decide) ?_
        refine fw_iadd E dX8_appendFrom_55 ?_
        refine fw_put E hK hH (by omega) t0 fc_X8 4 (by decide) ql_RX8_41 rfl rfl rfl rfl (Nat.le_of_ble_eq_true rfl) dX8_appendFrom_56 (fun H1 locs1 hH hz1 => ?_)
        replace hz := hz1.trans hz; clear hz1
        obtain ⟨M14, hM15⟩ : ∃ MX, MX = fw_up M12 a (.inr (8, [.ref (a + 1), .ref (a + 2), .ref (a + 3), .ref (a + 4), .int (iI ((↑(nN + (i - sN)) : Int) + 1)), .int (iI lv)])) := ⟨_, rfl⟩
        replace hH := fw_H.nm hM15 hH
        have fr16 : ∀ q, q ≠ a → M14 q = M12 q := fun q h => by rw [hM15]; exact fw_up_ne h
        replace t3 : M14 (a + 3) = some (fI G 40 (fun j0 => iI (ss j0))) := (fr16 _ (by omega)).trans t3
        replace t4 : M14 (a + 4) = some (fI G 40 (fun j0 => iI (hs j0))) := (fr16 _ (by omega)).trans t4
        replace o0 : M14 o = some (.inr (8, [.ref (o + 1), .ref (o + 2), .ref (o + 3), .ref (o + 4), .int (iI n2), .int (iI lv2)])) := (fr16 _ (by omega)).trans o0
        replace o1 : M14 (o + 1) = some (fI G 40 (fun j0 => iI (cs2 j0))) := (fr16 _ (by omega)).trans o1
        replace o2 : M14 (o + 2) = some (fI G 40 (fun j0 => iI (vs2 j0))) := (fr16 _ (by omega)).trans o2
        replace o3 : M14 (o + 3) = some (fI G 40 (fun j0 => iI (ss2 j0))) := (fr16 _ (by omega)).trans o3
        replace o4 : M14 (o + 4) = some (fI G 40 (fun j0 => iI (hs2 j0))) := (fr16 _ (by omega)).trans o4
        replace t1 : M14 (a + 1) = some (fI G 40 (fun j0 => iI ((zup (apF nN (i - sN) sN cs cs2) (nN + (i - sN)) (cs2 i)) j0))) := (fr16 _ (by omega)).trans t1
        replace t2 : M14 (a + 2) = some (fI G 40 (fun j0 => iI ((zup (apF nN (i - sN) sN vs vs2) (nN + (i - sN)) (vs2 i)) j0))) := (fr16 _ (by omega)).trans t2
        have t0 : M14 a = some (.inr (8, [.ref (a + 1), .ref (a + 2), .ref (a + 3), .ref (a + 4), .int (iI ((↑(nN + (i - sN)) : Int) + 1)), .int (iI lv)])) := by rw [hM15]; exact fw_up_eq
        refine lv_iinc (v := iI (↑i + 1)) (lv' := [(4, .int (iI (↑i + 1))), (0, .ref a), (1, .ref o), (2, .int (iI ↑sN)), (3, .int (iI ↑tN))]) E.1 E.2.1 dX8_appendFrom_59 hl (k := 4) rfl (iI_inc rfl) (by decide) rfl (fun ls hl => ?_)
        refine lv_goto (tgt := 3) E.1 E.2.1 dX8_appendFrom_62 (by decide) ?_
        exact ih3 (i + 1) _ _ _ _ (by omega) (by omega) (by omega) (fun q hq => by rw [fr16 q (by omega), fr13 q (by omega), fr7 q (by omega)]; exact hfr0 q hq) hH (by omega) (by rw [show ((↑(nN + (i + 1 - sN)) : Int)) = ↑(nN + (i - sN)) + 1 by omega]; exact t0) (by rw [apF_step (by omega)]; exact t1) (by rw [apF_step (by omega)]; exact t2) t3 t4 o0 o1 o2 o3 o4 (lv_sub hl [1, 2, 3, 4, 0] rfl)
  exact loop3_1 (tN - sN + 1) sN _ _ _ _ (Nat.lt_succ_self _) (Nat.le_refl _) (by omega) (fun _ _ => rfl) hH (by omega) (by rw [Nat.sub_self]; exact t0) (by rw [Nat.sub_self, apF_0]; exact t1) (by rw [Nat.sub_self, apF_0]; exact t2) t3 t4 o0 o1 o2 o3 o4 (lv_sub hl [1, 2, 3, 4, 0] rfl)
def msF (lo n : Nat) (f : Nat → Nat) (ss : Nat → Int) : Nat → Int := fun k => if lo ≤ k ∧ k < n then (f k : Int) else ss k
theorem msF_in {lo n k : Nat} {f : Nat → Nat} {ss : Nat → Int} (h1 : lo ≤ k) (h2 : k < n) : msF lo n f ss k = (f k : Int) := if_pos ⟨h1, h2⟩
theorem msF_nn (n : Nat) (f : Nat → Nat) (ss : Nat → Int) : msF n n f ss = ss := by
  funext k
  unfold msF
  rw [if_neg (by omega)]
theorem msF_step {j n : Nat} {f : Nat → Nat} {ss : Nat → Int} {v : Int} (h : 0 < j) (h2 : j ≤ n) (hv : v = (f (j - 1) : Int)) : zup (msF j n f ss) (j - 1) v = msF (j - 1) n f ss := by
  subst hv
  funext k
  unfold zup msF
  by_cases h1 : k = j - 1
  · rw [if_pos h1, if_pos (by omega), h1]
  · rw [if_neg h1]
    by_cases h2 : j ≤ k ∧ k < n
    · rw [if_pos h2, if_pos (by omega)]
    · rw [if_neg h2, if_neg (by omega)]
def lvF (n : Nat) (C : Nat → Int) (sp : Nat → Nat) : Nat := if n = 0 then 0 else htF C sp 0
set_option maxHeartbeats 4000000 in
theorem k_measure (l : Launch) (G : fw_G) (M : fw_M) (N : Nat) (a : Nat) (cs vs ss hs : Nat → Int) (lv : Int) (nN : Nat) (sp : Nat → Nat) (hT : trAt G M a cs vs ss hs ↑nN lv) (hn : nN ≤ 40) (hsp : spOK nN cs sp) (hc : ∀ k, k < nN → 0 ≤ cs k ∧ cs k ≤ 13) : fMet l yX8_measure cX8_measure 6 none 1 40 0 0 G M N [.ref a] (fw_pv (fun M1 n1 => trAt G M1 a cs vs (msF 0 nN sp ss) (msF 0 nN (htF cs sp) hs) ↑nN ↑(lvF nN cs sp) ∧ (∀ q, q < a ∨ a + 5 ≤ q → M1 q = M q) ∧ n1 = N)) := by
  refine fw_met RX8 rfl (by decide +kernel) (Nat.le_of_ble_eq_true rfl) ?_
  intro pG e s m args below meth cG ls E hr hlk hnm hK hH hz hl
  obtain ⟨hb, t0, t1, t2, t3, t4⟩ := hT
  refine lv_aload_n E.1 E.2.1 dX8_measure_0 rfl (lv_at hl 0 rfl) ?_
  refine fw_get E hK hH t0 fc_X8 4 (by decide) ql_RX8_41 rfl rfl dX8_measure_1 ?_
  refine lv_iconst (v := iI 1) E.1 E.2.1 dX8_measure_4 (by decide) ?_
  refine fw_isub E dX8_measure_5 ?_
  refine lv_istore_n (lv' := [(1, .int (iI ((↑nN : Int) - 1))), (0, .ref a)]) E.1 E.2.1 dX8_measure_6 rfl hl (by decide) rfl (fun ls hl => ?_)
  have loop7_1 : ∀ (d7 : Nat) (j : Nat) (Mw7 : fw_M) (H : Heap) (locs : List Loc) (ls : Array Slot), j < d7 → j ≤ nN → (∀ q, q < a ∨ a + 5 ≤ q → Mw7 q = M q) → fw_H G s Mw7 H locs → H.size = N → Mw7 a = some (.inr (8, [.ref (a + 1), .ref (a + 2), .ref (a + 3), .ref (a + 4), .int (iI (↑nN : Int)), .int (iI lv)])) → Mw7 (a + 1) = some (fI G 40 (fun j0 => iI (cs j0))) → Mw7 (a + 2) = some (fI G 40 (fun j0 => iI (vs j0))) → Mw7 (a + 3) = some (fI G 40 (fun j0 => iI ((msF j nN sp ss) j0))) → Mw7 (a + 4) = some (fI G 40 (fun j0 => iI ((msF j nN (htF cs sp) hs) j0))) → lv_has ls 6 [(0, .ref a), (1, .int (iI (↑j - 1)))] → W pG l e ({ frames := 1, cells := 0, slots := 0, locals := 40 } : Room) s m args below meth cG H locs (0) (0) (MQ below (fw_Q G (fw_pv (fun M1 n1 => trAt G M1 a cs vs (msF 0 nN sp ss) (msF 0 nN (htF cs sp) hs) ↑nN ↑(lvF nN cs sp) ∧ (∀ q, q < a ∨ a + 5 ≤ q → M1 q = M q) ∧ n1 = N))) args s 0 0 (fun q => G.2.2.1 ≤ q)) (F0 m 7 ls []) := by
    intro d7
    induction d7 with
    | zero => intro j Mw7 H locs ls hd; exact absurd hd (Nat.not_lt_zero _)
    | succ d7 ih7 =>
      intro j Mw7 H locs ls hd7 ij hfr0 hH hz t0 t1 t2 t3 t4 hl
      refine lv_iload_n E.1 E.2.1 dX8_measure_7 rfl (lv_at hl 1 rfl) ?_
      refine fw_if_lt (tgt := 103) E dX8_measure_8 (by decide) (by omega) (by omega) (fun c1 => ?_) (fun c1 => ?_)
      · refine lv_aload_n E.1 E.2.1 dX8_measure_103 rfl (lv_at hl 0 rfl) ?_
        refine lv_aload_n E.1 E.2.1 dX8_measure_104 rfl (lv_at hl 0 rfl) ?_
        refine fw_get E hK hH t0 fc_X8 4 (by decide) ql_RX8_41 rfl rfl dX8_measure_105 ?_
        refine fw_if_ne (tgt := 115) E dX8_measure_108 (by decide) (by omega) (by omega) (fun c2 => ?_) (fun c2 => ?_)
        · refine lv_aload_n E.1 E.2.1 dX8_measure_115 rfl (lv_at hl 0 rfl) ?_
          refine fw_get E hK hH t0 fc_X8 3 (by decide) ql_RX8_21 rfl rfl dX8_measure_116 ?_
          refine lv_iconst (v := iI 0) E.1 E.2.1 dX8_measure_119 (by decide) ?_
          refine fw_cSN (As := [.ref (a + 4), .int (iI 0)]) (rest := [.ref a]) E hK hH hl fL_X9_at ql_RX8_24 qs_yX9_at (k_at l G _ _ (a + 4) 40 (msF j nN (htF cs sp) hs) 0 0 t4 (by omega) (by omega) (by omega)) rfl rfl (Nat.le_of_ble_eq_true rfl) ⟨Nat.le_of_ble_eq_true rfl, Nat.le_of_ble_eq_true rfl⟩ ⟨Nat.le_of_ble_eq_true rfl, Nat.le_of_ble_eq_true rfl⟩ dX8_measure_120 (fw_ki fun r5 M4 H1 locs1 hp3 hH hz1 => ?_)
          obtain ⟨rfl, hM9, hz2⟩ := hp3
          refine fw_cv (y := iI (↑(htF cs sp 0))) (congrArg iI (msF_in (lo := j) (n := nN) (k := 0) (by omega) (by omega))) ?_
          replace hz := hz2.trans hz
          clear hz1 hz2
          rw [hM9] at hH
          refine fw_put E hK hH (by omega) t0 fc_X8 5 (by decide) ql_RX8_74 rfl rfl rfl rfl (Nat.le_of_ble_eq_true rfl) dX8_measure_123 (fun H1 locs1 hH hz1 => ?_)
          replace hz := hz1.trans hz; clear hz1
          obtain ⟨M6, hM7⟩ : ∃ MX, MX = fw_up Mw7 a (.inr (8, [.ref (a + 1), .ref (a + 2), .ref (a + 3), .ref (a + 4), .int (iI (↑nN : Int)), .int (iI (↑(htF cs sp 0)))])) := ⟨_, rfl⟩
          replace hH := fw_H.nm hM7 hH
          have fr8 : ∀ q, q ≠ a → M6 q = Mw7 q := fun q h => by rw [hM7]; exact fw_up_ne h
          replace t1 : M6 (a + 1) = some (fI G 40 (fun j0 => iI (cs j0))) := (fr8 _ (by omega)).trans t1
          replace t2 : M6 (a + 2) = some (fI G 40 (fun j0 => iI (vs j0))) := (fr8 _ (by omega)).trans t2
          replace t3 : M6 (a + 3) = some (fI G 40 (fun j0 => iI ((msF j nN sp ss) j0))) := (fr8 _ (by omega)).trans t3
          replace t4 : M6 (a + 4) = some (fI G 40 (fun j0 => iI ((msF j nN (htF cs sp) hs) j0))) := (fr8 _ (by omega)).trans t4
          have t0 : M6 a = some (.inr (8, [.ref (a + 1), .ref (a + 2), .ref (a + 3), .ref (a + 4), .int (iI (↑nN : Int)), .int (iI (↑(htF cs sp 0)))])) := by rw [hM7]; exact fw_up_eq
          refine fw_vret E hr hlk hH ?_ dX8_measure_126
          exact ⟨⟨hb, by rw [show lvF nN cs sp = htF cs sp 0 from if_neg (by omega)]; exact t0, t1, t2, by rw [show (0 : Nat) = j by omega]; exact t3, by rw [show (0 : Nat) = j by omega]; exact t4⟩, (fun q hq => by rw [fr8 q (by omega)]; exact hfr0 q hq), hz⟩
        · refine lv_iconst (v := iI 0) E.1 E.2.1 dX8_measure_111 (by decide) ?_
          refine lv_goto (tgt := 123) E.1 E.2.1 dX8_measure_112 (by decide) ?_
          refine fw_put E hK hH (by omega) t0 fc_X8 5 (by decide) ql_RX8_74 rfl rfl rfl rfl (Nat.le_of_ble_eq_true rfl) dX8_measure_123 (fun H1 locs1 hH hz1 => ?_)
          replace hz := hz1.trans hz; clear hz1
          obtain ⟨M9, hM10⟩ : ∃ MX, MX = fw_up Mw7 a (.inr (8, [.ref (a + 1), .ref (a + 2), .ref (a + 3), .ref (a + 4), .int (iI (↑nN : Int)), .int (iI 0)])) := ⟨_, rfl⟩
          replace hH := fw_H.nm hM10 hH
          have fr11 : ∀ q, q ≠ a → M9 q = Mw7 q := fun q h => by rw [hM10]; exact fw_up_ne h
          replace t1 : M9 (a + 1) = some (fI G 40 (fun j0 => iI (cs j0))) := (fr11 _ (by omega)).trans t1
          replace t2 : M9 (a + 2) = some (fI G 40 (fun j0 => iI (vs j0))) := (fr11 _ (by omega)).trans t2
          replace t3 : M9 (a + 3) = some (fI G 40 (fun j0 => iI ((msF j nN sp ss) j0))) := (fr11 _ (by omega)).trans t3
          replace t4 : M9 (a + 4) = some (fI G 40 (fun j0 => iI ((msF j nN (htF cs sp) hs) j0))) := (fr11 _ (by omega)).trans t4
          have t0 : M9 a = some (.inr (8, [.ref (a + 1), .ref (a + 2), .ref (a + 3), .ref (a + 4), .int (iI (↑nN : Int)), .int (iI 0)])) := by rw [hM10]; exact fw_up_eq
          refine fw_vret E hr hlk hH ?_ dX8_measure_126
          exact ⟨⟨hb, by rw [show lvF nN cs sp = 0 from if_pos (by omega)]; exact t0, t1, t2, by rw [show (0 : Nat) = j by omega]; exact t3, by rw [show (0 : Nat) = j by omega]; exact t4⟩, (fun q hq => by rw [fr11 q (by omega)]; exact hfr0 q hq), hz⟩
      · have hcj := hc (j - 1) (by omega)
        have har := arN_le (cs (j - 1))
        refine fw_getsN E hH hK.me.2.2.1 ql_RX8_77 dX8_measure_11 ?_
        refine lv_aload_n E.1 E.2.1 dX8_measure_14 rfl (lv_at hl 0 rfl) ?_
        refine fw_get E hK hH t0 fc_X8 0 (by decide) ql_RX8_9 rfl rfl dX8_measure_15 ?_
        refine lv_iload_n E.1 E.2.1 dX8_measure_18 rfl (lv_at hl 1 rfl) ?_
        refine fw_cSN (As := [.ref (a + 1), .int (iI (↑j - 1))]) (rest := [.ref (G.2.2.2.2 0)]) E hK hH hl fL_X9_at ql_RX8_24 qs_yX9_at (k_at l G _ _ (a + 1) 40 cs (↑j - 1) (j - 1) t1 (by omega) (by omega) (by omega)) rfl rfl (Nat.le_of_ble_eq_true rfl) ⟨Nat.le_of_ble_eq_true rfl, Nat.le_of_ble_eq_true rfl⟩ ⟨Nat.le_of_ble_eq_true rfl, Nat.le_of_ble_eq_true rfl⟩ dX8_measure_19 (fw_ki fun r14 M13 H1 locs1 hp12 hH hz1 => ?_)
        obtain ⟨rfl, hM9, hz2⟩ := hp12
        replace hz := hz2.trans hz
        clear hz1 hz2
        rw [hM9] at hH
        refine fw_cSN (As := [.ref (G.2.2.2.2 0), .int (iI (cs (j - 1)))]) (rest := []) E hK hH hl fL_X9_at ql_RX8_24 qs_yX9_at (k_at0 l G _ _ (cs (j - 1)) ((cs (j - 1)).toNat) (by omega) (by omega)) rfl rfl (Nat.le_of_ble_eq_true rfl) ⟨Nat.le_of_ble_eq_true rfl, Nat.le_of_ble_eq_true rfl⟩ ⟨Nat.le_of_ble_eq_true rfl, Nat.le_of_ble_eq_true rfl⟩ dX8_measure_22 (fw_ki fun r17 M16 H1 locs1 hp15 hH hz1 => ?_)
        obtain ⟨rfl, hM9, hz2⟩ := hp15
        refine fw_cv (y := iI (↑(arN (cs (j - 1))))) (by rw [zPARTS_ar hcj]) ?_
        replace hz := hz2.trans hz
        clear hz1 hz2
        rw [hM9] at hH
        refine lv_istore_n (lv' := [(2, .int (iI (↑(arN (cs (j - 1)))))), (0, .ref a), (1, .int (iI (↑j - 1)))]) E.1 E.2.1 dX8_measure_25 rfl hl (by decide) rfl (fun ls hl => ?_)
        refine lv_iload_n E.1 E.2.1 dX8_measure_26 rfl (lv_at hl 2 rfl) ?_
        refine lv_iconst (v := iI 1) E.1 E.2.1 dX8_measure_27 (by decide) ?_
        refine fw_iadd E dX8_measure_28 ?_
        refine fw_cv (y := iI (↑(chP sp (j - 1) 0))) (congrArg iI (by show _ = ((j - 1 + 1 : Nat) : Int); omega)) ?_
        refine lv_istore_n (lv' := [(3, .int (iI (↑(chP sp (j - 1) 0)))), (2, .int (iI (↑(arN (cs (j - 1)))))), (0, .ref a), (1, .int (iI (↑j - 1)))]) E.1 E.2.1 dX8_measure_29 rfl hl (by decide) rfl (fun ls hl => ?_)
        refine lv_iconst (v := iI 0) E.1 E.2.1 dX8_measure_30 (by decide) ?_
        refine lv_istore (lv' := [(4, .int (iI 0)), (3, .int (iI (↑(chP sp (j - 1) 0)))), (2, .int (iI (↑(arN (cs (j - 1)))))), (0, .ref a), (1, .int (iI (↑j - 1)))]) E.1 E.2.1 dX8_measure_31 hl (by decide) rfl (fun ls hl => ?_)
        refine lv_iconst (v := iI 0) E.1 E.2.1 dX8_measure_33 (by decide) ?_
        refine lv_istore (lv' := [(5, .int (iI 0)), (4, .int (iI 0)), (3, .int (iI (↑(chP sp (j - 1) 0)))), (2, .int (iI (↑(arN (cs (j - 1)))))), (0, .ref a), (1, .int (iI (↑j - 1)))]) E.1 E.2.1 dX8_measure_34 hl (by decide) rfl (fun ls hl => ?_)
        have loop36_2 : ∀ (d36 : Nat) (pt : Nat) (Mw36 : fw_M) (H : Heap) (locs : List Loc) (ls : Array Slot), arN (cs (j - 1)) - pt < d36 → pt ≤ arN (cs (j - 1)) → (∀ q, q < a ∨ a + 5 ≤ q → Mw36 q = M q) → fw_H G s Mw36 H locs → H.size = N → Mw36 a = some (.inr (8, [.ref (a + 1), .ref (a + 2), .ref (a + 3), .ref (a + 4), .int (iI (↑nN : Int)), .int (iI lv)])) → Mw36 (a + 1) = some (fI G 40 (fun j0 => iI (cs j0))) → Mw36 (a + 2) = some (fI G 40 (fun j0 => iI (vs j0))) → Mw36 (a + 3) = some (fI G 40 (fun j0 => iI ((msF j nN sp ss) j0))) → Mw36 (a + 4) = some (fI G 40 (fun j0 => iI ((msF j nN (htF cs sp) hs) j0))) → lv_has ls 6 [(0, .ref a), (1, .int (iI (↑j - 1))), (2, .int (iI (↑(arN (cs (j - 1)))))), (3, .int (iI (↑(chP sp (j - 1) pt)))), (4, .int (iI (↑(mxU (fun i => htF cs sp (chP sp (j - 1) i)) pt)))), (5, .int (iI ↑pt))] → W pG l e ({ frames := 1, cells := 0, slots := 0, locals := 40 } : Room) s m args below meth cG H locs (0) (0) (MQ below (fw_Q G (fw_pv (fun M1 n1 => trAt G M1 a cs vs (msF 0 nN sp ss) (msF 0 nN (htF cs sp) hs) ↑nN ↑(lvF nN cs sp) ∧ (∀ q, q < a ∨ a + 5 ≤ q → M1 q = M q) ∧ n1 = N))) args s 0 0 (fun q => G.2.2.1 ≤ q)) (F0 m 36 ls []) := by
          intro d36
          induction d36 with
          | zero => intro pt Mw36 H locs ls hd; exact absurd hd (Nat.not_lt_zero _)
          | succ d36 ih36 =>
            intro pt Mw36 H locs ls hd36 ip hfr0 hH hz t0 t1 t2 t3 t4 hl
            refine lv_iload E.1 E.2.1 dX8_measure_36 (lv_at hl 5 rfl) ?_
            refine lv_iload_n E.1 E.2.1 dX8_measure_38 rfl (lv_at hl 2 rfl) ?_
            refine fw_icmp_ge (tgt := 74) E dX8_measure_39 (by decide) (by omega) (by omega) (by omega) (by omega) (fun c18 => ?_) (fun c18 => ?_)
            · have ipt : arN (cs (j - 1)) = pt := by omega
              have hg := chP_gt sp (j - 1) pt
              have he := (hsp (j - 1) (by omega)).2
              rw [ipt] at he
              have he2 := sp_le hsp (show j - 1 < nN by omega)
              have hh3 := htF_le hsp hn (nN - (j - 1)) (j - 1) (Nat.le_refl _) (by omega)
              have hh4 := htF_eq hsp hn (k := j - 1) (by omega)
              rw [ipt] at hh4
              refine lv_aload_n E.1 E.2.1 dX8_measure_74 rfl (lv_at hl 0 rfl) ?_
              refine fw_get E hK hH t0 fc_X8 2 (by decide) ql_RX8_18 rfl rfl dX8_measure_75 ?_
              refine lv_iload_n E.1 E.2.1 dX8_measure_78 rfl (lv_at hl 1 rfl) ?_
              refine lv_iload_n E.1 E.2.1 dX8_measure_79 rfl (lv_at hl 3 rfl) ?_
              refine lv_iload_n E.1 E.2.1 dX8_measure_80 rfl (lv_at hl 1 rfl) ?_
              refine fw_isub E dX8_measure_81 ?_
              refine fw_cSN (As := [.ref (a + 3), .int (iI (↑j - 1)), .int (iI ((↑(chP sp (j - 1) pt)) - (↑j - 1)))]) (rest := []) E hK hH hl fL_X9_put ql_RX8_55 qs_yX9_put (k_put l G _ _ (a + 3) 40 (msF j nN sp ss) (↑j - 1) (j - 1) ((↑(chP sp (j - 1) pt)) - (↑j - 1)) t3 (by omega) (by omega) (by omega) (by omega)) rfl rfl (Nat.le_of_ble_eq_true rfl) ⟨Nat.le_of_ble_eq_true rfl, Nat.le_of_ble_eq_true rfl⟩ ⟨Nat.le_of_ble_eq_true rfl, Nat.le_of_ble_eq_true rfl⟩ dX8_measure_82 (fw_kv fun M20 H1 locs1 hp19 hH hz1 => ?_)
              obtain ⟨hM8, hz2⟩ := hp19
              have hfr : ∀ q, q ≠ a + 3 → M20 q = Mw36 q := fun q h => by rw [hM8]; exact fw_up_ne h
              have t3 : M20 (a + 3) = some (fI G 40 (fun j0 => iI ((zup (msF j nN sp ss) (j - 1) ((↑(chP sp (j - 1) pt)) - (↑j - 1))) j0))) := by rw [hM8]; exact fw_up_eq
              replace hz := hz2.trans hz
              clear hz1 hz2
              have fr21 := hfr
              replace t0 : M20 a = some (.inr (8, [.ref (a + 1), .ref (a + 2), .ref (a + 3), .ref (a + 4), .int (iI (↑nN : Int)), .int (iI lv)])) := (fr21 _ (by omega)).trans t0
              replace t1 : M20 (a + 1) = some (fI G 40 (fun j0 => iI (cs j0))) := (fr21 _ (by omega)).trans t1
              replace t2 : M20 (a + 2) = some (fI G 40 (fun j0 => iI (vs j0))) := (fr21 _ (by omega)).trans t2
              replace t4 : M20 (a + 4) = some (fI G 40 (fun j0 => iI ((msF j nN (htF cs sp) hs) j0))) := (fr21 _ (by omega)).trans t4
              refine lv_aload_n E.1 E.2.1 dX8_measure_85 rfl (lv_at hl 0 rfl) ?_
              refine fw_get E hK hH t0 fc_X8 3 (by decide) ql_RX8_21 rfl rfl dX8_measure_86 ?_
              refine lv_iload_n E.1 E.2.1 dX8_measure_89 rfl (lv_at hl 1 rfl) ?_
              refine lv_iload E.1 E.2.1 dX8_measure_90 (lv_at hl 4 rfl) ?_
              refine lv_iconst (v := iI 1) E.1 E.2.1 dX8_measure_92 (by decide) ?_
              refine fw_iadd E dX8_measure_93 ?_
              refine fw_cSN (As := [.ref (a + 4), .int (iI (↑j - 1)), .int (iI ((↑(mxU (fun i => htF cs sp (chP sp (j - 1) i)) pt)) + 1))]) (rest := []) E hK hH hl fL_X9_put ql_RX8_55 qs_yX9_put (k_put l G _ _ (a + 4) 40 (msF j nN (htF cs sp) hs) (↑j - 1) (j - 1) ((↑(mxU (fun i => htF cs sp (chP sp (j - 1) i)) pt)) + 1) t4 (by omega) (by omega) (by omega) (by omega)) rfl rfl (Nat.le_of_ble_eq_true rfl) ⟨Nat.le_of_ble_eq_true rfl, Nat.le_of_ble_eq_true rfl⟩ ⟨Nat.le_of_ble_eq_true rfl, Nat.le_of_ble_eq_true rfl⟩ dX8_measure_94 (fw_kv fun M23 H1 locs1 hp22 hH hz1 => ?_)
              obtain ⟨hM8, hz2⟩ := hp22
              have hfr : ∀ q, q ≠ a + 4 → M23 q = M20 q := fun q h => by rw [hM8]; exact fw_up_ne h
              have t4 : M23 (a + 4) = some (fI G 40 (fun j0 => iI ((zup (msF j nN (htF cs sp) hs) (j - 1) ((↑(mxU (fun i => htF cs sp (chP sp (j - 1) i)) pt)) + 1)) j0))) := by rw [hM8]; exact fw_up_eq
              replace hz := hz2.trans hz
              clear hz1 hz2
              have fr24 := hfr
              replace t0 : M23 a = some (.inr (8, [.ref (a + 1), .ref (a + 2), .ref (a + 3), .ref (a + 4), .int (iI (↑nN : Int)), .int (iI lv)])) := (fr24 _ (by omega)).trans t0
              replace t1 : M23 (a + 1) = some (fI G 40 (fun j0 => iI (cs j0))) := (fr24 _ (by omega)).trans t1
              replace t2 : M23 (a + 2) = some (fI G 40 (fun j0 => iI (vs j0))) := (fr24 _ (by omega)).trans t2
              replace t3 : M23 (a + 3) = some (fI G 40 (fun j0 => iI ((zup (msF j nN sp ss) (j - 1) ((↑(chP sp (j - 1) pt)) - (↑j - 1))) j0))) := (fr24 _ (by omega)).trans t3
              refine lv_iinc (v := iI (↑(j - 1) - 1)) (lv' := [(1, .int (iI (↑(j - 1) - 1))), (0, .ref a), (2, .int (iI (↑(arN (cs (j - 1)))))), (3, .int (iI (↑(chP sp (j - 1) pt)))), (4, .int (iI (↑(mxU (fun i => htF cs sp (chP sp (j - 1) i)) pt)))), (5, .int (iI ↑pt))]) E.1 E.2.1 dX8_measure_97 hl (k := 1) rfl (iI_inc (congrArg iI (by omega))) (by decide) rfl (fun ls hl => ?_)
              refine lv_goto (tgt := 7) E.1 E.2.1 dX8_measure_100 (by decide) ?_
              exact ih7 (j - 1) _ _ _ _ (by omega) (by omega) (fun q hq => by rw [fr24 q (by omega), fr21 q (by omega)]; exact hfr0 q hq) hH (by omega) t0 t1 t2 (by have e := msF_step (ss := ss) (f := sp) (n := nN) (j := j) (v := (↑(chP sp (j - 1) pt)) - (↑j - 1)) (by omega) ij (by omega); rw [e] at t3; exact t3) (by have e := msF_step (ss := hs) (f := htF cs sp) (n := nN) (j := j) (v := (↑(mxU (fun i => htF cs sp (chP sp (j - 1) i)) pt)) + 1) (by omega) ij (by omega); rw [e] at t4; exact t4) (lv_sub hl [1, 0] rfl)
            · have hx := (hsp (j - 1) (by omega)).1 pt (by omega)
              have hg := chP_gt sp (j - 1) pt
              have hh1 := htF_le hsp hn (nN - chP sp (j - 1) pt) (chP sp (j - 1) pt) (Nat.le_refl _) hx
              have hh2 := sp_le hsp hx
              have hm := mxU_le (u := (fun i => htF cs sp (chP sp (j - 1) i))) (b := 40) pt (fun i hi => by have h1 := (hsp (j - 1) (by omega)).1 i (by omega); have := htF_le hsp hn (nN - chP sp (j - 1) i) (chP sp (j - 1) i) (Nat.le_refl _) h1; omega)
              refine lv_iload E.1 E.2.1 dX8_measure_42 (lv_at hl 4 rfl) ?_
              refine lv_aload_n E.1 E.2.1 dX8_measure_44 rfl (lv_at hl 0 rfl) ?_
              refine fw_get E hK hH t0 fc_X8 3 (by decide) ql_RX8_21 rfl rfl dX8_measure_45 ?_
              refine lv_iload_n E.1 E.2.1 dX8_measure_48 rfl (lv_at hl 3 rfl) ?_
              refine fw_cSN (As := [.ref (a + 4), .int (iI (↑(chP sp (j - 1) pt)))]) (rest := [.int (iI (↑(mxU (fun i => htF cs sp (chP sp (j - 1) i)) pt)))]) E hK hH hl fL_X9_at ql_RX8_24 qs_yX9_at (k_at l G _ _ (a + 4) 40 (msF j nN (htF cs sp) hs) (↑(chP sp (j - 1) pt)) (chP sp (j - 1) pt) t4 (by omega) (by omega) (by omega)) rfl rfl (Nat.le_of_ble_eq_true rfl) ⟨Nat.le_of_ble_eq_true rfl, Nat.le_of_ble_eq_true rfl⟩ ⟨Nat.le_of_ble_eq_true rfl, Nat.le_of_ble_eq_true rfl⟩ dX8_measure_49 (fw_ki fun r27 M26 H1 locs1 hp25 hH hz1 => ?_)
              obtain ⟨rfl, hM9, hz2⟩ := hp25
              refine fw_cv (y := iI (↑(htF cs sp (chP sp (j - 1) pt)))) (congrArg iI (msF_in (lo := j) (n := nN) (k := chP sp (j - 1) pt) (by omega) hx)) ?_
              replace hz := hz2.trans hz
              clear hz1 hz2
              rw [hM9] at hH
              refine fw_max (a := (↑(mxU (fun i => htF cs sp (chP sp (j - 1) i)) pt))) (b := (↑(htF cs sp (chP sp (j - 1) pt)))) E ql_RX8_80 hl (by omega) (by omega) (by omega) (by omega) ⟨by decide, by decide⟩ ⟨by show _ ≤ (0 : Nat); omega, by show _ ≤ (0 : Nat); omega⟩ dX8_measure_52 qs_J9_max qn_J9 qc_J9_max ?_
              refine fw_cv (y := iI (↑(mxU (fun i => htF cs sp (chP sp (j - 1) i)) (pt + 1)))) (congrArg iI (by show _ = ((max (mxU (fun i => htF cs sp (chP sp (j - 1) i)) pt) (htF cs sp (chP sp (j - 1) pt)) : Nat) : Int); omega)) ?_
              refine lv_istore (lv' := [(4, .int (iI (↑(mxU (fun i => htF cs sp (chP sp (j - 1) i)) (pt + 1))))), (0, .ref a), (1, .int (iI (↑j - 1))), (2, .int (iI (↑(arN (cs (j - 1)))))), (3, .int (iI (↑(chP sp (j - 1) pt)))), (5, .int (iI ↑pt))]) E.1 E.2.1 dX8_measure_55 hl (by decide) rfl (fun ls hl => ?_)
              refine lv_iload_n E.1 E.2.1 dX8_measure_57 rfl (lv_at hl 4 rfl) ?_
              refine lv_aload_n E.1 E.2.1 dX8_measure_58 rfl (lv_at hl 1 rfl) ?_
              refine fw_get E hK hH t0 fc_X8 2 (by decide) ql_RX8_18 rfl rfl dX8_measure_59 ?_
              refine lv_iload_n E.1 E.2.1 dX8_measure_62 rfl (lv_at hl 4 rfl) ?_
              refine fw_cSN (As := [.ref (a + 3), .int (iI (↑(chP sp (j - 1) pt)))]) (rest := [.int (iI (↑(chP sp (j - 1) pt)))]) E hK hH hl fL_X9_at ql_RX8_24 qs_yX9_at (k_at l G _ _ (a + 3) 40 (msF j nN sp ss) (↑(chP sp (j - 1) pt)) (chP sp (j - 1) pt) t3 (by omega) (by omega) (by omega)) rfl rfl (Nat.le_of_ble_eq_true rfl) ⟨Nat.le_of_ble_eq_true rfl, Nat.le_of_ble_eq_true rfl⟩ ⟨Nat.le_of_ble_eq_true rfl, Nat.le_of_ble_eq_true rfl⟩ dX8_measure_63 (fw_ki fun r30 M29 H1 locs1 hp28 hH hz1 => ?_)
              obtain ⟨rfl, hM9, hz2⟩ := hp28
              refine fw_cv (y := iI (↑(sp (chP sp (j - 1) pt)))) (congrArg iI (msF_in (lo := j) (n := nN) (k := chP sp (j - 1) pt) (by omega) hx)) ?_
              replace hz := hz2.trans hz
              clear hz1 hz2
              rw [hM9] at hH
              refine fw_iadd E dX8_measure_66 ?_
              refine fw_cv (y := iI (↑(chP sp (j - 1) (pt + 1)))) (congrArg iI (by show _ = ((chP sp (j - 1) pt + sp (chP sp (j - 1) pt) : Nat) : Int); omega)) ?_
              refine lv_istore_n (lv' := [(3, .int (iI (↑(chP sp (j - 1) (pt + 1))))), (4, .int (iI (↑(mxU (fun i => htF cs sp (chP sp (j - 1) i)) (pt + 1))))), (0, .ref a), (1, .int (iI (↑j - 1))), (2, .int (iI (↑(arN (cs (j - 1)))))), (5, .int (iI ↑pt))]) E.1 E.2.1 dX8_measure_67 rfl hl (by decide) rfl (fun ls hl => ?_)
              refine lv_iinc (v := iI (↑pt + 1)) (lv' := [(5, .int (iI (↑pt + 1))), (3, .int (iI (↑(chP sp (j - 1) (pt + 1))))), (4, .int (iI (↑(mxU (fun i => htF cs sp (chP sp (j - 1) i)) (pt + 1))))), (0, .ref a), (1, .int (iI (↑j - 1))), (2, .int (iI (↑(arN (cs (j - 1))))))]) E.1 E.2.1 dX8_measure_68 hl (k := 5) rfl (iI_inc rfl) (by decide) rfl (fun ls hl => ?_)
              refine lv_goto (tgt := 36) E.1 E.2.1 dX8_measure_71 (by decide) ?_
              exact ih36 (pt + 1) _ _ _ _ (by omega) (by omega) hfr0 hH (by omega) t0 t1 t2 t3 t4 (lv_sub hl [3, 4, 5, 1, 2, 0] rfl)
        exact loop36_2 (arN (cs (j - 1)) - 0 + 1) 0 _ _ _ _ (Nat.lt_succ_self _) (Nat.zero_le _) hfr0 hH (by omega) t0 t1 t2 t3 t4 (lv_sub hl [4, 5, 3, 2, 1, 0] rfl)
  exact loop7_1 (nN + 1) nN _ _ _ _ (Nat.lt_succ_self _) (Nat.le_refl _) (fun _ _ => rfl) hH (by omega) t0 t1 t2 (by rw [msF_nn]; exact t3) (by rw [msF_nn]; exact t4) (lv_sub hl [1, 0] rfl)

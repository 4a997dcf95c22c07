/-- Barnacle.at, the index in its row -/
theorem k_at (l : Launch) (G : fw_G) (M : fw_M) (N : Nat) (a n : Nat) (g : Nat → Int) (z : Int) (k : Nat) (ha : M a = some (fI G n (fun j0 => iI (g j0)))) (hzk : z = ↑k) (hk : k < n) (hn : n < 2147483648) : fMet l yX9_at cX9_at 2 (some .int) 0 0 0 0 G M N [.ref a, .int (iI z)] (fw_pi (fun r M1 n1 => r = iI (g k) ∧ M1 = M ∧ n1 = N)) := by
  refine fw_met RX9 rfl (by decide +kernel) (Nat.le_of_ble_eq_true rfl) ?_
  intro pG e s m args below meth cG ls E hr hlk hnm hK hH hz hl
  refine lv_iload_n E.1 E.2.1 dX9_at_0 rfl (lv_at hl 1 rfl) ?_
  refine fw_if_lt (tgt := 10) E dX9_at_1 (by decide) (by omega) (by omega) (fun c1 => ?_) (fun c1 => ?_)
  · exact absurd c1 (by omega)
  · refine lv_iload_n E.1 E.2.1 dX9_at_4 rfl (lv_at hl 1 rfl) ?_
    refine lv_aload_n E.1 E.2.1 dX9_at_5 rfl (lv_at hl 0 rfl) ?_
    refine fw_alen E hK hH ha dX9_at_6 ?_
    refine fw_cv (y := iI (↑n)) (nI_iI _) ?_
    refine fw_icmp_lt (tgt := 14) E dX9_at_7 (by decide) (by omega) (by omega) (by omega) (by omega) (fun c2 => ?_) (fun c2 => ?_)
    · refine lv_aload_n E.1 E.2.1 dX9_at_14 rfl (lv_at hl 0 rfl) ?_
      refine lv_iload_n E.1 E.2.1 dX9_at_15 rfl (lv_at hl 1 rfl) ?_
      refine fw_iald E hK hH ha (iI_in (by omega) (by omega) (by omega)) dX9_at_16 ?_
      refine fw_cv (y := iI (g (z).toNat)) (by rw [iI_ix (by omega) (by omega)]) ?_
      refine fw_iret E hr hlk hH ?_ dX9_at_17
      exact ⟨by rw [hzk]; rfl, rfl, hz⟩
    · exact absurd c2 (by omega)
theorem k_put (l : Launch) (G : fw_G) (M : fw_M) (N : Nat) (a n : Nat) (g : Nat → Int) (z : Int) (k : Nat) (v : Int) (ha : M a = some (fI G n (fun j0 => iI (g j0)))) (hb : G.2.2.1 ≤ a) (hzk : z = ↑k) (hk : k < n) (hn : n < 2147483648) : fMet l yX9_put cX9_put 3 none 0 0 0 0 G M N [.ref a, .int (iI z), .int (iI v)] (fw_pv (fun M1 n1 => M1 = fw_up M a (fI G n (fun j => iI (zup g k v j))) ∧ n1 = N)) := by
  refine fw_met RX9 rfl (by decide +kernel) (Nat.le_of_ble_eq_true rfl) ?_
  intro pG e s m args below meth cG ls E hr hlk hnm hK hH hz hl
  refine lv_iload_n E.1 E.2.1 dX9_put_0 rfl (lv_at hl 1 rfl) ?_
  refine fw_if_lt (tgt := 14) E dX9_put_1 (by decide) (by omega) (by omega) (fun c1 => ?_) (fun c1 => ?_)
  · exact absurd c1 (by omega)
  · refine lv_iload_n E.1 E.2.1 dX9_put_4 rfl (lv_at hl 1 rfl) ?_
    refine lv_aload_n E.1 E.2.1 dX9_put_5 rfl (lv_at hl 0 rfl) ?_
    refine fw_alen E hK hH ha dX9_put_6 ?_
    refine fw_cv (y := iI (↑n)) (nI_iI _) ?_
    refine fw_icmp_ge (tgt := 14) E dX9_put_7 (by decide) (by omega) (by omega) (by omega) (by omega) (fun c2 => ?_) (fun c2 => ?_)
    · exact absurd c2 (by omega)
    · refine lv_aload_n E.1 E.2.1 dX9_put_10 rfl (lv_at hl 0 rfl) ?_
      refine lv_iload_n E.1 E.2.1 dX9_put_11 rfl (lv_at hl 1 rfl) ?_
      refine lv_iload_n E.1 E.2.1 dX9_put_12 rfl (lv_at hl 2 rfl) ?_
      refine fw_iast E hK hH (by omega) ha (iI_in (by omega) (by omega) (by omega)) dX9_put_13 (fun H1 locs1 hH hz1 => ?_)
      replace hz := hz1.trans hz; clear hz1
      rw [show upd (fun j0 => iI (g j0)) (iI (z)).toNatClampNeg (iI (v)) = fun j0 => iI ((zup g (k) (v)) j0) from by rw [iI_ix (by omega) (by omega), show (z : Int).toNat = k from by omega]; exact zup_upd _ _ _] at hH
      obtain ⟨M3, hM4⟩ : ∃ MX, MX = fw_up M a (fI G n (fun j0 => iI ((zup g (k) (v)) j0))) := ⟨_, rfl⟩
      replace hH := fw_H.nm hM4 hH
      have fr5 : ∀ q, q ≠ a → M3 q = M q := fun q h => by rw [hM4]; exact fw_up_ne h
      have ha : M3 a = some (fI G n (fun j0 => iI ((zup g (k) (v)) j0))) := by rw [hM4]; exact fw_up_eq
      refine fw_vret E hr hlk hH ?_ dX9_put_14
      exact ⟨hM4, hz⟩

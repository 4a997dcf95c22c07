def atF (g : Nat → Int) (n : Nat) (z : Int) : Int := if 0 ≤ z ∧ z < n then g z.toNat else 0
theorem atF_in {g : Nat → Int} {n : Nat} {z : Int} {k : Nat} (h : z = ↑k) (hk : k < n) : atF g n z = g k := by
  subst h
  unfold atF
  rw [if_pos ⟨by omega, by omega⟩, Int.toNat_natCast]
theorem atF_out {g : Nat → Int} {n : Nat} {z : Int} (h : z < 0 ∨ n ≤ z) : atF g n z = 0 := if_neg (by omega)
theorem k_atG (l : Launch) (G : fw_G) (M : fw_M) (N : Nat) (a n : Nat) (g : Nat → Int) (z : Int) (ha : M a = some (fI G n (fun j0 => iI (g j0)))) (hn : n < 2147483648) (hz : -2147483648 ≤ z ∧ z < 2147483648) : fMet l yX9_at cX9_at 2 (some .int) 0 0 0 0 G M N [.ref a, .int (iI z)] (fw_pi (fun r M1 n1 => r = iI (atF g n z) ∧ M1 = M ∧ n1 = N)) := by
  refine fw_met RX9 rfl (by decide +kernel) (Nat.le_of_ble_eq_true rfl) ?_
  intro pG e s m args below meth cG ls E hr hlk hnm hK hH hz hl
  refine lv_iload_n E.1 E.2.1 dX9_at_0 rfl (lv_at hl 1 rfl) ?_
  refine fw_if_lt (tgt := 10) E dX9_at_1 (by decide) (by omega) (by omega) (fun c1 => ?_) (fun c1 => ?_)
  · refine lv_iconst (v := iI 0) E.1 E.2.1 dX9_at_10 (by decide) ?_
    refine lv_goto (tgt := 17) E.1 E.2.1 dX9_at_11 (by decide) ?_
    refine fw_iret E hr hlk hH ?_ dX9_at_17
    exact ⟨congrArg iI (atF_out (by omega)).symm, rfl, hz⟩
  · refine lv_iload_n E.1 E.2.1 dX9_at_4 rfl (lv_at hl 1 rfl) ?_
    refine lv_aload_n E.1 E.2.1 dX9_at_5 rfl (lv_at hl 0 rfl) ?_
    refine fw_alen E hK hH ha dX9_at_6 ?_
    refine fw_cv (y := iI (↑n)) (nI_iI _) ?_
    refine fw_icmp_lt (tgt := 14) E dX9_at_7 (by decide) (by omega) (by omega) (by omega) (by omega) (fun c2 => ?_) (fun c2 => ?_)
    · refine lv_aload_n E.1 E.2.1 dX9_at_14 rfl (lv_at hl 0 rfl) ?_
      refine lv_iload_n E.1 E.2.1 dX9_at_15 rfl (lv_at hl 1 rfl) ?_
      refine fw_iald E hK hH ha (iI_in (by omega) (by omega) (by omega)) dX9_at_16 ?_
      refine fw_cv (y := iI (g (z).toNat)) (by rw [iI_ix (by omega) (by omega)]) ?_
      refine fw_iret E hr hlk hH ?_ dX9_at_17
      exact ⟨congrArg iI (by rw [atF_in (k := z.toNat) (by omega) (by omega)]), rfl, hz⟩
    · refine lv_iconst (v := iI 0) E.1 E.2.1 dX9_at_10 (by decide) ?_
      refine lv_goto (tgt := 17) E.1 E.2.1 dX9_at_11 (by decide) ?_
      refine fw_iret E hr hlk hH ?_ dX9_at_17
      exact ⟨congrArg iI (atF_out (by omega)).symm, rfl, hz⟩
theorem k_at0 (l : Launch) (G : fw_G) (M : fw_M) (N : Nat) (z : Int) (k : Nat) (hzk : z = ↑k) (hk : k < 14) : fMet l yX9_at cX9_at 2 (some .int) 0 0 0 0 G M N [.ref (G.2.2.2.2 0), .int (iI z)] (fw_pi (fun r M1 n1 => r = iI (zPARTS k) ∧ M1 = M ∧ n1 = N)) := by
  refine fw_met RX9 rfl (by decide +kernel) (Nat.le_of_ble_eq_true rfl) ?_
  intro p e s m args below meth c ls E hr hlk hnm hK hH hz hl
  have hT := hK.me.2.2.2.2.2.1
  refine lv_iload_n E.1 E.2.1 dX9_at_0 rfl (lv_at hl 1 rfl) ?_
  refine fw_if_lt (tgt := 10) E dX9_at_1 (by decide) (by omega) (by omega) (fun c1 => ?_) (fun c1 => ?_)
  · exact absurd c1 (by omega)
  · refine lv_iload_n E.1 E.2.1 dX9_at_4 rfl (lv_at hl 1 rfl) ?_
    refine lv_aload_n E.1 E.2.1 dX9_at_5 rfl (lv_at hl 0 rfl) ?_
    refine fw_tlen E hH hT (v := iI 14) (by decide) dX9_at_6 ?_
    refine fw_icmp_lt (tgt := 14) E dX9_at_7 (by decide) (by omega) (by omega) (by omega) (by omega) (fun c2 => ?_) (fun c2 => ?_)
    · refine lv_aload_n E.1 E.2.1 dX9_at_14 rfl (lv_at hl 0 rfl) ?_
      refine lv_iload_n E.1 E.2.1 dX9_at_15 rfl (lv_at hl 1 rfl) ?_
      refine fw_ti E hH hT (v := .int (iI (zPARTS k))) (iI_in (by omega) (by omega) (by omega)) (by rw [iI_ix (by omega) (by omega), hzk]; rfl) dX9_at_16 ?_
      refine fw_iret E hr hlk hH ?_ dX9_at_17
      exact ⟨rfl, rfl, hz⟩
    · exact absurd c2 (by omega)
theorem k_at1 (l : Launch) (G : fw_G) (M : fw_M) (N : Nat) (z : Int) (k : Nat) (hzk : z = ↑k) (hk : k < 14) : fMet l yX9_at cX9_at 2 (some .int) 0 0 0 0 G M N [.ref (G.2.2.2.2 1), .int (iI z)] (fw_pi (fun r M1 n1 => r = iI (zKS k) ∧ M1 = M ∧ n1 = N)) := by
  refine fw_met RX9 rfl (by decide +kernel) (Nat.le_of_ble_eq_true rfl) ?_
  intro p e s m args below meth c ls E hr hlk hnm hK hH hz hl
  have hT := hK.me.2.2.2.2.2.2.1
  refine lv_iload_n E.1 E.2.1 dX9_at_0 rfl (lv_at hl 1 rfl) ?_
  refine fw_if_lt (tgt := 10) E dX9_at_1 (by decide) (by omega) (by omega) (fun c1 => ?_) (fun c1 => ?_)
  · exact absurd c1 (by omega)
  · refine lv_iload_n E.1 E.2.1 dX9_at_4 rfl (lv_at hl 1 rfl) ?_
    refine lv_aload_n E.1 E.2.1 dX9_at_5 rfl (lv_at hl 0 rfl) ?_
    refine fw_tlen E hH hT (v := iI 14) (by decide) dX9_at_6 ?_
    refine fw_icmp_lt (tgt := 14) E dX9_at_7 (by decide) (by omega) (by omega) (by omega) (by omega) (fun c2 => ?_) (fun c2 => ?_)
    · refine lv_aload_n E.1 E.2.1 dX9_at_14 rfl (lv_at hl 0 rfl) ?_
      refine lv_iload_n E.1 E.2.1 dX9_at_15 rfl (lv_at hl 1 rfl) ?_
      refine fw_ti E hH hT (v := .int (iI (zKS k))) (iI_in (by omega) (by omega) (by omega)) (by rw [iI_ix (by omega) (by omega), hzk]; rfl) dX9_at_16 ?_
      refine fw_iret E hr hlk hH ?_ dX9_at_17
      exact ⟨rfl, rfl, hz⟩
    · exact absurd c2 (by omega)
theorem k_at2 (l : Launch) (G : fw_G) (M : fw_M) (N : Nat) (z : Int) (k : Nat) (hzk : z = ↑k) (hk : k < 14) : fMet l yX9_at cX9_at 2 (some .int) 0 0 0 0 G M N [.ref (G.2.2.2.2 2), .int (iI z)] (fw_pi (fun r M1 n1 => r = iI (zKC k) ∧ M1 = M ∧ n1 = N)) := by
  refine fw_met RX9 rfl (by decide +kernel) (Nat.le_of_ble_eq_true rfl) ?_
  intro p e s m args below meth c ls E hr hlk hnm hK hH hz hl
  have hT := hK.me.2.2.2.2.2.2.2.1
  refine lv_iload_n E.1 E.2.1 dX9_at_0 rfl (lv_at hl 1 rfl) ?_
  refine fw_if_lt (tgt := 10) E dX9_at_1 (by decide) (by omega) (by omega) (fun c1 => ?_) (fun c1 => ?_)
  · exact absurd c1 (by omega)
  · refine lv_iload_n E.1 E.2.1 dX9_at_4 rfl (lv_at hl 1 rfl) ?_
    refine lv_aload_n E.1 E.2.1 dX9_at_5 rfl (lv_at hl 0 rfl) ?_
    refine fw_tlen E hH hT (v := iI 14) (by decide) dX9_at_6 ?_
    refine fw_icmp_lt (tgt := 14) E dX9_at_7 (by decide) (by omega) (by omega) (by omega) (by omega) (fun c2 => ?_) (fun c2 => ?_)
    · refine lv_aload_n E.1 E.2.1 dX9_at_14 rfl (lv_at hl 0 rfl) ?_
      refine lv_iload_n E.1 E.2.1 dX9_at_15 rfl (lv_at hl 1 rfl) ?_
      refine fw_ti E hH hT (v := .int (iI (zKC k))) (iI_in (by omega) (by omega) (by omega)) (by rw [iI_ix (by omega) (by omega), hzk]; rfl) dX9_at_16 ?_
      refine fw_iret E hr hlk hH ?_ dX9_at_17
      exact ⟨rfl, rfl, hz⟩
    · exact absurd c2 (by omega)

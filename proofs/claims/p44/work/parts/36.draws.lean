def lkN (lk : Int) : Int := Int.tmod (lk * 4621 + 2777) 10000
def blw (lk : Int) (m : Nat) : Int := if (m : Int) < 1 then 0 else Int.tdiv (lkN lk * ↑m) 10000
def lkB (lk : Int) (m : Nat) : Int := if (m : Int) < 1 then lk else lkN lk
theorem lkN_b {lk : Int} (h : 0 ≤ lk ∧ lk < 10000) : 0 ≤ lkN lk ∧ lkN lk < 10000 := by
  unfold lkN
  rw [Int.tmod_eq_emod_of_nonneg (by omega)]
  omega
theorem lkB_b {lk : Int} {m : Nat} (h : 0 ≤ lk ∧ lk < 10000) : 0 ≤ lkB lk m ∧ lkB lk m < 10000 := by
  unfold lkB
  split
  · exact h
  · exact lkN_b h
theorem blw_b {lk : Int} {m : Nat} (h : 0 ≤ lk ∧ lk < 10000) (hm : 0 < m) : 0 ≤ blw lk m ∧ blw lk m < ↑m := by
  have g := lkN_b h
  unfold blw
  rw [if_neg (by omega), Int.tdiv_eq_ediv_of_nonneg (Int.mul_nonneg g.1 (by omega))]
  refine ⟨Int.ediv_nonneg (Int.mul_nonneg g.1 (by omega)) (by omega), Int.ediv_lt_of_lt_mul (by omega) ?_⟩
  rw [Int.mul_comm (↑m)]
  exact Int.mul_lt_mul_of_pos_right g.2 (by omega)
theorem lm_b {x : Int} {m : Nat} (h : 0 ≤ x ∧ x < 10000) (hm : m ≤ 1000) : 0 ≤ x * (m : Int) ∧ x * (m : Int) ≤ 10000000 := ⟨Int.mul_nonneg h.1 (by omega), Int.le_trans (Int.mul_le_mul (show x ≤ 10000 by omega) (show (m : Int) ≤ 1000 by omega) (by omega) (by omega)) (by omega)⟩
theorem k_below (l : Launch) (G : fw_G) (M : fw_M) (N : Nat) (dw : Nat) (tl : Nat → Int) (lk : Int) (bn : Nat) (hD : drAt G M dw tl 0 lk) (hk0 : 0 ≤ lk ∧ lk < 10000) (hm : bn ≤ 1000) : fMet l yX1_below cX1_below 2 (some .int) 2 60 0 0 G M N [.ref dw, .int (iI ↑bn)] (fw_pi (fun r M1 n1 => r = iI (blw lk bn) ∧ drAt G M1 dw tl 0 (lkB lk bn) ∧ (∀ q, q ≠ dw → M1 q = M q) ∧ n1 = N)) := by
  refine fw_met RX1 rfl (by decide +kernel) (Nat.le_of_ble_eq_true rfl) ?_
  intro pG e s m args below meth cG ls E hr hlk hnm hK hH hz hl
  obtain ⟨hbd, d0, d1⟩ := hD
  have hln := lkN_b hk0
  refine lv_iload_n E.1 E.2.1 dX1_below_0 rfl (lv_at hl 1 rfl) ?_
  refine lv_iconst (v := iI 1) E.1 E.2.1 dX1_below_1 (by decide) ?_
  refine fw_icmp_ge (tgt := 7) E dX1_below_2 (by decide) (by omega) (by omega) (by omega) (by omega) (fun c1 => ?_) (fun c1 => ?_)
  · refine lv_aload_n E.1 E.2.1 dX1_below_7 rfl (lv_at hl 0 rfl) ?_
    refine fw_get E hK hH d0 fc_X1 1 (by decide) ql_RX1_15 rfl rfl dX1_below_8 ?_
    refine fw_if_le (tgt := 21) E dX1_below_11 (by decide) (by omega) (by omega) (fun c2 => ?_) (fun c2 => ?_)
    · refine lv_aload_n E.1 E.2.1 dX1_below_21 rfl (lv_at hl 0 rfl) ?_
      refine lv_aload_n E.1 E.2.1 dX1_below_22 rfl (lv_at hl 0 rfl) ?_
      refine fw_get E hK hH d0 fc_X1 2 (by decide) ql_RX1_27 rfl rfl dX1_below_23 ?_
      refine lv_sipush (v := iI 4621) E.1 E.2.1 dX1_below_26 (by decide) ?_
      refine fw_imul E dX1_below_29 ?_
      refine lv_sipush (v := iI 2777) E.1 E.2.1 dX1_below_30 (by decide) ?_
      refine fw_iadd E dX1_below_33 ?_
      refine lv_sipush (v := iI 10000) E.1 E.2.1 dX1_below_34 (by decide) ?_
      refine fw_irem E (by omega) (by omega) (by omega) (by omega) (by omega) dX1_below_37 ?_
      refine fw_cv (y := iI (lkN lk)) rfl ?_
      refine fw_put E hK hH (by omega) d0 fc_X1 2 (by decide) ql_RX1_27 rfl rfl rfl rfl (Nat.le_of_ble_eq_true rfl) dX1_below_38 (fun H1 locs1 hH hz1 => ?_)
      replace hz := hz1.trans hz; clear hz1
      obtain ⟨M3, hM4⟩ : ∃ MX, MX = fw_up M dw (.inr (1, [.ref (dw + 1), .int (iI 0), .int (iI (lkN lk))])) := ⟨_, rfl⟩
      replace hH := fw_H.nm hM4 hH
      have fr5 : ∀ q, q ≠ dw → M3 q = M q := fun q h => by rw [hM4]; exact fw_up_ne h
      replace d1 : M3 (dw + 1) = some (fI G 40 (fun j0 => iI (tl j0))) := (fr5 _ (by omega)).trans d1
      have d0 : M3 dw = some (.inr (1, [.ref (dw + 1), .int (iI 0), .int (iI (lkN lk))])) := by rw [hM4]; exact fw_up_eq
      refine lv_aload_n E.1 E.2.1 dX1_below_41 rfl (lv_at hl 0 rfl) ?_
      refine fw_get E hK hH d0 fc_X1 2 (by decide) ql_RX1_27 rfl rfl dX1_below_42 ?_
      refine lv_iload_n E.1 E.2.1 dX1_below_45 rfl (lv_at hl 1 rfl) ?_
      have hlm := lm_b hln hm
      refine fw_imul E dX1_below_46 ?_
      refine lv_sipush (v := iI 10000) E.1 E.2.1 dX1_below_47 (by decide) ?_
      refine fw_idiv E (by omega) (by omega) (by omega) (by omega) (by omega) dX1_below_50 ?_
      refine fw_iret E hr hlk hH ?_ dX1_below_51
      exact ⟨congrArg iI (by unfold blw; rw [if_neg (by omega)]), ⟨hbd, by unfold lkB; rw [if_neg (by omega)]; exact d0, d1⟩, (fun q hq => by rw [fr5 q (by omega)]), hz⟩
    · exact absurd c2 (by omega)
  · refine lv_iconst (v := iI 0) E.1 E.2.1 dX1_below_5 (by decide) ?_
    refine fw_iret E hr hlk hH ?_ dX1_below_6
    exact ⟨congrArg iI (by unfold blw; rw [if_pos (by omega)]), ⟨hbd, by unfold lkB; rw [if_pos (by omega)]; exact d0, d1⟩, (fun _ _ => rfl), hz⟩

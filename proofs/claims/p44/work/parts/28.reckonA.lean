theorem chP_lt {n : Nat} {C : Nat → Int} {sp : Nat → Nat} (h : spOK n C sp) {k i : Nat} (hk : k < n) (hi : i < arN (C k)) : chP sp k i < k + sp k ∧ chP sp k i < n := by
  obtain ⟨h1, h2⟩ := h k hk
  have h3 := h1 i hi
  have h4 := sp_pos h h3
  have h5 := chP_mono sp k (show i + 1 ≤ arN (C k) by omega)
  have h6 : chP sp k (i + 1) = chP sp k i + sp (chP sp k i) := rfl
  omega
theorem in_span {n : Nat} {C : Nat → Int} {sp : Nat → Nat} (h : spOK n C sp) {k p : Nat} (hp : p < n) (h1 : p ≤ k) (h2 : k < p + sp p) : k + sp k ≤ p + sp p := by
  rcases Nat.lt_or_ge p k with g | g
  · exact sp_nest h hp g h2
  · rw [show k = p by omega]; exact Nat.le_refl _
theorem atF_b {g : Nat → Int} {n : Nat} {z : Int} (h : ∀ k, 0 ≤ g k ∧ g k ≤ 40) : 0 ≤ atF g n z ∧ atF g n z ≤ 40 := by
  unfold atF
  split
  · exact h _
  · omega
theorem prR_b {x a b : Int} (ha : -9999 ≤ a ∧ a ≤ 9999) (hb : -9999 ≤ b ∧ b ≤ 9999) : -99980001 ≤ prR x a b ∧ prR x a b ≤ 99980001 := by
  have hm : (a * b).natAbs ≤ 9999 * 9999 := by
    rw [Int.natAbs_mul]
    exact Nat.mul_le_mul (by omega) (by omega)
  have hd : (a.tdiv b).natAbs ≤ 9999 := by
    rw [Int.natAbs_tdiv]
    exact Nat.le_trans (Nat.div_le_self _ _) (by omega)
  unfold prR
  generalize a * b = m at *
  generalize a.tdiv b = d at *
  (repeat' split) <;> omega
theorem k_limited (l : Launch) (G : fw_G) (M : fw_M) (N : Nat) (z : Int) (hz : -2147483648 ≤ z ∧ z < 2147483648) : fMet l yX5_limited cX5_limited 1 (some .int) 0 0 0 0 G M N [.int (iI z)] (fw_pi (fun r M1 n1 => r = iI (limI z) ∧ M1 = M ∧ n1 = N)) := by
  refine fw_met RX5 rfl (by decide +kernel) (Nat.le_of_ble_eq_true rfl) ?_
  intro pG e s m args below meth cG ls E hr hlk hnm hK hH hz hl
  refine lv_iload_n E.1 E.2.1 dX5_limited_0 rfl (lv_at hl 0 rfl) ?_
  refine lv_sipush (v := iI 9999) E.1 E.2.1 dX5_limited_1 (by decide) ?_
  refine fw_icmp_le (tgt := 11) E dX5_limited_4 (by decide) (by omega) (by omega) (by omega) (by omega) (fun c1 => ?_) (fun c1 => ?_)
  · refine lv_iload_n E.1 E.2.1 dX5_limited_11 rfl (lv_at hl 0 rfl) ?_
    refine lv_sipush (v := iI (-9999)) E.1 E.2.1 dX5_limited_12 (by decide) ?_
    refine fw_icmp_ge (tgt := 24) E dX5_limited_15 (by decide) (by omega) (by omega) (by omega) (by omega) (fun c2 => ?_) (fun c2 => ?_)
    · refine lv_iload_n E.1 E.2.1 dX5_limited_24 rfl (lv_at hl 0 rfl) ?_
      refine fw_iret E hr hlk hH ?_ dX5_limited_25
      exact ⟨congrArg iI (by unfold limI; (repeat' split) <;> omega), rfl, hz⟩
    · refine lv_sipush (v := iI (-9999)) E.1 E.2.1 dX5_limited_18 (by decide) ?_
      refine lv_goto (tgt := 25) E.1 E.2.1 dX5_limited_21 (by decide) ?_
      refine fw_iret E hr hlk hH ?_ dX5_limited_25
      exact ⟨congrArg iI (by unfold limI; (repeat' split) <;> omega), rfl, hz⟩
  · refine lv_sipush (v := iI 9999) E.1 E.2.1 dX5_limited_7 (by decide) ?_
    refine fw_iret E hr hlk hH ?_ dX5_limited_10
    exact ⟨congrArg iI (by unfold limI; (repeat' split) <;> omega), rfl, hz⟩
theorem k_pairResult (l : Launch) (G : fw_G) (M : fw_M) (N : Nat) (x y z : Int) (hx : 2 ≤ x ∧ x ≤ 13 ∧ x ≠ 8) (hy : -9999 ≤ y ∧ y ≤ 9999) (hz0 : x ≠ 13 → -9999 ≤ z ∧ z ≤ 9999) : fMet l yX5_pairResult cX5_pairResult 3 (some .int) 0 0 0 0 G M N [.int (iI x), .int (iI y), .int (iI z)] (fw_pi (fun r M1 n1 => r = iI (prR x y z) ∧ M1 = M ∧ n1 = N)) := by
  refine fw_met RX5 rfl (by decide +kernel) (Nat.le_of_ble_eq_true rfl) ?_
  intro pG e s m args below meth cG ls E hr hlk hnm hK hH hz hl
  refine lv_iload_n E.1 E.2.1 dX5_pairResult_0 rfl (lv_at hl 0 rfl) ?_
  rcases (show x = 2 ∨ x = 3 ∨ x = 4 ∨ x = 5 ∨ x = 6 ∨ x = 7 ∨ x = 9 ∨ x = 10 ∨ x = 11 ∨ x = 12 ∨ x = 13 by omega) with rfl | rfl | rfl | rfl | rfl | rfl | rfl | rfl | rfl | rfl | rfl
  · refine lv_tableIn (off := 63) (tgt := 64) E.1 E.2.1 dX5_pairResult_1 (by decide) (by decide) (by decide +kernel) (by decide) ?_
    refine lv_iload_n E.1 E.2.1 dX5_pairResult_64 rfl (lv_at hl 1 rfl) ?_
    refine lv_iload_n E.1 E.2.1 dX5_pairResult_65 rfl (lv_at hl 2 rfl) ?_
    refine fw_iadd E dX5_pairResult_66 ?_
    refine fw_iret E hr hlk hH ?_ dX5_pairResult_67
    exact ⟨congrArg iI (by simp [prR]), rfl, hz⟩
  · refine lv_tableIn (off := 67) (tgt := 68) E.1 E.2.1 dX5_pairResult_1 (by decide) (by decide) (by decide +kernel) (by decide) ?_
    refine lv_iload_n E.1 E.2.1 dX5_pairResult_68 rfl (lv_at hl 1 rfl) ?_
    refine lv_iload_n E.1 E.2.1 dX5_pairResult_69 rfl (lv_at hl 2 rfl) ?_
    refine fw_isub E dX5_pairResult_70 ?_
    refine fw_iret E hr hlk hH ?_ dX5_pairResult_71
    exact ⟨congrArg iI (by simp [prR]), rfl, hz⟩
  · refine lv_tableIn (off := 71) (tgt := 72) E.1 E.2.1 dX5_pairResult_1 (by decide) (by decide) (by decide +kernel) (by decide) ?_
    refine lv_iload_n E.1 E.2.1 dX5_pairResult_72 rfl (lv_at hl 1 rfl) ?_
    refine lv_iload_n E.1 E.2.1 dX5_pairResult_73 rfl (lv_at hl 2 rfl) ?_
    refine fw_imul E dX5_pairResult_74 ?_
    refine fw_iret E hr hlk hH ?_ dX5_pairResult_75
    exact ⟨congrArg iI (by simp [prR]), rfl, hz⟩
  · refine lv_tableIn (off := 75) (tgt := 76) E.1 E.2.1 dX5_pairResult_1 (by decide) (by decide) (by decide +kernel) (by decide) ?_
    refine lv_iload_n E.1 E.2.1 dX5_pairResult_76 rfl (lv_at hl 2 rfl) ?_
    refine fw_if_ne (tgt := 84) E dX5_pairResult_77 (by decide) (by omega) (by omega) (fun c1 => ?_) (fun c1 => ?_)
    · refine lv_iload_n E.1 E.2.1 dX5_pairResult_84 rfl (lv_at hl 1 rfl) ?_
      refine lv_iload_n E.1 E.2.1 dX5_pairResult_85 rfl (lv_at hl 2 rfl) ?_
      refine fw_idiv E (by omega) (by omega) (by omega) (by omega) (by omega) dX5_pairResult_86 ?_
      refine fw_iret E hr hlk hH ?_ dX5_pairResult_87
      exact ⟨congrArg iI (by simp [prR] <;> omega), rfl, hz⟩
    · refine lv_iload_n E.1 E.2.1 dX5_pairResult_80 rfl (lv_at hl 1 rfl) ?_
      refine lv_goto (tgt := 87) E.1 E.2.1 dX5_pairResult_81 (by decide) ?_
      refine fw_iret E hr hlk hH ?_ dX5_pairResult_87
      exact ⟨congrArg iI (by simp [prR] <;> omega), rfl, hz⟩
  · refine lv_tableIn (off := 87) (tgt := 88) E.1 E.2.1 dX5_pairResult_1 (by decide) (by decide) (by decide +kernel) (by decide) ?_
    refine lv_iload_n E.1 E.2.1 dX5_pairResult_88 rfl (lv_at hl 1 rfl) ?_
    refine lv_iload_n E.1 E.2.1 dX5_pairResult_89 rfl (lv_at hl 2 rfl) ?_
    refine fw_icmp_ge (tgt := 97) E dX5_pairResult_90 (by decide) (by omega) (by omega) (by omega) (by omega) (fun c2 => ?_) (fun c2 => ?_)
    · refine lv_iload_n E.1 E.2.1 dX5_pairResult_97 rfl (lv_at hl 2 rfl) ?_
      refine fw_iret E hr hlk hH ?_ dX5_pairResult_98
      exact ⟨congrArg iI (by simp [prR] <;> omega), rfl, hz⟩
    · refine lv_iload_n E.1 E.2.1 dX5_pairResult_93 rfl (lv_at hl 1 rfl) ?_
      refine lv_goto (tgt := 98) E.1 E.2.1 dX5_pairResult_94 (by decide) ?_
      refine fw_iret E hr hlk hH ?_ dX5_pairResult_98
      exact ⟨congrArg iI (by simp [prR] <;> omega), rfl, hz⟩
  · refine lv_tableIn (off := 98) (tgt := 99) E.1 E.2.1 dX5_pairResult_1 (by decide) (by decide) (by decide +kernel) (by decide) ?_
    refine lv_iload_n E.1 E.2.1 dX5_pairResult_99 rfl (lv_at hl 1 rfl) ?_
    refine lv_iload_n E.1 E.2.1 dX5_pairResult_100 rfl (lv_at hl 2 rfl) ?_
    refine fw_icmp_le (tgt := 108) E dX5_pairResult_101 (by decide) (by omega) (by omega) (by omega) (by omega) (fun c3 => ?_) (fun c3 => ?_)
    · refine lv_iload_n E.1 E.2.1 dX5_pairResult_108 rfl (lv_at hl 2 rfl) ?_
      refine fw_iret E hr hlk hH ?_ dX5_pairResult_109
      exact ⟨congrArg iI (by simp [prR] <;> omega), rfl, hz⟩
    · refine lv_iload_n E.1 E.2.1 dX5_pairResult_104 rfl (lv_at hl 1 rfl) ?_
      refine lv_goto (tgt := 109) E.1 E.2.1 dX5_pairResult_105 (by decide) ?_
      refine fw_iret E hr hlk hH ?_ dX5_pairResult_109
      exact ⟨congrArg iI (by simp [prR] <;> omega), rfl, hz⟩
  · refine lv_tableIn (off := 109) (tgt := 110) E.1 E.2.1 dX5_pairResult_1 (by decide) (by decide) (by decide +kernel) (by decide) ?_
    refine lv_iload_n E.1 E.2.1 dX5_pairResult_110 rfl (lv_at hl 1 rfl) ?_
    refine lv_iload_n E.1 E.2.1 dX5_pairResult_111 rfl (lv_at hl 2 rfl) ?_
    refine fw_icmp_ge (tgt := 119) E dX5_pairResult_112 (by decide) (by omega) (by omega) (by omega) (by omega) (fun c4 => ?_) (fun c4 => ?_)
    · refine lv_iconst (v := iI 0) E.1 E.2.1 dX5_pairResult_119 (by decide) ?_
      refine fw_iret E hr hlk hH ?_ dX5_pairResult_120
      exact ⟨congrArg iI (by simp [prR] <;> omega), rfl, hz⟩
    · refine lv_iconst (v := iI 1) E.1 E.2.1 dX5_pairResult_115 (by decide) ?_
      refine lv_goto (tgt := 120) E.1 E.2.1 dX5_pairResult_116 (by decide) ?_
      refine fw_iret E hr hlk hH ?_ dX5_pairResult_120
      exact ⟨congrArg iI (by simp [prR] <;> omega), rfl, hz⟩
  · refine lv_tableIn (off := 120) (tgt := 121) E.1 E.2.1 dX5_pairResult_1 (by decide) (by decide) (by decide +kernel) (by decide) ?_
    refine lv_iload_n E.1 E.2.1 dX5_pairResult_121 rfl (lv_at hl 1 rfl) ?_
    refine lv_iload_n E.1 E.2.1 dX5_pairResult_122 rfl (lv_at hl 2 rfl) ?_
    refine fw_icmp_ne (tgt := 130) E dX5_pairResult_123 (by decide) (by omega) (by omega) (by omega) (by omega) (fun c5 => ?_) (fun c5 => ?_)
    · refine lv_iconst (v := iI 0) E.1 E.2.1 dX5_pairResult_130 (by decide) ?_
      refine fw_iret E hr hlk hH ?_ dX5_pairResult_131
      exact ⟨congrArg iI (by simp [prR] <;> omega), rfl, hz⟩
    · refine lv_iconst (v := iI 1) E.1 E.2.1 dX5_pairResult_126 (by decide) ?_
      refine lv_goto (tgt := 131) E.1 E.2.1 dX5_pairResult_127 (by decide) ?_
      refine fw_iret E hr hlk hH ?_ dX5_pairResult_131
      exact ⟨congrArg iI (by simp [prR] <;> omega), rfl, hz⟩
  · refine lv_tableIn (off := 87) (tgt := 88) E.1 E.2.1 dX5_pairResult_1 (by decide) (by decide) (by decide +kernel) (by decide) ?_
    refine lv_iload_n E.1 E.2.1 dX5_pairResult_88 rfl (lv_at hl 1 rfl) ?_
    refine lv_iload_n E.1 E.2.1 dX5_pairResult_89 rfl (lv_at hl 2 rfl) ?_
    refine fw_icmp_ge (tgt := 97) E dX5_pairResult_90 (by decide) (by omega) (by omega) (by omega) (by omega) (fun c6 => ?_) (fun c6 => ?_)
    · refine lv_iload_n E.1 E.2.1 dX5_pairResult_97 rfl (lv_at hl 2 rfl) ?_
      refine fw_iret E hr hlk hH ?_ dX5_pairResult_98
      exact ⟨congrArg iI (by simp [prR] <;> omega), rfl, hz⟩
    · refine lv_iload_n E.1 E.2.1 dX5_pairResult_93 rfl (lv_at hl 1 rfl) ?_
      refine lv_goto (tgt := 98) E.1 E.2.1 dX5_pairResult_94 (by decide) ?_
      refine fw_iret E hr hlk hH ?_ dX5_pairResult_98
      exact ⟨congrArg iI (by simp [prR] <;> omega), rfl, hz⟩
  · refine lv_tableIn (off := 98) (tgt := 99) E.1 E.2.1 dX5_pairResult_1 (by decide) (by decide) (by decide +kernel) (by decide) ?_
    refine lv_iload_n E.1 E.2.1 dX5_pairResult_99 rfl (lv_at hl 1 rfl) ?_
    refine lv_iload_n E.1 E.2.1 dX5_pairResult_100 rfl (lv_at hl 2 rfl) ?_
    refine fw_icmp_le (tgt := 108) E dX5_pairResult_101 (by decide) (by omega) (by omega) (by omega) (by omega) (fun c7 => ?_) (fun c7 => ?_)
    · refine lv_iload_n E.1 E.2.1 dX5_pairResult_108 rfl (lv_at hl 2 rfl) ?_
      refine fw_iret E hr hlk hH ?_ dX5_pairResult_109
      exact ⟨congrArg iI (by simp [prR] <;> omega), rfl, hz⟩
    · refine lv_iload_n E.1 E.2.1 dX5_pairResult_104 rfl (lv_at hl 1 rfl) ?_
      refine lv_goto (tgt := 109) E.1 E.2.1 dX5_pairResult_105 (by decide) ?_
      refine fw_iret E hr hlk hH ?_ dX5_pairResult_109
      exact ⟨congrArg iI (by simp [prR] <;> omega), rfl, hz⟩
  · refine lv_tableIn (off := 131) (tgt := 132) E.1 E.2.1 dX5_pairResult_1 (by decide) (by decide) (by decide +kernel) (by decide) ?_
    refine lv_iconst (v := iI 1) E.1 E.2.1 dX5_pairResult_132 (by decide) ?_
    refine lv_iload_n E.1 E.2.1 dX5_pairResult_133 rfl (lv_at hl 1 rfl) ?_
    refine fw_isub E dX5_pairResult_134 ?_
    refine fw_iret E hr hlk hH ?_ dX5_pairResult_135
    exact ⟨congrArg iI (by simp [prR]), rfl, hz⟩

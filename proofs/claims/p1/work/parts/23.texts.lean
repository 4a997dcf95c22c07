theorem sByt_all : ∀ i, i < 5 → ∀ k, k < sLen i → (sByt i).getD k 0 = iI 99 ∨ (sByt i).getD k 0 = iI 110 := by
  intro i hi k hk
  rcases (show i = 0 ∨ i = 1 ∨ i = 2 ∨ i = 3 ∨ i = 4 by omega) with rfl | rfl | rfl | rfl | rfl
  · exact absurd hk (Nat.not_lt_zero k)
  · have h2 : k < 2 := hk
    rcases (show k = 0 ∨ k = 1 by omega) with rfl | rfl <;> exact Or.inr rfl
  · have h2 : k < 3 := hk
    rcases (show k = 0 ∨ k = 1 ∨ k = 2 by omega) with rfl | rfl | rfl
    · exact Or.inl rfl
    · exact Or.inr rfl
    · exact Or.inr rfl
  · have h2 : k < 1 := hk
    rcases (show k = 0 by omega) with rfl
    exact Or.inl rfl
  · have h2 : k < 2 := hk
    rcases (show k = 0 ∨ k = 1 by omega) with rfl | rfl <;> exact Or.inl rfl
theorem sLen_le (i : Nat) (hi : i < 5) : sLen i ≤ 3 := by
  rcases (show i = 0 ∨ i = 1 ∨ i = 2 ∨ i = 3 ∨ i = 4 by omega) with rfl | rfl | rfl | rfl | rfl <;> decide
theorem j_coder (l : Launch) (G : fw_G) (M : fw_M) (N : Nat) (i : Nat) (hi : i < 5) : fMet l yJ0_coder_7d493 cJ0_coder_7d493 1 (some .byte) 0 0 0 0 G M N [.ref (G.2.2.2.2 (30 + i))] (fw_pi (fun r M1 n1 => r = iI 0 ∧ M1 = M ∧ n1 = N)) := by
  refine fw_met RJ0 rfl (by decide +kernel) (Nat.le_of_ble_eq_true rfl) ?_
  intro p e s m args below meth c ls E hr hlk hnm hK hH hz hl
  have hT2 := hK.me.2.2.2.2.2.2.2.2
  refine fw_gets E hH hT2.1 ql_RJ0_38 dJ0_coder_7d493_0 ?_
  refine fw_cv (y := iI 1) (by decide) ?_
  refine fw_if_eq (tgt := 13) E dJ0_coder_7d493_3 (by decide) (by omega) (by omega) (fun c1 => ?_) (fun c1 => ?_)
  · exact absurd c1 (by omega)
  · refine lv_aload_n E.1 E.2.1 dJ0_coder_7d493_6 rfl (lv_at hl 0 rfl) ?_
    refine fw_getX E hH (hT2.2.2.1 i hi).2.1 ql_RJ0_15 dJ0_coder_7d493_7 ?_
    refine lv_goto (tgt := 14) E.1 E.2.1 dJ0_coder_7d493_10 (by decide) ?_
    refine fw_zret (r := 0) E hr hlk hH (by rfl) ?_ dJ0_coder_7d493_14
    exact ⟨rfl, rfl, hz⟩
theorem j_isLatin1 (l : Launch) (G : fw_G) (M : fw_M) (N : Nat) (i : Nat) (hi : i < 5) : fMet l yJ0_isLatin1_aae02 cJ0_isLatin1_aae02 1 (some .boolean) 0 0 0 0 G M N [.ref (G.2.2.2.2 (30 + i))] (fw_pi (fun r M1 n1 => r = iI 1 ∧ M1 = M ∧ n1 = N)) := by
  refine fw_met RJ0 rfl (by decide +kernel) (Nat.le_of_ble_eq_true rfl) ?_
  intro p e s m args below meth c ls E hr hlk hnm hK hH hz hl
  have hT2 := hK.me.2.2.2.2.2.2.2.2
  refine fw_gets E hH hT2.1 ql_RJ0_38 dJ0_isLatin1_aae02_0 ?_
  refine fw_cv (y := iI 1) (by decide) ?_
  refine fw_if_eq (tgt := 17) E dJ0_isLatin1_aae02_3 (by decide) (by omega) (by omega) (fun c1 => ?_) (fun c1 => ?_)
  · exact absurd c1 (by omega)
  · refine lv_aload_n E.1 E.2.1 dJ0_isLatin1_aae02_6 rfl (lv_at hl 0 rfl) ?_
    refine fw_getX E hH (hT2.2.2.1 i hi).2.1 ql_RJ0_15 dJ0_isLatin1_aae02_7 ?_
    refine fw_cv (y := iI 0) (by decide) ?_
    refine fw_if_ne (tgt := 17) E dJ0_isLatin1_aae02_10 (by decide) (by omega) (by omega) (fun c2 => ?_) (fun c2 => ?_)
    · exact absurd c2 (by omega)
    · refine lv_iconst (v := iI 1) E.1 E.2.1 dJ0_isLatin1_aae02_13 (by decide) ?_
      refine lv_goto (tgt := 18) E.1 E.2.1 dJ0_isLatin1_aae02_14 (by decide) ?_
      refine fw_zret (r := iI 1) E hr hlk hH (by rfl) ?_ dJ0_isLatin1_aae02_18
      exact ⟨rfl, rfl, hz⟩
theorem j_length (l : Launch) (G : fw_G) (M : fw_M) (N : Nat) (i : Nat) (hi : i < 5) : fMet l yJ0_length_8abf5 cJ0_length_8abf5 1 (some .int) 1 30 0 0 G M N [.ref (G.2.2.2.2 (30 + i))] (fw_pi (fun r M1 n1 => r = iI (sLen i) ∧ M1 = M ∧ n1 = N)) := by
  refine fw_met RJ0 rfl (by decide +kernel) (Nat.le_of_ble_eq_true rfl) ?_
  intro p e s m args below meth c ls E hr hlk hnm hK hH hz hl
  have hT2 := hK.me.2.2.2.2.2.2.2.2
  refine lv_aload_n E.1 E.2.1 dJ0_length_8abf5_0 rfl (lv_at hl 0 rfl) ?_
  refine fw_getX E hH (hT2.2.2.1 i hi).2.2.1 ql_RJ0_9 dJ0_length_8abf5_1 ?_
  refine fw_tlen E hH (hT2.2.2.1 i hi).2.2.2 (v := iI (sLen i)) rfl dJ0_length_8abf5_4 ?_
  refine lv_aload_n E.1 E.2.1 dJ0_length_8abf5_5 rfl (lv_at hl 0 rfl) ?_
  refine fw_cVX (As := []) (rest := [.int (iI (sLen i))]) E hK hH hl (hT2.2.2.1 i hi).1 fL_J0_coder_7d493 ql_RJ0_335 qi_yJ0_coder_7d493 qv_yJ0_coder_7d493 (j_coder l G _ _ i hi) rfl rfl (Nat.le_of_ble_eq_true rfl) ⟨Nat.le_of_ble_eq_true rfl, Nat.le_of_ble_eq_true rfl⟩ ⟨Nat.le_of_ble_eq_true rfl, Nat.le_of_ble_eq_true rfl⟩ dJ0_length_8abf5_6 (fw_ki fun r M1 H1 locs1 hp hH hz1 => ?_)
  obtain ⟨rfl, hM9, hz2⟩ := hp
  replace hz := hz2.trans hz
  clear hz1 hz2
  rw [hM9] at hH
  refine lv_ishr E.1 E.2.1 dJ0_length_8abf5_9 ?_
  refine fw_cv (y := iI (sLen i)) (by rcases (show i = 0 ∨ i = 1 ∨ i = 2 ∨ i = 3 ∨ i = 4 by omega) with rfl | rfl | rfl | rfl | rfl <;> decide) ?_
  refine fw_iret E hr hlk hH ?_ dJ0_length_8abf5_10
  exact ⟨rfl, rfl, hz⟩
theorem j_preCheck (l : Launch) (G : fw_G) (M : fw_M) (N : Nat) (x y : Int) (v : Value) (hx : 0 ≤ x ∧ x < y) (hy : y < 2147483648) (hv : v = .null ∨ ∃ t : Nat, v = .ref t) : fMet l yJ3_checkIndex_8e157 cJ3_checkIndex_8e157 3 (some .int) 0 0 0 0 G M N [.int (iI x), .int (iI y), v] (fw_pi (fun r M1 n1 => r = iI x ∧ M1 = M ∧ n1 = N)) := by
  rcases hv with rfl | ⟨t, rfl⟩
  · refine fw_met RJ3 rfl (by decide +kernel) (Nat.le_of_ble_eq_true rfl) ?_
    intro p e s m args below meth c ls E hr hlk hnm hK hH hz hl
    refine lv_iload_n E.1 E.2.1 dJ3_checkIndex_8e157_0 rfl (lv_at hl 0 rfl) ?_
    refine fw_if_lt (tgt := 9) E dJ3_checkIndex_8e157_1 (by decide) (by omega) (by omega) (fun c1 => ?_) (fun c1 => ?_)
    · exact absurd c1 (by omega)
    · refine lv_iload_n E.1 E.2.1 dJ3_checkIndex_8e157_4 rfl (lv_at hl 0 rfl) ?_
      refine lv_iload_n E.1 E.2.1 dJ3_checkIndex_8e157_5 rfl (lv_at hl 1 rfl) ?_
      refine fw_icmp_lt (tgt := 16) E dJ3_checkIndex_8e157_6 (by decide) (by omega) (by omega) (by omega) (by omega) (fun c2 => ?_) (fun c2 => ?_)
      · refine lv_iload_n E.1 E.2.1 dJ3_checkIndex_8e157_16 rfl (lv_at hl 0 rfl) ?_
        refine fw_iret E hr hlk hH ?_ dJ3_checkIndex_8e157_17
        exact ⟨rfl, rfl, hz⟩
      · exact absurd c2 (by omega)
  · refine fw_met RJ3 rfl (by decide +kernel) (Nat.le_of_ble_eq_true rfl) ?_
    intro p e s m args below meth c ls E hr hlk hnm hK hH hz hl
    refine lv_iload_n E.1 E.2.1 dJ3_checkIndex_8e157_0 rfl (lv_at hl 0 rfl) ?_
    refine fw_if_lt (tgt := 9) E dJ3_checkIndex_8e157_1 (by decide) (by omega) (by omega) (fun c1 => ?_) (fun c1 => ?_)
    · exact absurd c1 (by omega)
    · refine lv_iload_n E.1 E.2.1 dJ3_checkIndex_8e157_4 rfl (lv_at hl 0 rfl) ?_
      refine lv_iload_n E.1 E.2.1 dJ3_checkIndex_8e157_5 rfl (lv_at hl 1 rfl) ?_
      refine fw_icmp_lt (tgt := 16) E dJ3_checkIndex_8e157_6 (by decide) (by omega) (by omega) (by omega) (by omega) (fun c2 => ?_) (fun c2 => ?_)
      · refine lv_iload_n E.1 E.2.1 dJ3_checkIndex_8e157_16 rfl (lv_at hl 0 rfl) ?_
        refine fw_iret E hr hlk hH ?_ dJ3_checkIndex_8e157_17
        exact ⟨rfl, rfl, hz⟩
      · exact absurd c2 (by omega)
theorem j_checkIndex (l : Launch) (G : fw_G) (M : fw_M) (N : Nat) (x y : Int) (hx : 0 ≤ x ∧ x < y) (hy : y < 2147483648) : fMet l yJ0_checkIndex_df160 cJ0_checkIndex_df160 2 none 1 30 0 0 G M N [.int (iI x), .int (iI y)] (fw_pv (fun M1 n1 => M1 = M ∧ n1 = N)) := by
  refine fw_met RJ0 rfl (by decide +kernel) (Nat.le_of_ble_eq_true rfl) ?_
  intro p e s m args below meth c ls E hr hlk hnm hK hH hz hl
  have hT2 := hK.me.2.2.2.2.2.2.2.2
  refine lv_iload_n E.1 E.2.1 dJ0_checkIndex_df160_0 rfl (lv_at hl 0 rfl) ?_
  refine lv_iload_n E.1 E.2.1 dJ0_checkIndex_df160_1 rfl (lv_at hl 1 rfl) ?_
  obtain ⟨v, hv, hZ⟩ : ∃ v : Value, (v = .null ∨ ∃ t : Nat, v = .ref t) ∧ va_Z "jdk/internal/util/Preconditions" "SIOOBE_FORMATTER" "Ljava/util/function/BiFunction;" v (fun q => G.2.2.1 ≤ q) s G.2.2.2.1 := by
    rcases hT2.2.1 with h | ⟨t, h⟩
    · exact ⟨_, Or.inl rfl, h⟩
    · exact ⟨_, Or.inr ⟨t, rfl⟩, h⟩
  refine fw_gets E hH hZ ql_RJ0_1053 dJ0_checkIndex_df160_2 ?_
  refine fw_cS (As := [.int (iI x), .int (iI y), v]) (rest := []) E hK hH hl fL_J3_checkIndex_8e157 ql_RJ0_1059 qs_yJ3_checkIndex_8e157 (j_preCheck l G _ _ x y v hx hy hv) rfl rfl (Nat.le_of_ble_eq_true rfl) ⟨Nat.le_of_ble_eq_true rfl, Nat.le_of_ble_eq_true rfl⟩ ⟨Nat.le_of_ble_eq_true rfl, Nat.le_of_ble_eq_true rfl⟩ dJ0_checkIndex_df160_5 (fw_ki fun r M1 H1 locs1 hp hH hz1 => ?_)
  obtain ⟨rfl, hM9, hz2⟩ := hp
  replace hz := hz2.trans hz
  clear hz1 hz2
  rw [hM9] at hH
  refine lv_pop E.1 E.2.1 dJ0_checkIndex_df160_8 rfl ?_
  refine fw_vret E hr hlk hH ?_ dJ0_checkIndex_df160_9
  exact ⟨rfl, hz⟩
theorem j_char1 (l : Launch) (G : fw_G) (M : fw_M) (N : Nat) (i k : Nat) (z : Int) (hi : i < 5) (hk : k < sLen i) (hz0 : z = ↑k) : fMet l yJ1_charAt_3b067 cJ1_charAt_3b067 2 (some .char) 2 60 0 0 G M N [.ref (G.2.2.2.2 (40 + i)), .int (iI z)] (fw_pi (fun r M1 n1 => (r = iI 99 ∨ r = iI 110) ∧ M1 = M ∧ n1 = N)) := by
  refine fw_met RJ1 rfl (by decide +kernel) (Nat.le_of_ble_eq_true rfl) ?_
  intro p e s m args below meth c ls E hr hlk hnm hK hH hz hl
  have hT2 := hK.me.2.2.2.2.2.2.2.2
  have h3 := sLen_le i hi
  refine lv_iload_n E.1 E.2.1 dJ1_charAt_3b067_0 rfl (lv_at hl 1 rfl) ?_
  refine lv_aload_n E.1 E.2.1 dJ1_charAt_3b067_1 rfl (lv_at hl 0 rfl) ?_
  refine fw_tlen E hH (hT2.2.2.1 i hi).2.2.2 (v := iI (sLen i)) rfl dJ1_charAt_3b067_2 ?_
  refine fw_cS (As := [.int (iI z), .int (iI (sLen i))]) (rest := []) E hK hH hl fL_J0_checkIndex_df160 ql_RJ1_9 qs_yJ0_checkIndex_df160 (j_checkIndex l G _ _ z (sLen i) (by omega) (by omega)) rfl rfl (Nat.le_of_ble_eq_true rfl) ⟨Nat.le_of_ble_eq_true rfl, Nat.le_of_ble_eq_true rfl⟩ ⟨Nat.le_of_ble_eq_true rfl, Nat.le_of_ble_eq_true rfl⟩ dJ1_charAt_3b067_3 (fw_kv fun M1 H1 locs1 hp hH hz1 => ?_)
  obtain ⟨hM9, hz2⟩ := hp
  replace hz := hz2.trans hz
  clear hz1 hz2
  rw [hM9] at hH
  refine lv_aload_n E.1 E.2.1 dJ1_charAt_3b067_6 rfl (lv_at hl 0 rfl) ?_
  refine lv_iload_n E.1 E.2.1 dJ1_charAt_3b067_7 rfl (lv_at hl 1 rfl) ?_
  refine fw_tb E hH (hT2.2.2.1 i hi).2.2.2 (v := .int ((sByt i).getD k 0)) (iI_in (by omega) (by omega) (by omega)) (by rw [iI_ix (by omega) (by omega), hz0]; rfl) dJ1_charAt_3b067_8 ?_
  refine lv_sipush (v := iI 255) E.1 E.2.1 dJ1_charAt_3b067_9 (by decide) ?_
  refine lv_iand E.1 E.2.1 dJ1_charAt_3b067_12 ?_
  rcases sByt_all i hi k hk with h | h
  · rw [h]
    refine lv_i2c (v := iI 99) E.1 E.2.1 dJ1_charAt_3b067_13 (by decide) ?_
    refine fw_zret (r := iI 99) E hr hlk hH (by rfl) ?_ dJ1_charAt_3b067_14
    exact ⟨Or.inl rfl, rfl, hz⟩
  · rw [h]
    refine lv_i2c (v := iI 110) E.1 E.2.1 dJ1_charAt_3b067_13 (by decide) ?_
    refine fw_zret (r := iI 110) E hr hlk hH (by rfl) ?_ dJ1_charAt_3b067_14
    exact ⟨Or.inr rfl, rfl, hz⟩
theorem j_charAt (l : Launch) (G : fw_G) (M : fw_M) (N : Nat) (i k : Nat) (z : Int) (hi : i < 5) (hk : k < sLen i) (hz0 : z = ↑k) : fMet l yJ0_charAt_5068e cJ0_charAt_5068e 2 (some .char) 3 90 0 0 G M N [.ref (G.2.2.2.2 (30 + i)), .int (iI z)] (fw_pi (fun r M1 n1 => (∃ y : Int, r = iI y ∧ (y = 99 ∨ y = 110)) ∧ M1 = M ∧ n1 = N)) := by
  refine fw_met RJ0 rfl (by decide +kernel) (Nat.le_of_ble_eq_true rfl) ?_
  intro p e s m args below meth c ls E hr hlk hnm hK hH hz hl
  have hT2 := hK.me.2.2.2.2.2.2.2.2
  have h3 := sLen_le i hi
  refine lv_aload_n E.1 E.2.1 dJ0_charAt_5068e_0 rfl (lv_at hl 0 rfl) ?_
  refine fw_cVX (As := []) (rest := []) E hK hH hl (hT2.2.2.1 i hi).1 fL_J0_isLatin1_aae02 ql_RJ0_492 qi_yJ0_isLatin1_aae02 qv_yJ0_isLatin1_aae02 (j_isLatin1 l G _ _ i hi) rfl rfl (Nat.le_of_ble_eq_true rfl) ⟨Nat.le_of_ble_eq_true rfl, Nat.le_of_ble_eq_true rfl⟩ ⟨Nat.le_of_ble_eq_true rfl, Nat.le_of_ble_eq_true rfl⟩ dJ0_charAt_5068e_1 (fw_ki fun r M1 H1 locs1 hp hH hz1 => ?_)
  obtain ⟨rfl, hM9, hz2⟩ := hp
  replace hz := hz2.trans hz
  clear hz1 hz2
  rw [hM9] at hH
  refine fw_if_eq (tgt := 16) E dJ0_charAt_5068e_4 (by decide) (by omega) (by omega) (fun c1 => ?_) (fun c1 => ?_)
  · exact absurd c1 (by omega)
  · refine lv_aload_n E.1 E.2.1 dJ0_charAt_5068e_7 rfl (lv_at hl 0 rfl) ?_
    refine fw_getX E hH (hT2.2.2.1 i hi).2.2.1 ql_RJ0_9 dJ0_charAt_5068e_8 ?_
    refine lv_iload_n E.1 E.2.1 dJ0_charAt_5068e_11 rfl (lv_at hl 1 rfl) ?_
    refine fw_cS (As := [.ref (G.2.2.2.2 (40 + i)), .int (iI z)]) (rest := []) E hK hH hl fL_J1_charAt_3b067 ql_RJ0_495 qs_yJ1_charAt_3b067 (j_char1 l G _ _ i k z hi hk hz0) rfl rfl (Nat.le_of_ble_eq_true rfl) ⟨Nat.le_of_ble_eq_true rfl, Nat.le_of_ble_eq_true rfl⟩ ⟨Nat.le_of_ble_eq_true rfl, Nat.le_of_ble_eq_true rfl⟩ dJ0_charAt_5068e_12 (fw_ki fun r M1 H1 locs1 hp hH hz1 => ?_)
    obtain ⟨hr9, hM9, hz2⟩ := hp
    replace hz := hz2.trans hz
    clear hz1 hz2
    rw [hM9] at hH
    rcases hr9 with rfl | rfl
    · refine fw_zret (r := iI 99) E hr hlk hH (by rfl) ?_ dJ0_charAt_5068e_15
      exact ⟨⟨_, rfl, Or.inl rfl⟩, rfl, hz⟩
    · refine fw_zret (r := iI 110) E hr hlk hH (by rfl) ?_ dJ0_charAt_5068e_15
      exact ⟨⟨_, rfl, Or.inr rfl⟩, rfl, hz⟩

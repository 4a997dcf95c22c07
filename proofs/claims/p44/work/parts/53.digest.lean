set_option maxHeartbeats 2000000 in
theorem b_digest (l : Launch) (G : fw_G) (M : fw_M) (N : Nat) (b o cn : Nat) (lk gn mi : Int) (T : Nat → aT) (j : aJ) (ra : aR) (hW : bnR G M b o cn lk gn mi T j ra) (hO : bnO cn lk T j ra) (hE : skE G M (b + 1)) : fMet l yX9_digest cX9_digest 4 (some .long) 7 240 0 0 G M N [.ref b] (fw_pl (fun r M1 n1 => r = dgA cn lk gn mi T j ∧ bnR G M1 b o cn lk gn mi T j ra ∧ (∀ q, q < b + 9 ∨ b + 378 ≤ q → M1 q = M q) ∧ n1 = N)) := by
  refine fw_met RX9 rfl (by decide +kernel) (Nat.le_of_ble_eq_true rfl) ?_
  intro pG e s m args below meth cG ls E hr hlk hnm hK hH hz hl
  obtain ⟨hbn, hJ, hK1, hB, hQ, ⟨rs6, hS6⟩, ⟨ip5, rs5, hR5⟩, hG, hY, hX, hZ⟩ := hW
  obtain ⟨hj, hr9, hlu, hTk⟩ := hO
  obtain ⟨hgb, ho1, hcn⟩ := hG.o1
  obtain ⟨cs9, vs9, ss9, hs9, nd9, lw9, lv9, ⟨-, k0, k1, -, -⟩, -, -⟩ := hE
  refine lv_ldc2 E.1 E.2.1 E.2.2.2.1 (E.2.2.2.2 _ ql_RX9_289) dX9_digest_0 ?_
  refine lv_lstore_n (lv' := [(1, .long 58042), (0, .ref b)]) E.1 E.2.1 dX9_digest_3 rfl hl (by decide) rfl (fun ls hl => ?_)
  refine lv_lload_n E.1 E.2.1 dX9_digest_4 rfl (lv_at hl 0 rfl) ?_
  refine lv_ldc2 E.1 E.2.1 E.2.2.2.1 (E.2.2.2.2 _ ql_RX9_291) dX9_digest_5 ?_
  refine lv_lmul E.1 E.2.1 dX9_digest_8 ?_
  refine lv_aload_n E.1 E.2.1 dX9_digest_9 rfl (lv_at hl 1 rfl) ?_
  refine fw_get E hK hH hbn.2 fc_X9 0 (by decide) ql_RX9_10 rfl rfl dX9_digest_10 ?_
  refine fw_getN E hK hH k0 fc_X7 0 (by decide) ql_RX9_90 rfl rfl dX9_digest_13 ?_
  refine fw_getN E hK hH k1.2.1 fc_X8 4 (by decide) ql_RX9_93 rfl rfl dX9_digest_16 ?_
  refine lv_i2l (v := (iI 0).toInt64) E.1 E.2.1 dX9_digest_19 rfl ?_
  refine lv_ladd E.1 E.2.1 dX9_digest_20 ?_
  refine lv_lstore_n (lv' := [(1, .long ((58042 * 31) + (iI 0).toInt64)), (0, .ref b)]) E.1 E.2.1 dX9_digest_21 rfl hl (by decide) rfl (fun ls hl => ?_)
  refine lv_lload_n E.1 E.2.1 dX9_digest_22 rfl (lv_at hl 0 rfl) ?_
  refine lv_ldc2 E.1 E.2.1 E.2.2.2.1 (E.2.2.2.2 _ ql_RX9_291) dX9_digest_23 ?_
  refine lv_lmul E.1 E.2.1 dX9_digest_26 ?_
  refine lv_aload_n E.1 E.2.1 dX9_digest_27 rfl (lv_at hl 1 rfl) ?_
  refine fw_get E hK hH hbn.2 fc_X9 6 (by decide) ql_RX9_54 rfl rfl dX9_digest_28 ?_
  refine fw_getN E hK hH hG.2.1 fc_X2 4 (by decide) ql_RX9_99 rfl rfl dX9_digest_31 ?_
  refine lv_i2l (v := (iI (↑cn)).toInt64) E.1 E.2.1 dX9_digest_34 rfl ?_
  refine lv_ladd E.1 E.2.1 dX9_digest_35 ?_
  refine lv_lstore_n (lv' := [(1, .long ((((58042 * 31) + (iI 0).toInt64) * 31) + (iI (↑cn)).toInt64)), (0, .ref b)]) E.1 E.2.1 dX9_digest_36 rfl hl (by decide) rfl (fun ls hl => ?_)
  refine lv_lload_n E.1 E.2.1 dX9_digest_37 rfl (lv_at hl 0 rfl) ?_
  refine lv_ldc2 E.1 E.2.1 E.2.2.2.1 (E.2.2.2.2 _ ql_RX9_291) dX9_digest_38 ?_
  refine lv_lmul E.1 E.2.1 dX9_digest_41 ?_
  refine lv_aload_n E.1 E.2.1 dX9_digest_42 rfl (lv_at hl 1 rfl) ?_
  refine fw_get E hK hH hbn.2 fc_X9 1 (by decide) ql_RX9_19 rfl rfl dX9_digest_43 ?_
  refine fw_getN E hK hH hJ.c fc_X3 5 (by decide) ql_RX9_125 rfl rfl dX9_digest_46 ?_
  refine lv_i2l (v := (iI (↑j.2.2.2.2.1)).toInt64) E.1 E.2.1 dX9_digest_49 rfl ?_
  refine lv_ladd E.1 E.2.1 dX9_digest_50 ?_
  refine lv_lstore_n (lv' := [(1, .long ((((((58042 * 31) + (iI 0).toInt64) * 31) + (iI (↑cn)).toInt64) * 31) + (iI (↑j.2.2.2.2.1)).toInt64)), (0, .ref b)]) E.1 E.2.1 dX9_digest_51 rfl hl (by decide) rfl (fun ls hl => ?_)
  refine lv_lload_n E.1 E.2.1 dX9_digest_52 rfl (lv_at hl 0 rfl) ?_
  refine lv_ldc2 E.1 E.2.1 E.2.2.2.1 (E.2.2.2.2 _ ql_RX9_291) dX9_digest_53 ?_
  refine lv_lmul E.1 E.2.1 dX9_digest_56 ?_
  refine lv_aload_n E.1 E.2.1 dX9_digest_57 rfl (lv_at hl 1 rfl) ?_
  refine fw_get E hK hH hbn.2 fc_X9 6 (by decide) ql_RX9_54 rfl rfl dX9_digest_58 ?_
  refine fw_getN E hK hH hG.2.1 fc_X2 5 (by decide) ql_RX9_280 rfl rfl dX9_digest_61 ?_
  refine lv_i2l (v := (iI gn).toInt64) E.1 E.2.1 dX9_digest_64 rfl ?_
  refine lv_ladd E.1 E.2.1 dX9_digest_65 ?_
  refine lv_lstore_n (lv' := [(1, .long ((((((((58042 * 31) + (iI 0).toInt64) * 31) + (iI (↑cn)).toInt64) * 31) + (iI (↑j.2.2.2.2.1)).toInt64) * 31) + (iI gn).toInt64)), (0, .ref b)]) E.1 E.2.1 dX9_digest_66 rfl hl (by decide) rfl (fun ls hl => ?_)
  refine lv_lload_n E.1 E.2.1 dX9_digest_67 rfl (lv_at hl 0 rfl) ?_
  refine lv_ldc2 E.1 E.2.1 E.2.2.2.1 (E.2.2.2.2 _ ql_RX9_291) dX9_digest_68 ?_
  refine lv_lmul E.1 E.2.1 dX9_digest_71 ?_
  refine lv_aload_n E.1 E.2.1 dX9_digest_72 rfl (lv_at hl 1 rfl) ?_
  refine fw_get E hK hH hbn.2 fc_X9 6 (by decide) ql_RX9_54 rfl rfl dX9_digest_73 ?_
  refine fw_getN E hK hH hG.2.1 fc_X2 6 (by decide) ql_RX9_283 rfl rfl dX9_digest_76 ?_
  refine lv_i2l (v := (iI mi).toInt64) E.1 E.2.1 dX9_digest_79 rfl ?_
  refine lv_ladd E.1 E.2.1 dX9_digest_80 ?_
  refine lv_lstore_n (lv' := [(1, .long ((((((((((58042 * 31) + (iI 0).toInt64) * 31) + (iI (↑cn)).toInt64) * 31) + (iI (↑j.2.2.2.2.1)).toInt64) * 31) + (iI gn).toInt64) * 31) + (iI mi).toInt64)), (0, .ref b)]) E.1 E.2.1 dX9_digest_81 rfl hl (by decide) rfl (fun ls hl => ?_)
  refine lv_lload_n E.1 E.2.1 dX9_digest_82 rfl (lv_at hl 0 rfl) ?_
  refine lv_ldc2 E.1 E.2.1 E.2.2.2.1 (E.2.2.2.2 _ ql_RX9_291) dX9_digest_83 ?_
  refine lv_lmul E.1 E.2.1 dX9_digest_86 ?_
  refine lv_aload_n E.1 E.2.1 dX9_digest_87 rfl (lv_at hl 1 rfl) ?_
  refine fw_get E hK hH hbn.2 fc_X9 6 (by decide) ql_RX9_54 rfl rfl dX9_digest_88 ?_
  refine fw_getN E hK hH hG.2.1 fc_X2 0 (by decide) ql_RX9_205 rfl rfl dX9_digest_91 ?_
  refine fw_getN E hK hH hG.d fc_X1 2 (by decide) ql_RX9_209 rfl rfl dX9_digest_94 ?_
  refine lv_i2l (v := (iI lk).toInt64) E.1 E.2.1 dX9_digest_97 rfl ?_
  refine lv_ladd E.1 E.2.1 dX9_digest_98 ?_
  refine lv_lstore_n (lv' := [(1, .long ((((((((((((58042 * 31) + (iI 0).toInt64) * 31) + (iI (↑cn)).toInt64) * 31) + (iI (↑j.2.2.2.2.1)).toInt64) * 31) + (iI gn).toInt64) * 31) + (iI mi).toInt64) * 31) + (iI lk).toInt64)), (0, .ref b)]) E.1 E.2.1 dX9_digest_99 rfl hl (by decide) rfl (fun ls hl => ?_)
  refine lv_lload_n E.1 E.2.1 dX9_digest_100 rfl (lv_at hl 0 rfl) ?_
  refine lv_ldc2 E.1 E.2.1 E.2.2.2.1 (E.2.2.2.2 _ ql_RX9_291) dX9_digest_101 ?_
  refine lv_lmul E.1 E.2.1 dX9_digest_104 ?_
  refine lv_aload_n E.1 E.2.1 dX9_digest_105 rfl (lv_at hl 1 rfl) ?_
  refine fw_get E hK hH hbn.2 fc_X9 6 (by decide) ql_RX9_54 rfl rfl dX9_digest_106 ?_
  refine fw_getN E hK hH hG.2.1 fc_X2 0 (by decide) ql_RX9_205 rfl rfl dX9_digest_109 ?_
  refine fw_getN E hK hH hG.d fc_X1 1 (by decide) ql_RX9_216 rfl rfl dX9_digest_112 ?_
  refine lv_i2l (v := (iI 0).toInt64) E.1 E.2.1 dX9_digest_115 rfl ?_
  refine lv_ladd E.1 E.2.1 dX9_digest_116 ?_
  refine lv_lstore_n (lv' := [(1, .long ((((((((((((((58042 * 31) + (iI 0).toInt64) * 31) + (iI (↑cn)).toInt64) * 31) + (iI (↑j.2.2.2.2.1)).toInt64) * 31) + (iI gn).toInt64) * 31) + (iI mi).toInt64) * 31) + (iI lk).toInt64) * 31) + (iI 0).toInt64)), (0, .ref b)]) E.1 E.2.1 dX9_digest_117 rfl hl (by decide) rfl (fun ls hl => ?_)
  refine lv_lload_n E.1 E.2.1 dX9_digest_118 rfl (lv_at hl 0 rfl) ?_
  refine lv_ldc2 E.1 E.2.1 E.2.2.2.1 (E.2.2.2.2 _ ql_RX9_291) dX9_digest_119 ?_
  refine lv_lmul E.1 E.2.1 dX9_digest_122 ?_
  refine lv_aload_n E.1 E.2.1 dX9_digest_123 rfl (lv_at hl 1 rfl) ?_
  refine fw_cV (As := []) (rest := [.long (((((((((((((((58042 * 31) + (iI 0).toInt64) * 31) + (iI (↑cn)).toInt64) * 31) + (iI (↑j.2.2.2.2.1)).toInt64) * 31) + (iI gn).toInt64) * 31) + (iI mi).toInt64) * 31) + (iI lk).toInt64) * 31) + (iI 0).toInt64) * 31)]) E hK hH hl hbn.2 fc_X9 fL_X9_different ql_RX9_293 qi_yX9_different qv_yX9_different (b_different l G _ _ b o cn lk gn mi T hbn hG hTk) rfl rfl (Nat.le_of_ble_eq_true rfl) ⟨Nat.le_of_ble_eq_true rfl, Nat.le_of_ble_eq_true rfl⟩ ⟨Nat.le_of_ble_eq_true rfl, Nat.le_of_ble_eq_true rfl⟩ dX9_digest_124 (fw_ki fun r3 M2 H1 locs1 hp1 hH hz1 => ?_)
  obtain ⟨rfl, hM9, hz2⟩ := hp1
  replace hz := hz2.trans hz
  clear hz1 hz2
  rw [hM9] at hH
  refine lv_i2l (v := (iI (↑(dfF T cn))).toInt64) E.1 E.2.1 dX9_digest_127 rfl ?_
  refine lv_ladd E.1 E.2.1 dX9_digest_128 ?_
  refine lv_lstore_n (lv' := [(1, .long ((((((((((((((((58042 * 31) + (iI 0).toInt64) * 31) + (iI (↑cn)).toInt64) * 31) + (iI (↑j.2.2.2.2.1)).toInt64) * 31) + (iI gn).toInt64) * 31) + (iI mi).toInt64) * 31) + (iI lk).toInt64) * 31) + (iI 0).toInt64) * 31) + (iI (↑(dfF T cn))).toInt64)), (0, .ref b)]) E.1 E.2.1 dX9_digest_129 rfl hl (by decide) rfl (fun ls hl => ?_)
  refine lv_iconst (v := iI 0) E.1 E.2.1 dX9_digest_130 (by decide) ?_
  refine lv_istore_n (lv' := [(3, .int (iI 0)), (1, .long ((((((((((((((((58042 * 31) + (iI 0).toInt64) * 31) + (iI (↑cn)).toInt64) * 31) + (iI (↑j.2.2.2.2.1)).toInt64) * 31) + (iI gn).toInt64) * 31) + (iI mi).toInt64) * 31) + (iI lk).toInt64) * 31) + (iI 0).toInt64) * 31) + (iI (↑(dfF T cn))).toInt64)), (0, .ref b)]) E.1 E.2.1 dX9_digest_131 rfl hl (by decide) rfl (fun ls hl => ?_)
  obtain ⟨d0, hd0⟩ : ∃ y, y = dgH cn lk gn mi T j := ⟨_, rfl⟩
  rw [show ((((((((((((((((58042 * 31) + (iI 0).toInt64) * 31) + (iI (↑cn)).toInt64) * 31) + (iI (↑j.2.2.2.2.1)).toInt64) * 31) + (iI gn).toInt64) * 31) + (iI mi).toInt64) * 31) + (iI lk).toInt64) * 31) + (iI 0).toInt64) * 31) + (iI (↑(dfF T cn))).toInt64) = d0 from hd0.symm] at hl
  have hfr0 : ∀ q, q < b + 9 ∨ b + 378 ≤ q → M q = M q := (fun _ _ => rfl)
  have loop132_1 : ∀ (d132 : Nat) (i : Nat) (Mw132 : fw_M) (H : Heap) (locs : List Loc) (ls : Array Slot), cn - i < d132 → i ≤ cn → (∀ q, q < b + 9 ∨ b + 378 ≤ q → Mw132 q = M q) → fw_H G s Mw132 H locs → H.size = N → bnAt G Mw132 b → jW G Mw132 (b + 9) j → rnW G Mw132 (b + 17) → brW G Mw132 (b + 21) ra → rnW G Mw132 (b + 22) → siAt G Mw132 (b + 26) (fun _ => 0) rs6 → rkAt G Mw132 (b + 30) ip5 rs5 → gcW G Mw132 (b + 33) o lk cn gn mi T → gyW G Mw132 (b + 33) o 0 T → gvX G Mw132 (b + 203) → tany G Mw132 (b + 373) → lv_has ls 4 [(0, .ref b), (1, .long (dgT j T d0 i)), (3, .int (iI ↑i))] → W pG l e ({ frames := 7, cells := 0, slots := 0, locals := 240 } : Room) s m args below meth cG H locs (0) (0) (MQ below (fw_Q G (fw_pl (fun r M1 n1 => r = dgA cn lk gn mi T j ∧ bnR G M1 b o cn lk gn mi T j ra ∧ (∀ q, q < b + 9 ∨ b + 378 ≤ q → M1 q = M q) ∧ n1 = N))) args s 0 0 (fun q => G.2.2.1 ≤ q)) (F0 m 132 ls []) := by
    intro d132
    induction d132 with
    | zero => intro i Mw132 H locs ls hd; exact absurd hd (Nat.not_lt_zero _)
    | succ d132 ih132 =>
      intro i Mw132 H locs ls hd132 ii hfr0 hH hz hbn hJ hK1 hB hQ hS6 hR5 hG hY hX hZ hl
      refine lv_iload_n E.1 E.2.1 dX9_digest_132 rfl (lv_at hl 2 rfl) ?_
      refine lv_aload_n E.1 E.2.1 dX9_digest_133 rfl (lv_at hl 0 rfl) ?_
      refine fw_get E hK hH hbn.2 fc_X9 6 (by decide) ql_RX9_54 rfl rfl dX9_digest_134 ?_
      refine fw_getN E hK hH hG.2.1 fc_X2 4 (by decide) ql_RX9_99 rfl rfl dX9_digest_137 ?_
      refine fw_icmp_ge (tgt := 163) E dX9_digest_140 (by decide) (by omega) (by omega) (by omega) (by omega) (fun c4 => ?_) (fun c4 => ?_)
      · refine lv_aload_n E.1 E.2.1 dX9_digest_163 rfl (lv_at hl 0 rfl) ?_
        refine fw_get E hK hH hbn.2 fc_X9 2 (by decide) ql_RX9_26 rfl rfl dX9_digest_164 ?_
        refine lv_aload_n E.1 E.2.1 dX9_digest_167 rfl (lv_at hl 0 rfl) ?_
        refine fw_get E hK hH hbn.2 fc_X9 6 (by decide) ql_RX9_54 rfl rfl dX9_digest_168 ?_
        refine lv_aload_n E.1 E.2.1 dX9_digest_171 rfl (lv_at hl 0 rfl) ?_
        refine fw_get E hK hH hbn.2 fc_X9 1 (by decide) ql_RX9_19 rfl rfl dX9_digest_172 ?_
        refine fw_cV (As := [.ref (b + 33), .ref (b + 9)]) (rest := []) E hK hH hl hK1.c fc_X4 fL_X4_rank ql_RX9_264 qi_yX4_rank qv_yX4_rank (k_rank l G _ _ (b + 17) (b + 9) j (b + 33) o cn lk gn mi T hG hK1 hJ hj hTk (by omega) (by omega)) rfl rfl (Nat.le_of_ble_eq_true rfl) ⟨Nat.le_of_ble_eq_true rfl, Nat.le_of_ble_eq_true rfl⟩ ⟨Nat.le_of_ble_eq_true rfl, Nat.le_of_ble_eq_true rfl⟩ dX9_digest_175 (fw_kv fun M6 H1 locs1 hp5 hH hz1 => ?_)
        obtain ⟨hQ110, hJ110, hfr, hz2⟩ := hp5
        replace hz := hz2.trans hz
        clear hz1 hz2
        have fr7 := hfr
        replace hbn := bnAt.fr hbn (fun q h1 h2 => fr7 q (by omega))
        replace hB := brW.fr hB (fun q h1 h2 => fr7 q (by omega))
        replace hQ := rnW.fr hQ (fun q h1 h2 => fr7 q (by omega))
        replace hS6 := siAt.fr hS6 (fun q h1 h2 => fr7 q (by omega))
        replace hR5 := rkAt.fr hR5 (fun q h1 h2 => fr7 q (by omega))
        replace hG := gcW.fr hG (fun q h1 h2 => fr7 q (by omega))
        replace hY := gyW.fr hY (fun q h1 h2 => fr7 q (by omega))
        replace hX := gvX.fr hX (fun q h1 h2 => fr7 q (by omega))
        replace hZ := tany.fr hZ (fun q h1 h2 => fr7 q (by omega))
        refine lv_iconst (v := iI 0) E.1 E.2.1 dX9_digest_178 (by decide) ?_
        refine lv_istore_n (lv' := [(3, .int (iI 0)), (0, .ref b), (1, .long (dgT j T d0 i))]) E.1 E.2.1 dX9_digest_179 rfl hl (by decide) rfl (fun ls hl => ?_)
        have e9 : i = cn := by omega
        rw [e9] at hl
        have hfr0 : ∀ q, q < b + 9 ∨ b + 378 ≤ q → M6 q = M q := (fun q hq => by rw [fr7 q (by omega)]; exact hfr0 q hq)
        have loop180_2 : ∀ (d180 : Nat) (i : Nat) (Mw180 : fw_M) (H : Heap) (locs : List Loc) (ls : Array Slot), cn - i < d180 → i ≤ cn → (∀ q, q < b + 9 ∨ b + 378 ≤ q → Mw180 q = M q) → fw_H G s Mw180 H locs → H.size = N → bnAt G Mw180 b → jW G Mw180 (b + 9) j → rnO G Mw180 (b + 17) cn (fun k => meT j (T k)) (fun k => szT j (T k)) → brW G Mw180 (b + 21) ra → rnW G Mw180 (b + 22) → siAt G Mw180 (b + 26) (fun _ => 0) rs6 → rkAt G Mw180 (b + 30) ip5 rs5 → gcW G Mw180 (b + 33) o lk cn gn mi T → gyW G Mw180 (b + 33) o 0 T → gvX G Mw180 (b + 203) → tany G Mw180 (b + 373) → lv_has ls 4 [(0, .ref b), (1, .long (dgR j cn T (dgT j T d0 cn) i)), (3, .int (iI ↑i))] → W pG l e ({ frames := 7, cells := 0, slots := 0, locals := 240 } : Room) s m args below meth cG H locs (0) (0) (MQ below (fw_Q G (fw_pl (fun r M1 n1 => r = dgA cn lk gn mi T j ∧ bnR G M1 b o cn lk gn mi T j ra ∧ (∀ q, q < b + 9 ∨ b + 378 ≤ q → M1 q = M q) ∧ n1 = N))) args s 0 0 (fun q => G.2.2.1 ≤ q)) (F0 m 180 ls []) := by
          intro d180
          induction d180 with
          | zero => intro i Mw180 H locs ls hd; exact absurd hd (Nat.not_lt_zero _)
          | succ d180 ih180 =>
            intro i Mw180 H locs ls hd180 ii hfr0 hH hz hbn hJ hK1 hB hQ hS6 hR5 hG hY hX hZ hl
            refine lv_iload_n E.1 E.2.1 dX9_digest_180 rfl (lv_at hl 2 rfl) ?_
            refine lv_aload_n E.1 E.2.1 dX9_digest_181 rfl (lv_at hl 0 rfl) ?_
            refine fw_get E hK hH hbn.2 fc_X9 6 (by decide) ql_RX9_54 rfl rfl dX9_digest_182 ?_
            refine fw_getN E hK hH hG.2.1 fc_X2 4 (by decide) ql_RX9_99 rfl rfl dX9_digest_185 ?_
            refine fw_icmp_ge (tgt := 213) E dX9_digest_188 (by decide) (by omega) (by omega) (by omega) (by omega) (fun c8 => ?_) (fun c8 => ?_)
            · refine lv_lload_n E.1 E.2.1 dX9_digest_213 rfl (lv_at hl 1 rfl) ?_
              refine fw_lret E hr hlk hH ?_ dX9_digest_214
              have e8 : i = cn := by omega
              exact ⟨by rw [e8, hd0]; rfl, ⟨hbn, hJ, hK1.w, hB, hQ, ⟨_, hS6⟩, ⟨_, _, hR5⟩, hG, hY.z, hX, hZ⟩, hfr0, hz⟩
            · refine lv_lload_n E.1 E.2.1 dX9_digest_191 rfl (lv_at hl 1 rfl) ?_
              refine lv_ldc2 E.1 E.2.1 E.2.2.2.1 (E.2.2.2.2 _ ql_RX9_291) dX9_digest_192 ?_
              refine lv_lmul E.1 E.2.1 dX9_digest_195 ?_
              refine lv_aload_n E.1 E.2.1 dX9_digest_196 rfl (lv_at hl 0 rfl) ?_
              refine fw_get E hK hH hbn.2 fc_X9 2 (by decide) ql_RX9_26 rfl rfl dX9_digest_197 ?_
              refine lv_iload_n E.1 E.2.1 dX9_digest_200 rfl (lv_at hl 2 rfl) ?_
              refine fw_cV (As := [.int (iI ↑i)]) (rest := [.long ((dgR j cn T (dgT j T d0 cn) i) * 31)]) E hK hH hl hK1.c fc_X4 fL_X4_withRank ql_RX9_268 qi_yX4_withRank qv_yX4_withRank (k_withRankG l G _ _ (b + 17) cn (fun k => meT j (T k)) (fun k => szT j (T k)) hK1 hcn i (by omega)) rfl rfl (Nat.le_of_ble_eq_true rfl) ⟨Nat.le_of_ble_eq_true rfl, Nat.le_of_ble_eq_true rfl⟩ ⟨Nat.le_of_ble_eq_true rfl, Nat.le_of_ble_eq_true rfl⟩ dX9_digest_201 (fw_ki fun r11 M10 H1 locs1 hp9 hH hz1 => ?_)
              obtain ⟨rfl, hM9, hz2⟩ := hp9
              have hob150 := ordF_b (fun k => meT j (T k)) (fun k => szT j (T k)) cn i (by omega)
              refine fw_cv (y := iI (↑(ordF (fun k => meT j (T k)) (fun k => szT j (T k)) cn i).toNat)) (congrArg iI (by omega)) ?_
              replace hz := hz2.trans hz
              clear hz1 hz2
              rw [hM9] at hH
              refine lv_i2l (v := (iI (↑(ordF (fun k => meT j (T k)) (fun k => szT j (T k)) cn i).toNat)).toInt64) E.1 E.2.1 dX9_digest_204 rfl ?_
              refine lv_ladd E.1 E.2.1 dX9_digest_205 ?_
              refine lv_lstore_n (lv' := [(1, .long (((dgR j cn T (dgT j T d0 cn) i) * 31) + (iI (↑(ordF (fun k => meT j (T k)) (fun k => szT j (T k)) cn i).toNat)).toInt64)), (0, .ref b), (3, .int (iI ↑i))]) E.1 E.2.1 dX9_digest_206 rfl hl (by decide) rfl (fun ls hl => ?_)
              refine lv_iinc (v := iI (↑i + 1)) (lv' := [(3, .int (iI (↑i + 1))), (1, .long (((dgR j cn T (dgT j T d0 cn) i) * 31) + (iI (↑(ordF (fun k => meT j (T k)) (fun k => szT j (T k)) cn i).toNat)).toInt64)), (0, .ref b)]) E.1 E.2.1 dX9_digest_207 hl (k := 2) rfl (iI_inc rfl) (by decide) rfl (fun ls hl => ?_)
              refine lv_goto (tgt := 180) E.1 E.2.1 dX9_digest_210 (by decide) ?_
              exact ih180 (i + 1) _ _ _ _ (by omega) (by omega) hfr0 hH (by omega) hbn hJ hK1 hB hQ hS6 hR5 hG hY hX hZ (lv_sub hl [2, 1, 0] rfl)
        exact loop180_2 (cn - 0 + 1) 0 _ _ _ _ (Nat.lt_succ_self _) (Nat.zero_le _) hfr0 hH (by omega) hbn hJ110 hQ110 hB hQ hS6 hR5 hG hY hX hZ (lv_sub hl [1, 2, 0] rfl)
      · have hti := (hTk i (by omega)).1
        refine lv_aload_n E.1 E.2.1 dX9_digest_143 rfl (lv_at hl 0 rfl) ?_
        refine lv_lload_n E.1 E.2.1 dX9_digest_144 rfl (lv_at hl 1 rfl) ?_
        refine lv_aload_n E.1 E.2.1 dX9_digest_145 rfl (lv_at hl 0 rfl) ?_
        refine fw_get E hK hH hbn.2 fc_X9 6 (by decide) ql_RX9_54 rfl rfl dX9_digest_146 ?_
        refine lv_iload_n E.1 E.2.1 dX9_digest_149 rfl (lv_at hl 2 rfl) ?_
        refine fw_cV (As := [.int (iI ↑i)]) (rest := [.long (dgT j T d0 i), .ref b]) E hK hH hl hG.2.1 fc_X2 fL_X2_tree ql_RX9_277 qi_yX2_tree qv_yX2_tree (k_treeG l G _ _ (b + 33) o cn lk gn mi T hG i (by omega)) rfl rfl (Nat.le_of_ble_eq_true rfl) ⟨Nat.le_of_ble_eq_true rfl, Nat.le_of_ble_eq_true rfl⟩ ⟨Nat.le_of_ble_eq_true rfl, Nat.le_of_ble_eq_true rfl⟩ dX9_digest_150 (fw_kr fun r14 M13 H1 locs1 hp12 hH hz1 => ?_)
        obtain ⟨rfl, hM9, hz2⟩ := hp12
        have hT170 := hG.tr (j := i) (by omega)
        replace hz := hz2.trans hz
        clear hz1 hz2
        rw [hM9] at hH
        refine fw_cV (As := [.long (dgT j T d0 i), .ref (b + 33 + 10 + 80 * o + 5 * i)]) (rest := []) E hK hH hl hbn.2 fc_X9 fL_X9_digestWith ql_RX9_297 qi_yX9_digestWith qv_yX9_digestWith (b_digestWith l G _ _ b (b + 33 + 10 + 80 * o + 5 * i) (T i) j (dgT j T d0 i) hbn hJ hT170 hj hti (by omega)) rfl rfl (Nat.le_of_ble_eq_true rfl) ⟨Nat.le_of_ble_eq_true rfl, Nat.le_of_ble_eq_true rfl⟩ ⟨Nat.le_of_ble_eq_true rfl, Nat.le_of_ble_eq_true rfl⟩ dX9_digest_153 (fw_kl fun r17 M16 H1 locs1 hp15 hH hz1 => ?_)
        obtain ⟨rfl, hJ176, hfr, hz2⟩ := hp15
        replace hz := hz2.trans hz
        clear hz1 hz2
        have fr18 := hfr
        replace hbn := bnAt.fr hbn (fun q h1 h2 => fr18 q (by omega))
        replace hK1 := rnW.fr hK1 (fun q h1 h2 => fr18 q (by omega))
        replace hB := brW.fr hB (fun q h1 h2 => fr18 q (by omega))
        replace hQ := rnW.fr hQ (fun q h1 h2 => fr18 q (by omega))
        replace hS6 := siAt.fr hS6 (fun q h1 h2 => fr18 q (by omega))
        replace hR5 := rkAt.fr hR5 (fun q h1 h2 => fr18 q (by omega))
        replace hG := gcW.fr hG (fun q h1 h2 => fr18 q (by omega))
        replace hY := gyW.fr hY (fun q h1 h2 => fr18 q (by omega))
        replace hX := gvX.fr hX (fun q h1 h2 => fr18 q (by omega))
        replace hZ := tany.fr hZ (fun q h1 h2 => fr18 q (by omega))
        replace hT170 := aTw.fr hT170 (fun q h1 h2 => fr18 q (by omega))
        refine lv_lstore_n (lv' := [(1, .long (dgW j (T i) (dgT j T d0 i))), (0, .ref b), (3, .int (iI ↑i))]) E.1 E.2.1 dX9_digest_156 rfl hl (by decide) rfl (fun ls hl => ?_)
        refine lv_iinc (v := iI (↑i + 1)) (lv' := [(3, .int (iI (↑i + 1))), (1, .long (dgW j (T i) (dgT j T d0 i))), (0, .ref b)]) E.1 E.2.1 dX9_digest_157 hl (k := 2) rfl (iI_inc rfl) (by decide) rfl (fun ls hl => ?_)
        refine lv_goto (tgt := 132) E.1 E.2.1 dX9_digest_160 (by decide) ?_
        exact ih132 (i + 1) _ _ _ _ (by omega) (by omega) (fun q hq => by rw [fr18 q (by omega)]; exact hfr0 q hq) hH (by omega) hbn hJ176 hK1 hB hQ hS6 hR5 hG hY hX hZ (lv_sub hl [2, 1, 0] rfl)
  exact loop132_1 (cn - 0 + 1) 0 _ _ _ _ (Nat.lt_succ_self _) (Nat.zero_le _) hfr0 hH (by omega) hbn hJ hK1 hB hQ hS6 hR5 hG hY hX hZ (lv_sub hl [2, 1, 0] rfl)

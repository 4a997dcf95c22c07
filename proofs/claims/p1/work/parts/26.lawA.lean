theorem lg_cmp_self (x : Int64) : lg_cmp x x = iI 0 := by
  have h : ¬ x < x := by simp
  simp [lg_cmp, h]
  try rfl
theorem lc_sketch {p : Program} {l : Launch} {e : Env} {s : State} {m : MethodId} {args : Array Value} {below : List Frame} {meth : Method} {c : Code} {H : Heap} {locs : List Loc} {Q : State → Prop} {G : fw_G} {M M0 : fw_M} {ls : Array Slot} {a b : Nat} {xs : Nat → Int32} {z : Nat → Int} {w9 : Nat → Int64} (hlt : l.stackTraces = false) (E : CallFix p m c code 9 s args fwT RL) (hK : fw_K G s) (hH0 : fw_H G s M0 s.heap []) (hH : fw_H G s M H locs) (hB : bn0 G M a) (hD : md0 G M (a + 378)) (ho : M (a + 385) = some (fJ G 1 w9)) (hsz : a + 386 ≤ H.size) (hl : lv_has ls 9 [(4, .int (iI 0)), (3, .ref (a + 385)), (2, .ref (a + 378)), (1, .ref a), (0, .ref b)]) (hX : va_X b 5 xs s s.heap) (hbl : b < s.heap.size) (hbA : ¬ (fun q => G.2.2.1 ≤ q) b) (hzs : ∀ k, xs k = iI (z k)) (hzb : ∀ k, -2147483648 ≤ z k ∧ z k < 2147483648) (kend : ∀ (M1 : fw_M) (H1 : Heap) (locs1 : List Loc) (ls1 : Array Slot), fw_H G s M1 H1 locs1 → lv_has ls1 9 [(4, .int (iI 0)), (0, .ref b)] → W p l e room_1 s m args below meth c H1 locs1 1000 20000 Q (F0 m 2392 ls1 [])) : W p l e room_1 s m args below meth c H locs 400 13000 Q (F0 m 216 ls []) := by
  have hzb1 := hzb 1
  have hzb2 := hzb 2
  refine lv_aload_n E.1 E.2.1 dL_law_216 rfl (lv_at hl 3 rfl) ?_
  refine lv_aload_n E.1 E.2.1 dL_law_217 rfl (lv_at hl 4 rfl) ?_
  refine lv_iload E.1 E.2.1 dL_law_218 (lv_at hl 0 rfl) ?_
  refine lv_iconst (v := iI 1) E.1 E.2.1 dL_law_220 (by decide) ?_
  refine fw_iadd E dL_law_221 ?_
  refine fw_cv (y := iI (1)) (by decide) ?_
  refine va_sld (A := fun q => G.2.2.1 ≤ q) E.1 E.2.1 hX hbl hbA (fw_H.va hH0 hH) (iI_in (by omega) (by omega) (by omega)) dL_law_222 ?_
  refine fw_cv (y := iI (z 1)) (by rw [iI_ix (by omega) (by omega)]; exact hzs 1) ?_
  refine lv_aload_n E.1 E.2.1 dL_law_223 rfl (lv_at hl 4 rfl) ?_
  refine lv_iload E.1 E.2.1 dL_law_224 (lv_at hl 0 rfl) ?_
  refine lv_iconst (v := iI 2) E.1 E.2.1 dL_law_226 (by decide) ?_
  refine fw_iadd E dL_law_227 ?_
  refine fw_cv (y := iI (2)) (by decide) ?_
  refine va_sld (A := fun q => G.2.2.1 ≤ q) E.1 E.2.1 hX hbl hbA (fw_H.va hH0 hH) (iI_in (by omega) (by omega) (by omega)) dL_law_228 ?_
  refine fw_cv (y := iI (z 2)) (by rw [iI_ix (by omega) (by omega)]; exact hzs 2) ?_
  refine lv_aload_n E.1 E.2.1 dL_law_229 rfl (lv_at hl 1 rfl) ?_
  refine fw_cSW (As := [.ref a, .int (iI (z 1)), .int (iI (z 2)), .ref (a + 385)]) (rest := []) E hK hH hl fW_sketch ql_RL_114 qs_yL_sketch (w_sketch l hlt G _ _ a hB w9 ho (z 1) (z 2) (by omega) (by omega)) rfl rfl (Nat.le_of_ble_eq_true rfl) ⟨Nat.le_of_ble_eq_true rfl, Nat.le_of_ble_eq_true rfl⟩ ⟨Nat.le_of_ble_eq_true rfl, Nat.le_of_ble_eq_true rfl⟩ dL_law_230 (fw_ki fun r M1 H1 locs1 hp hH hz1 => ?_)
  obtain ⟨rfl, hw, hfr⟩ := hp
  replace hD := hD.fr (fun q h1 h2 => hfr q (by omega) (by omega))
  obtain ⟨kv, hkv⟩ : ∃ y, y = kS_sketch (z 1) (z 2) := ⟨_, rfl⟩
  have hkb : 0 ≤ kv ∧ kv ≤ 2 := by rw [hkv]; unfold kS_sketch; (repeat' split) <;> omega
  rw [← hkv] at hw
  refine fw_cv (y := iI kv) (by rw [hkv]) ?_
  clear hfr
  refine lv_istore (lv' := [(5, .int (iI kv)), (4, .int (iI 0)), (3, .ref (a + 385)), (2, .ref (a + 378)), (1, .ref a), (0, .ref b)]) E.1 E.2.1 dL_law_233 hl (by decide) rfl (fun ls hl => ?_)
  refine lv_aload_n E.1 E.2.1 dL_law_235 rfl (lv_at hl 3 rfl) ?_
  refine lv_aload_n E.1 E.2.1 dL_law_236 rfl (lv_at hl 5 rfl) ?_
  refine lv_iload E.1 E.2.1 dL_law_237 (lv_at hl 1 rfl) ?_
  refine lv_iconst (v := iI 1) E.1 E.2.1 dL_law_239 (by decide) ?_
  refine fw_iadd E dL_law_240 ?_
  refine fw_cv (y := iI (1)) (by decide) ?_
  refine va_sld (A := fun q => G.2.2.1 ≤ q) E.1 E.2.1 hX hbl hbA (fw_H.va hH0 hH) (iI_in (by omega) (by omega) (by omega)) dL_law_241 ?_
  refine fw_cv (y := iI (z 1)) (by rw [iI_ix (by omega) (by omega)]; exact hzs 1) ?_
  refine lv_aload_n E.1 E.2.1 dL_law_242 rfl (lv_at hl 5 rfl) ?_
  refine lv_iload E.1 E.2.1 dL_law_243 (lv_at hl 1 rfl) ?_
  refine lv_iconst (v := iI 2) E.1 E.2.1 dL_law_245 (by decide) ?_
  refine fw_iadd E dL_law_246 ?_
  refine fw_cv (y := iI (2)) (by decide) ?_
  refine va_sld (A := fun q => G.2.2.1 ≤ q) E.1 E.2.1 hX hbl hbA (fw_H.va hH0 hH) (iI_in (by omega) (by omega) (by omega)) dL_law_247 ?_
  refine fw_cv (y := iI (z 2)) (by rw [iI_ix (by omega) (by omega)]; exact hzs 2) ?_
  refine fw_cV (As := [.int (iI (z 1)), .int (iI (z 2))]) (rest := []) E hK hH hl hD.2.1 fc_X10 fL_X10_sketch ql_RL_119 qi_yX10_sketch qv_yX10_sketch (y_sketch l G _ _ (a + 378) hD (by omega) (z 1) (z 2) (by omega) (by omega)) rfl rfl (Nat.le_of_ble_eq_true rfl) ⟨Nat.le_of_ble_eq_true rfl, Nat.le_of_ble_eq_true rfl⟩ ⟨Nat.le_of_ble_eq_true rfl, Nat.le_of_ble_eq_true rfl⟩ dL_law_248 (fw_ki fun rb M1 H1 locs1 hp hH hz1 => ?_)
  obtain ⟨⟨fs, hobj, hth⟩, hv, hfr⟩ := hp
  rw [← hkv] at hth hv
  replace hw : kv = 0 → ∃ g, M1 (a + 385) = some (fJ G 1 g) ∧ g 0 = (iI (zPARTS (z 1).toNat)).toInt64 := fun h => by
    obtain ⟨g, h1, h2⟩ := hw h
    exact ⟨g, (hfr _ (by omega) (by omega)).trans h1, h2⟩
  clear hfr hz1
  refine lv_istore (lv' := [(6, .int rb), (5, .int (iI kv)), (4, .int (iI 0)), (3, .ref (a + 385)), (2, .ref (a + 378)), (1, .ref a), (0, .ref b)]) E.1 E.2.1 dL_law_251 hl (by decide) rfl (fun ls hl => ?_)
  refine lv_aload_n E.1 E.2.1 dL_law_253 rfl (lv_at hl 4 rfl) ?_
  refine fw_cV (As := []) (rest := []) E hK hH hl hobj fc_X10 fL_X10_thrown ql_RL_120 qi_yX10_thrown qv_yX10_thrown (m_thrown l G _ _ (a + 378) kv ⟨_, hobj, hth⟩) rfl rfl (Nat.le_of_ble_eq_true rfl) ⟨Nat.le_of_ble_eq_true rfl, Nat.le_of_ble_eq_true rfl⟩ ⟨Nat.le_of_ble_eq_true rfl, Nat.le_of_ble_eq_true rfl⟩ dL_law_254 (fw_ki fun r M1 H1 locs1 hp hH hz1 => ?_)
  obtain ⟨rfl, hM9, hz2⟩ := hp
  rw [hM9] at hH
  clear hz1 hz2
  refine lv_iload E.1 E.2.1 dL_law_257 (lv_at hl 1 rfl) ?_
  refine fw_icmp_eq (tgt := 264) E dL_law_259 (by decide) (by omega) (by omega) (by omega) (by omega) (fun c1 => ?_) (fun c1 => ?_)
  · refine lv_iload E.1 E.2.1 dL_law_264 (lv_at hl 1 rfl) ?_
    refine fw_if_ne (tgt := 281) E dL_law_266 (by decide) (by omega) (by omega) (fun c2 => ?_) (fun c2 => ?_)
    · refine lv_goto (tgt := 2392) E.1 E.2.1 dL_law_281 (by decide) ?_
      exact W.widen (k := 1000) (n := 20000) (by omega) (by omega) (kend _ _ _ _ hH (lv_sub hl [2, 6] rfl))
    · refine lv_aload_n E.1 E.2.1 dL_law_269 rfl (lv_at hl 3 rfl) ?_
      refine lv_iconst (v := iI 0) E.1 E.2.1 dL_law_270 (by decide) ?_
      obtain ⟨g9, ho, hg9⟩ := hw c2
      obtain rfl := hv c2
      refine fw_lald E hK hH ho (iI_in (by omega) (by omega) (by omega)) dL_law_271 ?_
      refine fw_cw (v := .long (iI (zPARTS (z 1).toNat)).toInt64) (congrArg Value.long hg9) ?_
      refine lv_iload E.1 E.2.1 dL_law_272 (lv_at hl 0 rfl) ?_
      refine lv_i2l (v := (iI (zPARTS (z 1).toNat)).toInt64) E.1 E.2.1 dL_law_274 rfl ?_
      refine W.lcmp E.1 E.2.1 dL_law_275 ?_
      refine fw_cv (y := iI 0) (lg_cmp_self _) ?_
      refine fw_if_eq (tgt := 281) E dL_law_276 (by decide) (by omega) (by omega) (fun c3 => ?_) (fun c3 => ?_)
      · refine lv_goto (tgt := 2392) E.1 E.2.1 dL_law_281 (by decide) ?_
        exact W.widen (k := 1000) (n := 20000) (by omega) (by omega) (kend _ _ _ _ hH (lv_sub hl [2, 6] rfl))
      · exact absurd c3 (by omega)
  · exact absurd rfl c1
theorem lc_erase {p : Program} {l : Launch} {e : Env} {s : State} {m : MethodId} {args : Array Value} {below : List Frame} {meth : Method} {c : Code} {H : Heap} {locs : List Loc} {Q : State → Prop} {G : fw_G} {M M0 : fw_M} {ls : Array Slot} {a b : Nat} {xs : Nat → Int32} {z : Nat → Int} {w9 : Nat → Int64} (hlt : l.stackTraces = false) (E : CallFix p m c code 9 s args fwT RL) (hK : fw_K G s) (hH0 : fw_H G s M0 s.heap []) (hH : fw_H G s M H locs) (hB : bn0 G M a) (hD : md0 G M (a + 378)) (ho : M (a + 385) = some (fJ G 1 w9)) (hsz : a + 386 ≤ H.size) (hl : lv_has ls 9 [(4, .int (iI 0)), (3, .ref (a + 385)), (2, .ref (a + 378)), (1, .ref a), (0, .ref b)]) (hX : va_X b 5 xs s s.heap) (hbl : b < s.heap.size) (hbA : ¬ (fun q => G.2.2.1 ≤ q) b) (hzs : ∀ k, xs k = iI (z k)) (hzb : ∀ k, -2147483648 ≤ z k ∧ z k < 2147483648) (kend : ∀ (M1 : fw_M) (H1 : Heap) (locs1 : List Loc) (ls1 : Array Slot), fw_H G s M1 H1 locs1 → lv_has ls1 9 [(4, .int (iI 0)), (0, .ref b)] → W p l e room_1 s m args below meth c H1 locs1 1000 20000 Q (F0 m 2392 ls1 [])) : W p l e room_1 s m args below meth c H locs 400 13000 Q (F0 m 284 ls []) := by
  refine lv_aload_n E.1 E.2.1 dL_law_284 rfl (lv_at hl 3 rfl) ?_
  refine fw_cV (As := []) (rest := []) E hK hH hl hB.c.2.1 fc_X9 fL_X9_erase ql_RL_123 qi_yX9_erase qv_yX9_erase (x_erase l G _ _ a hB) rfl rfl (Nat.le_of_ble_eq_true rfl) ⟨Nat.le_of_ble_eq_true rfl, Nat.le_of_ble_eq_true rfl⟩ ⟨Nat.le_of_ble_eq_true rfl, Nat.le_of_ble_eq_true rfl⟩ dL_law_285 (fw_ki fun r M1 H1 locs1 hp hH hz1 => ?_)
  obtain ⟨rfl, hfr, hz2⟩ := hp
  replace hD := hD.fr (fun q h1 h2 => hfr q (by omega))
  clear hfr
  replace hsz : a + 386 ≤ H1.size := by omega
  clear hz1 hz2
  refine lv_aload_n E.1 E.2.1 dL_law_288 rfl (lv_at hl 2 rfl) ?_
  refine fw_cV (As := []) (rest := [.int (iI 0)]) E hK hH hl hD.2.1 fc_X10 fL_X10_erase ql_RL_126 qi_yX10_erase qv_yX10_erase (y_erase l G _ _ (a + 378) hD  ) rfl rfl (Nat.le_of_ble_eq_true rfl) ⟨Nat.le_of_ble_eq_true rfl, Nat.le_of_ble_eq_true rfl⟩ ⟨Nat.le_of_ble_eq_true rfl, Nat.le_of_ble_eq_true rfl⟩ dL_law_289 (fw_ki fun r M1 H1 locs1 hp hH hz1 => ?_)
  obtain ⟨rfl, hfr⟩ := hp
  clear hfr hz1
  refine fw_icmp_eq (tgt := 2392) E dL_law_292 (by decide) (by omega) (by omega) (by omega) (by omega) (fun c1 => ?_) (fun c1 => ?_)
  · exact W.widen (k := 1000) (n := 20000) (by omega) (by omega) (kend _ _ _ _ hH (lv_sub hl [0, 4] rfl))
  · exact absurd c1 (by omega)
theorem lc_plant {p : Program} {l : Launch} {e : Env} {s : State} {m : MethodId} {args : Array Value} {below : List Frame} {meth : Method} {c : Code} {H : Heap} {locs : List Loc} {Q : State → Prop} {G : fw_G} {M M0 : fw_M} {ls : Array Slot} {a b : Nat} {xs : Nat → Int32} {z : Nat → Int} {w9 : Nat → Int64} (hlt : l.stackTraces = false) (E : CallFix p m c code 9 s args fwT RL) (hK : fw_K G s) (hH0 : fw_H G s M0 s.heap []) (hH : fw_H G s M H locs) (hB : bn0 G M a) (hD : md0 G M (a + 378)) (ho : M (a + 385) = some (fJ G 1 w9)) (hsz : a + 386 ≤ H.size) (hl : lv_has ls 9 [(4, .int (iI 0)), (3, .ref (a + 385)), (2, .ref (a + 378)), (1, .ref a), (0, .ref b)]) (hX : va_X b 5 xs s s.heap) (hbl : b < s.heap.size) (hbA : ¬ (fun q => G.2.2.1 ≤ q) b) (hzs : ∀ k, xs k = iI (z k)) (hzb : ∀ k, -2147483648 ≤ z k ∧ z k < 2147483648) (kend : ∀ (M1 : fw_M) (H1 : Heap) (locs1 : List Loc) (ls1 : Array Slot), fw_H G s M1 H1 locs1 → lv_has ls1 9 [(4, .int (iI 0)), (0, .ref b)] → W p l e room_1 s m args below meth c H1 locs1 1000 20000 Q (F0 m 2392 ls1 [])) : W p l e room_1 s m args below meth c H locs 400 13000 Q (F0 m 297 ls []) := by
  refine lv_aload_n E.1 E.2.1 dL_law_297 rfl (lv_at hl 3 rfl) ?_
  refine lv_aload_n E.1 E.2.1 dL_law_298 rfl (lv_at hl 1 rfl) ?_
  refine fw_cSW (As := [.ref a, .ref (a + 385)]) (rest := []) E hK hH hl fW_plant ql_RL_127 qs_yL_plant (w_plant l hlt G _ _ a hB w9 ho  ) rfl rfl (Nat.le_of_ble_eq_true rfl) ⟨Nat.le_of_ble_eq_true rfl, Nat.le_of_ble_eq_true rfl⟩ ⟨Nat.le_of_ble_eq_true rfl, Nat.le_of_ble_eq_true rfl⟩ dL_law_299 (fw_ki fun r M1 H1 locs1 hp hH hz1 => ?_)
  obtain ⟨rfl, hw, hfr⟩ := hp
  replace hD := hD.fr (fun q h1 h2 => hfr q (by omega) (by omega))
  clear hfr
  refine lv_istore (lv' := [(5, .int (iI 1)), (4, .int (iI 0)), (3, .ref (a + 385)), (2, .ref (a + 378)), (1, .ref a), (0, .ref b)]) E.1 E.2.1 dL_law_302 hl (by decide) rfl (fun ls hl => ?_)
  refine lv_aload_n E.1 E.2.1 dL_law_304 rfl (lv_at hl 3 rfl) ?_
  refine fw_cV (As := []) (rest := []) E hK hH hl hD.2.1 fc_X10 fL_X10_plant ql_RL_130 qi_yX10_plant qv_yX10_plant (y_plant l G _ _ (a + 378) hD (by omega)  ) rfl rfl (Nat.le_of_ble_eq_true rfl) ⟨Nat.le_of_ble_eq_true rfl, Nat.le_of_ble_eq_true rfl⟩ ⟨Nat.le_of_ble_eq_true rfl, Nat.le_of_ble_eq_true rfl⟩ dL_law_305 (fw_ki fun rb M1 H1 locs1 hp hH hz1 => ?_)
  obtain ⟨⟨fs, hobj, hth⟩, hv, hfr⟩ := hp
  clear hfr hz1
  refine lv_istore (lv' := [(6, .int rb), (5, .int (iI 1)), (4, .int (iI 0)), (3, .ref (a + 385)), (2, .ref (a + 378)), (1, .ref a), (0, .ref b)]) E.1 E.2.1 dL_law_308 hl (by decide) rfl (fun ls hl => ?_)
  refine lv_aload_n E.1 E.2.1 dL_law_310 rfl (lv_at hl 4 rfl) ?_
  refine fw_cV (As := []) (rest := []) E hK hH hl hobj fc_X10 fL_X10_thrown ql_RL_120 qi_yX10_thrown qv_yX10_thrown (m_thrown l G _ _ (a + 378) 1 ⟨_, hobj, hth⟩) rfl rfl (Nat.le_of_ble_eq_true rfl) ⟨Nat.le_of_ble_eq_true rfl, Nat.le_of_ble_eq_true rfl⟩ ⟨Nat.le_of_ble_eq_true rfl, Nat.le_of_ble_eq_true rfl⟩ dL_law_311 (fw_ki fun r M1 H1 locs1 hp hH hz1 => ?_)
  obtain ⟨rfl, hM9, hz2⟩ := hp
  rw [hM9] at hH
  clear hz1 hz2
  refine lv_iload E.1 E.2.1 dL_law_314 (lv_at hl 1 rfl) ?_
  refine fw_icmp_eq (tgt := 321) E dL_law_316 (by decide) (by omega) (by omega) (by omega) (by omega) (fun c1 => ?_) (fun c1 => ?_)
  · refine lv_iload E.1 E.2.1 dL_law_321 (lv_at hl 1 rfl) ?_
    refine fw_if_ne (tgt := 338) E dL_law_323 (by decide) (by omega) (by omega) (fun c2 => ?_) (fun c2 => ?_)
    · refine lv_goto (tgt := 2392) E.1 E.2.1 dL_law_338 (by decide) ?_
      exact W.widen (k := 1000) (n := 20000) (by omega) (by omega) (kend _ _ _ _ hH (lv_sub hl [2, 6] rfl))
    · exact absurd c2 (by omega)
  · exact absurd c1 (by omega)
theorem lc_fell {p : Program} {l : Launch} {e : Env} {s : State} {m : MethodId} {args : Array Value} {below : List Frame} {meth : Method} {c : Code} {H : Heap} {locs : List Loc} {Q : State → Prop} {G : fw_G} {M M0 : fw_M} {ls : Array Slot} {a b : Nat} {xs : Nat → Int32} {z : Nat → Int} {w9 : Nat → Int64} (hlt : l.stackTraces = false) (E : CallFix p m c code 9 s args fwT RL) (hK : fw_K G s) (hH0 : fw_H G s M0 s.heap []) (hH : fw_H G s M H locs) (hB : bn0 G M a) (hD : md0 G M (a + 378)) (ho : M (a + 385) = some (fJ G 1 w9)) (hsz : a + 386 ≤ H.size) (hl : lv_has ls 9 [(4, .int (iI 0)), (3, .ref (a + 385)), (2, .ref (a + 378)), (1, .ref a), (0, .ref b)]) (hX : va_X b 5 xs s s.heap) (hbl : b < s.heap.size) (hbA : ¬ (fun q => G.2.2.1 ≤ q) b) (hzs : ∀ k, xs k = iI (z k)) (hzb : ∀ k, -2147483648 ≤ z k ∧ z k < 2147483648) (kend : ∀ (M1 : fw_M) (H1 : Heap) (locs1 : List Loc) (ls1 : Array Slot), fw_H G s M1 H1 locs1 → lv_has ls1 9 [(4, .int (iI 0)), (0, .ref b)] → W p l e room_1 s m args below meth c H1 locs1 1000 20000 Q (F0 m 2392 ls1 [])) : W p l e room_1 s m args below meth c H locs 400 13000 Q (F0 m 341 ls []) := by
  have hzb1 := hzb 1
  refine lv_aload_n E.1 E.2.1 dL_law_341 rfl (lv_at hl 3 rfl) ?_
  refine lv_aload_n E.1 E.2.1 dL_law_342 rfl (lv_at hl 4 rfl) ?_
  refine lv_iload E.1 E.2.1 dL_law_343 (lv_at hl 0 rfl) ?_
  refine lv_iconst (v := iI 1) E.1 E.2.1 dL_law_345 (by decide) ?_
  refine fw_iadd E dL_law_346 ?_
  refine fw_cv (y := iI (1)) (by decide) ?_
  refine va_sld (A := fun q => G.2.2.1 ≤ q) E.1 E.2.1 hX hbl hbA (fw_H.va hH0 hH) (iI_in (by omega) (by omega) (by omega)) dL_law_347 ?_
  refine fw_cv (y := iI (z 1)) (by rw [iI_ix (by omega) (by omega)]; exact hzs 1) ?_
  refine lv_aload_n E.1 E.2.1 dL_law_348 rfl (lv_at hl 1 rfl) ?_
  refine fw_cSW (As := [.ref a, .int (iI (z 1)), .ref (a + 385)]) (rest := []) E hK hH hl fW_fell ql_RL_131 qs_yL_fell (w_fell l hlt G _ _ a hB w9 ho (z 1) (by omega)) rfl rfl (Nat.le_of_ble_eq_true rfl) ⟨Nat.le_of_ble_eq_true rfl, Nat.le_of_ble_eq_true rfl⟩ ⟨Nat.le_of_ble_eq_true rfl, Nat.le_of_ble_eq_true rfl⟩ dL_law_349 (fw_ki fun r M1 H1 locs1 hp hH hz1 => ?_)
  obtain ⟨rfl, hw, hfr⟩ := hp
  replace hD := hD.fr (fun q h1 h2 => hfr q (by omega) (by omega))
  clear hfr
  refine lv_istore (lv' := [(5, .int (iI 1)), (4, .int (iI 0)), (3, .ref (a + 385)), (2, .ref (a + 378)), (1, .ref a), (0, .ref b)]) E.1 E.2.1 dL_law_352 hl (by decide) rfl (fun ls hl => ?_)
  refine lv_aload_n E.1 E.2.1 dL_law_354 rfl (lv_at hl 3 rfl) ?_
  refine lv_aload_n E.1 E.2.1 dL_law_355 rfl (lv_at hl 5 rfl) ?_
  refine lv_iload E.1 E.2.1 dL_law_356 (lv_at hl 1 rfl) ?_
  refine lv_iconst (v := iI 1) E.1 E.2.1 dL_law_358 (by decide) ?_
  refine fw_iadd E dL_law_359 ?_
  refine fw_cv (y := iI (1)) (by decide) ?_
  refine va_sld (A := fun q => G.2.2.1 ≤ q) E.1 E.2.1 hX hbl hbA (fw_H.va hH0 hH) (iI_in (by omega) (by omega) (by omega)) dL_law_360 ?_
  refine fw_cv (y := iI (z 1)) (by rw [iI_ix (by omega) (by omega)]; exact hzs 1) ?_
  refine fw_cV (As := [.int (iI (z 1))]) (rest := []) E hK hH hl hD.2.1 fc_X10 fL_X10_fell ql_RL_134 qi_yX10_fell qv_yX10_fell (y_fell l G _ _ (a + 378) hD (z 1) (by omega)) rfl rfl (Nat.le_of_ble_eq_true rfl) ⟨Nat.le_of_ble_eq_true rfl, Nat.le_of_ble_eq_true rfl⟩ ⟨Nat.le_of_ble_eq_true rfl, Nat.le_of_ble_eq_true rfl⟩ dL_law_361 (fw_ki fun rb M1 H1 locs1 hp hH hz1 => ?_)
  obtain ⟨⟨fs, hobj, hth⟩, hv, hfr⟩ := hp
  clear hfr hz1
  refine lv_istore (lv' := [(6, .int rb), (5, .int (iI 1)), (4, .int (iI 0)), (3, .ref (a + 385)), (2, .ref (a + 378)), (1, .ref a), (0, .ref b)]) E.1 E.2.1 dL_law_364 hl (by decide) rfl (fun ls hl => ?_)
  refine lv_aload_n E.1 E.2.1 dL_law_366 rfl (lv_at hl 4 rfl) ?_
  refine fw_cV (As := []) (rest := []) E hK hH hl hobj fc_X10 fL_X10_thrown ql_RL_120 qi_yX10_thrown qv_yX10_thrown (m_thrown l G _ _ (a + 378) 1 ⟨_, hobj, hth⟩) rfl rfl (Nat.le_of_ble_eq_true rfl) ⟨Nat.le_of_ble_eq_true rfl, Nat.le_of_ble_eq_true rfl⟩ ⟨Nat.le_of_ble_eq_true rfl, Nat.le_of_ble_eq_true rfl⟩ dL_law_367 (fw_ki fun r M1 H1 locs1 hp hH hz1 => ?_)
  obtain ⟨rfl, hM9, hz2⟩ := hp
  rw [hM9] at hH
  clear hz1 hz2
  refine lv_iload E.1 E.2.1 dL_law_370 (lv_at hl 1 rfl) ?_
  refine fw_icmp_eq (tgt := 377) E dL_law_372 (by decide) (by omega) (by omega) (by omega) (by omega) (fun c1 => ?_) (fun c1 => ?_)
  · refine lv_iload E.1 E.2.1 dL_law_377 (lv_at hl 1 rfl) ?_
    refine fw_if_ne (tgt := 394) E dL_law_379 (by decide) (by omega) (by omega) (fun c2 => ?_) (fun c2 => ?_)
    · refine lv_goto (tgt := 2392) E.1 E.2.1 dL_law_394 (by decide) ?_
      exact W.widen (k := 1000) (n := 20000) (by omega) (by omega) (kend _ _ _ _ hH (lv_sub hl [2, 6] rfl))
    · exact absurd c2 (by omega)
  · exact absurd c1 (by omega)
theorem lc_addCase {p : Program} {l : Launch} {e : Env} {s : State} {m : MethodId} {args : Array Value} {below : List Frame} {meth : Method} {c : Code} {H : Heap} {locs : List Loc} {Q : State → Prop} {G : fw_G} {M M0 : fw_M} {ls : Array Slot} {a b : Nat} {xs : Nat → Int32} {z : Nat → Int} {w9 : Nat → Int64} (hlt : l.stackTraces = false) (E : CallFix p m c code 9 s args fwT RL) (hK : fw_K G s) (hH0 : fw_H G s M0 s.heap []) (hH : fw_H G s M H locs) (hB : bn0 G M a) (hD : md0 G M (a + 378)) (ho : M (a + 385) = some (fJ G 1 w9)) (hsz : a + 386 ≤ H.size) (hl : lv_has ls 9 [(4, .int (iI 0)), (3, .ref (a + 385)), (2, .ref (a + 378)), (1, .ref a), (0, .ref b)]) (hX : va_X b 5 xs s s.heap) (hbl : b < s.heap.size) (hbA : ¬ (fun q => G.2.2.1 ≤ q) b) (hzs : ∀ k, xs k = iI (z k)) (hzb : ∀ k, -2147483648 ≤ z k ∧ z k < 2147483648) (kend : ∀ (M1 : fw_M) (H1 : Heap) (locs1 : List Loc) (ls1 : Array Slot), fw_H G s M1 H1 locs1 → lv_has ls1 9 [(4, .int (iI 0)), (0, .ref b)] → W p l e room_1 s m args below meth c H1 locs1 1000 20000 Q (F0 m 2392 ls1 [])) : W p l e room_1 s m args below meth c H locs 400 13000 Q (F0 m 397 ls []) := by
  have hzb1 := hzb 1
  have hzb2 := hzb 2
  have hzb3 := hzb 3
  have hzb4 := hzb 4
  refine lv_aload_n E.1 E.2.1 dL_law_397 rfl (lv_at hl 3 rfl) ?_
  refine lv_aload_n E.1 E.2.1 dL_law_398 rfl (lv_at hl 4 rfl) ?_
  refine lv_iload E.1 E.2.1 dL_law_399 (lv_at hl 0 rfl) ?_
  refine lv_iconst (v := iI 1) E.1 E.2.1 dL_law_401 (by decide) ?_
  refine fw_iadd E dL_law_402 ?_
  refine fw_cv (y := iI (1)) (by decide) ?_
  refine va_sld (A := fun q => G.2.2.1 ≤ q) E.1 E.2.1 hX hbl hbA (fw_H.va hH0 hH) (iI_in (by omega) (by omega) (by omega)) dL_law_403 ?_
  refine fw_cv (y := iI (z 1)) (by rw [iI_ix (by omega) (by omega)]; exact hzs 1) ?_
  refine lv_aload_n E.1 E.2.1 dL_law_404 rfl (lv_at hl 4 rfl) ?_
  refine lv_iload E.1 E.2.1 dL_law_405 (lv_at hl 0 rfl) ?_
  refine lv_iconst (v := iI 2) E.1 E.2.1 dL_law_407 (by decide) ?_
  refine fw_iadd E dL_law_408 ?_
  refine fw_cv (y := iI (2)) (by decide) ?_
  refine va_sld (A := fun q => G.2.2.1 ≤ q) E.1 E.2.1 hX hbl hbA (fw_H.va hH0 hH) (iI_in (by omega) (by omega) (by omega)) dL_law_409 ?_
  refine fw_cv (y := iI (z 2)) (by rw [iI_ix (by omega) (by omega)]; exact hzs 2) ?_
  refine lv_aload_n E.1 E.2.1 dL_law_410 rfl (lv_at hl 4 rfl) ?_
  refine lv_iload E.1 E.2.1 dL_law_411 (lv_at hl 0 rfl) ?_
  refine lv_iconst (v := iI 3) E.1 E.2.1 dL_law_413 (by decide) ?_
  refine fw_iadd E dL_law_414 ?_
  refine fw_cv (y := iI (3)) (by decide) ?_
  refine va_sld (A := fun q => G.2.2.1 ≤ q) E.1 E.2.1 hX hbl hbA (fw_H.va hH0 hH) (iI_in (by omega) (by omega) (by omega)) dL_law_415 ?_
  refine fw_cv (y := iI (z 3)) (by rw [iI_ix (by omega) (by omega)]; exact hzs 3) ?_
  refine lv_aload_n E.1 E.2.1 dL_law_416 rfl (lv_at hl 4 rfl) ?_
  refine lv_iload E.1 E.2.1 dL_law_417 (lv_at hl 0 rfl) ?_
  refine lv_iconst (v := iI 4) E.1 E.2.1 dL_law_419 (by decide) ?_
  refine fw_iadd E dL_law_420 ?_
  refine fw_cv (y := iI (4)) (by decide) ?_
  refine va_sld (A := fun q => G.2.2.1 ≤ q) E.1 E.2.1 hX hbl hbA (fw_H.va hH0 hH) (iI_in (by omega) (by omega) (by omega)) dL_law_421 ?_
  refine fw_cv (y := iI (z 4)) (by rw [iI_ix (by omega) (by omega)]; exact hzs 4) ?_
  refine lv_aload_n E.1 E.2.1 dL_law_422 rfl (lv_at hl 1 rfl) ?_
  refine fw_cSW (As := [.ref a, .int (iI (z 1)), .int (iI (z 2)), .int (iI (z 3)), .int (iI (z 4)), .ref (a + 385)]) (rest := []) E hK hH hl fW_addCase ql_RL_135 qs_yL_addCase (w_addCase l hlt G _ _ a hB w9 ho (z 1) (z 2) (z 3) (z 4) (by omega) (by omega) (by omega) (by omega)) rfl rfl (Nat.le_of_ble_eq_true rfl) ⟨Nat.le_of_ble_eq_true rfl, Nat.le_of_ble_eq_true rfl⟩ ⟨Nat.le_of_ble_eq_true rfl, Nat.le_of_ble_eq_true rfl⟩ dL_law_423 (fw_ki fun r M1 H1 locs1 hp hH hz1 => ?_)
  obtain ⟨rfl, hw, hfr⟩ := hp
  replace hD := hD.fr (fun q h1 h2 => hfr q (by omega) (by omega))
  obtain ⟨kv, hkv⟩ : ∃ y, y = kS_addCase (z 1) (z 2) (z 3) (z 4) := ⟨_, rfl⟩
  have hkb : 0 ≤ kv ∧ kv ≤ 2 := by rw [hkv]; unfold kS_addCase; (repeat' split) <;> omega
  rw [← hkv] at hw
  refine fw_cv (y := iI kv) (by rw [hkv]) ?_
  clear hfr
  refine lv_istore (lv' := [(5, .int (iI kv)), (4, .int (iI 0)), (3, .ref (a + 385)), (2, .ref (a + 378)), (1, .ref a), (0, .ref b)]) E.1 E.2.1 dL_law_426 hl (by decide) rfl (fun ls hl => ?_)
  refine lv_aload_n E.1 E.2.1 dL_law_428 rfl (lv_at hl 3 rfl) ?_
  refine lv_aload_n E.1 E.2.1 dL_law_429 rfl (lv_at hl 5 rfl) ?_
  refine lv_iload E.1 E.2.1 dL_law_430 (lv_at hl 1 rfl) ?_
  refine lv_iconst (v := iI 1) E.1 E.2.1 dL_law_432 (by decide) ?_
  refine fw_iadd E dL_law_433 ?_
  refine fw_cv (y := iI (1)) (by decide) ?_
  refine va_sld (A := fun q => G.2.2.1 ≤ q) E.1 E.2.1 hX hbl hbA (fw_H.va hH0 hH) (iI_in (by omega) (by omega) (by omega)) dL_law_434 ?_
  refine fw_cv (y := iI (z 1)) (by rw [iI_ix (by omega) (by omega)]; exact hzs 1) ?_
  refine lv_aload_n E.1 E.2.1 dL_law_435 rfl (lv_at hl 5 rfl) ?_
  refine lv_iload E.1 E.2.1 dL_law_436 (lv_at hl 1 rfl) ?_
  refine lv_iconst (v := iI 2) E.1 E.2.1 dL_law_438 (by decide) ?_
  refine fw_iadd E dL_law_439 ?_
  refine fw_cv (y := iI (2)) (by decide) ?_
  refine va_sld (A := fun q => G.2.2.1 ≤ q) E.1 E.2.1 hX hbl hbA (fw_H.va hH0 hH) (iI_in (by omega) (by omega) (by omega)) dL_law_440 ?_
  refine fw_cv (y := iI (z 2)) (by rw [iI_ix (by omega) (by omega)]; exact hzs 2) ?_
  refine lv_aload_n E.1 E.2.1 dL_law_441 rfl (lv_at hl 5 rfl) ?_
  refine lv_iload E.1 E.2.1 dL_law_442 (lv_at hl 1 rfl) ?_
  refine lv_iconst (v := iI 3) E.1 E.2.1 dL_law_444 (by decide) ?_
  refine fw_iadd E dL_law_445 ?_
  refine fw_cv (y := iI (3)) (by decide) ?_
  refine va_sld (A := fun q => G.2.2.1 ≤ q) E.1 E.2.1 hX hbl hbA (fw_H.va hH0 hH) (iI_in (by omega) (by omega) (by omega)) dL_law_446 ?_
  refine fw_cv (y := iI (z 3)) (by rw [iI_ix (by omega) (by omega)]; exact hzs 3) ?_
  refine lv_aload_n E.1 E.2.1 dL_law_447 rfl (lv_at hl 5 rfl) ?_
  refine lv_iload E.1 E.2.1 dL_law_448 (lv_at hl 1 rfl) ?_
  refine lv_iconst (v := iI 4) E.1 E.2.1 dL_law_450 (by decide) ?_
  refine fw_iadd E dL_law_451 ?_
  refine fw_cv (y := iI (4)) (by decide) ?_
  refine va_sld (A := fun q => G.2.2.1 ≤ q) E.1 E.2.1 hX hbl hbA (fw_H.va hH0 hH) (iI_in (by omega) (by omega) (by omega)) dL_law_452 ?_
  refine fw_cv (y := iI (z 4)) (by rw [iI_ix (by omega) (by omega)]; exact hzs 4) ?_
  refine fw_cV (As := [.int (iI (z 1)), .int (iI (z 2)), .int (iI (z 3)), .int (iI (z 4))]) (rest := []) E hK hH hl hD.2.1 fc_X10 fL_X10_addCase ql_RL_138 qi_yX10_addCase qv_yX10_addCase (y_addCase l G _ _ (a + 378) hD (z 1) (z 2) (z 3) (z 4) (by omega) (by omega) (by omega) (by omega)) rfl rfl (Nat.le_of_ble_eq_true rfl) ⟨Nat.le_of_ble_eq_true rfl, Nat.le_of_ble_eq_true rfl⟩ ⟨Nat.le_of_ble_eq_true rfl, Nat.le_of_ble_eq_true rfl⟩ dL_law_453 (fw_ki fun rb M1 H1 locs1 hp hH hz1 => ?_)
  obtain ⟨⟨fs, hobj, hth⟩, hv, hfr⟩ := hp
  rw [← hkv] at hth hv
  replace hw : kv = 0 → ∃ g, M1 (a + 385) = some (fJ G 1 g) ∧ g 0 = (iI (0)).toInt64 := fun h => by
    obtain ⟨g, h1, h2⟩ := hw h
    exact ⟨g, (hfr _ (by omega) (by omega)).trans h1, h2⟩
  clear hfr hz1
  refine lv_istore (lv' := [(6, .int rb), (5, .int (iI kv)), (4, .int (iI 0)), (3, .ref (a + 385)), (2, .ref (a + 378)), (1, .ref a), (0, .ref b)]) E.1 E.2.1 dL_law_456 hl (by decide) rfl (fun ls hl => ?_)
  refine lv_aload_n E.1 E.2.1 dL_law_458 rfl (lv_at hl 4 rfl) ?_
  refine fw_cV (As := []) (rest := []) E hK hH hl hobj fc_X10 fL_X10_thrown ql_RL_120 qi_yX10_thrown qv_yX10_thrown (m_thrown l G _ _ (a + 378) kv ⟨_, hobj, hth⟩) rfl rfl (Nat.le_of_ble_eq_true rfl) ⟨Nat.le_of_ble_eq_true rfl, Nat.le_of_ble_eq_true rfl⟩ ⟨Nat.le_of_ble_eq_true rfl, Nat.le_of_ble_eq_true rfl⟩ dL_law_459 (fw_ki fun r M1 H1 locs1 hp hH hz1 => ?_)
  obtain ⟨rfl, hM9, hz2⟩ := hp
  rw [hM9] at hH
  clear hz1 hz2
  refine lv_iload E.1 E.2.1 dL_law_462 (lv_at hl 1 rfl) ?_
  refine fw_icmp_eq (tgt := 469) E dL_law_464 (by decide) (by omega) (by omega) (by omega) (by omega) (fun c1 => ?_) (fun c1 => ?_)
  · refine lv_iload E.1 E.2.1 dL_law_469 (lv_at hl 1 rfl) ?_
    refine fw_if_ne (tgt := 486) E dL_law_471 (by decide) (by omega) (by omega) (fun c2 => ?_) (fun c2 => ?_)
    · refine lv_goto (tgt := 2392) E.1 E.2.1 dL_law_486 (by decide) ?_
      exact W.widen (k := 1000) (n := 20000) (by omega) (by omega) (kend _ _ _ _ hH (lv_sub hl [2, 6] rfl))
    · refine lv_aload_n E.1 E.2.1 dL_law_474 rfl (lv_at hl 3 rfl) ?_
      refine lv_iconst (v := iI 0) E.1 E.2.1 dL_law_475 (by decide) ?_
      obtain ⟨g9, ho, hg9⟩ := hw c2
      obtain rfl := hv c2
      refine fw_lald E hK hH ho (iI_in (by omega) (by omega) (by omega)) dL_law_476 ?_
      refine fw_cw (v := .long (iI (0)).toInt64) (congrArg Value.long hg9) ?_
      refine lv_iload E.1 E.2.1 dL_law_477 (lv_at hl 0 rfl) ?_
      refine lv_i2l (v := (iI 0).toInt64) E.1 E.2.1 dL_law_479 rfl ?_
      refine W.lcmp E.1 E.2.1 dL_law_480 ?_
      refine fw_cv (y := iI 0) (lg_cmp_self _) ?_
      refine fw_if_eq (tgt := 486) E dL_law_481 (by decide) (by omega) (by omega) (fun c3 => ?_) (fun c3 => ?_)
      · refine lv_goto (tgt := 2392) E.1 E.2.1 dL_law_486 (by decide) ?_
        exact W.widen (k := 1000) (n := 20000) (by omega) (by omega) (kend _ _ _ _ hH (lv_sub hl [2, 6] rfl))
      · exact absurd c3 (by omega)
  · exact absurd rfl c1
theorem lc_setWay {p : Program} {l : Launch} {e : Env} {s : State} {m : MethodId} {args : Array Value} {below : List Frame} {meth : Method} {c : Code} {H : Heap} {locs : List Loc} {Q : State → Prop} {G : fw_G} {M M0 : fw_M} {ls : Array Slot} {a b : Nat} {xs : Nat → Int32} {z : Nat → Int} {w9 : Nat → Int64} (hlt : l.stackTraces = false) (E : CallFix p m c code 9 s args fwT RL) (hK : fw_K G s) (hH0 : fw_H G s M0 s.heap []) (hH : fw_H G s M H locs) (hB : bn0 G M a) (hD : md0 G M (a + 378)) (ho : M (a + 385) = some (fJ G 1 w9)) (hsz : a + 386 ≤ H.size) (hl : lv_has ls 9 [(4, .int (iI 0)), (3, .ref (a + 385)), (2, .ref (a + 378)), (1, .ref a), (0, .ref b)]) (hX : va_X b 5 xs s s.heap) (hbl : b < s.heap.size) (hbA : ¬ (fun q => G.2.2.1 ≤ q) b) (hzs : ∀ k, xs k = iI (z k)) (hzb : ∀ k, -2147483648 ≤ z k ∧ z k < 2147483648) (kend : ∀ (M1 : fw_M) (H1 : Heap) (locs1 : List Loc) (ls1 : Array Slot), fw_H G s M1 H1 locs1 → lv_has ls1 9 [(4, .int (iI 0)), (0, .ref b)] → W p l e room_1 s m args below meth c H1 locs1 1000 20000 Q (F0 m 2392 ls1 [])) : W p l e room_1 s m args below meth c H locs 400 13000 Q (F0 m 489 ls []) := by
  have hzb1 := hzb 1
  have hzb2 := hzb 2
  refine lv_aload_n E.1 E.2.1 dL_law_489 rfl (lv_at hl 3 rfl) ?_
  refine lv_aload_n E.1 E.2.1 dL_law_490 rfl (lv_at hl 4 rfl) ?_
  refine lv_iload E.1 E.2.1 dL_law_491 (lv_at hl 0 rfl) ?_
  refine lv_iconst (v := iI 1) E.1 E.2.1 dL_law_493 (by decide) ?_
  refine fw_iadd E dL_law_494 ?_
  refine fw_cv (y := iI (1)) (by decide) ?_
  refine va_sld (A := fun q => G.2.2.1 ≤ q) E.1 E.2.1 hX hbl hbA (fw_H.va hH0 hH) (iI_in (by omega) (by omega) (by omega)) dL_law_495 ?_
  refine fw_cv (y := iI (z 1)) (by rw [iI_ix (by omega) (by omega)]; exact hzs 1) ?_
  refine lv_aload_n E.1 E.2.1 dL_law_496 rfl (lv_at hl 4 rfl) ?_
  refine lv_iload E.1 E.2.1 dL_law_497 (lv_at hl 0 rfl) ?_
  refine lv_iconst (v := iI 2) E.1 E.2.1 dL_law_499 (by decide) ?_
  refine fw_iadd E dL_law_500 ?_
  refine fw_cv (y := iI (2)) (by decide) ?_
  refine va_sld (A := fun q => G.2.2.1 ≤ q) E.1 E.2.1 hX hbl hbA (fw_H.va hH0 hH) (iI_in (by omega) (by omega) (by omega)) dL_law_501 ?_
  refine fw_cv (y := iI (z 2)) (by rw [iI_ix (by omega) (by omega)]; exact hzs 2) ?_
  refine lv_aload_n E.1 E.2.1 dL_law_502 rfl (lv_at hl 1 rfl) ?_
  refine fw_cSW (As := [.ref a, .int (iI (z 1)), .int (iI (z 2)), .ref (a + 385)]) (rest := []) E hK hH hl fW_setWay ql_RL_139 qs_yL_setWay (w_setWay l hlt G _ _ a hB w9 ho (z 1) (z 2) (by omega) (by omega)) rfl rfl (Nat.le_of_ble_eq_true rfl) ⟨Nat.le_of_ble_eq_true rfl, Nat.le_of_ble_eq_true rfl⟩ ⟨Nat.le_of_ble_eq_true rfl, Nat.le_of_ble_eq_true rfl⟩ dL_law_503 (fw_ki fun r M1 H1 locs1 hp hH hz1 => ?_)
  obtain ⟨rfl, hw, hfr⟩ := hp
  replace hD := hD.fr (fun q h1 h2 => hfr q (by omega) (by omega))
  obtain ⟨kv, hkv⟩ : ∃ y, y = kS_setWay (z 1) (z 2) := ⟨_, rfl⟩
  have hkb : 0 ≤ kv ∧ kv ≤ 2 := by rw [hkv]; unfold kS_setWay; (repeat' split) <;> omega
  rw [← hkv] at hw
  refine fw_cv (y := iI kv) (by rw [hkv]) ?_
  clear hfr
  refine lv_istore (lv' := [(5, .int (iI kv)), (4, .int (iI 0)), (3, .ref (a + 385)), (2, .ref (a + 378)), (1, .ref a), (0, .ref b)]) E.1 E.2.1 dL_law_506 hl (by decide) rfl (fun ls hl => ?_)
  refine lv_aload_n E.1 E.2.1 dL_law_508 rfl (lv_at hl 3 rfl) ?_
  refine lv_aload_n E.1 E.2.1 dL_law_509 rfl (lv_at hl 5 rfl) ?_
  refine lv_iload E.1 E.2.1 dL_law_510 (lv_at hl 1 rfl) ?_
  refine lv_iconst (v := iI 1) E.1 E.2.1 dL_law_512 (by decide) ?_
  refine fw_iadd E dL_law_513 ?_
  refine fw_cv (y := iI (1)) (by decide) ?_
  refine va_sld (A := fun q => G.2.2.1 ≤ q) E.1 E.2.1 hX hbl hbA (fw_H.va hH0 hH) (iI_in (by omega) (by omega) (by omega)) dL_law_514 ?_
  refine fw_cv (y := iI (z 1)) (by rw [iI_ix (by omega) (by omega)]; exact hzs 1) ?_
  refine lv_aload_n E.1 E.2.1 dL_law_515 rfl (lv_at hl 5 rfl) ?_
  refine lv_iload E.1 E.2.1 dL_law_516 (lv_at hl 1 rfl) ?_
  refine lv_iconst (v := iI 2) E.1 E.2.1 dL_law_518 (by decide) ?_
  refine fw_iadd E dL_law_519 ?_
  refine fw_cv (y := iI (2)) (by decide) ?_
  refine va_sld (A := fun q => G.2.2.1 ≤ q) E.1 E.2.1 hX hbl hbA (fw_H.va hH0 hH) (iI_in (by omega) (by omega) (by omega)) dL_law_520 ?_
  refine fw_cv (y := iI (z 2)) (by rw [iI_ix (by omega) (by omega)]; exact hzs 2) ?_
  refine fw_cV (As := [.int (iI (z 1)), .int (iI (z 2))]) (rest := []) E hK hH hl hD.2.1 fc_X10 fL_X10_setWay ql_RL_141 qi_yX10_setWay qv_yX10_setWay (y_setWay l G _ _ (a + 378) hD (z 1) (z 2) (by omega) (by omega)) rfl rfl (Nat.le_of_ble_eq_true rfl) ⟨Nat.le_of_ble_eq_true rfl, Nat.le_of_ble_eq_true rfl⟩ ⟨Nat.le_of_ble_eq_true rfl, Nat.le_of_ble_eq_true rfl⟩ dL_law_521 (fw_ki fun rb M1 H1 locs1 hp hH hz1 => ?_)
  obtain ⟨⟨fs, hobj, hth⟩, hv, hfr⟩ := hp
  rw [← hkv] at hth hv
  replace hw : kv = 0 → ∃ g, M1 (a + 385) = some (fJ G 1 g) ∧ g 0 = (iI (0)).toInt64 := fun h => by
    obtain ⟨g, h1, h2⟩ := hw h
    exact ⟨g, (hfr _ (by omega) (by omega)).trans h1, h2⟩
  clear hfr hz1
  refine lv_istore (lv' := [(6, .int rb), (5, .int (iI kv)), (4, .int (iI 0)), (3, .ref (a + 385)), (2, .ref (a + 378)), (1, .ref a), (0, .ref b)]) E.1 E.2.1 dL_law_524 hl (by decide) rfl (fun ls hl => ?_)
  refine lv_aload_n E.1 E.2.1 dL_law_526 rfl (lv_at hl 4 rfl) ?_
  refine fw_cV (As := []) (rest := []) E hK hH hl hobj fc_X10 fL_X10_thrown ql_RL_120 qi_yX10_thrown qv_yX10_thrown (m_thrown l G _ _ (a + 378) kv ⟨_, hobj, hth⟩) rfl rfl (Nat.le_of_ble_eq_true rfl) ⟨Nat.le_of_ble_eq_true rfl, Nat.le_of_ble_eq_true rfl⟩ ⟨Nat.le_of_ble_eq_true rfl, Nat.le_of_ble_eq_true rfl⟩ dL_law_527 (fw_ki fun r M1 H1 locs1 hp hH hz1 => ?_)
  obtain ⟨rfl, hM9, hz2⟩ := hp
  rw [hM9] at hH
  clear hz1 hz2
  refine lv_iload E.1 E.2.1 dL_law_530 (lv_at hl 1 rfl) ?_
  refine fw_icmp_eq (tgt := 537) E dL_law_532 (by decide) (by omega) (by omega) (by omega) (by omega) (fun c1 => ?_) (fun c1 => ?_)
  · refine lv_iload E.1 E.2.1 dL_law_537 (lv_at hl 1 rfl) ?_
    refine fw_if_ne (tgt := 554) E dL_law_539 (by decide) (by omega) (by omega) (fun c2 => ?_) (fun c2 => ?_)
    · refine lv_goto (tgt := 2392) E.1 E.2.1 dL_law_554 (by decide) ?_
      exact W.widen (k := 1000) (n := 20000) (by omega) (by omega) (kend _ _ _ _ hH (lv_sub hl [2, 6] rfl))
    · refine lv_aload_n E.1 E.2.1 dL_law_542 rfl (lv_at hl 3 rfl) ?_
      refine lv_iconst (v := iI 0) E.1 E.2.1 dL_law_543 (by decide) ?_
      obtain ⟨g9, ho, hg9⟩ := hw c2
      obtain rfl := hv c2
      refine fw_lald E hK hH ho (iI_in (by omega) (by omega) (by omega)) dL_law_544 ?_
      refine fw_cw (v := .long (iI (0)).toInt64) (congrArg Value.long hg9) ?_
      refine lv_iload E.1 E.2.1 dL_law_545 (lv_at hl 0 rfl) ?_
      refine lv_i2l (v := (iI 0).toInt64) E.1 E.2.1 dL_law_547 rfl ?_
      refine W.lcmp E.1 E.2.1 dL_law_548 ?_
      refine fw_cv (y := iI 0) (lg_cmp_self _) ?_
      refine fw_if_eq (tgt := 554) E dL_law_549 (by decide) (by omega) (by omega) (fun c3 => ?_) (fun c3 => ?_)
      · refine lv_goto (tgt := 2392) E.1 E.2.1 dL_law_554 (by decide) ?_
        exact W.widen (k := 1000) (n := 20000) (by omega) (by omega) (kend _ _ _ _ hH (lv_sub hl [2, 6] rfl))
      · exact absurd c3 (by omega)
  · exact absurd rfl c1
theorem lc_cross {p : Program} {l : Launch} {e : Env} {s : State} {m : MethodId} {args : Array Value} {below : List Frame} {meth : Method} {c : Code} {H : Heap} {locs : List Loc} {Q : State → Prop} {G : fw_G} {M M0 : fw_M} {ls : Array Slot} {a b : Nat} {xs : Nat → Int32} {z : Nat → Int} {w9 : Nat → Int64} (hlt : l.stackTraces = false) (E : CallFix p m c code 9 s args fwT RL) (hK : fw_K G s) (hH0 : fw_H G s M0 s.heap []) (hH : fw_H G s M H locs) (hB : bn0 G M a) (hD : md0 G M (a + 378)) (ho : M (a + 385) = some (fJ G 1 w9)) (hsz : a + 386 ≤ H.size) (hl : lv_has ls 9 [(4, .int (iI 0)), (3, .ref (a + 385)), (2, .ref (a + 378)), (1, .ref a), (0, .ref b)]) (hX : va_X b 5 xs s s.heap) (hbl : b < s.heap.size) (hbA : ¬ (fun q => G.2.2.1 ≤ q) b) (hzs : ∀ k, xs k = iI (z k)) (hzb : ∀ k, -2147483648 ≤ z k ∧ z k < 2147483648) (kend : ∀ (M1 : fw_M) (H1 : Heap) (locs1 : List Loc) (ls1 : Array Slot), fw_H G s M1 H1 locs1 → lv_has ls1 9 [(4, .int (iI 0)), (0, .ref b)] → W p l e room_1 s m args below meth c H1 locs1 1000 20000 Q (F0 m 2392 ls1 [])) : W p l e room_1 s m args below meth c H locs 400 13000 Q (F0 m 557 ls []) := by
  have hzb1 := hzb 1
  have hzb2 := hzb 2
  have hzb3 := hzb 3
  have hzb4 := hzb 4
  refine lv_aload_n E.1 E.2.1 dL_law_557 rfl (lv_at hl 3 rfl) ?_
  refine lv_aload_n E.1 E.2.1 dL_law_558 rfl (lv_at hl 4 rfl) ?_
  refine lv_iload E.1 E.2.1 dL_law_559 (lv_at hl 0 rfl) ?_
  refine lv_iconst (v := iI 1) E.1 E.2.1 dL_law_561 (by decide) ?_
  refine fw_iadd E dL_law_562 ?_
  refine fw_cv (y := iI (1)) (by decide) ?_
  refine va_sld (A := fun q => G.2.2.1 ≤ q) E.1 E.2.1 hX hbl hbA (fw_H.va hH0 hH) (iI_in (by omega) (by omega) (by omega)) dL_law_563 ?_
  refine fw_cv (y := iI (z 1)) (by rw [iI_ix (by omega) (by omega)]; exact hzs 1) ?_
  refine lv_aload_n E.1 E.2.1 dL_law_564 rfl (lv_at hl 4 rfl) ?_
  refine lv_iload E.1 E.2.1 dL_law_565 (lv_at hl 0 rfl) ?_
  refine lv_iconst (v := iI 2) E.1 E.2.1 dL_law_567 (by decide) ?_
  refine fw_iadd E dL_law_568 ?_
  refine fw_cv (y := iI (2)) (by decide) ?_
  refine va_sld (A := fun q => G.2.2.1 ≤ q) E.1 E.2.1 hX hbl hbA (fw_H.va hH0 hH) (iI_in (by omega) (by omega) (by omega)) dL_law_569 ?_
  refine fw_cv (y := iI (z 2)) (by rw [iI_ix (by omega) (by omega)]; exact hzs 2) ?_
  refine lv_aload_n E.1 E.2.1 dL_law_570 rfl (lv_at hl 4 rfl) ?_
  refine lv_iload E.1 E.2.1 dL_law_571 (lv_at hl 0 rfl) ?_
  refine lv_iconst (v := iI 3) E.1 E.2.1 dL_law_573 (by decide) ?_
  refine fw_iadd E dL_law_574 ?_
  refine fw_cv (y := iI (3)) (by decide) ?_
  refine va_sld (A := fun q => G.2.2.1 ≤ q) E.1 E.2.1 hX hbl hbA (fw_H.va hH0 hH) (iI_in (by omega) (by omega) (by omega)) dL_law_575 ?_
  refine fw_cv (y := iI (z 3)) (by rw [iI_ix (by omega) (by omega)]; exact hzs 3) ?_
  refine lv_aload_n E.1 E.2.1 dL_law_576 rfl (lv_at hl 4 rfl) ?_
  refine lv_iload E.1 E.2.1 dL_law_577 (lv_at hl 0 rfl) ?_
  refine lv_iconst (v := iI 4) E.1 E.2.1 dL_law_579 (by decide) ?_
  refine fw_iadd E dL_law_580 ?_
  refine fw_cv (y := iI (4)) (by decide) ?_
  refine va_sld (A := fun q => G.2.2.1 ≤ q) E.1 E.2.1 hX hbl hbA (fw_H.va hH0 hH) (iI_in (by omega) (by omega) (by omega)) dL_law_581 ?_
  refine fw_cv (y := iI (z 4)) (by rw [iI_ix (by omega) (by omega)]; exact hzs 4) ?_
  refine lv_aload_n E.1 E.2.1 dL_law_582 rfl (lv_at hl 1 rfl) ?_
  refine fw_cSW (As := [.ref a, .int (iI (z 1)), .int (iI (z 2)), .int (iI (z 3)), .int (iI (z 4)), .ref (a + 385)]) (rest := []) E hK hH hl fW_cross ql_RL_142 qs_yL_cross (w_cross l hlt G _ _ a hB w9 ho (z 1) (z 2) (z 3) (z 4) (by omega) (by omega) (by omega) (by omega)) rfl rfl (Nat.le_of_ble_eq_true rfl) ⟨Nat.le_of_ble_eq_true rfl, Nat.le_of_ble_eq_true rfl⟩ ⟨Nat.le_of_ble_eq_true rfl, Nat.le_of_ble_eq_true rfl⟩ dL_law_583 (fw_ki fun r M1 H1 locs1 hp hH hz1 => ?_)
  obtain ⟨rfl, hw, hfr⟩ := hp
  replace hD := hD.fr (fun q h1 h2 => hfr q (by omega) (by omega))
  clear hfr
  refine lv_istore (lv' := [(5, .int (iI 1)), (4, .int (iI 0)), (3, .ref (a + 385)), (2, .ref (a + 378)), (1, .ref a), (0, .ref b)]) E.1 E.2.1 dL_law_586 hl (by decide) rfl (fun ls hl => ?_)
  refine lv_aload_n E.1 E.2.1 dL_law_588 rfl (lv_at hl 3 rfl) ?_
  refine lv_aload_n E.1 E.2.1 dL_law_589 rfl (lv_at hl 5 rfl) ?_
  refine lv_iload E.1 E.2.1 dL_law_590 (lv_at hl 1 rfl) ?_
  refine lv_iconst (v := iI 1) E.1 E.2.1 dL_law_592 (by decide) ?_
  refine fw_iadd E dL_law_593 ?_
  refine fw_cv (y := iI (1)) (by decide) ?_
  refine va_sld (A := fun q => G.2.2.1 ≤ q) E.1 E.2.1 hX hbl hbA (fw_H.va hH0 hH) (iI_in (by omega) (by omega) (by omega)) dL_law_594 ?_
  refine fw_cv (y := iI (z 1)) (by rw [iI_ix (by omega) (by omega)]; exact hzs 1) ?_
  refine lv_aload_n E.1 E.2.1 dL_law_595 rfl (lv_at hl 5 rfl) ?_
  refine lv_iload E.1 E.2.1 dL_law_596 (lv_at hl 1 rfl) ?_
  refine lv_iconst (v := iI 2) E.1 E.2.1 dL_law_598 (by decide) ?_
  refine fw_iadd E dL_law_599 ?_
  refine fw_cv (y := iI (2)) (by decide) ?_
  refine va_sld (A := fun q => G.2.2.1 ≤ q) E.1 E.2.1 hX hbl hbA (fw_H.va hH0 hH) (iI_in (by omega) (by omega) (by omega)) dL_law_600 ?_
  refine fw_cv (y := iI (z 2)) (by rw [iI_ix (by omega) (by omega)]; exact hzs 2) ?_
  refine lv_aload_n E.1 E.2.1 dL_law_601 rfl (lv_at hl 5 rfl) ?_
  refine lv_iload E.1 E.2.1 dL_law_602 (lv_at hl 1 rfl) ?_
  refine lv_iconst (v := iI 3) E.1 E.2.1 dL_law_604 (by decide) ?_
  refine fw_iadd E dL_law_605 ?_
  refine fw_cv (y := iI (3)) (by decide) ?_
  refine va_sld (A := fun q => G.2.2.1 ≤ q) E.1 E.2.1 hX hbl hbA (fw_H.va hH0 hH) (iI_in (by omega) (by omega) (by omega)) dL_law_606 ?_
  refine fw_cv (y := iI (z 3)) (by rw [iI_ix (by omega) (by omega)]; exact hzs 3) ?_
  refine lv_aload_n E.1 E.2.1 dL_law_607 rfl (lv_at hl 5 rfl) ?_
  refine lv_iload E.1 E.2.1 dL_law_608 (lv_at hl 1 rfl) ?_
  refine lv_iconst (v := iI 4) E.1 E.2.1 dL_law_610 (by decide) ?_
  refine fw_iadd E dL_law_611 ?_
  refine fw_cv (y := iI (4)) (by decide) ?_
  refine va_sld (A := fun q => G.2.2.1 ≤ q) E.1 E.2.1 hX hbl hbA (fw_H.va hH0 hH) (iI_in (by omega) (by omega) (by omega)) dL_law_612 ?_
  refine fw_cv (y := iI (z 4)) (by rw [iI_ix (by omega) (by omega)]; exact hzs 4) ?_
  refine fw_cV (As := [.int (iI (z 1)), .int (iI (z 2)), .int (iI (z 3)), .int (iI (z 4))]) (rest := []) E hK hH hl hD.2.1 fc_X10 fL_X10_cross ql_RL_144 qi_yX10_cross qv_yX10_cross (y_cross l G _ _ (a + 378) hD (z 1) (z 2) (z 3) (z 4) (by omega) (by omega) (by omega) (by omega)) rfl rfl (Nat.le_of_ble_eq_true rfl) ⟨Nat.le_of_ble_eq_true rfl, Nat.le_of_ble_eq_true rfl⟩ ⟨Nat.le_of_ble_eq_true rfl, Nat.le_of_ble_eq_true rfl⟩ dL_law_613 (fw_ki fun rb M1 H1 locs1 hp hH hz1 => ?_)
  obtain ⟨⟨fs, hobj, hth⟩, hv, hfr⟩ := hp
  clear hfr hz1
  refine lv_istore (lv' := [(6, .int rb), (5, .int (iI 1)), (4, .int (iI 0)), (3, .ref (a + 385)), (2, .ref (a + 378)), (1, .ref a), (0, .ref b)]) E.1 E.2.1 dL_law_616 hl (by decide) rfl (fun ls hl => ?_)
  refine lv_aload_n E.1 E.2.1 dL_law_618 rfl (lv_at hl 4 rfl) ?_
  refine fw_cV (As := []) (rest := []) E hK hH hl hobj fc_X10 fL_X10_thrown ql_RL_120 qi_yX10_thrown qv_yX10_thrown (m_thrown l G _ _ (a + 378) 1 ⟨_, hobj, hth⟩) rfl rfl (Nat.le_of_ble_eq_true rfl) ⟨Nat.le_of_ble_eq_true rfl, Nat.le_of_ble_eq_true rfl⟩ ⟨Nat.le_of_ble_eq_true rfl, Nat.le_of_ble_eq_true rfl⟩ dL_law_619 (fw_ki fun r M1 H1 locs1 hp hH hz1 => ?_)
  obtain ⟨rfl, hM9, hz2⟩ := hp
  rw [hM9] at hH
  clear hz1 hz2
  refine lv_iload E.1 E.2.1 dL_law_622 (lv_at hl 1 rfl) ?_
  refine fw_icmp_eq (tgt := 629) E dL_law_624 (by decide) (by omega) (by omega) (by omega) (by omega) (fun c1 => ?_) (fun c1 => ?_)
  · refine lv_iload E.1 E.2.1 dL_law_629 (lv_at hl 1 rfl) ?_
    refine fw_if_ne (tgt := 646) E dL_law_631 (by decide) (by omega) (by omega) (fun c2 => ?_) (fun c2 => ?_)
    · refine lv_goto (tgt := 2392) E.1 E.2.1 dL_law_646 (by decide) ?_
      exact W.widen (k := 1000) (n := 20000) (by omega) (by omega) (kend _ _ _ _ hH (lv_sub hl [2, 6] rfl))
    · exact absurd c2 (by omega)
  · exact absurd c1 (by omega)
theorem lc_hoist {p : Program} {l : Launch} {e : Env} {s : State} {m : MethodId} {args : Array Value} {below : List Frame} {meth : Method} {c : Code} {H : Heap} {locs : List Loc} {Q : State → Prop} {G : fw_G} {M M0 : fw_M} {ls : Array Slot} {a b : Nat} {xs : Nat → Int32} {z : Nat → Int} {w9 : Nat → Int64} (hlt : l.stackTraces = false) (E : CallFix p m c code 9 s args fwT RL) (hK : fw_K G s) (hH0 : fw_H G s M0 s.heap []) (hH : fw_H G s M H locs) (hB : bn0 G M a) (hD : md0 G M (a + 378)) (ho : M (a + 385) = some (fJ G 1 w9)) (hsz : a + 386 ≤ H.size) (hl : lv_has ls 9 [(4, .int (iI 0)), (3, .ref (a + 385)), (2, .ref (a + 378)), (1, .ref a), (0, .ref b)]) (hX : va_X b 5 xs s s.heap) (hbl : b < s.heap.size) (hbA : ¬ (fun q => G.2.2.1 ≤ q) b) (hzs : ∀ k, xs k = iI (z k)) (hzb : ∀ k, -2147483648 ≤ z k ∧ z k < 2147483648) (kend : ∀ (M1 : fw_M) (H1 : Heap) (locs1 : List Loc) (ls1 : Array Slot), fw_H G s M1 H1 locs1 → lv_has ls1 9 [(4, .int (iI 0)), (0, .ref b)] → W p l e room_1 s m args below meth c H1 locs1 1000 20000 Q (F0 m 2392 ls1 [])) : W p l e room_1 s m args below meth c H locs 400 13000 Q (F0 m 649 ls []) := by
  have hzb1 := hzb 1
  have hzb2 := hzb 2
  refine lv_aload_n E.1 E.2.1 dL_law_649 rfl (lv_at hl 3 rfl) ?_
  refine lv_aload_n E.1 E.2.1 dL_law_650 rfl (lv_at hl 4 rfl) ?_
  refine lv_iload E.1 E.2.1 dL_law_651 (lv_at hl 0 rfl) ?_
  refine lv_iconst (v := iI 1) E.1 E.2.1 dL_law_653 (by decide) ?_
  refine fw_iadd E dL_law_654 ?_
  refine fw_cv (y := iI (1)) (by decide) ?_
  refine va_sld (A := fun q => G.2.2.1 ≤ q) E.1 E.2.1 hX hbl hbA (fw_H.va hH0 hH) (iI_in (by omega) (by omega) (by omega)) dL_law_655 ?_
  refine fw_cv (y := iI (z 1)) (by rw [iI_ix (by omega) (by omega)]; exact hzs 1) ?_
  refine lv_aload_n E.1 E.2.1 dL_law_656 rfl (lv_at hl 4 rfl) ?_
  refine lv_iload E.1 E.2.1 dL_law_657 (lv_at hl 0 rfl) ?_
  refine lv_iconst (v := iI 2) E.1 E.2.1 dL_law_659 (by decide) ?_
  refine fw_iadd E dL_law_660 ?_
  refine fw_cv (y := iI (2)) (by decide) ?_
  refine va_sld (A := fun q => G.2.2.1 ≤ q) E.1 E.2.1 hX hbl hbA (fw_H.va hH0 hH) (iI_in (by omega) (by omega) (by omega)) dL_law_661 ?_
  refine fw_cv (y := iI (z 2)) (by rw [iI_ix (by omega) (by omega)]; exact hzs 2) ?_
  refine lv_aload_n E.1 E.2.1 dL_law_662 rfl (lv_at hl 1 rfl) ?_
  refine fw_cSW (As := [.ref a, .int (iI (z 1)), .int (iI (z 2)), .ref (a + 385)]) (rest := []) E hK hH hl fW_hoist ql_RL_145 qs_yL_hoist (w_hoist l hlt G _ _ a hB w9 ho (z 1) (z 2) (by omega) (by omega)) rfl rfl (Nat.le_of_ble_eq_true rfl) ⟨Nat.le_of_ble_eq_true rfl, Nat.le_of_ble_eq_true rfl⟩ ⟨Nat.le_of_ble_eq_true rfl, Nat.le_of_ble_eq_true rfl⟩ dL_law_663 (fw_ki fun r M1 H1 locs1 hp hH hz1 => ?_)
  obtain ⟨rfl, hw, hfr⟩ := hp
  replace hD := hD.fr (fun q h1 h2 => hfr q (by omega) (by omega))
  clear hfr
  refine lv_istore (lv' := [(5, .int (iI 1)), (4, .int (iI 0)), (3, .ref (a + 385)), (2, .ref (a + 378)), (1, .ref a), (0, .ref b)]) E.1 E.2.1 dL_law_666 hl (by decide) rfl (fun ls hl => ?_)
  refine lv_aload_n E.1 E.2.1 dL_law_668 rfl (lv_at hl 3 rfl) ?_
  refine lv_aload_n E.1 E.2.1 dL_law_669 rfl (lv_at hl 5 rfl) ?_
  refine lv_iload E.1 E.2.1 dL_law_670 (lv_at hl 1 rfl) ?_
  refine lv_iconst (v := iI 1) E.1 E.2.1 dL_law_672 (by decide) ?_
  refine fw_iadd E dL_law_673 ?_
  refine fw_cv (y := iI (1)) (by decide) ?_
  refine va_sld (A := fun q => G.2.2.1 ≤ q) E.1 E.2.1 hX hbl hbA (fw_H.va hH0 hH) (iI_in (by omega) (by omega) (by omega)) dL_law_674 ?_
  refine fw_cv (y := iI (z 1)) (by rw [iI_ix (by omega) (by omega)]; exact hzs 1) ?_
  refine lv_aload_n E.1 E.2.1 dL_law_675 rfl (lv_at hl 5 rfl) ?_
  refine lv_iload E.1 E.2.1 dL_law_676 (lv_at hl 1 rfl) ?_
  refine lv_iconst (v := iI 2) E.1 E.2.1 dL_law_678 (by decide) ?_
  refine fw_iadd E dL_law_679 ?_
  refine fw_cv (y := iI (2)) (by decide) ?_
  refine va_sld (A := fun q => G.2.2.1 ≤ q) E.1 E.2.1 hX hbl hbA (fw_H.va hH0 hH) (iI_in (by omega) (by omega) (by omega)) dL_law_680 ?_
  refine fw_cv (y := iI (z 2)) (by rw [iI_ix (by omega) (by omega)]; exact hzs 2) ?_
  refine fw_cV (As := [.int (iI (z 1)), .int (iI (z 2))]) (rest := []) E hK hH hl hD.2.1 fc_X10 fL_X10_hoist ql_RL_147 qi_yX10_hoist qv_yX10_hoist (y_hoist l G _ _ (a + 378) hD (z 1) (z 2) (by omega) (by omega)) rfl rfl (Nat.le_of_ble_eq_true rfl) ⟨Nat.le_of_ble_eq_true rfl, Nat.le_of_ble_eq_true rfl⟩ ⟨Nat.le_of_ble_eq_true rfl, Nat.le_of_ble_eq_true rfl⟩ dL_law_681 (fw_ki fun rb M1 H1 locs1 hp hH hz1 => ?_)
  obtain ⟨⟨fs, hobj, hth⟩, hv, hfr⟩ := hp
  clear hfr hz1
  refine lv_istore (lv' := [(6, .int rb), (5, .int (iI 1)), (4, .int (iI 0)), (3, .ref (a + 385)), (2, .ref (a + 378)), (1, .ref a), (0, .ref b)]) E.1 E.2.1 dL_law_684 hl (by decide) rfl (fun ls hl => ?_)
  refine lv_aload_n E.1 E.2.1 dL_law_686 rfl (lv_at hl 4 rfl) ?_
  refine fw_cV (As := []) (rest := []) E hK hH hl hobj fc_X10 fL_X10_thrown ql_RL_120 qi_yX10_thrown qv_yX10_thrown (m_thrown l G _ _ (a + 378) 1 ⟨_, hobj, hth⟩) rfl rfl (Nat.le_of_ble_eq_true rfl) ⟨Nat.le_of_ble_eq_true rfl, Nat.le_of_ble_eq_true rfl⟩ ⟨Nat.le_of_ble_eq_true rfl, Nat.le_of_ble_eq_true rfl⟩ dL_law_687 (fw_ki fun r M1 H1 locs1 hp hH hz1 => ?_)
  obtain ⟨rfl, hM9, hz2⟩ := hp
  rw [hM9] at hH
  clear hz1 hz2
  refine lv_iload E.1 E.2.1 dL_law_690 (lv_at hl 1 rfl) ?_
  refine fw_icmp_eq (tgt := 697) E dL_law_692 (by decide) (by omega) (by omega) (by omega) (by omega) (fun c1 => ?_) (fun c1 => ?_)
  · refine lv_iload E.1 E.2.1 dL_law_697 (lv_at hl 1 rfl) ?_
    refine fw_if_ne (tgt := 714) E dL_law_699 (by decide) (by omega) (by omega) (fun c2 => ?_) (fun c2 => ?_)
    · refine lv_goto (tgt := 2392) E.1 E.2.1 dL_law_714 (by decide) ?_
      exact W.widen (k := 1000) (n := 20000) (by omega) (by omega) (kend _ _ _ _ hH (lv_sub hl [2, 6] rfl))
    · exact absurd c2 (by omega)
  · exact absurd c1 (by omega)
theorem lc_recode {p : Program} {l : Launch} {e : Env} {s : State} {m : MethodId} {args : Array Value} {below : List Frame} {meth : Method} {c : Code} {H : Heap} {locs : List Loc} {Q : State → Prop} {G : fw_G} {M M0 : fw_M} {ls : Array Slot} {a b : Nat} {xs : Nat → Int32} {z : Nat → Int} {w9 : Nat → Int64} (hlt : l.stackTraces = false) (E : CallFix p m c code 9 s args fwT RL) (hK : fw_K G s) (hH0 : fw_H G s M0 s.heap []) (hH : fw_H G s M H locs) (hB : bn0 G M a) (hD : md0 G M (a + 378)) (ho : M (a + 385) = some (fJ G 1 w9)) (hsz : a + 386 ≤ H.size) (hl : lv_has ls 9 [(4, .int (iI 0)), (3, .ref (a + 385)), (2, .ref (a + 378)), (1, .ref a), (0, .ref b)]) (hX : va_X b 5 xs s s.heap) (hbl : b < s.heap.size) (hbA : ¬ (fun q => G.2.2.1 ≤ q) b) (hzs : ∀ k, xs k = iI (z k)) (hzb : ∀ k, -2147483648 ≤ z k ∧ z k < 2147483648) (kend : ∀ (M1 : fw_M) (H1 : Heap) (locs1 : List Loc) (ls1 : Array Slot), fw_H G s M1 H1 locs1 → lv_has ls1 9 [(4, .int (iI 0)), (0, .ref b)] → W p l e room_1 s m args below meth c H1 locs1 1000 20000 Q (F0 m 2392 ls1 [])) : W p l e room_1 s m args below meth c H locs 400 13000 Q (F0 m 717 ls []) := by
  have hzb1 := hzb 1
  have hzb2 := hzb 2
  have hzb3 := hzb 3
  have hzb4 := hzb 4
  refine lv_aload_n E.1 E.2.1 dL_law_717 rfl (lv_at hl 3 rfl) ?_
  refine lv_aload_n E.1 E.2.1 dL_law_718 rfl (lv_at hl 4 rfl) ?_
  refine lv_iload E.1 E.2.1 dL_law_719 (lv_at hl 0 rfl) ?_
  refine lv_iconst (v := iI 1) E.1 E.2.1 dL_law_721 (by decide) ?_
  refine fw_iadd E dL_law_722 ?_
  refine fw_cv (y := iI (1)) (by decide) ?_
  refine va_sld (A := fun q => G.2.2.1 ≤ q) E.1 E.2.1 hX hbl hbA (fw_H.va hH0 hH) (iI_in (by omega) (by omega) (by omega)) dL_law_723 ?_
  refine fw_cv (y := iI (z 1)) (by rw [iI_ix (by omega) (by omega)]; exact hzs 1) ?_
  refine lv_aload_n E.1 E.2.1 dL_law_724 rfl (lv_at hl 4 rfl) ?_
  refine lv_iload E.1 E.2.1 dL_law_725 (lv_at hl 0 rfl) ?_
  refine lv_iconst (v := iI 2) E.1 E.2.1 dL_law_727 (by decide) ?_
  refine fw_iadd E dL_law_728 ?_
  refine fw_cv (y := iI (2)) (by decide) ?_
  refine va_sld (A := fun q => G.2.2.1 ≤ q) E.1 E.2.1 hX hbl hbA (fw_H.va hH0 hH) (iI_in (by omega) (by omega) (by omega)) dL_law_729 ?_
  refine fw_cv (y := iI (z 2)) (by rw [iI_ix (by omega) (by omega)]; exact hzs 2) ?_
  refine lv_aload_n E.1 E.2.1 dL_law_730 rfl (lv_at hl 4 rfl) ?_
  refine lv_iload E.1 E.2.1 dL_law_731 (lv_at hl 0 rfl) ?_
  refine lv_iconst (v := iI 3) E.1 E.2.1 dL_law_733 (by decide) ?_
  refine fw_iadd E dL_law_734 ?_
  refine fw_cv (y := iI (3)) (by decide) ?_
  refine va_sld (A := fun q => G.2.2.1 ≤ q) E.1 E.2.1 hX hbl hbA (fw_H.va hH0 hH) (iI_in (by omega) (by omega) (by omega)) dL_law_735 ?_
  refine fw_cv (y := iI (z 3)) (by rw [iI_ix (by omega) (by omega)]; exact hzs 3) ?_
  refine lv_aload_n E.1 E.2.1 dL_law_736 rfl (lv_at hl 4 rfl) ?_
  refine lv_iload E.1 E.2.1 dL_law_737 (lv_at hl 0 rfl) ?_
  refine lv_iconst (v := iI 4) E.1 E.2.1 dL_law_739 (by decide) ?_
  refine fw_iadd E dL_law_740 ?_
  refine fw_cv (y := iI (4)) (by decide) ?_
  refine va_sld (A := fun q => G.2.2.1 ≤ q) E.1 E.2.1 hX hbl hbA (fw_H.va hH0 hH) (iI_in (by omega) (by omega) (by omega)) dL_law_741 ?_
  refine fw_cv (y := iI (z 4)) (by rw [iI_ix (by omega) (by omega)]; exact hzs 4) ?_
  refine lv_aload_n E.1 E.2.1 dL_law_742 rfl (lv_at hl 1 rfl) ?_
  refine fw_cSW (As := [.ref a, .int (iI (z 1)), .int (iI (z 2)), .int (iI (z 3)), .int (iI (z 4)), .ref (a + 385)]) (rest := []) E hK hH hl fW_recode ql_RL_148 qs_yL_recode (w_recode l hlt G _ _ a hB w9 ho (z 1) (z 2) (z 3) (z 4) (by omega) (by omega) (by omega) (by omega)) rfl rfl (Nat.le_of_ble_eq_true rfl) ⟨Nat.le_of_ble_eq_true rfl, Nat.le_of_ble_eq_true rfl⟩ ⟨Nat.le_of_ble_eq_true rfl, Nat.le_of_ble_eq_true rfl⟩ dL_law_743 (fw_ki fun r M1 H1 locs1 hp hH hz1 => ?_)
  obtain ⟨rfl, hw, hfr⟩ := hp
  replace hD := hD.fr (fun q h1 h2 => hfr q (by omega) (by omega))
  clear hfr
  refine lv_istore (lv' := [(5, .int (iI 1)), (4, .int (iI 0)), (3, .ref (a + 385)), (2, .ref (a + 378)), (1, .ref a), (0, .ref b)]) E.1 E.2.1 dL_law_746 hl (by decide) rfl (fun ls hl => ?_)
  refine lv_aload_n E.1 E.2.1 dL_law_748 rfl (lv_at hl 3 rfl) ?_
  refine lv_aload_n E.1 E.2.1 dL_law_749 rfl (lv_at hl 5 rfl) ?_
  refine lv_iload E.1 E.2.1 dL_law_750 (lv_at hl 1 rfl) ?_
  refine lv_iconst (v := iI 1) E.1 E.2.1 dL_law_752 (by decide) ?_
  refine fw_iadd E dL_law_753 ?_
  refine fw_cv (y := iI (1)) (by decide) ?_
  refine va_sld (A := fun q => G.2.2.1 ≤ q) E.1 E.2.1 hX hbl hbA (fw_H.va hH0 hH) (iI_in (by omega) (by omega) (by omega)) dL_law_754 ?_
  refine fw_cv (y := iI (z 1)) (by rw [iI_ix (by omega) (by omega)]; exact hzs 1) ?_
  refine lv_aload_n E.1 E.2.1 dL_law_755 rfl (lv_at hl 5 rfl) ?_
  refine lv_iload E.1 E.2.1 dL_law_756 (lv_at hl 1 rfl) ?_
  refine lv_iconst (v := iI 2) E.1 E.2.1 dL_law_758 (by decide) ?_
  refine fw_iadd E dL_law_759 ?_
  refine fw_cv (y := iI (2)) (by decide) ?_
  refine va_sld (A := fun q => G.2.2.1 ≤ q) E.1 E.2.1 hX hbl hbA (fw_H.va hH0 hH) (iI_in (by omega) (by omega) (by omega)) dL_law_760 ?_
  refine fw_cv (y := iI (z 2)) (by rw [iI_ix (by omega) (by omega)]; exact hzs 2) ?_
  refine lv_aload_n E.1 E.2.1 dL_law_761 rfl (lv_at hl 5 rfl) ?_
  refine lv_iload E.1 E.2.1 dL_law_762 (lv_at hl 1 rfl) ?_
  refine lv_iconst (v := iI 3) E.1 E.2.1 dL_law_764 (by decide) ?_
  refine fw_iadd E dL_law_765 ?_
  refine fw_cv (y := iI (3)) (by decide) ?_
  refine va_sld (A := fun q => G.2.2.1 ≤ q) E.1 E.2.1 hX hbl hbA (fw_H.va hH0 hH) (iI_in (by omega) (by omega) (by omega)) dL_law_766 ?_
  refine fw_cv (y := iI (z 3)) (by rw [iI_ix (by omega) (by omega)]; exact hzs 3) ?_
  refine lv_aload_n E.1 E.2.1 dL_law_767 rfl (lv_at hl 5 rfl) ?_
  refine lv_iload E.1 E.2.1 dL_law_768 (lv_at hl 1 rfl) ?_
  refine lv_iconst (v := iI 4) E.1 E.2.1 dL_law_770 (by decide) ?_
  refine fw_iadd E dL_law_771 ?_
  refine fw_cv (y := iI (4)) (by decide) ?_
  refine va_sld (A := fun q => G.2.2.1 ≤ q) E.1 E.2.1 hX hbl hbA (fw_H.va hH0 hH) (iI_in (by omega) (by omega) (by omega)) dL_law_772 ?_
  refine fw_cv (y := iI (z 4)) (by rw [iI_ix (by omega) (by omega)]; exact hzs 4) ?_
  refine fw_cV (As := [.int (iI (z 1)), .int (iI (z 2)), .int (iI (z 3)), .int (iI (z 4))]) (rest := []) E hK hH hl hD.2.1 fc_X10 fL_X10_recode ql_RL_150 qi_yX10_recode qv_yX10_recode (y_recode l G _ _ (a + 378) hD (z 1) (z 2) (z 3) (z 4) (by omega) (by omega) (by omega) (by omega)) rfl rfl (Nat.le_of_ble_eq_true rfl) ⟨Nat.le_of_ble_eq_true rfl, Nat.le_of_ble_eq_true rfl⟩ ⟨Nat.le_of_ble_eq_true rfl, Nat.le_of_ble_eq_true rfl⟩ dL_law_773 (fw_ki fun rb M1 H1 locs1 hp hH hz1 => ?_)
  obtain ⟨⟨fs, hobj, hth⟩, hv, hfr⟩ := hp
  clear hfr hz1
  refine lv_istore (lv' := [(6, .int rb), (5, .int (iI 1)), (4, .int (iI 0)), (3, .ref (a + 385)), (2, .ref (a + 378)), (1, .ref a), (0, .ref b)]) E.1 E.2.1 dL_law_776 hl (by decide) rfl (fun ls hl => ?_)
  refine lv_aload_n E.1 E.2.1 dL_law_778 rfl (lv_at hl 4 rfl) ?_
  refine fw_cV (As := []) (rest := []) E hK hH hl hobj fc_X10 fL_X10_thrown ql_RL_120 qi_yX10_thrown qv_yX10_thrown (m_thrown l G _ _ (a + 378) 1 ⟨_, hobj, hth⟩) rfl rfl (Nat.le_of_ble_eq_true rfl) ⟨Nat.le_of_ble_eq_true rfl, Nat.le_of_ble_eq_true rfl⟩ ⟨Nat.le_of_ble_eq_true rfl, Nat.le_of_ble_eq_true rfl⟩ dL_law_779 (fw_ki fun r M1 H1 locs1 hp hH hz1 => ?_)
  obtain ⟨rfl, hM9, hz2⟩ := hp
  rw [hM9] at hH
  clear hz1 hz2
  refine lv_iload E.1 E.2.1 dL_law_782 (lv_at hl 1 rfl) ?_
  refine fw_icmp_eq (tgt := 789) E dL_law_784 (by decide) (by omega) (by omega) (by omega) (by omega) (fun c1 => ?_) (fun c1 => ?_)
  · refine lv_iload E.1 E.2.1 dL_law_789 (lv_at hl 1 rfl) ?_
    refine fw_if_ne (tgt := 806) E dL_law_791 (by decide) (by omega) (by omega) (fun c2 => ?_) (fun c2 => ?_)
    · refine lv_goto (tgt := 2392) E.1 E.2.1 dL_law_806 (by decide) ?_
      exact W.widen (k := 1000) (n := 20000) (by omega) (by omega) (kend _ _ _ _ hH (lv_sub hl [2, 6] rfl))
    · exact absurd c2 (by omega)
  · exact absurd c1 (by omega)
theorem lc_wither {p : Program} {l : Launch} {e : Env} {s : State} {m : MethodId} {args : Array Value} {below : List Frame} {meth : Method} {c : Code} {H : Heap} {locs : List Loc} {Q : State → Prop} {G : fw_G} {M M0 : fw_M} {ls : Array Slot} {a b : Nat} {xs : Nat → Int32} {z : Nat → Int} {w9 : Nat → Int64} (hlt : l.stackTraces = false) (E : CallFix p m c code 9 s args fwT RL) (hK : fw_K G s) (hH0 : fw_H G s M0 s.heap []) (hH : fw_H G s M H locs) (hB : bn0 G M a) (hD : md0 G M (a + 378)) (ho : M (a + 385) = some (fJ G 1 w9)) (hsz : a + 386 ≤ H.size) (hl : lv_has ls 9 [(4, .int (iI 0)), (3, .ref (a + 385)), (2, .ref (a + 378)), (1, .ref a), (0, .ref b)]) (hX : va_X b 5 xs s s.heap) (hbl : b < s.heap.size) (hbA : ¬ (fun q => G.2.2.1 ≤ q) b) (hzs : ∀ k, xs k = iI (z k)) (hzb : ∀ k, -2147483648 ≤ z k ∧ z k < 2147483648) (kend : ∀ (M1 : fw_M) (H1 : Heap) (locs1 : List Loc) (ls1 : Array Slot), fw_H G s M1 H1 locs1 → lv_has ls1 9 [(4, .int (iI 0)), (0, .ref b)] → W p l e room_1 s m args below meth c H1 locs1 1000 20000 Q (F0 m 2392 ls1 [])) : W p l e room_1 s m args below meth c H locs 400 13000 Q (F0 m 809 ls []) := by
  have hzb1 := hzb 1
  have hzb2 := hzb 2
  have hzb3 := hzb 3
  refine lv_aload_n E.1 E.2.1 dL_law_809 rfl (lv_at hl 3 rfl) ?_
  refine lv_aload_n E.1 E.2.1 dL_law_810 rfl (lv_at hl 4 rfl) ?_
  refine lv_iload E.1 E.2.1 dL_law_811 (lv_at hl 0 rfl) ?_
  refine lv_iconst (v := iI 1) E.1 E.2.1 dL_law_813 (by decide) ?_
  refine fw_iadd E dL_law_814 ?_
  refine fw_cv (y := iI (1)) (by decide) ?_
  refine va_sld (A := fun q => G.2.2.1 ≤ q) E.1 E.2.1 hX hbl hbA (fw_H.va hH0 hH) (iI_in (by omega) (by omega) (by omega)) dL_law_815 ?_
  refine fw_cv (y := iI (z 1)) (by rw [iI_ix (by omega) (by omega)]; exact hzs 1) ?_
  refine lv_aload_n E.1 E.2.1 dL_law_816 rfl (lv_at hl 4 rfl) ?_
  refine lv_iload E.1 E.2.1 dL_law_817 (lv_at hl 0 rfl) ?_
  refine lv_iconst (v := iI 2) E.1 E.2.1 dL_law_819 (by decide) ?_
  refine fw_iadd E dL_law_820 ?_
  refine fw_cv (y := iI (2)) (by decide) ?_
  refine va_sld (A := fun q => G.2.2.1 ≤ q) E.1 E.2.1 hX hbl hbA (fw_H.va hH0 hH) (iI_in (by omega) (by omega) (by omega)) dL_law_821 ?_
  refine fw_cv (y := iI (z 2)) (by rw [iI_ix (by omega) (by omega)]; exact hzs 2) ?_
  refine lv_aload_n E.1 E.2.1 dL_law_822 rfl (lv_at hl 4 rfl) ?_
  refine lv_iload E.1 E.2.1 dL_law_823 (lv_at hl 0 rfl) ?_
  refine lv_iconst (v := iI 3) E.1 E.2.1 dL_law_825 (by decide) ?_
  refine fw_iadd E dL_law_826 ?_
  refine fw_cv (y := iI (3)) (by decide) ?_
  refine va_sld (A := fun q => G.2.2.1 ≤ q) E.1 E.2.1 hX hbl hbA (fw_H.va hH0 hH) (iI_in (by omega) (by omega) (by omega)) dL_law_827 ?_
  refine fw_cv (y := iI (z 3)) (by rw [iI_ix (by omega) (by omega)]; exact hzs 3) ?_
  refine lv_aload_n E.1 E.2.1 dL_law_828 rfl (lv_at hl 1 rfl) ?_
  refine fw_cSW (As := [.ref a, .int (iI (z 1)), .int (iI (z 2)), .int (iI (z 3)), .ref (a + 385)]) (rest := []) E hK hH hl fW_wither ql_RL_151 qs_yL_wither (w_wither l hlt G _ _ a hB w9 ho (z 1) (z 2) (z 3) (by omega) (by omega) (by omega)) rfl rfl (Nat.le_of_ble_eq_true rfl) ⟨Nat.le_of_ble_eq_true rfl, Nat.le_of_ble_eq_true rfl⟩ ⟨Nat.le_of_ble_eq_true rfl, Nat.le_of_ble_eq_true rfl⟩ dL_law_829 (fw_ki fun r M1 H1 locs1 hp hH hz1 => ?_)
  obtain ⟨rfl, hw, hfr⟩ := hp
  replace hD := hD.fr (fun q h1 h2 => hfr q (by omega) (by omega))
  clear hfr
  refine lv_istore (lv' := [(5, .int (iI 1)), (4, .int (iI 0)), (3, .ref (a + 385)), (2, .ref (a + 378)), (1, .ref a), (0, .ref b)]) E.1 E.2.1 dL_law_832 hl (by decide) rfl (fun ls hl => ?_)
  refine lv_aload_n E.1 E.2.1 dL_law_834 rfl (lv_at hl 3 rfl) ?_
  refine lv_aload_n E.1 E.2.1 dL_law_835 rfl (lv_at hl 5 rfl) ?_
  refine lv_iload E.1 E.2.1 dL_law_836 (lv_at hl 1 rfl) ?_
  refine lv_iconst (v := iI 1) E.1 E.2.1 dL_law_838 (by decide) ?_
  refine fw_iadd E dL_law_839 ?_
  refine fw_cv (y := iI (1)) (by decide) ?_
  refine va_sld (A := fun q => G.2.2.1 ≤ q) E.1 E.2.1 hX hbl hbA (fw_H.va hH0 hH) (iI_in (by omega) (by omega) (by omega)) dL_law_840 ?_
  refine fw_cv (y := iI (z 1)) (by rw [iI_ix (by omega) (by omega)]; exact hzs 1) ?_
  refine lv_aload_n E.1 E.2.1 dL_law_841 rfl (lv_at hl 5 rfl) ?_
  refine lv_iload E.1 E.2.1 dL_law_842 (lv_at hl 1 rfl) ?_
  refine lv_iconst (v := iI 2) E.1 E.2.1 dL_law_844 (by decide) ?_
  refine fw_iadd E dL_law_845 ?_
  refine fw_cv (y := iI (2)) (by decide) ?_
  refine va_sld (A := fun q => G.2.2.1 ≤ q) E.1 E.2.1 hX hbl hbA (fw_H.va hH0 hH) (iI_in (by omega) (by omega) (by omega)) dL_law_846 ?_
  refine fw_cv (y := iI (z 2)) (by rw [iI_ix (by omega) (by omega)]; exact hzs 2) ?_
  refine lv_aload_n E.1 E.2.1 dL_law_847 rfl (lv_at hl 5 rfl) ?_
  refine lv_iload E.1 E.2.1 dL_law_848 (lv_at hl 1 rfl) ?_
  refine lv_iconst (v := iI 3) E.1 E.2.1 dL_law_850 (by decide) ?_
  refine fw_iadd E dL_law_851 ?_
  refine fw_cv (y := iI (3)) (by decide) ?_
  refine va_sld (A := fun q => G.2.2.1 ≤ q) E.1 E.2.1 hX hbl hbA (fw_H.va hH0 hH) (iI_in (by omega) (by omega) (by omega)) dL_law_852 ?_
  refine fw_cv (y := iI (z 3)) (by rw [iI_ix (by omega) (by omega)]; exact hzs 3) ?_
  refine fw_cV (As := [.int (iI (z 1)), .int (iI (z 2)), .int (iI (z 3))]) (rest := []) E hK hH hl hD.2.1 fc_X10 fL_X10_wither ql_RL_154 qi_yX10_wither qv_yX10_wither (y_wither l G _ _ (a + 378) hD (z 1) (z 2) (z 3) (by omega) (by omega) (by omega)) rfl rfl (Nat.le_of_ble_eq_true rfl) ⟨Nat.le_of_ble_eq_true rfl, Nat.le_of_ble_eq_true rfl⟩ ⟨Nat.le_of_ble_eq_true rfl, Nat.le_of_ble_eq_true rfl⟩ dL_law_853 (fw_ki fun rb M1 H1 locs1 hp hH hz1 => ?_)
  obtain ⟨⟨fs, hobj, hth⟩, hv, hfr⟩ := hp
  clear hfr hz1
  refine lv_istore (lv' := [(6, .int rb), (5, .int (iI 1)), (4, .int (iI 0)), (3, .ref (a + 385)), (2, .ref (a + 378)), (1, .ref a), (0, .ref b)]) E.1 E.2.1 dL_law_856 hl (by decide) rfl (fun ls hl => ?_)
  refine lv_aload_n E.1 E.2.1 dL_law_858 rfl (lv_at hl 4 rfl) ?_
  refine fw_cV (As := []) (rest := []) E hK hH hl hobj fc_X10 fL_X10_thrown ql_RL_120 qi_yX10_thrown qv_yX10_thrown (m_thrown l G _ _ (a + 378) 1 ⟨_, hobj, hth⟩) rfl rfl (Nat.le_of_ble_eq_true rfl) ⟨Nat.le_of_ble_eq_true rfl, Nat.le_of_ble_eq_true rfl⟩ ⟨Nat.le_of_ble_eq_true rfl, Nat.le_of_ble_eq_true rfl⟩ dL_law_859 (fw_ki fun r M1 H1 locs1 hp hH hz1 => ?_)
  obtain ⟨rfl, hM9, hz2⟩ := hp
  rw [hM9] at hH
  clear hz1 hz2
  refine lv_iload E.1 E.2.1 dL_law_862 (lv_at hl 1 rfl) ?_
  refine fw_icmp_eq (tgt := 869) E dL_law_864 (by decide) (by omega) (by omega) (by omega) (by omega) (fun c1 => ?_) (fun c1 => ?_)
  · refine lv_iload E.1 E.2.1 dL_law_869 (lv_at hl 1 rfl) ?_
    refine fw_if_ne (tgt := 886) E dL_law_871 (by decide) (by omega) (by omega) (fun c2 => ?_) (fun c2 => ?_)
    · refine lv_goto (tgt := 2392) E.1 E.2.1 dL_law_886 (by decide) ?_
      exact W.widen (k := 1000) (n := 20000) (by omega) (by omega) (kend _ _ _ _ hH (lv_sub hl [2, 6] rfl))
    · exact absurd c2 (by omega)
  · exact absurd c1 (by omega)
theorem lc_simplify {p : Program} {l : Launch} {e : Env} {s : State} {m : MethodId} {args : Array Value} {below : List Frame} {meth : Method} {c : Code} {H : Heap} {locs : List Loc} {Q : State → Prop} {G : fw_G} {M M0 : fw_M} {ls : Array Slot} {a b : Nat} {xs : Nat → Int32} {z : Nat → Int} {w9 : Nat → Int64} (hlt : l.stackTraces = false) (E : CallFix p m c code 9 s args fwT RL) (hK : fw_K G s) (hH0 : fw_H G s M0 s.heap []) (hH : fw_H G s M H locs) (hB : bn0 G M a) (hD : md0 G M (a + 378)) (ho : M (a + 385) = some (fJ G 1 w9)) (hsz : a + 386 ≤ H.size) (hl : lv_has ls 9 [(4, .int (iI 0)), (3, .ref (a + 385)), (2, .ref (a + 378)), (1, .ref a), (0, .ref b)]) (hX : va_X b 5 xs s s.heap) (hbl : b < s.heap.size) (hbA : ¬ (fun q => G.2.2.1 ≤ q) b) (hzs : ∀ k, xs k = iI (z k)) (hzb : ∀ k, -2147483648 ≤ z k ∧ z k < 2147483648) (kend : ∀ (M1 : fw_M) (H1 : Heap) (locs1 : List Loc) (ls1 : Array Slot), fw_H G s M1 H1 locs1 → lv_has ls1 9 [(4, .int (iI 0)), (0, .ref b)] → W p l e room_1 s m args below meth c H1 locs1 1000 20000 Q (F0 m 2392 ls1 [])) : W p l e room_1 s m args below meth c H locs 400 13000 Q (F0 m 889 ls []) := by
  have hzb1 := hzb 1
  refine lv_aload_n E.1 E.2.1 dL_law_889 rfl (lv_at hl 3 rfl) ?_
  refine lv_aload_n E.1 E.2.1 dL_law_890 rfl (lv_at hl 4 rfl) ?_
  refine lv_iload E.1 E.2.1 dL_law_891 (lv_at hl 0 rfl) ?_
  refine lv_iconst (v := iI 1) E.1 E.2.1 dL_law_893 (by decide) ?_
  refine fw_iadd E dL_law_894 ?_
  refine fw_cv (y := iI (1)) (by decide) ?_
  refine va_sld (A := fun q => G.2.2.1 ≤ q) E.1 E.2.1 hX hbl hbA (fw_H.va hH0 hH) (iI_in (by omega) (by omega) (by omega)) dL_law_895 ?_
  refine fw_cv (y := iI (z 1)) (by rw [iI_ix (by omega) (by omega)]; exact hzs 1) ?_
  refine lv_aload_n E.1 E.2.1 dL_law_896 rfl (lv_at hl 1 rfl) ?_
  refine fw_cSW (As := [.ref a, .int (iI (z 1)), .ref (a + 385)]) (rest := []) E hK hH hl fW_simplify ql_RL_155 qs_yL_simplify (w_simplify l hlt G _ _ a hB w9 ho (z 1) (by omega)) rfl rfl (Nat.le_of_ble_eq_true rfl) ⟨Nat.le_of_ble_eq_true rfl, Nat.le_of_ble_eq_true rfl⟩ ⟨Nat.le_of_ble_eq_true rfl, Nat.le_of_ble_eq_true rfl⟩ dL_law_897 (fw_ki fun r M1 H1 locs1 hp hH hz1 => ?_)
  obtain ⟨rfl, hw, hfr⟩ := hp
  replace hD := hD.fr (fun q h1 h2 => hfr q (by omega) (by omega))
  clear hfr
  refine lv_istore (lv' := [(5, .int (iI 1)), (4, .int (iI 0)), (3, .ref (a + 385)), (2, .ref (a + 378)), (1, .ref a), (0, .ref b)]) E.1 E.2.1 dL_law_900 hl (by decide) rfl (fun ls hl => ?_)
  refine lv_aload_n E.1 E.2.1 dL_law_902 rfl (lv_at hl 3 rfl) ?_
  refine lv_aload_n E.1 E.2.1 dL_law_903 rfl (lv_at hl 5 rfl) ?_
  refine lv_iload E.1 E.2.1 dL_law_904 (lv_at hl 1 rfl) ?_
  refine lv_iconst (v := iI 1) E.1 E.2.1 dL_law_906 (by decide) ?_
  refine fw_iadd E dL_law_907 ?_
  refine fw_cv (y := iI (1)) (by decide) ?_
  refine va_sld (A := fun q => G.2.2.1 ≤ q) E.1 E.2.1 hX hbl hbA (fw_H.va hH0 hH) (iI_in (by omega) (by omega) (by omega)) dL_law_908 ?_
  refine fw_cv (y := iI (z 1)) (by rw [iI_ix (by omega) (by omega)]; exact hzs 1) ?_
  refine fw_cV (As := [.int (iI (z 1))]) (rest := []) E hK hH hl hD.2.1 fc_X10 fL_X10_simplify ql_RL_157 qi_yX10_simplify qv_yX10_simplify (y_simplify l G _ _ (a + 378) hD (z 1) (by omega)) rfl rfl (Nat.le_of_ble_eq_true rfl) ⟨Nat.le_of_ble_eq_true rfl, Nat.le_of_ble_eq_true rfl⟩ ⟨Nat.le_of_ble_eq_true rfl, Nat.le_of_ble_eq_true rfl⟩ dL_law_909 (fw_ki fun rb M1 H1 locs1 hp hH hz1 => ?_)
  obtain ⟨⟨fs, hobj, hth⟩, hv, hfr⟩ := hp
  clear hfr hz1
  refine lv_istore (lv' := [(6, .int rb), (5, .int (iI 1)), (4, .int (iI 0)), (3, .ref (a + 385)), (2, .ref (a + 378)), (1, .ref a), (0, .ref b)]) E.1 E.2.1 dL_law_912 hl (by decide) rfl (fun ls hl => ?_)
  refine lv_aload_n E.1 E.2.1 dL_law_914 rfl (lv_at hl 4 rfl) ?_
  refine fw_cV (As := []) (rest := []) E hK hH hl hobj fc_X10 fL_X10_thrown ql_RL_120 qi_yX10_thrown qv_yX10_thrown (m_thrown l G _ _ (a + 378) 1 ⟨_, hobj, hth⟩) rfl rfl (Nat.le_of_ble_eq_true rfl) ⟨Nat.le_of_ble_eq_true rfl, Nat.le_of_ble_eq_true rfl⟩ ⟨Nat.le_of_ble_eq_true rfl, Nat.le_of_ble_eq_true rfl⟩ dL_law_915 (fw_ki fun r M1 H1 locs1 hp hH hz1 => ?_)
  obtain ⟨rfl, hM9, hz2⟩ := hp
  rw [hM9] at hH
  clear hz1 hz2
  refine lv_iload E.1 E.2.1 dL_law_918 (lv_at hl 1 rfl) ?_
  refine fw_icmp_eq (tgt := 925) E dL_law_920 (by decide) (by omega) (by omega) (by omega) (by omega) (fun c1 => ?_) (fun c1 => ?_)
  · refine lv_iload E.1 E.2.1 dL_law_925 (lv_at hl 1 rfl) ?_
    refine fw_if_ne (tgt := 942) E dL_law_927 (by decide) (by omega) (by omega) (fun c2 => ?_) (fun c2 => ?_)
    · refine lv_goto (tgt := 2392) E.1 E.2.1 dL_law_942 (by decide) ?_
      exact W.widen (k := 1000) (n := 20000) (by omega) (by omega) (kend _ _ _ _ hH (lv_sub hl [2, 6] rfl))
    · exact absurd c2 (by omega)
  · exact absurd c1 (by omega)
theorem lc_setRates {p : Program} {l : Launch} {e : Env} {s : State} {m : MethodId} {args : Array Value} {below : List Frame} {meth : Method} {c : Code} {H : Heap} {locs : List Loc} {Q : State → Prop} {G : fw_G} {M M0 : fw_M} {ls : Array Slot} {a b : Nat} {xs : Nat → Int32} {z : Nat → Int} {w9 : Nat → Int64} (hlt : l.stackTraces = false) (E : CallFix p m c code 9 s args fwT RL) (hK : fw_K G s) (hH0 : fw_H G s M0 s.heap []) (hH : fw_H G s M H locs) (hB : bn0 G M a) (hD : md0 G M (a + 378)) (ho : M (a + 385) = some (fJ G 1 w9)) (hsz : a + 386 ≤ H.size) (hl : lv_has ls 9 [(4, .int (iI 0)), (3, .ref (a + 385)), (2, .ref (a + 378)), (1, .ref a), (0, .ref b)]) (hX : va_X b 5 xs s s.heap) (hbl : b < s.heap.size) (hbA : ¬ (fun q => G.2.2.1 ≤ q) b) (hzs : ∀ k, xs k = iI (z k)) (hzb : ∀ k, -2147483648 ≤ z k ∧ z k < 2147483648) (kend : ∀ (M1 : fw_M) (H1 : Heap) (locs1 : List Loc) (ls1 : Array Slot), fw_H G s M1 H1 locs1 → lv_has ls1 9 [(4, .int (iI 0)), (0, .ref b)] → W p l e room_1 s m args below meth c H1 locs1 1000 20000 Q (F0 m 2392 ls1 [])) : W p l e room_1 s m args below meth c H locs 400 13000 Q (F0 m 945 ls []) := by
  have hzb1 := hzb 1
  have hzb2 := hzb 2
  have hzb3 := hzb 3
  refine lv_aload_n E.1 E.2.1 dL_law_945 rfl (lv_at hl 3 rfl) ?_
  refine lv_aload_n E.1 E.2.1 dL_law_946 rfl (lv_at hl 4 rfl) ?_
  refine lv_iload E.1 E.2.1 dL_law_947 (lv_at hl 0 rfl) ?_
  refine lv_iconst (v := iI 1) E.1 E.2.1 dL_law_949 (by decide) ?_
  refine fw_iadd E dL_law_950 ?_
  refine fw_cv (y := iI (1)) (by decide) ?_
  refine va_sld (A := fun q => G.2.2.1 ≤ q) E.1 E.2.1 hX hbl hbA (fw_H.va hH0 hH) (iI_in (by omega) (by omega) (by omega)) dL_law_951 ?_
  refine fw_cv (y := iI (z 1)) (by rw [iI_ix (by omega) (by omega)]; exact hzs 1) ?_
  refine lv_aload_n E.1 E.2.1 dL_law_952 rfl (lv_at hl 4 rfl) ?_
  refine lv_iload E.1 E.2.1 dL_law_953 (lv_at hl 0 rfl) ?_
  refine lv_iconst (v := iI 2) E.1 E.2.1 dL_law_955 (by decide) ?_
  refine fw_iadd E dL_law_956 ?_
  refine fw_cv (y := iI (2)) (by decide) ?_
  refine va_sld (A := fun q => G.2.2.1 ≤ q) E.1 E.2.1 hX hbl hbA (fw_H.va hH0 hH) (iI_in (by omega) (by omega) (by omega)) dL_law_957 ?_
  refine fw_cv (y := iI (z 2)) (by rw [iI_ix (by omega) (by omega)]; exact hzs 2) ?_
  refine lv_aload_n E.1 E.2.1 dL_law_958 rfl (lv_at hl 4 rfl) ?_
  refine lv_iload E.1 E.2.1 dL_law_959 (lv_at hl 0 rfl) ?_
  refine lv_iconst (v := iI 3) E.1 E.2.1 dL_law_961 (by decide) ?_
  refine fw_iadd E dL_law_962 ?_
  refine fw_cv (y := iI (3)) (by decide) ?_
  refine va_sld (A := fun q => G.2.2.1 ≤ q) E.1 E.2.1 hX hbl hbA (fw_H.va hH0 hH) (iI_in (by omega) (by omega) (by omega)) dL_law_963 ?_
  refine fw_cv (y := iI (z 3)) (by rw [iI_ix (by omega) (by omega)]; exact hzs 3) ?_
  refine lv_aload_n E.1 E.2.1 dL_law_964 rfl (lv_at hl 1 rfl) ?_
  refine fw_cSW (As := [.ref a, .int (iI (z 1)), .int (iI (z 2)), .int (iI (z 3)), .ref (a + 385)]) (rest := []) E hK hH hl fW_setRates ql_RL_158 qs_yL_setRates (w_setRates l hlt G _ _ a hB w9 ho (z 1) (z 2) (z 3) (by omega) (by omega) (by omega)) rfl rfl (Nat.le_of_ble_eq_true rfl) ⟨Nat.le_of_ble_eq_true rfl, Nat.le_of_ble_eq_true rfl⟩ ⟨Nat.le_of_ble_eq_true rfl, Nat.le_of_ble_eq_true rfl⟩ dL_law_965 (fw_ki fun r M1 H1 locs1 hp hH hz1 => ?_)
  obtain ⟨rfl, hw, hfr⟩ := hp
  replace hD := hD.fr (fun q h1 h2 => hfr q (by omega) (by omega))
  obtain ⟨kv, hkv⟩ : ∃ y, y = kS_setRates (z 1) (z 2) (z 3) := ⟨_, rfl⟩
  have hkb : 0 ≤ kv ∧ kv ≤ 2 := by rw [hkv]; unfold kS_setRates; (repeat' split) <;> omega
  rw [← hkv] at hw
  refine fw_cv (y := iI kv) (by rw [hkv]) ?_
  clear hfr
  refine lv_istore (lv' := [(5, .int (iI kv)), (4, .int (iI 0)), (3, .ref (a + 385)), (2, .ref (a + 378)), (1, .ref a), (0, .ref b)]) E.1 E.2.1 dL_law_968 hl (by decide) rfl (fun ls hl => ?_)
  refine lv_aload_n E.1 E.2.1 dL_law_970 rfl (lv_at hl 3 rfl) ?_
  refine lv_aload_n E.1 E.2.1 dL_law_971 rfl (lv_at hl 5 rfl) ?_
  refine lv_iload E.1 E.2.1 dL_law_972 (lv_at hl 1 rfl) ?_
  refine lv_iconst (v := iI 1) E.1 E.2.1 dL_law_974 (by decide) ?_
  refine fw_iadd E dL_law_975 ?_
  refine fw_cv (y := iI (1)) (by decide) ?_
  refine va_sld (A := fun q => G.2.2.1 ≤ q) E.1 E.2.1 hX hbl hbA (fw_H.va hH0 hH) (iI_in (by omega) (by omega) (by omega)) dL_law_976 ?_
  refine fw_cv (y := iI (z 1)) (by rw [iI_ix (by omega) (by omega)]; exact hzs 1) ?_
  refine lv_aload_n E.1 E.2.1 dL_law_977 rfl (lv_at hl 5 rfl) ?_
  refine lv_iload E.1 E.2.1 dL_law_978 (lv_at hl 1 rfl) ?_
  refine lv_iconst (v := iI 2) E.1 E.2.1 dL_law_980 (by decide) ?_
  refine fw_iadd E dL_law_981 ?_
  refine fw_cv (y := iI (2)) (by decide) ?_
  refine va_sld (A := fun q => G.2.2.1 ≤ q) E.1 E.2.1 hX hbl hbA (fw_H.va hH0 hH) (iI_in (by omega) (by omega) (by omega)) dL_law_982 ?_
  refine fw_cv (y := iI (z 2)) (by rw [iI_ix (by omega) (by omega)]; exact hzs 2) ?_
  refine lv_aload_n E.1 E.2.1 dL_law_983 rfl (lv_at hl 5 rfl) ?_
  refine lv_iload E.1 E.2.1 dL_law_984 (lv_at hl 1 rfl) ?_
  refine lv_iconst (v := iI 3) E.1 E.2.1 dL_law_986 (by decide) ?_
  refine fw_iadd E dL_law_987 ?_
  refine fw_cv (y := iI (3)) (by decide) ?_
  refine va_sld (A := fun q => G.2.2.1 ≤ q) E.1 E.2.1 hX hbl hbA (fw_H.va hH0 hH) (iI_in (by omega) (by omega) (by omega)) dL_law_988 ?_
  refine fw_cv (y := iI (z 3)) (by rw [iI_ix (by omega) (by omega)]; exact hzs 3) ?_
  refine fw_cV (As := [.int (iI (z 1)), .int (iI (z 2)), .int (iI (z 3))]) (rest := []) E hK hH hl hD.2.1 fc_X10 fL_X10_setRates ql_RL_160 qi_yX10_setRates qv_yX10_setRates (y_setRates l G _ _ (a + 378) hD (z 1) (z 2) (z 3) (by omega) (by omega) (by omega)) rfl rfl (Nat.le_of_ble_eq_true rfl) ⟨Nat.le_of_ble_eq_true rfl, Nat.le_of_ble_eq_true rfl⟩ ⟨Nat.le_of_ble_eq_true rfl, Nat.le_of_ble_eq_true rfl⟩ dL_law_989 (fw_ki fun rb M1 H1 locs1 hp hH hz1 => ?_)
  obtain ⟨⟨fs, hobj, hth⟩, hv, hfr⟩ := hp
  rw [← hkv] at hth hv
  replace hw : kv = 0 → ∃ g, M1 (a + 385) = some (fJ G 1 g) ∧ g 0 = (iI (70)).toInt64 := fun h => by
    obtain ⟨g, h1, h2⟩ := hw h
    exact ⟨g, (hfr _ (by omega) (by omega)).trans h1, h2⟩
  clear hfr hz1
  refine lv_istore (lv' := [(6, .int rb), (5, .int (iI kv)), (4, .int (iI 0)), (3, .ref (a + 385)), (2, .ref (a + 378)), (1, .ref a), (0, .ref b)]) E.1 E.2.1 dL_law_992 hl (by decide) rfl (fun ls hl => ?_)
  refine lv_aload_n E.1 E.2.1 dL_law_994 rfl (lv_at hl 4 rfl) ?_
  refine fw_cV (As := []) (rest := []) E hK hH hl hobj fc_X10 fL_X10_thrown ql_RL_120 qi_yX10_thrown qv_yX10_thrown (m_thrown l G _ _ (a + 378) kv ⟨_, hobj, hth⟩) rfl rfl (Nat.le_of_ble_eq_true rfl) ⟨Nat.le_of_ble_eq_true rfl, Nat.le_of_ble_eq_true rfl⟩ ⟨Nat.le_of_ble_eq_true rfl, Nat.le_of_ble_eq_true rfl⟩ dL_law_995 (fw_ki fun r M1 H1 locs1 hp hH hz1 => ?_)
  obtain ⟨rfl, hM9, hz2⟩ := hp
  rw [hM9] at hH
  clear hz1 hz2
  refine lv_iload E.1 E.2.1 dL_law_998 (lv_at hl 1 rfl) ?_
  refine fw_icmp_eq (tgt := 1005) E dL_law_1000 (by decide) (by omega) (by omega) (by omega) (by omega) (fun c1 => ?_) (fun c1 => ?_)
  · refine lv_iload E.1 E.2.1 dL_law_1005 (lv_at hl 1 rfl) ?_
    refine fw_if_ne (tgt := 1022) E dL_law_1007 (by decide) (by omega) (by omega) (fun c2 => ?_) (fun c2 => ?_)
    · refine lv_goto (tgt := 2392) E.1 E.2.1 dL_law_1022 (by decide) ?_
      exact W.widen (k := 1000) (n := 20000) (by omega) (by omega) (kend _ _ _ _ hH (lv_sub hl [2, 6] rfl))
    · refine lv_aload_n E.1 E.2.1 dL_law_1010 rfl (lv_at hl 3 rfl) ?_
      refine lv_iconst (v := iI 0) E.1 E.2.1 dL_law_1011 (by decide) ?_
      obtain ⟨g9, ho, hg9⟩ := hw c2
      obtain rfl := hv c2
      refine fw_lald E hK hH ho (iI_in (by omega) (by omega) (by omega)) dL_law_1012 ?_
      refine fw_cw (v := .long (iI (70)).toInt64) (congrArg Value.long hg9) ?_
      refine lv_iload E.1 E.2.1 dL_law_1013 (lv_at hl 0 rfl) ?_
      refine lv_i2l (v := (iI 70).toInt64) E.1 E.2.1 dL_law_1015 rfl ?_
      refine W.lcmp E.1 E.2.1 dL_law_1016 ?_
      refine fw_cv (y := iI 0) (lg_cmp_self _) ?_
      refine fw_if_eq (tgt := 1022) E dL_law_1017 (by decide) (by omega) (by omega) (fun c3 => ?_) (fun c3 => ?_)
      · refine lv_goto (tgt := 2392) E.1 E.2.1 dL_law_1022 (by decide) ?_
        exact W.widen (k := 1000) (n := 20000) (by omega) (by omega) (kend _ _ _ _ hH (lv_sub hl [2, 6] rfl))
      · exact absurd c3 (by omega)
  · exact absurd rfl c1
theorem lc_setChoosing {p : Program} {l : Launch} {e : Env} {s : State} {m : MethodId} {args : Array Value} {below : List Frame} {meth : Method} {c : Code} {H : Heap} {locs : List Loc} {Q : State → Prop} {G : fw_G} {M M0 : fw_M} {ls : Array Slot} {a b : Nat} {xs : Nat → Int32} {z : Nat → Int} {w9 : Nat → Int64} (hlt : l.stackTraces = false) (E : CallFix p m c code 9 s args fwT RL) (hK : fw_K G s) (hH0 : fw_H G s M0 s.heap []) (hH : fw_H G s M H locs) (hB : bn0 G M a) (hD : md0 G M (a + 378)) (ho : M (a + 385) = some (fJ G 1 w9)) (hsz : a + 386 ≤ H.size) (hl : lv_has ls 9 [(4, .int (iI 0)), (3, .ref (a + 385)), (2, .ref (a + 378)), (1, .ref a), (0, .ref b)]) (hX : va_X b 5 xs s s.heap) (hbl : b < s.heap.size) (hbA : ¬ (fun q => G.2.2.1 ≤ q) b) (hzs : ∀ k, xs k = iI (z k)) (hzb : ∀ k, -2147483648 ≤ z k ∧ z k < 2147483648) (kend : ∀ (M1 : fw_M) (H1 : Heap) (locs1 : List Loc) (ls1 : Array Slot), fw_H G s M1 H1 locs1 → lv_has ls1 9 [(4, .int (iI 0)), (0, .ref b)] → W p l e room_1 s m args below meth c H1 locs1 1000 20000 Q (F0 m 2392 ls1 [])) : W p l e room_1 s m args below meth c H locs 400 13000 Q (F0 m 1025 ls []) := by
  have hzb1 := hzb 1
  have hzb2 := hzb 2
  refine lv_aload_n E.1 E.2.1 dL_law_1025 rfl (lv_at hl 3 rfl) ?_
  refine lv_aload_n E.1 E.2.1 dL_law_1026 rfl (lv_at hl 4 rfl) ?_
  refine lv_iload E.1 E.2.1 dL_law_1027 (lv_at hl 0 rfl) ?_
  refine lv_iconst (v := iI 1) E.1 E.2.1 dL_law_1029 (by decide) ?_
  refine fw_iadd E dL_law_1030 ?_
  refine fw_cv (y := iI (1)) (by decide) ?_
  refine va_sld (A := fun q => G.2.2.1 ≤ q) E.1 E.2.1 hX hbl hbA (fw_H.va hH0 hH) (iI_in (by omega) (by omega) (by omega)) dL_law_1031 ?_
  refine fw_cv (y := iI (z 1)) (by rw [iI_ix (by omega) (by omega)]; exact hzs 1) ?_
  refine lv_aload_n E.1 E.2.1 dL_law_1032 rfl (lv_at hl 4 rfl) ?_
  refine lv_iload E.1 E.2.1 dL_law_1033 (lv_at hl 0 rfl) ?_
  refine lv_iconst (v := iI 2) E.1 E.2.1 dL_law_1035 (by decide) ?_
  refine fw_iadd E dL_law_1036 ?_
  refine fw_cv (y := iI (2)) (by decide) ?_
  refine va_sld (A := fun q => G.2.2.1 ≤ q) E.1 E.2.1 hX hbl hbA (fw_H.va hH0 hH) (iI_in (by omega) (by omega) (by omega)) dL_law_1037 ?_
  refine fw_cv (y := iI (z 2)) (by rw [iI_ix (by omega) (by omega)]; exact hzs 2) ?_
  refine lv_aload_n E.1 E.2.1 dL_law_1038 rfl (lv_at hl 1 rfl) ?_
  refine fw_cSW (As := [.ref a, .int (iI (z 1)), .int (iI (z 2)), .ref (a + 385)]) (rest := []) E hK hH hl fW_setChoosing ql_RL_161 qs_yL_setChoosing (w_setChoosing l hlt G _ _ a hB w9 ho (z 1) (z 2) (by omega) (by omega)) rfl rfl (Nat.le_of_ble_eq_true rfl) ⟨Nat.le_of_ble_eq_true rfl, Nat.le_of_ble_eq_true rfl⟩ ⟨Nat.le_of_ble_eq_true rfl, Nat.le_of_ble_eq_true rfl⟩ dL_law_1039 (fw_ki fun r M1 H1 locs1 hp hH hz1 => ?_)
  obtain ⟨rfl, hw, hfr⟩ := hp
  replace hD := hD.fr (fun q h1 h2 => hfr q (by omega) (by omega))
  obtain ⟨kv, hkv⟩ : ∃ y, y = kS_setChoosing (z 1) (z 2) := ⟨_, rfl⟩
  have hkb : 0 ≤ kv ∧ kv ≤ 2 := by rw [hkv]; unfold kS_setChoosing; (repeat' split) <;> omega
  rw [← hkv] at hw
  refine fw_cv (y := iI kv) (by rw [hkv]) ?_
  clear hfr
  refine lv_istore (lv' := [(5, .int (iI kv)), (4, .int (iI 0)), (3, .ref (a + 385)), (2, .ref (a + 378)), (1, .ref a), (0, .ref b)]) E.1 E.2.1 dL_law_1042 hl (by decide) rfl (fun ls hl => ?_)
  refine lv_aload_n E.1 E.2.1 dL_law_1044 rfl (lv_at hl 3 rfl) ?_
  refine lv_aload_n E.1 E.2.1 dL_law_1045 rfl (lv_at hl 5 rfl) ?_
  refine lv_iload E.1 E.2.1 dL_law_1046 (lv_at hl 1 rfl) ?_
  refine lv_iconst (v := iI 1) E.1 E.2.1 dL_law_1048 (by decide) ?_
  refine fw_iadd E dL_law_1049 ?_
  refine fw_cv (y := iI (1)) (by decide) ?_
  refine va_sld (A := fun q => G.2.2.1 ≤ q) E.1 E.2.1 hX hbl hbA (fw_H.va hH0 hH) (iI_in (by omega) (by omega) (by omega)) dL_law_1050 ?_
  refine fw_cv (y := iI (z 1)) (by rw [iI_ix (by omega) (by omega)]; exact hzs 1) ?_
  refine lv_aload_n E.1 E.2.1 dL_law_1051 rfl (lv_at hl 5 rfl) ?_
  refine lv_iload E.1 E.2.1 dL_law_1052 (lv_at hl 1 rfl) ?_
  refine lv_iconst (v := iI 2) E.1 E.2.1 dL_law_1054 (by decide) ?_
  refine fw_iadd E dL_law_1055 ?_
  refine fw_cv (y := iI (2)) (by decide) ?_
  refine va_sld (A := fun q => G.2.2.1 ≤ q) E.1 E.2.1 hX hbl hbA (fw_H.va hH0 hH) (iI_in (by omega) (by omega) (by omega)) dL_law_1056 ?_
  refine fw_cv (y := iI (z 2)) (by rw [iI_ix (by omega) (by omega)]; exact hzs 2) ?_
  refine fw_cV (As := [.int (iI (z 1)), .int (iI (z 2))]) (rest := []) E hK hH hl hD.2.1 fc_X10 fL_X10_setChoosing ql_RL_163 qi_yX10_setChoosing qv_yX10_setChoosing (y_setChoosing l G _ _ (a + 378) hD (z 1) (z 2) (by omega) (by omega)) rfl rfl (Nat.le_of_ble_eq_true rfl) ⟨Nat.le_of_ble_eq_true rfl, Nat.le_of_ble_eq_true rfl⟩ ⟨Nat.le_of_ble_eq_true rfl, Nat.le_of_ble_eq_true rfl⟩ dL_law_1057 (fw_ki fun rb M1 H1 locs1 hp hH hz1 => ?_)
  obtain ⟨⟨fs, hobj, hth⟩, hv, hfr⟩ := hp
  rw [← hkv] at hth hv
  replace hw : kv = 0 → ∃ g, M1 (a + 385) = some (fJ G 1 g) ∧ g 0 = (iI (2)).toInt64 := fun h => by
    obtain ⟨g, h1, h2⟩ := hw h
    exact ⟨g, (hfr _ (by omega) (by omega)).trans h1, h2⟩
  clear hfr hz1
  refine lv_istore (lv' := [(6, .int rb), (5, .int (iI kv)), (4, .int (iI 0)), (3, .ref (a + 385)), (2, .ref (a + 378)), (1, .ref a), (0, .ref b)]) E.1 E.2.1 dL_law_1060 hl (by decide) rfl (fun ls hl => ?_)
  refine lv_aload_n E.1 E.2.1 dL_law_1062 rfl (lv_at hl 4 rfl) ?_
  refine fw_cV (As := []) (rest := []) E hK hH hl hobj fc_X10 fL_X10_thrown ql_RL_120 qi_yX10_thrown qv_yX10_thrown (m_thrown l G _ _ (a + 378) kv ⟨_, hobj, hth⟩) rfl rfl (Nat.le_of_ble_eq_true rfl) ⟨Nat.le_of_ble_eq_true rfl, Nat.le_of_ble_eq_true rfl⟩ ⟨Nat.le_of_ble_eq_true rfl, Nat.le_of_ble_eq_true rfl⟩ dL_law_1063 (fw_ki fun r M1 H1 locs1 hp hH hz1 => ?_)
  obtain ⟨rfl, hM9, hz2⟩ := hp
  rw [hM9] at hH
  clear hz1 hz2
  refine lv_iload E.1 E.2.1 dL_law_1066 (lv_at hl 1 rfl) ?_
  refine fw_icmp_eq (tgt := 1073) E dL_law_1068 (by decide) (by omega) (by omega) (by omega) (by omega) (fun c1 => ?_) (fun c1 => ?_)
  · refine lv_iload E.1 E.2.1 dL_law_1073 (lv_at hl 1 rfl) ?_
    refine fw_if_ne (tgt := 1090) E dL_law_1075 (by decide) (by omega) (by omega) (fun c2 => ?_) (fun c2 => ?_)
    · refine lv_goto (tgt := 2392) E.1 E.2.1 dL_law_1090 (by decide) ?_
      exact W.widen (k := 1000) (n := 20000) (by omega) (by omega) (kend _ _ _ _ hH (lv_sub hl [2, 6] rfl))
    · refine lv_aload_n E.1 E.2.1 dL_law_1078 rfl (lv_at hl 3 rfl) ?_
      refine lv_iconst (v := iI 0) E.1 E.2.1 dL_law_1079 (by decide) ?_
      obtain ⟨g9, ho, hg9⟩ := hw c2
      obtain rfl := hv c2
      refine fw_lald E hK hH ho (iI_in (by omega) (by omega) (by omega)) dL_law_1080 ?_
      refine fw_cw (v := .long (iI (2)).toInt64) (congrArg Value.long hg9) ?_
      refine lv_iload E.1 E.2.1 dL_law_1081 (lv_at hl 0 rfl) ?_
      refine lv_i2l (v := (iI 2).toInt64) E.1 E.2.1 dL_law_1083 rfl ?_
      refine W.lcmp E.1 E.2.1 dL_law_1084 ?_
      refine fw_cv (y := iI 0) (lg_cmp_self _) ?_
      refine fw_if_eq (tgt := 1090) E dL_law_1085 (by decide) (by omega) (by omega) (fun c3 => ?_) (fun c3 => ?_)
      · refine lv_goto (tgt := 2392) E.1 E.2.1 dL_law_1090 (by decide) ?_
        exact W.widen (k := 1000) (n := 20000) (by omega) (by omega) (kend _ _ _ _ hH (lv_sub hl [2, 6] rfl))
      · exact absurd c3 (by omega)
  · exact absurd rfl c1
theorem lc_setLuck {p : Program} {l : Launch} {e : Env} {s : State} {m : MethodId} {args : Array Value} {below : List Frame} {meth : Method} {c : Code} {H : Heap} {locs : List Loc} {Q : State → Prop} {G : fw_G} {M M0 : fw_M} {ls : Array Slot} {a b : Nat} {xs : Nat → Int32} {z : Nat → Int} {w9 : Nat → Int64} (hlt : l.stackTraces = false) (E : CallFix p m c code 9 s args fwT RL) (hK : fw_K G s) (hH0 : fw_H G s M0 s.heap []) (hH : fw_H G s M H locs) (hB : bn0 G M a) (hD : md0 G M (a + 378)) (ho : M (a + 385) = some (fJ G 1 w9)) (hsz : a + 386 ≤ H.size) (hl : lv_has ls 9 [(4, .int (iI 0)), (3, .ref (a + 385)), (2, .ref (a + 378)), (1, .ref a), (0, .ref b)]) (hX : va_X b 5 xs s s.heap) (hbl : b < s.heap.size) (hbA : ¬ (fun q => G.2.2.1 ≤ q) b) (hzs : ∀ k, xs k = iI (z k)) (hzb : ∀ k, -2147483648 ≤ z k ∧ z k < 2147483648) (kend : ∀ (M1 : fw_M) (H1 : Heap) (locs1 : List Loc) (ls1 : Array Slot), fw_H G s M1 H1 locs1 → lv_has ls1 9 [(4, .int (iI 0)), (0, .ref b)] → W p l e room_1 s m args below meth c H1 locs1 1000 20000 Q (F0 m 2392 ls1 [])) : W p l e room_1 s m args below meth c H locs 400 13000 Q (F0 m 1093 ls []) := by
  have hzb1 := hzb 1
  refine lv_aload_n E.1 E.2.1 dL_law_1093 rfl (lv_at hl 3 rfl) ?_
  refine lv_aload_n E.1 E.2.1 dL_law_1094 rfl (lv_at hl 4 rfl) ?_
  refine lv_iload E.1 E.2.1 dL_law_1095 (lv_at hl 0 rfl) ?_
  refine lv_iconst (v := iI 1) E.1 E.2.1 dL_law_1097 (by decide) ?_
  refine fw_iadd E dL_law_1098 ?_
  refine fw_cv (y := iI (1)) (by decide) ?_
  refine va_sld (A := fun q => G.2.2.1 ≤ q) E.1 E.2.1 hX hbl hbA (fw_H.va hH0 hH) (iI_in (by omega) (by omega) (by omega)) dL_law_1099 ?_
  refine fw_cv (y := iI (z 1)) (by rw [iI_ix (by omega) (by omega)]; exact hzs 1) ?_
  refine lv_aload_n E.1 E.2.1 dL_law_1100 rfl (lv_at hl 1 rfl) ?_
  refine fw_cSW (As := [.ref a, .int (iI (z 1)), .ref (a + 385)]) (rest := []) E hK hH hl fW_setLuck ql_RL_164 qs_yL_setLuck (w_setLuck l hlt G _ _ a hB w9 ho (z 1) (by omega)) rfl rfl (Nat.le_of_ble_eq_true rfl) ⟨Nat.le_of_ble_eq_true rfl, Nat.le_of_ble_eq_true rfl⟩ ⟨Nat.le_of_ble_eq_true rfl, Nat.le_of_ble_eq_true rfl⟩ dL_law_1101 (fw_ki fun r M1 H1 locs1 hp hH hz1 => ?_)
  obtain ⟨rfl, hw, hfr⟩ := hp
  replace hD := hD.fr (fun q h1 h2 => hfr q (by omega) (by omega))
  obtain ⟨kv, hkv⟩ : ∃ y, y = kS_setLuck (z 1) := ⟨_, rfl⟩
  have hkb : 0 ≤ kv ∧ kv ≤ 2 := by rw [hkv]; unfold kS_setLuck; (repeat' split) <;> omega
  rw [← hkv] at hw
  refine fw_cv (y := iI kv) (by rw [hkv]) ?_
  clear hfr
  refine lv_istore (lv' := [(5, .int (iI kv)), (4, .int (iI 0)), (3, .ref (a + 385)), (2, .ref (a + 378)), (1, .ref a), (0, .ref b)]) E.1 E.2.1 dL_law_1104 hl (by decide) rfl (fun ls hl => ?_)
  refine lv_aload_n E.1 E.2.1 dL_law_1106 rfl (lv_at hl 3 rfl) ?_
  refine lv_aload_n E.1 E.2.1 dL_law_1107 rfl (lv_at hl 5 rfl) ?_
  refine lv_iload E.1 E.2.1 dL_law_1108 (lv_at hl 1 rfl) ?_
  refine lv_iconst (v := iI 1) E.1 E.2.1 dL_law_1110 (by decide) ?_
  refine fw_iadd E dL_law_1111 ?_
  refine fw_cv (y := iI (1)) (by decide) ?_
  refine va_sld (A := fun q => G.2.2.1 ≤ q) E.1 E.2.1 hX hbl hbA (fw_H.va hH0 hH) (iI_in (by omega) (by omega) (by omega)) dL_law_1112 ?_
  refine fw_cv (y := iI (z 1)) (by rw [iI_ix (by omega) (by omega)]; exact hzs 1) ?_
  refine fw_cV (As := [.int (iI (z 1))]) (rest := []) E hK hH hl hD.2.1 fc_X10 fL_X10_setLuck ql_RL_166 qi_yX10_setLuck qv_yX10_setLuck (y_setLuck l G _ _ (a + 378) hD (z 1) (by omega)) rfl rfl (Nat.le_of_ble_eq_true rfl) ⟨Nat.le_of_ble_eq_true rfl, Nat.le_of_ble_eq_true rfl⟩ ⟨Nat.le_of_ble_eq_true rfl, Nat.le_of_ble_eq_true rfl⟩ dL_law_1113 (fw_ki fun rb M1 H1 locs1 hp hH hz1 => ?_)
  obtain ⟨⟨fs, hobj, hth⟩, hv, hfr⟩ := hp
  rw [← hkv] at hth hv
  replace hw : kv = 0 → ∃ g, M1 (a + 385) = some (fJ G 1 g) ∧ g 0 = (iI (0)).toInt64 := fun h => by
    obtain ⟨g, h1, h2⟩ := hw h
    exact ⟨g, (hfr _ (by omega) (by omega)).trans h1, h2⟩
  clear hfr hz1
  refine lv_istore (lv' := [(6, .int rb), (5, .int (iI kv)), (4, .int (iI 0)), (3, .ref (a + 385)), (2, .ref (a + 378)), (1, .ref a), (0, .ref b)]) E.1 E.2.1 dL_law_1116 hl (by decide) rfl (fun ls hl => ?_)
  refine lv_aload_n E.1 E.2.1 dL_law_1118 rfl (lv_at hl 4 rfl) ?_
  refine fw_cV (As := []) (rest := []) E hK hH hl hobj fc_X10 fL_X10_thrown ql_RL_120 qi_yX10_thrown qv_yX10_thrown (m_thrown l G _ _ (a + 378) kv ⟨_, hobj, hth⟩) rfl rfl (Nat.le_of_ble_eq_true rfl) ⟨Nat.le_of_ble_eq_true rfl, Nat.le_of_ble_eq_true rfl⟩ ⟨Nat.le_of_ble_eq_true rfl, Nat.le_of_ble_eq_true rfl⟩ dL_law_1119 (fw_ki fun r M1 H1 locs1 hp hH hz1 => ?_)
  obtain ⟨rfl, hM9, hz2⟩ := hp
  rw [hM9] at hH
  clear hz1 hz2
  refine lv_iload E.1 E.2.1 dL_law_1122 (lv_at hl 1 rfl) ?_
  refine fw_icmp_eq (tgt := 1129) E dL_law_1124 (by decide) (by omega) (by omega) (by omega) (by omega) (fun c1 => ?_) (fun c1 => ?_)
  · refine lv_iload E.1 E.2.1 dL_law_1129 (lv_at hl 1 rfl) ?_
    refine fw_if_ne (tgt := 1146) E dL_law_1131 (by decide) (by omega) (by omega) (fun c2 => ?_) (fun c2 => ?_)
    · refine lv_goto (tgt := 2392) E.1 E.2.1 dL_law_1146 (by decide) ?_
      exact W.widen (k := 1000) (n := 20000) (by omega) (by omega) (kend _ _ _ _ hH (lv_sub hl [2, 6] rfl))
    · refine lv_aload_n E.1 E.2.1 dL_law_1134 rfl (lv_at hl 3 rfl) ?_
      refine lv_iconst (v := iI 0) E.1 E.2.1 dL_law_1135 (by decide) ?_
      obtain ⟨g9, ho, hg9⟩ := hw c2
      obtain rfl := hv c2
      refine fw_lald E hK hH ho (iI_in (by omega) (by omega) (by omega)) dL_law_1136 ?_
      refine fw_cw (v := .long (iI (0)).toInt64) (congrArg Value.long hg9) ?_
      refine lv_iload E.1 E.2.1 dL_law_1137 (lv_at hl 0 rfl) ?_
      refine lv_i2l (v := (iI 0).toInt64) E.1 E.2.1 dL_law_1139 rfl ?_
      refine W.lcmp E.1 E.2.1 dL_law_1140 ?_
      refine fw_cv (y := iI 0) (lg_cmp_self _) ?_
      refine fw_if_eq (tgt := 1146) E dL_law_1141 (by decide) (by omega) (by omega) (fun c3 => ?_) (fun c3 => ?_)
      · refine lv_goto (tgt := 2392) E.1 E.2.1 dL_law_1146 (by decide) ?_
        exact W.widen (k := 1000) (n := 20000) (by omega) (by omega) (kend _ _ _ _ hH (lv_sub hl [2, 6] rfl))
      · exact absurd c3 (by omega)
  · exact absurd rfl c1

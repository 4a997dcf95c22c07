theorem lc_tell {p : Program} {l : Launch} {e : Env} {s : State} {m : MethodId} {args : Array Value} {below : List Frame} {meth : Method} {c : Code} {H : Heap} {locs : List Loc} {Q : State → Prop} {G : fw_G} {M M0 : fw_M} {ls : Array Slot} {a b : Nat} {xs : Nat → Int32} {z : Nat → Int} {w9 : Nat → Int64} (hlt : l.stackTraces = false) (E : CallFix p m c code 9 s args fwT RL) (hK : fw_K G s) (hH0 : fw_H G s M0 s.heap []) (hH : fw_H G s M H locs) (hB : bn0 G M a) (hD : md0 G M (a + 378)) (ho : M (a + 385) = some (fJ G 1 w9)) (hsz : a + 386 ≤ H.size) (hl : lv_has ls 9 [(4, .int (iI 0)), (3, .ref (a + 385)), (2, .ref (a + 378)), (1, .ref a), (0, .ref b)]) (hX : va_X b 5 xs s s.heap) (hbl : b < s.heap.size) (hbA : ¬ (fun q => G.2.2.1 ≤ q) b) (hzs : ∀ k, xs k = iI (z k)) (hzb : ∀ k, -2147483648 ≤ z k ∧ z k < 2147483648) (kend : ∀ (M1 : fw_M) (H1 : Heap) (locs1 : List Loc) (ls1 : Array Slot), fw_H G s M1 H1 locs1 → lv_has ls1 9 [(4, .int (iI 0)), (0, .ref b)] → W p l e room_1 s m args below meth c H1 locs1 1000 20000 Q (F0 m 2392 ls1 [])) : W p l e room_1 s m args below meth c H locs 400 13000 Q (F0 m 1149 ls []) := by
  have hzb1 := hzb 1
  refine lv_aload_n E.1 E.2.1 dL_law_1149 rfl (lv_at hl 3 rfl) ?_
  refine lv_aload_n E.1 E.2.1 dL_law_1150 rfl (lv_at hl 4 rfl) ?_
  refine lv_iload E.1 E.2.1 dL_law_1151 (lv_at hl 0 rfl) ?_
  refine lv_iconst (v := iI 1) E.1 E.2.1 dL_law_1153 (by decide) ?_
  refine fw_iadd E dL_law_1154 ?_
  refine fw_cv (y := iI (1)) (by decide) ?_
  refine va_sld (A := fun q => G.2.2.1 ≤ q) E.1 E.2.1 hX hbl hbA (fw_H.va hH0 hH) (iI_in (by omega) (by omega) (by omega)) dL_law_1155 ?_
  refine fw_cv (y := iI (z 1)) (by rw [iI_ix (by omega) (by omega)]; exact hzs 1) ?_
  refine lv_aload_n E.1 E.2.1 dL_law_1156 rfl (lv_at hl 1 rfl) ?_
  refine fw_cSW (As := [.ref a, .int (iI (z 1)), .ref (a + 385)]) (rest := []) E hK hH hl fW_tell ql_RL_167 qs_yL_tell (w_tell l hlt G _ _ a hB w9 ho (z 1) (by omega)) rfl rfl (Nat.le_of_ble_eq_true rfl) ⟨Nat.le_of_ble_eq_true rfl, Nat.le_of_ble_eq_true rfl⟩ ⟨Nat.le_of_ble_eq_true rfl, Nat.le_of_ble_eq_true rfl⟩ dL_law_1157 (fw_ki fun r M1 H1 locs1 hp hH hz1 => ?_)
  obtain ⟨rfl, hw, hfr⟩ := hp
  replace hD := hD.fr (fun q h1 h2 => hfr q (by omega) (by omega))
  obtain ⟨kv, hkv⟩ : ∃ y, y = kS_tell (z 1) := ⟨_, rfl⟩
  have hkb : 0 ≤ kv ∧ kv ≤ 2 := by rw [hkv]; unfold kS_tell; (repeat' split) <;> omega
  rw [← hkv] at hw
  refine fw_cv (y := iI kv) (by rw [hkv]) ?_
  clear hfr
  refine lv_istore (lv' := [(5, .int (iI kv)), (4, .int (iI 0)), (3, .ref (a + 385)), (2, .ref (a + 378)), (1, .ref a), (0, .ref b)]) E.1 E.2.1 dL_law_1160 hl (by decide) rfl (fun ls hl => ?_)
  refine lv_aload_n E.1 E.2.1 dL_law_1162 rfl (lv_at hl 3 rfl) ?_
  refine lv_aload_n E.1 E.2.1 dL_law_1163 rfl (lv_at hl 5 rfl) ?_
  refine lv_iload E.1 E.2.1 dL_law_1164 (lv_at hl 1 rfl) ?_
  refine lv_iconst (v := iI 1) E.1 E.2.1 dL_law_1166 (by decide) ?_
  refine fw_iadd E dL_law_1167 ?_
  refine fw_cv (y := iI (1)) (by decide) ?_
  refine va_sld (A := fun q => G.2.2.1 ≤ q) E.1 E.2.1 hX hbl hbA (fw_H.va hH0 hH) (iI_in (by omega) (by omega) (by omega)) dL_law_1168 ?_
  refine fw_cv (y := iI (z 1)) (by rw [iI_ix (by omega) (by omega)]; exact hzs 1) ?_
  refine fw_cV (As := [.int (iI (z 1))]) (rest := []) E hK hH hl hD.2.1 fc_X10 fL_X10_tell ql_RL_169 qi_yX10_tell qv_yX10_tell (y_tell l G _ _ (a + 378) hD (z 1) (by omega)) rfl rfl (Nat.le_of_ble_eq_true rfl) ⟨Nat.le_of_ble_eq_true rfl, Nat.le_of_ble_eq_true rfl⟩ ⟨Nat.le_of_ble_eq_true rfl, Nat.le_of_ble_eq_true rfl⟩ dL_law_1169 (fw_ki fun rb M1 H1 locs1 hp hH hz1 => ?_)
  obtain ⟨⟨fs, hobj, hth⟩, hv, hfr⟩ := hp
  rw [← hkv] at hth hv
  replace hw : kv = 0 → ∃ g, M1 (a + 385) = some (fJ G 1 g) ∧ g 0 = (iI (1)).toInt64 := fun h => by
    obtain ⟨g, h1, h2⟩ := hw h
    exact ⟨g, (hfr _ (by omega) (by omega)).trans h1, h2⟩
  clear hfr hz1
  refine lv_istore (lv' := [(6, .int rb), (5, .int (iI kv)), (4, .int (iI 0)), (3, .ref (a + 385)), (2, .ref (a + 378)), (1, .ref a), (0, .ref b)]) E.1 E.2.1 dL_law_1172 hl (by decide) rfl (fun ls hl => ?_)
  refine lv_aload_n E.1 E.2.1 dL_law_1174 rfl (lv_at hl 4 rfl) ?_
  refine fw_cV (As := []) (rest := []) E hK hH hl hobj fc_X10 fL_X10_thrown ql_RL_120 qi_yX10_thrown qv_yX10_thrown (m_thrown l G _ _ (a + 378) kv ⟨_, hobj, hth⟩) rfl rfl (Nat.le_of_ble_eq_true rfl) ⟨Nat.le_of_ble_eq_true rfl, Nat.le_of_ble_eq_true rfl⟩ ⟨Nat.le_of_ble_eq_true rfl, Nat.le_of_ble_eq_true rfl⟩ dL_law_1175 (fw_ki fun r M1 H1 locs1 hp hH hz1 => ?_)
  obtain ⟨rfl, hM9, hz2⟩ := hp
  rw [hM9] at hH
  clear hz1 hz2
  refine lv_iload E.1 E.2.1 dL_law_1178 (lv_at hl 1 rfl) ?_
  refine fw_icmp_eq (tgt := 1185) E dL_law_1180 (by decide) (by omega) (by omega) (by omega) (by omega) (fun c1 => ?_) (fun c1 => ?_)
  · refine lv_iload E.1 E.2.1 dL_law_1185 (lv_at hl 1 rfl) ?_
    refine fw_if_ne (tgt := 1202) E dL_law_1187 (by decide) (by omega) (by omega) (fun c2 => ?_) (fun c2 => ?_)
    · refine lv_goto (tgt := 2392) E.1 E.2.1 dL_law_1202 (by decide) ?_
      exact W.widen (k := 1000) (n := 20000) (by omega) (by omega) (kend _ _ _ _ hH (lv_sub hl [2, 6] rfl))
    · refine lv_aload_n E.1 E.2.1 dL_law_1190 rfl (lv_at hl 3 rfl) ?_
      refine lv_iconst (v := iI 0) E.1 E.2.1 dL_law_1191 (by decide) ?_
      obtain ⟨g9, ho, hg9⟩ := hw c2
      obtain rfl := hv c2
      refine fw_lald E hK hH ho (iI_in (by omega) (by omega) (by omega)) dL_law_1192 ?_
      refine fw_cw (v := .long (iI (1)).toInt64) (congrArg Value.long hg9) ?_
      refine lv_iload E.1 E.2.1 dL_law_1193 (lv_at hl 0 rfl) ?_
      refine lv_i2l (v := (iI 1).toInt64) E.1 E.2.1 dL_law_1195 rfl ?_
      refine W.lcmp E.1 E.2.1 dL_law_1196 ?_
      refine fw_cv (y := iI 0) (lg_cmp_self _) ?_
      refine fw_if_eq (tgt := 1202) E dL_law_1197 (by decide) (by omega) (by omega) (fun c3 => ?_) (fun c3 => ?_)
      · refine lv_goto (tgt := 2392) E.1 E.2.1 dL_law_1202 (by decide) ?_
        exact W.widen (k := 1000) (n := 20000) (by omega) (by omega) (kend _ _ _ _ hH (lv_sub hl [2, 6] rfl))
      · exact absurd c3 (by omega)
  · exact absurd rfl c1
theorem lc_breed {p : Program} {l : Launch} {e : Env} {s : State} {m : MethodId} {args : Array Value} {below : List Frame} {meth : Method} {c : Code} {H : Heap} {locs : List Loc} {Q : State → Prop} {G : fw_G} {M M0 : fw_M} {ls : Array Slot} {a b : Nat} {xs : Nat → Int32} {z : Nat → Int} {w9 : Nat → Int64} (hlt : l.stackTraces = false) (E : CallFix p m c code 9 s args fwT RL) (hK : fw_K G s) (hH0 : fw_H G s M0 s.heap []) (hH : fw_H G s M H locs) (hB : bn0 G M a) (hD : md0 G M (a + 378)) (ho : M (a + 385) = some (fJ G 1 w9)) (hsz : a + 386 ≤ H.size) (hl : lv_has ls 9 [(4, .int (iI 0)), (3, .ref (a + 385)), (2, .ref (a + 378)), (1, .ref a), (0, .ref b)]) (hX : va_X b 5 xs s s.heap) (hbl : b < s.heap.size) (hbA : ¬ (fun q => G.2.2.1 ≤ q) b) (hzs : ∀ k, xs k = iI (z k)) (hzb : ∀ k, -2147483648 ≤ z k ∧ z k < 2147483648) (kend : ∀ (M1 : fw_M) (H1 : Heap) (locs1 : List Loc) (ls1 : Array Slot), fw_H G s M1 H1 locs1 → lv_has ls1 9 [(4, .int (iI 0)), (0, .ref b)] → W p l e room_1 s m args below meth c H1 locs1 1000 20000 Q (F0 m 2392 ls1 [])) : W p l e room_1 s m args below meth c H locs 400 13000 Q (F0 m 1205 ls []) := by
  have hzb1 := hzb 1
  refine lv_aload_n E.1 E.2.1 dL_law_1205 rfl (lv_at hl 3 rfl) ?_
  refine lv_aload_n E.1 E.2.1 dL_law_1206 rfl (lv_at hl 4 rfl) ?_
  refine lv_iload E.1 E.2.1 dL_law_1207 (lv_at hl 0 rfl) ?_
  refine lv_iconst (v := iI 1) E.1 E.2.1 dL_law_1209 (by decide) ?_
  refine fw_iadd E dL_law_1210 ?_
  refine fw_cv (y := iI (1)) (by decide) ?_
  refine va_sld (A := fun q => G.2.2.1 ≤ q) E.1 E.2.1 hX hbl hbA (fw_H.va hH0 hH) (iI_in (by omega) (by omega) (by omega)) dL_law_1211 ?_
  refine fw_cv (y := iI (z 1)) (by rw [iI_ix (by omega) (by omega)]; exact hzs 1) ?_
  refine lv_aload_n E.1 E.2.1 dL_law_1212 rfl (lv_at hl 1 rfl) ?_
  refine fw_cSW (As := [.ref a, .int (iI (z 1)), .ref (a + 385)]) (rest := []) E hK hH hl fW_breed ql_RL_170 qs_yL_breed (w_breed l hlt G _ _ a hB w9 ho (z 1) (by omega)) rfl rfl (Nat.le_of_ble_eq_true rfl) ⟨Nat.le_of_ble_eq_true rfl, Nat.le_of_ble_eq_true rfl⟩ ⟨Nat.le_of_ble_eq_true rfl, Nat.le_of_ble_eq_true rfl⟩ dL_law_1213 (fw_ki fun r M1 H1 locs1 hp hH hz1 => ?_)
  obtain ⟨rfl, hw, hfr⟩ := hp
  replace hD := hD.fr (fun q h1 h2 => hfr q (by omega) (by omega))
  obtain ⟨kv, hkv⟩ : ∃ y, y = kS_breed (z 1) := ⟨_, rfl⟩
  have hkb : 0 ≤ kv ∧ kv ≤ 2 := by rw [hkv]; unfold kS_breed; (repeat' split) <;> omega
  rw [← hkv] at hw
  refine fw_cv (y := iI kv) (by rw [hkv]) ?_
  clear hfr
  refine lv_istore (lv' := [(5, .int (iI kv)), (4, .int (iI 0)), (3, .ref (a + 385)), (2, .ref (a + 378)), (1, .ref a), (0, .ref b)]) E.1 E.2.1 dL_law_1216 hl (by decide) rfl (fun ls hl => ?_)
  refine lv_aload_n E.1 E.2.1 dL_law_1218 rfl (lv_at hl 3 rfl) ?_
  refine lv_aload_n E.1 E.2.1 dL_law_1219 rfl (lv_at hl 5 rfl) ?_
  refine lv_iload E.1 E.2.1 dL_law_1220 (lv_at hl 1 rfl) ?_
  refine lv_iconst (v := iI 1) E.1 E.2.1 dL_law_1222 (by decide) ?_
  refine fw_iadd E dL_law_1223 ?_
  refine fw_cv (y := iI (1)) (by decide) ?_
  refine va_sld (A := fun q => G.2.2.1 ≤ q) E.1 E.2.1 hX hbl hbA (fw_H.va hH0 hH) (iI_in (by omega) (by omega) (by omega)) dL_law_1224 ?_
  refine fw_cv (y := iI (z 1)) (by rw [iI_ix (by omega) (by omega)]; exact hzs 1) ?_
  refine fw_cV (As := [.int (iI (z 1))]) (rest := []) E hK hH hl hD.2.1 fc_X10 fL_X10_breed ql_RL_172 qi_yX10_breed qv_yX10_breed (y_breed l G _ _ (a + 378) hD (z 1) (by omega)) rfl rfl (Nat.le_of_ble_eq_true rfl) ⟨Nat.le_of_ble_eq_true rfl, Nat.le_of_ble_eq_true rfl⟩ ⟨Nat.le_of_ble_eq_true rfl, Nat.le_of_ble_eq_true rfl⟩ dL_law_1225 (fw_ki fun rb M1 H1 locs1 hp hH hz1 => ?_)
  obtain ⟨⟨fs, hobj, hth⟩, hv, hfr⟩ := hp
  rw [← hkv] at hth hv
  replace hw : kv = 0 → ∃ g, M1 (a + 385) = some (fJ G 1 g) ∧ g 0 = (iI (0)).toInt64 := fun h => by
    obtain ⟨g, h1, h2⟩ := hw h
    exact ⟨g, (hfr _ (by omega) (by omega)).trans h1, h2⟩
  clear hfr hz1
  refine lv_istore (lv' := [(6, .int rb), (5, .int (iI kv)), (4, .int (iI 0)), (3, .ref (a + 385)), (2, .ref (a + 378)), (1, .ref a), (0, .ref b)]) E.1 E.2.1 dL_law_1228 hl (by decide) rfl (fun ls hl => ?_)
  refine lv_aload_n E.1 E.2.1 dL_law_1230 rfl (lv_at hl 4 rfl) ?_
  refine fw_cV (As := []) (rest := []) E hK hH hl hobj fc_X10 fL_X10_thrown ql_RL_120 qi_yX10_thrown qv_yX10_thrown (m_thrown l G _ _ (a + 378) kv ⟨_, hobj, hth⟩) rfl rfl (Nat.le_of_ble_eq_true rfl) ⟨Nat.le_of_ble_eq_true rfl, Nat.le_of_ble_eq_true rfl⟩ ⟨Nat.le_of_ble_eq_true rfl, Nat.le_of_ble_eq_true rfl⟩ dL_law_1231 (fw_ki fun r M1 H1 locs1 hp hH hz1 => ?_)
  obtain ⟨rfl, hM9, hz2⟩ := hp
  rw [hM9] at hH
  clear hz1 hz2
  refine lv_iload E.1 E.2.1 dL_law_1234 (lv_at hl 1 rfl) ?_
  refine fw_icmp_eq (tgt := 1241) E dL_law_1236 (by decide) (by omega) (by omega) (by omega) (by omega) (fun c1 => ?_) (fun c1 => ?_)
  · refine lv_iload E.1 E.2.1 dL_law_1241 (lv_at hl 1 rfl) ?_
    refine fw_if_ne (tgt := 1258) E dL_law_1243 (by decide) (by omega) (by omega) (fun c2 => ?_) (fun c2 => ?_)
    · refine lv_goto (tgt := 2392) E.1 E.2.1 dL_law_1258 (by decide) ?_
      exact W.widen (k := 1000) (n := 20000) (by omega) (by omega) (kend _ _ _ _ hH (lv_sub hl [2, 6] rfl))
    · refine lv_aload_n E.1 E.2.1 dL_law_1246 rfl (lv_at hl 3 rfl) ?_
      refine lv_iconst (v := iI 0) E.1 E.2.1 dL_law_1247 (by decide) ?_
      obtain ⟨g9, ho, hg9⟩ := hw c2
      obtain rfl := hv c2
      refine fw_lald E hK hH ho (iI_in (by omega) (by omega) (by omega)) dL_law_1248 ?_
      refine fw_cw (v := .long (iI (0)).toInt64) (congrArg Value.long hg9) ?_
      refine lv_iload E.1 E.2.1 dL_law_1249 (lv_at hl 0 rfl) ?_
      refine lv_i2l (v := (iI 0).toInt64) E.1 E.2.1 dL_law_1251 rfl ?_
      refine W.lcmp E.1 E.2.1 dL_law_1252 ?_
      refine fw_cv (y := iI 0) (lg_cmp_self _) ?_
      refine fw_if_eq (tgt := 1258) E dL_law_1253 (by decide) (by omega) (by omega) (fun c3 => ?_) (fun c3 => ?_)
      · refine lv_goto (tgt := 2392) E.1 E.2.1 dL_law_1258 (by decide) ?_
        exact W.widen (k := 1000) (n := 20000) (by omega) (by omega) (kend _ _ _ _ hH (lv_sub hl [2, 6] rfl))
      · exact absurd c3 (by omega)
  · exact absurd rfl c1
theorem lc_sketched {p : Program} {l : Launch} {e : Env} {s : State} {m : MethodId} {args : Array Value} {below : List Frame} {meth : Method} {c : Code} {H : Heap} {locs : List Loc} {Q : State → Prop} {G : fw_G} {M M0 : fw_M} {ls : Array Slot} {a b : Nat} {xs : Nat → Int32} {z : Nat → Int} {w9 : Nat → Int64} (hlt : l.stackTraces = false) (E : CallFix p m c code 9 s args fwT RL) (hK : fw_K G s) (hH0 : fw_H G s M0 s.heap []) (hH : fw_H G s M H locs) (hB : bn0 G M a) (hD : md0 G M (a + 378)) (ho : M (a + 385) = some (fJ G 1 w9)) (hsz : a + 386 ≤ H.size) (hl : lv_has ls 9 [(4, .int (iI 0)), (3, .ref (a + 385)), (2, .ref (a + 378)), (1, .ref a), (0, .ref b)]) (hX : va_X b 5 xs s s.heap) (hbl : b < s.heap.size) (hbA : ¬ (fun q => G.2.2.1 ≤ q) b) (hzs : ∀ k, xs k = iI (z k)) (hzb : ∀ k, -2147483648 ≤ z k ∧ z k < 2147483648) (kend : ∀ (M1 : fw_M) (H1 : Heap) (locs1 : List Loc) (ls1 : Array Slot), fw_H G s M1 H1 locs1 → lv_has ls1 9 [(4, .int (iI 0)), (0, .ref b)] → W p l e room_1 s m args below meth c H1 locs1 1000 20000 Q (F0 m 2392 ls1 [])) : W p l e room_1 s m args below meth c H locs 400 13000 Q (F0 m 1261 ls []) := by
  refine lv_aload_n E.1 E.2.1 dL_law_1261 rfl (lv_at hl 3 rfl) ?_
  refine fw_cV (As := []) (rest := []) E hK hH hl hB.c.2.1 fc_X9 fL_X9_sketched ql_RL_173 qi_yX9_sketched qv_yX9_sketched (x_sketched l G _ _ a hB) rfl rfl (Nat.le_of_ble_eq_true rfl) ⟨Nat.le_of_ble_eq_true rfl, Nat.le_of_ble_eq_true rfl⟩ ⟨Nat.le_of_ble_eq_true rfl, Nat.le_of_ble_eq_true rfl⟩ dL_law_1262 (fw_ki fun r M1 H1 locs1 hp hH hz1 => ?_)
  obtain ⟨rfl, hfr, hz2⟩ := hp
  replace hD := hD.fr (fun q h1 h2 => hfr q (by omega))
  clear hfr
  replace hsz : a + 386 ≤ H1.size := by omega
  clear hz1 hz2
  refine lv_aload_n E.1 E.2.1 dL_law_1265 rfl (lv_at hl 2 rfl) ?_
  refine fw_cV (As := []) (rest := [.int (iI 0)]) E hK hH hl hD.2.1 fc_X10 fL_X10_sketched ql_RL_176 qi_yX10_sketched qv_yX10_sketched (y_sketched l G _ _ (a + 378) hD  ) rfl rfl (Nat.le_of_ble_eq_true rfl) ⟨Nat.le_of_ble_eq_true rfl, Nat.le_of_ble_eq_true rfl⟩ ⟨Nat.le_of_ble_eq_true rfl, Nat.le_of_ble_eq_true rfl⟩ dL_law_1266 (fw_ki fun r M1 H1 locs1 hp hH hz1 => ?_)
  obtain ⟨rfl, hfr⟩ := hp
  clear hfr hz1
  refine fw_icmp_eq (tgt := 2392) E dL_law_1269 (by decide) (by omega) (by omega) (by omega) (by omega) (fun c1 => ?_) (fun c1 => ?_)
  · exact W.widen (k := 1000) (n := 20000) (by omega) (by omega) (kend _ _ _ _ hH (lv_sub hl [0, 4] rfl))
  · exact absurd c1 (by omega)
theorem lc_trees {p : Program} {l : Launch} {e : Env} {s : State} {m : MethodId} {args : Array Value} {below : List Frame} {meth : Method} {c : Code} {H : Heap} {locs : List Loc} {Q : State → Prop} {G : fw_G} {M M0 : fw_M} {ls : Array Slot} {a b : Nat} {xs : Nat → Int32} {z : Nat → Int} {w9 : Nat → Int64} (hlt : l.stackTraces = false) (E : CallFix p m c code 9 s args fwT RL) (hK : fw_K G s) (hH0 : fw_H G s M0 s.heap []) (hH : fw_H G s M H locs) (hB : bn0 G M a) (hD : md0 G M (a + 378)) (ho : M (a + 385) = some (fJ G 1 w9)) (hsz : a + 386 ≤ H.size) (hl : lv_has ls 9 [(4, .int (iI 0)), (3, .ref (a + 385)), (2, .ref (a + 378)), (1, .ref a), (0, .ref b)]) (hX : va_X b 5 xs s s.heap) (hbl : b < s.heap.size) (hbA : ¬ (fun q => G.2.2.1 ≤ q) b) (hzs : ∀ k, xs k = iI (z k)) (hzb : ∀ k, -2147483648 ≤ z k ∧ z k < 2147483648) (kend : ∀ (M1 : fw_M) (H1 : Heap) (locs1 : List Loc) (ls1 : Array Slot), fw_H G s M1 H1 locs1 → lv_has ls1 9 [(4, .int (iI 0)), (0, .ref b)] → W p l e room_1 s m args below meth c H1 locs1 1000 20000 Q (F0 m 2392 ls1 [])) : W p l e room_1 s m args below meth c H locs 400 13000 Q (F0 m 1274 ls []) := by
  refine lv_aload_n E.1 E.2.1 dL_law_1274 rfl (lv_at hl 3 rfl) ?_
  refine fw_cV (As := []) (rest := []) E hK hH hl hB.c.2.1 fc_X9 fL_X9_trees ql_RL_177 qi_yX9_trees qv_yX9_trees (x_trees l G _ _ a hB) rfl rfl (Nat.le_of_ble_eq_true rfl) ⟨Nat.le_of_ble_eq_true rfl, Nat.le_of_ble_eq_true rfl⟩ ⟨Nat.le_of_ble_eq_true rfl, Nat.le_of_ble_eq_true rfl⟩ dL_law_1275 (fw_ki fun r M1 H1 locs1 hp hH hz1 => ?_)
  obtain ⟨rfl, hfr, hz2⟩ := hp
  replace hD := hD.fr (fun q h1 h2 => hfr q (by omega))
  clear hfr
  replace hsz : a + 386 ≤ H1.size := by omega
  clear hz1 hz2
  refine lv_aload_n E.1 E.2.1 dL_law_1278 rfl (lv_at hl 2 rfl) ?_
  refine fw_cV (As := []) (rest := [.int (iI 0)]) E hK hH hl hD.2.1 fc_X10 fL_X10_trees ql_RL_180 qi_yX10_trees qv_yX10_trees (y_trees l G _ _ (a + 378) hD  ) rfl rfl (Nat.le_of_ble_eq_true rfl) ⟨Nat.le_of_ble_eq_true rfl, Nat.le_of_ble_eq_true rfl⟩ ⟨Nat.le_of_ble_eq_true rfl, Nat.le_of_ble_eq_true rfl⟩ dL_law_1279 (fw_ki fun r M1 H1 locs1 hp hH hz1 => ?_)
  obtain ⟨rfl, hfr⟩ := hp
  clear hfr hz1
  refine fw_icmp_eq (tgt := 2392) E dL_law_1282 (by decide) (by omega) (by omega) (by omega) (by omega) (fun c1 => ?_) (fun c1 => ?_)
  · exact W.widen (k := 1000) (n := 20000) (by omega) (by omega) (kend _ _ _ _ hH (lv_sub hl [0, 4] rfl))
  · exact absurd c1 (by omega)
theorem lc_cases {p : Program} {l : Launch} {e : Env} {s : State} {m : MethodId} {args : Array Value} {below : List Frame} {meth : Method} {c : Code} {H : Heap} {locs : List Loc} {Q : State → Prop} {G : fw_G} {M M0 : fw_M} {ls : Array Slot} {a b : Nat} {xs : Nat → Int32} {z : Nat → Int} {w9 : Nat → Int64} (hlt : l.stackTraces = false) (E : CallFix p m c code 9 s args fwT RL) (hK : fw_K G s) (hH0 : fw_H G s M0 s.heap []) (hH : fw_H G s M H locs) (hB : bn0 G M a) (hD : md0 G M (a + 378)) (ho : M (a + 385) = some (fJ G 1 w9)) (hsz : a + 386 ≤ H.size) (hl : lv_has ls 9 [(4, .int (iI 0)), (3, .ref (a + 385)), (2, .ref (a + 378)), (1, .ref a), (0, .ref b)]) (hX : va_X b 5 xs s s.heap) (hbl : b < s.heap.size) (hbA : ¬ (fun q => G.2.2.1 ≤ q) b) (hzs : ∀ k, xs k = iI (z k)) (hzb : ∀ k, -2147483648 ≤ z k ∧ z k < 2147483648) (kend : ∀ (M1 : fw_M) (H1 : Heap) (locs1 : List Loc) (ls1 : Array Slot), fw_H G s M1 H1 locs1 → lv_has ls1 9 [(4, .int (iI 0)), (0, .ref b)] → W p l e room_1 s m args below meth c H1 locs1 1000 20000 Q (F0 m 2392 ls1 [])) : W p l e room_1 s m args below meth c H locs 400 13000 Q (F0 m 1287 ls []) := by
  refine lv_aload_n E.1 E.2.1 dL_law_1287 rfl (lv_at hl 3 rfl) ?_
  refine fw_cV (As := []) (rest := []) E hK hH hl hB.c.2.1 fc_X9 fL_X9_cases ql_RL_181 qi_yX9_cases qv_yX9_cases (x_cases l G _ _ a hB) rfl rfl (Nat.le_of_ble_eq_true rfl) ⟨Nat.le_of_ble_eq_true rfl, Nat.le_of_ble_eq_true rfl⟩ ⟨Nat.le_of_ble_eq_true rfl, Nat.le_of_ble_eq_true rfl⟩ dL_law_1288 (fw_ki fun r M1 H1 locs1 hp hH hz1 => ?_)
  obtain ⟨rfl, hfr, hz2⟩ := hp
  replace hD := hD.fr (fun q h1 h2 => hfr q (by omega))
  clear hfr
  replace hsz : a + 386 ≤ H1.size := by omega
  clear hz1 hz2
  refine lv_aload_n E.1 E.2.1 dL_law_1291 rfl (lv_at hl 2 rfl) ?_
  refine fw_cV (As := []) (rest := [.int (iI 0)]) E hK hH hl hD.2.1 fc_X10 fL_X10_cases ql_RL_184 qi_yX10_cases qv_yX10_cases (y_cases l G _ _ (a + 378) hD  ) rfl rfl (Nat.le_of_ble_eq_true rfl) ⟨Nat.le_of_ble_eq_true rfl, Nat.le_of_ble_eq_true rfl⟩ ⟨Nat.le_of_ble_eq_true rfl, Nat.le_of_ble_eq_true rfl⟩ dL_law_1292 (fw_ki fun r M1 H1 locs1 hp hH hz1 => ?_)
  obtain ⟨rfl, hfr⟩ := hp
  clear hfr hz1
  refine fw_icmp_eq (tgt := 2392) E dL_law_1295 (by decide) (by omega) (by omega) (by omega) (by omega) (fun c1 => ?_) (fun c1 => ?_)
  · exact W.widen (k := 1000) (n := 20000) (by omega) (by omega) (kend _ _ _ _ hH (lv_sub hl [0, 4] rfl))
  · exact absurd c1 (by omega)
theorem lc_size {p : Program} {l : Launch} {e : Env} {s : State} {m : MethodId} {args : Array Value} {below : List Frame} {meth : Method} {c : Code} {H : Heap} {locs : List Loc} {Q : State → Prop} {G : fw_G} {M M0 : fw_M} {ls : Array Slot} {a b : Nat} {xs : Nat → Int32} {z : Nat → Int} {w9 : Nat → Int64} (hlt : l.stackTraces = false) (E : CallFix p m c code 9 s args fwT RL) (hK : fw_K G s) (hH0 : fw_H G s M0 s.heap []) (hH : fw_H G s M H locs) (hB : bn0 G M a) (hD : md0 G M (a + 378)) (ho : M (a + 385) = some (fJ G 1 w9)) (hsz : a + 386 ≤ H.size) (hl : lv_has ls 9 [(4, .int (iI 0)), (3, .ref (a + 385)), (2, .ref (a + 378)), (1, .ref a), (0, .ref b)]) (hX : va_X b 5 xs s s.heap) (hbl : b < s.heap.size) (hbA : ¬ (fun q => G.2.2.1 ≤ q) b) (hzs : ∀ k, xs k = iI (z k)) (hzb : ∀ k, -2147483648 ≤ z k ∧ z k < 2147483648) (kend : ∀ (M1 : fw_M) (H1 : Heap) (locs1 : List Loc) (ls1 : Array Slot), fw_H G s M1 H1 locs1 → lv_has ls1 9 [(4, .int (iI 0)), (0, .ref b)] → W p l e room_1 s m args below meth c H1 locs1 1000 20000 Q (F0 m 2392 ls1 [])) : W p l e room_1 s m args below meth c H locs 400 13000 Q (F0 m 1300 ls []) := by
  have hzb1 := hzb 1
  refine lv_aload_n E.1 E.2.1 dL_law_1300 rfl (lv_at hl 3 rfl) ?_
  refine lv_aload_n E.1 E.2.1 dL_law_1301 rfl (lv_at hl 4 rfl) ?_
  refine lv_iload E.1 E.2.1 dL_law_1302 (lv_at hl 0 rfl) ?_
  refine lv_iconst (v := iI 1) E.1 E.2.1 dL_law_1304 (by decide) ?_
  refine fw_iadd E dL_law_1305 ?_
  refine fw_cv (y := iI (1)) (by decide) ?_
  refine va_sld (A := fun q => G.2.2.1 ≤ q) E.1 E.2.1 hX hbl hbA (fw_H.va hH0 hH) (iI_in (by omega) (by omega) (by omega)) dL_law_1306 ?_
  refine fw_cv (y := iI (z 1)) (by rw [iI_ix (by omega) (by omega)]; exact hzs 1) ?_
  refine lv_aload_n E.1 E.2.1 dL_law_1307 rfl (lv_at hl 1 rfl) ?_
  refine fw_cSW (As := [.ref a, .int (iI (z 1)), .ref (a + 385)]) (rest := []) E hK hH hl fW_size ql_RL_185 qs_yL_size (w_size l hlt G _ _ a hB w9 ho (z 1) (by omega)) rfl rfl (Nat.le_of_ble_eq_true rfl) ⟨Nat.le_of_ble_eq_true rfl, Nat.le_of_ble_eq_true rfl⟩ ⟨Nat.le_of_ble_eq_true rfl, Nat.le_of_ble_eq_true rfl⟩ dL_law_1308 (fw_ki fun r M1 H1 locs1 hp hH hz1 => ?_)
  obtain ⟨rfl, hw, hfr⟩ := hp
  replace hD := hD.fr (fun q h1 h2 => hfr q (by omega) (by omega))
  clear hfr
  refine lv_istore (lv' := [(5, .int (iI 1)), (4, .int (iI 0)), (3, .ref (a + 385)), (2, .ref (a + 378)), (1, .ref a), (0, .ref b)]) E.1 E.2.1 dL_law_1311 hl (by decide) rfl (fun ls hl => ?_)
  refine lv_aload_n E.1 E.2.1 dL_law_1313 rfl (lv_at hl 3 rfl) ?_
  refine lv_aload_n E.1 E.2.1 dL_law_1314 rfl (lv_at hl 5 rfl) ?_
  refine lv_iload E.1 E.2.1 dL_law_1315 (lv_at hl 1 rfl) ?_
  refine lv_iconst (v := iI 1) E.1 E.2.1 dL_law_1317 (by decide) ?_
  refine fw_iadd E dL_law_1318 ?_
  refine fw_cv (y := iI (1)) (by decide) ?_
  refine va_sld (A := fun q => G.2.2.1 ≤ q) E.1 E.2.1 hX hbl hbA (fw_H.va hH0 hH) (iI_in (by omega) (by omega) (by omega)) dL_law_1319 ?_
  refine fw_cv (y := iI (z 1)) (by rw [iI_ix (by omega) (by omega)]; exact hzs 1) ?_
  refine fw_cV (As := [.int (iI (z 1))]) (rest := []) E hK hH hl hD.2.1 fc_X10 fL_X10_size ql_RL_187 qi_yX10_size qv_yX10_size (y_size l G _ _ (a + 378) hD (z 1) (by omega)) rfl rfl (Nat.le_of_ble_eq_true rfl) ⟨Nat.le_of_ble_eq_true rfl, Nat.le_of_ble_eq_true rfl⟩ ⟨Nat.le_of_ble_eq_true rfl, Nat.le_of_ble_eq_true rfl⟩ dL_law_1320 (fw_ki fun rb M1 H1 locs1 hp hH hz1 => ?_)
  obtain ⟨⟨fs, hobj, hth⟩, hv, hfr⟩ := hp
  clear hfr hz1
  refine lv_istore (lv' := [(6, .int rb), (5, .int (iI 1)), (4, .int (iI 0)), (3, .ref (a + 385)), (2, .ref (a + 378)), (1, .ref a), (0, .ref b)]) E.1 E.2.1 dL_law_1323 hl (by decide) rfl (fun ls hl => ?_)
  refine lv_aload_n E.1 E.2.1 dL_law_1325 rfl (lv_at hl 4 rfl) ?_
  refine fw_cV (As := []) (rest := []) E hK hH hl hobj fc_X10 fL_X10_thrown ql_RL_120 qi_yX10_thrown qv_yX10_thrown (m_thrown l G _ _ (a + 378) 1 ⟨_, hobj, hth⟩) rfl rfl (Nat.le_of_ble_eq_true rfl) ⟨Nat.le_of_ble_eq_true rfl, Nat.le_of_ble_eq_true rfl⟩ ⟨Nat.le_of_ble_eq_true rfl, Nat.le_of_ble_eq_true rfl⟩ dL_law_1326 (fw_ki fun r M1 H1 locs1 hp hH hz1 => ?_)
  obtain ⟨rfl, hM9, hz2⟩ := hp
  rw [hM9] at hH
  clear hz1 hz2
  refine lv_iload E.1 E.2.1 dL_law_1329 (lv_at hl 1 rfl) ?_
  refine fw_icmp_eq (tgt := 1336) E dL_law_1331 (by decide) (by omega) (by omega) (by omega) (by omega) (fun c1 => ?_) (fun c1 => ?_)
  · refine lv_iload E.1 E.2.1 dL_law_1336 (lv_at hl 1 rfl) ?_
    refine fw_if_ne (tgt := 1353) E dL_law_1338 (by decide) (by omega) (by omega) (fun c2 => ?_) (fun c2 => ?_)
    · refine lv_goto (tgt := 2392) E.1 E.2.1 dL_law_1353 (by decide) ?_
      exact W.widen (k := 1000) (n := 20000) (by omega) (by omega) (kend _ _ _ _ hH (lv_sub hl [2, 6] rfl))
    · exact absurd c2 (by omega)
  · exact absurd c1 (by omega)
theorem lc_depth {p : Program} {l : Launch} {e : Env} {s : State} {m : MethodId} {args : Array Value} {below : List Frame} {meth : Method} {c : Code} {H : Heap} {locs : List Loc} {Q : State → Prop} {G : fw_G} {M M0 : fw_M} {ls : Array Slot} {a b : Nat} {xs : Nat → Int32} {z : Nat → Int} {w9 : Nat → Int64} (hlt : l.stackTraces = false) (E : CallFix p m c code 9 s args fwT RL) (hK : fw_K G s) (hH0 : fw_H G s M0 s.heap []) (hH : fw_H G s M H locs) (hB : bn0 G M a) (hD : md0 G M (a + 378)) (ho : M (a + 385) = some (fJ G 1 w9)) (hsz : a + 386 ≤ H.size) (hl : lv_has ls 9 [(4, .int (iI 0)), (3, .ref (a + 385)), (2, .ref (a + 378)), (1, .ref a), (0, .ref b)]) (hX : va_X b 5 xs s s.heap) (hbl : b < s.heap.size) (hbA : ¬ (fun q => G.2.2.1 ≤ q) b) (hzs : ∀ k, xs k = iI (z k)) (hzb : ∀ k, -2147483648 ≤ z k ∧ z k < 2147483648) (kend : ∀ (M1 : fw_M) (H1 : Heap) (locs1 : List Loc) (ls1 : Array Slot), fw_H G s M1 H1 locs1 → lv_has ls1 9 [(4, .int (iI 0)), (0, .ref b)] → W p l e room_1 s m args below meth c H1 locs1 1000 20000 Q (F0 m 2392 ls1 [])) : W p l e room_1 s m args below meth c H locs 400 13000 Q (F0 m 1356 ls []) := by
  have hzb1 := hzb 1
  refine lv_aload_n E.1 E.2.1 dL_law_1356 rfl (lv_at hl 3 rfl) ?_
  refine lv_aload_n E.1 E.2.1 dL_law_1357 rfl (lv_at hl 4 rfl) ?_
  refine lv_iload E.1 E.2.1 dL_law_1358 (lv_at hl 0 rfl) ?_
  refine lv_iconst (v := iI 1) E.1 E.2.1 dL_law_1360 (by decide) ?_
  refine fw_iadd E dL_law_1361 ?_
  refine fw_cv (y := iI (1)) (by decide) ?_
  refine va_sld (A := fun q => G.2.2.1 ≤ q) E.1 E.2.1 hX hbl hbA (fw_H.va hH0 hH) (iI_in (by omega) (by omega) (by omega)) dL_law_1362 ?_
  refine fw_cv (y := iI (z 1)) (by rw [iI_ix (by omega) (by omega)]; exact hzs 1) ?_
  refine lv_aload_n E.1 E.2.1 dL_law_1363 rfl (lv_at hl 1 rfl) ?_
  refine fw_cSW (As := [.ref a, .int (iI (z 1)), .ref (a + 385)]) (rest := []) E hK hH hl fW_depth ql_RL_188 qs_yL_depth (w_depth l hlt G _ _ a hB w9 ho (z 1) (by omega)) rfl rfl (Nat.le_of_ble_eq_true rfl) ⟨Nat.le_of_ble_eq_true rfl, Nat.le_of_ble_eq_true rfl⟩ ⟨Nat.le_of_ble_eq_true rfl, Nat.le_of_ble_eq_true rfl⟩ dL_law_1364 (fw_ki fun r M1 H1 locs1 hp hH hz1 => ?_)
  obtain ⟨rfl, hw, hfr⟩ := hp
  replace hD := hD.fr (fun q h1 h2 => hfr q (by omega) (by omega))
  clear hfr
  refine lv_istore (lv' := [(5, .int (iI 1)), (4, .int (iI 0)), (3, .ref (a + 385)), (2, .ref (a + 378)), (1, .ref a), (0, .ref b)]) E.1 E.2.1 dL_law_1367 hl (by decide) rfl (fun ls hl => ?_)
  refine lv_aload_n E.1 E.2.1 dL_law_1369 rfl (lv_at hl 3 rfl) ?_
  refine lv_aload_n E.1 E.2.1 dL_law_1370 rfl (lv_at hl 5 rfl) ?_
  refine lv_iload E.1 E.2.1 dL_law_1371 (lv_at hl 1 rfl) ?_
  refine lv_iconst (v := iI 1) E.1 E.2.1 dL_law_1373 (by decide) ?_
  refine fw_iadd E dL_law_1374 ?_
  refine fw_cv (y := iI (1)) (by decide) ?_
  refine va_sld (A := fun q => G.2.2.1 ≤ q) E.1 E.2.1 hX hbl hbA (fw_H.va hH0 hH) (iI_in (by omega) (by omega) (by omega)) dL_law_1375 ?_
  refine fw_cv (y := iI (z 1)) (by rw [iI_ix (by omega) (by omega)]; exact hzs 1) ?_
  refine fw_cV (As := [.int (iI (z 1))]) (rest := []) E hK hH hl hD.2.1 fc_X10 fL_X10_depth ql_RL_190 qi_yX10_depth qv_yX10_depth (y_depth l G _ _ (a + 378) hD (z 1) (by omega)) rfl rfl (Nat.le_of_ble_eq_true rfl) ⟨Nat.le_of_ble_eq_true rfl, Nat.le_of_ble_eq_true rfl⟩ ⟨Nat.le_of_ble_eq_true rfl, Nat.le_of_ble_eq_true rfl⟩ dL_law_1376 (fw_ki fun rb M1 H1 locs1 hp hH hz1 => ?_)
  obtain ⟨⟨fs, hobj, hth⟩, hv, hfr⟩ := hp
  clear hfr hz1
  refine lv_istore (lv' := [(6, .int rb), (5, .int (iI 1)), (4, .int (iI 0)), (3, .ref (a + 385)), (2, .ref (a + 378)), (1, .ref a), (0, .ref b)]) E.1 E.2.1 dL_law_1379 hl (by decide) rfl (fun ls hl => ?_)
  refine lv_aload_n E.1 E.2.1 dL_law_1381 rfl (lv_at hl 4 rfl) ?_
  refine fw_cV (As := []) (rest := []) E hK hH hl hobj fc_X10 fL_X10_thrown ql_RL_120 qi_yX10_thrown qv_yX10_thrown (m_thrown l G _ _ (a + 378) 1 ⟨_, hobj, hth⟩) rfl rfl (Nat.le_of_ble_eq_true rfl) ⟨Nat.le_of_ble_eq_true rfl, Nat.le_of_ble_eq_true rfl⟩ ⟨Nat.le_of_ble_eq_true rfl, Nat.le_of_ble_eq_true rfl⟩ dL_law_1382 (fw_ki fun r M1 H1 locs1 hp hH hz1 => ?_)
  obtain ⟨rfl, hM9, hz2⟩ := hp
  rw [hM9] at hH
  clear hz1 hz2
  refine lv_iload E.1 E.2.1 dL_law_1385 (lv_at hl 1 rfl) ?_
  refine fw_icmp_eq (tgt := 1392) E dL_law_1387 (by decide) (by omega) (by omega) (by omega) (by omega) (fun c1 => ?_) (fun c1 => ?_)
  · refine lv_iload E.1 E.2.1 dL_law_1392 (lv_at hl 1 rfl) ?_
    refine fw_if_ne (tgt := 1409) E dL_law_1394 (by decide) (by omega) (by omega) (fun c2 => ?_) (fun c2 => ?_)
    · refine lv_goto (tgt := 2392) E.1 E.2.1 dL_law_1409 (by decide) ?_
      exact W.widen (k := 1000) (n := 20000) (by omega) (by omega) (kend _ _ _ _ hH (lv_sub hl [2, 6] rfl))
    · exact absurd c2 (by omega)
  · exact absurd c1 (by omega)
theorem lc_codeAt {p : Program} {l : Launch} {e : Env} {s : State} {m : MethodId} {args : Array Value} {below : List Frame} {meth : Method} {c : Code} {H : Heap} {locs : List Loc} {Q : State → Prop} {G : fw_G} {M M0 : fw_M} {ls : Array Slot} {a b : Nat} {xs : Nat → Int32} {z : Nat → Int} {w9 : Nat → Int64} (hlt : l.stackTraces = false) (E : CallFix p m c code 9 s args fwT RL) (hK : fw_K G s) (hH0 : fw_H G s M0 s.heap []) (hH : fw_H G s M H locs) (hB : bn0 G M a) (hD : md0 G M (a + 378)) (ho : M (a + 385) = some (fJ G 1 w9)) (hsz : a + 386 ≤ H.size) (hl : lv_has ls 9 [(4, .int (iI 0)), (3, .ref (a + 385)), (2, .ref (a + 378)), (1, .ref a), (0, .ref b)]) (hX : va_X b 5 xs s s.heap) (hbl : b < s.heap.size) (hbA : ¬ (fun q => G.2.2.1 ≤ q) b) (hzs : ∀ k, xs k = iI (z k)) (hzb : ∀ k, -2147483648 ≤ z k ∧ z k < 2147483648) (kend : ∀ (M1 : fw_M) (H1 : Heap) (locs1 : List Loc) (ls1 : Array Slot), fw_H G s M1 H1 locs1 → lv_has ls1 9 [(4, .int (iI 0)), (0, .ref b)] → W p l e room_1 s m args below meth c H1 locs1 1000 20000 Q (F0 m 2392 ls1 [])) : W p l e room_1 s m args below meth c H locs 400 13000 Q (F0 m 1412 ls []) := by
  have hzb1 := hzb 1
  have hzb2 := hzb 2
  refine lv_aload_n E.1 E.2.1 dL_law_1412 rfl (lv_at hl 3 rfl) ?_
  refine lv_aload_n E.1 E.2.1 dL_law_1413 rfl (lv_at hl 4 rfl) ?_
  refine lv_iload E.1 E.2.1 dL_law_1414 (lv_at hl 0 rfl) ?_
  refine lv_iconst (v := iI 1) E.1 E.2.1 dL_law_1416 (by decide) ?_
  refine fw_iadd E dL_law_1417 ?_
  refine fw_cv (y := iI (1)) (by decide) ?_
  refine va_sld (A := fun q => G.2.2.1 ≤ q) E.1 E.2.1 hX hbl hbA (fw_H.va hH0 hH) (iI_in (by omega) (by omega) (by omega)) dL_law_1418 ?_
  refine fw_cv (y := iI (z 1)) (by rw [iI_ix (by omega) (by omega)]; exact hzs 1) ?_
  refine lv_aload_n E.1 E.2.1 dL_law_1419 rfl (lv_at hl 4 rfl) ?_
  refine lv_iload E.1 E.2.1 dL_law_1420 (lv_at hl 0 rfl) ?_
  refine lv_iconst (v := iI 2) E.1 E.2.1 dL_law_1422 (by decide) ?_
  refine fw_iadd E dL_law_1423 ?_
  refine fw_cv (y := iI (2)) (by decide) ?_
  refine va_sld (A := fun q => G.2.2.1 ≤ q) E.1 E.2.1 hX hbl hbA (fw_H.va hH0 hH) (iI_in (by omega) (by omega) (by omega)) dL_law_1424 ?_
  refine fw_cv (y := iI (z 2)) (by rw [iI_ix (by omega) (by omega)]; exact hzs 2) ?_
  refine lv_aload_n E.1 E.2.1 dL_law_1425 rfl (lv_at hl 1 rfl) ?_
  refine fw_cSW (As := [.ref a, .int (iI (z 1)), .int (iI (z 2)), .ref (a + 385)]) (rest := []) E hK hH hl fW_codeAt ql_RL_191 qs_yL_codeAt (w_codeAt l hlt G _ _ a hB w9 ho (z 1) (z 2) (by omega) (by omega)) rfl rfl (Nat.le_of_ble_eq_true rfl) ⟨Nat.le_of_ble_eq_true rfl, Nat.le_of_ble_eq_true rfl⟩ ⟨Nat.le_of_ble_eq_true rfl, Nat.le_of_ble_eq_true rfl⟩ dL_law_1426 (fw_ki fun r M1 H1 locs1 hp hH hz1 => ?_)
  obtain ⟨rfl, hw, hfr⟩ := hp
  replace hD := hD.fr (fun q h1 h2 => hfr q (by omega) (by omega))
  clear hfr
  refine lv_istore (lv' := [(5, .int (iI 1)), (4, .int (iI 0)), (3, .ref (a + 385)), (2, .ref (a + 378)), (1, .ref a), (0, .ref b)]) E.1 E.2.1 dL_law_1429 hl (by decide) rfl (fun ls hl => ?_)
  refine lv_aload_n E.1 E.2.1 dL_law_1431 rfl (lv_at hl 3 rfl) ?_
  refine lv_aload_n E.1 E.2.1 dL_law_1432 rfl (lv_at hl 5 rfl) ?_
  refine lv_iload E.1 E.2.1 dL_law_1433 (lv_at hl 1 rfl) ?_
  refine lv_iconst (v := iI 1) E.1 E.2.1 dL_law_1435 (by decide) ?_
  refine fw_iadd E dL_law_1436 ?_
  refine fw_cv (y := iI (1)) (by decide) ?_
  refine va_sld (A := fun q => G.2.2.1 ≤ q) E.1 E.2.1 hX hbl hbA (fw_H.va hH0 hH) (iI_in (by omega) (by omega) (by omega)) dL_law_1437 ?_
  refine fw_cv (y := iI (z 1)) (by rw [iI_ix (by omega) (by omega)]; exact hzs 1) ?_
  refine lv_aload_n E.1 E.2.1 dL_law_1438 rfl (lv_at hl 5 rfl) ?_
  refine lv_iload E.1 E.2.1 dL_law_1439 (lv_at hl 1 rfl) ?_
  refine lv_iconst (v := iI 2) E.1 E.2.1 dL_law_1441 (by decide) ?_
  refine fw_iadd E dL_law_1442 ?_
  refine fw_cv (y := iI (2)) (by decide) ?_
  refine va_sld (A := fun q => G.2.2.1 ≤ q) E.1 E.2.1 hX hbl hbA (fw_H.va hH0 hH) (iI_in (by omega) (by omega) (by omega)) dL_law_1443 ?_
  refine fw_cv (y := iI (z 2)) (by rw [iI_ix (by omega) (by omega)]; exact hzs 2) ?_
  refine fw_cV (As := [.int (iI (z 1)), .int (iI (z 2))]) (rest := []) E hK hH hl hD.2.1 fc_X10 fL_X10_codeAt ql_RL_193 qi_yX10_codeAt qv_yX10_codeAt (y_codeAt l G _ _ (a + 378) hD (z 1) (z 2) (by omega) (by omega)) rfl rfl (Nat.le_of_ble_eq_true rfl) ⟨Nat.le_of_ble_eq_true rfl, Nat.le_of_ble_eq_true rfl⟩ ⟨Nat.le_of_ble_eq_true rfl, Nat.le_of_ble_eq_true rfl⟩ dL_law_1444 (fw_ki fun rb M1 H1 locs1 hp hH hz1 => ?_)
  obtain ⟨⟨fs, hobj, hth⟩, hv, hfr⟩ := hp
  clear hfr hz1
  refine lv_istore (lv' := [(6, .int rb), (5, .int (iI 1)), (4, .int (iI 0)), (3, .ref (a + 385)), (2, .ref (a + 378)), (1, .ref a), (0, .ref b)]) E.1 E.2.1 dL_law_1447 hl (by decide) rfl (fun ls hl => ?_)
  refine lv_aload_n E.1 E.2.1 dL_law_1449 rfl (lv_at hl 4 rfl) ?_
  refine fw_cV (As := []) (rest := []) E hK hH hl hobj fc_X10 fL_X10_thrown ql_RL_120 qi_yX10_thrown qv_yX10_thrown (m_thrown l G _ _ (a + 378) 1 ⟨_, hobj, hth⟩) rfl rfl (Nat.le_of_ble_eq_true rfl) ⟨Nat.le_of_ble_eq_true rfl, Nat.le_of_ble_eq_true rfl⟩ ⟨Nat.le_of_ble_eq_true rfl, Nat.le_of_ble_eq_true rfl⟩ dL_law_1450 (fw_ki fun r M1 H1 locs1 hp hH hz1 => ?_)
  obtain ⟨rfl, hM9, hz2⟩ := hp
  rw [hM9] at hH
  clear hz1 hz2
  refine lv_iload E.1 E.2.1 dL_law_1453 (lv_at hl 1 rfl) ?_
  refine fw_icmp_eq (tgt := 1460) E dL_law_1455 (by decide) (by omega) (by omega) (by omega) (by omega) (fun c1 => ?_) (fun c1 => ?_)
  · refine lv_iload E.1 E.2.1 dL_law_1460 (lv_at hl 1 rfl) ?_
    refine fw_if_ne (tgt := 1477) E dL_law_1462 (by decide) (by omega) (by omega) (fun c2 => ?_) (fun c2 => ?_)
    · refine lv_goto (tgt := 2392) E.1 E.2.1 dL_law_1477 (by decide) ?_
      exact W.widen (k := 1000) (n := 20000) (by omega) (by omega) (kend _ _ _ _ hH (lv_sub hl [2, 6] rfl))
    · exact absurd c2 (by omega)
  · exact absurd c1 (by omega)
theorem lc_valueAt {p : Program} {l : Launch} {e : Env} {s : State} {m : MethodId} {args : Array Value} {below : List Frame} {meth : Method} {c : Code} {H : Heap} {locs : List Loc} {Q : State → Prop} {G : fw_G} {M M0 : fw_M} {ls : Array Slot} {a b : Nat} {xs : Nat → Int32} {z : Nat → Int} {w9 : Nat → Int64} (hlt : l.stackTraces = false) (E : CallFix p m c code 9 s args fwT RL) (hK : fw_K G s) (hH0 : fw_H G s M0 s.heap []) (hH : fw_H G s M H locs) (hB : bn0 G M a) (hD : md0 G M (a + 378)) (ho : M (a + 385) = some (fJ G 1 w9)) (hsz : a + 386 ≤ H.size) (hl : lv_has ls 9 [(4, .int (iI 0)), (3, .ref (a + 385)), (2, .ref (a + 378)), (1, .ref a), (0, .ref b)]) (hX : va_X b 5 xs s s.heap) (hbl : b < s.heap.size) (hbA : ¬ (fun q => G.2.2.1 ≤ q) b) (hzs : ∀ k, xs k = iI (z k)) (hzb : ∀ k, -2147483648 ≤ z k ∧ z k < 2147483648) (kend : ∀ (M1 : fw_M) (H1 : Heap) (locs1 : List Loc) (ls1 : Array Slot), fw_H G s M1 H1 locs1 → lv_has ls1 9 [(4, .int (iI 0)), (0, .ref b)] → W p l e room_1 s m args below meth c H1 locs1 1000 20000 Q (F0 m 2392 ls1 [])) : W p l e room_1 s m args below meth c H locs 400 13000 Q (F0 m 1480 ls []) := by
  have hzb1 := hzb 1
  have hzb2 := hzb 2
  refine lv_aload_n E.1 E.2.1 dL_law_1480 rfl (lv_at hl 3 rfl) ?_
  refine lv_aload_n E.1 E.2.1 dL_law_1481 rfl (lv_at hl 4 rfl) ?_
  refine lv_iload E.1 E.2.1 dL_law_1482 (lv_at hl 0 rfl) ?_
  refine lv_iconst (v := iI 1) E.1 E.2.1 dL_law_1484 (by decide) ?_
  refine fw_iadd E dL_law_1485 ?_
  refine fw_cv (y := iI (1)) (by decide) ?_
  refine va_sld (A := fun q => G.2.2.1 ≤ q) E.1 E.2.1 hX hbl hbA (fw_H.va hH0 hH) (iI_in (by omega) (by omega) (by omega)) dL_law_1486 ?_
  refine fw_cv (y := iI (z 1)) (by rw [iI_ix (by omega) (by omega)]; exact hzs 1) ?_
  refine lv_aload_n E.1 E.2.1 dL_law_1487 rfl (lv_at hl 4 rfl) ?_
  refine lv_iload E.1 E.2.1 dL_law_1488 (lv_at hl 0 rfl) ?_
  refine lv_iconst (v := iI 2) E.1 E.2.1 dL_law_1490 (by decide) ?_
  refine fw_iadd E dL_law_1491 ?_
  refine fw_cv (y := iI (2)) (by decide) ?_
  refine va_sld (A := fun q => G.2.2.1 ≤ q) E.1 E.2.1 hX hbl hbA (fw_H.va hH0 hH) (iI_in (by omega) (by omega) (by omega)) dL_law_1492 ?_
  refine fw_cv (y := iI (z 2)) (by rw [iI_ix (by omega) (by omega)]; exact hzs 2) ?_
  refine lv_aload_n E.1 E.2.1 dL_law_1493 rfl (lv_at hl 1 rfl) ?_
  refine fw_cSW (As := [.ref a, .int (iI (z 1)), .int (iI (z 2)), .ref (a + 385)]) (rest := []) E hK hH hl fW_valueAt ql_RL_194 qs_yL_valueAt (w_valueAt l hlt G _ _ a hB w9 ho (z 1) (z 2) (by omega) (by omega)) rfl rfl (Nat.le_of_ble_eq_true rfl) ⟨Nat.le_of_ble_eq_true rfl, Nat.le_of_ble_eq_true rfl⟩ ⟨Nat.le_of_ble_eq_true rfl, Nat.le_of_ble_eq_true rfl⟩ dL_law_1494 (fw_ki fun r M1 H1 locs1 hp hH hz1 => ?_)
  obtain ⟨rfl, hw, hfr⟩ := hp
  replace hD := hD.fr (fun q h1 h2 => hfr q (by omega) (by omega))
  clear hfr
  refine lv_istore (lv' := [(5, .int (iI 1)), (4, .int (iI 0)), (3, .ref (a + 385)), (2, .ref (a + 378)), (1, .ref a), (0, .ref b)]) E.1 E.2.1 dL_law_1497 hl (by decide) rfl (fun ls hl => ?_)
  refine lv_aload_n E.1 E.2.1 dL_law_1499 rfl (lv_at hl 3 rfl) ?_
  refine lv_aload_n E.1 E.2.1 dL_law_1500 rfl (lv_at hl 5 rfl) ?_
  refine lv_iload E.1 E.2.1 dL_law_1501 (lv_at hl 1 rfl) ?_
  refine lv_iconst (v := iI 1) E.1 E.2.1 dL_law_1503 (by decide) ?_
  refine fw_iadd E dL_law_1504 ?_
  refine fw_cv (y := iI (1)) (by decide) ?_
  refine va_sld (A := fun q => G.2.2.1 ≤ q) E.1 E.2.1 hX hbl hbA (fw_H.va hH0 hH) (iI_in (by omega) (by omega) (by omega)) dL_law_1505 ?_
  refine fw_cv (y := iI (z 1)) (by rw [iI_ix (by omega) (by omega)]; exact hzs 1) ?_
  refine lv_aload_n E.1 E.2.1 dL_law_1506 rfl (lv_at hl 5 rfl) ?_
  refine lv_iload E.1 E.2.1 dL_law_1507 (lv_at hl 1 rfl) ?_
  refine lv_iconst (v := iI 2) E.1 E.2.1 dL_law_1509 (by decide) ?_
  refine fw_iadd E dL_law_1510 ?_
  refine fw_cv (y := iI (2)) (by decide) ?_
  refine va_sld (A := fun q => G.2.2.1 ≤ q) E.1 E.2.1 hX hbl hbA (fw_H.va hH0 hH) (iI_in (by omega) (by omega) (by omega)) dL_law_1511 ?_
  refine fw_cv (y := iI (z 2)) (by rw [iI_ix (by omega) (by omega)]; exact hzs 2) ?_
  refine fw_cV (As := [.int (iI (z 1)), .int (iI (z 2))]) (rest := []) E hK hH hl hD.2.1 fc_X10 fL_X10_valueAt ql_RL_196 qi_yX10_valueAt qv_yX10_valueAt (y_valueAt l G _ _ (a + 378) hD (z 1) (z 2) (by omega) (by omega)) rfl rfl (Nat.le_of_ble_eq_true rfl) ⟨Nat.le_of_ble_eq_true rfl, Nat.le_of_ble_eq_true rfl⟩ ⟨Nat.le_of_ble_eq_true rfl, Nat.le_of_ble_eq_true rfl⟩ dL_law_1512 (fw_ki fun rb M1 H1 locs1 hp hH hz1 => ?_)
  obtain ⟨⟨fs, hobj, hth⟩, hv, hfr⟩ := hp
  clear hfr hz1
  refine lv_istore (lv' := [(6, .int rb), (5, .int (iI 1)), (4, .int (iI 0)), (3, .ref (a + 385)), (2, .ref (a + 378)), (1, .ref a), (0, .ref b)]) E.1 E.2.1 dL_law_1515 hl (by decide) rfl (fun ls hl => ?_)
  refine lv_aload_n E.1 E.2.1 dL_law_1517 rfl (lv_at hl 4 rfl) ?_
  refine fw_cV (As := []) (rest := []) E hK hH hl hobj fc_X10 fL_X10_thrown ql_RL_120 qi_yX10_thrown qv_yX10_thrown (m_thrown l G _ _ (a + 378) 1 ⟨_, hobj, hth⟩) rfl rfl (Nat.le_of_ble_eq_true rfl) ⟨Nat.le_of_ble_eq_true rfl, Nat.le_of_ble_eq_true rfl⟩ ⟨Nat.le_of_ble_eq_true rfl, Nat.le_of_ble_eq_true rfl⟩ dL_law_1518 (fw_ki fun r M1 H1 locs1 hp hH hz1 => ?_)
  obtain ⟨rfl, hM9, hz2⟩ := hp
  rw [hM9] at hH
  clear hz1 hz2
  refine lv_iload E.1 E.2.1 dL_law_1521 (lv_at hl 1 rfl) ?_
  refine fw_icmp_eq (tgt := 1528) E dL_law_1523 (by decide) (by omega) (by omega) (by omega) (by omega) (fun c1 => ?_) (fun c1 => ?_)
  · refine lv_iload E.1 E.2.1 dL_law_1528 (lv_at hl 1 rfl) ?_
    refine fw_if_ne (tgt := 1545) E dL_law_1530 (by decide) (by omega) (by omega) (fun c2 => ?_) (fun c2 => ?_)
    · refine lv_goto (tgt := 2392) E.1 E.2.1 dL_law_1545 (by decide) ?_
      exact W.widen (k := 1000) (n := 20000) (by omega) (by omega) (kend _ _ _ _ hH (lv_sub hl [2, 6] rfl))
    · exact absurd c2 (by omega)
  · exact absurd c1 (by omega)
theorem lc_sizeAt {p : Program} {l : Launch} {e : Env} {s : State} {m : MethodId} {args : Array Value} {below : List Frame} {meth : Method} {c : Code} {H : Heap} {locs : List Loc} {Q : State → Prop} {G : fw_G} {M M0 : fw_M} {ls : Array Slot} {a b : Nat} {xs : Nat → Int32} {z : Nat → Int} {w9 : Nat → Int64} (hlt : l.stackTraces = false) (E : CallFix p m c code 9 s args fwT RL) (hK : fw_K G s) (hH0 : fw_H G s M0 s.heap []) (hH : fw_H G s M H locs) (hB : bn0 G M a) (hD : md0 G M (a + 378)) (ho : M (a + 385) = some (fJ G 1 w9)) (hsz : a + 386 ≤ H.size) (hl : lv_has ls 9 [(4, .int (iI 0)), (3, .ref (a + 385)), (2, .ref (a + 378)), (1, .ref a), (0, .ref b)]) (hX : va_X b 5 xs s s.heap) (hbl : b < s.heap.size) (hbA : ¬ (fun q => G.2.2.1 ≤ q) b) (hzs : ∀ k, xs k = iI (z k)) (hzb : ∀ k, -2147483648 ≤ z k ∧ z k < 2147483648) (kend : ∀ (M1 : fw_M) (H1 : Heap) (locs1 : List Loc) (ls1 : Array Slot), fw_H G s M1 H1 locs1 → lv_has ls1 9 [(4, .int (iI 0)), (0, .ref b)] → W p l e room_1 s m args below meth c H1 locs1 1000 20000 Q (F0 m 2392 ls1 [])) : W p l e room_1 s m args below meth c H locs 400 13000 Q (F0 m 1548 ls []) := by
  have hzb1 := hzb 1
  have hzb2 := hzb 2
  refine lv_aload_n E.1 E.2.1 dL_law_1548 rfl (lv_at hl 3 rfl) ?_
  refine lv_aload_n E.1 E.2.1 dL_law_1549 rfl (lv_at hl 4 rfl) ?_
  refine lv_iload E.1 E.2.1 dL_law_1550 (lv_at hl 0 rfl) ?_
  refine lv_iconst (v := iI 1) E.1 E.2.1 dL_law_1552 (by decide) ?_
  refine fw_iadd E dL_law_1553 ?_
  refine fw_cv (y := iI (1)) (by decide) ?_
  refine va_sld (A := fun q => G.2.2.1 ≤ q) E.1 E.2.1 hX hbl hbA (fw_H.va hH0 hH) (iI_in (by omega) (by omega) (by omega)) dL_law_1554 ?_
  refine fw_cv (y := iI (z 1)) (by rw [iI_ix (by omega) (by omega)]; exact hzs 1) ?_
  refine lv_aload_n E.1 E.2.1 dL_law_1555 rfl (lv_at hl 4 rfl) ?_
  refine lv_iload E.1 E.2.1 dL_law_1556 (lv_at hl 0 rfl) ?_
  refine lv_iconst (v := iI 2) E.1 E.2.1 dL_law_1558 (by decide) ?_
  refine fw_iadd E dL_law_1559 ?_
  refine fw_cv (y := iI (2)) (by decide) ?_
  refine va_sld (A := fun q => G.2.2.1 ≤ q) E.1 E.2.1 hX hbl hbA (fw_H.va hH0 hH) (iI_in (by omega) (by omega) (by omega)) dL_law_1560 ?_
  refine fw_cv (y := iI (z 2)) (by rw [iI_ix (by omega) (by omega)]; exact hzs 2) ?_
  refine lv_aload_n E.1 E.2.1 dL_law_1561 rfl (lv_at hl 1 rfl) ?_
  refine fw_cSW (As := [.ref a, .int (iI (z 1)), .int (iI (z 2)), .ref (a + 385)]) (rest := []) E hK hH hl fW_sizeAt ql_RL_197 qs_yL_sizeAt (w_sizeAt l hlt G _ _ a hB w9 ho (z 1) (z 2) (by omega) (by omega)) rfl rfl (Nat.le_of_ble_eq_true rfl) ⟨Nat.le_of_ble_eq_true rfl, Nat.le_of_ble_eq_true rfl⟩ ⟨Nat.le_of_ble_eq_true rfl, Nat.le_of_ble_eq_true rfl⟩ dL_law_1562 (fw_ki fun r M1 H1 locs1 hp hH hz1 => ?_)
  obtain ⟨rfl, hw, hfr⟩ := hp
  replace hD := hD.fr (fun q h1 h2 => hfr q (by omega) (by omega))
  clear hfr
  refine lv_istore (lv' := [(5, .int (iI 1)), (4, .int (iI 0)), (3, .ref (a + 385)), (2, .ref (a + 378)), (1, .ref a), (0, .ref b)]) E.1 E.2.1 dL_law_1565 hl (by decide) rfl (fun ls hl => ?_)
  refine lv_aload_n E.1 E.2.1 dL_law_1567 rfl (lv_at hl 3 rfl) ?_
  refine lv_aload_n E.1 E.2.1 dL_law_1568 rfl (lv_at hl 5 rfl) ?_
  refine lv_iload E.1 E.2.1 dL_law_1569 (lv_at hl 1 rfl) ?_
  refine lv_iconst (v := iI 1) E.1 E.2.1 dL_law_1571 (by decide) ?_
  refine fw_iadd E dL_law_1572 ?_
  refine fw_cv (y := iI (1)) (by decide) ?_
  refine va_sld (A := fun q => G.2.2.1 ≤ q) E.1 E.2.1 hX hbl hbA (fw_H.va hH0 hH) (iI_in (by omega) (by omega) (by omega)) dL_law_1573 ?_
  refine fw_cv (y := iI (z 1)) (by rw [iI_ix (by omega) (by omega)]; exact hzs 1) ?_
  refine lv_aload_n E.1 E.2.1 dL_law_1574 rfl (lv_at hl 5 rfl) ?_
  refine lv_iload E.1 E.2.1 dL_law_1575 (lv_at hl 1 rfl) ?_
  refine lv_iconst (v := iI 2) E.1 E.2.1 dL_law_1577 (by decide) ?_
  refine fw_iadd E dL_law_1578 ?_
  refine fw_cv (y := iI (2)) (by decide) ?_
  refine va_sld (A := fun q => G.2.2.1 ≤ q) E.1 E.2.1 hX hbl hbA (fw_H.va hH0 hH) (iI_in (by omega) (by omega) (by omega)) dL_law_1579 ?_
  refine fw_cv (y := iI (z 2)) (by rw [iI_ix (by omega) (by omega)]; exact hzs 2) ?_
  refine fw_cV (As := [.int (iI (z 1)), .int (iI (z 2))]) (rest := []) E hK hH hl hD.2.1 fc_X10 fL_X10_sizeAt ql_RL_199 qi_yX10_sizeAt qv_yX10_sizeAt (y_sizeAt l G _ _ (a + 378) hD (z 1) (z 2) (by omega) (by omega)) rfl rfl (Nat.le_of_ble_eq_true rfl) ⟨Nat.le_of_ble_eq_true rfl, Nat.le_of_ble_eq_true rfl⟩ ⟨Nat.le_of_ble_eq_true rfl, Nat.le_of_ble_eq_true rfl⟩ dL_law_1580 (fw_ki fun rb M1 H1 locs1 hp hH hz1 => ?_)
  obtain ⟨⟨fs, hobj, hth⟩, hv, hfr⟩ := hp
  clear hfr hz1
  refine lv_istore (lv' := [(6, .int rb), (5, .int (iI 1)), (4, .int (iI 0)), (3, .ref (a + 385)), (2, .ref (a + 378)), (1, .ref a), (0, .ref b)]) E.1 E.2.1 dL_law_1583 hl (by decide) rfl (fun ls hl => ?_)
  refine lv_aload_n E.1 E.2.1 dL_law_1585 rfl (lv_at hl 4 rfl) ?_
  refine fw_cV (As := []) (rest := []) E hK hH hl hobj fc_X10 fL_X10_thrown ql_RL_120 qi_yX10_thrown qv_yX10_thrown (m_thrown l G _ _ (a + 378) 1 ⟨_, hobj, hth⟩) rfl rfl (Nat.le_of_ble_eq_true rfl) ⟨Nat.le_of_ble_eq_true rfl, Nat.le_of_ble_eq_true rfl⟩ ⟨Nat.le_of_ble_eq_true rfl, Nat.le_of_ble_eq_true rfl⟩ dL_law_1586 (fw_ki fun r M1 H1 locs1 hp hH hz1 => ?_)
  obtain ⟨rfl, hM9, hz2⟩ := hp
  rw [hM9] at hH
  clear hz1 hz2
  refine lv_iload E.1 E.2.1 dL_law_1589 (lv_at hl 1 rfl) ?_
  refine fw_icmp_eq (tgt := 1596) E dL_law_1591 (by decide) (by omega) (by omega) (by omega) (by omega) (fun c1 => ?_) (fun c1 => ?_)
  · refine lv_iload E.1 E.2.1 dL_law_1596 (lv_at hl 1 rfl) ?_
    refine fw_if_ne (tgt := 1613) E dL_law_1598 (by decide) (by omega) (by omega) (fun c2 => ?_) (fun c2 => ?_)
    · refine lv_goto (tgt := 2392) E.1 E.2.1 dL_law_1613 (by decide) ?_
      exact W.widen (k := 1000) (n := 20000) (by omega) (by omega) (kend _ _ _ _ hH (lv_sub hl [2, 6] rfl))
    · exact absurd c2 (by omega)
  · exact absurd c1 (by omega)
theorem lc_above {p : Program} {l : Launch} {e : Env} {s : State} {m : MethodId} {args : Array Value} {below : List Frame} {meth : Method} {c : Code} {H : Heap} {locs : List Loc} {Q : State → Prop} {G : fw_G} {M M0 : fw_M} {ls : Array Slot} {a b : Nat} {xs : Nat → Int32} {z : Nat → Int} {w9 : Nat → Int64} (hlt : l.stackTraces = false) (E : CallFix p m c code 9 s args fwT RL) (hK : fw_K G s) (hH0 : fw_H G s M0 s.heap []) (hH : fw_H G s M H locs) (hB : bn0 G M a) (hD : md0 G M (a + 378)) (ho : M (a + 385) = some (fJ G 1 w9)) (hsz : a + 386 ≤ H.size) (hl : lv_has ls 9 [(4, .int (iI 0)), (3, .ref (a + 385)), (2, .ref (a + 378)), (1, .ref a), (0, .ref b)]) (hX : va_X b 5 xs s s.heap) (hbl : b < s.heap.size) (hbA : ¬ (fun q => G.2.2.1 ≤ q) b) (hzs : ∀ k, xs k = iI (z k)) (hzb : ∀ k, -2147483648 ≤ z k ∧ z k < 2147483648) (kend : ∀ (M1 : fw_M) (H1 : Heap) (locs1 : List Loc) (ls1 : Array Slot), fw_H G s M1 H1 locs1 → lv_has ls1 9 [(4, .int (iI 0)), (0, .ref b)] → W p l e room_1 s m args below meth c H1 locs1 1000 20000 Q (F0 m 2392 ls1 [])) : W p l e room_1 s m args below meth c H locs 400 13000 Q (F0 m 1616 ls []) := by
  have hzb1 := hzb 1
  have hzb2 := hzb 2
  refine lv_aload_n E.1 E.2.1 dL_law_1616 rfl (lv_at hl 3 rfl) ?_
  refine lv_aload_n E.1 E.2.1 dL_law_1617 rfl (lv_at hl 4 rfl) ?_
  refine lv_iload E.1 E.2.1 dL_law_1618 (lv_at hl 0 rfl) ?_
  refine lv_iconst (v := iI 1) E.1 E.2.1 dL_law_1620 (by decide) ?_
  refine fw_iadd E dL_law_1621 ?_
  refine fw_cv (y := iI (1)) (by decide) ?_
  refine va_sld (A := fun q => G.2.2.1 ≤ q) E.1 E.2.1 hX hbl hbA (fw_H.va hH0 hH) (iI_in (by omega) (by omega) (by omega)) dL_law_1622 ?_
  refine fw_cv (y := iI (z 1)) (by rw [iI_ix (by omega) (by omega)]; exact hzs 1) ?_
  refine lv_aload_n E.1 E.2.1 dL_law_1623 rfl (lv_at hl 4 rfl) ?_
  refine lv_iload E.1 E.2.1 dL_law_1624 (lv_at hl 0 rfl) ?_
  refine lv_iconst (v := iI 2) E.1 E.2.1 dL_law_1626 (by decide) ?_
  refine fw_iadd E dL_law_1627 ?_
  refine fw_cv (y := iI (2)) (by decide) ?_
  refine va_sld (A := fun q => G.2.2.1 ≤ q) E.1 E.2.1 hX hbl hbA (fw_H.va hH0 hH) (iI_in (by omega) (by omega) (by omega)) dL_law_1628 ?_
  refine fw_cv (y := iI (z 2)) (by rw [iI_ix (by omega) (by omega)]; exact hzs 2) ?_
  refine lv_aload_n E.1 E.2.1 dL_law_1629 rfl (lv_at hl 1 rfl) ?_
  refine fw_cSW (As := [.ref a, .int (iI (z 1)), .int (iI (z 2)), .ref (a + 385)]) (rest := []) E hK hH hl fW_above ql_RL_200 qs_yL_above (w_above l hlt G _ _ a hB w9 ho (z 1) (z 2) (by omega) (by omega)) rfl rfl (Nat.le_of_ble_eq_true rfl) ⟨Nat.le_of_ble_eq_true rfl, Nat.le_of_ble_eq_true rfl⟩ ⟨Nat.le_of_ble_eq_true rfl, Nat.le_of_ble_eq_true rfl⟩ dL_law_1630 (fw_ki fun r M1 H1 locs1 hp hH hz1 => ?_)
  obtain ⟨rfl, hw, hfr⟩ := hp
  replace hD := hD.fr (fun q h1 h2 => hfr q (by omega) (by omega))
  clear hfr
  refine lv_istore (lv' := [(5, .int (iI 1)), (4, .int (iI 0)), (3, .ref (a + 385)), (2, .ref (a + 378)), (1, .ref a), (0, .ref b)]) E.1 E.2.1 dL_law_1633 hl (by decide) rfl (fun ls hl => ?_)
  refine lv_aload_n E.1 E.2.1 dL_law_1635 rfl (lv_at hl 3 rfl) ?_
  refine lv_aload_n E.1 E.2.1 dL_law_1636 rfl (lv_at hl 5 rfl) ?_
  refine lv_iload E.1 E.2.1 dL_law_1637 (lv_at hl 1 rfl) ?_
  refine lv_iconst (v := iI 1) E.1 E.2.1 dL_law_1639 (by decide) ?_
  refine fw_iadd E dL_law_1640 ?_
  refine fw_cv (y := iI (1)) (by decide) ?_
  refine va_sld (A := fun q => G.2.2.1 ≤ q) E.1 E.2.1 hX hbl hbA (fw_H.va hH0 hH) (iI_in (by omega) (by omega) (by omega)) dL_law_1641 ?_
  refine fw_cv (y := iI (z 1)) (by rw [iI_ix (by omega) (by omega)]; exact hzs 1) ?_
  refine lv_aload_n E.1 E.2.1 dL_law_1642 rfl (lv_at hl 5 rfl) ?_
  refine lv_iload E.1 E.2.1 dL_law_1643 (lv_at hl 1 rfl) ?_
  refine lv_iconst (v := iI 2) E.1 E.2.1 dL_law_1645 (by decide) ?_
  refine fw_iadd E dL_law_1646 ?_
  refine fw_cv (y := iI (2)) (by decide) ?_
  refine va_sld (A := fun q => G.2.2.1 ≤ q) E.1 E.2.1 hX hbl hbA (fw_H.va hH0 hH) (iI_in (by omega) (by omega) (by omega)) dL_law_1647 ?_
  refine fw_cv (y := iI (z 2)) (by rw [iI_ix (by omega) (by omega)]; exact hzs 2) ?_
  refine fw_cV (As := [.int (iI (z 1)), .int (iI (z 2))]) (rest := []) E hK hH hl hD.2.1 fc_X10 fL_X10_above ql_RL_202 qi_yX10_above qv_yX10_above (y_above l G _ _ (a + 378) hD (z 1) (z 2) (by omega) (by omega)) rfl rfl (Nat.le_of_ble_eq_true rfl) ⟨Nat.le_of_ble_eq_true rfl, Nat.le_of_ble_eq_true rfl⟩ ⟨Nat.le_of_ble_eq_true rfl, Nat.le_of_ble_eq_true rfl⟩ dL_law_1648 (fw_ki fun rb M1 H1 locs1 hp hH hz1 => ?_)
  obtain ⟨⟨fs, hobj, hth⟩, hv, hfr⟩ := hp
  clear hfr hz1
  refine lv_istore (lv' := [(6, .int rb), (5, .int (iI 1)), (4, .int (iI 0)), (3, .ref (a + 385)), (2, .ref (a + 378)), (1, .ref a), (0, .ref b)]) E.1 E.2.1 dL_law_1651 hl (by decide) rfl (fun ls hl => ?_)
  refine lv_aload_n E.1 E.2.1 dL_law_1653 rfl (lv_at hl 4 rfl) ?_
  refine fw_cV (As := []) (rest := []) E hK hH hl hobj fc_X10 fL_X10_thrown ql_RL_120 qi_yX10_thrown qv_yX10_thrown (m_thrown l G _ _ (a + 378) 1 ⟨_, hobj, hth⟩) rfl rfl (Nat.le_of_ble_eq_true rfl) ⟨Nat.le_of_ble_eq_true rfl, Nat.le_of_ble_eq_true rfl⟩ ⟨Nat.le_of_ble_eq_true rfl, Nat.le_of_ble_eq_true rfl⟩ dL_law_1654 (fw_ki fun r M1 H1 locs1 hp hH hz1 => ?_)
  obtain ⟨rfl, hM9, hz2⟩ := hp
  rw [hM9] at hH
  clear hz1 hz2
  refine lv_iload E.1 E.2.1 dL_law_1657 (lv_at hl 1 rfl) ?_
  refine fw_icmp_eq (tgt := 1664) E dL_law_1659 (by decide) (by omega) (by omega) (by omega) (by omega) (fun c1 => ?_) (fun c1 => ?_)
  · refine lv_iload E.1 E.2.1 dL_law_1664 (lv_at hl 1 rfl) ?_
    refine fw_if_ne (tgt := 1681) E dL_law_1666 (by decide) (by omega) (by omega) (fun c2 => ?_) (fun c2 => ?_)
    · refine lv_goto (tgt := 2392) E.1 E.2.1 dL_law_1681 (by decide) ?_
      exact W.widen (k := 1000) (n := 20000) (by omega) (by omega) (kend _ _ _ _ hH (lv_sub hl [2, 6] rfl))
    · exact absurd c2 (by omega)
  · exact absurd c1 (by omega)
theorem lc_gives {p : Program} {l : Launch} {e : Env} {s : State} {m : MethodId} {args : Array Value} {below : List Frame} {meth : Method} {c : Code} {H : Heap} {locs : List Loc} {Q : State → Prop} {G : fw_G} {M M0 : fw_M} {ls : Array Slot} {a b : Nat} {xs : Nat → Int32} {z : Nat → Int} {w9 : Nat → Int64} (hlt : l.stackTraces = false) (E : CallFix p m c code 9 s args fwT RL) (hK : fw_K G s) (hH0 : fw_H G s M0 s.heap []) (hH : fw_H G s M H locs) (hB : bn0 G M a) (hD : md0 G M (a + 378)) (ho : M (a + 385) = some (fJ G 1 w9)) (hsz : a + 386 ≤ H.size) (hl : lv_has ls 9 [(4, .int (iI 0)), (3, .ref (a + 385)), (2, .ref (a + 378)), (1, .ref a), (0, .ref b)]) (hX : va_X b 5 xs s s.heap) (hbl : b < s.heap.size) (hbA : ¬ (fun q => G.2.2.1 ≤ q) b) (hzs : ∀ k, xs k = iI (z k)) (hzb : ∀ k, -2147483648 ≤ z k ∧ z k < 2147483648) (kend : ∀ (M1 : fw_M) (H1 : Heap) (locs1 : List Loc) (ls1 : Array Slot), fw_H G s M1 H1 locs1 → lv_has ls1 9 [(4, .int (iI 0)), (0, .ref b)] → W p l e room_1 s m args below meth c H1 locs1 1000 20000 Q (F0 m 2392 ls1 [])) : W p l e room_1 s m args below meth c H locs 400 13000 Q (F0 m 1684 ls []) := by
  have hzb1 := hzb 1
  have hzb2 := hzb 2
  have hzb3 := hzb 3
  have hzb4 := hzb 4
  refine lv_aload_n E.1 E.2.1 dL_law_1684 rfl (lv_at hl 3 rfl) ?_
  refine lv_aload_n E.1 E.2.1 dL_law_1685 rfl (lv_at hl 4 rfl) ?_
  refine lv_iload E.1 E.2.1 dL_law_1686 (lv_at hl 0 rfl) ?_
  refine lv_iconst (v := iI 1) E.1 E.2.1 dL_law_1688 (by decide) ?_
  refine fw_iadd E dL_law_1689 ?_
  refine fw_cv (y := iI (1)) (by decide) ?_
  refine va_sld (A := fun q => G.2.2.1 ≤ q) E.1 E.2.1 hX hbl hbA (fw_H.va hH0 hH) (iI_in (by omega) (by omega) (by omega)) dL_law_1690 ?_
  refine fw_cv (y := iI (z 1)) (by rw [iI_ix (by omega) (by omega)]; exact hzs 1) ?_
  refine lv_aload_n E.1 E.2.1 dL_law_1691 rfl (lv_at hl 4 rfl) ?_
  refine lv_iload E.1 E.2.1 dL_law_1692 (lv_at hl 0 rfl) ?_
  refine lv_iconst (v := iI 2) E.1 E.2.1 dL_law_1694 (by decide) ?_
  refine fw_iadd E dL_law_1695 ?_
  refine fw_cv (y := iI (2)) (by decide) ?_
  refine va_sld (A := fun q => G.2.2.1 ≤ q) E.1 E.2.1 hX hbl hbA (fw_H.va hH0 hH) (iI_in (by omega) (by omega) (by omega)) dL_law_1696 ?_
  refine fw_cv (y := iI (z 2)) (by rw [iI_ix (by omega) (by omega)]; exact hzs 2) ?_
  refine lv_aload_n E.1 E.2.1 dL_law_1697 rfl (lv_at hl 4 rfl) ?_
  refine lv_iload E.1 E.2.1 dL_law_1698 (lv_at hl 0 rfl) ?_
  refine lv_iconst (v := iI 3) E.1 E.2.1 dL_law_1700 (by decide) ?_
  refine fw_iadd E dL_law_1701 ?_
  refine fw_cv (y := iI (3)) (by decide) ?_
  refine va_sld (A := fun q => G.2.2.1 ≤ q) E.1 E.2.1 hX hbl hbA (fw_H.va hH0 hH) (iI_in (by omega) (by omega) (by omega)) dL_law_1702 ?_
  refine fw_cv (y := iI (z 3)) (by rw [iI_ix (by omega) (by omega)]; exact hzs 3) ?_
  refine lv_aload_n E.1 E.2.1 dL_law_1703 rfl (lv_at hl 4 rfl) ?_
  refine lv_iload E.1 E.2.1 dL_law_1704 (lv_at hl 0 rfl) ?_
  refine lv_iconst (v := iI 4) E.1 E.2.1 dL_law_1706 (by decide) ?_
  refine fw_iadd E dL_law_1707 ?_
  refine fw_cv (y := iI (4)) (by decide) ?_
  refine va_sld (A := fun q => G.2.2.1 ≤ q) E.1 E.2.1 hX hbl hbA (fw_H.va hH0 hH) (iI_in (by omega) (by omega) (by omega)) dL_law_1708 ?_
  refine fw_cv (y := iI (z 4)) (by rw [iI_ix (by omega) (by omega)]; exact hzs 4) ?_
  refine lv_aload_n E.1 E.2.1 dL_law_1709 rfl (lv_at hl 1 rfl) ?_
  refine fw_cSW (As := [.ref a, .int (iI (z 1)), .int (iI (z 2)), .int (iI (z 3)), .int (iI (z 4)), .ref (a + 385)]) (rest := []) E hK hH hl fW_gives ql_RL_203 qs_yL_gives (w_gives l hlt G _ _ a hB w9 ho (z 1) (z 2) (z 3) (z 4) (by omega) (by omega) (by omega) (by omega)) rfl rfl (Nat.le_of_ble_eq_true rfl) ⟨Nat.le_of_ble_eq_true rfl, Nat.le_of_ble_eq_true rfl⟩ ⟨Nat.le_of_ble_eq_true rfl, Nat.le_of_ble_eq_true rfl⟩ dL_law_1710 (fw_ki fun r M1 H1 locs1 hp hH hz1 => ?_)
  obtain ⟨rfl, hw, hfr⟩ := hp
  replace hD := hD.fr (fun q h1 h2 => hfr q (by omega) (by omega))
  clear hfr
  refine lv_istore (lv' := [(5, .int (iI 1)), (4, .int (iI 0)), (3, .ref (a + 385)), (2, .ref (a + 378)), (1, .ref a), (0, .ref b)]) E.1 E.2.1 dL_law_1713 hl (by decide) rfl (fun ls hl => ?_)
  refine lv_aload_n E.1 E.2.1 dL_law_1715 rfl (lv_at hl 3 rfl) ?_
  refine lv_aload_n E.1 E.2.1 dL_law_1716 rfl (lv_at hl 5 rfl) ?_
  refine lv_iload E.1 E.2.1 dL_law_1717 (lv_at hl 1 rfl) ?_
  refine lv_iconst (v := iI 1) E.1 E.2.1 dL_law_1719 (by decide) ?_
  refine fw_iadd E dL_law_1720 ?_
  refine fw_cv (y := iI (1)) (by decide) ?_
  refine va_sld (A := fun q => G.2.2.1 ≤ q) E.1 E.2.1 hX hbl hbA (fw_H.va hH0 hH) (iI_in (by omega) (by omega) (by omega)) dL_law_1721 ?_
  refine fw_cv (y := iI (z 1)) (by rw [iI_ix (by omega) (by omega)]; exact hzs 1) ?_
  refine lv_aload_n E.1 E.2.1 dL_law_1722 rfl (lv_at hl 5 rfl) ?_
  refine lv_iload E.1 E.2.1 dL_law_1723 (lv_at hl 1 rfl) ?_
  refine lv_iconst (v := iI 2) E.1 E.2.1 dL_law_1725 (by decide) ?_
  refine fw_iadd E dL_law_1726 ?_
  refine fw_cv (y := iI (2)) (by decide) ?_
  refine va_sld (A := fun q => G.2.2.1 ≤ q) E.1 E.2.1 hX hbl hbA (fw_H.va hH0 hH) (iI_in (by omega) (by omega) (by omega)) dL_law_1727 ?_
  refine fw_cv (y := iI (z 2)) (by rw [iI_ix (by omega) (by omega)]; exact hzs 2) ?_
  refine lv_aload_n E.1 E.2.1 dL_law_1728 rfl (lv_at hl 5 rfl) ?_
  refine lv_iload E.1 E.2.1 dL_law_1729 (lv_at hl 1 rfl) ?_
  refine lv_iconst (v := iI 3) E.1 E.2.1 dL_law_1731 (by decide) ?_
  refine fw_iadd E dL_law_1732 ?_
  refine fw_cv (y := iI (3)) (by decide) ?_
  refine va_sld (A := fun q => G.2.2.1 ≤ q) E.1 E.2.1 hX hbl hbA (fw_H.va hH0 hH) (iI_in (by omega) (by omega) (by omega)) dL_law_1733 ?_
  refine fw_cv (y := iI (z 3)) (by rw [iI_ix (by omega) (by omega)]; exact hzs 3) ?_
  refine lv_aload_n E.1 E.2.1 dL_law_1734 rfl (lv_at hl 5 rfl) ?_
  refine lv_iload E.1 E.2.1 dL_law_1735 (lv_at hl 1 rfl) ?_
  refine lv_iconst (v := iI 4) E.1 E.2.1 dL_law_1737 (by decide) ?_
  refine fw_iadd E dL_law_1738 ?_
  refine fw_cv (y := iI (4)) (by decide) ?_
  refine va_sld (A := fun q => G.2.2.1 ≤ q) E.1 E.2.1 hX hbl hbA (fw_H.va hH0 hH) (iI_in (by omega) (by omega) (by omega)) dL_law_1739 ?_
  refine fw_cv (y := iI (z 4)) (by rw [iI_ix (by omega) (by omega)]; exact hzs 4) ?_
  refine fw_cV (As := [.int (iI (z 1)), .int (iI (z 2)), .int (iI (z 3)), .int (iI (z 4))]) (rest := []) E hK hH hl hD.2.1 fc_X10 fL_X10_gives_ ql_RL_205 qi_yX10_gives_ qv_yX10_gives_ (y_gives l G _ _ (a + 378) hD (z 1) (z 2) (z 3) (z 4) (by omega) (by omega) (by omega) (by omega)) rfl rfl (Nat.le_of_ble_eq_true rfl) ⟨Nat.le_of_ble_eq_true rfl, Nat.le_of_ble_eq_true rfl⟩ ⟨Nat.le_of_ble_eq_true rfl, Nat.le_of_ble_eq_true rfl⟩ dL_law_1740 (fw_ki fun rb M1 H1 locs1 hp hH hz1 => ?_)
  obtain ⟨⟨fs, hobj, hth⟩, hv, hfr⟩ := hp
  clear hfr hz1
  refine lv_istore (lv' := [(6, .int rb), (5, .int (iI 1)), (4, .int (iI 0)), (3, .ref (a + 385)), (2, .ref (a + 378)), (1, .ref a), (0, .ref b)]) E.1 E.2.1 dL_law_1743 hl (by decide) rfl (fun ls hl => ?_)
  refine lv_aload_n E.1 E.2.1 dL_law_1745 rfl (lv_at hl 4 rfl) ?_
  refine fw_cV (As := []) (rest := []) E hK hH hl hobj fc_X10 fL_X10_thrown ql_RL_120 qi_yX10_thrown qv_yX10_thrown (m_thrown l G _ _ (a + 378) 1 ⟨_, hobj, hth⟩) rfl rfl (Nat.le_of_ble_eq_true rfl) ⟨Nat.le_of_ble_eq_true rfl, Nat.le_of_ble_eq_true rfl⟩ ⟨Nat.le_of_ble_eq_true rfl, Nat.le_of_ble_eq_true rfl⟩ dL_law_1746 (fw_ki fun r M1 H1 locs1 hp hH hz1 => ?_)
  obtain ⟨rfl, hM9, hz2⟩ := hp
  rw [hM9] at hH
  clear hz1 hz2
  refine lv_iload E.1 E.2.1 dL_law_1749 (lv_at hl 1 rfl) ?_
  refine fw_icmp_eq (tgt := 1756) E dL_law_1751 (by decide) (by omega) (by omega) (by omega) (by omega) (fun c1 => ?_) (fun c1 => ?_)
  · refine lv_iload E.1 E.2.1 dL_law_1756 (lv_at hl 1 rfl) ?_
    refine fw_if_ne (tgt := 1773) E dL_law_1758 (by decide) (by omega) (by omega) (fun c2 => ?_) (fun c2 => ?_)
    · refine lv_goto (tgt := 2392) E.1 E.2.1 dL_law_1773 (by decide) ?_
      exact W.widen (k := 1000) (n := 20000) (by omega) (by omega) (kend _ _ _ _ hH (lv_sub hl [2, 6] rfl))
    · exact absurd c2 (by omega)
  · exact absurd c1 (by omega)
theorem lc_error {p : Program} {l : Launch} {e : Env} {s : State} {m : MethodId} {args : Array Value} {below : List Frame} {meth : Method} {c : Code} {H : Heap} {locs : List Loc} {Q : State → Prop} {G : fw_G} {M M0 : fw_M} {ls : Array Slot} {a b : Nat} {xs : Nat → Int32} {z : Nat → Int} {w9 : Nat → Int64} (hlt : l.stackTraces = false) (E : CallFix p m c code 9 s args fwT RL) (hK : fw_K G s) (hH0 : fw_H G s M0 s.heap []) (hH : fw_H G s M H locs) (hB : bn0 G M a) (hD : md0 G M (a + 378)) (ho : M (a + 385) = some (fJ G 1 w9)) (hsz : a + 386 ≤ H.size) (hl : lv_has ls 9 [(4, .int (iI 0)), (3, .ref (a + 385)), (2, .ref (a + 378)), (1, .ref a), (0, .ref b)]) (hX : va_X b 5 xs s s.heap) (hbl : b < s.heap.size) (hbA : ¬ (fun q => G.2.2.1 ≤ q) b) (hzs : ∀ k, xs k = iI (z k)) (hzb : ∀ k, -2147483648 ≤ z k ∧ z k < 2147483648) (kend : ∀ (M1 : fw_M) (H1 : Heap) (locs1 : List Loc) (ls1 : Array Slot), fw_H G s M1 H1 locs1 → lv_has ls1 9 [(4, .int (iI 0)), (0, .ref b)] → W p l e room_1 s m args below meth c H1 locs1 1000 20000 Q (F0 m 2392 ls1 [])) : W p l e room_1 s m args below meth c H locs 400 13000 Q (F0 m 1776 ls []) := by
  have hzb1 := hzb 1
  refine lv_aload_n E.1 E.2.1 dL_law_1776 rfl (lv_at hl 3 rfl) ?_
  refine lv_aload_n E.1 E.2.1 dL_law_1777 rfl (lv_at hl 4 rfl) ?_
  refine lv_iload E.1 E.2.1 dL_law_1778 (lv_at hl 0 rfl) ?_
  refine lv_iconst (v := iI 1) E.1 E.2.1 dL_law_1780 (by decide) ?_
  refine fw_iadd E dL_law_1781 ?_
  refine fw_cv (y := iI (1)) (by decide) ?_
  refine va_sld (A := fun q => G.2.2.1 ≤ q) E.1 E.2.1 hX hbl hbA (fw_H.va hH0 hH) (iI_in (by omega) (by omega) (by omega)) dL_law_1782 ?_
  refine fw_cv (y := iI (z 1)) (by rw [iI_ix (by omega) (by omega)]; exact hzs 1) ?_
  refine lv_aload_n E.1 E.2.1 dL_law_1783 rfl (lv_at hl 1 rfl) ?_
  refine fw_cSW (As := [.ref a, .int (iI (z 1)), .ref (a + 385)]) (rest := []) E hK hH hl fW_error ql_RL_206 qs_yL_error (w_error l hlt G _ _ a hB w9 ho (z 1) (by omega)) rfl rfl (Nat.le_of_ble_eq_true rfl) ⟨Nat.le_of_ble_eq_true rfl, Nat.le_of_ble_eq_true rfl⟩ ⟨Nat.le_of_ble_eq_true rfl, Nat.le_of_ble_eq_true rfl⟩ dL_law_1784 (fw_ki fun r M1 H1 locs1 hp hH hz1 => ?_)
  obtain ⟨rfl, hw, hfr⟩ := hp
  replace hD := hD.fr (fun q h1 h2 => hfr q (by omega) (by omega))
  clear hfr
  refine lv_istore (lv' := [(5, .int (iI 1)), (4, .int (iI 0)), (3, .ref (a + 385)), (2, .ref (a + 378)), (1, .ref a), (0, .ref b)]) E.1 E.2.1 dL_law_1787 hl (by decide) rfl (fun ls hl => ?_)
  refine lv_aload_n E.1 E.2.1 dL_law_1789 rfl (lv_at hl 3 rfl) ?_
  refine lv_aload_n E.1 E.2.1 dL_law_1790 rfl (lv_at hl 5 rfl) ?_
  refine lv_iload E.1 E.2.1 dL_law_1791 (lv_at hl 1 rfl) ?_
  refine lv_iconst (v := iI 1) E.1 E.2.1 dL_law_1793 (by decide) ?_
  refine fw_iadd E dL_law_1794 ?_
  refine fw_cv (y := iI (1)) (by decide) ?_
  refine va_sld (A := fun q => G.2.2.1 ≤ q) E.1 E.2.1 hX hbl hbA (fw_H.va hH0 hH) (iI_in (by omega) (by omega) (by omega)) dL_law_1795 ?_
  refine fw_cv (y := iI (z 1)) (by rw [iI_ix (by omega) (by omega)]; exact hzs 1) ?_
  refine fw_cV (As := [.int (iI (z 1))]) (rest := []) E hK hH hl hD.2.1 fc_X10 fL_X10_error ql_RL_208 qi_yX10_error qv_yX10_error (y_error l G _ _ (a + 378) hD (z 1) (by omega)) rfl rfl (Nat.le_of_ble_eq_true rfl) ⟨Nat.le_of_ble_eq_true rfl, Nat.le_of_ble_eq_true rfl⟩ ⟨Nat.le_of_ble_eq_true rfl, Nat.le_of_ble_eq_true rfl⟩ dL_law_1796 (fw_ki fun rb M1 H1 locs1 hp hH hz1 => ?_)
  obtain ⟨⟨fs, hobj, hth⟩, hv, hfr⟩ := hp
  clear hfr hz1
  refine lv_istore (lv' := [(6, .int rb), (5, .int (iI 1)), (4, .int (iI 0)), (3, .ref (a + 385)), (2, .ref (a + 378)), (1, .ref a), (0, .ref b)]) E.1 E.2.1 dL_law_1799 hl (by decide) rfl (fun ls hl => ?_)
  refine lv_aload_n E.1 E.2.1 dL_law_1801 rfl (lv_at hl 4 rfl) ?_
  refine fw_cV (As := []) (rest := []) E hK hH hl hobj fc_X10 fL_X10_thrown ql_RL_120 qi_yX10_thrown qv_yX10_thrown (m_thrown l G _ _ (a + 378) 1 ⟨_, hobj, hth⟩) rfl rfl (Nat.le_of_ble_eq_true rfl) ⟨Nat.le_of_ble_eq_true rfl, Nat.le_of_ble_eq_true rfl⟩ ⟨Nat.le_of_ble_eq_true rfl, Nat.le_of_ble_eq_true rfl⟩ dL_law_1802 (fw_ki fun r M1 H1 locs1 hp hH hz1 => ?_)
  obtain ⟨rfl, hM9, hz2⟩ := hp
  rw [hM9] at hH
  clear hz1 hz2
  refine lv_iload E.1 E.2.1 dL_law_1805 (lv_at hl 1 rfl) ?_
  refine fw_icmp_eq (tgt := 1812) E dL_law_1807 (by decide) (by omega) (by omega) (by omega) (by omega) (fun c1 => ?_) (fun c1 => ?_)
  · refine lv_iload E.1 E.2.1 dL_law_1812 (lv_at hl 1 rfl) ?_
    refine fw_if_ne (tgt := 1829) E dL_law_1814 (by decide) (by omega) (by omega) (fun c2 => ?_) (fun c2 => ?_)
    · refine lv_goto (tgt := 2392) E.1 E.2.1 dL_law_1829 (by decide) ?_
      exact W.widen (k := 1000) (n := 20000) (by omega) (by omega) (kend _ _ _ _ hH (lv_sub hl [2, 6] rfl))
    · exact absurd c2 (by omega)
  · exact absurd c1 (by omega)
theorem lc_merit {p : Program} {l : Launch} {e : Env} {s : State} {m : MethodId} {args : Array Value} {below : List Frame} {meth : Method} {c : Code} {H : Heap} {locs : List Loc} {Q : State → Prop} {G : fw_G} {M M0 : fw_M} {ls : Array Slot} {a b : Nat} {xs : Nat → Int32} {z : Nat → Int} {w9 : Nat → Int64} (hlt : l.stackTraces = false) (E : CallFix p m c code 9 s args fwT RL) (hK : fw_K G s) (hH0 : fw_H G s M0 s.heap []) (hH : fw_H G s M H locs) (hB : bn0 G M a) (hD : md0 G M (a + 378)) (ho : M (a + 385) = some (fJ G 1 w9)) (hsz : a + 386 ≤ H.size) (hl : lv_has ls 9 [(4, .int (iI 0)), (3, .ref (a + 385)), (2, .ref (a + 378)), (1, .ref a), (0, .ref b)]) (hX : va_X b 5 xs s s.heap) (hbl : b < s.heap.size) (hbA : ¬ (fun q => G.2.2.1 ≤ q) b) (hzs : ∀ k, xs k = iI (z k)) (hzb : ∀ k, -2147483648 ≤ z k ∧ z k < 2147483648) (kend : ∀ (M1 : fw_M) (H1 : Heap) (locs1 : List Loc) (ls1 : Array Slot), fw_H G s M1 H1 locs1 → lv_has ls1 9 [(4, .int (iI 0)), (0, .ref b)] → W p l e room_1 s m args below meth c H1 locs1 1000 20000 Q (F0 m 2392 ls1 [])) : W p l e room_1 s m args below meth c H locs 400 13000 Q (F0 m 1832 ls []) := by
  have hzb1 := hzb 1
  refine lv_aload_n E.1 E.2.1 dL_law_1832 rfl (lv_at hl 3 rfl) ?_
  refine lv_aload_n E.1 E.2.1 dL_law_1833 rfl (lv_at hl 4 rfl) ?_
  refine lv_iload E.1 E.2.1 dL_law_1834 (lv_at hl 0 rfl) ?_
  refine lv_iconst (v := iI 1) E.1 E.2.1 dL_law_1836 (by decide) ?_
  refine fw_iadd E dL_law_1837 ?_
  refine fw_cv (y := iI (1)) (by decide) ?_
  refine va_sld (A := fun q => G.2.2.1 ≤ q) E.1 E.2.1 hX hbl hbA (fw_H.va hH0 hH) (iI_in (by omega) (by omega) (by omega)) dL_law_1838 ?_
  refine fw_cv (y := iI (z 1)) (by rw [iI_ix (by omega) (by omega)]; exact hzs 1) ?_
  refine lv_aload_n E.1 E.2.1 dL_law_1839 rfl (lv_at hl 1 rfl) ?_
  refine fw_cSW (As := [.ref a, .int (iI (z 1)), .ref (a + 385)]) (rest := []) E hK hH hl fW_merit ql_RL_209 qs_yL_merit (w_merit l hlt G _ _ a hB w9 ho (z 1) (by omega)) rfl rfl (Nat.le_of_ble_eq_true rfl) ⟨Nat.le_of_ble_eq_true rfl, Nat.le_of_ble_eq_true rfl⟩ ⟨Nat.le_of_ble_eq_true rfl, Nat.le_of_ble_eq_true rfl⟩ dL_law_1840 (fw_ki fun r M1 H1 locs1 hp hH hz1 => ?_)
  obtain ⟨rfl, hw, hfr⟩ := hp
  replace hD := hD.fr (fun q h1 h2 => hfr q (by omega) (by omega))
  clear hfr
  refine lv_istore (lv' := [(5, .int (iI 1)), (4, .int (iI 0)), (3, .ref (a + 385)), (2, .ref (a + 378)), (1, .ref a), (0, .ref b)]) E.1 E.2.1 dL_law_1843 hl (by decide) rfl (fun ls hl => ?_)
  refine lv_aload_n E.1 E.2.1 dL_law_1845 rfl (lv_at hl 3 rfl) ?_
  refine lv_aload_n E.1 E.2.1 dL_law_1846 rfl (lv_at hl 5 rfl) ?_
  refine lv_iload E.1 E.2.1 dL_law_1847 (lv_at hl 1 rfl) ?_
  refine lv_iconst (v := iI 1) E.1 E.2.1 dL_law_1849 (by decide) ?_
  refine fw_iadd E dL_law_1850 ?_
  refine fw_cv (y := iI (1)) (by decide) ?_
  refine va_sld (A := fun q => G.2.2.1 ≤ q) E.1 E.2.1 hX hbl hbA (fw_H.va hH0 hH) (iI_in (by omega) (by omega) (by omega)) dL_law_1851 ?_
  refine fw_cv (y := iI (z 1)) (by rw [iI_ix (by omega) (by omega)]; exact hzs 1) ?_
  refine fw_cV (As := [.int (iI (z 1))]) (rest := []) E hK hH hl hD.2.1 fc_X10 fL_X10_merit ql_RL_211 qi_yX10_merit qv_yX10_merit (y_merit l G _ _ (a + 378) hD (z 1) (by omega)) rfl rfl (Nat.le_of_ble_eq_true rfl) ⟨Nat.le_of_ble_eq_true rfl, Nat.le_of_ble_eq_true rfl⟩ ⟨Nat.le_of_ble_eq_true rfl, Nat.le_of_ble_eq_true rfl⟩ dL_law_1852 (fw_ki fun rb M1 H1 locs1 hp hH hz1 => ?_)
  obtain ⟨⟨fs, hobj, hth⟩, hv, hfr⟩ := hp
  clear hfr hz1
  refine lv_istore (lv' := [(6, .int rb), (5, .int (iI 1)), (4, .int (iI 0)), (3, .ref (a + 385)), (2, .ref (a + 378)), (1, .ref a), (0, .ref b)]) E.1 E.2.1 dL_law_1855 hl (by decide) rfl (fun ls hl => ?_)
  refine lv_aload_n E.1 E.2.1 dL_law_1857 rfl (lv_at hl 4 rfl) ?_
  refine fw_cV (As := []) (rest := []) E hK hH hl hobj fc_X10 fL_X10_thrown ql_RL_120 qi_yX10_thrown qv_yX10_thrown (m_thrown l G _ _ (a + 378) 1 ⟨_, hobj, hth⟩) rfl rfl (Nat.le_of_ble_eq_true rfl) ⟨Nat.le_of_ble_eq_true rfl, Nat.le_of_ble_eq_true rfl⟩ ⟨Nat.le_of_ble_eq_true rfl, Nat.le_of_ble_eq_true rfl⟩ dL_law_1858 (fw_ki fun r M1 H1 locs1 hp hH hz1 => ?_)
  obtain ⟨rfl, hM9, hz2⟩ := hp
  rw [hM9] at hH
  clear hz1 hz2
  refine lv_iload E.1 E.2.1 dL_law_1861 (lv_at hl 1 rfl) ?_
  refine fw_icmp_eq (tgt := 1868) E dL_law_1863 (by decide) (by omega) (by omega) (by omega) (by omega) (fun c1 => ?_) (fun c1 => ?_)
  · refine lv_iload E.1 E.2.1 dL_law_1868 (lv_at hl 1 rfl) ?_
    refine fw_if_ne (tgt := 1885) E dL_law_1870 (by decide) (by omega) (by omega) (fun c2 => ?_) (fun c2 => ?_)
    · refine lv_goto (tgt := 2392) E.1 E.2.1 dL_law_1885 (by decide) ?_
      exact W.widen (k := 1000) (n := 20000) (by omega) (by omega) (kend _ _ _ _ hH (lv_sub hl [2, 6] rfl))
    · exact absurd c2 (by omega)
  · exact absurd c1 (by omega)

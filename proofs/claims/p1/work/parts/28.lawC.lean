theorem lc_hits {p : Program} {l : Launch} {e : Env} {s : State} {m : MethodId} {args : Array Value} {below : List Frame} {meth : Method} {c : Code} {H : Heap} {locs : List Loc} {Q : State → Prop} {G : fw_G} {M M0 : fw_M} {ls : Array Slot} {a b : Nat} {xs : Nat → Int32} {z : Nat → Int} {w9 : Nat → Int64} (hlt : l.stackTraces = false) (E : CallFix p m c code 9 s args fwT RL) (hK : fw_K G s) (hH0 : fw_H G s M0 s.heap []) (hH : fw_H G s M H locs) (hB : bn0 G M a) (hD : md0 G M (a + 378)) (ho : M (a + 385) = some (fJ G 1 w9)) (hsz : a + 386 ≤ H.size) (hl : lv_has ls 9 [(4, .int (iI 0)), (3, .ref (a + 385)), (2, .ref (a + 378)), (1, .ref a), (0, .ref b)]) (hX : va_X b 5 xs s s.heap) (hbl : b < s.heap.size) (hbA : ¬ (fun q => G.2.2.1 ≤ q) b) (hzs : ∀ k, xs k = iI (z k)) (hzb : ∀ k, -2147483648 ≤ z k ∧ z k < 2147483648) (kend : ∀ (M1 : fw_M) (H1 : Heap) (locs1 : List Loc) (ls1 : Array Slot), fw_H G s M1 H1 locs1 → lv_has ls1 9 [(4, .int (iI 0)), (0, .ref b)] → W p l e room_1 s m args below meth c H1 locs1 1000 20000 Q (F0 m 2392 ls1 [])) : W p l e room_1 s m args below meth c H locs 400 13000 Q (F0 m 1888 ls []) := by
  have hzb1 := hzb 1
  refine lv_aload_n E.1 E.2.1 dL_law_1888 rfl (lv_at hl 3 rfl) ?_
  refine lv_aload_n E.1 E.2.1 dL_law_1889 rfl (lv_at hl 4 rfl) ?_
  refine lv_iload E.1 E.2.1 dL_law_1890 (lv_at hl 0 rfl) ?_
  refine lv_iconst (v := iI 1) E.1 E.2.1 dL_law_1892 (by decide) ?_
  refine fw_iadd E dL_law_1893 ?_
  refine fw_cv (y := iI (1)) (by decide) ?_
  refine va_sld (A := fun q => G.2.2.1 ≤ q) E.1 E.2.1 hX hbl hbA (fw_H.va hH0 hH) (iI_in (by omega) (by omega) (by omega)) dL_law_1894 ?_
  refine fw_cv (y := iI (z 1)) (by rw [iI_ix (by omega) (by omega)]; exact hzs 1) ?_
  refine lv_aload_n E.1 E.2.1 dL_law_1895 rfl (lv_at hl 1 rfl) ?_
  refine fw_cSW (As := [.ref a, .int (iI (z 1)), .ref (a + 385)]) (rest := []) E hK hH hl fW_hits ql_RL_212 qs_yL_hits (w_hits l hlt G _ _ a hB w9 ho (z 1) (by omega)) rfl rfl (Nat.le_of_ble_eq_true rfl) ⟨Nat.le_of_ble_eq_true rfl, Nat.le_of_ble_eq_true rfl⟩ ⟨Nat.le_of_ble_eq_true rfl, Nat.le_of_ble_eq_true rfl⟩ dL_law_1896 (fw_ki fun r M1 H1 locs1 hp hH hz1 => ?_)
  obtain ⟨rfl, hw, hfr⟩ := hp
  replace hD := hD.fr (fun q h1 h2 => hfr q (by omega) (by omega))
  clear hfr
  refine lv_istore (lv' := [(5, .int (iI 1)), (4, .int (iI 0)), (3, .ref (a + 385)), (2, .ref (a + 378)), (1, .ref a), (0, .ref b)]) E.1 E.2.1 dL_law_1899 hl (by decide) rfl (fun ls hl => ?_)
  refine lv_aload_n E.1 E.2.1 dL_law_1901 rfl (lv_at hl 3 rfl) ?_
  refine lv_aload_n E.1 E.2.1 dL_law_1902 rfl (lv_at hl 5 rfl) ?_
  refine lv_iload E.1 E.2.1 dL_law_1903 (lv_at hl 1 rfl) ?_
  refine lv_iconst (v := iI 1) E.1 E.2.1 dL_law_1905 (by decide) ?_
  refine fw_iadd E dL_law_1906 ?_
  refine fw_cv (y := iI (1)) (by decide) ?_
  refine va_sld (A := fun q => G.2.2.1 ≤ q) E.1 E.2.1 hX hbl hbA (fw_H.va hH0 hH) (iI_in (by omega) (by omega) (by omega)) dL_law_1907 ?_
  refine fw_cv (y := iI (z 1)) (by rw [iI_ix (by omega) (by omega)]; exact hzs 1) ?_
  refine fw_cV (As := [.int (iI (z 1))]) (rest := []) E hK hH hl hD.2.1 fc_X10 fL_X10_hits ql_RL_214 qi_yX10_hits qv_yX10_hits (y_hits l G _ _ (a + 378) hD (z 1) (by omega)) rfl rfl (Nat.le_of_ble_eq_true rfl) ⟨Nat.le_of_ble_eq_true rfl, Nat.le_of_ble_eq_true rfl⟩ ⟨Nat.le_of_ble_eq_true rfl, Nat.le_of_ble_eq_true rfl⟩ dL_law_1908 (fw_ki fun rb M1 H1 locs1 hp hH hz1 => ?_)
  obtain ⟨⟨fs, hobj, hth⟩, hv, hfr⟩ := hp
  clear hfr hz1
  refine lv_istore (lv' := [(6, .int rb), (5, .int (iI 1)), (4, .int (iI 0)), (3, .ref (a + 385)), (2, .ref (a + 378)), (1, .ref a), (0, .ref b)]) E.1 E.2.1 dL_law_1911 hl (by decide) rfl (fun ls hl => ?_)
  refine lv_aload_n E.1 E.2.1 dL_law_1913 rfl (lv_at hl 4 rfl) ?_
  refine fw_cV (As := []) (rest := []) E hK hH hl hobj fc_X10 fL_X10_thrown ql_RL_120 qi_yX10_thrown qv_yX10_thrown (m_thrown l G _ _ (a + 378) 1 ⟨_, hobj, hth⟩) rfl rfl (Nat.le_of_ble_eq_true rfl) ⟨Nat.le_of_ble_eq_true rfl, Nat.le_of_ble_eq_true rfl⟩ ⟨Nat.le_of_ble_eq_true rfl, Nat.le_of_ble_eq_true rfl⟩ dL_law_1914 (fw_ki fun r M1 H1 locs1 hp hH hz1 => ?_)
  obtain ⟨rfl, hM9, hz2⟩ := hp
  rw [hM9] at hH
  clear hz1 hz2
  refine lv_iload E.1 E.2.1 dL_law_1917 (lv_at hl 1 rfl) ?_
  refine fw_icmp_eq (tgt := 1924) E dL_law_1919 (by decide) (by omega) (by omega) (by omega) (by omega) (fun c1 => ?_) (fun c1 => ?_)
  · refine lv_iload E.1 E.2.1 dL_law_1924 (lv_at hl 1 rfl) ?_
    refine fw_if_ne (tgt := 1941) E dL_law_1926 (by decide) (by omega) (by omega) (fun c2 => ?_) (fun c2 => ?_)
    · refine lv_goto (tgt := 2392) E.1 E.2.1 dL_law_1941 (by decide) ?_
      exact W.widen (k := 1000) (n := 20000) (by omega) (by omega) (kend _ _ _ _ hH (lv_sub hl [2, 6] rfl))
    · exact absurd c2 (by omega)
  · exact absurd c1 (by omega)
theorem lc_ranked {p : Program} {l : Launch} {e : Env} {s : State} {m : MethodId} {args : Array Value} {below : List Frame} {meth : Method} {c : Code} {H : Heap} {locs : List Loc} {Q : State → Prop} {G : fw_G} {M M0 : fw_M} {ls : Array Slot} {a b : Nat} {xs : Nat → Int32} {z : Nat → Int} {w9 : Nat → Int64} (hlt : l.stackTraces = false) (E : CallFix p m c code 9 s args fwT RL) (hK : fw_K G s) (hH0 : fw_H G s M0 s.heap []) (hH : fw_H G s M H locs) (hB : bn0 G M a) (hD : md0 G M (a + 378)) (ho : M (a + 385) = some (fJ G 1 w9)) (hsz : a + 386 ≤ H.size) (hl : lv_has ls 9 [(4, .int (iI 0)), (3, .ref (a + 385)), (2, .ref (a + 378)), (1, .ref a), (0, .ref b)]) (hX : va_X b 5 xs s s.heap) (hbl : b < s.heap.size) (hbA : ¬ (fun q => G.2.2.1 ≤ q) b) (hzs : ∀ k, xs k = iI (z k)) (hzb : ∀ k, -2147483648 ≤ z k ∧ z k < 2147483648) (kend : ∀ (M1 : fw_M) (H1 : Heap) (locs1 : List Loc) (ls1 : Array Slot), fw_H G s M1 H1 locs1 → lv_has ls1 9 [(4, .int (iI 0)), (0, .ref b)] → W p l e room_1 s m args below meth c H1 locs1 1000 20000 Q (F0 m 2392 ls1 [])) : W p l e room_1 s m args below meth c H locs 400 13000 Q (F0 m 1944 ls []) := by
  have hzb1 := hzb 1
  refine lv_aload_n E.1 E.2.1 dL_law_1944 rfl (lv_at hl 3 rfl) ?_
  refine lv_aload_n E.1 E.2.1 dL_law_1945 rfl (lv_at hl 4 rfl) ?_
  refine lv_iload E.1 E.2.1 dL_law_1946 (lv_at hl 0 rfl) ?_
  refine lv_iconst (v := iI 1) E.1 E.2.1 dL_law_1948 (by decide) ?_
  refine fw_iadd E dL_law_1949 ?_
  refine fw_cv (y := iI (1)) (by decide) ?_
  refine va_sld (A := fun q => G.2.2.1 ≤ q) E.1 E.2.1 hX hbl hbA (fw_H.va hH0 hH) (iI_in (by omega) (by omega) (by omega)) dL_law_1950 ?_
  refine fw_cv (y := iI (z 1)) (by rw [iI_ix (by omega) (by omega)]; exact hzs 1) ?_
  refine lv_aload_n E.1 E.2.1 dL_law_1951 rfl (lv_at hl 1 rfl) ?_
  refine fw_cSW (As := [.ref a, .int (iI (z 1)), .ref (a + 385)]) (rest := []) E hK hH hl fW_ranked ql_RL_215 qs_yL_ranked (w_ranked l hlt G _ _ a hB w9 ho (z 1) (by omega)) rfl rfl (Nat.le_of_ble_eq_true rfl) ⟨Nat.le_of_ble_eq_true rfl, Nat.le_of_ble_eq_true rfl⟩ ⟨Nat.le_of_ble_eq_true rfl, Nat.le_of_ble_eq_true rfl⟩ dL_law_1952 (fw_ki fun r M1 H1 locs1 hp hH hz1 => ?_)
  obtain ⟨rfl, hw, hfr⟩ := hp
  replace hD := hD.fr (fun q h1 h2 => hfr q (by omega) (by omega))
  clear hfr
  refine lv_istore (lv' := [(5, .int (iI 1)), (4, .int (iI 0)), (3, .ref (a + 385)), (2, .ref (a + 378)), (1, .ref a), (0, .ref b)]) E.1 E.2.1 dL_law_1955 hl (by decide) rfl (fun ls hl => ?_)
  refine lv_aload_n E.1 E.2.1 dL_law_1957 rfl (lv_at hl 3 rfl) ?_
  refine lv_aload_n E.1 E.2.1 dL_law_1958 rfl (lv_at hl 5 rfl) ?_
  refine lv_iload E.1 E.2.1 dL_law_1959 (lv_at hl 1 rfl) ?_
  refine lv_iconst (v := iI 1) E.1 E.2.1 dL_law_1961 (by decide) ?_
  refine fw_iadd E dL_law_1962 ?_
  refine fw_cv (y := iI (1)) (by decide) ?_
  refine va_sld (A := fun q => G.2.2.1 ≤ q) E.1 E.2.1 hX hbl hbA (fw_H.va hH0 hH) (iI_in (by omega) (by omega) (by omega)) dL_law_1963 ?_
  refine fw_cv (y := iI (z 1)) (by rw [iI_ix (by omega) (by omega)]; exact hzs 1) ?_
  refine fw_cV (As := [.int (iI (z 1))]) (rest := []) E hK hH hl hD.2.1 fc_X10 fL_X10_ranked ql_RL_217 qi_yX10_ranked qv_yX10_ranked (y_ranked l G _ _ (a + 378) hD (z 1) (by omega)) rfl rfl (Nat.le_of_ble_eq_true rfl) ⟨Nat.le_of_ble_eq_true rfl, Nat.le_of_ble_eq_true rfl⟩ ⟨Nat.le_of_ble_eq_true rfl, Nat.le_of_ble_eq_true rfl⟩ dL_law_1964 (fw_ki fun rb M1 H1 locs1 hp hH hz1 => ?_)
  obtain ⟨⟨fs, hobj, hth⟩, hv, hfr⟩ := hp
  clear hfr hz1
  refine lv_istore (lv' := [(6, .int rb), (5, .int (iI 1)), (4, .int (iI 0)), (3, .ref (a + 385)), (2, .ref (a + 378)), (1, .ref a), (0, .ref b)]) E.1 E.2.1 dL_law_1967 hl (by decide) rfl (fun ls hl => ?_)
  refine lv_aload_n E.1 E.2.1 dL_law_1969 rfl (lv_at hl 4 rfl) ?_
  refine fw_cV (As := []) (rest := []) E hK hH hl hobj fc_X10 fL_X10_thrown ql_RL_120 qi_yX10_thrown qv_yX10_thrown (m_thrown l G _ _ (a + 378) 1 ⟨_, hobj, hth⟩) rfl rfl (Nat.le_of_ble_eq_true rfl) ⟨Nat.le_of_ble_eq_true rfl, Nat.le_of_ble_eq_true rfl⟩ ⟨Nat.le_of_ble_eq_true rfl, Nat.le_of_ble_eq_true rfl⟩ dL_law_1970 (fw_ki fun r M1 H1 locs1 hp hH hz1 => ?_)
  obtain ⟨rfl, hM9, hz2⟩ := hp
  rw [hM9] at hH
  clear hz1 hz2
  refine lv_iload E.1 E.2.1 dL_law_1973 (lv_at hl 1 rfl) ?_
  refine fw_icmp_eq (tgt := 1980) E dL_law_1975 (by decide) (by omega) (by omega) (by omega) (by omega) (fun c1 => ?_) (fun c1 => ?_)
  · refine lv_iload E.1 E.2.1 dL_law_1980 (lv_at hl 1 rfl) ?_
    refine fw_if_ne (tgt := 1997) E dL_law_1982 (by decide) (by omega) (by omega) (fun c2 => ?_) (fun c2 => ?_)
    · refine lv_goto (tgt := 2392) E.1 E.2.1 dL_law_1997 (by decide) ?_
      exact W.widen (k := 1000) (n := 20000) (by omega) (by omega) (kend _ _ _ _ hH (lv_sub hl [2, 6] rfl))
    · exact absurd c2 (by omega)
  · exact absurd c1 (by omega)
theorem lc_different {p : Program} {l : Launch} {e : Env} {s : State} {m : MethodId} {args : Array Value} {below : List Frame} {meth : Method} {c : Code} {H : Heap} {locs : List Loc} {Q : State → Prop} {G : fw_G} {M M0 : fw_M} {ls : Array Slot} {a b : Nat} {xs : Nat → Int32} {z : Nat → Int} {w9 : Nat → Int64} (hlt : l.stackTraces = false) (E : CallFix p m c code 9 s args fwT RL) (hK : fw_K G s) (hH0 : fw_H G s M0 s.heap []) (hH : fw_H G s M H locs) (hB : bn0 G M a) (hD : md0 G M (a + 378)) (ho : M (a + 385) = some (fJ G 1 w9)) (hsz : a + 386 ≤ H.size) (hl : lv_has ls 9 [(4, .int (iI 0)), (3, .ref (a + 385)), (2, .ref (a + 378)), (1, .ref a), (0, .ref b)]) (hX : va_X b 5 xs s s.heap) (hbl : b < s.heap.size) (hbA : ¬ (fun q => G.2.2.1 ≤ q) b) (hzs : ∀ k, xs k = iI (z k)) (hzb : ∀ k, -2147483648 ≤ z k ∧ z k < 2147483648) (kend : ∀ (M1 : fw_M) (H1 : Heap) (locs1 : List Loc) (ls1 : Array Slot), fw_H G s M1 H1 locs1 → lv_has ls1 9 [(4, .int (iI 0)), (0, .ref b)] → W p l e room_1 s m args below meth c H1 locs1 1000 20000 Q (F0 m 2392 ls1 [])) : W p l e room_1 s m args below meth c H locs 400 13000 Q (F0 m 2000 ls []) := by
  refine lv_aload_n E.1 E.2.1 dL_law_2000 rfl (lv_at hl 3 rfl) ?_
  refine fw_cV (As := []) (rest := []) E hK hH hl hB.c.2.1 fc_X9 fL_X9_different ql_RL_218 qi_yX9_different qv_yX9_different (x_different l G _ _ a hB) rfl rfl (Nat.le_of_ble_eq_true rfl) ⟨Nat.le_of_ble_eq_true rfl, Nat.le_of_ble_eq_true rfl⟩ ⟨Nat.le_of_ble_eq_true rfl, Nat.le_of_ble_eq_true rfl⟩ dL_law_2001 (fw_ki fun r M1 H1 locs1 hp hH hz1 => ?_)
  obtain ⟨rfl, hfr, hz2⟩ := hp
  replace hD := hD.fr (fun q h1 h2 => hfr q (by omega))
  clear hfr
  replace hsz : a + 386 ≤ H1.size := by omega
  clear hz1 hz2
  refine lv_aload_n E.1 E.2.1 dL_law_2004 rfl (lv_at hl 2 rfl) ?_
  refine fw_cV (As := []) (rest := [.int (iI 0)]) E hK hH hl hD.2.1 fc_X10 fL_X10_different ql_RL_221 qi_yX10_different qv_yX10_different (y_different l G _ _ (a + 378) hD  ) rfl rfl (Nat.le_of_ble_eq_true rfl) ⟨Nat.le_of_ble_eq_true rfl, Nat.le_of_ble_eq_true rfl⟩ ⟨Nat.le_of_ble_eq_true rfl, Nat.le_of_ble_eq_true rfl⟩ dL_law_2005 (fw_ki fun r M1 H1 locs1 hp hH hz1 => ?_)
  obtain ⟨rfl, hfr⟩ := hp
  clear hfr hz1
  refine fw_icmp_eq (tgt := 2392) E dL_law_2008 (by decide) (by omega) (by omega) (by omega) (by omega) (fun c1 => ?_) (fun c1 => ?_)
  · exact W.widen (k := 1000) (n := 20000) (by omega) (by omega) (kend _ _ _ _ hH (lv_sub hl [0, 4] rfl))
  · exact absurd c1 (by omega)
theorem lc_alike {p : Program} {l : Launch} {e : Env} {s : State} {m : MethodId} {args : Array Value} {below : List Frame} {meth : Method} {c : Code} {H : Heap} {locs : List Loc} {Q : State → Prop} {G : fw_G} {M M0 : fw_M} {ls : Array Slot} {a b : Nat} {xs : Nat → Int32} {z : Nat → Int} {w9 : Nat → Int64} (hlt : l.stackTraces = false) (E : CallFix p m c code 9 s args fwT RL) (hK : fw_K G s) (hH0 : fw_H G s M0 s.heap []) (hH : fw_H G s M H locs) (hB : bn0 G M a) (hD : md0 G M (a + 378)) (ho : M (a + 385) = some (fJ G 1 w9)) (hsz : a + 386 ≤ H.size) (hl : lv_has ls 9 [(4, .int (iI 0)), (3, .ref (a + 385)), (2, .ref (a + 378)), (1, .ref a), (0, .ref b)]) (hX : va_X b 5 xs s s.heap) (hbl : b < s.heap.size) (hbA : ¬ (fun q => G.2.2.1 ≤ q) b) (hzs : ∀ k, xs k = iI (z k)) (hzb : ∀ k, -2147483648 ≤ z k ∧ z k < 2147483648) (kend : ∀ (M1 : fw_M) (H1 : Heap) (locs1 : List Loc) (ls1 : Array Slot), fw_H G s M1 H1 locs1 → lv_has ls1 9 [(4, .int (iI 0)), (0, .ref b)] → W p l e room_1 s m args below meth c H1 locs1 1000 20000 Q (F0 m 2392 ls1 [])) : W p l e room_1 s m args below meth c H locs 400 13000 Q (F0 m 2013 ls []) := by
  have hzb1 := hzb 1
  have hzb2 := hzb 2
  refine lv_aload_n E.1 E.2.1 dL_law_2013 rfl (lv_at hl 3 rfl) ?_
  refine lv_aload_n E.1 E.2.1 dL_law_2014 rfl (lv_at hl 4 rfl) ?_
  refine lv_iload E.1 E.2.1 dL_law_2015 (lv_at hl 0 rfl) ?_
  refine lv_iconst (v := iI 1) E.1 E.2.1 dL_law_2017 (by decide) ?_
  refine fw_iadd E dL_law_2018 ?_
  refine fw_cv (y := iI (1)) (by decide) ?_
  refine va_sld (A := fun q => G.2.2.1 ≤ q) E.1 E.2.1 hX hbl hbA (fw_H.va hH0 hH) (iI_in (by omega) (by omega) (by omega)) dL_law_2019 ?_
  refine fw_cv (y := iI (z 1)) (by rw [iI_ix (by omega) (by omega)]; exact hzs 1) ?_
  refine lv_aload_n E.1 E.2.1 dL_law_2020 rfl (lv_at hl 4 rfl) ?_
  refine lv_iload E.1 E.2.1 dL_law_2021 (lv_at hl 0 rfl) ?_
  refine lv_iconst (v := iI 2) E.1 E.2.1 dL_law_2023 (by decide) ?_
  refine fw_iadd E dL_law_2024 ?_
  refine fw_cv (y := iI (2)) (by decide) ?_
  refine va_sld (A := fun q => G.2.2.1 ≤ q) E.1 E.2.1 hX hbl hbA (fw_H.va hH0 hH) (iI_in (by omega) (by omega) (by omega)) dL_law_2025 ?_
  refine fw_cv (y := iI (z 2)) (by rw [iI_ix (by omega) (by omega)]; exact hzs 2) ?_
  refine lv_aload_n E.1 E.2.1 dL_law_2026 rfl (lv_at hl 1 rfl) ?_
  refine fw_cSW (As := [.ref a, .int (iI (z 1)), .int (iI (z 2)), .ref (a + 385)]) (rest := []) E hK hH hl fW_alike ql_RL_222 qs_yL_alike (w_alike l hlt G _ _ a hB w9 ho (z 1) (z 2) (by omega) (by omega)) rfl rfl (Nat.le_of_ble_eq_true rfl) ⟨Nat.le_of_ble_eq_true rfl, Nat.le_of_ble_eq_true rfl⟩ ⟨Nat.le_of_ble_eq_true rfl, Nat.le_of_ble_eq_true rfl⟩ dL_law_2027 (fw_ki fun r M1 H1 locs1 hp hH hz1 => ?_)
  obtain ⟨rfl, hw, hfr⟩ := hp
  replace hD := hD.fr (fun q h1 h2 => hfr q (by omega) (by omega))
  clear hfr
  refine lv_istore (lv' := [(5, .int (iI 1)), (4, .int (iI 0)), (3, .ref (a + 385)), (2, .ref (a + 378)), (1, .ref a), (0, .ref b)]) E.1 E.2.1 dL_law_2030 hl (by decide) rfl (fun ls hl => ?_)
  refine lv_aload_n E.1 E.2.1 dL_law_2032 rfl (lv_at hl 3 rfl) ?_
  refine lv_aload_n E.1 E.2.1 dL_law_2033 rfl (lv_at hl 5 rfl) ?_
  refine lv_iload E.1 E.2.1 dL_law_2034 (lv_at hl 1 rfl) ?_
  refine lv_iconst (v := iI 1) E.1 E.2.1 dL_law_2036 (by decide) ?_
  refine fw_iadd E dL_law_2037 ?_
  refine fw_cv (y := iI (1)) (by decide) ?_
  refine va_sld (A := fun q => G.2.2.1 ≤ q) E.1 E.2.1 hX hbl hbA (fw_H.va hH0 hH) (iI_in (by omega) (by omega) (by omega)) dL_law_2038 ?_
  refine fw_cv (y := iI (z 1)) (by rw [iI_ix (by omega) (by omega)]; exact hzs 1) ?_
  refine lv_aload_n E.1 E.2.1 dL_law_2039 rfl (lv_at hl 5 rfl) ?_
  refine lv_iload E.1 E.2.1 dL_law_2040 (lv_at hl 1 rfl) ?_
  refine lv_iconst (v := iI 2) E.1 E.2.1 dL_law_2042 (by decide) ?_
  refine fw_iadd E dL_law_2043 ?_
  refine fw_cv (y := iI (2)) (by decide) ?_
  refine va_sld (A := fun q => G.2.2.1 ≤ q) E.1 E.2.1 hX hbl hbA (fw_H.va hH0 hH) (iI_in (by omega) (by omega) (by omega)) dL_law_2044 ?_
  refine fw_cv (y := iI (z 2)) (by rw [iI_ix (by omega) (by omega)]; exact hzs 2) ?_
  refine fw_cV (As := [.int (iI (z 1)), .int (iI (z 2))]) (rest := []) E hK hH hl hD.2.1 fc_X10 fL_X10_alike ql_RL_224 qi_yX10_alike qv_yX10_alike (y_alike l G _ _ (a + 378) hD (z 1) (z 2) (by omega) (by omega)) rfl rfl (Nat.le_of_ble_eq_true rfl) ⟨Nat.le_of_ble_eq_true rfl, Nat.le_of_ble_eq_true rfl⟩ ⟨Nat.le_of_ble_eq_true rfl, Nat.le_of_ble_eq_true rfl⟩ dL_law_2045 (fw_ki fun rb M1 H1 locs1 hp hH hz1 => ?_)
  obtain ⟨⟨fs, hobj, hth⟩, hv, hfr⟩ := hp
  clear hfr hz1
  refine lv_istore (lv' := [(6, .int rb), (5, .int (iI 1)), (4, .int (iI 0)), (3, .ref (a + 385)), (2, .ref (a + 378)), (1, .ref a), (0, .ref b)]) E.1 E.2.1 dL_law_2048 hl (by decide) rfl (fun ls hl => ?_)
  refine lv_aload_n E.1 E.2.1 dL_law_2050 rfl (lv_at hl 4 rfl) ?_
  refine fw_cV (As := []) (rest := []) E hK hH hl hobj fc_X10 fL_X10_thrown ql_RL_120 qi_yX10_thrown qv_yX10_thrown (m_thrown l G _ _ (a + 378) 1 ⟨_, hobj, hth⟩) rfl rfl (Nat.le_of_ble_eq_true rfl) ⟨Nat.le_of_ble_eq_true rfl, Nat.le_of_ble_eq_true rfl⟩ ⟨Nat.le_of_ble_eq_true rfl, Nat.le_of_ble_eq_true rfl⟩ dL_law_2051 (fw_ki fun r M1 H1 locs1 hp hH hz1 => ?_)
  obtain ⟨rfl, hM9, hz2⟩ := hp
  rw [hM9] at hH
  clear hz1 hz2
  refine lv_iload E.1 E.2.1 dL_law_2054 (lv_at hl 1 rfl) ?_
  refine fw_icmp_eq (tgt := 2061) E dL_law_2056 (by decide) (by omega) (by omega) (by omega) (by omega) (fun c1 => ?_) (fun c1 => ?_)
  · refine lv_iload E.1 E.2.1 dL_law_2061 (lv_at hl 1 rfl) ?_
    refine fw_if_ne (tgt := 2078) E dL_law_2063 (by decide) (by omega) (by omega) (fun c2 => ?_) (fun c2 => ?_)
    · refine lv_goto (tgt := 2392) E.1 E.2.1 dL_law_2078 (by decide) ?_
      exact W.widen (k := 1000) (n := 20000) (by omega) (by omega) (kend _ _ _ _ hH (lv_sub hl [2, 6] rfl))
    · exact absurd c2 (by omega)
  · exact absurd c1 (by omega)
theorem lc_meanSize {p : Program} {l : Launch} {e : Env} {s : State} {m : MethodId} {args : Array Value} {below : List Frame} {meth : Method} {c : Code} {H : Heap} {locs : List Loc} {Q : State → Prop} {G : fw_G} {M M0 : fw_M} {ls : Array Slot} {a b : Nat} {xs : Nat → Int32} {z : Nat → Int} {w9 : Nat → Int64} (hlt : l.stackTraces = false) (E : CallFix p m c code 9 s args fwT RL) (hK : fw_K G s) (hH0 : fw_H G s M0 s.heap []) (hH : fw_H G s M H locs) (hB : bn0 G M a) (hD : md0 G M (a + 378)) (ho : M (a + 385) = some (fJ G 1 w9)) (hsz : a + 386 ≤ H.size) (hl : lv_has ls 9 [(4, .int (iI 0)), (3, .ref (a + 385)), (2, .ref (a + 378)), (1, .ref a), (0, .ref b)]) (hX : va_X b 5 xs s s.heap) (hbl : b < s.heap.size) (hbA : ¬ (fun q => G.2.2.1 ≤ q) b) (hzs : ∀ k, xs k = iI (z k)) (hzb : ∀ k, -2147483648 ≤ z k ∧ z k < 2147483648) (kend : ∀ (M1 : fw_M) (H1 : Heap) (locs1 : List Loc) (ls1 : Array Slot), fw_H G s M1 H1 locs1 → lv_has ls1 9 [(4, .int (iI 0)), (0, .ref b)] → W p l e room_1 s m args below meth c H1 locs1 1000 20000 Q (F0 m 2392 ls1 [])) : W p l e room_1 s m args below meth c H locs 400 13000 Q (F0 m 2081 ls []) := by
  refine lv_aload_n E.1 E.2.1 dL_law_2081 rfl (lv_at hl 3 rfl) ?_
  refine fw_cV (As := []) (rest := []) E hK hH hl hB.c.2.1 fc_X9 fL_X9_meanSize ql_RL_225 qi_yX9_meanSize qv_yX9_meanSize (x_meanSize l G _ _ a hB) rfl rfl (Nat.le_of_ble_eq_true rfl) ⟨Nat.le_of_ble_eq_true rfl, Nat.le_of_ble_eq_true rfl⟩ ⟨Nat.le_of_ble_eq_true rfl, Nat.le_of_ble_eq_true rfl⟩ dL_law_2082 (fw_kd fun r M1 H1 locs1 hp hH hz1 => ?_)
  obtain ⟨rfl, hfr, hz2⟩ := hp
  replace hD := hD.fr (fun q h1 h2 => hfr q (by omega))
  clear hfr
  replace hsz : a + 386 ≤ H1.size := by omega
  clear hz1 hz2
  refine lv_dstore (lv' := [(5, .double 0), (4, .int (iI 0)), (3, .ref (a + 385)), (2, .ref (a + 378)), (1, .ref a), (0, .ref b)]) E.1 E.2.1 dL_law_2085 hl (by decide) rfl (fun ls hl => ?_)
  refine lv_aload_n E.1 E.2.1 dL_law_2087 rfl (lv_at hl 3 rfl) ?_
  refine fw_cV (As := []) (rest := []) E hK hH hl hD.2.1 fc_X10 fL_X10_meanSize ql_RL_229 qi_yX10_meanSize qv_yX10_meanSize (y_meanSize l G _ _ (a + 378) hD  ) rfl rfl (Nat.le_of_ble_eq_true rfl) ⟨Nat.le_of_ble_eq_true rfl, Nat.le_of_ble_eq_true rfl⟩ ⟨Nat.le_of_ble_eq_true rfl, Nat.le_of_ble_eq_true rfl⟩ dL_law_2088 (fw_kd fun r M1 H1 locs1 hp hH hz1 => ?_)
  obtain ⟨rfl, hfr⟩ := hp
  clear hfr hz1
  refine lv_dstore (lv' := [(7, .double 0), (5, .double 0), (4, .int (iI 0)), (3, .ref (a + 385)), (2, .ref (a + 378)), (1, .ref a), (0, .ref b)]) E.1 E.2.1 dL_law_2091 hl (by decide) rfl (fun ls hl => ?_)
  refine lv_dload E.1 E.2.1 dL_law_2093 (lv_at hl 1 rfl) ?_
  refine lv_dload E.1 E.2.1 dL_law_2095 (lv_at hl 0 rfl) ?_
  refine lv_dcmp E.1 E.2.1 dL_law_2097 ?_
  refine fw_cv (y := iI 0) (by decide +kernel) ?_
  refine fw_if_eq (tgt := 2119) E dL_law_2098 (by decide) (by omega) (by omega) (fun c1 => ?_) (fun c1 => ?_)
  · refine lv_goto (tgt := 2392) E.1 E.2.1 dL_law_2119 (by decide) ?_
    exact W.widen (k := 1000) (n := 20000) (by omega) (by omega) (kend _ _ _ _ hH (lv_sub hl [2, 6] rfl))
  · exact absurd c1 (by omega)
theorem lc_generations {p : Program} {l : Launch} {e : Env} {s : State} {m : MethodId} {args : Array Value} {below : List Frame} {meth : Method} {c : Code} {H : Heap} {locs : List Loc} {Q : State → Prop} {G : fw_G} {M M0 : fw_M} {ls : Array Slot} {a b : Nat} {xs : Nat → Int32} {z : Nat → Int} {w9 : Nat → Int64} (hlt : l.stackTraces = false) (E : CallFix p m c code 9 s args fwT RL) (hK : fw_K G s) (hH0 : fw_H G s M0 s.heap []) (hH : fw_H G s M H locs) (hB : bn0 G M a) (hD : md0 G M (a + 378)) (ho : M (a + 385) = some (fJ G 1 w9)) (hsz : a + 386 ≤ H.size) (hl : lv_has ls 9 [(4, .int (iI 0)), (3, .ref (a + 385)), (2, .ref (a + 378)), (1, .ref a), (0, .ref b)]) (hX : va_X b 5 xs s s.heap) (hbl : b < s.heap.size) (hbA : ¬ (fun q => G.2.2.1 ≤ q) b) (hzs : ∀ k, xs k = iI (z k)) (hzb : ∀ k, -2147483648 ≤ z k ∧ z k < 2147483648) (kend : ∀ (M1 : fw_M) (H1 : Heap) (locs1 : List Loc) (ls1 : Array Slot), fw_H G s M1 H1 locs1 → lv_has ls1 9 [(4, .int (iI 0)), (0, .ref b)] → W p l e room_1 s m args below meth c H1 locs1 1000 20000 Q (F0 m 2392 ls1 [])) : W p l e room_1 s m args below meth c H locs 400 13000 Q (F0 m 2122 ls []) := by
  refine lv_aload_n E.1 E.2.1 dL_law_2122 rfl (lv_at hl 3 rfl) ?_
  refine fw_cV (As := []) (rest := []) E hK hH hl hB.c.2.1 fc_X9 fL_X9_generations ql_RL_230 qi_yX9_generations qv_yX9_generations (x_generations l G _ _ a hB) rfl rfl (Nat.le_of_ble_eq_true rfl) ⟨Nat.le_of_ble_eq_true rfl, Nat.le_of_ble_eq_true rfl⟩ ⟨Nat.le_of_ble_eq_true rfl, Nat.le_of_ble_eq_true rfl⟩ dL_law_2123 (fw_ki fun r M1 H1 locs1 hp hH hz1 => ?_)
  obtain ⟨rfl, hfr, hz2⟩ := hp
  replace hD := hD.fr (fun q h1 h2 => hfr q (by omega))
  clear hfr
  replace hsz : a + 386 ≤ H1.size := by omega
  clear hz1 hz2
  refine lv_aload_n E.1 E.2.1 dL_law_2126 rfl (lv_at hl 2 rfl) ?_
  refine fw_cV (As := []) (rest := [.int (iI 0)]) E hK hH hl hD.2.1 fc_X10 fL_X10_generations ql_RL_233 qi_yX10_generations qv_yX10_generations (y_generations l G _ _ (a + 378) hD  ) rfl rfl (Nat.le_of_ble_eq_true rfl) ⟨Nat.le_of_ble_eq_true rfl, Nat.le_of_ble_eq_true rfl⟩ ⟨Nat.le_of_ble_eq_true rfl, Nat.le_of_ble_eq_true rfl⟩ dL_law_2127 (fw_ki fun r M1 H1 locs1 hp hH hz1 => ?_)
  obtain ⟨rfl, hfr⟩ := hp
  clear hfr hz1
  refine fw_icmp_eq (tgt := 2392) E dL_law_2130 (by decide) (by omega) (by omega) (by omega) (by omega) (fun c1 => ?_) (fun c1 => ?_)
  · exact W.widen (k := 1000) (n := 20000) (by omega) (by omega) (kend _ _ _ _ hH (lv_sub hl [0, 4] rfl))
  · exact absurd c1 (by omega)
theorem lc_misses {p : Program} {l : Launch} {e : Env} {s : State} {m : MethodId} {args : Array Value} {below : List Frame} {meth : Method} {c : Code} {H : Heap} {locs : List Loc} {Q : State → Prop} {G : fw_G} {M M0 : fw_M} {ls : Array Slot} {a b : Nat} {xs : Nat → Int32} {z : Nat → Int} {w9 : Nat → Int64} (hlt : l.stackTraces = false) (E : CallFix p m c code 9 s args fwT RL) (hK : fw_K G s) (hH0 : fw_H G s M0 s.heap []) (hH : fw_H G s M H locs) (hB : bn0 G M a) (hD : md0 G M (a + 378)) (ho : M (a + 385) = some (fJ G 1 w9)) (hsz : a + 386 ≤ H.size) (hl : lv_has ls 9 [(4, .int (iI 0)), (3, .ref (a + 385)), (2, .ref (a + 378)), (1, .ref a), (0, .ref b)]) (hX : va_X b 5 xs s s.heap) (hbl : b < s.heap.size) (hbA : ¬ (fun q => G.2.2.1 ≤ q) b) (hzs : ∀ k, xs k = iI (z k)) (hzb : ∀ k, -2147483648 ≤ z k ∧ z k < 2147483648) (kend : ∀ (M1 : fw_M) (H1 : Heap) (locs1 : List Loc) (ls1 : Array Slot), fw_H G s M1 H1 locs1 → lv_has ls1 9 [(4, .int (iI 0)), (0, .ref b)] → W p l e room_1 s m args below meth c H1 locs1 1000 20000 Q (F0 m 2392 ls1 [])) : W p l e room_1 s m args below meth c H locs 400 13000 Q (F0 m 2135 ls []) := by
  refine lv_aload_n E.1 E.2.1 dL_law_2135 rfl (lv_at hl 3 rfl) ?_
  refine fw_cV (As := []) (rest := []) E hK hH hl hB.c.2.1 fc_X9 fL_X9_misses ql_RL_234 qi_yX9_misses qv_yX9_misses (x_misses l G _ _ a hB) rfl rfl (Nat.le_of_ble_eq_true rfl) ⟨Nat.le_of_ble_eq_true rfl, Nat.le_of_ble_eq_true rfl⟩ ⟨Nat.le_of_ble_eq_true rfl, Nat.le_of_ble_eq_true rfl⟩ dL_law_2136 (fw_ki fun r M1 H1 locs1 hp hH hz1 => ?_)
  obtain ⟨rfl, hfr, hz2⟩ := hp
  replace hD := hD.fr (fun q h1 h2 => hfr q (by omega))
  clear hfr
  replace hsz : a + 386 ≤ H1.size := by omega
  clear hz1 hz2
  refine lv_aload_n E.1 E.2.1 dL_law_2139 rfl (lv_at hl 2 rfl) ?_
  refine fw_cV (As := []) (rest := [.int (iI 0)]) E hK hH hl hD.2.1 fc_X10 fL_X10_misses ql_RL_237 qi_yX10_misses qv_yX10_misses (y_misses l G _ _ (a + 378) hD  ) rfl rfl (Nat.le_of_ble_eq_true rfl) ⟨Nat.le_of_ble_eq_true rfl, Nat.le_of_ble_eq_true rfl⟩ ⟨Nat.le_of_ble_eq_true rfl, Nat.le_of_ble_eq_true rfl⟩ dL_law_2140 (fw_ki fun r M1 H1 locs1 hp hH hz1 => ?_)
  obtain ⟨rfl, hfr⟩ := hp
  clear hfr hz1
  refine fw_icmp_eq (tgt := 2392) E dL_law_2143 (by decide) (by omega) (by omega) (by omega) (by omega) (fun c1 => ?_) (fun c1 => ?_)
  · exact W.widen (k := 1000) (n := 20000) (by omega) (by omega) (kend _ _ _ _ hH (lv_sub hl [0, 4] rfl))
  · exact absurd c1 (by omega)
theorem lc_luck {p : Program} {l : Launch} {e : Env} {s : State} {m : MethodId} {args : Array Value} {below : List Frame} {meth : Method} {c : Code} {H : Heap} {locs : List Loc} {Q : State → Prop} {G : fw_G} {M M0 : fw_M} {ls : Array Slot} {a b : Nat} {xs : Nat → Int32} {z : Nat → Int} {w9 : Nat → Int64} (hlt : l.stackTraces = false) (E : CallFix p m c code 9 s args fwT RL) (hK : fw_K G s) (hH0 : fw_H G s M0 s.heap []) (hH : fw_H G s M H locs) (hB : bn0 G M a) (hD : md0 G M (a + 378)) (ho : M (a + 385) = some (fJ G 1 w9)) (hsz : a + 386 ≤ H.size) (hl : lv_has ls 9 [(4, .int (iI 0)), (3, .ref (a + 385)), (2, .ref (a + 378)), (1, .ref a), (0, .ref b)]) (hX : va_X b 5 xs s s.heap) (hbl : b < s.heap.size) (hbA : ¬ (fun q => G.2.2.1 ≤ q) b) (hzs : ∀ k, xs k = iI (z k)) (hzb : ∀ k, -2147483648 ≤ z k ∧ z k < 2147483648) (kend : ∀ (M1 : fw_M) (H1 : Heap) (locs1 : List Loc) (ls1 : Array Slot), fw_H G s M1 H1 locs1 → lv_has ls1 9 [(4, .int (iI 0)), (0, .ref b)] → W p l e room_1 s m args below meth c H1 locs1 1000 20000 Q (F0 m 2392 ls1 [])) : W p l e room_1 s m args below meth c H locs 400 13000 Q (F0 m 2148 ls []) := by
  refine lv_aload_n E.1 E.2.1 dL_law_2148 rfl (lv_at hl 3 rfl) ?_
  refine fw_cV (As := []) (rest := []) E hK hH hl hB.c.2.1 fc_X9 fL_X9_luck ql_RL_238 qi_yX9_luck qv_yX9_luck (x_luck l G _ _ a hB) rfl rfl (Nat.le_of_ble_eq_true rfl) ⟨Nat.le_of_ble_eq_true rfl, Nat.le_of_ble_eq_true rfl⟩ ⟨Nat.le_of_ble_eq_true rfl, Nat.le_of_ble_eq_true rfl⟩ dL_law_2149 (fw_ki fun r M1 H1 locs1 hp hH hz1 => ?_)
  obtain ⟨rfl, hfr, hz2⟩ := hp
  replace hD := hD.fr (fun q h1 h2 => hfr q (by omega))
  clear hfr
  replace hsz : a + 386 ≤ H1.size := by omega
  clear hz1 hz2
  refine lv_aload_n E.1 E.2.1 dL_law_2152 rfl (lv_at hl 2 rfl) ?_
  refine fw_cV (As := []) (rest := [.int (iI 0)]) E hK hH hl hD.2.1 fc_X10 fL_X10_luck ql_RL_241 qi_yX10_luck qv_yX10_luck (y_luck l G _ _ (a + 378) hD  ) rfl rfl (Nat.le_of_ble_eq_true rfl) ⟨Nat.le_of_ble_eq_true rfl, Nat.le_of_ble_eq_true rfl⟩ ⟨Nat.le_of_ble_eq_true rfl, Nat.le_of_ble_eq_true rfl⟩ dL_law_2153 (fw_ki fun r M1 H1 locs1 hp hH hz1 => ?_)
  obtain ⟨rfl, hfr⟩ := hp
  clear hfr hz1
  refine fw_icmp_eq (tgt := 2392) E dL_law_2156 (by decide) (by omega) (by omega) (by omega) (by omega) (fun c1 => ?_) (fun c1 => ?_)
  · exact W.widen (k := 1000) (n := 20000) (by omega) (by omega) (kend _ _ _ _ hH (lv_sub hl [0, 4] rfl))
  · exact absurd c1 (by omega)
theorem lc_waiting {p : Program} {l : Launch} {e : Env} {s : State} {m : MethodId} {args : Array Value} {below : List Frame} {meth : Method} {c : Code} {H : Heap} {locs : List Loc} {Q : State → Prop} {G : fw_G} {M M0 : fw_M} {ls : Array Slot} {a b : Nat} {xs : Nat → Int32} {z : Nat → Int} {w9 : Nat → Int64} (hlt : l.stackTraces = false) (E : CallFix p m c code 9 s args fwT RL) (hK : fw_K G s) (hH0 : fw_H G s M0 s.heap []) (hH : fw_H G s M H locs) (hB : bn0 G M a) (hD : md0 G M (a + 378)) (ho : M (a + 385) = some (fJ G 1 w9)) (hsz : a + 386 ≤ H.size) (hl : lv_has ls 9 [(4, .int (iI 0)), (3, .ref (a + 385)), (2, .ref (a + 378)), (1, .ref a), (0, .ref b)]) (hX : va_X b 5 xs s s.heap) (hbl : b < s.heap.size) (hbA : ¬ (fun q => G.2.2.1 ≤ q) b) (hzs : ∀ k, xs k = iI (z k)) (hzb : ∀ k, -2147483648 ≤ z k ∧ z k < 2147483648) (kend : ∀ (M1 : fw_M) (H1 : Heap) (locs1 : List Loc) (ls1 : Array Slot), fw_H G s M1 H1 locs1 → lv_has ls1 9 [(4, .int (iI 0)), (0, .ref b)] → W p l e room_1 s m args below meth c H1 locs1 1000 20000 Q (F0 m 2392 ls1 [])) : W p l e room_1 s m args below meth c H locs 400 13000 Q (F0 m 2161 ls []) := by
  refine lv_aload_n E.1 E.2.1 dL_law_2161 rfl (lv_at hl 3 rfl) ?_
  refine fw_cV (As := []) (rest := []) E hK hH hl hB.c.2.1 fc_X9 fL_X9_waiting ql_RL_242 qi_yX9_waiting qv_yX9_waiting (x_waiting l G _ _ a hB) rfl rfl (Nat.le_of_ble_eq_true rfl) ⟨Nat.le_of_ble_eq_true rfl, Nat.le_of_ble_eq_true rfl⟩ ⟨Nat.le_of_ble_eq_true rfl, Nat.le_of_ble_eq_true rfl⟩ dL_law_2162 (fw_ki fun r M1 H1 locs1 hp hH hz1 => ?_)
  obtain ⟨rfl, hfr, hz2⟩ := hp
  replace hD := hD.fr (fun q h1 h2 => hfr q (by omega))
  clear hfr
  replace hsz : a + 386 ≤ H1.size := by omega
  clear hz1 hz2
  refine lv_aload_n E.1 E.2.1 dL_law_2165 rfl (lv_at hl 2 rfl) ?_
  refine fw_cV (As := []) (rest := [.int (iI 0)]) E hK hH hl hD.2.1 fc_X10 fL_X10_waiting ql_RL_245 qi_yX10_waiting qv_yX10_waiting (y_waiting l G _ _ (a + 378) hD  ) rfl rfl (Nat.le_of_ble_eq_true rfl) ⟨Nat.le_of_ble_eq_true rfl, Nat.le_of_ble_eq_true rfl⟩ ⟨Nat.le_of_ble_eq_true rfl, Nat.le_of_ble_eq_true rfl⟩ dL_law_2166 (fw_ki fun r M1 H1 locs1 hp hH hz1 => ?_)
  obtain ⟨rfl, hfr⟩ := hp
  clear hfr hz1
  refine fw_icmp_eq (tgt := 2392) E dL_law_2169 (by decide) (by omega) (by omega) (by omega) (by omega) (fun c1 => ?_) (fun c1 => ?_)
  · exact W.widen (k := 1000) (n := 20000) (by omega) (by omega) (kend _ _ _ _ hH (lv_sub hl [0, 4] rfl))
  · exact absurd c1 (by omega)
theorem lc_errorCrossed {p : Program} {l : Launch} {e : Env} {s : State} {m : MethodId} {args : Array Value} {below : List Frame} {meth : Method} {c : Code} {H : Heap} {locs : List Loc} {Q : State → Prop} {G : fw_G} {M M0 : fw_M} {ls : Array Slot} {a b : Nat} {xs : Nat → Int32} {z : Nat → Int} {w9 : Nat → Int64} (hlt : l.stackTraces = false) (E : CallFix p m c code 9 s args fwT RL) (hK : fw_K G s) (hH0 : fw_H G s M0 s.heap []) (hH : fw_H G s M H locs) (hB : bn0 G M a) (hD : md0 G M (a + 378)) (ho : M (a + 385) = some (fJ G 1 w9)) (hsz : a + 386 ≤ H.size) (hl : lv_has ls 9 [(4, .int (iI 0)), (3, .ref (a + 385)), (2, .ref (a + 378)), (1, .ref a), (0, .ref b)]) (hX : va_X b 5 xs s s.heap) (hbl : b < s.heap.size) (hbA : ¬ (fun q => G.2.2.1 ≤ q) b) (hzs : ∀ k, xs k = iI (z k)) (hzb : ∀ k, -2147483648 ≤ z k ∧ z k < 2147483648) (kend : ∀ (M1 : fw_M) (H1 : Heap) (locs1 : List Loc) (ls1 : Array Slot), fw_H G s M1 H1 locs1 → lv_has ls1 9 [(4, .int (iI 0)), (0, .ref b)] → W p l e room_1 s m args below meth c H1 locs1 1000 20000 Q (F0 m 2392 ls1 [])) : W p l e room_1 s m args below meth c H locs 400 13000 Q (F0 m 2174 ls []) := by
  have hzb1 := hzb 1
  have hzb2 := hzb 2
  have hzb3 := hzb 3
  have hzb4 := hzb 4
  refine lv_aload_n E.1 E.2.1 dL_law_2174 rfl (lv_at hl 3 rfl) ?_
  refine lv_aload_n E.1 E.2.1 dL_law_2175 rfl (lv_at hl 4 rfl) ?_
  refine lv_iload E.1 E.2.1 dL_law_2176 (lv_at hl 0 rfl) ?_
  refine lv_iconst (v := iI 1) E.1 E.2.1 dL_law_2178 (by decide) ?_
  refine fw_iadd E dL_law_2179 ?_
  refine fw_cv (y := iI (1)) (by decide) ?_
  refine va_sld (A := fun q => G.2.2.1 ≤ q) E.1 E.2.1 hX hbl hbA (fw_H.va hH0 hH) (iI_in (by omega) (by omega) (by omega)) dL_law_2180 ?_
  refine fw_cv (y := iI (z 1)) (by rw [iI_ix (by omega) (by omega)]; exact hzs 1) ?_
  refine lv_aload_n E.1 E.2.1 dL_law_2181 rfl (lv_at hl 4 rfl) ?_
  refine lv_iload E.1 E.2.1 dL_law_2182 (lv_at hl 0 rfl) ?_
  refine lv_iconst (v := iI 2) E.1 E.2.1 dL_law_2184 (by decide) ?_
  refine fw_iadd E dL_law_2185 ?_
  refine fw_cv (y := iI (2)) (by decide) ?_
  refine va_sld (A := fun q => G.2.2.1 ≤ q) E.1 E.2.1 hX hbl hbA (fw_H.va hH0 hH) (iI_in (by omega) (by omega) (by omega)) dL_law_2186 ?_
  refine fw_cv (y := iI (z 2)) (by rw [iI_ix (by omega) (by omega)]; exact hzs 2) ?_
  refine lv_aload_n E.1 E.2.1 dL_law_2187 rfl (lv_at hl 4 rfl) ?_
  refine lv_iload E.1 E.2.1 dL_law_2188 (lv_at hl 0 rfl) ?_
  refine lv_iconst (v := iI 3) E.1 E.2.1 dL_law_2190 (by decide) ?_
  refine fw_iadd E dL_law_2191 ?_
  refine fw_cv (y := iI (3)) (by decide) ?_
  refine va_sld (A := fun q => G.2.2.1 ≤ q) E.1 E.2.1 hX hbl hbA (fw_H.va hH0 hH) (iI_in (by omega) (by omega) (by omega)) dL_law_2192 ?_
  refine fw_cv (y := iI (z 3)) (by rw [iI_ix (by omega) (by omega)]; exact hzs 3) ?_
  refine lv_aload_n E.1 E.2.1 dL_law_2193 rfl (lv_at hl 4 rfl) ?_
  refine lv_iload E.1 E.2.1 dL_law_2194 (lv_at hl 0 rfl) ?_
  refine lv_iconst (v := iI 4) E.1 E.2.1 dL_law_2196 (by decide) ?_
  refine fw_iadd E dL_law_2197 ?_
  refine fw_cv (y := iI (4)) (by decide) ?_
  refine va_sld (A := fun q => G.2.2.1 ≤ q) E.1 E.2.1 hX hbl hbA (fw_H.va hH0 hH) (iI_in (by omega) (by omega) (by omega)) dL_law_2198 ?_
  refine fw_cv (y := iI (z 4)) (by rw [iI_ix (by omega) (by omega)]; exact hzs 4) ?_
  refine lv_aload_n E.1 E.2.1 dL_law_2199 rfl (lv_at hl 1 rfl) ?_
  refine fw_cSW (As := [.ref a, .int (iI (z 1)), .int (iI (z 2)), .int (iI (z 3)), .int (iI (z 4)), .ref (a + 385)]) (rest := []) E hK hH hl fW_errorCrossed ql_RL_246 qs_yL_errorCrossed (w_errorCrossed l hlt G _ _ a hB w9 ho (z 1) (z 2) (z 3) (z 4) (by omega) (by omega) (by omega) (by omega)) rfl rfl (Nat.le_of_ble_eq_true rfl) ⟨Nat.le_of_ble_eq_true rfl, Nat.le_of_ble_eq_true rfl⟩ ⟨Nat.le_of_ble_eq_true rfl, Nat.le_of_ble_eq_true rfl⟩ dL_law_2200 (fw_ki fun r M1 H1 locs1 hp hH hz1 => ?_)
  obtain ⟨rfl, hw, hfr⟩ := hp
  replace hD := hD.fr (fun q h1 h2 => hfr q (by omega) (by omega))
  clear hfr
  refine lv_istore (lv' := [(5, .int (iI 1)), (4, .int (iI 0)), (3, .ref (a + 385)), (2, .ref (a + 378)), (1, .ref a), (0, .ref b)]) E.1 E.2.1 dL_law_2203 hl (by decide) rfl (fun ls hl => ?_)
  refine lv_aload_n E.1 E.2.1 dL_law_2205 rfl (lv_at hl 3 rfl) ?_
  refine lv_aload_n E.1 E.2.1 dL_law_2206 rfl (lv_at hl 5 rfl) ?_
  refine lv_iload E.1 E.2.1 dL_law_2207 (lv_at hl 1 rfl) ?_
  refine lv_iconst (v := iI 1) E.1 E.2.1 dL_law_2209 (by decide) ?_
  refine fw_iadd E dL_law_2210 ?_
  refine fw_cv (y := iI (1)) (by decide) ?_
  refine va_sld (A := fun q => G.2.2.1 ≤ q) E.1 E.2.1 hX hbl hbA (fw_H.va hH0 hH) (iI_in (by omega) (by omega) (by omega)) dL_law_2211 ?_
  refine fw_cv (y := iI (z 1)) (by rw [iI_ix (by omega) (by omega)]; exact hzs 1) ?_
  refine lv_aload_n E.1 E.2.1 dL_law_2212 rfl (lv_at hl 5 rfl) ?_
  refine lv_iload E.1 E.2.1 dL_law_2213 (lv_at hl 1 rfl) ?_
  refine lv_iconst (v := iI 2) E.1 E.2.1 dL_law_2215 (by decide) ?_
  refine fw_iadd E dL_law_2216 ?_
  refine fw_cv (y := iI (2)) (by decide) ?_
  refine va_sld (A := fun q => G.2.2.1 ≤ q) E.1 E.2.1 hX hbl hbA (fw_H.va hH0 hH) (iI_in (by omega) (by omega) (by omega)) dL_law_2217 ?_
  refine fw_cv (y := iI (z 2)) (by rw [iI_ix (by omega) (by omega)]; exact hzs 2) ?_
  refine lv_aload_n E.1 E.2.1 dL_law_2218 rfl (lv_at hl 5 rfl) ?_
  refine lv_iload E.1 E.2.1 dL_law_2219 (lv_at hl 1 rfl) ?_
  refine lv_iconst (v := iI 3) E.1 E.2.1 dL_law_2221 (by decide) ?_
  refine fw_iadd E dL_law_2222 ?_
  refine fw_cv (y := iI (3)) (by decide) ?_
  refine va_sld (A := fun q => G.2.2.1 ≤ q) E.1 E.2.1 hX hbl hbA (fw_H.va hH0 hH) (iI_in (by omega) (by omega) (by omega)) dL_law_2223 ?_
  refine fw_cv (y := iI (z 3)) (by rw [iI_ix (by omega) (by omega)]; exact hzs 3) ?_
  refine lv_aload_n E.1 E.2.1 dL_law_2224 rfl (lv_at hl 5 rfl) ?_
  refine lv_iload E.1 E.2.1 dL_law_2225 (lv_at hl 1 rfl) ?_
  refine lv_iconst (v := iI 4) E.1 E.2.1 dL_law_2227 (by decide) ?_
  refine fw_iadd E dL_law_2228 ?_
  refine fw_cv (y := iI (4)) (by decide) ?_
  refine va_sld (A := fun q => G.2.2.1 ≤ q) E.1 E.2.1 hX hbl hbA (fw_H.va hH0 hH) (iI_in (by omega) (by omega) (by omega)) dL_law_2229 ?_
  refine fw_cv (y := iI (z 4)) (by rw [iI_ix (by omega) (by omega)]; exact hzs 4) ?_
  refine fw_cV (As := [.int (iI (z 1)), .int (iI (z 2)), .int (iI (z 3)), .int (iI (z 4))]) (rest := []) E hK hH hl hD.2.1 fc_X10 fL_X10_errorCrossed ql_RL_248 qi_yX10_errorCrossed qv_yX10_errorCrossed (y_errorCrossed l G _ _ (a + 378) hD (z 1) (z 2) (z 3) (z 4) (by omega) (by omega) (by omega) (by omega)) rfl rfl (Nat.le_of_ble_eq_true rfl) ⟨Nat.le_of_ble_eq_true rfl, Nat.le_of_ble_eq_true rfl⟩ ⟨Nat.le_of_ble_eq_true rfl, Nat.le_of_ble_eq_true rfl⟩ dL_law_2230 (fw_ki fun rb M1 H1 locs1 hp hH hz1 => ?_)
  obtain ⟨⟨fs, hobj, hth⟩, hv, hfr⟩ := hp
  clear hfr hz1
  refine lv_istore (lv' := [(6, .int rb), (5, .int (iI 1)), (4, .int (iI 0)), (3, .ref (a + 385)), (2, .ref (a + 378)), (1, .ref a), (0, .ref b)]) E.1 E.2.1 dL_law_2233 hl (by decide) rfl (fun ls hl => ?_)
  refine lv_aload_n E.1 E.2.1 dL_law_2235 rfl (lv_at hl 4 rfl) ?_
  refine fw_cV (As := []) (rest := []) E hK hH hl hobj fc_X10 fL_X10_thrown ql_RL_120 qi_yX10_thrown qv_yX10_thrown (m_thrown l G _ _ (a + 378) 1 ⟨_, hobj, hth⟩) rfl rfl (Nat.le_of_ble_eq_true rfl) ⟨Nat.le_of_ble_eq_true rfl, Nat.le_of_ble_eq_true rfl⟩ ⟨Nat.le_of_ble_eq_true rfl, Nat.le_of_ble_eq_true rfl⟩ dL_law_2236 (fw_ki fun r M1 H1 locs1 hp hH hz1 => ?_)
  obtain ⟨rfl, hM9, hz2⟩ := hp
  rw [hM9] at hH
  clear hz1 hz2
  refine lv_iload E.1 E.2.1 dL_law_2239 (lv_at hl 1 rfl) ?_
  refine fw_icmp_eq (tgt := 2246) E dL_law_2241 (by decide) (by omega) (by omega) (by omega) (by omega) (fun c1 => ?_) (fun c1 => ?_)
  · refine lv_iload E.1 E.2.1 dL_law_2246 (lv_at hl 1 rfl) ?_
    refine fw_if_ne (tgt := 2263) E dL_law_2248 (by decide) (by omega) (by omega) (fun c2 => ?_) (fun c2 => ?_)
    · refine lv_goto (tgt := 2392) E.1 E.2.1 dL_law_2263 (by decide) ?_
      exact W.widen (k := 1000) (n := 20000) (by omega) (by omega) (kend _ _ _ _ hH (lv_sub hl [2, 6] rfl))
    · exact absurd c2 (by omega)
  · exact absurd c1 (by omega)
theorem lc_bestHoist {p : Program} {l : Launch} {e : Env} {s : State} {m : MethodId} {args : Array Value} {below : List Frame} {meth : Method} {c : Code} {H : Heap} {locs : List Loc} {Q : State → Prop} {G : fw_G} {M M0 : fw_M} {ls : Array Slot} {a b : Nat} {xs : Nat → Int32} {z : Nat → Int} {w9 : Nat → Int64} (hlt : l.stackTraces = false) (E : CallFix p m c code 9 s args fwT RL) (hK : fw_K G s) (hH0 : fw_H G s M0 s.heap []) (hH : fw_H G s M H locs) (hB : bn0 G M a) (hD : md0 G M (a + 378)) (ho : M (a + 385) = some (fJ G 1 w9)) (hsz : a + 386 ≤ H.size) (hl : lv_has ls 9 [(4, .int (iI 0)), (3, .ref (a + 385)), (2, .ref (a + 378)), (1, .ref a), (0, .ref b)]) (hX : va_X b 5 xs s s.heap) (hbl : b < s.heap.size) (hbA : ¬ (fun q => G.2.2.1 ≤ q) b) (hzs : ∀ k, xs k = iI (z k)) (hzb : ∀ k, -2147483648 ≤ z k ∧ z k < 2147483648) (kend : ∀ (M1 : fw_M) (H1 : Heap) (locs1 : List Loc) (ls1 : Array Slot), fw_H G s M1 H1 locs1 → lv_has ls1 9 [(4, .int (iI 0)), (0, .ref b)] → W p l e room_1 s m args below meth c H1 locs1 1000 20000 Q (F0 m 2392 ls1 [])) : W p l e room_1 s m args below meth c H locs 400 13000 Q (F0 m 2266 ls []) := by
  have hzb1 := hzb 1
  refine lv_aload_n E.1 E.2.1 dL_law_2266 rfl (lv_at hl 3 rfl) ?_
  refine lv_aload_n E.1 E.2.1 dL_law_2267 rfl (lv_at hl 4 rfl) ?_
  refine lv_iload E.1 E.2.1 dL_law_2268 (lv_at hl 0 rfl) ?_
  refine lv_iconst (v := iI 1) E.1 E.2.1 dL_law_2270 (by decide) ?_
  refine fw_iadd E dL_law_2271 ?_
  refine fw_cv (y := iI (1)) (by decide) ?_
  refine va_sld (A := fun q => G.2.2.1 ≤ q) E.1 E.2.1 hX hbl hbA (fw_H.va hH0 hH) (iI_in (by omega) (by omega) (by omega)) dL_law_2272 ?_
  refine fw_cv (y := iI (z 1)) (by rw [iI_ix (by omega) (by omega)]; exact hzs 1) ?_
  refine lv_aload_n E.1 E.2.1 dL_law_2273 rfl (lv_at hl 1 rfl) ?_
  refine fw_cSW (As := [.ref a, .int (iI (z 1)), .ref (a + 385)]) (rest := []) E hK hH hl fW_bestHoist ql_RL_249 qs_yL_bestHoist (w_bestHoist l hlt G _ _ a hB w9 ho (z 1) (by omega)) rfl rfl (Nat.le_of_ble_eq_true rfl) ⟨Nat.le_of_ble_eq_true rfl, Nat.le_of_ble_eq_true rfl⟩ ⟨Nat.le_of_ble_eq_true rfl, Nat.le_of_ble_eq_true rfl⟩ dL_law_2274 (fw_ki fun r M1 H1 locs1 hp hH hz1 => ?_)
  obtain ⟨rfl, hw, hfr⟩ := hp
  replace hD := hD.fr (fun q h1 h2 => hfr q (by omega) (by omega))
  clear hfr
  refine lv_istore (lv' := [(5, .int (iI 1)), (4, .int (iI 0)), (3, .ref (a + 385)), (2, .ref (a + 378)), (1, .ref a), (0, .ref b)]) E.1 E.2.1 dL_law_2277 hl (by decide) rfl (fun ls hl => ?_)
  refine lv_aload_n E.1 E.2.1 dL_law_2279 rfl (lv_at hl 3 rfl) ?_
  refine lv_aload_n E.1 E.2.1 dL_law_2280 rfl (lv_at hl 5 rfl) ?_
  refine lv_iload E.1 E.2.1 dL_law_2281 (lv_at hl 1 rfl) ?_
  refine lv_iconst (v := iI 1) E.1 E.2.1 dL_law_2283 (by decide) ?_
  refine fw_iadd E dL_law_2284 ?_
  refine fw_cv (y := iI (1)) (by decide) ?_
  refine va_sld (A := fun q => G.2.2.1 ≤ q) E.1 E.2.1 hX hbl hbA (fw_H.va hH0 hH) (iI_in (by omega) (by omega) (by omega)) dL_law_2285 ?_
  refine fw_cv (y := iI (z 1)) (by rw [iI_ix (by omega) (by omega)]; exact hzs 1) ?_
  refine fw_cV (As := [.int (iI (z 1))]) (rest := []) E hK hH hl hD.2.1 fc_X10 fL_X10_bestHoist ql_RL_251 qi_yX10_bestHoist qv_yX10_bestHoist (y_bestHoist l G _ _ (a + 378) hD (z 1) (by omega)) rfl rfl (Nat.le_of_ble_eq_true rfl) ⟨Nat.le_of_ble_eq_true rfl, Nat.le_of_ble_eq_true rfl⟩ ⟨Nat.le_of_ble_eq_true rfl, Nat.le_of_ble_eq_true rfl⟩ dL_law_2286 (fw_ki fun rb M1 H1 locs1 hp hH hz1 => ?_)
  obtain ⟨⟨fs, hobj, hth⟩, hv, hfr⟩ := hp
  clear hfr hz1
  refine lv_istore (lv' := [(6, .int rb), (5, .int (iI 1)), (4, .int (iI 0)), (3, .ref (a + 385)), (2, .ref (a + 378)), (1, .ref a), (0, .ref b)]) E.1 E.2.1 dL_law_2289 hl (by decide) rfl (fun ls hl => ?_)
  refine lv_aload_n E.1 E.2.1 dL_law_2291 rfl (lv_at hl 4 rfl) ?_
  refine fw_cV (As := []) (rest := []) E hK hH hl hobj fc_X10 fL_X10_thrown ql_RL_120 qi_yX10_thrown qv_yX10_thrown (m_thrown l G _ _ (a + 378) 1 ⟨_, hobj, hth⟩) rfl rfl (Nat.le_of_ble_eq_true rfl) ⟨Nat.le_of_ble_eq_true rfl, Nat.le_of_ble_eq_true rfl⟩ ⟨Nat.le_of_ble_eq_true rfl, Nat.le_of_ble_eq_true rfl⟩ dL_law_2292 (fw_ki fun r M1 H1 locs1 hp hH hz1 => ?_)
  obtain ⟨rfl, hM9, hz2⟩ := hp
  rw [hM9] at hH
  clear hz1 hz2
  refine lv_iload E.1 E.2.1 dL_law_2295 (lv_at hl 1 rfl) ?_
  refine fw_icmp_eq (tgt := 2302) E dL_law_2297 (by decide) (by omega) (by omega) (by omega) (by omega) (fun c1 => ?_) (fun c1 => ?_)
  · refine lv_iload E.1 E.2.1 dL_law_2302 (lv_at hl 1 rfl) ?_
    refine fw_if_ne (tgt := 2319) E dL_law_2304 (by decide) (by omega) (by omega) (fun c2 => ?_) (fun c2 => ?_)
    · refine lv_goto (tgt := 2392) E.1 E.2.1 dL_law_2319 (by decide) ?_
      exact W.widen (k := 1000) (n := 20000) (by omega) (by omega) (kend _ _ _ _ hH (lv_sub hl [2, 6] rfl))
    · exact absurd c2 (by omega)
  · exact absurd c1 (by omega)
theorem lc_errorBred {p : Program} {l : Launch} {e : Env} {s : State} {m : MethodId} {args : Array Value} {below : List Frame} {meth : Method} {c : Code} {H : Heap} {locs : List Loc} {Q : State → Prop} {G : fw_G} {M M0 : fw_M} {ls : Array Slot} {a b : Nat} {xs : Nat → Int32} {z : Nat → Int} {w9 : Nat → Int64} (hlt : l.stackTraces = false) (E : CallFix p m c code 9 s args fwT RL) (hK : fw_K G s) (hH0 : fw_H G s M0 s.heap []) (hH : fw_H G s M H locs) (hB : bn0 G M a) (hD : md0 G M (a + 378)) (ho : M (a + 385) = some (fJ G 1 w9)) (hsz : a + 386 ≤ H.size) (hl : lv_has ls 9 [(4, .int (iI 0)), (3, .ref (a + 385)), (2, .ref (a + 378)), (1, .ref a), (0, .ref b)]) (hX : va_X b 5 xs s s.heap) (hbl : b < s.heap.size) (hbA : ¬ (fun q => G.2.2.1 ≤ q) b) (hzs : ∀ k, xs k = iI (z k)) (hzb : ∀ k, -2147483648 ≤ z k ∧ z k < 2147483648) (kend : ∀ (M1 : fw_M) (H1 : Heap) (locs1 : List Loc) (ls1 : Array Slot), fw_H G s M1 H1 locs1 → lv_has ls1 9 [(4, .int (iI 0)), (0, .ref b)] → W p l e room_1 s m args below meth c H1 locs1 1000 20000 Q (F0 m 2392 ls1 [])) : W p l e room_1 s m args below meth c H locs 400 13000 Q (F0 m 2322 ls []) := by
  have hzb1 := hzb 1
  refine lv_aload_n E.1 E.2.1 dL_law_2322 rfl (lv_at hl 3 rfl) ?_
  refine lv_aload_n E.1 E.2.1 dL_law_2323 rfl (lv_at hl 4 rfl) ?_
  refine lv_iload E.1 E.2.1 dL_law_2324 (lv_at hl 0 rfl) ?_
  refine lv_iconst (v := iI 1) E.1 E.2.1 dL_law_2326 (by decide) ?_
  refine fw_iadd E dL_law_2327 ?_
  refine fw_cv (y := iI (1)) (by decide) ?_
  refine va_sld (A := fun q => G.2.2.1 ≤ q) E.1 E.2.1 hX hbl hbA (fw_H.va hH0 hH) (iI_in (by omega) (by omega) (by omega)) dL_law_2328 ?_
  refine fw_cv (y := iI (z 1)) (by rw [iI_ix (by omega) (by omega)]; exact hzs 1) ?_
  refine lv_aload_n E.1 E.2.1 dL_law_2329 rfl (lv_at hl 1 rfl) ?_
  refine fw_cSW (As := [.ref a, .int (iI (z 1)), .ref (a + 385)]) (rest := []) E hK hH hl fW_errorBred ql_RL_252 qs_yL_errorBred (w_errorBred l hlt G _ _ a hB w9 ho (z 1) (by omega)) rfl rfl (Nat.le_of_ble_eq_true rfl) ⟨Nat.le_of_ble_eq_true rfl, Nat.le_of_ble_eq_true rfl⟩ ⟨Nat.le_of_ble_eq_true rfl, Nat.le_of_ble_eq_true rfl⟩ dL_law_2330 (fw_ki fun r M1 H1 locs1 hp hH hz1 => ?_)
  obtain ⟨rfl, hw, hfr⟩ := hp
  replace hD := hD.fr (fun q h1 h2 => hfr q (by omega) (by omega))
  obtain ⟨kv, hkv⟩ : ∃ y, y = kS_breed (z 1) := ⟨_, rfl⟩
  have hkb : 0 ≤ kv ∧ kv ≤ 2 := by rw [hkv]; unfold kS_breed; (repeat' split) <;> omega
  rw [← hkv] at hw
  refine fw_cv (y := iI kv) (by rw [hkv]) ?_
  clear hfr
  refine lv_istore (lv' := [(5, .int (iI kv)), (4, .int (iI 0)), (3, .ref (a + 385)), (2, .ref (a + 378)), (1, .ref a), (0, .ref b)]) E.1 E.2.1 dL_law_2333 hl (by decide) rfl (fun ls hl => ?_)
  refine lv_aload_n E.1 E.2.1 dL_law_2335 rfl (lv_at hl 3 rfl) ?_
  refine lv_aload_n E.1 E.2.1 dL_law_2336 rfl (lv_at hl 5 rfl) ?_
  refine lv_iload E.1 E.2.1 dL_law_2337 (lv_at hl 1 rfl) ?_
  refine lv_iconst (v := iI 1) E.1 E.2.1 dL_law_2339 (by decide) ?_
  refine fw_iadd E dL_law_2340 ?_
  refine fw_cv (y := iI (1)) (by decide) ?_
  refine va_sld (A := fun q => G.2.2.1 ≤ q) E.1 E.2.1 hX hbl hbA (fw_H.va hH0 hH) (iI_in (by omega) (by omega) (by omega)) dL_law_2341 ?_
  refine fw_cv (y := iI (z 1)) (by rw [iI_ix (by omega) (by omega)]; exact hzs 1) ?_
  refine fw_cV (As := [.int (iI (z 1))]) (rest := []) E hK hH hl hD.2.1 fc_X10 fL_X10_errorBred ql_RL_254 qi_yX10_errorBred qv_yX10_errorBred (y_errorBred l G _ _ (a + 378) hD (z 1) (by omega)) rfl rfl (Nat.le_of_ble_eq_true rfl) ⟨Nat.le_of_ble_eq_true rfl, Nat.le_of_ble_eq_true rfl⟩ ⟨Nat.le_of_ble_eq_true rfl, Nat.le_of_ble_eq_true rfl⟩ dL_law_2342 (fw_ki fun rb M1 H1 locs1 hp hH hz1 => ?_)
  obtain ⟨⟨fs, hobj, hth⟩, hv, hfr⟩ := hp
  rw [← hkv] at hth hv
  replace hw : kv = 0 → ∃ g, M1 (a + 385) = some (fJ G 1 g) ∧ g 0 = (iI (0)).toInt64 := fun h => by
    obtain ⟨g, h1, h2⟩ := hw h
    exact ⟨g, (hfr _ (by omega) (by omega)).trans h1, h2⟩
  clear hfr hz1
  refine lv_istore (lv' := [(6, .int rb), (5, .int (iI kv)), (4, .int (iI 0)), (3, .ref (a + 385)), (2, .ref (a + 378)), (1, .ref a), (0, .ref b)]) E.1 E.2.1 dL_law_2345 hl (by decide) rfl (fun ls hl => ?_)
  refine lv_aload_n E.1 E.2.1 dL_law_2347 rfl (lv_at hl 4 rfl) ?_
  refine fw_cV (As := []) (rest := []) E hK hH hl hobj fc_X10 fL_X10_thrown ql_RL_120 qi_yX10_thrown qv_yX10_thrown (m_thrown l G _ _ (a + 378) kv ⟨_, hobj, hth⟩) rfl rfl (Nat.le_of_ble_eq_true rfl) ⟨Nat.le_of_ble_eq_true rfl, Nat.le_of_ble_eq_true rfl⟩ ⟨Nat.le_of_ble_eq_true rfl, Nat.le_of_ble_eq_true rfl⟩ dL_law_2348 (fw_ki fun r M1 H1 locs1 hp hH hz1 => ?_)
  obtain ⟨rfl, hM9, hz2⟩ := hp
  rw [hM9] at hH
  clear hz1 hz2
  refine lv_iload E.1 E.2.1 dL_law_2351 (lv_at hl 1 rfl) ?_
  refine fw_icmp_eq (tgt := 2358) E dL_law_2353 (by decide) (by omega) (by omega) (by omega) (by omega) (fun c1 => ?_) (fun c1 => ?_)
  · refine lv_iload E.1 E.2.1 dL_law_2358 (lv_at hl 1 rfl) ?_
    refine fw_if_ne (tgt := 2375) E dL_law_2360 (by decide) (by omega) (by omega) (fun c2 => ?_) (fun c2 => ?_)
    · refine lv_goto (tgt := 2392) E.1 E.2.1 dL_law_2375 (by decide) ?_
      exact W.widen (k := 1000) (n := 20000) (by omega) (by omega) (kend _ _ _ _ hH (lv_sub hl [2, 6] rfl))
    · refine lv_aload_n E.1 E.2.1 dL_law_2363 rfl (lv_at hl 3 rfl) ?_
      refine lv_iconst (v := iI 0) E.1 E.2.1 dL_law_2364 (by decide) ?_
      obtain ⟨g9, ho, hg9⟩ := hw c2
      obtain rfl := hv c2
      refine fw_lald E hK hH ho (iI_in (by omega) (by omega) (by omega)) dL_law_2365 ?_
      refine fw_cw (v := .long (iI (0)).toInt64) (congrArg Value.long hg9) ?_
      refine lv_iload E.1 E.2.1 dL_law_2366 (lv_at hl 0 rfl) ?_
      refine lv_i2l (v := (iI 0).toInt64) E.1 E.2.1 dL_law_2368 rfl ?_
      refine W.lcmp E.1 E.2.1 dL_law_2369 ?_
      refine fw_cv (y := iI 0) (lg_cmp_self _) ?_
      refine fw_if_eq (tgt := 2375) E dL_law_2370 (by decide) (by omega) (by omega) (fun c3 => ?_) (fun c3 => ?_)
      · refine lv_goto (tgt := 2392) E.1 E.2.1 dL_law_2375 (by decide) ?_
        exact W.widen (k := 1000) (n := 20000) (by omega) (by omega) (kend _ _ _ _ hH (lv_sub hl [2, 6] rfl))
      · exact absurd c3 (by omega)
  · exact absurd rfl c1
theorem lc_digest {p : Program} {l : Launch} {e : Env} {s : State} {m : MethodId} {args : Array Value} {below : List Frame} {meth : Method} {c : Code} {H : Heap} {locs : List Loc} {Q : State → Prop} {G : fw_G} {M M0 : fw_M} {ls : Array Slot} {a b : Nat} {xs : Nat → Int32} {z : Nat → Int} {w9 : Nat → Int64} (hlt : l.stackTraces = false) (E : CallFix p m c code 9 s args fwT RL) (hK : fw_K G s) (hH0 : fw_H G s M0 s.heap []) (hH : fw_H G s M H locs) (hB : bn0 G M a) (hD : md0 G M (a + 378)) (ho : M (a + 385) = some (fJ G 1 w9)) (hsz : a + 386 ≤ H.size) (hl : lv_has ls 9 [(4, .int (iI 0)), (3, .ref (a + 385)), (2, .ref (a + 378)), (1, .ref a), (0, .ref b)]) (hX : va_X b 5 xs s s.heap) (hbl : b < s.heap.size) (hbA : ¬ (fun q => G.2.2.1 ≤ q) b) (hzs : ∀ k, xs k = iI (z k)) (hzb : ∀ k, -2147483648 ≤ z k ∧ z k < 2147483648) (kend : ∀ (M1 : fw_M) (H1 : Heap) (locs1 : List Loc) (ls1 : Array Slot), fw_H G s M1 H1 locs1 → lv_has ls1 9 [(4, .int (iI 0)), (0, .ref b)] → W p l e room_1 s m args below meth c H1 locs1 1000 20000 Q (F0 m 2392 ls1 [])) : W p l e room_1 s m args below meth c H locs 400 13000 Q (F0 m 2378 ls []) := by
  refine lv_aload_n E.1 E.2.1 dL_law_2378 rfl (lv_at hl 3 rfl) ?_
  refine fw_cV (As := []) (rest := []) E hK hH hl hB.c.2.1 fc_X9 fL_X9_digest ql_RL_255 qi_yX9_digest qv_yX9_digest (x_digest l G _ _ a hB) rfl rfl (Nat.le_of_ble_eq_true rfl) ⟨Nat.le_of_ble_eq_true rfl, Nat.le_of_ble_eq_true rfl⟩ ⟨Nat.le_of_ble_eq_true rfl, Nat.le_of_ble_eq_true rfl⟩ dL_law_2379 (fw_kl fun r M1 H1 locs1 hp hH hz1 => ?_)
  obtain ⟨rfl, hfr, hz2⟩ := hp
  replace hD := hD.fr (fun q h1 h2 => hfr q (by omega))
  clear hfr
  replace hsz : a + 386 ≤ H1.size := by omega
  clear hz1 hz2
  refine lv_aload_n E.1 E.2.1 dL_law_2382 rfl (lv_at hl 2 rfl) ?_
  refine fw_cV (As := []) (rest := [.long dgN]) E hK hH hl hD.2.1 fc_X10 fL_X10_digest ql_RL_259 qi_yX10_digest qv_yX10_digest (y_digest l G _ _ (a + 378) hD (by omega)  ) rfl rfl (Nat.le_of_ble_eq_true rfl) ⟨Nat.le_of_ble_eq_true rfl, Nat.le_of_ble_eq_true rfl⟩ ⟨Nat.le_of_ble_eq_true rfl, Nat.le_of_ble_eq_true rfl⟩ dL_law_2383 (fw_kl fun r M1 H1 locs1 hp hH hz1 => ?_)
  obtain ⟨rfl, hfr⟩ := hp
  clear hfr hz1
  refine W.lcmp E.1 E.2.1 dL_law_2386 ?_
  refine fw_cv (y := iI 0) (lg_cmp_self _) ?_
  refine fw_if_eq (tgt := 2392) E dL_law_2387 (by decide) (by omega) (by omega) (fun c1 => ?_) (fun c1 => ?_)
  · exact W.widen (k := 1000) (n := 20000) (by omega) (by omega) (kend _ _ _ _ hH (lv_sub hl [0, 4] rfl))
  · exact absurd c1 (by omega)

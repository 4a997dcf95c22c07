theorem law_all {pG : Program} {l : Launch} {e : Env} {s : State} {m : MethodId} {args : Array Value} {below : List Frame} {meth : Method} {cG : Code} {G : fw_G} {M : fw_M} {H : Heap} {locs : List Loc} {ls : Array Slot} {Q : State → Prop} {cells slots N : Nat} (E : CallFix pG m cG code 21 s args fwT RL) (hK : fw_K G s) (hcl : cells + 5976 ≤ 600104) (hsl : slots + 994893 ≤ 7301314) (hH : fw_H G s M H locs) (hz : H.size = N)  (hl : lv_has ls 21 [(0, .ref (G.2.2.2.2 3))]) (kk : ∀ (M1 : fw_M) (H1 : Heap) (locs1 : List Loc) (ls1 : Array Slot), fw_H G s M1 H1 locs1 → W pG l e room_1 s m args below meth cG H1 locs1 (cells + 5976) (slots + 994893) Q (F0 m 832 ls1 [])) : W pG l e room_1 s m args below meth cG H locs (cells) (slots) Q (F0 m 0 ls []) := by
  refine lv_iconst (v := iI 0) E.1 E.2.1 dL_law_0 (by decide) ?_
  refine lv_istore_n (lv' := [(1, .int (iI 0)), (0, .ref (G.2.2.2.2 3))]) E.1 E.2.1 dL_law_1 rfl hl (by decide) rfl (fun ls hl => ?_)
  have loop2_1 : ∀ (d2 : Nat) (tm : Nat) (sz : Nat) (Mw2 : fw_M) (H : Heap) (locs : List Loc) (ls : Array Slot), 3 - tm < d2 → tm ≤ 3 → fw_H G s Mw2 H locs → H.size = sz → lv_has ls 21 [(0, .ref (G.2.2.2.2 3)), (1, .int (iI ↑tm))] → W pG l e room_1 s m args below meth cG H locs (cells + 1992 * tm) (slots + 331631 * tm) Q (F0 m 2 ls []) := by
    intro d2
    induction d2 with
    | zero => intro tm sz Mw2 H locs ls hd; exact absurd hd (Nat.not_lt_zero _)
    | succ d2 ih2 =>
      intro tm sz Mw2 H locs ls hd2 htm hH hz  hl
      refine lv_iload_n E.1 E.2.1 dL_law_2 rfl (lv_at hl 1 rfl) ?_
      refine lv_iconst (v := iI 3) E.1 E.2.1 dL_law_3 (by decide) ?_
      refine fw_icmp_ge (tgt := 832) E dL_law_4 (by decide) (by omega) (by omega) (by omega) (by omega) (fun c1 => ?_) (fun c1 => ?_)
      · refine W.widen (k := cells + 5976) (n := slots + 994893) (by omega) (by omega) ?_
        exact kk _ _ _ _ hH
      · refine law_time (N := sz) E hK tm (by omega) (by omega) (by omega) hH hz (lv_sub hl [0, 1] rfl) (fun M1 H1 locs1 ls N1 hsn hH hz hl => ?_)
        refine lv_iinc (v := iI (↑tm + 1)) (lv' := [(1, .int (iI (↑tm + 1))), (0, .ref (G.2.2.2.2 3))]) E.1 E.2.1 dL_law_826 hl (k := 1) rfl (iI_inc rfl) (by decide) rfl (fun ls hl => ?_)
        refine lv_goto (tgt := 2) E.1 E.2.1 dL_law_829 (by decide) ?_
        refine W.widen (k := cells + 1992 * (tm + 1)) (n := slots + 331631 * (tm + 1)) (by omega) (by omega) ?_
        exact ih2 (tm + 1) N1 _ _ _ _ (by omega) (by omega) hH (by omega)  (lv_sub hl [1, 0] rfl)
  refine W.widen (k := cells + 1992 * 0) (n := slots + 331631 * 0) (by omega) (by omega) ?_
  exact loop2_1 (3 - 0 + 1) 0 N _ _ _ _ (Nat.lt_succ_self _) (Nat.zero_le _) hH (by omega)  (lv_sub hl [1, 0] rfl)

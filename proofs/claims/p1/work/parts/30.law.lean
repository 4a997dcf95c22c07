/-! THE CLAIM OUT OF ONE WALK OF THE LAW'S BODY. Your part is whole_start (and what it stands on); all else here is the same for every law, but numbers. -/
def R_law : String := "BarnacleLaw"
def lw_P (b : Addr) (xs : List Int32) (args : Array Value) (s : State) : Prop := args = #[.ref b] ∧ s.IntsAt b xs ∧ xs.length ≤ 5 ∧ (Jvm.Cond.and given_1 narrow_1).before args s = true
/-- what a walk over the start with the record d0 says of its end, said of the start itself -/
theorem lw_closed {s t : State} {o : Outcome} {d0 : Drawn} {L : List Loc} {k n : Nat} (hd0 : s.drawn.sameBut d0 lw_cs) (hv : ∃ v, o = .returned v) (hW : (s.setDrawn d0).WarmedH t.vm) (hs : (s.setDrawn d0).sameButNew ({ t with vm := s.vm } : State) L k n) : State.butDraws s t lw_cs (fun t1 => Framed s o t1 L k n) := by
  have h2 : t.drawn = d0 := congrArg State.drawn hs.1
  refine ⟨⟨hv, hW, State.sameButNew.setDrawn hs s.drawn⟩, ?_, by decide⟩
  rw [h2]
  exact hd0
def lw_Q (_ : Array Value) (s : State) (o : Outcome) (t : State) : Prop := o = .returned (some (.int 1)) ∧ State.butDraws s t lw_cs (fun t1 => Framed s o t1 [] 600002 7302232)
def lw_Z (below : List Frame) (a : Array Value) (s : State) : State → Prop := fun t => ∃ o, t.status = .running ∧ Ended t below o ∧ lw_Q a s o t
/-- the law's own end, with 1 on the stack, nothing written that was there before, its room as the claim has it; d0: the record of draws at this point (at the entry s.drawn: begin with 'refine W.base ?_' and 'have hd0 := Drawn.sameBut.refl s.drawn lw_cs') -/
theorem lw_ret {p : Program} {l : Launch} {e : Env} {s : State} {m : MethodId} {below : List Frame} {meth : Method} {c : Code} {b : Nat} {d0 : Drawn} (hd0 : s.drawn.sameBut d0 lw_cs) (hx : p.tables.exec = Jvm.exec) (hb : c.code = code) (hr : meth.sig.returnType = ret) (hlocks : meth.locks = false) {pc : Nat} {H : Heap} {ls : Array Slot} (hdg : decode code pc = .ok (.ireturn, 1)) : W p l e room_1 (s.setDrawn d0) m #[Value.ref b] below meth c H [] 600002 7302232 (lw_Z below #[Value.ref b] s) (F0 m pc ls [.int 1]) := by
  intro T hT X
  obtain ⟨fs, hret, hrun, hended, hW, hframe⟩ := X.leave (v := some (.int 1)) (hlocks := hlocks) (fun h => by rw [hr] at h; cases h)
  have hmeth' : T.vm.method? m = some meth := X.method'
  refine ⟨T.setFrames fs, ?_, .returned (some (.int 1)), hrun, hended, rfl, lw_closed hd0 ⟨_, rfl⟩ hW hframe⟩
  jvm_step X.here [X.here.top, hx, hb, hdg, hmeth', hr, ret, narrow_b1]
  (try refine ⟨rfl, ?_⟩); (try refine ⟨rfl, ?_⟩)
  first | (intro acts; rw [hret _ acts rfl rfl rfl]) | rw [hret _ _ rfl rfl rfl]
  exact Steps.refl _
/-- what holds at the law's entry: the machine, the code, the tables' words (any of lw_tbl by 'hts w (by decide +kernel)'), the script of L ints xs at the cell b, what the Statement gives of the start (any of its parts by flat_of_before) -/
def lw_At (p : Program) (s : State) (m : MethodId) (meth : Method) (c : Code) (b L : Nat) (xs : Nat → Int32) : Prop :=
  p.tables.exec = Jvm.exec ∧ c.code = code ∧ meth.sig.returnType = ret ∧ c.maxLocals = 9 ∧ s.vm.findClass R_law = some m.cls ∧ (∀ w ∈ lw_tbl, w.before #[Value.ref b] s = true) ∧ va_X b L xs s s.heap ∧ b < s.heap.size ∧ meth.locks = false ∧ (Jvm.Cond.and given_1 narrow_1).before #[Value.ref b] s = true
theorem law_end {p : Program} {l : Launch} {e : Env} {s : State} {m : MethodId} {below : List Frame} {meth : Method} {c : Code} {G : fw_G} {M : fw_M} {H : Heap} {locs : List Loc} {cells slots b : Nat} {ls : Array Slot} (hG1 : G.2.2.1 = s.heap.size) (E : CallFix p m c code 9 s #[Value.ref b] fwT RL) (hr : meth.sig.returnType = ret) (hlocks : meth.locks = false) (hH : fw_H G s M H locs) (hc : cells ≤ 600002) (hs : slots ≤ 7302232) : W p l e room_1 s m #[Value.ref b] below meth c H locs cells slots (lw_Z below #[Value.ref b] s) (F0 m 2399 ls [.int (iI 1)]) := by
  refine va_forget (fun q hq => by rw [← hG1]; exact hH.2.2 q hq) ?_
  refine W.widen (k := 600002) (n := 7302232) hc hs ?_
  refine fw_cv (y := 1) (by decide) ?_
  have h := lw_ret (l := l) (e := e) (s := s) (m := m) (below := below) (b := b) (H := H) (ls := ls) (d0 := s.drawn) (Drawn.sameBut.refl s.drawn lw_cs) E.1 E.2.1 hr hlocks dL_law_2399
  exact h
set_option maxHeartbeats 4000000 in
theorem law_loop {p : Program} {l : Launch} {e : Env} {s : State} {m : MethodId} {below : List Frame} {meth : Method} {c : Code} {G : fw_G} {M M0 : fw_M} {H : Heap} {locs : List Loc} {ls : Array Slot} {a b L : Nat} {xs : Nat → Int32} {w9 : Nat → Int64} (hlt : l.stackTraces = false) (hG1 : G.2.2.1 = s.heap.size) (E : CallFix p m c code 9 s #[Value.ref b] fwT RL) (hr : meth.sig.returnType = ret) (hlocks : meth.locks = false) (hK : fw_K G s) (hH0 : fw_H G s M0 s.heap []) (hH : fw_H G s M H locs) (hB : bn0 G M a) (hD : md0 G M (a + 378)) (ho : M (a + 385) = some (fJ G 1 w9)) (hsz : a + 386 ≤ H.size) (hl : lv_has ls 9 [(4, .int (iI 0)), (3, .ref (a + 385)), (2, .ref (a + 378)), (1, .ref a), (0, .ref b)]) (hX : va_X b L xs s s.heap) (hbl : b < s.heap.size) (hbA : ¬ (fun q => G.2.2.1 ≤ q) b) (hL : L ≤ 5) : W p l e room_1 s m #[Value.ref b] below meth c H locs 400 13000 (lw_Z below #[Value.ref b] s) (F0 m 23 ls []) := by
  refine lv_iload E.1 E.2.1 dL_law_23 (lv_at hl 0 rfl) ?_
  refine lv_aload_n E.1 E.2.1 dL_law_25 rfl (lv_at hl 4 rfl) ?_
  refine va_slen (A := fun q => G.2.2.1 ≤ q) E.1 E.2.1 hX hbl hbA (fw_H.va hH0 hH) dL_law_26 ?_
  refine fw_cv (y := iI ↑L) rfl ?_
  refine lv_iconst (v := iI 5) E.1 E.2.1 dL_law_27 (by decide) ?_
  refine fw_isub E dL_law_28 ?_
  refine fw_icmp_gt (tgt := 2398) E dL_law_29 (by decide) (by omega) (by omega) (by omega) (by omega) (fun c1 => ?_) (fun c1 => ?_)
  · refine lv_iconst (v := iI 1) E.1 E.2.1 dL_law_2398 (by decide) ?_
    exact law_end hG1 E hr hlocks hH (by omega) (by omega)
  · have hL5 : L = 5 := by omega
    subst hL5
    have hzb : ∀ k, -2147483648 ≤ (xs k).toInt ∧ (xs k).toInt < 2147483648 := fun k => ⟨(xs k).le_toInt, (xs k).toInt_lt⟩
    have hzs : ∀ k, xs k = iI (xs k).toInt := fun k => (iI_of (xs k)).symm
    have kend : ∀ (M1 : fw_M) (H1 : Heap) (locs1 : List Loc) (ls1 : Array Slot), fw_H G s M1 H1 locs1 → lv_has ls1 9 [(4, .int (iI 0)), (0, .ref b)] → W p l e room_1 s m #[Value.ref b] below meth c H1 locs1 1000 20000 (lw_Z below #[Value.ref b] s) (F0 m 2392 ls1 []) := by
      intro M1 H1 locs1 ls1 hH hl
      refine lv_iinc (v := iI 5) (lv' := [(4, .int (iI 5)), (0, .ref b)]) E.1 E.2.1 dL_law_2392 hl (k := 0) rfl (by decide) (by decide) rfl (fun ls hl => ?_)
      refine lv_goto (tgt := 23) E.1 E.2.1 dL_law_2395 (by decide) ?_
      refine lv_iload E.1 E.2.1 dL_law_23 (lv_at hl 0 rfl) ?_
      refine lv_aload_n E.1 E.2.1 dL_law_25 rfl (lv_at hl 1 rfl) ?_
      refine va_slen (A := fun q => G.2.2.1 ≤ q) E.1 E.2.1 hX hbl hbA (fw_H.va hH0 hH) dL_law_26 ?_
      refine fw_cv (y := iI 5) (by decide) ?_
      refine lv_iconst (v := iI 5) E.1 E.2.1 dL_law_27 (by decide) ?_
      refine fw_isub E dL_law_28 ?_
      refine fw_icmp_gt (tgt := 2398) E dL_law_29 (by decide) (by omega) (by omega) (by omega) (by omega) (fun c2 => ?_) (fun c2 => ?_)
      · refine lv_iconst (v := iI 1) E.1 E.2.1 dL_law_2398 (by decide) ?_
        exact law_end hG1 E hr hlocks hH (by omega) (by omega)
      · exact absurd c2 (by omega)
    refine lv_aload_n E.1 E.2.1 dL_law_32 rfl (lv_at hl 4 rfl) ?_
    refine lv_iload E.1 E.2.1 dL_law_33 (lv_at hl 0 rfl) ?_
    refine va_sld (A := fun q => G.2.2.1 ≤ q) E.1 E.2.1 hX hbl hbA (fw_H.va hH0 hH) (iI_in (by omega) (by omega) (by omega)) dL_law_35 ?_
    refine lv_bipush (v := 63) E.1 E.2.1 dL_law_36 (by decide) ?_
    refine lv_iand E.1 E.2.1 dL_law_38 ?_
    obtain ⟨j, hj, ej⟩ := pk_andE (xs (iI 0).toNatClampNeg) (m := 63) 6 (by decide)
    have hj64 : j < 64 := hj
    rw [ej]
    by_cases h41 : 41 ≤ j
    · refine lv_tableOut (tgt := 2392) E.1 E.2.1 dL_law_39 (Or.inr ?_) (by decide) ?_
      · rw [nI_toInt (by omega)]; omega
      · exact W.widen (k := 1000) (n := 20000) (by omega) (by omega) (kend _ _ _ _ hH (lv_sub hl [0, 4] rfl))
    · rcases (show j = 0 ∨ j = 1 ∨ j = 2 ∨ j = 3 ∨ j = 4 ∨ j = 5 ∨ j = 6 ∨ j = 7 ∨ j = 8 ∨ j = 9 ∨ j = 10 ∨ j = 11 ∨ j = 12 ∨ j = 13 ∨ j = 14 ∨ j = 15 ∨ j = 16 ∨ j = 17 ∨ j = 18 ∨ j = 19 ∨ j = 20 ∨ j = 21 ∨ j = 22 ∨ j = 23 ∨ j = 24 ∨ j = 25 ∨ j = 26 ∨ j = 27 ∨ j = 28 ∨ j = 29 ∨ j = 30 ∨ j = 31 ∨ j = 32 ∨ j = 33 ∨ j = 34 ∨ j = 35 ∨ j = 36 ∨ j = 37 ∨ j = 38 ∨ j = 39 ∨ j = 40 by omega) with rfl | rfl | rfl | rfl | rfl | rfl | rfl | rfl | rfl | rfl | rfl | rfl | rfl | rfl | rfl | rfl | rfl | rfl | rfl | rfl | rfl | rfl | rfl | rfl | rfl | rfl | rfl | rfl | rfl | rfl | rfl | rfl | rfl | rfl | rfl | rfl | rfl | rfl | rfl | rfl | rfl
      · exact lv_tableIn (off := 177) (tgt := 216) E.1 E.2.1 dL_law_39 (by decide) (by decide) (by decide +kernel) (by decide) (lc_sketch hlt E hK hH0 hH hB hD ho hsz hl hX hbl hbA hzs hzb kend)
      · exact lv_tableIn (off := 245) (tgt := 284) E.1 E.2.1 dL_law_39 (by decide) (by decide) (by decide +kernel) (by decide) (lc_erase hlt E hK hH0 hH hB hD ho hsz hl hX hbl hbA hzs hzb kend)
      · exact lv_tableIn (off := 258) (tgt := 297) E.1 E.2.1 dL_law_39 (by decide) (by decide) (by decide +kernel) (by decide) (lc_plant hlt E hK hH0 hH hB hD ho hsz hl hX hbl hbA hzs hzb kend)
      · exact lv_tableIn (off := 302) (tgt := 341) E.1 E.2.1 dL_law_39 (by decide) (by decide) (by decide +kernel) (by decide) (lc_fell hlt E hK hH0 hH hB hD ho hsz hl hX hbl hbA hzs hzb kend)
      · exact lv_tableIn (off := 358) (tgt := 397) E.1 E.2.1 dL_law_39 (by decide) (by decide) (by decide +kernel) (by decide) (lc_addCase hlt E hK hH0 hH hB hD ho hsz hl hX hbl hbA hzs hzb kend)
      · exact lv_tableIn (off := 450) (tgt := 489) E.1 E.2.1 dL_law_39 (by decide) (by decide) (by decide +kernel) (by decide) (lc_setWay hlt E hK hH0 hH hB hD ho hsz hl hX hbl hbA hzs hzb kend)
      · exact lv_tableIn (off := 518) (tgt := 557) E.1 E.2.1 dL_law_39 (by decide) (by decide) (by decide +kernel) (by decide) (lc_cross hlt E hK hH0 hH hB hD ho hsz hl hX hbl hbA hzs hzb kend)
      · exact lv_tableIn (off := 610) (tgt := 649) E.1 E.2.1 dL_law_39 (by decide) (by decide) (by decide +kernel) (by decide) (lc_hoist hlt E hK hH0 hH hB hD ho hsz hl hX hbl hbA hzs hzb kend)
      · exact lv_tableIn (off := 678) (tgt := 717) E.1 E.2.1 dL_law_39 (by decide) (by decide) (by decide +kernel) (by decide) (lc_recode hlt E hK hH0 hH hB hD ho hsz hl hX hbl hbA hzs hzb kend)
      · exact lv_tableIn (off := 770) (tgt := 809) E.1 E.2.1 dL_law_39 (by decide) (by decide) (by decide +kernel) (by decide) (lc_wither hlt E hK hH0 hH hB hD ho hsz hl hX hbl hbA hzs hzb kend)
      · exact lv_tableIn (off := 850) (tgt := 889) E.1 E.2.1 dL_law_39 (by decide) (by decide) (by decide +kernel) (by decide) (lc_simplify hlt E hK hH0 hH hB hD ho hsz hl hX hbl hbA hzs hzb kend)
      · exact lv_tableIn (off := 906) (tgt := 945) E.1 E.2.1 dL_law_39 (by decide) (by decide) (by decide +kernel) (by decide) (lc_setRates hlt E hK hH0 hH hB hD ho hsz hl hX hbl hbA hzs hzb kend)
      · exact lv_tableIn (off := 986) (tgt := 1025) E.1 E.2.1 dL_law_39 (by decide) (by decide) (by decide +kernel) (by decide) (lc_setChoosing hlt E hK hH0 hH hB hD ho hsz hl hX hbl hbA hzs hzb kend)
      · exact lv_tableIn (off := 1054) (tgt := 1093) E.1 E.2.1 dL_law_39 (by decide) (by decide) (by decide +kernel) (by decide) (lc_setLuck hlt E hK hH0 hH hB hD ho hsz hl hX hbl hbA hzs hzb kend)
      · exact lv_tableIn (off := 1110) (tgt := 1149) E.1 E.2.1 dL_law_39 (by decide) (by decide) (by decide +kernel) (by decide) (lc_tell hlt E hK hH0 hH hB hD ho hsz hl hX hbl hbA hzs hzb kend)
      · exact lv_tableIn (off := 1166) (tgt := 1205) E.1 E.2.1 dL_law_39 (by decide) (by decide) (by decide +kernel) (by decide) (lc_breed hlt E hK hH0 hH hB hD ho hsz hl hX hbl hbA hzs hzb kend)
      · exact lv_tableIn (off := 1222) (tgt := 1261) E.1 E.2.1 dL_law_39 (by decide) (by decide) (by decide +kernel) (by decide) (lc_sketched hlt E hK hH0 hH hB hD ho hsz hl hX hbl hbA hzs hzb kend)
      · exact lv_tableIn (off := 1235) (tgt := 1274) E.1 E.2.1 dL_law_39 (by decide) (by decide) (by decide +kernel) (by decide) (lc_trees hlt E hK hH0 hH hB hD ho hsz hl hX hbl hbA hzs hzb kend)
      · exact lv_tableIn (off := 1248) (tgt := 1287) E.1 E.2.1 dL_law_39 (by decide) (by decide) (by decide +kernel) (by decide) (lc_cases hlt E hK hH0 hH hB hD ho hsz hl hX hbl hbA hzs hzb kend)
      · exact lv_tableIn (off := 1261) (tgt := 1300) E.1 E.2.1 dL_law_39 (by decide) (by decide) (by decide +kernel) (by decide) (lc_size hlt E hK hH0 hH hB hD ho hsz hl hX hbl hbA hzs hzb kend)
      · exact lv_tableIn (off := 1317) (tgt := 1356) E.1 E.2.1 dL_law_39 (by decide) (by decide) (by decide +kernel) (by decide) (lc_depth hlt E hK hH0 hH hB hD ho hsz hl hX hbl hbA hzs hzb kend)
      · exact lv_tableIn (off := 1373) (tgt := 1412) E.1 E.2.1 dL_law_39 (by decide) (by decide) (by decide +kernel) (by decide) (lc_codeAt hlt E hK hH0 hH hB hD ho hsz hl hX hbl hbA hzs hzb kend)
      · exact lv_tableIn (off := 1441) (tgt := 1480) E.1 E.2.1 dL_law_39 (by decide) (by decide) (by decide +kernel) (by decide) (lc_valueAt hlt E hK hH0 hH hB hD ho hsz hl hX hbl hbA hzs hzb kend)
      · exact lv_tableIn (off := 1509) (tgt := 1548) E.1 E.2.1 dL_law_39 (by decide) (by decide) (by decide +kernel) (by decide) (lc_sizeAt hlt E hK hH0 hH hB hD ho hsz hl hX hbl hbA hzs hzb kend)
      · exact lv_tableIn (off := 1577) (tgt := 1616) E.1 E.2.1 dL_law_39 (by decide) (by decide) (by decide +kernel) (by decide) (lc_above hlt E hK hH0 hH hB hD ho hsz hl hX hbl hbA hzs hzb kend)
      · exact lv_tableIn (off := 1645) (tgt := 1684) E.1 E.2.1 dL_law_39 (by decide) (by decide) (by decide +kernel) (by decide) (lc_gives hlt E hK hH0 hH hB hD ho hsz hl hX hbl hbA hzs hzb kend)
      · exact lv_tableIn (off := 1737) (tgt := 1776) E.1 E.2.1 dL_law_39 (by decide) (by decide) (by decide +kernel) (by decide) (lc_error hlt E hK hH0 hH hB hD ho hsz hl hX hbl hbA hzs hzb kend)
      · exact lv_tableIn (off := 1793) (tgt := 1832) E.1 E.2.1 dL_law_39 (by decide) (by decide) (by decide +kernel) (by decide) (lc_merit hlt E hK hH0 hH hB hD ho hsz hl hX hbl hbA hzs hzb kend)
      · exact lv_tableIn (off := 1849) (tgt := 1888) E.1 E.2.1 dL_law_39 (by decide) (by decide) (by decide +kernel) (by decide) (lc_hits hlt E hK hH0 hH hB hD ho hsz hl hX hbl hbA hzs hzb kend)
      · exact lv_tableIn (off := 1905) (tgt := 1944) E.1 E.2.1 dL_law_39 (by decide) (by decide) (by decide +kernel) (by decide) (lc_ranked hlt E hK hH0 hH hB hD ho hsz hl hX hbl hbA hzs hzb kend)
      · exact lv_tableIn (off := 1961) (tgt := 2000) E.1 E.2.1 dL_law_39 (by decide) (by decide) (by decide +kernel) (by decide) (lc_different hlt E hK hH0 hH hB hD ho hsz hl hX hbl hbA hzs hzb kend)
      · exact lv_tableIn (off := 1974) (tgt := 2013) E.1 E.2.1 dL_law_39 (by decide) (by decide) (by decide +kernel) (by decide) (lc_alike hlt E hK hH0 hH hB hD ho hsz hl hX hbl hbA hzs hzb kend)
      · exact lv_tableIn (off := 2042) (tgt := 2081) E.1 E.2.1 dL_law_39 (by decide) (by decide) (by decide +kernel) (by decide) (lc_meanSize hlt E hK hH0 hH hB hD ho hsz hl hX hbl hbA hzs hzb kend)
      · exact lv_tableIn (off := 2083) (tgt := 2122) E.1 E.2.1 dL_law_39 (by decide) (by decide) (by decide +kernel) (by decide) (lc_generations hlt E hK hH0 hH hB hD ho hsz hl hX hbl hbA hzs hzb kend)
      · exact lv_tableIn (off := 2096) (tgt := 2135) E.1 E.2.1 dL_law_39 (by decide) (by decide) (by decide +kernel) (by decide) (lc_misses hlt E hK hH0 hH hB hD ho hsz hl hX hbl hbA hzs hzb kend)
      · exact lv_tableIn (off := 2109) (tgt := 2148) E.1 E.2.1 dL_law_39 (by decide) (by decide) (by decide +kernel) (by decide) (lc_luck hlt E hK hH0 hH hB hD ho hsz hl hX hbl hbA hzs hzb kend)
      · exact lv_tableIn (off := 2122) (tgt := 2161) E.1 E.2.1 dL_law_39 (by decide) (by decide) (by decide +kernel) (by decide) (lc_waiting hlt E hK hH0 hH hB hD ho hsz hl hX hbl hbA hzs hzb kend)
      · exact lv_tableIn (off := 2135) (tgt := 2174) E.1 E.2.1 dL_law_39 (by decide) (by decide) (by decide +kernel) (by decide) (lc_errorCrossed hlt E hK hH0 hH hB hD ho hsz hl hX hbl hbA hzs hzb kend)
      · exact lv_tableIn (off := 2227) (tgt := 2266) E.1 E.2.1 dL_law_39 (by decide) (by decide) (by decide +kernel) (by decide) (lc_bestHoist hlt E hK hH0 hH hB hD ho hsz hl hX hbl hbA hzs hzb kend)
      · exact lv_tableIn (off := 2283) (tgt := 2322) E.1 E.2.1 dL_law_39 (by decide) (by decide) (by decide +kernel) (by decide) (lc_errorBred hlt E hK hH0 hH hB hD ho hsz hl hX hbl hbA hzs hzb kend)
      · exact lv_tableIn (off := 2339) (tgt := 2378) E.1 E.2.1 dL_law_39 (by decide) (by decide) (by decide +kernel) (by decide) (lc_digest hlt E hK hH0 hH hB hD ho hsz hl hX hbl hbA hzs hzb kend)
set_option maxHeartbeats 4000000 in
theorem whole_start {p : Program} {e : Env} {s : State} {m : MethodId} {below : List Frame} {meth : Method} {c : Code} (l : Launch) (hflags : l.flags = flags0) {b L : Nat} {xs : Nat → Int32} (hL : L ≤ 5) (C0 : lw_At p s m meth c b L xs) : W p l e room_1 s m #[Value.ref b] below meth c s.heap [] 0 0 (lw_Z below #[Value.ref b] s) (entryFrame m ([Value.ref b] : List Value).toArray 9) := by
  obtain ⟨hx, hcb, hr, hml, hown, hts, hX, hbl, hlocks, hgv⟩ := id C0
  have hlt : l.stackTraces = false := by unfold Launch.stackTraces; rw [hflags]; decide +kernel
  obtain ⟨G, hG1, hG2, hK⟩ := st_K hts hgv
  have E : CallFix p m c code 9 s #[Value.ref b] fwT RL := ⟨hx, hcb, hml, hown, fun w hw => hts w (List.mem_filter.mp hw).1⟩
  obtain ⟨M, hM⟩ : ∃ M : fw_M, M = fun _ => none := ⟨_, rfl⟩
  have hH : fw_H G s M s.heap [] := ⟨⟨Nat.le_of_eq hG1, fun q hq => by rw [hG2], fun a e1 h => by rw [hM] at h; cases h⟩, Nat.le_refl _, fun q hq => by cases hq⟩
  have hH0 := hH
  have hbA : ¬ (fun q => G.2.2.1 ≤ q) b := by show ¬ G.2.2.1 ≤ b; rw [hG1]; exact Nat.not_le.mpr hbl
  obtain ⟨a, hz⟩ : ∃ a, s.heap.size = a := ⟨_, rfl⟩
  have hb0 : G.2.2.1 ≤ a := by rw [hG1, hz]; exact Nat.le_refl _
  have hl := lv_entry ([.ref b]) (n := 9) (Nat.le_of_ble_eq_true rfl)
  rw [lg_entry_eq]
  generalize (lg_sl ([.ref b]) ++ List.replicate (9 - (lg_sl ([.ref b])).length) Slot.unset).toArray = ls at hl ⊢
  have hl : lv_has ls 9 [(0, .ref b)] := hl
  refine fw_new (fs := [.null, .null, .null, .null, .null, .null, .null, .null, .null]) E hK hH hz fc_X9 ql_RL_8 qt_RX9 qn_RX9 (fun j hj => by rcases (show j = 0 ∨ j = 1 ∨ j = 2 ∨ j = 3 ∨ j = 4 ∨ j = 5 ∨ j = 6 ∨ j = 7 ∨ j = 8 by omega) with rfl | rfl | rfl | rfl | rfl | rfl | rfl | rfl | rfl <;> rfl) ⟨Nat.le_of_ble_eq_true rfl, Nat.le_of_ble_eq_true rfl⟩ dL_law_0 (fun H1 hH hz1 => ?_)
  replace hz : H1.size = a + 1 := by omega
  clear hz1
  obtain ⟨M1, hM2⟩ : ∃ MX, MX = fw_up M a (.inr (9, [.null, .null, .null, .null, .null, .null, .null, .null, .null])) := ⟨_, rfl⟩
  replace hH := fw_H.nm hM2 hH
  have fr3 : ∀ q, q ≠ a → M1 q = M q := fun q h => by rw [hM2]; exact fw_up_ne h
  have hn0 : M1 a = some (.inr (9, [.null, .null, .null, .null, .null, .null, .null, .null, .null])) := by rw [hM2]; exact fw_up_eq
  refine lv_dup E.1 E.2.1 dL_law_3 rfl ?_
  refine fw_cI (As := []) (rest := [.ref a]) E hK hH hl fL_X9_init rfl ql_RL_110 qi_yX9_init (k_Barnacle_init l G _ _ a (by omega) hn0 (by omega)) rfl rfl (Nat.le_of_ble_eq_true rfl) ⟨Nat.le_of_ble_eq_true rfl, Nat.le_of_ble_eq_true rfl⟩ ⟨Nat.le_of_ble_eq_true rfl, Nat.le_of_ble_eq_true rfl⟩ dL_law_4 (fw_kv fun M5 H1 locs1 hp4 hH hz1 => ?_)
  obtain ⟨hbn2, hz2, hfr⟩ := hp4
  replace hz : H1.size = a + 378 := by omega
  clear hz1 hz2
  have fr6 := hfr
  refine lv_astore_n (lv' := [(1, .ref a), (0, .ref b)]) E.1 E.2.1 dL_law_7 rfl hl (by decide) rfl (fun ls hl => ?_)
  refine fw_new (fs := [.null, .int 0, .null, .int 0, .int 0, .null, .int 0, .null, .null, .int 0, .int 0, .int 0, .null, .int 0, .int 0, .int 0, .int 0, .int 0, .int 0, .int 0, .int 0]) E hK hH hz fc_X10 ql_RL_111 qt_RX10 qn_RX10 (fun j hj => by rcases (show j = 0 ∨ j = 1 ∨ j = 2 ∨ j = 3 ∨ j = 4 ∨ j = 5 ∨ j = 6 ∨ j = 7 ∨ j = 8 ∨ j = 9 ∨ j = 10 ∨ j = 11 ∨ j = 12 ∨ j = 13 ∨ j = 14 ∨ j = 15 ∨ j = 16 ∨ j = 17 ∨ j = 18 ∨ j = 19 ∨ j = 20 by omega) with rfl | rfl | rfl | rfl | rfl | rfl | rfl | rfl | rfl | rfl | rfl | rfl | rfl | rfl | rfl | rfl | rfl | rfl | rfl | rfl | rfl <;> rfl) ⟨Nat.le_of_ble_eq_true rfl, Nat.le_of_ble_eq_true rfl⟩ dL_law_8 (fun H1 hH hz1 => ?_)
  replace hz : H1.size = a + 379 := by omega
  clear hz1
  obtain ⟨M7, hM8⟩ : ∃ MX, MX = fw_up M5 (a + 378) (.inr (10, [.null, .int 0, .null, .int 0, .int 0, .null, .int 0, .null, .null, .int 0, .int 0, .int 0, .null, .int 0, .int 0, .int 0, .int 0, .int 0, .int 0, .int 0, .int 0])) := ⟨_, rfl⟩
  replace hH := fw_H.nm hM8 hH
  have fr9 : ∀ q, q ≠ a + 378 → M7 q = M5 q := fun q h => by rw [hM8]; exact fw_up_ne h
  replace hbn2 := bn0.fr hbn2 (fun q h1 h2 => fr9 q (by omega))
  have hn2 : M7 (a + 378) = some (.inr (10, [.null, .int 0, .null, .int 0, .int 0, .null, .int 0, .null, .null, .int 0, .int 0, .int 0, .null, .int 0, .int 0, .int 0, .int 0, .int 0, .int 0, .int 0, .int 0])) := by rw [hM8]; exact fw_up_eq
  refine lv_dup E.1 E.2.1 dL_law_11 rfl ?_
  refine fw_cI (As := []) (rest := [.ref (a + 378)]) E hK hH hl fL_X10_init rfl ql_RL_113 qi_yX10_init (k_Model_init l G _ _ (a + 378) (by omega) hn2 (by omega)) rfl rfl (Nat.le_of_ble_eq_true rfl) ⟨Nat.le_of_ble_eq_true rfl, Nat.le_of_ble_eq_true rfl⟩ ⟨Nat.le_of_ble_eq_true rfl, Nat.le_of_ble_eq_true rfl⟩ dL_law_12 (fw_kv fun M11 H1 locs1 hp10 hH hz1 => ?_)
  obtain ⟨hmd4, hz2, hfr⟩ := hp10
  replace hz : H1.size = a + 385 := by omega
  clear hz1 hz2
  have fr12 := hfr
  replace hbn2 := bn0.fr hbn2 (fun q h1 h2 => fr12 q (by omega))
  refine lv_astore_n (lv' := [(2, .ref (a + 378)), (1, .ref a), (0, .ref b)]) E.1 E.2.1 dL_law_15 rfl hl (by decide) rfl (fun ls hl => ?_)
  refine lv_iconst (v := iI 1) E.1 E.2.1 dL_law_16 (by decide) ?_
  refine fw_newJ (N := 1) E hK hH hz qa_long (by decide) (by decide) (by decide) ⟨Nat.le_of_ble_eq_true rfl, Nat.le_of_ble_eq_true rfl⟩ dL_law_17 (fun H1 hH hz1 => ?_)
  replace hz : H1.size = a + 386 := by omega
  clear hz1
  obtain ⟨M13, hM14⟩ : ∃ MX, MX = fw_up M11 (a + 385) (fJ G 1 (fun _ => 0)) := ⟨_, rfl⟩
  replace hH := fw_H.nm hM14 hH
  have fr15 : ∀ q, q ≠ a + 385 → M13 q = M11 q := fun q h => by rw [hM14]; exact fw_up_ne h
  replace hbn2 := bn0.fr hbn2 (fun q h1 h2 => fr15 q (by omega))
  replace hmd4 := md0.fr hmd4 (fun q h1 h2 => fr15 q (by omega))
  have hn4 : M13 (a + 385) = some (fJ G 1 (fun _ => 0)) := by rw [hM14]; exact fw_up_eq
  refine lv_astore_n (lv' := [(3, .ref (a + 385)), (2, .ref (a + 378)), (1, .ref a), (0, .ref b)]) E.1 E.2.1 dL_law_19 rfl hl (by decide) rfl (fun ls hl => ?_)
  refine lv_iconst (v := iI 0) E.1 E.2.1 dL_law_20 (by decide) ?_
  refine lv_istore (lv' := [(4, .int (iI 0)), (3, .ref (a + 385)), (2, .ref (a + 378)), (1, .ref a), (0, .ref b)]) E.1 E.2.1 dL_law_21 hl (by decide) rfl (fun ls hl => ?_)
  refine W.widen (k := 400) (n := 13000) (by omega) (by omega) ?_
  have hB := hbn2
  have hD := hmd4
  have ho := hn4
  have hsz : a + 386 ≤ H1.size := by omega
  exact law_loop hlt hG1 E hr hlocks hK hH0 hH hB hD ho hsz (lv_sub hl [0, 1, 2, 3, 4] rfl) hX hbl hbA hL
set_option maxHeartbeats 4000000 in
theorem lw_walk (l : Launch) (hflags : l.flags = flags0) (b : Addr) (xs : List Int32) : MetFree l x (headSpec (Jvm.Cond.code x code maxLocals ret :: tables_1) room_1) (lw_P b xs) (fun _ _ _ _ _ => True) lw_Q := by
  refine MetFree.of_bodyS (code := code) (maxLocals := maxLocals) (ret := ret) (by decide) ?_ ?_
  · intro args s m h hn
    obtain ⟨meth, c, h1, h2, h3, h4, h5, h6, -, -⟩ := Cond.code_spec hn (atoms_spec (ws := Jvm.Cond.code x code maxLocals ret :: tables_1) h _ List.mem_cons_self)
    exact ⟨meth, c, h1, h2, h3, h4, h5, h6⟩
  · intro p e s m args below meth c s₁ B hml0 hP _
    obtain ⟨rfl, hx, hbd, hgv⟩ := hP
    obtain ⟨scr, harrAt, hlist, hof, hsmall⟩ := hx
    obtain ⟨hcb, hkn, -, -⟩ := State.arrayAt?_spec harrAt
    have hown : s.vm.findClass R_law = some m.cls := findClass_of_methodNamed B.named
    have hts0 : ∀ c ∈ (Jvm.Cond.code x code maxLocals ret :: tables_1), c.before #[Value.ref b] s = true := atoms_spec (ws := Jvm.Cond.code x code maxLocals ret :: tables_1) B.pre
    have hts : ∀ w ∈ lw_tbl, w.before #[Value.ref b] s = true := k2_hts_sels lw_privs (fun w hw => hts0 w (List.mem_cons_of_mem _ hw)) lw_privs_ok
    have hml : c.maxLocals = 9 := B.maxLocals_eq (hts0 _ List.mem_cons_self)
    have X₀ : Stand p l e room_1 s m #[Value.ref b] below meth c s₁ [] 0 0 := Stand.of_body B
    have hh0 : s₁.heap = s.heap := by rw [B.state]; rfl
    have hsz : scr.slots.size = xs.length := by rw [← Array.length_toList, hlist, List.length_map]
    have hval : ∀ j : Nat, j < xs.length → scr.slots[j]? = some (.int (xs.getD j 0)) := fun j hj => by
      rw [← Array.getElem?_toList, hlist]
      simp [hj]
    have hbl : b < s.heap.size := (Array.getElem?_eq_some_iff.mp hcb).1
    have hX : va_X b xs.length (fun j => xs.getD j 0) s s.heap := ⟨scr, hcb, hof, hkn, hsz, hval⟩
    have K : W p l e room_1 s m #[Value.ref b] below meth c s₁.heap [] 0 0 (lw_Z below #[Value.ref b] s) (entryFrame m ([Value.ref b] : List Value).toArray 9) := by
      rw [hh0]
      exact whole_start l hflags hbd ⟨B.exec, B.bytes, B.returns, hml, hown, hts, hX, hbl, B.notSynchronized, hgv⟩
    obtain ⟨t, a1, o, b1, b2, b3⟩ := K s₁ rfl X₀
    exact ⟨t, o, a1, b1, b2, b3⟩
theorem lw_pre_spec {args : Array Value} {s : State} (h : (Jvm.Cond.and given_1 narrow_1).before args s = true) (hr : rest_1_c.before args s = true) : ∃ (b : Addr) (xs : List Int32), lw_P b xs args s := by
  have hs := flat_of_before _ h
  have hq := flat_of_before _ hr
  have hc : (Cond.count 1).before args s = true := hs _ (by decide +kernel)
  have harr : (Cond.arrayOf (.arg 0) .int).before args s = true := hs _ (by decide +kernel)
  have hle : (Cond.le (.length (.arg 0)) (.int 5)).before args s = true := hs _ (by decide +kernel)
  have hlen : (Cond.isInt (.length (.arg 0))).before args s = true := hq _ (by decide +kernel)
  have hall : (Cond.all (.arg 0) (.isInt (.elem (.arg 0) (.index 0)))).before args s = true := hq _ (by decide +kernel)
  obtain ⟨b, xs, hb, hx⟩ := State.ints_of_pre rfl harr hlen hall
  have hsm : xs.length < 2 ^ 31 := hx.choose_spec.2.2.2
  have hev : (Term.length (.arg 0)).eval args s none [] s = some (.int xs.length.toInt32) := hx.length_eval hb
  have hv := Cond.le_ints hev (show (Term.int 5).eval args s none [] s = some (.int 5) from rfl)
  have hd : xs.length.toInt32 ≤ 5 := by
    simpa [Cond.before, Cond.holds, hv] using hle
  have hN : xs.length ≤ 5 := (Int32.ofNat_le_ofNat hsm (by decide)).mp (show Int32.ofNat xs.length ≤ Int32.ofNat 5 from hd)
  exact ⟨b, xs, Cond.one_arg hc (show args[0]? = some (.ref b) from hb), hx, hN, h⟩
theorem lw_comes (l : Launch) (hflags : l.flags = flags0) : Comes l x (Jvm.Cond.code x code maxLocals ret :: tables_1) room_1 (fun tb e args s => Calls_1 tb e args s ∧ rest_1 tb e args s ∧ Pre_1 tb e args s)
    (fun _ _ args s o t => lw_Q args s o t) := by
  intro p e ha hc hk s m args below hf hfit hheap happ hpre
  obtain ⟨b, xs, hP⟩ := lw_pre_spec hpre.2.2 hpre.2.1
  obtain ⟨k, o, h1, h2, h3, hQ⟩ := lw_walk l hflags b xs p e ha hc hk s m args below hf ((Spec.applies_iff_loose hf).mp happ).1 hP trivial
  exact ⟨k, o, h1, h2, h3, hQ⟩
theorem lw_frame {s t : State} {o : Outcome} {args : Array Value} (h : State.butDraws s t lw_cs (fun t1 => Framed s o t1 [] 600002 7302232)) :
    State.butDraws s t [Jvm.Choice.named "NaN.bits"] (fun t1 => Framed s o t1 (fieldLocs frame_1_writes args s ++ arrayLocs frame_1_arrays args s ++ staticLocs frame_1_statics s) 600002 7302232) := h
theorem lw_limb (L : Cond) (hL : ∀ (args : Array Value) (s t : State), L.after args s (.returned (some (.int 1))) t = true) :
    ArmFor flags0 classFile x code maxLocals ret World_1 tables_1 room_1 Calls_1 rest_1 Pre_1
      (fun tb e a s o t => postC L tb e a s o t ∧ State.butDraws s t [Jvm.Choice.named "NaN.bits"] (fun t1 => Framed s o t1 (fieldLocs frame_1_writes a s ++ arrayLocs frame_1_arrays a s ++ staticLocs frame_1_statics s) 600002 7302232)) := by
  intro l hflags _ _ p e ha hc hk s m args below hf hfit hheap happ hpre
  obtain ⟨k, o, h1, h2, h3, rfl, hF⟩ := lw_comes l hflags p e ha hc hk s m args below hf hfit hheap happ hpre
  exact ⟨k, _, h1, h2, h3, hL args s _, lw_frame hF⟩
theorem i_vc : Claimed_1_1 ∧ Claimed_1_2 := ⟨lw_limb limb_1_1 (fun args s t => by simp [limb_1_1, Cond.after, Cond.holds, Cond.value]), lw_limb limb_1_2 (fun args s t => Cond.after_iff.mpr (by
  first | (rw [show limb_1_2 = Cond.eq .result (.int 1) from rfl, Cond.eq_ints (x := 1) (y := 1) rfl rfl]; simp; done) | (simp [limb_1_2, Cond.value, Term.eval]; done)))⟩

theorem fw_R.push {G : fw_G} {M : fw_M} {H H1 : Heap} {e : va_E} (hR : fw_R G M H) (he : va_at G.1 vwCl (H.size, e) H1) (hz : H1.size = H.size + 1) (oq : ∀ q : Nat, q < H.size → H1[q]? = H[q]?) : fw_R G (fw_up M H.size e) H1 := by
  obtain ⟨h1, h2, h3⟩ := hR
  refine ⟨by omega, fun q hq => ?_, fun b e1 hb1 => ?_⟩
  · rw [oq q (by omega)]; exact h2 q hq
  · by_cases hba : b = H.size
    · subst hba
      rw [fw_up_eq] at hb1
      cases hb1
      exact he
    · rw [fw_up_ne hba] at hb1
      exact (h3 b e1 hb1).kept (oq b (h3 b e1 hb1).lt)
section FW3
variable {p : Program} {l : Launch} {e : Env} {R : Room} {s : State} {m : MethodId} {args : Array Value} {below : List Frame} {meth : Method} {c : Code} {H : Heap} {locs : List Loc} {cells slots : Nat} {Q : State → Prop} {G : fw_G} {M : fw_M} {cc : ByteArray} {nL pc : Nat} {ls : Array Slot} {rest : List Value} {own : String}
theorem fw_new (E : CallFix p m c cc nL s args fwT own) (hK : fw_K G s) (hH : fw_H G s M H locs) {a : Nat} (hz : H.size = a) {ci N index : Nat} {C : String} {T : u_T} {ty : Nat → FieldType} {fs : List Value} (hc : fw_C ci C T N ty) (q : Cond.classLink own index C ∈ fwT) (q2 : Cond.instantiable C N ∈ fwT) (q3 : Cond.initialized C ∈ fwT) (hfs : ∀ j, j < N → defaultValue (ty j) = vp_V fs j) (hf : cells + 1 ≤ R.cells ∧ slots + N ≤ R.slots) (hdg : decode cc pc = .ok (.new index, 3))
    (kk : ∀ (H1 : Heap), fw_H G s (fw_up M a (.inr (ci, fs))) H1 locs → H1.size = a + 1 → W p l e R s m args below meth c H1 locs (cells + 1) (slots + N) Q (F0 m (pc + 3) ls (.ref a :: rest))) : W p l e R s m args below meth c H locs cells slots Q (F0 m pc ls rest) := by
  subst hz
  have hKn := hK.me.1.1 ci _ hc.1
  refine W.newcK E.1 E.2.1 E.2.2.2.1 (E.2.2.2.2 _ q) (E.2.2.2.2 _ q2) (E.2.2.2.2 _ q3) rfl hdg hf.1 hf.2 hKn.2.1 rfl fun H1 kC hkC e1 z1 o1 => ?_
  exact kk H1 ⟨hH.1.push ⟨_, hc.1, (u_born ty E.2.2.2.2 hc.2.1 hKn hkC e1 hc.2.2.1).to hfs⟩ z1 o1, by have := hH.2.1; omega, hH.2.2⟩ z1
theorem fw_newI (E : CallFix p m c cc nL s args fwT own) (hK : fw_K G s) (hH : fw_H G s M H locs) {a : Nat} (hz : H.size = a) {n : Int32} {N : Nat} (q : Cond.arrayClass .int ∈ fwT) (hn : ¬ n < 0) (hN : n.toNatClampNeg = N) (hbytes : N * componentBytes .int ≤ 536870912) (hf : cells + 1 ≤ R.cells ∧ slots + N ≤ R.slots) (hdg : decode cc pc = .ok (.newarray .int, 2))
    (kk : ∀ (H1 : Heap), fw_H G s (fw_up M a (fI G N (fun _ => 0))) H1 locs → H1.size = a + 1 → W p l e R s m args below meth c H1 locs (cells + 1) (slots + N) Q (F0 m (pc + 2) ls (.ref a :: rest))) : W p l e R s m args below meth c H locs cells slots Q (F0 m pc ls (.int n :: rest)) := by
  subst hz
  refine va_newaK (atype := .int) E.1 E.2.1 (E.2.2.2.2 _ q) rfl hdg rfl hn hN hbytes hf.1 hf.2 rfl fun H1 cA e1 z1 o1 hAr hNm => ?_
  have h2 : s.vm.findClass ("[" ++ FieldType.int.toString) = some (G.2.1 0) := (hK.me.1.2 0 (G.2.1 0, .int) rfl).2
  have hcA : cA = G.2.1 0 := Option.some.inj (hNm.symm.trans h2)
  subst hcA
  refine kk H1 ⟨hH.1.push ?_ z1 o1, by have := hH.2.1; omega, hH.2.2⟩ z1
  show H1[H.size]? = some (vp_cell _ _)
  exact e1
theorem fw_newT (E : CallFix p m c cc nL s args fwT own) (hK : fw_K G s) (hH : fw_H G s M H locs) {a index : Nat} (hz : H.size = a) {n : Int32} {N : Nat} (q : Cond.classLink own index RX8 ∈ fwT) (q2 : Cond.arrayOver (.object RX8) ∈ fwT) (hn : ¬ n < 0) (hN : n.toNatClampNeg = N) (hbytes : N * 4 ≤ 536870912) (hf : cells + 1 ≤ R.cells ∧ slots + N ≤ R.slots) (hdg : decode cc pc = .ok (.anewarray index, 3))
    (kk : ∀ (H1 : Heap), fw_H G s (fw_up M a (fT G N (fun _ => none))) H1 locs → H1.size = a + 1 → W p l e R s m args below meth c H1 locs (cells + 1) (slots + N) Q (F0 m (pc + 3) ls (.ref a :: rest))) : W p l e R s m args below meth c H locs cells slots Q (F0 m pc ls (.int n :: rest)) := by
  subst hz
  subst hN
  refine W.anew E.1 E.2.1 E.2.2.2.1 (E.2.2.2.2 _ q) (E.2.2.2.2 _ q2) rfl hdg rfl hn hbytes hf.1 hf.2 fun cA kA comp f1 f2 f3 f4 => ?_
  obtain ⟨kA2, comp2, g1, g2, g3, g4⟩ := (hK.me.1.2 1 (G.2.1 1, .object RX8) rfl).2
  generalize hH1 : H.push ({ cls := cA, slots := Array.replicate n.toNatClampNeg .null, vm := .none } : Cell) = H1
  have z1 : H1.size = H.size + 1 := by rw [← hH1, Array.size_push]
  have e1 : H1[H.size]? = some (arrV cA n.toNatClampNeg (fun _ => .null)) := by rw [← hH1, Array.getElem?_push_size, ← arrV_new]
  have o1 : ∀ q : Nat, q < H.size → H1[q]? = H[q]? := fun q hq => by rw [← hH1, Array.getElem?_push, if_neg (Nat.ne_of_lt hq)]
  have hcA : cA = G.2.1 1 := Option.some.inj (f1.symm.trans g4)
  subst hcA
  refine kk H1 ⟨hH.1.push ?_ z1 o1, by have := hH.2.1; omega, hH.2.2⟩ z1
  show H1[H.size]? = some (vp_cell _ _)
  exact e1
theorem fw_aast (E : CallFix p m c cc nL s args fwT own) (hK : fw_K G s) (hH : fw_H G s M H locs) {a n v : Nat} {f : Nat → Option Nat} {fs : List Value} {i : Int32} (hb : G.2.2.1 ≤ a) (ha : M a = some (fT G n f)) (hv : M v = some (.inr (8, fs))) (hin : vp_in i n) (hdg : decode cc pc = .ok (.aastore, 1))
    (kk : ∀ (H1 : Heap) (locs1 : List Loc), fw_H G s (fw_up M a (fT G n (va_up f i.toNatClampNeg (some v)))) H1 locs1 → H1.size = H.size → W p l e R s m args below meth c H1 locs1 cells slots Q (F0 m (pc + 1) ls rest)) : W p l e R s m args below meth c H locs cells slots Q (F0 m pc ls (.ref v :: .int i :: .ref a :: rest)) := by
  have hlt : i.toNatClampNeg < n := Nat.not_le.mp fun q => hin (Or.inr q)
  have h0 : ¬ i < 0 := fun q => hin (Or.inl q)
  have ha1 : H[a]? = some (vp_cell (G.2.1 1) (n, .inr (.inr (.inr (.inr f))))) := hH.1.2.2 a _ ha
  obtain ⟨r', hr', cellV, g1, g2, g3, -⟩ := hH.1.2.2 v _ hv
  have hcls := (hK.me.1.1 8 (RX8, TX8, 6) rfl).2
  obtain ⟨kA, comp, k1, k2, k3, -⟩ := (hK.me.1.2 1 (G.2.1 1, .object RX8) rfl).2
  have hcomp : comp = G.1.1 8 := Option.some.inj (k3.symm.trans hcls.1)
  subst hcomp
  obtain ⟨kC, hkC, -⟩ := hcls.2
  refine W.aast E.1 E.2.1 ha1 (fun q h => by cases h) (fun h => by cases h) k1 k2 rfl hkC ⟨h0, by show _ < (arrV _ _ _).slots.size; rw [arrV_size]; exact hlt⟩ g1 (fun q h => by rw [g3] at h; cases h) (by rw [g2]; exact hkC) (by rw [g2]; exact va_assign hcls) rfl rfl hdg fun H1 e z oq => ?_
  refine kk H1 _ (hH.up hb ?_ z oq (fun q hq => by rw [List.mem_singleton.mp hq])) z
  show H1[a]? = some (vp_cell _ _)
  rw [e]
  rw [vp_cell_q, vp_cell_q, arrV_store]
  congr 2
  funext q
  by_cases hq : q = i.toNatClampNeg
  · subst hq
    simp [updV, va_up, va_rf]
  · simp [updV, va_up, hq]
theorem fw_obj (E : CallFix p m c cc nL s args fwT own) {idx : Nat} (q : Cond.methodLink own idx objectInit ∈ fwT) (q2 : Cond.instanceMethod objectInit ∈ fwT) (q3 : Cond.code objectInit ⟨#[0xb1]⟩ 1 none ∈ fwT) {lv : List (Nat × Value)} (hl : lv_has ls nL lv) {a : Nat} (hdg : decode cc pc = .ok (.invokespecial idx, 3)) (hR : 1 ≤ R.frames ∧ (rest.map fun v => v.category).sum + 12 ≤ R.locals)
    (kk : W p l e R s m args below meth c H locs cells slots Q (F0 m (pc + 3) ls rest)) : W p l e R s m args below meth c H locs cells slots Q (F0 m pc ls (.ref a :: rest)) :=
  W.objInit E.1 E.2.1 E.2.2.2.1 (E.2.2.2.2 _ q) (E.2.2.2.2 _ q2) (E.2.2.2.2 _ q3) rfl (by rw [E.2.2.1]; exact hl.1) rfl hdg hR.1 (by show 2 * 0 + _ + 12 ≤ _; omega) kk
end FW3
theorem fc_X0 : fw_C 0 RX0 TX0 6 tyX0 := ⟨rfl, qu_RX0, tyX0_ok, nmX0⟩
theorem fc_X1 : fw_C 1 RX1 TX1 3 tyX1 := ⟨rfl, qu_RX1, tyX1_ok, nmX1⟩
theorem fc_X2 : fw_C 2 RX2 TX2 7 tyX2 := ⟨rfl, qu_RX2, tyX2_ok, nmX2⟩
theorem fc_X3 : fw_C 3 RX3 TX3 8 tyX3 := ⟨rfl, qu_RX3, tyX3_ok, nmX3⟩
theorem fc_X4 : fw_C 4 RX4 TX4 3 tyX4 := ⟨rfl, qu_RX4, tyX4_ok, nmX4⟩
theorem fc_X5 : fw_C 5 RX5 TX5 2 tyX5 := ⟨rfl, qu_RX5, tyX5_ok, nmX5⟩
theorem fc_X6 : fw_C 6 RX6 TX6 1 tyX6 := ⟨rfl, qu_RX6, tyX6_ok, nmX6⟩
theorem fc_X7 : fw_C 7 RX7 TX7 5 tyX7 := ⟨rfl, qu_RX7, tyX7_ok, nmX7⟩
theorem fc_X8 : fw_C 8 RX8 TX8 6 tyX8 := ⟨rfl, qu_RX8, tyX8_ok, nmX8⟩
theorem fc_X9 : fw_C 9 RX9 TX9 9 tyX9 := ⟨rfl, qu_RX9, tyX9_ok, nmX9⟩
theorem fw_H.nm {G : fw_G} {s : State} {M M1 : fw_M} {H : Heap} {locs : List Loc} (h : M1 = M) (hH : fw_H G s M H locs) : fw_H G s M1 H locs := h ▸ hH
theorem fc_X10 : fw_C 10 RX10 TX10 7 tyX10 := ⟨rfl, qu_RX10, tyX10_ok, nmX10⟩
section FW4
variable {p : Program} {l : Launch} {e : Env} {R : Room} {s : State} {m : MethodId} {args : Array Value} {below : List Frame} {meth : Method} {c : Code} {H : Heap} {locs : List Loc} {cells slots : Nat} {Q : State → Prop} {G : fw_G} {M : fw_M} {cc : ByteArray} {nL pc : Nat} {ls : Array Slot} {rest : List Value} {own : String}
theorem fw_zald (E : CallFix p m c cc nL s args fwT own) (hK : fw_K G s) (hH : fw_H G s M H locs) {a n : Nat} {f : Nat → Int32} {i : Int32} (ha : M a = some (fB G n f)) (hin : vp_in i n) (hdg : decode cc pc = .ok (.baload, 1))
    (kk : W p l e R s m args below meth c H locs cells slots Q (F0 m (pc + 1) ls (.int (f i.toNatClampNeg) :: rest))) : W p l e R s m args below meth c H locs cells slots Q (F0 m pc ls (.int i :: .ref a :: rest)) :=
  va_zald (D := G.1) (cl := vwCl) (ws := [(a, fB G n f)]) (tys := fwTys G) E.1 E.2.1 hK.me.1 (fw_one hH ha) 0 3 rfl rfl hin hdg kk
theorem fw_zast (E : CallFix p m c cc nL s args fwT own) (hK : fw_K G s) (hH : fw_H G s M H locs) {a n : Nat} {f : Nat → Int32} {i x : Int32} (hb : G.2.2.1 ≤ a) (ha : M a = some (fB G n f)) (hin : vp_in i n) (hdg : decode cc pc = .ok (.bastore, 1))
    (kk : ∀ (H1 : Heap) (locs1 : List Loc), fw_H G s (fw_up M a (fB G n (upd f i.toNatClampNeg (vp_nar .boolean x)))) H1 locs1 → H1.size = H.size → W p l e R s m args below meth c H1 locs1 cells slots Q (F0 m (pc + 1) ls rest)) : W p l e R s m args below meth c H locs cells slots Q (F0 m pc ls (.int x :: .int i :: .ref a :: rest)) := by
  have ha1 : H[a]? = some (vp_cell (G.2.1 3) (n, .inl f)) := hH.1.2.2 a _ ha
  refine W.zast E.1 E.2.1 ha1 ((hK.me.1.2 3 (G.2.1 3, .boolean) rfl).1 n (fun j => .int (f j))) (fun q => by cases q) (by show ¬ (i < 0 ∨ (arrV _ _ _).slots.size ≤ _); rw [arrV_size]; exact hin) rfl rfl hdg fun H1 e z oq => ?_
  refine kk H1 _ (hH.up hb ?_ z oq (fun q hq => by rw [List.mem_singleton.mp hq])) z
  show H1[a]? = some (vp_cell _ _)
  rw [e]
  rw [vp_cell_i, vp_cell_i, arrV_store]
  congr 2
  funext q
  by_cases hq : q = i.toNatClampNeg
  · subst hq
    simp [updV, upd, vp_nar]
    try rfl
  · simp [updV, upd, hq]
theorem fw_newZ (E : CallFix p m c cc nL s args fwT own) (hK : fw_K G s) (hH : fw_H G s M H locs) {a : Nat} (hz : H.size = a) {n : Int32} {N : Nat} (q : Cond.arrayClass .boolean ∈ fwT) (hn : ¬ n < 0) (hN : n.toNatClampNeg = N) (hbytes : N * componentBytes .boolean ≤ 536870912) (hf : cells + 1 ≤ R.cells ∧ slots + N ≤ R.slots) (hdg : decode cc pc = .ok (.newarray .boolean, 2))
    (kk : ∀ (H1 : Heap), fw_H G s (fw_up M a (fB G N (fun _ => 0))) H1 locs → H1.size = a + 1 → W p l e R s m args below meth c H1 locs (cells + 1) (slots + N) Q (F0 m (pc + 2) ls (.ref a :: rest))) : W p l e R s m args below meth c H locs cells slots Q (F0 m pc ls (.int n :: rest)) := by
  subst hz
  refine va_newaK (atype := .boolean) E.1 E.2.1 (E.2.2.2.2 _ q) rfl hdg rfl hn hN hbytes hf.1 hf.2 rfl fun H1 cA e1 z1 o1 hAr hNm => ?_
  have h2 : s.vm.findClass ("[" ++ FieldType.boolean.toString) = some (G.2.1 3) := (hK.me.1.2 3 (G.2.1 3, .boolean) rfl).2
  have hcA : cA = G.2.1 3 := Option.some.inj (hNm.symm.trans h2)
  subst hcA
  refine kk H1 ⟨hH.1.push ?_ z1 o1, by have := hH.2.1; omega, hH.2.2⟩ z1
  show H1[H.size]? = some (vp_cell _ _)
  exact e1
/-- a row of rows, new: nothing more is known of it -/
theorem fw_newU (E : CallFix p m c cc nL s args fwT own) (hH : fw_H G s M H locs) {a index : Nat} (hz : H.size = a) {n : Int32} {N : Nat} (q : Cond.classLink own index (FieldType.array .int).toString ∈ fwT) (q2 : Cond.arrayOver (.array .int) ∈ fwT) (hn : ¬ n < 0) (hN : n.toNatClampNeg = N) (hbytes : N * 4 ≤ 536870912) (hf : cells + 1 ≤ R.cells ∧ slots + N ≤ R.slots) (hdg : decode cc pc = .ok (.anewarray index, 3))
    (kk : ∀ (H1 : Heap), fw_H G s M H1 locs → H1.size = a + 1 → W p l e R s m args below meth c H1 locs (cells + 1) (slots + N) Q (F0 m (pc + 3) ls (.ref a :: rest))) : W p l e R s m args below meth c H locs cells slots Q (F0 m pc ls (.int n :: rest)) := by
  subst hz
  subst hN
  refine W.anewA E.1 E.2.1 E.2.2.2.1 (E.2.2.2.2 _ q) (E.2.2.2.2 _ q2) rfl hdg rfl hn hbytes hf.1 hf.2 fun cA kA comp f1 f2 f3 f4 => ?_
  generalize hH1 : H.push ({ cls := cA, slots := Array.replicate n.toNatClampNeg .null, vm := .none } : Cell) = H1
  have z1 : H1.size = H.size + 1 := by rw [← hH1, Array.size_push]
  have o1 : ∀ q : Nat, q < H.size → H1[q]? = H[q]? := fun q hq => by rw [← hH1, Array.getElem?_push, if_neg (Nat.ne_of_lt hq)]
  refine kk H1 ⟨⟨by have := hH.1.1; omega, fun q hq => by rw [o1 q (by have := hH.1.1; omega)]; exact hH.1.2.1 q hq, fun b e1 hb => (hH.1.2.2 b e1 hb).kept (o1 b (hH.1.2.2 b e1 hb).lt)⟩, by have := hH.2.1; omega, hH.2.2⟩ z1
/-- rows below the base: static rows, texts -/
theorem fw_ti (E : CallFix p m c cc nL s args fwT own) (hH : fw_H G s M H locs) {t N : Nat} {f : Nat → Value} (hT : va_T .int t N f (fun q => G.2.2.1 ≤ q) s G.2.2.2.1) {i : Int32} (hin : vp_in i N) {v : Value} (hv : f i.toNatClampNeg = v) (hdg : decode cc pc = .ok (.iaload, 1))
    (kk : W p l e R s m args below meth c H locs cells slots Q (F0 m (pc + 1) ls (v :: rest))) : W p l e R s m args below meth c H locs cells slots Q (F0 m pc ls (.int i :: .ref t :: rest)) := by
  obtain ⟨cell, h1, h2, h3, h4, h5, h6, h7⟩ := hT
  have hlt : i.toNatClampNeg < N := Nat.not_le.mp fun q => hin (Or.inr q)
  have hin' : ¬ (i < 0 ∨ cell.slots.size ≤ i.toNatClampNeg) := by
    intro q
    rcases q with q | q
    · exact hin (Or.inl q)
    · omega
  exact W.iald (v := v) E.1 E.2.1 (by rw [hH.1.2.1 t (Nat.not_le.mp h7)]; exact h1) h2 h3 hin' (by rw [h6 _ hlt, hv]) rfl rfl hdg kk
theorem fw_tlen (E : CallFix p m c cc nL s args fwT own) (hH : fw_H G s M H locs) {t N : Nat} {f : Nat → Value} {ty : FieldType} (hT : va_T ty t N f (fun q => G.2.2.1 ≤ q) s G.2.2.2.1) {v : Int32} (hv : Int32.ofNat N = v) (hdg : decode cc pc = .ok (.arraylength, 1))
    (kk : W p l e R s m args below meth c H locs cells slots Q (F0 m (pc + 1) ls (.int v :: rest))) : W p l e R s m args below meth c H locs cells slots Q (F0 m pc ls (.ref t :: rest)) := by
  subst hv
  obtain ⟨cell, h1, h2, h3, h4, h5, h6, h7⟩ := hT
  exact W.alen (n := Int32.ofNat N) E.1 E.2.1 (by rw [hH.1.2.1 t (Nat.not_le.mp h7)]; exact h1) h2 h5 rfl rfl hdg kk
variable {y : MethodName} {bytes : ByteArray} {maxL n index f lo mc ms : Nat} {ret : Option FieldType} {host : String} {post : Option Value → fw_M → Nat → Prop} {As st0 : List Value} {lv : List (Nat × Value)}
end FW4

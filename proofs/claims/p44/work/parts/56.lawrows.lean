/-! rows for the law: rows of rows, a copy of a piece, the script -/
abbrev fU (G : fw_G) (n : Nat) (f : Nat → Option Nat) : va_E := .inl (G.2.1 2, n, .inr (.inr (.inr (.inr f))))
theorem qcp_link : Cond.methodLink RX10 42 arraycopyName ∈ fwT := fw_mem (i := 857) (by decide +kernel) (by decide +kernel)
theorem qcp_nat : Cond.native arraycopyName ∈ fwT := fw_mem (i := 859) (by decide +kernel) (by decide +kernel)
theorem qcp_st : Cond.static arraycopyName ∈ fwT := fw_mem (i := 858) (by decide +kernel) (by decide +kernel)
theorem assign_self (v : Vm) (c : ClassId) : v.assignable c c = true := by
  unfold Vm.assignable
  rw [show (256 : Nat) = 255 + 1 from rfl, Vm.assignableAux]
  rw [beq_self_eq_true, Bool.true_or]
section FLW
variable {p : Program} {l : Launch} {e : Env} {R : Room} {s : State} {m : MethodId} {args : Array Value} {below : List Frame} {meth : Method} {c : Code} {H : Heap} {locs : List Loc} {cells slots : Nat} {Q : State → Prop} {G : fw_G} {M : fw_M} {cc : ByteArray} {nL pc : Nat} {ls : Array Slot} {rest : List Value} {own : String}
theorem fw_newV (E : CallFix p m c cc nL s args fwT own) (hK : fw_K G s) (hH : fw_H G s M H locs) {a index : Nat} (hz : H.size = a) {n : Int32} {N : Nat} (q : Cond.classLink own index (FieldType.array .int).toString ∈ fwT) (q2 : Cond.arrayOver (.array .int) ∈ fwT) (hn : ¬ n < 0) (hN : n.toNatClampNeg = N) (hbytes : N * 4 ≤ 536870912) (hf : cells + 1 ≤ R.cells ∧ slots + N ≤ R.slots) (hdg : decode cc pc = .ok (.anewarray index, 3))
    (kk : ∀ (H1 : Heap), fw_H G s (fw_up M a (fU G N (fun _ => none))) H1 locs → H1.size = a + 1 → W p l e R s m args below meth c H1 locs (cells + 1) (slots + N) Q (F0 m (pc + 3) ls (.ref a :: rest))) : W p l e R s m args below meth c H locs cells slots Q (F0 m pc ls (.int n :: rest)) := by
  subst hz
  subst hN
  refine W.anewA E.1 E.2.1 E.2.2.2.1 (E.2.2.2.2 _ q) (E.2.2.2.2 _ q2) rfl hdg rfl hn hbytes hf.1 hf.2 fun cA kA comp f1 f2 f3 f4 => ?_
  have g4 : s.vm.findClass ("[" ++ (FieldType.array FieldType.int).toString) = some (G.2.1 2) := (hK.me.1.2 2 (G.2.1 2, .array .int) rfl).2
  generalize hH1 : H.push ({ cls := cA, slots := Array.replicate n.toNatClampNeg .null, vm := .none } : Cell) = H1
  have z1 : H1.size = H.size + 1 := by rw [← hH1, Array.size_push]
  have e1 : H1[H.size]? = some (arrV cA n.toNatClampNeg (fun _ => .null)) := by rw [← hH1, Array.getElem?_push_size, ← arrV_new]
  have o1 : ∀ q : Nat, q < H.size → H1[q]? = H[q]? := fun q hq => by rw [← hH1, Array.getElem?_push, if_neg (Nat.ne_of_lt hq)]
  have hcA : cA = G.2.1 2 := Option.some.inj (f1.symm.trans g4)
  subst hcA
  refine kk H1 ⟨hH.1.push ?_ z1 o1, by have := hH.2.1; omega, hH.2.2⟩ z1
  show H1[H.size]? = some (vp_cell _ _)
  exact e1
theorem fw_aastU (E : CallFix p m c cc nL s args fwT own) (hK : fw_K G s) (hH : fw_H G s M H locs) {a n v nv : Nat} {f : Nat → Option Nat} {g : Nat → Int32} {i : Int32} (hb : G.2.2.1 ≤ a) (ha : M a = some (fU G n f)) (hv : M v = some (fI G nv g)) (hin : vp_in i n) (q2 : Cond.arrayOver (.array .int) ∈ fwT) (hdg : decode cc pc = .ok (.aastore, 1))
    (kk : ∀ (H1 : Heap) (locs1 : List Loc), fw_H G s (fw_up M a (fU G n (va_up f i.toNatClampNeg (some v)))) H1 locs1 → H1.size = H.size → W p l e R s m args below meth c H1 locs1 cells slots Q (F0 m (pc + 1) ls rest)) : W p l e R s m args below meth c H locs cells slots Q (F0 m pc ls (.ref v :: .int i :: .ref a :: rest)) := by
  have hlt : i.toNatClampNeg < n := Nat.not_le.mp fun q => hin (Or.inr q)
  have h0 : ¬ i < 0 := fun q => hin (Or.inl q)
  have ha1 : H[a]? = some (vp_cell (G.2.1 2) (n, .inr (.inr (.inr (.inr f))))) := hH.1.2.2 a _ ha
  have hv1 : H[v]? = some (vp_cell (G.2.1 0) (nv, .inl g)) := hH.1.2.2 v _ hv
  obtain ⟨comp, cA, kA, j1, j2, j3, j4, j5⟩ := arrayOverA_spec (E.2.2.2.2 _ q2)
  have g4 : s.vm.findClass ("[" ++ (FieldType.array FieldType.int).toString) = some (G.2.1 2) := (hK.me.1.2 2 (G.2.1 2, .array .int) rfl).2
  have g5 : s.vm.findClass ("[" ++ FieldType.int.toString) = some (G.2.1 0) := (hK.me.1.2 0 (G.2.1 0, .int) rfl).2
  have hcA : cA = G.2.1 2 := Option.some.inj (j5.symm.trans g4)
  have hcomp : comp = G.2.1 0 := Option.some.inj (j1.symm.trans g5)
  subst hcA
  subst hcomp
  obtain ⟨-, kV, hkV, cmV, hkkV⟩ := (hK.me.1.2 0 (G.2.1 0, .int) rfl).1 nv (fun j => .int (g j))
  refine W.aast E.1 E.2.1 ha1 (fun q h => by cases h) (fun h => by cases h) j3 j4 rfl hkV ⟨h0, by show _ < (arrV _ _ _).slots.size; rw [arrV_size]; exact hlt⟩ hv1 (fun q h => by cases h) hkV (assign_self _ _) rfl rfl hdg fun H1 e z oq => ?_
  refine kk H1 _ (hH.up hb ?_ z oq (fun q hq => by rw [List.mem_singleton.mp hq])) z
  show H1[a]? = some (vp_cell _ _)
  rw [e]
  rw [vp_cell_q, vp_cell_q, arrV_store]
  congr 2
  funext q
  by_cases hq : q = i.toNatClampNeg
  · subst hq
    simp [updV, va_up, va_rf]
  · simp [updV, va_up, hq]
/-- System.arraycopy from one row of ints into another -/
theorem fw_copy (E : CallFix p m c cc nL s args fwT own) (hK : fw_K G s) (hH : fw_H G s M H locs) {lv : List (Nat × Value)} (hl : lv_has ls nL lv) {a0 a n0 n1 index : Nat} {f g : Nat → Int32} (ha0 : M a0 = some (fI G n0 f)) (ha1 : M a = some (fI G n1 g)) (hb : G.2.2.1 ≤ a) (q : Cond.methodLink own index arraycopyName ∈ fwT) {x y z : Nat} (hx : x + z ≤ n0) (hy : y + z ≤ n1) (h0 : n0 < 2147483648) (h1 : n1 < 2147483648) (hfr : 1 ≤ R.frames ∧ (rest.map fun v => v.category).sum + (nativeFrameWords "java/lang/System" "arraycopy" 5 + 11) ≤ R.locals) (hdg : decode cc pc = .ok (.invokestatic index, 3))
    (kk : ∀ (H1 : Heap) (locs1 : List Loc), fw_H G s (fw_up M a (fI G n1 (va_cpy f g x y z))) H1 locs1 → H1.size = H.size → W p l e R s m args below meth c H1 locs1 cells slots Q (F0 m (pc + 3) ls rest)) : W p l e R s m args below meth c H locs cells slots Q (F0 m pc ls (.int (iI ↑z) :: .int (iI ↑y) :: .ref a :: .int (iI ↑x) :: .ref a0 :: rest)) := by
  have hnn : ∀ k : Nat, k < 2147483648 → (¬ iI ↑k < 0) ∧ (iI (k : Int)).toNatClampNeg = k ∧ (iI (k : Int)).toInt = ↑k := fun k hk => ⟨fun q => by have := Int32.lt_iff_toInt_lt.mp q; rw [iI_toInt (by omega) (by omega)] at this; have h9 : (0 : Int32).toInt = 0 := (by decide); omega, by rw [iI_ix (by omega) (by omega)]; exact Int.toNat_natCast k, iI_toInt (by omega) (by omega)⟩
  obtain ⟨x1, x2, x3⟩ := hnn x (by omega)
  obtain ⟨y1, y2, y3⟩ := hnn y (by omega)
  obtain ⟨z1, z2, z3⟩ := hnn z (by omega)
  have hc0 : H[a0]? = some (vp_cell (G.2.1 0) (n0, .inl f)) := hH.1.2.2 a0 _ ha0
  have hc1 : H[a]? = some (vp_cell (G.2.1 0) (n1, .inl g)) := hH.1.2.2 a _ ha1
  obtain ⟨-, k0, hk0, cm0, hkk0⟩ := (hK.me.1.2 0 (G.2.1 0, .int) rfl).1 n0 (fun j => .int (f j))
  obtain ⟨-, k1, hk1, cm1, hkk1⟩ := (hK.me.1.2 0 (G.2.1 0, .int) rfl).1 n1 (fun j => .int (g j))
  intro T hT X
  obtain ⟨vm', X', step⟩ := X.arraycopy E.1 E.2.2.2.1 (E.2.2.2.2 _ q) (E.2.2.2.2 _ qcp_nat) (E.2.2.2.2 _ qcp_st) (E.2.2.2.2 _ qn_RJ10) (src := a0) (dst := a) (cs := vp_cell (G.2.1 0) (n0, .inl f)) (cd := vp_cell (G.2.1 0) (n1, .inl g)) (srcPos := iI ↑x) (destPos := iI ↑y) (n := iI ↑z) (by rw [hT]; exact hc0) (by rw [hT]; exact hc1)
    (fun _ h => by cases h) (fun _ h => by cases h) (fun h => by cases h) (fun h => by cases h) hk0 hk1 hkk0 hkk1 (by simp [refKind]) x1 y1 z1
    (by rw [x3, z3]; show ¬ _ > ((arrV (G.2.1 0) n0 (fun j => .int (f j))).slots.size : Int); rw [arrV_size]; omega)
    (by rw [y3, z3]; show ¬ _ > ((arrV (G.2.1 0) n1 (fun j => .int (g j))).slots.size : Int); rw [arrV_size]; omega)
    (fun vm1 _ i hi => by
      rw [z2] at hi
      have ev : (vp_cell (G.2.1 0) (n0, .inl f)).slots.getD ((iI (x : Int)).toNatClampNeg + i) .null = .int (f ((iI (x : Int)).toNatClampNeg + i)) := by
        show (arrV (G.2.1 0) n0 (fun j => .int (f j))).slots.getD _ _ = _
        rw [Array.getD_eq_getD_getElem?, arrV_read _ _ (by rw [x2]; omega)]
        rfl
      rw [ev]
      exact ⟨rfl, trivial⟩)
    (g := F0 m pc ls (.int (iI ↑z) :: .int (iI ↑y) :: .ref a :: .int (iI ↑x) :: .ref a0 :: rest)) rfl (by rw [E.2.2.1]; exact hl.1) (rest := rest) rfl (by rw [E.2.1]; exact hdg) hfr.1 (by have h9 := hfr.2; show 2 * 0 + _ + _ ≤ _; omega)
  have e1 : copied (vp_cell (G.2.1 0) (n0, .inl f)) (vp_cell (G.2.1 0) (n1, .inl g)) (iI ↑x) (iI ↑y) (iI ↑z) = vp_cell (G.2.1 0) (n1, .inl (va_cpy f g x y z)) := by
    have h9 : copied (vp_cell (G.2.1 0) (n0, .inl f)) (vp_cell (G.2.1 0) (n1, .inl g)) (iI ↑x) (iI ↑y) (iI ↑z) = vp_cell (G.2.1 0) (n1, .inl (va_cpy f g (iI (x : Int)).toNatClampNeg (iI (y : Int)).toNatClampNeg (iI (z : Int)).toNatClampNeg)) := va_copied (fun z => .int z) (G.2.1 0) (G.2.1 0) f g (by rw [x2, z2]; exact hx)
    rw [x2, y2, z2] at h9
    exact h9
  rw [e1] at X' step
  have hlt : a < H.size := (Array.getElem?_eq_some_iff.mp hc1).1
  have hheap : ((T.setVm vm').setCell a (vp_cell (G.2.1 0) (n1, .inl (va_cpy f g x y z)))).heap = H.setIfInBounds a (vp_cell (G.2.1 0) (n1, .inl (va_cpy f g x y z))) := by rw [← hT]; rfl
  have oq : ∀ q : Nat, q ≠ a → (H.setIfInBounds a (vp_cell (G.2.1 0) (n1, .inl (va_cpy f g x y z))))[q]? = H[q]? := fun q hq => by simp [Array.getElem?_setIfInBounds, Ne.symm hq]
  obtain ⟨t, a1, b1⟩ := kk _ _ (hH.up (e := fI G n1 (va_cpy f g x y z)) hb (show (H.setIfInBounds a _)[a]? = some _ by simp [Array.getElem?_setIfInBounds, hlt]) (by simp) oq (fun w hw => by
    obtain ⟨u, -, hu⟩ := List.mem_map.mp hw
    rw [← hu])) (by simp) _ hheap X'
  exact ⟨t, step t a1, b1⟩
end FLW
theorem sh_ex (x : Int32) : ∃ z : Int, x = iI z := ⟨x.toInt, (iI_of x).symm⟩
theorem and_ex (x : Int32) : ∃ j : Nat, j < 2147483648 ∧ x &&& (iI 2147483647) = iI ↑j := by
  obtain ⟨j, h1, h2⟩ := pk_andE x (m := iI 2147483647) 31 (by decide)
  exact ⟨j, h1, h2⟩

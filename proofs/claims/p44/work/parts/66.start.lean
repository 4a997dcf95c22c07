theorem st_aoA {t : FieldType} {A A2 : Array Value} {u U : State} (hvm : u.vm.Alike U.vm) (h : (Cond.arrayOver (.array t)).before A u = true) : (Cond.arrayOver (.array t)).before A2 U = true := by
  obtain ⟨comp, c, k, h1, h2, h3, h4, h5⟩ := arrayOverA_spec h
  obtain ⟨k', hk', he⟩ := hvm.2.2 _ _ h3
  have hi : (U.vm.classes.findIdx? fun (x : Class) => match x.kind with | .array component _ => component == comp | _ => false) = some c := by
    have e1 := va_idx_bare U.vm comp
    have e2 := va_idx_bare u.vm comp
    have e3 : U.vm.bare = u.vm.bare := by first | exact hvm.bare_eq | exact hvm.bare_eq.symm
    rw [e3] at e1
    exact (e1.symm.trans e2).trans h2
  have hkind : k'.kind = .array comp (.array t) := by rw [he]; exact h4
  have f1 : U.vm.findClass (FieldType.array t).toString = some comp := by rw [hvm.findClass]; exact h1
  have f2 : U.vm.findClass ("[" ++ (FieldType.array t).toString) = some c := by rw [hvm.findClass]; exact h5
  unfold Cond.before Cond.holds
  simp only [Cond.value]
  rw [f1, Option.bind_some]
  refine (congrArg (fun o : Option Nat => (o.bind (fun c => (U.vm.classes[c]?).map fun (k : Class) => match k.kind with | .array _ ty => decide (ty = FieldType.array t) && decide (U.vm.findClass ("[" ++ (FieldType.array t).toString) = some c) | _ => false) == some true)) hi).trans ?_
  simp [hk', hkind, f2]
def st_isAO : Cond → Bool
  | .arrayOver (.object _) => true
  | .arrayOver (.array _) => true
  | .arrayOver _ => false
  | _ => true
theorem st_ao : fwT.all st_isAO = true := by decide +kernel
theorem st_words {s V : State} (hV : s.WarmedH V.vm) {A0 : Array Value} (hts : ∀ w ∈ lw_tbl, w.before A0 s = true) : ∀ w ∈ fwT, ∀ A : Array Value, w.before A V = true := by
  intro w hw A
  obtain ⟨h1, h2⟩ := List.mem_filter.mp hw
  have h := hts w h1
  have h3 : st_isAO w = true := List.all_eq_true.mp st_ao w hw
  by_cases hg : goodWord w = true
  · exact word_at hV (good_of_word hg) h
  · unfold fwOk at h2
    split at h2
    · exact (va_Nw.warmF hV (va_Nw.of rfl h)).use rfl
    · exact (va_Nw.warmM hV (va_Nw.of rfl h)).use rfl
    · rename_i ty
      cases ty with
      | object C => exact va_AO.use (va_AO.moved hV.alike (va_AO.of h))
      | array t => exact st_aoA hV.alike h
      | _ => exact absurd h3 (by simp [st_isAO])
    · exact (va_Nw.warmD hV (va_Nw.of rfl h)).use rfl
    · exact (va_Nw.warmC hV (va_Nw.of rfl h)).use rfl
    · exact absurd h2 hg
theorem st_K {s : State} {b L : Nat} {xs : Nat → Int32} (hts : ∀ w ∈ lw_tbl, w.before #[Value.ref b] s = true) (hgv : (Jvm.Cond.and given_1 narrow_1).before #[Value.ref b] s = true) (hX : va_X b L xs s s.heap) (hL : L ≤ 260) (hbl : b < s.heap.size) : ∃ G : fw_G, G.2.2.1 = s.heap.size ∧ G.2.2.2.1 = s.heap ∧ G.2.2.2.2 3 = b ∧ fw_K G s := by
  have hs := flat_of_before _ hgv
  have hA : ∀ a : Nat, a < s.heap.size → ¬ (fun q => s.heap.size ≤ q) a := fun a h => Nat.not_le.mpr h
  obtain ⟨c0, i0, hk0⟩ := u_known (C := RX0) (T := TX0) (N := 6) (n := 6) (fun w hw => hts w (List.mem_filter.mp hw).1) qu_RX0 (hts _ (List.mem_filter.mp qt_RX0).1)
  obtain ⟨c1, i1, hk1⟩ := u_known (C := RX1) (T := TX1) (N := 3) (n := 3) (fun w hw => hts w (List.mem_filter.mp hw).1) qu_RX1 (hts _ (List.mem_filter.mp qt_RX1).1)
  obtain ⟨c2, i2, hk2⟩ := u_known (C := RX2) (T := TX2) (N := 7) (n := 7) (fun w hw => hts w (List.mem_filter.mp hw).1) qu_RX2 (hts _ (List.mem_filter.mp qt_RX2).1)
  obtain ⟨c3, i3, hk3⟩ := u_known (C := RX3) (T := TX3) (N := 8) (n := 8) (fun w hw => hts w (List.mem_filter.mp hw).1) qu_RX3 (hts _ (List.mem_filter.mp qt_RX3).1)
  obtain ⟨c4, i4, hk4⟩ := u_known (C := RX4) (T := TX4) (N := 3) (n := 3) (fun w hw => hts w (List.mem_filter.mp hw).1) qu_RX4 (hts _ (List.mem_filter.mp qt_RX4).1)
  obtain ⟨c5, i5, hk5⟩ := u_known (C := RX5) (T := TX5) (N := 2) (n := 2) (fun w hw => hts w (List.mem_filter.mp hw).1) qu_RX5 (hts _ (List.mem_filter.mp qt_RX5).1)
  obtain ⟨c6, i6, hk6⟩ := u_known (C := RX6) (T := TX6) (N := 1) (n := 1) (fun w hw => hts w (List.mem_filter.mp hw).1) qu_RX6 (hts _ (List.mem_filter.mp qt_RX6).1)
  obtain ⟨c7, i7, hk7⟩ := u_known (C := RX7) (T := TX7) (N := 5) (n := 5) (fun w hw => hts w (List.mem_filter.mp hw).1) qu_RX7 (hts _ (List.mem_filter.mp qt_RX7).1)
  obtain ⟨c8, i8, hk8⟩ := u_known (C := RX8) (T := TX8) (N := 6) (n := 6) (fun w hw => hts w (List.mem_filter.mp hw).1) qu_RX8 (hts _ (List.mem_filter.mp qt_RX8).1)
  obtain ⟨c9, i9, hk9⟩ := u_known (C := RX9) (T := TX9) (N := 9) (n := 9) (fun w hw => hts w (List.mem_filter.mp hw).1) qu_RX9 (hts _ (List.mem_filter.mp qt_RX9).1)
  obtain ⟨c10, i10, hk10⟩ := u_known (C := RX10) (T := TX10) (N := 7) (n := 7) (fun w hw => hts w (List.mem_filter.mp hw).1) qu_RX10 (hts _ (List.mem_filter.mp qt_RX10).1)
  obtain ⟨dC, dI, hKc⟩ : ∃ (dC : Nat → ClassId) (dI : Nat → Nat → Nat), ∀ (k : Nat) (q : vw_C), vwCl[k]? = some q → u_Kn s q.1 q.2.1 q.2.2 (dC k) (dI k) := by
    refine ⟨fun k => [c0, c1, c2, c3, c4, c5, c6, c7, c8, c9, c10].getD k c0, fun k => [i0, i1, i2, i3, i4, i5, i6, i7, i8, i9, i10].getD k i0, ?_⟩
    intro k q hq
    match k, hq with
    | 0, hq => cases hq; exact hk0
    | 1, hq => cases hq; exact hk1
    | 2, hq => cases hq; exact hk2
    | 3, hq => cases hq; exact hk3
    | 4, hq => cases hq; exact hk4
    | 5, hq => cases hq; exact hk5
    | 6, hq => cases hq; exact hk6
    | 7, hq => cases hq; exact hk7
    | 8, hq => cases hq; exact hk8
    | 9, hq => cases hq; exact hk9
    | 10, hq => cases hq; exact hk10
    | k + 11, hq => simp [vwCl] at hq
  obtain ⟨aI, kAI, cmI, fI, gI, eI⟩ := Cond.arrayClass_spec (hts _ (List.mem_filter.mp qa_int).1)
  obtain ⟨aZ, kAZ, cmZ, fZ, gZ, eZ⟩ := Cond.arrayClass_spec (hts _ (List.mem_filter.mp qa_boolean).1)
  obtain ⟨cmT, aT, kAT, f1T, f2T, f3T, f4T, f5T⟩ := Cond.arrayOver_spec (hts _ (List.mem_filter.mp qo_RX8).1)
  obtain ⟨cmU, aU, kAU, f1U, f2U, f3U, f4U, f5U⟩ := arrayOverA_spec (hts _ (List.mem_filter.mp qo_arr).1)
  have hE0 : ∀ j, j < 14 → (Cond.eq (.elem (.static RX9 "PARTS" "[I") (.int (Int32.ofNat j))) (.int (iI (zPARTS j)))).before #[Value.ref b] s = true := fun j hj => hs _ ((by decide +kernel : ∀ j, j < 14 → Cond.eq (.elem (.static RX9 "PARTS" "[I") (.int (Int32.ofNat j))) (.int (iI (zPARTS j))) ∈ flatC (Jvm.Cond.and given_1 narrow_1)) j hj)
  obtain ⟨t0, ht0, hT0⟩ := va_Tof (args := #[Value.ref b]) (s := s) (tm := .static RX9 "PARTS" "[I") (ty := .int) (N := 14) (f := fun j => .int (iI (zPARTS j))) (A := fun q => s.heap.size ≤ q) (by decide) (hs _ (by decide +kernel)) (va_eqt (hs _ (by decide +kernel))) (fun j hj => va_eqt (hE0 j hj)) hA
  have z0 : va_Z RX9 "PARTS" "[I" (.ref t0) (fun q => s.heap.size ≤ q) s s.heap := va_Zof (hts _ (by decide +kernel)) (hts _ (List.mem_filter.mp qn_RX9).1) ht0 hA
  have hE1 : ∀ j, j < 14 → (Cond.eq (.elem (.static RX9 "KIN_STARTS" "[I") (.int (Int32.ofNat j))) (.int (iI (zKS j)))).before #[Value.ref b] s = true := fun j hj => hs _ ((by decide +kernel : ∀ j, j < 14 → Cond.eq (.elem (.static RX9 "KIN_STARTS" "[I") (.int (Int32.ofNat j))) (.int (iI (zKS j))) ∈ flatC (Jvm.Cond.and given_1 narrow_1)) j hj)
  obtain ⟨t1, ht1, hT1⟩ := va_Tof (args := #[Value.ref b]) (s := s) (tm := .static RX9 "KIN_STARTS" "[I") (ty := .int) (N := 14) (f := fun j => .int (iI (zKS j))) (A := fun q => s.heap.size ≤ q) (by decide) (hs _ (by decide +kernel)) (va_eqt (hs _ (by decide +kernel))) (fun j hj => va_eqt (hE1 j hj)) hA
  have z1 : va_Z RX9 "KIN_STARTS" "[I" (.ref t1) (fun q => s.heap.size ≤ q) s s.heap := va_Zof (hts _ (by decide +kernel)) (hts _ (List.mem_filter.mp qn_RX9).1) ht1 hA
  have hE2 : ∀ j, j < 14 → (Cond.eq (.elem (.static RX9 "KIN_COUNTS" "[I") (.int (Int32.ofNat j))) (.int (iI (zKC j)))).before #[Value.ref b] s = true := fun j hj => hs _ ((by decide +kernel : ∀ j, j < 14 → Cond.eq (.elem (.static RX9 "KIN_COUNTS" "[I") (.int (Int32.ofNat j))) (.int (iI (zKC j))) ∈ flatC (Jvm.Cond.and given_1 narrow_1)) j hj)
  obtain ⟨t2, ht2, hT2⟩ := va_Tof (args := #[Value.ref b]) (s := s) (tm := .static RX9 "KIN_COUNTS" "[I") (ty := .int) (N := 14) (f := fun j => .int (iI (zKC j))) (A := fun q => s.heap.size ≤ q) (by decide) (hs _ (by decide +kernel)) (va_eqt (hs _ (by decide +kernel))) (fun j hj => va_eqt (hE2 j hj)) hA
  have z2 : va_Z RX9 "KIN_COUNTS" "[I" (.ref t2) (fun q => s.heap.size ≤ q) s s.heap := va_Zof (hts _ (by decide +kernel)) (hts _ (List.mem_filter.mp qn_RX9).1) ht2 hA
  have hT3 : va_T .int b L (fun j => .int (xs j)) (fun q => s.heap.size ≤ q) s s.heap := by
    obtain ⟨scr, x1, x2, x3, x4, x5⟩ := hX
    exact ⟨scr, x1, x2, x3, Nat.le_of_eq x4.symm, by rw [x4], x5, hA b hbl⟩
  obtain ⟨ad, had⟩ : ∃ ad : Nat → Nat, ad = fun n => if n = 0 then t0 else if n = 1 then t1 else if n = 2 then t2 else b := ⟨_, rfl⟩
  have e0 : ad 0 = t0 := by rw [had]; rfl
  have e1 : ad 1 = t1 := by rw [had]; rfl
  have e2 : ad 2 = t2 := by rw [had]; rfl
  have e3 : ad 3 = b := by rw [had]; rfl
  have arr : ∀ {cA : ClassId} {kA : Class} {comp : ClassId} {ty : FieldType}, s.vm.classes[cA]? = some kA → kA.kind = .array comp ty → ArrOfT s cA ty := fun h2 h3 n z => ⟨fun k h => (by cases h), _, h2, _, h3⟩
  refine ⟨((dC, dI), (fun k => [aI, aT, aU, aZ].getD k aI), s.heap.size, s.heap, ad), rfl, rfl, e3, ?_⟩
  intro V hW
  have hal := hW.alike
  refine ⟨va_K.moved hal ⟨hKc, fun k q hq => ?_⟩, st_words hW hts, ?_⟩
  · match k, hq with
    | 0, hq => cases hq; exact ⟨arr gI eI, fI⟩
    | 1, hq => cases hq; exact ⟨arr f3T f4T, kAT, cmT, f3T, f4T, f1T, f5T⟩
    | 2, hq => cases hq; exact ⟨arr f3U f4U, f5U⟩
    | 3, hq => cases hq; exact ⟨arr gZ eZ, fZ⟩
    | k + 4, hq => simp [fwTys] at hq
  · refine ⟨?_, ?_, ?_, ?_, ?_, ?_, L, xs, hL, ?_⟩
    · show va_Z RX9 "PARTS" "[I" (.ref (ad 0)) _ V s.heap
      rw [e0]; exact va_Z.moved hal z0
    · show va_Z RX9 "KIN_STARTS" "[I" (.ref (ad 1)) _ V s.heap
      rw [e1]; exact va_Z.moved hal z1
    · show va_Z RX9 "KIN_COUNTS" "[I" (.ref (ad 2)) _ V s.heap
      rw [e2]; exact va_Z.moved hal z2
    · show va_T .int (ad 0) 14 _ _ V s.heap
      rw [e0]; exact va_T.moved hal hT0
    · show va_T .int (ad 1) 14 _ _ V s.heap
      rw [e1]; exact va_T.moved hal hT1
    · show va_T .int (ad 2) 14 _ _ V s.heap
      rw [e2]; exact va_T.moved hal hT2
    · show va_T .int (ad 3) L _ _ V s.heap
      rw [e3]; exact va_T.moved hal hT3

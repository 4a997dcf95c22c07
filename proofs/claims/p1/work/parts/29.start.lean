theorem bn0.fr {G : fw_G} {M M1 : fw_M} {a : Nat} (h : bn0 G M a) (hf : ∀ q, a ≤ q → q < a + 378 → M1 q = M q) : bn0 G M1 a := by
  obtain ⟨h0, h1, h2, h3, h4, h5, h6, h7, h8, h9⟩ := h
  exact ⟨h0.fr (fun q u v => hf q (by omega) (by omega)), h1.fr (fun q u v => hf q (by omega) (by omega)), h2.fr (fun q u v => hf q (by omega) (by omega)), h3.fr (fun q u v => hf q (by omega) (by omega)), h4.fr (fun q u v => hf q (by omega) (by omega)), h5.fr (fun q u v => hf q (by omega) (by omega)), h6.fr (fun q u v => hf q (by omega) (by omega)), h7.fr (fun q u v => hf q (by omega) (by omega)), h8.fr (fun q u v => hf q (by omega) (by omega)), h9.fr (fun q u v => hf q (by omega) (by omega))⟩
theorem st_str {args : Array Value} {s : State} {A : Nat → Prop} (hA : ∀ a : Nat, a < s.heap.size → ¬ A a) {tm : Term} {a : Nat} (hev : tm.eval args s none [] s = some (.ref a)) {n : Nat} {bs : List Int32} (hn : n < 2 ^ 31) (hex : (Cond.exactly tm "java/lang/String").before args s = true) (hco : (Cond.eq (.field tm "java/lang/String" "coder" "B") (.int 0)).before args s = true) (har : (Cond.arrayOf (.field tm "java/lang/String" "value" "[B") .byte).before args s = true) (hle : (Cond.eq (.length (.field tm "java/lang/String" "value" "[B")) (.int (Int32.ofNat n))).before args s = true)
    (hel : ∀ j : Nat, j < n → (Cond.eq (.elem (.field tm "java/lang/String" "value" "[B") (.int (Int32.ofNat j))) (.int (bs.getD j 0))).before args s = true) : ∃ t : Nat, va_O "java/lang/String" a A s s.heap ∧ va_OF "java/lang/String" "coder" "B" (.int 0) a A s s.heap ∧ va_OF "java/lang/String" "value" "[B" (.ref t) a A s s.heap ∧ va_T .byte t n (fun j => .int (bs.getD j 0)) A s s.heap := by
  obtain ⟨a2, c2, cA, kA, q1, q2, q3, q4, q5, q6, -⟩ := Cond.exactly_spec (args := args) (first := s) (o := none) (s := s) (idx := []) (t := tm) (cls := "java/lang/String") hex
  have e2 : a2 = a := by
    have h9 := q1.symm.trans hev
    cases h9
    rfl
  subst e2
  obtain ⟨t, ht, hT⟩ := va_Tof (f := fun j => .int (bs.getD j 0)) (A := A) hn har (va_eqt hle) (fun j hj => va_eqt (hel j hj)) hA
  exact ⟨t, ⟨cA, q3, q5, by rw [q6]; exact q2, hA a2 (Array.getElem?_eq_some_iff.mp q3).1⟩, vk_OFof q1 (va_eqt hco) hA, vk_OFof q1 ht hA, hT⟩
theorem st_aoA {t : FieldType} {A A2 : Array Value} {u U : State} (hvm : u.vm.Alike U.vm) (h : (Cond.arrayOver (.array t)).before A u = true) : (Cond.arrayOver (.array t)).before A2 U = true := by
  obtain ⟨comp, c, k, h1, h2, h3, h4, h5⟩ := arrayOverA_spec h
  obtain ⟨k', hk', he⟩ := hvm.2.2 _ _ h3
  have hi : (U.vm.classes.findIdx? fun (x : Class) => match x.kind with | .array component _ => component == comp | _ => false) = some c := by
    have e1 := va_idx_bare U.vm comp
    have e2 := va_idx_bare u.vm comp
    have e3 : U.vm.bare = u.vm.bare := by first | exact hvm.bare_eq | exact hvm.bare_eq.symm
    rw [e3] at e1
    exact (e1.symm.trans e2).trans h2
  have hkind : k'.kind = .array comp (.array t) := by rw [he]; exact h4
  have f1 : U.vm.findClass (FieldType.array t).toString = some comp := by rw [hvm.findClass]; exact h1
  have f2 : U.vm.findClass ("[" ++ (FieldType.array t).toString) = some c := by rw [hvm.findClass]; exact h5
  unfold Cond.before Cond.holds
  simp only [Cond.value]
  rw [f1, Option.bind_some]
  refine (congrArg (fun o : Option Nat => (o.bind (fun c => (U.vm.classes[c]?).map fun (k : Class) => match k.kind with | .array _ ty => decide (ty = FieldType.array t) && decide (U.vm.findClass ("[" ++ (FieldType.array t).toString) = some c) | _ => false) == some true)) hi).trans ?_
  simp [hk', hkind, f2]
def st_isAO : Cond → Bool
  | .arrayOver (.object _) => true
  | .arrayOver (.array _) => true
  | .arrayOver _ => false
  | _ => true
theorem st_ao : fwT.all st_isAO = true := by decide +kernel
theorem st_words {s V : State} (hV : s.WarmedH V.vm) {A0 : Array Value} (hts : ∀ w ∈ lw_tbl, w.before A0 s = true) : ∀ w ∈ fwT, ∀ A : Array Value, w.before A V = true := by
  intro w hw A
  obtain ⟨h1, h2⟩ := List.mem_filter.mp hw
  have h := hts w h1
  have h3 : st_isAO w = true := List.all_eq_true.mp st_ao w hw
  by_cases hg : goodWord w = true
  · exact word_at hV (good_of_word hg) h
  · unfold fwOk at h2
    split at h2
    · exact (va_Nw.warmF hV (va_Nw.of rfl h)).use rfl
    · exact (va_Nw.warmM hV (va_Nw.of rfl h)).use rfl
    · rename_i ty
      cases ty with
      | object C => exact va_AO.use (va_AO.moved hV.alike (va_AO.of h))
      | array t => exact st_aoA hV.alike h
      | _ => exact absurd h3 (by simp [st_isAO])
    · exact (va_Nw.warmD hV (va_Nw.of rfl h)).use rfl
    · exact (va_Nw.warmC hV (va_Nw.of rfl h)).use rfl
    · exact absurd h2 hg
theorem st_texts {s : State} {b : Nat} (hts : ∀ w ∈ lw_tbl, w.before #[Value.ref b] s = true) (hs : ∀ w ∈ flatC (Jvm.Cond.and given_1 narrow_1), w.before #[Value.ref b] s = true) : ∀ i : Nat, ∃ a : Nat, ∀ q : String × Nat × String, fwStr[i]? = some q → (Cond.stringRef q.1 q.2.1 q.2.2).before #[Value.ref b] s = true ∧ (Term.string q.1 q.2.1).eval #[Value.ref b] s none [] s = some (.ref a) := by
  have h0 : ∀ (own tx : String) (k : Nat), Cond.stringRef own k tx ∈ lw_tbl → Cond.exactly (.string own k) "java/lang/String" ∈ flatC (Jvm.Cond.and given_1 narrow_1) → ∃ a : Nat, (Cond.stringRef own k tx).before #[Value.ref b] s = true ∧ (Term.string own k).eval #[Value.ref b] s none [] s = some (.ref a) := by
    intro own tx k h1 h2
    obtain ⟨a2, c2, cA, kA, q1, -⟩ := Cond.exactly_spec (args := #[Value.ref b]) (first := s) (o := none) (s := s) (idx := []) (t := .string own k) (cls := "java/lang/String") (hs _ h2)
    exact ⟨a2, hts _ h1, q1⟩
  intro i
  match i with
  | 0 => obtain ⟨a, h1, h2⟩ := h0 RX9 "code is not 0 to 13" 309 (by decide +kernel) (by decide +kernel); exact ⟨a, fun q hq => by cases hq; exact ⟨h1, h2⟩⟩
  | 1 => obtain ⟨a, h1, h2⟩ := h0 RX9 "the value of a CONSTANT is not -99 to 99" 311 (by decide +kernel) (by decide +kernel); exact ⟨a, fun q hq => by cases hq; exact ⟨h1, h2⟩⟩
  | 2 => obtain ⟨a, h1, h2⟩ := h0 RX9 "the value of an INPUT is not 0 to 2" 313 (by decide +kernel) (by decide +kernel); exact ⟨a, fun q hq => by cases hq; exact ⟨h1, h2⟩⟩
  | 3 => obtain ⟨a, h1, h2⟩ := h0 RX9 "the NODE cannot come to the SKETCH" 78 (by decide +kernel) (by decide +kernel); exact ⟨a, fun q hq => by cases hq; exact ⟨h1, h2⟩⟩
  | 4 => obtain ⟨a, h1, h2⟩ := h0 RX9 "the SKETCH is no TREE, or the GROVE is full" 102 (by decide +kernel) (by decide +kernel); exact ⟨a, fun q hq => by cases hq; exact ⟨h1, h2⟩⟩
  | 5 => obtain ⟨a, h1, h2⟩ := h0 RX9 "there is no such TREE" 301 (by decide +kernel) (by decide +kernel); exact ⟨a, fun q hq => by cases hq; exact ⟨h1, h2⟩⟩
  | 6 => obtain ⟨a, h1, h2⟩ := h0 RX9 "an input is not -99 to 99" 318 (by decide +kernel) (by decide +kernel); exact ⟨a, fun q hq => by cases hq; exact ⟨h1, h2⟩⟩
  | 7 => obtain ⟨a, h1, h2⟩ := h0 RX9 "what is due is not -9999 to 9999" 122 (by decide +kernel) (by decide +kernel); exact ⟨a, fun q hq => by cases hq; exact ⟨h1, h2⟩⟩
  | 8 => obtain ⟨a, h1, h2⟩ := h0 RX9 "there are 12 CASES" 128 (by decide +kernel) (by decide +kernel); exact ⟨a, fun q hq => by cases hq; exact ⟨h1, h2⟩⟩
  | 9 => obtain ⟨a, h1, h2⟩ := h0 RX9 "way is not 0 to 2, or weight is not 0 to 99" 133 (by decide +kernel) (by decide +kernel); exact ⟨a, fun q hq => by cases hq; exact ⟨h1, h2⟩⟩
  | 10 => obtain ⟨a, h1, h2⟩ := h0 RX9 "there is no such PLACE" 303 (by decide +kernel) (by decide +kernel); exact ⟨a, fun q hq => by cases hq; exact ⟨h1, h2⟩⟩
  | 11 => obtain ⟨a, h1, h2⟩ := h0 RX9 "value is not -99 to 99" 173 (by decide +kernel) (by decide +kernel); exact ⟨a, fun q hq => by cases hq; exact ⟨h1, h2⟩⟩
  | 12 => obtain ⟨a, h1, h2⟩ := h0 RX9 "a rate is not 0 to 100, or they are more than 100 together" 184 (by decide +kernel) (by decide +kernel); exact ⟨a, fun q hq => by cases hq; exact ⟨h1, h2⟩⟩
  | 13 => obtain ⟨a, h1, h2⟩ := h0 RX9 "tournament is not 1 to 5, or elite is not 0 to 4" 195 (by decide +kernel) (by decide +kernel); exact ⟨a, fun q hq => by cases hq; exact ⟨h1, h2⟩⟩
  | 14 => obtain ⟨a, h1, h2⟩ := h0 RX9 "luck is not 0 to 9999" 203 (by decide +kernel) (by decide +kernel); exact ⟨a, fun q hq => by cases hq; exact ⟨h1, h2⟩⟩
  | 15 => obtain ⟨a, h1, h2⟩ := h0 RX9 "number is less than 0" 214 (by decide +kernel) (by decide +kernel); exact ⟨a, fun q hq => by cases hq; exact ⟨h1, h2⟩⟩
  | 16 => obtain ⟨a, h1, h2⟩ := h0 RX9 "40 numbers wait" 219 (by decide +kernel) (by decide +kernel); exact ⟨a, fun q hq => by cases hq; exact ⟨h1, h2⟩⟩
  | 17 => obtain ⟨a, h1, h2⟩ := h0 RX9 "generations is not 1 to 10" 305 (by decide +kernel) (by decide +kernel); exact ⟨a, fun q hq => by cases hq; exact ⟨h1, h2⟩⟩
  | 18 => obtain ⟨a, h1, h2⟩ := h0 RX9 "the GROVE is empty" 307 (by decide +kernel) (by decide +kernel); exact ⟨a, fun q hq => by cases hq; exact ⟨h1, h2⟩⟩
  | 19 => obtain ⟨a, h1, h2⟩ := h0 RX9 "there is no such rank" 261 (by decide +kernel) (by decide +kernel); exact ⟨a, fun q hq => by cases hq; exact ⟨h1, h2⟩⟩
  | 20 => obtain ⟨a, h1, h2⟩ := h0 RX10 "" 3 (by decide +kernel) (by decide +kernel); exact ⟨a, fun q hq => by cases hq; exact ⟨h1, h2⟩⟩
  | 21 => obtain ⟨a, h1, h2⟩ := h0 RX10 "nn" 5 (by decide +kernel) (by decide +kernel); exact ⟨a, fun q hq => by cases hq; exact ⟨h1, h2⟩⟩
  | 22 => obtain ⟨a, h1, h2⟩ := h0 RX10 "cnn" 7 (by decide +kernel) (by decide +kernel); exact ⟨a, fun q hq => by cases hq; exact ⟨h1, h2⟩⟩
  | 23 => obtain ⟨a, h1, h2⟩ := h0 RX10 "c" 9 (by decide +kernel) (by decide +kernel); exact ⟨a, fun q hq => by cases hq; exact ⟨h1, h2⟩⟩
  | 24 => obtain ⟨a, h1, h2⟩ := h0 RX10 "cc" 11 (by decide +kernel) (by decide +kernel); exact ⟨a, fun q hq => by cases hq; exact ⟨h1, h2⟩⟩
  | n + 25 => exact ⟨0, fun q hq => by simp [fwStr] at hq⟩
theorem st_K {s : State} {b : Nat} (hts : ∀ w ∈ lw_tbl, w.before #[Value.ref b] s = true) (hgv : (Jvm.Cond.and given_1 narrow_1).before #[Value.ref b] s = true) : ∃ G : fw_G, G.2.2.1 = s.heap.size ∧ G.2.2.2.1 = s.heap ∧ fw_K G s := by
  have hs := flat_of_before _ hgv
  have hA : ∀ a : Nat, a < s.heap.size → ¬ (fun q => s.heap.size ≤ q) a := fun a h => Nat.not_le.mpr h
  obtain ⟨c0, i0, hk0⟩ := u_known (C := RX0) (T := TX0) (N := 6) (n := 6) (fun w hw => hts w (List.mem_filter.mp hw).1) qu_RX0 (hts _ (List.mem_filter.mp qt_RX0).1)
  obtain ⟨c1, i1, hk1⟩ := u_known (C := RX1) (T := TX1) (N := 3) (n := 3) (fun w hw => hts w (List.mem_filter.mp hw).1) qu_RX1 (hts _ (List.mem_filter.mp qt_RX1).1)
  obtain ⟨c2, i2, hk2⟩ := u_known (C := RX2) (T := TX2) (N := 7) (n := 7) (fun w hw => hts w (List.mem_filter.mp hw).1) qu_RX2 (hts _ (List.mem_filter.mp qt_RX2).1)
  obtain ⟨c3, i3, hk3⟩ := u_known (C := RX3) (T := TX3) (N := 8) (n := 8) (fun w hw => hts w (List.mem_filter.mp hw).1) qu_RX3 (hts _ (List.mem_filter.mp qt_RX3).1)
  obtain ⟨c4, i4, hk4⟩ := u_known (C := RX4) (T := TX4) (N := 3) (n := 3) (fun w hw => hts w (List.mem_filter.mp hw).1) qu_RX4 (hts _ (List.mem_filter.mp qt_RX4).1)
  obtain ⟨c5, i5, hk5⟩ := u_known (C := RX5) (T := TX5) (N := 2) (n := 2) (fun w hw => hts w (List.mem_filter.mp hw).1) qu_RX5 (hts _ (List.mem_filter.mp qt_RX5).1)
  obtain ⟨c6, i6, hk6⟩ := u_known (C := RX6) (T := TX6) (N := 1) (n := 1) (fun w hw => hts w (List.mem_filter.mp hw).1) qu_RX6 (hts _ (List.mem_filter.mp qt_RX6).1)
  obtain ⟨c7, i7, hk7⟩ := u_known (C := RX7) (T := TX7) (N := 5) (n := 5) (fun w hw => hts w (List.mem_filter.mp hw).1) qu_RX7 (hts _ (List.mem_filter.mp qt_RX7).1)
  obtain ⟨c8, i8, hk8⟩ := u_known (C := RX8) (T := TX8) (N := 6) (n := 6) (fun w hw => hts w (List.mem_filter.mp hw).1) qu_RX8 (hts _ (List.mem_filter.mp qt_RX8).1)
  obtain ⟨c9, i9, hk9⟩ := u_known (C := RX9) (T := TX9) (N := 9) (n := 9) (fun w hw => hts w (List.mem_filter.mp hw).1) qu_RX9 (hts _ (List.mem_filter.mp qt_RX9).1)
  obtain ⟨c10, i10, hk10⟩ := u_known (C := RX10) (T := TX10) (N := 21) (n := 21) (fun w hw => hts w (List.mem_filter.mp hw).1) qu_RX10 (hts _ (List.mem_filter.mp qt_RX10).1)
  obtain ⟨dC, dI, hKc⟩ : ∃ (dC : Nat → ClassId) (dI : Nat → Nat → Nat), ∀ (k : Nat) (q : vw_C), vwCl[k]? = some q → u_Kn s q.1 q.2.1 q.2.2 (dC k) (dI k) := by
    refine ⟨fun k => [c0, c1, c2, c3, c4, c5, c6, c7, c8, c9, c10].getD k c0, fun k => [i0, i1, i2, i3, i4, i5, i6, i7, i8, i9, i10].getD k i0, ?_⟩
    intro k q hq
    match k, hq with
    | 0, hq => cases hq; exact hk0
    | 1, hq => cases hq; exact hk1
    | 2, hq => cases hq; exact hk2
    | 3, hq => cases hq; exact hk3
    | 4, hq => cases hq; exact hk4
    | 5, hq => cases hq; exact hk5
    | 6, hq => cases hq; exact hk6
    | 7, hq => cases hq; exact hk7
    | 8, hq => cases hq; exact hk8
    | 9, hq => cases hq; exact hk9
    | 10, hq => cases hq; exact hk10
    | k + 11, hq => simp [vwCl] at hq
  obtain ⟨aI, kAI, cmI, fI, gI, eI⟩ := Cond.arrayClass_spec (hts _ (List.mem_filter.mp qa_int).1)
  obtain ⟨aJ, kAJ, cmJ, fJ, gJ, eJ⟩ := Cond.arrayClass_spec (hts _ (List.mem_filter.mp qa_long).1)
  obtain ⟨aZ, kAZ, cmZ, fZ, gZ, eZ⟩ := Cond.arrayClass_spec (hts _ (List.mem_filter.mp qa_boolean).1)
  obtain ⟨cmT, aT, kAT, f1T, f2T, f3T, f4T, f5T⟩ := Cond.arrayOver_spec (hts _ (List.mem_filter.mp qo_RX8).1)
  have hE : ∀ j, j < 14 → (Cond.eq (.elem (.static RX9 "PARTS" "[I") (.int (Int32.ofNat j))) (.int (iI (zPARTS j)))).before #[Value.ref b] s = true := fun j hj => hs _ ((by decide +kernel : ∀ j, j < 14 → Cond.eq (.elem (.static RX9 "PARTS" "[I") (.int (Int32.ofNat j))) (.int (iI (zPARTS j))) ∈ flatC (Jvm.Cond.and given_1 narrow_1)) j hj)
  obtain ⟨t0, ht0, hT0⟩ := va_Tof (args := #[Value.ref b]) (s := s) (tm := .static RX9 "PARTS" "[I") (ty := .int) (N := 14) (f := fun j => .int (iI (zPARTS j))) (A := fun q => s.heap.size ≤ q) (by decide) (hs _ (by decide +kernel)) (va_eqt (hs _ (by decide +kernel))) (fun j hj => va_eqt (hE j hj)) hA
  obtain ⟨t1, _, ht1, -⟩ := Term.length_spec (va_eqt (hs (Cond.eq (.length (.static RX9 "KIN_STARTS" "[I")) (.int 14)) (by decide +kernel)))
  obtain ⟨t2, _, ht2, -⟩ := Term.length_spec (va_eqt (hs (Cond.eq (.length (.static RX9 "KIN_COUNTS" "[I")) (.int 14)) (by decide +kernel)))
  have z0 : va_Z RX9 "PARTS" "[I" (.ref t0) (fun q => s.heap.size ≤ q) s s.heap := va_Zof (hts _ (by decide +kernel)) (hts _ (List.mem_filter.mp qn_RX9).1) ht0 hA
  have z1 : va_Z RX9 "KIN_STARTS" "[I" (.ref t1) (fun q => s.heap.size ≤ q) s s.heap := va_Zof (hts _ (by decide +kernel)) (hts _ (List.mem_filter.mp qn_RX9).1) ht1 hA
  have z2 : va_Z RX9 "KIN_COUNTS" "[I" (.ref t2) (fun q => s.heap.size ≤ q) s s.heap := va_Zof (hts _ (by decide +kernel)) (hts _ (List.mem_filter.mp qn_RX9).1) ht2 hA
  have z3 : vx_Zq Bundle.tN "UNASSIGNED_STACK" Bundle.steD (fun q => s.heap.size ≤ q) s s.heap := vx_Zqof (hts _ (by decide +kernel)) (hts _ (by decide +kernel)) (hs _ (by decide +kernel)) hA
  have z4 : vx_Zq Bundle.tN "SUPPRESSED_SENTINEL" Bundle.listD (fun q => s.heap.size ≤ q) s s.heap := vx_Zqof (hts _ (by decide +kernel)) (hts _ (by decide +kernel)) (hs _ (by decide +kernel)) hA
  have z5 : va_Z "java/lang/String" "COMPACT_STRINGS" "Z" (.int 1) (fun q => s.heap.size ≤ q) s s.heap := va_Zof (hts _ (by decide +kernel)) (hts _ (by decide +kernel)) (va_eqt (hs _ (by decide +kernel))) hA
  have z6 : va_Zq "jdk/internal/util/Preconditions" "SIOOBE_FORMATTER" "Ljava/util/function/BiFunction;" (fun q => s.heap.size ≤ q) s s.heap := va_Zqof (hts _ (by decide +kernel)) (hts _ (by decide +kernel)) (hs _ (by decide +kernel)) hA
  have z7 : va_Nc "java/lang/IllegalStateException" "java/lang/IllegalArgumentException" s := va_Nc.of (hs _ (by decide +kernel))
  obtain ⟨adS, hadS⟩ := Classical.axiomOfChoice (st_texts hts hs)
  have hV : ∀ i : Nat, ∃ t : Nat, i < 5 → va_O "java/lang/String" (adS (20 + i)) (fun q => s.heap.size ≤ q) s s.heap ∧ va_OF "java/lang/String" "coder" "B" (.int 0) (adS (20 + i)) (fun q => s.heap.size ≤ q) s s.heap ∧ va_OF "java/lang/String" "value" "[B" (.ref t) (adS (20 + i)) (fun q => s.heap.size ≤ q) s s.heap ∧ va_T .byte t (sLen i) (fun j => .int ((sByt i).getD j 0)) (fun q => s.heap.size ≤ q) s s.heap := by
    intro i
    match i with
    | 0 => obtain ⟨t, h⟩ := st_str (bs := sByt 0) (n := 0) hA (hadS 20 _ rfl).2 (by decide) (hs _ (by decide +kernel)) (hs _ (by decide +kernel)) (hs _ (by decide +kernel)) (hs _ (by decide +kernel)) (fun j hj => absurd hj (Nat.not_lt_zero j)); exact ⟨t, fun _ => h⟩
    | 1 => obtain ⟨t, h⟩ := st_str (bs := sByt 1) (n := 2) hA (hadS 21 _ rfl).2 (by decide) (hs _ (by decide +kernel)) (hs _ (by decide +kernel)) (hs _ (by decide +kernel)) (hs _ (by decide +kernel)) (fun j hj => hs _ ((by decide +kernel : ∀ j, j < 2 → Cond.eq (.elem (.field (.string RX10 5) "java/lang/String" "value" "[B") (.int (Int32.ofNat j))) (.int ((sByt 1).getD j 0)) ∈ flatC (Jvm.Cond.and given_1 narrow_1)) j hj)); exact ⟨t, fun _ => h⟩
    | 2 => obtain ⟨t, h⟩ := st_str (bs := sByt 2) (n := 3) hA (hadS 22 _ rfl).2 (by decide) (hs _ (by decide +kernel)) (hs _ (by decide +kernel)) (hs _ (by decide +kernel)) (hs _ (by decide +kernel)) (fun j hj => hs _ ((by decide +kernel : ∀ j, j < 3 → Cond.eq (.elem (.field (.string RX10 7) "java/lang/String" "value" "[B") (.int (Int32.ofNat j))) (.int ((sByt 2).getD j 0)) ∈ flatC (Jvm.Cond.and given_1 narrow_1)) j hj)); exact ⟨t, fun _ => h⟩
    | 3 => obtain ⟨t, h⟩ := st_str (bs := sByt 3) (n := 1) hA (hadS 23 _ rfl).2 (by decide) (hs _ (by decide +kernel)) (hs _ (by decide +kernel)) (hs _ (by decide +kernel)) (hs _ (by decide +kernel)) (fun j hj => hs _ ((by decide +kernel : ∀ j, j < 1 → Cond.eq (.elem (.field (.string RX10 9) "java/lang/String" "value" "[B") (.int (Int32.ofNat j))) (.int ((sByt 3).getD j 0)) ∈ flatC (Jvm.Cond.and given_1 narrow_1)) j hj)); exact ⟨t, fun _ => h⟩
    | 4 => obtain ⟨t, h⟩ := st_str (bs := sByt 4) (n := 2) hA (hadS 24 _ rfl).2 (by decide) (hs _ (by decide +kernel)) (hs _ (by decide +kernel)) (hs _ (by decide +kernel)) (hs _ (by decide +kernel)) (fun j hj => hs _ ((by decide +kernel : ∀ j, j < 2 → Cond.eq (.elem (.field (.string RX10 11) "java/lang/String" "value" "[B") (.int (Int32.ofNat j))) (.int ((sByt 4).getD j 0)) ∈ flatC (Jvm.Cond.and given_1 narrow_1)) j hj)); exact ⟨t, fun _ => h⟩
    | n + 5 => exact ⟨0, fun h => absurd h (by omega)⟩
  obtain ⟨adV, hadV⟩ := Classical.axiomOfChoice hV
  obtain ⟨ad, had⟩ : ∃ ad : Nat → Nat, ad = fun n => if n = 0 then t0 else if n = 1 then t1 else if n = 2 then t2 else if n < 40 then adS (n - 10) else adV (n - 40) := ⟨_, rfl⟩
  have e0 : ad 0 = t0 := by rw [had]; rfl
  have e1 : ad 1 = t1 := by rw [had]; rfl
  have e2 : ad 2 = t2 := by rw [had]; rfl
  have e3 : ∀ i, i < 30 → ad (10 + i) = adS i := fun i hi => by
    rw [had]
    show (if 10 + i = 0 then t0 else if 10 + i = 1 then t1 else if 10 + i = 2 then t2 else if 10 + i < 40 then adS (10 + i - 10) else adV (10 + i - 40)) = adS i
    rw [if_neg (by omega), if_neg (by omega), if_neg (by omega), if_pos (by omega), show 10 + i - 10 = i by omega]
  have e4 : ∀ i, ad (40 + i) = adV i := fun i => by
    rw [had]
    show (if 40 + i = 0 then t0 else if 40 + i = 1 then t1 else if 40 + i = 2 then t2 else if 40 + i < 40 then adS (40 + i - 10) else adV (40 + i - 40)) = adV i
    rw [if_neg (by omega), if_neg (by omega), if_neg (by omega), if_neg (by omega), show 40 + i - 40 = i by omega]
  have arr : ∀ {cA : ClassId} {kA : Class} {comp : ClassId} {ty : FieldType}, s.vm.classes[cA]? = some kA → kA.kind = .array comp ty → ArrOfT s cA ty := fun h2 h3 n z => ⟨fun k h => (by cases h), _, h2, _, h3⟩
  refine ⟨((dC, dI), (fun k => [aI, aT, aJ, aZ].getD k aI), s.heap.size, s.heap, ad), rfl, rfl, ?_⟩
  intro V hW
  have hal := hW.alike
  refine ⟨va_K.moved hal ⟨hKc, fun k q hq => ?_⟩, st_words hW hts, ?_⟩
  · match k, hq with
    | 0, hq => cases hq; exact ⟨arr gI eI, fI⟩
    | 1, hq => cases hq; exact ⟨arr f3T f4T, kAT, cmT, f3T, f4T, f1T, f5T⟩
    | 2, hq => cases hq; exact ⟨arr gJ eJ, fJ⟩
    | 3, hq => cases hq; exact ⟨arr gZ eZ, fZ⟩
    | k + 4, hq => simp [fwTys] at hq
  · refine ⟨?_, ?_, ?_, vx_Zq.moved hal z3, vx_Zq.moved hal z4, ?_, va_Z.moved hal z5, va_Zq.moved hal z6, ?_, ?_, va_Nc.moved hal z7⟩
    · show va_Z RX9 "PARTS" "[I" (.ref (ad 0)) _ V s.heap
      rw [e0]; exact va_Z.moved hal z0
    · show va_Z RX9 "KIN_STARTS" "[I" (.ref (ad 1)) _ V s.heap
      rw [e1]; exact va_Z.moved hal z1
    · show va_Z RX9 "KIN_COUNTS" "[I" (.ref (ad 2)) _ V s.heap
      rw [e2]; exact va_Z.moved hal z2
    · intro i q hq
      have hi : i < 30 := Nat.lt_of_lt_of_le (List.getElem?_eq_some_iff.mp hq).1 (by decide)
      show vk_R q.1 q.2.1 q.2.2 (ad (10 + i)) V
      rw [e3 i hi]
      obtain ⟨h1, h2⟩ := hadS i q hq
      exact vk_R.warm hW (vk_R.of h1 h2)
    · intro i hi
      obtain ⟨h1, h2, h3, h4⟩ := hadV i hi
      show va_O "java/lang/String" (ad (30 + i)) _ V s.heap ∧ va_OF "java/lang/String" "coder" "B" (.int 0) (ad (30 + i)) _ V s.heap ∧ va_OF "java/lang/String" "value" "[B" (.ref (ad (40 + i))) (ad (30 + i)) _ V s.heap ∧ va_T .byte (ad (40 + i)) (sLen i) _ _ V s.heap
      rw [show 30 + i = 10 + (20 + i) by omega, e3 (20 + i) (by omega), e4 i]
      exact ⟨va_O.moved hal h1, va_OF.moved hal h2, va_OF.moved hal h3, va_T.moved hal h4⟩
    · show va_T .int (ad 0) 14 _ _ V s.heap
      rw [e0]; exact va_T.moved hal hT0

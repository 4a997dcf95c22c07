section FW2
variable {p : Program} {l : Launch} {e : Env} {R : Room} {s : State} {m : MethodId} {args : Array Value} {below : List Frame} {meth : Method} {c : Code} {H : Heap} {locs : List Loc} {cells slots : Nat} {Q : State → Prop} {G : fw_G} {M : fw_M} {cc : ByteArray} {nL pc : Nat} {ls : Array Slot} {rest : List Value} {own : String}
theorem fw_putN (E : CallFix p m c cc nL s args fwT own) (hK : fw_K G s) (hH : fw_H G s M H locs) {a ci N index : Nat} {C host : String} {T : u_T} {ty : Nat → FieldType} {fs : List Value} {v : Value} (hb : G.2.2.1 ≤ a) (ha : M a = some (.inr (ci, fs))) (hc : fw_C ci C T N ty) (k : Nat) (hk : k < N) (q : Cond.fieldLinkNest own index C (T k).2.1 (T k).2.2.1 host ∈ fwT) (hC : (T k).1 = C) (hfin : (T k).2.2.2 = false) (hn : narrow (ty k) v = v) (hfit : fits (ty k) v = true) (hl : k < fs.length) (hdg : decode cc pc = .ok (.putfield index, 3))
    (kk : ∀ (H1 : Heap) (locs1 : List Loc), fw_H G s (fw_up M a (.inr (ci, fs.set k v))) H1 locs1 → H1.size = H.size → W p l e R s m args below meth c H1 locs1 cells slots Q (F0 m (pc + 3) ls rest)) : W p l e R s m args below meth c H locs cells slots Q (F0 m pc ls (v :: .ref a :: rest)) := by
  obtain ⟨hx, hbc, -, hown, hts⟩ := E
  have hKs := hK.me.1
  have hap := va_apart (own := own) hts hc.2.1 ty hc.2.2.1 hc.2.2.2 hKs hc.1
  obtain ⟨r, h1, cell, q1, q2, q3, q4⟩ := hH.1.2.2 a _ ha
  have hr : r = (C, T, N) := Option.some.inj (h1.symm.trans hc.1)
  subst hr
  obtain ⟨hS, hfc, kC, hkC, hkind⟩ := hKs.1 ci _ hc.1
  obtain ⟨cf, kf, fi, f, hi, hsl⟩ := hS k hk
  have hlay := hts _ (hc.2.1 _ (u_in_lay hk))
  unfold u_lay at hlay
  rw [if_neg (by rw [hfin]; decide)] at hlay
  have hst := (u_facts hfc hkC (u_lays hts hc.2.1 hk) hi).1
  have h6 := u_store hfc hkC hkind hlay hi (hc.2.2.1 k hk) hn hfit
  refine va_WputK hx hbc (f := f) hown (hts _ q) (by rw [← hC]; exact hi) hst (by rw [q2]; exact h6) q1 q3 (by rw [hsl]; exact k2_hasslot (q4 k hk)) rfl rfl hdg fun H' e1 e2 e3 => ?_
  rw [hsl] at e1 ⊢
  exact kk H' _ (hH.up hb ⟨_, hc.1, t_OB.to (V := updV (vp_V fs) k v) ⟨_, e1, q2, q3, t_set q4 hap hk v⟩ (fun j _ => vp_updV_set hl v j)⟩ e2 e3 (fun q hq => by rw [List.mem_singleton.mp hq])) e2
/-- a final field, in its class's own constructor -/
theorem fw_putF (E : CallFix p m c cc nL s args fwT own) (hK : fw_K G s) (hH : fw_H G s M H locs) {a ci N index : Nat} {T : u_T} {ty : Nat → FieldType} {fs : List Value} {v : Value} (hb : G.2.2.1 ≤ a) (ha : M a = some (.inr (ci, fs))) (hc : fw_C ci own T N ty) (k : Nat) (hk : k < N) (q : Cond.fieldLink own index own (T k).2.1 (T k).2.2.1 ∈ fwT) (hC : (T k).1 = own) (hfin : (T k).2.2.2 = true) (hin2 : meth.name = "<init>") (hn : narrow (ty k) v = v) (hfit : fits (ty k) v = true) (hl : k < fs.length) (hdg : decode cc pc = .ok (.putfield index, 3))
    (kk : ∀ (H1 : Heap) (locs1 : List Loc), fw_H G s (fw_up M a (.inr (ci, fs.set k v))) H1 locs1 → H1.size = H.size → W p l e R s m args below meth c H1 locs1 cells slots Q (F0 m (pc + 3) ls rest)) : W p l e R s m args below meth c H locs cells slots Q (F0 m pc ls (v :: .ref a :: rest)) := by
  obtain ⟨hx, hbc, -, hown, hts⟩ := E
  have hKs := hK.me.1
  have hap := va_apart (own := own) hts hc.2.1 ty hc.2.2.1 hc.2.2.2 hKs hc.1
  obtain ⟨r, h1, cell, q1, q2, q3, q4⟩ := hH.1.2.2 a _ ha
  have hr : r = (own, T, N) := Option.some.inj (h1.symm.trans hc.1)
  subst hr
  obtain ⟨hS, hfc, kC, hkC, hkind⟩ := hKs.1 ci _ hc.1
  obtain ⟨cf, kf, fi, f, hi, hsl⟩ := hS k hk
  have hlay := hts _ (hc.2.1 _ (u_in_lay hk))
  unfold u_lay at hlay
  rw [if_pos hfin] at hlay
  have hst := (u_facts hfc hkC (u_lays hts hc.2.1 hk) hi).1
  have hcf : m.cls = cf := by
    obtain ⟨_, _, c', _, _, _, -, -, hf', -, -, -, hown2, -⟩ := Cond.laysFinal_spec hlay
    have e1 : c' = cf := by have := hi.symm.trans hf'; simp at this; exact this.1.symm
    rw [hC] at hown2
    rw [← e1]; exact Option.some.inj (hown.symm.trans hown2)
  have h6 := u_fits hfc hkC hkind (Or.inr hlay) hi (hc.2.2.1 k hk) hn hfit
  refine W.putFinK hx hbc hown (hts _ q) (by have h9 := hi; rw [hC] at h9; exact h9) hst hcf hin2 (by rw [q2]; exact h6) q1 q3 (by rw [hsl]; exact k2_hasslot (q4 k hk)) rfl rfl hdg fun H' e1 e2 e3 => ?_
  rw [hsl] at e1 ⊢
  exact kk H' _ (hH.up hb ⟨_, hc.1, t_OB.to (V := updV (vp_V fs) k v) ⟨_, e1, q2, q3, t_set q4 hap hk v⟩ (fun j _ => vp_updV_set hl v j)⟩ e2 e3 (fun q hq => by rw [List.mem_singleton.mp hq])) e2
theorem fw_iald (E : CallFix p m c cc nL s args fwT own) (hK : fw_K G s) (hH : fw_H G s M H locs) {a n : Nat} {f : Nat → Int32} {i : Int32} (ha : M a = some (fI G n f)) (hin : vp_in i n) (hdg : decode cc pc = .ok (.iaload, 1))
    (kk : W p l e R s m args below meth c H locs cells slots Q (F0 m (pc + 1) ls (.int (f i.toNatClampNeg) :: rest))) : W p l e R s m args below meth c H locs cells slots Q (F0 m pc ls (.int i :: .ref a :: rest)) :=
  va_iald (D := G.1) (cl := vwCl) (ws := [(a, fI G n f)]) (tys := fwTys G) E.1 E.2.1 hK.me.1 (fw_one hH ha) 0 0 rfl rfl hin hdg kk
theorem fw_alen (E : CallFix p m c cc nL s args fwT own) (hK : fw_K G s) (hH : fw_H G s M H locs) {a n : Nat} {f : Nat → Int32} (ha : M a = some (fI G n f)) (hdg : decode cc pc = .ok (.arraylength, 1))
    (kk : W p l e R s m args below meth c H locs cells slots Q (F0 m (pc + 1) ls (.int (nI n) :: rest))) : W p l e R s m args below meth c H locs cells slots Q (F0 m pc ls (.ref a :: rest)) :=
  va_alen (D := G.1) (cl := vwCl) (ws := [(a, fI G n f)]) (tys := fwTys G) E.1 E.2.1 hK.me.1 (fw_one hH ha) 0 0 rfl (ty := .int) rfl rfl hdg kk
theorem fw_alenT (E : CallFix p m c cc nL s args fwT own) (hK : fw_K G s) (hH : fw_H G s M H locs) {a n : Nat} {f : Nat → Option Nat} (ha : M a = some (fT G n f)) (hdg : decode cc pc = .ok (.arraylength, 1))
    (kk : W p l e R s m args below meth c H locs cells slots Q (F0 m (pc + 1) ls (.int (nI n) :: rest))) : W p l e R s m args below meth c H locs cells slots Q (F0 m pc ls (.ref a :: rest)) :=
  va_alen (D := G.1) (cl := vwCl) (ws := [(a, fT G n f)]) (tys := fwTys G) E.1 E.2.1 hK.me.1 (fw_one hH ha) 0 1 rfl (ty := .object RX8) rfl rfl hdg kk
theorem fw_aald (E : CallFix p m c cc nL s args fwT own) (hK : fw_K G s) (hH : fw_H G s M H locs) {a n : Nat} {f : Nat → Option Nat} {i : Int32} (ha : M a = some (fT G n f)) (hin : vp_in i n) (hdg : decode cc pc = .ok (.aaload, 1))
    (kk : W p l e R s m args below meth c H locs cells slots Q (F0 m (pc + 1) ls (va_rf (f i.toNatClampNeg) :: rest))) : W p l e R s m args below meth c H locs cells slots Q (F0 m pc ls (.int i :: .ref a :: rest)) :=
  va_aldq (D := G.1) (cl := vwCl) (ws := [(a, fT G n f)]) (tys := fwTys G) (C := RX8) E.1 E.2.1 hK.me.1 (fw_one hH ha) 0 1 rfl rfl hin hdg kk
theorem fw_iast (E : CallFix p m c cc nL s args fwT own) (hK : fw_K G s) (hH : fw_H G s M H locs) {a n : Nat} {f : Nat → Int32} {i x : Int32} (hb : G.2.2.1 ≤ a) (ha : M a = some (fI G n f)) (hin : vp_in i n) (hdg : decode cc pc = .ok (.iastore, 1))
    (kk : ∀ (H1 : Heap) (locs1 : List Loc), fw_H G s (fw_up M a (fI G n (upd f i.toNatClampNeg x))) H1 locs1 → H1.size = H.size → W p l e R s m args below meth c H1 locs1 cells slots Q (F0 m (pc + 1) ls rest)) : W p l e R s m args below meth c H locs cells slots Q (F0 m pc ls (.int x :: .int i :: .ref a :: rest)) := by
  have ha1 : H[a]? = some (vp_cell (G.2.1 0) (n, .inl f)) := hH.1.2.2 a _ ha
  refine W.iast E.1 E.2.1 ha1 ((hK.me.1.2 0 (G.2.1 0, .int) rfl).1 n (fun j => .int (f j))) (fun q => by cases q) (by show ¬ (i < 0 ∨ (arrV _ _ _).slots.size ≤ _); rw [arrV_size]; exact hin) rfl rfl hdg fun H1 e z oq => ?_
  refine kk H1 _ (hH.up hb ?_ z oq (fun q hq => by rw [List.mem_singleton.mp hq])) z
  show H1[a]? = some (vp_cell _ _)
  rw [e]
  rw [vp_cell_i, vp_cell_i, arrV_store]
  congr 2
  funext q
  by_cases hq : q = i.toNatClampNeg
  · subst hq
    simp [updV, upd]
  · simp [updV, upd, hq]
theorem fw_gets (E : CallFix p m c cc nL s args fwT own) (hH : fw_H G s M H locs) {C n d : String} {v : Value} {index : Nat} (hZ : va_Z C n d v (fun q => G.2.2.1 ≤ q) s G.2.2.2.1) (q : Cond.fieldLink own index C n d ∈ fwT) (hdg : decode cc pc = .ok (.getstatic index, 3))
    (kk : W p l e R s m args below meth c H locs cells slots Q (F0 m (pc + 3) ls (v :: rest))) : W p l e R s m args below meth c H locs cells slots Q (F0 m pc ls rest) := by
  obtain ⟨cf, kf, fi, f, a, cell, h1, h2, h3, h4, h5, h6, h7, h8⟩ := hZ
  exact W.gets E.1 E.2.1 E.2.2.2.1 (E.2.2.2.2 _ q) h1 h2 h3 h4 (by rw [hH.1.2.1 a (Nat.not_le.mp h8)]; exact h5) (fun e => by rw [e] at h6; cases h6) h7 rfl hdg kk
theorem fw_getsN (E : CallFix p m c cc nL s args fwT own) (hH : fw_H G s M H locs) {C n d host : String} {v : Value} {index : Nat} (hZ : va_Z C n d v (fun q => G.2.2.1 ≤ q) s G.2.2.2.1) (q : Cond.fieldLinkNest own index C n d host ∈ fwT) (hdg : decode cc pc = .ok (.getstatic index, 3))
    (kk : W p l e R s m args below meth c H locs cells slots Q (F0 m (pc + 3) ls (v :: rest))) : W p l e R s m args below meth c H locs cells slots Q (F0 m pc ls rest) := by
  obtain ⟨cf, kf, fi, f, a, cell, h1, h2, h3, h4, h5, h6, h7, h8⟩ := hZ
  exact va_WgetsN E.1 E.2.1 E.2.2.2.1 (E.2.2.2.2 _ q) h1 h2 h3 h4 (by rw [hH.1.2.1 a (Nat.not_le.mp h8)]; exact h5) (fun e => by rw [e] at h6; cases h6) h7 rfl hdg kk
/-- a call, run: what comes back -/
theorem fw_ret {post : Option Value → fw_M → Nat → Prop} {mc ms : Nat} {st0 : List Value} {a : Array Value} (hr : va_Run p l e R s m args below meth c H locs cells slots mc ms (F0 m pc ls st0) rest (fw_Q G post a) (fun q => G.2.2.1 ≤ q)) (hH : fw_H G s M H locs)
    (kk : ∀ (v : Option Value) (M1 : fw_M) (H1 : Heap) (locs1 : List Loc), post v M1 H1.size → fw_H G s M1 H1 locs1 → H.size ≤ H1.size → W p l e R s m args below meth c H1 locs1 (cells + mc) (slots + ms) Q (F0 m (pc + 3) ls (v.toList ++ rest))) : W p l e R s m args below meth c H locs cells slots Q (F0 m pc ls st0) := by
  intro T hT X
  obtain ⟨v, st₀, t, T', L, h0, X', hL, e1, e2, ⟨v1, M1, hv, hp, hR, hz⟩, st⟩ := hr T hT X
  cases hv
  rw [h0] at hz
  obtain ⟨t2, a1, b1⟩ := kk v M1 T'.heap (locs ++ L) (by rw [e1]; exact hp) ⟨by rw [e1]; exact hR, by rw [e1]; exact Nat.le_trans hH.2.1 hz, fun q hq => by
      rcases List.mem_append.mp hq with h | h
      · exact hH.2.2 q h
      · exact hL q h⟩ (by rw [e1]; exact hz) T' rfl X'
  exact ⟨t2, st t2 a1, b1⟩
/-- a callee's start, at the caller's heap -/
theorem fw_blind {n : Nat} {av : List Value} : FrameBlind (fw_P G M n av) := fun _ U g mk q => ⟨q.1, q.2.1, q.2.2.1, fun V hV => q.2.2.2 V (State.WarmedH.of_rootvm (u := U) (s := U.calling g mk _) rfl hV)⟩
theorem fw_at (hK : fw_K G s) (hH : fw_H G s M H locs) {av : List Value} {U : State} (hU : U.heap = H) (hW : s.WarmedH U.vm) : fw_P G M H.size av av.toArray U := ⟨rfl, by rw [hU], by rw [hU]; exact hH.1, hK.of hW⟩
/-- a link's words -/
def fw_L0 (y : MethodName) (bytes : ByteArray) (maxL : Nat) (ret : Option FieldType) (n : Nat) : Prop := Cond.initialized y.cls ∈ fwT ∧ Cond.code y bytes maxL ret ∈ fwT ∧ fwOk (Cond.code y bytes maxL ret) = true ∧ y.cls ≠ "java/lang/invoke/MethodHandle" ∧ y.cls ≠ "java/lang/invoke/VarHandle" ∧ (parseMethodDescriptor y.desc).map (fun d => d.parameters.length) = some n
theorem fw_callB (hts : ∀ w ∈ fwT, ∀ A : Array Value, w.before A s = true) (hW : ∀ U : State, s.WarmedH U.vm → ∀ w ∈ fwT, ∀ A : Array Value, w.before A U = true) {y : MethodName} {bytes : ByteArray} {maxL n index f lo mc ms : Nat} {ret : Option FieldType} (L : fw_L0 y bytes maxL ret n) (hl : Cond.methodLink own index y ∈ fwT) (hR : f + 1 ≤ R.frames ∧ 8 + (maxL + 11) + lo ≤ R.locals) :
    CallB R s args own index y bytes maxL ret [.code y bytes maxL ret] ({ frames := f, cells := mc, slots := ms, locals := lo }) mc ms n :=
  ⟨rfl, rfl, hR.1, hR.2, fun w hw a' U hU => by rw [List.mem_singleton.mp hw]; exact hW U hU _ L.2.1 _, List.mem_singleton.mpr rfl, hts _ L.2.1 _, hts _ L.1 _, ⟨L.2.2.2.1, L.2.2.2.2.1⟩, fun sig h => by have h2 := L.2.2.2.2.2; rw [h] at h2; exact (Option.some.inj h2).symm, hts _ hl _⟩
theorem fw_callN (hts : ∀ w ∈ fwT, ∀ A : Array Value, w.before A s = true) (hW : ∀ U : State, s.WarmedH U.vm → ∀ w ∈ fwT, ∀ A : Array Value, w.before A U = true) {y : MethodName} {bytes : ByteArray} {maxL n index f lo mc ms : Nat} {host : String} {ret : Option FieldType} (L : fw_L0 y bytes maxL ret n) (hl : Cond.methodLinkNest own index y host ∈ fwT) (hR : f + 1 ≤ R.frames ∧ 8 + (maxL + 11) + lo ≤ R.locals) :
    va_CN R s args own index y host bytes maxL ret [.code y bytes maxL ret] ({ frames := f, cells := mc, slots := ms, locals := lo }) mc ms n :=
  ⟨⟨rfl, rfl, hR.1, hR.2, fun w hw a' U hU => by rw [List.mem_singleton.mp hw]; exact hW U hU _ L.2.1 _, List.mem_singleton.mpr rfl⟩, hts _ L.2.1 _, hts _ L.1 _, ⟨L.2.2.2.1, L.2.2.2.2.1⟩, fun sig h => by have h2 := L.2.2.2.2.2; rw [h] at h2; exact (Option.some.inj h2).symm, hts _ hl _⟩
variable {y : MethodName} {bytes : ByteArray} {maxL n index f lo mc ms : Nat} {ret : Option FieldType} {host : String} {post : Option Value → fw_M → Nat → Prop} {As st0 : List Value} {lv : List (Nat × Value)}
theorem fw_cS (E : CallFix p m c cc nL s args fwT own) (hK : fw_K G s) (hH : fw_H G s M H locs) (hl : lv_has ls nL lv) (L : fw_L0 y bytes maxL ret n) (q : Cond.methodLink own index y ∈ fwT) (q2 : Cond.static y ∈ fwT) (hM : fMet l y bytes maxL ret f lo mc ms G M H.size As post) (hst : st0 = As.reverse ++ rest) (hn : As.length = n) (hrm : (rest.map fun v => v.category).sum ≤ 8) (hR : f + 1 ≤ R.frames ∧ 8 + (maxL + 11) + lo ≤ R.locals) (hf : cells + mc ≤ R.cells ∧ slots + ms ≤ R.slots) (hdg : decode cc pc = .ok (.invokestatic index, 3))
    (kk : ∀ (v : Option Value) (M1 : fw_M) (H1 : Heap) (locs1 : List Loc), post v M1 H1.size → fw_H G s M1 H1 locs1 → H.size ≤ H1.size → W p l e R s m args below meth c H1 locs1 (cells + mc) (slots + ms) Q (F0 m (pc + 3) ls (v.toList ++ rest))) : W p l e R s m args below meth c H locs cells slots Q (F0 m pc ls st0) :=
  fw_ret (va_runS (As := As) (rest := rest) E hM ⟨fw_callB hK.me.2.1 (fun U hU => (hK.of hU).me.2.1) L q hR, hK.me.2.1 _ q2 _⟩ ⟨fw_blind, fun U hU hW => fw_at hK hH hU hW⟩ rfl hn hl.1 hst (lv_room hrm) hdg hf) hH kk
theorem fw_cSN (E : CallFix p m c cc nL s args fwT own) (hK : fw_K G s) (hH : fw_H G s M H locs) (hl : lv_has ls nL lv) (L : fw_L0 y bytes maxL ret n) (q : Cond.methodLinkNest own index y host ∈ fwT) (q2 : Cond.static y ∈ fwT) (hM : fMet l y bytes maxL ret f lo mc ms G M H.size As post) (hst : st0 = As.reverse ++ rest) (hn : As.length = n) (hrm : (rest.map fun v => v.category).sum ≤ 8) (hR : f + 1 ≤ R.frames ∧ 8 + (maxL + 11) + lo ≤ R.locals) (hf : cells + mc ≤ R.cells ∧ slots + ms ≤ R.slots) (hdg : decode cc pc = .ok (.invokestatic index, 3))
    (kk : ∀ (v : Option Value) (M1 : fw_M) (H1 : Heap) (locs1 : List Loc), post v M1 H1.size → fw_H G s M1 H1 locs1 → H.size ≤ H1.size → W p l e R s m args below meth c H1 locs1 (cells + mc) (slots + ms) Q (F0 m (pc + 3) ls (v.toList ++ rest))) : W p l e R s m args below meth c H locs cells slots Q (F0 m pc ls st0) :=
  fw_ret (va_runSN (As := As) (rest := rest) E hM ⟨fw_callN hK.me.2.1 (fun U hU => (hK.of hU).me.2.1) L q hR, hK.me.2.1 _ q2 _, trivial⟩ ⟨fw_blind, fun U hU hW => fw_at hK hH hU hW⟩ rfl hn hl.1 hst (lv_room hrm) hdg hf) hH kk
theorem fw_recv (hK : fw_K G s) (hH : fw_H G s M H locs) {a ci N : Nat} {C : String} {T : u_T} {ty : Nat → FieldType} {fs : List Value} (ha : M a = some (.inr (ci, fs))) (hc : fw_C ci C T N ty) : ∃ cellB : Cell, H[a]? = some cellB ∧ cellB.vm.isStatics = false ∧ s.vm.findClass C = some cellB.cls :=
  va_recv hK.me.1 (fw_one hH ha) hc.1 (q0 := 0) rfl
theorem fw_cV (E : CallFix p m c cc nL s args fwT own) (hK : fw_K G s) (hH : fw_H G s M H locs) (hl : lv_has ls nL lv) {a ci N : Nat} {T : u_T} {ty : Nat → FieldType} {fs : List Value} (ha : M a = some (.inr (ci, fs))) (hc : fw_C ci y.cls T N ty) (L : fw_L0 y bytes maxL ret n) (q : Cond.methodLink own index y ∈ fwT) (q2 : Cond.instanceMethod y ∈ fwT) (q3 : Cond.selects y.cls y y ∈ fwT) (hM : fMet l y bytes maxL ret f lo mc ms G M H.size (.ref a :: As) post) (hst : st0 = As.reverse ++ .ref a :: rest) (hn : As.length = n) (hrm : (rest.map fun v => v.category).sum ≤ 8) (hR : f + 1 ≤ R.frames ∧ 8 + (maxL + 11) + lo ≤ R.locals) (hf : cells + mc ≤ R.cells ∧ slots + ms ≤ R.slots) (hdg : decode cc pc = .ok (.invokevirtual index, 3))
    (kk : ∀ (v : Option Value) (M1 : fw_M) (H1 : Heap) (locs1 : List Loc), post v M1 H1.size → fw_H G s M1 H1 locs1 → H.size ≤ H1.size → W p l e R s m args below meth c H1 locs1 (cells + mc) (slots + ms) Q (F0 m (pc + 3) ls (v.toList ++ rest))) : W p l e R s m args below meth c H locs cells slots Q (F0 m pc ls st0) :=
  fw_ret (va_runV (As := As) (rest := rest) E hM ⟨fw_callB hK.me.2.1 (fun U hU => (hK.of hU).me.2.1) L q hR, hK.me.2.1 _ q2 _, hK.me.2.1 _ q3 _⟩ ⟨fw_blind, fw_recv hK hH ha hc, fun U hU hW => fw_at hK hH hU hW⟩ rfl hn hl.1 hst (lv_room hrm) hdg hf) hH kk
theorem fw_cVN (E : CallFix p m c cc nL s args fwT own) (hK : fw_K G s) (hH : fw_H G s M H locs) (hl : lv_has ls nL lv) {a ci N : Nat} {T : u_T} {ty : Nat → FieldType} {fs : List Value} (ha : M a = some (.inr (ci, fs))) (hc : fw_C ci y.cls T N ty) (L : fw_L0 y bytes maxL ret n) (q : Cond.methodLinkNest own index y host ∈ fwT) (q2 : Cond.instanceMethod y ∈ fwT) (q3 : Cond.selects y.cls y y ∈ fwT) (hM : fMet l y bytes maxL ret f lo mc ms G M H.size (.ref a :: As) post) (hst : st0 = As.reverse ++ .ref a :: rest) (hn : As.length = n) (hrm : (rest.map fun v => v.category).sum ≤ 8) (hR : f + 1 ≤ R.frames ∧ 8 + (maxL + 11) + lo ≤ R.locals) (hf : cells + mc ≤ R.cells ∧ slots + ms ≤ R.slots) (hdg : decode cc pc = .ok (.invokevirtual index, 3))
    (kk : ∀ (v : Option Value) (M1 : fw_M) (H1 : Heap) (locs1 : List Loc), post v M1 H1.size → fw_H G s M1 H1 locs1 → H.size ≤ H1.size → W p l e R s m args below meth c H1 locs1 (cells + mc) (slots + ms) Q (F0 m (pc + 3) ls (v.toList ++ rest))) : W p l e R s m args below meth c H locs cells slots Q (F0 m pc ls st0) :=
  fw_ret (va_runVN (As := As) (rest := rest) E hM ⟨fw_callN hK.me.2.1 (fun U hU => (hK.of hU).me.2.1) L q hR, hK.me.2.1 _ q2 _, hK.me.2.1 _ q3 _⟩ ⟨fw_blind, fw_recv hK hH ha hc, fun U hU hW => fw_at hK hH hU hW⟩ rfl hn hl.1 hst (lv_room hrm) hdg hf) hH kk
theorem fw_cI (E : CallFix p m c cc nL s args fwT own) (hK : fw_K G s) (hH : fw_H G s M H locs) (hl : lv_has ls nL lv) {a : Nat} (L : fw_L0 y bytes maxL none n) (hy : y.name = "<init>") (q : Cond.methodLink own index y ∈ fwT) (q2 : Cond.instanceMethod y ∈ fwT) (hM : fMet l y bytes maxL none f lo mc ms G M H.size (.ref a :: As) post) (hst : st0 = As.reverse ++ .ref a :: rest) (hn : As.length = n) (hrm : (rest.map fun v => v.category).sum ≤ 8) (hR : f + 1 ≤ R.frames ∧ 8 + (maxL + 11) + lo ≤ R.locals) (hf : cells + mc ≤ R.cells ∧ slots + ms ≤ R.slots) (hdg : decode cc pc = .ok (.invokespecial index, 3))
    (kk : ∀ (v : Option Value) (M1 : fw_M) (H1 : Heap) (locs1 : List Loc), post v M1 H1.size → fw_H G s M1 H1 locs1 → H.size ≤ H1.size → W p l e R s m args below meth c H1 locs1 (cells + mc) (slots + ms) Q (F0 m (pc + 3) ls (v.toList ++ rest))) : W p l e R s m args below meth c H locs cells slots Q (F0 m pc ls st0) :=
  fw_ret (va_runI (As := As) (rest := rest) E hM ⟨fw_callB hK.me.2.1 (fun U hU => (hK.of hU).me.2.1) L q hR, hy, hK.me.2.1 _ q2 _⟩ ⟨fw_blind, fun U hU hW => fw_at hK hH hU hW⟩ rfl hn hl.1 hst (lv_room hrm) hdg hf) hH kk
theorem fw_cIN (E : CallFix p m c cc nL s args fwT own) (hK : fw_K G s) (hH : fw_H G s M H locs) (hl : lv_has ls nL lv) {a : Nat} (L : fw_L0 y bytes maxL none n) (hy : y.name = "<init>") (q : Cond.methodLinkNest own index y host ∈ fwT) (q2 : Cond.instanceMethod y ∈ fwT) (hM : fMet l y bytes maxL none f lo mc ms G M H.size (.ref a :: As) post) (hst : st0 = As.reverse ++ .ref a :: rest) (hn : As.length = n) (hrm : (rest.map fun v => v.category).sum ≤ 8) (hR : f + 1 ≤ R.frames ∧ 8 + (maxL + 11) + lo ≤ R.locals) (hf : cells + mc ≤ R.cells ∧ slots + ms ≤ R.slots) (hdg : decode cc pc = .ok (.invokespecial index, 3))
    (kk : ∀ (v : Option Value) (M1 : fw_M) (H1 : Heap) (locs1 : List Loc), post v M1 H1.size → fw_H G s M1 H1 locs1 → H.size ≤ H1.size → W p l e R s m args below meth c H1 locs1 (cells + mc) (slots + ms) Q (F0 m (pc + 3) ls (v.toList ++ rest))) : W p l e R s m args below meth c H locs cells slots Q (F0 m pc ls st0) :=
  fw_ret (va_runIN (As := As) (rest := rest) E hM ⟨fw_callN hK.me.2.1 (fun U hU => (hK.of hU).me.2.1) L q hR, hy, hK.me.2.1 _ q2 _⟩ ⟨fw_blind, fun U hU hW => fw_at hK hH hU hW⟩ rfl hn hl.1 hst (lv_room hrm) hdg hf) hH kk
/-- the ends -/
theorem fw_iret (E : CallFix p m c cc nL s args fwT own) (hr : meth.sig.returnType = some .int) (hlk : meth.locks = false) (hH : fw_H G s M H locs) {r : Int32} {post : Int32 → fw_M → Nat → Prop} (hp : post r M H.size) (hdg : decode cc pc = .ok (.ireturn, 1)) : W p l e R s m args below meth c H locs cells slots (MQ below (fw_Q G (fw_pi post)) args s cells slots (fun q => G.2.2.1 ≤ q)) (F0 m pc ls [.int r]) :=
  W.iret (v := r) E.1 E.2.1 hr (fun t ht _ => ⟨_, M, rfl, ⟨r, rfl, by rw [ht]; exact hp⟩, by rw [ht]; exact hH.1, by rw [ht]; exact hH.2.1⟩) hH.2.2 hdg hlk
theorem fw_zret (E : CallFix p m c cc nL s args fwT own) {ty : FieldType} (hr : meth.sig.returnType = some ty) (hlk : meth.locks = false) (hH : fw_H G s M H locs) {r : Int32} {post : Int32 → fw_M → Nat → Prop} (hn : narrow ty (.int r) = .int r) (hp : post r M H.size) (hdg : decode cc pc = .ok (.ireturn, 1)) : W p l e R s m args below meth c H locs cells slots (MQ below (fw_Q G (fw_pi post)) args s cells slots (fun q => G.2.2.1 ≤ q)) (F0 m pc ls [.int r]) :=
  W.zret (v := r) (ty := ty) E.1 E.2.1 hr hn (fun t ht _ => ⟨_, M, rfl, ⟨r, rfl, by rw [ht]; exact hp⟩, by rw [ht]; exact hH.1, by rw [ht]; exact hH.2.1⟩) hH.2.2 hdg hlk
theorem fw_vret (E : CallFix p m c cc nL s args fwT own) (hr : meth.sig.returnType = none) (hlk : meth.locks = false) (hH : fw_H G s M H locs) {post : fw_M → Nat → Prop} (hp : post M H.size) (hdg : decode cc pc = .ok (.return_, 1)) : W p l e R s m args below meth c H locs cells slots (MQ below (fw_Q G (fw_pv post)) args s cells slots (fun q => G.2.2.1 ≤ q)) (F0 m pc ls []) :=
  W.vret E.1 E.2.1 hr (fun t ht _ => ⟨_, M, rfl, ⟨rfl, by rw [ht]; exact hp⟩, by rw [ht]; exact hH.1, by rw [ht]; exact hH.2.1⟩) hH.2.2 hdg hlk
theorem fw_lret (E : CallFix p m c cc nL s args fwT own) (hr : meth.sig.returnType = some .long) (hlk : meth.locks = false) (hH : fw_H G s M H locs) {r : Int64} {post : Int64 → fw_M → Nat → Prop} (hp : post r M H.size) (hdg : decode cc pc = .ok (.lreturn, 1)) : W p l e R s m args below meth c H locs cells slots (MQ below (fw_Q G (fw_pl post)) args s cells slots (fun q => G.2.2.1 ≤ q)) (F0 m pc ls [.long r]) :=
  W.lret (v := r) E.1 E.2.1 hr (fun t ht _ => ⟨_, M, rfl, ⟨r, rfl, by rw [ht]; exact hp⟩, by rw [ht]; exact hH.1, by rw [ht]; exact hH.2.1⟩) hH.2.2 hdg hlk
theorem fw_aret (E : CallFix p m c cc nL s args fwT own) {rt : FieldType} (hr : meth.sig.returnType = some rt) (hrt : (∃ n, rt = .object n) ∨ ∃ t, rt = .array t) (hlk : meth.locks = false) (hH : fw_H G s M H locs) {r : Nat} {post : Nat → fw_M → Nat → Prop} (hp : post r M H.size) (hdg : decode cc pc = .ok (.areturn, 1)) : W p l e R s m args below meth c H locs cells slots (MQ below (fw_Q G (fw_pr post)) args s cells slots (fun q => G.2.2.1 ≤ q)) (F0 m pc ls [.ref r]) :=
  W.aret (v := .ref r) E.1 E.2.1 hr hrt (Or.inr ⟨r, rfl⟩) (fun t ht _ => ⟨_, M, rfl, ⟨r, rfl, by rw [ht]; exact hp⟩, by rw [ht]; exact hH.1, by rw [ht]; exact hH.2.1⟩) hH.2.2 hdg hlk
/-- what comes back, by its kind -/
theorem fw_ki {post : Int32 → fw_M → Nat → Prop} {n0 : Nat} (h : ∀ (r : Int32) (M1 : fw_M) (H1 : Heap) (locs1 : List Loc), post r M1 H1.size → fw_H G s M1 H1 locs1 → n0 ≤ H1.size → W p l e R s m args below meth c H1 locs1 cells slots Q (F0 m pc ls (.int r :: rest))) : ∀ (v : Option Value) (M1 : fw_M) (H1 : Heap) (locs1 : List Loc), fw_pi post v M1 H1.size → fw_H G s M1 H1 locs1 → n0 ≤ H1.size → W p l e R s m args below meth c H1 locs1 cells slots Q (F0 m pc ls (v.toList ++ rest)) := by
  rintro v M1 H1 locs1 ⟨r, rfl, hp⟩ hH hz
  exact h r M1 H1 locs1 hp hH hz
theorem fw_kl {post : Int64 → fw_M → Nat → Prop} {n0 : Nat} (h : ∀ (r : Int64) (M1 : fw_M) (H1 : Heap) (locs1 : List Loc), post r M1 H1.size → fw_H G s M1 H1 locs1 → n0 ≤ H1.size → W p l e R s m args below meth c H1 locs1 cells slots Q (F0 m pc ls (.long r :: rest))) : ∀ (v : Option Value) (M1 : fw_M) (H1 : Heap) (locs1 : List Loc), fw_pl post v M1 H1.size → fw_H G s M1 H1 locs1 → n0 ≤ H1.size → W p l e R s m args below meth c H1 locs1 cells slots Q (F0 m pc ls (v.toList ++ rest)) := by
  rintro v M1 H1 locs1 ⟨r, rfl, hp⟩ hH hz
  exact h r M1 H1 locs1 hp hH hz
theorem fw_kr {post : Nat → fw_M → Nat → Prop} {n0 : Nat} (h : ∀ (r : Nat) (M1 : fw_M) (H1 : Heap) (locs1 : List Loc), post r M1 H1.size → fw_H G s M1 H1 locs1 → n0 ≤ H1.size → W p l e R s m args below meth c H1 locs1 cells slots Q (F0 m pc ls (.ref r :: rest))) : ∀ (v : Option Value) (M1 : fw_M) (H1 : Heap) (locs1 : List Loc), fw_pr post v M1 H1.size → fw_H G s M1 H1 locs1 → n0 ≤ H1.size → W p l e R s m args below meth c H1 locs1 cells slots Q (F0 m pc ls (v.toList ++ rest)) := by
  rintro v M1 H1 locs1 ⟨r, rfl, hp⟩ hH hz
  exact h r M1 H1 locs1 hp hH hz
theorem fw_kv {post : fw_M → Nat → Prop} {n0 : Nat} (h : ∀ (M1 : fw_M) (H1 : Heap) (locs1 : List Loc), post M1 H1.size → fw_H G s M1 H1 locs1 → n0 ≤ H1.size → W p l e R s m args below meth c H1 locs1 cells slots Q (F0 m pc ls rest)) : ∀ (v : Option Value) (M1 : fw_M) (H1 : Heap) (locs1 : List Loc), fw_pv post v M1 H1.size → fw_H G s M1 H1 locs1 → n0 ≤ H1.size → W p l e R s m args below meth c H1 locs1 cells slots Q (F0 m pc ls (v.toList ++ rest)) := by
  rintro v M1 H1 locs1 ⟨rfl, hp⟩ hH hz
  exact h M1 H1 locs1 hp hH hz
end FW2
/-- a method's proof, from its entry -/
theorem fw_met {l : Launch} {y : MethodName} {cc : ByteArray} {maxL f lo mc ms n : Nat} {ret : Option FieldType} {G : fw_G} {M : fw_M} {av : List Value} {post : Option Value → fw_M → Nat → Prop} (own : String) (ho : y.cls = own) (hy : plainName y.cls = true) (hlen : (lg_sl av).length ≤ maxL)
    (body : ∀ (p : Program) (e : Env) (s : State) (m : MethodId) (args : Array Value) (below : List Frame) (meth : Method) (c : Code) (ls : Array Slot), CallFix p m c cc maxL s args fwT own → meth.sig.returnType = ret → meth.locks = false → meth.name = y.name → fw_K G s → fw_H G s M s.heap [] → s.heap.size = n → lv_has ls maxL (lv_args 0 av) →
      W p l e ({ frames := f, cells := mc, slots := ms, locals := lo }) s m args below meth c s.heap [] 0 0 (MQ below (fw_Q G post) args s mc ms (fun q => G.2.2.1 ≤ q)) (F0 m 0 ls [])) : fMet l y cc maxL ret f lo mc ms G M n av post := by
  refine Met.ofW (cc := cc) (maxL := maxL) (ret := ret) hy rfl ?_
  intro p e s m args below meth c s₁ B hml hv
  obtain ⟨rfl, hsz, hR, hK⟩ := hv
  have hl := lv_entry av (n := maxL) hlen
  rw [lg_entry_eq]
  exact body p e s m _ below meth c _ ⟨B.exec, B.bytes, hml, by rw [← ho]; exact findClass_of_methodNamed B.named, fun w hw => hK.me.2.1 w hw _⟩ B.returns B.notSynchronized (name_of_methodNamed B.named B.method).1 hK ⟨hR, Nat.le_refl _, fun q hq => by cases hq⟩ hsz hl

/-! contracts of methods that may throw -/
def fx_X (G : fw_G) (px : String → fw_M → Nat → Prop) : String → State → State → Prop := fun E st t => ∃ M1 : fw_M, px E M1 t.heap.size ∧ fw_R G M1 t.heap ∧ st.heap.size ≤ t.heap.size
def fxMet (l : Launch) (y : MethodName) (cc : ByteArray) (maxL : Nat) (ret : Option FieldType) (f lo mc ms : Nat) (G : fw_G) (M : fw_M) (n : Nat) (av : List Value) (post : Option Value → fw_M → Nat → Prop) (px : String → fw_M → Nat → Prop) : Prop :=
  vx_Met l y [.code y cc maxL ret] ({ frames := f, cells := mc, slots := ms, locals := lo }) (fw_P G M n av) (fw_Q G post) (fx_X G px) mc ms (fun q => G.2.2.1 ≤ q)
theorem fx_met {l : Launch} {y : MethodName} {cc : ByteArray} {maxL f lo mc ms n : Nat} {ret : Option FieldType} {G : fw_G} {M : fw_M} {av : List Value} {post : Option Value → fw_M → Nat → Prop} {px : String → fw_M → Nat → Prop} (own : String) (ho : y.cls = own) (hy : plainName y.cls = true) (hlen : (lg_sl av).length ≤ maxL)
    (body : ∀ (p : Program) (e : Env) (s : State) (m : MethodId) (args : Array Value) (below : List Frame) (meth : Method) (c : Code) (ls : Array Slot), CallFix p m c cc maxL s args fwT own → meth.sig.returnType = ret → meth.locks = false → (∀ x ∈ c.exceptionTable.toList, False) → fw_K G s → fw_H G s M s.heap [] → s.heap.size = n → lv_has ls maxL (lv_args 0 av) →
      W p l e ({ frames := f, cells := mc, slots := ms, locals := lo }) s m args below meth c s.heap [] 0 0 (vx_MQ below (fw_Q G post) (fx_X G px) args s mc ms (fun q => G.2.2.1 ≤ q)) (F0 m 0 ls [])) : fxMet l y cc maxL ret f lo mc ms G M n av post px := by
  refine vx_ofW (cc := cc) (maxL := maxL) (ret := ret) hy rfl ?_
  intro p e s m args below meth c s₁ B hml hxt hv
  obtain ⟨rfl, hsz, hR, hK⟩ := hv
  have hl := lv_entry av (n := maxL) hlen
  rw [lg_entry_eq]
  exact body p e s m _ below meth c _ ⟨B.exec, B.bytes, hml, by rw [← ho]; exact findClass_of_methodNamed B.named, fun w hw => hK.me.2.1 w hw _⟩ B.returns B.notSynchronized hxt hK ⟨hR, Nat.le_refl _, fun q hq => by cases hq⟩ hsz hl
section FX
variable {p : Program} {l : Launch} {e : Env} {R : Room} {s : State} {m : MethodId} {args : Array Value} {below : List Frame} {meth : Method} {c : Code} {H : Heap} {locs : List Loc} {cells slots : Nat} {Q : State → Prop} {G : fw_G} {M M0 : fw_M} {cc : ByteArray} {nL pc : Nat} {ls : Array Slot} {rest : List Value} {own : String}
theorem fw_H.va (hH0 : fw_H G s M0 s.heap []) (hH : fw_H G s M H locs) : va_S (fun q => G.2.2.1 ≤ q) s.heap H locs := ⟨hH.2.1, fun q _ hb => by rw [hH.1.2.1 q (Nat.not_le.mp hb), hH0.1.2.1 q (Nat.not_le.mp hb)], hH.2.2⟩
theorem fx_thr (hlt : l.stackTraces = false) (E : CallFix p m c cc nL s args fwT own) (hK : fw_K G s) (hH0 : fw_H G s M0 s.heap []) (hH : fw_H G s M H locs) {lv : List (Nat × Value)} (hl : lv_has ls nL lv) (hxt : ∀ x ∈ c.exceptionTable.toList, False) (hlk : meth.locks = false) {cls text : String} {names : List String} {ik is ic i mc ms : Nat} {post : Option Value → fw_M → Nat → Prop} {px : String → fw_M → Nat → Prop}
    (hcls : Bundle.fit cls = true) (hnames : ∀ n ∈ names, Bundle.fit n = true) (q1 : Cond.classLink own ik cls ∈ fwT) (q2 : Cond.initialized cls ∈ fwT) (q3 : ∀ w ∈ vx_atS own ic cls names, w ∈ fwT) (hgood : (vx_atS own ic cls names).all vx_ot = true) (hst : fwStr[i]? = some (own, is, text))
    (d0 : decode cc pc = .ok (.new ik, 3)) (d3 : decode cc (pc + 3) = .ok (.dup, 1)) (d4 : decode cc (pc + 4) = .ok (.ldc is, 2)) (d6 : decode cc (pc + 6) = .ok (.invokespecial ic, 3)) (d9 : decode cc (pc + 9) = .ok (.athrow, 1))
    (hR : names.length + 3 < R.frames ∧ (rest.map fun v => v.category).sum + (13 * (names.length + 1) + 43) ≤ R.locals ∧ cells + 1 ≤ R.cells ∧ slots + 6 ≤ R.slots) (hp : ∀ n1, H.size ≤ n1 → px cls M n1) (hc : cells + 1 ≤ mc) (hs : slots + 6 ≤ ms) :
    W p l e R s m args below meth c H locs cells slots (vx_MQ below (fw_Q G post) (fx_X G px) args s mc ms (fun q => G.2.2.1 ≤ q)) (F0 m pc ls rest) := by
  have hZ := hK.me.2.2
  have kept : ∀ {C n d : String}, vx_Zq C n d (fun q => G.2.2.1 ≤ q) s G.2.2.2.1 → vx_Zq C n d (fun q => G.2.2.1 ≤ q) s s.heap := fun h => h.kept (fun a _ hb => hH0.1.2.1 a (Nat.not_le.mp hb))
  refine vx_throwS (names := names) (A := fun q => G.2.2.1 ≤ q) E.1 E.2.1 hlt E.2.2.2.1 hcls hnames (E.2.2.2.2 _ q1) (E.2.2.2.2 _ q2) (hZ.2.2.2.2.2.1 i _ hst) (fun w hw => E.2.2.2.2 _ (q3 w hw)) ?_ (kept hZ.2.2.2.1) (kept hZ.2.2.2.2.1) (hH0.va hH) (by rw [E.2.2.1]; exact hl.1) d0 d3 d4 d6 d9 (fun x hx => absurd hx (hxt x)) hR.1 hR.2.1 hR.2.2.1 hR.2.2.2 hlk ?_ hH.2.2 hc hs
  · intro w hw
    rcases List.mem_cons.mp hw with rfl | hw
    · rfl
    · rcases List.mem_cons.mp hw with rfl | hw
      · rfl
      · exact List.all_eq_true.mp hgood w hw
  · intro t _ hz hk
    refine ⟨M, hp _ hz, ⟨Nat.le_trans hH.1.1 hz, fun q hq => ?_, fun a e1 ha => ?_⟩, Nat.le_trans hH.2.1 hz⟩
    · rw [hk q (Nat.lt_of_lt_of_le hq hH.1.1)]; exact hH.1.2.1 q hq
    · exact (hH.1.2.2 a e1 ha).kept (hk a (hH.1.2.2 a e1 ha).lt)
theorem fx_thrW (hlt : l.stackTraces = false) (E : CallFix p m c cc nL s args fwT own) (hK : fw_K G s) (hH0 : fw_H G s M0 s.heap []) (hH : fw_H G s M H locs) {lv : List (Nat × Value)} (hl : lv_has ls nL lv) (hxt : ∀ x ∈ c.exceptionTable.toList, False) (hlk : meth.locks = false) {cls text : String} {names : List String} {ik is ic i mc ms : Nat} {post : Option Value → fw_M → Nat → Prop} {px : String → fw_M → Nat → Prop}
    (hcls : Bundle.fit cls = true) (hnames : ∀ n ∈ names, Bundle.fit n = true) (q1 : Cond.classLink own ik cls ∈ fwT) (q2 : Cond.initialized cls ∈ fwT) (q3 : ∀ w ∈ vx_atS own ic cls names, w ∈ fwT) (hgood : (vx_atS own ic cls names).all vx_ot = true) (hst : fwStr[i]? = some (own, is, text))
    (d0 : decode cc pc = .ok (.new ik, 3)) (d3 : decode cc (pc + 3) = .ok (.dup, 1)) (d4 : decode cc (pc + 4) = .ok (.ldc_w is, 3)) (d7 : decode cc (pc + 7) = .ok (.invokespecial ic, 3)) (d10 : decode cc (pc + 10) = .ok (.athrow, 1))
    (hR : names.length + 3 < R.frames ∧ (rest.map fun v => v.category).sum + (13 * (names.length + 1) + 43) ≤ R.locals ∧ cells + 1 ≤ R.cells ∧ slots + 6 ≤ R.slots) (hp : ∀ n1, H.size ≤ n1 → px cls M n1) (hc : cells + 1 ≤ mc) (hs : slots + 6 ≤ ms) :
    W p l e R s m args below meth c H locs cells slots (vx_MQ below (fw_Q G post) (fx_X G px) args s mc ms (fun q => G.2.2.1 ≤ q)) (F0 m pc ls rest) := by
  have hZ := hK.me.2.2
  have kept : ∀ {C n d : String}, vx_Zq C n d (fun q => G.2.2.1 ≤ q) s G.2.2.2.1 → vx_Zq C n d (fun q => G.2.2.1 ≤ q) s s.heap := fun h => h.kept (fun a _ hb => hH0.1.2.1 a (Nat.not_le.mp hb))
  refine vx_throwSW (names := names) (A := fun q => G.2.2.1 ≤ q) E.1 E.2.1 hlt E.2.2.2.1 hcls hnames (E.2.2.2.2 _ q1) (E.2.2.2.2 _ q2) (hZ.2.2.2.2.2.1 i _ hst) (fun w hw => E.2.2.2.2 _ (q3 w hw)) ?_ (kept hZ.2.2.2.1) (kept hZ.2.2.2.2.1) (hH0.va hH) (by rw [E.2.2.1]; exact hl.1) d0 d3 d4 d7 d10 (fun x hx => absurd hx (hxt x)) hR.1 hR.2.1 hR.2.2.1 hR.2.2.2 hlk ?_ hH.2.2 hc hs
  · intro w hw
    rcases List.mem_cons.mp hw with rfl | hw
    · rfl
    · rcases List.mem_cons.mp hw with rfl | hw
      · rfl
      · exact List.all_eq_true.mp hgood w hw
  · intro t _ hz hk
    refine ⟨M, hp _ hz, ⟨Nat.le_trans hH.1.1 hz, fun q hq => ?_, fun a e1 ha => ?_⟩, Nat.le_trans hH.2.1 hz⟩
    · rw [hk q (Nat.lt_of_lt_of_le hq hH.1.1)]; exact hH.1.2.1 q hq
    · exact (hH.1.2.2 a e1 ha).kept (hk a (hH.1.2.2 a e1 ha).lt)
theorem fx_ret {post : Option Value → fw_M → Nat → Prop} {px : String → fw_M → Nat → Prop} {mc ms : Nat} {st0 : List Value} {a : Array Value} (hr : vx_Run p l e R s m args below meth c H locs cells slots mc ms (F0 m pc ls st0) rest (fw_Q G post a) (fx_X G px) (fun q => G.2.2.1 ≤ q)) (hH : fw_H G s M H locs)
    (kx : ∀ (E9 : String) (ce : Cell) (q9 : Addr) (M1 : fw_M) (H1 : Heap) (locs1 : List Loc), px E9 M1 H1.size → fw_H G s M1 H1 locs1 → H.size ≤ H1.size → H1[q9]? = some ce → ce.vm = .none → s.vm.findClass E9 = some ce.cls → vx_W p l e R s m args below meth c H1 locs1 (cells + mc) (slots + ms) Q (F0 m pc ls rest) q9)
    (kk : ∀ (v : Option Value) (M1 : fw_M) (H1 : Heap) (locs1 : List Loc), post v M1 H1.size → fw_H G s M1 H1 locs1 → H.size ≤ H1.size → W p l e R s m args below meth c H1 locs1 (cells + mc) (slots + ms) Q (F0 m (pc + 3) ls (v.toList ++ rest))) : W p l e R s m args below meth c H locs cells slots Q (F0 m pc ls st0) := by
  intro T hT X
  rcases hr T hT X with ⟨v, st₀, t, T', L, h0, X', hL, e1, e2, ⟨v1, M1, hv, hp, hR, hz⟩, st⟩ | ⟨q9, st₀, t, T', L, E9, ce, h0, X', hL, e1, e2, ⟨M1, hp, hR, hz⟩, g1, g2, g3, st⟩
  · cases hv
    rw [h0] at hz
    obtain ⟨t2, a1, b1⟩ := kk v M1 T'.heap (locs ++ L) (by rw [e1]; exact hp) ⟨by rw [e1]; exact hR, by rw [e1]; exact Nat.le_trans hH.2.1 hz, fun q hq => by
        rcases List.mem_append.mp hq with h | h
        · exact hH.2.2 q h
        · exact hL q h⟩ (by rw [e1]; exact hz) T' rfl X'
    exact ⟨t2, st t2 a1, b1⟩
  · rw [h0] at hz
    obtain ⟨t2, a1, b1⟩ := kx E9 ce q9 M1 T'.heap (locs ++ L) (by rw [e1]; exact hp) ⟨by rw [e1]; exact hR, by rw [e1]; exact Nat.le_trans hH.2.1 hz, fun q hq => by
        rcases List.mem_append.mp hq with h | h
        · exact hH.2.2 q h
        · exact hL q h⟩ (by rw [e1]; exact hz) (by rw [e1]; exact g1) g2 g3 T' rfl X'
    exact ⟨t2, st.trans a1, b1⟩
/-- what a callee throws goes on to the caller -/
theorem fx_out {post : Option Value → fw_M → Nat → Prop} {px : String → fw_M → Nat → Prop} {E9 : String} {ce : Cell} {q9 : Addr} {mc ms : Nat} (hxt : ∀ x ∈ c.exceptionTable.toList, False) (hlk : meth.locks = false) (hH : fw_H G s M H locs) (hcell : H[q9]? = some ce) (hv : ce.vm = .none) (hcl : s.vm.findClass E9 = some ce.cls) (hp : px E9 M H.size) (hc : cells ≤ mc) (hs : slots ≤ ms) :
    vx_W p l e R s m args below meth c H locs cells slots (vx_MQ below (fw_Q G post) (fx_X G px) args s mc ms (fun q => G.2.2.1 ≤ q)) (F0 m pc ls rest) q9 :=
  vx_out (fun x hx => absurd hx (hxt x)) hlk hcell hv hcl (fun t ht _ => ⟨M, by rw [ht]; exact hp, by rw [ht]; exact hH.1, by rw [ht]; exact hH.2.1⟩) hH.2.2 hc hs
variable {y : MethodName} {bytes : ByteArray} {maxL n index f lo mc ms : Nat} {ret : Option FieldType} {post : Option Value → fw_M → Nat → Prop} {px : String → fw_M → Nat → Prop} {As st0 : List Value} {lv : List (Nat × Value)}
theorem fx_cS (E : CallFix p m c cc nL s args fwT own) (hK : fw_K G s) (hH : fw_H G s M H locs) (hl : lv_has ls nL lv) (L : fw_L0 y bytes maxL ret n) (q : Cond.methodLink own index y ∈ fwT) (q2 : Cond.static y ∈ fwT) (hM : fxMet l y bytes maxL ret f lo mc ms G M H.size As post px) (hst : st0 = As.reverse ++ rest) (hn : As.length = n) (hrm : (rest.map fun v => v.category).sum ≤ 8) (hR : f + 1 ≤ R.frames ∧ 8 + (maxL + 11) + lo ≤ R.locals) (hf : cells + mc ≤ R.cells ∧ slots + ms ≤ R.slots) (hdg : decode cc pc = .ok (.invokestatic index, 3))
    (kx : ∀ (E9 : String) (ce : Cell) (q9 : Addr) (M1 : fw_M) (H1 : Heap) (locs1 : List Loc), px E9 M1 H1.size → fw_H G s M1 H1 locs1 → H.size ≤ H1.size → H1[q9]? = some ce → ce.vm = .none → s.vm.findClass E9 = some ce.cls → vx_W p l e R s m args below meth c H1 locs1 (cells + mc) (slots + ms) Q (F0 m pc ls rest) q9)
    (kk : ∀ (v : Option Value) (M1 : fw_M) (H1 : Heap) (locs1 : List Loc), post v M1 H1.size → fw_H G s M1 H1 locs1 → H.size ≤ H1.size → W p l e R s m args below meth c H1 locs1 (cells + mc) (slots + ms) Q (F0 m (pc + 3) ls (v.toList ++ rest))) : W p l e R s m args below meth c H locs cells slots Q (F0 m pc ls st0) :=
  fx_ret (vx_runS (As := As) (rest := rest) E hM ⟨fw_callB hK.me.2.1 (fun U hU => (hK.of hU).me.2.1) L q hR, hK.me.2.1 _ q2 _⟩ ⟨fw_blind, fun U hU hW => fw_at hK hH hU hW⟩ rfl hn hl.1 hst (lv_room hrm) hdg hf) hH kx kk
theorem fx_cV (E : CallFix p m c cc nL s args fwT own) (hK : fw_K G s) (hH : fw_H G s M H locs) (hl : lv_has ls nL lv) {a ci N : Nat} {T : u_T} {ty : Nat → FieldType} {fs : List Value} (ha : M a = some (.inr (ci, fs))) (hc : fw_C ci y.cls T N ty) (L : fw_L0 y bytes maxL ret n) (q : Cond.methodLink own index y ∈ fwT) (q2 : Cond.instanceMethod y ∈ fwT) (q3 : Cond.selects y.cls y y ∈ fwT) (hM : fxMet l y bytes maxL ret f lo mc ms G M H.size (.ref a :: As) post px) (hst : st0 = As.reverse ++ .ref a :: rest) (hn : As.length = n) (hrm : (rest.map fun v => v.category).sum ≤ 8) (hR : f + 1 ≤ R.frames ∧ 8 + (maxL + 11) + lo ≤ R.locals) (hf : cells + mc ≤ R.cells ∧ slots + ms ≤ R.slots) (hdg : decode cc pc = .ok (.invokevirtual index, 3))
    (kx : ∀ (E9 : String) (ce : Cell) (q9 : Addr) (M1 : fw_M) (H1 : Heap) (locs1 : List Loc), px E9 M1 H1.size → fw_H G s M1 H1 locs1 → H.size ≤ H1.size → H1[q9]? = some ce → ce.vm = .none → s.vm.findClass E9 = some ce.cls → vx_W p l e R s m args below meth c H1 locs1 (cells + mc) (slots + ms) Q (F0 m pc ls rest) q9)
    (kk : ∀ (v : Option Value) (M1 : fw_M) (H1 : Heap) (locs1 : List Loc), post v M1 H1.size → fw_H G s M1 H1 locs1 → H.size ≤ H1.size → W p l e R s m args below meth c H1 locs1 (cells + mc) (slots + ms) Q (F0 m (pc + 3) ls (v.toList ++ rest))) : W p l e R s m args below meth c H locs cells slots Q (F0 m pc ls st0) :=
  fx_ret (vx_runV (As := As) (rest := rest) E hM ⟨fw_callB hK.me.2.1 (fun U hU => (hK.of hU).me.2.1) L q hR, hK.me.2.1 _ q2 _, hK.me.2.1 _ q3 _⟩ ⟨fw_blind, fw_recv hK hH ha hc, fun U hU hW => fw_at hK hH hU hW⟩ rfl hn hl.1 hst (lv_room hrm) hdg hf) hH kx kk
/-- a call of a method with a table of its own that always returns -/
def fwW (l : Launch) (y : MethodName) (cc : ByteArray) (maxL : Nat) (ret : Option FieldType) (hh : List (Nat × Nat × Nat × Nat)) (f lo mc ms : Nat) (G : fw_G) (M : fw_M) (n : Nat) (av : List Value) (post : Option Value → fw_M → Nat → Prop) : Prop :=
  Met l y [.codeWith y cc maxL ret hh] ({ frames := f, cells := mc, slots := ms, locals := lo }) (fw_P G M n av) (fw_Q G post) mc ms (fun q => G.2.2.1 ≤ q)
def fw_L1 (y : MethodName) (bytes : ByteArray) (maxL : Nat) (ret : Option FieldType) (hh : List (Nat × Nat × Nat × Nat)) (n : Nat) : Prop := Cond.initialized y.cls ∈ fwT ∧ Cond.codeWith y bytes maxL ret hh ∈ fwT ∧ y.cls ≠ "java/lang/invoke/MethodHandle" ∧ y.cls ≠ "java/lang/invoke/VarHandle" ∧ (parseMethodDescriptor y.desc).map (fun d => d.parameters.length) = some n
theorem fw_cSW (E : CallFix p m c cc nL s args fwT own) (hK : fw_K G s) (hH : fw_H G s M H locs) (hl : lv_has ls nL lv) {hh : List (Nat × Nat × Nat × Nat)} (L : fw_L1 y bytes maxL ret hh n) (q : Cond.methodLink own index y ∈ fwT) (q2 : Cond.static y ∈ fwT) (hM : fwW l y bytes maxL ret hh f lo mc ms G M H.size As post) (hst : st0 = As.reverse ++ rest) (hn : As.length = n) (hrm : (rest.map fun v => v.category).sum ≤ 8) (hR : f + 1 ≤ R.frames ∧ 8 + (maxL + 11) + lo ≤ R.locals) (hf : cells + mc ≤ R.cells ∧ slots + ms ≤ R.slots) (hdg : decode cc pc = .ok (.invokestatic index, 3))
    (kk : ∀ (v : Option Value) (M1 : fw_M) (H1 : Heap) (locs1 : List Loc), post v M1 H1.size → fw_H G s M1 H1 locs1 → H.size ≤ H1.size → W p l e R s m args below meth c H1 locs1 (cells + mc) (slots + ms) Q (F0 m (pc + 3) ls (v.toList ++ rest))) : W p l e R s m args below meth c H locs cells slots Q (F0 m pc ls st0) :=
  fw_ret (vx_runSW (As := As) (rest := rest) (g := F0 m pc ls st0) E hM ⟨⟨rfl, rfl, hR.1, hR.2, fun w hw a' U hU => by rw [List.mem_singleton.mp hw]; exact (hK.of hU).me.2.1 _ L.2.1 _, List.mem_singleton.mpr rfl⟩, hK.me.2.1 _ L.2.1 _, hK.me.2.1 _ L.1 _, ⟨L.2.2.1, L.2.2.2.1⟩, fun sig h => by have h2 := L.2.2.2.2; rw [h] at h2; exact (Option.some.inj h2).symm, hK.me.2.1 _ q _, hK.me.2.1 _ q2 _⟩ ⟨fw_blind, fun U hU hW => fw_at hK hH hU hW⟩ rfl hn hl.1 hst (lv_room hrm) hdg hf) hH kk
end FX
theorem fw_metW {l : Launch} {y : MethodName} {cc : ByteArray} {maxL f lo mc ms n : Nat} {ret : Option FieldType} {hh : List (Nat × Nat × Nat × Nat)} {G : fw_G} {M : fw_M} {av : List Value} {post : Option Value → fw_M → Nat → Prop} (own : String) (ho : y.cls = own) (hy : plainName y.cls = true) (hlen : (lg_sl av).length ≤ maxL) (hw : Cond.codeWith y cc maxL ret hh ∈ fwT)
    (body : ∀ (p : Program) (e : Env) (s : State) (m : MethodId) (args : Array Value) (below : List Frame) (meth : Method) (c : Code) (ls : Array Slot), CallFix p m c cc maxL s args fwT own → meth.sig.returnType = ret → meth.locks = false → c.exceptionTable.toList = tableOf hh → fw_K G s → fw_H G s M s.heap [] → s.heap.size = n → lv_has ls maxL (lv_args 0 av) →
      W p l e ({ frames := f, cells := mc, slots := ms, locals := lo }) s m args below meth c s.heap [] 0 0 (MQ below (fw_Q G post) args s mc ms (fun q => G.2.2.1 ≤ q)) (F0 m 0 ls [])) : fwW l y cc maxL ret hh f lo mc ms G M n av post := by
  refine va_MetW (cc := cc) (maxL := maxL) (ret := ret) (hh := hh) hy rfl ?_
  intro p e s m args below meth c s₁ B hml hv
  obtain ⟨rfl, hsz, hR, hK⟩ := hv
  have hl := lv_entry av (n := maxL) hlen
  rw [lg_entry_eq]
  exact body p e s m _ below meth c _ ⟨B.exec, B.bytes, hml, by rw [← ho]; exact findClass_of_methodNamed B.named, fun w hw => hK.me.2.1 w hw _⟩ B.returns B.notSynchronized (vx_table (x := y) B (hK.me.2.1 _ hw _)) hK ⟨hR, Nat.le_refl _, fun q hq => by cases hq⟩ hsz hl
/-- an exception's words, all among the tables' -/
theorem xw_ISE : ∀ w ∈ vx_atS RX9 80 "java/lang/IllegalStateException" ["java/lang/RuntimeException", "java/lang/Exception"], w ∈ fwT := by decide +kernel
theorem xg_ISE : (vx_atS RX9 80 "java/lang/IllegalStateException" ["java/lang/RuntimeException", "java/lang/Exception"]).all vx_ot = true := by decide +kernel
theorem xw_IAE : ∀ w ∈ vx_atS RX9 124 "java/lang/IllegalArgumentException" ["java/lang/RuntimeException", "java/lang/Exception"], w ∈ fwT := by decide +kernel
theorem xg_IAE : (vx_atS RX9 124 "java/lang/IllegalArgumentException" ["java/lang/RuntimeException", "java/lang/Exception"]).all vx_ot = true := by decide +kernel
theorem xw_IOB : ∀ w ∈ vx_atS RX9 263 "java/lang/IndexOutOfBoundsException" ["java/lang/RuntimeException", "java/lang/Exception"], w ∈ fwT := by decide +kernel
theorem xg_IOB : (vx_atS RX9 263 "java/lang/IndexOutOfBoundsException" ["java/lang/RuntimeException", "java/lang/Exception"]).all vx_ot = true := by decide +kernel
theorem xn_all : ∀ n ∈ ["java/lang/RuntimeException", "java/lang/Exception"], Bundle.fit n = true := by decide +kernel
theorem xf_ISE : Bundle.fit "java/lang/IllegalStateException" = true := by decide +kernel
theorem xf_IAE : Bundle.fit "java/lang/IllegalArgumentException" = true := by decide +kernel
theorem xf_IOB : Bundle.fit "java/lang/IndexOutOfBoundsException" = true := by decide +kernel
theorem xi_ISE : Cond.initialized "java/lang/IllegalStateException" ∈ fwT := by decide +kernel
theorem xi_IAE : Cond.initialized "java/lang/IllegalArgumentException" ∈ fwT := by decide +kernel
theorem xi_IOB : Cond.initialized "java/lang/IndexOutOfBoundsException" ∈ fwT := by decide +kernel

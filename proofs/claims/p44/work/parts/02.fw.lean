def iI (z : Int) : Int32 := Int32.ofInt z
/-! THE LAYER: a world is a function from addresses to cells; a contract hands a world and gets one back. Classes' ids, array classes' ids, the base address, the heap at the law's entry, the static rows' addresses: one tuple G. -/
abbrev fw_G : Type := va_G × (Nat → ClassId) × Nat × Heap × (Nat → Nat)
abbrev fw_M : Type := Nat → Option va_E
def fwTys (G : fw_G) : List (ClassId × FieldType) := [(G.2.1 0, .int), (G.2.1 1, .object RX8), (G.2.1 2, .array .int), (G.2.1 3, .boolean)]
def zPARTS (j : Nat) : Int := [0, 0, 2, 2, 2, 2, 2, 2, 3, 2, 2, 2, 2, 1].getD j 0
def zKS (j : Nat) : Int := [0, 0, 2, 2, 2, 2, 2, 2, 8, 9, 9, 11, 11, 13].getD j 0
def zKC (j : Nat) : Int := [2, 2, 6, 6, 6, 6, 6, 6, 1, 2, 2, 2, 2, 1].getD j 0
def fwZ2 (B : Nat) (ad : Nat → Nat) (V : State) (H0 : Heap) : Prop := va_T .int (ad 0) 14 (fun j => .int (iI (zPARTS j))) (fun q => B ≤ q) V H0 ∧ va_T .int (ad 1) 14 (fun j => .int (iI (zKS j))) (fun q => B ≤ q) V H0 ∧ va_T .int (ad 2) 14 (fun j => .int (iI (zKC j))) (fun q => B ≤ q) V H0 ∧ ∃ (L : Nat) (xs : Nat → Int32), L ≤ 260 ∧ va_T .int (ad 3) L (fun j => .int (xs j)) (fun q => B ≤ q) V H0
def fwZ (G : fw_G) (V : State) : Prop := va_Z RX9 "PARTS" "[I" (.ref (G.2.2.2.2 0)) (fun q => G.2.2.1 ≤ q) V G.2.2.2.1 ∧ va_Z RX9 "KIN_STARTS" "[I" (.ref (G.2.2.2.2 1)) (fun q => G.2.2.1 ≤ q) V G.2.2.2.1 ∧ va_Z RX9 "KIN_COUNTS" "[I" (.ref (G.2.2.2.2 2)) (fun q => G.2.2.1 ≤ q) V G.2.2.2.1 ∧ fwZ2 G.2.2.1 G.2.2.2.2 V G.2.2.2.1
/-- the heap holds the world; below the base nothing has changed -/
def fw_R (G : fw_G) (M : fw_M) (H : Heap) : Prop := G.2.2.1 ≤ H.size ∧ (∀ q : Nat, q < G.2.2.1 → H[q]? = G.2.2.2.1[q]?) ∧ ∀ (a : Nat) (e : va_E), M a = some e → va_at G.1 vwCl (a, e) H
/-- what the tables say, also once more entries are resolved -/
def fw_K (G : fw_G) (U : State) : Prop := ∀ V : State, U.WarmedH V.vm → va_K G.1 vwCl (fwTys G) V ∧ (∀ w ∈ fwT, ∀ A : Array Value, w.before A V = true) ∧ fwZ G V
theorem fw_K.of {G : fw_G} {s U : State} (h : fw_K G s) (hW : s.WarmedH U.vm) : fw_K G U := fun V hV => h V (State.WarmedH.trans hW hV)
theorem fw_K.me {G : fw_G} {s : State} (h : fw_K G s) : va_K G.1 vwCl (fwTys G) s ∧ (∀ w ∈ fwT, ∀ A : Array Value, w.before A s = true) ∧ fwZ G s := h s (State.WarmedH.refl s)
def fw_H (G : fw_G) (s : State) (M : fw_M) (H : Heap) (locs : List Loc) : Prop := fw_R G M H ∧ s.heap.size ≤ H.size ∧ ∀ q ∈ locs, G.2.2.1 ≤ q.base
def fw_P (G : fw_G) (M : fw_M) (n : Nat) (av : List Value) : Array Value → State → Prop := va_Pc av (fun U => U.heap.size = n ∧ fw_R G M U.heap ∧ fw_K G U)
def fw_Q (G : fw_G) (post : Option Value → fw_M → Nat → Prop) : Array Value → State → Outcome → State → Prop := fun _ st o t => ∃ (v : Option Value) (M1 : fw_M), o = .returned v ∧ post v M1 t.heap.size ∧ fw_R G M1 t.heap ∧ st.heap.size ≤ t.heap.size
/-- A CONTRACT -/
def fMet (l : Launch) (y : MethodName) (cc : ByteArray) (maxL : Nat) (ret : Option FieldType) (f lo mc ms : Nat) (G : fw_G) (M : fw_M) (n : Nat) (av : List Value) (post : Option Value → fw_M → Nat → Prop) : Prop :=
  Met l y [.code y cc maxL ret] ({ frames := f, cells := mc, slots := ms, locals := lo }) (fw_P G M n av) (fw_Q G post) mc ms (fun q => G.2.2.1 ≤ q)
def fw_pi (post : Int32 → fw_M → Nat → Prop) : Option Value → fw_M → Nat → Prop := fun v M n => ∃ r : Int32, v = some (.int r) ∧ post r M n
def fw_pl (post : Int64 → fw_M → Nat → Prop) : Option Value → fw_M → Nat → Prop := fun v M n => ∃ r : Int64, v = some (.long r) ∧ post r M n
def fw_pr (post : Nat → fw_M → Nat → Prop) : Option Value → fw_M → Nat → Prop := fun v M n => ∃ r : Nat, v = some (.ref r) ∧ post r M n
def fw_pd (post : UInt64 → fw_M → Nat → Prop) : Option Value → fw_M → Nat → Prop := fun v M n => ∃ r : UInt64, v = some (.double r) ∧ post r M n
def fw_pv (post : fw_M → Nat → Prop) : Option Value → fw_M → Nat → Prop := fun v M n => v = none ∧ post M n
def fw_up (M : fw_M) (a : Nat) (e : va_E) : fw_M := fun q => if q = a then some e else M q
theorem fw_up_eq {M : fw_M} {a : Nat} {e : va_E} : fw_up M a e a = some e := if_pos rfl
theorem fw_up_ne {M : fw_M} {a b : Nat} {e : va_E} (h : b ≠ a) : fw_up M a e b = M b := if_neg h
abbrev fI (G : fw_G) (n : Nat) (f : Nat → Int32) : va_E := .inl (G.2.1 0, n, .inl f)
abbrev fB (G : fw_G) (n : Nat) (f : Nat → Int32) : va_E := .inl (G.2.1 3, n, .inl f)
abbrev fJ (G : fw_G) (n : Nat) (f : Nat → Int64) : va_E := .inl (G.2.1 2, n, .inr (.inl f))
abbrev fT (G : fw_G) (n : Nat) (f : Nat → Option Nat) : va_E := .inl (G.2.1 1, n, .inr (.inr (.inr (.inr f))))
theorem fw_one {G : fw_G} {s : State} {M : fw_M} {H : Heap} {locs : List Loc} {a : Nat} {e : va_E} (hH : fw_H G s M H locs) (ha : M a = some e) : va_P G.1 vwCl [(a, e)] H := by
  intro k q hk
  have hz : k < 1 := (List.getElem?_eq_some_iff.mp hk).1
  rw [show k = 0 by omega] at hk
  cases hk
  exact hH.1.2.2 a e ha
theorem fw_H.up {G : fw_G} {s : State} {M : fw_M} {H H1 : Heap} {locs l2 : List Loc} {a : Nat} {e : va_E} (hH : fw_H G s M H locs) (hb : G.2.2.1 ≤ a) (he : va_at G.1 vwCl (a, e) H1) (hz : H1.size = H.size) (oq : ∀ q : Nat, q ≠ a → H1[q]? = H[q]?) (hl : ∀ q ∈ l2, q.base = a) : fw_H G s (fw_up M a e) H1 (locs ++ l2) := by
  obtain ⟨⟨h1, h2, h3⟩, h4, h5⟩ := hH
  refine ⟨⟨by omega, fun q hq => ?_, fun b e1 hb1 => ?_⟩, by omega, fun q hq => ?_⟩
  · rw [oq q (by omega)]; exact h2 q hq
  · by_cases hba : b = a
    · subst hba
      rw [fw_up_eq] at hb1
      cases hb1
      exact he
    · rw [fw_up_ne hba] at hb1
      exact (h3 b e1 hb1).kept (oq b hba)
  · rcases List.mem_append.mp hq with h | h
    · exact h5 q h
    · rw [hl q h]; exact hb
/-- a class of the worlds: its place, its words, its types, its names apart -/
def fw_C (ci : Nat) (C : String) (T : u_T) (N : Nat) (ty : Nat → FieldType) : Prop := vwCl[ci]? = some (C, T, N) ∧ (∀ w ∈ u_ws C T N, w ∈ fwT) ∧ (∀ k, k < N → parseFieldDescriptor (T k).2.2.1 = some (ty k)) ∧ ∀ a, a < N → ∀ b, b < N → a ≠ b → (T a).2.1 ≠ (T b).2.1
section FW
variable {p : Program} {l : Launch} {e : Env} {R : Room} {s : State} {m : MethodId} {args : Array Value} {below : List Frame} {meth : Method} {c : Code} {H : Heap} {locs : List Loc} {cells slots : Nat} {Q : State → Prop} {G : fw_G} {M : fw_M} {cc : ByteArray} {nL pc : Nat} {ls : Array Slot} {rest : List Value} {own : String}
theorem fw_get (E : CallFix p m c cc nL s args fwT own) (hK : fw_K G s) (hH : fw_H G s M H locs) {a ci N index : Nat} {C : String} {T : u_T} {ty : Nat → FieldType} {fs : List Value} {v : Value} (ha : M a = some (.inr (ci, fs))) (hc : fw_C ci C T N ty) (k : Nat) (hk : k < N) (q : Cond.fieldLink own index C (T k).2.1 (T k).2.2.1 ∈ fwT) (hC : (T k).1 = C) (hv : fs[k]? = some v) (hdg : decode cc pc = .ok (.getfield index, 3))
    (kk : W p l e R s m args below meth c H locs cells slots Q (F0 m (pc + 3) ls (v :: rest))) : W p l e R s m args below meth c H locs cells slots Q (F0 m pc ls (.ref a :: rest)) :=
  va_get (D := G.1) (cl := vwCl) (ws := [(a, .inr (ci, fs))]) (tys := fwTys G) E.1 E.2.1 E.2.2.2.2 hc.2.1 E.2.2.2.1 hK.me.1 (fw_one hH ha) 0 rfl hc.1 k hk (E.2.2.2.2 _ q) (by rw [hC]; exact fun _ h => h) hv hdg kk
theorem fw_getN (E : CallFix p m c cc nL s args fwT own) (hK : fw_K G s) (hH : fw_H G s M H locs) {a ci N index : Nat} {C host : String} {T : u_T} {ty : Nat → FieldType} {fs : List Value} {v : Value} (ha : M a = some (.inr (ci, fs))) (hc : fw_C ci C T N ty) (k : Nat) (hk : k < N) (q : Cond.fieldLinkNest own index C (T k).2.1 (T k).2.2.1 host ∈ fwT) (hC : (T k).1 = C) (hv : fs[k]? = some v) (hdg : decode cc pc = .ok (.getfield index, 3))
    (kk : W p l e R s m args below meth c H locs cells slots Q (F0 m (pc + 3) ls (v :: rest))) : W p l e R s m args below meth c H locs cells slots Q (F0 m pc ls (.ref a :: rest)) :=
  va_getN (D := G.1) (cl := vwCl) (ws := [(a, .inr (ci, fs))]) (tys := fwTys G) E.1 E.2.1 E.2.2.2.2 hc.2.1 E.2.2.2.1 hK.me.1 (fw_one hH ha) 0 rfl hc.1 k hk (E.2.2.2.2 _ q) (by rw [hC]; exact fun _ h => h) hv hdg kk
theorem fw_put (E : CallFix p m c cc nL s args fwT own) (hK : fw_K G s) (hH : fw_H G s M H locs) {a ci N index : Nat} {C : String} {T : u_T} {ty : Nat → FieldType} {fs : List Value} {v : Value} (hb : G.2.2.1 ≤ a) (ha : M a = some (.inr (ci, fs))) (hc : fw_C ci C T N ty) (k : Nat) (hk : k < N) (q : Cond.fieldLink own index C (T k).2.1 (T k).2.2.1 ∈ fwT) (hC : (T k).1 = C) (hfin : (T k).2.2.2 = false) (hn : narrow (ty k) v = v) (hfit : fits (ty k) v = true) (hl : k < fs.length) (hdg : decode cc pc = .ok (.putfield index, 3))
    (kk : ∀ (H1 : Heap) (locs1 : List Loc), fw_H G s (fw_up M a (.inr (ci, fs.set k v))) H1 locs1 → H1.size = H.size → W p l e R s m args below meth c H1 locs1 cells slots Q (F0 m (pc + 3) ls rest)) : W p l e R s m args below meth c H locs cells slots Q (F0 m pc ls (v :: .ref a :: rest)) := by
  obtain ⟨hx, hbc, -, hown, hts⟩ := E
  have hKs := hK.me.1
  have hap := va_apart (own := own) hts hc.2.1 ty hc.2.2.1 hc.2.2.2 hKs hc.1
  obtain ⟨r, h1, cell, q1, q2, q3, q4⟩ := hH.1.2.2 a _ ha
  have hr : r = (C, T, N) := Option.some.inj (h1.symm.trans hc.1)
  subst hr
  obtain ⟨hS, hfc, kC, hkC, hkind⟩ := hKs.1 ci _ hc.1
  obtain ⟨cf, kf, fi, f, hi, hsl⟩ := hS k hk
  have hlay := hts _ (hc.2.1 _ (u_in_lay hk))
  unfold u_lay at hlay
  rw [if_neg (by rw [hfin]; decide)] at hlay
  have hst := (u_facts hfc hkC (u_lays hts hc.2.1 hk) hi).1
  have h6 := u_store hfc hkC hkind hlay hi (hc.2.2.1 k hk) hn hfit
  refine W.putK hx hbc (f := f) ⟨hown, hts _ q, ⟨_, _, _, by rw [← hC]; exact hi⟩, hst⟩ (by rw [q2]; exact h6) q1 q3 (by rw [hsl]; exact k2_hasslot (q4 k hk)) rfl rfl hdg fun H' e1 e2 e3 => ?_
  rw [hsl] at e1 ⊢
  exact kk H' _ (hH.up hb ⟨_, hc.1, t_OB.to (V := updV (vp_V fs) k v) ⟨_, e1, q2, q3, t_set q4 hap hk v⟩ (fun j _ => vp_updV_set hl v j)⟩ e2 e3 (fun q hq => by rw [List.mem_singleton.mp hq])) e2
end FW

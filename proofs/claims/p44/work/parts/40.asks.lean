theorem fMet.mono {l : Launch} {y : MethodName} {cc : ByteArray} {maxL : Nat} {ret : Option FieldType} {f lo mc ms : Nat} {G : fw_G} {M : fw_M} {n : Nat} {av : List Value} {post post2 : Option Value → fw_M → Nat → Prop} (h : fMet l y cc maxL ret f lo mc ms G M n av post) (hp : ∀ v M1 n1, post v M1 n1 → post2 v M1 n1) : fMet l y cc maxL ret f lo mc ms G M n av post2 := by
  unfold fMet Met MetFree at h ⊢
  intro p e he hf hc s m args below hfr hS hP hK
  obtain ⟨n, o, h1, h2, h3, ⟨v, M1, q1, q2, q3⟩, h5⟩ := h p e he hf hc s m args below hfr hS hP hK
  exact ⟨n, o, h1, h2, h3, ⟨v, M1, q1, hp _ _ _ q2, q3⟩, h5⟩
theorem fMet.mi {l : Launch} {y : MethodName} {cc : ByteArray} {maxL : Nat} {ret : Option FieldType} {f lo mc ms : Nat} {G : fw_G} {M : fw_M} {n : Nat} {av : List Value} {post post2 : Int32 → fw_M → Nat → Prop} (h : fMet l y cc maxL ret f lo mc ms G M n av (fw_pi post)) (hp : ∀ r M1 n1, post r M1 n1 → post2 r M1 n1) : fMet l y cc maxL ret f lo mc ms G M n av (fw_pi post2) := h.mono (fun _ _ _ ⟨r, h1, h2⟩ => ⟨r, h1, hp _ _ _ h2⟩)
theorem fMet.mv {l : Launch} {y : MethodName} {cc : ByteArray} {maxL : Nat} {ret : Option FieldType} {f lo mc ms : Nat} {G : fw_G} {M : fw_M} {n : Nat} {av : List Value} {post post2 : fw_M → Nat → Prop} (h : fMet l y cc maxL ret f lo mc ms G M n av (fw_pv post)) (hp : ∀ M1 n1, post M1 n1 → post2 M1 n1) : fMet l y cc maxL ret f lo mc ms G M n av (fw_pv post2) := h.mono (fun _ _ _ ⟨h1, h2⟩ => ⟨h1, hp _ _ h2⟩)
theorem gcW.d {G : fw_G} {M : fw_M} {go o : Nat} {lk : Int} {cn : Nat} {gn mi : Int} {T : Nat → aT} (h : gcW G M go o lk cn gn mi T) : M (go + 1) = some (.inr (1, [.ref (go + 1 + 1), .int (iI 0), .int (iI lk)])) := by
  obtain ⟨tl, h1⟩ := h.2.2.1
  exact h1.2.1
theorem rnO.c {G : fw_G} {M : fw_M} {ko cn : Nat} {me sz : Nat → Int} (h : rnO G M ko cn me sz) : M ko = some (.inr (4, [.ref (ko + 1), .ref (ko + 2), .ref (ko + 3)])) := by
  obtain ⟨mq, sq, od, h1, _⟩ := h
  exact h1.2.1
theorem rnW.c {G : fw_G} {M : fw_M} {ko : Nat} (h : rnW G M ko) : M ko = some (.inr (4, [.ref (ko + 1), .ref (ko + 2), .ref (ko + 3)])) := by
  obtain ⟨mq, sq, od, h1, _⟩ := h
  exact h1.2.1
theorem k_codeG (l : Launch) (G : fw_G) (M : fw_M) (N : Nat) (a : Nat) (t : aT) (hA : aTw G M a t) (hv : vtOK t.1 t.2.1 t.2.2.1 t.2.2.2) (p : Nat) (hp : p < t.1) : fMet l yX8_code cX8_code 2 (some .int) 1 30 0 0 G M N [.ref a, .int (iI ↑p)] (fw_pi (fun r M1 n1 => r = iI (t.2.1 p) ∧ M1 = M ∧ n1 = N)) := by
  obtain ⟨cs, vs, ss, hs, hT, hag, hbd⟩ := hA
  have hp4 := hv.1.2
  have hx := hag p hp
  have hnd := (hv.2.2.2.2.2 p hp).1
  refine fMet.mi (k_code l G M N a cs vs ss hs _ _ ↑p p hT rfl (by omega)) (fun r M1 n1 h => ⟨h.1.trans (congrArg iI hx.1), h.2⟩)
theorem k_valueG (l : Launch) (G : fw_G) (M : fw_M) (N : Nat) (a : Nat) (t : aT) (hA : aTw G M a t) (hv : vtOK t.1 t.2.1 t.2.2.1 t.2.2.2) (p : Nat) (hp : p < t.1) : fMet l yX8_value cX8_value 2 (some .int) 1 30 0 0 G M N [.ref a, .int (iI ↑p)] (fw_pi (fun r M1 n1 => r = iI (t.2.2.1 p) ∧ M1 = M ∧ n1 = N)) := by
  obtain ⟨cs, vs, ss, hs, hT, hag, hbd⟩ := hA
  have hp4 := hv.1.2
  have hx := hag p hp
  have hnd := (hv.2.2.2.2.2 p hp).1
  refine fMet.mi (k_value l G M N a cs vs ss hs _ _ ↑p p hT rfl (by omega)) (fun r M1 n1 h => ⟨h.1.trans (congrArg iI hx.2.1), h.2⟩)
theorem k_spanG (l : Launch) (G : fw_G) (M : fw_M) (N : Nat) (a : Nat) (t : aT) (hA : aTw G M a t) (hv : vtOK t.1 t.2.1 t.2.2.1 t.2.2.2) (p : Nat) (hp : p < t.1) : fMet l yX8_span cX8_span 2 (some .int) 1 30 0 0 G M N [.ref a, .int (iI ↑p)] (fw_pi (fun r M1 n1 => r = iI (↑(t.2.2.2 p)) ∧ M1 = M ∧ n1 = N)) := by
  obtain ⟨cs, vs, ss, hs, hT, hag, hbd⟩ := hA
  have hp4 := hv.1.2
  have hx := hag p hp
  have hnd := (hv.2.2.2.2.2 p hp).1
  refine fMet.mi (k_span l G M N a cs vs ss hs _ _ ↑p p hT rfl (by omega)) (fun r M1 n1 h => ⟨h.1.trans (congrArg iI hx.2.2), h.2⟩)
theorem k_isNumberG (l : Launch) (G : fw_G) (M : fw_M) (N : Nat) (a : Nat) (t : aT) (hA : aTw G M a t) (hv : vtOK t.1 t.2.1 t.2.2.1 t.2.2.2) (p : Nat) (hp : p < t.1) : fMet l yX8_isNumber cX8_isNumber 2 (some .boolean) 1 30 0 0 G M N [.ref a, .int (iI ↑p)] (fw_pi (fun r M1 n1 => r = iI (numI (t.2.1 p)) ∧ M1 = M ∧ n1 = N)) := by
  obtain ⟨cs, vs, ss, hs, hT, hag, hbd⟩ := hA
  have hp4 := hv.1.2
  have hx := hag p hp
  have hnd := (hv.2.2.2.2.2 p hp).1
  refine fMet.mi (k_isNumber l G M N a cs vs ss hs _ _ ↑p p hT rfl (by omega) (by rw [hx.1]; exact hnd)) (fun r M1 n1 h => ⟨h.1.trans (congrArg iI (by rw [hx.1]; rfl)), h.2⟩)
theorem k_crossG (l : Launch) (G : fw_G) (M : fw_M) (N : Nat) (a f o : Nat) (c d : aT) (p q : Nat) (hA : tany G M a) (hF : aTw G M f c) (hO : aTw G M o d) (hv : vtOK c.1 c.2.1 c.2.2.1 c.2.2.2) (hv2 : vtOK d.1 d.2.1 d.2.2.1 d.2.2.2) (hp : p < c.1) (hq : q < d.1) (haf : a + 5 ≤ f ∨ f + 5 ≤ a) (hao : a + 5 ≤ o ∨ o + 5 ≤ a) : fMet l yX8_becomeCrossed cX8_becomeCrossed 6 (some .boolean) 2 80 0 0 G M N [.ref a, .ref f, .int (iI ↑p), .ref o, .int (iI ↑q)] (fw_pi (fun r M1 n1 => ∃ b : Int, r = iI b ∧ ((b = 1 ∧ crOK c p d q ∧ aTw G M1 a (crT c p d q)) ∨ (b = 0 ∧ ¬ crOK c p d q ∧ tany G M1 a)) ∧ (∀ q, q < a ∨ a + 5 ≤ q → M1 q = M q) ∧ n1 = N)) := by
  refine fMet.mi (k_becomeCrossed l G M N a f o c.1 p d.1 q c.2.1 c.2.2.1 c.2.2.2 d.2.1 d.2.2.1 d.2.2.2 hA hF hO hv hv2 hp hq haf hao) (fun r M1 n1 h => ?_)
  obtain ⟨b, h1, h2, h3⟩ := h
  refine ⟨b, h1, ?_, h3⟩
  rcases h2 with ⟨g1, g2, g3⟩ | ⟨g1, g2, g3⟩
  · refine Or.inr ⟨g2, fun hk => g1 hk.1, ?_⟩
    rw [g3]; exact hA
  · rcases g3 with ⟨f1, f2⟩ | ⟨f1, f2⟩
    · exact Or.inl ⟨f1, ⟨g1, f2⟩, g2⟩
    · exact Or.inr ⟨f1, fun hk => by have h9 := hk.2; exact absurd h9 (Nat.not_le.mpr f2), tw.any g2⟩
theorem k_betterG (l : Launch) (G : fw_G) (M : fw_M) (N : Nat) (ko cn : Nat) (me sz : Nat → Int) (hK : rnO G M ko cn me sz) (hcn : cn ≤ 16) (i j : Nat) (hi : i < cn) (hj : j < cn) : fMet l yX4_isBetter cX4_isBetter 3 (some .boolean) 1 60 0 0 G M N [.ref ko, .int (iI ↑i), .int (iI ↑j)] (fw_pi (fun r M1 n1 => r = iI (btB me sz i j) ∧ M1 = M ∧ n1 = N)) := by
  obtain ⟨mq, sq, od, hQ, hB, hA, _⟩ := hK
  have h := k_isBetter l G M N ko mq sq od hQ i j (by omega) (by omega) hB
  rw [btB_congr (hA i hi) (hA j hj)] at h
  exact h
theorem k_withRankG (l : Launch) (G : fw_G) (M : fw_M) (N : Nat) (ko cn : Nat) (me sz : Nat → Int) (hK : rnO G M ko cn me sz) (hcn : cn ≤ 16) (i : Nat) (hi : i < cn) : fMet l yX4_withRank cX4_withRank 2 (some .int) 1 30 0 0 G M N [.ref ko, .int (iI ↑i)] (fw_pi (fun r M1 n1 => r = iI (ordF me sz cn i) ∧ M1 = M ∧ n1 = N)) := by
  obtain ⟨mq, sq, od, hQ, hB, hA, hO⟩ := hK
  have h := k_withRank l G M N ko mq sq od hQ i (by omega)
  rw [hO i hi] at h
  exact h

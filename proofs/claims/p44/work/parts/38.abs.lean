/-! ABSTRACT TREES, the judge's facts, an order of all -/
abbrev aT : Type := Nat × (Nat → Int) × (Nat → Int) × (Nat → Nat)
abbrev aJ : Type := (Nat → Int) × (Nat → Int) × (Nat → Int) × (Nat → Int) × Nat × Int × Int
def aTw (G : fw_G) (M : fw_M) (a : Nat) (t : aT) : Prop := tw G M a t.1 t.2.1 t.2.2.1 t.2.2.2
theorem aTw.fr {G : fw_G} {M M1 : fw_M} {a : Nat} {t : aT} (h : aTw G M a t) (hf : ∀ q, a ≤ q → q < a + 5 → M1 q = M q) : aTw G M1 a t := tw.fr h hf
theorem aTw.any {G : fw_G} {M : fw_M} {a : Nat} {t : aT} (h : aTw G M a t) : tany G M a := tw.any h
theorem aTw.c {G : fw_G} {M : fw_M} {a : Nat} {t : aT} (h : aTw G M a t) : M a = some (.inr (8, [.ref (a + 1), .ref (a + 2), .ref (a + 3), .ref (a + 4), .int (iI ↑t.1), .int (iI ↑(lvF t.1 t.2.1 t.2.2.2))])) := by
  obtain ⟨cs, vs, ss, hs, h1, _⟩ := h
  exact h1.2.1
theorem aTw.b {G : fw_G} {M : fw_M} {a : Nat} {t : aT} (h : aTw G M a t) : G.2.2.1 ≤ a := by
  obtain ⟨cs, vs, ss, hs, h1, _⟩ := h
  exact h1.1
def aOK (t : aT) : Prop := vtOK t.1 t.2.1 t.2.2.1 t.2.2.2 ∧ lvF t.1 t.2.1 t.2.2.2 ≤ 8
def jW (G : fw_G) (M : fw_M) (jo : Nat) (j : aJ) : Prop := ∃ ip rs : Nat → Int, jdAt G M jo ip rs j.1 j.2.1 j.2.2.1 j.2.2.2.1 ↑j.2.2.2.2.1 j.2.2.2.2.2.1 j.2.2.2.2.2.2
theorem jW.fr {G : fw_G} {M M1 : fw_M} {jo : Nat} {j : aJ} (h : jW G M jo j) (hf : ∀ q, jo ≤ q → q < jo + 8 → M1 q = M q) : jW G M1 jo j := by
  obtain ⟨ip, rs, h⟩ := h
  exact ⟨ip, rs, h.fr hf⟩
theorem jW.c {G : fw_G} {M : fw_M} {jo : Nat} {j : aJ} (h : jW G M jo j) : M jo = some (.inr (3, [.ref (jo + 1), .ref (jo + 4), .ref (jo + 5), .ref (jo + 6), .ref (jo + 7), .int (iI ↑j.2.2.2.2.1), .int (iI j.2.2.2.2.2.1), .int (iI j.2.2.2.2.2.2)])) := by
  obtain ⟨ip, rs, h⟩ := h
  exact h.2.1
def jOK (j : aJ) : Prop := j.2.2.2.2.1 ≤ 12 ∧ casOK j.1 j.2.1 j.2.2.1 j.2.2.2.1 j.2.2.2.2.1 ∧ (0 ≤ j.2.2.2.2.2.1 ∧ j.2.2.2.2.2.1 ≤ 2) ∧ (0 ≤ j.2.2.2.2.2.2 ∧ j.2.2.2.2.2.2 ≤ 99)
def erT (j : aJ) (t : aT) (p : Nat) : Int := errS j.1 j.2.1 j.2.2.1 j.2.2.2.1 t.2.1 t.2.2.1 t.2.2.2 p j.2.2.2.2.1
def htT (j : aJ) (t : aT) : Int := hitS j.1 j.2.1 j.2.2.1 j.2.2.2.1 t.2.1 t.2.2.1 t.2.2.2 j.2.2.2.2.1
def meT (j : aJ) (t : aT) : Int := merF j.2.2.2.2.2.1 j.2.2.2.2.2.2 (erT j t 0) t.1
def szT (j : aJ) (t : aT) : Int := if j.2.2.2.2.2.1 = 2 then ↑t.1 else 0
theorem erT_b {j : aJ} {t : aT} {p : Nat} (hj : jOK j) (ht : vtOK t.1 t.2.1 t.2.2.1 t.2.2.2) (hp : p < t.1) : 0 ≤ erT j t p ∧ erT j t p ≤ 239976 := by
  have h := errS_b (V := t.2.2.1) ht.2.2.2.1 ht.1.2 hp hj.2.1 j.2.2.2.2.1 (Nat.le_refl _)
  have h2 := hj.1
  unfold erT
  omega
theorem meT_b {j : aJ} {t : aT} (hj : jOK j) (ht : vtOK t.1 t.2.1 t.2.2.1 t.2.2.2) : 0 ≤ meT j t ∧ meT j t ≤ 243936 := merF_b hj.2.2.2 (erT_b hj ht ht.1.1) ht.1.2
theorem szT_b {j : aJ} {t : aT} (ht : vtOK t.1 t.2.1 t.2.2.1 t.2.2.2) : 0 ≤ szT j t ∧ szT j t ≤ 40 := by
  have h := ht.1.2
  unfold szT
  split <;> omega
/-! an order -/
def rnB (me sz : Nat → Int) : Prop := ∀ k, k < 16 → (0 ≤ me k ∧ me k ≤ 999999) ∧ (0 ≤ sz k ∧ sz k ≤ 40)
def ordF (me sz : Nat → Int) : Nat → Nat → Int
  | 0 => fun _ => 0
  | i + 1 => insO me sz (ordF me sz i) i
theorem btB_me {me sz : Nat → Int} {i j : Nat} (h : btB me sz i j = 1) : me i ≤ me j := by
  unfold btB at h
  by_cases h1 : me i = me j
  · omega
  · rw [if_neg h1] at h
    by_cases h2 : me i < me j
    · omega
    · rw [if_neg h2] at h; exact absurd h (by decide)
theorem btB_em {me sz : Nat → Int} {i j : Nat} (h : ¬ btB me sz i j = 1) : me j ≤ me i := by
  unfold btB at h
  by_cases h1 : me i = me j
  · omega
  · rw [if_neg h1] at h
    by_cases h2 : me i < me j
    · rw [if_pos h2] at h; exact absurd rfl h
    · omega
theorem btB_congr {me sz m s : Nat → Int} {i j : Nat} (hi : m i = me i ∧ s i = sz i) (hj : m j = me j ∧ s j = sz j) : btB m s i j = btB me sz i j := by
  unfold btB
  rw [hi.1, hi.2, hj.1, hj.2]
theorem insP_le (me sz od : Nat → Int) (i : Nat) : ∀ r, insP me sz od i r ≤ r := by
  intro r
  induction r with
  | zero => exact Nat.le_refl _
  | succ r ih =>
    show (if btB me sz i (od r).toNat = 1 then insP me sz od i r else r + 1) ≤ r + 1
    split <;> omega
theorem insP_ge (me sz od : Nat → Int) (i : Nat) : ∀ r k, insP me sz od i r ≤ k → k < r → btB me sz i (od k).toNat = 1 := by
  intro r
  induction r with
  | zero => intro k _ h; omega
  | succ r ih =>
    intro k h1 h2
    have h1 : (if btB me sz i (od r).toNat = 1 then insP me sz od i r else r + 1) ≤ k := h1
    by_cases hb : btB me sz i (od r).toNat = 1
    · rw [if_pos hb] at h1
      by_cases hk : k = r
      · rw [hk]; exact hb
      · exact ih k h1 (by omega)
    · rw [if_neg hb] at h1; omega
theorem insP_lt (me sz od : Nat → Int) (i : Nat) : ∀ r, 0 < insP me sz od i r → ¬ btB me sz i (od (insP me sz od i r - 1)).toNat = 1 := by
  intro r
  induction r with
  | zero => intro h; exact absurd h (Nat.not_lt_zero _)
  | succ r ih =>
    intro h
    by_cases hb : btB me sz i (od r).toNat = 1
    · have e : insP me sz od i (r + 1) = insP me sz od i r := by
        show (if btB me sz i (od r).toNat = 1 then insP me sz od i r else r + 1) = _
        rw [if_pos hb]
      rw [e] at h ⊢
      exact ih h
    · have e : insP me sz od i (r + 1) = r + 1 := by
        show (if btB me sz i (od r).toNat = 1 then insP me sz od i r else r + 1) = _
        rw [if_neg hb]
      rw [e]
      exact hb
theorem insP_congr {me sz m s od w : Nat → Int} {i : Nat} (hw : ∀ k, k < i → w k = od k) (hb : ∀ k, k < i → 0 ≤ od k ∧ od k < ↑i) (hm : ∀ k, k ≤ i → m k = me k ∧ s k = sz k) : ∀ r, r ≤ i → insP m s w i r = insP me sz od i r := by
  intro r
  induction r with
  | zero => intro _; rfl
  | succ r ih =>
    intro hr
    show (if btB m s i (w r).toNat = 1 then insP m s w i r else r + 1) = (if btB me sz i (od r).toNat = 1 then insP me sz od i r else r + 1)
    have hbr := hb r (by omega)
    rw [hw r (by omega), ih (by omega), btB_congr (hm i (Nat.le_refl _)) (hm (od r).toNat (by omega))]
theorem insO_congr {me sz m s od w : Nat → Int} {i : Nat} (hw : ∀ k, k < i → w k = od k) (hb : ∀ k, k < i → 0 ≤ od k ∧ od k < ↑i) (hm : ∀ k, k ≤ i → m k = me k ∧ s k = sz k) : ∀ k, k ≤ i → insO m s w i k = insO me sz od i k := by
  intro k hk
  unfold insO
  rw [insP_congr hw hb hm i (Nat.le_refl _)]
  have hp := insP_le me sz od i i
  by_cases h1 : k < insP me sz od i i
  · rw [if_pos h1, if_pos h1, hw k (by omega)]
  · rw [if_neg h1, if_neg h1]
    by_cases h2 : k = insP me sz od i i
    · rw [if_pos h2, if_pos h2]
    · rw [if_neg h2, if_neg h2, if_pos hk, if_pos hk, hw (k - 1) (by omega)]
theorem insO_cases (me sz od : Nat → Int) (i k : Nat) (hk : k ≤ i) : (k < insP me sz od i i ∧ insO me sz od i k = od k) ∨ (k = insP me sz od i i ∧ insO me sz od i k = ↑i) ∨ (insP me sz od i i < k ∧ insO me sz od i k = od (k - 1)) := by
  unfold insO
  by_cases h1 : k < insP me sz od i i
  · exact Or.inl ⟨h1, if_pos h1⟩
  · rw [if_neg h1]
    by_cases h2 : k = insP me sz od i i
    · exact Or.inr (Or.inl ⟨h2, if_pos h2⟩)
    · rw [if_neg h2, if_pos hk]
      exact Or.inr (Or.inr ⟨by omega, rfl⟩)
theorem ordF_b (me sz : Nat → Int) : ∀ n k, k < n → 0 ≤ ordF me sz n k ∧ ordF me sz n k < ↑n := by
  intro n
  induction n with
  | zero => intro k h; omega
  | succ i ih =>
    intro k h
    show 0 ≤ insO me sz (ordF me sz i) i k ∧ insO me sz (ordF me sz i) i k < ↑(i + 1)
    rcases insO_cases me sz (ordF me sz i) i k (by omega) with ⟨h1, h2⟩ | ⟨h1, h2⟩ | ⟨h1, h2⟩
    · have hp := insP_le me sz (ordF me sz i) i i
      have := ih k (by omega)
      omega
    · omega
    · have := ih (k - 1) (by omega)
      omega
theorem ordF_inj (me sz : Nat → Int) : ∀ n a b, a < b → b < n → ordF me sz n a ≠ ordF me sz n b := by
  intro n
  induction n with
  | zero => intro a b _ h; omega
  | succ i ih =>
    intro a b h1 h2
    show insO me sz (ordF me sz i) i a ≠ insO me sz (ordF me sz i) i b
    rcases insO_cases me sz (ordF me sz i) i a (by omega) with ⟨g1, g2⟩ | ⟨g1, g2⟩ | ⟨g1, g2⟩ <;> rcases insO_cases me sz (ordF me sz i) i b (by omega) with ⟨f1, f2⟩ | ⟨f1, f2⟩ | ⟨f1, f2⟩ <;> rw [g2, f2]
    · have hp := insP_le me sz (ordF me sz i) i i
      exact ih a b h1 (by omega)
    · have hp := insP_le me sz (ordF me sz i) i i
      have := ordF_b me sz i a (by omega)
      omega
    · exact ih a (b - 1) (by omega) (by omega)
    · omega
    · omega
    · have := ordF_b me sz i (b - 1) (by omega)
      omega
    · omega
    · omega
    · exact ih (a - 1) (b - 1) (by omega) (by omega)
theorem ordF_le (me sz : Nat → Int) : ∀ n a b, a ≤ b → b < n → me (ordF me sz n a).toNat ≤ me (ordF me sz n b).toNat := by
  intro n
  induction n with
  | zero => intro a b _ h; omega
  | succ i ih =>
    intro a b h1 h2
    show me (insO me sz (ordF me sz i) i a).toNat ≤ me (insO me sz (ordF me sz i) i b).toNat
    have hp := insP_le me sz (ordF me sz i) i i
    have hge := insP_ge me sz (ordF me sz i) i i
    have hlt := insP_lt me sz (ordF me sz i) i i
    rcases insO_cases me sz (ordF me sz i) i a (by omega) with ⟨g1, g2⟩ | ⟨g1, g2⟩ | ⟨g1, g2⟩ <;> rcases insO_cases me sz (ordF me sz i) i b (by omega) with ⟨f1, f2⟩ | ⟨f1, f2⟩ | ⟨f1, f2⟩ <;> rw [g2, f2]
    · exact ih a b h1 (by omega)
    · have q1 := ih a (insP me sz (ordF me sz i) i i - 1) (by omega) (by omega)
      have q2 := btB_em (hlt (by omega))
      rw [Int.toNat_natCast]
      exact Int.le_trans q1 q2
    · exact ih a (b - 1) (by omega) (by omega)
    · omega
    · exact Int.le_refl _
    · rw [Int.toNat_natCast]
      exact btB_me (hge (b - 1) (by omega) (by omega))
    · omega
    · omega
    · exact ih (a - 1) (b - 1) (by omega) (by omega)
theorem ordF_min (me sz : Nat → Int) : ∀ n j, j < n → me (ordF me sz n 0).toNat ≤ me j := by
  intro n
  induction n with
  | zero => intro j h; omega
  | succ i ih =>
    intro j h
    show me (insO me sz (ordF me sz i) i 0).toNat ≤ me j
    have hp := insP_le me sz (ordF me sz i) i i
    have hge := insP_ge me sz (ordF me sz i) i i
    have hlt := insP_lt me sz (ordF me sz i) i i
    rcases insO_cases me sz (ordF me sz i) i 0 (by omega) with ⟨g1, g2⟩ | ⟨g1, g2⟩ | ⟨g1, g2⟩
    · rw [g2]
      by_cases hj : j = i
      · have q1 := ordF_le me sz i 0 (insP me sz (ordF me sz i) i i - 1) (by omega) (by omega)
        have q2 := btB_em (hlt (by omega))
        rw [hj]
        exact Int.le_trans q1 q2
      · exact ih j (by omega)
    · rw [g2, Int.toNat_natCast]
      by_cases hj : j = i
      · rw [hj]; exact Int.le_refl _
      · have q1 := btB_me (hge 0 (by omega) (by omega))
        exact Int.le_trans q1 (ih j (by omega))
    · omega
/-- a ranking, whatever it held; one that holds the order of cn -/
def rnW (G : fw_G) (M : fw_M) (ko : Nat) : Prop := ∃ me sz od : Nat → Int, rnAt G M ko me sz od ∧ rnB me sz
theorem rnW.fr {G : fw_G} {M M1 : fw_M} {ko : Nat} (h : rnW G M ko) (hf : ∀ q, ko ≤ q → q < ko + 4 → M1 q = M q) : rnW G M1 ko := by
  obtain ⟨me, sz, od, h1, h2⟩ := h
  exact ⟨me, sz, od, h1.fr hf, h2⟩
def rnO (G : fw_G) (M : fw_M) (ko cn : Nat) (me sz : Nat → Int) : Prop := ∃ m s od : Nat → Int, rnAt G M ko m s od ∧ rnB m s ∧ (∀ k, k < cn → m k = me k ∧ s k = sz k) ∧ ∀ r, r < cn → od r = ordF me sz cn r
theorem rnO.fr {G : fw_G} {M M1 : fw_M} {ko cn : Nat} {me sz : Nat → Int} (h : rnO G M ko cn me sz) (hf : ∀ q, ko ≤ q → q < ko + 4 → M1 q = M q) : rnO G M1 ko cn me sz := by
  obtain ⟨m, s, od, h1, h2⟩ := h
  exact ⟨m, s, od, h1.fr hf, h2⟩
theorem rnO.w {G : fw_G} {M : fw_M} {ko cn : Nat} {me sz : Nat → Int} (h : rnO G M ko cn me sz) : rnW G M ko := by
  obtain ⟨m, s, od, h1, h2, _⟩ := h
  exact ⟨m, s, od, h1, h2⟩
/-- a GROVE by what it means: o tells which row is in use -/
def gcW (G : fw_G) (M : fw_M) (go o : Nat) (lk : Int) (cn : Nat) (gn mi : Int) (T : Nat → aT) : Prop := G.2.2.1 ≤ go ∧ M go = some (.inr (2, [.ref (go + 1), .ref (go + 3), .ref (go + 8 + o), .ref (go + 9 - o), .int (iI ↑cn), .int (iI gn), .int (iI mi)])) ∧ (∃ tl : Nat → Int, drAt G M (go + 1) tl 0 lk) ∧ gvRow G M (go + 8 + o) (go + 10 + 80 * o) ∧ gvRow G M (go + 9 - o) (go + 90 - 80 * o) ∧ (∀ j, j < cn → aTw G M (go + 10 + 80 * o + 5 * j) (T j)) ∧ (∀ j, j < 16 → tany G M (go + 10 + 80 * o + 5 * j)) ∧ o ≤ 1 ∧ cn ≤ 16
theorem gcW.fr {G : fw_G} {M M1 : fw_M} {go o : Nat} {lk : Int} {cn : Nat} {gn mi : Int} {T : Nat → aT} (h : gcW G M go o lk cn gn mi T) (hf : ∀ q, (go ≤ q ∧ q < go + 10) ∨ (go + 10 + 80 * o ≤ q ∧ q < go + 90 + 80 * o) → True → M1 q = M q) : gcW G M1 go o lk cn gn mi T := by
  obtain ⟨h0, h1, ⟨tl, h2⟩, h3, h4, h5, h6, h7, hc⟩ := h
  exact ⟨h0, (hf _ (by omega) trivial).trans h1, ⟨tl, h2.fr (fun q q1 q2 => hf q (by omega) trivial)⟩, h3.fr (fun q q1 q2 => hf q (by omega) trivial), h4.fr (fun q q1 q2 => hf q (by omega) trivial), fun j hj => (h5 j hj).fr (fun q q1 q2 => hf q (by omega) trivial), fun j hj => (h6 j hj).fr (fun q q1 q2 => hf q (by omega) trivial), h7, hc⟩
theorem gcW.dr {G : fw_G} {M M1 : fw_M} {go o : Nat} {lk lk1 : Int} {cn : Nat} {gn mi : Int} {T : Nat → aT} (h : gcW G M go o lk cn gn mi T) {tl : Nat → Int} (hd : drAt G M1 (go + 1) tl 0 lk1) (hf : ∀ q, q ≠ go + 1 → M1 q = M q) : gcW G M1 go o lk1 cn gn mi T := by
  obtain ⟨h0, h1, _, h3, h4, h5, h6, h7, hc⟩ := h
  exact ⟨h0, (hf _ (by omega)).trans h1, ⟨tl, hd⟩, h3.fr (fun q q1 q2 => hf q (by omega)), h4.fr (fun q q1 q2 => hf q (by omega)), fun j hj => (h5 j hj).fr (fun q q1 q2 => hf q (by omega)), fun j hj => (h6 j hj).fr (fun q q1 q2 => hf q (by omega)), h7, hc⟩
theorem gcW.ob {G : fw_G} {M M1 : fw_M} {go o : Nat} {lk : Int} {cn : Nat} {gn mi gn1 mi1 : Int} {T : Nat → aT} (h : gcW G M go o lk cn gn mi T) (hd : M1 go = some (.inr (2, [.ref (go + 1), .ref (go + 3), .ref (go + 8 + o), .ref (go + 9 - o), .int (iI ↑cn), .int (iI gn1), .int (iI mi1)]))) (hf : ∀ q, q ≠ go → M1 q = M q) : gcW G M1 go o lk cn gn1 mi1 T := by
  obtain ⟨h0, h1, ⟨tl, h2⟩, h3, h4, h5, h6, h7, hc⟩ := h
  exact ⟨h0, hd, ⟨tl, h2.fr (fun q q1 q2 => hf q (by omega))⟩, h3.fr (fun q q1 q2 => hf q (by omega)), h4.fr (fun q q1 q2 => hf q (by omega)), fun j hj => (h5 j hj).fr (fun q q1 q2 => hf q (by omega)), fun j hj => (h6 j hj).fr (fun q q1 q2 => hf q (by omega)), h7, hc⟩
theorem gcW.o1 {G : fw_G} {M : fw_M} {go o : Nat} {lk : Int} {cn : Nat} {gn mi : Int} {T : Nat → aT} (h : gcW G M go o lk cn gn mi T) : G.2.2.1 ≤ go ∧ o ≤ 1 ∧ cn ≤ 16 := ⟨h.1, h.2.2.2.2.2.2.2⟩
theorem gcW.tr {G : fw_G} {M : fw_M} {go o : Nat} {lk : Int} {cn : Nat} {gn mi : Int} {T : Nat → aT} (h : gcW G M go o lk cn gn mi T) {j : Nat} (hj : j < cn) : aTw G M (go + 10 + 80 * o + 5 * j) (T j) := h.2.2.2.2.2.1 j hj
theorem gcW.set {G : fw_G} {M M1 : fw_M} {go o : Nat} {lk : Int} {cn : Nat} {gn mi : Int} {T : Nat → aT} (h : gcW G M go o lk cn gn mi T) {j : Nat} (hj : j < cn) {t : aT} (ht : aTw G M1 (go + 10 + 80 * o + 5 * j) t) (hf : ∀ q, (go ≤ q ∧ q < go + 10) ∨ (go + 10 + 80 * o ≤ q ∧ q < go + 90 + 80 * o) → (q < go + 10 + 80 * o + 5 * j ∨ go + 10 + 80 * o + 5 * j + 5 ≤ q) → M1 q = M q) : gcW G M1 go o lk cn gn mi (fun i => if i = j then t else T i) := by
  obtain ⟨h0, h1, ⟨tl, h2⟩, h3, h4, h5, h6, h7, hc⟩ := h
  refine ⟨h0, (hf _ (by omega) (by omega)).trans h1, ⟨tl, h2.fr (fun q q1 q2 => hf q (by omega) (by omega))⟩, h3.fr (fun q q1 q2 => hf q (by omega) (by omega)), h4.fr (fun q q1 q2 => hf q (by omega) (by omega)), fun i hi => ?_, fun i hi => ?_, h7, hc⟩
  · by_cases e : i = j
    · show aTw G M1 _ (if i = j then t else T i)
      rw [if_pos e, e]; exact ht
    · show aTw G M1 _ (if i = j then t else T i)
      rw [if_neg e]; exact (h5 i hi).fr (fun q q1 q2 => hf q (by omega) (by omega))
  · by_cases e : i = j
    · rw [e]; exact ht.any
    · exact (h6 i hi).fr (fun q q1 q2 => hf q (by omega) (by omega))
/-- the other row: the first k are made -/
def gyW (G : fw_G) (M : fw_M) (go o k : Nat) (Y : Nat → aT) : Prop := (∀ j, j < k → aTw G M (go + 90 - 80 * o + 5 * j) (Y j)) ∧ (∀ j, j < 16 → tany G M (go + 90 - 80 * o + 5 * j)) ∧ o ≤ 1 ∧ k ≤ 16
theorem gyW.fr {G : fw_G} {M M1 : fw_M} {go o k : Nat} {Y : Nat → aT} (h : gyW G M go o k Y) (hf : ∀ q, go + 90 - 80 * o ≤ q → q < go + 170 - 80 * o → M1 q = M q) : gyW G M1 go o k Y := by
  obtain ⟨h1, h2, ho, hk⟩ := h
  exact ⟨fun j hj => (h1 j hj).fr (fun q q1 q2 => hf q (by omega) (by omega)), fun j hj => (h2 j hj).fr (fun q q1 q2 => hf q (by omega) (by omega)), ho, hk⟩
theorem gyW.set {G : fw_G} {M M1 : fw_M} {go o k : Nat} {Y : Nat → aT} (h : gyW G M go o k Y) (hk : k < 16) {t : aT} (hY : t = Y k) (ht : aTw G M1 (go + 90 - 80 * o + 5 * k) t) (hf : ∀ q, go + 90 - 80 * o ≤ q → q < go + 170 - 80 * o → (q < go + 90 - 80 * o + 5 * k ∨ go + 90 - 80 * o + 5 * k + 5 ≤ q) → M1 q = M q) : gyW G M1 go o (k + 1) Y := by
  obtain ⟨h1, h2, ho, _⟩ := h
  refine ⟨fun i hi => ?_, fun i hi => ?_, ho, hk⟩
  · by_cases e : i = k
    · rw [e, ← hY]; exact ht
    · exact (h1 i (by omega)).fr (fun q q1 q2 => hf q (by omega) (by omega) (by omega))
  · by_cases e : i = k
    · rw [e]; exact ht.any
    · exact (h2 i hi).fr (fun q q1 q2 => hf q (by omega) (by omega) (by omega))
theorem g_swap {G : fw_G} {M M1 : fw_M} {go o : Nat} {lk : Int} {cn : Nat} {gn mi gn1 : Int} {T Y : Nat → aT} (h : gcW G M go o lk cn gn mi T) (hy : gyW G M go o cn Y) (hd : M1 go = some (.inr (2, [.ref (go + 1), .ref (go + 3), .ref (go + 9 - o), .ref (go + 8 + o), .int (iI ↑cn), .int (iI gn1), .int (iI mi)]))) (hf : ∀ q, q ≠ go → M1 q = M q) : gcW G M1 go (1 - o) lk cn gn1 mi Y ∧ gyW G M1 go (1 - o) 0 Y := by
  obtain ⟨h0, h1, ⟨tl, h2⟩, h3, h4, h5, h6, h7, hc⟩ := h
  have e1 : go + 8 + (1 - o) = go + 9 - o := by omega
  have e2 : go + 9 - (1 - o) = go + 8 + o := by omega
  have e3 : go + 10 + 80 * (1 - o) = go + 90 - 80 * o := by omega
  have e4 : go + 90 - 80 * (1 - o) = go + 10 + 80 * o := by omega
  unfold gcW gyW
  rw [e1, e2, e3, e4]
  exact ⟨⟨h0, hd, ⟨tl, h2.fr (fun q q1 q2 => hf q (by omega))⟩, h4.fr (fun q q1 q2 => hf q (by omega)), h3.fr (fun q q1 q2 => hf q (by omega)), fun j hj => (hy.1 j hj).fr (fun q q1 q2 => hf q (by omega)), fun j hj => (hy.2.1 j hj).fr (fun q q1 q2 => hf q (by omega)), by omega, hc⟩, fun j hj => absurd hj (Nat.not_lt_zero j), fun j hj => (h6 j hj).fr (fun q q1 q2 => hf q (by omega)), by omega, by omega⟩
/-! THE BREEDER as functions -/
abbrev aR : Type := Nat × Nat × Nat × Nat × Nat
def chD (me sz : Nat → Int) (cn : Nat) (lk : Int) : Nat → Int × Nat
  | 0 => (lkB lk cn, (blw lk cn).toNat)
  | d + 1 => (lkB (chD me sz cn lk d).1 cn, if btB me sz (blw (chD me sz cn lk d).1 cn).toNat (chD me sz cn lk d).2 = 1 then (blw (chD me sz cn lk d).1 cn).toNat else (chD me sz cn lk d).2)
theorem chD_b {me sz : Nat → Int} {cn : Nat} {lk : Int} (h : 0 ≤ lk ∧ lk < 10000) (hc : 0 < cn) : ∀ d, (0 ≤ (chD me sz cn lk d).1 ∧ (chD me sz cn lk d).1 < 10000) ∧ (chD me sz cn lk d).2 < cn := by
  intro d
  induction d with
  | zero =>
    have h1 := lkB_b (m := cn) h
    have h2 := blw_b h hc
    exact ⟨h1, by show (blw lk cn).toNat < cn; omega⟩
  | succ d ih =>
    have h1 := lkB_b (m := cn) ih.1
    have h2 := blw_b ih.1 hc
    refine ⟨h1, ?_⟩
    show (if btB me sz (blw (chD me sz cn lk d).1 cn).toNat (chD me sz cn lk d).2 = 1 then (blw (chD me sz cn lk d).1 cn).toNat else (chD me sz cn lk d).2) < cn
    split
    · omega
    · exact ih.2
def crT (c : aT) (p : Nat) (o : aT) (q : Nat) : aT := (c.1 - c.2.2.2 p + o.2.2.2 q, rpF p (c.2.2.2 p) (o.2.2.2 q) q c.2.1 o.2.1, rpF p (c.2.2.2 p) (o.2.2.2 q) q c.2.2.1 o.2.2.1, rpS p (c.2.2.2 p) (o.2.2.2 q) q c.2.2.2 o.2.2.2)
abbrev crOK (c : aT) (p : Nat) (o : aT) (q : Nat) : Prop := ((c.2.1 p ≤ 8 ↔ o.2.1 q ≤ 8) ∧ c.1 - c.2.2.2 p + o.2.2.2 q ≤ 40) ∧ lvF (crT c p o q).1 (crT c p o q).2.1 (crT c p o q).2.2.2 ≤ 8
def kpT (t : aT) (q : Nat) : aT := (t.1 - t.2.2.2 0 + t.2.2.2 q, rpF 0 (t.2.2.2 0) (t.2.2.2 q) q t.2.1 t.2.1, rpF 0 (t.2.2.2 0) (t.2.2.2 q) q t.2.2.1 t.2.2.1, rpS 0 (t.2.2.2 0) (t.2.2.2 q) q t.2.2.2 t.2.2.2)
def rcT (t : aT) (p : Nat) (x v : Int) : aT := (t.1, zup t.2.1 p x, zup t.2.2.1 p v, t.2.2.2)
def crF (lk : Int) (c o : aT) : Int × aT :=
  if cntF o.2.1 (numI (c.2.1 (blw lk c.1).toNat)) o.1 = 0 then (lkB lk c.1, c) else (lkB (lkB lk c.1) (cntF o.2.1 (numI (c.2.1 (blw lk c.1).toNat)) o.1), if crOK c (blw lk c.1).toNat o (plF o.2.1 (numI (c.2.1 (blw lk c.1).toNat)) (blw (lkB lk c.1) (cntF o.2.1 (numI (c.2.1 (blw lk c.1).toNat)) o.1)).toNat o.1) then crT c (blw lk c.1).toNat o (plF o.2.1 (numI (c.2.1 (blw lk c.1).toNat)) (blw (lkB lk c.1) (cntF o.2.1 (numI (c.2.1 (blw lk c.1).toNat)) o.1)).toNat o.1) else c)
def cgV (lk : Int) (t : aT) : Int × aT :=
  if t.2.1 (blw lk t.1).toNat = 0 then (lkB (lkB lk t.1) 199, rcT t (blw lk t.1).toNat 0 (blw (lkB lk t.1) 199 - 99)) else if t.2.1 (blw lk t.1).toNat = 1 then (lkB (lkB lk t.1) 3, rcT t (blw lk t.1).toNat 1 (blw (lkB lk t.1) 3)) else (lkB (lkB lk t.1) (zKC (t.2.1 (blw lk t.1).toNat).toNat).toNat, rcT t (blw lk t.1).toNat (zKS (t.2.1 (blw lk t.1).toNat).toNat + blw (lkB lk t.1) (zKC (t.2.1 (blw lk t.1).toNat).toNat).toNat) 0)
def hoF (lk : Int) (t : aT) : Int × aT := (lkB lk (cntF t.2.1 1 t.1), kpT t (plF t.2.1 1 (blw lk (cntF t.2.1 1 t.1)).toNat t.1))
/-- rates: crossing, changing, hoisting, tournament, elite -/
def mkF (me sz : Nat → Int) (cn : Nat) (T : Nat → aT) (r : aR) (lk : Int) : Int × aT :=
  if blw lk 100 < ↑r.1 then crF (chD me sz cn (chD me sz cn (lkB lk 100) (r.2.2.2.1 - 1)).1 (r.2.2.2.1 - 1)).1 (T (chD me sz cn (lkB lk 100) (r.2.2.2.1 - 1)).2) (T (chD me sz cn (chD me sz cn (lkB lk 100) (r.2.2.2.1 - 1)).1 (r.2.2.2.1 - 1)).2)
  else if blw lk 100 < ↑r.1 + ↑r.2.1 then cgV (chD me sz cn (lkB lk 100) (r.2.2.2.1 - 1)).1 (T (chD me sz cn (lkB lk 100) (r.2.2.2.1 - 1)).2)
  else if blw lk 100 < ↑r.1 + ↑r.2.1 + ↑r.2.2.1 then hoF (chD me sz cn (lkB lk 100) (r.2.2.2.1 - 1)).1 (T (chD me sz cn (lkB lk 100) (r.2.2.2.1 - 1)).2)
  else ((chD me sz cn (lkB lk 100) (r.2.2.2.1 - 1)).1, T (chD me sz cn (lkB lk 100) (r.2.2.2.1 - 1)).2)
def rOK (r : aR) : Prop := r.1 ≤ 100 ∧ r.2.1 ≤ 100 ∧ r.2.2.1 ≤ 100 ∧ (1 ≤ r.2.2.2.1 ∧ r.2.2.2.1 ≤ 5) ∧ r.2.2.2.2 ≤ 4
theorem crT_v {c o : aT} {p q : Nat} (hc : vtOK c.1 c.2.1 c.2.2.1 c.2.2.2) (ho : vtOK o.1 o.2.1 o.2.2.1 o.2.2.2) (hp : p < c.1) (hq : q < o.1) (h : (c.2.1 p ≤ 8 ↔ o.2.1 q ≤ 8) ∧ c.1 - c.2.2.2 p + o.2.2.2 q ≤ 40) : vtOK (crT c p o q).1 (crT c p o q).2.1 (crT c p o q).2.2.1 (crT c p o q).2.2.2 := rp_vtOK hc hp ho hq h.1 h.2
theorem crT_ok {c o : aT} {p q : Nat} (hc : aOK c) (ho : aOK o) (hp : p < c.1) (hq : q < o.1) (h : crOK c p o q) : aOK (crT c p o q) := ⟨crT_v hc.1 ho.1 hp hq h.1, h.2⟩
theorem kpT_ok {t : aT} {q : Nat} (ht : aOK t) (hq : q < t.1) (h8 : t.2.1 q ≤ 8) : aOK (kpT t q) := by
  obtain ⟨hv, hl⟩ := ht
  obtain ⟨⟨hn0, hn1⟩, hs0, hc0, hsp, hty, hnd⟩ := id hv
  have hqe := sp_le hsp hq
  have hm : t.1 - t.2.2.2 0 + t.2.2.2 q ≤ 40 := by omega
  refine ⟨rp_vtOK hv hn0 hv hq (by omega) hm, ?_⟩
  have hh : htF t.2.1 t.2.2.2 q ≤ htF t.2.1 t.2.2.2 0 := by
    rcases Nat.eq_zero_or_pos q with e | e
    · rw [e]; exact Nat.le_refl _
    · exact Nat.le_of_lt (htF_in hsp hn1 t.1 0 (by omega) hn0 q e (by omega))
  have h9 := rp_ht_ahead hsp hn0 hn1 hsp hq hn1 hm hh t.1 0 (by omega) (Nat.le_refl _)
  have e1 : lvF t.1 t.2.1 t.2.2.2 = htF t.2.1 t.2.2.2 0 := if_neg (by omega)
  rw [e1] at hl
  show lvF (t.1 - t.2.2.2 0 + t.2.2.2 q) (rpF 0 (t.2.2.2 0) (t.2.2.2 q) q t.2.1 t.2.1) (rpS 0 (t.2.2.2 0) (t.2.2.2 q) q t.2.2.2 t.2.2.2) ≤ 8
  unfold lvF
  split
  · exact Nat.zero_le _
  · exact Nat.le_trans h9 hl
theorem htF_ar {n : Nat} {C D : Nat → Int} {sp : Nat → Nat} (h : ∀ k, k < n → arN (D k) = arN (C k)) (hs : spOK n C sp) (hn : n ≤ 40) : ∀ d k, n - k ≤ d → k < n → htF D sp k = htF C sp k := by
  have hd : spOK n D sp := fun k hk => by
    rw [h k hk]
    exact hs k hk
  intro d
  induction d with
  | zero => intro k h1 h2; omega
  | succ d ih =>
    intro k h1 h2
    rw [htF_eq hs hn h2, htF_eq hd hn h2, h k h2]
    exact congrArg (fun y => 1 + y) (mxU_congr _ (fun i hi => by
      have h4 := (hs k h2).1 i hi
      have h5 := chP_gt sp k i
      exact ih _ (by omega) h4))
/-- a code of the same kin -/
def kinOK (x y v : Int) : Prop := arN y = arN x ∧ (x ≤ 8 ↔ y ≤ 8) ∧ (∀ i, ptNm y i ↔ ptNm x i) ∧ ndOK y v
theorem rcT_ok {t : aT} {p : Nat} {y v : Int} (ht : aOK t) (hp : p < t.1) (hk : kinOK (t.2.1 p) y v) : aOK (rcT t p y v) ∧ lvF t.1 (zup t.2.1 p y) t.2.2.2 = lvF t.1 t.2.1 t.2.2.2 := by
  obtain ⟨hv, hl⟩ := ht
  obtain ⟨⟨hn0, hn1⟩, hs0, hc0, hsp, hty, hnd⟩ := id hv
  obtain ⟨k1, k2, k3, k4⟩ := hk
  have har : ∀ k, k < t.1 → arN (zup t.2.1 p y k) = arN (t.2.1 k) := fun k hk => by
    by_cases e : k = p
    · rw [e, zup_eq, k1]
    · rw [zup_ne e]
  have h8 : ∀ k, (zup t.2.1 p y k ≤ 8 ↔ t.2.1 k ≤ 8) := fun k => by
    by_cases e : k = p
    · rw [e, zup_eq]; exact k2.symm
    · rw [zup_ne e]
  have hpt : ∀ k i, ptNm (zup t.2.1 p y k) i ↔ ptNm (t.2.1 k) i := fun k i => by
    by_cases e : k = p
    · rw [e, zup_eq]; exact k3 i
    · rw [zup_ne e]
  have hlv : lvF t.1 (zup t.2.1 p y) t.2.2.2 = lvF t.1 t.2.1 t.2.2.2 := by
    unfold lvF
    rw [if_neg (by omega), if_neg (by omega)]
    exact htF_ar har hsp hn1 t.1 0 (by omega) hn0
  refine ⟨⟨⟨⟨hn0, hn1⟩, hs0, (h8 0).mpr hc0, fun k hk => ?_, fun k hk i hi => ?_, fun k hk => ?_⟩, ?_⟩, hlv⟩
  · show (∀ i, i < arN (zup t.2.1 p y k) → chP t.2.2.2 k i < t.1) ∧ k + t.2.2.2 k = chP t.2.2.2 k (arN (zup t.2.1 p y k))
    rw [har k hk]
    exact hsp k hk
  · have hi2 : i < arN (zup t.2.1 p y k) := hi
    rw [har k hk] at hi2
    show (zup t.2.1 p y (chP t.2.2.2 k i) ≤ 8 ↔ ptNm (zup t.2.1 p y k) i)
    rw [h8, hpt]
    exact hty k hk i hi2
  · show ndOK (zup t.2.1 p y k) (zup t.2.2.1 p v k)
    by_cases e : k = p
    · rw [e, zup_eq, zup_eq]; exact k4
    · rw [zup_ne e, zup_ne e]; exact hnd k hk
  · show lvF t.1 (zup t.2.1 p y) t.2.2.2 ≤ 8
    rw [hlv]; exact hl
theorem kin_0 {v : Int} (h : -99 ≤ v ∧ v ≤ 99) : kinOK 0 0 v := ⟨rfl, Iff.rfl, fun _ => Iff.rfl, ⟨by omega, by omega⟩, fun _ => h, fun e => absurd e (by decide), fun e => absurd e (by decide)⟩
theorem kin_1 {v : Int} (h : 0 ≤ v ∧ v ≤ 2) : kinOK 1 1 v := ⟨rfl, Iff.rfl, fun _ => Iff.rfl, ⟨by omega, by omega⟩, fun e => absurd e (by decide), fun _ => h, fun e => absurd e (by decide)⟩
theorem kin_c {x : Int} (h : 2 ≤ x ∧ x ≤ 13) : (1 ≤ zKC x.toNat ∧ zKC x.toNat ≤ 6) ∧ ∀ d : Int, 0 ≤ d → d < zKC x.toNat → kinOK x (zKS x.toNat + d) 0 ∧ (2 ≤ zKS x.toNat + d ∧ zKS x.toNat + d ≤ 13) := by
  have key : ∀ x d : Int, (x = 2 ∨ x = 3 ∨ x = 4 ∨ x = 5 ∨ x = 6 ∨ x = 7 ∨ x = 8 ∨ x = 9 ∨ x = 10 ∨ x = 11 ∨ x = 12 ∨ x = 13) → (2 ≤ zKS x.toNat + d ∧ zKS x.toNat + d ≤ 13) → arN (zKS x.toNat + d) = arN x → (x ≤ 8 ↔ zKS x.toNat + d ≤ 8) → (x < 11 ↔ zKS x.toNat + d < 11) → (x = 8 ↔ zKS x.toNat + d = 8) → kinOK x (zKS x.toNat + d) 0 ∧ (2 ≤ zKS x.toNat + d ∧ zKS x.toNat + d ≤ 13) := by
    intro x d _ h1 h2 h3 h4 h5
    refine ⟨⟨h2, h3, fun i => ?_, ⟨by omega, by omega⟩, fun e => by omega, fun e => by omega, fun _ => rfl⟩, h1⟩
    unfold ptNm
    rw [h4, h5]
  rcases (show x = 2 ∨ x = 3 ∨ x = 4 ∨ x = 5 ∨ x = 6 ∨ x = 7 ∨ x = 8 ∨ x = 9 ∨ x = 10 ∨ x = 11 ∨ x = 12 ∨ x = 13 by omega) with rfl | rfl | rfl | rfl | rfl | rfl | rfl | rfl | rfl | rfl | rfl | rfl <;> refine ⟨by decide, fun d h1 h2 => key _ d (by omega) ?_ ?_ ?_ ?_ ?_⟩ <;> first | (have h2 : d < 6 := h2; rcases (show d = 0 ∨ d = 1 ∨ d = 2 ∨ d = 3 ∨ d = 4 ∨ d = 5 by omega) with rfl | rfl | rfl | rfl | rfl | rfl <;> decide) | (have h2 : d < 1 := h2; rcases (show d = 0 by omega) with rfl; decide) | (have h2 : d < 2 := h2; rcases (show d = 0 ∨ d = 1 by omega) with rfl | rfl <;> decide)
theorem crF_ok {lk : Int} {c o : aT} (h : 0 ≤ lk ∧ lk < 10000) (hc : aOK c) (ho : aOK o) : (0 ≤ (crF lk c o).1 ∧ (crF lk c o).1 < 10000) ∧ aOK (crF lk c o).2 := by
  have b1 := lkB_b (m := c.1) h
  have hp := blw_b h hc.1.1.1
  unfold crF
  by_cases h0 : cntF o.2.1 (numI (c.2.1 (blw lk c.1).toNat)) o.1 = 0
  · rw [if_pos h0]; exact ⟨b1, hc⟩
  · rw [if_neg h0]
    refine ⟨lkB_b b1, ?_⟩
    have hx := blw_b (m := cntF o.2.1 (numI (c.2.1 (blw lk c.1).toNat)) o.1) b1 (by omega)
    have hq := plF_ok (C := o.2.1) (b := numI (c.2.1 (blw lk c.1).toNat)) (x := (blw (lkB lk c.1) (cntF o.2.1 (numI (c.2.1 (blw lk c.1).toNat)) o.1)).toNat) o.1 (by omega)
    dsimp only
    split
    · next hk => exact crT_ok hc ho (by omega) hq.1 hk
    · exact hc
theorem cgV_ok {lk : Int} {t : aT} (h : 0 ≤ lk ∧ lk < 10000) (ht : aOK t) : (0 ≤ (cgV lk t).1 ∧ (cgV lk t).1 < 10000) ∧ aOK (cgV lk t).2 := by
  have b1 := lkB_b (m := t.1) h
  have hp := blw_b h ht.1.1.1
  have hnd := ht.1.2.2.2.2.2 (blw lk t.1).toNat (by omega)
  have hn0 := hnd.1
  unfold cgV
  by_cases h0 : t.2.1 (blw lk t.1).toNat = 0
  · rw [if_pos h0]
    have hb := blw_b (m := 199) b1 (by omega)
    exact ⟨lkB_b (m := 199) b1, (rcT_ok ht (by omega) (by rw [h0]; exact kin_0 (by omega))).1⟩
  · rw [if_neg h0]
    by_cases h1 : t.2.1 (blw lk t.1).toNat = 1
    · rw [if_pos h1]
      have hb := blw_b (m := 3) b1 (by omega)
      exact ⟨lkB_b (m := 3) b1, (rcT_ok ht (by omega) (by rw [h1]; exact kin_1 (by omega))).1⟩
    · rw [if_neg h1]
      have hk := kin_c (x := t.2.1 (blw lk t.1).toNat) (by omega)
      have hb := blw_b (m := (zKC (t.2.1 (blw lk t.1).toNat).toNat).toNat) b1 (by omega)
      exact ⟨lkB_b b1, (rcT_ok ht (by omega) (hk.2 _ hb.1 (by omega)).1).1⟩
theorem cnt_root {t : aT} (ht : vtOK t.1 t.2.1 t.2.2.1 t.2.2.2) : 0 < cntF t.2.1 1 t.1 := by
  have h1 := cntF_mono t.2.1 1 (j := 1) (k := t.1) ht.1.1
  have h2 : cntF t.2.1 1 1 = 0 + (if numI (t.2.1 0) = 1 then 1 else 0) := rfl
  rw [if_pos (by unfold numI; exact if_pos ht.2.2.1)] at h2
  omega
theorem hoF_q {lk : Int} {t : aT} (h : 0 ≤ lk ∧ lk < 10000) (ht : aOK t) : plF t.2.1 1 (blw lk (cntF t.2.1 1 t.1)).toNat t.1 < t.1 ∧ t.2.1 (plF t.2.1 1 (blw lk (cntF t.2.1 1 t.1)).toNat t.1) ≤ 8 := by
  have hx := blw_b h (cnt_root ht.1)
  have hq := plF_ok (C := t.2.1) (b := 1) (x := (blw lk (cntF t.2.1 1 t.1)).toNat) t.1 (by omega)
  have hc := numI_cases (t.2.1 (plF t.2.1 1 (blw lk (cntF t.2.1 1 t.1)).toNat t.1))
  exact ⟨hq.1, by omega⟩
theorem hoF_ok {lk : Int} {t : aT} (h : 0 ≤ lk ∧ lk < 10000) (ht : aOK t) : (0 ≤ (hoF lk t).1 ∧ (hoF lk t).1 < 10000) ∧ aOK (hoF lk t).2 := by
  have hq := hoF_q h ht
  exact ⟨lkB_b h, kpT_ok ht hq.1 hq.2⟩
theorem mkF_ok {me sz : Nat → Int} {cn : Nat} {T : Nat → aT} {r : aR} {lk : Int} (h : 0 ≤ lk ∧ lk < 10000) (hc : 0 < cn) (hT : ∀ j, j < cn → aOK (T j)) : (0 ≤ (mkF me sz cn T r lk).1 ∧ (mkF me sz cn T r lk).1 < 10000) ∧ aOK (mkF me sz cn T r lk).2 := by
  have h1 := lkB_b (m := 100) h
  have h2 := chD_b (me := me) (sz := sz) h1 hc (r.2.2.2.1 - 1)
  have h3 := chD_b (me := me) (sz := sz) h2.1 hc (r.2.2.2.1 - 1)
  unfold mkF
  (repeat' split)
  · exact crF_ok h3.1 (hT _ h2.2) (hT _ h3.2)
  · exact cgV_ok h2.1 (hT _ h2.2)
  · exact hoF_ok h2.1 (hT _ h2.2)
  · exact ⟨h2.1, hT _ h2.2⟩
/-- a generation: luck before the young one number kept + i; the young ones -/
def gnL (me sz : Nat → Int) (cn : Nat) (T : Nat → aT) (r : aR) (lk : Int) : Nat → Int
  | 0 => lk
  | i + 1 => (mkF me sz cn T r (gnL me sz cn T r lk i)).1
def kpN (r : aR) (cn : Nat) : Nat := min r.2.2.2.2 cn
def gnT (me sz : Nat → Int) (cn : Nat) (T : Nat → aT) (r : aR) (lk : Int) (k : Nat) : aT := if k < kpN r cn then T (ordF me sz cn k).toNat else (mkF me sz cn T r (gnL me sz cn T r lk (k - kpN r cn))).2
theorem gnL_b {me sz : Nat → Int} {cn : Nat} {T : Nat → aT} {r : aR} {lk : Int} (h : 0 ≤ lk ∧ lk < 10000) (hc : 0 < cn) (hT : ∀ j, j < cn → aOK (T j)) : ∀ i, 0 ≤ gnL me sz cn T r lk i ∧ gnL me sz cn T r lk i < 10000 := by
  intro i
  induction i with
  | zero => exact h
  | succ i ih => exact (mkF_ok ih hc hT).1
theorem gnT_ok {me sz : Nat → Int} {cn : Nat} {T : Nat → aT} {r : aR} {lk : Int} (h : 0 ≤ lk ∧ lk < 10000) (hc : 0 < cn) (hT : ∀ j, j < cn → aOK (T j)) (k : Nat) : aOK (gnT me sz cn T r lk k) := by
  unfold gnT
  split
  · next hk =>
    have hk2 : k < cn := Nat.lt_of_lt_of_le hk (Nat.min_le_right _ _)
    have hb := ordF_b me sz cn k hk2
    exact hT _ (by omega)
  · exact (mkF_ok (gnL_b h hc hT _) hc hT).2
/-- d generations -/
def brD (j : aJ) (cn : Nat) (r : aR) (lk : Int) (T : Nat → aT) : Nat → Int × (Nat → aT)
  | 0 => (lk, T)
  | d + 1 => (gnL (fun k => meT j ((brD j cn r lk T d).2 k)) (fun k => szT j ((brD j cn r lk T d).2 k)) cn (brD j cn r lk T d).2 r (brD j cn r lk T d).1 (cn - kpN r cn), gnT (fun k => meT j ((brD j cn r lk T d).2 k)) (fun k => szT j ((brD j cn r lk T d).2 k)) cn (brD j cn r lk T d).2 r (brD j cn r lk T d).1)
theorem brD_ok {j : aJ} {cn : Nat} {r : aR} {lk : Int} {T : Nat → aT} (h : 0 ≤ lk ∧ lk < 10000) (hc : 0 < cn) (hT : ∀ k, k < cn → aOK (T k)) : ∀ d, (0 ≤ (brD j cn r lk T d).1 ∧ (brD j cn r lk T d).1 < 10000) ∧ ∀ k, k < cn → aOK ((brD j cn r lk T d).2 k) := by
  intro d
  induction d with
  | zero => exact ⟨h, hT⟩
  | succ d ih => exact ⟨gnL_b ih.1 hc ih.2 _, fun k _ => gnT_ok ih.1 hc ih.2 k⟩
def bst (j : aJ) (cn : Nat) (T : Nat → aT) : Nat := (ordF (fun k => meT j (T k)) (fun k => szT j (T k)) cn 0).toNat
theorem bst_lt (j : aJ) {cn : Nat} (hc : 0 < cn) (T : Nat → aT) : bst j cn T < cn := by
  have h := ordF_b (fun k => meT j (T k)) (fun k => szT j (T k)) cn 0 hc
  unfold bst
  omega
theorem bst_le (j : aJ) {cn : Nat} (T : Nat → aT) {k : Nat} (hk : k < cn) : meT j (T (bst j cn T)) ≤ meT j (T k) := ordF_min (fun k => meT j (T k)) (fun k => szT j (T k)) cn k hk
/-- with an ELITE the best MERIT never grows -/
theorem brD_best {j : aJ} {cn : Nat} {r : aR} {lk : Int} {T : Nat → aT} (hc : 0 < cn) (he : 0 < r.2.2.2.2) : ∀ d, meT j ((brD j cn r lk T d).2 (bst j cn (brD j cn r lk T d).2)) ≤ meT j (T (bst j cn T)) := by
  intro d
  induction d with
  | zero => exact Int.le_refl _
  | succ d ih =>
    refine Int.le_trans (bst_le j _ hc) ?_
    have e : (brD j cn r lk T (d + 1)).2 0 = (brD j cn r lk T d).2 (bst j cn (brD j cn r lk T d).2) := by
      show gnT _ _ cn _ r _ 0 = _
      unfold gnT
      rw [if_pos (by unfold kpN; omega)]
      rfl
    rw [e]
    exact ih
/-- the breeder, with its rates -/
def brW (G : fw_G) (M : fw_M) (bo : Nat) (r : aR) : Prop := G.2.2.1 ≤ bo ∧ M bo = some (.inr (0, [.ref (bo + 1), .int (iI ↑r.1), .int (iI ↑r.2.1), .int (iI ↑r.2.2.1), .int (iI ↑r.2.2.2.1), .int (iI ↑r.2.2.2.2)]))
theorem brW.fr {G : fw_G} {M M1 : fw_M} {bo : Nat} {r : aR} (h : brW G M bo r) (hf : ∀ q, bo ≤ q → q < bo + 1 → M1 q = M q) : brW G M1 bo r := ⟨h.1, (hf _ (by omega) (by omega)).trans h.2⟩

/-! THE SKETCH as a piece of a TREE that comes -/
def ndN (x : Int) : Nat := if x ≤ 8 then 1 else 3
def nmP (x : Int) (p : Nat) : Int := if x < 11 ∧ ¬ (x = 8 ∧ p = 0) then 1 else 0
def pnF (n : Nat) (sp : Nat → Nat) : Nat → Nat → Nat
  | 0, _ => 0
  | f + 1, k => if k < n then 1 + pnF n sp f (k + sp k) else 0
def pnN (n : Nat) (sp : Nat → Nat) (k : Nat) : Nat := pnF n sp 41 k
def nsF (n : Nat) (C : Nat → Int) (sp : Nat → Nat) : Nat → Nat → Nat
  | 0, _ => 0
  | f + 1, k => if k < n then ndN (C k) + nsF n C sp f (k + sp k) else 0
def nsN (n : Nat) (C : Nat → Int) (sp : Nat → Nat) (k : Nat) : Nat := nsF n C sp 41 k
theorem pnF_eq {n : Nat} {C : Nat → Int} {sp : Nat → Nat} (h : spOK n C sp) : ∀ f g k, n - k < f → n - k < g → pnF n sp f k = pnF n sp g k := by
  intro f
  induction f with
  | zero => intro g k h1; exact absurd h1 (Nat.not_lt_zero _)
  | succ f ih =>
    intro g k h1 h2
    obtain ⟨g, rfl⟩ : ∃ y, g = y + 1 := ⟨g - 1, by omega⟩
    show (if k < n then 1 + pnF n sp f (k + sp k) else 0) = (if k < n then 1 + pnF n sp g (k + sp k) else 0)
    by_cases hk : k < n
    · have h3 := sp_pos h hk
      rw [if_pos hk, if_pos hk, ih g (k + sp k) (by omega) (by omega)]
    · rw [if_neg hk, if_neg hk]
theorem nsF_eq {n : Nat} {C : Nat → Int} {sp : Nat → Nat} (h : spOK n C sp) : ∀ f g k, n - k < f → n - k < g → nsF n C sp f k = nsF n C sp g k := by
  intro f
  induction f with
  | zero => intro g k h1; exact absurd h1 (Nat.not_lt_zero _)
  | succ f ih =>
    intro g k h1 h2
    obtain ⟨g, rfl⟩ : ∃ y, g = y + 1 := ⟨g - 1, by omega⟩
    show (if k < n then ndN (C k) + nsF n C sp f (k + sp k) else 0) = (if k < n then ndN (C k) + nsF n C sp g (k + sp k) else 0)
    by_cases hk : k < n
    · have h3 := sp_pos h hk
      rw [if_pos hk, if_pos hk, ih g (k + sp k) (by omega) (by omega)]
    · rw [if_neg hk, if_neg hk]
theorem pn_eq {n : Nat} {C : Nat → Int} {sp : Nat → Nat} (h : spOK n C sp) (hn : n ≤ 40) {k : Nat} (hk : k < n) : pnN n sp k = 1 + pnN n sp (k + sp k) := by
  have h3 := sp_pos h hk
  show (if k < n then 1 + pnF n sp 40 (k + sp k) else 0) = _
  rw [if_pos hk, pnF_eq h 40 41 (k + sp k) (by omega) (by omega)]
  rfl
theorem ns_eq {n : Nat} {C : Nat → Int} {sp : Nat → Nat} (h : spOK n C sp) (hn : n ≤ 40) {k : Nat} (hk : k < n) : nsN n C sp k = ndN (C k) + nsN n C sp (k + sp k) := by
  have h3 := sp_pos h hk
  show (if k < n then ndN (C k) + nsF n C sp 40 (k + sp k) else 0) = _
  rw [if_pos hk, nsF_eq h 40 41 (k + sp k) (by omega) (by omega)]
  rfl
theorem pn_end {n : Nat} {sp : Nat → Nat} {k : Nat} (hk : n ≤ k) : pnN n sp k = 0 := by
  show (if k < n then 1 + pnF n sp 40 (k + sp k) else 0) = 0
  exact if_neg (by omega)
theorem ns_end {n : Nat} {C : Nat → Int} {sp : Nat → Nat} {k : Nat} (hk : n ≤ k) : nsN n C sp k = 0 := by
  show (if k < n then ndN (C k) + nsF n C sp 40 (k + sp k) else 0) = 0
  exact if_neg (by omega)
theorem pn_le {n : Nat} {C : Nat → Int} {sp : Nat → Nat} (h : spOK n C sp) (hn : n ≤ 40) : ∀ d k, n - k ≤ d → pnN n sp k ≤ n - k := by
  intro d
  induction d with
  | zero => intro k hk; rw [pn_end (by omega)]; exact Nat.zero_le _
  | succ d ih =>
    intro k hk
    by_cases h1 : k < n
    · have h3 := sp_pos h h1
      have h4 := ih (k + sp k) (by omega)
      have h5 := sp_le h h1
      rw [pn_eq h hn h1]
      omega
    · rw [pn_end (by omega)]; exact Nat.zero_le _
theorem ch_step {n : Nat} {C : Nat → Int} {sp : Nat → Nat} (h : spOK n C sp) {k i : Nat} (hk : k < n) (hi : i < arN (C k)) : chP sp k i < n ∧ chP sp k (i + 1) = chP sp k i + sp (chP sp k i) ∧ chP sp k (i + 1) ≤ k + sp k := by
  have h1 := (h k hk).1 i hi
  have h2 := chP_mono sp k (p := i + 1) (q := arN (C k)) (by omega)
  rw [← (h k hk).2] at h2
  exact ⟨h1, rfl, h2⟩
theorem nd_le {n : Nat} {C V : Nat → Int} {sp : Nat → Nat} (hv : vtOK n C V sp) : ∀ d k, n - k ≤ d → k < n → ndN (C k) ≤ sp k ∧ (8 < C k → 2 ≤ htF C sp k) := by
  obtain ⟨⟨hn0, hn1⟩, hs0, hc0, hsp, hty, hnd⟩ := hv
  intro d
  induction d with
  | zero => intro k h1 h2; omega
  | succ d ih =>
    intro k h1 h2
    have h3 := sp_pos hsp h2
    have h4 := (hnd k h2).1
    unfold ndN
    by_cases h8 : C k ≤ 8
    · rw [if_pos h8]; exact ⟨h3, fun h => by omega⟩
    · rw [if_neg h8]
      have ha : 1 ≤ arN (C k) := by unfold arN; (repeat' split) <;> omega
      obtain ⟨q1, q2, q3⟩ := ch_step hsp h2 (i := 0) (by omega)
      have e0 : chP sp k 0 = k + 1 := rfl
      have e1 : chP sp k (0 + 1) = chP sp k 1 := rfl
      have hht : 2 ≤ htF C sp k := by
        have g1 := htF_in hsp hn1 (n - k) k (Nat.le_refl _) h2 (k + 1) (by omega) (by rw [e0] at q2; have := sp_pos hsp q1; rw [e0] at this; omega)
        have g2 := htF_eq hsp hn1 q1
        rw [e0] at g2
        omega
      refine ⟨?_, fun _ => hht⟩
      by_cases h13 : C k = 13
      · have ht := hty k h2 0 (by omega)
        have hc : ¬ C (chP sp k 0) ≤ 8 := fun h => by have := (ht.mp h).1; omega
        have g := (ih (chP sp k 0) (by have := chP_gt sp k 0; omega) q1).1
        unfold ndN at g
        rw [if_neg hc] at g
        rw [e0] at g q2
        omega
      · have ha2 : arN (C k) = 2 := by unfold arN; (repeat' split) <;> omega
        obtain ⟨f1, f2, f3⟩ := ch_step hsp h2 (i := 1) (by omega)
        have g1 := sp_pos hsp q1
        have g2 := sp_pos hsp f1
        rw [e0] at q2 g1
        omega
theorem ns_le {n : Nat} {C V : Nat → Int} {sp : Nat → Nat} (hv : vtOK n C V sp) : ∀ d k, n - k ≤ d → k ≤ n → k + nsN n C sp k ≤ n := by
  intro d
  induction d with
  | zero => intro k h1 h2; rw [ns_end (by omega)]; omega
  | succ d ih =>
    intro k h1 h2
    by_cases hk : k < n
    · have h3 := sp_pos hv.2.2.2.1 hk
      have h5 := sp_le hv.2.2.2.1 hk
      have h4 := ih (k + sp k) (by omega) (by omega)
      have h6 := (nd_le hv (n - k) k (Nat.le_refl _) hk).1
      rw [ns_eq hv.2.2.2.1 hv.1.2 hk]
      omega
    · rw [ns_end (by omega)]; omega
/-- q waits at k -/
def onC (sp : Nat → Nat) (k q : Nat) : Prop := k ≤ q ∧ ∀ j, k ≤ j → j < q → j + sp j ≤ q
theorem onC_next {n : Nat} {C : Nat → Int} {sp : Nat → Nat} (h : spOK n C sp) {k q : Nat} (hq : onC sp k q) (hk : k < q) : onC sp (k + sp k) q := ⟨hq.2 k (Nat.le_refl _) hk, fun j h1 h2 => hq.2 j (by omega) h2⟩
theorem onC_back {n : Nat} {C : Nat → Int} {sp : Nat → Nat} (h : spOK n C sp) {k q : Nat} (hk : k < n) (hq : onC sp (k + sp k) q) : onC sp k q := by
  refine ⟨by have := hq.1; omega, fun j h1 h2 => ?_⟩
  rcases Nat.lt_or_ge j (k + sp k) with g | g
  · rcases Nat.eq_or_lt_of_le h1 with e | e
    · rw [← e]; exact hq.1
    · have := sp_nest h hk e g
      have := hq.1
      omega
  · exact hq.2 j g h2
theorem pn_chain {n : Nat} {C : Nat → Int} {sp : Nat → Nat} (h : spOK n C sp) (hn : n ≤ 40) : ∀ d k q, q - k ≤ d → q < n → onC sp k q → pnN n sp q ≤ pnN n sp k := by
  intro d
  induction d with
  | zero =>
    intro k q h1 h2 h3
    have h4 := h3.1
    rw [show q = k by omega]
    exact Nat.le_refl _
  | succ d ih =>
    intro k q h1 h2 h3
    have h4 := h3.1
    by_cases e : q = k
    · rw [e]; exact Nat.le_refl _
    · have h5 := sp_pos h (show k < n by omega)
      have h6 := ih (k + sp k) q (by omega) h2 (onC_next h h3 (by omega))
      rw [pn_eq h hn (show k < n by omega)]
      omega
/-- what waits at k stands in the two rows -/
def skS (n : Nat) (C : Nat → Int) (sp : Nat → Nat) (k : Nat) (nd lw : Nat → Int) : Prop := ∀ q, q < n → onC sp k q → nd (pnN n sp (q + sp q)) = ↑(ndN (C q)) ∧ ∃ L : Nat, lw (pnN n sp (q + sp q)) = ↑L ∧ 1 ≤ L ∧ L + htF C sp q ≤ 9
theorem skS_pop {n : Nat} {C : Nat → Int} {sp : Nat → Nat} {k : Nat} {nd lw : Nat → Int} (h : spOK n C sp) (hk : k < n) (hs : skS n C sp k nd lw) : skS n C sp (k + sp k) nd lw := fun q hq hc => hs q hq (onC_back h hk hc)
theorem skS_push {n : Nat} {C : Nat → Int} {sp : Nat → Nat} {k : Nat} {nd lw : Nat → Int} {x : Int} {L : Nat} (h : spOK n C sp) (hn : n ≤ 40) (hk : k < n) (hs : skS n C sp (k + sp k) nd lw) (hx : x = ↑(ndN (C k))) (h1 : 1 ≤ L) (h2 : L + htF C sp k ≤ 9) {w : Int} (hw : w = ↑L) : skS n C sp k (zup nd (pnN n sp (k + sp k)) x) (zup lw (pnN n sp (k + sp k)) w) := by
  intro q hq hc
  by_cases e : q = k
  · rw [e, zup_eq, zup_eq]
    exact ⟨hx, L, hw, h1, h2⟩
  · have h3 := hc.1
    have hc2 := onC_next h hc (by omega)
    have h4 := pn_chain h hn _ _ _ (Nat.le_refl _) hq hc2
    rw [pn_eq h hn hq] at h4
    rw [zup_ne (by omega), zup_ne (by omega)]
    exact hs q hq hc2
theorem skS_0 {n : Nat} {C V : Nat → Int} {sp : Nat → Nat} (hv : vtOK n C V sp) (hl : lvF n C sp ≤ 8) {nd lw : Nat → Int} (h0 : nd 0 = 1) (h1 : lw 0 = 1) : skS n C sp 0 nd lw ∧ pnN n sp 0 = 1 ∧ nsN n C sp 0 = 1 := by
  obtain ⟨⟨hn0, hn1⟩, hs0, hc0, hsp, hty, hnd⟩ := hv
  have e1 : pnN n sp (0 + sp 0) = 0 := pn_end (by omega)
  have e2 : lvF n C sp = htF C sp 0 := if_neg (by omega)
  have e3 : ndN (C 0) = 1 := if_pos hc0
  refine ⟨fun q hq hc => ?_, ?_, ?_⟩
  · have hq0 : q = 0 := by
      rcases Nat.eq_zero_or_pos q with e | e
      · exact e
      · have := hc.2 0 (Nat.le_refl _) e
        omega
    rw [hq0, e1, h0, h1, e3]
    exact ⟨rfl, 1, rfl, Nat.le_refl _, by omega⟩
  · rw [pn_eq hsp hn1 hn0, e1]
  · rw [ns_eq hsp hn1 hn0, ns_end (by omega), e3]
theorem nmP_01 (x : Int) (p : Nat) : nmP x p = 0 ∨ nmP x p = 1 := by unfold nmP; split <;> first | exact Or.inr rfl | exact Or.inl rfl
theorem nm_need {n : Nat} {C : Nat → Int} {sp : Nat → Nat} (hty : tyOK n C sp) {k i : Nat} (hk : k < n) (hi : i < arN (C k)) : (if nmP (C k) i = 0 then (3 : Int) else 1) = ↑(ndN (C (chP sp k i))) ∧ (nmP (C k) i = 0 ↔ 8 < C (chP sp k i)) := by
  have h := hty k hk i hi
  unfold ptNm at h
  unfold nmP ndN
  by_cases hp : C k < 11 ∧ ¬ (C k = 8 ∧ i = 0)
  · rw [if_pos hp, if_neg (by decide), if_pos (h.mpr hp)]
    exact ⟨rfl, fun e => absurd e (by decide), fun e => by have := h.mpr hp; omega⟩
  · have hq : ¬ C (chP sp k i) ≤ 8 := fun e => hp (h.mp e)
    rw [if_neg hp, if_pos rfl, if_neg hq]
    exact ⟨rfl, fun _ => by omega, fun _ => rfl⟩

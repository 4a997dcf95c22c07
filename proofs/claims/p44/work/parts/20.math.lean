/-! trees as rows: C codes, V values, sp how many nodes there are at a place and beneath it -/
def arN (x : Int) : Nat := if x = 8 then 3 else if x = 13 then 1 else if 2 ≤ x ∧ x ≤ 12 then 2 else 0
theorem arN_le (x : Int) : arN x ≤ 3 := by unfold arN; (repeat' split) <;> omega
theorem zPARTS_ar {x : Int} (h : 0 ≤ x ∧ x ≤ 13) : zPARTS x.toNat = (arN x : Int) := by
  rcases (show x = 0 ∨ x = 1 ∨ x = 2 ∨ x = 3 ∨ x = 4 ∨ x = 5 ∨ x = 6 ∨ x = 7 ∨ x = 8 ∨ x = 9 ∨ x = 10 ∨ x = 11 ∨ x = 12 ∨ x = 13 by omega) with rfl | rfl | rfl | rfl | rfl | rfl | rfl | rfl | rfl | rfl | rfl | rfl | rfl | rfl <;> decide
/-- where a part begins, by its number -/
def chP (sp : Nat → Nat) (k : Nat) : Nat → Nat
  | 0 => k + 1
  | p + 1 => chP sp k p + sp (chP sp k p)
theorem chP_gt (sp : Nat → Nat) (k p : Nat) : k < chP sp k p := by
  induction p with
  | zero => exact Nat.lt_succ_self k
  | succ p ih => show k < chP sp k p + sp (chP sp k p); omega
theorem chP_le (sp : Nat → Nat) (k p : Nat) : chP sp k p ≤ chP sp k (p + 1) := Nat.le_add_right _ _
theorem chP_mono (sp : Nat → Nat) (k : Nat) {p q : Nat} (h : p ≤ q) : chP sp k p ≤ chP sp k q := by
  induction q with
  | zero => rw [Nat.le_zero.mp h]; exact Nat.le_refl _
  | succ q ih =>
    rcases Nat.lt_or_ge p (q + 1) with g | g
    · exact Nat.le_trans (ih (by omega)) (chP_le sp k q)
    · rw [show p = q + 1 by omega]; exact Nat.le_refl _
def spOK (n : Nat) (C : Nat → Int) (sp : Nat → Nat) : Prop := ∀ k, k < n → (∀ p, p < arN (C k) → chP sp k p < n) ∧ k + sp k = chP sp k (arN (C k))
theorem sp_pos {n : Nat} {C : Nat → Int} {sp : Nat → Nat} (h : spOK n C sp) {k : Nat} (hk : k < n) : 1 ≤ sp k := by
  have := (h k hk).2
  have := chP_gt sp k (arN (C k))
  omega
theorem sp_end {n : Nat} {C : Nat → Int} {sp : Nat → Nat} (h : spOK n C sp) : ∀ d k, n - k ≤ d → k < n → k + sp k ≤ n := by
  intro d
  induction d with
  | zero => intro k h1 h2; omega
  | succ d ih =>
    intro k h1 h2
    obtain ⟨h3, h4⟩ := h k h2
    rw [h4]
    cases ha : arN (C k) with
    | zero => show k + 1 ≤ n; omega
    | succ a =>
      have h5 := h3 a (by omega)
      have h6 := chP_gt sp k a
      exact ih (chP sp k a) (by omega) h5
theorem sp_le {n : Nat} {C : Nat → Int} {sp : Nat → Nat} (h : spOK n C sp) {k : Nat} (hk : k < n) : k + sp k ≤ n := sp_end h (n - k) k (Nat.le_refl _) hk
/-- which part holds a place -/
theorem chP_find (sp : Nat → Nat) (k j : Nat) : ∀ a, k < j → j < chP sp k a → ∃ p, p < a ∧ chP sp k p ≤ j ∧ j < chP sp k (p + 1) := by
  intro a
  induction a with
  | zero => intro h1 h2; exact absurd h2 (by show ¬ j < k + 1; omega)
  | succ a ih =>
    intro h1 h2
    rcases Nat.lt_or_ge j (chP sp k a) with g | g
    · obtain ⟨p, q1, q2, q3⟩ := ih h1 g
      exact ⟨p, by omega, q2, q3⟩
    · exact ⟨a, Nat.lt_succ_self a, g, h2⟩
theorem sp_in {n : Nat} {C : Nat → Int} {sp : Nat → Nat} (h : spOK n C sp) : ∀ d k, n - k ≤ d → k < n → ∀ j, k < j → j < k + sp k → j + sp j ≤ k + sp k := by
  intro d
  induction d with
  | zero => intro k h1 h2; omega
  | succ d ih =>
    intro k h1 h2 j h3 h4
    obtain ⟨h5, h6⟩ := h k h2
    rw [h6] at h4 ⊢
    obtain ⟨p, q1, q2, q3⟩ := chP_find sp k j _ h3 h4
    have q4 := chP_mono sp k (show p + 1 ≤ arN (C k) by omega)
    have q5 : chP sp k (p + 1) = chP sp k p + sp (chP sp k p) := rfl
    rcases Nat.lt_or_ge (chP sp k p) j with g | g
    · have q6 := ih (chP sp k p) (by have := chP_gt sp k p; omega) (h5 p q1) j g (by omega)
      omega
    · have e : chP sp k p = j := by omega
      rw [e] at q5
      omega
theorem sp_nest {n : Nat} {C : Nat → Int} {sp : Nat → Nat} (h : spOK n C sp) {k j : Nat} (hk : k < n) (h1 : k < j) (h2 : j < k + sp k) : j + sp j ≤ k + sp k := sp_in h (n - k) k (Nat.le_refl _) hk j h1 h2
/-- a part's place is outside of what another place ahead of it holds -/
theorem chP_out {n : Nat} {C : Nat → Int} {sp : Nat → Nat} (h : spOK n C sp) {k p : Nat} (hk : k < p) (hp : p < n) : ∀ i, i ≤ arN (C k) → chP sp k i ≤ p ∨ p + sp p ≤ chP sp k i := by
  intro i
  induction i with
  | zero => intro _; left; show k + 1 ≤ p; omega
  | succ i ih =>
    intro hi
    have h1 := (h k (by omega)).1 i (by omega)
    have e : chP sp k (i + 1) = chP sp k i + sp (chP sp k i) := rfl
    rcases ih (by omega) with g | g
    · rcases Nat.lt_or_ge (chP sp k i) p with g2 | g2
      · rcases Nat.lt_or_ge p (chP sp k i + sp (chP sp k i)) with g3 | g3
        · right
          have := sp_nest h h1 g2 g3
          omega
        · left; omega
      · have e2 : chP sp k i = p := by omega
        right; rw [e, e2]; exact Nat.le_refl _
    · right; omega
/-! what is reckoned from the last place on -/
def rcF {β : Type} (z : β) (step : Nat → (Nat → β) → β) (sp : Nat → Nat) : Nat → Nat → β
  | 0, _ => z
  | f + 1, k => step k (fun i => rcF z step sp f (chP sp k i))
theorem rcF_eq {β : Type} {z : β} {step : Nat → (Nat → β) → β} {n : Nat} {C : Nat → Int} {sp : Nat → Nat} (h : spOK n C sp) (hst : ∀ k u v, (∀ i, i < arN (C k) → u i = v i) → step k u = step k v) : ∀ f g k, k < n → n - k ≤ f → n - k ≤ g → rcF z step sp f k = rcF z step sp g k := by
  intro f
  induction f with
  | zero => intro g k h1 h2; omega
  | succ f ih =>
    intro g k h1 h2 h3
    cases g with
    | zero => omega
    | succ g =>
      refine hst k _ _ (fun i hi => ?_)
      have h4 := (h k h1).1 i hi
      have h5 := chP_gt sp k i
      exact ih g _ h4 (by omega) (by omega)
theorem rcF_step {β : Type} {z : β} {step : Nat → (Nat → β) → β} {n : Nat} {C : Nat → Int} {sp : Nat → Nat} (h : spOK n C sp) (hst : ∀ k u v, (∀ i, i < arN (C k) → u i = v i) → step k u = step k v) (hn : n ≤ 40) {k : Nat} (hk : k < n) : rcF z step sp 41 k = step k (fun i => rcF z step sp 41 (chP sp k i)) := by
  refine hst k _ _ (fun i hi => ?_)
  have h4 := (h k hk).1 i hi
  exact rcF_eq h hst 40 41 _ h4 (by omega) (by omega)
/-- heights -/
def mxU (u : Nat → Nat) : Nat → Nat
  | 0 => 0
  | i + 1 => max (mxU u i) (u i)
theorem mxU_congr {u v : Nat → Nat} : ∀ a, (∀ i, i < a → u i = v i) → mxU u a = mxU v a := by
  intro a
  induction a with
  | zero => intro _; rfl
  | succ a ih => intro h; show max _ _ = max _ _; rw [ih (fun i hi => h i (by omega)), h a (Nat.lt_succ_self a)]
theorem mxU_le {u : Nat → Nat} {b : Nat} : ∀ a, (∀ i, i < a → u i ≤ b) → mxU u a ≤ b := by
  intro a
  induction a with
  | zero => intro _; exact Nat.zero_le b
  | succ a ih => intro h; show max _ _ ≤ b; have h1 := ih (fun i hi => h i (by omega)); have h2 := h a (Nat.lt_succ_self a); omega
theorem mxU_ge {u : Nat → Nat} : ∀ a i, i < a → u i ≤ mxU u a := by
  intro a
  induction a with
  | zero => intro i h; omega
  | succ a ih =>
    intro i h
    show u i ≤ max _ _
    rcases Nat.lt_or_ge i a with g | g
    · have := ih i g; omega
    · rw [show i = a by omega]; omega
def htS (C : Nat → Int) (k : Nat) (u : Nat → Nat) : Nat := 1 + mxU u (arN (C k))
def htF (C : Nat → Int) (sp : Nat → Nat) (k : Nat) : Nat := rcF 0 (htS C) sp 41 k
theorem htS_ok (C : Nat → Int) : ∀ k u v, (∀ i, i < arN (C k) → u i = v i) → htS C k u = htS C k v := fun k u v h => by
  unfold htS
  rw [mxU_congr _ h]
theorem htF_eq {n : Nat} {C : Nat → Int} {sp : Nat → Nat} (h : spOK n C sp) (hn : n ≤ 40) {k : Nat} (hk : k < n) : htF C sp k = 1 + mxU (fun i => htF C sp (chP sp k i)) (arN (C k)) := rcF_step h (htS_ok C) hn hk
theorem htF_le {n : Nat} {C : Nat → Int} {sp : Nat → Nat} (h : spOK n C sp) (hn : n ≤ 40) : ∀ d k, n - k ≤ d → k < n → htF C sp k ≤ n - k := by
  intro d
  induction d with
  | zero => intro k h1 h2; omega
  | succ d ih =>
    intro k h1 h2
    rw [htF_eq h hn h2]
    have := mxU_le (u := fun i => htF C sp (chP sp k i)) (b := n - k - 1) (arN (C k)) (fun i hi => by
      have h4 := (h k h2).1 i hi
      have h5 := chP_gt sp k i
      have := ih (chP sp k i) (by omega) h4
      show htF C sp (chP sp k i) ≤ _
      omega)
    omega
theorem htF_in {n : Nat} {C : Nat → Int} {sp : Nat → Nat} (h : spOK n C sp) (hn : n ≤ 40) : ∀ d k, n - k ≤ d → k < n → ∀ j, k < j → j < k + sp k → htF C sp j < htF C sp k := by
  intro d
  induction d with
  | zero => intro k h1 h2; omega
  | succ d ih =>
    intro k h1 h2 j h3 h4
    obtain ⟨h5, h6⟩ := h k h2
    rw [h6] at h4
    obtain ⟨p, q1, q2, q3⟩ := chP_find sp k j _ h3 h4
    have q5 : chP sp k (p + 1) = chP sp k p + sp (chP sp k p) := rfl
    have q6 : htF C sp (chP sp k p) < htF C sp k := by
      rw [htF_eq h hn h2]
      have := mxU_ge (u := fun i => htF C sp (chP sp k i)) (arN (C k)) p q1
      have h9 : htF C sp (chP sp k p) ≤ mxU (fun i => htF C sp (chP sp k i)) (arN (C k)) := this
      omega
    rcases Nat.lt_or_ge (chP sp k p) j with g | g
    · have := ih (chP sp k p) (by have := chP_gt sp k p; omega) (h5 p q1) j g (by omega)
      omega
    · rw [show j = chP sp k p by omega]; exact q6
/-- which parts are numbers -/
def ptNm (x : Int) (p : Nat) : Prop := x < 11 ∧ ¬ (x = 8 ∧ p = 0)
def ndOK (x v : Int) : Prop := (0 ≤ x ∧ x ≤ 13) ∧ (x = 0 → -99 ≤ v ∧ v ≤ 99) ∧ (x = 1 → 0 ≤ v ∧ v ≤ 2) ∧ (2 ≤ x → v = 0)
def tyOK (n : Nat) (C : Nat → Int) (sp : Nat → Nat) : Prop := ∀ k, k < n → ∀ p, p < arN (C k) → (C (chP sp k p) ≤ 8 ↔ ptNm (C k) p)
/-- an allowed tree, but for its levels -/
def vtOK (n : Nat) (C V : Nat → Int) (sp : Nat → Nat) : Prop := (0 < n ∧ n ≤ 40) ∧ sp 0 = n ∧ C 0 ≤ 8 ∧ spOK n C sp ∧ tyOK n C sp ∧ ∀ k, k < n → ndOK (C k) (V k)
/-! in place of what is at p (s nodes): what is at q of another one (r nodes) -/
def rpF {β : Type} (p s r q : Nat) (f g : Nat → β) : Nat → β := fun k => if k < p then f k else if k < p + r then g (q + (k - p)) else f (k - r + s)
def rpS (p s r q : Nat) (sp sp2 : Nat → Nat) : Nat → Nat := fun k => if k < p then (if p < k + sp k then sp k - s + r else sp k) else if k < p + r then sp2 (q + (k - p)) else sp (k - r + s)
section RP
variable {n n2 p q : Nat} {C C2 : Nat → Int} {sp sp2 : Nat → Nat}
def rpM (p s r x : Nat) : Nat := if x ≤ p then x else x - s + r
theorem rp_ahead (h : spOK n C sp) (hp : p < n) (h2 : spOK n2 C2 sp2) (hq : q < n2) {k : Nat} (hk : k < p) : ∀ i, i ≤ arN (C k) → chP (rpS p (sp p) (sp2 q) q sp sp2) k i = rpM p (sp p) (sp2 q) (chP sp k i) := by
  intro i
  have s1 := sp_pos h hp
  have r1 := sp_pos h2 hq
  induction i with
  | zero => intro _; show k + 1 = rpM p (sp p) (sp2 q) (k + 1); unfold rpM; rw [if_pos (by omega)]
  | succ i ih =>
    intro hi
    have e1 := ih (by omega)
    have hx := (h k (by omega)).1 i (by omega)
    have ho := chP_out h hk hp i (by omega)
    show chP _ k i + rpS p (sp p) (sp2 q) q sp sp2 (chP _ k i) = rpM p (sp p) (sp2 q) (chP sp k i + sp (chP sp k i))
    rw [e1]
    generalize hxe : chP sp k i = x at *
    have x1 := sp_pos h hx
    rcases Nat.lt_trichotomy x p with g | g | g
    · rw [show rpM p (sp p) (sp2 q) x = x from by unfold rpM; rw [if_pos (by omega)]]
      unfold rpS rpM
      rw [if_pos g]
      by_cases c : p < x + sp x
      · rw [if_pos c, if_neg (by omega)]
        have := sp_nest h hx g c
        omega
      · rw [if_neg c, if_pos (by omega)]
    · subst g
      rw [show rpM x (sp x) (sp2 q) x = x from by unfold rpM; rw [if_pos (Nat.le_refl _)]]
      unfold rpS rpM
      rw [if_neg (Nat.lt_irrefl x), if_pos (by omega), if_neg (by omega), show q + (x - x) = q by omega]
      omega
    · have g2 : p + sp p ≤ x := by omega
      rw [show rpM p (sp p) (sp2 q) x = x - sp p + sp2 q from by unfold rpM; rw [if_neg (by omega)]]
      unfold rpS rpM
      rw [if_neg (by omega), if_neg (by omega), if_neg (by omega), show x - sp p + sp2 q - sp2 q + sp p = x by omega]
      omega
theorem rp_in (h2 : spOK n2 C2 sp2) (hq : q < n2) {k : Nat} (hk : q ≤ k) (hk2 : k < q + sp2 q) : ∀ i, i ≤ arN (C2 k) → chP (rpS p (sp p) (sp2 q) q sp sp2) (k - q + p) i = chP sp2 k i - q + p ∧ (i < arN (C2 k) → chP sp2 k i < q + sp2 q) := by
  intro i
  have hkn : k < n2 := by have := sp_le h2 hq; omega
  have hke : k + sp2 k ≤ q + sp2 q := by
    rcases Nat.lt_or_ge q k with g | g
    · exact sp_nest h2 hq g hk2
    · rw [show k = q by omega]; exact Nat.le_refl _
  have hin : ∀ j, j < arN (C2 k) → chP sp2 k j < q + sp2 q := fun j hj => by
    have e := (h2 k hkn).2
    have m := chP_mono sp2 k (show j + 1 ≤ arN (C2 k) by omega)
    have e3 : chP sp2 k (j + 1) = chP sp2 k j + sp2 (chP sp2 k j) := rfl
    have := sp_pos h2 ((h2 k hkn).1 j hj)
    omega
  induction i with
  | zero => intro _; exact ⟨by show k - q + p + 1 = k + 1 - q + p; omega, hin 0⟩
  | succ i ih =>
    intro hi
    refine ⟨?_, hin (i + 1)⟩
    obtain ⟨e1, -⟩ := ih (by omega)
    have hx := hin i (by omega)
    have hg := chP_gt sp2 k i
    show chP _ (k - q + p) i + rpS p (sp p) (sp2 q) q sp sp2 (chP _ (k - q + p) i) = chP sp2 k i + sp2 (chP sp2 k i) - q + p
    rw [e1]
    generalize chP sp2 k i = x at *
    unfold rpS
    rw [if_neg (by omega), if_pos (by omega), show q + (x - q + p - p) = x by omega]
    omega
theorem rp_behind (h : spOK n C sp) (hp : p < n) {k : Nat} (hk : p + sp p ≤ k) (hk2 : k < n) : ∀ i, i ≤ arN (C k) → chP (rpS p (sp p) (sp2 q) q sp sp2) (k - sp p + sp2 q) i = chP sp k i - sp p + sp2 q := by
  intro i
  induction i with
  | zero => intro _; show k - sp p + sp2 q + 1 = k + 1 - sp p + sp2 q; omega
  | succ i ih =>
    intro hi
    have e1 := ih (by omega)
    have hg := chP_gt sp k i
    show chP _ (k - sp p + sp2 q) i + rpS p (sp p) (sp2 q) q sp sp2 (chP _ (k - sp p + sp2 q) i) = chP sp k i + sp (chP sp k i) - sp p + sp2 q
    rw [e1]
    generalize chP sp k i = x at *
    unfold rpS
    rw [if_neg (by omega), if_neg (by omega), show x - sp p + sp2 q - sp2 q + sp p = x by omega]
    omega
end RP

/-! parts that are the same; counts by type; values -/
theorem same_sp {n : Nat} {C : Nat → Int} {sp : Nat → Nat} (h : spOK n C sp) : ∀ d p q, p < n → q < n → sp p ≤ d → (∀ j, j < sp p → j < sp q → C (p + j) = C (q + j)) → sp p = sp q := by
  intro d
  induction d with
  | zero => intro p q hp hq h1 h2; have := sp_pos h hp; omega
  | succ d ih =>
    intro p q hp hq h1 h2
    have p1 := sp_pos h hp
    have q1 := sp_pos h hq
    have e0 : C p = C q := h2 0 (by omega) (by omega)
    obtain ⟨hp3, hp4⟩ := h p hp
    obtain ⟨hq3, hq4⟩ := h q hq
    rw [← e0] at hq3 hq4
    have key : ∀ i, i ≤ arN (C p) → chP sp p i + q = chP sp q i + p := by
      intro i
      induction i with
      | zero => intro _; show p + 1 + q = q + 1 + p; omega
      | succ i ih2 =>
        intro hi
        have e1 := ih2 (by omega)
        have hx := hp3 i (by omega)
        have hy := hq3 i (by omega)
        have gx := chP_gt sp p i
        have gy := chP_gt sp q i
        have mx := chP_mono sp p (show i + 1 ≤ arN (C p) by omega)
        have my := chP_mono sp q (show i + 1 ≤ arN (C p) by omega)
        have ex : chP sp p (i + 1) = chP sp p i + sp (chP sp p i) := rfl
        have ey : chP sp q (i + 1) = chP sp q i + sp (chP sp q i) := rfl
        generalize chP sp p i = x at *
        generalize chP sp q i = y at *
        have e2 := ih x y hx hy (by omega) (fun j j1 j2 => by
          have := h2 (x - p + j) (by omega) (by omega)
          rw [show p + (x - p + j) = x + j by omega, show q + (x - p + j) = y + j by omega] at this
          exact this)
        omega
    have := key _ (Nat.le_refl _)
    omega
theorem same_rc {β : Type} {z : β} {F : Int → Int → (Nat → β) → β} {n : Nat} {C V : Nat → Int} {sp : Nat → Nat} (hF : fOK F) (h : spOK n C sp) (hn : n ≤ 40) : ∀ d p q, p < n → q < n → sp p ≤ d → sp p = sp q → (∀ j, j < sp p → C (p + j) = C (q + j) ∧ V (p + j) = V (q + j)) → rcV z F C V sp p = rcV z F C V sp q := by
  intro d
  induction d with
  | zero => intro p q hp hq h1 h2 h3; have := sp_pos h hp; omega
  | succ d ih =>
    intro p q hp hq h1 h2 h3
    have p1 := sp_pos h hp
    have e0 : C p = C q ∧ V p = V q := h3 0 (by omega)
    obtain ⟨hp3, hp4⟩ := h p hp
    obtain ⟨hq3, hq4⟩ := h q hq
    rw [← e0.1] at hq3 hq4
    rw [rcV_eq hF h hn hp, rcV_eq hF h hn hq, ← e0.1, ← e0.2]
    have sub : ∀ i, i < arN (C p) → chP sp p i + q = chP sp q i + p → sp (chP sp p i) = sp (chP sp q i) ∧ ∀ j, j < sp (chP sp p i) → C (chP sp p i + j) = C (chP sp q i + j) ∧ V (chP sp p i + j) = V (chP sp q i + j) := by
      intro i hi e1
      have hx := hp3 i hi
      have hy := hq3 i hi
      have gx := chP_gt sp p i
      have gy := chP_gt sp q i
      have mx := chP_mono sp p (show i + 1 ≤ arN (C p) by omega)
      have my := chP_mono sp q (show i + 1 ≤ arN (C p) by omega)
      have ex : chP sp p (i + 1) = chP sp p i + sp (chP sp p i) := rfl
      have ey : chP sp q (i + 1) = chP sp q i + sp (chP sp q i) := rfl
      generalize chP sp p i = x at *
      generalize chP sp q i = y at *
      have al : ∀ j, x + j < p + sp p → C (x + j) = C (y + j) ∧ V (x + j) = V (y + j) := fun j hj => by
        have := h3 (x - p + j) (by omega)
        rw [show p + (x - p + j) = x + j by omega, show q + (x - p + j) = y + j by omega] at this
        exact this
      exact ⟨same_sp h (sp x) x y hx hy (Nat.le_refl _) (fun j j1 j2 => (al j (by omega)).1), fun j hj => al j (by omega)⟩
    have key : ∀ i, i ≤ arN (C p) → chP sp p i + q = chP sp q i + p := by
      intro i
      induction i with
      | zero => intro _; show p + 1 + q = q + 1 + p; omega
      | succ i ih2 =>
        intro hi
        have e1 := ih2 (by omega)
        have e2 := (sub i (by omega) e1).1
        have ex : chP sp p (i + 1) = chP sp p i + sp (chP sp p i) := rfl
        have ey : chP sp q (i + 1) = chP sp q i + sp (chP sp q i) := rfl
        omega
    refine hF _ _ _ _ (fun i hi => ?_)
    obtain ⟨e2, e3⟩ := sub i hi (key i (by omega))
    have gx := chP_gt sp p i
    have mx := chP_mono sp p (show i + 1 ≤ arN (C p) by omega)
    have ex : chP sp p (i + 1) = chP sp p i + sp (chP sp p i) := rfl
    exact ih _ _ (hp3 i hi) (hq3 i hi) (by omega) e2 e3
def numI (x : Int) : Int := if x ≤ 8 then 1 else 0
theorem numI_cases (x : Int) : (numI x = 1 ∧ x ≤ 8) ∨ (numI x = 0 ∧ 8 < x) := by unfold numI; split <;> omega
/-- how many places of a type there are ahead of one -/
def cntF (C : Nat → Int) (b : Int) : Nat → Nat
  | 0 => 0
  | k + 1 => cntF C b k + (if numI (C k) = b then 1 else 0)
theorem cntF_le (C : Nat → Int) (b : Int) (k : Nat) : cntF C b k ≤ k := by
  induction k with
  | zero => exact Nat.le_refl _
  | succ k ih => show cntF C b k + _ ≤ k + 1; split <;> omega
theorem cntF_mono (C : Nat → Int) (b : Int) {j k : Nat} (h : j ≤ k) : cntF C b j ≤ cntF C b k := by
  induction k with
  | zero => rw [Nat.le_zero.mp h]; exact Nat.le_refl _
  | succ k ih =>
    rcases Nat.lt_or_ge j (k + 1) with g | g
    · exact Nat.le_trans (ih (by omega)) (Nat.le_add_right _ _)
    · rw [show j = k + 1 by omega]; exact Nat.le_refl _
/-- the place of a type with a number -/
def plF (C : Nat → Int) (b : Int) (x : Nat) : Nat → Nat
  | 0 => 0
  | k + 1 => if numI (C k) = b ∧ cntF C b k = x then k else plF C b x k
theorem plF_none {C : Nat → Int} {b : Int} {x : Nat} : ∀ k, (∀ j, j < k → ¬ (numI (C j) = b ∧ cntF C b j = x)) → plF C b x k = 0 := by
  intro k
  induction k with
  | zero => intro _; rfl
  | succ k ih => intro h; show (if _ then _ else _) = 0; rw [if_neg (h k (Nat.lt_succ_self k))]; exact ih (fun j hj => h j (by omega))
theorem plF_eq {C : Nat → Int} {b : Int} {x i : Nat} (h : numI (C i) = b ∧ cntF C b i = x) : ∀ k, i < k → plF C b x k = i := by
  intro k
  induction k with
  | zero => intro g; omega
  | succ k ih =>
    intro g
    show (if _ then _ else _) = i
    rcases Nat.lt_or_ge i k with g2 | g2
    · have h1 := cntF_mono C b (show i + 1 ≤ k by omega)
      have h2 : cntF C b (i + 1) = cntF C b i + (if numI (C i) = b then 1 else 0) := rfl
      rw [if_pos h.1] at h2
      rw [if_neg (fun e => by have := e.2; have := h.2; omega)]
      exact ih g2
    · rw [show k = i by omega, if_pos h]
theorem plF_ok {C : Nat → Int} {b : Int} {x : Nat} : ∀ k, x < cntF C b k → plF C b x k < k ∧ numI (C (plF C b x k)) = b := by
  intro k
  induction k with
  | zero => intro h; exact absurd h (Nat.not_lt_zero x)
  | succ k ih =>
    intro h
    have h1 : cntF C b (k + 1) = cntF C b k + (if numI (C k) = b then 1 else 0) := rfl
    by_cases g : numI (C k) = b ∧ cntF C b k = x
    · have e : plF C b x (k + 1) = k := by show (if _ then _ else _) = k; rw [if_pos g]
      rw [e]; exact ⟨Nat.lt_succ_self k, g.1⟩
    · have e : plF C b x (k + 1) = plF C b x k := by show (if _ then _ else _) = _; rw [if_neg g]
      rw [e]
      have h2 : x < cntF C b k := by
        by_cases g2 : numI (C k) = b
        · rw [if_pos g2] at h1
          have : cntF C b k ≠ x := fun e => g ⟨g2, e⟩
          omega
        · rw [if_neg g2] at h1; omega
      obtain ⟨a1, a2⟩ := ih h2
      exact ⟨by omega, a2⟩
/-- how many nodes of two trees are the same from the first one on -/
def snF (C V C2 V2 : Nat → Int) : Nat → Nat
  | 0 => 0
  | k + 1 => if snF C V C2 V2 k = k ∧ C k = C2 k ∧ V k = V2 k then k + 1 else snF C V C2 V2 k
theorem snF_eq {C V C2 V2 : Nat → Int} : ∀ m i, i ≤ m → (∀ k, k < i → C k = C2 k ∧ V k = V2 k) → (i < m → ¬ (C i = C2 i ∧ V i = V2 i)) → snF C V C2 V2 m = i := by
  intro m
  induction m with
  | zero => intro i h1 h2 h3; show 0 = i; omega
  | succ m ih =>
    intro i h1 h2 h3
    show (if _ then _ else _) = i
    rcases Nat.lt_or_ge i (m + 1) with g | g
    · rcases Nat.lt_or_ge i m with g2 | g2
      · have e := ih i (by omega) h2 (fun _ => h3 g)
        rw [if_neg (fun q => by omega)]; exact e
      · have e : i = m := by omega
        subst e
        have e := ih i (Nat.le_refl _) h2 (fun q => absurd q (Nat.lt_irrefl i))
        rw [if_neg (fun q => h3 g q.2)]; exact e
    · have e : i = m + 1 := by omega
      subst e
      have e := ih m (Nat.le_refl _) (fun k hk => h2 k (by omega)) (fun q => absurd q (Nat.lt_irrefl m))
      rw [if_pos ⟨e, h2 m (Nat.lt_succ_self m)⟩]
theorem snF_le (C V C2 V2 : Nat → Int) (m : Nat) : snF C V C2 V2 m ≤ m := by
  induction m with
  | zero => exact Nat.le_refl _
  | succ m ih =>
    by_cases g : snF C V C2 V2 m = m ∧ C m = C2 m ∧ V m = V2 m
    · show (if _ then _ else _) ≤ m + 1; rw [if_pos g]; exact Nat.le_refl _
    · show (if _ then _ else _) ≤ m + 1; rw [if_neg g]; exact Nat.le_succ_of_le ih
/-! what a tree gives -/
def limI (z : Int) : Int := if 9999 < z then 9999 else if z < -9999 then -9999 else z
theorem limI_b (z : Int) : -9999 ≤ limI z ∧ limI z ≤ 9999 := by unfold limI; (repeat' split) <;> omega
theorem limI_id {z : Int} (h : -9999 ≤ z ∧ z ≤ 9999) : limI z = z := by unfold limI; rw [if_neg (by omega), if_neg (by omega)]
def prR (x a b : Int) : Int := if x = 2 then a + b else if x = 3 then a - b else if x = 4 then a * b else if x = 5 then (if b = 0 then a else a.tdiv b) else if x = 6 ∨ x = 11 then (if a < b then a else b) else if x = 7 ∨ x = 12 then (if b < a then a else b) else if x = 9 then (if a < b then 1 else 0) else if x = 10 then (if a = b then 1 else 0) else if x = 13 then 1 - a else 0
def evS (inp : Nat → Int) : Int → Int → (Nat → Int) → Int := fun x v u => limI (if x = 0 then v else if x = 1 then inp v.toNat else if x = 8 then (if u 0 = 1 then u 1 else u 2) else prR x (u 0) (u 1))
theorem evS_ok (inp : Nat → Int) : fOK (evS inp) := by
  intro x v u w h
  unfold evS
  by_cases h0 : x = 0
  · rw [if_pos h0, if_pos h0]
  rw [if_neg h0, if_neg h0]
  by_cases h1 : x = 1
  · rw [if_pos h1, if_pos h1]
  rw [if_neg h1, if_neg h1]
  by_cases h8 : x = 8
  · have e : arN x = 3 := by unfold arN; rw [if_pos h8]
    rw [if_pos h8, if_pos h8, h 0 (by omega), h 1 (by omega), h 2 (by omega)]
  rw [if_neg h8, if_neg h8]
  by_cases h13 : x = 13
  · have e : arN x = 1 := by unfold arN; rw [if_neg h8, if_pos h13]
    rw [h 0 (by omega)]
    subst h13
    rfl
  by_cases h2 : 2 ≤ x ∧ x ≤ 12
  · have e : arN x = 2 := by unfold arN; rw [if_neg h8, if_neg h13, if_pos h2]
    rw [h 0 (by omega), h 1 (by omega)]
  · have e : ∀ a b, prR x a b = 0 := fun a b => by unfold prR; rw [if_neg (by omega), if_neg (by omega), if_neg (by omega), if_neg (by omega), if_neg (by omega), if_neg (by omega), if_neg (by omega), if_neg (by omega), if_neg (by omega)]
    rw [e, e]
def evF (inp : Nat → Int) (C V : Nat → Int) (sp : Nat → Nat) (k : Nat) : Int := rcV 0 (evS inp) C V sp k
theorem evF_eq {inp : Nat → Int} {n : Nat} {C V : Nat → Int} {sp : Nat → Nat} (h : spOK n C sp) (hn : n ≤ 40) {k : Nat} (hk : k < n) : evF inp C V sp k = evS inp (C k) (V k) (fun i => evF inp C V sp (chP sp k i)) := rcV_eq (evS_ok inp) h hn hk
theorem evF_b {inp : Nat → Int} {n : Nat} {C V : Nat → Int} {sp : Nat → Nat} (h : spOK n C sp) (hn : n ≤ 40) {k : Nat} (hk : k < n) : -9999 ≤ evF inp C V sp k ∧ evF inp C V sp k ≤ 9999 := by
  rw [evF_eq h hn hk]
  exact limI_b _

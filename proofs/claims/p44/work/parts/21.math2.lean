section RQ
variable {n n2 p q : Nat} {C C2 V V2 : Nat → Int} {sp sp2 : Nat → Nat}
theorem rpF_lt {β : Type} {p s r q k : Nat} {f g : Nat → β} (h : k < p) : rpF p s r q f g k = f k := if_pos h
theorem rpF_in {β : Type} {p s r q k : Nat} {f g : Nat → β} (h1 : q ≤ k) (h2 : k < q + r) : rpF p s r q f g (k - q + p) = g k := by
  unfold rpF
  rw [if_neg (by omega), if_pos (by omega), show q + (k - q + p - p) = k by omega]
theorem rpF_ge {β : Type} {p s r q k : Nat} {f g : Nat → β} (h : p + s ≤ k) : rpF p s r q f g (k - s + r) = f k := by
  unfold rpF
  rw [if_neg (by omega), if_neg (by omega), show k - s + r - r + s = k by omega]
theorem rp_three {s r m k : Nat} (hps : p + s ≤ n) (hk : k < n - s + r) (hm : m = n - s + r) : k < p ∨ (∃ j, q ≤ j ∧ j < q + r ∧ k = j - q + p) ∨ ∃ j, p + s ≤ j ∧ j < n ∧ k = j - s + r := by
  rcases Nat.lt_or_ge k p with g | g
  · exact Or.inl g
  · rcases Nat.lt_or_ge k (p + r) with g2 | g2
    · exact Or.inr (Or.inl ⟨q + (k - p), by omega, by omega, by omega⟩)
    · exact Or.inr (Or.inr ⟨k - r + s, by omega, by omega, by omega⟩)
theorem rp_spOK (h : spOK n C sp) (hp : p < n) (h2 : spOK n2 C2 sp2) (hq : q < n2) : spOK (n - sp p + sp2 q) (rpF p (sp p) (sp2 q) q C C2) (rpS p (sp p) (sp2 q) q sp sp2) := by
  intro k hk
  have s1 := sp_pos h hp
  have r1 := sp_pos h2 hq
  have pe := sp_le h hp
  have qe := sp_le h2 hq
  rcases rp_three (q := q) pe hk rfl with g | ⟨j, g1, g2, rfl⟩ | ⟨j, g1, g2, rfl⟩
  · rw [rpF_lt g]
    have hkn : k < n := by omega
    refine ⟨fun i hi => ?_, ?_⟩
    · rw [rp_ahead h hp h2 hq g i (by omega)]
      have := (h k hkn).1 i hi
      have := chP_out h g hp i (by omega)
      unfold rpM
      split <;> omega
    · rw [rp_ahead h hp h2 hq g _ (Nat.le_refl _), ← (h k hkn).2]
      unfold rpS rpM
      rw [if_pos g]
      by_cases c : p < k + sp k
      · rw [if_pos c, if_neg (by omega)]
        have := sp_nest h hkn g c
        omega
      · rw [if_neg c, if_pos (by omega)]
  · rw [rpF_in g1 g2]
    have hjn : j < n2 := by omega
    refine ⟨fun i hi => ?_, ?_⟩
    · obtain ⟨e1, e2⟩ := rp_in (p := p) (sp := sp) h2 hq g1 g2 i (by omega)
      rw [e1]
      have := e2 hi
      have := chP_gt sp2 j i
      omega
    · rw [(rp_in (p := p) (sp := sp) h2 hq g1 g2 _ (Nat.le_refl _)).1, ← (h2 j hjn).2]
      unfold rpS
      rw [if_neg (by omega), if_pos (by omega), show q + (j - q + p - p) = j by omega]
      omega
  · rw [rpF_ge g1]
    refine ⟨fun i hi => ?_, ?_⟩
    · rw [rp_behind h hp g1 g2 i (by omega)]
      have := (h j g2).1 i hi
      have := chP_gt sp j i
      omega
    · rw [rp_behind h hp g1 g2 _ (Nat.le_refl _), ← (h j g2).2]
      unfold rpS
      rw [if_neg (by omega), if_neg (by omega), show j - sp p + sp2 q - sp2 q + sp p = j by omega]
      omega
theorem rp_tyOK (h : spOK n C sp) (t : tyOK n C sp) (hp : p < n) (h2 : spOK n2 C2 sp2) (t2 : tyOK n2 C2 sp2) (hq : q < n2) (hpq : C p ≤ 8 ↔ C2 q ≤ 8) : tyOK (n - sp p + sp2 q) (rpF p (sp p) (sp2 q) q C C2) (rpS p (sp p) (sp2 q) q sp sp2) := by
  intro k hk i hi
  have s1 := sp_pos h hp
  have r1 := sp_pos h2 hq
  have pe := sp_le h hp
  have qe := sp_le h2 hq
  rcases rp_three (q := q) pe hk rfl with g | ⟨j, g1, g2, rfl⟩ | ⟨j, g1, g2, rfl⟩
  · rw [rpF_lt g] at hi ⊢
    rw [rp_ahead h hp h2 hq g i (by omega)]
    have hx := (h k (by omega)).1 i hi
    have ho := chP_out h g hp i (by omega)
    have ht := t k (by omega) i hi
    generalize chP sp k i = x at *
    unfold rpM
    rcases Nat.lt_trichotomy x p with c | c | c
    · rw [if_pos (by omega), rpF_lt c]; exact ht
    · subst c
      rw [if_pos (Nat.le_refl x)]
      have e := rpF_in (p := x) (s := sp x) (r := sp2 q) (f := C) (g := C2) (Nat.le_refl q) (by omega)
      rw [show q - q + x = x by omega] at e
      rw [e, ← hpq]; exact ht
    · rw [if_neg (by omega), rpF_ge (by omega)]; exact ht
  · rw [rpF_in g1 g2] at hi ⊢
    obtain ⟨e1, e2⟩ := rp_in (p := p) (sp := sp) h2 hq g1 g2 i (by omega)
    have e3 := e2 hi
    have := chP_gt sp2 j i
    rw [e1, rpF_in (by omega) e3]
    exact t2 j (by omega) i hi
  · rw [rpF_ge g1] at hi ⊢
    have := chP_gt sp j i
    rw [rp_behind h hp g1 g2 i (by omega), rpF_ge (by omega)]
    exact t j g2 i hi
/-- in place of what is at p: what is at q of another one -/
theorem rp_vtOK (h : vtOK n C V sp) (hp : p < n) (h2 : vtOK n2 C2 V2 sp2) (hq : q < n2) (hpq : C p ≤ 8 ↔ C2 q ≤ 8) (hm : n - sp p + sp2 q ≤ 40) : vtOK (n - sp p + sp2 q) (rpF p (sp p) (sp2 q) q C C2) (rpF p (sp p) (sp2 q) q V V2) (rpS p (sp p) (sp2 q) q sp sp2) := by
  obtain ⟨⟨a1, a2⟩, a3, a4, a5, a6, a7⟩ := h
  obtain ⟨⟨b1, b2⟩, b3, b4, b5, b6, b7⟩ := h2
  have s1 := sp_pos a5 hp
  have r1 := sp_pos b5 hq
  have pe := sp_le a5 hp
  have qe := sp_le b5 hq
  refine ⟨⟨by omega, hm⟩, ?_, ?_, rp_spOK a5 hp b5 hq, rp_tyOK a5 a6 hp b5 b6 hq hpq, ?_⟩
  · unfold rpS
    by_cases c : 0 < p
    · rw [if_pos c, if_pos (by omega), a3]
    · have e : p = 0 := by omega
      subst e
      rw [if_neg c, if_pos (by omega), show q + (0 - 0) = q by omega, a3]
      omega
  · by_cases c : 0 < p
    · rw [rpF_lt c]; exact a4
    · have e : p = 0 := by omega
      subst e
      have e := rpF_in (p := 0) (s := sp 0) (r := sp2 q) (f := C) (g := C2) (Nat.le_refl q) (by omega)
      rw [show q - q + 0 = 0 by omega] at e
      rw [e]; exact hpq.mp a4
  · intro k hk
    rcases rp_three (q := q) pe hk rfl with g | ⟨j, g1, g2, rfl⟩ | ⟨j, g1, g2, rfl⟩
    · rw [rpF_lt g, rpF_lt g]; exact a7 k (by omega)
    · rw [rpF_in g1 g2, rpF_in g1 g2]; exact b7 j (by omega)
    · rw [rpF_ge g1, rpF_ge g1]; exact a7 j g2
/-! values that go up a tree -/
def rcV {β : Type} (z : β) (F : Int → Int → (Nat → β) → β) (C V : Nat → Int) (sp : Nat → Nat) (k : Nat) : β := rcF z (fun k u => F (C k) (V k) u) sp 41 k
def fOK {β : Type} (F : Int → Int → (Nat → β) → β) : Prop := ∀ (x v : Int) (u w : Nat → β), (∀ i, i < arN x → u i = w i) → F x v u = F x v w
theorem rcV_eq {β : Type} {z : β} {F : Int → Int → (Nat → β) → β} (hF : fOK F) (h : spOK n C sp) (hn : n ≤ 40) {k : Nat} (hk : k < n) : rcV z F C V sp k = F (C k) (V k) (fun i => rcV z F C V sp (chP sp k i)) := rcF_step h (fun k u w hu => hF (C k) (V k) u w hu) hn hk
theorem rcV_of {β : Type} {z : β} {F : Int → Int → (Nat → β) → β} (hF : fOK F) (h : spOK n C sp) (hn : n ≤ 40) {R : Nat → β} {lo : Nat} (hR : ∀ k, lo ≤ k → k < n → R k = F (C k) (V k) (fun i => R (chP sp k i))) : ∀ d k, n - k ≤ d → lo ≤ k → k < n → R k = rcV z F C V sp k := by
  intro d
  induction d with
  | zero => intro k h1 h2 h3; omega
  | succ d ih =>
    intro k h1 h2 h3
    rw [hR k h2 h3, rcV_eq hF h hn h3]
    refine hF _ _ _ _ (fun i hi => ?_)
    have := (h k h3).1 i hi
    have := chP_gt sp k i
    exact ih _ (by omega) (by omega) (by omega)
theorem rp_rc_in {β : Type} {z : β} {F : Int → Int → (Nat → β) → β} (hF : fOK F) (h : spOK n C sp) (hp : p < n) (h2 : spOK n2 C2 sp2) (hq : q < n2) (hn2 : n2 ≤ 40) (hm : n - sp p + sp2 q ≤ 40) : ∀ d k, n2 - k ≤ d → q ≤ k → k < q + sp2 q → rcV z F (rpF p (sp p) (sp2 q) q C C2) (rpF p (sp p) (sp2 q) q V V2) (rpS p (sp p) (sp2 q) q sp sp2) (k - q + p) = rcV z F C2 V2 sp2 k := by
  intro d
  have qe := sp_le h2 hq
  have pe := sp_le h hp
  induction d with
  | zero => intro k h1 h3 h4; omega
  | succ d ih =>
    intro k h1 h3 h4
    rw [rcV_eq hF (rp_spOK h hp h2 hq) hm (by omega), rcV_eq hF h2 hn2 (by omega), rpF_in h3 h4, rpF_in h3 h4]
    refine hF _ _ _ _ (fun i hi => ?_)
    obtain ⟨e1, e2⟩ := rp_in (p := p) (sp := sp) h2 hq h3 h4 i (by omega)
    have := e2 hi
    have := chP_gt sp2 k i
    show rcV _ _ _ _ _ (chP _ (k - q + p) i) = rcV _ _ _ _ _ (chP sp2 k i)
    rw [e1]
    exact ih _ (by omega) (by omega) (by omega)
theorem rp_rc_behind {β : Type} {z : β} {F : Int → Int → (Nat → β) → β} (hF : fOK F) (h : spOK n C sp) (hp : p < n) (hn : n ≤ 40) (h2 : spOK n2 C2 sp2) (hq : q < n2) (hm : n - sp p + sp2 q ≤ 40) : ∀ d k, n - k ≤ d → p + sp p ≤ k → k < n → rcV z F (rpF p (sp p) (sp2 q) q C C2) (rpF p (sp p) (sp2 q) q V V2) (rpS p (sp p) (sp2 q) q sp sp2) (k - sp p + sp2 q) = rcV z F C V sp k := by
  intro d
  induction d with
  | zero => intro k h1 h3 h4; omega
  | succ d ih =>
    intro k h1 h3 h4
    rw [rcV_eq hF (rp_spOK h hp h2 hq) hm (by omega), rcV_eq hF h hn h4, rpF_ge h3, rpF_ge h3]
    refine hF _ _ _ _ (fun i hi => ?_)
    have := (h k h4).1 i hi
    have := chP_gt sp k i
    show rcV _ _ _ _ _ (chP _ (k - sp p + sp2 q) i) = rcV _ _ _ _ _ (chP sp k i)
    rw [rp_behind h hp h3 h4 i (by omega)]
    exact ih _ (by omega) (by omega) (by omega)
/-- where the value stays, all above it stays -/
theorem rp_rc_ahead {β : Type} {z : β} {F : Int → Int → (Nat → β) → β} (hF : fOK F) (h : spOK n C sp) (hp : p < n) (hn : n ≤ 40) (h2 : spOK n2 C2 sp2) (hq : q < n2) (hn2 : n2 ≤ 40) (hm : n - sp p + sp2 q ≤ 40) (hv : rcV z F C2 V2 sp2 q = rcV z F C V sp p) : ∀ d k, n - k ≤ d → k ≤ p → rcV z F (rpF p (sp p) (sp2 q) q C C2) (rpF p (sp p) (sp2 q) q V V2) (rpS p (sp p) (sp2 q) q sp sp2) k = rcV z F C V sp k := by
  intro d
  have s1 := sp_pos h hp
  have r1 := sp_pos h2 hq
  have pe := sp_le h hp
  have atp : rcV z F (rpF p (sp p) (sp2 q) q C C2) (rpF p (sp p) (sp2 q) q V V2) (rpS p (sp p) (sp2 q) q sp sp2) p = rcV z F C V sp p := by
    have e := rp_rc_in (z := z) (V := V) (V2 := V2) hF h hp h2 hq hn2 hm (n2 - q) q (Nat.le_refl _) (Nat.le_refl _) (by omega)
    rw [show q - q + p = p by omega] at e
    rw [e]; exact hv
  induction d with
  | zero => intro k h1 h3; omega
  | succ d ih =>
    intro k h1 h3
    rcases Nat.lt_or_ge k p with g | g
    · rw [rcV_eq hF (rp_spOK h hp h2 hq) hm (by omega), rcV_eq hF h hn (by omega), rpF_lt g, rpF_lt g]
      refine hF _ _ _ _ (fun i hi => ?_)
      have hx := (h k (by omega)).1 i hi
      have ho := chP_out h g hp i (by omega)
      have hg := chP_gt sp k i
      show rcV _ _ _ _ _ (chP _ k i) = rcV _ _ _ _ _ (chP sp k i)
      rw [rp_ahead h hp h2 hq g i (by omega)]
      generalize chP sp k i = x at *
      unfold rpM
      by_cases c : x ≤ p
      · rw [if_pos c]; exact ih x (by omega) c
      · rw [if_neg c]
        exact rp_rc_behind hF h hp hn h2 hq hm (n - x) x (Nat.le_refl _) (by omega) hx
    · rw [show k = p by omega]; exact atp
def htG : Int → Int → (Nat → Nat) → Nat := fun x _ u => 1 + mxU u (arN x)
theorem htG_ok : fOK htG := fun x v u w h => by
  unfold htG
  rw [mxU_congr _ h]
theorem htF_rc (C V : Nat → Int) (sp : Nat → Nat) (k : Nat) : htF C sp k = rcV 0 htG C V sp k := rfl
theorem rp_ht_ahead (h : spOK n C sp) (hp : p < n) (hn : n ≤ 40) (h2 : spOK n2 C2 sp2) (hq : q < n2) (hn2 : n2 ≤ 40) (hm : n - sp p + sp2 q ≤ 40) (hv : htF C2 sp2 q ≤ htF C sp p) : ∀ d k, n - k ≤ d → k ≤ p → htF (rpF p (sp p) (sp2 q) q C C2) (rpS p (sp p) (sp2 q) q sp sp2) k ≤ htF C sp k := by
  intro d
  have s1 := sp_pos h hp
  have r1 := sp_pos h2 hq
  have pe := sp_le h hp
  have atp : htF (rpF p (sp p) (sp2 q) q C C2) (rpS p (sp p) (sp2 q) q sp sp2) p ≤ htF C sp p := by
    have e := rp_rc_in (z := 0) (V := C) (V2 := C2) htG_ok h hp h2 hq hn2 hm (n2 - q) q (Nat.le_refl _) (Nat.le_refl _) (by omega)
    rw [show q - q + p = p by omega] at e
    rw [htF_rc _ (rpF p (sp p) (sp2 q) q C C2), e]; exact hv
  induction d with
  | zero => intro k h1 h3; omega
  | succ d ih =>
    intro k h1 h3
    rcases Nat.lt_or_ge k p with g | g
    · rw [htF_eq (rp_spOK h hp h2 hq) hm (by omega), htF_eq h hn (by omega), rpF_lt g]
      have := mxU_le (u := fun i => htF (rpF p (sp p) (sp2 q) q C C2) (rpS p (sp p) (sp2 q) q sp sp2) (chP (rpS p (sp p) (sp2 q) q sp sp2) k i)) (b := mxU (fun i => htF C sp (chP sp k i)) (arN (C k))) (arN (C k)) (fun i hi => by
        have hx := (h k (by omega)).1 i hi
        have ho := chP_out h g hp i (by omega)
        have hg := chP_gt sp k i
        have hge : htF C sp (chP sp k i) ≤ mxU (fun i => htF C sp (chP sp k i)) (arN (C k)) := mxU_ge (u := fun i => htF C sp (chP sp k i)) (arN (C k)) i hi
        refine Nat.le_trans ?_ hge
        show htF _ _ (chP _ k i) ≤ htF C sp (chP sp k i)
        rw [rp_ahead h hp h2 hq g i (by omega)]
        generalize chP sp k i = x at *
        unfold rpM
        by_cases c : x ≤ p
        · rw [if_pos c]; exact ih x (by omega) c
        · rw [if_neg c]
          exact Nat.le_of_eq (rp_rc_behind (z := 0) (V := C) (V2 := C2) htG_ok h hp hn h2 hq hm (n - x) x (Nat.le_refl _) (by omega) hx))
      omega
    · rw [show k = p by omega]; exact atp
end RQ

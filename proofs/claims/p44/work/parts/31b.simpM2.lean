theorem prR_self {x a : Int} (h : x = 6 ∨ x = 7 ∨ x = 11 ∨ x = 12) : prR x a a = a := by
  rcases h with rfl | rfl | rfl | rfl
  · show (if a < a then a else a) = a; split <;> rfl
  · show (if a < a then a else a) = a; split <;> rfl
  · show (if a < a then a else a) = a; split <;> rfl
  · show (if a < a then a else a) = a; split <;> rfl
theorem st_notnot {n : Nat} {C V : Nat → Int} {sp : Nat → Nat} (h : vtOK n C V sp) {p : Nat} (hp : p < n) (h1 : C p = 13) (h2 : C (p + 1) = 13) : stOK n C V sp p (p + 2) := by
  have a1 : p + 1 < p + sp p ∧ p + 1 < n := chP_lt h.2.2.2.1 hp (i := 0) (by rw [h1]; decide)
  have a2 : p + 2 < p + 1 + sp (p + 1) ∧ p + 2 < n := chP_lt h.2.2.2.1 a1.2 (i := 0) (by rw [h2]; decide)
  have b1 : p + sp p = chP sp p (arN (C p)) := (h.2.2.2.1 p hp).2
  rw [h1] at b1
  have b2 : p + 1 + sp (p + 1) = chP sp (p + 1) (arN (C (p + 1))) := (h.2.2.2.1 (p + 1) a1.2).2
  rw [h2] at b2
  have b3 : p + sp p = p + 1 + sp (p + 1) := b1
  have b4 : p + 1 + sp (p + 1) = p + 2 + sp (p + 2) := b2
  have t : C (p + 2) ≤ 8 ↔ ptNm (C (p + 1)) 0 := h.2.2.2.2.1 (p + 1) a1.2 0 (by rw [h2]; decide)
  unfold ptNm at t
  refine ⟨by omega, a2.2, by omega, by omega, fun inp => ?_⟩
  have v := evF_nth h (inp := inp) _ (p + 2) (Nat.le_refl _) a2.2 (by omega)
  have e1 : evF inp C V sp p = limI (1 - evF inp C V sp (p + 1)) := by rw [evF_pr h hp (by omega) (by omega), h1]; rfl
  have e2 : evF inp C V sp (p + 1) = limI (1 - evF inp C V sp (p + 2)) := by rw [evF_pr h a1.2 (by omega) (by omega), h2]; rfl
  rw [e1, e2]
  rcases v with v | v <;> rw [v] <;> rfl
theorem st_choice {n : Nat} {C V : Nat → Int} {sp : Nat → Nat} (h : vtOK n C V sp) {p q : Nat} (hp : p < n) (h8 : C p = 8) (hq : chP sp p 1 = q) (hq1 : q < n) (hq2 : q + sp q < n) (he : sp q = sp (q + sp q)) (hs : ∀ j, j < sp q → C (q + j) = C (q + sp q + j) ∧ V (q + j) = V (q + sp q + j)) : stOK n C V sp p q := by
  refine st_part h hp (i := 1) (by rw [h8]; decide) hq (by unfold ptNm; omega) (fun inp => ?_)
  have e2 : chP sp p 2 = q + sp q := by show chP sp p 1 + sp (chP sp p 1) = _; rw [hq]
  rw [evF_ch h hp h8, hq, e2, ← st_same h hq1 hq2 he hs inp]
  split <;> rw [limI_id (evF_vb h hq1)]
theorem no_part {n : Nat} {C V : Nat → Int} {sp : Nat → Nat} (h : vtOK n C V sp) {p : Nat} (hp : p < n) (h3 : C p = 3) (hv : ∀ inp : Nat → Int, evF inp C V sp (chP sp p 0) = evF inp C V sp (chP sp p 1)) (inp : Nat → Int) : evF inp C V sp p = 0 := by
  rw [evF_pr h hp (by omega) (by omega), h3, hv inp]
  show limI (evF inp C V sp (chP sp p 1) - evF inp C V sp (chP sp p 1)) = 0
  rw [Int.sub_self]
  rfl
theorem no_prod {n : Nat} {C V : Nat → Int} {sp : Nat → Nat} (h : vtOK n C V sp) {p i : Nat} (hp : p < n) (h4 : C p = 4) (hi : i < 2) (hc : C (chP sp p i) = 0) (hv : V (chP sp p i) = 0) (inp : Nat → Int) : evF inp C V sp p = 0 := by
  have hl := chP_lt h.2.2.2.1 hp (i := i) (by rw [h4]; exact hi)
  have e := evF_const h hl.2 hc (inp := inp)
  rw [hv] at e
  rw [evF_pr h hp (by omega) (by omega), h4]
  show limI (evF inp C V sp (chP sp p 0) * evF inp C V sp (chP sp p 1)) = 0
  rcases (show i = 0 ∨ i = 1 by omega) with rfl | rfl
  · rw [e, Int.zero_mul]; rfl
  · rw [e, Int.mul_zero]; rfl
/-- no INPUT in it: the same for all inputs -/
theorem evF_noin {n : Nat} {C V : Nat → Int} {sp : Nat → Nat} (h : vtOK n C V sp) {lo hi : Nat} (hh : hi ≤ n) (hc : ∀ k, lo ≤ k → k < hi → C k ≠ 1) (i1 i2 : Nat → Int) : ∀ d k, n - k ≤ d → lo ≤ k → k + sp k ≤ hi → k < n → evF i1 C V sp k = evF i2 C V sp k := by
  intro d
  induction d with
  | zero => intro k h1 h2 h3 h4; omega
  | succ d ih =>
    intro k h1 h2 h3 h4
    have hs := sp_pos h.2.2.2.1 h4
    have h9 := (h.2.2.2.1 k h4).2
    have g : ∀ i, i < arN (C k) → evF i1 C V sp (chP sp k i) = evF i2 C V sp (chP sp k i) := by
      intro i hi1
      have hl := chP_lt h.2.2.2.1 h4 hi1
      have hg := chP_gt sp k i
      have hm := chP_mono sp k (show i + 1 ≤ arN (C k) by omega)
      have he : chP sp k (i + 1) = chP sp k i + sp (chP sp k i) := rfl
      exact ih _ (by omega) (by omega) (by omega) hl.2
    rw [evF_eq h.2.2.2.1 h.1.2 h4, evF_eq h.2.2.2.1 h.1.2 h4, evS_ok i1 (C k) (V k) _ _ g]
    unfold evS
    rw [if_neg (hc k h2 (by omega)), if_neg (hc k h2 (by omega))]

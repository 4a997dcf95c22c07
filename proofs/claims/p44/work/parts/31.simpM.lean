theorem evF_const {inp : Nat → Int} {n : Nat} {C V : Nat → Int} {sp : Nat → Nat} (h : vtOK n C V sp) {k : Nat} (hk : k < n) (hc : C k = 0) : evF inp C V sp k = V k := by
  obtain ⟨⟨hn0, hn1⟩, hs0, hc0, hsp, hty, hnd⟩ := h
  have hv := (hnd k hk).2.1 hc
  rw [evF_eq hsp hn1 hk]
  unfold evS
  rw [if_pos hc]
  exact limI_id (by omega)
theorem evF_pr {inp : Nat → Int} {n : Nat} {C V : Nat → Int} {sp : Nat → Nat} (h : vtOK n C V sp) {k : Nat} (hk : k < n) (hc : 2 ≤ C k) (h8 : C k ≠ 8) : evF inp C V sp k = limI (prR (C k) (evF inp C V sp (chP sp k 0)) (evF inp C V sp (chP sp k 1))) := by
  obtain ⟨⟨hn0, hn1⟩, hs0, hc0, hsp, hty, hnd⟩ := h
  rw [evF_eq hsp hn1 hk]
  unfold evS
  rw [if_neg (by omega), if_neg (by omega), if_neg h8]
theorem evF_ch {inp : Nat → Int} {n : Nat} {C V : Nat → Int} {sp : Nat → Nat} (h : vtOK n C V sp) {k : Nat} (hk : k < n) (h8 : C k = 8) : evF inp C V sp k = limI (if evF inp C V sp (chP sp k 0) = 1 then evF inp C V sp (chP sp k 1) else evF inp C V sp (chP sp k 2)) := by
  obtain ⟨⟨hn0, hn1⟩, hs0, hc0, hsp, hty, hnd⟩ := h
  rw [evF_eq hsp hn1 hk]
  unfold evS
  rw [if_neg (by omega), if_neg (by omega), if_pos h8]
theorem evF_vb {inp : Nat → Int} {n : Nat} {C V : Nat → Int} {sp : Nat → Nat} (h : vtOK n C V sp) {k : Nat} (hk : k < n) : -9999 ≤ evF inp C V sp k ∧ evF inp C V sp k ≤ 9999 := evF_b h.2.2.2.1 h.1.2 hk
theorem evF_nth {n : Nat} {C V : Nat → Int} {sp : Nat → Nat} (h : vtOK n C V sp) {inp : Nat → Int} : ∀ d k, n - k ≤ d → k < n → 8 < C k → evF inp C V sp k = 0 ∨ evF inp C V sp k = 1 := by
  intro d
  induction d with
  | zero => intro k h1 h2; omega
  | succ d ih =>
    intro k h1 h2 h3
    have hb := (h.2.2.2.2.2 k h2).1
    have hc : ∀ i, i < arN (C k) → 11 ≤ C k → evF inp C V sp (chP sp k i) = 0 ∨ evF inp C V sp (chP sp k i) = 1 := by
      intro i hi h11
      have hl := chP_lt h.2.2.2.1 h2 hi
      have hgt := chP_gt sp k i
      have ht := h.2.2.2.2.1 k h2 i hi
      refine ih _ (by omega) hl.2 ?_
      rcases Int.lt_or_le 8 (C (chP sp k i)) with g | g
      · exact g
      · have g2 := ht.1 g
        unfold ptNm at g2
        omega
    rw [evF_pr h h2 (by omega) (by omega)]
    rcases (show C k = 9 ∨ C k = 10 ∨ C k = 11 ∨ C k = 12 ∨ C k = 13 by omega) with e | e | e | e | e
    · rw [e]; simp only [prR, limI]; (repeat' split) <;> omega
    · rw [e]; simp only [prR, limI]; (repeat' split) <;> omega
    · have g0 := hc 0 (by rw [e]; decide) (by omega)
      have g1 := hc 1 (by rw [e]; decide) (by omega)
      rw [e]; simp only [prR, limI]; (repeat' split) <;> omega
    · have g0 := hc 0 (by rw [e]; decide) (by omega)
      have g1 := hc 1 (by rw [e]; decide) (by omega)
      rw [e]; simp only [prR, limI]; (repeat' split) <;> omega
    · have g0 := hc 0 (by rw [e]; decide) (by omega)
      rw [e]; simp only [prR, limI]; (repeat' split) <;> omega
/-- what is at p can become what is at q -/
def stOK (n : Nat) (C V : Nat → Int) (sp : Nat → Nat) (p q : Nat) : Prop := p < q ∧ q < n ∧ q + sp q ≤ p + sp p ∧ (C p ≤ 8 ↔ C q ≤ 8) ∧ ∀ inp, evF inp C V sp q = evF inp C V sp p
theorem st_part {n : Nat} {C V : Nat → Int} {sp : Nat → Nat} (h : vtOK n C V sp) {p i q : Nat} (hp : p < n) (hi : i < arN (C p)) (hq : chP sp p i = q) (ht : C p ≤ 8 ↔ ptNm (C p) i) (hv : ∀ inp, evF inp C V sp q = evF inp C V sp p) : stOK n C V sp p q := by
  subst hq
  have hl := chP_lt h.2.2.2.1 hp hi
  have h9 := (h.2.2.2.1 p hp).2
  have hm := chP_mono sp p (show i + 1 ≤ arN (C p) by omega)
  have he : chP sp p (i + 1) = chP sp p i + sp (chP sp p i) := rfl
  exact ⟨chP_gt sp p i, hl.2, by omega, ht.trans (h.2.2.2.2.1 p hp i hi).symm, hv⟩
theorem st_pair {n : Nat} {C V : Nat → Int} {sp : Nat → Nat} (h : vtOK n C V sp) {p i q : Nat} (hp : p < n) (hi : i < arN (C p)) (hq : chP sp p i = q) (ht : C p ≤ 8 ↔ ptNm (C p) i) (h2 : 2 ≤ C p) (h8 : C p ≠ 8) (hv : ∀ inp, prR (C p) (evF inp C V sp (chP sp p 0)) (evF inp C V sp (chP sp p 1)) = evF inp C V sp q) : stOK n C V sp p q := by
  refine st_part h hp hi hq ht (fun inp => ?_)
  have hl := chP_lt h.2.2.2.1 hp hi
  rw [evF_pr h hp h2 h8, hv inp, ← hq, limI_id (evF_vb h hl.2)]
theorem st_same {n : Nat} {C V : Nat → Int} {sp : Nat → Nat} (h : vtOK n C V sp) {p q : Nat} (hp : p < n) (hq : q < n) (he : sp p = sp q) (hs : ∀ j, j < sp p → C (p + j) = C (q + j) ∧ V (p + j) = V (q + j)) (inp : Nat → Int) : evF inp C V sp p = evF inp C V sp q := same_rc (evS_ok inp) h.2.2.2.1 h.1.2 _ p q hp hq (Nat.le_refl _) he hs

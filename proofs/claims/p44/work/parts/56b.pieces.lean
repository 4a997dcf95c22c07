/-! PIECES of trees, as the law grows them: rows of codes and values -/
def frC {β : Type} (n : Nat) (f g : Nat → β) : Nat → β := fun k => if k < n then f k else g (k - n)
theorem frC_lt {β : Type} {n k : Nat} {f g : Nat → β} (h : k < n) : frC n f g k = f k := if_pos h
theorem frC_ge {β : Type} {n k : Nat} {f g : Nat → β} : frC n f g (k + n) = g k := by
  unfold frC
  rw [if_neg (by omega), Nat.add_sub_cancel]
theorem chP_fst {sp s2 : Nat → Nat} {k n : Nat} (h : ∀ j, j < n → s2 j = sp j) : ∀ a, (∀ p, p < a → chP sp k p < n) → ∀ p, p ≤ a → chP s2 k p = chP sp k p := by
  intro a ha p
  induction p with
  | zero => intro _; rfl
  | succ p ih =>
    intro hp
    show chP s2 k p + s2 (chP s2 k p) = chP sp k p + sp (chP sp k p)
    rw [ih (by omega), h _ (ha p (by omega))]
theorem chP_snd {sp s2 : Nat → Nat} {n : Nat} (h : ∀ j, s2 (j + n) = sp j) (k : Nat) : ∀ p, chP s2 (k + n) p = chP sp k p + n := by
  intro p
  induction p with
  | zero => show k + n + 1 = k + 1 + n; omega
  | succ p ih =>
    show chP s2 (k + n) p + s2 (chP s2 (k + n) p) = chP sp k p + sp (chP sp k p) + n
    rw [ih, h]
    omega
theorem chP_pos {sp s2 : Nat → Nat} (h : ∀ j, 0 < j → s2 j = sp j) (k : Nat) : ∀ p, chP s2 k p = chP sp k p := by
  intro p
  induction p with
  | zero => rfl
  | succ p ih =>
    show chP s2 k p + s2 (chP s2 k p) = chP sp k p + sp (chP sp k p)
    rw [ih, h _ (by have := chP_gt sp k p; omega)]
/-- a whole piece; b: a NUMBER; e: at most so many levels; nb: at most so many nodes -/
def pcP (b : Int) (e nb n : Nat) (f : Nat → Int) : Prop := ∃ (C V : Nat → Int) (sp hh : Nat → Nat), (0 < n ∧ n ≤ nb) ∧ (∀ k, k < n → f (2 * k) = C k ∧ f (2 * k + 1) = V k) ∧ sp 0 = n ∧ spOK n C sp ∧ tyOK n C sp ∧ (∀ k, k < n → ndOK (C k) (V k)) ∧ numI (C 0) = b ∧ (∀ k, k < n → 1 ≤ hh k ∧ ∀ p, p < arN (C k) → hh (chP sp k p) + 1 ≤ hh k) ∧ hh 0 ≤ e
/-- the first i parts beneath a node of the code x -/
def ptP (x : Int) (e i nb n : Nat) (f : Nat → Int) : Prop := ∃ (C V : Nat → Int) (sp hh : Nat → Nat), (0 < n ∧ n ≤ 1 + i * nb) ∧ (∀ k, k < n → f (2 * k) = C k ∧ f (2 * k + 1) = V k) ∧ C 0 = x ∧ (∀ k, 0 < k → k < n → (∀ p, p < arN (C k) → chP sp k p < n) ∧ k + sp k = chP sp k (arN (C k))) ∧ (∀ k, 0 < k → k < n → ∀ p, p < arN (C k) → (C (chP sp k p) ≤ 8 ↔ ptNm (C k) p)) ∧ (∀ k, k < n → ndOK (C k) (V k)) ∧ (∀ k, 0 < k → k < n → 1 ≤ hh k ∧ ∀ p, p < arN (C k) → hh (chP sp k p) + 1 ≤ hh k) ∧ (∀ p, p < i → chP sp 0 p < n ∧ (C (chP sp 0 p) ≤ 8 ↔ ptNm x p) ∧ hh (chP sp 0 p) ≤ e) ∧ chP sp 0 i = n
theorem ptP_0 {x v : Int} {e nb : Nat} {f : Nat → Int} (h0 : f 0 = x) (h1 : f 1 = v) (hn : ndOK x v) : ptP x e 0 nb 1 f := ⟨fun _ => x, fun _ => v, fun _ => 1, fun _ => 1, ⟨by omega, by omega⟩, fun k hk => by rw [show k = 0 by omega]; exact ⟨h0, h1⟩, rfl, fun k h1 h2 => by omega, fun k h1 h2 => by omega, fun _ _ => hn, fun k h1 h2 => by omega, fun p hp => absurd hp (Nat.not_lt_zero p), rfl⟩
theorem nm_type {x y : Int} {i : Nat} (h : numI y = nmP x i) : y ≤ 8 ↔ ptNm x i := by
  unfold numI nmP at h
  unfold ptNm
  by_cases h1 : y ≤ 8
  · rw [if_pos h1] at h
    by_cases h2 : x < 11 ∧ ¬ (x = 8 ∧ i = 0)
    · exact ⟨fun _ => h2, fun _ => h1⟩
    · rw [if_neg h2] at h; exact absurd h (by decide)
  · rw [if_neg h1] at h
    by_cases h2 : x < 11 ∧ ¬ (x = 8 ∧ i = 0)
    · rw [if_pos h2] at h; exact absurd h (by decide)
    · exact ⟨fun q => absurd q h1, fun q => absurd q h2⟩
theorem ptP_step {x : Int} {e i nb n n2 : Nat} {f f2 h : Nat → Int} (hp : ptP x e i nb n f) (hc : pcP (nmP x i) e nb n2 f2) (h1 : ∀ k, k < 2 * n → h k = f k) (h2 : ∀ k, k < 2 * n2 → h (2 * n + k) = f2 k) : ptP x e (i + 1) nb (n + n2) h := by
  obtain ⟨C, V, sp, hh, ⟨a1, a2⟩, a3, a4, a5, a6, a7, a8, a9, a10⟩ := hp
  obtain ⟨D, U, sq, gg, ⟨b1, b2⟩, b3, b4, b5, b6, b7, b8, b9, b10⟩ := hc
  have cl : ∀ j, j < n → frC n sp sq j = sp j := fun j hj => frC_lt hj
  have cg : ∀ j, frC n sp sq (j + n) = sq j := fun j => frC_ge
  have r0 := chP_fst (k := 0) cl i (fun p hp => (a9 p hp).1)
  have split : ∀ k, k < n + n2 → k < n ∨ ∃ j, j < n2 ∧ k = j + n := fun k hk => by
    rcases Nat.lt_or_ge k n with g | g
    · exact Or.inl g
    · exact Or.inr ⟨k - n, by omega, by omega⟩
  refine ⟨frC n C D, frC n V U, frC n sp sq, frC n hh gg, ⟨by omega, by rw [Nat.add_mul]; omega⟩, fun k hk => ?_, (frC_lt a1).trans a4, fun k g1 hk => ?_, fun k g1 hk p hp => ?_, fun k hk => ?_, fun k g1 hk => ?_, fun p hp => ?_, ?_⟩
  · rcases split k hk with g | ⟨j, g, rfl⟩
    · rw [frC_lt g, frC_lt g, h1 _ (by omega), h1 _ (by omega)]; exact a3 k g
    · rw [frC_ge, frC_ge, show 2 * (j + n) = 2 * n + 2 * j by omega, show 2 * n + 2 * j + 1 = 2 * n + (2 * j + 1) by omega, h2 _ (by omega), h2 _ (by omega)]; exact b3 j g
  · rcases split k hk with g | ⟨j, g, rfl⟩
    · obtain ⟨q1, q2⟩ := a5 k g1 g
      have q3 := chP_fst (k := k) cl (arN (C k)) q1
      rw [frC_lt g, frC_lt g]
      exact ⟨fun p hp => by rw [q3 p (by omega)]; have := q1 p hp; omega, by rw [q3 _ (Nat.le_refl _)]; exact q2⟩
    · obtain ⟨q1, q2⟩ := b5 j g
      rw [frC_ge, frC_ge]
      exact ⟨fun p hp => by rw [chP_snd cg]; have := q1 p hp; omega, by rw [chP_snd cg, ← q2]; omega⟩
  · rcases split k hk with g | ⟨j, g, rfl⟩
    · rw [frC_lt g] at hp ⊢
      obtain ⟨q1, q2⟩ := a5 k g1 g
      rw [chP_fst (k := k) cl (arN (C k)) q1 p (by omega), frC_lt (q1 p hp)]
      exact a6 k g1 g p hp
    · rw [frC_ge] at hp ⊢
      rw [chP_snd cg, frC_ge]
      exact b6 j g p hp
  · rcases split k hk with g | ⟨j, g, rfl⟩
    · rw [frC_lt g, frC_lt g]; exact a7 k g
    · rw [frC_ge, frC_ge]; exact b7 j g
  · rcases split k hk with g | ⟨j, g, rfl⟩
    · obtain ⟨q1, q2⟩ := a5 k g1 g
      rw [frC_lt g, frC_lt g]
      exact ⟨(a8 k g1 g).1, fun p hp => by rw [chP_fst (k := k) cl (arN (C k)) q1 p (by omega), frC_lt (q1 p hp)]; exact (a8 k g1 g).2 p hp⟩
    · rw [frC_ge, frC_ge]
      exact ⟨(b9 j g).1, fun p hp => by rw [chP_snd cg, frC_ge]; exact (b9 j g).2 p hp⟩
  · by_cases e9 : p = i
    · have z1 : frC n C D n = D 0 := by have := frC_ge (n := n) (k := 0) (f := C) (g := D); rw [Nat.zero_add] at this; exact this
      have z2 : frC n hh gg n = gg 0 := by have := frC_ge (n := n) (k := 0) (f := hh) (g := gg); rw [Nat.zero_add] at this; exact this
      rw [e9, r0 i (Nat.le_refl _), a10, z1, z2]
      exact ⟨by omega, nm_type b8, b10⟩
    · obtain ⟨q1, q2, q3⟩ := a9 p (by omega)
      rw [r0 p (by omega), frC_lt q1, frC_lt q1]
      exact ⟨by omega, q2, q3⟩
  · show chP (frC n sp sq) 0 i + frC n sp sq (chP (frC n sp sq) 0 i) = n + n2
    rw [r0 i (Nat.le_refl _), a10]
    have q9 := cg 0
    rw [Nat.zero_add] at q9
    rw [q9, b4]
theorem ptP_end {x : Int} {e i nb n : Nat} {f : Nat → Int} (hp : ptP x e i nb n f) (hi : i = arN x) : pcP (numI x) (e + 1) (1 + 3 * nb) n f := by
  obtain ⟨C, V, sp, hh, ⟨a1, a2⟩, a3, a4, a5, a6, a7, a8, a9, a10⟩ := hp
  have h3 := arN_le x
  have hle : i * nb ≤ 3 * nb := Nat.mul_le_mul_right nb (by omega)
  have hc : ∀ k p, chP (fun k => if k = 0 then n else sp k) k p = chP sp k p := fun k p => chP_pos (fun j hj => if_neg (by omega)) k p
  have hg : ∀ k p, chP sp k p ≠ 0 := fun k p => by have := chP_gt sp k p; omega
  refine ⟨C, V, fun k => if k = 0 then n else sp k, fun k => if k = 0 then e + 1 else hh k, ⟨a1, by omega⟩, a3, if_pos rfl, fun k hk => ?_, fun k hk p hp => ?_, a7, by rw [a4], fun k hk => ?_, by show (if 0 = 0 then e + 1 else hh 0) ≤ e + 1; rw [if_pos rfl]; exact Nat.le_refl _⟩
  · by_cases e0 : k = 0
    · subst e0
      rw [a4, ← hi]
      exact ⟨fun p hp => by rw [hc]; exact (a9 p hp).1, by rw [hc, a10]; exact Nat.zero_add n⟩
    · obtain ⟨q1, q2⟩ := a5 k (by omega) hk
      exact ⟨fun p hp => by rw [hc]; exact q1 p hp, by rw [hc]; show k + (if k = 0 then n else sp k) = _; rw [if_neg e0]; exact q2⟩
  · rw [hc]
    by_cases e0 : k = 0
    · subst e0
      rw [a4] at hp ⊢
      exact (a9 p (by omega)).2.1
    · exact a6 k (by omega) hk p hp
  · by_cases e0 : k = 0
    · subst e0
      show 1 ≤ (if 0 = 0 then e + 1 else hh 0) ∧ ∀ p, p < arN (C 0) → (if chP _ 0 p = 0 then e + 1 else hh (chP _ 0 p)) + 1 ≤ (if 0 = 0 then e + 1 else hh 0)
      rw [if_pos rfl]
      refine ⟨by omega, fun p hp => ?_⟩
      rw [a4] at hp
      rw [hc, if_neg (hg 0 p)]
      have := (a9 p (by omega)).2.2
      omega
    · show 1 ≤ (if k = 0 then e + 1 else hh k) ∧ ∀ p, p < arN (C k) → (if chP _ k p = 0 then e + 1 else hh (chP _ k p)) + 1 ≤ (if k = 0 then e + 1 else hh k)
      rw [if_neg e0]
      refine ⟨(a8 k (by omega) hk).1, fun p hp => ?_⟩
      rw [hc, if_neg (hg k p)]
      exact (a8 k (by omega) hk).2 p hp
theorem htF_hh {n : Nat} {C : Nat → Int} {sp hh : Nat → Nat} (h : spOK n C sp) (hn : n ≤ 40) (hb : ∀ k, k < n → 1 ≤ hh k ∧ ∀ p, p < arN (C k) → hh (chP sp k p) + 1 ≤ hh k) : ∀ d k, n - k ≤ d → k < n → htF C sp k ≤ hh k := by
  intro d
  induction d with
  | zero => intro k h1 h2; omega
  | succ d ih =>
    intro k h1 h2
    rw [htF_eq h hn h2]
    obtain ⟨b1, b2⟩ := hb k h2
    have := mxU_le (u := fun i => htF C sp (chP sp k i)) (b := hh k - 1) (arN (C k)) (fun i hi => by
      have q1 := (h k h2).1 i hi
      have q2 := chP_gt sp k i
      have q3 := ih (chP sp k i) (by omega) q1
      have q4 := b2 i hi
      omega)
    omega
/-- a small piece is a TREE -/
theorem pcP_tree {e nb n : Nat} {f : Nat → Int} (hp : pcP 1 e nb n f) (hn : n ≤ 40) (he : e ≤ 8) : ∃ t : aT, aOK t ∧ t.1 = n ∧ ∀ k, k < n → f (2 * k) = t.2.1 k ∧ f (2 * k + 1) = t.2.2.1 k := by
  obtain ⟨C, V, sp, hh, ⟨a1, a2⟩, a3, a4, a5, a6, a7, a8, a9, a10⟩ := hp
  have hc := numI_cases (C 0)
  have h1 := htF_hh a5 hn a9 n 0 (by omega) a1
  refine ⟨(n, C, V, sp), ⟨⟨⟨a1, hn⟩, a4, (show C 0 ≤ 8 by omega), a5, a6, a7⟩, ?_⟩, rfl, a3⟩
  show lvF n C sp ≤ 8
  unfold lvF
  rw [if_neg (by omega)]
  omega
/-- how many wait, one node on -/
theorem pn_parts {n : Nat} {C : Nat → Int} {sp : Nat → Nat} (h : spOK n C sp) (hn : n ≤ 40) {k : Nat} (hk : k < n) : pnN n sp (k + 1) + 1 = pnN n sp k + arN (C k) := by
  have key : ∀ d i, i ≤ arN (C k) → arN (C k) - i ≤ d → pnN n sp (chP sp k i) = (arN (C k) - i) + pnN n sp (k + sp k) := by
    intro d
    induction d with
    | zero =>
      intro i h1 h2
      rw [show i = arN (C k) by omega, ← (h k hk).2]
      omega
    | succ d ih =>
      intro i h1 h2
      by_cases e : i = arN (C k)
      · rw [e, ← (h k hk).2]; omega
      · obtain ⟨q1, q2, q3⟩ := ch_step h hk (i := i) (by omega)
        rw [pn_eq h hn q1, ← q2, ih (i + 1) (by omega) (by omega)]
        omega
  have h1 := key (arN (C k)) 0 (Nat.zero_le _) (by omega)
  have h2 := pn_eq h hn hk
  have e0 : chP sp k 0 = k + 1 := rfl
  rw [e0] at h1
  omega
def cpF (f g : Nat → Int) (x y z : Nat) : Nat → Int := fun k => if y ≤ k ∧ k < y + z then f (x + (k - y)) else g k
theorem cp_iI (f g : Nat → Int) (x y z : Nat) : va_cpy (fun j0 => iI (f j0)) (fun j0 => iI (g j0)) x y z = fun j0 => iI (cpF f g x y z j0) := by
  funext k
  unfold va_cpy cpF
  split <;> rfl

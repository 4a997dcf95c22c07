/-- an allowed tree that answers the same for all inputs, no larger and no deeper -/
def sR (n : Nat) (C V : Nat → Int) (sp : Nat → Nat) (n1 : Nat) (C1 V1 : Nat → Int) (sp1 : Nat → Nat) : Prop := vtOK n1 C1 V1 sp1 ∧ n1 ≤ n ∧ htF C1 sp1 0 ≤ htF C sp 0 ∧ ∀ inp, evF inp C1 V1 sp1 0 = evF inp C V sp 0
theorem sR_refl {n : Nat} {C V : Nat → Int} {sp : Nat → Nat} (h : vtOK n C V sp) : sR n C V sp n C V sp := ⟨h, Nat.le_refl _, Nat.le_refl _, fun _ => rfl⟩
theorem sR_trans {n n1 n2 : Nat} {C V C1 V1 C2 V2 : Nat → Int} {sp sp1 sp2 : Nat → Nat} (h : sR n C V sp n1 C1 V1 sp1) (g : sR n1 C1 V1 sp1 n2 C2 V2 sp2) : sR n C V sp n2 C2 V2 sp2 := ⟨g.1, Nat.le_trans g.2.1 h.2.1, Nat.le_trans g.2.2.1 h.2.2.1, fun inp => (g.2.2.2 inp).trans (h.2.2.2 inp)⟩
theorem sR_keep {n : Nat} {C V : Nat → Int} {sp : Nat → Nat} (h : vtOK n C V sp) {p q : Nat} (hp : p < n) (hs : stOK n C V sp p q) : sR n C V sp (n - sp p + sp q) (rpF p (sp p) (sp q) q C C) (rpF p (sp p) (sp q) q V V) (rpS p (sp p) (sp q) q sp sp) ∧ n - sp p + sp q < n := by
  obtain ⟨h1, h2, h3, h4, h5⟩ := hs
  have hsp := h.2.2.2.1
  have hn := h.1.2
  have a1 := sp_le hsp hp
  have a2 := sp_pos hsp h2
  have hm : n - sp p + sp q ≤ 40 := by omega
  exact ⟨⟨rp_vtOK h hp h h2 h4 hm, by omega, rp_ht_ahead hsp hp hn hsp h2 hn hm (Nat.le_of_lt (htF_in hsp hn _ p (Nat.le_refl _) hp q h1 (by omega))) _ 0 (Nat.le_refl _) (Nat.zero_le _),
    fun inp => rp_rc_ahead (evS_ok inp) hsp hp hn hsp h2 hn hm (h5 inp) _ 0 (Nat.le_refl _) (Nat.zero_le _)⟩, by omega⟩
theorem sR_const {n : Nat} {C V : Nat → Int} {sp : Nat → Nat} (h : vtOK n C V sp) {p : Nat} {v : Int} (hp : p < n) (h8 : C p ≤ 8) (hb : -99 ≤ v ∧ v ≤ 99) (h1 : 1 < sp p) (hv : ∀ inp, evF inp C V sp p = v) : sR n C V sp (n - sp p + 1) (rpF p (sp p) 1 0 C (fun _ => 0)) (rpF p (sp p) 1 0 V (fun _ => v)) (rpS p (sp p) 1 0 sp (fun _ => 1)) ∧ n - sp p + 1 < n := by
  have hsp := h.2.2.2.1
  have hn := h.1.2
  have a1 := sp_le hsp hp
  have hm : n - sp p + 1 ≤ 40 := by omega
  have o := one_vtOK hb
  have ht : htF (fun _ => 0) (fun _ => 1) 0 ≤ htF C sp p := by
    have g := htF_le o.2.2.2.1 (by omega) _ 0 (Nat.le_refl _) (by omega)
    have g2 := htF_eq hsp hn hp
    omega
  exact ⟨⟨rp_vtOK h hp o (by omega) ⟨fun _ => by show (0 : Int) ≤ 8; omega, fun _ => h8⟩ hm, by omega, rp_ht_ahead hsp hp hn o.2.2.2.1 (show 0 < 1 by omega) (by omega) hm ht _ 0 (Nat.le_refl _) (Nat.zero_le _),
    fun inp => rp_rc_ahead (evS_ok inp) hsp hp hn o.2.2.2.1 (show 0 < 1 by omega) (by omega) hm ((evF_const o (k := 0) (by omega) rfl).trans (hv inp).symm) _ 0 (Nat.le_refl _) (Nat.zero_le _)⟩, by omega⟩

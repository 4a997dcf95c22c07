/-- a new TREE -/
theorem k_Tree_init (l : Launch) (G : fw_G) (M : fw_M) (N : Nat) (a : Nat) (hb : G.2.2.1 ≤ a) (ha : M a = some (.inr (8, [.null, .null, .null, .null, .int 0, .int 0]))) (hN : N = a + 1) : fMet l yX8_init cX8_init 1 none 1 14 4 160 G M N [.ref a] (fw_pv (fun M1 n1 => trAt G M1 a z0 z0 z0 z0 0 0 ∧ n1 = N + 4 ∧ ∀ q, q < a → M1 q = M q)) := by
  refine fw_met RX8 rfl (by decide +kernel) (Nat.le_of_ble_eq_true rfl) ?_
  intro pG e s m args below meth cG ls E hr hlk hnm hK hH hz hl
  have hz := hz.trans hN
  refine lv_aload_n E.1 E.2.1 dX8_init_0 rfl (lv_at hl 0 rfl) ?_
  refine fw_obj E ql_RX8_3 qi_obj qc_obj hl dX8_init_1 ⟨by decide, by decide⟩ ?_
  refine lv_aload_n E.1 E.2.1 dX8_init_4 rfl (lv_at hl 0 rfl) ?_
  refine lv_bipush (v := iI 40) E.1 E.2.1 dX8_init_5 (by decide) ?_
  refine fw_newI (N := 40) E hK hH hz qa_int (by decide) (by decide) (by decide) ⟨Nat.le_of_ble_eq_true rfl, Nat.le_of_ble_eq_true rfl⟩ dX8_init_7 (fun H1 hH hz1 => ?_)
  replace hz : H1.size = a + 2 := by omega
  clear hz1
  obtain ⟨M1, hM2⟩ : ∃ MX, MX = fw_up M (a + 1) (fI G 40 (fun j0 => iI (z0 j0))) := ⟨_, rfl⟩
  replace hH := fw_H.nm hM2 hH
  have fr3 : ∀ q, q ≠ a + 1 → M1 q = M q := fun q h => by rw [hM2]; exact fw_up_ne h
  replace ha : M1 a = some (.inr (8, [.null, .null, .null, .null, .int 0, .int 0])) := (fr3 _ (by omega)).trans ha
  have hn0 : M1 (a + 1) = some (fI G 40 (fun j0 => iI (z0 j0))) := by rw [hM2]; exact fw_up_eq
  refine fw_putF E hK hH (by omega) ha fc_X8 0 (by decide) ql_RX8_9 rfl rfl hnm rfl rfl (Nat.le_of_ble_eq_true rfl) dX8_init_9 (fun H1 locs1 hH hz1 => ?_)
  replace hz := hz1.trans hz; clear hz1
  obtain ⟨M4, hM5⟩ : ∃ MX, MX = fw_up M1 a (.inr (8, [.ref (a + 1), .null, .null, .null, .int 0, .int 0])) := ⟨_, rfl⟩
  replace hH := fw_H.nm hM5 hH
  have fr6 : ∀ q, q ≠ a → M4 q = M1 q := fun q h => by rw [hM5]; exact fw_up_ne h
  replace hn0 : M4 (a + 1) = some (fI G 40 (fun j0 => iI (z0 j0))) := (fr6 _ (by omega)).trans hn0
  have ha : M4 a = some (.inr (8, [.ref (a + 1), .null, .null, .null, .int 0, .int 0])) := by rw [hM5]; exact fw_up_eq
  refine lv_aload_n E.1 E.2.1 dX8_init_12 rfl (lv_at hl 0 rfl) ?_
  refine lv_bipush (v := iI 40) E.1 E.2.1 dX8_init_13 (by decide) ?_
  refine fw_newI (N := 40) E hK hH hz qa_int (by decide) (by decide) (by decide) ⟨Nat.le_of_ble_eq_true rfl, Nat.le_of_ble_eq_true rfl⟩ dX8_init_15 (fun H1 hH hz1 => ?_)
  replace hz : H1.size = a + 3 := by omega
  clear hz1
  obtain ⟨M7, hM8⟩ : ∃ MX, MX = fw_up M4 (a + 2) (fI G 40 (fun j0 => iI (z0 j0))) := ⟨_, rfl⟩
  replace hH := fw_H.nm hM8 hH
  have fr9 : ∀ q, q ≠ a + 2 → M7 q = M4 q := fun q h => by rw [hM8]; exact fw_up_ne h
  replace hn0 : M7 (a + 1) = some (fI G 40 (fun j0 => iI (z0 j0))) := (fr9 _ (by omega)).trans hn0
  replace ha : M7 a = some (.inr (8, [.ref (a + 1), .null, .null, .null, .int 0, .int 0])) := (fr9 _ (by omega)).trans ha
  have hn1 : M7 (a + 2) = some (fI G 40 (fun j0 => iI (z0 j0))) := by rw [hM8]; exact fw_up_eq
  refine fw_putF E hK hH (by omega) ha fc_X8 1 (by decide) ql_RX8_15 rfl rfl hnm rfl rfl (Nat.le_of_ble_eq_true rfl) dX8_init_17 (fun H1 locs1 hH hz1 => ?_)
  replace hz := hz1.trans hz; clear hz1
  obtain ⟨M10, hM11⟩ : ∃ MX, MX = fw_up M7 a (.inr (8, [.ref (a + 1), .ref (a + 2), .null, .null, .int 0, .int 0])) := ⟨_, rfl⟩
  replace hH := fw_H.nm hM11 hH
  have fr12 : ∀ q, q ≠ a → M10 q = M7 q := fun q h => by rw [hM11]; exact fw_up_ne h
  replace hn0 : M10 (a + 1) = some (fI G 40 (fun j0 => iI (z0 j0))) := (fr12 _ (by omega)).trans hn0
  replace hn1 : M10 (a + 2) = some (fI G 40 (fun j0 => iI (z0 j0))) := (fr12 _ (by omega)).trans hn1
  have ha : M10 a = some (.inr (8, [.ref (a + 1), .ref (a + 2), .null, .null, .int 0, .int 0])) := by rw [hM11]; exact fw_up_eq
  refine lv_aload_n E.1 E.2.1 dX8_init_20 rfl (lv_at hl 0 rfl) ?_
  refine lv_bipush (v := iI 40) E.1 E.2.1 dX8_init_21 (by decide) ?_
  refine fw_newI (N := 40) E hK hH hz qa_int (by decide) (by decide) (by decide) ⟨Nat.le_of_ble_eq_true rfl, Nat.le_of_ble_eq_true rfl⟩ dX8_init_23 (fun H1 hH hz1 => ?_)
  replace hz : H1.size = a + 4 := by omega
  clear hz1
  obtain ⟨M13, hM14⟩ : ∃ MX, MX = fw_up M10 (a + 3) (fI G 40 (fun j0 => iI (z0 j0))) := ⟨_, rfl⟩
  replace hH := fw_H.nm hM14 hH
  have fr15 : ∀ q, q ≠ a + 3 → M13 q = M10 q := fun q h => by rw [hM14]; exact fw_up_ne h
  replace hn0 : M13 (a + 1) = some (fI G 40 (fun j0 => iI (z0 j0))) := (fr15 _ (by omega)).trans hn0
  replace hn1 : M13 (a + 2) = some (fI G 40 (fun j0 => iI (z0 j0))) := (fr15 _ (by omega)).trans hn1
  replace ha : M13 a = some (.inr (8, [.ref (a + 1), .ref (a + 2), .null, .null, .int 0, .int 0])) := (fr15 _ (by omega)).trans ha
  have hn2 : M13 (a + 3) = some (fI G 40 (fun j0 => iI (z0 j0))) := by rw [hM14]; exact fw_up_eq
  refine fw_putF E hK hH (by omega) ha fc_X8 2 (by decide) ql_RX8_18 rfl rfl hnm rfl rfl (Nat.le_of_ble_eq_true rfl) dX8_init_25 (fun H1 locs1 hH hz1 => ?_)
  replace hz := hz1.trans hz; clear hz1
  obtain ⟨M16, hM17⟩ : ∃ MX, MX = fw_up M13 a (.inr (8, [.ref (a + 1), .ref (a + 2), .ref (a + 3), .null, .int 0, .int 0])) := ⟨_, rfl⟩
  replace hH := fw_H.nm hM17 hH
  have fr18 : ∀ q, q ≠ a → M16 q = M13 q := fun q h => by rw [hM17]; exact fw_up_ne h
  replace hn0 : M16 (a + 1) = some (fI G 40 (fun j0 => iI (z0 j0))) := (fr18 _ (by omega)).trans hn0
  replace hn1 : M16 (a + 2) = some (fI G 40 (fun j0 => iI (z0 j0))) := (fr18 _ (by omega)).trans hn1
  replace hn2 : M16 (a + 3) = some (fI G 40 (fun j0 => iI (z0 j0))) := (fr18 _ (by omega)).trans hn2
  have ha : M16 a = some (.inr (8, [.ref (a + 1), .ref (a + 2), .ref (a + 3), .null, .int 0, .int 0])) := by rw [hM17]; exact fw_up_eq
  refine lv_aload_n E.1 E.2.1 dX8_init_28 rfl (lv_at hl 0 rfl) ?_
  refine lv_bipush (v := iI 40) E.1 E.2.1 dX8_init_29 (by decide) ?_
  refine fw_newI (N := 40) E hK hH hz qa_int (by decide) (by decide) (by decide) ⟨Nat.le_of_ble_eq_true rfl, Nat.le_of_ble_eq_true rfl⟩ dX8_init_31 (fun H1 hH hz1 => ?_)
  replace hz : H1.size = a + 5 := by omega
  clear hz1
  obtain ⟨M19, hM20⟩ : ∃ MX, MX = fw_up M16 (a + 4) (fI G 40 (fun j0 => iI (z0 j0))) := ⟨_, rfl⟩
  replace hH := fw_H.nm hM20 hH
  have fr21 : ∀ q, q ≠ a + 4 → M19 q = M16 q := fun q h => by rw [hM20]; exact fw_up_ne h
  replace hn0 : M19 (a + 1) = some (fI G 40 (fun j0 => iI (z0 j0))) := (fr21 _ (by omega)).trans hn0
  replace hn1 : M19 (a + 2) = some (fI G 40 (fun j0 => iI (z0 j0))) := (fr21 _ (by omega)).trans hn1
  replace hn2 : M19 (a + 3) = some (fI G 40 (fun j0 => iI (z0 j0))) := (fr21 _ (by omega)).trans hn2
  replace ha : M19 a = some (.inr (8, [.ref (a + 1), .ref (a + 2), .ref (a + 3), .null, .int 0, .int 0])) := (fr21 _ (by omega)).trans ha
  have hn3 : M19 (a + 4) = some (fI G 40 (fun j0 => iI (z0 j0))) := by rw [hM20]; exact fw_up_eq
  refine fw_putF E hK hH (by omega) ha fc_X8 3 (by decide) ql_RX8_21 rfl rfl hnm rfl rfl (Nat.le_of_ble_eq_true rfl) dX8_init_33 (fun H1 locs1 hH hz1 => ?_)
  replace hz := hz1.trans hz; clear hz1
  obtain ⟨M22, hM23⟩ : ∃ MX, MX = fw_up M19 a (.inr (8, [.ref (a + 1), .ref (a + 2), .ref (a + 3), .ref (a + 4), .int 0, .int 0])) := ⟨_, rfl⟩
  replace hH := fw_H.nm hM23 hH
  have fr24 : ∀ q, q ≠ a → M22 q = M19 q := fun q h => by rw [hM23]; exact fw_up_ne h
  replace hn0 : M22 (a + 1) = some (fI G 40 (fun j0 => iI (z0 j0))) := (fr24 _ (by omega)).trans hn0
  replace hn1 : M22 (a + 2) = some (fI G 40 (fun j0 => iI (z0 j0))) := (fr24 _ (by omega)).trans hn1
  replace hn2 : M22 (a + 3) = some (fI G 40 (fun j0 => iI (z0 j0))) := (fr24 _ (by omega)).trans hn2
  replace hn3 : M22 (a + 4) = some (fI G 40 (fun j0 => iI (z0 j0))) := (fr24 _ (by omega)).trans hn3
  have ha : M22 a = some (.inr (8, [.ref (a + 1), .ref (a + 2), .ref (a + 3), .ref (a + 4), .int 0, .int 0])) := by rw [hM23]; exact fw_up_eq
  refine fw_vret E hr hlk hH ?_ dX8_init_36
  exact ⟨⟨hb, ha, hn0, hn1, hn2, hn3⟩, by omega, by intro q hq; rw [fr24 q (by omega), fr21 q (by omega), fr18 q (by omega), fr15 q (by omega), fr12 q (by omega), fr9 q (by omega), fr6 q (by omega), fr3 q (by omega)]⟩
def drAt (G : fw_G) (M : fw_M) (a : Nat) (tl : Nat → Int) (w lk : Int) : Prop := G.2.2.1 ≤ a ∧ M a = some (.inr (1, [.ref (a + 1), .int (iI w), .int (iI lk)])) ∧ M (a + 1) = some (fI G 40 (fun j0 => iI (tl j0)))
theorem drAt.fr {G : fw_G} {M M1 : fw_M} {a : Nat} {tl : Nat → Int} {w lk : Int} (h : drAt G M a tl w lk) (hf : ∀ q, a ≤ q → q < a + 2 → M1 q = M q) : drAt G M1 a tl w lk := by
  obtain ⟨h0, h1, h2⟩ := h
  exact ⟨h0, (hf _ (by omega) (by omega)).trans h1, (hf _ (by omega) (by omega)).trans h2⟩

def rkAt (G : fw_G) (M : fw_M) (a : Nat) (ip rs : Nat → Int) : Prop := G.2.2.1 ≤ a ∧ M a = some (.inr (5, [.ref (a + 1), .ref (a + 2)])) ∧ M (a + 1) = some (fI G 3 (fun j0 => iI (ip j0))) ∧ M (a + 2) = some (fI G 40 (fun j0 => iI (rs j0)))
theorem rkAt.fr {G : fw_G} {M M1 : fw_M} {a : Nat} {ip rs : Nat → Int} (h : rkAt G M a ip rs) (hf : ∀ q, a ≤ q → q < a + 3 → M1 q = M q) : rkAt G M1 a ip rs := by
  obtain ⟨h0, h1, h2, h3⟩ := h
  exact ⟨h0, (hf _ (by omega) (by omega)).trans h1, (hf _ (by omega) (by omega)).trans h2, (hf _ (by omega) (by omega)).trans h3⟩

def jdAt (G : fw_G) (M : fw_M) (a : Nat) (ip rs fi se th du : Nat → Int) (cn wy wt : Int) : Prop := G.2.2.1 ≤ a ∧ M a = some (.inr (3, [.ref (a + 1), .ref (a + 4), .ref (a + 5), .ref (a + 6), .ref (a + 7), .int (iI cn), .int (iI wy), .int (iI wt)])) ∧ rkAt G M (a + 1) ip rs ∧ M (a + 4) = some (fI G 12 (fun j0 => iI (fi j0))) ∧ M (a + 5) = some (fI G 12 (fun j0 => iI (se j0))) ∧ M (a + 6) = some (fI G 12 (fun j0 => iI (th j0))) ∧ M (a + 7) = some (fI G 12 (fun j0 => iI (du j0)))
theorem jdAt.fr {G : fw_G} {M M1 : fw_M} {a : Nat} {ip rs fi se th du : Nat → Int} {cn wy wt : Int} (h : jdAt G M a ip rs fi se th du cn wy wt) (hf : ∀ q, a ≤ q → q < a + 8 → M1 q = M q) : jdAt G M1 a ip rs fi se th du cn wy wt := by
  obtain ⟨h0, h1, h2, h3, h4, h5, h6⟩ := h
  exact ⟨h0, (hf _ (by omega) (by omega)).trans h1, h2.fr (fun q h8 h9 => hf q (by omega) (by omega)), (hf _ (by omega) (by omega)).trans h3, (hf _ (by omega) (by omega)).trans h4, (hf _ (by omega) (by omega)).trans h5, (hf _ (by omega) (by omega)).trans h6⟩

def rnAt (G : fw_G) (M : fw_M) (a : Nat) (me sz od : Nat → Int) : Prop := G.2.2.1 ≤ a ∧ M a = some (.inr (4, [.ref (a + 1), .ref (a + 2), .ref (a + 3)])) ∧ M (a + 1) = some (fI G 16 (fun j0 => iI (me j0))) ∧ M (a + 2) = some (fI G 16 (fun j0 => iI (sz j0))) ∧ M (a + 3) = some (fI G 16 (fun j0 => iI (od j0)))
theorem rnAt.fr {G : fw_G} {M M1 : fw_M} {a : Nat} {me sz od : Nat → Int} (h : rnAt G M a me sz od) (hf : ∀ q, a ≤ q → q < a + 4 → M1 q = M q) : rnAt G M1 a me sz od := by
  obtain ⟨h0, h1, h2, h3, h4⟩ := h
  exact ⟨h0, (hf _ (by omega) (by omega)).trans h1, (hf _ (by omega) (by omega)).trans h2, (hf _ (by omega) (by omega)).trans h3, (hf _ (by omega) (by omega)).trans h4⟩

def brAt (G : fw_G) (M : fw_M) (a : Nat) (me sz od : Nat → Int) (cr ch ho to el : Int) : Prop := G.2.2.1 ≤ a ∧ M a = some (.inr (0, [.ref (a + 1), .int (iI cr), .int (iI ch), .int (iI ho), .int (iI to), .int (iI el)])) ∧ rnAt G M (a + 1) me sz od
theorem brAt.fr {G : fw_G} {M M1 : fw_M} {a : Nat} {me sz od : Nat → Int} {cr ch ho to el : Int} (h : brAt G M a me sz od cr ch ho to el) (hf : ∀ q, a ≤ q → q < a + 5 → M1 q = M q) : brAt G M1 a me sz od cr ch ho to el := by
  obtain ⟨h0, h1, h2⟩ := h
  exact ⟨h0, (hf _ (by omega) (by omega)).trans h1, h2.fr (fun q h8 h9 => hf q (by omega) (by omega))⟩

def siAt (G : fw_G) (M : fw_M) (a : Nat) (ip rs : Nat → Int) : Prop := G.2.2.1 ≤ a ∧ M a = some (.inr (6, [.ref (a + 1)])) ∧ rkAt G M (a + 1) ip rs
theorem siAt.fr {G : fw_G} {M M1 : fw_M} {a : Nat} {ip rs : Nat → Int} (h : siAt G M a ip rs) (hf : ∀ q, a ≤ q → q < a + 4 → M1 q = M q) : siAt G M1 a ip rs := by
  obtain ⟨h0, h1, h2⟩ := h
  exact ⟨h0, (hf _ (by omega) (by omega)).trans h1, h2.fr (fun q h8 h9 => hf q (by omega) (by omega))⟩

def skAt (G : fw_G) (M : fw_M) (a : Nat) (cs vs ss hs : Nat → Int) (n lv : Int) (nd lw : Nat → Int) (ms le : Int) : Prop := G.2.2.1 ≤ a ∧ M a = some (.inr (7, [.ref (a + 1), .ref (a + 6), .ref (a + 7), .int (iI ms), .int (iI le)])) ∧ trAt G M (a + 1) cs vs ss hs n lv ∧ M (a + 6) = some (fI G 40 (fun j0 => iI (nd j0))) ∧ M (a + 7) = some (fI G 40 (fun j0 => iI (lw j0)))
theorem skAt.fr {G : fw_G} {M M1 : fw_M} {a : Nat} {cs vs ss hs : Nat → Int} {n lv : Int} {nd lw : Nat → Int} {ms le : Int} (h : skAt G M a cs vs ss hs n lv nd lw ms le) (hf : ∀ q, a ≤ q → q < a + 8 → M1 q = M q) : skAt G M1 a cs vs ss hs n lv nd lw ms le := by
  obtain ⟨h0, h1, h2, h3, h4⟩ := h
  exact ⟨h0, (hf _ (by omega) (by omega)).trans h1, h2.fr (fun q h8 h9 => hf q (by omega) (by omega)), (hf _ (by omega) (by omega)).trans h3, (hf _ (by omega) (by omega)).trans h4⟩
/-- new DRAWS -/
theorem k_Draws_init (l : Launch) (G : fw_G) (M : fw_M) (N : Nat) (a : Nat) (hb : G.2.2.1 ≤ a) (ha : M a = some (.inr (1, [.null, .int 0, .int 0]))) (hN : N = a + 1) : fMet l yX1_init cX1_init 1 none 1 14 1 40 G M N [.ref a] (fw_pv (fun M1 n1 => drAt G M1 a z0 0 0 ∧ n1 = N + 1 ∧ ∀ q, q < a → M1 q = M q)) := by
  refine fw_met RX1 rfl (by decide +kernel) (Nat.le_of_ble_eq_true rfl) ?_
  intro pG e s m args below meth cG ls E hr hlk hnm hK hH hz hl
  have hz := hz.trans hN
  refine lv_aload_n E.1 E.2.1 dX1_init_0 rfl (lv_at hl 0 rfl) ?_
  refine fw_obj E ql_RX1_3 qi_obj qc_obj hl dX1_init_1 ⟨by decide, by decide⟩ ?_
  refine lv_aload_n E.1 E.2.1 dX1_init_4 rfl (lv_at hl 0 rfl) ?_
  refine lv_bipush (v := iI 40) E.1 E.2.1 dX1_init_5 (by decide) ?_
  refine fw_newI (N := 40) E hK hH hz qa_int (by decide) (by decide) (by decide) ⟨Nat.le_of_ble_eq_true rfl, Nat.le_of_ble_eq_true rfl⟩ dX1_init_7 (fun H1 hH hz1 => ?_)
  replace hz : H1.size = a + 2 := by omega
  clear hz1
  obtain ⟨M1, hM2⟩ : ∃ MX, MX = fw_up M (a + 1) (fI G 40 (fun j0 => iI (z0 j0))) := ⟨_, rfl⟩
  replace hH := fw_H.nm hM2 hH
  have fr3 : ∀ q, q ≠ a + 1 → M1 q = M q := fun q h => by rw [hM2]; exact fw_up_ne h
  replace ha : M1 a = some (.inr (1, [.null, .int 0, .int 0])) := (fr3 _ (by omega)).trans ha
  have hn0 : M1 (a + 1) = some (fI G 40 (fun j0 => iI (z0 j0))) := by rw [hM2]; exact fw_up_eq
  refine fw_putF E hK hH (by omega) ha fc_X1 0 (by decide) ql_RX1_9 rfl rfl hnm rfl rfl (Nat.le_of_ble_eq_true rfl) dX1_init_9 (fun H1 locs1 hH hz1 => ?_)
  replace hz := hz1.trans hz; clear hz1
  obtain ⟨M4, hM5⟩ : ∃ MX, MX = fw_up M1 a (.inr (1, [.ref (a + 1), .int 0, .int 0])) := ⟨_, rfl⟩
  replace hH := fw_H.nm hM5 hH
  have fr6 : ∀ q, q ≠ a → M4 q = M1 q := fun q h => by rw [hM5]; exact fw_up_ne h
  replace hn0 : M4 (a + 1) = some (fI G 40 (fun j0 => iI (z0 j0))) := (fr6 _ (by omega)).trans hn0
  have ha : M4 a = some (.inr (1, [.ref (a + 1), .int 0, .int 0])) := by rw [hM5]; exact fw_up_eq
  refine fw_vret E hr hlk hH ?_ dX1_init_12
  exact ⟨⟨hb, ha, hn0⟩, by omega, by intro q hq; rw [fr6 q (by omega), fr3 q (by omega)]⟩
/-- a new Reckoner -/
theorem k_Reckoner_init (l : Launch) (G : fw_G) (M : fw_M) (N : Nat) (a : Nat) (hb : G.2.2.1 ≤ a) (ha : M a = some (.inr (5, [.null, .null]))) (hN : N = a + 1) : fMet l yX5_init cX5_init 1 none 1 14 2 43 G M N [.ref a] (fw_pv (fun M1 n1 => rkAt G M1 a z0 z0 ∧ n1 = N + 2 ∧ ∀ q, q < a → M1 q = M q)) := by
  refine fw_met RX5 rfl (by decide +kernel) (Nat.le_of_ble_eq_true rfl) ?_
  intro pG e s m args below meth cG ls E hr hlk hnm hK hH hz hl
  have hz := hz.trans hN
  refine lv_aload_n E.1 E.2.1 dX5_init_0 rfl (lv_at hl 0 rfl) ?_
  refine fw_obj E ql_RX5_3 qi_obj qc_obj hl dX5_init_1 ⟨by decide, by decide⟩ ?_
  refine lv_aload_n E.1 E.2.1 dX5_init_4 rfl (lv_at hl 0 rfl) ?_
  refine lv_iconst (v := iI 3) E.1 E.2.1 dX5_init_5 (by decide) ?_
  refine fw_newI (N := 3) E hK hH hz qa_int (by decide) (by decide) (by decide) ⟨Nat.le_of_ble_eq_true rfl, Nat.le_of_ble_eq_true rfl⟩ dX5_init_6 (fun H1 hH hz1 => ?_)
  replace hz : H1.size = a + 2 := by omega
  clear hz1
  obtain ⟨M1, hM2⟩ : ∃ MX, MX = fw_up M (a + 1) (fI G 3 (fun j0 => iI (z0 j0))) := ⟨_, rfl⟩
  replace hH := fw_H.nm hM2 hH
  have fr3 : ∀ q, q ≠ a + 1 → M1 q = M q := fun q h => by rw [hM2]; exact fw_up_ne h
  replace ha : M1 a = some (.inr (5, [.null, .null])) := (fr3 _ (by omega)).trans ha
  have hn0 : M1 (a + 1) = some (fI G 3 (fun j0 => iI (z0 j0))) := by rw [hM2]; exact fw_up_eq
  refine fw_putF E hK hH (by omega) ha fc_X5 0 (by decide) ql_RX5_9 rfl rfl hnm rfl rfl (Nat.le_of_ble_eq_true rfl) dX5_init_8 (fun H1 locs1 hH hz1 => ?_)
  replace hz := hz1.trans hz; clear hz1
  obtain ⟨M4, hM5⟩ : ∃ MX, MX = fw_up M1 a (.inr (5, [.ref (a + 1), .null])) := ⟨_, rfl⟩
  replace hH := fw_H.nm hM5 hH
  have fr6 : ∀ q, q ≠ a → M4 q = M1 q := fun q h => by rw [hM5]; exact fw_up_ne h
  replace hn0 : M4 (a + 1) = some (fI G 3 (fun j0 => iI (z0 j0))) := (fr6 _ (by omega)).trans hn0
  have ha : M4 a = some (.inr (5, [.ref (a + 1), .null])) := by rw [hM5]; exact fw_up_eq
  refine lv_aload_n E.1 E.2.1 dX5_init_11 rfl (lv_at hl 0 rfl) ?_
  refine lv_bipush (v := iI 40) E.1 E.2.1 dX5_init_12 (by decide) ?_
  refine fw_newI (N := 40) E hK hH hz qa_int (by decide) (by decide) (by decide) ⟨Nat.le_of_ble_eq_true rfl, Nat.le_of_ble_eq_true rfl⟩ dX5_init_14 (fun H1 hH hz1 => ?_)
  replace hz : H1.size = a + 3 := by omega
  clear hz1
  obtain ⟨M7, hM8⟩ : ∃ MX, MX = fw_up M4 (a + 2) (fI G 40 (fun j0 => iI (z0 j0))) := ⟨_, rfl⟩
  replace hH := fw_H.nm hM8 hH
  have fr9 : ∀ q, q ≠ a + 2 → M7 q = M4 q := fun q h => by rw [hM8]; exact fw_up_ne h
  replace hn0 : M7 (a + 1) = some (fI G 3 (fun j0 => iI (z0 j0))) := (fr9 _ (by omega)).trans hn0
  replace ha : M7 a = some (.inr (5, [.ref (a + 1), .null])) := (fr9 _ (by omega)).trans ha
  have hn1 : M7 (a + 2) = some (fI G 40 (fun j0 => iI (z0 j0))) := by rw [hM8]; exact fw_up_eq
  refine fw_putF E hK hH (by omega) ha fc_X5 1 (by decide) ql_RX5_15 rfl rfl hnm rfl rfl (Nat.le_of_ble_eq_true rfl) dX5_init_16 (fun H1 locs1 hH hz1 => ?_)
  replace hz := hz1.trans hz; clear hz1
  obtain ⟨M10, hM11⟩ : ∃ MX, MX = fw_up M7 a (.inr (5, [.ref (a + 1), .ref (a + 2)])) := ⟨_, rfl⟩
  replace hH := fw_H.nm hM11 hH
  have fr12 : ∀ q, q ≠ a → M10 q = M7 q := fun q h => by rw [hM11]; exact fw_up_ne h
  replace hn0 : M10 (a + 1) = some (fI G 3 (fun j0 => iI (z0 j0))) := (fr12 _ (by omega)).trans hn0
  replace hn1 : M10 (a + 2) = some (fI G 40 (fun j0 => iI (z0 j0))) := (fr12 _ (by omega)).trans hn1
  have ha : M10 a = some (.inr (5, [.ref (a + 1), .ref (a + 2)])) := by rw [hM11]; exact fw_up_eq
  refine fw_vret E hr hlk hH ?_ dX5_init_19
  exact ⟨⟨hb, ha, hn0, hn1⟩, by omega, by intro q hq; rw [fr12 q (by omega), fr9 q (by omega), fr6 q (by omega), fr3 q (by omega)]⟩
/-- a new Judge -/
theorem k_Judge_init (l : Launch) (G : fw_G) (M : fw_M) (N : Nat) (a : Nat) (hb : G.2.2.1 ≤ a) (ha : M a = some (.inr (3, [.null, .null, .null, .null, .null, .int 0, .int 0, .int 0]))) (hN : N = a + 1) : fMet l yX3_init cX3_init 1 none 2 40 7 93 G M N [.ref a] (fw_pv (fun M1 n1 => jdAt G M1 a z0 z0 z0 z0 z0 z0 0 0 1 ∧ n1 = N + 7 ∧ ∀ q, q < a → M1 q = M q)) := by
  refine fw_met RX3 rfl (by decide +kernel) (Nat.le_of_ble_eq_true rfl) ?_
  intro pG e s m args below meth cG ls E hr hlk hnm hK hH hz hl
  have hz := hz.trans hN
  refine lv_aload_n E.1 E.2.1 dX3_init_0 rfl (lv_at hl 0 rfl) ?_
  refine fw_obj E ql_RX3_3 qi_obj qc_obj hl dX3_init_1 ⟨by decide, by decide⟩ ?_
  refine lv_aload_n E.1 E.2.1 dX3_init_4 rfl (lv_at hl 0 rfl) ?_
  refine fw_new (fs := [.null, .null]) E hK hH hz fc_X5 ql_RX3_9 qt_RX5 qn_RX5 (fun j hj => by rcases (show j = 0 ∨ j = 1 by omega) with rfl | rfl <;> rfl) ⟨Nat.le_of_ble_eq_true rfl, Nat.le_of_ble_eq_true rfl⟩ dX3_init_5 (fun H1 hH hz1 => ?_)
  replace hz : H1.size = a + 2 := by omega
  clear hz1
  obtain ⟨M1, hM2⟩ : ∃ MX, MX = fw_up M (a + 1) (.inr (5, [.null, .null])) := ⟨_, rfl⟩
  replace hH := fw_H.nm hM2 hH
  have fr3 : ∀ q, q ≠ a + 1 → M1 q = M q := fun q h => by rw [hM2]; exact fw_up_ne h
  replace ha : M1 a = some (.inr (3, [.null, .null, .null, .null, .null, .int 0, .int 0, .int 0])) := (fr3 _ (by omega)).trans ha
  have hn0 : M1 (a + 1) = some (.inr (5, [.null, .null])) := by rw [hM2]; exact fw_up_eq
  refine lv_dup E.1 E.2.1 dX3_init_8 rfl ?_
  refine fw_cIN (As := []) (rest := [.ref (a + 1), .ref a]) E hK hH hl fL_X5_init rfl ql_RX3_11 qi_yX5_init (k_Reckoner_init l G _ _ (a + 1) (by omega) hn0 (by omega)) rfl rfl (Nat.le_of_ble_eq_true rfl) ⟨Nat.le_of_ble_eq_true rfl, Nat.le_of_ble_eq_true rfl⟩ ⟨Nat.le_of_ble_eq_true rfl, Nat.le_of_ble_eq_true rfl⟩ dX3_init_9 (fw_kv fun M5 H1 locs1 hp4 hH hz1 => ?_)
  obtain ⟨hrkAt2, hz2, hfr⟩ := hp4
  replace hz : H1.size = a + 4 := by omega
  clear hz1 hz2
  have fr6 := hfr
  replace ha : M5 a = some (.inr (3, [.null, .null, .null, .null, .null, .int 0, .int 0, .int 0])) := (fr6 _ (by omega)).trans ha
  refine fw_putF E hK hH (by omega) ha fc_X3 0 (by decide) ql_RX3_12 rfl rfl hnm rfl rfl (Nat.le_of_ble_eq_true rfl) dX3_init_12 (fun H1 locs1 hH hz1 => ?_)
  replace hz := hz1.trans hz; clear hz1
  obtain ⟨M7, hM8⟩ : ∃ MX, MX = fw_up M5 a (.inr (3, [.ref (a + 1), .null, .null, .null, .null, .int 0, .int 0, .int 0])) := ⟨_, rfl⟩
  replace hH := fw_H.nm hM8 hH
  have fr9 : ∀ q, q ≠ a → M7 q = M5 q := fun q h => by rw [hM8]; exact fw_up_ne h
  replace hrkAt2 := rkAt.fr hrkAt2 (fun q h1 h2 => fr9 q (by omega))
  have ha : M7 a = some (.inr (3, [.ref (a + 1), .null, .null, .null, .null, .int 0, .int 0, .int 0])) := by rw [hM8]; exact fw_up_eq
  refine lv_aload_n E.1 E.2.1 dX3_init_15 rfl (lv_at hl 0 rfl) ?_
  refine lv_bipush (v := iI 12) E.1 E.2.1 dX3_init_16 (by decide) ?_
  refine fw_newI (N := 12) E hK hH hz qa_int (by decide) (by decide) (by decide) ⟨Nat.le_of_ble_eq_true rfl, Nat.le_of_ble_eq_true rfl⟩ dX3_init_18 (fun H1 hH hz1 => ?_)
  replace hz : H1.size = a + 5 := by omega
  clear hz1
  obtain ⟨M10, hM11⟩ : ∃ MX, MX = fw_up M7 (a + 4) (fI G 12 (fun j0 => iI (z0 j0))) := ⟨_, rfl⟩
  replace hH := fw_H.nm hM11 hH
  have fr12 : ∀ q, q ≠ a + 4 → M10 q = M7 q := fun q h => by rw [hM11]; exact fw_up_ne h
  replace hrkAt2 := rkAt.fr hrkAt2 (fun q h1 h2 => fr12 q (by omega))
  replace ha : M10 a = some (.inr (3, [.ref (a + 1), .null, .null, .null, .null, .int 0, .int 0, .int 0])) := (fr12 _ (by omega)).trans ha
  have hn2 : M10 (a + 4) = some (fI G 12 (fun j0 => iI (z0 j0))) := by rw [hM11]; exact fw_up_eq
  refine fw_putF E hK hH (by omega) ha fc_X3 1 (by decide) ql_RX3_18 rfl rfl hnm rfl rfl (Nat.le_of_ble_eq_true rfl) dX3_init_20 (fun H1 locs1 hH hz1 => ?_)
  replace hz := hz1.trans hz; clear hz1
  obtain ⟨M13, hM14⟩ : ∃ MX, MX = fw_up M10 a (.inr (3, [.ref (a + 1), .ref (a + 4), .null, .null, .null, .int 0, .int 0, .int 0])) := ⟨_, rfl⟩
  replace hH := fw_H.nm hM14 hH
  have fr15 : ∀ q, q ≠ a → M13 q = M10 q := fun q h => by rw [hM14]; exact fw_up_ne h
  replace hrkAt2 := rkAt.fr hrkAt2 (fun q h1 h2 => fr15 q (by omega))
  replace hn2 : M13 (a + 4) = some (fI G 12 (fun j0 => iI (z0 j0))) := (fr15 _ (by omega)).trans hn2
  have ha : M13 a = some (.inr (3, [.ref (a + 1), .ref (a + 4), .null, .null, .null, .int 0, .int 0, .int 0])) := by rw [hM14]; exact fw_up_eq
  refine lv_aload_n E.1 E.2.1 dX3_init_23 rfl (lv_at hl 0 rfl) ?_
  refine lv_bipush (v := iI 12) E.1 E.2.1 dX3_init_24 (by decide) ?_
  refine fw_newI (N := 12) E hK hH hz qa_int (by decide) (by decide) (by decide) ⟨Nat.le_of_ble_eq_true rfl, Nat.le_of_ble_eq_true rfl⟩ dX3_init_26 (fun H1 hH hz1 => ?_)
  replace hz : H1.size = a + 6 := by omega
  clear hz1
  obtain ⟨M16, hM17⟩ : ∃ MX, MX = fw_up M13 (a + 5) (fI G 12 (fun j0 => iI (z0 j0))) := ⟨_, rfl⟩
  replace hH := fw_H.nm hM17 hH
  have fr18 : ∀ q, q ≠ a + 5 → M16 q = M13 q := fun q h => by rw [hM17]; exact fw_up_ne h
  replace hrkAt2 := rkAt.fr hrkAt2 (fun q h1 h2 => fr18 q (by omega))
  replace hn2 : M16 (a + 4) = some (fI G 12 (fun j0 => iI (z0 j0))) := (fr18 _ (by omega)).trans hn2
  replace ha : M16 a = some (.inr (3, [.ref (a + 1), .ref (a + 4), .null, .null, .null, .int 0, .int 0, .int 0])) := (fr18 _ (by omega)).trans ha
  have hn3 : M16 (a + 5) = some (fI G 12 (fun j0 => iI (z0 j0))) := by rw [hM17]; exact fw_up_eq
  refine fw_putF E hK hH (by omega) ha fc_X3 2 (by decide) ql_RX3_22 rfl rfl hnm rfl rfl (Nat.le_of_ble_eq_true rfl) dX3_init_28 (fun H1 locs1 hH hz1 => ?_)
  replace hz := hz1.trans hz; clear hz1
  obtain ⟨M19, hM20⟩ : ∃ MX, MX = fw_up M16 a (.inr (3, [.ref (a + 1), .ref (a + 4), .ref (a + 5), .null, .null, .int 0, .int 0, .int 0])) := ⟨_, rfl⟩
  replace hH := fw_H.nm hM20 hH
  have fr21 : ∀ q, q ≠ a → M19 q = M16 q := fun q h => by rw [hM20]; exact fw_up_ne h
  replace hrkAt2 := rkAt.fr hrkAt2 (fun q h1 h2 => fr21 q (by omega))
  replace hn2 : M19 (a + 4) = some (fI G 12 (fun j0 => iI (z0 j0))) := (fr21 _ (by omega)).trans hn2
  replace hn3 : M19 (a + 5) = some (fI G 12 (fun j0 => iI (z0 j0))) := (fr21 _ (by omega)).trans hn3
  have ha : M19 a = some (.inr (3, [.ref (a + 1), .ref (a + 4), .ref (a + 5), .null, .null, .int 0, .int 0, .int 0])) := by rw [hM20]; exact fw_up_eq
  refine lv_aload_n E.1 E.2.1 dX3_init_31 rfl (lv_at hl 0 rfl) ?_
  refine lv_bipush (v := iI 12) E.1 E.2.1 dX3_init_32 (by decide) ?_
  refine fw_newI (N := 12) E hK hH hz qa_int (by decide) (by decide) (by decide) ⟨Nat.le_of_ble_eq_true rfl, Nat.le_of_ble_eq_true rfl⟩ dX3_init_34 (fun H1 hH hz1 => ?_)
  replace hz : H1.size = a + 7 := by omega
  clear hz1
  obtain ⟨M22, hM23⟩ : ∃ MX, MX = fw_up M19 (a + 6) (fI G 12 (fun j0 => iI (z0 j0))) := ⟨_, rfl⟩
  replace hH := fw_H.nm hM23 hH
  have fr24 : ∀ q, q ≠ a + 6 → M22 q = M19 q := fun q h => by rw [hM23]; exact fw_up_ne h
  replace hrkAt2 := rkAt.fr hrkAt2 (fun q h1 h2 => fr24 q (by omega))
  replace hn2 : M22 (a + 4) = some (fI G 12 (fun j0 => iI (z0 j0))) := (fr24 _ (by omega)).trans hn2
  replace hn3 : M22 (a + 5) = some (fI G 12 (fun j0 => iI (z0 j0))) := (fr24 _ (by omega)).trans hn3
  replace ha : M22 a = some (.inr (3, [.ref (a + 1), .ref (a + 4), .ref (a + 5), .null, .null, .int 0, .int 0, .int 0])) := (fr24 _ (by omega)).trans ha
  have hn4 : M22 (a + 6) = some (fI G 12 (fun j0 => iI (z0 j0))) := by rw [hM23]; exact fw_up_eq
  refine fw_putF E hK hH (by omega) ha fc_X3 3 (by decide) ql_RX3_25 rfl rfl hnm rfl rfl (Nat.le_of_ble_eq_true rfl) dX3_init_36 (fun H1 locs1 hH hz1 => ?_)
  replace hz := hz1.trans hz; clear hz1
  obtain ⟨M25, hM26⟩ : ∃ MX, MX = fw_up M22 a (.inr (3, [.ref (a + 1), .ref (a + 4), .ref (a + 5), .ref (a + 6), .null, .int 0, .int 0, .int 0])) := ⟨_, rfl⟩
  replace hH := fw_H.nm hM26 hH
  have fr27 : ∀ q, q ≠ a → M25 q = M22 q := fun q h => by rw [hM26]; exact fw_up_ne h
  replace hrkAt2 := rkAt.fr hrkAt2 (fun q h1 h2 => fr27 q (by omega))
  replace hn2 : M25 (a + 4) = some (fI G 12 (fun j0 => iI (z0 j0))) := (fr27 _ (by omega)).trans hn2
  replace hn3 : M25 (a + 5) = some (fI G 12 (fun j0 => iI (z0 j0))) := (fr27 _ (by omega)).trans hn3
  replace hn4 : M25 (a + 6) = some (fI G 12 (fun j0 => iI (z0 j0))) := (fr27 _ (by omega)).trans hn4
  have ha : M25 a = some (.inr (3, [.ref (a + 1), .ref (a + 4), .ref (a + 5), .ref (a + 6), .null, .int 0, .int 0, .int 0])) := by rw [hM26]; exact fw_up_eq
  refine lv_aload_n E.1 E.2.1 dX3_init_39 rfl (lv_at hl 0 rfl) ?_
  refine lv_bipush (v := iI 12) E.1 E.2.1 dX3_init_40 (by decide) ?_
  refine fw_newI (N := 12) E hK hH hz qa_int (by decide) (by decide) (by decide) ⟨Nat.le_of_ble_eq_true rfl, Nat.le_of_ble_eq_true rfl⟩ dX3_init_42 (fun H1 hH hz1 => ?_)
  replace hz : H1.size = a + 8 := by omega
  clear hz1
  obtain ⟨M28, hM29⟩ : ∃ MX, MX = fw_up M25 (a + 7) (fI G 12 (fun j0 => iI (z0 j0))) := ⟨_, rfl⟩
  replace hH := fw_H.nm hM29 hH
  have fr30 : ∀ q, q ≠ a + 7 → M28 q = M25 q := fun q h => by rw [hM29]; exact fw_up_ne h
  replace hrkAt2 := rkAt.fr hrkAt2 (fun q h1 h2 => fr30 q (by omega))
  replace hn2 : M28 (a + 4) = some (fI G 12 (fun j0 => iI (z0 j0))) := (fr30 _ (by omega)).trans hn2
  replace hn3 : M28 (a + 5) = some (fI G 12 (fun j0 => iI (z0 j0))) := (fr30 _ (by omega)).trans hn3
  replace hn4 : M28 (a + 6) = some (fI G 12 (fun j0 => iI (z0 j0))) := (fr30 _ (by omega)).trans hn4
  replace ha : M28 a = some (.inr (3, [.ref (a + 1), .ref (a + 4), .ref (a + 5), .ref (a + 6), .null, .int 0, .int 0, .int 0])) := (fr30 _ (by omega)).trans ha
  have hn5 : M28 (a + 7) = some (fI G 12 (fun j0 => iI (z0 j0))) := by rw [hM29]; exact fw_up_eq
  refine fw_putF E hK hH (by omega) ha fc_X3 4 (by decide) ql_RX3_28 rfl rfl hnm rfl rfl (Nat.le_of_ble_eq_true rfl) dX3_init_44 (fun H1 locs1 hH hz1 => ?_)
  replace hz := hz1.trans hz; clear hz1
  obtain ⟨M31, hM32⟩ : ∃ MX, MX = fw_up M28 a (.inr (3, [.ref (a + 1), .ref (a + 4), .ref (a + 5), .ref (a + 6), .ref (a + 7), .int 0, .int 0, .int 0])) := ⟨_, rfl⟩
  replace hH := fw_H.nm hM32 hH
  have fr33 : ∀ q, q ≠ a → M31 q = M28 q := fun q h => by rw [hM32]; exact fw_up_ne h
  replace hrkAt2 := rkAt.fr hrkAt2 (fun q h1 h2 => fr33 q (by omega))
  replace hn2 : M31 (a + 4) = some (fI G 12 (fun j0 => iI (z0 j0))) := (fr33 _ (by omega)).trans hn2
  replace hn3 : M31 (a + 5) = some (fI G 12 (fun j0 => iI (z0 j0))) := (fr33 _ (by omega)).trans hn3
  replace hn4 : M31 (a + 6) = some (fI G 12 (fun j0 => iI (z0 j0))) := (fr33 _ (by omega)).trans hn4
  replace hn5 : M31 (a + 7) = some (fI G 12 (fun j0 => iI (z0 j0))) := (fr33 _ (by omega)).trans hn5
  have ha : M31 a = some (.inr (3, [.ref (a + 1), .ref (a + 4), .ref (a + 5), .ref (a + 6), .ref (a + 7), .int 0, .int 0, .int 0])) := by rw [hM32]; exact fw_up_eq
  refine lv_aload_n E.1 E.2.1 dX3_init_47 rfl (lv_at hl 0 rfl) ?_
  refine lv_iconst (v := iI 1) E.1 E.2.1 dX3_init_48 (by decide) ?_
  refine fw_put E hK hH (by omega) ha fc_X3 7 (by decide) ql_RX3_31 rfl rfl rfl rfl (Nat.le_of_ble_eq_true rfl) dX3_init_49 (fun H1 locs1 hH hz1 => ?_)
  replace hz := hz1.trans hz; clear hz1
  obtain ⟨M34, hM35⟩ : ∃ MX, MX = fw_up M31 a (.inr (3, [.ref (a + 1), .ref (a + 4), .ref (a + 5), .ref (a + 6), .ref (a + 7), .int 0, .int 0, .int (iI 1)])) := ⟨_, rfl⟩
  replace hH := fw_H.nm hM35 hH
  have fr36 : ∀ q, q ≠ a → M34 q = M31 q := fun q h => by rw [hM35]; exact fw_up_ne h
  replace hrkAt2 := rkAt.fr hrkAt2 (fun q h1 h2 => fr36 q (by omega))
  replace hn2 : M34 (a + 4) = some (fI G 12 (fun j0 => iI (z0 j0))) := (fr36 _ (by omega)).trans hn2
  replace hn3 : M34 (a + 5) = some (fI G 12 (fun j0 => iI (z0 j0))) := (fr36 _ (by omega)).trans hn3
  replace hn4 : M34 (a + 6) = some (fI G 12 (fun j0 => iI (z0 j0))) := (fr36 _ (by omega)).trans hn4
  replace hn5 : M34 (a + 7) = some (fI G 12 (fun j0 => iI (z0 j0))) := (fr36 _ (by omega)).trans hn5
  have ha : M34 a = some (.inr (3, [.ref (a + 1), .ref (a + 4), .ref (a + 5), .ref (a + 6), .ref (a + 7), .int 0, .int 0, .int (iI 1)])) := by rw [hM35]; exact fw_up_eq
  refine fw_vret E hr hlk hH ?_ dX3_init_52
  exact ⟨⟨hb, ha, hrkAt2, hn2, hn3, hn4, hn5⟩, by omega, by intro q hq; rw [fr36 q (by omega), fr33 q (by omega), fr30 q (by omega), fr27 q (by omega), fr24 q (by omega), fr21 q (by omega), fr18 q (by omega), fr15 q (by omega), fr12 q (by omega), fr9 q (by omega), fr6 q (by omega), fr3 q (by omega)]⟩
/-- a new Ranking -/
theorem k_Ranking_init (l : Launch) (G : fw_G) (M : fw_M) (N : Nat) (a : Nat) (hb : G.2.2.1 ≤ a) (ha : M a = some (.inr (4, [.null, .null, .null]))) (hN : N = a + 1) : fMet l yX4_init cX4_init 1 none 1 14 3 48 G M N [.ref a] (fw_pv (fun M1 n1 => rnAt G M1 a z0 z0 z0 ∧ n1 = N + 3 ∧ ∀ q, q < a → M1 q = M q)) := by
  refine fw_met RX4 rfl (by decide +kernel) (Nat.le_of_ble_eq_true rfl) ?_
  intro pG e s m args below meth cG ls E hr hlk hnm hK hH hz hl
  have hz := hz.trans hN
  refine lv_aload_n E.1 E.2.1 dX4_init_0 rfl (lv_at hl 0 rfl) ?_
  refine fw_obj E ql_RX4_3 qi_obj qc_obj hl dX4_init_1 ⟨by decide, by decide⟩ ?_
  refine lv_aload_n E.1 E.2.1 dX4_init_4 rfl (lv_at hl 0 rfl) ?_
  refine lv_bipush (v := iI 16) E.1 E.2.1 dX4_init_5 (by decide) ?_
  refine fw_newI (N := 16) E hK hH hz qa_int (by decide) (by decide) (by decide) ⟨Nat.le_of_ble_eq_true rfl, Nat.le_of_ble_eq_true rfl⟩ dX4_init_7 (fun H1 hH hz1 => ?_)
  replace hz : H1.size = a + 2 := by omega
  clear hz1
  obtain ⟨M1, hM2⟩ : ∃ MX, MX = fw_up M (a + 1) (fI G 16 (fun j0 => iI (z0 j0))) := ⟨_, rfl⟩
  replace hH := fw_H.nm hM2 hH
  have fr3 : ∀ q, q ≠ a + 1 → M1 q = M q := fun q h => by rw [hM2]; exact fw_up_ne h
  replace ha : M1 a = some (.inr (4, [.null, .null, .null])) := (fr3 _ (by omega)).trans ha
  have hn0 : M1 (a + 1) = some (fI G 16 (fun j0 => iI (z0 j0))) := by rw [hM2]; exact fw_up_eq
  refine fw_putF E hK hH (by omega) ha fc_X4 0 (by decide) ql_RX4_9 rfl rfl hnm rfl rfl (Nat.le_of_ble_eq_true rfl) dX4_init_9 (fun H1 locs1 hH hz1 => ?_)
  replace hz := hz1.trans hz; clear hz1
  obtain ⟨M4, hM5⟩ : ∃ MX, MX = fw_up M1 a (.inr (4, [.ref (a + 1), .null, .null])) := ⟨_, rfl⟩
  replace hH := fw_H.nm hM5 hH
  have fr6 : ∀ q, q ≠ a → M4 q = M1 q := fun q h => by rw [hM5]; exact fw_up_ne h
  replace hn0 : M4 (a + 1) = some (fI G 16 (fun j0 => iI (z0 j0))) := (fr6 _ (by omega)).trans hn0
  have ha : M4 a = some (.inr (4, [.ref (a + 1), .null, .null])) := by rw [hM5]; exact fw_up_eq
  refine lv_aload_n E.1 E.2.1 dX4_init_12 rfl (lv_at hl 0 rfl) ?_
  refine lv_bipush (v := iI 16) E.1 E.2.1 dX4_init_13 (by decide) ?_
  refine fw_newI (N := 16) E hK hH hz qa_int (by decide) (by decide) (by decide) ⟨Nat.le_of_ble_eq_true rfl, Nat.le_of_ble_eq_true rfl⟩ dX4_init_15 (fun H1 hH hz1 => ?_)
  replace hz : H1.size = a + 3 := by omega
  clear hz1
  obtain ⟨M7, hM8⟩ : ∃ MX, MX = fw_up M4 (a + 2) (fI G 16 (fun j0 => iI (z0 j0))) := ⟨_, rfl⟩
  replace hH := fw_H.nm hM8 hH
  have fr9 : ∀ q, q ≠ a + 2 → M7 q = M4 q := fun q h => by rw [hM8]; exact fw_up_ne h
  replace hn0 : M7 (a + 1) = some (fI G 16 (fun j0 => iI (z0 j0))) := (fr9 _ (by omega)).trans hn0
  replace ha : M7 a = some (.inr (4, [.ref (a + 1), .null, .null])) := (fr9 _ (by omega)).trans ha
  have hn1 : M7 (a + 2) = some (fI G 16 (fun j0 => iI (z0 j0))) := by rw [hM8]; exact fw_up_eq
  refine fw_putF E hK hH (by omega) ha fc_X4 1 (by decide) ql_RX4_15 rfl rfl hnm rfl rfl (Nat.le_of_ble_eq_true rfl) dX4_init_17 (fun H1 locs1 hH hz1 => ?_)
  replace hz := hz1.trans hz; clear hz1
  obtain ⟨M10, hM11⟩ : ∃ MX, MX = fw_up M7 a (.inr (4, [.ref (a + 1), .ref (a + 2), .null])) := ⟨_, rfl⟩
  replace hH := fw_H.nm hM11 hH
  have fr12 : ∀ q, q ≠ a → M10 q = M7 q := fun q h => by rw [hM11]; exact fw_up_ne h
  replace hn0 : M10 (a + 1) = some (fI G 16 (fun j0 => iI (z0 j0))) := (fr12 _ (by omega)).trans hn0
  replace hn1 : M10 (a + 2) = some (fI G 16 (fun j0 => iI (z0 j0))) := (fr12 _ (by omega)).trans hn1
  have ha : M10 a = some (.inr (4, [.ref (a + 1), .ref (a + 2), .null])) := by rw [hM11]; exact fw_up_eq
  refine lv_aload_n E.1 E.2.1 dX4_init_20 rfl (lv_at hl 0 rfl) ?_
  refine lv_bipush (v := iI 16) E.1 E.2.1 dX4_init_21 (by decide) ?_
  refine fw_newI (N := 16) E hK hH hz qa_int (by decide) (by decide) (by decide) ⟨Nat.le_of_ble_eq_true rfl, Nat.le_of_ble_eq_true rfl⟩ dX4_init_23 (fun H1 hH hz1 => ?_)
  replace hz : H1.size = a + 4 := by omega
  clear hz1
  obtain ⟨M13, hM14⟩ : ∃ MX, MX = fw_up M10 (a + 3) (fI G 16 (fun j0 => iI (z0 j0))) := ⟨_, rfl⟩
  replace hH := fw_H.nm hM14 hH
  have fr15 : ∀ q, q ≠ a + 3 → M13 q = M10 q := fun q h => by rw [hM14]; exact fw_up_ne h
  replace hn0 : M13 (a + 1) = some (fI G 16 (fun j0 => iI (z0 j0))) := (fr15 _ (by omega)).trans hn0
  replace hn1 : M13 (a + 2) = some (fI G 16 (fun j0 => iI (z0 j0))) := (fr15 _ (by omega)).trans hn1
  replace ha : M13 a = some (.inr (4, [.ref (a + 1), .ref (a + 2), .null])) := (fr15 _ (by omega)).trans ha
  have hn2 : M13 (a + 3) = some (fI G 16 (fun j0 => iI (z0 j0))) := by rw [hM14]; exact fw_up_eq
  refine fw_putF E hK hH (by omega) ha fc_X4 2 (by decide) ql_RX4_18 rfl rfl hnm rfl rfl (Nat.le_of_ble_eq_true rfl) dX4_init_25 (fun H1 locs1 hH hz1 => ?_)
  replace hz := hz1.trans hz; clear hz1
  obtain ⟨M16, hM17⟩ : ∃ MX, MX = fw_up M13 a (.inr (4, [.ref (a + 1), .ref (a + 2), .ref (a + 3)])) := ⟨_, rfl⟩
  replace hH := fw_H.nm hM17 hH
  have fr18 : ∀ q, q ≠ a → M16 q = M13 q := fun q h => by rw [hM17]; exact fw_up_ne h
  replace hn0 : M16 (a + 1) = some (fI G 16 (fun j0 => iI (z0 j0))) := (fr18 _ (by omega)).trans hn0
  replace hn1 : M16 (a + 2) = some (fI G 16 (fun j0 => iI (z0 j0))) := (fr18 _ (by omega)).trans hn1
  replace hn2 : M16 (a + 3) = some (fI G 16 (fun j0 => iI (z0 j0))) := (fr18 _ (by omega)).trans hn2
  have ha : M16 a = some (.inr (4, [.ref (a + 1), .ref (a + 2), .ref (a + 3)])) := by rw [hM17]; exact fw_up_eq
  refine fw_vret E hr hlk hH ?_ dX4_init_28
  exact ⟨⟨hb, ha, hn0, hn1, hn2⟩, by omega, by intro q hq; rw [fr18 q (by omega), fr15 q (by omega), fr12 q (by omega), fr9 q (by omega), fr6 q (by omega), fr3 q (by omega)]⟩
/-- a new Breeder -/
theorem k_Breeder_init (l : Launch) (G : fw_G) (M : fw_M) (N : Nat) (a : Nat) (hb : G.2.2.1 ≤ a) (ha : M a = some (.inr (0, [.null, .int 0, .int 0, .int 0, .int 0, .int 0]))) (hN : N = a + 1) : fMet l yX0_init cX0_init 1 none 2 40 4 51 G M N [.ref a] (fw_pv (fun M1 n1 => brAt G M1 a z0 z0 z0 70 20 5 2 1 ∧ n1 = N + 4 ∧ ∀ q, q < a → M1 q = M q)) := by
  refine fw_met RX0 rfl (by decide +kernel) (Nat.le_of_ble_eq_true rfl) ?_
  intro pG e s m args below meth cG ls E hr hlk hnm hK hH hz hl
  have hz := hz.trans hN
  refine lv_aload_n E.1 E.2.1 dX0_init_0 rfl (lv_at hl 0 rfl) ?_
  refine fw_obj E ql_RX0_3 qi_obj qc_obj hl dX0_init_1 ⟨by decide, by decide⟩ ?_
  refine lv_aload_n E.1 E.2.1 dX0_init_4 rfl (lv_at hl 0 rfl) ?_
  refine fw_new (fs := [.null, .null, .null]) E hK hH hz fc_X4 ql_RX0_9 qt_RX4 qn_RX4 (fun j hj => by rcases (show j = 0 ∨ j = 1 ∨ j = 2 by omega) with rfl | rfl | rfl <;> rfl) ⟨Nat.le_of_ble_eq_true rfl, Nat.le_of_ble_eq_true rfl⟩ dX0_init_5 (fun H1 hH hz1 => ?_)
  replace hz : H1.size = a + 2 := by omega
  clear hz1
  obtain ⟨M1, hM2⟩ : ∃ MX, MX = fw_up M (a + 1) (.inr (4, [.null, .null, .null])) := ⟨_, rfl⟩
  replace hH := fw_H.nm hM2 hH
  have fr3 : ∀ q, q ≠ a + 1 → M1 q = M q := fun q h => by rw [hM2]; exact fw_up_ne h
  replace ha : M1 a = some (.inr (0, [.null, .int 0, .int 0, .int 0, .int 0, .int 0])) := (fr3 _ (by omega)).trans ha
  have hn0 : M1 (a + 1) = some (.inr (4, [.null, .null, .null])) := by rw [hM2]; exact fw_up_eq
  refine lv_dup E.1 E.2.1 dX0_init_8 rfl ?_
  refine fw_cIN (As := []) (rest := [.ref (a + 1), .ref a]) E hK hH hl fL_X4_init rfl ql_RX0_11 qi_yX4_init (k_Ranking_init l G _ _ (a + 1) (by omega) hn0 (by omega)) rfl rfl (Nat.le_of_ble_eq_true rfl) ⟨Nat.le_of_ble_eq_true rfl, Nat.le_of_ble_eq_true rfl⟩ ⟨Nat.le_of_ble_eq_true rfl, Nat.le_of_ble_eq_true rfl⟩ dX0_init_9 (fw_kv fun M5 H1 locs1 hp4 hH hz1 => ?_)
  obtain ⟨hrnAt2, hz2, hfr⟩ := hp4
  replace hz : H1.size = a + 5 := by omega
  clear hz1 hz2
  have fr6 := hfr
  replace ha : M5 a = some (.inr (0, [.null, .int 0, .int 0, .int 0, .int 0, .int 0])) := (fr6 _ (by omega)).trans ha
  refine fw_putF E hK hH (by omega) ha fc_X0 0 (by decide) ql_RX0_12 rfl rfl hnm rfl rfl (Nat.le_of_ble_eq_true rfl) dX0_init_12 (fun H1 locs1 hH hz1 => ?_)
  replace hz := hz1.trans hz; clear hz1
  obtain ⟨M7, hM8⟩ : ∃ MX, MX = fw_up M5 a (.inr (0, [.ref (a + 1), .int 0, .int 0, .int 0, .int 0, .int 0])) := ⟨_, rfl⟩
  replace hH := fw_H.nm hM8 hH
  have fr9 : ∀ q, q ≠ a → M7 q = M5 q := fun q h => by rw [hM8]; exact fw_up_ne h
  replace hrnAt2 := rnAt.fr hrnAt2 (fun q h1 h2 => fr9 q (by omega))
  have ha : M7 a = some (.inr (0, [.ref (a + 1), .int 0, .int 0, .int 0, .int 0, .int 0])) := by rw [hM8]; exact fw_up_eq
  refine lv_aload_n E.1 E.2.1 dX0_init_15 rfl (lv_at hl 0 rfl) ?_
  refine lv_bipush (v := iI 70) E.1 E.2.1 dX0_init_16 (by decide) ?_
  refine fw_put E hK hH (by omega) ha fc_X0 1 (by decide) ql_RX0_18 rfl rfl rfl rfl (Nat.le_of_ble_eq_true rfl) dX0_init_18 (fun H1 locs1 hH hz1 => ?_)
  replace hz := hz1.trans hz; clear hz1
  obtain ⟨M10, hM11⟩ : ∃ MX, MX = fw_up M7 a (.inr (0, [.ref (a + 1), .int (iI 70), .int 0, .int 0, .int 0, .int 0])) := ⟨_, rfl⟩
  replace hH := fw_H.nm hM11 hH
  have fr12 : ∀ q, q ≠ a → M10 q = M7 q := fun q h => by rw [hM11]; exact fw_up_ne h
  replace hrnAt2 := rnAt.fr hrnAt2 (fun q h1 h2 => fr12 q (by omega))
  have ha : M10 a = some (.inr (0, [.ref (a + 1), .int (iI 70), .int 0, .int 0, .int 0, .int 0])) := by rw [hM11]; exact fw_up_eq
  refine lv_aload_n E.1 E.2.1 dX0_init_21 rfl (lv_at hl 0 rfl) ?_
  refine lv_bipush (v := iI 20) E.1 E.2.1 dX0_init_22 (by decide) ?_
  refine fw_put E hK hH (by omega) ha fc_X0 2 (by decide) ql_RX0_22 rfl rfl rfl rfl (Nat.le_of_ble_eq_true rfl) dX0_init_24 (fun H1 locs1 hH hz1 => ?_)
  replace hz := hz1.trans hz; clear hz1
  obtain ⟨M13, hM14⟩ : ∃ MX, MX = fw_up M10 a (.inr (0, [.ref (a + 1), .int (iI 70), .int (iI 20), .int 0, .int 0, .int 0])) := ⟨_, rfl⟩
  replace hH := fw_H.nm hM14 hH
  have fr15 : ∀ q, q ≠ a → M13 q = M10 q := fun q h => by rw [hM14]; exact fw_up_ne h
  replace hrnAt2 := rnAt.fr hrnAt2 (fun q h1 h2 => fr15 q (by omega))
  have ha : M13 a = some (.inr (0, [.ref (a + 1), .int (iI 70), .int (iI 20), .int 0, .int 0, .int 0])) := by rw [hM14]; exact fw_up_eq
  refine lv_aload_n E.1 E.2.1 dX0_init_27 rfl (lv_at hl 0 rfl) ?_
  refine lv_iconst (v := iI 5) E.1 E.2.1 dX0_init_28 (by decide) ?_
  refine fw_put E hK hH (by omega) ha fc_X0 3 (by decide) ql_RX0_25 rfl rfl rfl rfl (Nat.le_of_ble_eq_true rfl) dX0_init_29 (fun H1 locs1 hH hz1 => ?_)
  replace hz := hz1.trans hz; clear hz1
  obtain ⟨M16, hM17⟩ : ∃ MX, MX = fw_up M13 a (.inr (0, [.ref (a + 1), .int (iI 70), .int (iI 20), .int (iI 5), .int 0, .int 0])) := ⟨_, rfl⟩
  replace hH := fw_H.nm hM17 hH
  have fr18 : ∀ q, q ≠ a → M16 q = M13 q := fun q h => by rw [hM17]; exact fw_up_ne h
  replace hrnAt2 := rnAt.fr hrnAt2 (fun q h1 h2 => fr18 q (by omega))
  have ha : M16 a = some (.inr (0, [.ref (a + 1), .int (iI 70), .int (iI 20), .int (iI 5), .int 0, .int 0])) := by rw [hM17]; exact fw_up_eq
  refine lv_aload_n E.1 E.2.1 dX0_init_32 rfl (lv_at hl 0 rfl) ?_
  refine lv_iconst (v := iI 2) E.1 E.2.1 dX0_init_33 (by decide) ?_
  refine fw_put E hK hH (by omega) ha fc_X0 4 (by decide) ql_RX0_28 rfl rfl rfl rfl (Nat.le_of_ble_eq_true rfl) dX0_init_34 (fun H1 locs1 hH hz1 => ?_)
  replace hz := hz1.trans hz; clear hz1
  obtain ⟨M19, hM20⟩ : ∃ MX, MX = fw_up M16 a (.inr (0, [.ref (a + 1), .int (iI 70), .int (iI 20), .int (iI 5), .int (iI 2), .int 0])) := ⟨_, rfl⟩
  replace hH := fw_H.nm hM20 hH
  have fr21 : ∀ q, q ≠ a → M19 q = M16 q := fun q h => by rw [hM20]; exact fw_up_ne h
  replace hrnAt2 := rnAt.fr hrnAt2 (fun q h1 h2 => fr21 q (by omega))
  have ha : M19 a = some (.inr (0, [.ref (a + 1), .int (iI 70), .int (iI 20), .int (iI 5), .int (iI 2), .int 0])) := by rw [hM20]; exact fw_up_eq
  refine lv_aload_n E.1 E.2.1 dX0_init_37 rfl (lv_at hl 0 rfl) ?_
  refine lv_iconst (v := iI 1) E.1 E.2.1 dX0_init_38 (by decide) ?_
  refine fw_put E hK hH (by omega) ha fc_X0 5 (by decide) ql_RX0_31 rfl rfl rfl rfl (Nat.le_of_ble_eq_true rfl) dX0_init_39 (fun H1 locs1 hH hz1 => ?_)
  replace hz := hz1.trans hz; clear hz1
  obtain ⟨M22, hM23⟩ : ∃ MX, MX = fw_up M19 a (.inr (0, [.ref (a + 1), .int (iI 70), .int (iI 20), .int (iI 5), .int (iI 2), .int (iI 1)])) := ⟨_, rfl⟩
  replace hH := fw_H.nm hM23 hH
  have fr24 : ∀ q, q ≠ a → M22 q = M19 q := fun q h => by rw [hM23]; exact fw_up_ne h
  replace hrnAt2 := rnAt.fr hrnAt2 (fun q h1 h2 => fr24 q (by omega))
  have ha : M22 a = some (.inr (0, [.ref (a + 1), .int (iI 70), .int (iI 20), .int (iI 5), .int (iI 2), .int (iI 1)])) := by rw [hM23]; exact fw_up_eq
  refine fw_vret E hr hlk hH ?_ dX0_init_42
  exact ⟨⟨hb, ha, hrnAt2⟩, by omega, by intro q hq; rw [fr24 q (by omega), fr21 q (by omega), fr18 q (by omega), fr15 q (by omega), fr12 q (by omega), fr9 q (by omega), fr6 q (by omega), fr3 q (by omega)]⟩
/-- a new Simplifier -/
theorem k_Simplifier_init (l : Launch) (G : fw_G) (M : fw_M) (N : Nat) (a : Nat) (hb : G.2.2.1 ≤ a) (ha : M a = some (.inr (6, [.null]))) (hN : N = a + 1) : fMet l yX6_init cX6_init 1 none 2 40 3 45 G M N [.ref a] (fw_pv (fun M1 n1 => siAt G M1 a z0 z0 ∧ n1 = N + 3 ∧ ∀ q, q < a → M1 q = M q)) := by
  refine fw_met RX6 rfl (by decide +kernel) (Nat.le_of_ble_eq_true rfl) ?_
  intro pG e s m args below meth cG ls E hr hlk hnm hK hH hz hl
  have hz := hz.trans hN
  refine lv_aload_n E.1 E.2.1 dX6_init_0 rfl (lv_at hl 0 rfl) ?_
  refine fw_obj E ql_RX6_3 qi_obj qc_obj hl dX6_init_1 ⟨by decide, by decide⟩ ?_
  refine lv_aload_n E.1 E.2.1 dX6_init_4 rfl (lv_at hl 0 rfl) ?_
  refine fw_new (fs := [.null, .null]) E hK hH hz fc_X5 ql_RX6_9 qt_RX5 qn_RX5 (fun j hj => by rcases (show j = 0 ∨ j = 1 by omega) with rfl | rfl <;> rfl) ⟨Nat.le_of_ble_eq_true rfl, Nat.le_of_ble_eq_true rfl⟩ dX6_init_5 (fun H1 hH hz1 => ?_)
  replace hz : H1.size = a + 2 := by omega
  clear hz1
  obtain ⟨M1, hM2⟩ : ∃ MX, MX = fw_up M (a + 1) (.inr (5, [.null, .null])) := ⟨_, rfl⟩
  replace hH := fw_H.nm hM2 hH
  have fr3 : ∀ q, q ≠ a + 1 → M1 q = M q := fun q h => by rw [hM2]; exact fw_up_ne h
  replace ha : M1 a = some (.inr (6, [.null])) := (fr3 _ (by omega)).trans ha
  have hn0 : M1 (a + 1) = some (.inr (5, [.null, .null])) := by rw [hM2]; exact fw_up_eq
  refine lv_dup E.1 E.2.1 dX6_init_8 rfl ?_
  refine fw_cIN (As := []) (rest := [.ref (a + 1), .ref a]) E hK hH hl fL_X5_init rfl ql_RX6_11 qi_yX5_init (k_Reckoner_init l G _ _ (a + 1) (by omega) hn0 (by omega)) rfl rfl (Nat.le_of_ble_eq_true rfl) ⟨Nat.le_of_ble_eq_true rfl, Nat.le_of_ble_eq_true rfl⟩ ⟨Nat.le_of_ble_eq_true rfl, Nat.le_of_ble_eq_true rfl⟩ dX6_init_9 (fw_kv fun M5 H1 locs1 hp4 hH hz1 => ?_)
  obtain ⟨hrkAt2, hz2, hfr⟩ := hp4
  replace hz : H1.size = a + 4 := by omega
  clear hz1 hz2
  have fr6 := hfr
  replace ha : M5 a = some (.inr (6, [.null])) := (fr6 _ (by omega)).trans ha
  refine fw_putF E hK hH (by omega) ha fc_X6 0 (by decide) ql_RX6_12 rfl rfl hnm rfl rfl (Nat.le_of_ble_eq_true rfl) dX6_init_12 (fun H1 locs1 hH hz1 => ?_)
  replace hz := hz1.trans hz; clear hz1
  obtain ⟨M7, hM8⟩ : ∃ MX, MX = fw_up M5 a (.inr (6, [.ref (a + 1)])) := ⟨_, rfl⟩
  replace hH := fw_H.nm hM8 hH
  have fr9 : ∀ q, q ≠ a → M7 q = M5 q := fun q h => by rw [hM8]; exact fw_up_ne h
  replace hrkAt2 := rkAt.fr hrkAt2 (fun q h1 h2 => fr9 q (by omega))
  have ha : M7 a = some (.inr (6, [.ref (a + 1)])) := by rw [hM8]; exact fw_up_eq
  refine fw_vret E hr hlk hH ?_ dX6_init_15
  exact ⟨⟨hb, ha, hrkAt2⟩, by omega, by intro q hq; rw [fr9 q (by omega), fr6 q (by omega), fr3 q (by omega)]⟩

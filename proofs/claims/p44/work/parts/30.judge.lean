def casI (fi se th : Nat → Int) (k : Nat) : Nat → Int := fun i => if i = 0 then fi k else if i = 1 then se k else th k
def casOK (fi se th du : Nat → Int) (cn : Nat) : Prop := ∀ k, k < cn → (-99 ≤ fi k ∧ fi k ≤ 99) ∧ (-99 ≤ se k ∧ se k ≤ 99) ∧ (-99 ≤ th k ∧ th k ≤ 99) ∧ (-9999 ≤ du k ∧ du k ≤ 9999)
theorem casI_ip {fi se th ip : Nat → Int} {k : Nat} (h0 : ip 0 = fi k) (h1 : ip 1 = se k) (h2 : ip 2 = th k) (b0 : -99 ≤ fi k ∧ fi k ≤ 99) (b1 : -99 ≤ se k ∧ se k ≤ 99) (b2 : -99 ≤ th k ∧ th k ≤ 99) : ∀ i, i < 3 → ip i = casI fi se th k i ∧ -99 ≤ casI fi se th k i ∧ casI fi se th k i ≤ 99 := by
  intro i hi
  unfold casI
  rcases (show i = 0 ∨ i = 1 ∨ i = 2 by omega) with rfl | rfl | rfl
  · rw [if_pos rfl]; exact ⟨h0, b0⟩
  · rw [if_neg (by decide), if_pos rfl]; exact ⟨h1, b1⟩
  · rw [if_neg (by decide), if_neg (by decide)]; exact ⟨h2, b2⟩
def absI (z : Int) : Int := if z < 0 then -z else z
def errS (fi se th du : Nat → Int) (C V : Nat → Int) (sp : Nat → Nat) (p : Nat) : Nat → Int
  | 0 => 0
  | k + 1 => errS fi se th du C V sp p k + absI (evF (casI fi se th k) C V sp p - du k)
def hitS (fi se th du : Nat → Int) (C V : Nat → Int) (sp : Nat → Nat) : Nat → Int
  | 0 => 0
  | k + 1 => hitS fi se th du C V sp k + (if evF (casI fi se th k) C V sp 0 = du k then 1 else 0)
theorem errS_b {fi se th du C V : Nat → Int} {sp : Nat → Nat} {n p cn : Nat} (hsp : spOK n C sp) (hn : n ≤ 40) (hp : p < n) (hc : casOK fi se th du cn) : ∀ k, k ≤ cn → 0 ≤ errS fi se th du C V sp p k ∧ errS fi se th du C V sp p k ≤ 19998 * ↑k := by
  intro k
  induction k with
  | zero => intro _; exact ⟨Int.le_refl _, Int.le_refl _⟩
  | succ k ih =>
    intro hk
    have h1 := ih (by omega)
    have h2 := evF_b (inp := casI fi se th k) (V := V) hsp hn hp
    have h3 := (hc k (by omega)).2.2.2
    show 0 ≤ errS fi se th du C V sp p k + absI (evF (casI fi se th k) C V sp p - du k) ∧ errS fi se th du C V sp p k + absI (evF (casI fi se th k) C V sp p - du k) ≤ _
    unfold absI
    split <;> omega
theorem errS_eq {fi se th du C V C1 V1 : Nat → Int} {sp sp1 : Nat → Nat} {p p1 cn : Nat} (h : ∀ k, k < cn → evF (casI fi se th k) C V sp p = evF (casI fi se th k) C1 V1 sp1 p1) : ∀ k, k ≤ cn → errS fi se th du C V sp p k = errS fi se th du C1 V1 sp1 p1 k := by
  intro k
  induction k with
  | zero => intro _; rfl
  | succ k ih =>
    intro hk
    show errS fi se th du C V sp p k + absI (evF (casI fi se th k) C V sp p - du k) = _
    rw [ih (by omega), h k (by omega)]
    rfl
def merF (wy wt er : Int) (n : Nat) : Int := if wy = 1 then er + wt * ↑n else er
theorem merF_b {wy wt er : Int} {n : Nat} (h1 : 0 ≤ wt ∧ wt ≤ 99) (h2 : 0 ≤ er ∧ er ≤ 239976) (h3 : n ≤ 40) : 0 ≤ merF wy wt er n ∧ merF wy wt er n ≤ 243936 := by
  unfold merF
  split
  · have g1 : 0 ≤ wt * (↑n : Int) := Int.mul_nonneg h1.1 (by omega)
    have g2 : wt * (↑n : Int) ≤ 99 * 40 := Int.mul_le_mul h1.2 (by omega) (by omega) (by omega)
    omega
  · omega
set_option maxHeartbeats 4000000 in
theorem k_errorOf (l : Launch) (G : fw_G) (M : fw_M) (N : Nat) (jo a n cn : Nat) (ip rs fi se th du : Nat → Int) (wy wt : Int) (C V : Nat → Int) (sp : Nat → Nat) (hJ : jdAt G M jo ip rs fi se th du ↑cn wy wt) (hA : tw G M a n C V sp) (hv : vtOK n C V sp) (hcn : cn ≤ 12) (hca : casOK fi se th du cn) (hsep : jo + 8 ≤ a ∨ a + 5 ≤ jo) (p : Nat) (hp : p < n) : fMet l yX3_errorOf cX3_errorOf 6 (some .int) 2 100 0 0 G M N [.ref jo, .ref a, .int (iI ↑p)] (fw_pi (fun r M1 n1 => r = iI (errS fi se th du C V sp p cn) ∧ (∃ ip1 rs1 : Nat → Int, jdAt G M1 jo ip1 rs1 fi se th du ↑cn wy wt) ∧ (∀ q, q < jo + 1 ∨ jo + 4 ≤ q → M1 q = M q) ∧ n1 = N)) := by
  refine fw_met RX3 rfl (by decide +kernel) (Nat.le_of_ble_eq_true rfl) ?_
  intro pG e s m args below meth cG ls E hr hlk hnm hK hH hz hl
  obtain ⟨hbj, w0, hR, w4, w5, w6, w7⟩ := hJ
  obtain ⟨cs, vs, ss, hs, hT, hag, hbd⟩ := hA
  obtain ⟨⟨hn0, hn1⟩, hs0, hc0, hsp, hty, hnd⟩ := id hv
  refine lv_iconst (v := iI 0) E.1 E.2.1 dX3_errorOf_0 (by decide) ?_
  refine lv_istore_n (lv' := [(3, .int (iI 0)), (0, .ref jo), (1, .ref a), (2, .int (iI ↑p))]) E.1 E.2.1 dX3_errorOf_1 rfl hl (by decide) rfl (fun ls hl => ?_)
  refine lv_iconst (v := iI 0) E.1 E.2.1 dX3_errorOf_2 (by decide) ?_
  refine lv_istore (lv' := [(4, .int (iI 0)), (3, .int (iI 0)), (0, .ref jo), (1, .ref a), (2, .int (iI ↑p))]) E.1 E.2.1 dX3_errorOf_3 hl (by decide) rfl (fun ls hl => ?_)
  have loop5_1 : ∀ (d5 : Nat) (i : Nat) (ip : Nat → Int) (rs : Nat → Int) (Mw5 : fw_M) (H : Heap) (locs : List Loc) (ls : Array Slot), cn - i < d5 → i ≤ cn → (∀ q, q < jo + 1 ∨ jo + 4 ≤ q → Mw5 q = M q) → fw_H G s Mw5 H locs → H.size = N → trAt G Mw5 a cs vs ss hs (↑n : Int) (↑(lvF n C sp) : Int) → Mw5 jo = some (.inr (3, [.ref (jo + 1), .ref (jo + 4), .ref (jo + 5), .ref (jo + 6), .ref (jo + 7), .int (iI ↑cn), .int (iI wy), .int (iI wt)])) → Mw5 (jo + 4) = some (fI G 12 (fun j0 => iI (fi j0))) → Mw5 (jo + 5) = some (fI G 12 (fun j0 => iI (se j0))) → Mw5 (jo + 6) = some (fI G 12 (fun j0 => iI (th j0))) → Mw5 (jo + 7) = some (fI G 12 (fun j0 => iI (du j0))) → rkAt G Mw5 (jo + 1) ip rs → lv_has ls 6 [(0, .ref jo), (1, .ref a), (2, .int (iI ↑p)), (3, .int (iI (errS fi se th du C V sp p i))), (4, .int (iI ↑i))] → W pG l e ({ frames := 2, cells := 0, slots := 0, locals := 100 } : Room) s m args below meth cG H locs (0) (0) (MQ below (fw_Q G (fw_pi (fun r M1 n1 => r = iI (errS fi se th du C V sp p cn) ∧ (∃ ip1 rs1 : Nat → Int, jdAt G M1 jo ip1 rs1 fi se th du ↑cn wy wt) ∧ (∀ q, q < jo + 1 ∨ jo + 4 ≤ q → M1 q = M q) ∧ n1 = N))) args s 0 0 (fun q => G.2.2.1 ≤ q)) (F0 m 5 ls []) := by
    intro d5
    induction d5 with
    | zero => intro i ip rs Mw5 H locs ls hd; exact absurd hd (Nat.not_lt_zero _)
    | succ d5 ih5 =>
      intro i ip rs Mw5 H locs ls hd5 i1 hfr0 hH hz hT w0 w4 w5 w6 w7 hR hl
      refine lv_iload E.1 E.2.1 dX3_errorOf_5 (lv_at hl 4 rfl) ?_
      refine lv_aload_n E.1 E.2.1 dX3_errorOf_7 rfl (lv_at hl 0 rfl) ?_
      refine fw_get E hK hH w0 fc_X3 5 (by decide) ql_RX3_35 rfl rfl dX3_errorOf_8 ?_
      refine fw_icmp_ge (tgt := 91) E dX3_errorOf_11 (by decide) (by omega) (by omega) (by omega) (by omega) (fun c1 => ?_) (fun c1 => ?_)
      · refine lv_iload_n E.1 E.2.1 dX3_errorOf_91 rfl (lv_at hl 3 rfl) ?_
        refine fw_iret E hr hlk hH ?_ dX3_errorOf_92
        exact ⟨by rw [show i = cn by omega], ⟨_, _, hbj, w0, hR, w4, w5, w6, w7⟩, hfr0, hz⟩
      · have hcb := hca i (by omega)
        have heb := evF_b (inp := casI fi se th i) (V := V) hsp hn1 hp
        refine lv_aload_n E.1 E.2.1 dX3_errorOf_14 rfl (lv_at hl 0 rfl) ?_
        refine fw_get E hK hH w0 fc_X3 0 (by decide) ql_RX3_12 rfl rfl dX3_errorOf_15 ?_
        refine lv_aload_n E.1 E.2.1 dX3_errorOf_18 rfl (lv_at hl 0 rfl) ?_
        refine fw_get E hK hH w0 fc_X3 1 (by decide) ql_RX3_18 rfl rfl dX3_errorOf_19 ?_
        refine lv_iload E.1 E.2.1 dX3_errorOf_22 (lv_at hl 4 rfl) ?_
        refine fw_cSN (As := [.ref (jo + 4), .int (iI ↑i)]) (rest := [.ref (jo + 1)]) E hK hH hl fL_X9_at ql_RX3_42 qs_yX9_at (k_at l G _ _ (jo + 4) 12 fi ↑i i w4 (by omega) (by omega) (by omega)) rfl rfl (Nat.le_of_ble_eq_true rfl) ⟨Nat.le_of_ble_eq_true rfl, Nat.le_of_ble_eq_true rfl⟩ ⟨Nat.le_of_ble_eq_true rfl, Nat.le_of_ble_eq_true rfl⟩ dX3_errorOf_24 (fw_ki fun r4 M3 H1 locs1 hp2 hH hz1 => ?_)
        obtain ⟨rfl, hM9, hz2⟩ := hp2
        refine fw_cv (y := iI (fi i)) rfl ?_
        replace hz := hz2.trans hz
        clear hz1 hz2
        rw [hM9] at hH
        refine lv_aload_n E.1 E.2.1 dX3_errorOf_27 rfl (lv_at hl 0 rfl) ?_
        refine fw_get E hK hH w0 fc_X3 2 (by decide) ql_RX3_22 rfl rfl dX3_errorOf_28 ?_
        refine lv_iload E.1 E.2.1 dX3_errorOf_31 (lv_at hl 4 rfl) ?_
        refine fw_cSN (As := [.ref (jo + 5), .int (iI ↑i)]) (rest := [.int (iI (fi i)), .ref (jo + 1)]) E hK hH hl fL_X9_at ql_RX3_42 qs_yX9_at (k_at l G _ _ (jo + 5) 12 se ↑i i w5 (by omega) (by omega) (by omega)) rfl rfl (Nat.le_of_ble_eq_true rfl) ⟨Nat.le_of_ble_eq_true rfl, Nat.le_of_ble_eq_true rfl⟩ ⟨Nat.le_of_ble_eq_true rfl, Nat.le_of_ble_eq_true rfl⟩ dX3_errorOf_33 (fw_ki fun r7 M6 H1 locs1 hp5 hH hz1 => ?_)
        obtain ⟨rfl, hM9, hz2⟩ := hp5
        refine fw_cv (y := iI (se i)) rfl ?_
        replace hz := hz2.trans hz
        clear hz1 hz2
        rw [hM9] at hH
        refine lv_aload_n E.1 E.2.1 dX3_errorOf_36 rfl (lv_at hl 0 rfl) ?_
        refine fw_get E hK hH w0 fc_X3 3 (by decide) ql_RX3_25 rfl rfl dX3_errorOf_37 ?_
        refine lv_iload E.1 E.2.1 dX3_errorOf_40 (lv_at hl 4 rfl) ?_
        refine fw_cSN (As := [.ref (jo + 6), .int (iI ↑i)]) (rest := [.int (iI (se i)), .int (iI (fi i)), .ref (jo + 1)]) E hK hH hl fL_X9_at ql_RX3_42 qs_yX9_at (k_at l G _ _ (jo + 6) 12 th ↑i i w6 (by omega) (by omega) (by omega)) rfl rfl (Nat.le_of_ble_eq_true rfl) ⟨Nat.le_of_ble_eq_true rfl, Nat.le_of_ble_eq_true rfl⟩ ⟨Nat.le_of_ble_eq_true rfl, Nat.le_of_ble_eq_true rfl⟩ dX3_errorOf_42 (fw_ki fun r10 M9 H1 locs1 hp8 hH hz1 => ?_)
        obtain ⟨rfl, hM9, hz2⟩ := hp8
        refine fw_cv (y := iI (th i)) rfl ?_
        replace hz := hz2.trans hz
        clear hz1 hz2
        rw [hM9] at hH
        refine fw_cV (As := [.int (iI (fi i)), .int (iI (se i)), .int (iI (th i))]) (rest := []) E hK hH hl hR.2.1 fc_X5 fL_X5_setInputs ql_RX3_46 qi_yX5_setInputs qv_yX5_setInputs (k_setInputs l G _ _ (jo + 1) ip rs (fi i) (se i) (th i) hR) rfl rfl (Nat.le_of_ble_eq_true rfl) ⟨Nat.le_of_ble_eq_true rfl, Nat.le_of_ble_eq_true rfl⟩ ⟨Nat.le_of_ble_eq_true rfl, Nat.le_of_ble_eq_true rfl⟩ dX3_errorOf_45 (fw_kv fun M12 H1 locs1 hp11 hH hz1 => ?_)
        obtain ⟨⟨ip55, hR55, ea55, eb55, ec55⟩, hfr, hz2⟩ := hp11
        replace hz := hz2.trans hz
        clear hz1 hz2
        have fr13 := hfr
        replace hT := trAt.fr hT (fun q h1 h2 => fr13 q (by omega))
        replace w0 : M12 jo = some (.inr (3, [.ref (jo + 1), .ref (jo + 4), .ref (jo + 5), .ref (jo + 6), .ref (jo + 7), .int (iI ↑cn), .int (iI wy), .int (iI wt)])) := (fr13 _ (by omega)).trans w0
        replace w4 : M12 (jo + 4) = some (fI G 12 (fun j0 => iI (fi j0))) := (fr13 _ (by omega)).trans w4
        replace w5 : M12 (jo + 5) = some (fI G 12 (fun j0 => iI (se j0))) := (fr13 _ (by omega)).trans w5
        replace w6 : M12 (jo + 6) = some (fI G 12 (fun j0 => iI (th j0))) := (fr13 _ (by omega)).trans w6
        replace w7 : M12 (jo + 7) = some (fI G 12 (fun j0 => iI (du j0))) := (fr13 _ (by omega)).trans w7
        refine lv_aload_n E.1 E.2.1 dX3_errorOf_48 rfl (lv_at hl 0 rfl) ?_
        refine fw_get E hK hH w0 fc_X3 0 (by decide) ql_RX3_12 rfl rfl dX3_errorOf_49 ?_
        refine lv_aload_n E.1 E.2.1 dX3_errorOf_52 rfl (lv_at hl 1 rfl) ?_
        refine lv_iload_n E.1 E.2.1 dX3_errorOf_53 rfl (lv_at hl 2 rfl) ?_
        refine fw_cV (As := [.ref a, .int (iI ↑p)]) (rest := []) E hK hH hl hR55.2.1 fc_X5 fL_X5_resultOf ql_RX3_50 qi_yX5_resultOf qv_yX5_resultOf (k_resultOf l G _ _ (jo + 1) a n p ip55 rs (casI fi se th i) C V sp hR55 ⟨_, _, _, _, hT, hag, hbd⟩ hv hp (by omega) (casI_ip ea55 eb55 ec55 hcb.1 hcb.2.1 hcb.2.2.1)) rfl rfl (Nat.le_of_ble_eq_true rfl) ⟨Nat.le_of_ble_eq_true rfl, Nat.le_of_ble_eq_true rfl⟩ ⟨Nat.le_of_ble_eq_true rfl, Nat.le_of_ble_eq_true rfl⟩ dX3_errorOf_54 (fw_ki fun r16 M15 H1 locs1 hp14 hH hz1 => ?_)
        obtain ⟨rfl, ⟨rs70, hR70⟩, hfr, hz2⟩ := hp14
        replace hz := hz2.trans hz
        clear hz1 hz2
        have fr17 := hfr
        replace hT := trAt.fr hT (fun q h1 h2 => fr17 q (by omega))
        replace w0 : M15 jo = some (.inr (3, [.ref (jo + 1), .ref (jo + 4), .ref (jo + 5), .ref (jo + 6), .ref (jo + 7), .int (iI ↑cn), .int (iI wy), .int (iI wt)])) := (fr17 _ (by omega)).trans w0
        replace w4 : M15 (jo + 4) = some (fI G 12 (fun j0 => iI (fi j0))) := (fr17 _ (by omega)).trans w4
        replace w5 : M15 (jo + 5) = some (fI G 12 (fun j0 => iI (se j0))) := (fr17 _ (by omega)).trans w5
        replace w6 : M15 (jo + 6) = some (fI G 12 (fun j0 => iI (th j0))) := (fr17 _ (by omega)).trans w6
        replace w7 : M15 (jo + 7) = some (fI G 12 (fun j0 => iI (du j0))) := (fr17 _ (by omega)).trans w7
        refine lv_aload_n E.1 E.2.1 dX3_errorOf_57 rfl (lv_at hl 0 rfl) ?_
        refine fw_get E hK hH w0 fc_X3 4 (by decide) ql_RX3_28 rfl rfl dX3_errorOf_58 ?_
        refine lv_iload E.1 E.2.1 dX3_errorOf_61 (lv_at hl 4 rfl) ?_
        refine fw_cSN (As := [.ref (jo + 7), .int (iI ↑i)]) (rest := [.int (iI (evF (casI fi se th i) C V sp p))]) E hK hH hl fL_X9_at ql_RX3_42 qs_yX9_at (k_at l G _ _ (jo + 7) 12 du ↑i i w7 (by omega) (by omega) (by omega)) rfl rfl (Nat.le_of_ble_eq_true rfl) ⟨Nat.le_of_ble_eq_true rfl, Nat.le_of_ble_eq_true rfl⟩ ⟨Nat.le_of_ble_eq_true rfl, Nat.le_of_ble_eq_true rfl⟩ dX3_errorOf_63 (fw_ki fun r20 M19 H1 locs1 hp18 hH hz1 => ?_)
        obtain ⟨rfl, hM9, hz2⟩ := hp18
        refine fw_cv (y := iI (du i)) rfl ?_
        replace hz := hz2.trans hz
        clear hz1 hz2
        rw [hM9] at hH
        refine fw_isub E dX3_errorOf_66 ?_
        refine lv_istore (lv' := [(5, .int (iI ((evF (casI fi se th i) C V sp p) - (du i)))), (0, .ref jo), (1, .ref a), (2, .int (iI ↑p)), (3, .int (iI (errS fi se th du C V sp p i))), (4, .int (iI ↑i))]) E.1 E.2.1 dX3_errorOf_67 hl (by decide) rfl (fun ls hl => ?_)
        refine lv_iload_n E.1 E.2.1 dX3_errorOf_69 rfl (lv_at hl 4 rfl) ?_
        refine lv_iload E.1 E.2.1 dX3_errorOf_70 (lv_at hl 0 rfl) ?_
        refine fw_if_ge (tgt := 81) E dX3_errorOf_72 (by decide) (by omega) (by omega) (fun c21 => ?_) (fun c21 => ?_)
        · refine lv_iload E.1 E.2.1 dX3_errorOf_81 (lv_at hl 0 rfl) ?_
          refine fw_iadd E dX3_errorOf_83 ?_
          refine fw_cv (y := iI (errS fi se th du C V sp p (i + 1))) (congrArg iI (by show _ = errS fi se th du C V sp p i + absI _; unfold absI; split <;> omega)) ?_
          refine lv_istore_n (lv' := [(3, .int (iI (errS fi se th du C V sp p (i + 1)))), (5, .int (iI ((evF (casI fi se th i) C V sp p) - (du i)))), (0, .ref jo), (1, .ref a), (2, .int (iI ↑p)), (4, .int (iI ↑i))]) E.1 E.2.1 dX3_errorOf_84 rfl hl (by decide) rfl (fun ls hl => ?_)
          refine lv_iinc (v := iI (↑i + 1)) (lv' := [(4, .int (iI (↑i + 1))), (3, .int (iI (errS fi se th du C V sp p (i + 1)))), (5, .int (iI ((evF (casI fi se th i) C V sp p) - (du i)))), (0, .ref jo), (1, .ref a), (2, .int (iI ↑p))]) E.1 E.2.1 dX3_errorOf_85 hl (k := 5) rfl (iI_inc rfl) (by decide) rfl (fun ls hl => ?_)
          refine lv_goto (tgt := 5) E.1 E.2.1 dX3_errorOf_88 (by decide) ?_
          exact ih5 (i + 1) ip55 rs70 _ _ _ _ (by omega) (by omega) (fun q hq => by rw [fr17 q (by omega), fr13 q (by omega)]; exact hfr0 q hq) hH (by omega) hT w0 w4 w5 w6 w7 hR70 (lv_sub hl [3, 4, 5, 1, 0] rfl)
        · refine lv_iload E.1 E.2.1 dX3_errorOf_75 (lv_at hl 0 rfl) ?_
          refine fw_ineg E dX3_errorOf_77 ?_
          refine lv_goto (tgt := 83) E.1 E.2.1 dX3_errorOf_78 (by decide) ?_
          refine fw_iadd E dX3_errorOf_83 ?_
          refine fw_cv (y := iI (errS fi se th du C V sp p (i + 1))) (congrArg iI (by show _ = errS fi se th du C V sp p i + absI _; unfold absI; split <;> omega)) ?_
          refine lv_istore_n (lv' := [(3, .int (iI (errS fi se th du C V sp p (i + 1)))), (5, .int (iI ((evF (casI fi se th i) C V sp p) - (du i)))), (0, .ref jo), (1, .ref a), (2, .int (iI ↑p)), (4, .int (iI ↑i))]) E.1 E.2.1 dX3_errorOf_84 rfl hl (by decide) rfl (fun ls hl => ?_)
          refine lv_iinc (v := iI (↑i + 1)) (lv' := [(4, .int (iI (↑i + 1))), (3, .int (iI (errS fi se th du C V sp p (i + 1)))), (5, .int (iI ((evF (casI fi se th i) C V sp p) - (du i)))), (0, .ref jo), (1, .ref a), (2, .int (iI ↑p))]) E.1 E.2.1 dX3_errorOf_85 hl (k := 5) rfl (iI_inc rfl) (by decide) rfl (fun ls hl => ?_)
          refine lv_goto (tgt := 5) E.1 E.2.1 dX3_errorOf_88 (by decide) ?_
          exact ih5 (i + 1) ip55 rs70 _ _ _ _ (by omega) (by omega) (fun q hq => by rw [fr17 q (by omega), fr13 q (by omega)]; exact hfr0 q hq) hH (by omega) hT w0 w4 w5 w6 w7 hR70 (lv_sub hl [3, 4, 5, 1, 0] rfl)
  exact loop5_1 (cn - 0 + 1) 0 ip rs _ _ _ _ (Nat.lt_succ_self _) (by omega) (fun _ _ => rfl) hH (by omega) hT w0 w4 w5 w6 w7 hR (lv_sub hl [2, 3, 4, 1, 0] rfl)
theorem k_meritOf (l : Launch) (G : fw_G) (M : fw_M) (N : Nat) (jo a n cn : Nat) (ip rs fi se th du : Nat → Int) (wy wt : Int) (C V : Nat → Int) (sp : Nat → Nat) (hJ : jdAt G M jo ip rs fi se th du ↑cn wy wt) (hA : tw G M a n C V sp) (hv : vtOK n C V sp) (hcn : cn ≤ 12) (hca : casOK fi se th du cn) (hsep : jo + 8 ≤ a ∨ a + 5 ≤ jo) (hwy : 0 ≤ wy ∧ wy ≤ 2) : fMet l yX3_meritOf cX3_meritOf 3 (some .int) 3 140 0 0 G M N [.ref jo, .ref a] (fw_pi (fun r M1 n1 => r = iI (merF wy wt (errS fi se th du C V sp 0 cn) n) ∧ (∃ ip1 rs1 : Nat → Int, jdAt G M1 jo ip1 rs1 fi se th du ↑cn wy wt) ∧ (∀ q, q < jo + 1 ∨ jo + 4 ≤ q → M1 q = M q) ∧ n1 = N)) := by
  refine fw_met RX3 rfl (by decide +kernel) (Nat.le_of_ble_eq_true rfl) ?_
  intro pG e s m args below meth cG ls E hr hlk hnm hK hH hz hl
  obtain ⟨cs, vs, ss, hs, hT, hag, hbd⟩ := hA
  obtain ⟨⟨hn0, hn1⟩, hs0, hc0, hsp, hty, hnd⟩ := id hv
  refine lv_aload_n E.1 E.2.1 dX3_meritOf_0 rfl (lv_at hl 0 rfl) ?_
  refine lv_aload_n E.1 E.2.1 dX3_meritOf_1 rfl (lv_at hl 1 rfl) ?_
  refine lv_iconst (v := iI 0) E.1 E.2.1 dX3_meritOf_2 (by decide) ?_
  refine fw_cV (As := [.ref a, .int (iI 0)]) (rest := []) E hK hH hl hJ.2.1 fc_X3 fL_X3_errorOf ql_RX3_54 qi_yX3_errorOf qv_yX3_errorOf (k_errorOf l G _ _ jo a n cn ip rs fi se th du wy wt C V sp hJ ⟨_, _, _, _, hT, hag, hbd⟩ hv (by omega) hca (by omega) 0 (by omega)) rfl rfl (Nat.le_of_ble_eq_true rfl) ⟨Nat.le_of_ble_eq_true rfl, Nat.le_of_ble_eq_true rfl⟩ ⟨Nat.le_of_ble_eq_true rfl, Nat.le_of_ble_eq_true rfl⟩ dX3_meritOf_3 (fw_ki fun r3 M2 H1 locs1 hp1 hH hz1 => ?_)
  obtain ⟨rfl, ⟨ip8, rs8, hJ8⟩, hfr, hz2⟩ := hp1
  replace hz := hz2.trans hz
  clear hz1 hz2
  have fr4 := hfr
  replace hT := trAt.fr hT (fun q h1 h2 => fr4 q (by omega))
  refine lv_istore_n (lv' := [(2, .int (iI (errS fi se th du C V sp 0 cn))), (0, .ref jo), (1, .ref a)]) E.1 E.2.1 dX3_meritOf_6 rfl hl (by decide) rfl (fun ls hl => ?_)
  refine lv_aload_n E.1 E.2.1 dX3_meritOf_7 rfl (lv_at hl 1 rfl) ?_
  refine fw_get E hK hH hJ8.2.1 fc_X3 6 (by decide) ql_RX3_57 rfl rfl dX3_meritOf_8 ?_
  refine lv_iconst (v := iI 1) E.1 E.2.1 dX3_meritOf_11 (by decide) ?_
  refine fw_icmp_ne (tgt := 29) E dX3_meritOf_12 (by decide) (by omega) (by omega) (by omega) (by omega) (fun c5 => ?_) (fun c5 => ?_)
  · refine lv_iload_n E.1 E.2.1 dX3_meritOf_29 rfl (lv_at hl 0 rfl) ?_
    refine fw_iret E hr hlk hH ?_ dX3_meritOf_30
    exact ⟨congrArg iI (by unfold merF; rw [if_neg (by omega)]), ⟨_, _, hJ8⟩, (fun q hq => by rw [fr4 q (by omega)]), hz⟩
  · refine lv_iload_n E.1 E.2.1 dX3_meritOf_15 rfl (lv_at hl 0 rfl) ?_
    refine lv_aload_n E.1 E.2.1 dX3_meritOf_16 rfl (lv_at hl 1 rfl) ?_
    refine fw_get E hK hH hJ8.2.1 fc_X3 7 (by decide) ql_RX3_31 rfl rfl dX3_meritOf_17 ?_
    refine lv_aload_n E.1 E.2.1 dX3_meritOf_20 rfl (lv_at hl 2 rfl) ?_
    refine fw_getN E hK hH hT.2.1 fc_X8 4 (by decide) ql_RX3_60 rfl rfl dX3_meritOf_21 ?_
    refine fw_imul E dX3_meritOf_24 ?_
    refine fw_iadd E dX3_meritOf_25 ?_
    refine lv_goto (tgt := 30) E.1 E.2.1 dX3_meritOf_26 (by decide) ?_
    refine fw_iret E hr hlk hH ?_ dX3_meritOf_30
    exact ⟨congrArg iI (by unfold merF; rw [if_pos (by omega)]), ⟨_, _, hJ8⟩, (fun q hq => by rw [fr4 q (by omega)]), hz⟩
set_option maxHeartbeats 4000000 in
theorem k_hitsOf (l : Launch) (G : fw_G) (M : fw_M) (N : Nat) (jo a n cn : Nat) (ip rs fi se th du : Nat → Int) (wy wt : Int) (C V : Nat → Int) (sp : Nat → Nat) (hJ : jdAt G M jo ip rs fi se th du ↑cn wy wt) (hA : tw G M a n C V sp) (hv : vtOK n C V sp) (hcn : cn ≤ 12) (hca : casOK fi se th du cn) (hsep : jo + 8 ≤ a ∨ a + 5 ≤ jo) : fMet l yX3_hitsOf cX3_hitsOf 4 (some .int) 2 100 0 0 G M N [.ref jo, .ref a] (fw_pi (fun r M1 n1 => r = iI (hitS fi se th du C V sp cn) ∧ (∃ ip1 rs1 : Nat → Int, jdAt G M1 jo ip1 rs1 fi se th du ↑cn wy wt) ∧ (∀ q, q < jo + 1 ∨ jo + 4 ≤ q → M1 q = M q) ∧ n1 = N)) := by
  refine fw_met RX3 rfl (by decide +kernel) (Nat.le_of_ble_eq_true rfl) ?_
  intro pG e s m args below meth cG ls E hr hlk hnm hK hH hz hl
  obtain ⟨hbj, w0, hR, w4, w5, w6, w7⟩ := hJ
  obtain ⟨cs, vs, ss, hs, hT, hag, hbd⟩ := hA
  obtain ⟨⟨hn0, hn1⟩, hs0, hc0, hsp, hty, hnd⟩ := id hv
  refine lv_iconst (v := iI 0) E.1 E.2.1 dX3_hitsOf_0 (by decide) ?_
  refine lv_istore_n (lv' := [(2, .int (iI 0)), (0, .ref jo), (1, .ref a)]) E.1 E.2.1 dX3_hitsOf_1 rfl hl (by decide) rfl (fun ls hl => ?_)
  refine lv_iconst (v := iI 0) E.1 E.2.1 dX3_hitsOf_2 (by decide) ?_
  refine lv_istore_n (lv' := [(3, .int (iI 0)), (2, .int (iI 0)), (0, .ref jo), (1, .ref a)]) E.1 E.2.1 dX3_hitsOf_3 rfl hl (by decide) rfl (fun ls hl => ?_)
  have loop4_1 : ∀ (d4 : Nat) (i : Nat) (fo : Int) (ip : Nat → Int) (rs : Nat → Int) (Mw4 : fw_M) (H : Heap) (locs : List Loc) (ls : Array Slot), cn - i < d4 → i ≤ cn → fo = hitS fi se th du C V sp i → (∀ q, q < jo + 1 ∨ jo + 4 ≤ q → Mw4 q = M q) → fw_H G s Mw4 H locs → H.size = N → trAt G Mw4 a cs vs ss hs (↑n : Int) (↑(lvF n C sp) : Int) → Mw4 jo = some (.inr (3, [.ref (jo + 1), .ref (jo + 4), .ref (jo + 5), .ref (jo + 6), .ref (jo + 7), .int (iI ↑cn), .int (iI wy), .int (iI wt)])) → Mw4 (jo + 4) = some (fI G 12 (fun j0 => iI (fi j0))) → Mw4 (jo + 5) = some (fI G 12 (fun j0 => iI (se j0))) → Mw4 (jo + 6) = some (fI G 12 (fun j0 => iI (th j0))) → Mw4 (jo + 7) = some (fI G 12 (fun j0 => iI (du j0))) → rkAt G Mw4 (jo + 1) ip rs → lv_has ls 4 [(0, .ref jo), (1, .ref a), (2, .int (iI fo)), (3, .int (iI ↑i))] → W pG l e ({ frames := 2, cells := 0, slots := 0, locals := 100 } : Room) s m args below meth cG H locs (0) (0) (MQ below (fw_Q G (fw_pi (fun r M1 n1 => r = iI (hitS fi se th du C V sp cn) ∧ (∃ ip1 rs1 : Nat → Int, jdAt G M1 jo ip1 rs1 fi se th du ↑cn wy wt) ∧ (∀ q, q < jo + 1 ∨ jo + 4 ≤ q → M1 q = M q) ∧ n1 = N))) args s 0 0 (fun q => G.2.2.1 ≤ q)) (F0 m 4 ls []) := by
    intro d4
    induction d4 with
    | zero => intro i fo ip rs Mw4 H locs ls hd; exact absurd hd (Nat.not_lt_zero _)
    | succ d4 ih4 =>
      intro i fo ip rs Mw4 H locs ls hd4 i1 hfo hfr0 hH hz hT w0 w4 w5 w6 w7 hR hl
      refine lv_iload_n E.1 E.2.1 dX3_hitsOf_4 rfl (lv_at hl 3 rfl) ?_
      refine lv_aload_n E.1 E.2.1 dX3_hitsOf_5 rfl (lv_at hl 0 rfl) ?_
      refine fw_get E hK hH w0 fc_X3 5 (by decide) ql_RX3_35 rfl rfl dX3_hitsOf_6 ?_
      refine fw_icmp_ge (tgt := 72) E dX3_hitsOf_9 (by decide) (by omega) (by omega) (by omega) (by omega) (fun c1 => ?_) (fun c1 => ?_)
      · refine lv_iload_n E.1 E.2.1 dX3_hitsOf_72 rfl (lv_at hl 2 rfl) ?_
        refine fw_iret E hr hlk hH ?_ dX3_hitsOf_73
        exact ⟨by rw [hfo, show i = cn by omega], ⟨_, _, hbj, w0, hR, w4, w5, w6, w7⟩, hfr0, hz⟩
      · have hcb := hca i (by omega)
        have heb := evF_b (inp := casI fi se th i) (V := V) hsp hn1 hn0
        refine lv_aload_n E.1 E.2.1 dX3_hitsOf_12 rfl (lv_at hl 0 rfl) ?_
        refine fw_get E hK hH w0 fc_X3 0 (by decide) ql_RX3_12 rfl rfl dX3_hitsOf_13 ?_
        refine lv_aload_n E.1 E.2.1 dX3_hitsOf_16 rfl (lv_at hl 0 rfl) ?_
        refine fw_get E hK hH w0 fc_X3 1 (by decide) ql_RX3_18 rfl rfl dX3_hitsOf_17 ?_
        refine lv_iload_n E.1 E.2.1 dX3_hitsOf_20 rfl (lv_at hl 3 rfl) ?_
        refine fw_cSN (As := [.ref (jo + 4), .int (iI ↑i)]) (rest := [.ref (jo + 1)]) E hK hH hl fL_X9_at ql_RX3_42 qs_yX9_at (k_at l G _ _ (jo + 4) 12 fi ↑i i w4 (by omega) (by omega) (by omega)) rfl rfl (Nat.le_of_ble_eq_true rfl) ⟨Nat.le_of_ble_eq_true rfl, Nat.le_of_ble_eq_true rfl⟩ ⟨Nat.le_of_ble_eq_true rfl, Nat.le_of_ble_eq_true rfl⟩ dX3_hitsOf_21 (fw_ki fun r4 M3 H1 locs1 hp2 hH hz1 => ?_)
        obtain ⟨rfl, hM9, hz2⟩ := hp2
        refine fw_cv (y := iI (fi i)) rfl ?_
        replace hz := hz2.trans hz
        clear hz1 hz2
        rw [hM9] at hH
        refine lv_aload_n E.1 E.2.1 dX3_hitsOf_24 rfl (lv_at hl 0 rfl) ?_
        refine fw_get E hK hH w0 fc_X3 2 (by decide) ql_RX3_22 rfl rfl dX3_hitsOf_25 ?_
        refine lv_iload_n E.1 E.2.1 dX3_hitsOf_28 rfl (lv_at hl 3 rfl) ?_
        refine fw_cSN (As := [.ref (jo + 5), .int (iI ↑i)]) (rest := [.int (iI (fi i)), .ref (jo + 1)]) E hK hH hl fL_X9_at ql_RX3_42 qs_yX9_at (k_at l G _ _ (jo + 5) 12 se ↑i i w5 (by omega) (by omega) (by omega)) rfl rfl (Nat.le_of_ble_eq_true rfl) ⟨Nat.le_of_ble_eq_true rfl, Nat.le_of_ble_eq_true rfl⟩ ⟨Nat.le_of_ble_eq_true rfl, Nat.le_of_ble_eq_true rfl⟩ dX3_hitsOf_29 (fw_ki fun r7 M6 H1 locs1 hp5 hH hz1 => ?_)
        obtain ⟨rfl, hM9, hz2⟩ := hp5
        refine fw_cv (y := iI (se i)) rfl ?_
        replace hz := hz2.trans hz
        clear hz1 hz2
        rw [hM9] at hH
        refine lv_aload_n E.1 E.2.1 dX3_hitsOf_32 rfl (lv_at hl 0 rfl) ?_
        refine fw_get E hK hH w0 fc_X3 3 (by decide) ql_RX3_25 rfl rfl dX3_hitsOf_33 ?_
        refine lv_iload_n E.1 E.2.1 dX3_hitsOf_36 rfl (lv_at hl 3 rfl) ?_
        refine fw_cSN (As := [.ref (jo + 6), .int (iI ↑i)]) (rest := [.int (iI (se i)), .int (iI (fi i)), .ref (jo + 1)]) E hK hH hl fL_X9_at ql_RX3_42 qs_yX9_at (k_at l G _ _ (jo + 6) 12 th ↑i i w6 (by omega) (by omega) (by omega)) rfl rfl (Nat.le_of_ble_eq_true rfl) ⟨Nat.le_of_ble_eq_true rfl, Nat.le_of_ble_eq_true rfl⟩ ⟨Nat.le_of_ble_eq_true rfl, Nat.le_of_ble_eq_true rfl⟩ dX3_hitsOf_37 (fw_ki fun r10 M9 H1 locs1 hp8 hH hz1 => ?_)
        obtain ⟨rfl, hM9, hz2⟩ := hp8
        refine fw_cv (y := iI (th i)) rfl ?_
        replace hz := hz2.trans hz
        clear hz1 hz2
        rw [hM9] at hH
        refine fw_cV (As := [.int (iI (fi i)), .int (iI (se i)), .int (iI (th i))]) (rest := []) E hK hH hl hR.2.1 fc_X5 fL_X5_setInputs ql_RX3_46 qi_yX5_setInputs qv_yX5_setInputs (k_setInputs l G _ _ (jo + 1) ip rs (fi i) (se i) (th i) hR) rfl rfl (Nat.le_of_ble_eq_true rfl) ⟨Nat.le_of_ble_eq_true rfl, Nat.le_of_ble_eq_true rfl⟩ ⟨Nat.le_of_ble_eq_true rfl, Nat.le_of_ble_eq_true rfl⟩ dX3_hitsOf_40 (fw_kv fun M12 H1 locs1 hp11 hH hz1 => ?_)
        obtain ⟨⟨ip55, hR55, ea55, eb55, ec55⟩, hfr, hz2⟩ := hp11
        replace hz := hz2.trans hz
        clear hz1 hz2
        have fr13 := hfr
        replace hT := trAt.fr hT (fun q h1 h2 => fr13 q (by omega))
        replace w0 : M12 jo = some (.inr (3, [.ref (jo + 1), .ref (jo + 4), .ref (jo + 5), .ref (jo + 6), .ref (jo + 7), .int (iI ↑cn), .int (iI wy), .int (iI wt)])) := (fr13 _ (by omega)).trans w0
        replace w4 : M12 (jo + 4) = some (fI G 12 (fun j0 => iI (fi j0))) := (fr13 _ (by omega)).trans w4
        replace w5 : M12 (jo + 5) = some (fI G 12 (fun j0 => iI (se j0))) := (fr13 _ (by omega)).trans w5
        replace w6 : M12 (jo + 6) = some (fI G 12 (fun j0 => iI (th j0))) := (fr13 _ (by omega)).trans w6
        replace w7 : M12 (jo + 7) = some (fI G 12 (fun j0 => iI (du j0))) := (fr13 _ (by omega)).trans w7
        refine lv_aload_n E.1 E.2.1 dX3_hitsOf_43 rfl (lv_at hl 0 rfl) ?_
        refine fw_get E hK hH w0 fc_X3 0 (by decide) ql_RX3_12 rfl rfl dX3_hitsOf_44 ?_
        refine lv_aload_n E.1 E.2.1 dX3_hitsOf_47 rfl (lv_at hl 1 rfl) ?_
        refine lv_iconst (v := iI 0) E.1 E.2.1 dX3_hitsOf_48 (by decide) ?_
        refine fw_cV (As := [.ref a, .int (iI 0)]) (rest := []) E hK hH hl hR55.2.1 fc_X5 fL_X5_resultOf ql_RX3_50 qi_yX5_resultOf qv_yX5_resultOf (k_resultOf l G _ _ (jo + 1) a n 0 ip55 rs (casI fi se th i) C V sp hR55 ⟨_, _, _, _, hT, hag, hbd⟩ hv hn0 (by omega) (casI_ip ea55 eb55 ec55 hcb.1 hcb.2.1 hcb.2.2.1)) rfl rfl (Nat.le_of_ble_eq_true rfl) ⟨Nat.le_of_ble_eq_true rfl, Nat.le_of_ble_eq_true rfl⟩ ⟨Nat.le_of_ble_eq_true rfl, Nat.le_of_ble_eq_true rfl⟩ dX3_hitsOf_49 (fw_ki fun r16 M15 H1 locs1 hp14 hH hz1 => ?_)
        obtain ⟨rfl, ⟨rs70, hR70⟩, hfr, hz2⟩ := hp14
        replace hz := hz2.trans hz
        clear hz1 hz2
        have fr17 := hfr
        replace hT := trAt.fr hT (fun q h1 h2 => fr17 q (by omega))
        replace w0 : M15 jo = some (.inr (3, [.ref (jo + 1), .ref (jo + 4), .ref (jo + 5), .ref (jo + 6), .ref (jo + 7), .int (iI ↑cn), .int (iI wy), .int (iI wt)])) := (fr17 _ (by omega)).trans w0
        replace w4 : M15 (jo + 4) = some (fI G 12 (fun j0 => iI (fi j0))) := (fr17 _ (by omega)).trans w4
        replace w5 : M15 (jo + 5) = some (fI G 12 (fun j0 => iI (se j0))) := (fr17 _ (by omega)).trans w5
        replace w6 : M15 (jo + 6) = some (fI G 12 (fun j0 => iI (th j0))) := (fr17 _ (by omega)).trans w6
        replace w7 : M15 (jo + 7) = some (fI G 12 (fun j0 => iI (du j0))) := (fr17 _ (by omega)).trans w7
        refine lv_aload_n E.1 E.2.1 dX3_hitsOf_52 rfl (lv_at hl 0 rfl) ?_
        refine fw_get E hK hH w0 fc_X3 4 (by decide) ql_RX3_28 rfl rfl dX3_hitsOf_53 ?_
        refine lv_iload_n E.1 E.2.1 dX3_hitsOf_56 rfl (lv_at hl 3 rfl) ?_
        refine fw_cSN (As := [.ref (jo + 7), .int (iI ↑i)]) (rest := [.int (iI (evF (casI fi se th i) C V sp 0))]) E hK hH hl fL_X9_at ql_RX3_42 qs_yX9_at (k_at l G _ _ (jo + 7) 12 du ↑i i w7 (by omega) (by omega) (by omega)) rfl rfl (Nat.le_of_ble_eq_true rfl) ⟨Nat.le_of_ble_eq_true rfl, Nat.le_of_ble_eq_true rfl⟩ ⟨Nat.le_of_ble_eq_true rfl, Nat.le_of_ble_eq_true rfl⟩ dX3_hitsOf_57 (fw_ki fun r20 M19 H1 locs1 hp18 hH hz1 => ?_)
        obtain ⟨rfl, hM9, hz2⟩ := hp18
        refine fw_cv (y := iI (du i)) rfl ?_
        replace hz := hz2.trans hz
        clear hz1 hz2
        rw [hM9] at hH
        refine fw_icmp_ne (tgt := 66) E dX3_hitsOf_60 (by decide) (by omega) (by omega) (by omega) (by omega) (fun c21 => ?_) (fun c21 => ?_)
        · refine lv_iinc (v := iI (↑i + 1)) (lv' := [(3, .int (iI (↑i + 1))), (0, .ref jo), (1, .ref a), (2, .int (iI fo))]) E.1 E.2.1 dX3_hitsOf_66 hl (k := 3) rfl (iI_inc rfl) (by decide) rfl (fun ls hl => ?_)
          refine lv_goto (tgt := 4) E.1 E.2.1 dX3_hitsOf_69 (by decide) ?_
          exact ih4 (i + 1) fo ip55 rs70 _ _ _ _ (by omega) (by omega) (by show _ = hitS fi se th du C V sp i + (if _ = _ then _ else _); split <;> omega) (fun q hq => by rw [fr17 q (by omega), fr13 q (by omega)]; exact hfr0 q hq) hH (by omega) hT w0 w4 w5 w6 w7 hR70 (lv_sub hl [1, 2, 3, 0] rfl)
        · refine lv_iinc (v := iI (fo + 1)) (lv' := [(2, .int (iI (fo + 1))), (0, .ref jo), (1, .ref a), (3, .int (iI ↑i))]) E.1 E.2.1 dX3_hitsOf_63 hl (k := 2) rfl (iI_inc rfl) (by decide) rfl (fun ls hl => ?_)
          refine lv_iinc (v := iI (↑i + 1)) (lv' := [(3, .int (iI (↑i + 1))), (2, .int (iI (fo + 1))), (0, .ref jo), (1, .ref a)]) E.1 E.2.1 dX3_hitsOf_66 hl (k := 3) rfl (iI_inc rfl) (by decide) rfl (fun ls hl => ?_)
          refine lv_goto (tgt := 4) E.1 E.2.1 dX3_hitsOf_69 (by decide) ?_
          exact ih4 (i + 1) (fo + 1) ip55 rs70 _ _ _ _ (by omega) (by omega) (by show _ = hitS fi se th du C V sp i + (if _ = _ then _ else _); split <;> omega) (fun q hq => by rw [fr17 q (by omega), fr13 q (by omega)]; exact hfr0 q hq) hH (by omega) hT w0 w4 w5 w6 w7 hR70 (lv_sub hl [2, 3, 1, 0] rfl)
  exact loop4_1 (cn - 0 + 1) 0 0 ip rs _ _ _ _ (Nat.lt_succ_self _) (by omega) rfl (fun _ _ => rfl) hH (by omega) hT w0 w4 w5 w6 w7 hR (lv_sub hl [2, 3, 1, 0] rfl)
theorem k_judgeAdd (l : Launch) (G : fw_G) (M : fw_M) (N : Nat) (jo cn : Nat) (ip rs fi se th du : Nat → Int) (wy wt x y z w : Int) (hJ : jdAt G M jo ip rs fi se th du ↑cn wy wt) (hcn : cn < 12) : fMet l yX3_add cX3_add 5 none 1 60 0 0 G M N [.ref jo, .int (iI x), .int (iI y), .int (iI z), .int (iI w)] (fw_pv (fun M1 n1 => jdAt G M1 jo ip rs (zup fi cn x) (zup se cn y) (zup th cn z) (zup du cn w) (↑cn + 1) wy wt ∧ (∀ q, q < jo ∨ jo + 8 ≤ q → M1 q = M q) ∧ n1 = N)) := by
  refine fw_met RX3 rfl (by decide +kernel) (Nat.le_of_ble_eq_true rfl) ?_
  intro pG e s m args below meth cG ls E hr hlk hnm hK hH hz hl
  obtain ⟨hbj, w0, hR, w4, w5, w6, w7⟩ := hJ
  refine lv_aload_n E.1 E.2.1 dX3_add_0 rfl (lv_at hl 0 rfl) ?_
  refine fw_get E hK hH w0 fc_X3 1 (by decide) ql_RX3_18 rfl rfl dX3_add_1 ?_
  refine lv_aload_n E.1 E.2.1 dX3_add_4 rfl (lv_at hl 0 rfl) ?_
  refine fw_get E hK hH w0 fc_X3 5 (by decide) ql_RX3_35 rfl rfl dX3_add_5 ?_
  refine lv_iload_n E.1 E.2.1 dX3_add_8 rfl (lv_at hl 1 rfl) ?_
  refine fw_cSN (As := [.ref (jo + 4), .int (iI ↑cn), .int (iI x)]) (rest := []) E hK hH hl fL_X9_put ql_RX3_38 qs_yX9_put (k_put l G _ _ (jo + 4) 12 fi ↑cn cn x w4 (by omega) (by omega) (by omega) (by omega)) rfl rfl (Nat.le_of_ble_eq_true rfl) ⟨Nat.le_of_ble_eq_true rfl, Nat.le_of_ble_eq_true rfl⟩ ⟨Nat.le_of_ble_eq_true rfl, Nat.le_of_ble_eq_true rfl⟩ dX3_add_9 (fw_kv fun M2 H1 locs1 hp1 hH hz1 => ?_)
  obtain ⟨hM8, hz2⟩ := hp1
  have hfr : ∀ q, q ≠ jo + 4 → M2 q = M q := fun q h => by rw [hM8]; exact fw_up_ne h
  have w4 : M2 (jo + 4) = some (fI G 12 (fun j0 => iI ((zup fi cn x) j0))) := by rw [hM8]; exact fw_up_eq
  replace hz := hz2.trans hz
  clear hz1 hz2
  have fr3 := hfr
  replace w0 : M2 jo = some (.inr (3, [.ref (jo + 1), .ref (jo + 4), .ref (jo + 5), .ref (jo + 6), .ref (jo + 7), .int (iI ↑cn), .int (iI wy), .int (iI wt)])) := (fr3 _ (by omega)).trans w0
  replace w5 : M2 (jo + 5) = some (fI G 12 (fun j0 => iI (se j0))) := (fr3 _ (by omega)).trans w5
  replace w6 : M2 (jo + 6) = some (fI G 12 (fun j0 => iI (th j0))) := (fr3 _ (by omega)).trans w6
  replace w7 : M2 (jo + 7) = some (fI G 12 (fun j0 => iI (du j0))) := (fr3 _ (by omega)).trans w7
  replace hR := rkAt.fr hR (fun q h1 h2 => fr3 q (by omega))
  refine lv_aload_n E.1 E.2.1 dX3_add_12 rfl (lv_at hl 0 rfl) ?_
  refine fw_get E hK hH w0 fc_X3 2 (by decide) ql_RX3_22 rfl rfl dX3_add_13 ?_
  refine lv_aload_n E.1 E.2.1 dX3_add_16 rfl (lv_at hl 0 rfl) ?_
  refine fw_get E hK hH w0 fc_X3 5 (by decide) ql_RX3_35 rfl rfl dX3_add_17 ?_
  refine lv_iload_n E.1 E.2.1 dX3_add_20 rfl (lv_at hl 2 rfl) ?_
  refine fw_cSN (As := [.ref (jo + 5), .int (iI ↑cn), .int (iI y)]) (rest := []) E hK hH hl fL_X9_put ql_RX3_38 qs_yX9_put (k_put l G _ _ (jo + 5) 12 se ↑cn cn y w5 (by omega) (by omega) (by omega) (by omega)) rfl rfl (Nat.le_of_ble_eq_true rfl) ⟨Nat.le_of_ble_eq_true rfl, Nat.le_of_ble_eq_true rfl⟩ ⟨Nat.le_of_ble_eq_true rfl, Nat.le_of_ble_eq_true rfl⟩ dX3_add_21 (fw_kv fun M5 H1 locs1 hp4 hH hz1 => ?_)
  obtain ⟨hM8, hz2⟩ := hp4
  have hfr : ∀ q, q ≠ jo + 5 → M5 q = M2 q := fun q h => by rw [hM8]; exact fw_up_ne h
  have w5 : M5 (jo + 5) = some (fI G 12 (fun j0 => iI ((zup se cn y) j0))) := by rw [hM8]; exact fw_up_eq
  replace hz := hz2.trans hz
  clear hz1 hz2
  have fr6 := hfr
  replace w0 : M5 jo = some (.inr (3, [.ref (jo + 1), .ref (jo + 4), .ref (jo + 5), .ref (jo + 6), .ref (jo + 7), .int (iI ↑cn), .int (iI wy), .int (iI wt)])) := (fr6 _ (by omega)).trans w0
  replace w6 : M5 (jo + 6) = some (fI G 12 (fun j0 => iI (th j0))) := (fr6 _ (by omega)).trans w6
  replace w7 : M5 (jo + 7) = some (fI G 12 (fun j0 => iI (du j0))) := (fr6 _ (by omega)).trans w7
  replace hR := rkAt.fr hR (fun q h1 h2 => fr6 q (by omega))
  replace w4 : M5 (jo + 4) = some (fI G 12 (fun j0 => iI ((zup fi cn x) j0))) := (fr6 _ (by omega)).trans w4
  refine lv_aload_n E.1 E.2.1 dX3_add_24 rfl (lv_at hl 0 rfl) ?_
  refine fw_get E hK hH w0 fc_X3 3 (by decide) ql_RX3_25 rfl rfl dX3_add_25 ?_
  refine lv_aload_n E.1 E.2.1 dX3_add_28 rfl (lv_at hl 0 rfl) ?_
  refine fw_get E hK hH w0 fc_X3 5 (by decide) ql_RX3_35 rfl rfl dX3_add_29 ?_
  refine lv_iload_n E.1 E.2.1 dX3_add_32 rfl (lv_at hl 3 rfl) ?_
  refine fw_cSN (As := [.ref (jo + 6), .int (iI ↑cn), .int (iI z)]) (rest := []) E hK hH hl fL_X9_put ql_RX3_38 qs_yX9_put (k_put l G _ _ (jo + 6) 12 th ↑cn cn z w6 (by omega) (by omega) (by omega) (by omega)) rfl rfl (Nat.le_of_ble_eq_true rfl) ⟨Nat.le_of_ble_eq_true rfl, Nat.le_of_ble_eq_true rfl⟩ ⟨Nat.le_of_ble_eq_true rfl, Nat.le_of_ble_eq_true rfl⟩ dX3_add_33 (fw_kv fun M8 H1 locs1 hp7 hH hz1 => ?_)
  obtain ⟨hM8, hz2⟩ := hp7
  have hfr : ∀ q, q ≠ jo + 6 → M8 q = M5 q := fun q h => by rw [hM8]; exact fw_up_ne h
  have w6 : M8 (jo + 6) = some (fI G 12 (fun j0 => iI ((zup th cn z) j0))) := by rw [hM8]; exact fw_up_eq
  replace hz := hz2.trans hz
  clear hz1 hz2
  have fr9 := hfr
  replace w0 : M8 jo = some (.inr (3, [.ref (jo + 1), .ref (jo + 4), .ref (jo + 5), .ref (jo + 6), .ref (jo + 7), .int (iI ↑cn), .int (iI wy), .int (iI wt)])) := (fr9 _ (by omega)).trans w0
  replace w7 : M8 (jo + 7) = some (fI G 12 (fun j0 => iI (du j0))) := (fr9 _ (by omega)).trans w7
  replace hR := rkAt.fr hR (fun q h1 h2 => fr9 q (by omega))
  replace w4 : M8 (jo + 4) = some (fI G 12 (fun j0 => iI ((zup fi cn x) j0))) := (fr9 _ (by omega)).trans w4
  replace w5 : M8 (jo + 5) = some (fI G 12 (fun j0 => iI ((zup se cn y) j0))) := (fr9 _ (by omega)).trans w5
  refine lv_aload_n E.1 E.2.1 dX3_add_36 rfl (lv_at hl 0 rfl) ?_
  refine fw_get E hK hH w0 fc_X3 4 (by decide) ql_RX3_28 rfl rfl dX3_add_37 ?_
  refine lv_aload_n E.1 E.2.1 dX3_add_40 rfl (lv_at hl 0 rfl) ?_
  refine fw_get E hK hH w0 fc_X3 5 (by decide) ql_RX3_35 rfl rfl dX3_add_41 ?_
  refine lv_iload E.1 E.2.1 dX3_add_44 (lv_at hl 4 rfl) ?_
  refine fw_cSN (As := [.ref (jo + 7), .int (iI ↑cn), .int (iI w)]) (rest := []) E hK hH hl fL_X9_put ql_RX3_38 qs_yX9_put (k_put l G _ _ (jo + 7) 12 du ↑cn cn w w7 (by omega) (by omega) (by omega) (by omega)) rfl rfl (Nat.le_of_ble_eq_true rfl) ⟨Nat.le_of_ble_eq_true rfl, Nat.le_of_ble_eq_true rfl⟩ ⟨Nat.le_of_ble_eq_true rfl, Nat.le_of_ble_eq_true rfl⟩ dX3_add_46 (fw_kv fun M11 H1 locs1 hp10 hH hz1 => ?_)
  obtain ⟨hM8, hz2⟩ := hp10
  have hfr : ∀ q, q ≠ jo + 7 → M11 q = M8 q := fun q h => by rw [hM8]; exact fw_up_ne h
  have w7 : M11 (jo + 7) = some (fI G 12 (fun j0 => iI ((zup du cn w) j0))) := by rw [hM8]; exact fw_up_eq
  replace hz := hz2.trans hz
  clear hz1 hz2
  have fr12 := hfr
  replace w0 : M11 jo = some (.inr (3, [.ref (jo + 1), .ref (jo + 4), .ref (jo + 5), .ref (jo + 6), .ref (jo + 7), .int (iI ↑cn), .int (iI wy), .int (iI wt)])) := (fr12 _ (by omega)).trans w0
  replace hR := rkAt.fr hR (fun q h1 h2 => fr12 q (by omega))
  replace w4 : M11 (jo + 4) = some (fI G 12 (fun j0 => iI ((zup fi cn x) j0))) := (fr12 _ (by omega)).trans w4
  replace w5 : M11 (jo + 5) = some (fI G 12 (fun j0 => iI ((zup se cn y) j0))) := (fr12 _ (by omega)).trans w5
  replace w6 : M11 (jo + 6) = some (fI G 12 (fun j0 => iI ((zup th cn z) j0))) := (fr12 _ (by omega)).trans w6
  refine lv_aload_n E.1 E.2.1 dX3_add_49 rfl (lv_at hl 0 rfl) ?_
  refine lv_dup E.1 E.2.1 dX3_add_50 rfl ?_
  refine fw_get E hK hH w0 fc_X3 5 (by decide) ql_RX3_35 rfl rfl dX3_add_51 ?_
  refine lv_iconst (v := iI 1) E.1 E.2.1 dX3_add_54 (by decide) ?_
  refine fw_iadd E dX3_add_55 ?_
  refine fw_put E hK hH (by omega) w0 fc_X3 5 (by decide) ql_RX3_35 rfl rfl rfl rfl (Nat.le_of_ble_eq_true rfl) dX3_add_56 (fun H1 locs1 hH hz1 => ?_)
  replace hz := hz1.trans hz; clear hz1
  obtain ⟨M13, hM14⟩ : ∃ MX, MX = fw_up M11 jo (.inr (3, [.ref (jo + 1), .ref (jo + 4), .ref (jo + 5), .ref (jo + 6), .ref (jo + 7), .int (iI ((↑cn) + 1)), .int (iI wy), .int (iI wt)])) := ⟨_, rfl⟩
  replace hH := fw_H.nm hM14 hH
  have fr15 : ∀ q, q ≠ jo → M13 q = M11 q := fun q h => by rw [hM14]; exact fw_up_ne h
  replace hR := rkAt.fr hR (fun q h1 h2 => fr15 q (by omega))
  replace w4 : M13 (jo + 4) = some (fI G 12 (fun j0 => iI ((zup fi cn x) j0))) := (fr15 _ (by omega)).trans w4
  replace w5 : M13 (jo + 5) = some (fI G 12 (fun j0 => iI ((zup se cn y) j0))) := (fr15 _ (by omega)).trans w5
  replace w6 : M13 (jo + 6) = some (fI G 12 (fun j0 => iI ((zup th cn z) j0))) := (fr15 _ (by omega)).trans w6
  replace w7 : M13 (jo + 7) = some (fI G 12 (fun j0 => iI ((zup du cn w) j0))) := (fr15 _ (by omega)).trans w7
  have w0 : M13 jo = some (.inr (3, [.ref (jo + 1), .ref (jo + 4), .ref (jo + 5), .ref (jo + 6), .ref (jo + 7), .int (iI ((↑cn) + 1)), .int (iI wy), .int (iI wt)])) := by rw [hM14]; exact fw_up_eq
  refine fw_vret E hr hlk hH ?_ dX3_add_59
  exact ⟨⟨hbj, w0, hR, w4, w5, w6, w7⟩, (fun q hq => by rw [fr15 q (by omega), fr12 q (by omega), fr9 q (by omega), fr6 q (by omega), fr3 q (by omega)]), hz⟩

theorem lvF_le {n : Nat} {C : Nat → Int} {sp : Nat → Nat} (h : spOK n C sp) (hn : n ≤ 40) : lvF n C sp ≤ n := by
  unfold lvF
  by_cases h0 : n = 0
  · rw [if_pos h0]; omega
  · rw [if_neg h0]
    exact htF_le h hn n 0 (by omega) (by omega)
theorem nd_b {x v : Int} (h : ndOK x v) : -99 ≤ v ∧ v ≤ 99 := by
  obtain ⟨h1, h2, h3, h4⟩ := h
  rcases (show x = 0 ∨ x = 1 ∨ 2 ≤ x by omega) with e | e | e
  · exact h2 e
  · have := h3 e; omega
  · have := h4 e; omega
theorem kp_rp {n p q s r k : Nat} {f F : Nat → Int} (h1 : p + s ≤ n) (h2 : q + r ≤ n) (h3 : r ≤ s) (hr : 0 < r) (hf : ∀ k, k < n → f k = F k) (hk : k < n - s + r) : cgF (p + r) (p + s - (p + r)) (n - s + r) (kpF p q r f) k = rpF p s r q F F k := by
  unfold cgF kpF rpF
  rcases Nat.lt_or_ge k p with g | g
  · rw [if_neg (by omega), if_neg (by omega), if_pos g]; exact hf k (by omega)
  · rcases Nat.lt_or_ge k (p + r) with g2 | g2
    · rw [if_neg (by omega), if_pos (by omega), if_neg (by omega), if_pos g2]; exact hf _ (by omega)
    · rw [if_pos (by omega), if_neg (by omega), if_neg (by omega), if_neg (by omega), show k + (p + s - (p + r)) = k - r + s by omega]; exact hf _ (by omega)
theorem mc_rp {n p s k : Nat} {f F : Nat → Int} {x : Int} (h1 : p + s ≤ n) (h3 : 1 ≤ s) (hf : ∀ k, k < n → f k = F k) (hk : k < n - s + 1) : cgF (p + 1) (p + s - (p + 1)) (n - s + 1) (zup f p x) k = rpF p s 1 0 F (fun _ => x) k := by
  unfold cgF zup rpF
  rcases Nat.lt_or_ge k p with g | g
  · rw [if_neg (by omega), if_neg (by omega), if_pos g]; exact hf k (by omega)
  · rcases Nat.lt_or_ge k (p + 1) with g2 | g2
    · rw [if_neg (by omega), if_pos (by omega), if_neg (by omega), if_pos g2]
    · rw [if_pos (by omega), if_neg (by omega), if_neg (by omega), if_neg (by omega), show k + (p + s - (p + 1)) = k - 1 + s by omega]; exact hf _ (by omega)
theorem bc_rp {n n2 p q s r k : Nat} {f g h F H : Nat → Int} (h1 : p + s ≤ n) (h2 : q + r ≤ n2) (hg : ∀ k, k < n → g k = F k) (hh : ∀ k, k < n2 → h k = H k) (hk : k < n - s + r) : apF (p + r) (n - (p + s)) (p + s) (apF p r q (apF 0 p 0 f g) h) g k = rpF p s r q F H k := by
  unfold apF rpF
  rcases Nat.lt_or_ge k p with c | c
  · rw [if_neg (by omega), if_neg (by omega), if_pos (by omega), if_pos c, show 0 + (k - 0) = k by omega]; exact hg k (by omega)
  · rcases Nat.lt_or_ge k (p + r) with c2 | c2
    · rw [if_neg (by omega), if_pos (by omega), if_neg (by omega), if_pos c2]; exact hh _ (by omega)
    · rw [if_pos (by omega), if_neg (by omega), if_neg (by omega), show p + s + (k - (p + r)) = k - r + s by omega]; exact hg _ (by omega)
theorem one_spOK : spOK 1 (fun _ => 0) (fun _ => 1) := by
  intro k hk
  have e : arN 0 = 0 := by decide
  show (∀ p, p < arN 0 → _) ∧ k + 1 = chP _ k (arN 0)
  rw [e]
  exact ⟨fun p hp => absurd hp (Nat.not_lt_zero p), rfl⟩
theorem one_vtOK {v : Int} (h : -99 ≤ v ∧ v ≤ 99) : vtOK 1 (fun _ => 0) (fun _ => v) (fun _ => 1) := by
  refine ⟨⟨by omega, by omega⟩, rfl, by decide, one_spOK, fun k hk p hp => ?_, fun k hk => ⟨by show (0 : Int) ≤ 0 ∧ (0 : Int) ≤ 13; omega, fun _ => h, fun e => absurd e (by show ¬ (0 : Int) = 1; omega), fun e => absurd e (by show ¬ 2 ≤ (0 : Int); omega)⟩⟩
  have e : arN 0 = 0 := by decide
  have hp2 : p < arN 0 := hp
  rw [e] at hp2
  exact absurd hp2 (Nat.not_lt_zero p)
theorem k_keepPart (l : Launch) (G : fw_G) (M : fw_M) (N : Nat) (a n p q : Nat) (C V : Nat → Int) (sp : Nat → Nat) (hA : tw G M a n C V sp) (hv : vtOK n C V sp) (hp : p < n) (hq : q < n) (hpq : p ≤ q) (hqs : q + sp q ≤ p + sp p) (hpt : C p ≤ 8 ↔ C q ≤ 8) : fMet l yX8_keepPart cX8_keepPart 6 none 2 80 0 0 G M N [.ref a, .int (iI ↑p), .int (iI ↑q)] (fw_pv (fun M1 n1 => tw G M1 a (n - sp p + sp q) (rpF p (sp p) (sp q) q C C) (rpF p (sp p) (sp q) q V V) (rpS p (sp p) (sp q) q sp sp) ∧ (∀ q, q < a ∨ a + 5 ≤ q → M1 q = M q) ∧ n1 = N)) := by
  refine fw_met RX8 rfl (by decide +kernel) (Nat.le_of_ble_eq_true rfl) ?_
  intro pG e s m args below meth cG ls E hr hlk hnm hK hH hz hl
  obtain ⟨cs, vs, ss, hs, hT, hag, hbd⟩ := hA
  obtain ⟨⟨hn0, hn1⟩, hs0, hc0, hsp, hty, hnd⟩ := id hv
  have hpe := sp_le hsp hp
  have hp1 := sp_pos hsp hp
  have hqe := sp_le hsp hq
  have hq1 := sp_pos hsp hq
  refine lv_aload_n E.1 E.2.1 dX8_keepPart_0 rfl (lv_at hl 0 rfl) ?_
  refine lv_iload_n E.1 E.2.1 dX8_keepPart_1 rfl (lv_at hl 1 rfl) ?_
  refine fw_cV (As := [.int (iI ↑p)]) (rest := []) E hK hH hl hT.2.1 fc_X8 fL_X8_behind ql_RX8_35 qi_yX8_behind qv_yX8_behind (k_behind l G _ _ a cs vs ss hs (↑n : Int) (↑(lvF n C sp) : Int) ↑p p hT (by omega) (by omega)) rfl rfl (Nat.le_of_ble_eq_true rfl) ⟨Nat.le_of_ble_eq_true rfl, Nat.le_of_ble_eq_true rfl⟩ ⟨Nat.le_of_ble_eq_true rfl, Nat.le_of_ble_eq_true rfl⟩ dX8_keepPart_2 (fw_ki fun r3 M2 H1 locs1 hp1 hH hz1 => ?_)
  obtain ⟨rfl, hM9, hz2⟩ := hp1
  replace hz := hz2.trans hz
  clear hz1 hz2
  rw [hM9] at hH
  refine fw_cv (y := iI (↑(p + sp p) : Int)) (congrArg iI (by rw [(hag p hp).2.2]; omega)) ?_
  refine lv_istore_n (lv' := [(3, .int (iI (↑(p + sp p) : Int))), (0, .ref a), (1, .int (iI ↑p)), (2, .int (iI ↑q))]) E.1 E.2.1 dX8_keepPart_5 rfl hl (by decide) rfl (fun ls hl => ?_)
  refine lv_aload_n E.1 E.2.1 dX8_keepPart_6 rfl (lv_at hl 1 rfl) ?_
  refine lv_iload_n E.1 E.2.1 dX8_keepPart_7 rfl (lv_at hl 3 rfl) ?_
  refine fw_cV (As := [.int (iI ↑q)]) (rest := []) E hK hH hl hT.2.1 fc_X8 fL_X8_span ql_RX8_38 qi_yX8_span qv_yX8_span (k_span l G _ _ a cs vs ss hs (↑n : Int) (↑(lvF n C sp) : Int) ↑q q hT (by omega) (by omega)) rfl rfl (Nat.le_of_ble_eq_true rfl) ⟨Nat.le_of_ble_eq_true rfl, Nat.le_of_ble_eq_true rfl⟩ ⟨Nat.le_of_ble_eq_true rfl, Nat.le_of_ble_eq_true rfl⟩ dX8_keepPart_8 (fw_ki fun r6 M5 H1 locs1 hp4 hH hz1 => ?_)
  obtain ⟨rfl, hM9, hz2⟩ := hp4
  replace hz := hz2.trans hz
  clear hz1 hz2
  rw [hM9] at hH
  refine fw_cv (y := iI (↑(sp q) : Int)) (congrArg iI (hag q hq).2.2) ?_
  refine lv_istore (lv' := [(4, .int (iI (↑(sp q) : Int))), (3, .int (iI (↑(p + sp p) : Int))), (0, .ref a), (1, .int (iI ↑p)), (2, .int (iI ↑q))]) E.1 E.2.1 dX8_keepPart_11 hl (by decide) rfl (fun ls hl => ?_)
  refine lv_iconst (v := iI 0) E.1 E.2.1 dX8_keepPart_13 (by decide) ?_
  refine lv_istore (lv' := [(5, .int (iI 0)), (4, .int (iI (↑(sp q) : Int))), (3, .int (iI (↑(p + sp p) : Int))), (0, .ref a), (1, .int (iI ↑p)), (2, .int (iI ↑q))]) E.1 E.2.1 dX8_keepPart_14 hl (by decide) rfl (fun ls hl => ?_)
  have loop16_1 : ∀ (d16 : Nat) (i : Nat) (Mw16 : fw_M) (H : Heap) (locs : List Loc) (ls : Array Slot), sp q - i < d16 → i ≤ sp q → (∀ q, q < a ∨ a + 5 ≤ q → Mw16 q = M q) → fw_H G s Mw16 H locs → H.size = N → trAt G Mw16 a (kpF p q i cs) (kpF p q i vs) ss hs (↑n : Int) (↑(lvF n C sp) : Int) → lv_has ls 6 [(0, .ref a), (1, .int (iI ↑p)), (2, .int (iI ↑q)), (3, .int (iI (↑(p + sp p) : Int))), (4, .int (iI (↑(sp q) : Int))), (5, .int (iI ↑i))] → W pG l e ({ frames := 2, cells := 0, slots := 0, locals := 80 } : Room) s m args below meth cG H locs (0) (0) (MQ below (fw_Q G (fw_pv (fun M1 n1 => tw G M1 a (n - sp p + sp q) (rpF p (sp p) (sp q) q C C) (rpF p (sp p) (sp q) q V V) (rpS p (sp p) (sp q) q sp sp) ∧ (∀ q, q < a ∨ a + 5 ≤ q → M1 q = M q) ∧ n1 = N))) args s 0 0 (fun q => G.2.2.1 ≤ q)) (F0 m 16 ls []) := by
    intro d16
    induction d16 with
    | zero => intro i Mw16 H locs ls hd; exact absurd hd (Nat.not_lt_zero _)
    | succ d16 ih16 =>
      intro i Mw16 H locs ls hd16 i1 hfr0 hH hz hT hl
      refine lv_iload E.1 E.2.1 dX8_keepPart_16 (lv_at hl 5 rfl) ?_
      refine lv_iload E.1 E.2.1 dX8_keepPart_18 (lv_at hl 4 rfl) ?_
      refine fw_icmp_ge (tgt := 53) E dX8_keepPart_20 (by decide) (by omega) (by omega) (by omega) (by omega) (fun c7 => ?_) (fun c7 => ?_)
      · have e9 : i = sp q := by omega
        rw [e9] at hT
        refine lv_aload_n E.1 E.2.1 dX8_keepPart_53 rfl (lv_at hl 0 rfl) ?_
        refine lv_iload_n E.1 E.2.1 dX8_keepPart_54 rfl (lv_at hl 1 rfl) ?_
        refine lv_iload E.1 E.2.1 dX8_keepPart_55 (lv_at hl 4 rfl) ?_
        refine fw_iadd E dX8_keepPart_57 ?_
        refine fw_cv (y := iI (↑(p + sp q) : Int)) (congrArg iI (by omega)) ?_
        refine lv_iload_n E.1 E.2.1 dX8_keepPart_58 rfl (lv_at hl 3 rfl) ?_
        refine fw_cV (As := [.int (iI (↑(p + sp q) : Int)), .int (iI (↑(p + sp p) : Int))]) (rest := []) E hK hH hl hT.2.1 fc_X8 fL_X8_closeGap ql_RX8_70 qi_yX8_closeGap qv_yX8_closeGap (k_closeGap l G _ _ a (kpF p q (sp q) cs) (kpF p q (sp q) vs) ss hs (↑(lvF n C sp) : Int) n (p + sp q) (p + sp p) hT (by omega) (by omega) (by omega)) rfl rfl (Nat.le_of_ble_eq_true rfl) ⟨Nat.le_of_ble_eq_true rfl, Nat.le_of_ble_eq_true rfl⟩ ⟨Nat.le_of_ble_eq_true rfl, Nat.le_of_ble_eq_true rfl⟩ dX8_keepPart_59 (fw_kv fun M9 H1 locs1 hp8 hH hz1 => ?_)
        obtain ⟨hT46, hfr, hz2⟩ := hp8
        replace hz := hz2.trans hz
        clear hz1 hz2
        have fr10 := hfr
        rw [show n - (p + sp p - (p + sp q)) = n - sp p + sp q by omega] at hT46
        refine lv_aload_n E.1 E.2.1 dX8_keepPart_62 rfl (lv_at hl 0 rfl) ?_
        refine fw_cV (As := []) (rest := []) E hK hH hl hT46.2.1 fc_X8 fL_X8_measure ql_RX8_67 qi_yX8_measure qv_yX8_measure (k_measure l G _ _ a (cgF (p + sp q) (p + sp p - (p + sp q)) (n - sp p + sp q) (kpF p q (sp q) cs)) (cgF (p + sp q) (p + sp p - (p + sp q)) (n - sp p + sp q) (kpF p q (sp q) vs)) ss hs (↑(lvF n C sp) : Int) (n - sp p + sp q) (rpS p (sp p) (sp q) q sp sp) hT46 (by omega) (spOK_congr (fun k hk => kp_rp hpe hqe (by omega) hq1 (fun k hk => (hag k hk).1) hk) (rp_spOK hsp hp hsp hq)) (fun k hk => by rw [(fun k hk => kp_rp hpe hqe (by omega) hq1 (fun k hk => (hag k hk).1) hk) k hk]; exact ((rp_vtOK hv hp hv hq hpt (by omega)).2.2.2.2.2 k hk).1)) rfl rfl (Nat.le_of_ble_eq_true rfl) ⟨Nat.le_of_ble_eq_true rfl, Nat.le_of_ble_eq_true rfl⟩ ⟨Nat.le_of_ble_eq_true rfl, Nat.le_of_ble_eq_true rfl⟩ dX8_keepPart_63 (fw_kv fun M12 H1 locs1 hp11 hH hz1 => ?_)
        obtain ⟨hT53, hfr, hz2⟩ := hp11
        replace hz := hz2.trans hz
        clear hz1 hz2
        have fr13 := hfr
        refine fw_vret E hr hlk hH ?_ dX8_keepPart_66
        exact ⟨tw_of hT53 (rp_spOK hsp hp hsp hq) (by omega) (fun k hk => ⟨kp_rp hpe hqe (by omega) hq1 (fun k hk => (hag k hk).1) hk, kp_rp hpe hqe (by omega) hq1 (fun k hk => (hag k hk).2.1) hk⟩) hbd, (fun q hq => by rw [fr13 q (by omega), fr10 q (by omega)]; exact hfr0 q hq), hz⟩
      · have hqi : q + i < n := by omega
        have hni := hnd (q + i) hqi
        rw [← (hag (q + i) hqi).1, ← (hag (q + i) hqi).2.1] at hni
        have hnb := nd_b hni
        have hnc := hni.1
        refine lv_aload_n E.1 E.2.1 dX8_keepPart_23 rfl (lv_at hl 0 rfl) ?_
        refine lv_iload_n E.1 E.2.1 dX8_keepPart_24 rfl (lv_at hl 1 rfl) ?_
        refine lv_iload E.1 E.2.1 dX8_keepPart_25 (lv_at hl 5 rfl) ?_
        refine fw_iadd E dX8_keepPart_27 ?_
        refine lv_aload_n E.1 E.2.1 dX8_keepPart_28 rfl (lv_at hl 0 rfl) ?_
        refine lv_iload_n E.1 E.2.1 dX8_keepPart_29 rfl (lv_at hl 2 rfl) ?_
        refine lv_iload E.1 E.2.1 dX8_keepPart_30 (lv_at hl 5 rfl) ?_
        refine fw_iadd E dX8_keepPart_32 ?_
        refine fw_cV (As := [.int (iI ((↑q) + (↑i)))]) (rest := [.int (iI ((↑p) + (↑i))), .ref a]) E hK hH hl hT.2.1 fc_X8 fL_X8_code ql_RX8_28 qi_yX8_code qv_yX8_code (k_code l G _ _ a (kpF p q i cs) (kpF p q i vs) ss hs (↑n : Int) (↑(lvF n C sp) : Int) ((↑q) + (↑i)) (q + i) hT (by omega) (by omega)) rfl rfl (Nat.le_of_ble_eq_true rfl) ⟨Nat.le_of_ble_eq_true rfl, Nat.le_of_ble_eq_true rfl⟩ ⟨Nat.le_of_ble_eq_true rfl, Nat.le_of_ble_eq_true rfl⟩ dX8_keepPart_33 (fw_ki fun r16 M15 H1 locs1 hp14 hH hz1 => ?_)
        obtain ⟨rfl, hM9, hz2⟩ := hp14
        replace hz := hz2.trans hz
        clear hz1 hz2
        rw [hM9] at hH
        refine fw_cv (y := iI (cs (q + i))) (congrArg iI (kpF_at hpq cs)) ?_
        refine lv_aload_n E.1 E.2.1 dX8_keepPart_36 rfl (lv_at hl 0 rfl) ?_
        refine lv_iload_n E.1 E.2.1 dX8_keepPart_37 rfl (lv_at hl 2 rfl) ?_
        refine lv_iload E.1 E.2.1 dX8_keepPart_38 (lv_at hl 5 rfl) ?_
        refine fw_iadd E dX8_keepPart_40 ?_
        refine fw_cV (As := [.int (iI ((↑q) + (↑i)))]) (rest := [.int (iI (cs (q + i))), .int (iI ((↑p) + (↑i))), .ref a]) E hK hH hl hT.2.1 fc_X8 fL_X8_value ql_RX8_32 qi_yX8_value qv_yX8_value (k_value l G _ _ a (kpF p q i cs) (kpF p q i vs) ss hs (↑n : Int) (↑(lvF n C sp) : Int) ((↑q) + (↑i)) (q + i) hT (by omega) (by omega)) rfl rfl (Nat.le_of_ble_eq_true rfl) ⟨Nat.le_of_ble_eq_true rfl, Nat.le_of_ble_eq_true rfl⟩ ⟨Nat.le_of_ble_eq_true rfl, Nat.le_of_ble_eq_true rfl⟩ dX8_keepPart_41 (fw_ki fun r19 M18 H1 locs1 hp17 hH hz1 => ?_)
        obtain ⟨rfl, hM9, hz2⟩ := hp17
        replace hz := hz2.trans hz
        clear hz1 hz2
        rw [hM9] at hH
        refine fw_cv (y := iI (vs (q + i))) (congrArg iI (kpF_at hpq vs)) ?_
        refine fw_cV (As := [.int (iI ((↑p) + (↑i))), .int (iI (cs (q + i))), .int (iI (vs (q + i)))]) (rest := []) E hK hH hl hT.2.1 fc_X8 fL_X8_write ql_RX8_59 qi_yX8_write qv_yX8_write (k_write l G _ _ a (kpF p q i cs) (kpF p q i vs) ss hs (↑n : Int) (↑(lvF n C sp) : Int) ((↑p) + (↑i)) (p + i) (cs (q + i)) (vs (q + i)) hT (by omega) (by omega) (by omega) (by omega)) rfl rfl (Nat.le_of_ble_eq_true rfl) ⟨Nat.le_of_ble_eq_true rfl, Nat.le_of_ble_eq_true rfl⟩ ⟨Nat.le_of_ble_eq_true rfl, Nat.le_of_ble_eq_true rfl⟩ dX8_keepPart_44 (fw_kv fun M21 H1 locs1 hp20 hH hz1 => ?_)
        obtain ⟨hT89, hfr, hz2⟩ := hp20
        replace hz := hz2.trans hz
        clear hz1 hz2
        have fr22 := hfr
        refine lv_iinc (v := iI (↑i + 1)) (lv' := [(5, .int (iI (↑i + 1))), (0, .ref a), (1, .int (iI ↑p)), (2, .int (iI ↑q)), (3, .int (iI (↑(p + sp p) : Int))), (4, .int (iI (↑(sp q) : Int)))]) E.1 E.2.1 dX8_keepPart_47 hl (k := 5) rfl (iI_inc rfl) (by decide) rfl (fun ls hl => ?_)
        refine lv_goto (tgt := 16) E.1 E.2.1 dX8_keepPart_50 (by decide) ?_
        exact ih16 (i + 1) _ _ _ _ (by omega) (by omega) (fun q hq => by rw [fr22 q (by omega)]; exact hfr0 q hq) hH (by omega) (by rw [kpF_step, nd_w hni, kpF_step] at hT89; exact hT89) (lv_sub hl [1, 2, 3, 4, 5, 0] rfl)
  exact loop16_1 (sp q - 0 + 1) 0 _ _ _ _ (Nat.lt_succ_self _) (Nat.zero_le _) (fun _ _ => rfl) hH (by omega) (by rw [kpF_0, kpF_0]; exact hT) (lv_sub hl [3, 4, 5, 2, 1, 0] rfl)
theorem k_makeConstant (l : Launch) (G : fw_G) (M : fw_M) (N : Nat) (a n p : Nat) (v : Int) (C V : Nat → Int) (sp : Nat → Nat) (hA : tw G M a n C V sp) (hv : vtOK n C V sp) (hp : p < n) (hpt : C p ≤ 8) (hvv : -99 ≤ v ∧ v ≤ 99) : fMet l yX8_makeConstant cX8_makeConstant 4 none 2 80 0 0 G M N [.ref a, .int (iI ↑p), .int (iI v)] (fw_pv (fun M1 n1 => tw G M1 a (n - sp p + 1) (rpF p (sp p) 1 0 C (fun _ => 0)) (rpF p (sp p) 1 0 V (fun _ => v)) (rpS p (sp p) 1 0 sp (fun _ => 1)) ∧ (∀ q, q < a ∨ a + 5 ≤ q → M1 q = M q) ∧ n1 = N)) := by
  refine fw_met RX8 rfl (by decide +kernel) (Nat.le_of_ble_eq_true rfl) ?_
  intro pG e s m args below meth cG ls E hr hlk hnm hK hH hz hl
  obtain ⟨cs, vs, ss, hs, hT, hag, hbd⟩ := hA
  obtain ⟨⟨hn0, hn1⟩, hs0, hc0, hsp, hty, hnd⟩ := id hv
  have hpe := sp_le hsp hp
  have hp1 := sp_pos hsp hp
  refine lv_aload_n E.1 E.2.1 dX8_makeConstant_0 rfl (lv_at hl 0 rfl) ?_
  refine lv_iload_n E.1 E.2.1 dX8_makeConstant_1 rfl (lv_at hl 1 rfl) ?_
  refine fw_cV (As := [.int (iI ↑p)]) (rest := []) E hK hH hl hT.2.1 fc_X8 fL_X8_behind ql_RX8_35 qi_yX8_behind qv_yX8_behind (k_behind l G _ _ a cs vs ss hs (↑n : Int) (↑(lvF n C sp) : Int) ↑p p hT (by omega) (by omega)) rfl rfl (Nat.le_of_ble_eq_true rfl) ⟨Nat.le_of_ble_eq_true rfl, Nat.le_of_ble_eq_true rfl⟩ ⟨Nat.le_of_ble_eq_true rfl, Nat.le_of_ble_eq_true rfl⟩ dX8_makeConstant_2 (fw_ki fun r3 M2 H1 locs1 hp1 hH hz1 => ?_)
  obtain ⟨rfl, hM9, hz2⟩ := hp1
  replace hz := hz2.trans hz
  clear hz1 hz2
  rw [hM9] at hH
  refine fw_cv (y := iI (↑(p + sp p) : Int)) (congrArg iI (by rw [(hag p hp).2.2]; omega)) ?_
  refine lv_istore_n (lv' := [(3, .int (iI (↑(p + sp p) : Int))), (0, .ref a), (1, .int (iI ↑p)), (2, .int (iI v))]) E.1 E.2.1 dX8_makeConstant_5 rfl hl (by decide) rfl (fun ls hl => ?_)
  refine lv_aload_n E.1 E.2.1 dX8_makeConstant_6 rfl (lv_at hl 1 rfl) ?_
  refine lv_iload_n E.1 E.2.1 dX8_makeConstant_7 rfl (lv_at hl 2 rfl) ?_
  refine lv_iconst (v := iI 0) E.1 E.2.1 dX8_makeConstant_8 (by decide) ?_
  refine lv_iload_n E.1 E.2.1 dX8_makeConstant_9 rfl (lv_at hl 3 rfl) ?_
  refine fw_cV (As := [.int (iI ↑p), .int (iI 0), .int (iI v)]) (rest := []) E hK hH hl hT.2.1 fc_X8 fL_X8_write ql_RX8_59 qi_yX8_write qv_yX8_write (k_write l G _ _ a cs vs ss hs (↑n : Int) (↑(lvF n C sp) : Int) ↑p p 0 v hT (by omega) (by omega) (by omega) (by omega)) rfl rfl (Nat.le_of_ble_eq_true rfl) ⟨Nat.le_of_ble_eq_true rfl, Nat.le_of_ble_eq_true rfl⟩ ⟨Nat.le_of_ble_eq_true rfl, Nat.le_of_ble_eq_true rfl⟩ dX8_makeConstant_10 (fw_kv fun M5 H1 locs1 hp4 hH hz1 => ?_)
  obtain ⟨hT20, hfr, hz2⟩ := hp4
  replace hz := hz2.trans hz
  clear hz1 hz2
  have fr6 := hfr
  refine lv_aload_n E.1 E.2.1 dX8_makeConstant_13 rfl (lv_at hl 1 rfl) ?_
  refine lv_iload_n E.1 E.2.1 dX8_makeConstant_14 rfl (lv_at hl 2 rfl) ?_
  refine lv_iconst (v := iI 1) E.1 E.2.1 dX8_makeConstant_15 (by decide) ?_
  refine fw_iadd E dX8_makeConstant_16 ?_
  refine fw_cv (y := iI (↑(p + 1) : Int)) (congrArg iI (by omega)) ?_
  refine lv_iload_n E.1 E.2.1 dX8_makeConstant_17 rfl (lv_at hl 0 rfl) ?_
  refine fw_cV (As := [.int (iI (↑(p + 1) : Int)), .int (iI (↑(p + sp p) : Int))]) (rest := []) E hK hH hl hT20.2.1 fc_X8 fL_X8_closeGap ql_RX8_70 qi_yX8_closeGap qv_yX8_closeGap (k_closeGap l G _ _ a (zup cs p 0) (zup vs p (if 0 ≤ 1 then v else 0)) ss hs (↑(lvF n C sp) : Int) n (p + 1) (p + sp p) hT20 (by omega) (by omega) (by omega)) rfl rfl (Nat.le_of_ble_eq_true rfl) ⟨Nat.le_of_ble_eq_true rfl, Nat.le_of_ble_eq_true rfl⟩ ⟨Nat.le_of_ble_eq_true rfl, Nat.le_of_ble_eq_true rfl⟩ dX8_makeConstant_18 (fw_kv fun M8 H1 locs1 hp7 hH hz1 => ?_)
  obtain ⟨hT31, hfr, hz2⟩ := hp7
  replace hz := hz2.trans hz
  clear hz1 hz2
  have fr9 := hfr
  rw [show n - (p + sp p - (p + 1)) = n - sp p + 1 by omega] at hT31
  refine lv_aload_n E.1 E.2.1 dX8_makeConstant_21 rfl (lv_at hl 1 rfl) ?_
  refine fw_cV (As := []) (rest := []) E hK hH hl hT31.2.1 fc_X8 fL_X8_measure ql_RX8_67 qi_yX8_measure qv_yX8_measure (k_measure l G _ _ a (cgF (p + 1) (p + sp p - (p + 1)) (n - sp p + 1) (zup cs p 0)) (cgF (p + 1) (p + sp p - (p + 1)) (n - sp p + 1) (zup vs p (if 0 ≤ 1 then v else 0))) ss hs (↑(lvF n C sp) : Int) (n - sp p + 1) (rpS p (sp p) 1 0 sp (fun _ => 1)) hT31 (by omega) (spOK_congr (fun k hk => mc_rp hpe hp1 (fun k hk => (hag k hk).1) hk) (rp_spOK hsp hp one_spOK (show 0 < 1 by omega))) (fun k hk => by rw [(fun k hk => mc_rp hpe hp1 (fun k hk => (hag k hk).1) hk) k hk]; exact ((rp_vtOK hv hp (one_vtOK hvv) (show 0 < 1 by omega) (by omega) (by show n - sp p + 1 ≤ 40; omega)).2.2.2.2.2 k hk).1)) rfl rfl (Nat.le_of_ble_eq_true rfl) ⟨Nat.le_of_ble_eq_true rfl, Nat.le_of_ble_eq_true rfl⟩ ⟨Nat.le_of_ble_eq_true rfl, Nat.le_of_ble_eq_true rfl⟩ dX8_makeConstant_22 (fw_kv fun M11 H1 locs1 hp10 hH hz1 => ?_)
  obtain ⟨hT38, hfr, hz2⟩ := hp10
  replace hz := hz2.trans hz
  clear hz1 hz2
  have fr12 := hfr
  refine fw_vret E hr hlk hH ?_ dX8_makeConstant_25
  exact ⟨tw_of hT38 (rp_spOK hsp hp one_spOK (show 0 < 1 by omega)) (by omega) (fun k hk => ⟨mc_rp hpe hp1 (fun k hk => (hag k hk).1) hk, mc_rp hpe hp1 (fun k hk => (hag k hk).2.1) hk⟩) hbd, (fun q hq => by rw [fr12 q (by omega), fr9 q (by omega), fr6 q (by omega)]), hz⟩
set_option maxHeartbeats 4000000 in
theorem k_becomeCrossed (l : Launch) (G : fw_G) (M : fw_M) (N : Nat) (a f o n p n2 q : Nat) (C V : Nat → Int) (sp : Nat → Nat) (C2 V2 : Nat → Int) (sp2 : Nat → Nat) (hA : tany G M a) (hF : tw G M f n C V sp) (hO : tw G M o n2 C2 V2 sp2) (hv : vtOK n C V sp) (hv2 : vtOK n2 C2 V2 sp2) (hp : p < n) (hq : q < n2) (haf : a + 5 ≤ f ∨ f + 5 ≤ a) (hao : a + 5 ≤ o ∨ o + 5 ≤ a) : fMet l yX8_becomeCrossed cX8_becomeCrossed 6 (some .boolean) 2 80 0 0 G M N [.ref a, .ref f, .int (iI ↑p), .ref o, .int (iI ↑q)] (fw_pi (fun r M1 n1 => ∃ b : Int, r = iI b ∧ ((¬ ((C p ≤ 8 ↔ C2 q ≤ 8) ∧ n - sp p + sp2 q ≤ 40) ∧ b = 0 ∧ M1 = M) ∨ (((C p ≤ 8 ↔ C2 q ≤ 8) ∧ n - sp p + sp2 q ≤ 40) ∧ tw G M1 a (n - sp p + sp2 q) (rpF p (sp p) (sp2 q) q C C2) (rpF p (sp p) (sp2 q) q V V2) (rpS p (sp p) (sp2 q) q sp sp2) ∧ ((b = 1 ∧ lvF (n - sp p + sp2 q) (rpF p (sp p) (sp2 q) q C C2) (rpS p (sp p) (sp2 q) q sp sp2) ≤ 8) ∨ (b = 0 ∧ 8 < lvF (n - sp p + sp2 q) (rpF p (sp p) (sp2 q) q C C2) (rpS p (sp p) (sp2 q) q sp sp2))))) ∧ (∀ q, q < a ∨ a + 5 ≤ q → M1 q = M q) ∧ n1 = N)) := by
  refine fw_met RX8 rfl (by decide +kernel) (Nat.le_of_ble_eq_true rfl) ?_
  intro pG e s m args below meth cG ls E hr hlk hnm hK hH hz hl
  obtain ⟨cs, vs, ss, hs, n0, lv, hT, hbd⟩ := hA
  obtain ⟨cs1, vs1, ss1, hs1, hT1, hag1, hbd1⟩ := hF
  obtain ⟨cs2, vs2, ss2, hs2, hT2, hag2, hbd2⟩ := hO
  obtain ⟨⟨hn0, hn1⟩, hs0, hc0, hsp, hty, hnd⟩ := id hv
  obtain ⟨⟨hm0, hm1⟩, hs02, hc02, hsp2, hty2, hnd2⟩ := id hv2
  have hpe := sp_le hsp hp
  have hp1 := sp_pos hsp hp
  have hqe := sp_le hsp2 hq
  have hq1 := sp_pos hsp2 hq
  have hcp := (hag1 p hp).1
  have hcq := (hag2 q hq).1
  have hndp := (hnd p hp).1
  have hndq := (hnd2 q hq).1
  refine lv_aload_n E.1 E.2.1 dX8_becomeCrossed_0 rfl (lv_at hl 1 rfl) ?_
  refine fw_get E hK hH hT1.2.1 fc_X8 4 (by decide) ql_RX8_41 rfl rfl dX8_becomeCrossed_1 ?_
  refine lv_aload_n E.1 E.2.1 dX8_becomeCrossed_4 rfl (lv_at hl 1 rfl) ?_
  refine lv_iload_n E.1 E.2.1 dX8_becomeCrossed_5 rfl (lv_at hl 2 rfl) ?_
  refine fw_cV (As := [.int (iI ↑p)]) (rest := [.int (iI ((↑n : Int)))]) E hK hH hl hT1.2.1 fc_X8 fL_X8_span ql_RX8_38 qi_yX8_span qv_yX8_span (k_span l G _ _ f cs1 vs1 ss1 hs1 (↑n : Int) (↑(lvF n C sp) : Int) ↑p p hT1 (by omega) (by omega)) rfl rfl (Nat.le_of_ble_eq_true rfl) ⟨Nat.le_of_ble_eq_true rfl, Nat.le_of_ble_eq_true rfl⟩ ⟨Nat.le_of_ble_eq_true rfl, Nat.le_of_ble_eq_true rfl⟩ dX8_becomeCrossed_6 (fw_ki fun r3 M2 H1 locs1 hp1 hH hz1 => ?_)
  obtain ⟨rfl, hM9, hz2⟩ := hp1
  replace hz := hz2.trans hz
  clear hz1 hz2
  rw [hM9] at hH
  refine fw_cv (y := iI (↑(sp p) : Int)) (congrArg iI (hag1 p hp).2.2) ?_
  refine fw_isub E dX8_becomeCrossed_9 ?_
  refine lv_aload_n E.1 E.2.1 dX8_becomeCrossed_10 rfl (lv_at hl 3 rfl) ?_
  refine lv_iload E.1 E.2.1 dX8_becomeCrossed_11 (lv_at hl 4 rfl) ?_
  refine fw_cV (As := [.int (iI ↑q)]) (rest := [.int (iI ((↑n : Int) - (↑(sp p) : Int)))]) E hK hH hl hT2.2.1 fc_X8 fL_X8_span ql_RX8_38 qi_yX8_span qv_yX8_span (k_span l G _ _ o cs2 vs2 ss2 hs2 (↑n2 : Int) (↑(lvF n2 C2 sp2) : Int) ↑q q hT2 (by omega) (by omega)) rfl rfl (Nat.le_of_ble_eq_true rfl) ⟨Nat.le_of_ble_eq_true rfl, Nat.le_of_ble_eq_true rfl⟩ ⟨Nat.le_of_ble_eq_true rfl, Nat.le_of_ble_eq_true rfl⟩ dX8_becomeCrossed_13 (fw_ki fun r6 M5 H1 locs1 hp4 hH hz1 => ?_)
  obtain ⟨rfl, hM9, hz2⟩ := hp4
  replace hz := hz2.trans hz
  clear hz1 hz2
  rw [hM9] at hH
  refine fw_cv (y := iI (↑(sp2 q) : Int)) (congrArg iI (hag2 q hq).2.2) ?_
  refine fw_iadd E dX8_becomeCrossed_16 ?_
  refine lv_istore (lv' := [(5, .int (iI (((↑n : Int) - (↑(sp p) : Int)) + (↑(sp2 q) : Int)))), (0, .ref a), (1, .ref f), (2, .int (iI ↑p)), (3, .ref o), (4, .int (iI ↑q))]) E.1 E.2.1 dX8_becomeCrossed_17 hl (by decide) rfl (fun ls hl => ?_)
  refine lv_aload_n E.1 E.2.1 dX8_becomeCrossed_19 rfl (lv_at hl 2 rfl) ?_
  refine lv_iload_n E.1 E.2.1 dX8_becomeCrossed_20 rfl (lv_at hl 3 rfl) ?_
  refine fw_cV (As := [.int (iI ↑p)]) (rest := []) E hK hH hl hT1.2.1 fc_X8 fL_X8_isNumber ql_RX8_51 qi_yX8_isNumber qv_yX8_isNumber (k_isNumber l G _ _ f cs1 vs1 ss1 hs1 (↑n : Int) (↑(lvF n C sp) : Int) ↑p p hT1 (by omega) (by omega) (by omega)) rfl rfl (Nat.le_of_ble_eq_true rfl) ⟨Nat.le_of_ble_eq_true rfl, Nat.le_of_ble_eq_true rfl⟩ ⟨Nat.le_of_ble_eq_true rfl, Nat.le_of_ble_eq_true rfl⟩ dX8_becomeCrossed_21 (fw_ki fun r10 M9 H1 locs1 hp8 hH hz1 => ?_)
  obtain ⟨rfl, hM9, hz2⟩ := hp8
  obtain ⟨b7, hb7⟩ : ∃ y, y = (if cs1 p ≤ 8 then (1 : Int) else 0) := ⟨_, rfl⟩
  refine fw_cv (y := iI b7) (by rw [hb7]) ?_
  replace hb7 : (b7 = 1 ∧ cs1 p ≤ 8) ∨ (b7 = 0 ∧ 8 < cs1 p) := by rw [hb7]; split <;> omega
  replace hz := hz2.trans hz
  clear hz1 hz2
  rw [hM9] at hH
  refine lv_aload_n E.1 E.2.1 dX8_becomeCrossed_24 rfl (lv_at hl 4 rfl) ?_
  refine lv_iload E.1 E.2.1 dX8_becomeCrossed_25 (lv_at hl 5 rfl) ?_
  refine fw_cV (As := [.int (iI ↑q)]) (rest := [.int (iI b7)]) E hK hH hl hT2.2.1 fc_X8 fL_X8_isNumber ql_RX8_51 qi_yX8_isNumber qv_yX8_isNumber (k_isNumber l G _ _ o cs2 vs2 ss2 hs2 (↑n2 : Int) (↑(lvF n2 C2 sp2) : Int) ↑q q hT2 (by omega) (by omega) (by omega)) rfl rfl (Nat.le_of_ble_eq_true rfl) ⟨Nat.le_of_ble_eq_true rfl, Nat.le_of_ble_eq_true rfl⟩ ⟨Nat.le_of_ble_eq_true rfl, Nat.le_of_ble_eq_true rfl⟩ dX8_becomeCrossed_27 (fw_ki fun r14 M13 H1 locs1 hp12 hH hz1 => ?_)
  obtain ⟨rfl, hM9, hz2⟩ := hp12
  obtain ⟨b11, hb11⟩ : ∃ y, y = (if cs2 q ≤ 8 then (1 : Int) else 0) := ⟨_, rfl⟩
  refine fw_cv (y := iI b11) (by rw [hb11]) ?_
  replace hb11 : (b11 = 1 ∧ cs2 q ≤ 8) ∨ (b11 = 0 ∧ 8 < cs2 q) := by rw [hb11]; split <;> omega
  replace hz := hz2.trans hz
  clear hz1 hz2
  rw [hM9] at hH
  refine fw_icmp_ne (tgt := 40) E dX8_becomeCrossed_30 (by decide) (by omega) (by omega) (by omega) (by omega) (fun c15 => ?_) (fun c15 => ?_)
  · refine lv_iconst (v := iI 0) E.1 E.2.1 dX8_becomeCrossed_40 (by decide) ?_
    refine fw_zret (r := (iI 0)) E hr hlk hH (by rfl) ?_ dX8_becomeCrossed_41
    exact ⟨0, rfl, Or.inl ⟨by omega, rfl, rfl⟩, (fun _ _ => rfl), hz⟩
  · refine lv_iload E.1 E.2.1 dX8_becomeCrossed_33 (lv_at hl 0 rfl) ?_
    refine lv_bipush (v := iI 40) E.1 E.2.1 dX8_becomeCrossed_35 (by decide) ?_
    refine fw_icmp_le (tgt := 42) E dX8_becomeCrossed_37 (by decide) (by omega) (by omega) (by omega) (by omega) (fun c16 => ?_) (fun c16 => ?_)
    · obtain ⟨hb9, t0, t1, t2, t3, t4⟩ := hT
      refine lv_aload_n E.1 E.2.1 dX8_becomeCrossed_42 rfl (lv_at hl 1 rfl) ?_
      refine lv_iconst (v := iI 0) E.1 E.2.1 dX8_becomeCrossed_43 (by decide) ?_
      refine fw_put E hK hH (by omega) t0 fc_X8 4 (by decide) ql_RX8_41 rfl rfl rfl rfl (Nat.le_of_ble_eq_true rfl) dX8_becomeCrossed_44 (fun H1 locs1 hH hz1 => ?_)
      replace hz := hz1.trans hz; clear hz1
      obtain ⟨M17, hM18⟩ : ∃ MX, MX = fw_up M a (.inr (8, [.ref (a + 1), .ref (a + 2), .ref (a + 3), .ref (a + 4), .int (iI 0), .int (iI lv)])) := ⟨_, rfl⟩
      replace hH := fw_H.nm hM18 hH
      have fr19 : ∀ q, q ≠ a → M17 q = M q := fun q h => by rw [hM18]; exact fw_up_ne h
      replace hT1 := trAt.fr hT1 (fun q h1 h2 => fr19 q (by omega))
      replace hT2 := trAt.fr hT2 (fun q h1 h2 => fr19 q (by omega))
      replace t1 : M17 (a + 1) = some (fI G 40 (fun j0 => iI (cs j0))) := (fr19 _ (by omega)).trans t1
      replace t2 : M17 (a + 2) = some (fI G 40 (fun j0 => iI (vs j0))) := (fr19 _ (by omega)).trans t2
      replace t3 : M17 (a + 3) = some (fI G 40 (fun j0 => iI (ss j0))) := (fr19 _ (by omega)).trans t3
      replace t4 : M17 (a + 4) = some (fI G 40 (fun j0 => iI (hs j0))) := (fr19 _ (by omega)).trans t4
      have t0 : M17 a = some (.inr (8, [.ref (a + 1), .ref (a + 2), .ref (a + 3), .ref (a + 4), .int (iI 0), .int (iI lv)])) := by rw [hM18]; exact fw_up_eq
      have hTp : trAt G M17 a cs vs ss hs 0 lv := ⟨hb9, t0, t1, t2, t3, t4⟩
      refine lv_aload_n E.1 E.2.1 dX8_becomeCrossed_47 rfl (lv_at hl 1 rfl) ?_
      refine lv_aload_n E.1 E.2.1 dX8_becomeCrossed_48 rfl (lv_at hl 2 rfl) ?_
      refine lv_iconst (v := iI 0) E.1 E.2.1 dX8_becomeCrossed_49 (by decide) ?_
      refine lv_iload_n E.1 E.2.1 dX8_becomeCrossed_50 rfl (lv_at hl 3 rfl) ?_
      refine fw_cV (As := [.ref f, .int (iI 0), .int (iI ↑p)]) (rest := []) E hK hH hl hTp.2.1 fc_X8 fL_X8_appendFrom ql_RX8_63 qi_yX8_appendFrom qv_yX8_appendFrom (k_appendFrom l G _ _ a f cs vs ss hs lv cs1 vs1 ss1 hs1 (↑n : Int) (↑(lvF n C sp) : Int) 0 0 p hTp hT1 (by omega) (by omega) (by omega) (by omega)) rfl rfl (Nat.le_of_ble_eq_true rfl) ⟨Nat.le_of_ble_eq_true rfl, Nat.le_of_ble_eq_true rfl⟩ ⟨Nat.le_of_ble_eq_true rfl, Nat.le_of_ble_eq_true rfl⟩ dX8_becomeCrossed_51 (fw_kv fun M21 H1 locs1 hp20 hH hz1 => ?_)
      obtain ⟨hT85, hfr, hz2⟩ := hp20
      replace hz := hz2.trans hz
      clear hz1 hz2
      have fr22 := hfr
      replace hT1 := trAt.fr hT1 (fun q h1 h2 => fr22 q (by omega))
      replace hT2 := trAt.fr hT2 (fun q h1 h2 => fr22 q (by omega))
      try simp only [Nat.sub_zero, Nat.zero_add, Nat.add_sub_cancel_left] at hT85
      refine lv_aload_n E.1 E.2.1 dX8_becomeCrossed_54 rfl (lv_at hl 1 rfl) ?_
      refine lv_aload_n E.1 E.2.1 dX8_becomeCrossed_55 rfl (lv_at hl 4 rfl) ?_
      refine lv_iload E.1 E.2.1 dX8_becomeCrossed_56 (lv_at hl 5 rfl) ?_
      refine lv_aload_n E.1 E.2.1 dX8_becomeCrossed_58 rfl (lv_at hl 4 rfl) ?_
      refine lv_iload E.1 E.2.1 dX8_becomeCrossed_59 (lv_at hl 5 rfl) ?_
      refine fw_cV (As := [.int (iI ↑q)]) (rest := [.int (iI ↑q), .ref o, .ref a]) E hK hH hl hT2.2.1 fc_X8 fL_X8_behind ql_RX8_35 qi_yX8_behind qv_yX8_behind (k_behind l G _ _ o cs2 vs2 ss2 hs2 (↑n2 : Int) (↑(lvF n2 C2 sp2) : Int) ↑q q hT2 (by omega) (by omega)) rfl rfl (Nat.le_of_ble_eq_true rfl) ⟨Nat.le_of_ble_eq_true rfl, Nat.le_of_ble_eq_true rfl⟩ ⟨Nat.le_of_ble_eq_true rfl, Nat.le_of_ble_eq_true rfl⟩ dX8_becomeCrossed_61 (fw_ki fun r25 M24 H1 locs1 hp23 hH hz1 => ?_)
      obtain ⟨rfl, hM9, hz2⟩ := hp23
      replace hz := hz2.trans hz
      clear hz1 hz2
      rw [hM9] at hH
      refine fw_cv (y := iI (↑(q + sp2 q) : Int)) (congrArg iI (by rw [(hag2 q hq).2.2]; omega)) ?_
      refine fw_cV (As := [.ref o, .int (iI ↑q), .int (iI (↑(q + sp2 q) : Int))]) (rest := []) E hK hH hl hT85.2.1 fc_X8 fL_X8_appendFrom ql_RX8_63 qi_yX8_appendFrom qv_yX8_appendFrom (k_appendFrom l G _ _ a o (apF 0 p 0 cs cs1) (apF 0 p 0 vs vs1) ss hs lv cs2 vs2 ss2 hs2 (↑n2 : Int) (↑(lvF n2 C2 sp2) : Int) p q (q + sp2 q) hT85 hT2 (by omega) (by omega) (by omega) (by omega)) rfl rfl (Nat.le_of_ble_eq_true rfl) ⟨Nat.le_of_ble_eq_true rfl, Nat.le_of_ble_eq_true rfl⟩ ⟨Nat.le_of_ble_eq_true rfl, Nat.le_of_ble_eq_true rfl⟩ dX8_becomeCrossed_64 (fw_kv fun M27 H1 locs1 hp26 hH hz1 => ?_)
      obtain ⟨hT104, hfr, hz2⟩ := hp26
      replace hz := hz2.trans hz
      clear hz1 hz2
      have fr28 := hfr
      replace hT1 := trAt.fr hT1 (fun q h1 h2 => fr28 q (by omega))
      replace hT2 := trAt.fr hT2 (fun q h1 h2 => fr28 q (by omega))
      try simp only [Nat.sub_zero, Nat.zero_add, Nat.add_sub_cancel_left] at hT104
      refine lv_aload_n E.1 E.2.1 dX8_becomeCrossed_67 rfl (lv_at hl 1 rfl) ?_
      refine lv_aload_n E.1 E.2.1 dX8_becomeCrossed_68 rfl (lv_at hl 2 rfl) ?_
      refine lv_aload_n E.1 E.2.1 dX8_becomeCrossed_69 rfl (lv_at hl 2 rfl) ?_
      refine lv_iload_n E.1 E.2.1 dX8_becomeCrossed_70 rfl (lv_at hl 3 rfl) ?_
      refine fw_cV (As := [.int (iI ↑p)]) (rest := [.ref f, .ref a]) E hK hH hl hT1.2.1 fc_X8 fL_X8_behind ql_RX8_35 qi_yX8_behind qv_yX8_behind (k_behind l G _ _ f cs1 vs1 ss1 hs1 (↑n : Int) (↑(lvF n C sp) : Int) ↑p p hT1 (by omega) (by omega)) rfl rfl (Nat.le_of_ble_eq_true rfl) ⟨Nat.le_of_ble_eq_true rfl, Nat.le_of_ble_eq_true rfl⟩ ⟨Nat.le_of_ble_eq_true rfl, Nat.le_of_ble_eq_true rfl⟩ dX8_becomeCrossed_71 (fw_ki fun r31 M30 H1 locs1 hp29 hH hz1 => ?_)
      obtain ⟨rfl, hM9, hz2⟩ := hp29
      replace hz := hz2.trans hz
      clear hz1 hz2
      rw [hM9] at hH
      refine fw_cv (y := iI (↑(p + sp p) : Int)) (congrArg iI (by rw [(hag1 p hp).2.2]; omega)) ?_
      refine lv_aload_n E.1 E.2.1 dX8_becomeCrossed_74 rfl (lv_at hl 2 rfl) ?_
      refine fw_get E hK hH hT1.2.1 fc_X8 4 (by decide) ql_RX8_41 rfl rfl dX8_becomeCrossed_75 ?_
      refine fw_cV (As := [.ref f, .int (iI (↑(p + sp p) : Int)), .int (iI ((↑n : Int)))]) (rest := []) E hK hH hl hT104.2.1 fc_X8 fL_X8_appendFrom ql_RX8_63 qi_yX8_appendFrom qv_yX8_appendFrom (k_appendFrom l G _ _ a f (apF p (sp2 q) q (apF 0 p 0 cs cs1) cs2) (apF p (sp2 q) q (apF 0 p 0 vs vs1) vs2) ss hs lv cs1 vs1 ss1 hs1 (↑n : Int) (↑(lvF n C sp) : Int) (p + sp2 q) (p + sp p) n hT104 hT1 (by omega) (by omega) (by omega) (by omega)) rfl rfl (Nat.le_of_ble_eq_true rfl) ⟨Nat.le_of_ble_eq_true rfl, Nat.le_of_ble_eq_true rfl⟩ ⟨Nat.le_of_ble_eq_true rfl, Nat.le_of_ble_eq_true rfl⟩ dX8_becomeCrossed_78 (fw_kv fun M33 H1 locs1 hp32 hH hz1 => ?_)
      obtain ⟨hT124, hfr, hz2⟩ := hp32
      replace hz := hz2.trans hz
      clear hz1 hz2
      have fr34 := hfr
      replace hT1 := trAt.fr hT1 (fun q h1 h2 => fr34 q (by omega))
      replace hT2 := trAt.fr hT2 (fun q h1 h2 => fr34 q (by omega))
      try simp only [Nat.sub_zero, Nat.zero_add, Nat.add_sub_cancel_left] at hT124
      rw [show p + sp2 q + (n - (p + sp p)) = n - sp p + sp2 q by omega] at hT124
      refine lv_aload_n E.1 E.2.1 dX8_becomeCrossed_81 rfl (lv_at hl 1 rfl) ?_
      refine fw_cV (As := []) (rest := []) E hK hH hl hT124.2.1 fc_X8 fL_X8_measure ql_RX8_67 qi_yX8_measure qv_yX8_measure (k_measure l G _ _ a (apF (p + sp2 q) (n - (p + sp p)) (p + sp p) (apF p (sp2 q) q (apF 0 p 0 cs cs1) cs2) cs1) (apF (p + sp2 q) (n - (p + sp p)) (p + sp p) (apF p (sp2 q) q (apF 0 p 0 vs vs1) vs2) vs1) ss hs lv (n - sp p + sp2 q) (rpS p (sp p) (sp2 q) q sp sp2) hT124 (by omega) (spOK_congr (fun k hk => bc_rp (f := cs) hpe hqe (fun k hk => (hag1 k hk).1) (fun k hk => (hag2 k hk).1) hk) (rp_spOK hsp hp hsp2 hq)) (fun k hk => by rw [(fun k hk => bc_rp (f := cs) hpe hqe (fun k hk => (hag1 k hk).1) (fun k hk => (hag2 k hk).1) hk) k hk]; exact ((rp_vtOK hv hp hv2 hq (by omega) (by omega)).2.2.2.2.2 k hk).1)) rfl rfl (Nat.le_of_ble_eq_true rfl) ⟨Nat.le_of_ble_eq_true rfl, Nat.le_of_ble_eq_true rfl⟩ ⟨Nat.le_of_ble_eq_true rfl, Nat.le_of_ble_eq_true rfl⟩ dX8_becomeCrossed_82 (fw_kv fun M36 H1 locs1 hp35 hH hz1 => ?_)
      obtain ⟨hT134, hfr, hz2⟩ := hp35
      replace hz := hz2.trans hz
      clear hz1 hz2
      have fr37 := hfr
      replace hT1 := trAt.fr hT1 (fun q h1 h2 => fr37 q (by omega))
      replace hT2 := trAt.fr hT2 (fun q h1 h2 => fr37 q (by omega))
      have hlv := lvF_congr (C := (rpF p (sp p) (sp2 q) q C C2)) (D := apF (p + sp2 q) (n - (p + sp p)) (p + sp p) (apF p (sp2 q) q (apF 0 p 0 cs cs1) cs2) cs1) (fun k hk => bc_rp (f := cs) hpe hqe (fun k hk => (hag1 k hk).1) (fun k hk => (hag2 k hk).1) hk) (rp_spOK hsp hp hsp2 hq) (by omega)
      have hlb := lvF_le (rp_spOK hsp hp hsp2 hq) (show n - sp p + sp2 q ≤ 40 by omega)
      refine lv_aload_n E.1 E.2.1 dX8_becomeCrossed_85 rfl (lv_at hl 1 rfl) ?_
      refine fw_get E hK hH hT134.2.1 fc_X8 5 (by decide) ql_RX8_74 rfl rfl dX8_becomeCrossed_86 ?_
      refine lv_bipush (v := iI 8) E.1 E.2.1 dX8_becomeCrossed_89 (by decide) ?_
      refine fw_icmp_gt (tgt := 98) E dX8_becomeCrossed_91 (by decide) (by omega) (by omega) (by omega) (by omega) (fun c38 => ?_) (fun c38 => ?_)
      · refine lv_iconst (v := iI 0) E.1 E.2.1 dX8_becomeCrossed_98 (by decide) ?_
        refine fw_zret (r := (iI 0)) E hr hlk hH (by rfl) ?_ dX8_becomeCrossed_99
        have htw := tw_of hT134 (rp_spOK hsp hp hsp2 hq) (by omega) (fun k hk => ⟨(fun k hk => bc_rp (f := cs) hpe hqe (fun k hk => (hag1 k hk).1) (fun k hk => (hag2 k hk).1) hk) k hk, (fun k hk => bc_rp (f := vs) hpe hqe (fun k hk => (hag1 k hk).2.1) (fun k hk => (hag2 k hk).2.1) hk) k hk⟩) hbd
        rw [hlv] at c38
        exact ⟨0, rfl, Or.inr ⟨⟨by omega, by omega⟩, htw, by omega⟩, (fun q hq => by rw [fr37 q (by omega), fr34 q (by omega), fr28 q (by omega), fr22 q (by omega), fr19 q (by omega)]), hz⟩
      · refine lv_iconst (v := iI 1) E.1 E.2.1 dX8_becomeCrossed_94 (by decide) ?_
        refine lv_goto (tgt := 99) E.1 E.2.1 dX8_becomeCrossed_95 (by decide) ?_
        refine fw_zret (r := (iI 1)) E hr hlk hH (by rfl) ?_ dX8_becomeCrossed_99
        have htw := tw_of hT134 (rp_spOK hsp hp hsp2 hq) (by omega) (fun k hk => ⟨(fun k hk => bc_rp (f := cs) hpe hqe (fun k hk => (hag1 k hk).1) (fun k hk => (hag2 k hk).1) hk) k hk, (fun k hk => bc_rp (f := vs) hpe hqe (fun k hk => (hag1 k hk).2.1) (fun k hk => (hag2 k hk).2.1) hk) k hk⟩) hbd
        rw [hlv] at c38
        exact ⟨1, rfl, Or.inr ⟨⟨by omega, by omega⟩, htw, by omega⟩, (fun q hq => by rw [fr37 q (by omega), fr34 q (by omega), fr28 q (by omega), fr22 q (by omega), fr19 q (by omega)]), hz⟩
    · refine lv_iconst (v := iI 0) E.1 E.2.1 dX8_becomeCrossed_40 (by decide) ?_
      refine fw_zret (r := (iI 0)) E hr hlk hH (by rfl) ?_ dX8_becomeCrossed_41
      exact ⟨0, rfl, Or.inl ⟨by omega, rfl, rfl⟩, (fun _ _ => rfl), hz⟩

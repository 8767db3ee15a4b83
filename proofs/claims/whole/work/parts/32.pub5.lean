set_option maxRecDepth 100000 in
set_option maxHeartbeats 4000000 in
theorem ct_X4_throwsAsInRow (l : Launch) (w : WD) (hN : 54 ≤ wN w) (σ : SG) (a : Row) (hR : HR σ a) (qn : Nat) (qs : Nat → Nat) (hn1 : σ 0 10 = nI qn) (hn9 : qn ≤ 20) (hns : ∀ j, j < qn → σ 34 j = nI (qs j)) (hns9 : ∀ j, j < qn → qs j ≤ 99) (kd : Nat) (hkd : kd ≤ 5) : CtI l w yX4_throwsAsInRow cX4_throwsAsInRow 3 (some .boolean) 6 0 0 [.ref (wA w 0), .int (nI kd)] σ (fun r τ => r = bI (thOK (ua a (2 + 5) kd) qs qn = true) ∧ Fr inM σ τ) := by
  refine CtI.mk (by decide) (Nat.le_of_ble_eq_true rfl) ?_
  intro K C hr h0
  have r := RI.of hr h0
  clear hr h0
  show G l w K 0 [(0, .ref (wA w 0)), (1, .int (nI kd))] [] σ
  obtain ⟨hH, hB, h6, hd9, hu9⟩ := id hR
  obtain ⟨hBa, hB0, hB1, hB2, hB3, hB4, hB5, hB6, hB7, hBs, hBp, hBe⟩ := id hB
  refine g_aload_n C dX4_throwsAsInRow_0 rfl rfl ?_
  refine g_callVV (rest := []) C mv_X4_124 (ct_X4_think l w hN σ a hH) (Nat.lt_of_lt_of_le (by decide) hN) rfl rfl (by decide) rfl (Nat.le_of_ble_eq_true rfl) dX4_throwsAsInRow_1 (fun σt h1 => ?_)
  obtain ⟨hHt, h6t, hFt⟩ := h1
  refine g_aload_n C dX4_throwsAsInRow_4 rfl rfl ?_
  refine g_get (v := .ref (wA w 19)) C fl_X4_19 fs_X4_19 (Nat.lt_of_lt_of_le (by decide) hN) rfl rfl dX4_throwsAsInRow_5 ?_
  refine g_get (v := .ref (wA w 22)) C fl_X4_103 fs_X4_103 (Nat.lt_of_lt_of_le (by decide) hN) rfl rfl dX4_throwsAsInRow_8 ?_
  refine g_iconst C dX4_throwsAsInRow_11 ic_5 ?_
  refine g_iload_n C dX4_throwsAsInRow_12 rfl rfl ?_
  refine g_ias (k0 := 22) (n := 6) C (Nat.lt_of_lt_of_le (by decide) hN) rfl (j := 5) (by unfold ix; decide) dX4_throwsAsInRow_13 (fun σu hσu => ?_)
  obtain ⟨a9, ha9⟩ : ∃ q, q = ua a (2 + 5) kd := ⟨_, rfl⟩
  have hH9 : Hh σu 19 a9 := by rw [hσu, ha9]; exact hHt.ut (by omega)
  have hB9 : Bd a9 := by rw [ha9]; exact hB.ut (by omega) ((nj_le (b := 5) (by omega) (by omega)).mpr hkd) (by omega)
  have h69 : σu 19 6 = nI 0 := by rw [hσu, up_other (by decide), h6t]; exact h6
  have h91 : a9 1 = a 1 := by rw [ha9, ua_at, if_neg (by omega)]
  refine g_iconst C dX4_throwsAsInRow_14 ic_0 ?_
  refine g_istore_n (lv' := [(2, .int 0), (0, .ref (wA w 0)), (1, .int (nI kd))]) C dX4_throwsAsInRow_15 rfl (by decide) rfl ?_
  have L16 : ∀ (m16 : Nat) (k : Nat) (σ1 : SG), m16 = qn - k → (k ≤ qn) → (thOK a9 qs k = true) → (Hh σ1 19 (nD a9 0 k).1) → (σ1 19 6 = nI (nD a9 0 k).2.1) → (Fr inM σ σ1) → G l w K 16 [(0, .ref (wA w 0)), (2, .int (nI k))] [] σ1 := by
    intro m16
    induction m16 using Nat.strongRecOn with
    | ind m16 ih16 =>
    intro k σ1 em16 hk hth hH1 h61 hF1
    have hbd := nD_bd hB9 (by rw [h91]; omega) (Nat.zero_le _) k (by omega)
    refine g_iload_n C dX4_throwsAsInRow_16 rfl rfl ?_
    refine g_aload_n C dX4_throwsAsInRow_17 rfl rfl ?_
    refine g_get (v := .int (σ1 0 10)) C fl_X4_197 fs_X4_197 (Nat.lt_of_lt_of_le (by decide) hN) rfl rfl dX4_throwsAsInRow_18 ?_
    refine g_val (y := nI qn) (by rw [hF1 0 (fun z => by obtain ⟨z1, z2⟩ := z; omega)]; exact hn1) ?_
    refine g_icmp_ge (tgt := 56) C dX4_throwsAsInRow_21 rfl (fun c21_2 => ?_) (fun c21_2 => ?_)
    · skip
      have n21_2 : qn ≤ k := (nj_le (a := qn) (b := k) (by omega) (by omega)).mp c21_2
      obtain rfl : k = qn := by omega
      refine g_iconst C dX4_throwsAsInRow_56 ic_1 ?_
      refine g_iret C r rfl dX4_throwsAsInRow_57 ?_
      refine ⟨?_, hF1⟩
      rw [← ha9, hth]
      rfl
    · skip
      have n21_2 : ¬ (qn ≤ k) := fun qq => c21_2 ((nj_le (a := qn) (b := k) (by omega) (by omega)).mpr qq)
      refine g_aload_n C dX4_throwsAsInRow_24 rfl rfl ?_
      refine g_iconst C dX4_throwsAsInRow_25 ic_1 ?_
      refine g_callVI (rest := []) C mv_X4_127 (ct_X4_passInMind l w hN σ1 (nD a9 0 k).1 hH1 hbd.1 (nD a9 0 k).2.1 h61 (by omega) (by omega) 1 (by omega)) (Nat.lt_of_lt_of_le (by decide) hN) rfl rfl (by decide) rfl (Nat.le_of_ble_eq_true rfl) dX4_throwsAsInRow_26 (fun r3 σp h3 => ?_)
      obtain ⟨er3, eh3⟩ := h3
      subst er3
      obtain ⟨hHp, h6p, hTp, hFp⟩ := eh3
      obtain ⟨t, ht⟩ : ∃ q, q = dyT (hun (nD a9 0 k).1) (nD a9 0 k).1 (nD a9 0 k).2.1 := ⟨_, rfl⟩
      have ht6 : t ≤ 60 := by rw [ht]; exact dyT_le hbd.1 _
      have hq9 := hns9 k (by omega)
      refine g_pop C dX4_throwsAsInRow_29 rfl ?_
      refine g_aload_n C dX4_throwsAsInRow_30 rfl rfl ?_
      refine g_get (v := .ref (wA w 28)) C fl_X4_25 fs_X4_25 (Nat.lt_of_lt_of_le (by decide) hN) rfl rfl dX4_throwsAsInRow_31 ?_
      refine g_get (v := .ref (wA w 29)) C fl_X4_121 fs_X4_121 (Nat.lt_of_lt_of_le (by decide) hN) rfl rfl dX4_throwsAsInRow_34 ?_
      refine g_iconst C dX4_throwsAsInRow_37 ic_3 ?_
      refine g_ial (k0 := 29) (n := 6) C (Nat.lt_of_lt_of_le (by decide) hN) rfl (j := 3) (by unfold ix; decide) dX4_throwsAsInRow_38 ?_
      refine g_val (y := nI t) (by rw [ht, ← Nat.zero_add (dyT _ _ _)]; exact hTp.2.2.2.1) ?_
      refine g_aload_n C dX4_throwsAsInRow_39 rfl rfl ?_
      refine g_get (v := .ref (wA w 34)) C fl_X4_43 fs_X4_43 (Nat.lt_of_lt_of_le (by decide) hN) rfl rfl dX4_throwsAsInRow_40 ?_
      refine g_iload_n C dX4_throwsAsInRow_43 rfl rfl ?_
      refine g_ial (k0 := 34) (n := 20) C (Nat.lt_of_lt_of_le (by decide) hN) rfl (j := k) (ix_n (by omega)) dX4_throwsAsInRow_44 ?_
      refine g_val (y := nI (qs k)) (by rw [hFp 34 (fun z => by rcases z with ⟨z1, z2⟩ | ⟨z1, z2⟩ <;> omega), hF1 34 (fun z => by obtain ⟨z1, z2⟩ := z; omega)]; exact hns k (by omega)) ?_
      refine g_icmp_eq (tgt := 50) C dX4_throwsAsInRow_45 rfl (fun c45_4 => ?_) (fun c45_4 => ?_)
      · skip
        have n45_4 : t = qs k := (nj_eq (a := t) (b := qs k) (by omega) (by omega)).mp c45_4
        refine g_iinc (v := nI (k + 1)) (lv' := [(2, .int (nI (k + 1))), (0, .ref (wA w 0))]) C dX4_throwsAsInRow_50 (by decide) rfl (nj_inc k) rfl ?_
        refine g_goto (tgt := 16) C dX4_throwsAsInRow_53 rfl ?_
        exact g_lvp [1, 0] rfl (ih16 (qn - (k + 1)) (by omega) (k + 1) σp rfl (by first | omega | assumption | rfl | grind) (by rw [thOK, hth]; exact decide_eq_true (by omega)) (hHp) (h6p) (hF1.tr (hFp.mono inD_M) (fun _ z => z)))
      · skip
        have n45_4 : ¬ (t = qs k) := fun qq => c45_4 ((nj_eq (a := t) (b := qs k) (by omega) (by omega)).mpr qq)
        refine g_iconst C dX4_throwsAsInRow_48 ic_0 ?_
        refine g_iret C r rfl dX4_throwsAsInRow_49 ?_
        refine ⟨?_, hF1.tr (hFp.mono inD_M) (fun _ z => z)⟩
        have hno : thOK a9 qs (k + 1) = false := by rw [thOK, hth]; exact decide_eq_false (by omega)
        rw [← ha9, thOK_no hno qn (by omega)]
        rfl
  exact g_lvp [1, 0] rfl (L16 (qn - 0) 0 σu rfl (by first | omega | assumption | rfl | grind) (rfl) (hH9) (h69) ((hFt.mono inH_M).tr (show Fr inM σt σu by rw [hσu]; exact Fr.up ⟨by decide, by decide⟩) (fun _ z => z)))
set_option maxRecDepth 100000 in
set_option maxHeartbeats 4000000 in
theorem ct_X4_fits (l : Launch) (w : WD) (hN : 54 ≤ wN w) (σ : SG) (a kp : Row) (tk nl : Nat) (lt : Nat → Nat) (qn : Nat) (qs : Nat → Nat) (rf : Nat → Int32) (hC : CX σ (a, kp, tk, (nl, lt), (qn, qs), rf)) : CtI l w yX4_fits cX4_fits 3 (some .int) 7 0 0 [.ref (wA w 0)] σ (fun r τ => r = (spFits (a, kp, tk, (nl, lt), (qn, qs), rf)).1 ∧ CX τ (spFits (a, kp, tk, (nl, lt), (qn, qs), rf)).2 ∧ Fr in37 σ τ) := by
  refine CtI.mk (by decide) (Nat.le_of_ble_eq_true rfl) ?_
  intro K C hr h0
  have r := RI.of hr h0
  clear hr h0
  show G l w K 0 [(0, .ref (wA w 0))] [] σ
  have hR : HR σ a := hC.2.1
  have hH : Hh σ 1 a := hR.1
  have hB : Bd a := hR.2.1
  have h6 : σ 1 6 = nI 0 := hR.2.2.1
  have hd9 : a 1 ≤ 9999 := hR.2.2.2.1
  have hu9 : ∀ e, e < 4 → a (30 + 4 * e + 1) ≤ 9 := hR.2.2.2.2
  obtain ⟨hBa, hB0, hB1, hB2, hB3, hB4, hB5, hB6, hB7, hBs, hBp, hBe⟩ := id hB
  have h1 : HB 1 := Or.inl rfl
  have h10 : HB 10 := Or.inr (Or.inl rfl)
  have h19 : HB 19 := Or.inr (Or.inr rfl)
  have hn1 : σ 0 10 = nI qn := hC.2.2.2.2.2.1.1
  have hn9 : qn ≤ 20 := hC.1.2.2.2.2.2.1
  have hns : ∀ j, j < qn → σ 34 j = nI (qs j) := hC.2.2.2.2.2.1.2
  have hns9 : ∀ j, j < qn → qs j ≤ 99 := hC.1.2.2.2.2.2.2
  refine g_iconst C dX4_fits_0 ic_0 ?_
  refine g_istore_n (lv' := [(1, .int 0), (0, .ref (wA w 0))]) C dX4_fits_1 rfl (by decide) rfl ?_
  refine g_iconst C dX4_fits_2 ic_0 ?_
  refine g_istore_n (lv' := [(2, .int 0), (1, .int 0), (0, .ref (wA w 0))]) C dX4_fits_3 rfl (by decide) rfl ?_
  have L4 : ∀ (m4 : Nat) (k : Nat) (y : Int32) (σ1 : SG), m4 = 6 - k → (k ≤ 6) → (y = fitS (a, kp, tk, (nl, lt), (qn, qs), rf) k) → (Fr inM σ σ1) → G l w K 4 [(0, .ref (wA w 0)), (1, .int y), (2, .int (nI k))] [] σ1 := by
    intro m4
    induction m4 using Nat.strongRecOn with
    | ind m4 ih4 =>
    intro k y σ1 em4 hk hy hF1
    have hR1 := hR.m hF1
    have hH1 := hR1.1
    refine g_iload_n C dX4_fits_4 rfl rfl ?_
    refine g_getM C gs_X4_100 dX4_fits_5 ?_
    refine g_iconst C dX4_fits_8 ic_5 ?_
    refine g_alM C (j := 5) (by unfold ix; decide) dX4_fits_9 ?_
    refine g_val (y := nI 5) rfl ?_
    refine g_icmp_gt (tgt := 33) C dX4_fits_10 rfl (fun c10_1 => ?_) (fun c10_1 => ?_)
    · skip
      have n10_1 : 5 < k := (nj_lt (a := 5) (b := k) (by omega) (by omega)).mp c10_1
      obtain rfl : k = 6 := by omega
      refine g_iload_n C dX4_fits_33 rfl rfl ?_
      refine g_iret C r rfl dX4_fits_34 ?_
      exact fin_q hC (hF1.mono (fun _ z => Or.inl z)) rfl hy
    · skip
      have n10_1 : ¬ (5 < k) := fun qq => c10_1 ((nj_lt (a := 5) (b := k) (by omega) (by omega)).mpr qq)
      have L27 : ∀ (y2 : Int32) (σ2 : SG), (y2 = fitS (a, kp, tk, (nl, lt), (qn, qs), rf) (k + 1)) → (Fr inM σ σ2) → G l w K 27 [(0, .ref (wA w 0)), (1, .int y2), (2, .int (nI k))] [] σ2 := by
        intro y2 σ2 hx2 hF2
        refine g_iinc (v := nI (k + 1)) (lv' := [(2, .int (nI (k + 1))), (0, .ref (wA w 0)), (1, .int y2)]) C dX4_fits_27 (by decide) rfl (nj_inc k) rfl ?_
        refine g_goto (tgt := 4) C dX4_fits_30 rfl ?_
        exact g_lvp [1, 2, 0] rfl (ih4 (6 - (k + 1)) (by omega) (k + 1) y2 σ2 rfl (by first | omega | assumption | rfl | grind) (hx2) (hF2))
      refine g_aload_n C dX4_fits_13 rfl rfl ?_
      refine g_iload_n C dX4_fits_14 rfl rfl ?_
      refine g_callVI (rest := []) C mv_X4_204 (ct_X4_throwsAsInRow l w hN σ1 a hR1 qn qs (by rw [hF1 0 (fun z => by obtain ⟨z1, z2⟩ := z; omega)]; exact hn1) hn9 (by rw [hF1 34 (fun z => by obtain ⟨z1, z2⟩ := z; omega)]; exact hns) hns9 k (by omega)) (Nat.lt_of_lt_of_le (by decide) hN) rfl rfl (by decide) rfl (Nat.le_of_ble_eq_true rfl) dX4_fits_15 (fun r2 σ_2 h2 => ?_)
      obtain ⟨er2, hFx⟩ := h2
      rw [er2]
      refine g_if_eq (tgt := 27) C dX4_fits_18 rfl (fun c18_3 => ?_) (fun c18_3 => ?_)
      · skip
        have n18_3 : ¬ (thOK (ua a (2 + 5) k) qs qn = true) := bI_0 c18_3
        exact g_lvp [0, 1, 2] rfl (L27 y σ_2 (by rw [fitS, if_neg (by assumption)]; exact hy) (hF1.tr hFx (fun _ z => z)))
      · skip
        have n18_3 : (thOK (ua a (2 + 5) k) qs qn = true) := bI_1 c18_3
        refine g_iload_n C dX4_fits_21 rfl rfl ?_
        refine g_iconst C dX4_fits_22 ic_1 ?_
        refine g_iload_n C dX4_fits_23 rfl rfl ?_
        refine g_ishl C dX4_fits_24 ?_
        refine g_ior C dX4_fits_25 ?_
        refine g_top (fun xb exb => ?_)
        refine g_istore_n (lv' := [(1, .int xb), (0, .ref (wA w 0)), (2, .int (nI k))]) C dX4_fits_26 rfl (by decide) rfl ?_
        exact g_lvp [1, 0, 2] rfl (L27 xb σ_2 (by rw [fitS, if_pos (by assumption), exb, hy]) (hF1.tr hFx (fun _ z => z)))
  exact g_lvp [2, 1, 0] rfl (L4 (6 - 0) 0 0 σ rfl (by first | omega | assumption | rfl | grind) (rfl) (Fr.rf))
set_option maxRecDepth 100000 in
set_option maxHeartbeats 4000000 in
theorem ct_X4_firstNotEatenToday (l : Launch) (w : WD) (hN : 54 ≤ wN w) (σ : SG) (a : Row) (hR : HR σ a) (qn : Nat) (qs : Nat → Nat) (hn1 : σ 0 10 = nI qn) (hn9 : qn ≤ 20) (hns : ∀ j, j < qn → σ 34 j = nI (qs j)) (hns9 : ∀ j, j < qn → qs j ≤ 99) : CtI l w yX4_firstNotEatenToday cX4_firstNotEatenToday 2 (some .int) 6 0 0 [.ref (wA w 0)] σ (fun r τ => r = jdS (dyL (hun a) a 0) qs qn ∧ Fr inM σ τ) := by
  refine CtI.mk (by decide) (Nat.le_of_ble_eq_true rfl) ?_
  intro K C hr h0
  have r := RI.of hr h0
  clear hr h0
  show G l w K 0 [(0, .ref (wA w 0))] [] σ
  obtain ⟨hH, hB, h6, hd9, hu9⟩ := id hR
  obtain ⟨hBa, hB0, hB1, hB2, hB3, hB4, hB5, hB6, hB7, hBs, hBp, hBe⟩ := id hB
  refine g_aload_n C dX4_firstNotEatenToday_0 rfl rfl ?_
  refine g_callVV (rest := []) C mv_X4_124 (ct_X4_think l w hN σ a hH) (Nat.lt_of_lt_of_le (by decide) hN) rfl rfl (by decide) rfl (Nat.le_of_ble_eq_true rfl) dX4_firstNotEatenToday_1 (fun σt h1 => ?_)
  obtain ⟨hHt, h6t, hFt⟩ := h1
  have h6t : σt 19 6 = nI 0 := by rw [h6t]; exact h6
  refine g_aload_n C dX4_firstNotEatenToday_4 rfl rfl ?_
  refine g_iconst C dX4_firstNotEatenToday_5 ic_1 ?_
  refine g_callVI (rest := []) C mv_X4_127 (ct_X4_passInMind l w hN σt a hHt hB 0 h6t (Nat.zero_le _) (by omega) 1 (by omega)) (Nat.lt_of_lt_of_le (by decide) hN) rfl rfl (by decide) rfl (Nat.le_of_ble_eq_true rfl) dX4_firstNotEatenToday_6 (fun r2 σp h2 => ?_)
  obtain ⟨er2, eh2⟩ := h2
  subst er2
  obtain ⟨hHp, h6p, hTp, hFp⟩ := eh2
  obtain ⟨L9, hL9⟩ : ∃ q, q = (dyL (hun a) a 0) := ⟨_, rfl⟩
  have hT9 : σp 28 2 = nI (min 20 L9.length) := by rw [hL9]; exact hTp.2.2.2.2.2.2.1
  have hA9 : ∀ i, i < 20 → i < L9.length → σp 30 i = nI (L9.getD i 0) := by rw [hL9]; exact hTp.2.2.2.2.2.2.2
  have hln : L9.length ≤ 44 := by rw [hL9]; exact dyL_len hB 0
  have hF9 : Fr inM σ σp := (hFt.mono inH_M).tr (hFp.mono inD_M) (fun _ z => z)
  have hg4 : ∀ i, L9.getD i 0 ≤ 4 := by rw [hL9]; exact dyL_4 a
  refine g_pop C dX4_firstNotEatenToday_9 rfl ?_
  refine g_iconst C dX4_firstNotEatenToday_10 ic_0 ?_
  refine g_istore_n (lv' := [(1, .int 0), (0, .ref (wA w 0))]) C dX4_firstNotEatenToday_11 rfl (by decide) rfl ?_
  have L12 : ∀ (m12 : Nat) (k : Nat), m12 = qn - k → (k ≤ qn) → (∀ j, j < k → ¬ (L9.length ≤ j ∨ L9.getD j 0 ≠ qs j)) → G l w K 12 [(0, .ref (wA w 0)), (1, .int (nI k))] [] σp := by
    intro m12
    induction m12 using Nat.strongRecOn with
    | ind m12 ih12 =>
    intro k em12 hk hno
    refine g_iload_n C dX4_firstNotEatenToday_12 rfl rfl ?_
    refine g_aload_n C dX4_firstNotEatenToday_13 rfl rfl ?_
    refine g_get (v := .int (σp 0 10)) C fl_X4_197 fs_X4_197 (Nat.lt_of_lt_of_le (by decide) hN) rfl rfl dX4_firstNotEatenToday_14 ?_
    refine g_val (y := nI qn) (by rw [hF9 0 (fun z => by obtain ⟨z1, z2⟩ := z; omega)]; exact hn1) ?_
    refine g_icmp_ge (tgt := 57) C dX4_firstNotEatenToday_17 rfl (fun c17_3 => ?_) (fun c17_3 => ?_)
    · skip
      have n17_3 : qn ≤ k := (nj_le (a := qn) (b := k) (by omega) (by omega)).mp c17_3
      obtain rfl : k = qn := by omega
      refine g_bipush C dX4_firstNotEatenToday_57 bp_m9 ?_
      refine g_iret C r rfl dX4_firstNotEatenToday_59 ?_
      refine ⟨?_, hF9⟩
      rw [← hL9]
      exact (jd_none hno).symm
    · skip
      have n17_3 : ¬ (qn ≤ k) := fun qq => c17_3 ((nj_le (a := qn) (b := k) (by omega) (by omega)).mpr qq)
      refine g_iload_n C dX4_firstNotEatenToday_20 rfl rfl ?_
      refine g_aload_n C dX4_firstNotEatenToday_21 rfl rfl ?_
      refine g_get (v := .ref (wA w 28)) C fl_X4_25 fs_X4_25 (Nat.lt_of_lt_of_le (by decide) hN) rfl rfl dX4_firstNotEatenToday_22 ?_
      refine g_get (v := .int (cl (σp 28 2))) C fl_X4_241 fs_X4_241 (Nat.lt_of_lt_of_le (by decide) hN) rfl rfl dX4_firstNotEatenToday_25 ?_
      refine g_val (y := nI (min 20 L9.length)) (by rw [hT9]; exact cl_n (by omega)) ?_
      refine g_icmp_ge (tgt := 49) C dX4_firstNotEatenToday_28 rfl (fun c28_4 => ?_) (fun c28_4 => ?_)
      · skip
        have n28_4 : min 20 L9.length ≤ k := (nj_le (a := min 20 L9.length) (b := k) (by omega) (by omega)).mp c28_4
        have hbad : L9.length ≤ k ∨ L9.getD k 0 ≠ qs k := Or.inl (by omega)
        refine g_iload_n C dX4_firstNotEatenToday_49 rfl rfl ?_
        refine g_iret C r rfl dX4_firstNotEatenToday_50 ?_
        refine ⟨?_, hF9⟩
        rw [← hL9]
        exact (jd_hit (by omega) (by first | assumption | exact Or.inr (by assumption)) hno).symm
      · skip
        have n28_4 : ¬ (min 20 L9.length ≤ k) := fun qq => c28_4 ((nj_le (a := min 20 L9.length) (b := k) (by omega) (by omega)).mpr qq)
        refine g_aload_n C dX4_firstNotEatenToday_31 rfl rfl ?_
        refine g_get (v := .ref (wA w 28)) C fl_X4_25 fs_X4_25 (Nat.lt_of_lt_of_le (by decide) hN) rfl rfl dX4_firstNotEatenToday_32 ?_
        refine g_get (v := .ref (wA w 30)) C fl_X4_244 fs_X4_244 (Nat.lt_of_lt_of_le (by decide) hN) rfl rfl dX4_firstNotEatenToday_35 ?_
        refine g_iload_n C dX4_firstNotEatenToday_38 rfl rfl ?_
        refine g_ial (k0 := 30) (n := 20) C (Nat.lt_of_lt_of_le (by decide) hN) rfl (j := k) (ix_n (by omega)) dX4_firstNotEatenToday_39 ?_
        refine g_val (y := nI (L9.getD k 0)) (hA9 k (by omega) (by omega)) ?_
        have hq9 := hns9 k (by omega)
        have hg9 := hg4 k
        refine g_aload_n C dX4_firstNotEatenToday_40 rfl rfl ?_
        refine g_get (v := .ref (wA w 34)) C fl_X4_43 fs_X4_43 (Nat.lt_of_lt_of_le (by decide) hN) rfl rfl dX4_firstNotEatenToday_41 ?_
        refine g_iload_n C dX4_firstNotEatenToday_44 rfl rfl ?_
        refine g_ial (k0 := 34) (n := 20) C (Nat.lt_of_lt_of_le (by decide) hN) rfl (j := k) (ix_n (by omega)) dX4_firstNotEatenToday_45 ?_
        refine g_val (y := nI (qs k)) (by rw [hF9 34 (fun z => by obtain ⟨z1, z2⟩ := z; omega)]; exact hns k (by omega)) ?_
        refine g_icmp_eq (tgt := 51) C dX4_firstNotEatenToday_46 rfl (fun c46_5 => ?_) (fun c46_5 => ?_)
        · skip
          have n46_5 : L9.getD k 0 = qs k := (nj_eq (a := L9.getD k 0) (b := qs k) (by omega) (by omega)).mp c46_5
          refine g_iinc (v := nI (k + 1)) (lv' := [(1, .int (nI (k + 1))), (0, .ref (wA w 0))]) C dX4_firstNotEatenToday_51 (by decide) rfl (nj_inc k) rfl ?_
          refine g_goto (tgt := 12) C dX4_firstNotEatenToday_54 rfl ?_
          exact g_lvp [1, 0] rfl (ih12 (qn - (k + 1)) (by omega) (k + 1) rfl (by first | omega | assumption | rfl | grind) (fun j hj => (Decidable.em (j = k)).elim (fun z => by subst z; omega) (fun z => hno j (by omega))))
        · skip
          have n46_5 : ¬ (L9.getD k 0 = qs k) := fun qq => c46_5 ((nj_eq (a := L9.getD k 0) (b := qs k) (by omega) (by omega)).mpr qq)
          refine g_iload_n C dX4_firstNotEatenToday_49 rfl rfl ?_
          refine g_iret C r rfl dX4_firstNotEatenToday_50 ?_
          refine ⟨?_, hF9⟩
          rw [← hL9]
          exact (jd_hit (by omega) (by first | assumption | exact Or.inr (by assumption)) hno).symm
  exact g_lvp [1, 0] rfl (L12 (qn - 0) 0 rfl (by first | omega | assumption | rfl | grind) (fun j hj => absurd hj (Nat.not_lt_zero _)))
set_option maxRecDepth 100000 in
set_option maxHeartbeats 4000000 in
theorem ct_X4_judge (l : Launch) (w : WD) (hN : 54 ≤ wN w) (σ : SG) (a kp : Row) (tk nl : Nat) (lt : Nat → Nat) (qn : Nat) (qs : Nat → Nat) (rf : Nat → Int32) (hC : CX σ (a, kp, tk, (nl, lt), (qn, qs), rf)) : CtI l w yX4_judge cX4_judge 2 (some .int) 7 0 0 [.ref (wA w 0)] σ (fun r τ => r = (spJudge (a, kp, tk, (nl, lt), (qn, qs), rf)).1 ∧ CX τ (spJudge (a, kp, tk, (nl, lt), (qn, qs), rf)).2 ∧ Fr in37 σ τ) := by
  refine CtI.mk (by decide) (Nat.le_of_ble_eq_true rfl) ?_
  intro K C hr h0
  have r := RI.of hr h0
  clear hr h0
  show G l w K 0 [(0, .ref (wA w 0))] [] σ
  have hR : HR σ a := hC.2.1
  have hH : Hh σ 1 a := hR.1
  have hB : Bd a := hR.2.1
  have h6 : σ 1 6 = nI 0 := hR.2.2.1
  have hd9 : a 1 ≤ 9999 := hR.2.2.2.1
  have hu9 : ∀ e, e < 4 → a (30 + 4 * e + 1) ≤ 9 := hR.2.2.2.2
  obtain ⟨hBa, hB0, hB1, hB2, hB3, hB4, hB5, hB6, hB7, hBs, hBp, hBe⟩ := id hB
  have h1 : HB 1 := Or.inl rfl
  have h10 : HB 10 := Or.inr (Or.inl rfl)
  have h19 : HB 19 := Or.inr (Or.inr rfl)
  have hn1 : σ 0 10 = nI qn := hC.2.2.2.2.2.1.1
  have hn9 : qn ≤ 20 := hC.1.2.2.2.2.2.1
  have hns : ∀ j, j < qn → σ 34 j = nI (qs j) := hC.2.2.2.2.2.1.2
  have hns9 : ∀ j, j < qn → qs j ≤ 99 := hC.1.2.2.2.2.2.2
  refine g_aload_n C dX4_judge_0 rfl rfl ?_
  refine g_callVI (rest := []) C mv_X4_207 (ct_X4_firstNotEatenToday l w hN σ a hR qn qs hn1 hn9 hns hns9) (Nat.lt_of_lt_of_le (by decide) hN) rfl rfl (by decide) rfl (Nat.le_of_ble_eq_true rfl) dX4_judge_1 (fun r1 σx h1 => ?_)
  obtain ⟨er1, hFx⟩ := h1
  rw [er1]
  refine g_istore_n (lv' := [(1, .int (jdS (dyL (hun a) a 0) qs qn)), (0, .ref (wA w 0))]) C dX4_judge_4 rfl (by decide) rfl ?_
  refine g_aload_n C dX4_judge_5 rfl rfl ?_
  refine g_iconst C dX4_judge_6 ic_0 ?_
  refine g_putn C fp_X4_197 (Nat.lt_of_lt_of_le (by decide) hN) rfl rfl (Nat.le_of_ble_eq_true rfl) rfl rfl dX4_judge_7 (fun σ2 hσ2 => ?_)
  refine g_iload_n C dX4_judge_10 rfl rfl ?_
  refine g_iret C r rfl dX4_judge_11 ?_
  exact ⟨rfl, (hC.scM hFx).rw0 hσ2, by rw [hσ2]; exact (hFx.mono (fun k z => by obtain ⟨z1, z2⟩ := z; simp only [in37]; omega)).tr (Fr.up (S := in37) (by decide)) (fun _ z => z)⟩

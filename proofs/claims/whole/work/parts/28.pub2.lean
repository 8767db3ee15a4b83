set_option maxRecDepth 100000 in
set_option maxHeartbeats 4000000 in
theorem ct_X4_dayOn (l : Launch) (w : WD) (hN : 54 ≤ wN w) (σ : SG) (a kp : Row) (tk nl : Nat) (lt : Nat → Nat) (qn : Nat) (qs : Nat → Nat) (rf : Nat → Int32) (hC : CX σ (a, kp, tk, (nl, lt), (qn, qs), rf)) : CtI l w yX4_dayOn cX4_dayOn 1 (some .int) 5 0 0 [.ref (wA w 0)] σ (fun r τ => r = (spDayOn (a, kp, tk, (nl, lt), (qn, qs), rf)).1 ∧ CX τ (spDayOn (a, kp, tk, (nl, lt), (qn, qs), rf)).2 ∧ Fr in37 σ τ) := by
  refine CtI.mk (by decide) (Nat.le_of_ble_eq_true rfl) ?_
  intro K C hr h0
  have r := RI.of hr h0
  clear hr h0
  show G l w K 0 [(0, .ref (wA w 0))] [] σ
  have hR : HR σ a := hC.2.1
  have hH : Hh σ 1 a := hR.1
  have hB : Bd a := hR.2.1
  have h6 : σ 1 6 = nI 0 := hR.2.2.1
  have hd9 : a 1 ≤ 9999 := hR.2.2.2.1
  have hu9 : ∀ e, e < 4 → a (30 + 4 * e + 1) ≤ 9 := hR.2.2.2.2
  obtain ⟨hBa, hB0, hB1, hB2, hB3, hB4, hB5, hB6, hB7, hBs, hBp, hBe⟩ := id hB
  have h1 : HB 1 := Or.inl rfl
  have h10 : HB 10 := Or.inr (Or.inl rfl)
  have h19 : HB 19 := Or.inr (Or.inr rfl)
  refine g_aload_n C dX4_dayOn_0 rfl rfl ?_
  refine g_get (v := .ref (wA w 1)) C fl_X4_12 fs_X4_12 (Nat.lt_of_lt_of_le (by decide) hN) rfl rfl dX4_dayOn_1 ?_
  refine g_get (v := .int (σ 1 5)) C fl_X4_110 fs_X4_110 (Nat.lt_of_lt_of_le (by decide) hN) rfl rfl dX4_dayOn_4 ?_
  refine g_val (y := nI (a 1)) (Hh.d hH) ?_
  refine g_sipush C dX4_dayOn_7 sp_9999 ?_
  refine g_icmp_lt (tgt := 23) C dX4_dayOn_10 rfl (fun c10_1 => ?_) (fun c10_1 => ?_)
  · skip
    have n10_1 : a 1 < 9999 := (nj_lt (a := a 1) (b := 9999) (by have := hBa 1; omega) (by have := hBa 1; omega)).mp c10_1
    refine g_aload_n C dX4_dayOn_23 rfl rfl ?_
    refine g_get (v := .ref (wA w 28)) C fl_X4_25 fs_X4_25 (Nat.lt_of_lt_of_le (by decide) hN) rfl rfl dX4_dayOn_24 ?_
    refine g_callVV (rest := []) C mv_X4_114 (ct_X3_clear l w hN σ) (Nat.lt_of_lt_of_le (by decide) hN) rfl rfl (by decide) rfl (Nat.le_of_ble_eq_true rfl) dX4_dayOn_27 (fun σc h2 => ?_)
    obtain ⟨hTc, hFc⟩ := h2
    have hHc : Hh σc 1 a := hH.fr (fun k z1 z2 => hFc k (fun z => by obtain ⟨z1, z2⟩ := z; omega))
    have h6c : σc 1 6 = nI 0 := by rw [hFc 1 (fun z => by obtain ⟨z1, z2⟩ := z; omega)]; exact h6
    refine g_aload_n C dX4_dayOn_30 rfl rfl ?_
    refine g_get (v := .ref (wA w 1)) C fl_X4_12 fs_X4_12 (Nat.lt_of_lt_of_le (by decide) hN) rfl rfl dX4_dayOn_31 ?_
    refine g_aload_n C dX4_dayOn_34 rfl rfl ?_
    refine g_get (v := .ref (wA w 28)) C fl_X4_25 fs_X4_25 (Nat.lt_of_lt_of_le (by decide) hN) rfl rfl dX4_dayOn_35 ?_
    refine g_callVV (rest := []) C mv_X4_117 (ct_X1_passDay l w hN σc 1 (Or.inl rfl) a hHc hB 0 h6c (Nat.zero_le _) _ _ _ _ _ hTc (by simp) (by omega)) (Nat.lt_of_lt_of_le (by decide) hN) rfl rfl (by decide) rfl (Nat.le_of_ble_eq_true rfl) dX4_dayOn_38 (fun σp h3 => ?_)
    obtain ⟨hHp, h6p, hTp, hFp⟩ := h3
    refine g_aload_n C dX4_dayOn_41 rfl rfl ?_
    refine g_get (v := .ref (wA w 28)) C fl_X4_25 fs_X4_25 (Nat.lt_of_lt_of_le (by decide) hN) rfl rfl dX4_dayOn_42 ?_
    refine g_get (v := .ref (wA w 29)) C fl_X4_121 fs_X4_121 (Nat.lt_of_lt_of_le (by decide) hN) rfl rfl dX4_dayOn_45 ?_
    refine g_iconst C dX4_dayOn_48 ic_0 ?_
    refine g_ial (k0 := 29) (n := 6) C (Nat.lt_of_lt_of_le (by decide) hN) rfl (j := 0) (by unfold ix; decide) dX4_dayOn_49 ?_
    refine g_val (y := 0 + dyV (hun a) a 0) hTp.1 ?_
    refine g_iret C r rfl dX4_dayOn_50 ?_
    have hR2 : HR σp (dyR (hun a) a 0) := ⟨hHp, dyR_bd hB (by omega), by rw [h6p, shF_0], ⟨by rw [dyR_1]; omega, fun e he => by rw [dyR_at _ _ _ _ (by omega) (by omega)]; exact hu9 e he⟩⟩
    refine fin_h hC hR2 ((hFc.mono (fun k z => Or.inr (Or.inl (by obtain ⟨z1, z2⟩ := z; exact ⟨by omega, by omega⟩)))).tr hFp (fun k z => z.elim (fun z => by obtain ⟨z1, z2⟩ := z; exact Or.inl ⟨by omega, by omega⟩) (fun z => by obtain ⟨z1, z2⟩ := z; exact Or.inr (Or.inl ⟨by omega, by omega⟩)))) ?_ (Int32.zero_add _)
    unfold spDayOn
    rw [if_neg (show ¬ a 1 = 9999 by omega)]
  · skip
    have n10_1 : ¬ (a 1 < 9999) := fun qq => c10_1 ((nj_lt (a := a 1) (b := 9999) (by have := hBa 1; omega) (by have := hBa 1; omega)).mpr qq)
    refine g_ldc C cs_X4_113 dX4_dayOn_13 ?_
    refine g_aload_n C dX4_dayOn_15 rfl rfl ?_
    refine g_bipush C dX4_dayOn_16 bp_m6 ?_
    refine g_callVI (rest := [.int 1000000000]) C mv_X4_64 (ct_X4_refuse l w hN σ 6 (by decide) ((-6)) (by decide)) (Nat.lt_of_lt_of_le (by decide) hN) rfl rfl (by decide) rfl (Nat.le_of_ble_eq_true rfl) dX4_dayOn_18 (fun r4 σ_4 h4 => ?_)
    obtain ⟨er4, hrf⟩ := h4
    rw [er4]
    refine g_isubv (v := 1000000006) C (by decide) dX4_dayOn_21 ?_
    refine g_iret C r rfl dX4_dayOn_22 ?_
    exact fin_t hC (by decide) hrf (by unfold spDayOn; rw [if_pos (show a 1 = 9999 by omega)]) rfl (by decide)
set_option maxRecDepth 100000 in
set_option maxHeartbeats 4000000 in
theorem ct_X4_total (l : Launch) (w : WD) (hN : 54 ≤ wN w) (σ : SG) (a kp : Row) (tk nl : Nat) (lt : Nat → Nat) (qn : Nat) (qs : Nat → Nat) (rf : Nat → Int32) (hC : CX σ (a, kp, tk, (nl, lt), (qn, qs), rf)) (x y : Int32) : CtI l w yX4_total cX4_total 4 (some .int) 6 0 0 [.ref (wA w 0), .int x, .int y] σ (fun r τ => r = (spTotal (a, kp, tk, (nl, lt), (qn, qs), rf) x y).1 ∧ CX τ (spTotal (a, kp, tk, (nl, lt), (qn, qs), rf) x y).2 ∧ Fr in37 σ τ) := by
  refine CtI.mk (by decide) (Nat.le_of_ble_eq_true rfl) ?_
  intro K C hr h0
  have r := RI.of hr h0
  clear hr h0
  show G l w K 0 [(0, .ref (wA w 0)), (1, .int x), (2, .int y)] [] σ
  have hR : HR σ a := hC.2.1
  have hH : Hh σ 1 a := hR.1
  have hB : Bd a := hR.2.1
  have h6 : σ 1 6 = nI 0 := hR.2.2.1
  have hd9 : a 1 ≤ 9999 := hR.2.2.2.1
  have hu9 : ∀ e, e < 4 → a (30 + 4 * e + 1) ≤ 9 := hR.2.2.2.2
  obtain ⟨hBa, hB0, hB1, hB2, hB3, hB4, hB5, hB6, hB7, hBs, hBp, hBe⟩ := id hB
  have h1 : HB 1 := Or.inl rfl
  have h10 : HB 10 := Or.inr (Or.inl rfl)
  have h19 : HB 19 := Or.inr (Or.inr rfl)
  refine g_iload_n C dX4_total_0 rfl rfl ?_
  refine g_iconst C dX4_total_1 ic_0 ?_
  refine g_bipush C dX4_total_2 bp_28 ?_
  refine g_pSI (rest := []) (v := oU x 0 28) C ms_X4_56 (ct_X4_outside l w hN σ x 0 28) rfl (by decide) rfl (Nat.le_of_ble_eq_true rfl) dX4_total_4 ?_
  refine g_istore_n (lv' := [(3, .int (oU x 0 28)), (0, .ref (wA w 0)), (1, .int x), (2, .int y)]) C dX4_total_7 rfl (by decide) rfl ?_
  refine g_iload_n C dX4_total_8 rfl rfl ?_
  refine g_if_ne (tgt := 24) C dX4_total_9 rfl (fun c9_1 => ?_) (fun c9_1 => ?_)
  · skip
    have hoc := c9_1
    refine g_iload_n C dX4_total_24 rfl rfl ?_
    refine g_if_eq (tgt := 37) C dX4_total_25 rfl (fun c25_2 => ?_) (fun c25_2 => ?_)
    · exact absurd c25_2 c9_1
    · skip
      have hoc := c25_2
      refine g_ldc C cs_X4_113 dX4_total_28 ?_
      refine g_aload_n C dX4_total_30 rfl rfl ?_
      refine g_iload_n C dX4_total_31 rfl rfl ?_
      refine g_callVI (rest := [.int 1000000000]) C mv_X4_64 (ct_X4_refuse l w hN σ (kO x 0) (kO_in _ _) (oU x 0 28) (outk hoc)) (Nat.lt_of_lt_of_le (by decide) hN) rfl rfl (by decide) rfl (Nat.le_of_ble_eq_true rfl) dX4_total_32 (fun r3 σ_3 h3 => ?_)
      obtain ⟨er3, hrf⟩ := h3
      rw [er3]
      refine g_isubv (v := 1000000000 - (oU x 0 28)) C rfl dX4_total_35 ?_
      refine g_iret C r rfl dX4_total_36 ?_
      first | exact fin_t hC (kO_in _ _) hrf (by unfold spTotal; rw [if_pos (outp hoc)]) (outv hoc) rfl | exact fin_t hC (by decide) hrf (by unfold spTotal; rw [if_neg hz, if_pos hy]) rfl (by decide)
  · skip
    have hz := out0 (lo := 0) (hi := 28) c9_1
    refine g_iload_n C dX4_total_12 rfl rfl ?_
    refine g_iconst C dX4_total_13 ic_0 ?_
    refine g_iconst C dX4_total_14 ic_5 ?_
    refine g_pSI (rest := []) (v := bI (0 ≤ y ∧ y ≤ 5)) C ms_X4_83 (ct_X4_within l w hN σ y 0 5) rfl (by decide) rfl (Nat.le_of_ble_eq_true rfl) dX4_total_15 ?_
    refine g_if_ne (tgt := 24) C dX4_total_18 rfl (fun c18_4 => ?_) (fun c18_4 => ?_)
    · skip
      have n18_4 : (0 ≤ y ∧ y ≤ 5) := bI_1 c18_4
      have hy := n18_4
      refine g_iload_n C dX4_total_24 rfl rfl ?_
      refine g_if_eq (tgt := 37) C dX4_total_25 rfl (fun c25_5 => ?_) (fun c25_5 => ?_)
      · skip
        obtain ⟨m, hm, rfl⟩ := nj_of4 (m := 28) hz
        obtain ⟨j, hj, rfl⟩ := nj_of3 (m := 5) hy
        refine g_aload_n C dX4_total_37 rfl rfl ?_
        refine g_callVV (rest := []) C mv_X4_124 (ct_X4_think l w hN σ a hH) (Nat.lt_of_lt_of_le (by decide) hN) rfl rfl (by decide) rfl (Nat.le_of_ble_eq_true rfl) dX4_total_38 (fun σt h6 => ?_)
        obtain ⟨hHt, h6t, hFt⟩ := h6
        have h6t : σt 19 6 = nI 0 := by rw [h6t]; exact h6
        refine g_aload_n C dX4_total_41 rfl rfl ?_
        refine g_iload_n C dX4_total_42 rfl rfl ?_
        refine g_callVI (rest := []) C mv_X4_127 (ct_X4_passInMind l w hN σt a hHt hB 0 h6t (Nat.zero_le _) (by omega) m (by omega)) (Nat.lt_of_lt_of_le (by decide) hN) rfl rfl (by decide) rfl (Nat.le_of_ble_eq_true rfl) dX4_total_43 (fun r7 σp h7 => ?_)
        obtain ⟨er7, eh7⟩ := h7
        subst er7
        obtain ⟨hHp, h6p, hTp, hFp⟩ := eh7
        refine g_pop C dX4_total_46 rfl ?_
        refine g_aload_n C dX4_total_47 rfl rfl ?_
        refine g_get (v := .ref (wA w 28)) C fl_X4_25 fs_X4_25 (Nat.lt_of_lt_of_le (by decide) hN) rfl rfl dX4_total_48 ?_
        refine g_get (v := .ref (wA w 29)) C fl_X4_121 fs_X4_121 (Nat.lt_of_lt_of_le (by decide) hN) rfl rfl dX4_total_51 ?_
        refine g_iload_n C dX4_total_54 rfl rfl ?_
        refine g_ial (k0 := 29) (n := 6) C (Nat.lt_of_lt_of_le (by decide) hN) rfl (j := j) (ix_n (by omega)) dX4_total_55 ?_
        refine g_val (y := totV a m j) (totV_of hTp hj) ?_
        refine g_iret C r rfl dX4_total_56 ?_
        refine fin_q hC (((hFt.mono inH_M).tr (hFp.mono inD_M) (fun _ z => z)).mono (fun _ z => Or.inl z)) ?_ rfl
        unfold spTotal
        rw [if_neg hz, if_neg (fun z => z hy), nn_nj (n := m) (by omega), nn_nj (n := j) (by omega)]
      · exact absurd c9_1 c25_5
    · skip
      have n18_4 : ¬ (0 ≤ y ∧ y ≤ 5) := bI_0 c18_4
      have hy := n18_4
      refine g_bipush C dX4_total_21 bp_m2 ?_
      refine g_istore_n (lv' := [(3, .int ((-2))), (0, .ref (wA w 0)), (1, .int x), (2, .int y)]) C dX4_total_23 rfl (by decide) rfl ?_
      refine g_iload_n C dX4_total_24 rfl rfl ?_
      refine g_if_eq (tgt := 37) C dX4_total_25 rfl (fun c25_8 => ?_) (fun c25_8 => ?_)
      · exact absurd c25_8 (by decide)
      · skip
        have hoc := c25_8
        refine g_ldc C cs_X4_113 dX4_total_28 ?_
        refine g_aload_n C dX4_total_30 rfl rfl ?_
        refine g_iload_n C dX4_total_31 rfl rfl ?_
        refine g_callVI (rest := [.int 1000000000]) C mv_X4_64 (ct_X4_refuse l w hN σ 2 (by decide) ((-2)) (by decide)) (Nat.lt_of_lt_of_le (by decide) hN) rfl rfl (by decide) rfl (Nat.le_of_ble_eq_true rfl) dX4_total_32 (fun r9 σ_9 h9 => ?_)
        obtain ⟨er9, hrf⟩ := h9
        rw [er9]
        refine g_isubv (v := 1000000002) C (by decide) dX4_total_35 ?_
        refine g_iret C r rfl dX4_total_36 ?_
        first | exact fin_t hC (kO_in _ _) hrf (by unfold spTotal; rw [if_pos (outp hoc)]) (outv hoc) rfl | exact fin_t hC (by decide) hrf (by unfold spTotal; rw [if_neg hz, if_pos hy]) rfl (by decide)

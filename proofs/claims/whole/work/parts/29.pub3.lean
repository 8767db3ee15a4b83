set_option maxRecDepth 100000 in
set_option maxHeartbeats 4000000 in
theorem ct_X4_left (l : Launch) (w : WD) (hN : 54 ≤ wN w) (σ : SG) (a kp : Row) (tk nl : Nat) (lt : Nat → Nat) (qn : Nat) (qs : Nat → Nat) (rf : Nat → Int32) (hC : CX σ (a, kp, tk, (nl, lt), (qn, qs), rf)) (x g : Int32) : CtI l w yX4_left cX4_left 4 (some .int) 6 0 0 [.ref (wA w 0), .int x, .int g] σ (fun r τ => r = (spLeft (a, kp, tk, (nl, lt), (qn, qs), rf) x g).1 ∧ CX τ (spLeft (a, kp, tk, (nl, lt), (qn, qs), rf) x g).2 ∧ Fr in37 σ τ) := by
  refine CtI.mk (by decide) (Nat.le_of_ble_eq_true rfl) ?_
  intro K C hr h0
  have r := RI.of hr h0
  clear hr h0
  show G l w K 0 [(0, .ref (wA w 0)), (1, .int x), (2, .int g)] [] σ
  have hR : HR σ a := hC.2.1
  have hH : Hh σ 1 a := hR.1
  have hB : Bd a := hR.2.1
  have h6 : σ 1 6 = nI 0 := hR.2.2.1
  have hd9 : a 1 ≤ 9999 := hR.2.2.2.1
  have hu9 : ∀ e, e < 4 → a (30 + 4 * e + 1) ≤ 9 := hR.2.2.2.2
  obtain ⟨hBa, hB0, hB1, hB2, hB3, hB4, hB5, hB6, hB7, hBs, hBp, hBe⟩ := id hB
  have h1 : HB 1 := Or.inl rfl
  have h10 : HB 10 := Or.inr (Or.inl rfl)
  have h19 : HB 19 := Or.inr (Or.inr rfl)
  refine g_iload_n C dX4_left_0 rfl rfl ?_
  refine g_iconst C dX4_left_1 ic_0 ?_
  refine g_bipush C dX4_left_2 bp_28 ?_
  refine g_pSI (rest := []) (v := oU x 0 28) C ms_X4_56 (ct_X4_outside l w hN σ x 0 28) rfl (by decide) rfl (Nat.le_of_ble_eq_true rfl) dX4_left_4 ?_
  refine g_istore_n (lv' := [(3, .int (oU x 0 28)), (0, .ref (wA w 0)), (1, .int x), (2, .int g)]) C dX4_left_7 rfl (by decide) rfl ?_
  refine g_iload_n C dX4_left_8 rfl rfl ?_
  refine g_if_ne (tgt := 21) C dX4_left_9 rfl (fun c9_1 => ?_) (fun c9_1 => ?_)
  · skip
    have hoc := c9_1
    refine g_iload_n C dX4_left_21 rfl rfl ?_
    refine g_if_eq (tgt := 31) C dX4_left_22 rfl (fun c22_2 => ?_) (fun c22_2 => ?_)
    · exact absurd c22_2 c9_1
    · skip
      have hoc := c22_2
      refine g_aload_n C dX4_left_25 rfl rfl ?_
      refine g_iload_n C dX4_left_26 rfl rfl ?_
      refine g_callVI (rest := []) C mv_X4_64 (ct_X4_refuse l w hN σ (kO x 0) (kO_in _ _) (oU x 0 28) (outk hoc)) (Nat.lt_of_lt_of_le (by decide) hN) rfl rfl (by decide) rfl (Nat.le_of_ble_eq_true rfl) dX4_left_27 (fun r3 σ_3 h3 => ?_)
      obtain ⟨er3, hrf⟩ := h3
      rw [er3]
      refine g_iret C r rfl dX4_left_30 ?_
      first | exact fin_r hC (kO_in _ _) hrf (by unfold spLeft; rw [if_pos (outp hoc)]) (outv hoc) | exact fin_r hC (by decide) hrf (by unfold spLeft; rw [if_neg hz, if_pos hy]) (by decide)
  · skip
    have hz := out0 (lo := 0) (hi := 28) c9_1
    refine g_iload_n C dX4_left_12 rfl rfl ?_
    refine g_pSI (rest := []) (v := bI (0 ≤ g ∧ g < 5)) C ms_X4_91 (ct_X4_isAge l w hN σ g) rfl (by decide) rfl (Nat.le_of_ble_eq_true rfl) dX4_left_13 ?_
    refine g_if_ne (tgt := 21) C dX4_left_16 rfl (fun c16_4 => ?_) (fun c16_4 => ?_)
    · skip
      have n16_4 : (0 ≤ g ∧ g < 5) := bI_1 c16_4
      have hy := n16_4
      refine g_iload_n C dX4_left_21 rfl rfl ?_
      refine g_if_eq (tgt := 31) C dX4_left_22 rfl (fun c22_5 => ?_) (fun c22_5 => ?_)
      · skip
        obtain ⟨m, hm, rfl⟩ := nj_of4 (m := 28) hz
        obtain ⟨j, hj, rfl⟩ := nj_of2 (m := 5) hy (by decide)
        refine g_aload_n C dX4_left_31 rfl rfl ?_
        refine g_callVV (rest := []) C mv_X4_124 (ct_X4_think l w hN σ a hH) (Nat.lt_of_lt_of_le (by decide) hN) rfl rfl (by decide) rfl (Nat.le_of_ble_eq_true rfl) dX4_left_32 (fun σt h6 => ?_)
        obtain ⟨hHt, h6t, hFt⟩ := h6
        have h6t : σt 19 6 = nI 0 := by rw [h6t]; exact h6
        refine g_aload_n C dX4_left_35 rfl rfl ?_
        refine g_iload_n C dX4_left_36 rfl rfl ?_
        refine g_callVI (rest := []) C mv_X4_127 (ct_X4_passInMind l w hN σt a hHt hB 0 h6t (Nat.zero_le _) (by omega) m (by omega)) (Nat.lt_of_lt_of_le (by decide) hN) rfl rfl (by decide) rfl (Nat.le_of_ble_eq_true rfl) dX4_left_37 (fun r7 σp h7 => ?_)
        obtain ⟨er7, eh7⟩ := h7
        subst er7
        obtain ⟨hHp, h6p, hTp, hFp⟩ := eh7
        refine g_pop C dX4_left_40 rfl ?_
        refine g_aload_n C dX4_left_41 rfl rfl ?_
        refine g_get (v := .ref (wA w 19)) C fl_X4_19 fs_X4_19 (Nat.lt_of_lt_of_le (by decide) hN) rfl rfl dX4_left_42 ?_
        refine g_get (v := .ref (wA w 20)) C fl_X4_94 fs_X4_94 (Nat.lt_of_lt_of_le (by decide) hN) rfl rfl dX4_left_45 ?_
        refine g_iload_n C dX4_left_48 rfl rfl ?_
        refine g_ial (k0 := 20) (n := 5) C (Nat.lt_of_lt_of_le (by decide) hN) rfl (j := j) (ix_n (by omega)) dX4_left_49 ?_
        refine g_val (y := nI ((nD a 0 m).1 (10 + j))) (hHp.s hj) ?_
        refine g_iret C r rfl dX4_left_50 ?_
        refine fin_q hC (((hFt.mono inH_M).tr (hFp.mono inD_M) (fun _ z => z)).mono (fun _ z => Or.inl z)) ?_ rfl
        unfold spLeft
        rw [if_neg hz, if_neg (fun z => z hy), nn_nj (n := m) (by omega), nn_nj (n := j) (by omega)]
      · exact absurd c9_1 c22_5
    · skip
      have n16_4 : ¬ (0 ≤ g ∧ g < 5) := bI_0 c16_4
      have hy := n16_4
      refine g_iconst C dX4_left_19 ic_m1 ?_
      refine g_istore_n (lv' := [(3, .int ((-1))), (0, .ref (wA w 0)), (1, .int x), (2, .int g)]) C dX4_left_20 rfl (by decide) rfl ?_
      refine g_iload_n C dX4_left_21 rfl rfl ?_
      refine g_if_eq (tgt := 31) C dX4_left_22 rfl (fun c22_8 => ?_) (fun c22_8 => ?_)
      · exact absurd c22_8 (by decide)
      · skip
        have hoc := c22_8
        refine g_aload_n C dX4_left_25 rfl rfl ?_
        refine g_iload_n C dX4_left_26 rfl rfl ?_
        refine g_callVI (rest := []) C mv_X4_64 (ct_X4_refuse l w hN σ 1 (by decide) ((-1)) (by decide)) (Nat.lt_of_lt_of_le (by decide) hN) rfl rfl (by decide) rfl (Nat.le_of_ble_eq_true rfl) dX4_left_27 (fun r9 σ_9 h9 => ?_)
        obtain ⟨er9, hrf⟩ := h9
        rw [er9]
        refine g_iret C r rfl dX4_left_30 ?_
        first | exact fin_r hC (kO_in _ _) hrf (by unfold spLeft; rw [if_pos (outp hoc)]) (outv hoc) | exact fin_r hC (by decide) hrf (by unfold spLeft; rw [if_neg hz, if_pos hy]) (by decide)
set_option maxRecDepth 100000 in
set_option maxHeartbeats 4000000 in
theorem ct_X4_never (l : Launch) (w : WD) (hN : 54 ≤ wN w) (σ : SG) (a kp : Row) (tk nl : Nat) (lt : Nat → Nat) (qn : Nat) (qs : Nat → Nat) (rf : Nat → Int32) (hC : CX σ (a, kp, tk, (nl, lt), (qn, qs), rf)) : CtI l w yX4_never cX4_never 2 (some .int) 6 0 0 [.ref (wA w 0)] σ (fun r τ => r = (spNever (a, kp, tk, (nl, lt), (qn, qs), rf)).1 ∧ CX τ (spNever (a, kp, tk, (nl, lt), (qn, qs), rf)).2 ∧ Fr in37 σ τ) := by
  refine CtI.mk (by decide) (Nat.le_of_ble_eq_true rfl) ?_
  intro K C hr h0
  have r := RI.of hr h0
  clear hr h0
  show G l w K 0 [(0, .ref (wA w 0))] [] σ
  have hR : HR σ a := hC.2.1
  have hH : Hh σ 1 a := hR.1
  have hB : Bd a := hR.2.1
  have h6 : σ 1 6 = nI 0 := hR.2.2.1
  have hd9 : a 1 ≤ 9999 := hR.2.2.2.1
  have hu9 : ∀ e, e < 4 → a (30 + 4 * e + 1) ≤ 9 := hR.2.2.2.2
  obtain ⟨hBa, hB0, hB1, hB2, hB3, hB4, hB5, hB6, hB7, hBs, hBp, hBe⟩ := id hB
  have h1 : HB 1 := Or.inl rfl
  have h10 : HB 10 := Or.inr (Or.inl rfl)
  have h19 : HB 19 := Or.inr (Or.inr rfl)
  refine g_aload_n C dX4_never_0 rfl rfl ?_
  refine g_callVV (rest := []) C mv_X4_124 (ct_X4_think l w hN σ a hH) (Nat.lt_of_lt_of_le (by decide) hN) rfl rfl (by decide) rfl (Nat.le_of_ble_eq_true rfl) dX4_never_1 (fun σt h1 => ?_)
  obtain ⟨hHt, h6t, hFt⟩ := h1
  have h6t : σt 19 6 = nI 0 := by rw [h6t]; exact h6
  refine g_iconst C dX4_never_4 ic_0 ?_
  refine g_istore_n (lv' := [(1, .int 0), (0, .ref (wA w 0))]) C dX4_never_5 rfl (by decide) rfl ?_
  have L6 : ∀ (m6 : Nat) (d : Nat) (a1 : Row) (σ1 : SG), m6 = 28 - d → (d ≤ 28) → (Hh σ1 19 a1) → (Bd a1) → (σ1 19 6 = nI 0) → (a1 1 ≤ 9999 + d) → (nevS 28 a = d + nevS (28 - d) a1) → (Fr inM σ σ1) → G l w K 6 [(0, .ref (wA w 0)), (1, .int (nI d))] [] σ1 := by
    intro m6
    induction m6 using Nat.strongRecOn with
    | ind m6 ih6 =>
    intro d a1 σ1 em6 hd hH1 hB1 h61 hd1 hN1 hF1
    have hBa1 := hB1.1
    refine g_iload_n C dX4_never_6 rfl rfl ?_
    refine g_bipush C dX4_never_7 bp_28 ?_
    refine g_icmp_ge (tgt := 38) C dX4_never_9 rfl (fun c9_2 => ?_) (fun c9_2 => ?_)
    · skip
      have n9_2 : 28 ≤ d := (nj_le (a := 28) (b := d) (by omega) (by omega)).mp c9_2
      refine g_bipush C dX4_never_38 bp_28 ?_
      refine g_iret C r rfl dX4_never_40 ?_
      obtain rfl : d = 28 := by omega
      refine fin_q hC (hF1.mono (fun _ z => Or.inl z)) ?_ rfl
      unfold spNever
      show (nI (nevS 28 a), _) = _
      rw [hN1]
      rfl
    · skip
      have n9_2 : ¬ (28 ≤ d) := fun qq => c9_2 ((nj_le (a := 28) (b := d) (by omega) (by omega)).mpr qq)
      refine g_aload_n C dX4_never_12 rfl rfl ?_
      refine g_iconst C dX4_never_13 ic_1 ?_
      refine g_callVI (rest := []) C mv_X4_127 (ct_X4_passInMind l w hN σ1 a1 hH1 hB1 0 h61 (Nat.zero_le _) (by omega) 1 (by omega)) (Nat.lt_of_lt_of_le (by decide) hN) rfl rfl (by decide) rfl (Nat.le_of_ble_eq_true rfl) dX4_never_14 (fun r3 σp h3 => ?_)
      obtain ⟨er3, eh3⟩ := h3
      subst er3
      obtain ⟨hHp, h6p, hTp, hFp⟩ := eh3
      have hct : ((nD a1 0 1).2.2.2.1).count 0 = (dyL (hun a1) a1 0).count 0 := rfl
      have hcl := List.count_le_length (a := 0) (l := dyL (hun a1) a1 0)
      have hcl2 := dyL_len hB1 0
      refine g_pop C dX4_never_17 rfl ?_
      refine g_aload_n C dX4_never_18 rfl rfl ?_
      refine g_get (v := .ref (wA w 28)) C fl_X4_25 fs_X4_25 (Nat.lt_of_lt_of_le (by decide) hN) rfl rfl dX4_never_19 ?_
      refine g_get (v := .ref (wA w 29)) C fl_X4_121 fs_X4_121 (Nat.lt_of_lt_of_le (by decide) hN) rfl rfl dX4_never_22 ?_
      refine g_iconst C dX4_never_25 ic_2 ?_
      refine g_ial (k0 := 29) (n := 6) C (Nat.lt_of_lt_of_le (by decide) hN) rfl (j := 2) (by unfold ix; decide) dX4_never_26 ?_
      refine g_val (y := nI ((dyL (hun a1) a1 0).count 0)) hTp.2.2.1 ?_
      refine g_if_le (tgt := 32) C dX4_never_27 rfl (fun c27_4 => ?_) (fun c27_4 => ?_)
      · skip
        have n27_4 : (dyL (hun a1) a1 0).count 0 ≤ 0 := (nj_le (a := (dyL (hun a1) a1 0).count 0) (b := 0) (by have := hBa1 0; omega) (by have := hBa1 0; omega)).mp c27_4
        refine g_iinc (v := nI (d + 1)) (lv' := [(1, .int (nI (d + 1))), (0, .ref (wA w 0))]) C dX4_never_32 (by decide) rfl (nj_inc d) rfl ?_
        refine g_goto (tgt := 6) C dX4_never_35 rfl ?_
        exact g_lvp [1, 0] rfl (ih6 (28 - (d + 1)) (by omega) (d + 1) (dyR (hun a1) a1 0) σp rfl (by first | omega | assumption | rfl | grind) (hHp) (dyR_bd hB1 (by omega)) (by rw [h6p]; exact congrArg nI (shF_0 a1)) (by rw [dyR_1]; omega) (by rw [hN1, show 28 - d = (28 - (d + 1)) + 1 by omega, nev_step1 (by omega)]; omega) (hF1.tr (hFp.mono inD_M) (fun _ z => z)))
      · skip
        have n27_4 : ¬ ((dyL (hun a1) a1 0).count 0 ≤ 0) := fun qq => c27_4 ((nj_le (a := (dyL (hun a1) a1 0).count 0) (b := 0) (by have := hBa1 0; omega) (by have := hBa1 0; omega)).mpr qq)
        refine g_iload_n C dX4_never_30 rfl rfl ?_
        refine g_iret C r rfl dX4_never_31 ?_
        refine fin_q hC ((hF1.tr (hFp.mono inD_M) (fun _ z => z)).mono (fun _ z => Or.inl z)) ?_ rfl
        unfold spNever
        show (nI (nevS 28 a), _) = _
        rw [hN1, show 28 - d = (27 - d) + 1 by omega, nev_step0 (by omega), Nat.add_zero]
  exact g_lvp [1, 0] rfl (L6 (28 - 0) 0 a σt rfl (by first | omega | assumption | rfl | grind) (hHt) (hB) (h6t) (by omega) (by rw [Nat.zero_add]) (hFt.mono inH_M))
set_option maxRecDepth 100000 in
set_option maxHeartbeats 4000000 in
theorem ct_X4_best (l : Launch) (w : WD) (hN : 54 ≤ wN w) (σ : SG) (a kp : Row) (tk nl : Nat) (lt : Nat → Nat) (qn : Nat) (qs : Nat → Nat) (rf : Nat → Int32) (hC : CX σ (a, kp, tk, (nl, lt), (qn, qs), rf)) (x : Int32) : CtI l w yX4_best cX4_best 3 (some .int) 7 0 0 [.ref (wA w 0), .int x] σ (fun r τ => r = (spBos 5 5 (a, kp, tk, (nl, lt), (qn, qs), rf) x).1 ∧ CX τ (spBos 5 5 (a, kp, tk, (nl, lt), (qn, qs), rf) x).2 ∧ Fr in37 σ τ) := by
  refine CtI.mk (by decide) (Nat.le_of_ble_eq_true rfl) ?_
  intro K C hr h0
  have r := RI.of hr h0
  clear hr h0
  show G l w K 0 [(0, .ref (wA w 0)), (1, .int x)] [] σ
  have hR : HR σ a := hC.2.1
  have hH : Hh σ 1 a := hR.1
  have hB : Bd a := hR.2.1
  have h6 : σ 1 6 = nI 0 := hR.2.2.1
  have hd9 : a 1 ≤ 9999 := hR.2.2.2.1
  have hu9 : ∀ e, e < 4 → a (30 + 4 * e + 1) ≤ 9 := hR.2.2.2.2
  obtain ⟨hBa, hB0, hB1, hB2, hB3, hB4, hB5, hB6, hB7, hBs, hBp, hBe⟩ := id hB
  have h1 : HB 1 := Or.inl rfl
  have h10 : HB 10 := Or.inr (Or.inl rfl)
  have h19 : HB 19 := Or.inr (Or.inr rfl)
  refine g_iload_n C dX4_best_0 rfl rfl ?_
  refine g_iconst C dX4_best_1 ic_0 ?_
  refine g_bipush C dX4_best_2 bp_28 ?_
  refine g_pSI (rest := []) (v := oU x 0 28) C ms_X4_56 (ct_X4_outside l w hN σ x 0 28) rfl (by decide) rfl (Nat.le_of_ble_eq_true rfl) dX4_best_4 ?_
  refine g_istore_n (lv' := [(2, .int (oU x 0 28)), (0, .ref (wA w 0)), (1, .int x)]) C dX4_best_7 rfl (by decide) rfl ?_
  refine g_iload_n C dX4_best_8 rfl rfl ?_
  refine g_if_eq (tgt := 20) C dX4_best_9 rfl (fun c9_1 => ?_) (fun c9_1 => ?_)
  · skip
    have hz := out0 (lo := 0) (hi := 28) c9_1
    obtain ⟨m, hm, rfl⟩ := nj_of4 (m := 28) hz
    refine g_aload_n C dX4_best_20 rfl rfl ?_
    refine g_iconst C dX4_best_21 ic_5 ?_
    refine g_iload_n C dX4_best_22 rfl rfl ?_
    refine g_callVI (rest := []) C mv_X4_156 (ct_X4_bestOfSetting l w hN σ a hR 5 m (by decide) hm 5 rfl (by decide)) (Nat.lt_of_lt_of_le (by decide) hN) rfl rfl (by decide) rfl (Nat.le_of_ble_eq_true rfl) dX4_best_23 (fun r2 σ_2 h2 => ?_)
    obtain ⟨er2, hCb, hFb⟩ := h2
    have hrb := er2
    refine g_iret C r rfl dX4_best_26 ?_
    first | exact fin_r hC (kO_in _ _) hrf (by unfold spBos; rw [if_pos (outp hoc)]) (outv hoc) | exact fin_q hC (hFb.mono (fun _ z => Or.inl z)) (by unfold spBos; rw [if_neg hz, nn_nj (n := m) (by omega)]) hrb
  · skip
    have hoc := c9_1
    refine g_aload_n C dX4_best_12 rfl rfl ?_
    refine g_iload_n C dX4_best_13 rfl rfl ?_
    refine g_callVI (rest := []) C mv_X4_64 (ct_X4_refuse l w hN σ (kO x 0) (kO_in _ _) (oU x 0 28) (outk hoc)) (Nat.lt_of_lt_of_le (by decide) hN) rfl rfl (by decide) rfl (Nat.le_of_ble_eq_true rfl) dX4_best_14 (fun r3 σ_3 h3 => ?_)
    obtain ⟨er3, hrf⟩ := h3
    rw [er3]
    refine g_goto (tgt := 26) C dX4_best_17 rfl ?_
    refine g_iret C r rfl dX4_best_26 ?_
    first | exact fin_r hC (kO_in _ _) hrf (by unfold spBos; rw [if_pos (outp hoc)]) (outv hoc) | exact fin_q hC (hFb.mono (fun _ z => Or.inl z)) (by unfold spBos; rw [if_neg hz, nn_nj (n := m) (by omega)]) hrb
set_option maxRecDepth 100000 in
set_option maxHeartbeats 4000000 in
theorem ct_X4_buying (l : Launch) (w : WD) (hN : 54 ≤ wN w) (σ : SG) (a kp : Row) (tk nl : Nat) (lt : Nat → Nat) (qn : Nat) (qs : Nat → Nat) (rf : Nat → Int32) (hC : CX σ (a, kp, tk, (nl, lt), (qn, qs), rf)) (x : Int32) : CtI l w yX4_buying cX4_buying 3 (some .int) 7 0 0 [.ref (wA w 0), .int x] σ (fun r τ => r = (spBos 0 30 (a, kp, tk, (nl, lt), (qn, qs), rf) x).1 ∧ CX τ (spBos 0 30 (a, kp, tk, (nl, lt), (qn, qs), rf) x).2 ∧ Fr in37 σ τ) := by
  refine CtI.mk (by decide) (Nat.le_of_ble_eq_true rfl) ?_
  intro K C hr h0
  have r := RI.of hr h0
  clear hr h0
  show G l w K 0 [(0, .ref (wA w 0)), (1, .int x)] [] σ
  have hR : HR σ a := hC.2.1
  have hH : Hh σ 1 a := hR.1
  have hB : Bd a := hR.2.1
  have h6 : σ 1 6 = nI 0 := hR.2.2.1
  have hd9 : a 1 ≤ 9999 := hR.2.2.2.1
  have hu9 : ∀ e, e < 4 → a (30 + 4 * e + 1) ≤ 9 := hR.2.2.2.2
  obtain ⟨hBa, hB0, hB1, hB2, hB3, hB4, hB5, hB6, hB7, hBs, hBp, hBe⟩ := id hB
  have h1 : HB 1 := Or.inl rfl
  have h10 : HB 10 := Or.inr (Or.inl rfl)
  have h19 : HB 19 := Or.inr (Or.inr rfl)
  refine g_iload_n C dX4_buying_0 rfl rfl ?_
  refine g_iconst C dX4_buying_1 ic_0 ?_
  refine g_bipush C dX4_buying_2 bp_28 ?_
  refine g_pSI (rest := []) (v := oU x 0 28) C ms_X4_56 (ct_X4_outside l w hN σ x 0 28) rfl (by decide) rfl (Nat.le_of_ble_eq_true rfl) dX4_buying_4 ?_
  refine g_istore_n (lv' := [(2, .int (oU x 0 28)), (0, .ref (wA w 0)), (1, .int x)]) C dX4_buying_7 rfl (by decide) rfl ?_
  refine g_iload_n C dX4_buying_8 rfl rfl ?_
  refine g_if_eq (tgt := 20) C dX4_buying_9 rfl (fun c9_1 => ?_) (fun c9_1 => ?_)
  · skip
    have hz := out0 (lo := 0) (hi := 28) c9_1
    obtain ⟨m, hm, rfl⟩ := nj_of4 (m := 28) hz
    refine g_aload_n C dX4_buying_20 rfl rfl ?_
    refine g_iconst C dX4_buying_21 ic_0 ?_
    refine g_iload_n C dX4_buying_22 rfl rfl ?_
    refine g_callVI (rest := []) C mv_X4_156 (ct_X4_bestOfSetting l w hN σ a hR 0 m (by decide) hm 30 rfl (by decide)) (Nat.lt_of_lt_of_le (by decide) hN) rfl rfl (by decide) rfl (Nat.le_of_ble_eq_true rfl) dX4_buying_23 (fun r2 σ_2 h2 => ?_)
    obtain ⟨er2, hCb, hFb⟩ := h2
    have hrb := er2
    refine g_iret C r rfl dX4_buying_26 ?_
    first | exact fin_r hC (kO_in _ _) hrf (by unfold spBos; rw [if_pos (outp hoc)]) (outv hoc) | exact fin_q hC (hFb.mono (fun _ z => Or.inl z)) (by unfold spBos; rw [if_neg hz, nn_nj (n := m) (by omega)]) hrb
  · skip
    have hoc := c9_1
    refine g_aload_n C dX4_buying_12 rfl rfl ?_
    refine g_iload_n C dX4_buying_13 rfl rfl ?_
    refine g_callVI (rest := []) C mv_X4_64 (ct_X4_refuse l w hN σ (kO x 0) (kO_in _ _) (oU x 0 28) (outk hoc)) (Nat.lt_of_lt_of_le (by decide) hN) rfl rfl (by decide) rfl (Nat.le_of_ble_eq_true rfl) dX4_buying_14 (fun r3 σ_3 h3 => ?_)
    obtain ⟨er3, hrf⟩ := h3
    rw [er3]
    refine g_goto (tgt := 26) C dX4_buying_17 rfl ?_
    refine g_iret C r rfl dX4_buying_26 ?_
    first | exact fin_r hC (kO_in _ _) hrf (by unfold spBos; rw [if_pos (outp hoc)]) (outv hoc) | exact fin_q hC (hFb.mono (fun _ z => Or.inl z)) (by unfold spBos; rw [if_neg hz, nn_nj (n := m) (by omega)]) hrb
set_option maxRecDepth 100000 in
set_option maxHeartbeats 4000000 in
theorem ct_X4_half (l : Launch) (w : WD) (hN : 54 ≤ wN w) (σ : SG) (a kp : Row) (tk nl : Nat) (lt : Nat → Nat) (qn : Nat) (qs : Nat → Nat) (rf : Nat → Int32) (hC : CX σ (a, kp, tk, (nl, lt), (qn, qs), rf)) (x : Int32) : CtI l w yX4_half cX4_half 3 (some .int) 7 0 0 [.ref (wA w 0), .int x] σ (fun r τ => r = (spBos 1 9 (a, kp, tk, (nl, lt), (qn, qs), rf) x).1 ∧ CX τ (spBos 1 9 (a, kp, tk, (nl, lt), (qn, qs), rf) x).2 ∧ Fr in37 σ τ) := by
  refine CtI.mk (by decide) (Nat.le_of_ble_eq_true rfl) ?_
  intro K C hr h0
  have r := RI.of hr h0
  clear hr h0
  show G l w K 0 [(0, .ref (wA w 0)), (1, .int x)] [] σ
  have hR : HR σ a := hC.2.1
  have hH : Hh σ 1 a := hR.1
  have hB : Bd a := hR.2.1
  have h6 : σ 1 6 = nI 0 := hR.2.2.1
  have hd9 : a 1 ≤ 9999 := hR.2.2.2.1
  have hu9 : ∀ e, e < 4 → a (30 + 4 * e + 1) ≤ 9 := hR.2.2.2.2
  obtain ⟨hBa, hB0, hB1, hB2, hB3, hB4, hB5, hB6, hB7, hBs, hBp, hBe⟩ := id hB
  have h1 : HB 1 := Or.inl rfl
  have h10 : HB 10 := Or.inr (Or.inl rfl)
  have h19 : HB 19 := Or.inr (Or.inr rfl)
  refine g_iload_n C dX4_half_0 rfl rfl ?_
  refine g_iconst C dX4_half_1 ic_0 ?_
  refine g_bipush C dX4_half_2 bp_28 ?_
  refine g_pSI (rest := []) (v := oU x 0 28) C ms_X4_56 (ct_X4_outside l w hN σ x 0 28) rfl (by decide) rfl (Nat.le_of_ble_eq_true rfl) dX4_half_4 ?_
  refine g_istore_n (lv' := [(2, .int (oU x 0 28)), (0, .ref (wA w 0)), (1, .int x)]) C dX4_half_7 rfl (by decide) rfl ?_
  refine g_iload_n C dX4_half_8 rfl rfl ?_
  refine g_if_eq (tgt := 20) C dX4_half_9 rfl (fun c9_1 => ?_) (fun c9_1 => ?_)
  · skip
    have hz := out0 (lo := 0) (hi := 28) c9_1
    obtain ⟨m, hm, rfl⟩ := nj_of4 (m := 28) hz
    refine g_aload_n C dX4_half_20 rfl rfl ?_
    refine g_iconst C dX4_half_21 ic_1 ?_
    refine g_iload_n C dX4_half_22 rfl rfl ?_
    refine g_callVI (rest := []) C mv_X4_156 (ct_X4_bestOfSetting l w hN σ a hR 1 m (by decide) hm 9 rfl (by decide)) (Nat.lt_of_lt_of_le (by decide) hN) rfl rfl (by decide) rfl (Nat.le_of_ble_eq_true rfl) dX4_half_23 (fun r2 σ_2 h2 => ?_)
    obtain ⟨er2, hCb, hFb⟩ := h2
    have hrb := er2
    refine g_iret C r rfl dX4_half_26 ?_
    first | exact fin_r hC (kO_in _ _) hrf (by unfold spBos; rw [if_pos (outp hoc)]) (outv hoc) | exact fin_q hC (hFb.mono (fun _ z => Or.inl z)) (by unfold spBos; rw [if_neg hz, nn_nj (n := m) (by omega)]) hrb
  · skip
    have hoc := c9_1
    refine g_aload_n C dX4_half_12 rfl rfl ?_
    refine g_iload_n C dX4_half_13 rfl rfl ?_
    refine g_callVI (rest := []) C mv_X4_64 (ct_X4_refuse l w hN σ (kO x 0) (kO_in _ _) (oU x 0 28) (outk hoc)) (Nat.lt_of_lt_of_le (by decide) hN) rfl rfl (by decide) rfl (Nat.le_of_ble_eq_true rfl) dX4_half_14 (fun r3 σ_3 h3 => ?_)
    obtain ⟨er3, hrf⟩ := h3
    rw [er3]
    refine g_goto (tgt := 26) C dX4_half_17 rfl ?_
    refine g_iret C r rfl dX4_half_26 ?_
    first | exact fin_r hC (kO_in _ _) hrf (by unfold spBos; rw [if_pos (outp hoc)]) (outv hoc) | exact fin_q hC (hFb.mono (fun _ z => Or.inl z)) (by unfold spBos; rw [if_neg hz, nn_nj (n := m) (by omega)]) hrb
set_option maxRecDepth 100000 in
set_option maxHeartbeats 4000000 in
theorem ct_X4_pays (l : Launch) (w : WD) (hN : 54 ≤ wN w) (σ : SG) (a kp : Row) (tk nl : Nat) (lt : Nat → Nat) (qn : Nat) (qs : Nat → Nat) (rf : Nat → Int32) (hC : CX σ (a, kp, tk, (nl, lt), (qn, qs), rf)) (x : Int32) : CtI l w yX4_pays cX4_pays 3 (some .int) 7 0 0 [.ref (wA w 0), .int x] σ (fun r τ => r = (spPays (a, kp, tk, (nl, lt), (qn, qs), rf) x).1 ∧ CX τ (spPays (a, kp, tk, (nl, lt), (qn, qs), rf) x).2 ∧ Fr in37 σ τ) := by
  refine CtI.mk (by decide) (Nat.le_of_ble_eq_true rfl) ?_
  intro K C hr h0
  have r := RI.of hr h0
  clear hr h0
  show G l w K 0 [(0, .ref (wA w 0)), (1, .int x)] [] σ
  have hR : HR σ a := hC.2.1
  have hH : Hh σ 1 a := hR.1
  have hB : Bd a := hR.2.1
  have h6 : σ 1 6 = nI 0 := hR.2.2.1
  have hd9 : a 1 ≤ 9999 := hR.2.2.2.1
  have hu9 : ∀ e, e < 4 → a (30 + 4 * e + 1) ≤ 9 := hR.2.2.2.2
  obtain ⟨hBa, hB0, hB1, hB2, hB3, hB4, hB5, hB6, hB7, hBs, hBp, hBe⟩ := id hB
  have h1 : HB 1 := Or.inl rfl
  have h10 : HB 10 := Or.inr (Or.inl rfl)
  have h19 : HB 19 := Or.inr (Or.inr rfl)
  refine g_iload_n C dX4_pays_0 rfl rfl ?_
  refine g_iconst C dX4_pays_1 ic_0 ?_
  refine g_bipush C dX4_pays_2 bp_28 ?_
  refine g_pSI (rest := []) (v := oU x 0 28) C ms_X4_56 (ct_X4_outside l w hN σ x 0 28) rfl (by decide) rfl (Nat.le_of_ble_eq_true rfl) dX4_pays_4 ?_
  refine g_istore_n (lv' := [(2, .int (oU x 0 28)), (0, .ref (wA w 0)), (1, .int x)]) C dX4_pays_7 rfl (by decide) rfl ?_
  refine g_iload_n C dX4_pays_8 rfl rfl ?_
  refine g_if_eq (tgt := 21) C dX4_pays_9 rfl (fun c9_1 => ?_) (fun c9_1 => ?_)
  · skip
    have hz := out0 (lo := 0) (hi := 28) c9_1
    obtain ⟨m, hm, rfl⟩ := nj_of4 (m := 28) hz
    refine g_aload_n C dX4_pays_21 rfl rfl ?_
    refine g_iconst C dX4_pays_22 ic_1 ?_
    refine g_iload_n C dX4_pays_23 rfl rfl ?_
    refine g_callVI (rest := []) C mv_X4_156 (ct_X4_bestOfSetting l w hN σ a hR 1 m (by decide) hm 9 rfl (by decide)) (Nat.lt_of_lt_of_le (by decide) hN) rfl rfl (by decide) rfl (Nat.le_of_ble_eq_true rfl) dX4_pays_24 (fun r2 σb h2 => ?_)
    obtain ⟨er2, hCb, hFb⟩ := h2
    have hHb : Hh σb 1 a := (hR.m hFb).1
    have h6b : σb 1 6 = nI 0 := (hR.m hFb).2.2.1
    refine g_pop C dX4_pays_27 rfl ?_
    refine g_aload_n C dX4_pays_28 rfl rfl ?_
    refine g_callVV (rest := []) C mv_X4_124 (ct_X4_think l w hN σb a hHb) (Nat.lt_of_lt_of_le (by decide) hN) rfl rfl (by decide) rfl (Nat.le_of_ble_eq_true rfl) dX4_pays_29 (fun σt h3 => ?_)
    obtain ⟨hHt, h6t, hFt⟩ := h3
    have h6t : σt 19 6 = nI 0 := by rw [h6t]; exact h6b
    refine g_aload_n C dX4_pays_32 rfl rfl ?_
    refine g_get (v := .ref (wA w 19)) C fl_X4_19 fs_X4_19 (Nat.lt_of_lt_of_le (by decide) hN) rfl rfl dX4_pays_33 ?_
    refine g_get (v := .ref (wA w 22)) C fl_X4_103 fs_X4_103 (Nat.lt_of_lt_of_le (by decide) hN) rfl rfl dX4_pays_36 ?_
    refine g_iconst C dX4_pays_39 ic_1 ?_
    refine g_iconst C dX4_pays_40 ic_0 ?_
    refine g_ias (k0 := 22) (n := 6) C (Nat.lt_of_lt_of_le (by decide) hN) rfl (j := 1) (by unfold ix; decide) dX4_pays_41 (fun σu hσu => ?_)
    have hHu : Hh σu 19 (ua a (2 + 1) 0) := by rw [hσu]; exact hHt.ut (j := 1) (v := 0) (by omega)
    have hBu : Bd (ua a (2 + 1) 0) := hB.ut (by omega) (by decide) (by omega)
    have h6u : σu 19 6 = nI 0 := by rw [hσu, up_other (by decide)]; exact h6t
    refine g_aload_n C dX4_pays_42 rfl rfl ?_
    refine g_get (v := .ref (wA w 31)) C fl_X4_32 fs_X4_32 (Nat.lt_of_lt_of_le (by decide) hN) rfl rfl dX4_pays_43 ?_
    refine g_get (v := .int (σu 31 1)) C fl_X4_159 fs_X4_159 (Nat.lt_of_lt_of_le (by decide) hN) rfl rfl dX4_pays_46 ?_
    refine g_val (y := (chF (fun v => nV (ua a (2 + 1) v) 0 m) (fun _ => true) (9 + 1)).2) (by rw [hσu, up_other (by decide), hFt 31 (fun z => by obtain ⟨z1, z2⟩ := z; omega)]; exact hCb.2) ?_
    refine g_aload_n C dX4_pays_49 rfl rfl ?_
    refine g_iload_n C dX4_pays_50 rfl rfl ?_
    refine g_callVI (rest := [.int ((chF (fun v => nV (ua a (2 + 1) v) 0 m) (fun _ => true) (9 + 1)).2)]) C mv_X4_127 (ct_X4_passInMind l w hN σu (ua a (2 + 1) 0) hHu hBu 0 h6u (Nat.zero_le _) (by show a 1 ≤ 28000; omega) m hm) (Nat.lt_of_lt_of_le (by decide) hN) rfl rfl (by decide) rfl (Nat.le_of_ble_eq_true rfl) dX4_pays_51 (fun r4 σp h4 => ?_)
    obtain ⟨er4, eh4⟩ := h4
    subst er4
    obtain ⟨hHp, h6p, hTp, hFp⟩ := eh4
    refine g_isubv (v := ((chF (fun v => nV (ua a (2 + 1) v) 0 m) (fun _ => true) (9 + 1)).2) - (nV (ua a (2 + 1) 0) 0 m)) C rfl dX4_pays_54 ?_
    refine g_iret C r rfl dX4_pays_55 ?_
    refine fin_q hC (((hFb.tr (hFt.mono inH_M) (fun _ z => z)).tr ((show Fr inM σt σu by rw [hσu]; exact Fr.up ⟨by decide, by decide⟩).tr (hFp.mono inD_M) (fun _ z => z)) (fun _ z => z)).mono (fun _ z => Or.inl z)) ?_ rfl
    unfold spPays
    rw [if_neg hz, nn_nj (n := m) (by omega)]
  · skip
    have hoc := c9_1
    refine g_ldc C cs_X4_113 dX4_pays_12 ?_
    refine g_aload_n C dX4_pays_14 rfl rfl ?_
    refine g_iload_n C dX4_pays_15 rfl rfl ?_
    refine g_callVI (rest := [.int 1000000000]) C mv_X4_64 (ct_X4_refuse l w hN σ (kO x 0) (kO_in _ _) (oU x 0 28) (outk hoc)) (Nat.lt_of_lt_of_le (by decide) hN) rfl rfl (by decide) rfl (Nat.le_of_ble_eq_true rfl) dX4_pays_16 (fun r5 σ_5 h5 => ?_)
    obtain ⟨er5, hrf⟩ := h5
    rw [er5]
    refine g_isubv (v := 1000000000 - (oU x 0 28)) C rfl dX4_pays_19 ?_
    refine g_iret C r rfl dX4_pays_20 ?_
    exact fin_t hC (kO_in _ _) hrf (by unfold spPays; rw [if_pos (outp hoc)]) (outv hoc) rfl
set_option maxRecDepth 100000 in
set_option maxHeartbeats 4000000 in
theorem ct_X4_out (l : Launch) (w : WD) (hN : 54 ≤ wN w) (σ : SG) (a kp : Row) (tk nl : Nat) (lt : Nat → Nat) (qn : Nat) (qs : Nat → Nat) (rf : Nat → Int32) (hC : CX σ (a, kp, tk, (nl, lt), (qn, qs), rf)) (x : Int32) : CtI l w yX4_out cX4_out 5 (some .int) 6 0 0 [.ref (wA w 0), .int x] σ (fun r τ => r = (spOut (a, kp, tk, (nl, lt), (qn, qs), rf) x).1 ∧ CX τ (spOut (a, kp, tk, (nl, lt), (qn, qs), rf) x).2 ∧ Fr in37 σ τ) := by
  refine CtI.mk (by decide) (Nat.le_of_ble_eq_true rfl) ?_
  intro K C hr h0
  have r := RI.of hr h0
  clear hr h0
  show G l w K 0 [(0, .ref (wA w 0)), (1, .int x)] [] σ
  have hR : HR σ a := hC.2.1
  have hH : Hh σ 1 a := hR.1
  have hB : Bd a := hR.2.1
  have h6 : σ 1 6 = nI 0 := hR.2.2.1
  have hd9 : a 1 ≤ 9999 := hR.2.2.2.1
  have hu9 : ∀ e, e < 4 → a (30 + 4 * e + 1) ≤ 9 := hR.2.2.2.2
  obtain ⟨hBa, hB0, hB1, hB2, hB3, hB4, hB5, hB6, hB7, hBs, hBp, hBe⟩ := id hB
  have h1 : HB 1 := Or.inl rfl
  have h10 : HB 10 := Or.inr (Or.inl rfl)
  have h19 : HB 19 := Or.inr (Or.inr rfl)
  have hs5 := sum5 hB
  refine g_iload_n C dX4_out_0 rfl rfl ?_
  refine g_iconst C dX4_out_1 ic_0 ?_
  refine g_bipush C dX4_out_2 bp_28 ?_
  refine g_pSI (rest := []) (v := oU x 0 28) C ms_X4_56 (ct_X4_outside l w hN σ x 0 28) rfl (by decide) rfl (Nat.le_of_ble_eq_true rfl) dX4_out_4 ?_
  refine g_istore_n (lv' := [(2, .int (oU x 0 28)), (0, .ref (wA w 0)), (1, .int x)]) C dX4_out_7 rfl (by decide) rfl ?_
  refine g_iload_n C dX4_out_8 rfl rfl ?_
  refine g_if_eq (tgt := 18) C dX4_out_9 rfl (fun c9_1 => ?_) (fun c9_1 => ?_)
  · skip
    have hz := out0 (lo := 0) (hi := 28) c9_1
    obtain ⟨m, hm, rfl⟩ := nj_of4 (m := 28) hz
    refine g_bipush C dX4_out_18 bp_20 ?_
    refine g_aload_n C dX4_out_20 rfl rfl ?_
    refine g_get (v := .ref (wA w 1)) C fl_X4_12 fs_X4_12 (Nat.lt_of_lt_of_le (by decide) hN) rfl rfl dX4_out_21 ?_
    refine g_pVI (rest := [.int 20]) (v := nI (sumN (fun k => a (10 + k)) 5)) C mv_X4_130 (ct_X1_allSlices l w hN σ 1 (Or.inl rfl) a hH hB  ) (Nat.lt_of_lt_of_le (by decide) hN) rfl rfl (by decide) rfl (Nat.le_of_ble_eq_true rfl) dX4_out_24 ?_
    refine g_min C ml_X4_133 st_Lib_Math_min ini_Math co_Lib_Math_min (by decide) (Nat.le_of_ble_eq_true rfl) dX4_out_27 ?_
    refine g_val (y := nI (min 20 (sumN (fun k => a (10 + k)) 5))) (nj_min (a := 20) (by omega) (by omega)) ?_
    refine g_nat (fun M hM => ?_)
    refine g_istore_n (lv' := [(3, .int (nI M)), (2, .int (oU (nI m) 0 28)), (0, .ref (wA w 0)), (1, .int (nI m))]) C dX4_out_30 rfl (by decide) rfl ?_
    refine g_aload_n C dX4_out_31 rfl rfl ?_
    refine g_get (v := .ref (wA w 31)) C fl_X4_32 fs_X4_32 (Nat.lt_of_lt_of_le (by decide) hN) rfl rfl dX4_out_32 ?_
    refine g_callVV (rest := []) C mv_X4_138 (ct_X0_clear l w hN σ) (Nat.lt_of_lt_of_le (by decide) hN) rfl rfl (by decide) rfl (Nat.le_of_ble_eq_true rfl) dX4_out_35 (fun σc h2 => ?_)
    obtain ⟨hCc, hFc⟩ := Ch.clr (outV a m) (fun _ => true) h2
    refine g_iconst C dX4_out_38 ic_0 ?_
    refine g_istore (lv' := [(4, .int 0), (3, .int (nI M)), (2, .int (oU (nI m) 0 28)), (0, .ref (wA w 0)), (1, .int (nI m))]) C dX4_out_39 (by decide) rfl ?_
    have L41 : ∀ (m41 : Nat) (k : Nat) (σ1 : SG), m41 = M + 1 - k → (k ≤ M + 1) → (Ch σ1 (chF (outV a m) (fun _ => true) k)) → (Fr inM σ σ1) → G l w K 41 [(0, .ref (wA w 0)), (1, .int (nI m)), (3, .int (nI M)), (4, .int (nI k))] [] σ1 := by
      intro m41
      induction m41 using Nat.strongRecOn with
      | ind m41 ih41 =>
      intro k σ1 em41 hk hC1 hF1
      have hR1 := hR.m hF1
      have hH1 : Hh σ1 1 a := hR1.1
      have h61 : σ1 1 6 = nI 0 := hR1.2.2.1
      refine g_iload C dX4_out_41 rfl ?_
      refine g_iload_n C dX4_out_43 rfl rfl ?_
      refine g_icmp_gt (tgt := 93) C dX4_out_44 rfl (fun c44_3 => ?_) (fun c44_3 => ?_)
      · skip
        have n44_3 : M < k := (nj_lt (a := M) (b := k) (by omega) (by omega)).mp c44_3
        obtain rfl : k = M + 1 := by omega
        refine g_aload_n C dX4_out_93 rfl rfl ?_
        refine g_get (v := .ref (wA w 31)) C fl_X4_32 fs_X4_32 (Nat.lt_of_lt_of_le (by decide) hN) rfl rfl dX4_out_94 ?_
        refine g_get (v := .int (σ1 31 0)) C fl_X4_147 fs_X4_147 (Nat.lt_of_lt_of_le (by decide) hN) rfl rfl dX4_out_97 ?_
        refine g_iret C r rfl dX4_out_100 ?_
        refine fin_q hC (hF1.mono (fun _ z => Or.inl z)) ?_ hC1.1
        unfold spOut
        rw [if_neg hz, nn_nj (n := m) (by omega), hM]
      · skip
        have n44_3 : ¬ (M < k) := fun qq => c44_3 ((nj_lt (a := M) (b := k) (by omega) (by omega)).mpr qq)
        refine g_aload_n C dX4_out_47 rfl rfl ?_
        refine g_callVV (rest := []) C mv_X4_124 (ct_X4_think l w hN σ1 a hH1) (Nat.lt_of_lt_of_le (by decide) hN) rfl rfl (by decide) rfl (Nat.le_of_ble_eq_true rfl) dX4_out_48 (fun σt h4 => ?_)
        obtain ⟨hHt, h6t, hFt⟩ := h4
        have h6t : σt 19 6 = nI 0 := by rw [h6t]; exact h61
        refine g_aload_n C dX4_out_51 rfl rfl ?_
        refine g_get (v := .ref (wA w 19)) C fl_X4_19 fs_X4_19 (Nat.lt_of_lt_of_le (by decide) hN) rfl rfl dX4_out_52 ?_
        refine g_iload C dX4_out_55 rfl ?_
        refine g_callVV (rest := []) C mv_X4_139 (ct_X1_loseOldest l w hN σt 19 h19 a hHt hB k (by omega)) (Nat.lt_of_lt_of_le (by decide) hN) rfl rfl (by decide) rfl (Nat.le_of_ble_eq_true rfl) dX4_out_57 (fun σu h5 => ?_)
        obtain ⟨hHu, hFu⟩ := h5
        have hBu : Bd (losS a k 5).1 := losS_bd hB k 5
        have h6u : σu 19 6 = nI 0 := by rw [hFu 19 (by omega)]; exact h6t
        have hu1 : (losS a k 5).1 1 = a 1 := losS_at a k 5 1 (by omega)
        refine g_aload_n C dX4_out_60 rfl rfl ?_
        refine g_get (v := .ref (wA w 31)) C fl_X4_32 fs_X4_32 (Nat.lt_of_lt_of_le (by decide) hN) rfl rfl dX4_out_61 ?_
        refine g_iload C dX4_out_64 rfl ?_
        refine g_aload_n C dX4_out_66 rfl rfl ?_
        refine g_iload_n C dX4_out_67 rfl rfl ?_
        refine g_callVI (rest := [.int (nI k), .ref (wA w 31)]) C mv_X4_127 (ct_X4_passInMind l w hN σu (losS a k 5).1 hHu hBu 0 h6u (Nat.zero_le _) (by rw [hu1]; omega) m hm) (Nat.lt_of_lt_of_le (by decide) hN) rfl rfl (by decide) rfl (Nat.le_of_ble_eq_true rfl) dX4_out_68 (fun r6 σp h6 => ?_)
        obtain ⟨er6, eh6⟩ := h6
        subst er6
        obtain ⟨hHp, h6p, hTp, hFp⟩ := eh6
        have hH1p : Hh σp 1 a := (((hR1.m (hFt.mono inH_M)).m (hFu.mono (fun k z => by subst z; exact ⟨by decide, by decide⟩))).m (hFp.mono inD_M)).1
        refine g_iload C dX4_out_71 rfl ?_
        refine g_aload_n C dX4_out_73 rfl rfl ?_
        refine g_get (v := .ref (wA w 1)) C fl_X4_12 fs_X4_12 (Nat.lt_of_lt_of_le (by decide) hN) rfl rfl dX4_out_74 ?_
        refine g_get (v := .ref (wA w 4)) C fl_X4_103 fs_X4_103 (Nat.lt_of_lt_of_le (by decide) hN) rfl rfl dX4_out_77 ?_
        refine g_iconst C dX4_out_80 ic_3 ?_
        refine g_ial (k0 := 4) (n := 6) C (Nat.lt_of_lt_of_le (by decide) hN) rfl (j := 3) (by unfold ix; decide) dX4_out_81 ?_
        refine g_val (y := nI (a 5)) (Hh.t hH1p (by omega)) ?_
        refine g_imulv (v := nI k * nI (a 5)) C rfl dX4_out_82 ?_
        refine g_isubv (v := (nV (losS a k 5).1 0 m) - (nI k * nI (a 5))) C rfl dX4_out_83 ?_
        refine g_callVV (rest := []) C mv_X4_143 (ct_X0_offer l w hN σp (nI k) ((nV (losS a k 5).1 0 m) - (nI k * nI (a 5)))) (Nat.lt_of_lt_of_le (by decide) hN) rfl rfl (by decide) rfl (Nat.le_of_ble_eq_true rfl) dX4_out_84 (fun σo h7 => ?_)
        have hCp : Ch σp (chF (outV a m) (fun _ => true) k) := hC1.fr (by rw [hFp 31 (fun z => by rcases z with ⟨z1, z2⟩ | ⟨z1, z2⟩ <;> omega), hFu 31 (by omega), hFt 31 (fun z => by obtain ⟨z1, z2⟩ := z; omega)])
        obtain ⟨hCo, hFo⟩ := hCp.offer h7
        refine g_iinc (v := nI (k + 1)) (lv' := [(4, .int (nI (k + 1))), (0, .ref (wA w 0)), (1, .int (nI m)), (3, .int (nI M))]) C dX4_out_87 (by decide) rfl (nj_inc k) rfl ?_
        refine g_goto (tgt := 41) C dX4_out_90 rfl ?_
        exact g_lvp [1, 2, 3, 0] rfl (ih41 (M + 1 - (k + 1)) (by omega) (k + 1) σo rfl (by first | omega | assumption | rfl | grind) (by rw [chF_t rfl]; exact hCo) (((hF1.tr (hFt.mono inH_M) (fun _ z => z)).tr ((show Fr inM σt σu from hFu.mono (fun k z => by subst z; exact ⟨by decide, by decide⟩)).tr (hFp.mono inD_M) (fun _ z => z)) (fun _ z => z)).tr hFo fr_M31))
    exact g_lvp [3, 4, 1, 0] rfl (L41 (M + 1 - 0) 0 σc rfl (by first | omega | assumption | rfl | grind) (hCc) (hFc))
  · skip
    have hoc := c9_1
    refine g_aload_n C dX4_out_12 rfl rfl ?_
    refine g_iload_n C dX4_out_13 rfl rfl ?_
    refine g_callVI (rest := []) C mv_X4_64 (ct_X4_refuse l w hN σ (kO x 0) (kO_in _ _) (oU x 0 28) (outk hoc)) (Nat.lt_of_lt_of_le (by decide) hN) rfl rfl (by decide) rfl (Nat.le_of_ble_eq_true rfl) dX4_out_14 (fun r8 σ_8 h8 => ?_)
    obtain ⟨er8, hrf⟩ := h8
    rw [er8]
    refine g_iret C r rfl dX4_out_17 ?_
    exact fin_r hC (kO_in _ _) hrf (by unfold spOut; rw [if_pos (outp hoc)]) (outv hoc)
set_option maxRecDepth 100000 in
set_option maxHeartbeats 4000000 in
theorem ct_X4_less (l : Launch) (w : WD) (hN : 54 ≤ wN w) (σ : SG) (a kp : Row) (tk nl : Nat) (lt : Nat → Nat) (qn : Nat) (qs : Nat → Nat) (rf : Nat → Int32) (hC : CX σ (a, kp, tk, (nl, lt), (qn, qs), rf)) (x : Int32) : CtI l w yX4_less cX4_less 4 (some .int) 6 0 0 [.ref (wA w 0), .int x] σ (fun r τ => r = (spLess (a, kp, tk, (nl, lt), (qn, qs), rf) x).1 ∧ CX τ (spLess (a, kp, tk, (nl, lt), (qn, qs), rf) x).2 ∧ Fr in37 σ τ) := by
  refine CtI.mk (by decide) (Nat.le_of_ble_eq_true rfl) ?_
  intro K C hr h0
  have r := RI.of hr h0
  clear hr h0
  show G l w K 0 [(0, .ref (wA w 0)), (1, .int x)] [] σ
  have hR : HR σ a := hC.2.1
  have hH : Hh σ 1 a := hR.1
  have hB : Bd a := hR.2.1
  have h6 : σ 1 6 = nI 0 := hR.2.2.1
  have hd9 : a 1 ≤ 9999 := hR.2.2.2.1
  have hu9 : ∀ e, e < 4 → a (30 + 4 * e + 1) ≤ 9 := hR.2.2.2.2
  obtain ⟨hBa, hB0, hB1, hB2, hB3, hB4, hB5, hB6, hB7, hBs, hBp, hBe⟩ := id hB
  have h1 : HB 1 := Or.inl rfl
  have h10 : HB 10 := Or.inr (Or.inl rfl)
  have h19 : HB 19 := Or.inr (Or.inr rfl)
  have hs7 := sum7 hB
  refine g_iload_n C dX4_less_0 rfl rfl ?_
  refine g_iconst C dX4_less_1 ic_0 ?_
  refine g_bipush C dX4_less_2 bp_28 ?_
  refine g_pSI (rest := []) (v := oU x 0 28) C ms_X4_56 (ct_X4_outside l w hN σ x 0 28) rfl (by decide) rfl (Nat.le_of_ble_eq_true rfl) dX4_less_4 ?_
  refine g_istore_n (lv' := [(2, .int (oU x 0 28)), (0, .ref (wA w 0)), (1, .int x)]) C dX4_less_7 rfl (by decide) rfl ?_
  refine g_iload_n C dX4_less_8 rfl rfl ?_
  refine g_if_eq (tgt := 18) C dX4_less_9 rfl (fun c9_1 => ?_) (fun c9_1 => ?_)
  · skip
    have hz := out0 (lo := 0) (hi := 28) c9_1
    obtain ⟨m, hm, rfl⟩ := nj_of4 (m := 28) hz
    refine g_aload_n C dX4_less_18 rfl rfl ?_
    refine g_get (v := .ref (wA w 1)) C fl_X4_12 fs_X4_12 (Nat.lt_of_lt_of_le (by decide) hN) rfl rfl dX4_less_19 ?_
    refine g_pVI (rest := []) (v := nI (sumN (fun k => a (20 + k)) 7)) C mv_X4_150 (ct_X1_openDays l w hN σ 1 (Or.inl rfl) a hH hB  ) (Nat.lt_of_lt_of_le (by decide) hN) rfl rfl (by decide) rfl (Nat.le_of_ble_eq_true rfl) dX4_less_22 ?_
    refine g_if_ne (tgt := 31) C dX4_less_25 rfl (fun c25_2 => ?_) (fun c25_2 => ?_)
    · skip
      have n25_2 : ¬ (sumN (fun k => a (20 + k)) 7 = 0) := fun qq => c25_2 ((nj_eq (a := sumN (fun k => a (20 + k)) 7) (b := 0) (by omega) (by omega)).mpr qq)
      have hs0 : ¬ sumN (fun k => a (20 + k)) 7 = 0 := by omega
      refine g_aload_n C dX4_less_31 rfl rfl ?_
      refine g_get (v := .ref (wA w 31)) C fl_X4_32 fs_X4_32 (Nat.lt_of_lt_of_le (by decide) hN) rfl rfl dX4_less_32 ?_
      refine g_callVV (rest := []) C mv_X4_138 (ct_X0_clear l w hN σ) (Nat.lt_of_lt_of_le (by decide) hN) rfl rfl (by decide) rfl (Nat.le_of_ble_eq_true rfl) dX4_less_35 (fun σc h3 => ?_)
      obtain ⟨hCc, hFc⟩ := Ch.clr (fun k => nV a k m) (fun _ => true) h3
      refine g_iconst C dX4_less_38 ic_0 ?_
      refine g_istore_n (lv' := [(3, .int 0), (2, .int (oU (nI m) 0 28)), (0, .ref (wA w 0)), (1, .int (nI m))]) C dX4_less_39 rfl (by decide) rfl ?_
      have L40 : ∀ (m40 : Nat) (k : Nat) (σ1 : SG), m40 = a 2 + 1 - k → (k ≤ a 2 + 1) → (Ch σ1 (chF (fun k => nV a k m) (fun _ => true) k)) → (Fr inM σ σ1) → G l w K 40 [(0, .ref (wA w 0)), (1, .int (nI m)), (3, .int (nI k))] [] σ1 := by
        intro m40
        induction m40 using Nat.strongRecOn with
        | ind m40 ih40 =>
        intro k σ1 em40 hk hC1 hF1
        have hR1 := hR.m hF1
        have hH1 : Hh σ1 1 a := hR1.1
        have h61 : σ1 1 6 = nI 0 := hR1.2.2.1
        refine g_iload_n C dX4_less_40 rfl rfl ?_
        refine g_aload_n C dX4_less_41 rfl rfl ?_
        refine g_get (v := .ref (wA w 1)) C fl_X4_12 fs_X4_12 (Nat.lt_of_lt_of_le (by decide) hN) rfl rfl dX4_less_42 ?_
        refine g_get (v := .ref (wA w 4)) C fl_X4_103 fs_X4_103 (Nat.lt_of_lt_of_le (by decide) hN) rfl rfl dX4_less_45 ?_
        refine g_iconst C dX4_less_48 ic_0 ?_
        refine g_ial (k0 := 4) (n := 6) C (Nat.lt_of_lt_of_le (by decide) hN) rfl (j := 0) (by unfold ix; decide) dX4_less_49 ?_
        refine g_val (y := nI (a 2)) (Hh.t hH1 (by omega)) ?_
        refine g_icmp_gt (tgt := 84) C dX4_less_50 rfl (fun c50_4 => ?_) (fun c50_4 => ?_)
        · skip
          have n50_4 : a 2 < k := (nj_lt (a := a 2) (b := k) (by have := hBa 2; omega) (by have := hBa 2; omega)).mp c50_4
          obtain rfl : k = a 2 + 1 := by omega
          refine g_aload_n C dX4_less_84 rfl rfl ?_
          refine g_get (v := .ref (wA w 31)) C fl_X4_32 fs_X4_32 (Nat.lt_of_lt_of_le (by decide) hN) rfl rfl dX4_less_85 ?_
          refine g_get (v := .int (σ1 31 0)) C fl_X4_147 fs_X4_147 (Nat.lt_of_lt_of_le (by decide) hN) rfl rfl dX4_less_88 ?_
          refine g_iret C r rfl dX4_less_91 ?_
          refine fin_q hC (hF1.mono (fun _ z => Or.inl z)) ?_ hC1.1
          unfold spLess
          rw [if_neg hz, if_neg hs0, nn_nj (n := m) (by omega)]
        · skip
          have n50_4 : ¬ (a 2 < k) := fun qq => c50_4 ((nj_lt (a := a 2) (b := k) (by have := hBa 2; omega) (by have := hBa 2; omega)).mpr qq)
          refine g_aload_n C dX4_less_53 rfl rfl ?_
          refine g_callVV (rest := []) C mv_X4_124 (ct_X4_think l w hN σ1 a hH1) (Nat.lt_of_lt_of_le (by decide) hN) rfl rfl (by decide) rfl (Nat.le_of_ble_eq_true rfl) dX4_less_54 (fun σt h5 => ?_)
          obtain ⟨hHt, h6t, hFt⟩ := h5
          refine g_aload_n C dX4_less_57 rfl rfl ?_
          refine g_get (v := .ref (wA w 19)) C fl_X4_19 fs_X4_19 (Nat.lt_of_lt_of_le (by decide) hN) rfl rfl dX4_less_58 ?_
          refine g_iload_n C dX4_less_61 rfl rfl ?_
          refine g_putn C fp_X4_153 (Nat.lt_of_lt_of_le (by decide) hN) rfl rfl (Nat.le_of_ble_eq_true rfl) rfl rfl dX4_less_62 (fun σu hσu => ?_)
          have hHu : Hh σu 19 a := by rw [hσu]; exact hHt.uf
          have h6u : σu 19 6 = nI k := by rw [hσu, up_same]
          refine g_aload_n C dX4_less_65 rfl rfl ?_
          refine g_get (v := .ref (wA w 31)) C fl_X4_32 fs_X4_32 (Nat.lt_of_lt_of_le (by decide) hN) rfl rfl dX4_less_66 ?_
          refine g_iload_n C dX4_less_69 rfl rfl ?_
          refine g_aload_n C dX4_less_70 rfl rfl ?_
          refine g_iload_n C dX4_less_71 rfl rfl ?_
          refine g_callVI (rest := [.int (nI k), .ref (wA w 31)]) C mv_X4_127 (ct_X4_passInMind l w hN σu a hHu hB k h6u (by omega) (by omega) m hm) (Nat.lt_of_lt_of_le (by decide) hN) rfl rfl (by decide) rfl (Nat.le_of_ble_eq_true rfl) dX4_less_72 (fun r6 σp h6 => ?_)
          obtain ⟨er6, eh6⟩ := h6
          subst er6
          obtain ⟨hHp, h6p, hTp, hFp⟩ := eh6
          refine g_callVV (rest := []) C mv_X4_143 (ct_X0_offer l w hN σp (nI k) (nV a k m)) (Nat.lt_of_lt_of_le (by decide) hN) rfl rfl (by decide) rfl (Nat.le_of_ble_eq_true rfl) dX4_less_75 (fun σo h7 => ?_)
          have hCp : Ch σp (chF (fun k => nV a k m) (fun _ => true) k) := hC1.fr (by rw [hFp 31 (fun z => by rcases z with ⟨z1, z2⟩ | ⟨z1, z2⟩ <;> omega), hσu, up_other (by decide), hFt 31 (fun z => by obtain ⟨z1, z2⟩ := z; omega)])
          obtain ⟨hCo, hFo⟩ := hCp.offer h7
          refine g_iinc (v := nI (k + 1)) (lv' := [(3, .int (nI (k + 1))), (0, .ref (wA w 0)), (1, .int (nI m))]) C dX4_less_78 (by decide) rfl (nj_inc k) rfl ?_
          refine g_goto (tgt := 40) C dX4_less_81 rfl ?_
          exact g_lvp [1, 2, 0] rfl (ih40 (a 2 + 1 - (k + 1)) (by omega) (k + 1) σo rfl (by first | omega | assumption | rfl | grind) (by rw [chF_t rfl]; exact hCo) (((hF1.tr (hFt.mono inH_M) (fun _ z => z)).tr ((show Fr inM σt σu by rw [hσu]; exact Fr.up ⟨by decide, by decide⟩).tr (hFp.mono inD_M) (fun _ z => z)) (fun _ z => z)).tr hFo fr_M31))
      exact g_lvp [2, 3, 0] rfl (L40 (a 2 + 1 - 0) 0 σc rfl (by first | omega | assumption | rfl | grind) (hCc) (hFc))
    · skip
      have n25_2 : sumN (fun k => a (20 + k)) 7 = 0 := (nj_eq (a := sumN (fun k => a (20 + k)) 7) (b := 0) (by omega) (by omega)).mp c25_2
      refine g_bipush C dX4_less_28 bp_m9 ?_
      refine g_iret C r rfl dX4_less_30 ?_
      refine fin_q hC Fr.rf ?_ rfl
      unfold spLess
      rw [if_neg hz, if_pos (show sumN (fun k => a (20 + k)) 7 = 0 by omega)]
  · skip
    have hoc := c9_1
    refine g_aload_n C dX4_less_12 rfl rfl ?_
    refine g_iload_n C dX4_less_13 rfl rfl ?_
    refine g_callVI (rest := []) C mv_X4_64 (ct_X4_refuse l w hN σ (kO x 0) (kO_in _ _) (oU x 0 28) (outk hoc)) (Nat.lt_of_lt_of_le (by decide) hN) rfl rfl (by decide) rfl (Nat.le_of_ble_eq_true rfl) dX4_less_14 (fun r8 σ_8 h8 => ?_)
    obtain ⟨er8, hrf⟩ := h8
    rw [er8]
    refine g_iret C r rfl dX4_less_17 ?_
    exact fin_r hC (kO_in _ _) hrf (by unfold spLess; rw [if_pos (outp hoc)]) (outv hoc)
set_option maxRecDepth 100000 in
set_option maxHeartbeats 4000000 in
theorem ct_X4_close (l : Launch) (w : WD) (hN : 54 ≤ wN w) (σ : SG) (a kp : Row) (tk nl : Nat) (lt : Nat → Nat) (qn : Nat) (qs : Nat → Nat) (rf : Nat → Int32) (hC : CX σ (a, kp, tk, (nl, lt), (qn, qs), rf)) : CtI l w yX4_close cX4_close 2 (some .int) 6 0 0 [.ref (wA w 0)] σ (fun r τ => r = (spClose (a, kp, tk, (nl, lt), (qn, qs), rf)).1 ∧ CX τ (spClose (a, kp, tk, (nl, lt), (qn, qs), rf)).2 ∧ Fr in37 σ τ) := by
  refine CtI.mk (by decide) (Nat.le_of_ble_eq_true rfl) ?_
  intro K C hr h0
  have r := RI.of hr h0
  clear hr h0
  show G l w K 0 [(0, .ref (wA w 0))] [] σ
  have hR : HR σ a := hC.2.1
  have hH : Hh σ 1 a := hR.1
  have hB : Bd a := hR.2.1
  have h6 : σ 1 6 = nI 0 := hR.2.2.1
  have hd9 : a 1 ≤ 9999 := hR.2.2.2.1
  have hu9 : ∀ e, e < 4 → a (30 + 4 * e + 1) ≤ 9 := hR.2.2.2.2
  obtain ⟨hBa, hB0, hB1, hB2, hB3, hB4, hB5, hB6, hB7, hBs, hBp, hBe⟩ := id hB
  have h1 : HB 1 := Or.inl rfl
  have h10 : HB 10 := Or.inr (Or.inl rfl)
  have h19 : HB 19 := Or.inr (Or.inr rfl)
  refine g_aload_n C dX4_close_0 rfl rfl ?_
  refine g_get (v := .ref (wA w 31)) C fl_X4_32 fs_X4_32 (Nat.lt_of_lt_of_le (by decide) hN) rfl rfl dX4_close_1 ?_
  refine g_callVV (rest := []) C mv_X4_138 (ct_X0_clear l w hN σ) (Nat.lt_of_lt_of_le (by decide) hN) rfl rfl (by decide) rfl (Nat.le_of_ble_eq_true rfl) dX4_close_4 (fun σc h1 => ?_)
  obtain ⟨hCc, hFc⟩ := Ch.clr (fun d => nV (ua a (20 + d) 0) 0 14) (fun d => decide (a (20 + d) = 1)) h1
  refine g_iconst C dX4_close_7 ic_0 ?_
  refine g_istore_n (lv' := [(1, .int 0), (0, .ref (wA w 0))]) C dX4_close_8 rfl (by decide) rfl ?_
  have L9 : ∀ (m9 : Nat) (d : Nat) (σ1 : SG), m9 = 7 - d → (d ≤ 7) → (Ch σ1 (chF (fun d => nV (ua a (20 + d) 0) 0 14) (fun d => decide (a (20 + d) = 1)) d)) → (Fr inM σ σ1) → G l w K 9 [(0, .ref (wA w 0)), (1, .int (nI d))] [] σ1 := by
    intro m9
    induction m9 using Nat.strongRecOn with
    | ind m9 ih9 =>
    intro d σ1 em9 hd hC1 hF1
    have hR1 := hR.m hF1
    have hH1 : Hh σ1 1 a := hR1.1
    have h61 : σ1 1 6 = nI 0 := hR1.2.2.1
    refine g_iload_n C dX4_close_9 rfl rfl ?_
    refine g_bipush C dX4_close_10 bp_7 ?_
    refine g_icmp_ge (tgt := 62) C dX4_close_12 rfl (fun c12_2 => ?_) (fun c12_2 => ?_)
    · skip
      have n12_2 : 7 ≤ d := (nj_le (a := 7) (b := d) (by omega) (by omega)).mp c12_2
      obtain rfl : d = 7 := by omega
      refine g_aload_n C dX4_close_62 rfl rfl ?_
      refine g_get (v := .ref (wA w 31)) C fl_X4_32 fs_X4_32 (Nat.lt_of_lt_of_le (by decide) hN) rfl rfl dX4_close_63 ?_
      refine g_get (v := .int (σ1 31 0)) C fl_X4_147 fs_X4_147 (Nat.lt_of_lt_of_le (by decide) hN) rfl rfl dX4_close_66 ?_
      refine g_iret C r rfl dX4_close_69 ?_
      exact fin_q hC (hF1.mono (fun _ z => Or.inl z)) rfl hC1.1
    · skip
      have n12_2 : ¬ (7 ≤ d) := fun qq => c12_2 ((nj_le (a := 7) (b := d) (by omega) (by omega)).mpr qq)
      have L56 : ∀ (σ2 : SG), (Ch σ2 (chF (fun d => nV (ua a (20 + d) 0) 0 14) (fun d => decide (a (20 + d) = 1)) (d + 1))) → (Fr inM σ σ2) → G l w K 56 [(0, .ref (wA w 0)), (1, .int (nI d))] [] σ2 := by
        intro σ2 hCq hFq
        refine g_iinc (v := nI (d + 1)) (lv' := [(1, .int (nI (d + 1))), (0, .ref (wA w 0))]) C dX4_close_56 (by decide) rfl (nj_inc d) rfl ?_
        refine g_goto (tgt := 9) C dX4_close_59 rfl ?_
        exact g_lvp [1, 0] rfl (ih9 (7 - (d + 1)) (by omega) (d + 1) σ2 rfl (by first | omega | assumption | rfl | grind) (hCq) (hFq))
      refine g_aload_n C dX4_close_15 rfl rfl ?_
      refine g_get (v := .ref (wA w 1)) C fl_X4_12 fs_X4_12 (Nat.lt_of_lt_of_le (by decide) hN) rfl rfl dX4_close_16 ?_
      refine g_get (v := .ref (wA w 3)) C fl_X4_97 fs_X4_97 (Nat.lt_of_lt_of_le (by decide) hN) rfl rfl dX4_close_19 ?_
      refine g_iload_n C dX4_close_22 rfl rfl ?_
      refine g_ial (k0 := 3) (n := 7) C (Nat.lt_of_lt_of_le (by decide) hN) rfl (j := d) (ix_n (by omega)) dX4_close_23 ?_
      refine g_val (y := nI (a (20 + d))) (Hh.p hH1 (by omega)) ?_
      refine g_iconst C dX4_close_24 ic_1 ?_
      refine g_icmp_ne (tgt := 56) C dX4_close_25 rfl (fun c25_3 => ?_) (fun c25_3 => ?_)
      · skip
        have n25_3 : ¬ (a (20 + d) = 1) := fun qq => c25_3 ((nj_eq (a := a (20 + d)) (b := 1) (by have := hBa (20 + d); omega) (by have := hBa (20 + d); omega)).mpr qq)
        exact g_lvp [0, 1] rfl (L56 σ1 (by rw [chF_f (by simp only [decide_eq_false_iff_not]; omega)]; exact hC1) (hF1))
      · skip
        have n25_3 : a (20 + d) = 1 := (nj_eq (a := a (20 + d)) (b := 1) (by have := hBa (20 + d); omega) (by have := hBa (20 + d); omega)).mp c25_3
        refine g_aload_n C dX4_close_28 rfl rfl ?_
        refine g_callVV (rest := []) C mv_X4_124 (ct_X4_think l w hN σ1 a hH1) (Nat.lt_of_lt_of_le (by decide) hN) rfl rfl (by decide) rfl (Nat.le_of_ble_eq_true rfl) dX4_close_29 (fun σt h4 => ?_)
        obtain ⟨hHt, h6t, hFt⟩ := h4
        have h6t : σt 19 6 = nI 0 := by rw [h6t]; exact h61
        refine g_aload_n C dX4_close_32 rfl rfl ?_
        refine g_get (v := .ref (wA w 19)) C fl_X4_19 fs_X4_19 (Nat.lt_of_lt_of_le (by decide) hN) rfl rfl dX4_close_33 ?_
        refine g_get (v := .ref (wA w 21)) C fl_X4_97 fs_X4_97 (Nat.lt_of_lt_of_le (by decide) hN) rfl rfl dX4_close_36 ?_
        refine g_iload_n C dX4_close_39 rfl rfl ?_
        refine g_iconst C dX4_close_40 ic_0 ?_
        refine g_ias (k0 := 21) (n := 7) C (Nat.lt_of_lt_of_le (by decide) hN) rfl (j := d) (ix_n (by omega)) dX4_close_41 (fun σu hσu => ?_)
        have hHu : Hh σu 19 (ua a (20 + d) 0) := by rw [hσu]; exact hHt.upp (v := 0) (by omega)
        have hBu : Bd (ua a (20 + d) 0) := hB.uo (by omega) (by omega)
        have h6u : σu 19 6 = nI 0 := by rw [hσu, up_other (by decide)]; exact h6t
        have hu1 : (ua a (20 + d) 0) 1 = a 1 := by rw [ua_at, if_neg (by omega)]
        refine g_aload_n C dX4_close_42 rfl rfl ?_
        refine g_get (v := .ref (wA w 31)) C fl_X4_32 fs_X4_32 (Nat.lt_of_lt_of_le (by decide) hN) rfl rfl dX4_close_43 ?_
        refine g_iload_n C dX4_close_46 rfl rfl ?_
        refine g_aload_n C dX4_close_47 rfl rfl ?_
        refine g_bipush C dX4_close_48 bp_14 ?_
        refine g_callVI (rest := [.int (nI d), .ref (wA w 31)]) C mv_X4_127 (ct_X4_passInMind l w hN σu (ua a (20 + d) 0) hHu hBu 0 h6u (Nat.zero_le _) (by rw [hu1]; omega) 14 (by decide)) (Nat.lt_of_lt_of_le (by decide) hN) rfl rfl (by decide) rfl (Nat.le_of_ble_eq_true rfl) dX4_close_50 (fun r5 σp h5 => ?_)
        obtain ⟨er5, eh5⟩ := h5
        subst er5
        obtain ⟨hHp, h6p, hTp, hFp⟩ := eh5
        refine g_callVV (rest := []) C mv_X4_143 (ct_X0_offer l w hN σp (nI d) (nV (ua a (20 + d) 0) 0 14)) (Nat.lt_of_lt_of_le (by decide) hN) rfl rfl (by decide) rfl (Nat.le_of_ble_eq_true rfl) dX4_close_53 (fun σo h6 => ?_)
        have hCp : Ch σp (chF (fun d => nV (ua a (20 + d) 0) 0 14) (fun d => decide (a (20 + d) = 1)) d) := hC1.fr (by rw [hFp 31 (fun z => by rcases z with ⟨z1, z2⟩ | ⟨z1, z2⟩ <;> omega), hσu, up_other (by decide), hFt 31 (fun z => by obtain ⟨z1, z2⟩ := z; omega)])
        obtain ⟨hCo, hFo⟩ := hCp.offer h6
        exact g_lvp [0, 1] rfl (L56 σo (by rw [chF_t (by simp only [decide_eq_true_eq]; omega)]; exact hCo) (((hF1.tr (hFt.mono inH_M) (fun _ z => z)).tr ((show Fr inM σt σu by rw [hσu]; exact Fr.up ⟨by decide, by decide⟩).tr (hFp.mono inD_M) (fun _ z => z)) (fun _ z => z)).tr hFo fr_M31))
  exact g_lvp [1, 0] rfl (L9 (7 - 0) 0 σc rfl (by first | omega | assumption | rfl | grind) (hCc) (hFc))
set_option maxRecDepth 100000 in
set_option maxHeartbeats 4000000 in
theorem ct_X4_likes (l : Launch) (w : WD) (hN : 54 ≤ wN w) (σ : SG) (a kp : Row) (tk nl : Nat) (lt : Nat → Nat) (qn : Nat) (qs : Nat → Nat) (rf : Nat → Int32) (hC : CX σ (a, kp, tk, (nl, lt), (qn, qs), rf)) (e : Int32) : CtI l w yX4_likes cX4_likes 4 (some .int) 3 0 0 [.ref (wA w 0), .int e] σ (fun r τ => r = (spLikes (a, kp, tk, (nl, lt), (qn, qs), rf) e).1 ∧ CX τ (spLikes (a, kp, tk, (nl, lt), (qn, qs), rf) e).2 ∧ Fr in37 σ τ) := by
  refine CtI.mk (by decide) (Nat.le_of_ble_eq_true rfl) ?_
  intro K C hr h0
  have r := RI.of hr h0
  clear hr h0
  show G l w K 0 [(0, .ref (wA w 0)), (1, .int e)] [] σ
  have hR : HR σ a := hC.2.1
  have hH : Hh σ 1 a := hR.1
  have hB : Bd a := hR.2.1
  have h6 : σ 1 6 = nI 0 := hR.2.2.1
  have hd9 : a 1 ≤ 9999 := hR.2.2.2.1
  have hu9 : ∀ e, e < 4 → a (30 + 4 * e + 1) ≤ 9 := hR.2.2.2.2
  obtain ⟨hBa, hB0, hB1, hB2, hB3, hB4, hB5, hB6, hB7, hBs, hBp, hBe⟩ := id hB
  have h1 : HB 1 := Or.inl rfl
  have h10 : HB 10 := Or.inr (Or.inl rfl)
  have h19 : HB 19 := Or.inr (Or.inr rfl)
  refine g_aload_n C dX4_likes_0 rfl rfl ?_
  refine g_get (v := .ref (wA w 1)) C fl_X4_12 fs_X4_12 (Nat.lt_of_lt_of_le (by decide) hN) rfl rfl dX4_likes_1 ?_
  refine g_iload_n C dX4_likes_4 rfl rfl ?_
  refine g_pVI (rest := []) (v := bI (0 ≤ e ∧ e < σ 1 4)) C mv_X4_79 (ct_X1_has l w hN σ 1 h1 e) (Nat.lt_of_lt_of_le (by decide) hN) rfl rfl (by decide) rfl (Nat.le_of_ble_eq_true rfl) dX4_likes_5 ?_
  refine g_if_ne (tgt := 17) C dX4_likes_8 rfl (fun c8_1 => ?_) (fun c8_1 => ?_)
  · skip
    have n8_1 : (0 ≤ e ∧ e < σ 1 4) := bI_1 c8_1
    rw [Hh.c hH] at n8_1
    have hw := n8_1
    obtain ⟨k, hk, rfl⟩ := nj_of2 n8_1 (by omega)
    refine g_aload_n C dX4_likes_17 rfl rfl ?_
    refine g_get (v := .ref (wA w 31)) C fl_X4_32 fs_X4_32 (Nat.lt_of_lt_of_le (by decide) hN) rfl rfl dX4_likes_18 ?_
    refine g_callVV (rest := []) C mv_X4_138 (ct_X0_clear l w hN σ) (Nat.lt_of_lt_of_le (by decide) hN) rfl rfl (by decide) rfl (Nat.le_of_ble_eq_true rfl) dX4_likes_21 (fun σc h2 => ?_)
    obtain ⟨hCc, hFc⟩ := Ch.clr (fun g => nI (wNt a k g)) (fun g => decide (eats a k g)) h2
    refine g_iconst C dX4_likes_24 ic_0 ?_
    refine g_istore_n (lv' := [(2, .int 0), (0, .ref (wA w 0)), (1, .int (nI k))]) C dX4_likes_25 rfl (by decide) rfl ?_
    have L26 : ∀ (m26 : Nat) (g : Nat) (σ1 : SG), m26 = 5 - g → (g ≤ 5) → (Ch σ1 (chF (fun g => nI (wNt a k g)) (fun g => decide (eats a k g)) g)) → (Fr inM σ σ1) → G l w K 26 [(0, .ref (wA w 0)), (1, .int (nI k)), (2, .int (nI g))] [] σ1 := by
      intro m26
      induction m26 using Nat.strongRecOn with
      | ind m26 ih26 =>
      intro g σ1 em26 hg hC1 hF1
      have hH1 : Hh σ1 1 a := (hR.m hF1).1
      refine g_iload_n C dX4_likes_26 rfl rfl ?_
      refine g_iconst C dX4_likes_27 ic_5 ?_
      refine g_icmp_ge (tgt := 61) C dX4_likes_28 rfl (fun c28_3 => ?_) (fun c28_3 => ?_)
      · skip
        have n28_3 : 5 ≤ g := (nj_le (a := 5) (b := g) (by omega) (by omega)).mp c28_3
        obtain rfl : g = 5 := by omega
        refine g_aload_n C dX4_likes_61 rfl rfl ?_
        refine g_get (v := .ref (wA w 31)) C fl_X4_32 fs_X4_32 (Nat.lt_of_lt_of_le (by decide) hN) rfl rfl dX4_likes_62 ?_
        refine g_get (v := .int (σ1 31 0)) C fl_X4_147 fs_X4_147 (Nat.lt_of_lt_of_le (by decide) hN) rfl rfl dX4_likes_65 ?_
        refine g_iret C r rfl dX4_likes_68 ?_
        refine fin_q hC (hF1.mono (fun _ z => Or.inl z)) ?_ hC1.1
        unfold spLikes
        rw [if_neg (fun z => z hw), nn_nj (n := k) (by omega)]
      · skip
        have n28_3 : ¬ (5 ≤ g) := fun qq => c28_3 ((nj_le (a := 5) (b := g) (by omega) (by omega)).mpr qq)
        have L55 : ∀ (σ2 : SG), (Ch σ2 (chF (fun g => nI (wNt a k g)) (fun g => decide (eats a k g)) (g + 1))) → (Fr inM σ σ2) → G l w K 55 [(0, .ref (wA w 0)), (1, .int (nI k)), (2, .int (nI g))] [] σ2 := by
          intro σ2 hCq hFq
          refine g_iinc (v := nI (g + 1)) (lv' := [(2, .int (nI (g + 1))), (0, .ref (wA w 0)), (1, .int (nI k))]) C dX4_likes_55 (by decide) rfl (nj_inc g) rfl ?_
          refine g_goto (tgt := 26) C dX4_likes_58 rfl ?_
          exact g_lvp [1, 2, 0] rfl (ih26 (5 - (g + 1)) (by omega) (g + 1) σ2 rfl (by first | omega | assumption | rfl | grind) (hCq) (hFq))
        refine g_aload_n C dX4_likes_31 rfl rfl ?_
        refine g_get (v := .ref (wA w 1)) C fl_X4_12 fs_X4_12 (Nat.lt_of_lt_of_le (by decide) hN) rfl rfl dX4_likes_32 ?_
        refine g_iload_n C dX4_likes_35 rfl rfl ?_
        refine g_iload_n C dX4_likes_36 rfl rfl ?_
        refine g_pVI (rest := []) (v := wJ a k g) C mv_X4_106 (ct_X1_worthTo l w hN σ1 1 (Or.inl rfl) a hH1 hB k g (by omega) (by omega)) (Nat.lt_of_lt_of_le (by decide) hN) rfl rfl (by decide) rfl (Nat.le_of_ble_eq_true rfl) dX4_likes_37 ?_
        refine g_istore_n (lv' := [(3, .int (wJ a k g)), (0, .ref (wA w 0)), (1, .int (nI k)), (2, .int (nI g))]) C dX4_likes_40 rfl (by decide) rfl ?_
        refine g_iload_n C dX4_likes_41 rfl rfl ?_
        refine g_iconst C dX4_likes_42 ic_m1 ?_
        refine g_icmp_eq (tgt := 55) C dX4_likes_43 rfl (fun c43_4 => ?_) (fun c43_4 => ?_)
        · skip
          have hne : ¬ eats a k g := wJ_neats hBa c43_4
          exact g_lvp [1, 2, 3] rfl (L55 σ1 (by rw [chF_f (by simp only [decide_eq_false_iff_not]; exact hne)]; exact hC1) (hF1))
        · skip
          have hye : eats a k g := wJ_eats c43_4
          have hwj : wJ a k g = nI (wNt a k g) := if_pos hye
          refine g_aload_n C dX4_likes_46 rfl rfl ?_
          refine g_get (v := .ref (wA w 31)) C fl_X4_32 fs_X4_32 (Nat.lt_of_lt_of_le (by decide) hN) rfl rfl dX4_likes_47 ?_
          refine g_iload_n C dX4_likes_50 rfl rfl ?_
          refine g_iload_n C dX4_likes_51 rfl rfl ?_
          refine g_callVV (rest := []) C mv_X4_143 (ct_X0_offer l w hN σ1 (nI g) (wJ a k g)) (Nat.lt_of_lt_of_le (by decide) hN) rfl rfl (by decide) rfl (Nat.le_of_ble_eq_true rfl) dX4_likes_52 (fun σo h5 => ?_)
          rw [hwj] at h5
          obtain ⟨hCo, hFo⟩ := hC1.offer h5
          exact g_lvp [1, 2, 3] rfl (L55 σo (by rw [chF_t (by simp only [decide_eq_true_eq]; exact hye)]; exact hCo) (hF1.tr hFo fr_M31))
    exact g_lvp [1, 2, 0] rfl (L26 (5 - 0) 0 σc rfl (by first | omega | assumption | rfl | grind) (hCc) (hFc))
  · skip
    have n8_1 : ¬ (0 ≤ e ∧ e < σ 1 4) := bI_0 c8_1
    rw [Hh.c hH] at n8_1
    refine g_aload_n C dX4_likes_11 rfl rfl ?_
    refine g_iconst C dX4_likes_12 ic_m1 ?_
    refine g_callVI (rest := []) C mv_X4_64 (ct_X4_refuse l w hN σ 1 (by decide) ((-1)) (by decide)) (Nat.lt_of_lt_of_le (by decide) hN) rfl rfl (by decide) rfl (Nat.le_of_ble_eq_true rfl) dX4_likes_13 (fun r6 σ_6 h6 => ?_)
    obtain ⟨er6, hrf⟩ := h6
    rw [er6]
    refine g_iret C r rfl dX4_likes_16 ?_
    exact fin_r hC (by decide) hrf (by unfold spLikes; rw [if_pos (by assumption)]) (by decide)
set_option maxRecDepth 100000 in
set_option maxHeartbeats 4000000 in
theorem ct_X4_whose (l : Launch) (w : WD) (hN : 54 ≤ wN w) (σ : SG) (a kp : Row) (tk nl : Nat) (lt : Nat → Nat) (qn : Nat) (qs : Nat → Nat) (rf : Nat → Int32) (hC : CX σ (a, kp, tk, (nl, lt), (qn, qs), rf)) (g : Int32) : CtI l w yX4_whose cX4_whose 4 (some .int) 3 0 0 [.ref (wA w 0), .int g] σ (fun r τ => r = (spWhose (a, kp, tk, (nl, lt), (qn, qs), rf) g).1 ∧ CX τ (spWhose (a, kp, tk, (nl, lt), (qn, qs), rf) g).2 ∧ Fr in37 σ τ) := by
  refine CtI.mk (by decide) (Nat.le_of_ble_eq_true rfl) ?_
  intro K C hr h0
  have r := RI.of hr h0
  clear hr h0
  show G l w K 0 [(0, .ref (wA w 0)), (1, .int g)] [] σ
  have hR : HR σ a := hC.2.1
  have hH : Hh σ 1 a := hR.1
  have hB : Bd a := hR.2.1
  have h6 : σ 1 6 = nI 0 := hR.2.2.1
  have hd9 : a 1 ≤ 9999 := hR.2.2.2.1
  have hu9 : ∀ e, e < 4 → a (30 + 4 * e + 1) ≤ 9 := hR.2.2.2.2
  obtain ⟨hBa, hB0, hB1, hB2, hB3, hB4, hB5, hB6, hB7, hBs, hBp, hBe⟩ := id hB
  have h1 : HB 1 := Or.inl rfl
  have h10 : HB 10 := Or.inr (Or.inl rfl)
  have h19 : HB 19 := Or.inr (Or.inr rfl)
  refine g_iload_n C dX4_whose_0 rfl rfl ?_
  refine g_pSI (rest := []) (v := bI (0 ≤ g ∧ g < 5)) C ms_X4_91 (ct_X4_isAge l w hN σ g) rfl (by decide) rfl (Nat.le_of_ble_eq_true rfl) dX4_whose_1 ?_
  refine g_if_ne (tgt := 13) C dX4_whose_4 rfl (fun c4_1 => ?_) (fun c4_1 => ?_)
  · skip
    have n4_1 : (0 ≤ g ∧ g < 5) := bI_1 c4_1
    have hw := n4_1
    obtain ⟨j, hj, rfl⟩ := nj_of2 (m := 5) n4_1 (by decide)
    refine g_aload_n C dX4_whose_13 rfl rfl ?_
    refine g_get (v := .ref (wA w 31)) C fl_X4_32 fs_X4_32 (Nat.lt_of_lt_of_le (by decide) hN) rfl rfl dX4_whose_14 ?_
    refine g_callVV (rest := []) C mv_X4_138 (ct_X0_clear l w hN σ) (Nat.lt_of_lt_of_le (by decide) hN) rfl rfl (by decide) rfl (Nat.le_of_ble_eq_true rfl) dX4_whose_17 (fun σc h2 => ?_)
    obtain ⟨hCc, hFc⟩ := Ch.clr (fun e => nI (wNt a e j)) (fun e => decide (eats a e j)) h2
    refine g_iconst C dX4_whose_20 ic_0 ?_
    refine g_istore_n (lv' := [(2, .int 0), (0, .ref (wA w 0)), (1, .int (nI j))]) C dX4_whose_21 rfl (by decide) rfl ?_
    have L22 : ∀ (m22 : Nat) (e : Nat) (σ1 : SG), m22 = a 0 - e → (e ≤ a 0) → (Ch σ1 (chF (fun e => nI (wNt a e j)) (fun e => decide (eats a e j)) e)) → (Fr inM σ σ1) → G l w K 22 [(0, .ref (wA w 0)), (1, .int (nI j)), (2, .int (nI e))] [] σ1 := by
      intro m22
      induction m22 using Nat.strongRecOn with
      | ind m22 ih22 =>
      intro e σ1 em22 he hC1 hF1
      have hH1 : Hh σ1 1 a := (hR.m hF1).1
      refine g_iload_n C dX4_whose_22 rfl rfl ?_
      refine g_aload_n C dX4_whose_23 rfl rfl ?_
      refine g_get (v := .ref (wA w 1)) C fl_X4_12 fs_X4_12 (Nat.lt_of_lt_of_le (by decide) hN) rfl rfl dX4_whose_24 ?_
      refine g_get (v := .int (σ1 1 4)) C fl_X4_164 fs_X4_164 (Nat.lt_of_lt_of_le (by decide) hN) rfl rfl dX4_whose_27 ?_
      refine g_val (y := nI (a 0)) (Hh.c hH1) ?_
      refine g_icmp_ge (tgt := 63) C dX4_whose_30 rfl (fun c30_3 => ?_) (fun c30_3 => ?_)
      · skip
        have n30_3 : a 0 ≤ e := (nj_le (a := a 0) (b := e) (by have := hBa 0; omega) (by have := hBa 0; omega)).mp c30_3
        obtain rfl : e = a 0 := by omega
        refine g_aload_n C dX4_whose_63 rfl rfl ?_
        refine g_get (v := .ref (wA w 31)) C fl_X4_32 fs_X4_32 (Nat.lt_of_lt_of_le (by decide) hN) rfl rfl dX4_whose_64 ?_
        refine g_get (v := .int (σ1 31 0)) C fl_X4_147 fs_X4_147 (Nat.lt_of_lt_of_le (by decide) hN) rfl rfl dX4_whose_67 ?_
        refine g_iret C r rfl dX4_whose_70 ?_
        refine fin_q hC (hF1.mono (fun _ z => Or.inl z)) ?_ hC1.1
        unfold spWhose
        rw [if_neg (fun z => z hw), nn_nj (n := j) (by omega)]
      · skip
        have n30_3 : ¬ (a 0 ≤ e) := fun qq => c30_3 ((nj_le (a := a 0) (b := e) (by have := hBa 0; omega) (by have := hBa 0; omega)).mpr qq)
        have L57 : ∀ (σ2 : SG), (Ch σ2 (chF (fun e => nI (wNt a e j)) (fun e => decide (eats a e j)) (e + 1))) → (Fr inM σ σ2) → G l w K 57 [(0, .ref (wA w 0)), (1, .int (nI j)), (2, .int (nI e))] [] σ2 := by
          intro σ2 hCq hFq
          refine g_iinc (v := nI (e + 1)) (lv' := [(2, .int (nI (e + 1))), (0, .ref (wA w 0)), (1, .int (nI j))]) C dX4_whose_57 (by decide) rfl (nj_inc e) rfl ?_
          refine g_goto (tgt := 22) C dX4_whose_60 rfl ?_
          exact g_lvp [1, 2, 0] rfl (ih22 (a 0 - (e + 1)) (by omega) (e + 1) σ2 rfl (by first | omega | assumption | rfl | grind) (hCq) (hFq))
        refine g_aload_n C dX4_whose_33 rfl rfl ?_
        refine g_get (v := .ref (wA w 1)) C fl_X4_12 fs_X4_12 (Nat.lt_of_lt_of_le (by decide) hN) rfl rfl dX4_whose_34 ?_
        refine g_iload_n C dX4_whose_37 rfl rfl ?_
        refine g_iload_n C dX4_whose_38 rfl rfl ?_
        refine g_pVI (rest := []) (v := wJ a e j) C mv_X4_106 (ct_X1_worthTo l w hN σ1 1 (Or.inl rfl) a hH1 hB e j (by omega) (by omega)) (Nat.lt_of_lt_of_le (by decide) hN) rfl rfl (by decide) rfl (Nat.le_of_ble_eq_true rfl) dX4_whose_39 ?_
        refine g_istore_n (lv' := [(3, .int (wJ a e j)), (0, .ref (wA w 0)), (1, .int (nI j)), (2, .int (nI e))]) C dX4_whose_42 rfl (by decide) rfl ?_
        refine g_iload_n C dX4_whose_43 rfl rfl ?_
        refine g_iconst C dX4_whose_44 ic_m1 ?_
        refine g_icmp_eq (tgt := 57) C dX4_whose_45 rfl (fun c45_4 => ?_) (fun c45_4 => ?_)
        · skip
          have hne : ¬ eats a e j := wJ_neats hBa c45_4
          exact g_lvp [1, 2, 3] rfl (L57 σ1 (by rw [chF_f (by simp only [decide_eq_false_iff_not]; exact hne)]; exact hC1) (hF1))
        · skip
          have hye : eats a e j := wJ_eats c45_4
          have hwj : wJ a e j = nI (wNt a e j) := if_pos hye
          refine g_aload_n C dX4_whose_48 rfl rfl ?_
          refine g_get (v := .ref (wA w 31)) C fl_X4_32 fs_X4_32 (Nat.lt_of_lt_of_le (by decide) hN) rfl rfl dX4_whose_49 ?_
          refine g_iload_n C dX4_whose_52 rfl rfl ?_
          refine g_iload_n C dX4_whose_53 rfl rfl ?_
          refine g_callVV (rest := []) C mv_X4_143 (ct_X0_offer l w hN σ1 (nI e) (wJ a e j)) (Nat.lt_of_lt_of_le (by decide) hN) rfl rfl (by decide) rfl (Nat.le_of_ble_eq_true rfl) dX4_whose_54 (fun σo h5 => ?_)
          rw [hwj] at h5
          obtain ⟨hCo, hFo⟩ := hC1.offer h5
          exact g_lvp [1, 2, 3] rfl (L57 σo (by rw [chF_t (by simp only [decide_eq_true_eq]; exact hye)]; exact hCo) (hF1.tr hFo fr_M31))
    exact g_lvp [1, 2, 0] rfl (L22 (a 0 - 0) 0 σc rfl (by first | omega | assumption | rfl | grind) (hCc) (hFc))
  · skip
    have n4_1 : ¬ (0 ≤ g ∧ g < 5) := bI_0 c4_1
    refine g_aload_n C dX4_whose_7 rfl rfl ?_
    refine g_iconst C dX4_whose_8 ic_m1 ?_
    refine g_callVI (rest := []) C mv_X4_64 (ct_X4_refuse l w hN σ 1 (by decide) ((-1)) (by decide)) (Nat.lt_of_lt_of_le (by decide) hN) rfl rfl (by decide) rfl (Nat.le_of_ble_eq_true rfl) dX4_whose_9 (fun r6 σ_6 h6 => ?_)
    obtain ⟨er6, hrf⟩ := h6
    rw [er6]
    refine g_iret C r rfl dX4_whose_12 ?_
    exact fin_r hC (by decide) hrf (by unfold spWhose; rw [if_pos (by assumption)]) (by decide)

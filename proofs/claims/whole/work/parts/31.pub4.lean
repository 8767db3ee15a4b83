set_option maxRecDepth 100000 in
set_option maxHeartbeats 4000000 in
theorem ct_X2_add (l : Launch) (w : WD) (hN : 54 ≤ wN w) (σ : SG) (m c : Nat) (hm : σ 32 1 = nI m) (hm9 : m < 96) (hc : c ≤ 255) : CtV l w yX2_add cX2_add 2 1 0 0 [.ref (wA w 32), .int (nI c)] σ (fun τ => τ = up (up σ 33 m (nI c)) 32 1 (nI (m + 1))) := by
  refine CtV.mk (by decide) (Nat.le_of_ble_eq_true rfl) ?_
  intro K C hr h0
  have r := RV.of hr h0
  clear hr h0
  show G l w K 0 [(0, .ref (wA w 32)), (1, .int (nI c))] [] σ
  refine g_aload_n C dX2_add_0 rfl rfl ?_
  refine g_get (v := .int (σ 32 1)) C fl_X2_15 fs_X2_15 (Nat.lt_of_lt_of_le (by decide) hN) rfl rfl dX2_add_1 ?_
  refine g_val (y := nI m) hm ?_
  refine g_bipush C dX2_add_4 bp_96 ?_
  refine g_icmp_ge (tgt := 29) C dX2_add_6 rfl (fun c6_1 => ?_) (fun c6_1 => ?_)
  · skip
    have n6_1 : 96 ≤ m := (nj_le (a := 96) (b := m) (by omega) (by omega)).mp c6_1
    exfalso
    omega
  · skip
    have n6_1 : ¬ (96 ≤ m) := fun qq => c6_1 ((nj_le (a := 96) (b := m) (by omega) (by omega)).mpr qq)
    refine g_aload_n C dX2_add_9 rfl rfl ?_
    refine g_get (v := .ref (wA w 33)) C fl_X2_9 fs_X2_9 (Nat.lt_of_lt_of_le (by decide) hN) rfl rfl dX2_add_10 ?_
    refine g_aload_n C dX2_add_13 rfl rfl ?_
    refine g_get (v := .int (σ 32 1)) C fl_X2_15 fs_X2_15 (Nat.lt_of_lt_of_le (by decide) hN) rfl rfl dX2_add_14 ?_
    refine g_val (y := nI m) hm ?_
    refine g_iload_n C dX2_add_17 rfl rfl ?_
    refine g_cas (k0 := 33) (n := 96) C (Nat.lt_of_lt_of_le (by decide) hN) rfl (j := m) (ix_n (by omega)) (nar_id hc) dX2_add_18 (fun σ1 hσ1 => ?_)
    refine g_aload_n C dX2_add_19 rfl rfl ?_
    refine g_dup C dX2_add_20 rfl ?_
    refine g_get (v := .int (σ1 32 1)) C fl_X2_15 fs_X2_15 (Nat.lt_of_lt_of_le (by decide) hN) rfl rfl dX2_add_21 ?_
    refine g_val (y := nI m) (by rw [hσ1, up_other (by decide)]; exact hm) ?_
    refine g_iconst C dX2_add_24 ic_1 ?_
    refine g_iaddv (v := nI (m + 1)) C (nj_plus m 1) dX2_add_25 ?_
    refine g_putn C fp_X2_15 (Nat.lt_of_lt_of_le (by decide) hN) rfl rfl (Nat.le_of_ble_eq_true rfl) rfl rfl dX2_add_26 (fun σ2 hσ2 => ?_)
    refine g_vret C r dX2_add_29 ?_
    rw [hσ2, hσ1]
set_option maxRecDepth 100000 in
set_option maxHeartbeats 4000000 in
theorem ct_X4_letter (l : Launch) (w : WD) (hN : 54 ≤ wN w) (σ : SG) (a kp : Row) (tk nl : Nat) (lt : Nat → Nat) (qn : Nat) (qs : Nat → Nat) (rf : Nat → Int32) (hC : CX σ (a, kp, tk, (nl, lt), (qn, qs), rf)) (c : Int32) : CtI l w yX4_letter cX4_letter 3 (some .int) 3 0 0 [.ref (wA w 0), .int c] σ (fun r τ => r = (spLetter (a, kp, tk, (nl, lt), (qn, qs), rf) c).1 ∧ CX τ (spLetter (a, kp, tk, (nl, lt), (qn, qs), rf) c).2 ∧ Fr in37 σ τ) := by
  refine CtI.mk (by decide) (Nat.le_of_ble_eq_true rfl) ?_
  intro K C hr h0
  have r := RI.of hr h0
  clear hr h0
  show G l w K 0 [(0, .ref (wA w 0)), (1, .int c)] [] σ
  have hR : HR σ a := hC.2.1
  have hH : Hh σ 1 a := hR.1
  have hB : Bd a := hR.2.1
  have h6 : σ 1 6 = nI 0 := hR.2.2.1
  have hd9 : a 1 ≤ 9999 := hR.2.2.2.1
  have hu9 : ∀ e, e < 4 → a (30 + 4 * e + 1) ≤ 9 := hR.2.2.2.2
  obtain ⟨hBa, hB0, hB1, hB2, hB3, hB4, hB5, hB6, hB7, hBs, hBp, hBe⟩ := id hB
  have h1 : HB 1 := Or.inl rfl
  have h10 : HB 10 := Or.inr (Or.inl rfl)
  have h19 : HB 19 := Or.inr (Or.inr rfl)
  have hl1 : σ 32 1 = nI nl := hC.2.2.2.2.1.1
  have hl9 : nl ≤ 96 := hC.1.2.2.2.1
  refine g_iload_n C dX4_letter_0 rfl rfl ?_
  refine g_iconst C dX4_letter_1 ic_0 ?_
  refine g_sipush C dX4_letter_2 sp_255 ?_
  refine g_pSI (rest := []) (v := oU c 0 255) C ms_X4_56 (ct_X4_outside l w hN σ c 0 255) rfl (by decide) rfl (Nat.le_of_ble_eq_true rfl) dX4_letter_5 ?_
  refine g_istore_n (lv' := [(2, .int (oU c 0 255)), (0, .ref (wA w 0)), (1, .int c)]) C dX4_letter_8 rfl (by decide) rfl ?_
  refine g_iload_n C dX4_letter_9 rfl rfl ?_
  refine g_if_ne (tgt := 28) C dX4_letter_10 rfl (fun c10_1 => ?_) (fun c10_1 => ?_)
  · skip
    have hoc := c10_1
    refine g_iload_n C dX4_letter_28 rfl rfl ?_
    refine g_if_eq (tgt := 38) C dX4_letter_29 rfl (fun c29_2 => ?_) (fun c29_2 => ?_)
    · exact absurd c29_2 c10_1
    · skip
      refine g_aload_n C dX4_letter_32 rfl rfl ?_
      refine g_iload_n C dX4_letter_33 rfl rfl ?_
      refine g_callVI (rest := []) C mv_X4_64 (ct_X4_refuse l w hN σ (kO c 0) (kO_in _ _) (oU c 0 255) (outk hoc)) (Nat.lt_of_lt_of_le (by decide) hN) rfl rfl (by decide) rfl (Nat.le_of_ble_eq_true rfl) dX4_letter_34 (fun r3 σ_3 h3 => ?_)
      obtain ⟨er3, hrf⟩ := h3
      rw [er3]
      refine g_iret C r rfl dX4_letter_37 ?_
      first | exact fin_r hC (kO_in _ _) hrf (by unfold spLetter; rw [if_pos (outp hoc)]) (outv hoc) | exact fin_r hC (by decide) hrf (by unfold spLetter; rw [if_neg hz, if_pos (show nl = 96 by omega)]) (by decide)
  · skip
    have hz := out0 (lo := 0) (hi := 255) c10_1
    refine g_aload_n C dX4_letter_13 rfl rfl ?_
    refine g_get (v := .ref (wA w 32)) C fl_X4_39 fs_X4_39 (Nat.lt_of_lt_of_le (by decide) hN) rfl rfl dX4_letter_14 ?_
    refine g_get (v := .int (σ 32 1)) C fl_X4_60 fs_X4_60 (Nat.lt_of_lt_of_le (by decide) hN) rfl rfl dX4_letter_17 ?_
    refine g_val (y := nI nl) hl1 ?_
    refine g_bipush C dX4_letter_20 bp_96 ?_
    refine g_icmp_lt (tgt := 28) C dX4_letter_22 rfl (fun c22_4 => ?_) (fun c22_4 => ?_)
    · skip
      have n22_4 : nl < 96 := (nj_lt (a := nl) (b := 96) (by omega) (by omega)).mp c22_4
      refine g_iload_n C dX4_letter_28 rfl rfl ?_
      refine g_if_eq (tgt := 38) C dX4_letter_29 rfl (fun c29_5 => ?_) (fun c29_5 => ?_)
      · skip
        obtain ⟨m, hm, rfl⟩ := nj_of4 (m := 255) hz
        refine g_aload_n C dX4_letter_38 rfl rfl ?_
        refine g_get (v := .ref (wA w 32)) C fl_X4_39 fs_X4_39 (Nat.lt_of_lt_of_le (by decide) hN) rfl rfl dX4_letter_39 ?_
        refine g_iload_n C dX4_letter_42 rfl rfl ?_
        refine g_i2c (v := nI m) C dX4_letter_43 (i2c_id hm) ?_
        refine g_callVV (rest := []) C mv_X4_68 (ct_X2_add l w hN σ nl m hl1 (by omega) hm) (Nat.lt_of_lt_of_le (by decide) hN) rfl rfl (by decide) rfl (Nat.le_of_ble_eq_true rfl) dX4_letter_44 (fun σ2 h6 => ?_)
        have hc2 := hC.let (show nl < 96 by omega) hm h6
        have hF2 : Fr in37 σ σ2 := by rw [h6]; exact (Fr.up (S := in37) (by decide)).tr (Fr.up (S := in37) (by decide)) (fun _ z => z)
        refine g_aload_n C dX4_letter_47 rfl rfl ?_
        refine g_get (v := .ref (wA w 32)) C fl_X4_39 fs_X4_39 (Nat.lt_of_lt_of_le (by decide) hN) rfl rfl dX4_letter_48 ?_
        refine g_get (v := .int (σ2 32 1)) C fl_X4_60 fs_X4_60 (Nat.lt_of_lt_of_le (by decide) hN) rfl rfl dX4_letter_51 ?_
        refine g_val (y := nI (nl + 1)) hc2.2.2.2.2.1.1 ?_
        refine g_iret C r rfl dX4_letter_54 ?_
        have hs : spLetter (a, kp, tk, (nl, lt), (qn, qs), rf) (nI m) = (nI (nl + 1), sAl (a, kp, tk, (nl, lt), (qn, qs), rf) (nl + 1) (fun j => if j = nl then m else lt j)) := by unfold spLetter; rw [if_neg hz, if_neg (show ¬ nl = 96 by omega), nn_nj (n := m) (by omega)]
        rw [hs]
        exact ⟨rfl, hc2, hF2⟩
      · exact absurd c10_1 c29_5
    · skip
      have n22_4 : ¬ (nl < 96) := fun qq => c22_4 ((nj_lt (a := nl) (b := 96) (by omega) (by omega)).mpr qq)
      refine g_bipush C dX4_letter_25 bp_m6 ?_
      refine g_istore_n (lv' := [(2, .int ((-6))), (0, .ref (wA w 0)), (1, .int c)]) C dX4_letter_27 rfl (by decide) rfl ?_
      refine g_iload_n C dX4_letter_28 rfl rfl ?_
      refine g_if_eq (tgt := 38) C dX4_letter_29 rfl (fun c29_7 => ?_) (fun c29_7 => ?_)
      · exact absurd c29_7 (by decide)
      · skip
        refine g_aload_n C dX4_letter_32 rfl rfl ?_
        refine g_iload_n C dX4_letter_33 rfl rfl ?_
        refine g_callVI (rest := []) C mv_X4_64 (ct_X4_refuse l w hN σ 6 (by decide) ((-6)) (by decide)) (Nat.lt_of_lt_of_le (by decide) hN) rfl rfl (by decide) rfl (Nat.le_of_ble_eq_true rfl) dX4_letter_34 (fun r8 σ_8 h8 => ?_)
        obtain ⟨er8, hrf⟩ := h8
        rw [er8]
        refine g_iret C r rfl dX4_letter_37 ?_
        first | exact fin_r hC (kO_in _ _) hrf (by unfold spLetter; rw [if_pos (outp hoc)]) (outv hoc) | exact fin_r hC (by decide) hrf (by unfold spLetter; rw [if_neg hz, if_pos (show nl = 96 by omega)]) (by decide)
set_option maxRecDepth 100000 in
set_option maxHeartbeats 4000000 in
theorem ct_X4_row (l : Launch) (w : WD) (hN : 54 ≤ wN w) (σ : SG) (a kp : Row) (tk nl : Nat) (lt : Nat → Nat) (qn : Nat) (qs : Nat → Nat) (rf : Nat → Int32) (hC : CX σ (a, kp, tk, (nl, lt), (qn, qs), rf)) (v : Int32) : CtI l w yX4_row cX4_row 3 (some .int) 3 0 0 [.ref (wA w 0), .int v] σ (fun r τ => r = (spRow (a, kp, tk, (nl, lt), (qn, qs), rf) v).1 ∧ CX τ (spRow (a, kp, tk, (nl, lt), (qn, qs), rf) v).2 ∧ Fr in37 σ τ) := by
  refine CtI.mk (by decide) (Nat.le_of_ble_eq_true rfl) ?_
  intro K C hr h0
  have r := RI.of hr h0
  clear hr h0
  show G l w K 0 [(0, .ref (wA w 0)), (1, .int v)] [] σ
  have hR : HR σ a := hC.2.1
  have hH : Hh σ 1 a := hR.1
  have hB : Bd a := hR.2.1
  have h6 : σ 1 6 = nI 0 := hR.2.2.1
  have hd9 : a 1 ≤ 9999 := hR.2.2.2.1
  have hu9 : ∀ e, e < 4 → a (30 + 4 * e + 1) ≤ 9 := hR.2.2.2.2
  obtain ⟨hBa, hB0, hB1, hB2, hB3, hB4, hB5, hB6, hB7, hBs, hBp, hBe⟩ := id hB
  have h1 : HB 1 := Or.inl rfl
  have h10 : HB 10 := Or.inr (Or.inl rfl)
  have h19 : HB 19 := Or.inr (Or.inr rfl)
  have hn1 : σ 0 10 = nI qn := hC.2.2.2.2.2.1.1
  have hn9 : qn ≤ 20 := hC.1.2.2.2.2.2.1
  have hns : ∀ j, j < qn → σ 34 j = nI (qs j) := hC.2.2.2.2.2.1.2
  have hns9 : ∀ j, j < qn → qs j ≤ 99 := hC.1.2.2.2.2.2.2
  refine g_iload_n C dX4_row_0 rfl rfl ?_
  refine g_iconst C dX4_row_1 ic_0 ?_
  refine g_bipush C dX4_row_2 bp_99 ?_
  refine g_pSI (rest := []) (v := oU v 0 99) C ms_X4_56 (ct_X4_outside l w hN σ v 0 99) rfl (by decide) rfl (Nat.le_of_ble_eq_true rfl) dX4_row_4 ?_
  refine g_istore_n (lv' := [(2, .int (oU v 0 99)), (0, .ref (wA w 0)), (1, .int v)]) C dX4_row_7 rfl (by decide) rfl ?_
  refine g_iload_n C dX4_row_8 rfl rfl ?_
  refine g_if_ne (tgt := 24) C dX4_row_9 rfl (fun c9_1 => ?_) (fun c9_1 => ?_)
  · skip
    have hoc := c9_1
    refine g_iload_n C dX4_row_24 rfl rfl ?_
    refine g_if_eq (tgt := 34) C dX4_row_25 rfl (fun c25_2 => ?_) (fun c25_2 => ?_)
    · exact absurd c25_2 c9_1
    · skip
      refine g_aload_n C dX4_row_28 rfl rfl ?_
      refine g_iload_n C dX4_row_29 rfl rfl ?_
      refine g_callVI (rest := []) C mv_X4_64 (ct_X4_refuse l w hN σ (kO v 0) (kO_in _ _) (oU v 0 99) (outk hoc)) (Nat.lt_of_lt_of_le (by decide) hN) rfl rfl (by decide) rfl (Nat.le_of_ble_eq_true rfl) dX4_row_30 (fun r3 σ_3 h3 => ?_)
      obtain ⟨er3, hrf⟩ := h3
      rw [er3]
      refine g_iret C r rfl dX4_row_33 ?_
      first | exact fin_r hC (kO_in _ _) hrf (by unfold spRow; rw [if_pos (outp hoc)]) (outv hoc) | exact fin_r hC (by decide) hrf (by unfold spRow; rw [if_neg hz, if_pos (show qn = 20 by omega)]) (by decide)
  · skip
    have hz := out0 (lo := 0) (hi := 99) c9_1
    refine g_aload_n C dX4_row_12 rfl rfl ?_
    refine g_get (v := .int (σ 0 10)) C fl_X4_197 fs_X4_197 (Nat.lt_of_lt_of_le (by decide) hN) rfl rfl dX4_row_13 ?_
    refine g_val (y := nI qn) hn1 ?_
    refine g_bipush C dX4_row_16 bp_20 ?_
    refine g_icmp_lt (tgt := 24) C dX4_row_18 rfl (fun c18_4 => ?_) (fun c18_4 => ?_)
    · skip
      have n18_4 : qn < 20 := (nj_lt (a := qn) (b := 20) (by omega) (by omega)).mp c18_4
      refine g_iload_n C dX4_row_24 rfl rfl ?_
      refine g_if_eq (tgt := 34) C dX4_row_25 rfl (fun c25_5 => ?_) (fun c25_5 => ?_)
      · skip
        obtain ⟨m, hm, rfl⟩ := nj_of4 (m := 99) hz
        refine g_aload_n C dX4_row_34 rfl rfl ?_
        refine g_get (v := .ref (wA w 34)) C fl_X4_43 fs_X4_43 (Nat.lt_of_lt_of_le (by decide) hN) rfl rfl dX4_row_35 ?_
        refine g_aload_n C dX4_row_38 rfl rfl ?_
        refine g_get (v := .int (σ 0 10)) C fl_X4_197 fs_X4_197 (Nat.lt_of_lt_of_le (by decide) hN) rfl rfl dX4_row_39 ?_
        refine g_val (y := nI qn) hn1 ?_
        refine g_iload_n C dX4_row_42 rfl rfl ?_
        refine g_ias (k0 := 34) (n := 20) C (Nat.lt_of_lt_of_le (by decide) hN) rfl (j := qn) (ix_n (by omega)) dX4_row_43 (fun σ1 hσ1 => ?_)
        refine g_aload_n C dX4_row_44 rfl rfl ?_
        refine g_dup C dX4_row_45 rfl ?_
        refine g_get (v := .int (σ1 0 10)) C fl_X4_197 fs_X4_197 (Nat.lt_of_lt_of_le (by decide) hN) rfl rfl dX4_row_46 ?_
        refine g_val (y := nI qn) (by rw [hσ1, up_other (by decide)]; exact hn1) ?_
        refine g_iconst C dX4_row_49 ic_1 ?_
        refine g_iaddv (v := nI (qn + 1)) C (nj_plus qn 1) dX4_row_50 ?_
        refine g_putn C fp_X4_197 (Nat.lt_of_lt_of_le (by decide) hN) rfl rfl (Nat.le_of_ble_eq_true rfl) rfl rfl dX4_row_51 (fun σ2 hσ2 => ?_)
        have hc2 := hC.rw1 (τ := σ2) (show qn < 20 by omega) hm (by rw [hσ2, hσ1])
        refine g_aload_n C dX4_row_54 rfl rfl ?_
        refine g_get (v := .int (σ2 0 10)) C fl_X4_197 fs_X4_197 (Nat.lt_of_lt_of_le (by decide) hN) rfl rfl dX4_row_55 ?_
        refine g_val (y := nI (qn + 1)) hc2.2.2.2.2.2.1.1 ?_
        refine g_iret C r rfl dX4_row_58 ?_
        have hs : spRow (a, kp, tk, (nl, lt), (qn, qs), rf) (nI m) = (nI (qn + 1), sAn (a, kp, tk, (nl, lt), (qn, qs), rf) (qn + 1) (fun j => if j = qn then m else qs j)) := by unfold spRow; rw [if_neg hz, if_neg (show ¬ qn = 20 by omega), nn_nj (n := m) (by omega)]
        rw [hs]
        exact ⟨rfl, hc2, by rw [hσ2, hσ1]; exact (Fr.up (S := in37) (by decide)).tr (Fr.up (S := in37) (by decide)) (fun _ z => z)⟩
      · exact absurd c9_1 c25_5
    · skip
      have n18_4 : ¬ (qn < 20) := fun qq => c18_4 ((nj_lt (a := qn) (b := 20) (by omega) (by omega)).mpr qq)
      refine g_bipush C dX4_row_21 bp_m6 ?_
      refine g_istore_n (lv' := [(2, .int ((-6))), (0, .ref (wA w 0)), (1, .int v)]) C dX4_row_23 rfl (by decide) rfl ?_
      refine g_iload_n C dX4_row_24 rfl rfl ?_
      refine g_if_eq (tgt := 34) C dX4_row_25 rfl (fun c25_6 => ?_) (fun c25_6 => ?_)
      · exact absurd c25_6 (by decide)
      · skip
        refine g_aload_n C dX4_row_28 rfl rfl ?_
        refine g_iload_n C dX4_row_29 rfl rfl ?_
        refine g_callVI (rest := []) C mv_X4_64 (ct_X4_refuse l w hN σ 6 (by decide) ((-6)) (by decide)) (Nat.lt_of_lt_of_le (by decide) hN) rfl rfl (by decide) rfl (Nat.le_of_ble_eq_true rfl) dX4_row_30 (fun r7 σ_7 h7 => ?_)
        obtain ⟨er7, hrf⟩ := h7
        rw [er7]
        refine g_iret C r rfl dX4_row_33 ?_
        first | exact fin_r hC (kO_in _ _) hrf (by unfold spRow; rw [if_pos (outp hoc)]) (outv hoc) | exact fin_r hC (by decide) hrf (by unfold spRow; rw [if_neg hz, if_pos (show qn = 20 by omega)]) (by decide)
set_option maxRecDepth 100000 in
set_option maxHeartbeats 4000000 in
theorem ct_X4_image (l : Launch) (w : WD) (hN : 54 ≤ wN w) (σ : SG) (a kp : Row) (tk nl : Nat) (lt : Nat → Nat) (qn : Nat) (qs : Nat → Nat) (rf : Nat → Int32) (hC : CX σ (a, kp, tk, (nl, lt), (qn, qs), rf)) : CtI l w yX4_image cX4_image 1 (some .int) 3 0 0 [.ref (wA w 0)] σ (fun r τ => r = (spImage (a, kp, tk, (nl, lt), (qn, qs), rf)).1 ∧ CX τ (spImage (a, kp, tk, (nl, lt), (qn, qs), rf)).2 ∧ Fr in37 σ τ) := by
  refine CtI.mk (by decide) (Nat.le_of_ble_eq_true rfl) ?_
  intro K C hr h0
  have r := RI.of hr h0
  clear hr h0
  show G l w K 0 [(0, .ref (wA w 0))] [] σ
  have hR : HR σ a := hC.2.1
  have hH : Hh σ 1 a := hR.1
  have hB : Bd a := hR.2.1
  have h6 : σ 1 6 = nI 0 := hR.2.2.1
  have hd9 : a 1 ≤ 9999 := hR.2.2.2.1
  have hu9 : ∀ e, e < 4 → a (30 + 4 * e + 1) ≤ 9 := hR.2.2.2.2
  obtain ⟨hBa, hB0, hB1, hB2, hB3, hB4, hB5, hB6, hB7, hBs, hBp, hBe⟩ := id hB
  have h1 : HB 1 := Or.inl rfl
  have h10 : HB 10 := Or.inr (Or.inl rfl)
  have h19 : HB 19 := Or.inr (Or.inr rfl)
  refine g_aload_n C dX4_image_0 rfl rfl ?_
  refine g_get (v := .ref (wA w 10)) C fl_X4_16 fs_X4_16 (Nat.lt_of_lt_of_le (by decide) hN) rfl rfl dX4_image_1 ?_
  refine g_aload_n C dX4_image_4 rfl rfl ?_
  refine g_get (v := .ref (wA w 1)) C fl_X4_12 fs_X4_12 (Nat.lt_of_lt_of_le (by decide) hN) rfl rfl dX4_image_5 ?_
  refine g_callVV (rest := []) C mv_X4_215 (ct_X1_become l w hN σ 10 (Or.inr (Or.inl rfl)) 1 (Or.inl rfl) (by decide) a hH) (Nat.lt_of_lt_of_le (by decide) hN) rfl rfl (by decide) rfl (Nat.le_of_ble_eq_true rfl) dX4_image_8 (fun σ1 h1 => ?_)
  obtain ⟨hHk, h6k, hFk⟩ := h1
  refine g_aload_n C dX4_image_11 rfl rfl ?_
  refine g_iconst C dX4_image_12 ic_1 ?_
  refine g_putn C fp_X4_219 (Nat.lt_of_lt_of_le (by decide) hN) rfl rfl (Nat.le_of_ble_eq_true rfl) rfl rfl dX4_image_13 (fun σ2 hσ2 => ?_)
  have hH2 : Hh σ2 1 a := hH.fr (fun k z1 z2 => by rw [hσ2, up_other (by omega)]; exact hFk k (by unfold inH; omega))
  refine g_aload_n C dX4_image_16 rfl rfl ?_
  refine g_get (v := .ref (wA w 1)) C fl_X4_12 fs_X4_12 (Nat.lt_of_lt_of_le (by decide) hN) rfl rfl dX4_image_17 ?_
  refine g_get (v := .int (σ2 1 5)) C fl_X4_110 fs_X4_110 (Nat.lt_of_lt_of_le (by decide) hN) rfl rfl dX4_image_20 ?_
  refine g_val (y := nI (a 1)) (Hh.d hH2) ?_
  refine g_iret C r rfl dX4_image_23 ?_
  exact ⟨rfl, hC.img hHk (by rw [h6k]; exact h6) hFk hσ2, by rw [hσ2]; exact (hFk.mono (fun k z => by obtain ⟨z1, z2⟩ := z; simp only [in37]; omega)).tr (Fr.up (S := in37) (by decide)) (fun _ z => z)⟩
set_option maxRecDepth 100000 in
set_option maxHeartbeats 4000000 in
theorem ct_X4_on (l : Launch) (w : WD) (hN : 54 ≤ wN w) (σ : SG) (a kp : Row) (tk nl : Nat) (lt : Nat → Nat) (qn : Nat) (qs : Nat → Nat) (rf : Nat → Int32) (hC : CX σ (a, kp, tk, (nl, lt), (qn, qs), rf)) : CtI l w yX4_on cX4_on 1 (some .int) 3 0 0 [.ref (wA w 0)] σ (fun r τ => r = (spOn (a, kp, tk, (nl, lt), (qn, qs), rf)).1 ∧ CX τ (spOn (a, kp, tk, (nl, lt), (qn, qs), rf)).2 ∧ Fr in37 σ τ) := by
  refine CtI.mk (by decide) (Nat.le_of_ble_eq_true rfl) ?_
  intro K C hr h0
  have r := RI.of hr h0
  clear hr h0
  show G l w K 0 [(0, .ref (wA w 0))] [] σ
  have hR : HR σ a := hC.2.1
  have hH : Hh σ 1 a := hR.1
  have hB : Bd a := hR.2.1
  have h6 : σ 1 6 = nI 0 := hR.2.2.1
  have hd9 : a 1 ≤ 9999 := hR.2.2.2.1
  have hu9 : ∀ e, e < 4 → a (30 + 4 * e + 1) ≤ 9 := hR.2.2.2.2
  obtain ⟨hBa, hB0, hB1, hB2, hB3, hB4, hB5, hB6, hB7, hBs, hBp, hBe⟩ := id hB
  have h1 : HB 1 := Or.inl rfl
  have h10 : HB 10 := Or.inr (Or.inl rfl)
  have h19 : HB 19 := Or.inr (Or.inr rfl)
  have ht1 : σ 0 11 = nI tk := hC.2.2.2.1
  have ht9 : tk ≤ 1 := hC.1.2.2.1
  refine g_aload_n C dX4_on_0 rfl rfl ?_
  refine g_get (v := .int (σ 0 11)) C fl_X4_219 fs_X4_219 (Nat.lt_of_lt_of_le (by decide) hN) rfl rfl dX4_on_1 ?_
  refine g_val (y := nI tk) ht1 ?_
  refine g_if_ne (tgt := 14) C dX4_on_4 rfl (fun c4_1 => ?_) (fun c4_1 => ?_)
  · skip
    have n4_1 : ¬ (tk = 0) := fun qq => c4_1 ((nj_eq (a := tk) (b := 0) (by omega) (by omega)).mpr qq)
    have hk1 : tk = 1 := by omega
    have hHk : Hh σ 10 kp := (hC.2.2.1 hk1).1
    have h6k : σ 10 6 = nI 0 := (hC.2.2.1 hk1).2
    refine g_aload_n C dX4_on_14 rfl rfl ?_
    refine g_get (v := .ref (wA w 1)) C fl_X4_12 fs_X4_12 (Nat.lt_of_lt_of_le (by decide) hN) rfl rfl dX4_on_15 ?_
    refine g_aload_n C dX4_on_18 rfl rfl ?_
    refine g_get (v := .ref (wA w 10)) C fl_X4_16 fs_X4_16 (Nat.lt_of_lt_of_le (by decide) hN) rfl rfl dX4_on_19 ?_
    refine g_callVV (rest := []) C mv_X4_215 (ct_X1_become l w hN σ 1 (Or.inl rfl) 10 (Or.inr (Or.inl rfl)) (by decide) kp hHk) (Nat.lt_of_lt_of_le (by decide) hN) rfl rfl (by decide) rfl (Nat.le_of_ble_eq_true rfl) dX4_on_22 (fun σ1 h2 => ?_)
    obtain ⟨hHo, h6o, hFo⟩ := h2
    refine g_aload_n C dX4_on_25 rfl rfl ?_
    refine g_get (v := .ref (wA w 1)) C fl_X4_12 fs_X4_12 (Nat.lt_of_lt_of_le (by decide) hN) rfl rfl dX4_on_26 ?_
    refine g_get (v := .int (σ1 1 5)) C fl_X4_110 fs_X4_110 (Nat.lt_of_lt_of_le (by decide) hN) rfl rfl dX4_on_29 ?_
    refine g_val (y := nI (kp 1)) (Hh.d hHo) ?_
    refine g_iret C r rfl dX4_on_32 ?_
    have hs : spOn (a, kp, tk, (nl, lt), (qn, qs), rf) = (nI (kp 1), sAa (a, kp, tk, (nl, lt), (qn, qs), rf) kp) := by unfold spOn; rw [if_neg (show ¬ tk = 0 by omega)]
    rw [hs]
    exact ⟨rfl, hC.on hk1 hHo (by rw [h6o]; exact h6k) hFo, hFo.mono (fun k z => by obtain ⟨z1, z2⟩ := z; simp only [in37]; omega)⟩
  · skip
    have n4_1 : tk = 0 := (nj_eq (a := tk) (b := 0) (by omega) (by omega)).mp c4_1
    refine g_aload_n C dX4_on_7 rfl rfl ?_
    refine g_bipush C dX4_on_8 bp_m3 ?_
    refine g_callVI (rest := []) C mv_X4_64 (ct_X4_refuse l w hN σ 3 (by decide) ((-3)) (by decide)) (Nat.lt_of_lt_of_le (by decide) hN) rfl rfl (by decide) rfl (Nat.le_of_ble_eq_true rfl) dX4_on_10 (fun r3 σ_3 h3 => ?_)
    obtain ⟨er3, hrf⟩ := h3
    rw [er3]
    refine g_iret C r rfl dX4_on_13 ?_
    exact fin_r hC (by decide) hrf (by unfold spOn; rw [if_pos (show tk = 0 by omega)]) (by decide)
set_option maxRecDepth 100000 in
set_option maxHeartbeats 4000000 in
theorem ct_X4_count (l : Launch) (w : WD) (hN : 54 ≤ wN w) (σ : SG) (a kp : Row) (tk nl : Nat) (lt : Nat → Nat) (qn : Nat) (qs : Nat → Nat) (rf : Nat → Int32) (hC : CX σ (a, kp, tk, (nl, lt), (qn, qs), rf)) (x : Int32) : CtI l w yX4_count cX4_count 2 (some .int) 2 0 0 [.ref (wA w 0), .int x] σ (fun r τ => r = (spCount (a, kp, tk, (nl, lt), (qn, qs), rf) x).1 ∧ CX τ (spCount (a, kp, tk, (nl, lt), (qn, qs), rf) x).2 ∧ Fr in37 σ τ) := by
  refine CtI.mk (by decide) (Nat.le_of_ble_eq_true rfl) ?_
  intro K C hr h0
  have r := RI.of hr h0
  clear hr h0
  show G l w K 0 [(0, .ref (wA w 0)), (1, .int x)] [] σ
  have hR : HR σ a := hC.2.1
  have hH : Hh σ 1 a := hR.1
  have hB : Bd a := hR.2.1
  have h6 : σ 1 6 = nI 0 := hR.2.2.1
  have hd9 : a 1 ≤ 9999 := hR.2.2.2.1
  have hu9 : ∀ e, e < 4 → a (30 + 4 * e + 1) ≤ 9 := hR.2.2.2.2
  obtain ⟨hBa, hB0, hB1, hB2, hB3, hB4, hB5, hB6, hB7, hBs, hBp, hBe⟩ := id hB
  have h1 : HB 1 := Or.inl rfl
  have h10 : HB 10 := Or.inr (Or.inl rfl)
  have h19 : HB 19 := Or.inr (Or.inr rfl)
  have hn1 : σ 0 10 = nI qn := hC.2.2.2.2.2.1.1
  have hn9 : qn ≤ 20 := hC.1.2.2.2.2.2.1
  have hns : ∀ j, j < qn → σ 34 j = nI (qs j) := hC.2.2.2.2.2.1.2
  have hns9 : ∀ j, j < qn → qs j ≤ 99 := hC.1.2.2.2.2.2.2
  have hl1 : σ 32 1 = nI nl := hC.2.2.2.2.1.1
  have hl9 : nl ≤ 96 := hC.1.2.2.2.1
  have hf1 : ∀ k, 1 ≤ k → k ≤ 6 → σ 35 k = rf k := hC.2.2.2.2.2.2
  refine g_iload_n C dX4_count_0 rfl rfl ?_
  refine g_bipush C dX4_count_1 bp_11 ?_
  refine g_bipush C dX4_count_3 bp_16 ?_
  refine g_pSI (rest := []) (v := bI (11 ≤ x ∧ x ≤ 16)) C ms_X4_83 (ct_X4_within l w hN σ x 11 16) rfl (by decide) rfl (Nat.le_of_ble_eq_true rfl) dX4_count_5 ?_
  refine g_if_eq (tgt := 21) C dX4_count_8 rfl (fun c8_1 => ?_) (fun c8_1 => ?_)
  · skip
    have n8_1 : ¬ (11 ≤ x ∧ x ≤ 16) := bI_0 c8_1
    have hw := n8_1
    refine g_iload_n C dX4_count_21 rfl rfl ?_
    by_cases s22_0 : x = 0
    · skip
      refine g_tsw (v := 0) (tgt := 72) C dX4_count_22 s22_0 (by decide) (by decide) rfl rfl ?_
      refine g_aload_n C dX4_count_72 rfl rfl ?_
      refine g_get (v := .ref (wA w 1)) C fl_X4_12 fs_X4_12 (Nat.lt_of_lt_of_le (by decide) hN) rfl rfl dX4_count_73 ?_
      refine g_get (v := .int (σ 1 4)) C fl_X4_164 fs_X4_164 (Nat.lt_of_lt_of_le (by decide) hN) rfl rfl dX4_count_76 ?_
      refine g_val (y := nI (a 0)) (Hh.c hH) ?_
      refine g_iret C r rfl dX4_count_79 ?_
      subst s22_0; exact fin_q hC Fr.rf rfl rfl
    by_cases s22_1 : x = 1
    · skip
      refine g_tsw (v := 1) (tgt := 80) C dX4_count_22 s22_1 (by decide) (by decide) rfl rfl ?_
      refine g_aload_n C dX4_count_80 rfl rfl ?_
      refine g_get (v := .ref (wA w 1)) C fl_X4_12 fs_X4_12 (Nat.lt_of_lt_of_le (by decide) hN) rfl rfl dX4_count_81 ?_
      refine g_get (v := .int (σ 1 5)) C fl_X4_110 fs_X4_110 (Nat.lt_of_lt_of_le (by decide) hN) rfl rfl dX4_count_84 ?_
      refine g_val (y := nI (a 1)) (Hh.d hH) ?_
      refine g_iret C r rfl dX4_count_87 ?_
      subst s22_1; exact fin_q hC Fr.rf rfl rfl
    by_cases s22_2 : x = 2
    · skip
      refine g_tsw (v := 2) (tgt := 88) C dX4_count_22 s22_2 (by decide) (by decide) rfl rfl ?_
      refine g_aload_n C dX4_count_88 rfl rfl ?_
      refine g_get (v := .ref (wA w 1)) C fl_X4_12 fs_X4_12 (Nat.lt_of_lt_of_le (by decide) hN) rfl rfl dX4_count_89 ?_
      refine g_pVI (rest := []) (v := nI (sumN (fun k => a (10 + k)) 5)) C mv_X4_130 (ct_X1_allSlices l w hN σ 1 (Or.inl rfl) a hH hB  ) (Nat.lt_of_lt_of_le (by decide) hN) rfl rfl (by decide) rfl (Nat.le_of_ble_eq_true rfl) dX4_count_92 ?_
      refine g_iret C r rfl dX4_count_95 ?_
      subst s22_2; exact fin_q hC Fr.rf rfl rfl
    by_cases s22_3 : x = 3
    · skip
      refine g_tsw (v := 3) (tgt := 96) C dX4_count_22 s22_3 (by decide) (by decide) rfl rfl ?_
      refine g_aload_n C dX4_count_96 rfl rfl ?_
      refine g_get (v := .ref (wA w 1)) C fl_X4_12 fs_X4_12 (Nat.lt_of_lt_of_le (by decide) hN) rfl rfl dX4_count_97 ?_
      refine g_get (v := .ref (wA w 4)) C fl_X4_103 fs_X4_103 (Nat.lt_of_lt_of_le (by decide) hN) rfl rfl dX4_count_100 ?_
      refine g_iconst C dX4_count_103 ic_0 ?_
      refine g_ial (k0 := 4) (n := 6) C (Nat.lt_of_lt_of_le (by decide) hN) rfl (j := 0) (by unfold ix; decide) dX4_count_104 ?_
      refine g_val (y := nI (a 2)) (Hh.t hH (by omega)) ?_
      refine g_iret C r rfl dX4_count_105 ?_
      subst s22_3; exact fin_q hC Fr.rf rfl rfl
    by_cases s22_4 : x = 4
    · skip
      refine g_tsw (v := 4) (tgt := 106) C dX4_count_22 s22_4 (by decide) (by decide) rfl rfl ?_
      refine g_aload_n C dX4_count_106 rfl rfl ?_
      refine g_get (v := .ref (wA w 1)) C fl_X4_12 fs_X4_12 (Nat.lt_of_lt_of_le (by decide) hN) rfl rfl dX4_count_107 ?_
      refine g_pVI (rest := []) (v := nI (sumN (fun k => a (20 + k)) 7)) C mv_X4_150 (ct_X1_openDays l w hN σ 1 (Or.inl rfl) a hH hB  ) (Nat.lt_of_lt_of_le (by decide) hN) rfl rfl (by decide) rfl (Nat.le_of_ble_eq_true rfl) dX4_count_110 ?_
      refine g_iret C r rfl dX4_count_113 ?_
      subst s22_4; exact fin_q hC Fr.rf rfl rfl
    by_cases s22_5 : x = 5
    · skip
      refine g_tsw (v := 5) (tgt := 114) C dX4_count_22 s22_5 (by decide) (by decide) rfl rfl ?_
      refine g_aload_n C dX4_count_114 rfl rfl ?_
      refine g_get (v := .ref (wA w 1)) C fl_X4_12 fs_X4_12 (Nat.lt_of_lt_of_le (by decide) hN) rfl rfl dX4_count_115 ?_
      refine g_get (v := .ref (wA w 4)) C fl_X4_103 fs_X4_103 (Nat.lt_of_lt_of_le (by decide) hN) rfl rfl dX4_count_118 ?_
      refine g_iconst C dX4_count_121 ic_5 ?_
      refine g_ial (k0 := 4) (n := 6) C (Nat.lt_of_lt_of_le (by decide) hN) rfl (j := 5) (by unfold ix; decide) dX4_count_122 ?_
      refine g_val (y := nI (a 7)) (Hh.t hH (by omega)) ?_
      refine g_iret C r rfl dX4_count_123 ?_
      subst s22_5; exact fin_q hC Fr.rf rfl rfl
    by_cases s22_6 : x = 6
    · skip
      refine g_tsw (v := 6) (tgt := 124) C dX4_count_22 s22_6 (by decide) (by decide) rfl rfl ?_
      refine g_aload_n C dX4_count_124 rfl rfl ?_
      refine g_get (v := .ref (wA w 1)) C fl_X4_12 fs_X4_12 (Nat.lt_of_lt_of_le (by decide) hN) rfl rfl dX4_count_125 ?_
      refine g_pVI (rest := []) (v := nI (sumN (fun e => a (30 + 4 * e + 1)) (a 0))) C mv_X4_223 (ct_X1_allHunger l w hN σ 1 (Or.inl rfl) a hH hB  ) (Nat.lt_of_lt_of_le (by decide) hN) rfl rfl (by decide) rfl (Nat.le_of_ble_eq_true rfl) dX4_count_128 ?_
      refine g_iret C r rfl dX4_count_131 ?_
      subst s22_6; exact fin_q hC Fr.rf rfl rfl
    by_cases s22_7 : x = 7
    · skip
      refine g_tsw (v := 7) (tgt := 132) C dX4_count_22 s22_7 (by decide) (by decide) rfl rfl ?_
      refine g_aload_n C dX4_count_132 rfl rfl ?_
      refine g_get (v := .int (σ 0 10)) C fl_X4_197 fs_X4_197 (Nat.lt_of_lt_of_le (by decide) hN) rfl rfl dX4_count_133 ?_
      refine g_val (y := nI qn) hn1 ?_
      refine g_iret C r rfl dX4_count_136 ?_
      subst s22_7; exact fin_q hC Fr.rf rfl rfl
    by_cases s22_8 : x = 8
    · skip
      refine g_tsw (v := 8) (tgt := 137) C dX4_count_22 s22_8 (by decide) (by decide) rfl rfl ?_
      refine g_aload_n C dX4_count_137 rfl rfl ?_
      refine g_get (v := .ref (wA w 32)) C fl_X4_39 fs_X4_39 (Nat.lt_of_lt_of_le (by decide) hN) rfl rfl dX4_count_138 ?_
      refine g_get (v := .int (σ 32 1)) C fl_X4_60 fs_X4_60 (Nat.lt_of_lt_of_le (by decide) hN) rfl rfl dX4_count_141 ?_
      refine g_val (y := nI nl) hl1 ?_
      refine g_iret C r rfl dX4_count_144 ?_
      subst s22_8; exact fin_q hC Fr.rf rfl rfl
    refine g_tswd (tgt := 145) C dX4_count_22 (by have q0 : (x : Int32).toInt ≠ 0 := ne_toInt s22_0; have q1 : (x : Int32).toInt ≠ 1 := ne_toInt s22_1; have q2 : (x : Int32).toInt ≠ 2 := ne_toInt s22_2; have q3 : (x : Int32).toInt ≠ 3 := ne_toInt s22_3; have q4 : (x : Int32).toInt ≠ 4 := ne_toInt s22_4; have q5 : (x : Int32).toInt ≠ 5 := ne_toInt s22_5; have q6 : (x : Int32).toInt ≠ 6 := ne_toInt s22_6; have q7 : (x : Int32).toInt ≠ 7 := ne_toInt s22_7; have q8 : (x : Int32).toInt ≠ 8 := ne_toInt s22_8; omega) rfl ?_
    refine g_bipush C dX4_count_145 bp_m9 ?_
    refine g_iret C r rfl dX4_count_147 ?_
    refine fin_q hC Fr.rf ?_ rfl
    unfold spCount
    rw [if_neg hw, if_neg s22_0, if_neg s22_1, if_neg s22_2, if_neg s22_3, if_neg s22_4, if_neg s22_5, if_neg s22_6, if_neg s22_7, if_neg s22_8]
  · skip
    have n8_1 : (11 ≤ x ∧ x ≤ 16) := bI_1 c8_1
    have hw := n8_1
    obtain ⟨k, hk1, hk2, rfl⟩ := nj_rng (lo := 11) (hi := 16) n8_1
    refine g_aload_n C dX4_count_11 rfl rfl ?_
    refine g_get (v := .ref (wA w 35)) C fl_X4_47 fs_X4_47 (Nat.lt_of_lt_of_le (by decide) hN) rfl rfl dX4_count_12 ?_
    refine g_iload_n C dX4_count_15 rfl rfl ?_
    refine g_bipush C dX4_count_16 bp_10 ?_
    refine g_isubv (v := nI (k - 10)) C (nj_minus (a := k) (b := 10) (by omega)) dX4_count_18 ?_
    refine g_ial (k0 := 35) (n := 7) C (Nat.lt_of_lt_of_le (by decide) hN) rfl (j := k - 10) (ix_n (by omega)) dX4_count_19 ?_
    refine g_val (y := rf (k - 10)) (hf1 _ (by omega) (by omega)) ?_
    refine g_iret C r rfl dX4_count_20 ?_
    refine fin_q hC Fr.rf ?_ rfl
    unfold spCount
    rw [if_pos hw, nn_nj (by omega)]

set_option maxRecDepth 100000 in
set_option maxHeartbeats 4000000 in
theorem ct_X4_eater (l : Launch) (w : WD) (hN : 54 ≤ wN w) (σ : SG) (a kp : Row) (tk nl : Nat) (lt : Nat → Nat) (qn : Nat) (qs : Nat → Nat) (rf : Nat → Int32) (hC : CX σ (a, kp, tk, (nl, lt), (qn, qs), rf)) (e v : Int32) : CtI l w yX4_eater cX4_eater 3 (some .int) 3 0 0 [.ref (wA w 0), .int e, .int v] σ (fun r τ => r = (spEater (a, kp, tk, (nl, lt), (qn, qs), rf) e v).1 ∧ CX τ (spEater (a, kp, tk, (nl, lt), (qn, qs), rf) e v).2 ∧ Fr in37 σ τ) := by
  refine CtI.mk (by decide) (Nat.le_of_ble_eq_true rfl) ?_
  intro K C hr h0
  have r := RI.of hr h0
  clear hr h0
  show G l w K 0 [(0, .ref (wA w 0)), (1, .int e), (2, .int v)] [] σ
  have hR : HR σ a := hC.2.1
  have hH : Hh σ 1 a := hR.1
  have hB : Bd a := hR.2.1
  have h6 : σ 1 6 = nI 0 := hR.2.2.1
  have hd9 : a 1 ≤ 9999 := hR.2.2.2.1
  have hu9 : ∀ e, e < 4 → a (30 + 4 * e + 1) ≤ 9 := hR.2.2.2.2
  obtain ⟨hBa, hB0, hB1, hB2, hB3, hB4, hB5, hB6, hB7, hBs, hBp, hBe⟩ := id hB
  have h1 : HB 1 := Or.inl rfl
  have h10 : HB 10 := Or.inr (Or.inl rfl)
  have h19 : HB 19 := Or.inr (Or.inr rfl)
  refine g_aload_n C dX4_eater_0 rfl rfl ?_
  refine g_get (v := .ref (wA w 1)) C fl_X4_12 fs_X4_12 (Nat.lt_of_lt_of_le (by decide) hN) rfl rfl dX4_eater_1 ?_
  refine g_iload_n C dX4_eater_4 rfl rfl ?_
  refine g_pVI (rest := []) (v := bI (0 ≤ e ∧ e < σ 1 4)) C mv_X4_79 (ct_X1_has l w hN σ 1 h1 e) (Nat.lt_of_lt_of_le (by decide) hN) rfl rfl (by decide) rfl (Nat.le_of_ble_eq_true rfl) dX4_eater_5 ?_
  refine g_if_ne (tgt := 17) C dX4_eater_8 rfl (fun c8_1 => ?_) (fun c8_1 => ?_)
  · skip
    have n8_1 : (0 ≤ e ∧ e < σ 1 4) := bI_1 c8_1
    rw [Hh.c hH] at n8_1
    obtain ⟨k, hk, rfl⟩ := nj_of2 n8_1 (by omega)
    refine g_iload_n C dX4_eater_17 rfl rfl ?_
    refine g_iconst C dX4_eater_18 ic_0 ?_
    refine g_iconst C dX4_eater_19 ic_3 ?_
    refine g_pSI (rest := []) (v := bI (0 ≤ v ∧ v ≤ 3)) C ms_X4_83 (ct_X4_within l w hN σ v 0 3) rfl (by decide) rfl (Nat.le_of_ble_eq_true rfl) dX4_eater_20 ?_
    refine g_if_ne (tgt := 33) C dX4_eater_23 rfl (fun c23_2 => ?_) (fun c23_2 => ?_)
    · skip
      have n23_2 : (0 ≤ v ∧ v ≤ 3) := bI_1 c23_2
      obtain ⟨j, hj, rfl⟩ := nj_of3 (m := 3) n23_2
      refine g_aload_n C dX4_eater_33 rfl rfl ?_
      refine g_get (v := .ref (wA w 1)) C fl_X4_12 fs_X4_12 (Nat.lt_of_lt_of_le (by decide) hN) rfl rfl dX4_eater_34 ?_
      refine g_get (v := .ref (wA w 5)) C fl_X4_87 fs_X4_87 (Nat.lt_of_lt_of_le (by decide) hN) rfl rfl dX4_eater_37 ?_
      refine g_iload_n C dX4_eater_40 rfl rfl ?_
      refine g_aal (k0 := 5) (b := 1) C (Nat.lt_of_lt_of_le (by decide) hN) rfl (j := k) (ix_n (by omega)) dX4_eater_41 ?_
      refine g_iload_n C dX4_eater_42 rfl rfl ?_
      refine g_ial (k0 := (1 + 5 + k)) (n := 4) C (HB.nr h1 hN (by omega)) (HB.r h1 (by omega)) (j := j) (ix_n (by omega)) dX4_eater_43 ?_
      refine g_val (y := nI (a (30 + 4 * k + j))) (Hh.e hH (by omega) (by omega)) ?_
      refine g_iret C r rfl dX4_eater_44 ?_
      refine fin_q hC Fr.rf ?_ rfl
      unfold spEater
      rw [if_neg (fun z => z (by assumption)), if_neg (fun z => z (by assumption)), nn_nj (n := k) (by omega), nn_nj (n := j) (by omega)]
    · skip
      have n23_2 : ¬ (0 ≤ v ∧ v ≤ 3) := bI_0 c23_2
      refine g_aload_n C dX4_eater_26 rfl rfl ?_
      refine g_bipush C dX4_eater_27 bp_m2 ?_
      refine g_callVI (rest := []) C mv_X4_64 (ct_X4_refuse l w hN σ 2 (by decide) ((-2)) (by decide)) (Nat.lt_of_lt_of_le (by decide) hN) rfl rfl (by decide) rfl (Nat.le_of_ble_eq_true rfl) dX4_eater_29 (fun r3 σ_3 h3 => ?_)
      obtain ⟨er3, hrf⟩ := h3
      rw [er3]
      refine g_iret C r rfl dX4_eater_32 ?_
      exact fin_r hC (by decide) hrf (by unfold spEater; rw [if_neg (fun z => z (by assumption)), if_pos (by assumption)]) (by decide)
  · skip
    have n8_1 : ¬ (0 ≤ e ∧ e < σ 1 4) := bI_0 c8_1
    rw [Hh.c hH] at n8_1
    refine g_aload_n C dX4_eater_11 rfl rfl ?_
    refine g_iconst C dX4_eater_12 ic_m1 ?_
    refine g_callVI (rest := []) C mv_X4_64 (ct_X4_refuse l w hN σ 1 (by decide) ((-1)) (by decide)) (Nat.lt_of_lt_of_le (by decide) hN) rfl rfl (by decide) rfl (Nat.le_of_ble_eq_true rfl) dX4_eater_13 (fun r4 σ_4 h4 => ?_)
    obtain ⟨er4, hrf⟩ := h4
    rw [er4]
    refine g_iret C r rfl dX4_eater_16 ?_
    exact fin_r hC (by decide) hrf (by unfold spEater; rw [if_pos (by assumption)]) (by decide)
set_option maxRecDepth 100000 in
set_option maxHeartbeats 4000000 in
theorem ct_X4_worth (l : Launch) (w : WD) (hN : 54 ≤ wN w) (σ : SG) (a kp : Row) (tk nl : Nat) (lt : Nat → Nat) (qn : Nat) (qs : Nat → Nat) (rf : Nat → Int32) (hC : CX σ (a, kp, tk, (nl, lt), (qn, qs), rf)) (e g : Int32) : CtI l w yX4_worth cX4_worth 4 (some .int) 3 0 0 [.ref (wA w 0), .int e, .int g] σ (fun r τ => r = (spWorth (a, kp, tk, (nl, lt), (qn, qs), rf) e g).1 ∧ CX τ (spWorth (a, kp, tk, (nl, lt), (qn, qs), rf) e g).2 ∧ Fr in37 σ τ) := by
  refine CtI.mk (by decide) (Nat.le_of_ble_eq_true rfl) ?_
  intro K C hr h0
  have r := RI.of hr h0
  clear hr h0
  show G l w K 0 [(0, .ref (wA w 0)), (1, .int e), (2, .int g)] [] σ
  have hR : HR σ a := hC.2.1
  have hH : Hh σ 1 a := hR.1
  have hB : Bd a := hR.2.1
  have h6 : σ 1 6 = nI 0 := hR.2.2.1
  have hd9 : a 1 ≤ 9999 := hR.2.2.2.1
  have hu9 : ∀ e, e < 4 → a (30 + 4 * e + 1) ≤ 9 := hR.2.2.2.2
  obtain ⟨hBa, hB0, hB1, hB2, hB3, hB4, hB5, hB6, hB7, hBs, hBp, hBe⟩ := id hB
  have h1 : HB 1 := Or.inl rfl
  have h10 : HB 10 := Or.inr (Or.inl rfl)
  have h19 : HB 19 := Or.inr (Or.inr rfl)
  refine g_aload_n C dX4_worth_0 rfl rfl ?_
  refine g_get (v := .ref (wA w 1)) C fl_X4_12 fs_X4_12 (Nat.lt_of_lt_of_le (by decide) hN) rfl rfl dX4_worth_1 ?_
  refine g_iload_n C dX4_worth_4 rfl rfl ?_
  refine g_pVI (rest := []) (v := bI (0 ≤ e ∧ e < σ 1 4)) C mv_X4_79 (ct_X1_has l w hN σ 1 h1 e) (Nat.lt_of_lt_of_le (by decide) hN) rfl rfl (by decide) rfl (Nat.le_of_ble_eq_true rfl) dX4_worth_5 ?_
  refine g_if_eq (tgt := 18) C dX4_worth_8 rfl (fun c8_1 => ?_) (fun c8_1 => ?_)
  · skip
    have n8_1 : ¬ (0 ≤ e ∧ e < σ 1 4) := bI_0 c8_1
    rw [Hh.c hH] at n8_1
    have hnw : ¬ ((0 ≤ e ∧ e < nI (a 0)) ∧ (0 ≤ g ∧ g < 5)) := fun z => n8_1 z.1
    refine g_aload_n C dX4_worth_18 rfl rfl ?_
    refine g_iconst C dX4_worth_19 ic_m1 ?_
    refine g_callVI (rest := []) C mv_X4_64 (ct_X4_refuse l w hN σ 1 (by decide) ((-1)) (by decide)) (Nat.lt_of_lt_of_le (by decide) hN) rfl rfl (by decide) rfl (Nat.le_of_ble_eq_true rfl) dX4_worth_20 (fun r2 σ_2 h2 => ?_)
    obtain ⟨er2, hrf⟩ := h2
    rw [er2]
    refine g_iret C r rfl dX4_worth_23 ?_
    exact fin_r hC (by decide) hrf (by unfold spWorth; rw [if_pos (by assumption)]) (by decide)
  · skip
    have n8_1 : (0 ≤ e ∧ e < σ 1 4) := bI_1 c8_1
    rw [Hh.c hH] at n8_1
    have hw : (0 ≤ e ∧ e < nI (a 0)) := n8_1
    obtain ⟨k, hk, rfl⟩ := nj_of2 n8_1 (by omega)
    refine g_iload_n C dX4_worth_11 rfl rfl ?_
    refine g_pSI (rest := []) (v := bI (0 ≤ g ∧ g < 5)) C ms_X4_91 (ct_X4_isAge l w hN σ g) rfl (by decide) rfl (Nat.le_of_ble_eq_true rfl) dX4_worth_12 ?_
    refine g_if_ne (tgt := 24) C dX4_worth_15 rfl (fun c15_3 => ?_) (fun c15_3 => ?_)
    · skip
      have n15_3 : (0 ≤ g ∧ g < 5) := bI_1 c15_3
      have hw2 : 0 ≤ g ∧ g < 5 := n15_3
      obtain ⟨j, hj, rfl⟩ := nj_of2 (m := 5) n15_3 (by decide)
      refine g_aload_n C dX4_worth_24 rfl rfl ?_
      refine g_get (v := .ref (wA w 1)) C fl_X4_12 fs_X4_12 (Nat.lt_of_lt_of_le (by decide) hN) rfl rfl dX4_worth_25 ?_
      refine g_iload_n C dX4_worth_28 rfl rfl ?_
      refine g_iload_n C dX4_worth_29 rfl rfl ?_
      refine g_pVI (rest := []) (v := wJ a k j) C mv_X4_106 (ct_X1_worthTo l w hN σ 1 (Or.inl rfl) a hH hB k j (by omega) (by omega)) (Nat.lt_of_lt_of_le (by decide) hN) rfl rfl (by decide) rfl (Nat.le_of_ble_eq_true rfl) dX4_worth_30 ?_
      refine g_istore_n (lv' := [(3, .int (wJ a k j)), (0, .ref (wA w 0)), (1, .int (nI k)), (2, .int (nI j))]) C dX4_worth_33 rfl (by decide) rfl ?_
      refine g_iload_n C dX4_worth_34 rfl rfl ?_
      refine g_iconst C dX4_worth_35 ic_m1 ?_
      refine g_icmp_ne (tgt := 44) C dX4_worth_36 rfl (fun c36_4 => ?_) (fun c36_4 => ?_)
      · skip
        refine g_iload_n C dX4_worth_44 rfl rfl ?_
        refine g_iret C r rfl dX4_worth_45 ?_
        refine fin_q hC Fr.rf (v := if wJ a k j = -1 then -9 else wJ a k j) ?_ (by first | rw [if_pos (by assumption)] | rw [if_neg (by assumption)])
        unfold spWorth
        rw [if_neg (fun z => z ⟨hw, hw2⟩), nn_nj (n := k) (by omega), nn_nj (n := j) (by omega)]
      · skip
        refine g_bipush C dX4_worth_39 bp_m9 ?_
        refine g_goto (tgt := 45) C dX4_worth_41 rfl ?_
        refine g_iret C r rfl dX4_worth_45 ?_
        refine fin_q hC Fr.rf (v := if wJ a k j = -1 then -9 else wJ a k j) ?_ (by first | rw [if_pos (by assumption)] | rw [if_neg (by assumption)])
        unfold spWorth
        rw [if_neg (fun z => z ⟨hw, hw2⟩), nn_nj (n := k) (by omega), nn_nj (n := j) (by omega)]
    · skip
      have n15_3 : ¬ (0 ≤ g ∧ g < 5) := bI_0 c15_3
      have hnw : ¬ ((0 ≤ nI k ∧ nI k < nI (a 0)) ∧ (0 ≤ g ∧ g < 5)) := fun z => n15_3 z.2
      refine g_aload_n C dX4_worth_18 rfl rfl ?_
      refine g_iconst C dX4_worth_19 ic_m1 ?_
      refine g_callVI (rest := []) C mv_X4_64 (ct_X4_refuse l w hN σ 1 (by decide) ((-1)) (by decide)) (Nat.lt_of_lt_of_le (by decide) hN) rfl rfl (by decide) rfl (Nat.le_of_ble_eq_true rfl) dX4_worth_20 (fun r5 σ_5 h5 => ?_)
      obtain ⟨er5, hrf⟩ := h5
      rw [er5]
      refine g_iret C r rfl dX4_worth_23 ?_
      exact fin_r hC (by decide) hrf (by unfold spWorth; rw [if_pos (by assumption)]) (by decide)
set_option maxRecDepth 100000 in
set_option maxHeartbeats 4000000 in
theorem ct_X4_open (l : Launch) (w : WD) (hN : 54 ≤ wN w) (σ : SG) (a kp : Row) (tk nl : Nat) (lt : Nat → Nat) (qn : Nat) (qs : Nat → Nat) (rf : Nat → Int32) (hC : CX σ (a, kp, tk, (nl, lt), (qn, qs), rf)) (d v : Int32) : CtI l w yX4_open cX4_open 4 (some .int) 3 0 0 [.ref (wA w 0), .int d, .int v] σ (fun r τ => r = (spOpen (a, kp, tk, (nl, lt), (qn, qs), rf) d v).1 ∧ CX τ (spOpen (a, kp, tk, (nl, lt), (qn, qs), rf) d v).2 ∧ Fr in37 σ τ) := by
  refine CtI.mk (by decide) (Nat.le_of_ble_eq_true rfl) ?_
  intro K C hr h0
  have r := RI.of hr h0
  clear hr h0
  show G l w K 0 [(0, .ref (wA w 0)), (1, .int d), (2, .int v)] [] σ
  have hR : HR σ a := hC.2.1
  have hH : Hh σ 1 a := hR.1
  have hB : Bd a := hR.2.1
  have h6 : σ 1 6 = nI 0 := hR.2.2.1
  have hd9 : a 1 ≤ 9999 := hR.2.2.2.1
  have hu9 : ∀ e, e < 4 → a (30 + 4 * e + 1) ≤ 9 := hR.2.2.2.2
  obtain ⟨hBa, hB0, hB1, hB2, hB3, hB4, hB5, hB6, hB7, hBs, hBp, hBe⟩ := id hB
  have h1 : HB 1 := Or.inl rfl
  have h10 : HB 10 := Or.inr (Or.inl rfl)
  have h19 : HB 19 := Or.inr (Or.inr rfl)
  refine g_iload_n C dX4_open_0 rfl rfl ?_
  refine g_iconst C dX4_open_1 ic_0 ?_
  refine g_bipush C dX4_open_2 bp_6 ?_
  refine g_pSI (rest := []) (v := bI (0 ≤ d ∧ d ≤ 6)) C ms_X4_83 (ct_X4_within l w hN σ d 0 6) rfl (by decide) rfl (Nat.le_of_ble_eq_true rfl) dX4_open_4 ?_
  refine g_if_ne (tgt := 16) C dX4_open_7 rfl (fun c7_1 => ?_) (fun c7_1 => ?_)
  · skip
    have n7_1 : (0 ≤ d ∧ d ≤ 6) := bI_1 c7_1
    obtain ⟨k, hk, rfl⟩ := nj_of3 (m := 6) n7_1
    refine g_iload_n C dX4_open_16 rfl rfl ?_
    refine g_iconst C dX4_open_17 ic_0 ?_
    refine g_iconst C dX4_open_18 ic_1 ?_
    refine g_pSI (rest := []) (v := bI (0 ≤ v ∧ v ≤ 1)) C ms_X4_83 (ct_X4_within l w hN σ v 0 1) rfl (by decide) rfl (Nat.le_of_ble_eq_true rfl) dX4_open_19 ?_
    refine g_if_ne (tgt := 32) C dX4_open_22 rfl (fun c22_2 => ?_) (fun c22_2 => ?_)
    · skip
      have n22_2 : (0 ≤ v ∧ v ≤ 1) := bI_1 c22_2
      obtain ⟨j, hj, rfl⟩ := nj_of3 (m := 1) n22_2
      refine g_aload_n C dX4_open_32 rfl rfl ?_
      refine g_get (v := .ref (wA w 1)) C fl_X4_12 fs_X4_12 (Nat.lt_of_lt_of_le (by decide) hN) rfl rfl dX4_open_33 ?_
      refine g_get (v := .ref (wA w 3)) C fl_X4_97 fs_X4_97 (Nat.lt_of_lt_of_le (by decide) hN) rfl rfl dX4_open_36 ?_
      refine g_iload_n C dX4_open_39 rfl rfl ?_
      refine g_ial (k0 := 3) (n := 7) C (Nat.lt_of_lt_of_le (by decide) hN) rfl (j := k) (ix_n (by omega)) dX4_open_40 ?_
      refine g_val (y := nI (a (20 + k))) (Hh.p hH (by omega)) ?_
      refine g_istore_n (lv' := [(3, .int (nI (a (20 + k)))), (0, .ref (wA w 0)), (1, .int (nI k)), (2, .int (nI j))]) C dX4_open_41 rfl (by decide) rfl ?_
      refine g_aload_n C dX4_open_42 rfl rfl ?_
      refine g_get (v := .ref (wA w 1)) C fl_X4_12 fs_X4_12 (Nat.lt_of_lt_of_le (by decide) hN) rfl rfl dX4_open_43 ?_
      refine g_get (v := .ref (wA w 3)) C fl_X4_97 fs_X4_97 (Nat.lt_of_lt_of_le (by decide) hN) rfl rfl dX4_open_46 ?_
      refine g_iload_n C dX4_open_49 rfl rfl ?_
      refine g_iload_n C dX4_open_50 rfl rfl ?_
      refine g_ias (k0 := 3) (n := 7) C (Nat.lt_of_lt_of_le (by decide) hN) rfl (j := k) (ix_n (by omega)) dX4_open_51 (fun σ2 hσ2 => ?_)
      refine g_iload_n C dX4_open_52 rfl rfl ?_
      refine g_iret C r rfl dX4_open_53 ?_
      have hR2 : HR σ2 (ua a (20 + k) j) := ⟨by rw [hσ2]; exact hH.upp (by omega), hB.uo (by omega) (by omega), by rw [hσ2, up_other (by decide)]; exact h6, ⟨by rw [ua_at, if_neg (by omega)]; exact hd9, fun e he => by rw [ua_at, if_neg (by omega)]; exact hu9 e he⟩⟩
      refine fin_h hC hR2 (by rw [hσ2]; exact Fr.up (Or.inl ⟨by decide, by decide⟩)) ?_ rfl
      unfold spOpen
      rw [if_neg (fun z => z (by assumption)), if_neg (fun z => z (by assumption)), nn_nj (n := k) (by omega), nn_nj (n := j) (by omega)]
    · skip
      have n22_2 : ¬ (0 ≤ v ∧ v ≤ 1) := bI_0 c22_2
      refine g_aload_n C dX4_open_25 rfl rfl ?_
      refine g_bipush C dX4_open_26 bp_m2 ?_
      refine g_callVI (rest := []) C mv_X4_64 (ct_X4_refuse l w hN σ 2 (by decide) ((-2)) (by decide)) (Nat.lt_of_lt_of_le (by decide) hN) rfl rfl (by decide) rfl (Nat.le_of_ble_eq_true rfl) dX4_open_28 (fun r3 σ_3 h3 => ?_)
      obtain ⟨er3, hrf⟩ := h3
      rw [er3]
      refine g_iret C r rfl dX4_open_31 ?_
      exact fin_r hC (by decide) hrf (by unfold spOpen; rw [if_neg (fun z => z (by assumption)), if_pos (by assumption)]) (by decide)
  · skip
    have n7_1 : ¬ (0 ≤ d ∧ d ≤ 6) := bI_0 c7_1
    refine g_aload_n C dX4_open_10 rfl rfl ?_
    refine g_iconst C dX4_open_11 ic_m1 ?_
    refine g_callVI (rest := []) C mv_X4_64 (ct_X4_refuse l w hN σ 1 (by decide) ((-1)) (by decide)) (Nat.lt_of_lt_of_le (by decide) hN) rfl rfl (by decide) rfl (Nat.le_of_ble_eq_true rfl) dX4_open_12 (fun r4 σ_4 h4 => ?_)
    obtain ⟨er4, hrf⟩ := h4
    rw [er4]
    refine g_iret C r rfl dX4_open_15 ?_
    exact fin_r hC (by decide) hrf (by unfold spOpen; rw [if_pos (by assumption)]) (by decide)
set_option maxRecDepth 100000 in
set_option maxHeartbeats 4000000 in
theorem ct_X4_stock (l : Launch) (w : WD) (hN : 54 ≤ wN w) (σ : SG) (a kp : Row) (tk nl : Nat) (lt : Nat → Nat) (qn : Nat) (qs : Nat → Nat) (rf : Nat → Int32) (hC : CX σ (a, kp, tk, (nl, lt), (qn, qs), rf)) (g v : Int32) : CtI l w yX4_stock cX4_stock 5 (some .int) 3 0 0 [.ref (wA w 0), .int g, .int v] σ (fun r τ => r = (spStock (a, kp, tk, (nl, lt), (qn, qs), rf) g v).1 ∧ CX τ (spStock (a, kp, tk, (nl, lt), (qn, qs), rf) g v).2 ∧ Fr in37 σ τ) := by
  refine CtI.mk (by decide) (Nat.le_of_ble_eq_true rfl) ?_
  intro K C hr h0
  have r := RI.of hr h0
  clear hr h0
  show G l w K 0 [(0, .ref (wA w 0)), (1, .int g), (2, .int v)] [] σ
  have hR : HR σ a := hC.2.1
  have hH : Hh σ 1 a := hR.1
  have hB : Bd a := hR.2.1
  have h6 : σ 1 6 = nI 0 := hR.2.2.1
  have hd9 : a 1 ≤ 9999 := hR.2.2.2.1
  have hu9 : ∀ e, e < 4 → a (30 + 4 * e + 1) ≤ 9 := hR.2.2.2.2
  obtain ⟨hBa, hB0, hB1, hB2, hB3, hB4, hB5, hB6, hB7, hBs, hBp, hBe⟩ := id hB
  have h1 : HB 1 := Or.inl rfl
  have h10 : HB 10 := Or.inr (Or.inl rfl)
  have h19 : HB 19 := Or.inr (Or.inr rfl)
  refine g_iload_n C dX4_stock_0 rfl rfl ?_
  refine g_pSI (rest := []) (v := bI (0 ≤ g ∧ g < 5)) C ms_X4_91 (ct_X4_isAge l w hN σ g) rfl (by decide) rfl (Nat.le_of_ble_eq_true rfl) dX4_stock_1 ?_
  refine g_if_eq (tgt := 17) C dX4_stock_4 rfl (fun c4_1 => ?_) (fun c4_1 => ?_)
  · skip
    have n4_1 : ¬ (0 ≤ g ∧ g < 5) := bI_0 c4_1
    refine g_iconst C dX4_stock_17 ic_m1 ?_
    refine g_istore_n (lv' := [(3, .int ((-1))), (0, .ref (wA w 0)), (1, .int g), (2, .int v)]) C dX4_stock_18 rfl (by decide) rfl ?_
    refine g_iload_n C dX4_stock_19 rfl rfl ?_
    refine g_if_eq (tgt := 29) C dX4_stock_20 rfl (fun c20_2 => ?_) (fun c20_2 => ?_)
    · exact absurd c20_2 (by decide)
    · skip
      have hoc := c20_2
      refine g_aload_n C dX4_stock_23 rfl rfl ?_
      refine g_iload_n C dX4_stock_24 rfl rfl ?_
      refine g_callVI (rest := []) C mv_X4_64 (ct_X4_refuse l w hN σ 1 (by decide) ((-1)) (by decide)) (Nat.lt_of_lt_of_le (by decide) hN) rfl rfl (by decide) rfl (Nat.le_of_ble_eq_true rfl) dX4_stock_25 (fun r3 σ_3 h3 => ?_)
      obtain ⟨er3, hrf⟩ := h3
      rw [er3]
      refine g_iret C r rfl dX4_stock_28 ?_
      first | exact fin_r hC (by decide) hrf (by unfold spStock; rw [if_pos (by assumption)]) (by decide) | exact fin_r hC (kO_in _ _) hrf (by unfold spStock; rw [if_neg (fun z => z (by assumption)), if_pos (outp hoc)]) (outv hoc)
  · skip
    have n4_1 : (0 ≤ g ∧ g < 5) := bI_1 c4_1
    have hg := n4_1
    obtain ⟨k, hk, rfl⟩ := nj_of2 (m := 5) n4_1 (by decide)
    refine g_iload_n C dX4_stock_7 rfl rfl ?_
    refine g_iconst C dX4_stock_8 ic_0 ?_
    refine g_bipush C dX4_stock_9 bp_60 ?_
    refine g_pSI (rest := []) (v := oU v 0 60) C ms_X4_56 (ct_X4_outside l w hN σ v 0 60) rfl (by decide) rfl (Nat.le_of_ble_eq_true rfl) dX4_stock_11 ?_
    refine g_goto (tgt := 18) C dX4_stock_14 rfl ?_
    refine g_istore_n (lv' := [(3, .int (oU v 0 60)), (0, .ref (wA w 0)), (1, .int (nI k)), (2, .int v)]) C dX4_stock_18 rfl (by decide) rfl ?_
    refine g_iload_n C dX4_stock_19 rfl rfl ?_
    refine g_if_eq (tgt := 29) C dX4_stock_20 rfl (fun c20_4 => ?_) (fun c20_4 => ?_)
    · skip
      have hz := out0 (lo := 0) (hi := 60) c20_4
      obtain ⟨j, hj, rfl⟩ := nj_of4 (m := 60) hz
      refine g_aload_n C dX4_stock_29 rfl rfl ?_
      refine g_get (v := .ref (wA w 1)) C fl_X4_12 fs_X4_12 (Nat.lt_of_lt_of_le (by decide) hN) rfl rfl dX4_stock_30 ?_
      refine g_get (v := .ref (wA w 2)) C fl_X4_94 fs_X4_94 (Nat.lt_of_lt_of_le (by decide) hN) rfl rfl dX4_stock_33 ?_
      refine g_iload_n C dX4_stock_36 rfl rfl ?_
      refine g_ial (k0 := 2) (n := 5) C (Nat.lt_of_lt_of_le (by decide) hN) rfl (j := k) (ix_n (by omega)) dX4_stock_37 ?_
      refine g_val (y := nI (a (10 + k))) (Hh.s hH (by omega)) ?_
      refine g_istore (lv' := [(4, .int (nI (a (10 + k)))), (3, .int (oU (nI j) 0 60)), (0, .ref (wA w 0)), (1, .int (nI k)), (2, .int (nI j))]) C dX4_stock_38 (by decide) rfl ?_
      refine g_aload_n C dX4_stock_40 rfl rfl ?_
      refine g_get (v := .ref (wA w 1)) C fl_X4_12 fs_X4_12 (Nat.lt_of_lt_of_le (by decide) hN) rfl rfl dX4_stock_41 ?_
      refine g_get (v := .ref (wA w 2)) C fl_X4_94 fs_X4_94 (Nat.lt_of_lt_of_le (by decide) hN) rfl rfl dX4_stock_44 ?_
      refine g_iload_n C dX4_stock_47 rfl rfl ?_
      refine g_iload_n C dX4_stock_48 rfl rfl ?_
      refine g_ias (k0 := 2) (n := 5) C (Nat.lt_of_lt_of_le (by decide) hN) rfl (j := k) (ix_n (by omega)) dX4_stock_49 (fun σ2 hσ2 => ?_)
      refine g_iload C dX4_stock_50 rfl ?_
      refine g_iret C r rfl dX4_stock_52 ?_
      have hR2 : HR σ2 (ua a (10 + k) j) := ⟨by rw [hσ2]; exact hH.us (by omega), hB.us (by omega) (by omega), by rw [hσ2, up_other (by decide)]; exact h6, ⟨by rw [ua_at, if_neg (by omega)]; exact hd9, fun e he => by rw [ua_at, if_neg (by omega)]; exact hu9 e he⟩⟩
      refine fin_h hC hR2 (by rw [hσ2]; exact Fr.up (Or.inl ⟨by decide, by decide⟩)) ?_ rfl
      unfold spStock
      rw [if_neg (fun z => z hg), if_neg hz, nn_nj (n := k) (by omega), nn_nj (n := j) (by omega)]
    · skip
      have hoc := c20_4
      refine g_aload_n C dX4_stock_23 rfl rfl ?_
      refine g_iload_n C dX4_stock_24 rfl rfl ?_
      refine g_callVI (rest := []) C mv_X4_64 (ct_X4_refuse l w hN σ (kO v 0) (kO_in _ _) (oU v 0 60) (outk (hi := 60) hoc)) (Nat.lt_of_lt_of_le (by decide) hN) rfl rfl (by decide) rfl (Nat.le_of_ble_eq_true rfl) dX4_stock_25 (fun r5 σ_5 h5 => ?_)
      obtain ⟨er5, hrf⟩ := h5
      rw [er5]
      refine g_iret C r rfl dX4_stock_28 ?_
      first | exact fin_r hC (by decide) hrf (by unfold spStock; rw [if_pos (by assumption)]) (by decide) | exact fin_r hC (kO_in _ _) hrf (by unfold spStock; rw [if_neg (fun z => z (by assumption)), if_pos (outp hoc)]) (outv hoc)
set_option maxRecDepth 100000 in
set_option maxHeartbeats 4000000 in
theorem ct_X4_set (l : Launch) (w : WD) (hN : 54 ≤ wN w) (σ : SG) (a kp : Row) (tk nl : Nat) (lt : Nat → Nat) (qn : Nat) (qs : Nat → Nat) (rf : Nat → Int32) (hC : CX σ (a, kp, tk, (nl, lt), (qn, qs), rf)) (s v : Int32) : CtI l w yX4_set cX4_set 5 (some .int) 3 0 0 [.ref (wA w 0), .int s, .int v] σ (fun r τ => r = (spSet (a, kp, tk, (nl, lt), (qn, qs), rf) s v).1 ∧ CX τ (spSet (a, kp, tk, (nl, lt), (qn, qs), rf) s v).2 ∧ Fr in37 σ τ) := by
  refine CtI.mk (by decide) (Nat.le_of_ble_eq_true rfl) ?_
  intro K C hr h0
  have r := RI.of hr h0
  clear hr h0
  show G l w K 0 [(0, .ref (wA w 0)), (1, .int s), (2, .int v)] [] σ
  have hR : HR σ a := hC.2.1
  have hH : Hh σ 1 a := hR.1
  have hB : Bd a := hR.2.1
  have h6 : σ 1 6 = nI 0 := hR.2.2.1
  have hd9 : a 1 ≤ 9999 := hR.2.2.2.1
  have hu9 : ∀ e, e < 4 → a (30 + 4 * e + 1) ≤ 9 := hR.2.2.2.2
  obtain ⟨hBa, hB0, hB1, hB2, hB3, hB4, hB5, hB6, hB7, hBs, hBp, hBe⟩ := id hB
  have h1 : HB 1 := Or.inl rfl
  have h10 : HB 10 := Or.inr (Or.inl rfl)
  have h19 : HB 19 := Or.inr (Or.inr rfl)
  refine g_iload_n C dX4_set_0 rfl rfl ?_
  refine g_iconst C dX4_set_1 ic_0 ?_
  refine g_iconst C dX4_set_2 ic_5 ?_
  refine g_pSI (rest := []) (v := bI (0 ≤ s ∧ s ≤ 5)) C ms_X4_83 (ct_X4_within l w hN σ s 0 5) rfl (by decide) rfl (Nat.le_of_ble_eq_true rfl) dX4_set_3 ?_
  refine g_if_ne (tgt := 16) C dX4_set_6 rfl (fun c6_1 => ?_) (fun c6_1 => ?_)
  · skip
    have n6_1 : (0 ≤ s ∧ s ≤ 5) := bI_1 c6_1
    have hg := n6_1
    obtain ⟨k, hk, rfl⟩ := nj_of3 (m := 5) n6_1
    obtain ⟨M, hM, hM3⟩ := mos_nat (s := k) (by omega)
    refine g_iload_n C dX4_set_16 rfl rfl ?_
    refine g_iconst C dX4_set_17 ic_0 ?_
    refine g_getM C gs_X4_100 dX4_set_18 ?_
    refine g_iload_n C dX4_set_21 rfl rfl ?_
    refine g_alM C (j := k) (ix_n (by omega)) dX4_set_22 ?_
    refine g_val (y := nI M) hM ?_
    refine g_pSI (rest := []) (v := oU v 0 (nI M)) C ms_X4_56 (ct_X4_outside l w hN σ v 0 (nI M)) rfl (by decide) rfl (Nat.le_of_ble_eq_true rfl) dX4_set_23 ?_
    refine g_istore_n (lv' := [(3, .int (oU v 0 (nI M))), (0, .ref (wA w 0)), (1, .int (nI k)), (2, .int v)]) C dX4_set_26 rfl (by decide) rfl ?_
    refine g_iload_n C dX4_set_27 rfl rfl ?_
    refine g_if_eq (tgt := 37) C dX4_set_28 rfl (fun c28_2 => ?_) (fun c28_2 => ?_)
    · skip
      have hz := out0 (lo := 0) c28_2
      obtain ⟨j, hj, rfl⟩ := nj_of4 (m := M) hz (by omega)
      refine g_aload_n C dX4_set_37 rfl rfl ?_
      refine g_get (v := .ref (wA w 1)) C fl_X4_12 fs_X4_12 (Nat.lt_of_lt_of_le (by decide) hN) rfl rfl dX4_set_38 ?_
      refine g_get (v := .ref (wA w 4)) C fl_X4_103 fs_X4_103 (Nat.lt_of_lt_of_le (by decide) hN) rfl rfl dX4_set_41 ?_
      refine g_iload_n C dX4_set_44 rfl rfl ?_
      refine g_ial (k0 := 4) (n := 6) C (Nat.lt_of_lt_of_le (by decide) hN) rfl (j := k) (ix_n (by omega)) dX4_set_45 ?_
      refine g_val (y := nI (a (2 + k))) (Hh.t hH (by omega)) ?_
      refine g_istore (lv' := [(4, .int (nI (a (2 + k)))), (3, .int (oU (nI j) 0 (nI M))), (0, .ref (wA w 0)), (1, .int (nI k)), (2, .int (nI j))]) C dX4_set_46 (by decide) rfl ?_
      refine g_aload_n C dX4_set_48 rfl rfl ?_
      refine g_get (v := .ref (wA w 1)) C fl_X4_12 fs_X4_12 (Nat.lt_of_lt_of_le (by decide) hN) rfl rfl dX4_set_49 ?_
      refine g_get (v := .ref (wA w 4)) C fl_X4_103 fs_X4_103 (Nat.lt_of_lt_of_le (by decide) hN) rfl rfl dX4_set_52 ?_
      refine g_iload_n C dX4_set_55 rfl rfl ?_
      refine g_iload_n C dX4_set_56 rfl rfl ?_
      refine g_ias (k0 := 4) (n := 6) C (Nat.lt_of_lt_of_le (by decide) hN) rfl (j := k) (ix_n (by omega)) dX4_set_57 (fun σ2 hσ2 => ?_)
      refine g_iload C dX4_set_58 rfl ?_
      refine g_iret C r rfl dX4_set_60 ?_
      have hR2 : HR σ2 (ua a (2 + k) j) := ⟨by rw [hσ2]; exact hH.ut (by omega), hB.ut (by omega) (by rw [hM]; exact (nj_le (by omega) (by omega)).mpr hj) (by omega), by rw [hσ2, up_other (by decide)]; exact h6, ⟨by rw [ua_at, if_neg (by omega)]; exact hd9, fun e he => by rw [ua_at, if_neg (by omega)]; exact hu9 e he⟩⟩
      refine fin_h hC hR2 (by rw [hσ2]; exact Fr.up (Or.inl ⟨by decide, by decide⟩)) ?_ rfl
      unfold spSet
      rw [if_neg (fun z => z hg), nn_nj (n := k) (by omega), hM, if_neg hz, nn_nj (n := j) (by omega)]
    · skip
      have hoc := c28_2
      refine g_aload_n C dX4_set_31 rfl rfl ?_
      refine g_iload_n C dX4_set_32 rfl rfl ?_
      refine g_callVI (rest := []) C mv_X4_64 (ct_X4_refuse l w hN σ (kO v 0) (kO_in _ _) (oU v 0 (nI M)) (outk hoc)) (Nat.lt_of_lt_of_le (by decide) hN) rfl rfl (by decide) rfl (Nat.le_of_ble_eq_true rfl) dX4_set_33 (fun r3 σ_3 h3 => ?_)
      obtain ⟨er3, hrf⟩ := h3
      rw [er3]
      refine g_iret C r rfl dX4_set_36 ?_
      exact fin_r hC (kO_in _ _) hrf (by unfold spSet; rw [if_neg (fun z => z (by assumption)), nn_nj (n := k) (by omega), hM, if_pos (outp hoc)]) (outv hoc)
  · skip
    have n6_1 : ¬ (0 ≤ s ∧ s ≤ 5) := bI_0 c6_1
    refine g_aload_n C dX4_set_9 rfl rfl ?_
    refine g_bipush C dX4_set_10 bp_m2 ?_
    refine g_callVI (rest := []) C mv_X4_64 (ct_X4_refuse l w hN σ 2 (by decide) ((-2)) (by decide)) (Nat.lt_of_lt_of_le (by decide) hN) rfl rfl (by decide) rfl (Nat.le_of_ble_eq_true rfl) dX4_set_12 (fun r4 σ_4 h4 => ?_)
    obtain ⟨er4, hrf⟩ := h4
    rw [er4]
    refine g_iret C r rfl dX4_set_15 ?_
    exact fin_r hC (by decide) hrf (by unfold spSet; rw [if_pos (by assumption)]) (by decide)

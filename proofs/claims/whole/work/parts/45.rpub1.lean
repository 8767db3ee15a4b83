set_option maxRecDepth 100000 in
set_option maxHeartbeats 4000000 in
theorem ct_X5_isNoAge (l : Launch) (w : WD) (hN : 54 ≤ wN w) (σ : SG) (x : Int32) : CtI l w yX5_isNoAge cX5_isNoAge 1 (some .boolean) 1 0 0 [.int x] σ (fun r τ => r = bI (x < 0 ∨ 4 < x) ∧ τ = σ) := by
  refine CtI.mk (by decide) (Nat.le_of_ble_eq_true rfl) ?_
  intro K C hr h0
  have r := RI.of hr h0
  clear hr h0
  show G l w K 0 [(0, .int x)] [] σ
  refine g_iload_n C dX5_isNoAge_0 rfl rfl ?_
  refine g_if_lt (tgt := 9) C dX5_isNoAge_1 rfl (fun c1_1 => ?_) (fun c1_1 => ?_)
  · skip
    refine g_iconst C dX5_isNoAge_9 ic_1 ?_
    refine g_goto (tgt := 14) C dX5_isNoAge_10 rfl ?_
    refine g_iret C r rfl dX5_isNoAge_14 ?_
    refine ⟨?_, rfl⟩
    clear r C
    grind
  · skip
    refine g_iload_n C dX5_isNoAge_4 rfl rfl ?_
    refine g_iconst C dX5_isNoAge_5 ic_4 ?_
    refine g_icmp_le (tgt := 13) C dX5_isNoAge_6 rfl (fun c6_2 => ?_) (fun c6_2 => ?_)
    · skip
      refine g_iconst C dX5_isNoAge_13 ic_0 ?_
      refine g_iret C r rfl dX5_isNoAge_14 ?_
      refine ⟨?_, rfl⟩
      clear r C
      grind
    · skip
      refine g_iconst C dX5_isNoAge_9 ic_1 ?_
      refine g_goto (tgt := 14) C dX5_isNoAge_10 rfl ?_
      refine g_iret C r rfl dX5_isNoAge_14 ?_
      refine ⟨?_, rfl⟩
      clear r C
      grind
set_option maxRecDepth 100000 in
set_option maxHeartbeats 4000000 in
theorem ct_X5_isNoEater (l : Launch) (w : WD) (hN : 54 ≤ wN w) (σ : SG) (a : Row) (hM : Mr σ 40 a) (x : Int32) : CtI l w yX5_isNoEater cX5_isNoEater 2 (some .boolean) 1 0 0 [.ref (wA w 38), .int x] σ (fun r τ => r = bI (x < 0 ∨ nI (a 0) ≤ x) ∧ τ = σ) := by
  refine CtI.mk (by decide) (Nat.le_of_ble_eq_true rfl) ?_
  intro K C hr h0
  have r := RI.of hr h0
  clear hr h0
  show G l w K 0 [(0, .ref (wA w 38)), (1, .int x)] [] σ
  refine g_iload_n C dX5_isNoEater_0 rfl rfl ?_
  refine g_if_lt (tgt := 14) C dX5_isNoEater_1 rfl (fun c1_1 => ?_) (fun c1_1 => ?_)
  · skip
    refine g_iconst C dX5_isNoEater_14 ic_1 ?_
    refine g_goto (tgt := 19) C dX5_isNoEater_15 rfl ?_
    refine g_iret C r rfl dX5_isNoEater_19 ?_
    refine ⟨?_, rfl⟩
    clear r C hM
    grind
  · skip
    refine g_iload_n C dX5_isNoEater_4 rfl rfl ?_
    refine g_aload_n C dX5_isNoEater_5 rfl rfl ?_
    refine g_get (v := .ref (wA w 40)) C fl_X5_13 fs_X5_13 (Nat.lt_of_lt_of_le (by decide) hN) rfl rfl dX5_isNoEater_6 ?_
    refine g_iconst C dX5_isNoEater_9 ic_0 ?_
    refine g_ial (k0 := 40) (n := 46) C (Nat.lt_of_lt_of_le (by decide) hN) rfl (j := 0) (by unfold ix; decide) dX5_isNoEater_10 ?_
    refine g_val (y := nI (a 0)) (hM 0 (by omega)) ?_
    refine g_icmp_lt (tgt := 18) C dX5_isNoEater_11 rfl (fun c11_2 => ?_) (fun c11_2 => ?_)
    · skip
      refine g_iconst C dX5_isNoEater_18 ic_0 ?_
      refine g_iret C r rfl dX5_isNoEater_19 ?_
      refine ⟨?_, rfl⟩
      clear r C hM
      grind
    · skip
      refine g_iconst C dX5_isNoEater_14 ic_1 ?_
      refine g_goto (tgt := 19) C dX5_isNoEater_15 rfl ?_
      refine g_iret C r rfl dX5_isNoEater_19 ?_
      refine ⟨?_, rfl⟩
      clear r C hM
      grind
set_option maxRecDepth 100000 in
set_option maxHeartbeats 4000000 in
theorem ct_X5_isWrong (l : Launch) (w : WD) (hN : 54 ≤ wN w) (σ : SG) (x : Int32) : CtI l w yX5_isWrong cX5_isWrong 2 (some .int) 1 0 0 [.ref (wA w 38), .int x] σ (fun r τ => r = oU x 0 28 ∧ τ = σ) := by
  refine CtI.mk (by decide) (Nat.le_of_ble_eq_true rfl) ?_
  intro K C hr h0
  have r := RI.of hr h0
  clear hr h0
  show G l w K 0 [(0, .ref (wA w 38)), (1, .int x)] [] σ
  refine g_iload_n C dX5_isWrong_0 rfl rfl ?_
  refine g_if_ge (tgt := 9) C dX5_isWrong_1 rfl (fun c1_1 => ?_) (fun c1_1 => ?_)
  · skip
    refine g_iload_n C dX5_isWrong_9 rfl rfl ?_
    refine g_bipush C dX5_isWrong_10 bp_28 ?_
    refine g_icmp_le (tgt := 20) C dX5_isWrong_12 rfl (fun c12_2 => ?_) (fun c12_2 => ?_)
    · skip
      refine g_iconst C dX5_isWrong_20 ic_0 ?_
      refine g_iret C r rfl dX5_isWrong_21 ?_
      refine ⟨?_, rfl⟩
      clear r C
      unfold oU
      grind
    · skip
      refine g_bipush C dX5_isWrong_15 bp_m6 ?_
      refine g_goto (tgt := 21) C dX5_isWrong_17 rfl ?_
      refine g_iret C r rfl dX5_isWrong_21 ?_
      refine ⟨?_, rfl⟩
      clear r C
      unfold oU
      grind
  · skip
    refine g_bipush C dX5_isWrong_4 bp_m4 ?_
    refine g_goto (tgt := 21) C dX5_isWrong_6 rfl ?_
    refine g_iret C r rfl dX5_isWrong_21 ?_
    refine ⟨?_, rfl⟩
    clear r C
    unfold oU
    grind
set_option maxRecDepth 100000 in
set_option maxHeartbeats 4000000 in
theorem ct_X5_change (l : Launch) (w : WD) (hN : 54 ≤ wN w) (σ : SG) (a : Row) (hM : Mr σ 40 a) (k : Nat) (hk : k < 46) (v : Int32) (m : Nat) (hm : m ≤ 1000) : CtI l w yX5_change cX5_change 5 (some .int) 2 0 0 [.ref (wA w 38), .int (nI k), .int v, .int (nI m)] σ (fun r τ => ((v < 0 ∨ nI m < v) → r = -nI (kO v 0) ∧ τ = up σ 39 (kO v 0) (σ 39 (kO v 0) + 1)) ∧ (¬ (v < 0 ∨ nI m < v) → r = nI (a k) ∧ τ = up σ 40 k v)) := by
  refine CtI.mk (by decide) (Nat.le_of_ble_eq_true rfl) ?_
  intro K C hr h0
  have r := RI.of hr h0
  clear hr h0
  show G l w K 0 [(0, .ref (wA w 38)), (1, .int (nI k)), (2, .int v), (3, .int (nI m))] [] σ
  refine g_iload_n C dX5_change_0 rfl rfl ?_
  refine g_if_ge (tgt := 11) C dX5_change_1 rfl (fun c1_1 => ?_) (fun c1_1 => ?_)
  · skip
    refine g_iload_n C dX5_change_11 rfl rfl ?_
    refine g_iload_n C dX5_change_12 rfl rfl ?_
    refine g_icmp_le (tgt := 23) C dX5_change_13 rfl (fun c13_2 => ?_) (fun c13_2 => ?_)
    · skip
      refine g_aload_n C dX5_change_23 rfl rfl ?_
      refine g_get (v := .ref (wA w 40)) C fl_X5_13 fs_X5_13 (Nat.lt_of_lt_of_le (by decide) hN) rfl rfl dX5_change_24 ?_
      refine g_iload_n C dX5_change_27 rfl rfl ?_
      refine g_ial (k0 := 40) (n := 46) C (Nat.lt_of_lt_of_le (by decide) hN) rfl (j := k) (ix_n (by omega)) dX5_change_28 ?_
      refine g_val (y := nI (a k)) (hM k (by omega)) ?_
      refine g_istore (lv' := [(4, .int (nI (a k))), (0, .ref (wA w 38)), (1, .int (nI k)), (2, .int v), (3, .int (nI m))]) C dX5_change_29 (by decide) rfl ?_
      refine g_aload_n C dX5_change_31 rfl rfl ?_
      refine g_get (v := .ref (wA w 40)) C fl_X5_13 fs_X5_13 (Nat.lt_of_lt_of_le (by decide) hN) rfl rfl dX5_change_32 ?_
      refine g_iload_n C dX5_change_35 rfl rfl ?_
      refine g_iload_n C dX5_change_36 rfl rfl ?_
      refine g_ias (k0 := 40) (n := 46) C (Nat.lt_of_lt_of_le (by decide) hN) rfl (j := k) (ix_n (by omega)) dX5_change_37 (fun σ2 hσ2 => ?_)
      refine g_iload C dX5_change_38 rfl ?_
      refine g_iret C r rfl dX5_change_40 ?_
      have hv : ¬ v < 0 := Int32.not_lt.mpr (by assumption)
      have hv2 : ¬ nI m < v := Int32.not_lt.mpr (by assumption)
      exact ⟨fun z => absurd z (fun y => y.elim hv hv2), fun _ => ⟨rfl, hσ2⟩⟩
    · skip
      refine g_aload_n C dX5_change_16 rfl rfl ?_
      refine g_bipush C dX5_change_17 bp_m6 ?_
      refine g_callVI (rest := []) C mv_X5_64 (ct_X5_no l w hN σ 6 (by decide) ((-6)) (by decide)) (Nat.lt_of_lt_of_le (by decide) hN) rfl rfl (by decide) rfl (Nat.le_of_ble_eq_true rfl) dX5_change_19 (fun r3 σ_3 h3 => ?_)
      obtain ⟨er3, hrf⟩ := h3
      rw [er3]
      refine g_iret C r rfl dX5_change_22 ?_
      have hv : ¬ v < 0 := Int32.not_lt.mpr (by assumption)
      have hv2 : nI m < v := Int32.not_le.mp (by assumption)
      have hk6 : kO v 0 = 6 := if_neg hv
      rw [hk6]
      exact ⟨fun _ => ⟨by decide, hrf⟩, fun z => absurd (Or.inr hv2) z⟩
  · skip
    refine g_aload_n C dX5_change_4 rfl rfl ?_
    refine g_bipush C dX5_change_5 bp_m4 ?_
    refine g_callVI (rest := []) C mv_X5_64 (ct_X5_no l w hN σ 4 (by decide) ((-4)) (by decide)) (Nat.lt_of_lt_of_le (by decide) hN) rfl rfl (by decide) rfl (Nat.le_of_ble_eq_true rfl) dX5_change_7 (fun r4 σ_4 h4 => ?_)
    obtain ⟨er4, hrf⟩ := h4
    rw [er4]
    refine g_iret C r rfl dX5_change_10 ?_
    have hv : v < 0 := Int32.not_le.mp (by assumption)
    have hk4 : kO v 0 = 4 := if_pos hv
    rw [hk4]
    exact ⟨fun _ => ⟨by decide, hrf⟩, fun z => absurd (Or.inl hv) z⟩
set_option maxRecDepth 100000 in
set_option maxHeartbeats 4000000 in
theorem ct_X5_eater (l : Launch) (w : WD) (hN : 54 ≤ wN w) (σ : SG) (a kp : Row) (tk nl : Nat) (lt : Nat → Nat) (qn : Nat) (qs : Nat → Nat) (rf : Nat → Int32) (hC : CM σ (a, kp, tk, (nl, lt), (qn, qs), rf)) (e v : Int32) : CtI l w yX5_eater cX5_eater 3 (some .int) 2 0 0 [.ref (wA w 38), .int e, .int v] σ (fun r τ => r = (spEater (a, kp, tk, (nl, lt), (qn, qs), rf) e v).1 ∧ CM τ (spEater (a, kp, tk, (nl, lt), (qn, qs), rf) e v).2 ∧ Fr in38 σ τ) := by
  refine CtI.mk (by decide) (Nat.le_of_ble_eq_true rfl) ?_
  intro K C hr h0
  have r := RI.of hr h0
  clear hr h0
  show G l w K 0 [(0, .ref (wA w 38)), (1, .int e), (2, .int v)] [] σ
  have hM : Mr σ 40 a := hC.2.1
  have hB : Bd a := hC.1.1.1
  have hd9 : a 1 ≤ 9999 := hC.1.1.2.1
  have hu9 : ∀ e, e < 4 → a (30 + 4 * e + 1) ≤ 9 := hC.1.1.2.2
  obtain ⟨hBa, hB0, hB1, hB2, hB3, hB4, hB5, hB6, hB7, hBs, hBp, hBe⟩ := id hB
  refine g_aload_n C dX5_eater_0 rfl rfl ?_
  refine g_iload_n C dX5_eater_1 rfl rfl ?_
  refine g_pVI (rest := []) (v := bI (e < 0 ∨ nI (a 0) ≤ e)) C mv_X5_152 (ct_X5_isNoEater l w hN σ a hM e) (Nat.lt_of_lt_of_le (by decide) hN) rfl rfl (by decide) rfl (Nat.le_of_ble_eq_true rfl) dX5_eater_2 ?_
  refine g_if_eq (tgt := 14) C dX5_eater_5 rfl (fun c5_1 => ?_) (fun c5_1 => ?_)
  · skip
    have n5_1 : ¬ (e < 0 ∨ nI (a 0) ≤ e) := bI_0 c5_1
    have hw := noE n5_1
    obtain ⟨k, hk, rfl⟩ := nj_of2 hw (by omega)
    refine g_iload_n C dX5_eater_14 rfl rfl ?_
    refine g_if_lt (tgt := 23) C dX5_eater_15 rfl (fun c15_2 => ?_) (fun c15_2 => ?_)
    · skip
      have hbad : v < 0 ∨ 3 < v := Or.inl c15_2
      refine g_aload_n C dX5_eater_23 rfl rfl ?_
      refine g_bipush C dX5_eater_24 bp_m2 ?_
      refine g_callVI (rest := []) C mv_X5_64 (ct_X5_no l w hN σ 2 (by decide) ((-2)) (by decide)) (Nat.lt_of_lt_of_le (by decide) hN) rfl rfl (by decide) rfl (Nat.le_of_ble_eq_true rfl) dX5_eater_26 (fun r3 σ_3 h3 => ?_)
      obtain ⟨er3, hrf⟩ := h3
      rw [er3]
      refine g_goto (tgt := 45) C dX5_eater_29 rfl ?_
      refine g_iret C r rfl dX5_eater_45 ?_
      first | exact fm_r hC (by decide) hrf (by unfold spEater; rw [if_neg (fun z => z hw), if_pos (yeA hbad)]) (by decide) | exact fm_q hC FrN.rf (by unfold spEater; rw [if_neg (fun z => z hw), if_neg (fun z => z hg), nn_nj (n := k) (by omega), nn_nj (n := j) (by omega)]) rfl
    · skip
      have hv0 := c15_2
      refine g_iload_n C dX5_eater_18 rfl rfl ?_
      refine g_iconst C dX5_eater_19 ic_3 ?_
      refine g_icmp_le (tgt := 32) C dX5_eater_20 rfl (fun c20_4 => ?_) (fun c20_4 => ?_)
      · skip
        have hg := noA (fun z => z.elim hv0 (Int32.not_lt.mpr c20_4))
        obtain ⟨j, hj, rfl⟩ := nj_of3 (m := 3) hg
        refine g_aload_n C dX5_eater_32 rfl rfl ?_
        refine g_get (v := .ref (wA w 40)) C fl_X5_13 fs_X5_13 (Nat.lt_of_lt_of_le (by decide) hN) rfl rfl dX5_eater_33 ?_
        refine g_bipush C dX5_eater_36 bp_30 ?_
        refine g_iconst C dX5_eater_38 ic_4 ?_
        refine g_iload_n C dX5_eater_39 rfl rfl ?_
        refine g_imulv (v := nI (4 * k)) C (nj_times 4 k) dX5_eater_40 ?_
        refine g_iaddv (v := nI (30 + (4 * k))) C (nj_plus 30 (4 * k)) dX5_eater_41 ?_
        refine g_iload_n C dX5_eater_42 rfl rfl ?_
        refine g_iaddv (v := nI ((30 + (4 * k)) + j)) C (nj_plus (30 + (4 * k)) j) dX5_eater_43 ?_
        refine g_ial (k0 := 40) (n := 46) C (Nat.lt_of_lt_of_le (by decide) hN) rfl (j := (30 + (4 * k)) + j) (ix_n (by omega)) dX5_eater_44 ?_
        refine g_val (y := nI (a ((30 + (4 * k)) + j))) (hM ((30 + (4 * k)) + j) (by omega)) ?_
        refine g_iret C r rfl dX5_eater_45 ?_
        first | exact fm_r hC (by decide) hrf (by unfold spEater; rw [if_neg (fun z => z hw), if_pos (yeA hbad)]) (by decide) | exact fm_q hC FrN.rf (by unfold spEater; rw [if_neg (fun z => z hw), if_neg (fun z => z hg), nn_nj (n := k) (by omega), nn_nj (n := j) (by omega)]) rfl
      · skip
        have hbad : v < 0 ∨ 3 < v := Or.inr (Int32.not_le.mp c20_4)
        refine g_aload_n C dX5_eater_23 rfl rfl ?_
        refine g_bipush C dX5_eater_24 bp_m2 ?_
        refine g_callVI (rest := []) C mv_X5_64 (ct_X5_no l w hN σ 2 (by decide) ((-2)) (by decide)) (Nat.lt_of_lt_of_le (by decide) hN) rfl rfl (by decide) rfl (Nat.le_of_ble_eq_true rfl) dX5_eater_26 (fun r5 σ_5 h5 => ?_)
        obtain ⟨er5, hrf⟩ := h5
        rw [er5]
        refine g_goto (tgt := 45) C dX5_eater_29 rfl ?_
        refine g_iret C r rfl dX5_eater_45 ?_
        first | exact fm_r hC (by decide) hrf (by unfold spEater; rw [if_neg (fun z => z hw), if_pos (yeA hbad)]) (by decide) | exact fm_q hC FrN.rf (by unfold spEater; rw [if_neg (fun z => z hw), if_neg (fun z => z hg), nn_nj (n := k) (by omega), nn_nj (n := j) (by omega)]) rfl
  · skip
    have n5_1 : (e < 0 ∨ nI (a 0) ≤ e) := bI_1 c5_1
    refine g_aload_n C dX5_eater_8 rfl rfl ?_
    refine g_iconst C dX5_eater_9 ic_m1 ?_
    refine g_callVI (rest := []) C mv_X5_64 (ct_X5_no l w hN σ 1 (by decide) ((-1)) (by decide)) (Nat.lt_of_lt_of_le (by decide) hN) rfl rfl (by decide) rfl (Nat.le_of_ble_eq_true rfl) dX5_eater_10 (fun r6 σ_6 h6 => ?_)
    obtain ⟨er6, hrf⟩ := h6
    rw [er6]
    refine g_iret C r rfl dX5_eater_13 ?_
    exact fm_r hC (by decide) hrf (by unfold spEater; rw [if_pos (yeE (by assumption))]) (by decide)
set_option maxRecDepth 100000 in
set_option maxHeartbeats 4000000 in
theorem ct_X5_stock (l : Launch) (w : WD) (hN : 54 ≤ wN w) (σ : SG) (a kp : Row) (tk nl : Nat) (lt : Nat → Nat) (qn : Nat) (qs : Nat → Nat) (rf : Nat → Int32) (hC : CM σ (a, kp, tk, (nl, lt), (qn, qs), rf)) (g v : Int32) : CtI l w yX5_stock cX5_stock 3 (some .int) 3 0 0 [.ref (wA w 38), .int g, .int v] σ (fun r τ => r = (spStock (a, kp, tk, (nl, lt), (qn, qs), rf) g v).1 ∧ CM τ (spStock (a, kp, tk, (nl, lt), (qn, qs), rf) g v).2 ∧ Fr in38 σ τ) := by
  refine CtI.mk (by decide) (Nat.le_of_ble_eq_true rfl) ?_
  intro K C hr h0
  have r := RI.of hr h0
  clear hr h0
  show G l w K 0 [(0, .ref (wA w 38)), (1, .int g), (2, .int v)] [] σ
  have hM : Mr σ 40 a := hC.2.1
  have hB : Bd a := hC.1.1.1
  have hd9 : a 1 ≤ 9999 := hC.1.1.2.1
  have hu9 : ∀ e, e < 4 → a (30 + 4 * e + 1) ≤ 9 := hC.1.1.2.2
  obtain ⟨hBa, hB0, hB1, hB2, hB3, hB4, hB5, hB6, hB7, hBs, hBp, hBe⟩ := id hB
  refine g_iload_n C dX5_stock_0 rfl rfl ?_
  refine g_pSI (rest := []) (v := bI (g < 0 ∨ 4 < g)) C ms_X5_156 (ct_X5_isNoAge l w hN σ g) rfl (by decide) rfl (Nat.le_of_ble_eq_true rfl) dX5_stock_1 ?_
  refine g_if_eq (tgt := 15) C dX5_stock_4 rfl (fun c4_1 => ?_) (fun c4_1 => ?_)
  · skip
    have n4_1 : ¬ (g < 0 ∨ 4 < g) := bI_0 c4_1
    have hg := (a54 g).mp (noA n4_1)
    obtain ⟨k, hk, rfl⟩ := nj_of2 (m := 5) hg (by decide)
    refine g_aload_n C dX5_stock_15 rfl rfl ?_
    refine g_bipush C dX5_stock_16 bp_10 ?_
    refine g_iload_n C dX5_stock_18 rfl rfl ?_
    refine g_iaddv (v := nI (10 + k)) C (nj_plus 10 k) dX5_stock_19 ?_
    refine g_iload_n C dX5_stock_20 rfl rfl ?_
    refine g_bipush C dX5_stock_21 bp_60 ?_
    refine g_callVI (rest := []) C mv_X5_159 (ct_X5_change l w hN σ a hM (10 + k) (by omega) v 60 (by omega)) (Nat.lt_of_lt_of_le (by decide) hN) rfl rfl (by decide) rfl (Nat.le_of_ble_eq_true rfl) dX5_stock_23 (fun r2 σ_2 h2 => ?_)
    have hch := h2
    refine g_iret C r rfl dX5_stock_26 ?_
    by_cases hvv : v < 0 ∨ 60 < v
    · obtain ⟨hr1, hr2⟩ := hch.1 hvv; exact fm_r hC (kO_in _ _) hr2 (by unfold spStock; rw [if_neg (fun z => z hg), nn_nj (n := k) (by omega)]; rw [if_pos hvv]) hr1
    · obtain ⟨hr1, hr2⟩ := hch.2 hvv
      obtain ⟨j, hj, rfl⟩ := nj_of4 (m := 60) hvv (by omega)
      have hs : spStock (a, kp, tk, (nl, lt), (qn, qs), rf) (nI k) (nI j) = (nI (a (10 + k)), sAa (a, kp, tk, (nl, lt), (qn, qs), rf) (ua a (10 + k) j)) := by unfold spStock; rw [if_neg (fun z => z hg), nn_nj (n := k) (by omega)]; rw [if_neg hvv, nn_nj (n := j) (by omega)]
      rw [hs]
      exact ⟨hr1, hC.now (by rw [hr2]; exact Fr.up (S := fun k => k = 40) rfl) (by rw [hr2]; exact hM.u) (hB.us (by omega) (by omega)) ⟨by rw [ua_at, if_neg (by omega)]; exact hd9, fun e he => by rw [ua_at, if_neg (by omega)]; exact hu9 e he⟩, by rw [hr2]; exact Fr.up (S := in38) (by decide)⟩
  · skip
    have n4_1 : (g < 0 ∨ 4 < g) := bI_1 c4_1
    have hbad := fun z => yeA n4_1 ((a54 g).mpr z)
    refine g_aload_n C dX5_stock_7 rfl rfl ?_
    refine g_iconst C dX5_stock_8 ic_m1 ?_
    refine g_callVI (rest := []) C mv_X5_64 (ct_X5_no l w hN σ 1 (by decide) ((-1)) (by decide)) (Nat.lt_of_lt_of_le (by decide) hN) rfl rfl (by decide) rfl (Nat.le_of_ble_eq_true rfl) dX5_stock_9 (fun r3 σ_3 h3 => ?_)
    obtain ⟨er3, hrf⟩ := h3
    rw [er3]
    refine g_goto (tgt := 26) C dX5_stock_12 rfl ?_
    refine g_iret C r rfl dX5_stock_26 ?_
    exact fm_r hC (by decide) hrf (by unfold spStock; rw [if_pos hbad]) (by decide)
set_option maxRecDepth 100000 in
set_option maxHeartbeats 4000000 in
theorem ct_X5_open (l : Launch) (w : WD) (hN : 54 ≤ wN w) (σ : SG) (a kp : Row) (tk nl : Nat) (lt : Nat → Nat) (qn : Nat) (qs : Nat → Nat) (rf : Nat → Int32) (hC : CM σ (a, kp, tk, (nl, lt), (qn, qs), rf)) (d v : Int32) : CtI l w yX5_open cX5_open 3 (some .int) 3 0 0 [.ref (wA w 38), .int d, .int v] σ (fun r τ => r = (spOpen (a, kp, tk, (nl, lt), (qn, qs), rf) d v).1 ∧ CM τ (spOpen (a, kp, tk, (nl, lt), (qn, qs), rf) d v).2 ∧ Fr in38 σ τ) := by
  refine CtI.mk (by decide) (Nat.le_of_ble_eq_true rfl) ?_
  intro K C hr h0
  have r := RI.of hr h0
  clear hr h0
  show G l w K 0 [(0, .ref (wA w 38)), (1, .int d), (2, .int v)] [] σ
  have hM : Mr σ 40 a := hC.2.1
  have hB : Bd a := hC.1.1.1
  have hd9 : a 1 ≤ 9999 := hC.1.1.2.1
  have hu9 : ∀ e, e < 4 → a (30 + 4 * e + 1) ≤ 9 := hC.1.1.2.2
  obtain ⟨hBa, hB0, hB1, hB2, hB3, hB4, hB5, hB6, hB7, hBs, hBp, hBe⟩ := id hB
  refine g_iload_n C dX5_open_0 rfl rfl ?_
  refine g_if_lt (tgt := 10) C dX5_open_1 rfl (fun c1_1 => ?_) (fun c1_1 => ?_)
  · skip
    have hbad : d < 0 ∨ 6 < d := Or.inl c1_1
    refine g_aload_n C dX5_open_10 rfl rfl ?_
    refine g_iconst C dX5_open_11 ic_m1 ?_
    refine g_callVI (rest := []) C mv_X5_64 (ct_X5_no l w hN σ 1 (by decide) ((-1)) (by decide)) (Nat.lt_of_lt_of_le (by decide) hN) rfl rfl (by decide) rfl (Nat.le_of_ble_eq_true rfl) dX5_open_12 (fun r2 σ_2 h2 => ?_)
    obtain ⟨er2, hrf⟩ := h2
    rw [er2]
    refine g_iret C r rfl dX5_open_15 ?_
    exact fm_r hC (by decide) hrf (by unfold spOpen; rw [if_pos (yeA hbad)]) (by decide)
  · skip
    have hv0 := c1_1
    refine g_iload_n C dX5_open_4 rfl rfl ?_
    refine g_bipush C dX5_open_5 bp_6 ?_
    refine g_icmp_le (tgt := 16) C dX5_open_7 rfl (fun c7_3 => ?_) (fun c7_3 => ?_)
    · skip
      have hg := noA (fun z => z.elim hv0 (Int32.not_lt.mpr c7_3))
      obtain ⟨k, hk, rfl⟩ := nj_of3 (m := 6) hg
      refine g_iload_n C dX5_open_16 rfl rfl ?_
      refine g_if_eq (tgt := 34) C dX5_open_17 rfl (fun c17_4 => ?_) (fun c17_4 => ?_)
      · skip
        have hg2 : 0 ≤ v ∧ v ≤ 1 := by rw [c17_4]; decide
        refine g_aload_n C dX5_open_34 rfl rfl ?_
        refine g_bipush C dX5_open_35 bp_20 ?_
        refine g_iload_n C dX5_open_37 rfl rfl ?_
        refine g_iaddv (v := nI (20 + k)) C (nj_plus 20 k) dX5_open_38 ?_
        refine g_iload_n C dX5_open_39 rfl rfl ?_
        refine g_iconst C dX5_open_40 ic_1 ?_
        refine g_callVI (rest := []) C mv_X5_159 (ct_X5_change l w hN σ a hM (20 + k) (by omega) v 1 (by omega)) (Nat.lt_of_lt_of_le (by decide) hN) rfl rfl (by decide) rfl (Nat.le_of_ble_eq_true rfl) dX5_open_41 (fun r5 σ_5 h5 => ?_)
        have hch := h5
        refine g_iret C r rfl dX5_open_44 ?_
        obtain ⟨j, hj, rfl⟩ := nj_of3 (m := 1) hg2
        have hvv : ¬ (nI j < 0 ∨ nI 1 < nI j) := fun z => yeA z hg2
        obtain ⟨hr1, hr2⟩ := hch.2 hvv
        have hs : spOpen (a, kp, tk, (nl, lt), (qn, qs), rf) (nI k) (nI j) = (nI (a (20 + k)), sAa (a, kp, tk, (nl, lt), (qn, qs), rf) (ua a (20 + k) j)) := by unfold spOpen; rw [if_neg (fun z => z hg), if_neg (fun z => z hg2), nn_nj (n := k) (by omega), nn_nj (n := j) (by omega)]
        rw [hs]
        exact ⟨hr1, hC.now (by rw [hr2]; exact Fr.up (S := fun k => k = 40) rfl) (by rw [hr2]; exact hM.u) (hB.uo (by omega) (by omega)) ⟨by rw [ua_at, if_neg (by omega)]; exact hd9, fun e he => by rw [ua_at, if_neg (by omega)]; exact hu9 e he⟩, by rw [hr2]; exact Fr.up (S := in38) (by decide)⟩
      · skip
        have hn0 := c17_4
        refine g_iload_n C dX5_open_20 rfl rfl ?_
        refine g_iconst C dX5_open_21 ic_1 ?_
        refine g_icmp_eq (tgt := 34) C dX5_open_22 rfl (fun c22_6 => ?_) (fun c22_6 => ?_)
        · skip
          have hg2 : 0 ≤ v ∧ v ≤ 1 := by rw [c22_6]; decide
          refine g_aload_n C dX5_open_34 rfl rfl ?_
          refine g_bipush C dX5_open_35 bp_20 ?_
          refine g_iload_n C dX5_open_37 rfl rfl ?_
          refine g_iaddv (v := nI (20 + k)) C (nj_plus 20 k) dX5_open_38 ?_
          refine g_iload_n C dX5_open_39 rfl rfl ?_
          refine g_iconst C dX5_open_40 ic_1 ?_
          refine g_callVI (rest := []) C mv_X5_159 (ct_X5_change l w hN σ a hM (20 + k) (by omega) v 1 (by omega)) (Nat.lt_of_lt_of_le (by decide) hN) rfl rfl (by decide) rfl (Nat.le_of_ble_eq_true rfl) dX5_open_41 (fun r7 σ_7 h7 => ?_)
          have hch := h7
          refine g_iret C r rfl dX5_open_44 ?_
          obtain ⟨j, hj, rfl⟩ := nj_of3 (m := 1) hg2
          have hvv : ¬ (nI j < 0 ∨ nI 1 < nI j) := fun z => yeA z hg2
          obtain ⟨hr1, hr2⟩ := hch.2 hvv
          have hs : spOpen (a, kp, tk, (nl, lt), (qn, qs), rf) (nI k) (nI j) = (nI (a (20 + k)), sAa (a, kp, tk, (nl, lt), (qn, qs), rf) (ua a (20 + k) j)) := by unfold spOpen; rw [if_neg (fun z => z hg), if_neg (fun z => z hg2), nn_nj (n := k) (by omega), nn_nj (n := j) (by omega)]
          rw [hs]
          exact ⟨hr1, hC.now (by rw [hr2]; exact Fr.up (S := fun k => k = 40) rfl) (by rw [hr2]; exact hM.u) (hB.uo (by omega) (by omega)) ⟨by rw [ua_at, if_neg (by omega)]; exact hd9, fun e he => by rw [ua_at, if_neg (by omega)]; exact hu9 e he⟩, by rw [hr2]; exact Fr.up (S := in38) (by decide)⟩
        · skip
          have hn1 := c22_6
          refine g_aload_n C dX5_open_25 rfl rfl ?_
          refine g_bipush C dX5_open_26 bp_m2 ?_
          refine g_callVI (rest := []) C mv_X5_64 (ct_X5_no l w hN σ 2 (by decide) ((-2)) (by decide)) (Nat.lt_of_lt_of_le (by decide) hN) rfl rfl (by decide) rfl (Nat.le_of_ble_eq_true rfl) dX5_open_28 (fun r8 σ_8 h8 => ?_)
          obtain ⟨er8, hrf⟩ := h8
          rw [er8]
          refine g_goto (tgt := 44) C dX5_open_31 rfl ?_
          refine g_iret C r rfl dX5_open_44 ?_
          exact fm_r hC (by decide) hrf (by unfold spOpen; rw [if_neg (fun z => z hg), if_pos (fun z => by obtain ⟨j, hj, e⟩ := nj_of3 (m := 1) z; have : j = 0 ∨ j = 1 := (by omega); rcases this with rfl | rfl; exact hn0 e; exact hn1 e)]) (by decide)
    · skip
      have hbad : d < 0 ∨ 6 < d := Or.inr (Int32.not_le.mp c7_3)
      refine g_aload_n C dX5_open_10 rfl rfl ?_
      refine g_iconst C dX5_open_11 ic_m1 ?_
      refine g_callVI (rest := []) C mv_X5_64 (ct_X5_no l w hN σ 1 (by decide) ((-1)) (by decide)) (Nat.lt_of_lt_of_le (by decide) hN) rfl rfl (by decide) rfl (Nat.le_of_ble_eq_true rfl) dX5_open_12 (fun r9 σ_9 h9 => ?_)
      obtain ⟨er9, hrf⟩ := h9
      rw [er9]
      refine g_iret C r rfl dX5_open_15 ?_
      exact fm_r hC (by decide) hrf (by unfold spOpen; rw [if_pos (yeA hbad)]) (by decide)

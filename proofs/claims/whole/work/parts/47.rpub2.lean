set_option maxRecDepth 100000 in
set_option maxHeartbeats 4000000 in
theorem ct_X5_set (l : Launch) (w : WD) (hN : 54 ≤ wN w) (σ : SG) (a kp : Row) (tk nl : Nat) (lt : Nat → Nat) (qn : Nat) (qs : Nat → Nat) (rf : Nat → Int32) (hC : CM σ (a, kp, tk, (nl, lt), (qn, qs), rf)) (s v : Int32) : CtI l w yX5_set cX5_set 3 (some .int) 3 0 0 [.ref (wA w 38), .int s, .int v] σ (fun r τ => r = (spSet (a, kp, tk, (nl, lt), (qn, qs), rf) s v).1 ∧ CM τ (spSet (a, kp, tk, (nl, lt), (qn, qs), rf) s v).2 ∧ Fr in38 σ τ) := by
  refine CtI.mk (by decide) (Nat.le_of_ble_eq_true rfl) ?_
  intro K C hr h0
  have r := RI.of hr h0
  clear hr h0
  show G l w K 0 [(0, .ref (wA w 38)), (1, .int s), (2, .int v)] [] σ
  have hM : Mr σ 40 a := hC.2.1
  have hB : Bd a := hC.1.1.1
  have hd9 : a 1 ≤ 9999 := hC.1.1.2.1
  have hu9 : ∀ e, e < 4 → a (30 + 4 * e + 1) ≤ 9 := hC.1.1.2.2
  obtain ⟨hBa, hB0, hB1, hB2, hB3, hB4, hB5, hB6, hB7, hBs, hBp, hBe⟩ := id hB
  refine g_iload_n C dX5_set_0 rfl rfl ?_
  refine g_if_lt (tgt := 9) C dX5_set_1 rfl (fun c1_1 => ?_) (fun c1_1 => ?_)
  · skip
    have hbad : s < 0 ∨ 5 < s := Or.inl c1_1
    refine g_aload_n C dX5_set_9 rfl rfl ?_
    refine g_bipush C dX5_set_10 bp_m2 ?_
    refine g_callVI (rest := []) C mv_X5_64 (ct_X5_no l w hN σ 2 (by decide) ((-2)) (by decide)) (Nat.lt_of_lt_of_le (by decide) hN) rfl rfl (by decide) rfl (Nat.le_of_ble_eq_true rfl) dX5_set_12 (fun r2 σ_2 h2 => ?_)
    obtain ⟨er2, hrf⟩ := h2
    rw [er2]
    refine g_iret C r rfl dX5_set_15 ?_
    exact fm_r hC (by decide) hrf (by unfold spSet; rw [if_pos (yeA hbad)]) (by decide)
  · skip
    have hv0 := c1_1
    refine g_iload_n C dX5_set_4 rfl rfl ?_
    refine g_iconst C dX5_set_5 ic_5 ?_
    refine g_icmp_le (tgt := 16) C dX5_set_6 rfl (fun c6_3 => ?_) (fun c6_3 => ?_)
    · skip
      have hg := noA (fun z => z.elim hv0 (Int32.not_lt.mpr c6_3))
      obtain ⟨k, hk, rfl⟩ := nj_of3 (m := 5) hg
      refine g_aload_n C dX5_set_16 rfl rfl ?_
      refine g_iconst C dX5_set_17 ic_2 ?_
      refine g_iload_n C dX5_set_18 rfl rfl ?_
      refine g_iaddv (v := nI (2 + k)) C (nj_plus 2 k) dX5_set_19 ?_
      refine g_iload_n C dX5_set_20 rfl rfl ?_
      refine g_iload_n C dX5_set_21 rfl rfl ?_
      refine g_if_ne (tgt := 30) C dX5_set_22 rfl (fun c22_4 => ?_) (fun c22_4 => ?_)
      · skip
        have n22_4 : ¬ (k = 0) := fun qq => c22_4 ((nj_eq (a := k) (b := 0) (by omega) (by omega)).mpr qq)
        refine g_iload_n C dX5_set_30 rfl rfl ?_
        refine g_iconst C dX5_set_31 ic_5 ?_
        refine g_icmp_ne (tgt := 39) C dX5_set_32 rfl (fun c32_5 => ?_) (fun c32_5 => ?_)
        · skip
          have n32_5 : ¬ (k = 5) := fun qq => c32_5 ((nj_eq (a := k) (b := 5) (by omega) (by omega)).mpr qq)
          refine g_bipush C dX5_set_39 bp_9 ?_
          have hMm : mosF k = nI 9 := by rw [mos_eq hk]; repeat first | rw [if_pos (by omega)] | rw [if_neg (by omega)]
          refine g_callVI (rest := []) C mv_X5_159 (ct_X5_change l w hN σ a hM (2 + k) (by omega) v 9 (by decide)) (Nat.lt_of_lt_of_le (by decide) hN) rfl rfl (by decide) rfl (Nat.le_of_ble_eq_true rfl) dX5_set_41 (fun r6 σ_6 h6 => ?_)
          have hch := h6
          refine g_iret C r rfl dX5_set_44 ?_
          by_cases hvv : v < 0 ∨ nI 9 < v
          · obtain ⟨hr1, hr2⟩ := hch.1 hvv; exact fm_r hC (kO_in _ _) hr2 (by unfold spSet; rw [if_neg (fun z => z hg), nn_nj (n := k) (by omega), hMm, if_pos hvv]) hr1
          · obtain ⟨hr1, hr2⟩ := hch.2 hvv
            obtain ⟨j, hj, rfl⟩ := nj_of4 (m := 9) hvv
            have hs : spSet (a, kp, tk, (nl, lt), (qn, qs), rf) (nI k) (nI j) = (nI (a (2 + k)), sAa (a, kp, tk, (nl, lt), (qn, qs), rf) (ua a (2 + k) j)) := by unfold spSet; rw [if_neg (fun z => z hg), nn_nj (n := k) (by omega), hMm, if_neg hvv, nn_nj (n := j) (by omega)]
            rw [hs]
            exact ⟨hr1, hC.now (by rw [hr2]; exact Fr.up (S := fun k => k = 40) rfl) (by rw [hr2]; exact hM.u) (hB.ut (by omega) (by rw [hMm]; exact (nj_le (by omega) (by omega)).mpr hj) (by omega)) ⟨by rw [ua_at, if_neg (by omega)]; exact hd9, fun e he => by rw [ua_at, if_neg (by omega)]; exact hu9 e he⟩, by rw [hr2]; exact Fr.up (S := in38) (by decide)⟩
        · skip
          have n32_5 : k = 5 := (nj_eq (a := k) (b := 5) (by omega) (by omega)).mp c32_5
          refine g_iconst C dX5_set_35 ic_5 ?_
          refine g_goto (tgt := 41) C dX5_set_36 rfl ?_
          have hMm : mosF k = nI 5 := by rw [mos_eq hk]; repeat first | rw [if_pos (by omega)] | rw [if_neg (by omega)]
          refine g_callVI (rest := []) C mv_X5_159 (ct_X5_change l w hN σ a hM (2 + k) (by omega) v 5 (by decide)) (Nat.lt_of_lt_of_le (by decide) hN) rfl rfl (by decide) rfl (Nat.le_of_ble_eq_true rfl) dX5_set_41 (fun r7 σ_7 h7 => ?_)
          have hch := h7
          refine g_iret C r rfl dX5_set_44 ?_
          by_cases hvv : v < 0 ∨ nI 5 < v
          · obtain ⟨hr1, hr2⟩ := hch.1 hvv; exact fm_r hC (kO_in _ _) hr2 (by unfold spSet; rw [if_neg (fun z => z hg), nn_nj (n := k) (by omega), hMm, if_pos hvv]) hr1
          · obtain ⟨hr1, hr2⟩ := hch.2 hvv
            obtain ⟨j, hj, rfl⟩ := nj_of4 (m := 5) hvv
            have hs : spSet (a, kp, tk, (nl, lt), (qn, qs), rf) (nI k) (nI j) = (nI (a (2 + k)), sAa (a, kp, tk, (nl, lt), (qn, qs), rf) (ua a (2 + k) j)) := by unfold spSet; rw [if_neg (fun z => z hg), nn_nj (n := k) (by omega), hMm, if_neg hvv, nn_nj (n := j) (by omega)]
            rw [hs]
            exact ⟨hr1, hC.now (by rw [hr2]; exact Fr.up (S := fun k => k = 40) rfl) (by rw [hr2]; exact hM.u) (hB.ut (by omega) (by rw [hMm]; exact (nj_le (by omega) (by omega)).mpr hj) (by omega)) ⟨by rw [ua_at, if_neg (by omega)]; exact hd9, fun e he => by rw [ua_at, if_neg (by omega)]; exact hu9 e he⟩, by rw [hr2]; exact Fr.up (S := in38) (by decide)⟩
      · skip
        have n22_4 : k = 0 := (nj_eq (a := k) (b := 0) (by omega) (by omega)).mp c22_4
        refine g_bipush C dX5_set_25 bp_30 ?_
        refine g_goto (tgt := 41) C dX5_set_27 rfl ?_
        have hMm : mosF k = nI 30 := by rw [mos_eq hk]; repeat first | rw [if_pos (by omega)] | rw [if_neg (by omega)]
        refine g_callVI (rest := []) C mv_X5_159 (ct_X5_change l w hN σ a hM (2 + k) (by omega) v 30 (by decide)) (Nat.lt_of_lt_of_le (by decide) hN) rfl rfl (by decide) rfl (Nat.le_of_ble_eq_true rfl) dX5_set_41 (fun r8 σ_8 h8 => ?_)
        have hch := h8
        refine g_iret C r rfl dX5_set_44 ?_
        by_cases hvv : v < 0 ∨ nI 30 < v
        · obtain ⟨hr1, hr2⟩ := hch.1 hvv; exact fm_r hC (kO_in _ _) hr2 (by unfold spSet; rw [if_neg (fun z => z hg), nn_nj (n := k) (by omega), hMm, if_pos hvv]) hr1
        · obtain ⟨hr1, hr2⟩ := hch.2 hvv
          obtain ⟨j, hj, rfl⟩ := nj_of4 (m := 30) hvv
          have hs : spSet (a, kp, tk, (nl, lt), (qn, qs), rf) (nI k) (nI j) = (nI (a (2 + k)), sAa (a, kp, tk, (nl, lt), (qn, qs), rf) (ua a (2 + k) j)) := by unfold spSet; rw [if_neg (fun z => z hg), nn_nj (n := k) (by omega), hMm, if_neg hvv, nn_nj (n := j) (by omega)]
          rw [hs]
          exact ⟨hr1, hC.now (by rw [hr2]; exact Fr.up (S := fun k => k = 40) rfl) (by rw [hr2]; exact hM.u) (hB.ut (by omega) (by rw [hMm]; exact (nj_le (by omega) (by omega)).mpr hj) (by omega)) ⟨by rw [ua_at, if_neg (by omega)]; exact hd9, fun e he => by rw [ua_at, if_neg (by omega)]; exact hu9 e he⟩, by rw [hr2]; exact Fr.up (S := in38) (by decide)⟩
    · skip
      have hbad : s < 0 ∨ 5 < s := Or.inr (Int32.not_le.mp c6_3)
      refine g_aload_n C dX5_set_9 rfl rfl ?_
      refine g_bipush C dX5_set_10 bp_m2 ?_
      refine g_callVI (rest := []) C mv_X5_64 (ct_X5_no l w hN σ 2 (by decide) ((-2)) (by decide)) (Nat.lt_of_lt_of_le (by decide) hN) rfl rfl (by decide) rfl (Nat.le_of_ble_eq_true rfl) dX5_set_12 (fun r9 σ_9 h9 => ?_)
      obtain ⟨er9, hrf⟩ := h9
      rw [er9]
      refine g_iret C r rfl dX5_set_15 ?_
      exact fm_r hC (by decide) hrf (by unfold spSet; rw [if_pos (yeA hbad)]) (by decide)
set_option maxRecDepth 100000 in
set_option maxHeartbeats 4000000 in
theorem ct_X5_worth (l : Launch) (w : WD) (hN : 54 ≤ wN w) (σ : SG) (a kp : Row) (tk nl : Nat) (lt : Nat → Nat) (qn : Nat) (qs : Nat → Nat) (rf : Nat → Int32) (hC : CM σ (a, kp, tk, (nl, lt), (qn, qs), rf)) (e g : Int32) : CtI l w yX5_worth cX5_worth 4 (some .int) 3 0 0 [.ref (wA w 38), .int e, .int g] σ (fun r τ => r = (spWorth (a, kp, tk, (nl, lt), (qn, qs), rf) e g).1 ∧ CM τ (spWorth (a, kp, tk, (nl, lt), (qn, qs), rf) e g).2 ∧ Fr in38 σ τ) := by
  refine CtI.mk (by decide) (Nat.le_of_ble_eq_true rfl) ?_
  intro K C hr h0
  have r := RI.of hr h0
  clear hr h0
  show G l w K 0 [(0, .ref (wA w 38)), (1, .int e), (2, .int g)] [] σ
  have hM : Mr σ 40 a := hC.2.1
  have hB : Bd a := hC.1.1.1
  have hd9 : a 1 ≤ 9999 := hC.1.1.2.1
  have hu9 : ∀ e, e < 4 → a (30 + 4 * e + 1) ≤ 9 := hC.1.1.2.2
  obtain ⟨hBa, hB0, hB1, hB2, hB3, hB4, hB5, hB6, hB7, hBs, hBp, hBe⟩ := id hB
  refine g_aload_n C dX5_worth_0 rfl rfl ?_
  refine g_iload_n C dX5_worth_1 rfl rfl ?_
  refine g_pVI (rest := []) (v := bI (e < 0 ∨ nI (a 0) ≤ e)) C mv_X5_152 (ct_X5_isNoEater l w hN σ a hM e) (Nat.lt_of_lt_of_le (by decide) hN) rfl rfl (by decide) rfl (Nat.le_of_ble_eq_true rfl) dX5_worth_2 ?_
  refine g_if_ne (tgt := 15) C dX5_worth_5 rfl (fun c5_1 => ?_) (fun c5_1 => ?_)
  · skip
    have n5_1 : (e < 0 ∨ nI (a 0) ≤ e) := bI_1 c5_1
    have hnw : ¬ ((0 ≤ e ∧ e < nI (a 0)) ∧ (0 ≤ g ∧ g < 5)) := fun z => yeE n5_1 z.1
    refine g_aload_n C dX5_worth_15 rfl rfl ?_
    refine g_iconst C dX5_worth_16 ic_m1 ?_
    refine g_callVI (rest := []) C mv_X5_64 (ct_X5_no l w hN σ 1 (by decide) ((-1)) (by decide)) (Nat.lt_of_lt_of_le (by decide) hN) rfl rfl (by decide) rfl (Nat.le_of_ble_eq_true rfl) dX5_worth_17 (fun r2 σ_2 h2 => ?_)
    obtain ⟨er2, hrf⟩ := h2
    rw [er2]
    refine g_iret C r rfl dX5_worth_20 ?_
    exact fm_r hC (by decide) hrf (by unfold spWorth; rw [if_pos hnw]) (by decide)
  · skip
    have n5_1 : ¬ (e < 0 ∨ nI (a 0) ≤ e) := bI_0 c5_1
    have hw := noE n5_1
    obtain ⟨k, hk, rfl⟩ := nj_of2 hw (by omega)
    refine g_iload_n C dX5_worth_8 rfl rfl ?_
    refine g_pSI (rest := []) (v := bI (g < 0 ∨ 4 < g)) C ms_X5_156 (ct_X5_isNoAge l w hN σ g) rfl (by decide) rfl (Nat.le_of_ble_eq_true rfl) dX5_worth_9 ?_
    refine g_if_eq (tgt := 21) C dX5_worth_12 rfl (fun c12_3 => ?_) (fun c12_3 => ?_)
    · skip
      have n12_3 : ¬ (g < 0 ∨ 4 < g) := bI_0 c12_3
      have hw2 := (a54 g).mp (noA n12_3)
      obtain ⟨j, hj, rfl⟩ := nj_of2 (m := 5) hw2 (by decide)
      refine g_aload_n C dX5_worth_21 rfl rfl ?_
      refine g_get (v := .ref (wA w 40)) C fl_X5_13 fs_X5_13 (Nat.lt_of_lt_of_le (by decide) hN) rfl rfl dX5_worth_22 ?_
      refine g_iload_n C dX5_worth_25 rfl rfl ?_
      refine g_iload_n C dX5_worth_26 rfl rfl ?_
      refine g_pSI (rest := []) (v := wJ a k j) C ms_X5_74 (ct_X5_worthOf l w hN σ 40 (Nat.lt_of_lt_of_le (by decide) hN) rfl a hM hB k j (by omega) (by omega)) rfl (by decide) rfl (Nat.le_of_ble_eq_true rfl) dX5_worth_27 ?_
      refine g_istore_n (lv' := [(3, .int (wJ a k j)), (0, .ref (wA w 38)), (1, .int (nI k)), (2, .int (nI j))]) C dX5_worth_30 rfl (by decide) rfl ?_
      refine g_iload_n C dX5_worth_31 rfl rfl ?_
      refine g_if_ge (tgt := 40) C dX5_worth_32 rfl (fun c32_4 => ?_) (fun c32_4 => ?_)
      · skip
        refine g_iload_n C dX5_worth_40 rfl rfl ?_
        refine g_iret C r rfl dX5_worth_41 ?_
        refine fm_q hC FrN.rf (v := if wJ a k j = -1 then -9 else wJ a k j) ?_ (by first | rw [if_pos (wJ_neg hBa (by assumption))] | rw [if_neg (nn_m1 (by assumption))])
        unfold spWorth
        rw [if_neg (fun z => z ⟨hw, hw2⟩), nn_nj (n := k) (by omega), nn_nj (n := j) (by omega)]
      · skip
        refine g_bipush C dX5_worth_35 bp_m9 ?_
        refine g_goto (tgt := 41) C dX5_worth_37 rfl ?_
        refine g_iret C r rfl dX5_worth_41 ?_
        refine fm_q hC FrN.rf (v := if wJ a k j = -1 then -9 else wJ a k j) ?_ (by first | rw [if_pos (wJ_neg hBa (by assumption))] | rw [if_neg (nn_m1 (by assumption))])
        unfold spWorth
        rw [if_neg (fun z => z ⟨hw, hw2⟩), nn_nj (n := k) (by omega), nn_nj (n := j) (by omega)]
    · skip
      have n12_3 : (g < 0 ∨ 4 < g) := bI_1 c12_3
      have hnw : ¬ ((0 ≤ nI k ∧ nI k < nI (a 0)) ∧ (0 ≤ g ∧ g < 5)) := fun z => yeA n12_3 ((a54 g).mpr z.2)
      refine g_aload_n C dX5_worth_15 rfl rfl ?_
      refine g_iconst C dX5_worth_16 ic_m1 ?_
      refine g_callVI (rest := []) C mv_X5_64 (ct_X5_no l w hN σ 1 (by decide) ((-1)) (by decide)) (Nat.lt_of_lt_of_le (by decide) hN) rfl rfl (by decide) rfl (Nat.le_of_ble_eq_true rfl) dX5_worth_17 (fun r5 σ_5 h5 => ?_)
      obtain ⟨er5, hrf⟩ := h5
      rw [er5]
      refine g_iret C r rfl dX5_worth_20 ?_
      exact fm_r hC (by decide) hrf (by unfold spWorth; rw [if_pos hnw]) (by decide)
set_option maxRecDepth 100000 in
set_option maxHeartbeats 4000000 in
theorem ct_X5_dayOn (l : Launch) (w : WD) (hN : 54 ≤ wN w) (σ : SG) (a kp : Row) (tk nl : Nat) (lt : Nat → Nat) (qn : Nat) (qs : Nat → Nat) (rf : Nat → Int32) (hC : CM σ (a, kp, tk, (nl, lt), (qn, qs), rf)) : CtI l w yX5_dayOn cX5_dayOn 1 (some .int) 5 0 0 [.ref (wA w 38)] σ (fun r τ => r = (spDayOn (a, kp, tk, (nl, lt), (qn, qs), rf)).1 ∧ CM τ (spDayOn (a, kp, tk, (nl, lt), (qn, qs), rf)).2 ∧ Fr in38 σ τ) := by
  refine CtI.mk (by decide) (Nat.le_of_ble_eq_true rfl) ?_
  intro K C hr h0
  have r := RI.of hr h0
  clear hr h0
  show G l w K 0 [(0, .ref (wA w 38))] [] σ
  have hM : Mr σ 40 a := hC.2.1
  have hB : Bd a := hC.1.1.1
  have hd9 : a 1 ≤ 9999 := hC.1.1.2.1
  have hu9 : ∀ e, e < 4 → a (30 + 4 * e + 1) ≤ 9 := hC.1.1.2.2
  obtain ⟨hBa, hB0, hB1, hB2, hB3, hB4, hB5, hB6, hB7, hBs, hBp, hBe⟩ := id hB
  refine g_aload_n C dX5_dayOn_0 rfl rfl ?_
  refine g_get (v := .ref (wA w 40)) C fl_X5_13 fs_X5_13 (Nat.lt_of_lt_of_le (by decide) hN) rfl rfl dX5_dayOn_1 ?_
  refine g_iconst C dX5_dayOn_4 ic_1 ?_
  refine g_ial (k0 := 40) (n := 46) C (Nat.lt_of_lt_of_le (by decide) hN) rfl (j := 1) (by unfold ix; decide) dX5_dayOn_5 ?_
  refine g_val (y := nI (a 1)) (hM 1 (by omega)) ?_
  refine g_sipush C dX5_dayOn_6 sp_9999 ?_
  refine g_icmp_ne (tgt := 22) C dX5_dayOn_9 rfl (fun c9_1 => ?_) (fun c9_1 => ?_)
  · skip
    have n9_1 : ¬ (a 1 = 9999) := fun qq => c9_1 ((nj_eq (a := a 1) (b := 9999) (by have := hBa 1; omega) (by have := hBa 1; omega)).mpr qq)
    refine g_aload_n C dX5_dayOn_22 rfl rfl ?_
    refine g_aload_n C dX5_dayOn_23 rfl rfl ?_
    refine g_get (v := .ref (wA w 40)) C fl_X5_13 fs_X5_13 (Nat.lt_of_lt_of_le (by decide) hN) rfl rfl dX5_dayOn_24 ?_
    refine g_callVV (rest := []) C mv_X5_107 (ct_X5_asTold l w hN σ 40 (Nat.lt_of_lt_of_le (by decide) hN) rfl a hM hB (by decide)) (Nat.lt_of_lt_of_le (by decide) hN) rfl rfl (by decide) rfl (Nat.le_of_ble_eq_true rfl) dX5_dayOn_27 (fun σt h2 => ?_)
    obtain ⟨hht, hFt⟩ := h2
    have hMt : Mr σt 40 a := hM.fr (hFt 40 (by decide))
    refine g_aload_n C dX5_dayOn_30 rfl rfl ?_
    refine g_aload_n C dX5_dayOn_31 rfl rfl ?_
    refine g_get (v := .ref (wA w 40)) C fl_X5_13 fs_X5_13 (Nat.lt_of_lt_of_le (by decide) hN) rfl rfl dX5_dayOn_32 ?_
    refine g_iconst C dX5_dayOn_35 ic_0 ?_
    refine g_callVV (rest := []) C mv_X5_111 (ct_X5_day l w hN σt 40 (Nat.lt_of_lt_of_le (by decide) hN) rfl a hMt hB (by decide) (by decide) (by decide) (hun a) hht (fun e he => (hBe e (by omega)).2.1) 0 (Nat.zero_le _) (by omega)) (Nat.lt_of_lt_of_le (by decide) hN) rfl rfl (by decide) rfl (Nat.le_of_ble_eq_true rfl) dX5_dayOn_36 (fun σd h3 => ?_)
    obtain ⟨hMd, Dd, htd, hFd⟩ := h3
    refine g_aload_n C dX5_dayOn_39 rfl rfl ?_
    refine g_get (v := .int (σd 38 8)) C fl_X5_85 fs_X5_85 (Nat.lt_of_lt_of_le (by decide) hN) rfl rfl dX5_dayOn_40 ?_
    refine g_val (y := dyV (hun a) a 0) Dd.1 ?_
    refine g_iret C r rfl dX5_dayOn_43 ?_
    refine fm_h hC hMd (dyR_bd hB (by omega)) ⟨by rw [dyR_1]; omega, fun e he => by rw [dyR_at _ _ _ _ (by omega) (by omega)]; exact hu9 e he⟩ ((FrN.x (FrM.f hFt (by decide)).n).tr (FrX.y hFd)) ?_ rfl
    unfold spDayOn
    rw [if_neg (show ¬ a 1 = 9999 by omega)]
  · skip
    have n9_1 : a 1 = 9999 := (nj_eq (a := a 1) (b := 9999) (by have := hBa 1; omega) (by have := hBa 1; omega)).mp c9_1
    refine g_ldc C cs_X5_163 dX5_dayOn_12 ?_
    refine g_aload_n C dX5_dayOn_14 rfl rfl ?_
    refine g_bipush C dX5_dayOn_15 bp_m6 ?_
    refine g_callVI (rest := [.int 1000000000]) C mv_X5_64 (ct_X5_no l w hN σ 6 (by decide) ((-6)) (by decide)) (Nat.lt_of_lt_of_le (by decide) hN) rfl rfl (by decide) rfl (Nat.le_of_ble_eq_true rfl) dX5_dayOn_17 (fun r4 σ_4 h4 => ?_)
    obtain ⟨er4, hrf⟩ := h4
    rw [er4]
    refine g_isubv (v := 1000000006) C (by decide) dX5_dayOn_20 ?_
    refine g_iret C r rfl dX5_dayOn_21 ?_
    exact fm_t hC (by decide) hrf (by unfold spDayOn; rw [if_pos (show a 1 = 9999 by omega)]) rfl (by decide)
set_option maxRecDepth 100000 in
set_option maxHeartbeats 4000000 in
theorem ct_X5_total (l : Launch) (w : WD) (hN : 54 ≤ wN w) (σ : SG) (a kp : Row) (tk nl : Nat) (lt : Nat → Nat) (qn : Nat) (qs : Nat → Nat) (rf : Nat → Int32) (hC : CM σ (a, kp, tk, (nl, lt), (qn, qs), rf)) (x y : Int32) : CtI l w yX5_total cX5_total 3 (some .int) 6 0 0 [.ref (wA w 38), .int x, .int y] σ (fun r τ => r = (spTotal (a, kp, tk, (nl, lt), (qn, qs), rf) x y).1 ∧ CM τ (spTotal (a, kp, tk, (nl, lt), (qn, qs), rf) x y).2 ∧ Fr in38 σ τ) := by
  refine CtI.mk (by decide) (Nat.le_of_ble_eq_true rfl) ?_
  intro K C hr h0
  have r := RI.of hr h0
  clear hr h0
  show G l w K 0 [(0, .ref (wA w 38)), (1, .int x), (2, .int y)] [] σ
  have hM : Mr σ 40 a := hC.2.1
  have hB : Bd a := hC.1.1.1
  have hd9 : a 1 ≤ 9999 := hC.1.1.2.1
  have hu9 : ∀ e, e < 4 → a (30 + 4 * e + 1) ≤ 9 := hC.1.1.2.2
  obtain ⟨hBa, hB0, hB1, hB2, hB3, hB4, hB5, hB6, hB7, hBs, hBp, hBe⟩ := id hB
  refine g_aload_n C dX5_total_0 rfl rfl ?_
  refine g_iload_n C dX5_total_1 rfl rfl ?_
  refine g_pVI (rest := []) (v := oU x 0 28) C mv_X5_164 (ct_X5_isWrong l w hN σ x) (Nat.lt_of_lt_of_le (by decide) hN) rfl rfl (by decide) rfl (Nat.le_of_ble_eq_true rfl) dX5_total_2 ?_
  refine g_if_ge (tgt := 21) C dX5_total_5 rfl (fun c5_1 => ?_) (fun c5_1 => ?_)
  · skip
    have hz := oU_p (lo := 0) (hi := 28) c5_1
    obtain ⟨m, hm, rfl⟩ := nj_of4 (m := 28) hz
    refine g_iload_n C dX5_total_21 rfl rfl ?_
    refine g_if_lt (tgt := 30) C dX5_total_22 rfl (fun c22_2 => ?_) (fun c22_2 => ?_)
    · skip
      have hbad : y < 0 ∨ 5 < y := Or.inl c22_2
      refine g_ldc C cs_X5_163 dX5_total_30 ?_
      refine g_aload_n C dX5_total_32 rfl rfl ?_
      refine g_bipush C dX5_total_33 bp_m2 ?_
      refine g_callVI (rest := [.int 1000000000]) C mv_X5_64 (ct_X5_no l w hN σ 2 (by decide) ((-2)) (by decide)) (Nat.lt_of_lt_of_le (by decide) hN) rfl rfl (by decide) rfl (Nat.le_of_ble_eq_true rfl) dX5_total_35 (fun r3 σ_3 h3 => ?_)
      obtain ⟨er3, hrf⟩ := h3
      rw [er3]
      refine g_isubv (v := 1000000002) C (by decide) dX5_total_38 ?_
      refine g_iret C r rfl dX5_total_39 ?_
      exact fm_t hC (by decide) hrf (by unfold spTotal; rw [if_neg hz, if_pos (yeA hbad)]) rfl (by decide)
    · skip
      have hv0 := c22_2
      refine g_iload_n C dX5_total_25 rfl rfl ?_
      refine g_iconst C dX5_total_26 ic_5 ?_
      refine g_icmp_le (tgt := 40) C dX5_total_27 rfl (fun c27_4 => ?_) (fun c27_4 => ?_)
      · skip
        have hg := noA (fun z => z.elim hv0 (Int32.not_lt.mpr c27_4))
        obtain ⟨j, hj, rfl⟩ := nj_of3 (m := 5) hg
        refine g_aload_n C dX5_total_40 rfl rfl ?_
        refine g_get (v := .ref (wA w 40)) C fl_X5_13 fs_X5_13 (Nat.lt_of_lt_of_le (by decide) hN) rfl rfl dX5_total_41 ?_
        refine g_aload_n C dX5_total_44 rfl rfl ?_
        refine g_get (v := .ref (wA w 41)) C fl_X5_16 fs_X5_16 (Nat.lt_of_lt_of_le (by decide) hN) rfl rfl dX5_total_45 ?_
        refine g_callSV (rest := []) C ms_X5_60 (ct_X5_move l w hN σ 40 (Nat.lt_of_lt_of_le (by decide) hN) rfl 41 (Nat.lt_of_lt_of_le (by decide) hN) rfl (by decide) a hM) rfl (by decide) rfl (Nat.le_of_ble_eq_true rfl) dX5_total_48 (fun σt h5 => ?_)
        obtain ⟨hMt, hFt⟩ := h5
        have hMn : Mr σt 40 a := hM.fr (hFt 40 (by decide))
        refine g_aload_n C dX5_total_51 rfl rfl ?_
        refine g_iload_n C dX5_total_52 rfl rfl ?_
        refine g_iconst C dX5_total_53 ic_0 ?_
        refine g_callVV (rest := []) C mv_X5_115 (ct_X5_goOn l w hN σt a hMt hB (by omega) m (by omega) 0 (Nat.zero_le _)) (Nat.lt_of_lt_of_le (by decide) hN) rfl rfl (by decide) rfl (Nat.le_of_ble_eq_true rfl) dX5_total_54 (fun σp h6 => ?_)
        obtain ⟨hMg, hSg, hFg⟩ := h6
        refine g_aload_n C dX5_total_57 rfl rfl ?_
        refine g_get (v := .ref (wA w 45)) C fl_X5_28 fs_X5_28 (Nat.lt_of_lt_of_le (by decide) hN) rfl rfl dX5_total_58 ?_
        refine g_iload_n C dX5_total_61 rfl rfl ?_
        refine g_ial (k0 := 45) (n := 6) C (Nat.lt_of_lt_of_le (by decide) hN) rfl (j := j) (ix_n (by omega)) dX5_total_62 ?_
        refine g_val (y := totV a m j) (totS_of hSg hj) ?_
        refine g_iret C r rfl dX5_total_63 ?_
        refine fm_q hC ((FrM.f hFt (by decide)).tr hFg).n ?_ rfl
        unfold spTotal
        rw [if_neg hz, if_neg (fun z => z hg), nn_nj (n := m) (by omega), nn_nj (n := j) (by omega)]
      · skip
        have hbad : y < 0 ∨ 5 < y := Or.inr (Int32.not_le.mp c27_4)
        refine g_ldc C cs_X5_163 dX5_total_30 ?_
        refine g_aload_n C dX5_total_32 rfl rfl ?_
        refine g_bipush C dX5_total_33 bp_m2 ?_
        refine g_callVI (rest := [.int 1000000000]) C mv_X5_64 (ct_X5_no l w hN σ 2 (by decide) ((-2)) (by decide)) (Nat.lt_of_lt_of_le (by decide) hN) rfl rfl (by decide) rfl (Nat.le_of_ble_eq_true rfl) dX5_total_35 (fun r7 σ_7 h7 => ?_)
        obtain ⟨er7, hrf⟩ := h7
        rw [er7]
        refine g_isubv (v := 1000000002) C (by decide) dX5_total_38 ?_
        refine g_iret C r rfl dX5_total_39 ?_
        exact fm_t hC (by decide) hrf (by unfold spTotal; rw [if_neg hz, if_pos (yeA hbad)]) rfl (by decide)
  · skip
    have hoc := oU_z c5_1
    refine g_ldc C cs_X5_163 dX5_total_8 ?_
    refine g_aload_n C dX5_total_10 rfl rfl ?_
    refine g_aload_n C dX5_total_11 rfl rfl ?_
    refine g_iload_n C dX5_total_12 rfl rfl ?_
    refine g_pVI (rest := [.ref (wA w 38), .int 1000000000]) (v := oU x 0 28) C mv_X5_164 (ct_X5_isWrong l w hN σ x) (Nat.lt_of_lt_of_le (by decide) hN) rfl rfl (by decide) rfl (Nat.le_of_ble_eq_true rfl) dX5_total_13 ?_
    refine g_callVI (rest := [.int 1000000000]) C mv_X5_64 (ct_X5_no l w hN σ (kO x 0) (kO_in _ _) (oU x 0 28) (outk hoc)) (Nat.lt_of_lt_of_le (by decide) hN) rfl rfl (by decide) rfl (Nat.le_of_ble_eq_true rfl) dX5_total_16 (fun r8 σ_8 h8 => ?_)
    obtain ⟨er8, hrf⟩ := h8
    rw [er8]
    refine g_isubv (v := 1000000000 - (oU x 0 28)) C rfl dX5_total_19 ?_
    refine g_iret C r rfl dX5_total_20 ?_
    exact fm_t hC (kO_in _ _) hrf (by unfold spTotal; rw [if_pos (outp hoc)]) (outv hoc) rfl
set_option maxRecDepth 100000 in
set_option maxHeartbeats 4000000 in
theorem ct_X5_left (l : Launch) (w : WD) (hN : 54 ≤ wN w) (σ : SG) (a kp : Row) (tk nl : Nat) (lt : Nat → Nat) (qn : Nat) (qs : Nat → Nat) (rf : Nat → Int32) (hC : CM σ (a, kp, tk, (nl, lt), (qn, qs), rf)) (x g : Int32) : CtI l w yX5_left cX5_left 3 (some .int) 6 0 0 [.ref (wA w 38), .int x, .int g] σ (fun r τ => r = (spLeft (a, kp, tk, (nl, lt), (qn, qs), rf) x g).1 ∧ CM τ (spLeft (a, kp, tk, (nl, lt), (qn, qs), rf) x g).2 ∧ Fr in38 σ τ) := by
  refine CtI.mk (by decide) (Nat.le_of_ble_eq_true rfl) ?_
  intro K C hr h0
  have r := RI.of hr h0
  clear hr h0
  show G l w K 0 [(0, .ref (wA w 38)), (1, .int x), (2, .int g)] [] σ
  have hM : Mr σ 40 a := hC.2.1
  have hB : Bd a := hC.1.1.1
  have hd9 : a 1 ≤ 9999 := hC.1.1.2.1
  have hu9 : ∀ e, e < 4 → a (30 + 4 * e + 1) ≤ 9 := hC.1.1.2.2
  obtain ⟨hBa, hB0, hB1, hB2, hB3, hB4, hB5, hB6, hB7, hBs, hBp, hBe⟩ := id hB
  refine g_aload_n C dX5_left_0 rfl rfl ?_
  refine g_iload_n C dX5_left_1 rfl rfl ?_
  refine g_pVI (rest := []) (v := oU x 0 28) C mv_X5_164 (ct_X5_isWrong l w hN σ x) (Nat.lt_of_lt_of_le (by decide) hN) rfl rfl (by decide) rfl (Nat.le_of_ble_eq_true rfl) dX5_left_2 ?_
  refine g_if_ge (tgt := 18) C dX5_left_5 rfl (fun c5_1 => ?_) (fun c5_1 => ?_)
  · skip
    have hz := oU_p (lo := 0) (hi := 28) c5_1
    obtain ⟨m, hm, rfl⟩ := nj_of4 (m := 28) hz
    refine g_iload_n C dX5_left_18 rfl rfl ?_
    refine g_pSI (rest := []) (v := bI (g < 0 ∨ 4 < g)) C ms_X5_156 (ct_X5_isNoAge l w hN σ g) rfl (by decide) rfl (Nat.le_of_ble_eq_true rfl) dX5_left_19 ?_
    refine g_if_eq (tgt := 31) C dX5_left_22 rfl (fun c22_2 => ?_) (fun c22_2 => ?_)
    · skip
      have n22_2 : ¬ (g < 0 ∨ 4 < g) := bI_0 c22_2
      have hg := (a54 g).mp (noA n22_2)
      obtain ⟨j, hj, rfl⟩ := nj_of2 (m := 5) hg (by decide)
      refine g_aload_n C dX5_left_31 rfl rfl ?_
      refine g_get (v := .ref (wA w 40)) C fl_X5_13 fs_X5_13 (Nat.lt_of_lt_of_le (by decide) hN) rfl rfl dX5_left_32 ?_
      refine g_aload_n C dX5_left_35 rfl rfl ?_
      refine g_get (v := .ref (wA w 41)) C fl_X5_16 fs_X5_16 (Nat.lt_of_lt_of_le (by decide) hN) rfl rfl dX5_left_36 ?_
      refine g_callSV (rest := []) C ms_X5_60 (ct_X5_move l w hN σ 40 (Nat.lt_of_lt_of_le (by decide) hN) rfl 41 (Nat.lt_of_lt_of_le (by decide) hN) rfl (by decide) a hM) rfl (by decide) rfl (Nat.le_of_ble_eq_true rfl) dX5_left_39 (fun σt h3 => ?_)
      obtain ⟨hMt, hFt⟩ := h3
      have hMn : Mr σt 40 a := hM.fr (hFt 40 (by decide))
      refine g_aload_n C dX5_left_42 rfl rfl ?_
      refine g_iload_n C dX5_left_43 rfl rfl ?_
      refine g_iconst C dX5_left_44 ic_0 ?_
      refine g_callVV (rest := []) C mv_X5_115 (ct_X5_goOn l w hN σt a hMt hB (by omega) m (by omega) 0 (Nat.zero_le _)) (Nat.lt_of_lt_of_le (by decide) hN) rfl rfl (by decide) rfl (Nat.le_of_ble_eq_true rfl) dX5_left_45 (fun σp h4 => ?_)
      obtain ⟨hMg, hSg, hFg⟩ := h4
      refine g_aload_n C dX5_left_48 rfl rfl ?_
      refine g_get (v := .ref (wA w 41)) C fl_X5_16 fs_X5_16 (Nat.lt_of_lt_of_le (by decide) hN) rfl rfl dX5_left_49 ?_
      refine g_bipush C dX5_left_52 bp_10 ?_
      refine g_iload_n C dX5_left_54 rfl rfl ?_
      refine g_iaddv (v := nI (10 + j)) C (nj_plus 10 j) dX5_left_55 ?_
      refine g_ial (k0 := 41) (n := 46) C (Nat.lt_of_lt_of_le (by decide) hN) rfl (j := 10 + j) (ix_n (by omega)) dX5_left_56 ?_
      refine g_val (y := nI ((nD a 0 m).1 (10 + j))) (hMg (10 + j) (by omega)) ?_
      refine g_iret C r rfl dX5_left_57 ?_
      refine fm_q hC ((FrM.f hFt (by decide)).tr hFg).n ?_ rfl
      unfold spLeft
      rw [if_neg hz, if_neg (fun z => z hg), nn_nj (n := m) (by omega), nn_nj (n := j) (by omega)]
    · skip
      have n22_2 : (g < 0 ∨ 4 < g) := bI_1 c22_2
      have hbad : ¬ (0 ≤ g ∧ g < 5) := fun z => yeA n22_2 ((a54 g).mpr z)
      refine g_aload_n C dX5_left_25 rfl rfl ?_
      refine g_iconst C dX5_left_26 ic_m1 ?_
      refine g_callVI (rest := []) C mv_X5_64 (ct_X5_no l w hN σ 1 (by decide) ((-1)) (by decide)) (Nat.lt_of_lt_of_le (by decide) hN) rfl rfl (by decide) rfl (Nat.le_of_ble_eq_true rfl) dX5_left_27 (fun r5 σ_5 h5 => ?_)
      obtain ⟨er5, hrf⟩ := h5
      rw [er5]
      refine g_iret C r rfl dX5_left_30 ?_
      exact fm_r hC (by decide) hrf (by unfold spLeft; rw [if_neg hz, if_pos hbad]) (by decide)
  · skip
    have hoc := oU_z c5_1
    refine g_aload_n C dX5_left_8 rfl rfl ?_
    refine g_aload_n C dX5_left_9 rfl rfl ?_
    refine g_iload_n C dX5_left_10 rfl rfl ?_
    refine g_pVI (rest := [.ref (wA w 38)]) (v := oU x 0 28) C mv_X5_164 (ct_X5_isWrong l w hN σ x) (Nat.lt_of_lt_of_le (by decide) hN) rfl rfl (by decide) rfl (Nat.le_of_ble_eq_true rfl) dX5_left_11 ?_
    refine g_callVI (rest := []) C mv_X5_64 (ct_X5_no l w hN σ (kO x 0) (kO_in _ _) (oU x 0 28) (outk hoc)) (Nat.lt_of_lt_of_le (by decide) hN) rfl rfl (by decide) rfl (Nat.le_of_ble_eq_true rfl) dX5_left_14 (fun r6 σ_6 h6 => ?_)
    obtain ⟨er6, hrf⟩ := h6
    rw [er6]
    refine g_iret C r rfl dX5_left_17 ?_
    exact fm_r hC (kO_in _ _) hrf (by unfold spLeft; rw [if_pos (outp hoc)]) (outv hoc)
set_option maxRecDepth 100000 in
set_option maxHeartbeats 4000000 in
theorem ct_X5_never (l : Launch) (w : WD) (hN : 54 ≤ wN w) (σ : SG) (a kp : Row) (tk nl : Nat) (lt : Nat → Nat) (qn : Nat) (qs : Nat → Nat) (rf : Nat → Int32) (hC : CM σ (a, kp, tk, (nl, lt), (qn, qs), rf)) : CtI l w yX5_never cX5_never 2 (some .int) 5 0 0 [.ref (wA w 38)] σ (fun r τ => r = (spNever (a, kp, tk, (nl, lt), (qn, qs), rf)).1 ∧ CM τ (spNever (a, kp, tk, (nl, lt), (qn, qs), rf)).2 ∧ Fr in38 σ τ) := by
  refine CtI.mk (by decide) (Nat.le_of_ble_eq_true rfl) ?_
  intro K C hr h0
  have r := RI.of hr h0
  clear hr h0
  show G l w K 0 [(0, .ref (wA w 38))] [] σ
  have hM : Mr σ 40 a := hC.2.1
  have hB : Bd a := hC.1.1.1
  have hd9 : a 1 ≤ 9999 := hC.1.1.2.1
  have hu9 : ∀ e, e < 4 → a (30 + 4 * e + 1) ≤ 9 := hC.1.1.2.2
  obtain ⟨hBa, hB0, hB1, hB2, hB3, hB4, hB5, hB6, hB7, hBs, hBp, hBe⟩ := id hB
  refine g_aload_n C dX5_never_0 rfl rfl ?_
  refine g_get (v := .ref (wA w 40)) C fl_X5_13 fs_X5_13 (Nat.lt_of_lt_of_le (by decide) hN) rfl rfl dX5_never_1 ?_
  refine g_aload_n C dX5_never_4 rfl rfl ?_
  refine g_get (v := .ref (wA w 41)) C fl_X5_16 fs_X5_16 (Nat.lt_of_lt_of_le (by decide) hN) rfl rfl dX5_never_5 ?_
  refine g_callSV (rest := []) C ms_X5_60 (ct_X5_move l w hN σ 40 (Nat.lt_of_lt_of_le (by decide) hN) rfl 41 (Nat.lt_of_lt_of_le (by decide) hN) rfl (by decide) a hM) rfl (by decide) rfl (Nat.le_of_ble_eq_true rfl) dX5_never_8 (fun σt h1 => ?_)
  obtain ⟨hMt, hFt⟩ := h1
  have hMn : Mr σt 40 a := hM.fr (hFt 40 (by decide))
  refine g_aload_n C dX5_never_11 rfl rfl ?_
  refine g_aload_n C dX5_never_12 rfl rfl ?_
  refine g_get (v := .ref (wA w 41)) C fl_X5_16 fs_X5_16 (Nat.lt_of_lt_of_le (by decide) hN) rfl rfl dX5_never_13 ?_
  refine g_callVV (rest := []) C mv_X5_107 (ct_X5_asTold l w hN σt 41 (Nat.lt_of_lt_of_le (by decide) hN) rfl a hMt hB (by decide)) (Nat.lt_of_lt_of_le (by decide) hN) rfl rfl (by decide) rfl (Nat.le_of_ble_eq_true rfl) dX5_never_16 (fun σu h2 => ?_)
  obtain ⟨hhu, hFu⟩ := h2
  refine g_iconst C dX5_never_19 ic_0 ?_
  refine g_istore_n (lv' := [(1, .int 0), (0, .ref (wA w 38))]) C dX5_never_20 rfl (by decide) rfl ?_
  have L21 : ∀ (m21 : Nat) (d : Nat) (p : Row) (σ1 : SG), m21 = 28 - d → (d ≤ 28) → (Mr σ1 41 p) → (Bd p) → (p 1 ≤ 9999 + d) → (∀ e, e < p 0 → σ1 43 e = nI (hun p e)) → (nevS 28 a = d + nevS (28 - d) p) → (FrN σ σ1) → G l w K 21 [(0, .ref (wA w 38)), (1, .int (nI d))] [] σ1 := by
    intro m21
    induction m21 using Nat.strongRecOn with
    | ind m21 ih21 =>
    intro d p σ1 em21 hd hM1 hB1 hp1 hh1 hN1 hF1
    have hu11 : ∀ e, e < p 0 → hun p e ≤ 11 := fun e he => (hB1.2.2.2.2.2.2.2.2.2.2.2 e (by have := hB1.2.1; omega)).2.1
    refine g_iload_n C dX5_never_21 rfl rfl ?_
    refine g_bipush C dX5_never_22 bp_28 ?_
    refine g_icmp_ge (tgt := 51) C dX5_never_24 rfl (fun c24_3 => ?_) (fun c24_3 => ?_)
    · skip
      have n24_3 : 28 ≤ d := (nj_le (a := 28) (b := d) (by omega) (by omega)).mp c24_3
      refine g_bipush C dX5_never_51 bp_28 ?_
      refine g_iret C r rfl dX5_never_53 ?_
      obtain rfl : d = 28 := by omega
      refine fm_q hC hF1 ?_ rfl
      unfold spNever
      show (nI (nevS 28 a), _) = _
      rw [hN1]
      rfl
    · skip
      have n24_3 : ¬ (28 ≤ d) := fun qq => c24_3 ((nj_le (a := 28) (b := d) (by omega) (by omega)).mpr qq)
      refine g_aload_n C dX5_never_27 rfl rfl ?_
      refine g_aload_n C dX5_never_28 rfl rfl ?_
      refine g_get (v := .ref (wA w 41)) C fl_X5_16 fs_X5_16 (Nat.lt_of_lt_of_le (by decide) hN) rfl rfl dX5_never_29 ?_
      refine g_iconst C dX5_never_32 ic_0 ?_
      refine g_callVV (rest := []) C mv_X5_111 (ct_X5_day l w hN σ1 41 (Nat.lt_of_lt_of_le (by decide) hN) rfl p hM1 hB1 (by decide) (by decide) (by decide) (hun p) hh1 hu11 0 (Nat.zero_le _) (by omega)) (Nat.lt_of_lt_of_le (by decide) hN) rfl rfl (by decide) rfl (Nat.le_of_ble_eq_true rfl) dX5_never_33 (fun σd h4 => ?_)
      obtain ⟨hMd, Dd, htd, hFd⟩ := h4
      have hcl := List.count_le_length (a := 0) (l := dyL (hun p) p 0)
      have hcl2 := dyL_len hB1 0
      refine g_aload_n C dX5_never_36 rfl rfl ?_
      refine g_get (v := .int (σd 38 9)) C fl_X5_88 fs_X5_88 (Nat.lt_of_lt_of_le (by decide) hN) rfl rfl dX5_never_37 ?_
      refine g_val (y := nI ((dyL (hun p) p 0).count 0)) Dd.2.2.1 ?_
      refine g_if_le (tgt := 45) C dX5_never_40 rfl (fun c40_5 => ?_) (fun c40_5 => ?_)
      · skip
        have n40_5 : (dyL (hun p) p 0).count 0 ≤ 0 := (nj_le (a := (dyL (hun p) p 0).count 0) (b := 0) (by omega) (by omega)).mp c40_5
        refine g_iinc (v := nI (d + 1)) (lv' := [(1, .int (nI (d + 1))), (0, .ref (wA w 38))]) C dX5_never_45 (by decide) rfl (nj_inc d) rfl ?_
        refine g_goto (tgt := 21) C dX5_never_48 rfl ?_
        exact g_lvp [1, 0] rfl (ih21 (28 - (d + 1)) (by omega) (d + 1) (dyR (hun p) p 0) σd rfl (by first | omega | assumption | rfl | grind) (hMd) (dyR_bd hB1 (by omega)) (by rw [dyR_1]; omega) (fun e he => by rw [hFd.1 43 (by decide) (by decide) (by decide)]; show _ = nI (dyR (hun p) p 0 (30 + 4 * e + 1)); rw [dyR_at _ _ _ _ (by omega) (by omega)]; exact hh1 e (by rw [dyR_at _ _ _ 0 (by omega) (by omega)] at he; exact he)) (by rw [hN1, show 28 - d = (28 - (d + 1)) + 1 by omega, nev_step1 (by omega)]; omega) (hF1.tr (FrM.y hFd).n))
      · skip
        have n40_5 : ¬ ((dyL (hun p) p 0).count 0 ≤ 0) := fun qq => c40_5 ((nj_le (a := (dyL (hun p) p 0).count 0) (b := 0) (by omega) (by omega)).mpr qq)
        refine g_iload_n C dX5_never_43 rfl rfl ?_
        refine g_iret C r rfl dX5_never_44 ?_
        refine fm_q hC (hF1.tr (FrM.y hFd).n) ?_ rfl
        unfold spNever
        show (nI (nevS 28 a), _) = _
        rw [hN1, show 28 - d = (27 - d) + 1 by omega, nev_step0 (by omega), Nat.add_zero]
  exact g_lvp [1, 0] rfl (L21 (28 - 0) 0 a σu rfl (by first | omega | assumption | rfl | grind) (hMt.fr (hFu 41 (by decide))) (hB) (by omega) (hhu) (by rw [Nat.zero_add]) (((FrM.f hFt (by decide)).tr (FrM.f hFu (by decide))).n))
set_option maxRecDepth 100000 in
set_option maxHeartbeats 4000000 in
theorem ct_X5_valueOf (l : Launch) (w : WD) (hN : 54 ≤ wN w) (σ : SG) (a : Row) (hM : Mr σ 41 a) (hB : Bd a) (hd1 : a 1 ≤ 28000) (m : Nat) (hm : m ≤ 28) : CtI l w yX5_valueOf cX5_valueOf 2 (some .int) 6 0 0 [.ref (wA w 38), .int (nI m)] σ (fun r τ => r = nV a 0 m ∧ FrM σ τ) := by
  refine CtI.mk (by decide) (Nat.le_of_ble_eq_true rfl) ?_
  intro K C hr h0
  have r := RI.of hr h0
  clear hr h0
  show G l w K 0 [(0, .ref (wA w 38)), (1, .int (nI m))] [] σ
  refine g_aload_n C dX5_valueOf_0 rfl rfl ?_
  refine g_iload_n C dX5_valueOf_1 rfl rfl ?_
  refine g_iconst C dX5_valueOf_2 ic_0 ?_
  refine g_callVV (rest := []) C mv_X5_115 (ct_X5_goOn l w hN σ a hM hB hd1 m (by omega) 0 (Nat.zero_le _)) (Nat.lt_of_lt_of_le (by decide) hN) rfl rfl (by decide) rfl (Nat.le_of_ble_eq_true rfl) dX5_valueOf_3 (fun σp h1 => ?_)
  obtain ⟨hMg, hSg, hFg⟩ := h1
  refine g_aload_n C dX5_valueOf_6 rfl rfl ?_
  refine g_get (v := .ref (wA w 45)) C fl_X5_28 fs_X5_28 (Nat.lt_of_lt_of_le (by decide) hN) rfl rfl dX5_valueOf_7 ?_
  refine g_iconst C dX5_valueOf_10 ic_0 ?_
  refine g_ial (k0 := 45) (n := 6) C (Nat.lt_of_lt_of_le (by decide) hN) rfl (j := 0) (by unfold ix; decide) dX5_valueOf_11 ?_
  refine g_val (y := nV a 0 m) hSg.1 ?_
  refine g_iret C r rfl dX5_valueOf_12 ?_
  exact ⟨rfl, hFg⟩
set_option maxRecDepth 100000 in
set_option maxHeartbeats 4000000 in
theorem ct_X5_slices (l : Launch) (w : WD) (hN : 54 ≤ wN w) (σ : SG) (c : Nat) (hck : c < wN w) (hcs : shp w c = aI w 46) (a : Row) (hM : Mr σ c a) (hB : Bd a) : CtI l w yX5_slices cX5_slices 3 (some .int) 1 0 0 [.ref (wA w c)] σ (fun r τ => r = nI (sumN (fun k => a (10 + k)) 5) ∧ τ = σ) := by
  refine CtI.mk (by decide) (Nat.le_of_ble_eq_true rfl) ?_
  intro K C hr h0
  have r := RI.of hr h0
  clear hr h0
  show G l w K 0 [(0, .ref (wA w c))] [] σ
  refine g_iconst C dX5_slices_0 ic_0 ?_
  refine g_istore_n (lv' := [(1, .int 0), (0, .ref (wA w c))]) C dX5_slices_1 rfl (by decide) rfl ?_
  refine g_iconst C dX5_slices_2 ic_0 ?_
  refine g_istore_n (lv' := [(2, .int 0), (1, .int 0), (0, .ref (wA w c))]) C dX5_slices_3 rfl (by decide) rfl ?_
  have L4 : ∀ (m4 : Nat) (k : Nat), m4 = 5 - k → (k ≤ 5) → G l w K 4 [(0, .ref (wA w c)), (1, .int (nI (sumN (fun k => a (10 + k)) k))), (2, .int (nI k))] [] σ := by
    intro m4
    induction m4 using Nat.strongRecOn with
    | ind m4 ih4 =>
    intro k em4 hk
    refine g_iload_n C dX5_slices_4 rfl rfl ?_
    refine g_iconst C dX5_slices_5 ic_5 ?_
    refine g_icmp_ge (tgt := 24) C dX5_slices_6 rfl (fun c6_1 => ?_) (fun c6_1 => ?_)
    · skip
      have n6_1 : 5 ≤ k := (nj_le (a := 5) (b := k) (by omega) (by omega)).mp c6_1
      refine g_iload_n C dX5_slices_24 rfl rfl ?_
      refine g_iret C r rfl dX5_slices_25 ?_
      obtain rfl : k = 5 := by omega
      exact ⟨rfl, rfl⟩
    · skip
      have n6_1 : ¬ (5 ≤ k) := fun qq => c6_1 ((nj_le (a := 5) (b := k) (by omega) (by omega)).mpr qq)
      refine g_iload_n C dX5_slices_9 rfl rfl ?_
      refine g_aload_n C dX5_slices_10 rfl rfl ?_
      refine g_bipush C dX5_slices_11 bp_10 ?_
      refine g_iload_n C dX5_slices_13 rfl rfl ?_
      refine g_iaddv (v := nI (10 + k)) C (nj_plus 10 k) dX5_slices_14 ?_
      refine g_ial (k0 := c) (n := 46) C hck hcs (j := 10 + k) (ix_n (by omega)) dX5_slices_15 ?_
      refine g_val (y := nI (a (10 + k))) (hM (10 + k) (by omega)) ?_
      refine g_iaddv (v := nI ((sumN (fun k => a (10 + k)) k) + (a (10 + k)))) C (nj_plus (sumN (fun k => a (10 + k)) k) (a (10 + k))) dX5_slices_16 ?_
      refine g_istore_n (lv' := [(1, .int (nI ((sumN (fun k => a (10 + k)) k) + (a (10 + k))))), (0, .ref (wA w c)), (2, .int (nI k))]) C dX5_slices_17 rfl (by decide) rfl ?_
      refine g_iinc (v := nI (k + 1)) (lv' := [(2, .int (nI (k + 1))), (1, .int (nI ((sumN (fun k => a (10 + k)) k) + (a (10 + k))))), (0, .ref (wA w c))]) C dX5_slices_18 (by decide) rfl (nj_inc k) rfl ?_
      refine g_goto (tgt := 4) C dX5_slices_21 rfl ?_
      exact g_lvp [2, 1, 0] rfl (ih4 (5 - (k + 1)) (by omega) (k + 1) rfl (by first | omega | assumption | rfl | grind))
  exact g_lvp [2, 1, 0] rfl (L4 (5 - 0) 0 rfl (by first | omega | assumption | rfl | grind))
set_option maxRecDepth 100000 in
set_option maxHeartbeats 4000000 in
theorem ct_X5_openDays (l : Launch) (w : WD) (hN : 54 ≤ wN w) (σ : SG) (a : Row) (hM : Mr σ 40 a) (hB : Bd a) : CtI l w yX5_openDays cX5_openDays 3 (some .int) 1 0 0 [.ref (wA w 38)] σ (fun r τ => r = nI (sumN (fun k => a (20 + k)) 7) ∧ τ = σ) := by
  refine CtI.mk (by decide) (Nat.le_of_ble_eq_true rfl) ?_
  intro K C hr h0
  have r := RI.of hr h0
  clear hr h0
  show G l w K 0 [(0, .ref (wA w 38))] [] σ
  refine g_iconst C dX5_openDays_0 ic_0 ?_
  refine g_istore_n (lv' := [(1, .int 0), (0, .ref (wA w 38))]) C dX5_openDays_1 rfl (by decide) rfl ?_
  refine g_iconst C dX5_openDays_2 ic_0 ?_
  refine g_istore_n (lv' := [(2, .int 0), (1, .int 0), (0, .ref (wA w 38))]) C dX5_openDays_3 rfl (by decide) rfl ?_
  have L4 : ∀ (m4 : Nat) (k : Nat), m4 = 7 - k → (k ≤ 7) → G l w K 4 [(0, .ref (wA w 38)), (1, .int (nI (sumN (fun k => a (20 + k)) k))), (2, .int (nI k))] [] σ := by
    intro m4
    induction m4 using Nat.strongRecOn with
    | ind m4 ih4 =>
    intro k em4 hk
    refine g_iload_n C dX5_openDays_4 rfl rfl ?_
    refine g_bipush C dX5_openDays_5 bp_7 ?_
    refine g_icmp_ge (tgt := 28) C dX5_openDays_7 rfl (fun c7_1 => ?_) (fun c7_1 => ?_)
    · skip
      have n7_1 : 7 ≤ k := (nj_le (a := 7) (b := k) (by omega) (by omega)).mp c7_1
      refine g_iload_n C dX5_openDays_28 rfl rfl ?_
      refine g_iret C r rfl dX5_openDays_29 ?_
      obtain rfl : k = 7 := by omega
      exact ⟨rfl, rfl⟩
    · skip
      have n7_1 : ¬ (7 ≤ k) := fun qq => c7_1 ((nj_le (a := 7) (b := k) (by omega) (by omega)).mpr qq)
      refine g_iload_n C dX5_openDays_10 rfl rfl ?_
      refine g_aload_n C dX5_openDays_11 rfl rfl ?_
      refine g_get (v := .ref (wA w 40)) C fl_X5_13 fs_X5_13 (Nat.lt_of_lt_of_le (by decide) hN) rfl rfl dX5_openDays_12 ?_
      refine g_bipush C dX5_openDays_15 bp_20 ?_
      refine g_iload_n C dX5_openDays_17 rfl rfl ?_
      refine g_iaddv (v := nI (20 + k)) C (nj_plus 20 k) dX5_openDays_18 ?_
      refine g_ial (k0 := 40) (n := 46) C (Nat.lt_of_lt_of_le (by decide) hN) rfl (j := 20 + k) (ix_n (by omega)) dX5_openDays_19 ?_
      refine g_val (y := nI (a (20 + k))) (hM (20 + k) (by omega)) ?_
      refine g_iaddv (v := nI ((sumN (fun k => a (20 + k)) k) + (a (20 + k)))) C (nj_plus (sumN (fun k => a (20 + k)) k) (a (20 + k))) dX5_openDays_20 ?_
      refine g_istore_n (lv' := [(1, .int (nI ((sumN (fun k => a (20 + k)) k) + (a (20 + k))))), (0, .ref (wA w 38)), (2, .int (nI k))]) C dX5_openDays_21 rfl (by decide) rfl ?_
      refine g_iinc (v := nI (k + 1)) (lv' := [(2, .int (nI (k + 1))), (1, .int (nI ((sumN (fun k => a (20 + k)) k) + (a (20 + k))))), (0, .ref (wA w 38))]) C dX5_openDays_22 (by decide) rfl (nj_inc k) rfl ?_
      refine g_goto (tgt := 4) C dX5_openDays_25 rfl ?_
      exact g_lvp [2, 1, 0] rfl (ih4 (7 - (k + 1)) (by omega) (k + 1) rfl (by first | omega | assumption | rfl | grind))
  exact g_lvp [2, 1, 0] rfl (L4 (7 - 0) 0 rfl (by first | omega | assumption | rfl | grind))
set_option maxRecDepth 100000 in
set_option maxHeartbeats 4000000 in
theorem ct_X5_bestAt (l : Launch) (w : WD) (hN : 54 ≤ wN w) (σ : SG) (a : Row) (hM : Mr σ 40 a) (hB : Bd a) (hd9 : a 1 ≤ 9999) (pl s : Nat) (hpl : pl = 2 + s) (hs : s < 6) (M : Nat) (hMs : mosF s = nI M) (hM9 : M ≤ 30) (m : Nat) (hm : m ≤ 28) : CtI l w yX5_bestAt cX5_bestAt 7 (some .int) 7 0 0 [.ref (wA w 38), .int (nI pl), .int (nI M), .int (nI m)] σ (fun r τ => r = (chF (fun v => nV (ua a (2 + s) v) 0 m) (fun _ => true) (M + 1)).1 ∧ τ 38 24 = (chF (fun v => nV (ua a (2 + s) v) 0 m) (fun _ => true) (M + 1)).2 ∧ FrN σ τ) := by
  refine CtI.mk (by decide) (Nat.le_of_ble_eq_true rfl) ?_
  intro K C hr h0
  have r := RI.of hr h0
  clear hr h0
  show G l w K 0 [(0, .ref (wA w 38)), (1, .int (nI pl)), (2, .int (nI M)), (3, .int (nI m))] [] σ
  refine g_iconst C dX5_bestAt_0 ic_0 ?_
  refine g_istore (lv' := [(4, .int 0), (0, .ref (wA w 38)), (1, .int (nI pl)), (2, .int (nI M)), (3, .int (nI m))]) C dX5_bestAt_1 (by decide) rfl ?_
  refine g_iconst C dX5_bestAt_3 ic_0 ?_
  refine g_istore (lv' := [(5, .int 0), (4, .int 0), (0, .ref (wA w 38)), (1, .int (nI pl)), (2, .int (nI M)), (3, .int (nI m))]) C dX5_bestAt_4 (by decide) rfl ?_
  have L6 : ∀ (m6 : Nat) (v : Nat) (x : Int32) (σ1 : SG), m6 = M + 1 - v → (v ≤ M + 1) → (RC (fun v => nV (ua a (2 + s) v) 0 m) v x (σ1 38 24)) → (FrN σ σ1) → G l w K 6 [(0, .ref (wA w 38)), (1, .int (nI pl)), (2, .int (nI M)), (3, .int (nI m)), (4, .int x), (5, .int (nI v))] [] σ1 := by
    intro m6
    induction m6 using Nat.strongRecOn with
    | ind m6 ih6 =>
    intro v x σ1 em6 hv hR1 hF1
    have hM1 : Mr σ1 40 a := hM.fr (hF1.1 40 (by decide) (by decide) (by decide) (by decide) (by decide) (by decide))
    refine g_iload C dX5_bestAt_6 rfl ?_
    refine g_iload_n C dX5_bestAt_8 rfl rfl ?_
    refine g_icmp_gt (tgt := 68) C dX5_bestAt_9 rfl (fun c9_1 => ?_) (fun c9_1 => ?_)
    · skip
      have n9_1 : M < v := (nj_lt (a := M) (b := v) (by omega) (by omega)).mp c9_1
      obtain rfl : v = M + 1 := by omega
      refine g_iload C dX5_bestAt_68 rfl ?_
      refine g_iret C r rfl dX5_bestAt_70 ?_
      exact ⟨hR1.fin.1, hR1.fin.2, hF1⟩
    · skip
      have n9_1 : ¬ (M < v) := fun qq => c9_1 ((nj_lt (a := M) (b := v) (by omega) (by omega)).mpr qq)
      refine g_aload_n C dX5_bestAt_12 rfl rfl ?_
      refine g_get (v := .ref (wA w 40)) C fl_X5_13 fs_X5_13 (Nat.lt_of_lt_of_le (by decide) hN) rfl rfl dX5_bestAt_13 ?_
      refine g_aload_n C dX5_bestAt_16 rfl rfl ?_
      refine g_get (v := .ref (wA w 41)) C fl_X5_16 fs_X5_16 (Nat.lt_of_lt_of_le (by decide) hN) rfl rfl dX5_bestAt_17 ?_
      refine g_callSV (rest := []) C ms_X5_60 (ct_X5_move l w hN σ1 40 (Nat.lt_of_lt_of_le (by decide) hN) rfl 41 (Nat.lt_of_lt_of_le (by decide) hN) rfl (by decide) a hM1) rfl (by decide) rfl (Nat.le_of_ble_eq_true rfl) dX5_bestAt_20 (fun σt h2 => ?_)
      obtain ⟨hMt, hFt⟩ := h2
      have hMn : Mr σt 40 a := hM1.fr (hFt 40 (by decide))
      refine g_aload_n C dX5_bestAt_23 rfl rfl ?_
      refine g_get (v := .ref (wA w 41)) C fl_X5_16 fs_X5_16 (Nat.lt_of_lt_of_le (by decide) hN) rfl rfl dX5_bestAt_24 ?_
      refine g_iload_n C dX5_bestAt_27 rfl rfl ?_
      refine g_iload C dX5_bestAt_28 rfl ?_
      refine g_ias (k0 := 41) (n := 46) C (Nat.lt_of_lt_of_le (by decide) hN) rfl (j := pl) (ix_n (by omega)) dX5_bestAt_30 (fun σu hσu => ?_)
      have hMu : Mr σu 41 (ua a (2 + s) v) := by rw [hσu, hpl]; exact hMt.u
      have hBu : Bd (ua a (2 + s) v) := hB.ut hs (by rw [hMs]; exact (nj_le (by omega) (by omega)).mpr (by omega)) (by omega)
      have hu1 : (ua a (2 + s) v) 1 = a 1 := by rw [ua_at, if_neg (by omega)]
      refine g_aload_n C dX5_bestAt_31 rfl rfl ?_
      refine g_iload_n C dX5_bestAt_32 rfl rfl ?_
      refine g_callVI (rest := []) C mv_X5_171 (ct_X5_valueOf l w hN σu (ua a (2 + s) v) hMu hBu (by rw [hu1]; omega) m (by omega)) (Nat.lt_of_lt_of_le (by decide) hN) rfl rfl (by decide) rfl (Nat.le_of_ble_eq_true rfl) dX5_bestAt_33 (fun r3 σp h3 => ?_)
      obtain ⟨er3, hFg⟩ := h3
      subst er3
      have hFu : FrM σt σu := by rw [hσu]; exact FrM.u (by decide)
      have hF3 : FrM σ1 σp := ((FrM.f hFt (by decide)).tr hFu).tr hFg
      have hFp : FrN σ σp := hF1.tr hF3.n
      have hRp : RC (fun v => nV (ua a (2 + s) v) 0 m) v x (σp 38 24) := by rw [hF3.2.2.2.2]; exact hR1
      refine g_top (fun xb exb => ?_)
      refine g_istore (lv' := [(6, .int xb), (0, .ref (wA w 38)), (1, .int (nI pl)), (2, .int (nI M)), (3, .int (nI m)), (4, .int x), (5, .int (nI v))]) C dX5_bestAt_36 (by decide) rfl ?_
      have L62 : ∀ (x2 : Int32) (σ2 : SG), (RC (fun v => nV (ua a (2 + s) v) 0 m) (v + 1) x2 (σ2 38 24)) → (FrN σ σ2) → G l w K 62 [(0, .ref (wA w 38)), (1, .int (nI pl)), (2, .int (nI M)), (3, .int (nI m)), (4, .int x2), (5, .int (nI v))] [] σ2 := by
        intro x2 σ2 hR2 hF2
        refine g_iinc (v := nI (v + 1)) (lv' := [(5, .int (nI (v + 1))), (0, .ref (wA w 38)), (1, .int (nI pl)), (2, .int (nI M)), (3, .int (nI m)), (4, .int x2)]) C dX5_bestAt_62 (by decide) rfl (nj_inc v) rfl ?_
        refine g_goto (tgt := 6) C dX5_bestAt_65 rfl ?_
        exact g_lvp [1, 2, 3, 4, 5, 0] rfl (ih6 (M + 1 - (v + 1)) (by omega) (v + 1) x2 σ2 rfl (by first | omega | assumption | rfl | grind) (hR2) (hF2))
      refine g_iload C dX5_bestAt_38 rfl ?_
      refine g_if_eq (tgt := 52) C dX5_bestAt_40 rfl (fun c40_4 => ?_) (fun c40_4 => ?_)
      · skip
        have n40_4 : v = 0 := (nj_eq (a := v) (b := 0) (by omega) (by omega)).mp c40_4
        refine g_aload_n C dX5_bestAt_52 rfl rfl ?_
        refine g_iload C dX5_bestAt_53 rfl ?_
        refine g_putn C fp_X5_177 (Nat.lt_of_lt_of_le (by decide) hN) rfl rfl (Nat.le_of_ble_eq_true rfl) rfl rfl dX5_bestAt_55 (fun σw hσw => ?_)
        refine g_iload C dX5_bestAt_58 rfl ?_
        refine g_istore (lv' := [(4, .int (nI v)), (6, .int xb), (0, .ref (wA w 38)), (1, .int (nI pl)), (2, .int (nI M)), (3, .int (nI m)), (5, .int (nI v))]) C dX5_bestAt_60 (by decide) rfl ?_
        exact g_lvp [2, 3, 4, 5, 0, 6] rfl (L62 (nI v) σw (by rw [hσw, up_same, exb]; exact hRp.take (by first | exact Or.inl (by omega) | exact Or.inr (by rw [← exb]; exact Int32.not_le.mp (by assumption)))) (hFp.tr (by rw [hσw]; exact FrN.o (by decide))))
      · skip
        have n40_4 : ¬ (v = 0) := fun qq => c40_4 ((nj_eq (a := v) (b := 0) (by omega) (by omega)).mpr qq)
        refine g_iload C dX5_bestAt_43 rfl ?_
        refine g_aload_n C dX5_bestAt_45 rfl rfl ?_
        refine g_get (v := .int (σp 38 24)) C fl_X5_177 fs_X5_177 (Nat.lt_of_lt_of_le (by decide) hN) rfl rfl dX5_bestAt_46 ?_
        refine g_icmp_le (tgt := 62) C dX5_bestAt_49 rfl (fun c49_5 => ?_) (fun c49_5 => ?_)
        · skip
          exact g_lvp [1, 2, 3, 4, 5, 6] rfl (L62 x σp (hRp.keep (by omega) (by omega) (by rw [← exb]; assumption)) (hFp))
        · skip
          refine g_aload_n C dX5_bestAt_52 rfl rfl ?_
          refine g_iload C dX5_bestAt_53 rfl ?_
          refine g_putn C fp_X5_177 (Nat.lt_of_lt_of_le (by decide) hN) rfl rfl (Nat.le_of_ble_eq_true rfl) rfl rfl dX5_bestAt_55 (fun σw hσw => ?_)
          refine g_iload C dX5_bestAt_58 rfl ?_
          refine g_istore (lv' := [(4, .int (nI v)), (6, .int xb), (0, .ref (wA w 38)), (1, .int (nI pl)), (2, .int (nI M)), (3, .int (nI m)), (5, .int (nI v))]) C dX5_bestAt_60 (by decide) rfl ?_
          exact g_lvp [2, 3, 4, 5, 0, 6] rfl (L62 (nI v) σw (by rw [hσw, up_same, exb]; exact hRp.take (by first | exact Or.inl (by omega) | exact Or.inr (by rw [← exb]; exact Int32.not_le.mp (by assumption)))) (hFp.tr (by rw [hσw]; exact FrN.o (by decide))))
  exact g_lvp [2, 3, 4, 5, 1, 0] rfl (L6 (M + 1 - 0) 0 0 σ rfl (by first | omega | assumption | rfl | grind) (RC.z) (FrN.rf))
set_option maxRecDepth 100000 in
set_option maxHeartbeats 4000000 in
theorem ct_X5_best (l : Launch) (w : WD) (hN : 54 ≤ wN w) (σ : SG) (a kp : Row) (tk nl : Nat) (lt : Nat → Nat) (qn : Nat) (qs : Nat → Nat) (rf : Nat → Int32) (hC : CM σ (a, kp, tk, (nl, lt), (qn, qs), rf)) (x : Int32) : CtI l w yX5_best cX5_best 2 (some .int) 8 0 0 [.ref (wA w 38), .int x] σ (fun r τ => r = (spBos 5 5 (a, kp, tk, (nl, lt), (qn, qs), rf) x).1 ∧ CM τ (spBos 5 5 (a, kp, tk, (nl, lt), (qn, qs), rf) x).2 ∧ Fr in38 σ τ) := by
  refine CtI.mk (by decide) (Nat.le_of_ble_eq_true rfl) ?_
  intro K C hr h0
  have r := RI.of hr h0
  clear hr h0
  show G l w K 0 [(0, .ref (wA w 38)), (1, .int x)] [] σ
  have hM : Mr σ 40 a := hC.2.1
  have hB : Bd a := hC.1.1.1
  have hd9 : a 1 ≤ 9999 := hC.1.1.2.1
  have hu9 : ∀ e, e < 4 → a (30 + 4 * e + 1) ≤ 9 := hC.1.1.2.2
  obtain ⟨hBa, hB0, hB1, hB2, hB3, hB4, hB5, hB6, hB7, hBs, hBp, hBe⟩ := id hB
  refine g_aload_n C dX5_best_0 rfl rfl ?_
  refine g_iload_n C dX5_best_1 rfl rfl ?_
  refine g_pVI (rest := []) (v := oU x 0 28) C mv_X5_164 (ct_X5_isWrong l w hN σ x) (Nat.lt_of_lt_of_le (by decide) hN) rfl rfl (by decide) rfl (Nat.le_of_ble_eq_true rfl) dX5_best_2 ?_
  refine g_if_ge (tgt := 20) C dX5_best_5 rfl (fun c5_1 => ?_) (fun c5_1 => ?_)
  · skip
    have hz := oU_p (lo := 0) (hi := 28) c5_1
    obtain ⟨m, hm, rfl⟩ := nj_of4 (m := 28) hz
    refine g_aload_n C dX5_best_20 rfl rfl ?_
    refine g_bipush C dX5_best_21 bp_7 ?_
    refine g_iconst C dX5_best_23 ic_5 ?_
    refine g_iload_n C dX5_best_24 rfl rfl ?_
    refine g_callVI (rest := []) C mv_X5_180 (ct_X5_bestAt l w hN σ a hM hB hd9 7 5 rfl (by decide) 5 rfl (by decide) m hm) (Nat.lt_of_lt_of_le (by decide) hN) rfl rfl (by decide) rfl (Nat.le_of_ble_eq_true rfl) dX5_best_25 (fun r2 σ_2 h2 => ?_)
    obtain ⟨er2, hb24, hFb⟩ := h2
    have hrb := er2
    refine g_iret C r rfl dX5_best_28 ?_
    first | exact fm_r hC (kO_in _ _) hrf (by unfold spBos; rw [if_pos (outp hoc)]) (outv hoc) | exact fm_q hC hFb (by unfold spBos; rw [if_neg hz, nn_nj (n := m) (by omega)]) hrb
  · skip
    have hoc := oU_z c5_1
    refine g_aload_n C dX5_best_8 rfl rfl ?_
    refine g_aload_n C dX5_best_9 rfl rfl ?_
    refine g_iload_n C dX5_best_10 rfl rfl ?_
    refine g_pVI (rest := [.ref (wA w 38)]) (v := oU x 0 28) C mv_X5_164 (ct_X5_isWrong l w hN σ x) (Nat.lt_of_lt_of_le (by decide) hN) rfl rfl (by decide) rfl (Nat.le_of_ble_eq_true rfl) dX5_best_11 ?_
    refine g_callVI (rest := []) C mv_X5_64 (ct_X5_no l w hN σ (kO x 0) (kO_in _ _) (oU x 0 28) (outk hoc)) (Nat.lt_of_lt_of_le (by decide) hN) rfl rfl (by decide) rfl (Nat.le_of_ble_eq_true rfl) dX5_best_14 (fun r3 σ_3 h3 => ?_)
    obtain ⟨er3, hrf⟩ := h3
    rw [er3]
    refine g_goto (tgt := 28) C dX5_best_17 rfl ?_
    refine g_iret C r rfl dX5_best_28 ?_
    first | exact fm_r hC (kO_in _ _) hrf (by unfold spBos; rw [if_pos (outp hoc)]) (outv hoc) | exact fm_q hC hFb (by unfold spBos; rw [if_neg hz, nn_nj (n := m) (by omega)]) hrb
set_option maxRecDepth 100000 in
set_option maxHeartbeats 4000000 in
theorem ct_X5_buying (l : Launch) (w : WD) (hN : 54 ≤ wN w) (σ : SG) (a kp : Row) (tk nl : Nat) (lt : Nat → Nat) (qn : Nat) (qs : Nat → Nat) (rf : Nat → Int32) (hC : CM σ (a, kp, tk, (nl, lt), (qn, qs), rf)) (x : Int32) : CtI l w yX5_buying cX5_buying 2 (some .int) 8 0 0 [.ref (wA w 38), .int x] σ (fun r τ => r = (spBos 0 30 (a, kp, tk, (nl, lt), (qn, qs), rf) x).1 ∧ CM τ (spBos 0 30 (a, kp, tk, (nl, lt), (qn, qs), rf) x).2 ∧ Fr in38 σ τ) := by
  refine CtI.mk (by decide) (Nat.le_of_ble_eq_true rfl) ?_
  intro K C hr h0
  have r := RI.of hr h0
  clear hr h0
  show G l w K 0 [(0, .ref (wA w 38)), (1, .int x)] [] σ
  have hM : Mr σ 40 a := hC.2.1
  have hB : Bd a := hC.1.1.1
  have hd9 : a 1 ≤ 9999 := hC.1.1.2.1
  have hu9 : ∀ e, e < 4 → a (30 + 4 * e + 1) ≤ 9 := hC.1.1.2.2
  obtain ⟨hBa, hB0, hB1, hB2, hB3, hB4, hB5, hB6, hB7, hBs, hBp, hBe⟩ := id hB
  refine g_aload_n C dX5_buying_0 rfl rfl ?_
  refine g_iload_n C dX5_buying_1 rfl rfl ?_
  refine g_pVI (rest := []) (v := oU x 0 28) C mv_X5_164 (ct_X5_isWrong l w hN σ x) (Nat.lt_of_lt_of_le (by decide) hN) rfl rfl (by decide) rfl (Nat.le_of_ble_eq_true rfl) dX5_buying_2 ?_
  refine g_if_ge (tgt := 20) C dX5_buying_5 rfl (fun c5_1 => ?_) (fun c5_1 => ?_)
  · skip
    have hz := oU_p (lo := 0) (hi := 28) c5_1
    obtain ⟨m, hm, rfl⟩ := nj_of4 (m := 28) hz
    refine g_aload_n C dX5_buying_20 rfl rfl ?_
    refine g_iconst C dX5_buying_21 ic_2 ?_
    refine g_bipush C dX5_buying_22 bp_30 ?_
    refine g_iload_n C dX5_buying_24 rfl rfl ?_
    refine g_callVI (rest := []) C mv_X5_180 (ct_X5_bestAt l w hN σ a hM hB hd9 2 0 rfl (by decide) 30 rfl (by decide) m hm) (Nat.lt_of_lt_of_le (by decide) hN) rfl rfl (by decide) rfl (Nat.le_of_ble_eq_true rfl) dX5_buying_25 (fun r2 σ_2 h2 => ?_)
    obtain ⟨er2, hb24, hFb⟩ := h2
    have hrb := er2
    refine g_iret C r rfl dX5_buying_28 ?_
    first | exact fm_r hC (kO_in _ _) hrf (by unfold spBos; rw [if_pos (outp hoc)]) (outv hoc) | exact fm_q hC hFb (by unfold spBos; rw [if_neg hz, nn_nj (n := m) (by omega)]) hrb
  · skip
    have hoc := oU_z c5_1
    refine g_aload_n C dX5_buying_8 rfl rfl ?_
    refine g_aload_n C dX5_buying_9 rfl rfl ?_
    refine g_iload_n C dX5_buying_10 rfl rfl ?_
    refine g_pVI (rest := [.ref (wA w 38)]) (v := oU x 0 28) C mv_X5_164 (ct_X5_isWrong l w hN σ x) (Nat.lt_of_lt_of_le (by decide) hN) rfl rfl (by decide) rfl (Nat.le_of_ble_eq_true rfl) dX5_buying_11 ?_
    refine g_callVI (rest := []) C mv_X5_64 (ct_X5_no l w hN σ (kO x 0) (kO_in _ _) (oU x 0 28) (outk hoc)) (Nat.lt_of_lt_of_le (by decide) hN) rfl rfl (by decide) rfl (Nat.le_of_ble_eq_true rfl) dX5_buying_14 (fun r3 σ_3 h3 => ?_)
    obtain ⟨er3, hrf⟩ := h3
    rw [er3]
    refine g_goto (tgt := 28) C dX5_buying_17 rfl ?_
    refine g_iret C r rfl dX5_buying_28 ?_
    first | exact fm_r hC (kO_in _ _) hrf (by unfold spBos; rw [if_pos (outp hoc)]) (outv hoc) | exact fm_q hC hFb (by unfold spBos; rw [if_neg hz, nn_nj (n := m) (by omega)]) hrb
set_option maxRecDepth 100000 in
set_option maxHeartbeats 4000000 in
theorem ct_X5_half (l : Launch) (w : WD) (hN : 54 ≤ wN w) (σ : SG) (a kp : Row) (tk nl : Nat) (lt : Nat → Nat) (qn : Nat) (qs : Nat → Nat) (rf : Nat → Int32) (hC : CM σ (a, kp, tk, (nl, lt), (qn, qs), rf)) (x : Int32) : CtI l w yX5_half cX5_half 2 (some .int) 8 0 0 [.ref (wA w 38), .int x] σ (fun r τ => r = (spBos 1 9 (a, kp, tk, (nl, lt), (qn, qs), rf) x).1 ∧ CM τ (spBos 1 9 (a, kp, tk, (nl, lt), (qn, qs), rf) x).2 ∧ Fr in38 σ τ) := by
  refine CtI.mk (by decide) (Nat.le_of_ble_eq_true rfl) ?_
  intro K C hr h0
  have r := RI.of hr h0
  clear hr h0
  show G l w K 0 [(0, .ref (wA w 38)), (1, .int x)] [] σ
  have hM : Mr σ 40 a := hC.2.1
  have hB : Bd a := hC.1.1.1
  have hd9 : a 1 ≤ 9999 := hC.1.1.2.1
  have hu9 : ∀ e, e < 4 → a (30 + 4 * e + 1) ≤ 9 := hC.1.1.2.2
  obtain ⟨hBa, hB0, hB1, hB2, hB3, hB4, hB5, hB6, hB7, hBs, hBp, hBe⟩ := id hB
  refine g_aload_n C dX5_half_0 rfl rfl ?_
  refine g_iload_n C dX5_half_1 rfl rfl ?_
  refine g_pVI (rest := []) (v := oU x 0 28) C mv_X5_164 (ct_X5_isWrong l w hN σ x) (Nat.lt_of_lt_of_le (by decide) hN) rfl rfl (by decide) rfl (Nat.le_of_ble_eq_true rfl) dX5_half_2 ?_
  refine g_if_ge (tgt := 20) C dX5_half_5 rfl (fun c5_1 => ?_) (fun c5_1 => ?_)
  · skip
    have hz := oU_p (lo := 0) (hi := 28) c5_1
    obtain ⟨m, hm, rfl⟩ := nj_of4 (m := 28) hz
    refine g_aload_n C dX5_half_20 rfl rfl ?_
    refine g_iconst C dX5_half_21 ic_3 ?_
    refine g_bipush C dX5_half_22 bp_9 ?_
    refine g_iload_n C dX5_half_24 rfl rfl ?_
    refine g_callVI (rest := []) C mv_X5_180 (ct_X5_bestAt l w hN σ a hM hB hd9 3 1 rfl (by decide) 9 rfl (by decide) m hm) (Nat.lt_of_lt_of_le (by decide) hN) rfl rfl (by decide) rfl (Nat.le_of_ble_eq_true rfl) dX5_half_25 (fun r2 σ_2 h2 => ?_)
    obtain ⟨er2, hb24, hFb⟩ := h2
    have hrb := er2
    refine g_iret C r rfl dX5_half_28 ?_
    first | exact fm_r hC (kO_in _ _) hrf (by unfold spBos; rw [if_pos (outp hoc)]) (outv hoc) | exact fm_q hC hFb (by unfold spBos; rw [if_neg hz, nn_nj (n := m) (by omega)]) hrb
  · skip
    have hoc := oU_z c5_1
    refine g_aload_n C dX5_half_8 rfl rfl ?_
    refine g_aload_n C dX5_half_9 rfl rfl ?_
    refine g_iload_n C dX5_half_10 rfl rfl ?_
    refine g_pVI (rest := [.ref (wA w 38)]) (v := oU x 0 28) C mv_X5_164 (ct_X5_isWrong l w hN σ x) (Nat.lt_of_lt_of_le (by decide) hN) rfl rfl (by decide) rfl (Nat.le_of_ble_eq_true rfl) dX5_half_11 ?_
    refine g_callVI (rest := []) C mv_X5_64 (ct_X5_no l w hN σ (kO x 0) (kO_in _ _) (oU x 0 28) (outk hoc)) (Nat.lt_of_lt_of_le (by decide) hN) rfl rfl (by decide) rfl (Nat.le_of_ble_eq_true rfl) dX5_half_14 (fun r3 σ_3 h3 => ?_)
    obtain ⟨er3, hrf⟩ := h3
    rw [er3]
    refine g_goto (tgt := 28) C dX5_half_17 rfl ?_
    refine g_iret C r rfl dX5_half_28 ?_
    first | exact fm_r hC (kO_in _ _) hrf (by unfold spBos; rw [if_pos (outp hoc)]) (outv hoc) | exact fm_q hC hFb (by unfold spBos; rw [if_neg hz, nn_nj (n := m) (by omega)]) hrb
set_option maxRecDepth 100000 in
set_option maxHeartbeats 4000000 in
theorem ct_X5_pays (l : Launch) (w : WD) (hN : 54 ≤ wN w) (σ : SG) (a kp : Row) (tk nl : Nat) (lt : Nat → Nat) (qn : Nat) (qs : Nat → Nat) (rf : Nat → Int32) (hC : CM σ (a, kp, tk, (nl, lt), (qn, qs), rf)) (x : Int32) : CtI l w yX5_pays cX5_pays 3 (some .int) 8 0 0 [.ref (wA w 38), .int x] σ (fun r τ => r = (spPays (a, kp, tk, (nl, lt), (qn, qs), rf) x).1 ∧ CM τ (spPays (a, kp, tk, (nl, lt), (qn, qs), rf) x).2 ∧ Fr in38 σ τ) := by
  refine CtI.mk (by decide) (Nat.le_of_ble_eq_true rfl) ?_
  intro K C hr h0
  have r := RI.of hr h0
  clear hr h0
  show G l w K 0 [(0, .ref (wA w 38)), (1, .int x)] [] σ
  have hM : Mr σ 40 a := hC.2.1
  have hB : Bd a := hC.1.1.1
  have hd9 : a 1 ≤ 9999 := hC.1.1.2.1
  have hu9 : ∀ e, e < 4 → a (30 + 4 * e + 1) ≤ 9 := hC.1.1.2.2
  obtain ⟨hBa, hB0, hB1, hB2, hB3, hB4, hB5, hB6, hB7, hBs, hBp, hBe⟩ := id hB
  refine g_aload_n C dX5_pays_0 rfl rfl ?_
  refine g_iload_n C dX5_pays_1 rfl rfl ?_
  refine g_pVI (rest := []) (v := oU x 0 28) C mv_X5_164 (ct_X5_isWrong l w hN σ x) (Nat.lt_of_lt_of_le (by decide) hN) rfl rfl (by decide) rfl (Nat.le_of_ble_eq_true rfl) dX5_pays_2 ?_
  refine g_if_ge (tgt := 21) C dX5_pays_5 rfl (fun c5_1 => ?_) (fun c5_1 => ?_)
  · skip
    have hz := oU_p (lo := 0) (hi := 28) c5_1
    obtain ⟨m, hm, rfl⟩ := nj_of4 (m := 28) hz
    refine g_aload_n C dX5_pays_21 rfl rfl ?_
    refine g_iconst C dX5_pays_22 ic_3 ?_
    refine g_bipush C dX5_pays_23 bp_9 ?_
    refine g_iload_n C dX5_pays_25 rfl rfl ?_
    refine g_callVI (rest := []) C mv_X5_180 (ct_X5_bestAt l w hN σ a hM hB hd9 3 1 rfl (by decide) 9 rfl (by decide) m hm) (Nat.lt_of_lt_of_le (by decide) hN) rfl rfl (by decide) rfl (Nat.le_of_ble_eq_true rfl) dX5_pays_26 (fun r2 σb h2 => ?_)
    obtain ⟨er2, hb24, hFb⟩ := h2
    have hMb : Mr σb 40 a := hM.fr (hFb.1 40 (by decide) (by decide) (by decide) (by decide) (by decide) (by decide))
    refine g_pop C dX5_pays_29 rfl ?_
    refine g_aload_n C dX5_pays_30 rfl rfl ?_
    refine g_get (v := .int (σb 38 24)) C fl_X5_177 fs_X5_177 (Nat.lt_of_lt_of_le (by decide) hN) rfl rfl dX5_pays_31 ?_
    refine g_val (y := (chF (fun v => nV (ua a (2 + 1) v) 0 m) (fun _ => true) (9 + 1)).2) hb24 ?_
    refine g_istore_n (lv' := [(2, .int ((chF (fun v => nV (ua a (2 + 1) v) 0 m) (fun _ => true) (9 + 1)).2)), (0, .ref (wA w 38)), (1, .int (nI m))]) C dX5_pays_34 rfl (by decide) rfl ?_
    refine g_aload_n C dX5_pays_35 rfl rfl ?_
    refine g_get (v := .ref (wA w 40)) C fl_X5_13 fs_X5_13 (Nat.lt_of_lt_of_le (by decide) hN) rfl rfl dX5_pays_36 ?_
    refine g_aload_n C dX5_pays_39 rfl rfl ?_
    refine g_get (v := .ref (wA w 41)) C fl_X5_16 fs_X5_16 (Nat.lt_of_lt_of_le (by decide) hN) rfl rfl dX5_pays_40 ?_
    refine g_callSV (rest := []) C ms_X5_60 (ct_X5_move l w hN σb 40 (Nat.lt_of_lt_of_le (by decide) hN) rfl 41 (Nat.lt_of_lt_of_le (by decide) hN) rfl (by decide) a hMb) rfl (by decide) rfl (Nat.le_of_ble_eq_true rfl) dX5_pays_43 (fun σt h3 => ?_)
    obtain ⟨hMt, hFt⟩ := h3
    refine g_aload_n C dX5_pays_46 rfl rfl ?_
    refine g_get (v := .ref (wA w 41)) C fl_X5_16 fs_X5_16 (Nat.lt_of_lt_of_le (by decide) hN) rfl rfl dX5_pays_47 ?_
    refine g_iconst C dX5_pays_50 ic_3 ?_
    refine g_iconst C dX5_pays_51 ic_0 ?_
    refine g_ias (k0 := 41) (n := 46) C (Nat.lt_of_lt_of_le (by decide) hN) rfl (j := 3) (by unfold ix; decide) dX5_pays_52 (fun σu hσu => ?_)
    have hMu : Mr σu 41 (ua a (2 + 1) 0) := by rw [hσu]; exact hMt.u (v := 0)
    have hBu : Bd (ua a (2 + 1) 0) := hB.ut (by omega) (by decide) (by omega)
    refine g_iload_n C dX5_pays_53 rfl rfl ?_
    refine g_aload_n C dX5_pays_54 rfl rfl ?_
    refine g_iload_n C dX5_pays_55 rfl rfl ?_
    refine g_callVI (rest := [.int ((chF (fun v => nV (ua a (2 + 1) v) 0 m) (fun _ => true) (9 + 1)).2)]) C mv_X5_171 (ct_X5_valueOf l w hN σu (ua a (2 + 1) 0) hMu hBu (by show a 1 ≤ 28000; omega) m (by omega)) (Nat.lt_of_lt_of_le (by decide) hN) rfl rfl (by decide) rfl (Nat.le_of_ble_eq_true rfl) dX5_pays_56 (fun r4 σp h4 => ?_)
    obtain ⟨er4, hFg⟩ := h4
    subst er4
    refine g_isubv (v := ((chF (fun v => nV (ua a (2 + 1) v) 0 m) (fun _ => true) (9 + 1)).2) - (nV (ua a (2 + 1) 0) 0 m)) C rfl dX5_pays_59 ?_
    refine g_iret C r rfl dX5_pays_60 ?_
    refine fm_q hC (hFb.tr (((FrM.f hFt (by decide)).tr (by rw [hσu]; exact FrM.u (by decide))).tr hFg).n) ?_ rfl
    unfold spPays
    rw [if_neg hz, nn_nj (n := m) (by omega)]
  · skip
    have hoc := oU_z c5_1
    refine g_ldc C cs_X5_163 dX5_pays_8 ?_
    refine g_aload_n C dX5_pays_10 rfl rfl ?_
    refine g_aload_n C dX5_pays_11 rfl rfl ?_
    refine g_iload_n C dX5_pays_12 rfl rfl ?_
    refine g_pVI (rest := [.ref (wA w 38), .int 1000000000]) (v := oU x 0 28) C mv_X5_164 (ct_X5_isWrong l w hN σ x) (Nat.lt_of_lt_of_le (by decide) hN) rfl rfl (by decide) rfl (Nat.le_of_ble_eq_true rfl) dX5_pays_13 ?_
    refine g_callVI (rest := [.int 1000000000]) C mv_X5_64 (ct_X5_no l w hN σ (kO x 0) (kO_in _ _) (oU x 0 28) (outk hoc)) (Nat.lt_of_lt_of_le (by decide) hN) rfl rfl (by decide) rfl (Nat.le_of_ble_eq_true rfl) dX5_pays_16 (fun r5 σ_5 h5 => ?_)
    obtain ⟨er5, hrf⟩ := h5
    rw [er5]
    refine g_isubv (v := 1000000000 - (oU x 0 28)) C rfl dX5_pays_19 ?_
    refine g_iret C r rfl dX5_pays_20 ?_
    exact fm_t hC (kO_in _ _) hrf (by unfold spPays; rw [if_pos (outp hoc)]) (outv hoc) rfl

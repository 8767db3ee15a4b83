set_option maxRecDepth 100000 in
set_option maxHeartbeats 4000000 in
theorem ct_X4_within (l : Launch) (w : WD) (hN : 54 ≤ wN w) (σ : SG) (v x y : Int32) : CtI l w yX4_within cX4_within 3 (some .boolean) 1 0 0 [.int v, .int x, .int y] σ (fun r τ => r = bI (x ≤ v ∧ v ≤ y) ∧ τ = σ) := by
  refine CtI.mk (by decide) (Nat.le_of_ble_eq_true rfl) ?_
  intro K C hr h0
  have r := RI.of hr h0
  clear hr h0
  show G l w K 0 [(0, .int v), (1, .int x), (2, .int y)] [] σ
  refine g_iload_n C dX4_within_0 rfl rfl ?_
  refine g_iload_n C dX4_within_1 rfl rfl ?_
  refine g_icmp_lt (tgt := 14) C dX4_within_2 rfl (fun c2_1 => ?_) (fun c2_1 => ?_)
  · skip
    refine g_iconst C dX4_within_14 ic_0 ?_
    refine g_iret C r rfl dX4_within_15 ?_
    refine ⟨?_, rfl⟩
    clear r C
    grind
  · skip
    refine g_iload_n C dX4_within_5 rfl rfl ?_
    refine g_iload_n C dX4_within_6 rfl rfl ?_
    refine g_icmp_gt (tgt := 14) C dX4_within_7 rfl (fun c7_2 => ?_) (fun c7_2 => ?_)
    · skip
      refine g_iconst C dX4_within_14 ic_0 ?_
      refine g_iret C r rfl dX4_within_15 ?_
      refine ⟨?_, rfl⟩
      clear r C
      grind
    · skip
      refine g_iconst C dX4_within_10 ic_1 ?_
      refine g_goto (tgt := 15) C dX4_within_11 rfl ?_
      refine g_iret C r rfl dX4_within_15 ?_
      refine ⟨?_, rfl⟩
      clear r C
      grind
set_option maxRecDepth 100000 in
set_option maxHeartbeats 4000000 in
theorem ct_X4_isAge (l : Launch) (w : WD) (hN : 54 ≤ wN w) (σ : SG) (v : Int32) : CtI l w yX4_isAge cX4_isAge 1 (some .boolean) 1 0 0 [.int v] σ (fun r τ => r = bI (0 ≤ v ∧ v < 5) ∧ τ = σ) := by
  refine CtI.mk (by decide) (Nat.le_of_ble_eq_true rfl) ?_
  intro K C hr h0
  have r := RI.of hr h0
  clear hr h0
  show G l w K 0 [(0, .int v)] [] σ
  refine g_iload_n C dX4_isAge_0 rfl rfl ?_
  refine g_if_lt (tgt := 13) C dX4_isAge_1 rfl (fun c1_1 => ?_) (fun c1_1 => ?_)
  · skip
    refine g_iconst C dX4_isAge_13 ic_0 ?_
    refine g_iret C r rfl dX4_isAge_14 ?_
    refine ⟨?_, rfl⟩
    clear r C
    grind
  · skip
    refine g_iload_n C dX4_isAge_4 rfl rfl ?_
    refine g_iconst C dX4_isAge_5 ic_5 ?_
    refine g_icmp_ge (tgt := 13) C dX4_isAge_6 rfl (fun c6_2 => ?_) (fun c6_2 => ?_)
    · skip
      refine g_iconst C dX4_isAge_13 ic_0 ?_
      refine g_iret C r rfl dX4_isAge_14 ?_
      refine ⟨?_, rfl⟩
      clear r C
      grind
    · skip
      refine g_iconst C dX4_isAge_9 ic_1 ?_
      refine g_goto (tgt := 14) C dX4_isAge_10 rfl ?_
      refine g_iret C r rfl dX4_isAge_14 ?_
      refine ⟨?_, rfl⟩
      clear r C
      grind
set_option maxRecDepth 100000 in
set_option maxHeartbeats 4000000 in
theorem ct_X4_outside (l : Launch) (w : WD) (hN : 54 ≤ wN w) (σ : SG) (v x y : Int32) : CtI l w yX4_outside cX4_outside 3 (some .int) 1 0 0 [.int v, .int x, .int y] σ (fun r τ => r = (if v < x then -4 else if y < v then -6 else 0) ∧ τ = σ) := by
  refine CtI.mk (by decide) (Nat.le_of_ble_eq_true rfl) ?_
  intro K C hr h0
  have r := RI.of hr h0
  clear hr h0
  show G l w K 0 [(0, .int v), (1, .int x), (2, .int y)] [] σ
  refine g_iload_n C dX4_outside_0 rfl rfl ?_
  refine g_iload_n C dX4_outside_1 rfl rfl ?_
  refine g_icmp_ge (tgt := 8) C dX4_outside_2 rfl (fun c2_1 => ?_) (fun c2_1 => ?_)
  · skip
    refine g_iload_n C dX4_outside_8 rfl rfl ?_
    refine g_iload_n C dX4_outside_9 rfl rfl ?_
    refine g_icmp_le (tgt := 18) C dX4_outside_10 rfl (fun c10_2 => ?_) (fun c10_2 => ?_)
    · skip
      refine g_iconst C dX4_outside_18 ic_0 ?_
      refine g_iret C r rfl dX4_outside_19 ?_
      refine ⟨?_, rfl⟩
      clear r C
      grind
    · skip
      refine g_bipush C dX4_outside_13 bp_m6 ?_
      refine g_goto (tgt := 19) C dX4_outside_15 rfl ?_
      refine g_iret C r rfl dX4_outside_19 ?_
      refine ⟨?_, rfl⟩
      clear r C
      grind
  · skip
    refine g_bipush C dX4_outside_5 bp_m4 ?_
    refine g_iret C r rfl dX4_outside_7 ?_
    refine ⟨?_, rfl⟩
    clear r C
    grind
set_option maxRecDepth 100000 in
set_option maxHeartbeats 4000000 in
theorem ct_X4_refuse (l : Launch) (w : WD) (hN : 54 ≤ wN w) (σ : SG) (k : Nat) (hk : 1 ≤ k ∧ k ≤ 6) (x : Int32) (hx : -x = nI k) : CtI l w yX4_refuse cX4_refuse 2 (some .int) 2 0 0 [.ref (wA w 0), .int x] σ (fun r τ => r = x ∧ τ = up σ 35 k (σ 35 k + 1)) := by
  refine CtI.mk (by decide) (Nat.le_of_ble_eq_true rfl) ?_
  intro K C hr h0
  have r := RI.of hr h0
  clear hr h0
  show G l w K 0 [(0, .ref (wA w 0)), (1, .int x)] [] σ
  refine g_iload_n C dX4_refuse_0 rfl rfl ?_
  refine g_ineg C dX4_refuse_1 ?_
  refine g_iconst C dX4_refuse_2 ic_1 ?_
  refine g_bipush C dX4_refuse_3 bp_6 ?_
  refine g_pSI (rest := []) (v := bI (1 ≤ -x ∧ -x ≤ 6)) C ms_X4_83 (ct_X4_within l w hN σ (-x) 1 6) rfl (by decide) rfl (Nat.le_of_ble_eq_true rfl) dX4_refuse_5 ?_
  refine g_if_eq (tgt := 22) C dX4_refuse_8 rfl (fun c8_1 => ?_) (fun c8_1 => ?_)
  · skip
    have n8_1 : ¬ (1 ≤ -x ∧ -x ≤ 6) := bI_0 c8_1
    exfalso
    rw [hx] at n8_1; exact n8_1 ⟨(nj_le (a := 1) (by omega) (by omega)).mpr hk.1, (nj_le (b := 6) (by omega) (by omega)).mpr hk.2⟩
  · skip
    have n8_1 : (1 ≤ -x ∧ -x ≤ 6) := bI_1 c8_1
    refine g_aload_n C dX4_refuse_11 rfl rfl ?_
    refine g_get (v := .ref (wA w 35)) C fl_X4_47 fs_X4_47 (Nat.lt_of_lt_of_le (by decide) hN) rfl rfl dX4_refuse_12 ?_
    refine g_iload_n C dX4_refuse_15 rfl rfl ?_
    refine g_ineg C dX4_refuse_16 ?_
    refine g_dup2 C dX4_refuse_17 rfl rfl ?_
    refine g_ial (k0 := 35) (n := 7) C (Nat.lt_of_lt_of_le (by decide) hN) rfl (j := k) (by rw [hx]; exact ix_n (by omega)) dX4_refuse_18 ?_
    refine g_iconst C dX4_refuse_19 ic_1 ?_
    refine g_iaddv (v := (σ 35 k) + 1) C rfl dX4_refuse_20 ?_
    refine g_ias (k0 := 35) (n := 7) C (Nat.lt_of_lt_of_le (by decide) hN) rfl (j := k) (by rw [hx]; exact ix_n (by omega)) dX4_refuse_21 (fun σ_2 hσ_2 => ?_)
    refine g_iload_n C dX4_refuse_22 rfl rfl ?_
    refine g_iret C r rfl dX4_refuse_23 ?_
    exact ⟨rfl, hσ_2⟩
set_option maxRecDepth 100000 in
set_option maxHeartbeats 4000000 in
theorem ct_X0_clear (l : Launch) (w : WD) (hN : 54 ≤ wN w) (σ : SG) : CtV l w yX0_clear cX0_clear 1 1 0 0 [.ref (wA w 31)] σ (fun τ => τ = up (up σ 31 0 (-9)) 31 1 0) := by
  refine CtV.mk (by decide) (Nat.le_of_ble_eq_true rfl) ?_
  intro K C hr h0
  have r := RV.of hr h0
  clear hr h0
  show G l w K 0 [(0, .ref (wA w 31))] [] σ
  refine g_aload_n C dX0_clear_0 rfl rfl ?_
  refine g_bipush C dX0_clear_1 bp_m9 ?_
  refine g_putn C fp_X0_9 (Nat.lt_of_lt_of_le (by decide) hN) rfl rfl (Nat.le_of_ble_eq_true rfl) rfl rfl dX0_clear_3 (fun σ_1 hσ_1 => ?_)
  refine g_aload_n C dX0_clear_6 rfl rfl ?_
  refine g_iconst C dX0_clear_7 ic_0 ?_
  refine g_putn C fp_X0_15 (Nat.lt_of_lt_of_le (by decide) hN) rfl rfl (Nat.le_of_ble_eq_true rfl) rfl rfl dX0_clear_8 (fun σ_2 hσ_2 => ?_)
  refine g_vret C r dX0_clear_11 ?_
  clear r C; subst_vars; rfl
set_option maxRecDepth 100000 in
set_option maxHeartbeats 4000000 in
theorem ct_X0_offer (l : Launch) (w : WD) (hN : 54 ≤ wN w) (σ : SG) (x v : Int32) : CtV l w yX0_offer cX0_offer 3 1 0 0 [.ref (wA w 31), .int x, .int v] σ (fun τ => τ = if σ 31 0 = -9 ∨ σ 31 1 < v then up (up σ 31 0 x) 31 1 v else σ) := by
  refine CtV.mk (by decide) (Nat.le_of_ble_eq_true rfl) ?_
  intro K C hr h0
  have r := RV.of hr h0
  clear hr h0
  show G l w K 0 [(0, .ref (wA w 31)), (1, .int x), (2, .int v)] [] σ
  refine g_aload_n C dX0_offer_0 rfl rfl ?_
  refine g_get (v := .int (σ 31 0)) C fl_X0_9 fs_X0_9 (Nat.lt_of_lt_of_le (by decide) hN) rfl rfl dX0_offer_1 ?_
  refine g_bipush C dX0_offer_4 bp_m9 ?_
  refine g_icmp_eq (tgt := 17) C dX0_offer_6 rfl (fun c6_1 => ?_) (fun c6_1 => ?_)
  · skip
    refine g_aload_n C dX0_offer_17 rfl rfl ?_
    refine g_iload_n C dX0_offer_18 rfl rfl ?_
    refine g_putn C fp_X0_9 (Nat.lt_of_lt_of_le (by decide) hN) rfl rfl (Nat.le_of_ble_eq_true rfl) rfl rfl dX0_offer_19 (fun σ_2 hσ_2 => ?_)
    refine g_aload_n C dX0_offer_22 rfl rfl ?_
    refine g_iload_n C dX0_offer_23 rfl rfl ?_
    refine g_putn C fp_X0_15 (Nat.lt_of_lt_of_le (by decide) hN) rfl rfl (Nat.le_of_ble_eq_true rfl) rfl rfl dX0_offer_24 (fun σ_3 hσ_3 => ?_)
    refine g_vret C r dX0_offer_27 ?_
    clear r C; subst_vars; grind
  · skip
    refine g_iload_n C dX0_offer_9 rfl rfl ?_
    refine g_aload_n C dX0_offer_10 rfl rfl ?_
    refine g_get (v := .int (σ 31 1)) C fl_X0_15 fs_X0_15 (Nat.lt_of_lt_of_le (by decide) hN) rfl rfl dX0_offer_11 ?_
    refine g_icmp_le (tgt := 27) C dX0_offer_14 rfl (fun c14_4 => ?_) (fun c14_4 => ?_)
    · skip
      refine g_vret C r dX0_offer_27 ?_
      clear r C; subst_vars; grind
    · skip
      refine g_aload_n C dX0_offer_17 rfl rfl ?_
      refine g_iload_n C dX0_offer_18 rfl rfl ?_
      refine g_putn C fp_X0_9 (Nat.lt_of_lt_of_le (by decide) hN) rfl rfl (Nat.le_of_ble_eq_true rfl) rfl rfl dX0_offer_19 (fun σ_5 hσ_5 => ?_)
      refine g_aload_n C dX0_offer_22 rfl rfl ?_
      refine g_iload_n C dX0_offer_23 rfl rfl ?_
      refine g_putn C fp_X0_15 (Nat.lt_of_lt_of_le (by decide) hN) rfl rfl (Nat.le_of_ble_eq_true rfl) rfl rfl dX0_offer_24 (fun σ_6 hσ_6 => ?_)
      refine g_vret C r dX0_offer_27 ?_
      clear r C; subst_vars; grind
set_option maxRecDepth 100000 in
set_option maxHeartbeats 4000000 in
theorem ct_X3_addBought (l : Launch) (w : WD) (hN : 54 ≤ wN w) (σ : SG) (x v : Int32) : CtV l w yX3_addBought cX3_addBought 3 1 0 0 [.ref (wA w 28), .int x, .int v] σ (fun τ => τ = up (up σ 29 5 (σ 29 5 + x)) 29 0 (σ 29 0 - x * v)) := by
  refine CtV.mk (by decide) (Nat.le_of_ble_eq_true rfl) ?_
  intro K C hr h0
  have r := RV.of hr h0
  clear hr h0
  show G l w K 0 [(0, .ref (wA w 28)), (1, .int x), (2, .int v)] [] σ
  refine g_aload_n C dX3_addBought_0 rfl rfl ?_
  refine g_get (v := .ref (wA w 29)) C fl_X3_9 fs_X3_9 (Nat.lt_of_lt_of_le (by decide) hN) rfl rfl dX3_addBought_1 ?_
  refine g_iconst C dX3_addBought_4 ic_5 ?_
  refine g_dup2 C dX3_addBought_5 rfl rfl ?_
  refine g_ial (k0 := 29) (n := 6) C (Nat.lt_of_lt_of_le (by decide) hN) rfl (j := 5) (by unfold ix; decide) dX3_addBought_6 ?_
  refine g_iload_n C dX3_addBought_7 rfl rfl ?_
  refine g_iaddv (v := (σ 29 5) + x) C rfl dX3_addBought_8 ?_
  refine g_ias (k0 := 29) (n := 6) C (Nat.lt_of_lt_of_le (by decide) hN) rfl (j := 5) (by unfold ix; decide) dX3_addBought_9 (fun σ_1 hσ_1 => ?_)
  refine g_aload_n C dX3_addBought_10 rfl rfl ?_
  refine g_get (v := .ref (wA w 29)) C fl_X3_9 fs_X3_9 (Nat.lt_of_lt_of_le (by decide) hN) rfl rfl dX3_addBought_11 ?_
  refine g_iconst C dX3_addBought_14 ic_0 ?_
  refine g_dup2 C dX3_addBought_15 rfl rfl ?_
  refine g_ial (k0 := 29) (n := 6) C (Nat.lt_of_lt_of_le (by decide) hN) rfl (j := 0) (by unfold ix; decide) dX3_addBought_16 ?_
  refine g_iload_n C dX3_addBought_17 rfl rfl ?_
  refine g_iload_n C dX3_addBought_18 rfl rfl ?_
  refine g_imulv (v := x * v) C rfl dX3_addBought_19 ?_
  refine g_isubv (v := (σ_1 29 0) - (x * v)) C rfl dX3_addBought_20 ?_
  refine g_ias (k0 := 29) (n := 6) C (Nat.lt_of_lt_of_le (by decide) hN) rfl (j := 0) (by unfold ix; decide) dX3_addBought_21 (fun σ_2 hσ_2 => ?_)
  refine g_vret C r dX3_addBought_22 ?_
  clear r C; subst_vars; simp [up_at]
set_option maxRecDepth 100000 in
set_option maxHeartbeats 4000000 in
theorem ct_X3_addLacked (l : Launch) (w : WD) (hN : 54 ≤ wN w) (σ : SG) (x v : Int32) : CtV l w yX3_addLacked cX3_addLacked 3 1 0 0 [.ref (wA w 28), .int x, .int v] σ (fun τ => τ = up (up σ 29 4 (σ 29 4 + x)) 29 0 (σ 29 0 - x * v)) := by
  refine CtV.mk (by decide) (Nat.le_of_ble_eq_true rfl) ?_
  intro K C hr h0
  have r := RV.of hr h0
  clear hr h0
  show G l w K 0 [(0, .ref (wA w 28)), (1, .int x), (2, .int v)] [] σ
  refine g_aload_n C dX3_addLacked_0 rfl rfl ?_
  refine g_get (v := .ref (wA w 29)) C fl_X3_9 fs_X3_9 (Nat.lt_of_lt_of_le (by decide) hN) rfl rfl dX3_addLacked_1 ?_
  refine g_iconst C dX3_addLacked_4 ic_4 ?_
  refine g_dup2 C dX3_addLacked_5 rfl rfl ?_
  refine g_ial (k0 := 29) (n := 6) C (Nat.lt_of_lt_of_le (by decide) hN) rfl (j := 4) (by unfold ix; decide) dX3_addLacked_6 ?_
  refine g_iload_n C dX3_addLacked_7 rfl rfl ?_
  refine g_iaddv (v := (σ 29 4) + x) C rfl dX3_addLacked_8 ?_
  refine g_ias (k0 := 29) (n := 6) C (Nat.lt_of_lt_of_le (by decide) hN) rfl (j := 4) (by unfold ix; decide) dX3_addLacked_9 (fun σ_1 hσ_1 => ?_)
  refine g_aload_n C dX3_addLacked_10 rfl rfl ?_
  refine g_get (v := .ref (wA w 29)) C fl_X3_9 fs_X3_9 (Nat.lt_of_lt_of_le (by decide) hN) rfl rfl dX3_addLacked_11 ?_
  refine g_iconst C dX3_addLacked_14 ic_0 ?_
  refine g_dup2 C dX3_addLacked_15 rfl rfl ?_
  refine g_ial (k0 := 29) (n := 6) C (Nat.lt_of_lt_of_le (by decide) hN) rfl (j := 0) (by unfold ix; decide) dX3_addLacked_16 ?_
  refine g_iload_n C dX3_addLacked_17 rfl rfl ?_
  refine g_iload_n C dX3_addLacked_18 rfl rfl ?_
  refine g_imulv (v := x * v) C rfl dX3_addLacked_19 ?_
  refine g_isubv (v := (σ_1 29 0) - (x * v)) C rfl dX3_addLacked_20 ?_
  refine g_ias (k0 := 29) (n := 6) C (Nat.lt_of_lt_of_le (by decide) hN) rfl (j := 0) (by unfold ix; decide) dX3_addLacked_21 (fun σ_2 hσ_2 => ?_)
  refine g_vret C r dX3_addLacked_22 ?_
  clear r C; subst_vars; simp [up_at]
set_option maxRecDepth 100000 in
set_option maxHeartbeats 4000000 in
theorem ct_X3_addThrown (l : Launch) (w : WD) (hN : 54 ≤ wN w) (σ : SG) (x v : Int32) : CtV l w yX3_addThrown cX3_addThrown 3 1 0 0 [.ref (wA w 28), .int x, .int v] σ (fun τ => τ = up (up σ 29 3 (σ 29 3 + x)) 29 0 (σ 29 0 - x * v)) := by
  refine CtV.mk (by decide) (Nat.le_of_ble_eq_true rfl) ?_
  intro K C hr h0
  have r := RV.of hr h0
  clear hr h0
  show G l w K 0 [(0, .ref (wA w 28)), (1, .int x), (2, .int v)] [] σ
  refine g_aload_n C dX3_addThrown_0 rfl rfl ?_
  refine g_get (v := .ref (wA w 29)) C fl_X3_9 fs_X3_9 (Nat.lt_of_lt_of_le (by decide) hN) rfl rfl dX3_addThrown_1 ?_
  refine g_iconst C dX3_addThrown_4 ic_3 ?_
  refine g_dup2 C dX3_addThrown_5 rfl rfl ?_
  refine g_ial (k0 := 29) (n := 6) C (Nat.lt_of_lt_of_le (by decide) hN) rfl (j := 3) (by unfold ix; decide) dX3_addThrown_6 ?_
  refine g_iload_n C dX3_addThrown_7 rfl rfl ?_
  refine g_iaddv (v := (σ 29 3) + x) C rfl dX3_addThrown_8 ?_
  refine g_ias (k0 := 29) (n := 6) C (Nat.lt_of_lt_of_le (by decide) hN) rfl (j := 3) (by unfold ix; decide) dX3_addThrown_9 (fun σ_1 hσ_1 => ?_)
  refine g_aload_n C dX3_addThrown_10 rfl rfl ?_
  refine g_get (v := .ref (wA w 29)) C fl_X3_9 fs_X3_9 (Nat.lt_of_lt_of_le (by decide) hN) rfl rfl dX3_addThrown_11 ?_
  refine g_iconst C dX3_addThrown_14 ic_0 ?_
  refine g_dup2 C dX3_addThrown_15 rfl rfl ?_
  refine g_ial (k0 := 29) (n := 6) C (Nat.lt_of_lt_of_le (by decide) hN) rfl (j := 0) (by unfold ix; decide) dX3_addThrown_16 ?_
  refine g_iload_n C dX3_addThrown_17 rfl rfl ?_
  refine g_iload_n C dX3_addThrown_18 rfl rfl ?_
  refine g_imulv (v := x * v) C rfl dX3_addThrown_19 ?_
  refine g_isubv (v := (σ_1 29 0) - (x * v)) C rfl dX3_addThrown_20 ?_
  refine g_ias (k0 := 29) (n := 6) C (Nat.lt_of_lt_of_le (by decide) hN) rfl (j := 0) (by unfold ix; decide) dX3_addThrown_21 (fun σ_2 hσ_2 => ?_)
  refine g_vret C r dX3_addThrown_22 ?_
  clear r C; subst_vars; simp [up_at]
set_option maxRecDepth 100000 in
set_option maxHeartbeats 4000000 in
theorem ct_X1_has (l : Launch) (w : WD) (hN : 54 ≤ wN w) (σ : SG) (b : Nat) (hb : HB b) (x : Int32) : CtI l w yX1_has cX1_has 2 (some .boolean) 1 0 0 [.ref (wA w b), .int x] σ (fun r τ => r = bI (0 ≤ x ∧ x < σ b 4) ∧ τ = σ) := by
  refine CtI.mk (by decide) (Nat.le_of_ble_eq_true rfl) ?_
  intro K C hr h0
  have r := RI.of hr h0
  clear hr h0
  show G l w K 0 [(0, .ref (wA w b)), (1, .int x)] [] σ
  refine g_iload_n C dX1_has_0 rfl rfl ?_
  refine g_if_lt (tgt := 16) C dX1_has_1 rfl (fun c1_1 => ?_) (fun c1_1 => ?_)
  · skip
    refine g_iconst C dX1_has_16 ic_0 ?_
    refine g_iret C r rfl dX1_has_17 ?_
    refine ⟨?_, rfl⟩
    clear r C
    grind
  · skip
    refine g_iload_n C dX1_has_4 rfl rfl ?_
    refine g_aload_n C dX1_has_5 rfl rfl ?_
    refine g_get (v := .int (σ b 4)) C fl_X1_32 fs_X1_32 (HB.n0 hb hN) (HB.ou hb _) rfl dX1_has_6 ?_
    refine g_icmp_ge (tgt := 16) C dX1_has_9 rfl (fun c9_2 => ?_) (fun c9_2 => ?_)
    · skip
      refine g_iconst C dX1_has_16 ic_0 ?_
      refine g_iret C r rfl dX1_has_17 ?_
      refine ⟨?_, rfl⟩
      clear r C
      grind
    · skip
      refine g_iconst C dX1_has_12 ic_1 ?_
      refine g_goto (tgt := 17) C dX1_has_13 rfl ?_
      refine g_iret C r rfl dX1_has_17 ?_
      refine ⟨?_, rfl⟩
      clear r C
      grind
set_option maxRecDepth 100000 in
set_option maxHeartbeats 4000000 in
theorem ct_X1_allSlices (l : Launch) (w : WD) (hN : 54 ≤ wN w) (σ : SG) (b : Nat) (hb : HB b) (a : Row) (hH : Hh σ b a) (hB : Bd a) : CtI l w yX1_allSlices cX1_allSlices 3 (some .int) 1 0 0 [.ref (wA w b)] σ (fun r τ => r = nI (sumN (fun k => a (10 + k)) 5) ∧ τ = σ) := by
  refine CtI.mk (by decide) (Nat.le_of_ble_eq_true rfl) ?_
  intro K C hr h0
  have r := RI.of hr h0
  clear hr h0
  show G l w K 0 [(0, .ref (wA w b))] [] σ
  refine g_iconst C dX1_allSlices_0 ic_0 ?_
  refine g_istore_n (lv' := [(1, .int 0), (0, .ref (wA w b))]) C dX1_allSlices_1 rfl (by decide) rfl ?_
  refine g_iconst C dX1_allSlices_2 ic_0 ?_
  refine g_istore_n (lv' := [(2, .int 0), (1, .int 0), (0, .ref (wA w b))]) C dX1_allSlices_3 rfl (by decide) rfl ?_
  have L4 : ∀ (m4 : Nat) (k : Nat), m4 = 5 - k → (k ≤ 5) → G l w K 4 [(0, .ref (wA w b)), (1, .int (nI (sumN (fun k => a (10 + k)) k))), (2, .int (nI k))] [] σ := by
    intro m4
    induction m4 using Nat.strongRecOn with
    | ind m4 ih4 =>
    intro k em4 hk
    refine g_iload_n C dX1_allSlices_4 rfl rfl ?_
    refine g_iconst C dX1_allSlices_5 ic_5 ?_
    refine g_icmp_ge (tgt := 24) C dX1_allSlices_6 rfl (fun c6_1 => ?_) (fun c6_1 => ?_)
    · skip
      have n6_1 : 5 ≤ k := (nj_le (a := 5) (b := k) (by omega) (by omega)).mp c6_1
      refine g_iload_n C dX1_allSlices_24 rfl rfl ?_
      refine g_iret C r rfl dX1_allSlices_25 ?_
      obtain rfl : k = 5 := by omega
      exact ⟨rfl, rfl⟩
    · skip
      have n6_1 : ¬ (5 ≤ k) := fun qq => c6_1 ((nj_le (a := 5) (b := k) (by omega) (by omega)).mpr qq)
      refine g_iload_n C dX1_allSlices_9 rfl rfl ?_
      refine g_aload_n C dX1_allSlices_10 rfl rfl ?_
      refine g_get (v := .ref (wA w (b + 1))) C fl_X1_9 fs_X1_9 (HB.n0 hb hN) (HB.ou hb _) rfl dX1_allSlices_11 ?_
      refine g_iload_n C dX1_allSlices_14 rfl rfl ?_
      refine g_ial (k0 := (b + 1)) (n := 5) C (HB.n hb hN (by decide)) (HB.s hb) (j := k) (ix_n (by omega)) dX1_allSlices_15 ?_
      refine g_val (y := nI (a (10 + k))) (Hh.s hH (by omega)) ?_
      refine g_iaddv (v := nI ((sumN (fun k => a (10 + k)) k) + (a (10 + k)))) C (nj_plus (sumN (fun k => a (10 + k)) k) (a (10 + k))) dX1_allSlices_16 ?_
      refine g_istore_n (lv' := [(1, .int (nI ((sumN (fun k => a (10 + k)) k) + (a (10 + k))))), (0, .ref (wA w b)), (2, .int (nI k))]) C dX1_allSlices_17 rfl (by decide) rfl ?_
      refine g_iinc (v := nI (k + 1)) (lv' := [(2, .int (nI (k + 1))), (1, .int (nI ((sumN (fun k => a (10 + k)) k) + (a (10 + k))))), (0, .ref (wA w b))]) C dX1_allSlices_18 (by decide) rfl (nj_inc k) rfl ?_
      refine g_goto (tgt := 4) C dX1_allSlices_21 rfl ?_
      exact g_lvp [2, 1, 0] rfl (ih4 (5 - (k + 1)) (by omega) (k + 1) rfl (by first | omega | assumption | rfl | grind))
  exact g_lvp [2, 1, 0] rfl (L4 (5 - 0) 0 rfl (by first | omega | assumption | rfl | grind))
set_option maxRecDepth 100000 in
set_option maxHeartbeats 4000000 in
theorem ct_X1_openDays (l : Launch) (w : WD) (hN : 54 ≤ wN w) (σ : SG) (b : Nat) (hb : HB b) (a : Row) (hH : Hh σ b a) (hB : Bd a) : CtI l w yX1_openDays cX1_openDays 3 (some .int) 1 0 0 [.ref (wA w b)] σ (fun r τ => r = nI (sumN (fun k => a (20 + k)) 7) ∧ τ = σ) := by
  refine CtI.mk (by decide) (Nat.le_of_ble_eq_true rfl) ?_
  intro K C hr h0
  have r := RI.of hr h0
  clear hr h0
  show G l w K 0 [(0, .ref (wA w b))] [] σ
  refine g_iconst C dX1_openDays_0 ic_0 ?_
  refine g_istore_n (lv' := [(1, .int 0), (0, .ref (wA w b))]) C dX1_openDays_1 rfl (by decide) rfl ?_
  refine g_iconst C dX1_openDays_2 ic_0 ?_
  refine g_istore_n (lv' := [(2, .int 0), (1, .int 0), (0, .ref (wA w b))]) C dX1_openDays_3 rfl (by decide) rfl ?_
  have L4 : ∀ (m4 : Nat) (k : Nat), m4 = 7 - k → (k ≤ 7) → G l w K 4 [(0, .ref (wA w b)), (1, .int (nI (sumN (fun k => a (20 + k)) k))), (2, .int (nI k))] [] σ := by
    intro m4
    induction m4 using Nat.strongRecOn with
    | ind m4 ih4 =>
    intro k em4 hk
    refine g_iload_n C dX1_openDays_4 rfl rfl ?_
    refine g_bipush C dX1_openDays_5 bp_7 ?_
    refine g_icmp_ge (tgt := 25) C dX1_openDays_7 rfl (fun c7_1 => ?_) (fun c7_1 => ?_)
    · skip
      have n7_1 : 7 ≤ k := (nj_le (a := 7) (b := k) (by omega) (by omega)).mp c7_1
      refine g_iload_n C dX1_openDays_25 rfl rfl ?_
      refine g_iret C r rfl dX1_openDays_26 ?_
      obtain rfl : k = 7 := by omega
      exact ⟨rfl, rfl⟩
    · skip
      have n7_1 : ¬ (7 ≤ k) := fun qq => c7_1 ((nj_le (a := 7) (b := k) (by omega) (by omega)).mpr qq)
      refine g_iload_n C dX1_openDays_10 rfl rfl ?_
      refine g_aload_n C dX1_openDays_11 rfl rfl ?_
      refine g_get (v := .ref (wA w (b + 2))) C fl_X1_15 fs_X1_15 (HB.n0 hb hN) (HB.ou hb _) rfl dX1_openDays_12 ?_
      refine g_iload_n C dX1_openDays_15 rfl rfl ?_
      refine g_ial (k0 := (b + 2)) (n := 7) C (HB.n hb hN (by decide)) (HB.p hb) (j := k) (ix_n (by omega)) dX1_openDays_16 ?_
      refine g_val (y := nI (a (20 + k))) (Hh.p hH (by omega)) ?_
      refine g_iaddv (v := nI ((sumN (fun k => a (20 + k)) k) + (a (20 + k)))) C (nj_plus (sumN (fun k => a (20 + k)) k) (a (20 + k))) dX1_openDays_17 ?_
      refine g_istore_n (lv' := [(1, .int (nI ((sumN (fun k => a (20 + k)) k) + (a (20 + k))))), (0, .ref (wA w b)), (2, .int (nI k))]) C dX1_openDays_18 rfl (by decide) rfl ?_
      refine g_iinc (v := nI (k + 1)) (lv' := [(2, .int (nI (k + 1))), (1, .int (nI ((sumN (fun k => a (20 + k)) k) + (a (20 + k))))), (0, .ref (wA w b))]) C dX1_openDays_19 (by decide) rfl (nj_inc k) rfl ?_
      refine g_goto (tgt := 4) C dX1_openDays_22 rfl ?_
      exact g_lvp [2, 1, 0] rfl (ih4 (7 - (k + 1)) (by omega) (k + 1) rfl (by first | omega | assumption | rfl | grind))
  exact g_lvp [2, 1, 0] rfl (L4 (7 - 0) 0 rfl (by first | omega | assumption | rfl | grind))
set_option maxRecDepth 100000 in
set_option maxHeartbeats 4000000 in
theorem ct_X1_allHunger (l : Launch) (w : WD) (hN : 54 ≤ wN w) (σ : SG) (b : Nat) (hb : HB b) (a : Row) (hH : Hh σ b a) (hB : Bd a) : CtI l w yX1_allHunger cX1_allHunger 3 (some .int) 1 0 0 [.ref (wA w b)] σ (fun r τ => r = nI (sumN (fun e => a (30 + 4 * e + 1)) (a 0)) ∧ τ = σ) := by
  refine CtI.mk (by decide) (Nat.le_of_ble_eq_true rfl) ?_
  intro K C hr h0
  have r := RI.of hr h0
  clear hr h0
  show G l w K 0 [(0, .ref (wA w b))] [] σ
  obtain ⟨hBa, hB0, hB1, hB2, hB3, hB4, hB5, hB6, hB7, hBs, hBp, hBe⟩ := id hB
  refine g_iconst C dX1_allHunger_0 ic_0 ?_
  refine g_istore_n (lv' := [(1, .int 0), (0, .ref (wA w b))]) C dX1_allHunger_1 rfl (by decide) rfl ?_
  refine g_iconst C dX1_allHunger_2 ic_0 ?_
  refine g_istore_n (lv' := [(2, .int 0), (1, .int 0), (0, .ref (wA w b))]) C dX1_allHunger_3 rfl (by decide) rfl ?_
  have L4 : ∀ (m4 : Nat) (e : Nat), m4 = a 0 - e → (e ≤ a 0) → G l w K 4 [(0, .ref (wA w b)), (1, .int (nI (sumN (fun e => a (30 + 4 * e + 1)) e))), (2, .int (nI e))] [] σ := by
    intro m4
    induction m4 using Nat.strongRecOn with
    | ind m4 ih4 =>
    intro e em4 he
    refine g_iload_n C dX1_allHunger_4 rfl rfl ?_
    refine g_aload_n C dX1_allHunger_5 rfl rfl ?_
    refine g_get (v := .int (σ b 4)) C fl_X1_32 fs_X1_32 (HB.n0 hb hN) (HB.ou hb _) rfl dX1_allHunger_6 ?_
    refine g_val (y := nI (a 0)) (Hh.c hH) ?_
    refine g_icmp_ge (tgt := 29) C dX1_allHunger_9 rfl (fun c9_1 => ?_) (fun c9_1 => ?_)
    · skip
      have n9_1 : a 0 ≤ e := (nj_le (a := a 0) (b := e) (by have := hBa 0; omega) (by have := hBa 0; omega)).mp c9_1
      refine g_iload_n C dX1_allHunger_29 rfl rfl ?_
      refine g_iret C r rfl dX1_allHunger_30 ?_
      obtain rfl : e = a 0 := by omega
      exact ⟨rfl, rfl⟩
    · skip
      have n9_1 : ¬ (a 0 ≤ e) := fun qq => c9_1 ((nj_le (a := a 0) (b := e) (by have := hBa 0; omega) (by have := hBa 0; omega)).mpr qq)
      refine g_iload_n C dX1_allHunger_12 rfl rfl ?_
      refine g_aload_n C dX1_allHunger_13 rfl rfl ?_
      refine g_get (v := .ref (wA w (b + 4))) C fl_X1_23 fs_X1_23 (HB.n0 hb hN) (HB.ou hb _) rfl dX1_allHunger_14 ?_
      refine g_iload_n C dX1_allHunger_17 rfl rfl ?_
      refine g_aal (k0 := (b + 4)) (b := b) C (HB.n hb hN (by decide)) (HB.e hb) (j := e) (ix_n (by omega)) dX1_allHunger_18 ?_
      refine g_iconst C dX1_allHunger_19 ic_1 ?_
      refine g_ial (k0 := (b + 5 + e)) (n := 4) C (HB.nr hb hN (by omega)) (HB.r hb (by omega)) (j := 1) (by unfold ix; decide) dX1_allHunger_20 ?_
      refine g_val (y := nI (a (30 + 4 * e + 1))) (Hh.e hH (by omega) (by omega)) ?_
      refine g_iaddv (v := nI ((sumN (fun e => a (30 + 4 * e + 1)) e) + (a (30 + 4 * e + 1)))) C (nj_plus (sumN (fun e => a (30 + 4 * e + 1)) e) (a (30 + 4 * e + 1))) dX1_allHunger_21 ?_
      refine g_istore_n (lv' := [(1, .int (nI ((sumN (fun e => a (30 + 4 * e + 1)) e) + (a (30 + 4 * e + 1))))), (0, .ref (wA w b)), (2, .int (nI e))]) C dX1_allHunger_22 rfl (by decide) rfl ?_
      refine g_iinc (v := nI (e + 1)) (lv' := [(2, .int (nI (e + 1))), (1, .int (nI ((sumN (fun e => a (30 + 4 * e + 1)) e) + (a (30 + 4 * e + 1))))), (0, .ref (wA w b))]) C dX1_allHunger_23 (by decide) rfl (nj_inc e) rfl ?_
      refine g_goto (tgt := 4) C dX1_allHunger_26 rfl ?_
      exact g_lvp [2, 1, 0] rfl (ih4 (a 0 - (e + 1)) (by omega) (e + 1) rfl (by first | omega | assumption | rfl | grind))
  exact g_lvp [2, 1, 0] rfl (L4 (a 0 - 0) 0 rfl (by first | omega | assumption | rfl | grind))
set_option maxRecDepth 100000 in
set_option maxHeartbeats 4000000 in
theorem ct_X1_inReach (l : Launch) (w : WD) (hN : 54 ≤ wN w) (σ : SG) (b : Nat) (hb : HB b) (a : Row) (hH : Hh σ b a) (hB : Bd a) (g : Nat) (hg : g < 5) : CtI l w yX1_inReach cX1_inReach 4 (some .int) 1 0 0 [.ref (wA w b), .int (nI g)] σ (fun r τ => r = inRj a g ∧ τ = σ) := by
  refine CtI.mk (by decide) (Nat.le_of_ble_eq_true rfl) ?_
  intro K C hr h0
  have r := RI.of hr h0
  clear hr h0
  show G l w K 0 [(0, .ref (wA w b)), (1, .int (nI g))] [] σ
  obtain ⟨hBa, hB0, hB1, hB2, hB3, hB4, hB5, hB6, hB7, hBs, hBp, hBe⟩ := id hB
  refine g_aload_n C dX1_inReach_0 rfl rfl ?_
  refine g_get (v := .ref (wA w (b + 3))) C fl_X1_18 fs_X1_18 (HB.n0 hb hN) (HB.ou hb _) rfl dX1_inReach_1 ?_
  refine g_iconst C dX1_inReach_4 ic_5 ?_
  refine g_ial (k0 := (b + 3)) (n := 6) C (HB.n hb hN (by decide)) (HB.t hb) (j := 5) (by unfold ix; decide) dX1_inReach_5 ?_
  refine g_val (y := nI (a 7)) (Hh.t hH (by omega)) ?_
  refine g_istore_n (lv' := [(2, .int (nI (a 7))), (0, .ref (wA w b)), (1, .int (nI g))]) C dX1_inReach_6 rfl (by decide) rfl ?_
  refine g_iload_n C dX1_inReach_7 rfl rfl ?_
  refine g_if_ne (tgt := 25) C dX1_inReach_8 rfl (fun c8_1 => ?_) (fun c8_1 => ?_)
  · skip
    have n8_1 : ¬ (g = 0) := fun qq => c8_1 ((nj_eq (a := g) (b := 0) (by omega) (by omega)).mpr qq)
    refine g_iconst C dX1_inReach_25 ic_0 ?_
    refine g_istore_n (lv' := [(3, .int 0), (2, .int (nI (a 7))), (0, .ref (wA w b)), (1, .int (nI g))]) C dX1_inReach_26 rfl (by decide) rfl ?_
    refine g_iload_n C dX1_inReach_27 rfl rfl ?_
    refine g_if_eq (tgt := 42) C dX1_inReach_28 rfl (fun c28_2 => ?_) (fun c28_2 => ?_)
    · skip
      refine g_aload_n C dX1_inReach_42 rfl rfl ?_
      refine g_get (v := .ref (wA w (b + 1))) C fl_X1_9 fs_X1_9 (HB.n0 hb hN) (HB.ou hb _) rfl dX1_inReach_43 ?_
      refine g_iload_n C dX1_inReach_46 rfl rfl ?_
      refine g_ial (k0 := (b + 1)) (n := 5) C (HB.n hb hN (by decide)) (HB.s hb) (j := g) (ix_n (by omega)) dX1_inReach_47 ?_
      refine g_val (y := nI (a (10 + g))) (Hh.s hH (by omega)) ?_
      refine g_iret C r rfl dX1_inReach_48 ?_
      refine ⟨?_, rfl⟩
      clear r C
      unfold inRj
      first | rw [if_pos (by omega)] | rw [if_neg (by omega)]
      all_goals rfl
    · exact absurd c28_2 (by decide)
  · skip
    have n8_1 : g = 0 := (nj_eq (a := g) (b := 0) (by omega) (by omega)).mp c8_1
    refine g_iload_n C dX1_inReach_11 rfl rfl ?_
    refine g_iconst C dX1_inReach_12 ic_3 ?_
    refine g_icmp_eq (tgt := 21) C dX1_inReach_13 rfl (fun c13_3 => ?_) (fun c13_3 => ?_)
    · skip
      have n13_3 : a 7 = 3 := (nj_eq (a := a 7) (b := 3) (by have := hBa 7; omega) (by have := hBa 7; omega)).mp c13_3
      refine g_iconst C dX1_inReach_21 ic_1 ?_
      refine g_goto (tgt := 26) C dX1_inReach_22 rfl ?_
      refine g_istore_n (lv' := [(3, .int 1), (2, .int (nI (a 7))), (0, .ref (wA w b)), (1, .int (nI g))]) C dX1_inReach_26 rfl (by decide) rfl ?_
      refine g_iload_n C dX1_inReach_27 rfl rfl ?_
      refine g_if_eq (tgt := 42) C dX1_inReach_28 rfl (fun c28_4 => ?_) (fun c28_4 => ?_)
      · exact absurd c28_4 (by decide)
      · skip
        refine g_aload_n C dX1_inReach_31 rfl rfl ?_
        refine g_get (v := .ref (wA w (b + 1))) C fl_X1_9 fs_X1_9 (HB.n0 hb hN) (HB.ou hb _) rfl dX1_inReach_32 ?_
        refine g_iload_n C dX1_inReach_35 rfl rfl ?_
        refine g_ial (k0 := (b + 1)) (n := 5) C (HB.n hb hN (by decide)) (HB.s hb) (j := g) (ix_n (by omega)) dX1_inReach_36 ?_
        refine g_val (y := nI (a (10 + g))) (Hh.s hH (by omega)) ?_
        refine g_iconst C dX1_inReach_37 ic_3 ?_
        refine g_isubv (v := (nI (a (10 + g))) - 3) C rfl dX1_inReach_38 ?_
        refine g_goto (tgt := 48) C dX1_inReach_39 rfl ?_
        refine g_iret C r rfl dX1_inReach_48 ?_
        refine ⟨?_, rfl⟩
        clear r C
        unfold inRj
        first | rw [if_pos (by omega)] | rw [if_neg (by omega)]
        all_goals rfl
    · skip
      have n13_3 : ¬ (a 7 = 3) := fun qq => c13_3 ((nj_eq (a := a 7) (b := 3) (by have := hBa 7; omega) (by have := hBa 7; omega)).mpr qq)
      refine g_iload_n C dX1_inReach_16 rfl rfl ?_
      refine g_iconst C dX1_inReach_17 ic_5 ?_
      refine g_icmp_ne (tgt := 25) C dX1_inReach_18 rfl (fun c18_5 => ?_) (fun c18_5 => ?_)
      · skip
        have n18_5 : ¬ (a 7 = 5) := fun qq => c18_5 ((nj_eq (a := a 7) (b := 5) (by have := hBa 7; omega) (by have := hBa 7; omega)).mpr qq)
        refine g_iconst C dX1_inReach_25 ic_0 ?_
        refine g_istore_n (lv' := [(3, .int 0), (2, .int (nI (a 7))), (0, .ref (wA w b)), (1, .int (nI g))]) C dX1_inReach_26 rfl (by decide) rfl ?_
        refine g_iload_n C dX1_inReach_27 rfl rfl ?_
        refine g_if_eq (tgt := 42) C dX1_inReach_28 rfl (fun c28_6 => ?_) (fun c28_6 => ?_)
        · skip
          refine g_aload_n C dX1_inReach_42 rfl rfl ?_
          refine g_get (v := .ref (wA w (b + 1))) C fl_X1_9 fs_X1_9 (HB.n0 hb hN) (HB.ou hb _) rfl dX1_inReach_43 ?_
          refine g_iload_n C dX1_inReach_46 rfl rfl ?_
          refine g_ial (k0 := (b + 1)) (n := 5) C (HB.n hb hN (by decide)) (HB.s hb) (j := g) (ix_n (by omega)) dX1_inReach_47 ?_
          refine g_val (y := nI (a (10 + g))) (Hh.s hH (by omega)) ?_
          refine g_iret C r rfl dX1_inReach_48 ?_
          refine ⟨?_, rfl⟩
          clear r C
          unfold inRj
          first | rw [if_pos (by omega)] | rw [if_neg (by omega)]
          all_goals rfl
        · exact absurd c28_6 (by decide)
      · skip
        have n18_5 : a 7 = 5 := (nj_eq (a := a 7) (b := 5) (by have := hBa 7; omega) (by have := hBa 7; omega)).mp c18_5
        refine g_iconst C dX1_inReach_21 ic_1 ?_
        refine g_goto (tgt := 26) C dX1_inReach_22 rfl ?_
        refine g_istore_n (lv' := [(3, .int 1), (2, .int (nI (a 7))), (0, .ref (wA w b)), (1, .int (nI g))]) C dX1_inReach_26 rfl (by decide) rfl ?_
        refine g_iload_n C dX1_inReach_27 rfl rfl ?_
        refine g_if_eq (tgt := 42) C dX1_inReach_28 rfl (fun c28_7 => ?_) (fun c28_7 => ?_)
        · exact absurd c28_7 (by decide)
        · skip
          refine g_aload_n C dX1_inReach_31 rfl rfl ?_
          refine g_get (v := .ref (wA w (b + 1))) C fl_X1_9 fs_X1_9 (HB.n0 hb hN) (HB.ou hb _) rfl dX1_inReach_32 ?_
          refine g_iload_n C dX1_inReach_35 rfl rfl ?_
          refine g_ial (k0 := (b + 1)) (n := 5) C (HB.n hb hN (by decide)) (HB.s hb) (j := g) (ix_n (by omega)) dX1_inReach_36 ?_
          refine g_val (y := nI (a (10 + g))) (Hh.s hH (by omega)) ?_
          refine g_iconst C dX1_inReach_37 ic_3 ?_
          refine g_isubv (v := (nI (a (10 + g))) - 3) C rfl dX1_inReach_38 ?_
          refine g_goto (tgt := 48) C dX1_inReach_39 rfl ?_
          refine g_iret C r rfl dX1_inReach_48 ?_
          refine ⟨?_, rfl⟩
          clear r C
          unfold inRj
          first | rw [if_pos (by omega)] | rw [if_neg (by omega)]
          all_goals rfl
set_option maxRecDepth 100000 in
set_option maxHeartbeats 4000000 in
theorem ct_X1_worthTo (l : Launch) (w : WD) (hN : 54 ≤ wN w) (σ : SG) (b : Nat) (hb : HB b) (a : Row) (hH : Hh σ b a) (hB : Bd a) (e g : Nat) (he : e < 4) (hg : g < 5) : CtI l w yX1_worthTo cX1_worthTo 8 (some .int) 1 0 0 [.ref (wA w b), .int (nI e), .int (nI g)] σ (fun r τ => r = wJ a e g ∧ τ = σ) := by
  refine CtI.mk (by decide) (Nat.le_of_ble_eq_true rfl) ?_
  intro K C hr h0
  have r := RI.of hr h0
  clear hr h0
  show G l w K 0 [(0, .ref (wA w b)), (1, .int (nI e)), (2, .int (nI g))] [] σ
  obtain ⟨hBa, hB0, hB1, hB2, hB3, hB4, hB5, hB6, hB7, hBs, hBp, hBe⟩ := id hB
  have hBk := hBe e he
  refine g_aload_n C dX1_worthTo_0 rfl rfl ?_
  refine g_get (v := .ref (wA w (b + 4))) C fl_X1_23 fs_X1_23 (HB.n0 hb hN) (HB.ou hb _) rfl dX1_worthTo_1 ?_
  refine g_iload_n C dX1_worthTo_4 rfl rfl ?_
  refine g_aal (k0 := (b + 4)) (b := b) C (HB.n hb hN (by decide)) (HB.e hb) (j := e) (ix_n (by omega)) dX1_worthTo_5 ?_
  refine g_iconst C dX1_worthTo_6 ic_2 ?_
  refine g_ial (k0 := (b + 5 + e)) (n := 4) C (HB.nr hb hN (by omega)) (HB.r hb (by omega)) (j := 2) (by unfold ix; decide) dX1_worthTo_7 ?_
  refine g_val (y := nI (a (30 + 4 * e + 2))) (Hh.e hH (by omega) (by omega)) ?_
  refine g_istore_n (lv' := [(3, .int (nI (a (30 + 4 * e + 2)))), (0, .ref (wA w b)), (1, .int (nI e)), (2, .int (nI g))]) C dX1_worthTo_8 rfl (by decide) rfl ?_
  refine g_aload_n C dX1_worthTo_9 rfl rfl ?_
  refine g_get (v := .ref (wA w (b + 4))) C fl_X1_23 fs_X1_23 (HB.n0 hb hN) (HB.ou hb _) rfl dX1_worthTo_10 ?_
  refine g_iload_n C dX1_worthTo_13 rfl rfl ?_
  refine g_aal (k0 := (b + 4)) (b := b) C (HB.n hb hN (by decide)) (HB.e hb) (j := e) (ix_n (by omega)) dX1_worthTo_14 ?_
  refine g_iconst C dX1_worthTo_15 ic_0 ?_
  refine g_ial (k0 := (b + 5 + e)) (n := 4) C (HB.nr hb hN (by omega)) (HB.r hb (by omega)) (j := 0) (by unfold ix; decide) dX1_worthTo_16 ?_
  refine g_val (y := nI (a (30 + 4 * e))) (Hh.e hH (by omega) (by omega)) ?_
  refine g_istore (lv' := [(4, .int (nI (a (30 + 4 * e)))), (3, .int (nI (a (30 + 4 * e + 2)))), (0, .ref (wA w b)), (1, .int (nI e)), (2, .int (nI g))]) C dX1_worthTo_17 (by decide) rfl ?_
  refine g_iload_n C dX1_worthTo_19 rfl rfl ?_
  refine g_iload_n C dX1_worthTo_20 rfl rfl ?_
  refine g_icmp_le (tgt := 30) C dX1_worthTo_21 rfl (fun c21_1 => ?_) (fun c21_1 => ?_)
  · skip
    have n21_1 : a (30 + 4 * e + 2) ≤ g := (nj_le (a := a (30 + 4 * e + 2)) (b := g) (by have := hBa (30 + 4 * e + 2); omega) (by have := hBa (30 + 4 * e + 2); omega)).mp c21_1
    refine g_iconst C dX1_worthTo_30 ic_0 ?_
    refine g_istore (lv' := [(5, .int 0), (4, .int (nI (a (30 + 4 * e)))), (3, .int (nI (a (30 + 4 * e + 2)))), (0, .ref (wA w b)), (1, .int (nI e)), (2, .int (nI g))]) C dX1_worthTo_31 (by decide) rfl ?_
    refine g_iload C dX1_worthTo_33 rfl ?_
    by_cases s35_0 : nI (a (30 + 4 * e)) = 1
    · skip
      have ns35_0 : a (30 + 4 * e) = 1 := (nj_eq (a := a (30 + 4 * e)) (b := 1) (by have := hBa (30 + 4 * e); omega) (by have := hBa (30 + 4 * e); omega)).mp s35_0
      refine g_tsw (v := 1) (tgt := 68) C dX1_worthTo_35 s35_0 (by decide) (by decide) rfl rfl ?_
      refine g_iload_n C dX1_worthTo_68 rfl rfl ?_
      refine g_if_ne (tgt := 76) C dX1_worthTo_69 rfl (fun c69_2 => ?_) (fun c69_2 => ?_)
      · skip
        have n69_2 : ¬ (g = 0) := fun qq => c69_2 ((nj_eq (a := g) (b := 0) (by omega) (by omega)).mpr qq)
        refine g_iconst C dX1_worthTo_76 ic_m1 ?_
        refine g_iret C r rfl dX1_worthTo_77 ?_
        refine ⟨?_, rfl⟩
        clear r C
        simp only [wJ, wNt, eats]
        repeat first | rw [if_pos (by omega)] | rw [if_neg (by omega)]
        all_goals first | rfl | exact congrArg nI (by omega) | exact congrArg nI (show 0 = _ by omega)
      · skip
        have n69_2 : g = 0 := (nj_eq (a := g) (b := 0) (by omega) (by omega)).mp c69_2
        refine g_iload_n C dX1_worthTo_72 rfl rfl ?_
        refine g_goto (tgt := 77) C dX1_worthTo_73 rfl ?_
        refine g_iret C r rfl dX1_worthTo_77 ?_
        refine ⟨?_, rfl⟩
        clear r C
        simp only [wJ, wNt, eats]
        repeat first | rw [if_pos (by omega)] | rw [if_neg (by omega)]
        all_goals first | rfl | exact congrArg nI (by omega) | exact congrArg nI (show 0 = _ by omega)
    have ns35_0 : ¬ (a (30 + 4 * e) = 1) := fun qq => s35_0 ((nj_eq (a := a (30 + 4 * e)) (b := 1) (by have := hBa (30 + 4 * e); omega) (by have := hBa (30 + 4 * e); omega)).mpr qq)
    by_cases s35_1 : nI (a (30 + 4 * e)) = 2
    · skip
      have ns35_1 : a (30 + 4 * e) = 2 := (nj_eq (a := a (30 + 4 * e)) (b := 2) (by have := hBa (30 + 4 * e); omega) (by have := hBa (30 + 4 * e); omega)).mp s35_1
      refine g_tsw (v := 2) (tgt := 78) C dX1_worthTo_35 s35_1 (by decide) (by decide) rfl rfl ?_
      refine g_iload_n C dX1_worthTo_78 rfl rfl ?_
      refine g_iconst C dX1_worthTo_79 ic_3 ?_
      refine g_icmp_lt (tgt := 89) C dX1_worthTo_80 rfl (fun c80_3 => ?_) (fun c80_3 => ?_)
      · skip
        have n80_3 : g < 3 := (nj_lt (a := g) (b := 3) (by omega) (by omega)).mp c80_3
        refine g_iload C dX1_worthTo_89 rfl ?_
        refine g_iret C r rfl dX1_worthTo_91 ?_
        refine ⟨?_, rfl⟩
        clear r C
        simp only [wJ, wNt, eats]
        repeat first | rw [if_pos (by omega)] | rw [if_neg (by omega)]
        all_goals first | rfl | exact congrArg nI (by omega) | exact congrArg nI (show 0 = _ by omega)
      · skip
        have n80_3 : ¬ (g < 3) := fun qq => c80_3 ((nj_lt (a := g) (b := 3) (by omega) (by omega)).mpr qq)
        refine g_iload_n C dX1_worthTo_83 rfl rfl ?_
        refine g_iconst C dX1_worthTo_84 ic_1 ?_
        refine g_iaddv (v := nI ((a (30 + 4 * e + 2)) + 1)) C (nj_plus (a (30 + 4 * e + 2)) 1) dX1_worthTo_85 ?_
        refine g_goto (tgt := 91) C dX1_worthTo_86 rfl ?_
        refine g_iret C r rfl dX1_worthTo_91 ?_
        refine ⟨?_, rfl⟩
        clear r C
        simp only [wJ, wNt, eats]
        repeat first | rw [if_pos (by omega)] | rw [if_neg (by omega)]
        all_goals first | rfl | exact congrArg nI (by omega) | exact congrArg nI (show 0 = _ by omega)
    have ns35_1 : ¬ (a (30 + 4 * e) = 2) := fun qq => s35_1 ((nj_eq (a := a (30 + 4 * e)) (b := 2) (by have := hBa (30 + 4 * e); omega) (by have := hBa (30 + 4 * e); omega)).mpr qq)
    by_cases s35_2 : nI (a (30 + 4 * e)) = 3
    · skip
      have ns35_2 : a (30 + 4 * e) = 3 := (nj_eq (a := a (30 + 4 * e)) (b := 3) (by have := hBa (30 + 4 * e); omega) (by have := hBa (30 + 4 * e); omega)).mp s35_2
      refine g_tsw (v := 3) (tgt := 94) C dX1_worthTo_35 s35_2 (by decide) (by decide) rfl rfl ?_
      refine g_iload_n C dX1_worthTo_94 rfl rfl ?_
      refine g_iconst C dX1_worthTo_95 ic_1 ?_
      refine g_icmp_le (tgt := 101) C dX1_worthTo_96 rfl (fun c96_4 => ?_) (fun c96_4 => ?_)
      · skip
        have n96_4 : g ≤ 1 := (nj_le (a := g) (b := 1) (by omega) (by omega)).mp c96_4
        refine g_iload_n C dX1_worthTo_101 rfl rfl ?_
        refine g_if_ne (tgt := 109) C dX1_worthTo_102 rfl (fun c102_5 => ?_) (fun c102_5 => ?_)
        · skip
          have n102_5 : ¬ (g = 0) := fun qq => c102_5 ((nj_eq (a := g) (b := 0) (by omega) (by omega)).mpr qq)
          refine g_iload_n C dX1_worthTo_109 rfl rfl ?_
          refine g_iconst C dX1_worthTo_110 ic_2 ?_
          refine g_idivv (v := nI (a (30 + 4 * e + 2) / 2)) C (by decide) (nj_div2 (by have := hBa (30 + 4 * e + 2); omega)) dX1_worthTo_111 ?_
          refine g_istore (lv' := [(6, .int (nI (a (30 + 4 * e + 2) / 2))), (5, .int 0), (4, .int (nI (a (30 + 4 * e)))), (3, .int (nI (a (30 + 4 * e + 2)))), (0, .ref (wA w b)), (1, .int (nI e)), (2, .int (nI g))]) C dX1_worthTo_112 (by decide) rfl ?_
          refine g_iload C dX1_worthTo_114 rfl ?_
          refine g_iconst C dX1_worthTo_116 ic_5 ?_
          refine g_icmp_ne (tgt := 135) C dX1_worthTo_117 rfl (fun c117_6 => ?_) (fun c117_6 => ?_)
          · skip
            have n117_6 : ¬ (a (30 + 4 * e) = 5) := fun qq => c117_6 ((nj_eq (a := a (30 + 4 * e)) (b := 5) (by have := hBa (30 + 4 * e); omega) (by have := hBa (30 + 4 * e); omega)).mpr qq)
            refine g_iconst C dX1_worthTo_135 ic_0 ?_
            refine g_istore (lv' := [(7, .int 0), (6, .int (nI (a (30 + 4 * e + 2) / 2))), (5, .int 0), (4, .int (nI (a (30 + 4 * e)))), (3, .int (nI (a (30 + 4 * e + 2)))), (0, .ref (wA w b)), (1, .int (nI e)), (2, .int (nI g))]) C dX1_worthTo_136 (by decide) rfl ?_
            refine g_iload C dX1_worthTo_138 rfl ?_
            refine g_if_eq (tgt := 155) C dX1_worthTo_140 rfl (fun c140_7 => ?_) (fun c140_7 => ?_)
            · skip
              refine g_iload C dX1_worthTo_155 rfl ?_
              refine g_iret C r rfl dX1_worthTo_157 ?_
              refine ⟨?_, rfl⟩
              clear r C
              simp only [wJ, wNt, eats]
              repeat first | rw [if_pos (by omega)] | rw [if_neg (by omega)]
              all_goals first | rfl | exact congrArg nI (by omega) | exact congrArg nI (show 0 = _ by omega)
            · exact absurd c140_7 (by decide)
          · skip
            have n117_6 : a (30 + 4 * e) = 5 := (nj_eq (a := a (30 + 4 * e)) (b := 5) (by have := hBa (30 + 4 * e); omega) (by have := hBa (30 + 4 * e); omega)).mp c117_6
            refine g_aload_n C dX1_worthTo_120 rfl rfl ?_
            refine g_get (v := .int (σ b 5)) C fl_X1_36 fs_X1_36 (HB.n0 hb hN) (HB.ou hb _) rfl dX1_worthTo_121 ?_
            refine g_val (y := nI (a 1)) (Hh.d hH) ?_
            refine g_bipush C dX1_worthTo_124 bp_7 ?_
            refine g_iremv (v := nI (a 1 % 7)) C (by decide) (nj_rem (b := 7) (by have := hBa 1; omega) (by omega)) dX1_worthTo_126 ?_
            refine g_iconst C dX1_worthTo_127 ic_5 ?_
            refine g_icmp_lt (tgt := 135) C dX1_worthTo_128 rfl (fun c128_8 => ?_) (fun c128_8 => ?_)
            · skip
              have n128_8 : a 1 % 7 < 5 := (nj_lt (a := a 1 % 7) (b := 5) (by have := hBa 1; omega) (by have := hBa 1; omega)).mp c128_8
              refine g_iconst C dX1_worthTo_135 ic_0 ?_
              refine g_istore (lv' := [(7, .int 0), (6, .int (nI (a (30 + 4 * e + 2) / 2))), (5, .int 0), (4, .int (nI (a (30 + 4 * e)))), (3, .int (nI (a (30 + 4 * e + 2)))), (0, .ref (wA w b)), (1, .int (nI e)), (2, .int (nI g))]) C dX1_worthTo_136 (by decide) rfl ?_
              refine g_iload C dX1_worthTo_138 rfl ?_
              refine g_if_eq (tgt := 155) C dX1_worthTo_140 rfl (fun c140_9 => ?_) (fun c140_9 => ?_)
              · skip
                refine g_iload C dX1_worthTo_155 rfl ?_
                refine g_iret C r rfl dX1_worthTo_157 ?_
                refine ⟨?_, rfl⟩
                clear r C
                simp only [wJ, wNt, eats]
                repeat first | rw [if_pos (by omega)] | rw [if_neg (by omega)]
                all_goals first | rfl | exact congrArg nI (by omega) | exact congrArg nI (show 0 = _ by omega)
              · exact absurd c140_9 (by decide)
            · skip
              have n128_8 : ¬ (a 1 % 7 < 5) := fun qq => c128_8 ((nj_lt (a := a 1 % 7) (b := 5) (by have := hBa 1; omega) (by have := hBa 1; omega)).mpr qq)
              refine g_iconst C dX1_worthTo_131 ic_1 ?_
              refine g_goto (tgt := 136) C dX1_worthTo_132 rfl ?_
              refine g_istore (lv' := [(7, .int 1), (6, .int (nI (a (30 + 4 * e + 2) / 2))), (5, .int 0), (4, .int (nI (a (30 + 4 * e)))), (3, .int (nI (a (30 + 4 * e + 2)))), (0, .ref (wA w b)), (1, .int (nI e)), (2, .int (nI g))]) C dX1_worthTo_136 (by decide) rfl ?_
              refine g_iload C dX1_worthTo_138 rfl ?_
              refine g_if_eq (tgt := 155) C dX1_worthTo_140 rfl (fun c140_10 => ?_) (fun c140_10 => ?_)
              · exact absurd c140_10 (by decide)
              · skip
                refine g_iload C dX1_worthTo_143 rfl ?_
                refine g_if_le (tgt := 155) C dX1_worthTo_145 rfl (fun c145_11 => ?_) (fun c145_11 => ?_)
                · skip
                  have n145_11 : a (30 + 4 * e + 2) / 2 ≤ 0 := (nj_le (a := a (30 + 4 * e + 2) / 2) (b := 0) (by have := hBa (30 + 4 * e + 2); omega) (by have := hBa (30 + 4 * e + 2); omega)).mp c145_11
                  refine g_iload C dX1_worthTo_155 rfl ?_
                  refine g_iret C r rfl dX1_worthTo_157 ?_
                  refine ⟨?_, rfl⟩
                  clear r C
                  simp only [wJ, wNt, eats]
                  repeat first | rw [if_pos (by omega)] | rw [if_neg (by omega)]
                  all_goals first | rfl | exact congrArg nI (by omega) | exact congrArg nI (show 0 = _ by omega)
                · skip
                  have n145_11 : ¬ (a (30 + 4 * e + 2) / 2 ≤ 0) := fun qq => c145_11 ((nj_le (a := a (30 + 4 * e + 2) / 2) (b := 0) (by have := hBa (30 + 4 * e + 2); omega) (by have := hBa (30 + 4 * e + 2); omega)).mpr qq)
                  refine g_iload C dX1_worthTo_148 rfl ?_
                  refine g_iconst C dX1_worthTo_150 ic_1 ?_
                  refine g_isubv (v := nI ((a (30 + 4 * e + 2) / 2) - 1)) C (nj_minus (a := a (30 + 4 * e + 2) / 2) (b := 1) (by omega)) dX1_worthTo_151 ?_
                  refine g_goto (tgt := 157) C dX1_worthTo_152 rfl ?_
                  refine g_iret C r rfl dX1_worthTo_157 ?_
                  refine ⟨?_, rfl⟩
                  clear r C
                  simp only [wJ, wNt, eats]
                  repeat first | rw [if_pos (by omega)] | rw [if_neg (by omega)]
                  all_goals first | rfl | exact congrArg nI (by omega) | exact congrArg nI (show 0 = _ by omega)
        · skip
          have n102_5 : g = 0 := (nj_eq (a := g) (b := 0) (by omega) (by omega)).mp c102_5
          refine g_iload_n C dX1_worthTo_105 rfl rfl ?_
          refine g_goto (tgt := 112) C dX1_worthTo_106 rfl ?_
          refine g_istore (lv' := [(6, .int (nI (a (30 + 4 * e + 2)))), (5, .int 0), (4, .int (nI (a (30 + 4 * e)))), (3, .int (nI (a (30 + 4 * e + 2)))), (0, .ref (wA w b)), (1, .int (nI e)), (2, .int (nI g))]) C dX1_worthTo_112 (by decide) rfl ?_
          refine g_iload C dX1_worthTo_114 rfl ?_
          refine g_iconst C dX1_worthTo_116 ic_5 ?_
          refine g_icmp_ne (tgt := 135) C dX1_worthTo_117 rfl (fun c117_12 => ?_) (fun c117_12 => ?_)
          · skip
            have n117_12 : ¬ (a (30 + 4 * e) = 5) := fun qq => c117_12 ((nj_eq (a := a (30 + 4 * e)) (b := 5) (by have := hBa (30 + 4 * e); omega) (by have := hBa (30 + 4 * e); omega)).mpr qq)
            refine g_iconst C dX1_worthTo_135 ic_0 ?_
            refine g_istore (lv' := [(7, .int 0), (6, .int (nI (a (30 + 4 * e + 2)))), (5, .int 0), (4, .int (nI (a (30 + 4 * e)))), (3, .int (nI (a (30 + 4 * e + 2)))), (0, .ref (wA w b)), (1, .int (nI e)), (2, .int (nI g))]) C dX1_worthTo_136 (by decide) rfl ?_
            refine g_iload C dX1_worthTo_138 rfl ?_
            refine g_if_eq (tgt := 155) C dX1_worthTo_140 rfl (fun c140_13 => ?_) (fun c140_13 => ?_)
            · skip
              refine g_iload C dX1_worthTo_155 rfl ?_
              refine g_iret C r rfl dX1_worthTo_157 ?_
              refine ⟨?_, rfl⟩
              clear r C
              simp only [wJ, wNt, eats]
              repeat first | rw [if_pos (by omega)] | rw [if_neg (by omega)]
              all_goals first | rfl | exact congrArg nI (by omega) | exact congrArg nI (show 0 = _ by omega)
            · exact absurd c140_13 (by decide)
          · skip
            have n117_12 : a (30 + 4 * e) = 5 := (nj_eq (a := a (30 + 4 * e)) (b := 5) (by have := hBa (30 + 4 * e); omega) (by have := hBa (30 + 4 * e); omega)).mp c117_12
            refine g_aload_n C dX1_worthTo_120 rfl rfl ?_
            refine g_get (v := .int (σ b 5)) C fl_X1_36 fs_X1_36 (HB.n0 hb hN) (HB.ou hb _) rfl dX1_worthTo_121 ?_
            refine g_val (y := nI (a 1)) (Hh.d hH) ?_
            refine g_bipush C dX1_worthTo_124 bp_7 ?_
            refine g_iremv (v := nI (a 1 % 7)) C (by decide) (nj_rem (b := 7) (by have := hBa 1; omega) (by omega)) dX1_worthTo_126 ?_
            refine g_iconst C dX1_worthTo_127 ic_5 ?_
            refine g_icmp_lt (tgt := 135) C dX1_worthTo_128 rfl (fun c128_14 => ?_) (fun c128_14 => ?_)
            · skip
              have n128_14 : a 1 % 7 < 5 := (nj_lt (a := a 1 % 7) (b := 5) (by have := hBa 1; omega) (by have := hBa 1; omega)).mp c128_14
              refine g_iconst C dX1_worthTo_135 ic_0 ?_
              refine g_istore (lv' := [(7, .int 0), (6, .int (nI (a (30 + 4 * e + 2)))), (5, .int 0), (4, .int (nI (a (30 + 4 * e)))), (3, .int (nI (a (30 + 4 * e + 2)))), (0, .ref (wA w b)), (1, .int (nI e)), (2, .int (nI g))]) C dX1_worthTo_136 (by decide) rfl ?_
              refine g_iload C dX1_worthTo_138 rfl ?_
              refine g_if_eq (tgt := 155) C dX1_worthTo_140 rfl (fun c140_15 => ?_) (fun c140_15 => ?_)
              · skip
                refine g_iload C dX1_worthTo_155 rfl ?_
                refine g_iret C r rfl dX1_worthTo_157 ?_
                refine ⟨?_, rfl⟩
                clear r C
                simp only [wJ, wNt, eats]
                repeat first | rw [if_pos (by omega)] | rw [if_neg (by omega)]
                all_goals first | rfl | exact congrArg nI (by omega) | exact congrArg nI (show 0 = _ by omega)
              · exact absurd c140_15 (by decide)
            · skip
              have n128_14 : ¬ (a 1 % 7 < 5) := fun qq => c128_14 ((nj_lt (a := a 1 % 7) (b := 5) (by have := hBa 1; omega) (by have := hBa 1; omega)).mpr qq)
              refine g_iconst C dX1_worthTo_131 ic_1 ?_
              refine g_goto (tgt := 136) C dX1_worthTo_132 rfl ?_
              refine g_istore (lv' := [(7, .int 1), (6, .int (nI (a (30 + 4 * e + 2)))), (5, .int 0), (4, .int (nI (a (30 + 4 * e)))), (3, .int (nI (a (30 + 4 * e + 2)))), (0, .ref (wA w b)), (1, .int (nI e)), (2, .int (nI g))]) C dX1_worthTo_136 (by decide) rfl ?_
              refine g_iload C dX1_worthTo_138 rfl ?_
              refine g_if_eq (tgt := 155) C dX1_worthTo_140 rfl (fun c140_16 => ?_) (fun c140_16 => ?_)
              · exact absurd c140_16 (by decide)
              · skip
                refine g_iload C dX1_worthTo_143 rfl ?_
                refine g_if_le (tgt := 155) C dX1_worthTo_145 rfl (fun c145_17 => ?_) (fun c145_17 => ?_)
                · skip
                  have n145_17 : a (30 + 4 * e + 2) ≤ 0 := (nj_le (a := a (30 + 4 * e + 2)) (b := 0) (by have := hBa (30 + 4 * e + 2); omega) (by have := hBa (30 + 4 * e + 2); omega)).mp c145_17
                  refine g_iload C dX1_worthTo_155 rfl ?_
                  refine g_iret C r rfl dX1_worthTo_157 ?_
                  refine ⟨?_, rfl⟩
                  clear r C
                  simp only [wJ, wNt, eats]
                  repeat first | rw [if_pos (by omega)] | rw [if_neg (by omega)]
                  all_goals first | rfl | exact congrArg nI (by omega) | exact congrArg nI (show 0 = _ by omega)
                · skip
                  have n145_17 : ¬ (a (30 + 4 * e + 2) ≤ 0) := fun qq => c145_17 ((nj_le (a := a (30 + 4 * e + 2)) (b := 0) (by have := hBa (30 + 4 * e + 2); omega) (by have := hBa (30 + 4 * e + 2); omega)).mpr qq)
                  refine g_iload C dX1_worthTo_148 rfl ?_
                  refine g_iconst C dX1_worthTo_150 ic_1 ?_
                  refine g_isubv (v := nI ((a (30 + 4 * e + 2)) - 1)) C (nj_minus (a := a (30 + 4 * e + 2)) (b := 1) (by omega)) dX1_worthTo_151 ?_
                  refine g_goto (tgt := 157) C dX1_worthTo_152 rfl ?_
                  refine g_iret C r rfl dX1_worthTo_157 ?_
                  refine ⟨?_, rfl⟩
                  clear r C
                  simp only [wJ, wNt, eats]
                  repeat first | rw [if_pos (by omega)] | rw [if_neg (by omega)]
                  all_goals first | rfl | exact congrArg nI (by omega) | exact congrArg nI (show 0 = _ by omega)
      · skip
        have n96_4 : ¬ (g ≤ 1) := fun qq => c96_4 ((nj_le (a := g) (b := 1) (by omega) (by omega)).mpr qq)
        refine g_iconst C dX1_worthTo_99 ic_m1 ?_
        refine g_iret C r rfl dX1_worthTo_100 ?_
        refine ⟨?_, rfl⟩
        clear r C
        simp only [wJ, wNt, eats]
        repeat first | rw [if_pos (by omega)] | rw [if_neg (by omega)]
        all_goals first | rfl | exact congrArg nI (by omega) | exact congrArg nI (show 0 = _ by omega)
    have ns35_2 : ¬ (a (30 + 4 * e) = 3) := fun qq => s35_2 ((nj_eq (a := a (30 + 4 * e)) (b := 3) (by have := hBa (30 + 4 * e); omega) (by have := hBa (30 + 4 * e); omega)).mpr qq)
    by_cases s35_3 : nI (a (30 + 4 * e)) = 4
    · skip
      have ns35_3 : a (30 + 4 * e) = 4 := (nj_eq (a := a (30 + 4 * e)) (b := 4) (by have := hBa (30 + 4 * e); omega) (by have := hBa (30 + 4 * e); omega)).mp s35_3
      refine g_tsw (v := 4) (tgt := 92) C dX1_worthTo_35 s35_3 (by decide) (by decide) rfl rfl ?_
      refine g_iconst C dX1_worthTo_92 ic_1 ?_
      refine g_iret C r rfl dX1_worthTo_93 ?_
      refine ⟨?_, rfl⟩
      clear r C
      simp only [wJ, wNt, eats]
      repeat first | rw [if_pos (by omega)] | rw [if_neg (by omega)]
      all_goals first | rfl | exact congrArg nI (by omega) | exact congrArg nI (show 0 = _ by omega)
    have ns35_3 : ¬ (a (30 + 4 * e) = 4) := fun qq => s35_3 ((nj_eq (a := a (30 + 4 * e)) (b := 4) (by have := hBa (30 + 4 * e); omega) (by have := hBa (30 + 4 * e); omega)).mpr qq)
    by_cases s35_4 : nI (a (30 + 4 * e)) = 5
    · skip
      have ns35_4 : a (30 + 4 * e) = 5 := (nj_eq (a := a (30 + 4 * e)) (b := 5) (by have := hBa (30 + 4 * e); omega) (by have := hBa (30 + 4 * e); omega)).mp s35_4
      refine g_tsw (v := 5) (tgt := 94) C dX1_worthTo_35 s35_4 (by decide) (by decide) rfl rfl ?_
      refine g_iload_n C dX1_worthTo_94 rfl rfl ?_
      refine g_iconst C dX1_worthTo_95 ic_1 ?_
      refine g_icmp_le (tgt := 101) C dX1_worthTo_96 rfl (fun c96_18 => ?_) (fun c96_18 => ?_)
      · skip
        have n96_18 : g ≤ 1 := (nj_le (a := g) (b := 1) (by omega) (by omega)).mp c96_18
        refine g_iload_n C dX1_worthTo_101 rfl rfl ?_
        refine g_if_ne (tgt := 109) C dX1_worthTo_102 rfl (fun c102_19 => ?_) (fun c102_19 => ?_)
        · skip
          have n102_19 : ¬ (g = 0) := fun qq => c102_19 ((nj_eq (a := g) (b := 0) (by omega) (by omega)).mpr qq)
          refine g_iload_n C dX1_worthTo_109 rfl rfl ?_
          refine g_iconst C dX1_worthTo_110 ic_2 ?_
          refine g_idivv (v := nI (a (30 + 4 * e + 2) / 2)) C (by decide) (nj_div2 (by have := hBa (30 + 4 * e + 2); omega)) dX1_worthTo_111 ?_
          refine g_istore (lv' := [(6, .int (nI (a (30 + 4 * e + 2) / 2))), (5, .int 0), (4, .int (nI (a (30 + 4 * e)))), (3, .int (nI (a (30 + 4 * e + 2)))), (0, .ref (wA w b)), (1, .int (nI e)), (2, .int (nI g))]) C dX1_worthTo_112 (by decide) rfl ?_
          refine g_iload C dX1_worthTo_114 rfl ?_
          refine g_iconst C dX1_worthTo_116 ic_5 ?_
          refine g_icmp_ne (tgt := 135) C dX1_worthTo_117 rfl (fun c117_20 => ?_) (fun c117_20 => ?_)
          · skip
            have n117_20 : ¬ (a (30 + 4 * e) = 5) := fun qq => c117_20 ((nj_eq (a := a (30 + 4 * e)) (b := 5) (by have := hBa (30 + 4 * e); omega) (by have := hBa (30 + 4 * e); omega)).mpr qq)
            refine g_iconst C dX1_worthTo_135 ic_0 ?_
            refine g_istore (lv' := [(7, .int 0), (6, .int (nI (a (30 + 4 * e + 2) / 2))), (5, .int 0), (4, .int (nI (a (30 + 4 * e)))), (3, .int (nI (a (30 + 4 * e + 2)))), (0, .ref (wA w b)), (1, .int (nI e)), (2, .int (nI g))]) C dX1_worthTo_136 (by decide) rfl ?_
            refine g_iload C dX1_worthTo_138 rfl ?_
            refine g_if_eq (tgt := 155) C dX1_worthTo_140 rfl (fun c140_21 => ?_) (fun c140_21 => ?_)
            · skip
              refine g_iload C dX1_worthTo_155 rfl ?_
              refine g_iret C r rfl dX1_worthTo_157 ?_
              refine ⟨?_, rfl⟩
              clear r C
              simp only [wJ, wNt, eats]
              repeat first | rw [if_pos (by omega)] | rw [if_neg (by omega)]
              all_goals first | rfl | exact congrArg nI (by omega) | exact congrArg nI (show 0 = _ by omega)
            · exact absurd c140_21 (by decide)
          · skip
            have n117_20 : a (30 + 4 * e) = 5 := (nj_eq (a := a (30 + 4 * e)) (b := 5) (by have := hBa (30 + 4 * e); omega) (by have := hBa (30 + 4 * e); omega)).mp c117_20
            refine g_aload_n C dX1_worthTo_120 rfl rfl ?_
            refine g_get (v := .int (σ b 5)) C fl_X1_36 fs_X1_36 (HB.n0 hb hN) (HB.ou hb _) rfl dX1_worthTo_121 ?_
            refine g_val (y := nI (a 1)) (Hh.d hH) ?_
            refine g_bipush C dX1_worthTo_124 bp_7 ?_
            refine g_iremv (v := nI (a 1 % 7)) C (by decide) (nj_rem (b := 7) (by have := hBa 1; omega) (by omega)) dX1_worthTo_126 ?_
            refine g_iconst C dX1_worthTo_127 ic_5 ?_
            refine g_icmp_lt (tgt := 135) C dX1_worthTo_128 rfl (fun c128_22 => ?_) (fun c128_22 => ?_)
            · skip
              have n128_22 : a 1 % 7 < 5 := (nj_lt (a := a 1 % 7) (b := 5) (by have := hBa 1; omega) (by have := hBa 1; omega)).mp c128_22
              refine g_iconst C dX1_worthTo_135 ic_0 ?_
              refine g_istore (lv' := [(7, .int 0), (6, .int (nI (a (30 + 4 * e + 2) / 2))), (5, .int 0), (4, .int (nI (a (30 + 4 * e)))), (3, .int (nI (a (30 + 4 * e + 2)))), (0, .ref (wA w b)), (1, .int (nI e)), (2, .int (nI g))]) C dX1_worthTo_136 (by decide) rfl ?_
              refine g_iload C dX1_worthTo_138 rfl ?_
              refine g_if_eq (tgt := 155) C dX1_worthTo_140 rfl (fun c140_23 => ?_) (fun c140_23 => ?_)
              · skip
                refine g_iload C dX1_worthTo_155 rfl ?_
                refine g_iret C r rfl dX1_worthTo_157 ?_
                refine ⟨?_, rfl⟩
                clear r C
                simp only [wJ, wNt, eats]
                repeat first | rw [if_pos (by omega)] | rw [if_neg (by omega)]
                all_goals first | rfl | exact congrArg nI (by omega) | exact congrArg nI (show 0 = _ by omega)
              · exact absurd c140_23 (by decide)
            · skip
              have n128_22 : ¬ (a 1 % 7 < 5) := fun qq => c128_22 ((nj_lt (a := a 1 % 7) (b := 5) (by have := hBa 1; omega) (by have := hBa 1; omega)).mpr qq)
              refine g_iconst C dX1_worthTo_131 ic_1 ?_
              refine g_goto (tgt := 136) C dX1_worthTo_132 rfl ?_
              refine g_istore (lv' := [(7, .int 1), (6, .int (nI (a (30 + 4 * e + 2) / 2))), (5, .int 0), (4, .int (nI (a (30 + 4 * e)))), (3, .int (nI (a (30 + 4 * e + 2)))), (0, .ref (wA w b)), (1, .int (nI e)), (2, .int (nI g))]) C dX1_worthTo_136 (by decide) rfl ?_
              refine g_iload C dX1_worthTo_138 rfl ?_
              refine g_if_eq (tgt := 155) C dX1_worthTo_140 rfl (fun c140_24 => ?_) (fun c140_24 => ?_)
              · exact absurd c140_24 (by decide)
              · skip
                refine g_iload C dX1_worthTo_143 rfl ?_
                refine g_if_le (tgt := 155) C dX1_worthTo_145 rfl (fun c145_25 => ?_) (fun c145_25 => ?_)
                · skip
                  have n145_25 : a (30 + 4 * e + 2) / 2 ≤ 0 := (nj_le (a := a (30 + 4 * e + 2) / 2) (b := 0) (by have := hBa (30 + 4 * e + 2); omega) (by have := hBa (30 + 4 * e + 2); omega)).mp c145_25
                  refine g_iload C dX1_worthTo_155 rfl ?_
                  refine g_iret C r rfl dX1_worthTo_157 ?_
                  refine ⟨?_, rfl⟩
                  clear r C
                  simp only [wJ, wNt, eats]
                  repeat first | rw [if_pos (by omega)] | rw [if_neg (by omega)]
                  all_goals first | rfl | exact congrArg nI (by omega) | exact congrArg nI (show 0 = _ by omega)
                · skip
                  have n145_25 : ¬ (a (30 + 4 * e + 2) / 2 ≤ 0) := fun qq => c145_25 ((nj_le (a := a (30 + 4 * e + 2) / 2) (b := 0) (by have := hBa (30 + 4 * e + 2); omega) (by have := hBa (30 + 4 * e + 2); omega)).mpr qq)
                  refine g_iload C dX1_worthTo_148 rfl ?_
                  refine g_iconst C dX1_worthTo_150 ic_1 ?_
                  refine g_isubv (v := nI ((a (30 + 4 * e + 2) / 2) - 1)) C (nj_minus (a := a (30 + 4 * e + 2) / 2) (b := 1) (by omega)) dX1_worthTo_151 ?_
                  refine g_goto (tgt := 157) C dX1_worthTo_152 rfl ?_
                  refine g_iret C r rfl dX1_worthTo_157 ?_
                  refine ⟨?_, rfl⟩
                  clear r C
                  simp only [wJ, wNt, eats]
                  repeat first | rw [if_pos (by omega)] | rw [if_neg (by omega)]
                  all_goals first | rfl | exact congrArg nI (by omega) | exact congrArg nI (show 0 = _ by omega)
        · skip
          have n102_19 : g = 0 := (nj_eq (a := g) (b := 0) (by omega) (by omega)).mp c102_19
          refine g_iload_n C dX1_worthTo_105 rfl rfl ?_
          refine g_goto (tgt := 112) C dX1_worthTo_106 rfl ?_
          refine g_istore (lv' := [(6, .int (nI (a (30 + 4 * e + 2)))), (5, .int 0), (4, .int (nI (a (30 + 4 * e)))), (3, .int (nI (a (30 + 4 * e + 2)))), (0, .ref (wA w b)), (1, .int (nI e)), (2, .int (nI g))]) C dX1_worthTo_112 (by decide) rfl ?_
          refine g_iload C dX1_worthTo_114 rfl ?_
          refine g_iconst C dX1_worthTo_116 ic_5 ?_
          refine g_icmp_ne (tgt := 135) C dX1_worthTo_117 rfl (fun c117_26 => ?_) (fun c117_26 => ?_)
          · skip
            have n117_26 : ¬ (a (30 + 4 * e) = 5) := fun qq => c117_26 ((nj_eq (a := a (30 + 4 * e)) (b := 5) (by have := hBa (30 + 4 * e); omega) (by have := hBa (30 + 4 * e); omega)).mpr qq)
            refine g_iconst C dX1_worthTo_135 ic_0 ?_
            refine g_istore (lv' := [(7, .int 0), (6, .int (nI (a (30 + 4 * e + 2)))), (5, .int 0), (4, .int (nI (a (30 + 4 * e)))), (3, .int (nI (a (30 + 4 * e + 2)))), (0, .ref (wA w b)), (1, .int (nI e)), (2, .int (nI g))]) C dX1_worthTo_136 (by decide) rfl ?_
            refine g_iload C dX1_worthTo_138 rfl ?_
            refine g_if_eq (tgt := 155) C dX1_worthTo_140 rfl (fun c140_27 => ?_) (fun c140_27 => ?_)
            · skip
              refine g_iload C dX1_worthTo_155 rfl ?_
              refine g_iret C r rfl dX1_worthTo_157 ?_
              refine ⟨?_, rfl⟩
              clear r C
              simp only [wJ, wNt, eats]
              repeat first | rw [if_pos (by omega)] | rw [if_neg (by omega)]
              all_goals first | rfl | exact congrArg nI (by omega) | exact congrArg nI (show 0 = _ by omega)
            · exact absurd c140_27 (by decide)
          · skip
            have n117_26 : a (30 + 4 * e) = 5 := (nj_eq (a := a (30 + 4 * e)) (b := 5) (by have := hBa (30 + 4 * e); omega) (by have := hBa (30 + 4 * e); omega)).mp c117_26
            refine g_aload_n C dX1_worthTo_120 rfl rfl ?_
            refine g_get (v := .int (σ b 5)) C fl_X1_36 fs_X1_36 (HB.n0 hb hN) (HB.ou hb _) rfl dX1_worthTo_121 ?_
            refine g_val (y := nI (a 1)) (Hh.d hH) ?_
            refine g_bipush C dX1_worthTo_124 bp_7 ?_
            refine g_iremv (v := nI (a 1 % 7)) C (by decide) (nj_rem (b := 7) (by have := hBa 1; omega) (by omega)) dX1_worthTo_126 ?_
            refine g_iconst C dX1_worthTo_127 ic_5 ?_
            refine g_icmp_lt (tgt := 135) C dX1_worthTo_128 rfl (fun c128_28 => ?_) (fun c128_28 => ?_)
            · skip
              have n128_28 : a 1 % 7 < 5 := (nj_lt (a := a 1 % 7) (b := 5) (by have := hBa 1; omega) (by have := hBa 1; omega)).mp c128_28
              refine g_iconst C dX1_worthTo_135 ic_0 ?_
              refine g_istore (lv' := [(7, .int 0), (6, .int (nI (a (30 + 4 * e + 2)))), (5, .int 0), (4, .int (nI (a (30 + 4 * e)))), (3, .int (nI (a (30 + 4 * e + 2)))), (0, .ref (wA w b)), (1, .int (nI e)), (2, .int (nI g))]) C dX1_worthTo_136 (by decide) rfl ?_
              refine g_iload C dX1_worthTo_138 rfl ?_
              refine g_if_eq (tgt := 155) C dX1_worthTo_140 rfl (fun c140_29 => ?_) (fun c140_29 => ?_)
              · skip
                refine g_iload C dX1_worthTo_155 rfl ?_
                refine g_iret C r rfl dX1_worthTo_157 ?_
                refine ⟨?_, rfl⟩
                clear r C
                simp only [wJ, wNt, eats]
                repeat first | rw [if_pos (by omega)] | rw [if_neg (by omega)]
                all_goals first | rfl | exact congrArg nI (by omega) | exact congrArg nI (show 0 = _ by omega)
              · exact absurd c140_29 (by decide)
            · skip
              have n128_28 : ¬ (a 1 % 7 < 5) := fun qq => c128_28 ((nj_lt (a := a 1 % 7) (b := 5) (by have := hBa 1; omega) (by have := hBa 1; omega)).mpr qq)
              refine g_iconst C dX1_worthTo_131 ic_1 ?_
              refine g_goto (tgt := 136) C dX1_worthTo_132 rfl ?_
              refine g_istore (lv' := [(7, .int 1), (6, .int (nI (a (30 + 4 * e + 2)))), (5, .int 0), (4, .int (nI (a (30 + 4 * e)))), (3, .int (nI (a (30 + 4 * e + 2)))), (0, .ref (wA w b)), (1, .int (nI e)), (2, .int (nI g))]) C dX1_worthTo_136 (by decide) rfl ?_
              refine g_iload C dX1_worthTo_138 rfl ?_
              refine g_if_eq (tgt := 155) C dX1_worthTo_140 rfl (fun c140_30 => ?_) (fun c140_30 => ?_)
              · exact absurd c140_30 (by decide)
              · skip
                refine g_iload C dX1_worthTo_143 rfl ?_
                refine g_if_le (tgt := 155) C dX1_worthTo_145 rfl (fun c145_31 => ?_) (fun c145_31 => ?_)
                · skip
                  have n145_31 : a (30 + 4 * e + 2) ≤ 0 := (nj_le (a := a (30 + 4 * e + 2)) (b := 0) (by have := hBa (30 + 4 * e + 2); omega) (by have := hBa (30 + 4 * e + 2); omega)).mp c145_31
                  refine g_iload C dX1_worthTo_155 rfl ?_
                  refine g_iret C r rfl dX1_worthTo_157 ?_
                  refine ⟨?_, rfl⟩
                  clear r C
                  simp only [wJ, wNt, eats]
                  repeat first | rw [if_pos (by omega)] | rw [if_neg (by omega)]
                  all_goals first | rfl | exact congrArg nI (by omega) | exact congrArg nI (show 0 = _ by omega)
                · skip
                  have n145_31 : ¬ (a (30 + 4 * e + 2) ≤ 0) := fun qq => c145_31 ((nj_le (a := a (30 + 4 * e + 2)) (b := 0) (by have := hBa (30 + 4 * e + 2); omega) (by have := hBa (30 + 4 * e + 2); omega)).mpr qq)
                  refine g_iload C dX1_worthTo_148 rfl ?_
                  refine g_iconst C dX1_worthTo_150 ic_1 ?_
                  refine g_isubv (v := nI ((a (30 + 4 * e + 2)) - 1)) C (nj_minus (a := a (30 + 4 * e + 2)) (b := 1) (by omega)) dX1_worthTo_151 ?_
                  refine g_goto (tgt := 157) C dX1_worthTo_152 rfl ?_
                  refine g_iret C r rfl dX1_worthTo_157 ?_
                  refine ⟨?_, rfl⟩
                  clear r C
                  simp only [wJ, wNt, eats]
                  repeat first | rw [if_pos (by omega)] | rw [if_neg (by omega)]
                  all_goals first | rfl | exact congrArg nI (by omega) | exact congrArg nI (show 0 = _ by omega)
      · skip
        have n96_18 : ¬ (g ≤ 1) := fun qq => c96_18 ((nj_le (a := g) (b := 1) (by omega) (by omega)).mpr qq)
        refine g_iconst C dX1_worthTo_99 ic_m1 ?_
        refine g_iret C r rfl dX1_worthTo_100 ?_
        refine ⟨?_, rfl⟩
        clear r C
        simp only [wJ, wNt, eats]
        repeat first | rw [if_pos (by omega)] | rw [if_neg (by omega)]
        all_goals first | rfl | exact congrArg nI (by omega) | exact congrArg nI (show 0 = _ by omega)
    have ns35_4 : ¬ (a (30 + 4 * e) = 5) := fun qq => s35_4 ((nj_eq (a := a (30 + 4 * e)) (b := 5) (by have := hBa (30 + 4 * e); omega) (by have := hBa (30 + 4 * e); omega)).mpr qq)
    refine g_tswd (tgt := 158) C dX1_worthTo_35 (by have q0 : (nI (a (30 + 4 * e)) : Int32).toInt ≠ 1 := ne_toInt s35_0; have q1 : (nI (a (30 + 4 * e)) : Int32).toInt ≠ 2 := ne_toInt s35_1; have q2 : (nI (a (30 + 4 * e)) : Int32).toInt ≠ 3 := ne_toInt s35_2; have q3 : (nI (a (30 + 4 * e)) : Int32).toInt ≠ 4 := ne_toInt s35_3; have q4 : (nI (a (30 + 4 * e)) : Int32).toInt ≠ 5 := ne_toInt s35_4; omega) rfl ?_
    refine g_iload C dX1_worthTo_158 rfl ?_
    refine g_iret C r rfl dX1_worthTo_160 ?_
    refine ⟨?_, rfl⟩
    clear r C
    simp only [wJ, wNt, eats]
    repeat first | rw [if_pos (by omega)] | rw [if_neg (by omega)]
    all_goals first | rfl | exact congrArg nI (by omega) | exact congrArg nI (show 0 = _ by omega)
  · skip
    have n21_1 : ¬ (a (30 + 4 * e + 2) ≤ g) := fun qq => c21_1 ((nj_le (a := a (30 + 4 * e + 2)) (b := g) (by have := hBa (30 + 4 * e + 2); omega) (by have := hBa (30 + 4 * e + 2); omega)).mpr qq)
    refine g_iload_n C dX1_worthTo_24 rfl rfl ?_
    refine g_iload_n C dX1_worthTo_25 rfl rfl ?_
    refine g_isubv (v := nI ((a (30 + 4 * e + 2)) - g)) C (nj_minus (a := a (30 + 4 * e + 2)) (b := g) (by omega)) dX1_worthTo_26 ?_
    refine g_goto (tgt := 31) C dX1_worthTo_27 rfl ?_
    refine g_istore (lv' := [(5, .int (nI ((a (30 + 4 * e + 2)) - g))), (4, .int (nI (a (30 + 4 * e)))), (3, .int (nI (a (30 + 4 * e + 2)))), (0, .ref (wA w b)), (1, .int (nI e)), (2, .int (nI g))]) C dX1_worthTo_31 (by decide) rfl ?_
    refine g_iload C dX1_worthTo_33 rfl ?_
    by_cases s35_0 : nI (a (30 + 4 * e)) = 1
    · skip
      have ns35_0 : a (30 + 4 * e) = 1 := (nj_eq (a := a (30 + 4 * e)) (b := 1) (by have := hBa (30 + 4 * e); omega) (by have := hBa (30 + 4 * e); omega)).mp s35_0
      refine g_tsw (v := 1) (tgt := 68) C dX1_worthTo_35 s35_0 (by decide) (by decide) rfl rfl ?_
      refine g_iload_n C dX1_worthTo_68 rfl rfl ?_
      refine g_if_ne (tgt := 76) C dX1_worthTo_69 rfl (fun c69_32 => ?_) (fun c69_32 => ?_)
      · skip
        have n69_32 : ¬ (g = 0) := fun qq => c69_32 ((nj_eq (a := g) (b := 0) (by omega) (by omega)).mpr qq)
        refine g_iconst C dX1_worthTo_76 ic_m1 ?_
        refine g_iret C r rfl dX1_worthTo_77 ?_
        refine ⟨?_, rfl⟩
        clear r C
        simp only [wJ, wNt, eats]
        repeat first | rw [if_pos (by omega)] | rw [if_neg (by omega)]
        all_goals first | rfl | exact congrArg nI (by omega) | exact congrArg nI (show 0 = _ by omega)
      · skip
        have n69_32 : g = 0 := (nj_eq (a := g) (b := 0) (by omega) (by omega)).mp c69_32
        refine g_iload_n C dX1_worthTo_72 rfl rfl ?_
        refine g_goto (tgt := 77) C dX1_worthTo_73 rfl ?_
        refine g_iret C r rfl dX1_worthTo_77 ?_
        refine ⟨?_, rfl⟩
        clear r C
        simp only [wJ, wNt, eats]
        repeat first | rw [if_pos (by omega)] | rw [if_neg (by omega)]
        all_goals first | rfl | exact congrArg nI (by omega) | exact congrArg nI (show 0 = _ by omega)
    have ns35_0 : ¬ (a (30 + 4 * e) = 1) := fun qq => s35_0 ((nj_eq (a := a (30 + 4 * e)) (b := 1) (by have := hBa (30 + 4 * e); omega) (by have := hBa (30 + 4 * e); omega)).mpr qq)
    by_cases s35_1 : nI (a (30 + 4 * e)) = 2
    · skip
      have ns35_1 : a (30 + 4 * e) = 2 := (nj_eq (a := a (30 + 4 * e)) (b := 2) (by have := hBa (30 + 4 * e); omega) (by have := hBa (30 + 4 * e); omega)).mp s35_1
      refine g_tsw (v := 2) (tgt := 78) C dX1_worthTo_35 s35_1 (by decide) (by decide) rfl rfl ?_
      refine g_iload_n C dX1_worthTo_78 rfl rfl ?_
      refine g_iconst C dX1_worthTo_79 ic_3 ?_
      refine g_icmp_lt (tgt := 89) C dX1_worthTo_80 rfl (fun c80_33 => ?_) (fun c80_33 => ?_)
      · skip
        have n80_33 : g < 3 := (nj_lt (a := g) (b := 3) (by omega) (by omega)).mp c80_33
        refine g_iload C dX1_worthTo_89 rfl ?_
        refine g_iret C r rfl dX1_worthTo_91 ?_
        refine ⟨?_, rfl⟩
        clear r C
        simp only [wJ, wNt, eats]
        repeat first | rw [if_pos (by omega)] | rw [if_neg (by omega)]
        all_goals first | rfl | exact congrArg nI (by omega) | exact congrArg nI (show 0 = _ by omega)
      · skip
        have n80_33 : ¬ (g < 3) := fun qq => c80_33 ((nj_lt (a := g) (b := 3) (by omega) (by omega)).mpr qq)
        refine g_iload_n C dX1_worthTo_83 rfl rfl ?_
        refine g_iconst C dX1_worthTo_84 ic_1 ?_
        refine g_iaddv (v := nI ((a (30 + 4 * e + 2)) + 1)) C (nj_plus (a (30 + 4 * e + 2)) 1) dX1_worthTo_85 ?_
        refine g_goto (tgt := 91) C dX1_worthTo_86 rfl ?_
        refine g_iret C r rfl dX1_worthTo_91 ?_
        refine ⟨?_, rfl⟩
        clear r C
        simp only [wJ, wNt, eats]
        repeat first | rw [if_pos (by omega)] | rw [if_neg (by omega)]
        all_goals first | rfl | exact congrArg nI (by omega) | exact congrArg nI (show 0 = _ by omega)
    have ns35_1 : ¬ (a (30 + 4 * e) = 2) := fun qq => s35_1 ((nj_eq (a := a (30 + 4 * e)) (b := 2) (by have := hBa (30 + 4 * e); omega) (by have := hBa (30 + 4 * e); omega)).mpr qq)
    by_cases s35_2 : nI (a (30 + 4 * e)) = 3
    · skip
      have ns35_2 : a (30 + 4 * e) = 3 := (nj_eq (a := a (30 + 4 * e)) (b := 3) (by have := hBa (30 + 4 * e); omega) (by have := hBa (30 + 4 * e); omega)).mp s35_2
      refine g_tsw (v := 3) (tgt := 94) C dX1_worthTo_35 s35_2 (by decide) (by decide) rfl rfl ?_
      refine g_iload_n C dX1_worthTo_94 rfl rfl ?_
      refine g_iconst C dX1_worthTo_95 ic_1 ?_
      refine g_icmp_le (tgt := 101) C dX1_worthTo_96 rfl (fun c96_34 => ?_) (fun c96_34 => ?_)
      · skip
        have n96_34 : g ≤ 1 := (nj_le (a := g) (b := 1) (by omega) (by omega)).mp c96_34
        refine g_iload_n C dX1_worthTo_101 rfl rfl ?_
        refine g_if_ne (tgt := 109) C dX1_worthTo_102 rfl (fun c102_35 => ?_) (fun c102_35 => ?_)
        · skip
          have n102_35 : ¬ (g = 0) := fun qq => c102_35 ((nj_eq (a := g) (b := 0) (by omega) (by omega)).mpr qq)
          refine g_iload_n C dX1_worthTo_109 rfl rfl ?_
          refine g_iconst C dX1_worthTo_110 ic_2 ?_
          refine g_idivv (v := nI (a (30 + 4 * e + 2) / 2)) C (by decide) (nj_div2 (by have := hBa (30 + 4 * e + 2); omega)) dX1_worthTo_111 ?_
          refine g_istore (lv' := [(6, .int (nI (a (30 + 4 * e + 2) / 2))), (5, .int (nI ((a (30 + 4 * e + 2)) - g))), (4, .int (nI (a (30 + 4 * e)))), (3, .int (nI (a (30 + 4 * e + 2)))), (0, .ref (wA w b)), (1, .int (nI e)), (2, .int (nI g))]) C dX1_worthTo_112 (by decide) rfl ?_
          refine g_iload C dX1_worthTo_114 rfl ?_
          refine g_iconst C dX1_worthTo_116 ic_5 ?_
          refine g_icmp_ne (tgt := 135) C dX1_worthTo_117 rfl (fun c117_36 => ?_) (fun c117_36 => ?_)
          · skip
            have n117_36 : ¬ (a (30 + 4 * e) = 5) := fun qq => c117_36 ((nj_eq (a := a (30 + 4 * e)) (b := 5) (by have := hBa (30 + 4 * e); omega) (by have := hBa (30 + 4 * e); omega)).mpr qq)
            refine g_iconst C dX1_worthTo_135 ic_0 ?_
            refine g_istore (lv' := [(7, .int 0), (6, .int (nI (a (30 + 4 * e + 2) / 2))), (5, .int (nI ((a (30 + 4 * e + 2)) - g))), (4, .int (nI (a (30 + 4 * e)))), (3, .int (nI (a (30 + 4 * e + 2)))), (0, .ref (wA w b)), (1, .int (nI e)), (2, .int (nI g))]) C dX1_worthTo_136 (by decide) rfl ?_
            refine g_iload C dX1_worthTo_138 rfl ?_
            refine g_if_eq (tgt := 155) C dX1_worthTo_140 rfl (fun c140_37 => ?_) (fun c140_37 => ?_)
            · skip
              refine g_iload C dX1_worthTo_155 rfl ?_
              refine g_iret C r rfl dX1_worthTo_157 ?_
              refine ⟨?_, rfl⟩
              clear r C
              simp only [wJ, wNt, eats]
              repeat first | rw [if_pos (by omega)] | rw [if_neg (by omega)]
              all_goals first | rfl | exact congrArg nI (by omega) | exact congrArg nI (show 0 = _ by omega)
            · exact absurd c140_37 (by decide)
          · skip
            have n117_36 : a (30 + 4 * e) = 5 := (nj_eq (a := a (30 + 4 * e)) (b := 5) (by have := hBa (30 + 4 * e); omega) (by have := hBa (30 + 4 * e); omega)).mp c117_36
            refine g_aload_n C dX1_worthTo_120 rfl rfl ?_
            refine g_get (v := .int (σ b 5)) C fl_X1_36 fs_X1_36 (HB.n0 hb hN) (HB.ou hb _) rfl dX1_worthTo_121 ?_
            refine g_val (y := nI (a 1)) (Hh.d hH) ?_
            refine g_bipush C dX1_worthTo_124 bp_7 ?_
            refine g_iremv (v := nI (a 1 % 7)) C (by decide) (nj_rem (b := 7) (by have := hBa 1; omega) (by omega)) dX1_worthTo_126 ?_
            refine g_iconst C dX1_worthTo_127 ic_5 ?_
            refine g_icmp_lt (tgt := 135) C dX1_worthTo_128 rfl (fun c128_38 => ?_) (fun c128_38 => ?_)
            · skip
              have n128_38 : a 1 % 7 < 5 := (nj_lt (a := a 1 % 7) (b := 5) (by have := hBa 1; omega) (by have := hBa 1; omega)).mp c128_38
              refine g_iconst C dX1_worthTo_135 ic_0 ?_
              refine g_istore (lv' := [(7, .int 0), (6, .int (nI (a (30 + 4 * e + 2) / 2))), (5, .int (nI ((a (30 + 4 * e + 2)) - g))), (4, .int (nI (a (30 + 4 * e)))), (3, .int (nI (a (30 + 4 * e + 2)))), (0, .ref (wA w b)), (1, .int (nI e)), (2, .int (nI g))]) C dX1_worthTo_136 (by decide) rfl ?_
              refine g_iload C dX1_worthTo_138 rfl ?_
              refine g_if_eq (tgt := 155) C dX1_worthTo_140 rfl (fun c140_39 => ?_) (fun c140_39 => ?_)
              · skip
                refine g_iload C dX1_worthTo_155 rfl ?_
                refine g_iret C r rfl dX1_worthTo_157 ?_
                refine ⟨?_, rfl⟩
                clear r C
                simp only [wJ, wNt, eats]
                repeat first | rw [if_pos (by omega)] | rw [if_neg (by omega)]
                all_goals first | rfl | exact congrArg nI (by omega) | exact congrArg nI (show 0 = _ by omega)
              · exact absurd c140_39 (by decide)
            · skip
              have n128_38 : ¬ (a 1 % 7 < 5) := fun qq => c128_38 ((nj_lt (a := a 1 % 7) (b := 5) (by have := hBa 1; omega) (by have := hBa 1; omega)).mpr qq)
              refine g_iconst C dX1_worthTo_131 ic_1 ?_
              refine g_goto (tgt := 136) C dX1_worthTo_132 rfl ?_
              refine g_istore (lv' := [(7, .int 1), (6, .int (nI (a (30 + 4 * e + 2) / 2))), (5, .int (nI ((a (30 + 4 * e + 2)) - g))), (4, .int (nI (a (30 + 4 * e)))), (3, .int (nI (a (30 + 4 * e + 2)))), (0, .ref (wA w b)), (1, .int (nI e)), (2, .int (nI g))]) C dX1_worthTo_136 (by decide) rfl ?_
              refine g_iload C dX1_worthTo_138 rfl ?_
              refine g_if_eq (tgt := 155) C dX1_worthTo_140 rfl (fun c140_40 => ?_) (fun c140_40 => ?_)
              · exact absurd c140_40 (by decide)
              · skip
                refine g_iload C dX1_worthTo_143 rfl ?_
                refine g_if_le (tgt := 155) C dX1_worthTo_145 rfl (fun c145_41 => ?_) (fun c145_41 => ?_)
                · skip
                  have n145_41 : a (30 + 4 * e + 2) / 2 ≤ 0 := (nj_le (a := a (30 + 4 * e + 2) / 2) (b := 0) (by have := hBa (30 + 4 * e + 2); omega) (by have := hBa (30 + 4 * e + 2); omega)).mp c145_41
                  refine g_iload C dX1_worthTo_155 rfl ?_
                  refine g_iret C r rfl dX1_worthTo_157 ?_
                  refine ⟨?_, rfl⟩
                  clear r C
                  simp only [wJ, wNt, eats]
                  repeat first | rw [if_pos (by omega)] | rw [if_neg (by omega)]
                  all_goals first | rfl | exact congrArg nI (by omega) | exact congrArg nI (show 0 = _ by omega)
                · skip
                  have n145_41 : ¬ (a (30 + 4 * e + 2) / 2 ≤ 0) := fun qq => c145_41 ((nj_le (a := a (30 + 4 * e + 2) / 2) (b := 0) (by have := hBa (30 + 4 * e + 2); omega) (by have := hBa (30 + 4 * e + 2); omega)).mpr qq)
                  refine g_iload C dX1_worthTo_148 rfl ?_
                  refine g_iconst C dX1_worthTo_150 ic_1 ?_
                  refine g_isubv (v := nI ((a (30 + 4 * e + 2) / 2) - 1)) C (nj_minus (a := a (30 + 4 * e + 2) / 2) (b := 1) (by omega)) dX1_worthTo_151 ?_
                  refine g_goto (tgt := 157) C dX1_worthTo_152 rfl ?_
                  refine g_iret C r rfl dX1_worthTo_157 ?_
                  refine ⟨?_, rfl⟩
                  clear r C
                  simp only [wJ, wNt, eats]
                  repeat first | rw [if_pos (by omega)] | rw [if_neg (by omega)]
                  all_goals first | rfl | exact congrArg nI (by omega) | exact congrArg nI (show 0 = _ by omega)
        · skip
          have n102_35 : g = 0 := (nj_eq (a := g) (b := 0) (by omega) (by omega)).mp c102_35
          refine g_iload_n C dX1_worthTo_105 rfl rfl ?_
          refine g_goto (tgt := 112) C dX1_worthTo_106 rfl ?_
          refine g_istore (lv' := [(6, .int (nI (a (30 + 4 * e + 2)))), (5, .int (nI ((a (30 + 4 * e + 2)) - g))), (4, .int (nI (a (30 + 4 * e)))), (3, .int (nI (a (30 + 4 * e + 2)))), (0, .ref (wA w b)), (1, .int (nI e)), (2, .int (nI g))]) C dX1_worthTo_112 (by decide) rfl ?_
          refine g_iload C dX1_worthTo_114 rfl ?_
          refine g_iconst C dX1_worthTo_116 ic_5 ?_
          refine g_icmp_ne (tgt := 135) C dX1_worthTo_117 rfl (fun c117_42 => ?_) (fun c117_42 => ?_)
          · skip
            have n117_42 : ¬ (a (30 + 4 * e) = 5) := fun qq => c117_42 ((nj_eq (a := a (30 + 4 * e)) (b := 5) (by have := hBa (30 + 4 * e); omega) (by have := hBa (30 + 4 * e); omega)).mpr qq)
            refine g_iconst C dX1_worthTo_135 ic_0 ?_
            refine g_istore (lv' := [(7, .int 0), (6, .int (nI (a (30 + 4 * e + 2)))), (5, .int (nI ((a (30 + 4 * e + 2)) - g))), (4, .int (nI (a (30 + 4 * e)))), (3, .int (nI (a (30 + 4 * e + 2)))), (0, .ref (wA w b)), (1, .int (nI e)), (2, .int (nI g))]) C dX1_worthTo_136 (by decide) rfl ?_
            refine g_iload C dX1_worthTo_138 rfl ?_
            refine g_if_eq (tgt := 155) C dX1_worthTo_140 rfl (fun c140_43 => ?_) (fun c140_43 => ?_)
            · skip
              refine g_iload C dX1_worthTo_155 rfl ?_
              refine g_iret C r rfl dX1_worthTo_157 ?_
              refine ⟨?_, rfl⟩
              clear r C
              simp only [wJ, wNt, eats]
              repeat first | rw [if_pos (by omega)] | rw [if_neg (by omega)]
              all_goals first | rfl | exact congrArg nI (by omega) | exact congrArg nI (show 0 = _ by omega)
            · exact absurd c140_43 (by decide)
          · skip
            have n117_42 : a (30 + 4 * e) = 5 := (nj_eq (a := a (30 + 4 * e)) (b := 5) (by have := hBa (30 + 4 * e); omega) (by have := hBa (30 + 4 * e); omega)).mp c117_42
            refine g_aload_n C dX1_worthTo_120 rfl rfl ?_
            refine g_get (v := .int (σ b 5)) C fl_X1_36 fs_X1_36 (HB.n0 hb hN) (HB.ou hb _) rfl dX1_worthTo_121 ?_
            refine g_val (y := nI (a 1)) (Hh.d hH) ?_
            refine g_bipush C dX1_worthTo_124 bp_7 ?_
            refine g_iremv (v := nI (a 1 % 7)) C (by decide) (nj_rem (b := 7) (by have := hBa 1; omega) (by omega)) dX1_worthTo_126 ?_
            refine g_iconst C dX1_worthTo_127 ic_5 ?_
            refine g_icmp_lt (tgt := 135) C dX1_worthTo_128 rfl (fun c128_44 => ?_) (fun c128_44 => ?_)
            · skip
              have n128_44 : a 1 % 7 < 5 := (nj_lt (a := a 1 % 7) (b := 5) (by have := hBa 1; omega) (by have := hBa 1; omega)).mp c128_44
              refine g_iconst C dX1_worthTo_135 ic_0 ?_
              refine g_istore (lv' := [(7, .int 0), (6, .int (nI (a (30 + 4 * e + 2)))), (5, .int (nI ((a (30 + 4 * e + 2)) - g))), (4, .int (nI (a (30 + 4 * e)))), (3, .int (nI (a (30 + 4 * e + 2)))), (0, .ref (wA w b)), (1, .int (nI e)), (2, .int (nI g))]) C dX1_worthTo_136 (by decide) rfl ?_
              refine g_iload C dX1_worthTo_138 rfl ?_
              refine g_if_eq (tgt := 155) C dX1_worthTo_140 rfl (fun c140_45 => ?_) (fun c140_45 => ?_)
              · skip
                refine g_iload C dX1_worthTo_155 rfl ?_
                refine g_iret C r rfl dX1_worthTo_157 ?_
                refine ⟨?_, rfl⟩
                clear r C
                simp only [wJ, wNt, eats]
                repeat first | rw [if_pos (by omega)] | rw [if_neg (by omega)]
                all_goals first | rfl | exact congrArg nI (by omega) | exact congrArg nI (show 0 = _ by omega)
              · exact absurd c140_45 (by decide)
            · skip
              have n128_44 : ¬ (a 1 % 7 < 5) := fun qq => c128_44 ((nj_lt (a := a 1 % 7) (b := 5) (by have := hBa 1; omega) (by have := hBa 1; omega)).mpr qq)
              refine g_iconst C dX1_worthTo_131 ic_1 ?_
              refine g_goto (tgt := 136) C dX1_worthTo_132 rfl ?_
              refine g_istore (lv' := [(7, .int 1), (6, .int (nI (a (30 + 4 * e + 2)))), (5, .int (nI ((a (30 + 4 * e + 2)) - g))), (4, .int (nI (a (30 + 4 * e)))), (3, .int (nI (a (30 + 4 * e + 2)))), (0, .ref (wA w b)), (1, .int (nI e)), (2, .int (nI g))]) C dX1_worthTo_136 (by decide) rfl ?_
              refine g_iload C dX1_worthTo_138 rfl ?_
              refine g_if_eq (tgt := 155) C dX1_worthTo_140 rfl (fun c140_46 => ?_) (fun c140_46 => ?_)
              · exact absurd c140_46 (by decide)
              · skip
                refine g_iload C dX1_worthTo_143 rfl ?_
                refine g_if_le (tgt := 155) C dX1_worthTo_145 rfl (fun c145_47 => ?_) (fun c145_47 => ?_)
                · skip
                  have n145_47 : a (30 + 4 * e + 2) ≤ 0 := (nj_le (a := a (30 + 4 * e + 2)) (b := 0) (by have := hBa (30 + 4 * e + 2); omega) (by have := hBa (30 + 4 * e + 2); omega)).mp c145_47
                  refine g_iload C dX1_worthTo_155 rfl ?_
                  refine g_iret C r rfl dX1_worthTo_157 ?_
                  refine ⟨?_, rfl⟩
                  clear r C
                  simp only [wJ, wNt, eats]
                  repeat first | rw [if_pos (by omega)] | rw [if_neg (by omega)]
                  all_goals first | rfl | exact congrArg nI (by omega) | exact congrArg nI (show 0 = _ by omega)
                · skip
                  have n145_47 : ¬ (a (30 + 4 * e + 2) ≤ 0) := fun qq => c145_47 ((nj_le (a := a (30 + 4 * e + 2)) (b := 0) (by have := hBa (30 + 4 * e + 2); omega) (by have := hBa (30 + 4 * e + 2); omega)).mpr qq)
                  refine g_iload C dX1_worthTo_148 rfl ?_
                  refine g_iconst C dX1_worthTo_150 ic_1 ?_
                  refine g_isubv (v := nI ((a (30 + 4 * e + 2)) - 1)) C (nj_minus (a := a (30 + 4 * e + 2)) (b := 1) (by omega)) dX1_worthTo_151 ?_
                  refine g_goto (tgt := 157) C dX1_worthTo_152 rfl ?_
                  refine g_iret C r rfl dX1_worthTo_157 ?_
                  refine ⟨?_, rfl⟩
                  clear r C
                  simp only [wJ, wNt, eats]
                  repeat first | rw [if_pos (by omega)] | rw [if_neg (by omega)]
                  all_goals first | rfl | exact congrArg nI (by omega) | exact congrArg nI (show 0 = _ by omega)
      · skip
        have n96_34 : ¬ (g ≤ 1) := fun qq => c96_34 ((nj_le (a := g) (b := 1) (by omega) (by omega)).mpr qq)
        refine g_iconst C dX1_worthTo_99 ic_m1 ?_
        refine g_iret C r rfl dX1_worthTo_100 ?_
        refine ⟨?_, rfl⟩
        clear r C
        simp only [wJ, wNt, eats]
        repeat first | rw [if_pos (by omega)] | rw [if_neg (by omega)]
        all_goals first | rfl | exact congrArg nI (by omega) | exact congrArg nI (show 0 = _ by omega)
    have ns35_2 : ¬ (a (30 + 4 * e) = 3) := fun qq => s35_2 ((nj_eq (a := a (30 + 4 * e)) (b := 3) (by have := hBa (30 + 4 * e); omega) (by have := hBa (30 + 4 * e); omega)).mpr qq)
    by_cases s35_3 : nI (a (30 + 4 * e)) = 4
    · skip
      have ns35_3 : a (30 + 4 * e) = 4 := (nj_eq (a := a (30 + 4 * e)) (b := 4) (by have := hBa (30 + 4 * e); omega) (by have := hBa (30 + 4 * e); omega)).mp s35_3
      refine g_tsw (v := 4) (tgt := 92) C dX1_worthTo_35 s35_3 (by decide) (by decide) rfl rfl ?_
      refine g_iconst C dX1_worthTo_92 ic_1 ?_
      refine g_iret C r rfl dX1_worthTo_93 ?_
      refine ⟨?_, rfl⟩
      clear r C
      simp only [wJ, wNt, eats]
      repeat first | rw [if_pos (by omega)] | rw [if_neg (by omega)]
      all_goals first | rfl | exact congrArg nI (by omega) | exact congrArg nI (show 0 = _ by omega)
    have ns35_3 : ¬ (a (30 + 4 * e) = 4) := fun qq => s35_3 ((nj_eq (a := a (30 + 4 * e)) (b := 4) (by have := hBa (30 + 4 * e); omega) (by have := hBa (30 + 4 * e); omega)).mpr qq)
    by_cases s35_4 : nI (a (30 + 4 * e)) = 5
    · skip
      have ns35_4 : a (30 + 4 * e) = 5 := (nj_eq (a := a (30 + 4 * e)) (b := 5) (by have := hBa (30 + 4 * e); omega) (by have := hBa (30 + 4 * e); omega)).mp s35_4
      refine g_tsw (v := 5) (tgt := 94) C dX1_worthTo_35 s35_4 (by decide) (by decide) rfl rfl ?_
      refine g_iload_n C dX1_worthTo_94 rfl rfl ?_
      refine g_iconst C dX1_worthTo_95 ic_1 ?_
      refine g_icmp_le (tgt := 101) C dX1_worthTo_96 rfl (fun c96_48 => ?_) (fun c96_48 => ?_)
      · skip
        have n96_48 : g ≤ 1 := (nj_le (a := g) (b := 1) (by omega) (by omega)).mp c96_48
        refine g_iload_n C dX1_worthTo_101 rfl rfl ?_
        refine g_if_ne (tgt := 109) C dX1_worthTo_102 rfl (fun c102_49 => ?_) (fun c102_49 => ?_)
        · skip
          have n102_49 : ¬ (g = 0) := fun qq => c102_49 ((nj_eq (a := g) (b := 0) (by omega) (by omega)).mpr qq)
          refine g_iload_n C dX1_worthTo_109 rfl rfl ?_
          refine g_iconst C dX1_worthTo_110 ic_2 ?_
          refine g_idivv (v := nI (a (30 + 4 * e + 2) / 2)) C (by decide) (nj_div2 (by have := hBa (30 + 4 * e + 2); omega)) dX1_worthTo_111 ?_
          refine g_istore (lv' := [(6, .int (nI (a (30 + 4 * e + 2) / 2))), (5, .int (nI ((a (30 + 4 * e + 2)) - g))), (4, .int (nI (a (30 + 4 * e)))), (3, .int (nI (a (30 + 4 * e + 2)))), (0, .ref (wA w b)), (1, .int (nI e)), (2, .int (nI g))]) C dX1_worthTo_112 (by decide) rfl ?_
          refine g_iload C dX1_worthTo_114 rfl ?_
          refine g_iconst C dX1_worthTo_116 ic_5 ?_
          refine g_icmp_ne (tgt := 135) C dX1_worthTo_117 rfl (fun c117_50 => ?_) (fun c117_50 => ?_)
          · skip
            have n117_50 : ¬ (a (30 + 4 * e) = 5) := fun qq => c117_50 ((nj_eq (a := a (30 + 4 * e)) (b := 5) (by have := hBa (30 + 4 * e); omega) (by have := hBa (30 + 4 * e); omega)).mpr qq)
            refine g_iconst C dX1_worthTo_135 ic_0 ?_
            refine g_istore (lv' := [(7, .int 0), (6, .int (nI (a (30 + 4 * e + 2) / 2))), (5, .int (nI ((a (30 + 4 * e + 2)) - g))), (4, .int (nI (a (30 + 4 * e)))), (3, .int (nI (a (30 + 4 * e + 2)))), (0, .ref (wA w b)), (1, .int (nI e)), (2, .int (nI g))]) C dX1_worthTo_136 (by decide) rfl ?_
            refine g_iload C dX1_worthTo_138 rfl ?_
            refine g_if_eq (tgt := 155) C dX1_worthTo_140 rfl (fun c140_51 => ?_) (fun c140_51 => ?_)
            · skip
              refine g_iload C dX1_worthTo_155 rfl ?_
              refine g_iret C r rfl dX1_worthTo_157 ?_
              refine ⟨?_, rfl⟩
              clear r C
              simp only [wJ, wNt, eats]
              repeat first | rw [if_pos (by omega)] | rw [if_neg (by omega)]
              all_goals first | rfl | exact congrArg nI (by omega) | exact congrArg nI (show 0 = _ by omega)
            · exact absurd c140_51 (by decide)
          · skip
            have n117_50 : a (30 + 4 * e) = 5 := (nj_eq (a := a (30 + 4 * e)) (b := 5) (by have := hBa (30 + 4 * e); omega) (by have := hBa (30 + 4 * e); omega)).mp c117_50
            refine g_aload_n C dX1_worthTo_120 rfl rfl ?_
            refine g_get (v := .int (σ b 5)) C fl_X1_36 fs_X1_36 (HB.n0 hb hN) (HB.ou hb _) rfl dX1_worthTo_121 ?_
            refine g_val (y := nI (a 1)) (Hh.d hH) ?_
            refine g_bipush C dX1_worthTo_124 bp_7 ?_
            refine g_iremv (v := nI (a 1 % 7)) C (by decide) (nj_rem (b := 7) (by have := hBa 1; omega) (by omega)) dX1_worthTo_126 ?_
            refine g_iconst C dX1_worthTo_127 ic_5 ?_
            refine g_icmp_lt (tgt := 135) C dX1_worthTo_128 rfl (fun c128_52 => ?_) (fun c128_52 => ?_)
            · skip
              have n128_52 : a 1 % 7 < 5 := (nj_lt (a := a 1 % 7) (b := 5) (by have := hBa 1; omega) (by have := hBa 1; omega)).mp c128_52
              refine g_iconst C dX1_worthTo_135 ic_0 ?_
              refine g_istore (lv' := [(7, .int 0), (6, .int (nI (a (30 + 4 * e + 2) / 2))), (5, .int (nI ((a (30 + 4 * e + 2)) - g))), (4, .int (nI (a (30 + 4 * e)))), (3, .int (nI (a (30 + 4 * e + 2)))), (0, .ref (wA w b)), (1, .int (nI e)), (2, .int (nI g))]) C dX1_worthTo_136 (by decide) rfl ?_
              refine g_iload C dX1_worthTo_138 rfl ?_
              refine g_if_eq (tgt := 155) C dX1_worthTo_140 rfl (fun c140_53 => ?_) (fun c140_53 => ?_)
              · skip
                refine g_iload C dX1_worthTo_155 rfl ?_
                refine g_iret C r rfl dX1_worthTo_157 ?_
                refine ⟨?_, rfl⟩
                clear r C
                simp only [wJ, wNt, eats]
                repeat first | rw [if_pos (by omega)] | rw [if_neg (by omega)]
                all_goals first | rfl | exact congrArg nI (by omega) | exact congrArg nI (show 0 = _ by omega)
              · exact absurd c140_53 (by decide)
            · skip
              have n128_52 : ¬ (a 1 % 7 < 5) := fun qq => c128_52 ((nj_lt (a := a 1 % 7) (b := 5) (by have := hBa 1; omega) (by have := hBa 1; omega)).mpr qq)
              refine g_iconst C dX1_worthTo_131 ic_1 ?_
              refine g_goto (tgt := 136) C dX1_worthTo_132 rfl ?_
              refine g_istore (lv' := [(7, .int 1), (6, .int (nI (a (30 + 4 * e + 2) / 2))), (5, .int (nI ((a (30 + 4 * e + 2)) - g))), (4, .int (nI (a (30 + 4 * e)))), (3, .int (nI (a (30 + 4 * e + 2)))), (0, .ref (wA w b)), (1, .int (nI e)), (2, .int (nI g))]) C dX1_worthTo_136 (by decide) rfl ?_
              refine g_iload C dX1_worthTo_138 rfl ?_
              refine g_if_eq (tgt := 155) C dX1_worthTo_140 rfl (fun c140_54 => ?_) (fun c140_54 => ?_)
              · exact absurd c140_54 (by decide)
              · skip
                refine g_iload C dX1_worthTo_143 rfl ?_
                refine g_if_le (tgt := 155) C dX1_worthTo_145 rfl (fun c145_55 => ?_) (fun c145_55 => ?_)
                · skip
                  have n145_55 : a (30 + 4 * e + 2) / 2 ≤ 0 := (nj_le (a := a (30 + 4 * e + 2) / 2) (b := 0) (by have := hBa (30 + 4 * e + 2); omega) (by have := hBa (30 + 4 * e + 2); omega)).mp c145_55
                  refine g_iload C dX1_worthTo_155 rfl ?_
                  refine g_iret C r rfl dX1_worthTo_157 ?_
                  refine ⟨?_, rfl⟩
                  clear r C
                  simp only [wJ, wNt, eats]
                  repeat first | rw [if_pos (by omega)] | rw [if_neg (by omega)]
                  all_goals first | rfl | exact congrArg nI (by omega) | exact congrArg nI (show 0 = _ by omega)
                · skip
                  have n145_55 : ¬ (a (30 + 4 * e + 2) / 2 ≤ 0) := fun qq => c145_55 ((nj_le (a := a (30 + 4 * e + 2) / 2) (b := 0) (by have := hBa (30 + 4 * e + 2); omega) (by have := hBa (30 + 4 * e + 2); omega)).mpr qq)
                  refine g_iload C dX1_worthTo_148 rfl ?_
                  refine g_iconst C dX1_worthTo_150 ic_1 ?_
                  refine g_isubv (v := nI ((a (30 + 4 * e + 2) / 2) - 1)) C (nj_minus (a := a (30 + 4 * e + 2) / 2) (b := 1) (by omega)) dX1_worthTo_151 ?_
                  refine g_goto (tgt := 157) C dX1_worthTo_152 rfl ?_
                  refine g_iret C r rfl dX1_worthTo_157 ?_
                  refine ⟨?_, rfl⟩
                  clear r C
                  simp only [wJ, wNt, eats]
                  repeat first | rw [if_pos (by omega)] | rw [if_neg (by omega)]
                  all_goals first | rfl | exact congrArg nI (by omega) | exact congrArg nI (show 0 = _ by omega)
        · skip
          have n102_49 : g = 0 := (nj_eq (a := g) (b := 0) (by omega) (by omega)).mp c102_49
          refine g_iload_n C dX1_worthTo_105 rfl rfl ?_
          refine g_goto (tgt := 112) C dX1_worthTo_106 rfl ?_
          refine g_istore (lv' := [(6, .int (nI (a (30 + 4 * e + 2)))), (5, .int (nI ((a (30 + 4 * e + 2)) - g))), (4, .int (nI (a (30 + 4 * e)))), (3, .int (nI (a (30 + 4 * e + 2)))), (0, .ref (wA w b)), (1, .int (nI e)), (2, .int (nI g))]) C dX1_worthTo_112 (by decide) rfl ?_
          refine g_iload C dX1_worthTo_114 rfl ?_
          refine g_iconst C dX1_worthTo_116 ic_5 ?_
          refine g_icmp_ne (tgt := 135) C dX1_worthTo_117 rfl (fun c117_56 => ?_) (fun c117_56 => ?_)
          · skip
            have n117_56 : ¬ (a (30 + 4 * e) = 5) := fun qq => c117_56 ((nj_eq (a := a (30 + 4 * e)) (b := 5) (by have := hBa (30 + 4 * e); omega) (by have := hBa (30 + 4 * e); omega)).mpr qq)
            refine g_iconst C dX1_worthTo_135 ic_0 ?_
            refine g_istore (lv' := [(7, .int 0), (6, .int (nI (a (30 + 4 * e + 2)))), (5, .int (nI ((a (30 + 4 * e + 2)) - g))), (4, .int (nI (a (30 + 4 * e)))), (3, .int (nI (a (30 + 4 * e + 2)))), (0, .ref (wA w b)), (1, .int (nI e)), (2, .int (nI g))]) C dX1_worthTo_136 (by decide) rfl ?_
            refine g_iload C dX1_worthTo_138 rfl ?_
            refine g_if_eq (tgt := 155) C dX1_worthTo_140 rfl (fun c140_57 => ?_) (fun c140_57 => ?_)
            · skip
              refine g_iload C dX1_worthTo_155 rfl ?_
              refine g_iret C r rfl dX1_worthTo_157 ?_
              refine ⟨?_, rfl⟩
              clear r C
              simp only [wJ, wNt, eats]
              repeat first | rw [if_pos (by omega)] | rw [if_neg (by omega)]
              all_goals first | rfl | exact congrArg nI (by omega) | exact congrArg nI (show 0 = _ by omega)
            · exact absurd c140_57 (by decide)
          · skip
            have n117_56 : a (30 + 4 * e) = 5 := (nj_eq (a := a (30 + 4 * e)) (b := 5) (by have := hBa (30 + 4 * e); omega) (by have := hBa (30 + 4 * e); omega)).mp c117_56
            refine g_aload_n C dX1_worthTo_120 rfl rfl ?_
            refine g_get (v := .int (σ b 5)) C fl_X1_36 fs_X1_36 (HB.n0 hb hN) (HB.ou hb _) rfl dX1_worthTo_121 ?_
            refine g_val (y := nI (a 1)) (Hh.d hH) ?_
            refine g_bipush C dX1_worthTo_124 bp_7 ?_
            refine g_iremv (v := nI (a 1 % 7)) C (by decide) (nj_rem (b := 7) (by have := hBa 1; omega) (by omega)) dX1_worthTo_126 ?_
            refine g_iconst C dX1_worthTo_127 ic_5 ?_
            refine g_icmp_lt (tgt := 135) C dX1_worthTo_128 rfl (fun c128_58 => ?_) (fun c128_58 => ?_)
            · skip
              have n128_58 : a 1 % 7 < 5 := (nj_lt (a := a 1 % 7) (b := 5) (by have := hBa 1; omega) (by have := hBa 1; omega)).mp c128_58
              refine g_iconst C dX1_worthTo_135 ic_0 ?_
              refine g_istore (lv' := [(7, .int 0), (6, .int (nI (a (30 + 4 * e + 2)))), (5, .int (nI ((a (30 + 4 * e + 2)) - g))), (4, .int (nI (a (30 + 4 * e)))), (3, .int (nI (a (30 + 4 * e + 2)))), (0, .ref (wA w b)), (1, .int (nI e)), (2, .int (nI g))]) C dX1_worthTo_136 (by decide) rfl ?_
              refine g_iload C dX1_worthTo_138 rfl ?_
              refine g_if_eq (tgt := 155) C dX1_worthTo_140 rfl (fun c140_59 => ?_) (fun c140_59 => ?_)
              · skip
                refine g_iload C dX1_worthTo_155 rfl ?_
                refine g_iret C r rfl dX1_worthTo_157 ?_
                refine ⟨?_, rfl⟩
                clear r C
                simp only [wJ, wNt, eats]
                repeat first | rw [if_pos (by omega)] | rw [if_neg (by omega)]
                all_goals first | rfl | exact congrArg nI (by omega) | exact congrArg nI (show 0 = _ by omega)
              · exact absurd c140_59 (by decide)
            · skip
              have n128_58 : ¬ (a 1 % 7 < 5) := fun qq => c128_58 ((nj_lt (a := a 1 % 7) (b := 5) (by have := hBa 1; omega) (by have := hBa 1; omega)).mpr qq)
              refine g_iconst C dX1_worthTo_131 ic_1 ?_
              refine g_goto (tgt := 136) C dX1_worthTo_132 rfl ?_
              refine g_istore (lv' := [(7, .int 1), (6, .int (nI (a (30 + 4 * e + 2)))), (5, .int (nI ((a (30 + 4 * e + 2)) - g))), (4, .int (nI (a (30 + 4 * e)))), (3, .int (nI (a (30 + 4 * e + 2)))), (0, .ref (wA w b)), (1, .int (nI e)), (2, .int (nI g))]) C dX1_worthTo_136 (by decide) rfl ?_
              refine g_iload C dX1_worthTo_138 rfl ?_
              refine g_if_eq (tgt := 155) C dX1_worthTo_140 rfl (fun c140_60 => ?_) (fun c140_60 => ?_)
              · exact absurd c140_60 (by decide)
              · skip
                refine g_iload C dX1_worthTo_143 rfl ?_
                refine g_if_le (tgt := 155) C dX1_worthTo_145 rfl (fun c145_61 => ?_) (fun c145_61 => ?_)
                · skip
                  have n145_61 : a (30 + 4 * e + 2) ≤ 0 := (nj_le (a := a (30 + 4 * e + 2)) (b := 0) (by have := hBa (30 + 4 * e + 2); omega) (by have := hBa (30 + 4 * e + 2); omega)).mp c145_61
                  refine g_iload C dX1_worthTo_155 rfl ?_
                  refine g_iret C r rfl dX1_worthTo_157 ?_
                  refine ⟨?_, rfl⟩
                  clear r C
                  simp only [wJ, wNt, eats]
                  repeat first | rw [if_pos (by omega)] | rw [if_neg (by omega)]
                  all_goals first | rfl | exact congrArg nI (by omega) | exact congrArg nI (show 0 = _ by omega)
                · skip
                  have n145_61 : ¬ (a (30 + 4 * e + 2) ≤ 0) := fun qq => c145_61 ((nj_le (a := a (30 + 4 * e + 2)) (b := 0) (by have := hBa (30 + 4 * e + 2); omega) (by have := hBa (30 + 4 * e + 2); omega)).mpr qq)
                  refine g_iload C dX1_worthTo_148 rfl ?_
                  refine g_iconst C dX1_worthTo_150 ic_1 ?_
                  refine g_isubv (v := nI ((a (30 + 4 * e + 2)) - 1)) C (nj_minus (a := a (30 + 4 * e + 2)) (b := 1) (by omega)) dX1_worthTo_151 ?_
                  refine g_goto (tgt := 157) C dX1_worthTo_152 rfl ?_
                  refine g_iret C r rfl dX1_worthTo_157 ?_
                  refine ⟨?_, rfl⟩
                  clear r C
                  simp only [wJ, wNt, eats]
                  repeat first | rw [if_pos (by omega)] | rw [if_neg (by omega)]
                  all_goals first | rfl | exact congrArg nI (by omega) | exact congrArg nI (show 0 = _ by omega)
      · skip
        have n96_48 : ¬ (g ≤ 1) := fun qq => c96_48 ((nj_le (a := g) (b := 1) (by omega) (by omega)).mpr qq)
        refine g_iconst C dX1_worthTo_99 ic_m1 ?_
        refine g_iret C r rfl dX1_worthTo_100 ?_
        refine ⟨?_, rfl⟩
        clear r C
        simp only [wJ, wNt, eats]
        repeat first | rw [if_pos (by omega)] | rw [if_neg (by omega)]
        all_goals first | rfl | exact congrArg nI (by omega) | exact congrArg nI (show 0 = _ by omega)
    have ns35_4 : ¬ (a (30 + 4 * e) = 5) := fun qq => s35_4 ((nj_eq (a := a (30 + 4 * e)) (b := 5) (by have := hBa (30 + 4 * e); omega) (by have := hBa (30 + 4 * e); omega)).mpr qq)
    refine g_tswd (tgt := 158) C dX1_worthTo_35 (by have q0 : (nI (a (30 + 4 * e)) : Int32).toInt ≠ 1 := ne_toInt s35_0; have q1 : (nI (a (30 + 4 * e)) : Int32).toInt ≠ 2 := ne_toInt s35_1; have q2 : (nI (a (30 + 4 * e)) : Int32).toInt ≠ 3 := ne_toInt s35_2; have q3 : (nI (a (30 + 4 * e)) : Int32).toInt ≠ 4 := ne_toInt s35_3; have q4 : (nI (a (30 + 4 * e)) : Int32).toInt ≠ 5 := ne_toInt s35_4; omega) rfl ?_
    refine g_iload C dX1_worthTo_158 rfl ?_
    refine g_iret C r rfl dX1_worthTo_160 ?_
    refine ⟨?_, rfl⟩
    clear r C
    simp only [wJ, wNt, eats]
    repeat first | rw [if_pos (by omega)] | rw [if_neg (by omega)]
    all_goals first | rfl | exact congrArg nI (by omega) | exact congrArg nI (show 0 = _ by omega)
set_option maxRecDepth 100000 in
set_option maxHeartbeats 4000000 in
theorem ct_X1_bring (l : Launch) (w : WD) (hN : 54 ≤ wN w) (σ : SG) (b : Nat) (hb : HB b) (a : Row) (hH : Hh σ b a) (hB : Bd a) (g m : Nat) (hg : g < 5) (hm : m ≤ 60) : CtI l w yX1_bring cX1_bring 4 (some .int) 2 0 0 [.ref (wA w b), .int (nI g), .int (nI m)] σ (fun r τ => r = nI (min m (60 - a (10 + g))) ∧ τ = up σ (b + 1) g (nI (a (10 + g) + min m (60 - a (10 + g))))) := by
  refine CtI.mk (by decide) (Nat.le_of_ble_eq_true rfl) ?_
  intro K C hr h0
  have r := RI.of hr h0
  clear hr h0
  show G l w K 0 [(0, .ref (wA w b)), (1, .int (nI g)), (2, .int (nI m))] [] σ
  obtain ⟨hBa, hB0, hB1, hB2, hB3, hB4, hB5, hB6, hB7, hBs, hBp, hBe⟩ := id hB
  have hg1 := hBs g hg
  refine g_iload_n C dX1_bring_0 rfl rfl ?_
  refine g_bipush C dX1_bring_1 bp_60 ?_
  refine g_aload_n C dX1_bring_3 rfl rfl ?_
  refine g_get (v := .ref (wA w (b + 1))) C fl_X1_9 fs_X1_9 (HB.n0 hb hN) (HB.ou hb _) rfl dX1_bring_4 ?_
  refine g_iload_n C dX1_bring_7 rfl rfl ?_
  refine g_ial (k0 := (b + 1)) (n := 5) C (HB.n hb hN (by decide)) (HB.s hb) (j := g) (ix_n (by omega)) dX1_bring_8 ?_
  refine g_val (y := nI (a (10 + g))) (Hh.s hH (by omega)) ?_
  refine g_isubv (v := nI (60 - (a (10 + g)))) C (nj_minus (a := 60) (b := a (10 + g)) (by omega)) dX1_bring_9 ?_
  refine g_min C ml_X1_53 st_Lib_Math_min ini_Math co_Lib_Math_min (by decide) (Nat.le_of_ble_eq_true rfl) dX1_bring_10 ?_
  refine g_val (y := nI (min m (60 - a (10 + g)))) (nj_min (by omega) (by omega)) ?_
  refine g_istore_n (lv' := [(3, .int (nI (min m (60 - a (10 + g))))), (0, .ref (wA w b)), (1, .int (nI g)), (2, .int (nI m))]) C dX1_bring_13 rfl (by decide) rfl ?_
  refine g_aload_n C dX1_bring_14 rfl rfl ?_
  refine g_get (v := .ref (wA w (b + 1))) C fl_X1_9 fs_X1_9 (HB.n0 hb hN) (HB.ou hb _) rfl dX1_bring_15 ?_
  refine g_iload_n C dX1_bring_18 rfl rfl ?_
  refine g_dup2 C dX1_bring_19 rfl rfl ?_
  refine g_ial (k0 := (b + 1)) (n := 5) C (HB.n hb hN (by decide)) (HB.s hb) (j := g) (ix_n (by omega)) dX1_bring_20 ?_
  refine g_val (y := nI (a (10 + g))) (Hh.s hH (by omega)) ?_
  refine g_iload_n C dX1_bring_21 rfl rfl ?_
  refine g_iaddv (v := nI ((a (10 + g)) + (min m (60 - a (10 + g))))) C (nj_plus (a (10 + g)) (min m (60 - a (10 + g)))) dX1_bring_22 ?_
  refine g_ias (k0 := (b + 1)) (n := 5) C (HB.n hb hN (by decide)) (HB.s hb) (j := g) (ix_n (by omega)) dX1_bring_23 (fun σ_1 hσ_1 => ?_)
  refine g_iload_n C dX1_bring_24 rfl rfl ?_
  refine g_iret C r rfl dX1_bring_25 ?_
  exact ⟨rfl, hσ_1⟩
set_option maxRecDepth 100000 in
set_option maxHeartbeats 4000000 in
theorem ct_X1_loseOldest (l : Launch) (w : WD) (hN : 54 ≤ wN w) (σ : SG) (b : Nat) (hb : HB b) (a0 : Row) (hH : Hh σ b a0) (hB : Bd a0) (k : Nat) (hk : k ≤ 100) : CtV l w yX1_loseOldest cX1_loseOldest 5 2 0 0 [.ref (wA w b), .int (nI k)] σ (fun τ => Hh τ b (losS a0 k 5).1 ∧ Fr (fun k => k = b + 1) σ τ) := by
  refine CtV.mk (by decide) (Nat.le_of_ble_eq_true rfl) ?_
  intro K C hr h0
  have r := RV.of hr h0
  clear hr h0
  show G l w K 0 [(0, .ref (wA w b)), (1, .int (nI k))] [] σ
  obtain ⟨hBa0, hB0, hB1, hB2, hB3, hB4, hB5, hB6, hB7, hBs, hBp, hBe⟩ := id hB
  refine g_iload_n C dX1_loseOldest_0 rfl rfl ?_
  refine g_istore_n (lv' := [(2, .int (nI k)), (0, .ref (wA w b)), (1, .int (nI k))]) C dX1_loseOldest_1 rfl (by decide) rfl ?_
  refine g_iconst C dX1_loseOldest_2 ic_4 ?_
  refine g_istore_n (lv' := [(3, .int 4), (2, .int (nI k)), (0, .ref (wA w b)), (1, .int (nI k))]) C dX1_loseOldest_3 rfl (by decide) rfl ?_
  have L4 : ∀ (m4 : Nat) (q : Nat) (a : Row) (t : Nat) (x : Int32) (σ1 : SG), m4 = q → (q ≤ 5) → (x = nI q - 1) → (losS a0 k (5 - q) = (a, t)) → (t ≤ 100) → (∀ j, a j ≤ 30000) → (Hh σ1 b a) → (Fr (fun k => k = b + 1) σ σ1) → G l w K 4 [(0, .ref (wA w b)), (2, .int (nI t)), (3, .int x)] [] σ1 := by
    intro m4
    induction m4 using Nat.strongRecOn with
    | ind m4 ih4 =>
    intro q a t x σ1 em4 hq hx hl ht hBa hH1 hF
    refine g_iload_n C dX1_loseOldest_4 rfl rfl ?_
    refine g_if_lt (tgt := 42) C dX1_loseOldest_5 rfl (fun c5_1 => ?_) (fun c5_1 => ?_)
    · skip
      obtain rfl : q = 0 := nj_pred0 hx c5_1 (by omega)
      refine g_vret C r dX1_loseOldest_42 ?_
      have hl5 : losS a0 k 5 = (a, t) := hl
      rw [hl5]
      exact ⟨hH1, hF⟩
    · skip
      obtain ⟨g, rfl, rfl⟩ : ∃ g, q = g + 1 ∧ x = nI g := nj_pred hx c5_1 (by omega)
      refine g_iload_n C dX1_loseOldest_8 rfl rfl ?_
      refine g_aload_n C dX1_loseOldest_9 rfl rfl ?_
      refine g_get (v := .ref (wA w (b + 1))) C fl_X1_9 fs_X1_9 (HB.n0 hb hN) (HB.ou hb _) rfl dX1_loseOldest_10 ?_
      refine g_iload_n C dX1_loseOldest_13 rfl rfl ?_
      refine g_ial (k0 := (b + 1)) (n := 5) C (HB.n hb hN (by decide)) (HB.s hb) (j := g) (ix_n (by omega)) dX1_loseOldest_14 ?_
      refine g_val (y := nI (a (10 + g))) (Hh.s hH1 (by omega)) ?_
      refine g_min C ml_X1_53 st_Lib_Math_min ini_Math co_Lib_Math_min (by decide) (Nat.le_of_ble_eq_true rfl) dX1_loseOldest_15 ?_
      refine g_val (y := nI (min t (a (10 + g)))) (nj_min (by omega) (by have := hBa (10 + g); omega)) ?_
      refine g_istore (lv' := [(4, .int (nI (min t (a (10 + g))))), (0, .ref (wA w b)), (2, .int (nI t)), (3, .int (nI g))]) C dX1_loseOldest_18 (by decide) rfl ?_
      refine g_aload_n C dX1_loseOldest_20 rfl rfl ?_
      refine g_get (v := .ref (wA w (b + 1))) C fl_X1_9 fs_X1_9 (HB.n0 hb hN) (HB.ou hb _) rfl dX1_loseOldest_21 ?_
      refine g_iload_n C dX1_loseOldest_24 rfl rfl ?_
      refine g_dup2 C dX1_loseOldest_25 rfl rfl ?_
      refine g_ial (k0 := (b + 1)) (n := 5) C (HB.n hb hN (by decide)) (HB.s hb) (j := g) (ix_n (by omega)) dX1_loseOldest_26 ?_
      refine g_val (y := nI (a (10 + g))) (Hh.s hH1 (by omega)) ?_
      refine g_iload C dX1_loseOldest_27 rfl ?_
      refine g_isubv (v := nI ((a (10 + g)) - (min t (a (10 + g))))) C (nj_minus (a := a (10 + g)) (b := min t (a (10 + g))) (by omega)) dX1_loseOldest_29 ?_
      refine g_ias (k0 := (b + 1)) (n := 5) C (HB.n hb hN (by decide)) (HB.s hb) (j := g) (ix_n (by omega)) dX1_loseOldest_30 (fun σ1n hσ1n => ?_)
      refine g_iload_n C dX1_loseOldest_31 rfl rfl ?_
      refine g_iload C dX1_loseOldest_32 rfl ?_
      refine g_isubv (v := nI (t - (min t (a (10 + g))))) C (nj_minus (a := t) (b := min t (a (10 + g))) (by omega)) dX1_loseOldest_34 ?_
      refine g_istore_n (lv' := [(2, .int (nI (t - (min t (a (10 + g)))))), (4, .int (nI (min t (a (10 + g))))), (0, .ref (wA w b)), (3, .int (nI g))]) C dX1_loseOldest_35 rfl (by decide) rfl ?_
      refine g_iinc (v := nI g - 1) (lv' := [(3, .int (nI g - 1)), (2, .int (nI (t - (min t (a (10 + g)))))), (4, .int (nI (min t (a (10 + g))))), (0, .ref (wA w b))]) C dX1_loseOldest_36 (by decide) rfl (nj_decr _) rfl ?_
      refine g_goto (tgt := 4) C dX1_loseOldest_39 rfl ?_
      exact g_lvp [3, 1, 0] rfl (ih4 (g) (by omega) g (ua a (10 + g) (a (10 + g) - min t (a (10 + g)))) (t - (min t (a (10 + g)))) (nI g - 1) σ1n rfl (by first | omega | assumption | rfl | grind) (by rfl) (losS_step hl (by omega)) (by omega) (fun j => by have := hBa j; have := hBa (10 + g); simp only [ua_at]; split <;> omega) (by subst hσ1n; exact hH1.us (by omega)) (by subst hσ1n; exact hF.tr (Fr.up (S := fun k => k = b + 1) rfl) (fun _ h => h)))
  exact g_lvp [2, 1, 0] rfl (L4 (5) 5 a0 k 4 σ rfl (by first | omega | assumption | rfl | grind) (by decide) (by rfl) (by first | omega | assumption | rfl | grind) (hBa0) (by first | omega | assumption | rfl | grind) (Fr.rf))

def sgn (c : Nat → Nat) (nl k : Nat) : Nat := if k < nl then c k else 59
theorem sg_in {c : Nat → Nat} {nl k : Nat} (h : k < nl) : sgn c nl k = c k := if_pos h
theorem nrc8 {c : Nat} (h : c ≤ 255) : narrow .char (.int (nI c)) = .int (nI c) := by
  have key : ∀ i : Fin 256, narrow .char (.int (nI i.val)) = .int (nI i.val) := by decide +kernel
  exact key ⟨c, by omega⟩
theorem dg_nat {x : Nat} (h : dgt x) : nI x - 48 = nI (x - 48) := nj_minus (a := x) (b := 48) h.1
theorem dg_two {x y : Nat} (h : dgt x) (h' : dgt y) : 10 * (nI x - 48) + (nI y - 48) = nI (10 * (x - 48) + (y - 48)) := by
  rw [dg_nat h, dg_nat h', ← nj_plus, ← nj_times]; rfl
theorem txF_neg {i s : Nat} (hi : i < 8) : oJ (txF i s) (-1) < 0 ↔ ¬ (txF i s).isSome = true := by
  cases h : txF i s with
  | none => exact ⟨fun _ z => (by cases z), fun _ => (by decide)⟩
  | some k =>
    have h1 := (txF_lt h).1
    have h2 := tx_l8 hi
    exact ⟨fun z => absurd z (nj_nn (by omega)), fun z => absurd rfl z⟩
theorem bI_dec {p : Prop} [Decidable p] : bI (decide p = true) = bI p := by
  by_cases h : p
  · simp [bI, h]
  · simp [bI, h]
set_option maxRecDepth 100000 in
set_option maxHeartbeats 4000000 in
theorem ct_X2_sign (l : Launch) (w : WD) (hN : 54 ≤ wN w) (σ : SG) (nl : Nat) (c : Nat → Nat) (hl1 : σ 32 1 = nI nl) (hl9 : nl ≤ 96) (hc : ∀ j, j < nl → σ 33 j = nI (c j)) (hc9 : ∀ j, j < nl → c j ≤ 255) (k : Nat) (hk : k ≤ 1000) : CtI l w yX2_sign cX2_sign 2 (some .char) 1 0 0 [.ref (wA w 32), .int (nI k)] σ (fun r τ => r = nI (sgn c nl k) ∧ τ = σ) := by
  refine CtI.mk (by decide) (Nat.le_of_ble_eq_true rfl) ?_
  intro K C hr h0
  have r := RI.of hr h0
  clear hr h0
  show G l w K 0 [(0, .ref (wA w 32)), (1, .int (nI k))] [] σ
  refine g_iload_n C dX2_sign_0 rfl rfl ?_
  refine g_if_lt (tgt := 21) C dX2_sign_1 rfl (fun c1_1 => ?_) (fun c1_1 => ?_)
  · skip
    have n1_1 : k < 0 := (nj_lt (a := k) (b := 0) (by omega) (by omega)).mp c1_1
    exfalso
    omega
  · skip
    have n1_1 : ¬ (k < 0) := fun qq => c1_1 ((nj_lt (a := k) (b := 0) (by omega) (by omega)).mpr qq)
    refine g_iload_n C dX2_sign_4 rfl rfl ?_
    refine g_aload_n C dX2_sign_5 rfl rfl ?_
    refine g_get (v := .int (σ 32 1)) C fl_X2_15 fs_X2_15 (Nat.lt_of_lt_of_le (by decide) hN) rfl rfl dX2_sign_6 ?_
    refine g_val (y := nI nl) hl1 ?_
    refine g_icmp_ge (tgt := 21) C dX2_sign_9 rfl (fun c9_2 => ?_) (fun c9_2 => ?_)
    · skip
      have n9_2 : nl ≤ k := (nj_le (a := nl) (b := k) (by omega) (by omega)).mp c9_2
      refine g_bipush C dX2_sign_21 bp_59 ?_
      refine g_iret C r rfl dX2_sign_23 ?_
      refine ⟨?_, rfl⟩
      first | exact (congrArg nI (if_pos (show k < nl by omega))).symm | exact (congrArg nI (if_neg (show ¬ k < nl by omega))).symm
    · skip
      have n9_2 : ¬ (nl ≤ k) := fun qq => c9_2 ((nj_le (a := nl) (b := k) (by omega) (by omega)).mpr qq)
      refine g_aload_n C dX2_sign_12 rfl rfl ?_
      refine g_get (v := .ref (wA w 33)) C fl_X2_9 fs_X2_9 (Nat.lt_of_lt_of_le (by decide) hN) rfl rfl dX2_sign_13 ?_
      refine g_iload_n C dX2_sign_16 rfl rfl ?_
      refine g_cal (k0 := 33) (n := 96) C (Nat.lt_of_lt_of_le (by decide) hN) rfl (j := k) (ix_n (by omega)) dX2_sign_17 ?_
      refine g_val (y := nI (c k)) (hc k (by omega)) ?_
      refine g_goto (tgt := 23) C dX2_sign_18 rfl ?_
      refine g_iret C r (nrc8 (hc9 k (by omega))) dX2_sign_23 ?_
      refine ⟨?_, rfl⟩
      first | exact (congrArg nI (if_pos (show k < nl by omega))).symm | exact (congrArg nI (if_neg (show ¬ k < nl by omega))).symm
set_option maxRecDepth 100000 in
set_option maxHeartbeats 4000000 in
theorem ct_X2_digit (l : Launch) (w : WD) (hN : 54 ≤ wN w) (σ : SG) (nl : Nat) (c : Nat → Nat) (hl1 : σ 32 1 = nI nl) (hl9 : nl ≤ 96) (hc : ∀ j, j < nl → σ 33 j = nI (c j)) (hc9 : ∀ j, j < nl → c j ≤ 255) (k : Nat) (hk : k ≤ 1000) : CtI l w yX2_digit cX2_digit 2 (some .int) 2 0 0 [.ref (wA w 32), .int (nI k)] σ (fun r τ => r = nI (sgn c nl k) - 48 ∧ τ = σ) := by
  refine CtI.mk (by decide) (Nat.le_of_ble_eq_true rfl) ?_
  intro K C hr h0
  have r := RI.of hr h0
  clear hr h0
  show G l w K 0 [(0, .ref (wA w 32)), (1, .int (nI k))] [] σ
  refine g_aload_n C dX2_digit_0 rfl rfl ?_
  refine g_iload_n C dX2_digit_1 rfl rfl ?_
  refine g_pVI (rest := []) (v := nI (sgn c nl k)) C mv_X2_19 (ct_X2_sign l w hN σ nl c hl1 hl9 hc hc9 k (by omega)) (Nat.lt_of_lt_of_le (by decide) hN) rfl rfl (by decide) rfl (Nat.le_of_ble_eq_true rfl) dX2_digit_2 ?_
  refine g_bipush C dX2_digit_5 bp_48 ?_
  refine g_isubv (v := (nI (sgn c nl k)) - 48) C rfl dX2_digit_7 ?_
  refine g_iret C r rfl dX2_digit_8 ?_
  exact ⟨rfl, rfl⟩
set_option maxRecDepth 100000 in
set_option maxHeartbeats 4000000 in
theorem ct_X2_twoDigits (l : Launch) (w : WD) (hN : 54 ≤ wN w) (σ : SG) (nl : Nat) (c : Nat → Nat) (hl1 : σ 32 1 = nI nl) (hl9 : nl ≤ 96) (hc : ∀ j, j < nl → σ 33 j = nI (c j)) (hc9 : ∀ j, j < nl → c j ≤ 255) (k : Nat) (hk : k ≤ 900) : CtI l w yX2_twoDigits cX2_twoDigits 2 (some .int) 3 0 0 [.ref (wA w 32), .int (nI k)] σ (fun r τ => r = 10 * (nI (sgn c nl k) - 48) + (nI (sgn c nl (k + 1)) - 48) ∧ τ = σ) := by
  refine CtI.mk (by decide) (Nat.le_of_ble_eq_true rfl) ?_
  intro K C hr h0
  have r := RI.of hr h0
  clear hr h0
  show G l w K 0 [(0, .ref (wA w 32)), (1, .int (nI k))] [] σ
  refine g_bipush C dX2_twoDigits_0 bp_10 ?_
  refine g_aload_n C dX2_twoDigits_2 rfl rfl ?_
  refine g_iload_n C dX2_twoDigits_3 rfl rfl ?_
  refine g_pVI (rest := [.int 10]) (v := nI (sgn c nl k) - 48) C mv_X2_23 (ct_X2_digit l w hN σ nl c hl1 hl9 hc hc9 k (by omega)) (Nat.lt_of_lt_of_le (by decide) hN) rfl rfl (by decide) rfl (Nat.le_of_ble_eq_true rfl) dX2_twoDigits_4 ?_
  refine g_imulv (v := 10 * (nI (sgn c nl k) - 48)) C rfl dX2_twoDigits_7 ?_
  refine g_aload_n C dX2_twoDigits_8 rfl rfl ?_
  refine g_iload_n C dX2_twoDigits_9 rfl rfl ?_
  refine g_iconst C dX2_twoDigits_10 ic_1 ?_
  refine g_iaddv (v := nI (k + 1)) C (nj_plus k 1) dX2_twoDigits_11 ?_
  refine g_pVI (rest := [.int (10 * (nI (sgn c nl k) - 48))]) (v := nI (sgn c nl (k + 1)) - 48) C mv_X2_23 (ct_X2_digit l w hN σ nl c hl1 hl9 hc hc9 (k + 1) (by omega)) (Nat.lt_of_lt_of_le (by decide) hN) rfl rfl (by decide) rfl (Nat.le_of_ble_eq_true rfl) dX2_twoDigits_12 ?_
  refine g_iaddv (v := (10 * (nI (sgn c nl k) - 48)) + (nI (sgn c nl (k + 1)) - 48)) C rfl dX2_twoDigits_15 ?_
  refine g_iret C r rfl dX2_twoDigits_16 ?_
  exact ⟨rfl, rfl⟩
set_option maxRecDepth 100000 in
set_option maxHeartbeats 4000000 in
theorem ct_X2_isDigit (l : Launch) (w : WD) (hN : 54 ≤ wN w) (σ : SG) (s : Nat) (hs : s ≤ 255) : CtI l w yX2_isDigit cX2_isDigit 1 (some .boolean) 1 0 0 [.int (nI s)] σ (fun r τ => r = bI (dgt s) ∧ τ = σ) := by
  refine CtI.mk (by decide) (Nat.le_of_ble_eq_true rfl) ?_
  intro K C hr h0
  have r := RI.of hr h0
  clear hr h0
  show G l w K 0 [(0, .int (nI s))] [] σ
  refine g_iload_n C dX2_isDigit_0 rfl rfl ?_
  refine g_bipush C dX2_isDigit_1 bp_48 ?_
  refine g_icmp_lt (tgt := 16) C dX2_isDigit_3 rfl (fun c3_1 => ?_) (fun c3_1 => ?_)
  · skip
    have n3_1 : s < 48 := (nj_lt (a := s) (b := 48) (by omega) (by omega)).mp c3_1
    refine g_iconst C dX2_isDigit_16 ic_0 ?_
    refine g_iret C r rfl dX2_isDigit_17 ?_
    refine ⟨?_, rfl⟩
    first | exact (if_pos (show dgt s from ⟨by omega, by omega⟩)).symm | exact (if_neg (fun z : dgt s => by omega)).symm
  · skip
    have n3_1 : ¬ (s < 48) := fun qq => c3_1 ((nj_lt (a := s) (b := 48) (by omega) (by omega)).mpr qq)
    refine g_iload_n C dX2_isDigit_6 rfl rfl ?_
    refine g_bipush C dX2_isDigit_7 bp_57 ?_
    refine g_icmp_gt (tgt := 16) C dX2_isDigit_9 rfl (fun c9_2 => ?_) (fun c9_2 => ?_)
    · skip
      have n9_2 : 57 < s := (nj_lt (a := 57) (b := s) (by omega) (by omega)).mp c9_2
      refine g_iconst C dX2_isDigit_16 ic_0 ?_
      refine g_iret C r rfl dX2_isDigit_17 ?_
      refine ⟨?_, rfl⟩
      first | exact (if_pos (show dgt s from ⟨by omega, by omega⟩)).symm | exact (if_neg (fun z : dgt s => by omega)).symm
    · skip
      have n9_2 : ¬ (57 < s) := fun qq => c9_2 ((nj_lt (a := 57) (b := s) (by omega) (by omega)).mpr qq)
      refine g_iconst C dX2_isDigit_12 ic_1 ?_
      refine g_goto (tgt := 17) C dX2_isDigit_13 rfl ?_
      refine g_iret C r rfl dX2_isDigit_17 ?_
      refine ⟨?_, rfl⟩
      first | exact (if_pos (show dgt s from ⟨by omega, by omega⟩)).symm | exact (if_neg (fun z : dgt s => by omega)).symm
set_option maxRecDepth 100000 in
set_option maxHeartbeats 4000000 in
theorem ct_goes_69 (l : Launch) (w : WD) (hN : 54 ≤ wN w) (σ : SG) (s : Nat) (hs : s ≤ 255) : CtI l w yX2_goesOn cX2_goesOn 2 (some .boolean) 8 0 0 [.int 69, .int (nI s)] σ (fun r τ => r = bI (gOb 69 s = true) ∧ τ = σ) := by
  refine CtI.mk (by decide) (Nat.le_of_ble_eq_true rfl) ?_
  intro K C hr h0
  have r := RI.of hr h0
  clear hr h0
  show G l w K 0 [(0, .int 69), (1, .int (nI s))] [] σ
  refine g_iload_n C dX2_goesOn_0 rfl rfl ?_
  refine g_lsw (x := 69) (off := 51) (tgt := 52) C dX2_goesOn_1 (by decide) (by decide) rfl ?_
  refine g_ldcs (i := 6) C (by decide) rfl dX2_goesOn_52 ?_
  refine g_iload_n C dX2_goesOn_54 rfl rfl ?_
  refine g_pWI (i := 6) (rest := []) (v := oJ (txF 6 s) (-1)) C mw_X2_66 (by decide) (ct_J0_indexOf_0f7a4 l w hN σ 6 (by decide) s hs (by decide)) rfl (by decide) rfl (Nat.le_of_ble_eq_true rfl) dX2_goesOn_55 ?_
  refine g_if_lt (tgt := 65) C dX2_goesOn_58 rfl (fun c58_1 => ?_) (fun c58_1 => ?_)
  · skip
    have hg : ¬ gOb 69 s = true := (txF_neg (by decide)).mp c58_1
    refine g_iconst C dX2_goesOn_65 ic_0 ?_
    refine g_iret C r rfl dX2_goesOn_66 ?_
    refine ⟨?_, rfl⟩
    first | exact (if_pos hg).symm | exact (if_neg hg).symm | exact bI_dec.symm
  · skip
    have hg : gOb 69 s = true := Decidable.byContradiction (fun z => c58_1 ((txF_neg (by decide)).mpr z))
    refine g_iconst C dX2_goesOn_61 ic_1 ?_
    refine g_goto (tgt := 66) C dX2_goesOn_62 rfl ?_
    refine g_iret C r rfl dX2_goesOn_66 ?_
    refine ⟨?_, rfl⟩
    first | exact (if_pos hg).symm | exact (if_neg hg).symm | exact bI_dec.symm
set_option maxRecDepth 100000 in
set_option maxHeartbeats 4000000 in
theorem ct_goes_72 (l : Launch) (w : WD) (hN : 54 ≤ wN w) (σ : SG) (s : Nat) (hs : s ≤ 255) : CtI l w yX2_goesOn cX2_goesOn 2 (some .boolean) 8 0 0 [.int 72, .int (nI s)] σ (fun r τ => r = bI (gOb 72 s = true) ∧ τ = σ) := by
  refine CtI.mk (by decide) (Nat.le_of_ble_eq_true rfl) ?_
  intro K C hr h0
  have r := RI.of hr h0
  clear hr h0
  show G l w K 0 [(0, .int 72), (1, .int (nI s))] [] σ
  refine g_iload_n C dX2_goesOn_0 rfl rfl ?_
  refine g_lsw (x := 72) (off := 66) (tgt := 67) C dX2_goesOn_1 (by decide) (by decide) rfl ?_
  refine g_ldcs (i := 7) C (by decide) rfl dX2_goesOn_67 ?_
  refine g_iload_n C dX2_goesOn_69 rfl rfl ?_
  refine g_pWI (i := 7) (rest := []) (v := oJ (txF 7 s) (-1)) C mw_X2_66 (by decide) (ct_J0_indexOf_0f7a4 l w hN σ 7 (by decide) s hs (by decide)) rfl (by decide) rfl (Nat.le_of_ble_eq_true rfl) dX2_goesOn_70 ?_
  refine g_if_lt (tgt := 80) C dX2_goesOn_73 rfl (fun c73_1 => ?_) (fun c73_1 => ?_)
  · skip
    have hg : ¬ gOb 72 s = true := (txF_neg (by decide)).mp c73_1
    refine g_iconst C dX2_goesOn_80 ic_0 ?_
    refine g_iret C r rfl dX2_goesOn_81 ?_
    refine ⟨?_, rfl⟩
    first | exact (if_pos hg).symm | exact (if_neg hg).symm | exact bI_dec.symm
  · skip
    have hg : gOb 72 s = true := Decidable.byContradiction (fun z => c73_1 ((txF_neg (by decide)).mpr z))
    refine g_iconst C dX2_goesOn_76 ic_1 ?_
    refine g_goto (tgt := 81) C dX2_goesOn_77 rfl ?_
    refine g_iret C r rfl dX2_goesOn_81 ?_
    refine ⟨?_, rfl⟩
    first | exact (if_pos hg).symm | exact (if_neg hg).symm | exact bI_dec.symm
set_option maxRecDepth 100000 in
set_option maxHeartbeats 4000000 in
theorem ct_goes_87 (l : Launch) (w : WD) (hN : 54 ≤ wN w) (σ : SG) (s : Nat) (hs : s ≤ 255) : CtI l w yX2_goesOn cX2_goesOn 2 (some .boolean) 8 0 0 [.int 87, .int (nI s)] σ (fun r τ => r = bI (gOb 87 s = true) ∧ τ = σ) := by
  refine CtI.mk (by decide) (Nat.le_of_ble_eq_true rfl) ?_
  intro K C hr h0
  have r := RI.of hr h0
  clear hr h0
  show G l w K 0 [(0, .int 87), (1, .int (nI s))] [] σ
  refine g_iload_n C dX2_goesOn_0 rfl rfl ?_
  refine g_lsw (x := 87) (off := 81) (tgt := 82) C dX2_goesOn_1 (by decide) (by decide) rfl ?_
  refine g_iload_n C dX2_goesOn_82 rfl rfl ?_
  refine g_bipush C dX2_goesOn_83 bp_111 ?_
  refine g_icmp_eq (tgt := 94) C dX2_goesOn_85 rfl (fun c85_1 => ?_) (fun c85_1 => ?_)
  · skip
    have n85_1 : s = 111 := (nj_eq (a := s) (b := 111) (by omega) (by omega)).mp c85_1
    have hg : gOb 87 s = true := decide_eq_true (by omega)
    refine g_iconst C dX2_goesOn_94 ic_1 ?_
    refine g_goto (tgt := 99) C dX2_goesOn_95 rfl ?_
    refine g_iret C r rfl dX2_goesOn_99 ?_
    refine ⟨?_, rfl⟩
    first | exact (if_pos hg).symm | exact (if_neg hg).symm | exact bI_dec.symm
  · skip
    have n85_1 : ¬ (s = 111) := fun qq => c85_1 ((nj_eq (a := s) (b := 111) (by omega) (by omega)).mpr qq)
    refine g_iload_n C dX2_goesOn_88 rfl rfl ?_
    refine g_bipush C dX2_goesOn_89 bp_120 ?_
    refine g_icmp_ne (tgt := 98) C dX2_goesOn_91 rfl (fun c91_2 => ?_) (fun c91_2 => ?_)
    · skip
      have n91_2 : ¬ (s = 120) := fun qq => c91_2 ((nj_eq (a := s) (b := 120) (by omega) (by omega)).mpr qq)
      have hg : ¬ gOb 87 s = true := fun z => by have := of_decide_eq_true z; omega
      refine g_iconst C dX2_goesOn_98 ic_0 ?_
      refine g_iret C r rfl dX2_goesOn_99 ?_
      refine ⟨?_, rfl⟩
      first | exact (if_pos hg).symm | exact (if_neg hg).symm | exact bI_dec.symm
    · skip
      have n91_2 : s = 120 := (nj_eq (a := s) (b := 120) (by omega) (by omega)).mp c91_2
      have hg : gOb 87 s = true := decide_eq_true (by omega)
      refine g_iconst C dX2_goesOn_94 ic_1 ?_
      refine g_goto (tgt := 99) C dX2_goesOn_95 rfl ?_
      refine g_iret C r rfl dX2_goesOn_99 ?_
      refine ⟨?_, rfl⟩
      first | exact (if_pos hg).symm | exact (if_neg hg).symm | exact bI_dec.symm
set_option maxRecDepth 100000 in
set_option maxHeartbeats 4000000 in
theorem ct_goes_57 (l : Launch) (w : WD) (hN : 54 ≤ wN w) (σ : SG) (s : Nat) (hs : s ≤ 255) : CtI l w yX2_goesOn cX2_goesOn 2 (some .boolean) 8 0 0 [.int 57, .int (nI s)] σ (fun r τ => r = bI (gOb 57 s = true) ∧ τ = σ) := by
  refine CtI.mk (by decide) (Nat.le_of_ble_eq_true rfl) ?_
  intro K C hr h0
  have r := RI.of hr h0
  clear hr h0
  show G l w K 0 [(0, .int 57), (1, .int (nI s))] [] σ
  refine g_iload_n C dX2_goesOn_0 rfl rfl ?_
  refine g_lsw (x := 57) (off := 99) (tgt := 100) C dX2_goesOn_1 (by decide) (by decide) rfl ?_
  refine g_iload_n C dX2_goesOn_100 rfl rfl ?_
  refine g_pSI (rest := []) (v := bI (dgt s)) C ms_X2_46 (ct_X2_isDigit l w hN σ s hs) rfl (by decide) rfl (Nat.le_of_ble_eq_true rfl) dX2_goesOn_101 ?_
  refine g_iret C r bI_nr dX2_goesOn_104 ?_
  refine ⟨?_, rfl⟩
  first | exact (if_pos hg).symm | exact (if_neg hg).symm | exact bI_dec.symm
set_option maxRecDepth 100000 in
set_option maxHeartbeats 4000000 in
theorem ct_goes_63 (l : Launch) (w : WD) (hN : 54 ≤ wN w) (σ : SG) (s : Nat) (hs : s ≤ 255) : CtI l w yX2_goesOn cX2_goesOn 2 (some .boolean) 8 0 0 [.int 63, .int (nI s)] σ (fun r τ => r = bI (gOb 63 s = true) ∧ τ = σ) := by
  refine CtI.mk (by decide) (Nat.le_of_ble_eq_true rfl) ?_
  intro K C hr h0
  have r := RI.of hr h0
  clear hr h0
  show G l w K 0 [(0, .int 63), (1, .int (nI s))] [] σ
  refine g_iload_n C dX2_goesOn_0 rfl rfl ?_
  refine g_lsw (x := 63) (off := 99) (tgt := 100) C dX2_goesOn_1 (by decide) (by decide) rfl ?_
  refine g_iload_n C dX2_goesOn_100 rfl rfl ?_
  refine g_pSI (rest := []) (v := bI (dgt s)) C ms_X2_46 (ct_X2_isDigit l w hN σ s hs) rfl (by decide) rfl (Nat.le_of_ble_eq_true rfl) dX2_goesOn_101 ?_
  refine g_iret C r bI_nr dX2_goesOn_104 ?_
  refine ⟨?_, rfl⟩
  first | exact (if_pos hg).symm | exact (if_neg hg).symm | exact bI_dec.symm
set_option maxRecDepth 100000 in
set_option maxHeartbeats 4000000 in
theorem ct_goes_59 (l : Launch) (w : WD) (hN : 54 ≤ wN w) (σ : SG) (s : Nat) (hs : s ≤ 255) : CtI l w yX2_goesOn cX2_goesOn 2 (some .boolean) 8 0 0 [.int 59, .int (nI s)] σ (fun r τ => r = bI (gOb 59 s = true) ∧ τ = σ) := by
  refine CtI.mk (by decide) (Nat.le_of_ble_eq_true rfl) ?_
  intro K C hr h0
  have r := RI.of hr h0
  clear hr h0
  show G l w K 0 [(0, .int 59), (1, .int (nI s))] [] σ
  refine g_iload_n C dX2_goesOn_0 rfl rfl ?_
  refine g_lsw (x := 59) (off := 104) (tgt := 105) C dX2_goesOn_1 (by decide) (by decide) rfl ?_
  refine g_iload_n C dX2_goesOn_105 rfl rfl ?_
  refine g_iload_n C dX2_goesOn_106 rfl rfl ?_
  refine g_icmp_ne (tgt := 114) C dX2_goesOn_107 rfl (fun c107_1 => ?_) (fun c107_1 => ?_)
  · skip
    have n107_1 : ¬ (s = 59) := fun qq => c107_1 ((nj_eq (a := s) (b := 59) (by omega) (by omega)).mpr qq)
    have hg : ¬ gOb 59 s = true := fun z => by have := of_decide_eq_true z; omega
    refine g_iconst C dX2_goesOn_114 ic_0 ?_
    refine g_iret C r rfl dX2_goesOn_115 ?_
    refine ⟨?_, rfl⟩
    first | exact (if_pos hg).symm | exact (if_neg hg).symm | exact bI_dec.symm
  · skip
    have n107_1 : s = 59 := (nj_eq (a := s) (b := 59) (by omega) (by omega)).mp c107_1
    have hg : gOb 59 s = true := decide_eq_true (by omega)
    refine g_iconst C dX2_goesOn_110 ic_1 ?_
    refine g_goto (tgt := 115) C dX2_goesOn_111 rfl ?_
    refine g_iret C r rfl dX2_goesOn_115 ?_
    refine ⟨?_, rfl⟩
    first | exact (if_pos hg).symm | exact (if_neg hg).symm | exact bI_dec.symm
theorem ct_X2_goesOn (l : Launch) (w : WD) (hN : 54 ≤ wN w) (σ : SG) (m s : Nat) (hs : s ≤ 255) (hm : m = 69 ∨ m = 72 ∨ m = 87 ∨ m = 57 ∨ m = 63 ∨ m = 59) : CtI l w yX2_goesOn cX2_goesOn 2 (some .boolean) 8 0 0 [.int (nI m), .int (nI s)] σ (fun r τ => r = bI (gOb m s = true) ∧ τ = σ) := by
  rcases hm with rfl | rfl | rfl | rfl | rfl | rfl
  · exact ct_goes_69 l w hN σ s hs
  · exact ct_goes_72 l w hN σ s hs
  · exact ct_goes_87 l w hN σ s hs
  · exact ct_goes_57 l w hN σ s hs
  · exact ct_goes_63 l w hN σ s hs
  · exact ct_goes_59 l w hN σ s hs
theorem must_in {f t : Nat} (hf : f < 6) (ht : t < txL f) : txN f t = 69 ∨ txN f t = 72 ∨ txN f t = 87 ∨ txN f t = 57 ∨ txN f t = 63 ∨ txN f t = 59 := by
  have key : ∀ (i : Fin 6) (j : Fin 8), j.val < txL i.val → txN i.val j.val = 69 ∨ txN i.val j.val = 72 ∨ txN i.val j.val = 87 ∨ txN i.val j.val = 57 ∨ txN i.val j.val = 63 ∨ txN i.val j.val = 59 := by decide +kernel
  have h8 := tx_l8 (i := f) (by omega)
  exact key ⟨f, hf⟩ ⟨t, by omega⟩ ht
set_option maxRecDepth 100000 in
set_option maxHeartbeats 4000000 in
theorem ct_X2_formBehind (l : Launch) (w : WD) (hN : 54 ≤ wN w) (σ : SG) (s : Nat) (hs : s ≤ 255) : CtR l w yX2_formBehind cX2_formBehind 1 (some (.object "java/lang/String")) 1 0 0 [.int (nI s)] σ (fun τ a => a = sK w (fB s) ∧ τ = σ) := by
  refine CtR.mk (by decide) (Nat.le_of_ble_eq_true rfl) ?_
  intro K C hr h0
  have r := RR.of hr h0
  clear hr h0
  show G l w K 0 [(0, .int (nI s))] [] σ
  refine g_iload_n C dX2_formBehind_0 rfl rfl ?_
  by_cases s1_0 : nI s = 98
  · skip
    have ns1_0 : s = 98 := (nj_eq (a := s) (b := 98) (by omega) (by omega)).mp s1_0
    refine g_tsw (v := 98) (tgt := 107) C dX2_formBehind_1 s1_0 (by decide) (by decide) rfl rfl ?_
    refine g_ldcs (i := 2) C (by decide) rfl dX2_formBehind_107 ?_
    refine g_aret C r dX2_formBehind_109 ?_
    exact ⟨congrArg (sK w) (show _ = fB s by unfold fB; repeat first | rw [if_pos (by omega)] | rw [if_neg (by omega)]), rfl⟩
  have ns1_0 : ¬ (s = 98) := fun qq => s1_0 ((nj_eq (a := s) (b := 98) (by omega) (by omega)).mpr qq)
  by_cases s1_1 : nI s = 99
  · skip
    have ns1_1 : s = 99 := (nj_eq (a := s) (b := 99) (by omega) (by omega)).mp s1_1
    refine g_tsw (v := 99) (tgt := 107) C dX2_formBehind_1 s1_1 (by decide) (by decide) rfl rfl ?_
    refine g_ldcs (i := 2) C (by decide) rfl dX2_formBehind_107 ?_
    refine g_aret C r dX2_formBehind_109 ?_
    exact ⟨congrArg (sK w) (show _ = fB s by unfold fB; repeat first | rw [if_pos (by omega)] | rw [if_neg (by omega)]), rfl⟩
  have ns1_1 : ¬ (s = 99) := fun qq => s1_1 ((nj_eq (a := s) (b := 99) (by omega) (by omega)).mpr qq)
  by_cases s1_2 : nI s = 100
  · skip
    have ns1_2 : s = 100 := (nj_eq (a := s) (b := 100) (by omega) (by omega)).mp s1_2
    refine g_tsw (v := 100) (tgt := 116) C dX2_formBehind_1 s1_2 (by decide) (by decide) rfl rfl ?_
    refine g_ldcs (i := 5) C (by decide) rfl dX2_formBehind_116 ?_
    refine g_aret C r dX2_formBehind_118 ?_
    exact ⟨congrArg (sK w) (show _ = fB s by unfold fB; repeat first | rw [if_pos (by omega)] | rw [if_neg (by omega)]), rfl⟩
  have ns1_2 : ¬ (s = 100) := fun qq => s1_2 ((nj_eq (a := s) (b := 100) (by omega) (by omega)).mpr qq)
  by_cases s1_3 : nI s = 101
  · skip
    have ns1_3 : s = 101 := (nj_eq (a := s) (b := 101) (by omega) (by omega)).mp s1_3
    refine g_tsw (v := 101) (tgt := 104) C dX2_formBehind_1 s1_3 (by decide) (by decide) rfl rfl ?_
    refine g_ldcs (i := 1) C (by decide) rfl dX2_formBehind_104 ?_
    refine g_aret C r dX2_formBehind_106 ?_
    exact ⟨congrArg (sK w) (show _ = fB s by unfold fB; repeat first | rw [if_pos (by omega)] | rw [if_neg (by omega)]), rfl⟩
  have ns1_3 : ¬ (s = 101) := fun qq => s1_3 ((nj_eq (a := s) (b := 101) (by omega) (by omega)).mpr qq)
  by_cases s1_4 : nI s = 102
  · skip
    have ns1_4 : s = 102 := (nj_eq (a := s) (b := 102) (by omega) (by omega)).mp s1_4
    refine g_tsw (v := 102) (tgt := 119) C dX2_formBehind_1 s1_4 (by decide) (by decide) rfl rfl ?_
    refine g_ldcs (i := 0) C (by decide) rfl dX2_formBehind_119 ?_
    refine g_aret C r dX2_formBehind_121 ?_
    exact ⟨congrArg (sK w) (show _ = fB s by unfold fB; repeat first | rw [if_pos (by omega)] | rw [if_neg (by omega)]), rfl⟩
  have ns1_4 : ¬ (s = 102) := fun qq => s1_4 ((nj_eq (a := s) (b := 102) (by omega) (by omega)).mpr qq)
  by_cases s1_5 : nI s = 103
  · skip
    have ns1_5 : s = 103 := (nj_eq (a := s) (b := 103) (by omega) (by omega)).mp s1_5
    refine g_tsw (v := 103) (tgt := 119) C dX2_formBehind_1 s1_5 (by decide) (by decide) rfl rfl ?_
    refine g_ldcs (i := 0) C (by decide) rfl dX2_formBehind_119 ?_
    refine g_aret C r dX2_formBehind_121 ?_
    exact ⟨congrArg (sK w) (show _ = fB s by unfold fB; repeat first | rw [if_pos (by omega)] | rw [if_neg (by omega)]), rfl⟩
  have ns1_5 : ¬ (s = 103) := fun qq => s1_5 ((nj_eq (a := s) (b := 103) (by omega) (by omega)).mpr qq)
  by_cases s1_6 : nI s = 104
  · skip
    have ns1_6 : s = 104 := (nj_eq (a := s) (b := 104) (by omega) (by omega)).mp s1_6
    refine g_tsw (v := 104) (tgt := 113) C dX2_formBehind_1 s1_6 (by decide) (by decide) rfl rfl ?_
    refine g_ldcs (i := 4) C (by decide) rfl dX2_formBehind_113 ?_
    refine g_aret C r dX2_formBehind_115 ?_
    exact ⟨congrArg (sK w) (show _ = fB s by unfold fB; repeat first | rw [if_pos (by omega)] | rw [if_neg (by omega)]), rfl⟩
  have ns1_6 : ¬ (s = 104) := fun qq => s1_6 ((nj_eq (a := s) (b := 104) (by omega) (by omega)).mpr qq)
  by_cases s1_7 : nI s = 105
  · skip
    have ns1_7 : s = 105 := (nj_eq (a := s) (b := 105) (by omega) (by omega)).mp s1_7
    refine g_tsw (v := 105) (tgt := 119) C dX2_formBehind_1 s1_7 (by decide) (by decide) rfl rfl ?_
    refine g_ldcs (i := 0) C (by decide) rfl dX2_formBehind_119 ?_
    refine g_aret C r dX2_formBehind_121 ?_
    exact ⟨congrArg (sK w) (show _ = fB s by unfold fB; repeat first | rw [if_pos (by omega)] | rw [if_neg (by omega)]), rfl⟩
  have ns1_7 : ¬ (s = 105) := fun qq => s1_7 ((nj_eq (a := s) (b := 105) (by omega) (by omega)).mpr qq)
  by_cases s1_8 : nI s = 106
  · skip
    have ns1_8 : s = 106 := (nj_eq (a := s) (b := 106) (by omega) (by omega)).mp s1_8
    refine g_tsw (v := 106) (tgt := 119) C dX2_formBehind_1 s1_8 (by decide) (by decide) rfl rfl ?_
    refine g_ldcs (i := 0) C (by decide) rfl dX2_formBehind_119 ?_
    refine g_aret C r dX2_formBehind_121 ?_
    exact ⟨congrArg (sK w) (show _ = fB s by unfold fB; repeat first | rw [if_pos (by omega)] | rw [if_neg (by omega)]), rfl⟩
  have ns1_8 : ¬ (s = 106) := fun qq => s1_8 ((nj_eq (a := s) (b := 106) (by omega) (by omega)).mpr qq)
  by_cases s1_9 : nI s = 107
  · skip
    have ns1_9 : s = 107 := (nj_eq (a := s) (b := 107) (by omega) (by omega)).mp s1_9
    refine g_tsw (v := 107) (tgt := 119) C dX2_formBehind_1 s1_9 (by decide) (by decide) rfl rfl ?_
    refine g_ldcs (i := 0) C (by decide) rfl dX2_formBehind_119 ?_
    refine g_aret C r dX2_formBehind_121 ?_
    exact ⟨congrArg (sK w) (show _ = fB s by unfold fB; repeat first | rw [if_pos (by omega)] | rw [if_neg (by omega)]), rfl⟩
  have ns1_9 : ¬ (s = 107) := fun qq => s1_9 ((nj_eq (a := s) (b := 107) (by omega) (by omega)).mpr qq)
  by_cases s1_10 : nI s = 108
  · skip
    have ns1_10 : s = 108 := (nj_eq (a := s) (b := 108) (by omega) (by omega)).mp s1_10
    refine g_tsw (v := 108) (tgt := 119) C dX2_formBehind_1 s1_10 (by decide) (by decide) rfl rfl ?_
    refine g_ldcs (i := 0) C (by decide) rfl dX2_formBehind_119 ?_
    refine g_aret C r dX2_formBehind_121 ?_
    exact ⟨congrArg (sK w) (show _ = fB s by unfold fB; repeat first | rw [if_pos (by omega)] | rw [if_neg (by omega)]), rfl⟩
  have ns1_10 : ¬ (s = 108) := fun qq => s1_10 ((nj_eq (a := s) (b := 108) (by omega) (by omega)).mpr qq)
  by_cases s1_11 : nI s = 109
  · skip
    have ns1_11 : s = 109 := (nj_eq (a := s) (b := 109) (by omega) (by omega)).mp s1_11
    refine g_tsw (v := 109) (tgt := 119) C dX2_formBehind_1 s1_11 (by decide) (by decide) rfl rfl ?_
    refine g_ldcs (i := 0) C (by decide) rfl dX2_formBehind_119 ?_
    refine g_aret C r dX2_formBehind_121 ?_
    exact ⟨congrArg (sK w) (show _ = fB s by unfold fB; repeat first | rw [if_pos (by omega)] | rw [if_neg (by omega)]), rfl⟩
  have ns1_11 : ¬ (s = 109) := fun qq => s1_11 ((nj_eq (a := s) (b := 109) (by omega) (by omega)).mpr qq)
  by_cases s1_12 : nI s = 110
  · skip
    have ns1_12 : s = 110 := (nj_eq (a := s) (b := 110) (by omega) (by omega)).mp s1_12
    refine g_tsw (v := 110) (tgt := 119) C dX2_formBehind_1 s1_12 (by decide) (by decide) rfl rfl ?_
    refine g_ldcs (i := 0) C (by decide) rfl dX2_formBehind_119 ?_
    refine g_aret C r dX2_formBehind_121 ?_
    exact ⟨congrArg (sK w) (show _ = fB s by unfold fB; repeat first | rw [if_pos (by omega)] | rw [if_neg (by omega)]), rfl⟩
  have ns1_12 : ¬ (s = 110) := fun qq => s1_12 ((nj_eq (a := s) (b := 110) (by omega) (by omega)).mpr qq)
  by_cases s1_13 : nI s = 111
  · skip
    have ns1_13 : s = 111 := (nj_eq (a := s) (b := 111) (by omega) (by omega)).mp s1_13
    refine g_tsw (v := 111) (tgt := 119) C dX2_formBehind_1 s1_13 (by decide) (by decide) rfl rfl ?_
    refine g_ldcs (i := 0) C (by decide) rfl dX2_formBehind_119 ?_
    refine g_aret C r dX2_formBehind_121 ?_
    exact ⟨congrArg (sK w) (show _ = fB s by unfold fB; repeat first | rw [if_pos (by omega)] | rw [if_neg (by omega)]), rfl⟩
  have ns1_13 : ¬ (s = 111) := fun qq => s1_13 ((nj_eq (a := s) (b := 111) (by omega) (by omega)).mpr qq)
  by_cases s1_14 : nI s = 112
  · skip
    have ns1_14 : s = 112 := (nj_eq (a := s) (b := 112) (by omega) (by omega)).mp s1_14
    refine g_tsw (v := 112) (tgt := 119) C dX2_formBehind_1 s1_14 (by decide) (by decide) rfl rfl ?_
    refine g_ldcs (i := 0) C (by decide) rfl dX2_formBehind_119 ?_
    refine g_aret C r dX2_formBehind_121 ?_
    exact ⟨congrArg (sK w) (show _ = fB s by unfold fB; repeat first | rw [if_pos (by omega)] | rw [if_neg (by omega)]), rfl⟩
  have ns1_14 : ¬ (s = 112) := fun qq => s1_14 ((nj_eq (a := s) (b := 112) (by omega) (by omega)).mpr qq)
  by_cases s1_15 : nI s = 113
  · skip
    have ns1_15 : s = 113 := (nj_eq (a := s) (b := 113) (by omega) (by omega)).mp s1_15
    refine g_tsw (v := 113) (tgt := 119) C dX2_formBehind_1 s1_15 (by decide) (by decide) rfl rfl ?_
    refine g_ldcs (i := 0) C (by decide) rfl dX2_formBehind_119 ?_
    refine g_aret C r dX2_formBehind_121 ?_
    exact ⟨congrArg (sK w) (show _ = fB s by unfold fB; repeat first | rw [if_pos (by omega)] | rw [if_neg (by omega)]), rfl⟩
  have ns1_15 : ¬ (s = 113) := fun qq => s1_15 ((nj_eq (a := s) (b := 113) (by omega) (by omega)).mpr qq)
  by_cases s1_16 : nI s = 114
  · skip
    have ns1_16 : s = 114 := (nj_eq (a := s) (b := 114) (by omega) (by omega)).mp s1_16
    refine g_tsw (v := 114) (tgt := 119) C dX2_formBehind_1 s1_16 (by decide) (by decide) rfl rfl ?_
    refine g_ldcs (i := 0) C (by decide) rfl dX2_formBehind_119 ?_
    refine g_aret C r dX2_formBehind_121 ?_
    exact ⟨congrArg (sK w) (show _ = fB s by unfold fB; repeat first | rw [if_pos (by omega)] | rw [if_neg (by omega)]), rfl⟩
  have ns1_16 : ¬ (s = 114) := fun qq => s1_16 ((nj_eq (a := s) (b := 114) (by omega) (by omega)).mpr qq)
  by_cases s1_17 : nI s = 115
  · skip
    have ns1_17 : s = 115 := (nj_eq (a := s) (b := 115) (by omega) (by omega)).mp s1_17
    refine g_tsw (v := 115) (tgt := 107) C dX2_formBehind_1 s1_17 (by decide) (by decide) rfl rfl ?_
    refine g_ldcs (i := 2) C (by decide) rfl dX2_formBehind_107 ?_
    refine g_aret C r dX2_formBehind_109 ?_
    exact ⟨congrArg (sK w) (show _ = fB s by unfold fB; repeat first | rw [if_pos (by omega)] | rw [if_neg (by omega)]), rfl⟩
  have ns1_17 : ¬ (s = 115) := fun qq => s1_17 ((nj_eq (a := s) (b := 115) (by omega) (by omega)).mpr qq)
  by_cases s1_18 : nI s = 116
  · skip
    have ns1_18 : s = 116 := (nj_eq (a := s) (b := 116) (by omega) (by omega)).mp s1_18
    refine g_tsw (v := 116) (tgt := 119) C dX2_formBehind_1 s1_18 (by decide) (by decide) rfl rfl ?_
    refine g_ldcs (i := 0) C (by decide) rfl dX2_formBehind_119 ?_
    refine g_aret C r dX2_formBehind_121 ?_
    exact ⟨congrArg (sK w) (show _ = fB s by unfold fB; repeat first | rw [if_pos (by omega)] | rw [if_neg (by omega)]), rfl⟩
  have ns1_18 : ¬ (s = 116) := fun qq => s1_18 ((nj_eq (a := s) (b := 116) (by omega) (by omega)).mpr qq)
  by_cases s1_19 : nI s = 117
  · skip
    have ns1_19 : s = 117 := (nj_eq (a := s) (b := 117) (by omega) (by omega)).mp s1_19
    refine g_tsw (v := 117) (tgt := 119) C dX2_formBehind_1 s1_19 (by decide) (by decide) rfl rfl ?_
    refine g_ldcs (i := 0) C (by decide) rfl dX2_formBehind_119 ?_
    refine g_aret C r dX2_formBehind_121 ?_
    exact ⟨congrArg (sK w) (show _ = fB s by unfold fB; repeat first | rw [if_pos (by omega)] | rw [if_neg (by omega)]), rfl⟩
  have ns1_19 : ¬ (s = 117) := fun qq => s1_19 ((nj_eq (a := s) (b := 117) (by omega) (by omega)).mpr qq)
  by_cases s1_20 : nI s = 118
  · skip
    have ns1_20 : s = 118 := (nj_eq (a := s) (b := 118) (by omega) (by omega)).mp s1_20
    refine g_tsw (v := 118) (tgt := 119) C dX2_formBehind_1 s1_20 (by decide) (by decide) rfl rfl ?_
    refine g_ldcs (i := 0) C (by decide) rfl dX2_formBehind_119 ?_
    refine g_aret C r dX2_formBehind_121 ?_
    exact ⟨congrArg (sK w) (show _ = fB s by unfold fB; repeat first | rw [if_pos (by omega)] | rw [if_neg (by omega)]), rfl⟩
  have ns1_20 : ¬ (s = 118) := fun qq => s1_20 ((nj_eq (a := s) (b := 118) (by omega) (by omega)).mpr qq)
  by_cases s1_21 : nI s = 119
  · skip
    have ns1_21 : s = 119 := (nj_eq (a := s) (b := 119) (by omega) (by omega)).mp s1_21
    refine g_tsw (v := 119) (tgt := 110) C dX2_formBehind_1 s1_21 (by decide) (by decide) rfl rfl ?_
    refine g_ldcs (i := 3) C (by decide) rfl dX2_formBehind_110 ?_
    refine g_aret C r dX2_formBehind_112 ?_
    exact ⟨congrArg (sK w) (show _ = fB s by unfold fB; repeat first | rw [if_pos (by omega)] | rw [if_neg (by omega)]), rfl⟩
  have ns1_21 : ¬ (s = 119) := fun qq => s1_21 ((nj_eq (a := s) (b := 119) (by omega) (by omega)).mpr qq)
  refine g_tswd (tgt := 119) C dX2_formBehind_1 (by have q0 : (nI s : Int32).toInt ≠ 98 := ne_toInt s1_0; have q1 : (nI s : Int32).toInt ≠ 99 := ne_toInt s1_1; have q2 : (nI s : Int32).toInt ≠ 100 := ne_toInt s1_2; have q3 : (nI s : Int32).toInt ≠ 101 := ne_toInt s1_3; have q4 : (nI s : Int32).toInt ≠ 102 := ne_toInt s1_4; have q5 : (nI s : Int32).toInt ≠ 103 := ne_toInt s1_5; have q6 : (nI s : Int32).toInt ≠ 104 := ne_toInt s1_6; have q7 : (nI s : Int32).toInt ≠ 105 := ne_toInt s1_7; have q8 : (nI s : Int32).toInt ≠ 106 := ne_toInt s1_8; have q9 : (nI s : Int32).toInt ≠ 107 := ne_toInt s1_9; have q10 : (nI s : Int32).toInt ≠ 108 := ne_toInt s1_10; have q11 : (nI s : Int32).toInt ≠ 109 := ne_toInt s1_11; have q12 : (nI s : Int32).toInt ≠ 110 := ne_toInt s1_12; have q13 : (nI s : Int32).toInt ≠ 111 := ne_toInt s1_13; have q14 : (nI s : Int32).toInt ≠ 112 := ne_toInt s1_14; have q15 : (nI s : Int32).toInt ≠ 113 := ne_toInt s1_15; have q16 : (nI s : Int32).toInt ≠ 114 := ne_toInt s1_16; have q17 : (nI s : Int32).toInt ≠ 115 := ne_toInt s1_17; have q18 : (nI s : Int32).toInt ≠ 116 := ne_toInt s1_18; have q19 : (nI s : Int32).toInt ≠ 117 := ne_toInt s1_19; have q20 : (nI s : Int32).toInt ≠ 118 := ne_toInt s1_20; have q21 : (nI s : Int32).toInt ≠ 119 := ne_toInt s1_21; omega) rfl ?_
  refine g_ldcs (i := 0) C (by decide) rfl dX2_formBehind_119 ?_
  refine g_aret C r dX2_formBehind_121 ?_
  exact ⟨congrArg (sK w) (show _ = fB s by unfold fB; repeat first | rw [if_pos (by omega)] | rw [if_neg (by omega)]), rfl⟩
set_option maxRecDepth 100000 in
set_option maxHeartbeats 4000000 in
theorem ct_X2_wrongPlace (l : Launch) (w : WD) (hN : 54 ≤ wN w) (σ : SG) (nl : Nat) (c : Nat → Nat) (hl1 : σ 32 1 = nI nl) (hl9 : nl ≤ 96) (hc : ∀ j, j < nl → σ 33 j = nI (c j)) (hc9 : ∀ j, j < nl → c j ≤ 255) : CtI l w yX2_wrongPlace cX2_wrongPlace 5 (some .int) 9 0 0 [.ref (wA w 32)] σ (fun r τ => ((∃ q, Wrong c nl q ∧ r = nI q) ∨ (Right c nl ∧ r = -1)) ∧ τ = σ) := by
  refine CtI.mk (by decide) (Nat.le_of_ble_eq_true rfl) ?_
  intro K C hr h0
  have r := RI.of hr h0
  clear hr h0
  show G l w K 0 [(0, .ref (wA w 32))] [] σ
  refine g_ldcs (i := 0) C (by decide) rfl dX2_wrongPlace_0 ?_
  refine g_astore_n (lv' := [(1, .ref (sK w 0)), (0, .ref (wA w 32))]) C dX2_wrongPlace_2 rfl (by decide) rfl ?_
  refine g_iconst C dX2_wrongPlace_3 ic_0 ?_
  refine g_istore_n (lv' := [(2, .int 0), (1, .ref (sK w 0)), (0, .ref (wA w 32))]) C dX2_wrongPlace_4 rfl (by decide) rfl ?_
  refine g_iconst C dX2_wrongPlace_5 ic_0 ?_
  refine g_istore_n (lv' := [(3, .int 0), (2, .int 0), (1, .ref (sK w 0)), (0, .ref (wA w 32))]) C dX2_wrongPlace_6 rfl (by decide) rfl ?_
  have L7 : ∀ (m7 : Nat) (f : Nat) (t : Nat) (k : Nat), m7 = nl - k → (k ≤ nl) → (f < 6) → (t ≤ txL f) → (sA c k = some (f, t)) → G l w K 7 [(0, .ref (wA w 32)), (1, .ref (sK w f)), (2, .int (nI t)), (3, .int (nI k))] [] σ := by
    intro m7
    induction m7 using Nat.strongRecOn with
    | ind m7 ih7 =>
    intro f t k em7 hk hi6 ht hS
    have hi8 : f < 8 := by omega
    have hl8 := tx_l8 hi8
    refine g_iload_n C dX2_wrongPlace_7 rfl rfl ?_
    refine g_aload_n C dX2_wrongPlace_8 rfl rfl ?_
    refine g_get (v := .int (σ 32 1)) C fl_X2_15 fs_X2_15 (Nat.lt_of_lt_of_le (by decide) hN) rfl rfl dX2_wrongPlace_9 ?_
    refine g_val (y := nI nl) hl1 ?_
    refine g_icmp_ge (tgt := 101) C dX2_wrongPlace_12 rfl (fun c12_1 => ?_) (fun c12_1 => ?_)
    · skip
      have n12_1 : nl ≤ k := (nj_le (a := nl) (b := k) (by omega) (by omega)).mp c12_1
      refine g_aload_n C dX2_wrongPlace_101 rfl rfl ?_
      refine g_get (v := .int (σ 32 1)) C fl_X2_15 fs_X2_15 (Nat.lt_of_lt_of_le (by decide) hN) rfl rfl dX2_wrongPlace_102 ?_
      refine g_val (y := nI nl) hl1 ?_
      refine g_if_le (tgt := 120) C dX2_wrongPlace_105 rfl (fun c105_2 => ?_) (fun c105_2 => ?_)
      · skip
        have n105_2 : nl ≤ 0 := (nj_le (a := nl) (b := 0) (by omega) (by omega)).mp c105_2
        refine g_aload_n C dX2_wrongPlace_120 rfl rfl ?_
        refine g_get (v := .int (σ 32 1)) C fl_X2_15 fs_X2_15 (Nat.lt_of_lt_of_le (by decide) hN) rfl rfl dX2_wrongPlace_121 ?_
        refine g_val (y := nI nl) hl1 ?_
        refine g_iret C r rfl dX2_wrongPlace_124 ?_
        have hkn : k = nl := by omega
        subst hkn
        exact ⟨Or.inl ⟨k, Or.inr ⟨rfl, ⟨_, hS⟩, by first | exact Or.inl (by omega) | exact Or.inr (fun ⟨f1, t1, h1, h2⟩ => by rw [hS] at h1; cases h1; omega)⟩, rfl⟩, rfl⟩
      · skip
        have n105_2 : ¬ (nl ≤ 0) := fun qq => c105_2 ((nj_le (a := nl) (b := 0) (by omega) (by omega)).mpr qq)
        refine g_iload_n C dX2_wrongPlace_108 rfl rfl ?_
        refine g_aload_n C dX2_wrongPlace_109 rfl rfl ?_
        refine g_pWI (i := f) (rest := [.int (nI t)]) (v := nI (txL f)) C mw_X2_29 hi8 (ct_J0_length_8abf5 l w hN σ f hi8) rfl (by decide) rfl (Nat.le_of_ble_eq_true rfl) dX2_wrongPlace_110 ?_
        refine g_icmp_lt (tgt := 120) C dX2_wrongPlace_113 rfl (fun c113_3 => ?_) (fun c113_3 => ?_)
        · skip
          have n113_3 : t < txL f := (nj_lt (a := t) (b := txL f) (by omega) (by omega)).mp c113_3
          refine g_aload_n C dX2_wrongPlace_120 rfl rfl ?_
          refine g_get (v := .int (σ 32 1)) C fl_X2_15 fs_X2_15 (Nat.lt_of_lt_of_le (by decide) hN) rfl rfl dX2_wrongPlace_121 ?_
          refine g_val (y := nI nl) hl1 ?_
          refine g_iret C r rfl dX2_wrongPlace_124 ?_
          have hkn : k = nl := by omega
          subst hkn
          exact ⟨Or.inl ⟨k, Or.inr ⟨rfl, ⟨_, hS⟩, by first | exact Or.inl (by omega) | exact Or.inr (fun ⟨f1, t1, h1, h2⟩ => by rw [hS] at h1; cases h1; omega)⟩, rfl⟩, rfl⟩
        · skip
          have n113_3 : ¬ (t < txL f) := fun qq => c113_3 ((nj_lt (a := t) (b := txL f) (by omega) (by omega)).mpr qq)
          refine g_iconst C dX2_wrongPlace_116 ic_m1 ?_
          refine g_goto (tgt := 124) C dX2_wrongPlace_117 rfl ?_
          refine g_iret C r rfl dX2_wrongPlace_124 ?_
          have hkn : k = nl := by omega
          subst hkn
          exact ⟨Or.inr ⟨⟨by omega, f, t, hS, by omega⟩, rfl⟩, rfl⟩
    · skip
      have n12_1 : ¬ (nl ≤ k) := fun qq => c12_1 ((nj_le (a := nl) (b := k) (by omega) (by omega)).mpr qq)
      have L95 : ∀ (f9 : Nat) (t9 : Nat), (f9 < 6) → (t9 ≤ txL f9) → (sA c (k + 1) = some (f9, t9)) → G l w K 95 [(0, .ref (wA w 32)), (1, .ref (sK w f9)), (2, .int (nI t9)), (3, .int (nI k))] [] σ := by
        intro f9 t9 hi69 ht9 hS9
        refine g_iinc (v := nI (k + 1)) (lv' := [(3, .int (nI (k + 1))), (0, .ref (wA w 32)), (1, .ref (sK w f9)), (2, .int (nI t9))]) C dX2_wrongPlace_95 (by decide) rfl (nj_inc k) rfl ?_
        refine g_goto (tgt := 7) C dX2_wrongPlace_98 rfl ?_
        exact g_lvp [1, 2, 3, 0] rfl (ih7 (nl - (k + 1)) (by omega) f9 t9 (k + 1) rfl (by first | omega | assumption | rfl | grind) (by first | omega | assumption | rfl | grind) (by first | omega | assumption | rfl | grind) (by first | omega | assumption | rfl | grind))
      refine g_aload_n C dX2_wrongPlace_15 rfl rfl ?_
      refine g_get (v := .ref (wA w 33)) C fl_X2_9 fs_X2_9 (Nat.lt_of_lt_of_le (by decide) hN) rfl rfl dX2_wrongPlace_16 ?_
      refine g_iload_n C dX2_wrongPlace_19 rfl rfl ?_
      have hs9 := hc9 k (by omega)
      refine g_cal (k0 := 33) (n := 96) C (Nat.lt_of_lt_of_le (by decide) hN) rfl (j := k) (ix_n (by omega)) dX2_wrongPlace_20 ?_
      refine g_val (y := nI (c k)) (hc k (by omega)) ?_
      refine g_istore (lv' := [(4, .int (nI (c k))), (0, .ref (wA w 32)), (1, .ref (sK w f)), (2, .int (nI t)), (3, .int (nI k))]) C dX2_wrongPlace_21 (by decide) rfl ?_
      refine g_iload_n C dX2_wrongPlace_23 rfl rfl ?_
      refine g_aload_n C dX2_wrongPlace_24 rfl rfl ?_
      refine g_pWI (i := f) (rest := [.int (nI t)]) (v := nI (txL f)) C mw_X2_29 hi8 (ct_J0_length_8abf5 l w hN σ f hi8) rfl (by decide) rfl (Nat.le_of_ble_eq_true rfl) dX2_wrongPlace_25 ?_
      refine g_icmp_lt (tgt := 48) C dX2_wrongPlace_28 rfl (fun c28_4 => ?_) (fun c28_4 => ?_)
      · skip
        have n28_4 : t < txL f := (nj_lt (a := t) (b := txL f) (by omega) (by omega)).mp c28_4
        have htn := (tx_ok hi8 (show t < txL f by omega)).2
        have L69 : ∀ (t1 : Nat), (t1 = (if txN f t = 63 ∧ ¬ dgt (c k) then t + 1 else t)) → G l w K 69 [(0, .ref (wA w 32)), (1, .ref (sK w f)), (2, .int (nI t1)), (3, .int (nI k)), (4, .int (nI (c k)))] [] σ := by
          intro t1 ht1
          have ht19 : t1 ≤ 9 := by rw [ht1]; split <;> omega
          refine g_iload_n C dX2_wrongPlace_69 rfl rfl ?_
          refine g_aload_n C dX2_wrongPlace_70 rfl rfl ?_
          refine g_pWI (i := f) (rest := [.int (nI t1)]) (v := nI (txL f)) C mw_X2_29 hi8 (ct_J0_length_8abf5 l w hN σ f hi8) rfl (by decide) rfl (Nat.le_of_ble_eq_true rfl) dX2_wrongPlace_71 ?_
          refine g_icmp_ge (tgt := 90) C dX2_wrongPlace_74 rfl (fun c74_5 => ?_) (fun c74_5 => ?_)
          · skip
            have n74_5 : txL f ≤ t1 := (nj_le (a := txL f) (b := t1) (by omega) (by omega)).mp c74_5
            refine g_iload_n C dX2_wrongPlace_90 rfl rfl ?_
            refine g_iret C r rfl dX2_wrongPlace_91 ?_
            exact ⟨Or.inl ⟨k, Or.inl ⟨by omega, ⟨_, hS⟩, by rw [sA_s hS]; unfold stepF; rw [if_neg (by omega), ← ht1]; first | rw [if_pos (by omega)] | rw [if_neg (by omega), if_neg (by assumption)]⟩, rfl⟩, rfl⟩
          · skip
            have n74_5 : ¬ (txL f ≤ t1) := fun qq => c74_5 ((nj_le (a := txL f) (b := t1) (by omega) (by omega)).mpr qq)
            refine g_aload_n C dX2_wrongPlace_77 rfl rfl ?_
            refine g_iload_n C dX2_wrongPlace_78 rfl rfl ?_
            refine g_pWI (i := f) (rest := []) (v := nI (txN f t1)) C mw_X2_43 hi8 (ct_J0_charAt_5068e l w hN σ f hi8 t1 (by omega)) rfl (by decide) rfl (Nat.le_of_ble_eq_true rfl) dX2_wrongPlace_79 ?_
            refine g_iload C dX2_wrongPlace_82 rfl ?_
            refine g_pSI (rest := []) (v := bI (gOb (txN f t1) (c k) = true)) C ms_X2_50 (ct_X2_goesOn l w hN σ (txN f t1) (c k) hs9 (must_in hi6 (by omega))) rfl (by decide) rfl (Nat.le_of_ble_eq_true rfl) dX2_wrongPlace_84 ?_
            refine g_if_ne (tgt := 92) C dX2_wrongPlace_87 rfl (fun c87_6 => ?_) (fun c87_6 => ?_)
            · skip
              have n87_6 : (gOb (txN f t1) (c k) = true) := bI_1 c87_6
              refine g_iinc (v := nI (t1 + 1)) (lv' := [(2, .int (nI (t1 + 1))), (0, .ref (wA w 32)), (1, .ref (sK w f)), (3, .int (nI k)), (4, .int (nI (c k)))]) C dX2_wrongPlace_92 (by decide) rfl (nj_inc t1) rfl ?_
              exact g_lvp [1, 2, 0, 3] rfl (L95 f (t1 + 1) (hi6) (by omega) (by rw [sA_s hS]; unfold stepF; rw [if_neg (by omega), ← ht1, if_neg (by omega), if_pos (by assumption)]))
            · skip
              have n87_6 : ¬ (gOb (txN f t1) (c k) = true) := bI_0 c87_6
              refine g_iload_n C dX2_wrongPlace_90 rfl rfl ?_
              refine g_iret C r rfl dX2_wrongPlace_91 ?_
              exact ⟨Or.inl ⟨k, Or.inl ⟨by omega, ⟨_, hS⟩, by rw [sA_s hS]; unfold stepF; rw [if_neg (by omega), ← ht1]; first | rw [if_pos (by omega)] | rw [if_neg (by omega), if_neg (by assumption)]⟩, rfl⟩, rfl⟩
        refine g_aload_n C dX2_wrongPlace_48 rfl rfl ?_
        refine g_iload_n C dX2_wrongPlace_49 rfl rfl ?_
        refine g_pWI (i := f) (rest := []) (v := nI (txN f t)) C mw_X2_43 hi8 (ct_J0_charAt_5068e l w hN σ f hi8 t (by omega)) rfl (by decide) rfl (Nat.le_of_ble_eq_true rfl) dX2_wrongPlace_50 ?_
        refine g_bipush C dX2_wrongPlace_53 bp_63 ?_
        refine g_icmp_ne (tgt := 69) C dX2_wrongPlace_55 rfl (fun c55_7 => ?_) (fun c55_7 => ?_)
        · skip
          have n55_7 : ¬ (txN f t = 63) := fun qq => c55_7 ((nj_eq (a := txN f t) (b := 63) (by omega) (by omega)).mpr qq)
          exact g_lvp [1, 2, 3, 4, 0] rfl (L69 t ((if_neg (fun z => by omega)).symm))
        · skip
          have n55_7 : txN f t = 63 := (nj_eq (a := txN f t) (b := 63) (by omega) (by omega)).mp c55_7
          refine g_iload C dX2_wrongPlace_58 rfl ?_
          refine g_pSI (rest := []) (v := bI (dgt (c k))) C ms_X2_46 (ct_X2_isDigit l w hN σ (c k) hs9) rfl (by decide) rfl (Nat.le_of_ble_eq_true rfl) dX2_wrongPlace_60 ?_
          refine g_if_ne (tgt := 69) C dX2_wrongPlace_63 rfl (fun c63_8 => ?_) (fun c63_8 => ?_)
          · skip
            have n63_8 : (dgt (c k)) := bI_1 c63_8
            exact g_lvp [1, 2, 3, 4, 0] rfl (L69 t ((if_neg (fun z => z.2 (by assumption))).symm))
          · skip
            have n63_8 : ¬ (dgt (c k)) := bI_0 c63_8
            refine g_iinc (v := nI (t + 1)) (lv' := [(2, .int (nI (t + 1))), (4, .int (nI (c k))), (0, .ref (wA w 32)), (1, .ref (sK w f)), (3, .int (nI k))]) C dX2_wrongPlace_66 (by decide) rfl (nj_inc t) rfl ?_
            exact g_lvp [2, 3, 0, 4, 1] rfl (L69 (t + 1) ((if_pos ⟨by omega, by assumption⟩).symm))
      · skip
        have n28_4 : ¬ (t < txL f) := fun qq => c28_4 ((nj_lt (a := t) (b := txL f) (by omega) (by omega)).mpr qq)
        refine g_iload C dX2_wrongPlace_31 rfl ?_
        refine g_callSR (rest := []) C ms_X2_35 (ct_X2_formBehind l w hN σ (c k) hs9) rfl (by decide) rfl (Nat.le_of_ble_eq_true rfl) dX2_wrongPlace_33 (fun r5 σ5 h5 => ?_)
        obtain ⟨e5, e6⟩ := h5
        rw [e6, e5]
        obtain ⟨f2, hf2⟩ : ∃ q, q = fB (c k) := ⟨_, rfl⟩
        rw [← hf2]
        have hf26 : f2 < 6 := by rw [hf2]; exact fB_6 _
        have hi8 : f2 < 8 := by omega
        refine g_astore_n (lv' := [(1, .ref (sK w f2)), (4, .int (nI (c k))), (0, .ref (wA w 32)), (2, .int (nI t)), (3, .int (nI k))]) C dX2_wrongPlace_36 rfl (by decide) rfl ?_
        refine g_iconst C dX2_wrongPlace_37 ic_0 ?_
        refine g_istore_n (lv' := [(2, .int 0), (1, .ref (sK w f2)), (4, .int (nI (c k))), (0, .ref (wA w 32)), (3, .int (nI k))]) C dX2_wrongPlace_38 rfl (by decide) rfl ?_
        refine g_aload_n C dX2_wrongPlace_39 rfl rfl ?_
        refine g_pWI (i := f2) (rest := []) (v := bI (txL f2 = 0)) C mw_X2_39 hi8 (ct_J0_isEmpty_aae02 l w hN σ f2 hi8) rfl (by decide) rfl (Nat.le_of_ble_eq_true rfl) dX2_wrongPlace_40 ?_
        have hl82 := tx_l8 hi8
        refine g_if_eq (tgt := 95) C dX2_wrongPlace_43 rfl (fun c43_9 => ?_) (fun c43_9 => ?_)
        · skip
          have n43_9 : ¬ (txL f2 = 0) := bI_0 c43_9
          exact g_lvp [3, 1, 0, 4] rfl (L95 f2 0 (hf26) (Nat.zero_le _) (by rw [sA_s hS, stb (by omega), ← hf2, if_neg (by omega)]))
        · skip
          have n43_9 : (txL f2 = 0) := bI_1 c43_9
          refine g_iload_n C dX2_wrongPlace_46 rfl rfl ?_
          refine g_iret C r rfl dX2_wrongPlace_47 ?_
          exact ⟨Or.inl ⟨k, Or.inl ⟨by omega, ⟨_, hS⟩, by rw [sA_s hS, stb (by omega), ← hf2, if_pos (by omega)]⟩, rfl⟩, rfl⟩
  exact g_lvp [3, 2, 1, 0] rfl (L7 (nl - 0) 0 0 0 rfl (by first | omega | assumption | rfl | grind) (by decide) (Nat.zero_le _) (rfl))
set_option maxRecDepth 100000 in
set_option maxHeartbeats 4000000 in
theorem ct_X2_behindStatement (l : Launch) (w : WD) (hN : 54 ≤ wN w) (σ : SG) (nl : Nat) (c : Nat → Nat) (hl1 : σ 32 1 = nI nl) (hl9 : nl ≤ 96) (hc : ∀ j, j < nl → σ 33 j = nI (c j)) (hc9 : ∀ j, j < nl → c j ≤ 255) (p p' : Nat) (hlt : p + 2 ≤ p') (hle : p' ≤ nl) (h59 : c (p' - 1) = 59) (hn : ∀ j, p ≤ j → j < p' - 1 → ¬ c j = 59) : CtI l w yX2_behindStatement cX2_behindStatement 3 (some .int) 1 0 0 [.ref (wA w 32), .int (nI p)] σ (fun r τ => r = nI p' ∧ τ = σ) := by
  refine CtI.mk (by decide) (Nat.le_of_ble_eq_true rfl) ?_
  intro K C hr h0
  have r := RI.of hr h0
  clear hr h0
  show G l w K 0 [(0, .ref (wA w 32)), (1, .int (nI p))] [] σ
  refine g_iload_n C dX2_behindStatement_0 rfl rfl ?_
  refine g_istore_n (lv' := [(2, .int (nI p)), (0, .ref (wA w 32)), (1, .int (nI p))]) C dX2_behindStatement_1 rfl (by decide) rfl ?_
  have L2 : ∀ (m2 : Nat) (q : Nat), m2 = p' - q → (p ≤ q) → (q ≤ p' - 1) → G l w K 2 [(0, .ref (wA w 32)), (2, .int (nI q))] [] σ := by
    intro m2
    induction m2 using Nat.strongRecOn with
    | ind m2 ih2 =>
    intro q em2 hq1 hq2
    have hs9 := hc9 q (by omega)
    refine g_iload_n C dX2_behindStatement_2 rfl rfl ?_
    refine g_aload_n C dX2_behindStatement_3 rfl rfl ?_
    refine g_get (v := .int (σ 32 1)) C fl_X2_15 fs_X2_15 (Nat.lt_of_lt_of_le (by decide) hN) rfl rfl dX2_behindStatement_4 ?_
    refine g_val (y := nI nl) hl1 ?_
    refine g_icmp_ge (tgt := 27) C dX2_behindStatement_7 rfl (fun c7_1 => ?_) (fun c7_1 => ?_)
    · skip
      have n7_1 : nl ≤ q := (nj_le (a := nl) (b := q) (by omega) (by omega)).mp c7_1
      exfalso
      omega
    · skip
      have n7_1 : ¬ (nl ≤ q) := fun qq => c7_1 ((nj_le (a := nl) (b := q) (by omega) (by omega)).mpr qq)
      refine g_aload_n C dX2_behindStatement_10 rfl rfl ?_
      refine g_get (v := .ref (wA w 33)) C fl_X2_9 fs_X2_9 (Nat.lt_of_lt_of_le (by decide) hN) rfl rfl dX2_behindStatement_11 ?_
      refine g_iload_n C dX2_behindStatement_14 rfl rfl ?_
      refine g_cal (k0 := 33) (n := 96) C (Nat.lt_of_lt_of_le (by decide) hN) rfl (j := q) (ix_n (by omega)) dX2_behindStatement_15 ?_
      refine g_val (y := nI (c q)) (hc q (by omega)) ?_
      refine g_bipush C dX2_behindStatement_16 bp_59 ?_
      refine g_icmp_eq (tgt := 27) C dX2_behindStatement_18 rfl (fun c18_2 => ?_) (fun c18_2 => ?_)
      · skip
        have n18_2 : c q = 59 := (nj_eq (a := c q) (b := 59) (by omega) (by omega)).mp c18_2
        have hqe : q = p' - 1 := Decidable.byContradiction (fun z => hn q hq1 (by omega) (by omega))
        refine g_iload_n C dX2_behindStatement_27 rfl rfl ?_
        refine g_iconst C dX2_behindStatement_28 ic_1 ?_
        refine g_iaddv (v := nI (q + 1)) C (nj_plus q 1) dX2_behindStatement_29 ?_
        refine g_iret C r rfl dX2_behindStatement_30 ?_
        exact ⟨congrArg nI (by omega), rfl⟩
      · skip
        have n18_2 : ¬ (c q = 59) := fun qq => c18_2 ((nj_eq (a := c q) (b := 59) (by omega) (by omega)).mpr qq)
        refine g_iinc (v := nI (q + 1)) (lv' := [(2, .int (nI (q + 1))), (0, .ref (wA w 32))]) C dX2_behindStatement_21 (by decide) rfl (nj_inc q) rfl ?_
        refine g_goto (tgt := 2) C dX2_behindStatement_24 rfl ?_
        exact g_lvp [1, 0] rfl (ih2 (p' - (q + 1)) (by omega) (q + 1) rfl (by first | omega | assumption | rfl | grind) (by have z := fun y => hn q hq1 y; by_cases y : q < p' - 1; omega; exact absurd (show c q = 59 by rw [show q = p' - 1 by omega]; exact h59) (by omega)))
  exact g_lvp [1, 0] rfl (L2 (p' - p) p rfl (by first | omega | assumption | rfl | grind) (by first | omega | assumption | rfl | grind))
set_option maxRecDepth 100000 in
set_option maxHeartbeats 4000000 in
theorem ct_X1_takeIn (l : Launch) (w : WD) (hN : 54 ≤ wN w) (σ : SG) (b : Nat) (hb : HB b) (a : Row) (hH : Hh σ b a) (hB : Bd a) (kd hg bs ch : Nat) (hch : ch ≤ 1000) : CtI l w yX1_takeIn cX1_takeIn 6 (some .boolean) 2 0 0 [.ref (wA w b), .int (nI kd), .int (nI hg), .int (nI bs), .int (nI ch)] σ (fun r τ => r = bI (1 ≤ ch ∧ ch ≤ 10 ∧ a 0 < 4) ∧ (1 ≤ ch ∧ ch ≤ 10 ∧ a 0 < 4 → Hh τ b (addE a kd hg bs ch)) ∧ τ b 6 = σ b 6 ∧ Fr (inH b) σ τ) := by
  refine CtI.mk (by decide) (Nat.le_of_ble_eq_true rfl) ?_
  intro K C hr h0
  have r := RI.of hr h0
  clear hr h0
  show G l w K 0 [(0, .ref (wA w b)), (1, .int (nI kd)), (2, .int (nI hg)), (3, .int (nI bs)), (4, .int (nI ch))] [] σ
  obtain ⟨hBa, hB0, hB1, hB2, hB3, hB4, hB5, hB6, hB7, hBs, hBp, hBe⟩ := id hB
  have hbl := hb.le
  have hwi : (1 ≤ nI ch ∧ nI ch ≤ 10) ↔ (1 ≤ ch ∧ ch ≤ 10) := and_congr (nj_le (a := 1) (by omega) (by omega)) (nj_le (b := 10) (by omega) (by omega))
  refine g_aload_n C dX1_takeIn_0 rfl rfl ?_
  refine g_get (v := .int (σ b 4)) C fl_X1_32 fs_X1_32 (HB.n0 hb hN) (HB.ou hb _) rfl dX1_takeIn_1 ?_
  refine g_val (y := nI (a 0)) (Hh.c hH) ?_
  refine g_iconst C dX1_takeIn_4 ic_4 ?_
  refine g_icmp_ge (tgt := 19) C dX1_takeIn_5 rfl (fun c5_1 => ?_) (fun c5_1 => ?_)
  · skip
    have n5_1 : 4 ≤ a 0 := (nj_le (a := 4) (b := a 0) (by have := hBa 0; omega) (by have := hBa 0; omega)).mp c5_1
    have hno : ¬ (1 ≤ ch ∧ ch ≤ 10 ∧ a 0 < 4) := fun z => by omega
    refine g_iconst C dX1_takeIn_19 ic_0 ?_
    refine g_iret C r rfl dX1_takeIn_20 ?_
    exact ⟨(if_neg hno).symm, fun z => absurd z hno, rfl, Fr.rf⟩
  · skip
    have n5_1 : ¬ (4 ≤ a 0) := fun qq => c5_1 ((nj_le (a := 4) (b := a 0) (by have := hBa 0; omega) (by have := hBa 0; omega)).mpr qq)
    refine g_iload C dX1_takeIn_8 rfl ?_
    refine g_iconst C dX1_takeIn_10 ic_1 ?_
    refine g_bipush C dX1_takeIn_11 bp_10 ?_
    refine g_pNI (rest := []) (v := bI (1 ≤ nI ch ∧ nI ch ≤ 10)) C mn_X1_42 nest1 (ct_X4_within l w hN σ (nI ch) 1 10) rfl (by decide) rfl (Nat.le_of_ble_eq_true rfl) dX1_takeIn_13 ?_
    refine g_if_ne (tgt := 21) C dX1_takeIn_16 rfl (fun c16_2 => ?_) (fun c16_2 => ?_)
    · skip
      have n16_2 : (1 ≤ nI ch ∧ nI ch ≤ 10) := bI_1 c16_2
      have hye : 1 ≤ ch ∧ ch ≤ 10 ∧ a 0 < 4 := ⟨(hwi.mp n16_2).1, (hwi.mp n16_2).2, by omega⟩
      refine g_aload_n C dX1_takeIn_21 rfl rfl ?_
      refine g_get (v := .ref (wA w (b + 4))) C fl_X1_23 fs_X1_23 (HB.n0 hb hN) (HB.ou hb _) rfl dX1_takeIn_22 ?_
      refine g_aload_n C dX1_takeIn_25 rfl rfl ?_
      refine g_get (v := .int (σ b 4)) C fl_X1_32 fs_X1_32 (HB.n0 hb hN) (HB.ou hb _) rfl dX1_takeIn_26 ?_
      refine g_val (y := nI (a 0)) (Hh.c hH) ?_
      refine g_aal (k0 := (b + 4)) (b := b) C (HB.n hb hN (by decide)) (HB.e hb) (j := a 0) (ix_n (by omega)) dX1_takeIn_29 ?_
      refine g_astore (lv' := [(5, .ref (wA w (b + 5 + (a 0)))), (0, .ref (wA w b)), (1, .int (nI kd)), (2, .int (nI hg)), (3, .int (nI bs)), (4, .int (nI ch))]) C dX1_takeIn_30 (by decide) rfl ?_
      refine g_aload C dX1_takeIn_32 rfl ?_
      refine g_iconst C dX1_takeIn_34 ic_0 ?_
      refine g_iload_n C dX1_takeIn_35 rfl rfl ?_
      refine g_ias (k0 := (b + 5 + (a 0))) (n := 4) C (HB.nr hb hN (by omega)) (HB.r hb (by omega)) (j := 0) (by unfold ix; decide) dX1_takeIn_36 (fun σ1 hσ1 => ?_)
      refine g_aload C dX1_takeIn_37 rfl ?_
      refine g_iconst C dX1_takeIn_39 ic_1 ?_
      refine g_iload_n C dX1_takeIn_40 rfl rfl ?_
      refine g_ias (k0 := (b + 5 + (a 0))) (n := 4) C (HB.nr hb hN (by omega)) (HB.r hb (by omega)) (j := 1) (by unfold ix; decide) dX1_takeIn_41 (fun σ2 hσ2 => ?_)
      refine g_aload C dX1_takeIn_42 rfl ?_
      refine g_iconst C dX1_takeIn_44 ic_2 ?_
      refine g_iload_n C dX1_takeIn_45 rfl rfl ?_
      refine g_ias (k0 := (b + 5 + (a 0))) (n := 4) C (HB.nr hb hN (by omega)) (HB.r hb (by omega)) (j := 2) (by unfold ix; decide) dX1_takeIn_46 (fun σ3 hσ3 => ?_)
      refine g_aload C dX1_takeIn_47 rfl ?_
      refine g_iconst C dX1_takeIn_49 ic_3 ?_
      refine g_iload C dX1_takeIn_50 rfl ?_
      refine g_ias (k0 := (b + 5 + (a 0))) (n := 4) C (HB.nr hb hN (by omega)) (HB.r hb (by omega)) (j := 3) (by unfold ix; decide) dX1_takeIn_52 (fun σ4 hσ4 => ?_)
      refine g_aload_n C dX1_takeIn_53 rfl rfl ?_
      refine g_dup C dX1_takeIn_54 rfl ?_
      refine g_get (v := .int (σ4 b 4)) C fl_X1_32 fs_X1_32 (HB.n0 hb hN) (HB.ou hb _) rfl dX1_takeIn_55 ?_
      refine g_val (y := nI (a 0)) (by rw [hσ4, up_other (by omega), hσ3, up_other (by omega), hσ2, up_other (by omega), hσ1, up_other (by omega)]; exact hH.c) ?_
      refine g_iconst C dX1_takeIn_58 ic_1 ?_
      refine g_iaddv (v := nI ((a 0) + 1)) C (nj_plus (a 0) 1) dX1_takeIn_59 ?_
      refine g_putn C fp_X1_32 (HB.n0 hb hN) (HB.ou hb _) (HB.ou hb _) (Nat.le_of_ble_eq_true rfl) rfl rfl dX1_takeIn_60 (fun σ5 hσ5 => ?_)
      refine g_iconst C dX1_takeIn_63 ic_1 ?_
      refine g_iret C r rfl dX1_takeIn_64 ?_
      refine ⟨(if_pos hye).symm, fun _ => ?_, ?_, ?_⟩
      · rw [hσ5, hσ4, hσ3, hσ2, hσ1]; exact ((((hH.ue (j := 0) (by omega) (by omega)).ue (j := 1) (by omega) (by omega)).ue (j := 2) (by omega) (by omega)).ue (j := 3) (by omega) (by omega)).uc
      · rw [hσ5, up_elem (by decide), hσ4, up_other (by omega), hσ3, up_other (by omega), hσ2, up_other (by omega), hσ1, up_other (by omega)]
      · have fr : ∀ {ρ : SG} {k j : Nat} {v : Int32}, b ≤ k → k ≤ b + 8 → Fr (inH b) ρ (up ρ k j v) := fun h1 h2 => Fr.up (S := inH b) ⟨h1, h2⟩
        rw [hσ5, hσ4, hσ3, hσ2, hσ1]
        exact ((((fr (by omega) (by omega)).tr (fr (by omega) (by omega)) (fun _ z => z)).tr (fr (by omega) (by omega)) (fun _ z => z)).tr (fr (by omega) (by omega)) (fun _ z => z)).tr (fr (by omega) (by omega)) (fun _ z => z)
    · skip
      have n16_2 : ¬ (1 ≤ nI ch ∧ nI ch ≤ 10) := bI_0 c16_2
      have hno : ¬ (1 ≤ ch ∧ ch ≤ 10 ∧ a 0 < 4) := fun z => n16_2 (hwi.mpr ⟨z.1, z.2.1⟩)
      refine g_iconst C dX1_takeIn_19 ic_0 ?_
      refine g_iret C r rfl dX1_takeIn_20 ?_
      exact ⟨(if_neg hno).symm, fun z => absurd z hno, rfl, Fr.rf⟩
set_option maxRecDepth 100000 in
set_option maxHeartbeats 4000000 in
theorem ct_X1_putSlices (l : Launch) (w : WD) (hN : 54 ≤ wN w) (σ : SG) (b : Nat) (hb : HB b) (a : Row) (hH : Hh σ b a) (hB : Bd a) (g m : Nat) (hg : g ≤ 1000) (hm : m ≤ 1000) : CtI l w yX1_putSlices cX1_putSlices 3 (some .boolean) 2 0 0 [.ref (wA w b), .int (nI g), .int (nI m)] σ (fun r τ => r = bI (g < 5 ∧ m ≤ 60) ∧ (g < 5 ∧ m ≤ 60 → Hh τ b (ua a (10 + g) m)) ∧ τ b 6 = σ b 6 ∧ Fr (inH b) σ τ) := by
  refine CtI.mk (by decide) (Nat.le_of_ble_eq_true rfl) ?_
  intro K C hr h0
  have r := RI.of hr h0
  clear hr h0
  show G l w K 0 [(0, .ref (wA w b)), (1, .int (nI g)), (2, .int (nI m))] [] σ
  have hbl := hb.le
  have hwg : (0 ≤ nI g ∧ nI g < 5) ↔ g < 5 := ⟨fun z => (nj_lt (b := 5) (by omega) (by omega)).mp z.2, fun z => ⟨(nj_le (a := 0) (by omega) (by omega)).mpr (Nat.zero_le _), (nj_lt (b := 5) (by omega) (by omega)).mpr z⟩⟩
  have hwm : (0 ≤ nI m ∧ nI m ≤ 60) ↔ m ≤ 60 := ⟨fun z => (nj_le (b := 60) (by omega) (by omega)).mp z.2, fun z => ⟨(nj_le (a := 0) (by omega) (by omega)).mpr (Nat.zero_le _), (nj_le (b := 60) (by omega) (by omega)).mpr z⟩⟩
  refine g_iload_n C dX1_putSlices_0 rfl rfl ?_
  refine g_pNI (rest := []) (v := bI (0 ≤ nI g ∧ nI g < 5)) C mn_X1_46 nest2 (ct_X4_isAge l w hN σ (nI g)) rfl (by decide) rfl (Nat.le_of_ble_eq_true rfl) dX1_putSlices_1 ?_
  refine g_if_eq (tgt := 17) C dX1_putSlices_4 rfl (fun c4_1 => ?_) (fun c4_1 => ?_)
  · skip
    have n4_1 : ¬ (0 ≤ nI g ∧ nI g < 5) := bI_0 c4_1
    have hno : ¬ (g < 5 ∧ m ≤ 60) := fun z => n4_1 (hwg.mpr z.1)
    refine g_iconst C dX1_putSlices_17 ic_0 ?_
    refine g_iret C r rfl dX1_putSlices_18 ?_
    exact ⟨(if_neg hno).symm, fun z => absurd z hno, rfl, Fr.rf⟩
  · skip
    have n4_1 : (0 ≤ nI g ∧ nI g < 5) := bI_1 c4_1
    have hg5 := hwg.mp n4_1
    refine g_iload_n C dX1_putSlices_7 rfl rfl ?_
    refine g_iconst C dX1_putSlices_8 ic_0 ?_
    refine g_bipush C dX1_putSlices_9 bp_60 ?_
    refine g_pNI (rest := []) (v := bI (0 ≤ nI m ∧ nI m ≤ 60)) C mn_X1_42 nest1 (ct_X4_within l w hN σ (nI m) 0 60) rfl (by decide) rfl (Nat.le_of_ble_eq_true rfl) dX1_putSlices_11 ?_
    refine g_if_ne (tgt := 19) C dX1_putSlices_14 rfl (fun c14_2 => ?_) (fun c14_2 => ?_)
    · skip
      have n14_2 : (0 ≤ nI m ∧ nI m ≤ 60) := bI_1 c14_2
      have hye : g < 5 ∧ m ≤ 60 := ⟨hg5, hwm.mp n14_2⟩
      refine g_aload_n C dX1_putSlices_19 rfl rfl ?_
      refine g_get (v := .ref (wA w (b + 1))) C fl_X1_9 fs_X1_9 (HB.n0 hb hN) (HB.ou hb _) rfl dX1_putSlices_20 ?_
      refine g_iload_n C dX1_putSlices_23 rfl rfl ?_
      refine g_iload_n C dX1_putSlices_24 rfl rfl ?_
      refine g_ias (k0 := (b + 1)) (n := 5) C (HB.n hb hN (by decide)) (HB.s hb) (j := g) (ix_n (by omega)) dX1_putSlices_25 (fun σ1 hσ1 => ?_)
      refine g_iconst C dX1_putSlices_26 ic_1 ?_
      refine g_iret C r rfl dX1_putSlices_27 ?_
      exact ⟨(if_pos hye).symm, fun _ => by rw [hσ1]; exact hH.us (by omega), by rw [hσ1, up_other (by omega)], by rw [hσ1]; exact Fr.up (S := inH b) ⟨by omega, by omega⟩⟩
    · skip
      have n14_2 : ¬ (0 ≤ nI m ∧ nI m ≤ 60) := bI_0 c14_2
      have hno : ¬ (g < 5 ∧ m ≤ 60) := fun z => n14_2 (hwm.mpr z.2)
      refine g_iconst C dX1_putSlices_17 ic_0 ?_
      refine g_iret C r rfl dX1_putSlices_18 ?_
      exact ⟨(if_neg hno).symm, fun z => absurd z hno, rfl, Fr.rf⟩
set_option maxRecDepth 100000 in
set_option maxHeartbeats 4000000 in
theorem ct_X1_change (l : Launch) (w : WD) (hN : 54 ≤ wN w) (σ : SG) (b : Nat) (hb : HB b) (a : Row) (hH : Hh σ b a) (hB : Bd a) (s v M : Nat) (hs : s < 6) (hM : mosF s = nI M) (hM9 : M ≤ 1000) (hv : v ≤ 1000) : CtI l w yX1_change cX1_change 3 (some .boolean) 2 0 0 [.ref (wA w b), .int (nI s), .int (nI v)] σ (fun r τ => r = bI (v ≤ M) ∧ (v ≤ M → Hh τ b (ua a (2 + s) v)) ∧ τ b 6 = σ b 6 ∧ Fr (inH b) σ τ) := by
  refine CtI.mk (by decide) (Nat.le_of_ble_eq_true rfl) ?_
  intro K C hr h0
  have r := RI.of hr h0
  clear hr h0
  show G l w K 0 [(0, .ref (wA w b)), (1, .int (nI s)), (2, .int (nI v))] [] σ
  have hbl := hb.le
  have hwm : (0 ≤ nI v ∧ nI v ≤ nI M) ↔ v ≤ M := ⟨fun z => (nj_le (by omega) (by omega)).mp z.2, fun z => ⟨(nj_le (a := 0) (by omega) (by omega)).mpr (Nat.zero_le _), (nj_le (by omega) (by omega)).mpr z⟩⟩
  refine g_iload_n C dX1_change_0 rfl rfl ?_
  refine g_iconst C dX1_change_1 ic_0 ?_
  refine g_getMN C dX1_change_2 ?_
  refine g_iload_n C dX1_change_5 rfl rfl ?_
  refine g_alM C (j := s) (ix_n (by omega)) dX1_change_6 ?_
  refine g_val (y := nI M) hM ?_
  refine g_pNI (rest := []) (v := bI (0 ≤ nI v ∧ nI v ≤ nI M)) C mn_X1_42 nest1 (ct_X4_within l w hN σ (nI v) 0 (nI M)) rfl (by decide) rfl (Nat.le_of_ble_eq_true rfl) dX1_change_7 ?_
  refine g_if_ne (tgt := 15) C dX1_change_10 rfl (fun c10_1 => ?_) (fun c10_1 => ?_)
  · skip
    have n10_1 : (0 ≤ nI v ∧ nI v ≤ nI M) := bI_1 c10_1
    have hye := hwm.mp n10_1
    refine g_aload_n C dX1_change_15 rfl rfl ?_
    refine g_get (v := .ref (wA w (b + 3))) C fl_X1_18 fs_X1_18 (HB.n0 hb hN) (HB.ou hb _) rfl dX1_change_16 ?_
    refine g_iload_n C dX1_change_19 rfl rfl ?_
    refine g_iload_n C dX1_change_20 rfl rfl ?_
    refine g_ias (k0 := (b + 3)) (n := 6) C (HB.n hb hN (by decide)) (HB.t hb) (j := s) (ix_n (by omega)) dX1_change_21 (fun σ1 hσ1 => ?_)
    refine g_iconst C dX1_change_22 ic_1 ?_
    refine g_iret C r rfl dX1_change_23 ?_
    exact ⟨(if_pos hye).symm, fun _ => by rw [hσ1]; exact hH.ut (by omega), by rw [hσ1, up_other (by omega)], by rw [hσ1]; exact Fr.up (S := inH b) ⟨by omega, by omega⟩⟩
  · skip
    have n10_1 : ¬ (0 ≤ nI v ∧ nI v ≤ nI M) := bI_0 c10_1
    have hno : ¬ v ≤ M := fun z => n10_1 (hwm.mpr z)
    refine g_iconst C dX1_change_13 ic_0 ?_
    refine g_iret C r rfl dX1_change_14 ?_
    exact ⟨(if_neg hno).symm, fun z => absurd z hno, rfl, Fr.rf⟩

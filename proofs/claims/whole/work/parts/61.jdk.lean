set_option maxRecDepth 100000 in
set_option maxHeartbeats 4000000 in
theorem ct_J0_coder_7d493 (l : Launch) (w : WD) (hN : 54 ≤ wN w) (σ : SG) (i : Nat) (hi8 : i < 8) : CtI l w yJ0_coder_7d493 cJ0_coder_7d493 1 (some .byte) 1 0 0 [.ref (sK w i)] σ (fun r τ => r = 0 ∧ τ = σ) := by
  refine CtI.mk (by decide) (Nat.le_of_ble_eq_true rfl) ?_
  intro K C hr h0
  have r := RI.of hr h0
  clear hr h0
  show G l w K 0 [(0, .ref (sK w i))] [] σ
  refine g_getcs C fk_J0_38 dJ0_coder_7d493_0 ?_
  refine g_if_eq (tgt := 13) C dJ0_coder_7d493_3 rfl (fun c3_1 => ?_) (fun c3_1 => ?_)
  · exact absurd c3_1 (by decide)
  · skip
    refine g_aload_n C dJ0_coder_7d493_6 rfl rfl ?_
    refine g_strc C hi8 fk_J0_15 dJ0_coder_7d493_7 ?_
    refine g_goto (tgt := 14) C dJ0_coder_7d493_10 rfl ?_
    refine g_iret C r rfl dJ0_coder_7d493_14 ?_
    exact ⟨rfl, rfl⟩
theorem sh0 (x : Int32) : x >>> ((0 : Int32) &&& 31) = x := by
  apply Int32.toBitVec_inj.mp
  simp
set_option maxRecDepth 100000 in
set_option maxHeartbeats 4000000 in
theorem ct_J0_length_8abf5 (l : Launch) (w : WD) (hN : 54 ≤ wN w) (σ : SG) (i : Nat) (hi8 : i < 8) : CtI l w yJ0_length_8abf5 cJ0_length_8abf5 1 (some .int) 2 0 0 [.ref (sK w i)] σ (fun r τ => r = nI (txL i) ∧ τ = σ) := by
  refine CtI.mk (by decide) (Nat.le_of_ble_eq_true rfl) ?_
  intro K C hr h0
  have r := RI.of hr h0
  clear hr h0
  show G l w K 0 [(0, .ref (sK w i))] [] σ
  refine g_aload_n C dJ0_length_8abf5_0 rfl rfl ?_
  refine g_strv C hi8 fk_J0_9 dJ0_length_8abf5_1 ?_
  refine g_blen C hi8 dJ0_length_8abf5_4 ?_
  refine g_aload_n C dJ0_length_8abf5_5 rfl rfl ?_
  refine g_pWI (i := i) (rest := [.int (nI (txL i))]) (v := 0) C mw_J0_335 hi8 (ct_J0_coder_7d493 l w hN σ i hi8) rfl (by decide) rfl (Nat.le_of_ble_eq_true rfl) dJ0_length_8abf5_6 ?_
  refine g_ishr C dJ0_length_8abf5_9 ?_
  refine g_val (y := nI (txL i)) (sh0 _) ?_
  refine g_iret C r rfl dJ0_length_8abf5_10 ?_
  exact ⟨rfl, rfl⟩
set_option maxRecDepth 100000 in
set_option maxHeartbeats 4000000 in
theorem ct_J0_isEmpty_aae02 (l : Launch) (w : WD) (hN : 54 ≤ wN w) (σ : SG) (i : Nat) (hi8 : i < 8) : CtI l w yJ0_isEmpty_aae02 cJ0_isEmpty_aae02 1 (some .boolean) 1 0 0 [.ref (sK w i)] σ (fun r τ => r = bI (txL i = 0) ∧ τ = σ) := by
  refine CtI.mk (by decide) (Nat.le_of_ble_eq_true rfl) ?_
  intro K C hr h0
  have r := RI.of hr h0
  clear hr h0
  show G l w K 0 [(0, .ref (sK w i))] [] σ
  have h8 := tx_l8 hi8
  refine g_aload_n C dJ0_isEmpty_aae02_0 rfl rfl ?_
  refine g_strv C hi8 fk_J0_9 dJ0_isEmpty_aae02_1 ?_
  refine g_blen C hi8 dJ0_isEmpty_aae02_4 ?_
  refine g_if_ne (tgt := 12) C dJ0_isEmpty_aae02_5 rfl (fun c5_1 => ?_) (fun c5_1 => ?_)
  · skip
    have n5_1 : ¬ (txL i = 0) := fun qq => c5_1 ((nj_eq (a := txL i) (b := 0) (by omega) (by omega)).mpr qq)
    refine g_iconst C dJ0_isEmpty_aae02_12 ic_0 ?_
    refine g_iret C r rfl dJ0_isEmpty_aae02_13 ?_
    refine ⟨?_, rfl⟩
    first | exact (if_pos (by omega)).symm | exact (if_neg (by omega)).symm
  · skip
    have n5_1 : txL i = 0 := (nj_eq (a := txL i) (b := 0) (by omega) (by omega)).mp c5_1
    refine g_iconst C dJ0_isEmpty_aae02_8 ic_1 ?_
    refine g_goto (tgt := 13) C dJ0_isEmpty_aae02_9 rfl ?_
    refine g_iret C r rfl dJ0_isEmpty_aae02_13 ?_
    refine ⟨?_, rfl⟩
    first | exact (if_pos (by omega)).symm | exact (if_neg (by omega)).symm
set_option maxRecDepth 100000 in
set_option maxHeartbeats 4000000 in
theorem ct_J0_isLatin1_aae02 (l : Launch) (w : WD) (hN : 54 ≤ wN w) (σ : SG) (i : Nat) (hi8 : i < 8) : CtI l w yJ0_isLatin1_aae02 cJ0_isLatin1_aae02 1 (some .boolean) 1 0 0 [.ref (sK w i)] σ (fun r τ => r = 1 ∧ τ = σ) := by
  refine CtI.mk (by decide) (Nat.le_of_ble_eq_true rfl) ?_
  intro K C hr h0
  have r := RI.of hr h0
  clear hr h0
  show G l w K 0 [(0, .ref (sK w i))] [] σ
  refine g_getcs C fk_J0_38 dJ0_isLatin1_aae02_0 ?_
  refine g_if_eq (tgt := 17) C dJ0_isLatin1_aae02_3 rfl (fun c3_1 => ?_) (fun c3_1 => ?_)
  · exact absurd c3_1 (by decide)
  · skip
    refine g_aload_n C dJ0_isLatin1_aae02_6 rfl rfl ?_
    refine g_strc C hi8 fk_J0_15 dJ0_isLatin1_aae02_7 ?_
    refine g_if_ne (tgt := 17) C dJ0_isLatin1_aae02_10 rfl (fun c10_2 => ?_) (fun c10_2 => ?_)
    · exact absurd c10_2 (by decide)
    · skip
      refine g_iconst C dJ0_isLatin1_aae02_13 ic_1 ?_
      refine g_goto (tgt := 18) C dJ0_isLatin1_aae02_14 rfl ?_
      refine g_iret C r rfl dJ0_isLatin1_aae02_18 ?_
      exact ⟨rfl, rfl⟩
set_option maxRecDepth 100000 in
set_option maxHeartbeats 4000000 in
theorem ct_J3_checkIndex_n (l : Launch) (w : WD) (hN : 54 ≤ wN w) (σ : SG) (k m : Nat) (hk : k < m) (hm : m ≤ 1000) : CtI l w yJ3_checkIndex_8e157 cJ3_checkIndex_8e157 3 (some .int) 1 0 0 [.int (nI k), .int (nI m), .null] σ (fun r τ => r = nI k ∧ τ = σ) := by
  refine CtI.mk (by decide) (Nat.le_of_ble_eq_true rfl) ?_
  intro K C hr h0
  have r := RI.of hr h0
  clear hr h0
  show G l w K 0 [(0, .int (nI k)), (1, .int (nI m)), (2, .null)] [] σ
  refine g_iload_n C dJ3_checkIndex_8e157_0 rfl rfl ?_
  refine g_if_lt (tgt := 9) C dJ3_checkIndex_8e157_1 rfl (fun c1_1 => ?_) (fun c1_1 => ?_)
  · skip
    have n1_1 : k < 0 := (nj_lt (a := k) (b := 0) (by omega) (by omega)).mp c1_1
    exfalso
    omega
  · skip
    have n1_1 : ¬ (k < 0) := fun qq => c1_1 ((nj_lt (a := k) (b := 0) (by omega) (by omega)).mpr qq)
    refine g_iload_n C dJ3_checkIndex_8e157_4 rfl rfl ?_
    refine g_iload_n C dJ3_checkIndex_8e157_5 rfl rfl ?_
    refine g_icmp_lt (tgt := 16) C dJ3_checkIndex_8e157_6 rfl (fun c6_2 => ?_) (fun c6_2 => ?_)
    · skip
      have n6_2 : k < m := (nj_lt (a := k) (b := m) (by omega) (by omega)).mp c6_2
      refine g_iload_n C dJ3_checkIndex_8e157_16 rfl rfl ?_
      refine g_iret C r rfl dJ3_checkIndex_8e157_17 ?_
      exact ⟨rfl, rfl⟩
    · skip
      have n6_2 : ¬ (k < m) := fun qq => c6_2 ((nj_lt (a := k) (b := m) (by omega) (by omega)).mpr qq)
      exfalso
      omega
set_option maxRecDepth 100000 in
set_option maxHeartbeats 4000000 in
theorem ct_J3_checkIndex_r (l : Launch) (w : WD) (hN : 54 ≤ wN w) (σ : SG) (k m : Nat) (hk : k < m) (hm : m ≤ 1000) (t : Nat) : CtI l w yJ3_checkIndex_8e157 cJ3_checkIndex_8e157 3 (some .int) 1 0 0 [.int (nI k), .int (nI m), .ref t] σ (fun r τ => r = nI k ∧ τ = σ) := by
  refine CtI.mk (by decide) (Nat.le_of_ble_eq_true rfl) ?_
  intro K C hr h0
  have r := RI.of hr h0
  clear hr h0
  show G l w K 0 [(0, .int (nI k)), (1, .int (nI m)), (2, .ref t)] [] σ
  refine g_iload_n C dJ3_checkIndex_8e157_0 rfl rfl ?_
  refine g_if_lt (tgt := 9) C dJ3_checkIndex_8e157_1 rfl (fun c1_1 => ?_) (fun c1_1 => ?_)
  · skip
    have n1_1 : k < 0 := (nj_lt (a := k) (b := 0) (by omega) (by omega)).mp c1_1
    exfalso
    omega
  · skip
    have n1_1 : ¬ (k < 0) := fun qq => c1_1 ((nj_lt (a := k) (b := 0) (by omega) (by omega)).mpr qq)
    refine g_iload_n C dJ3_checkIndex_8e157_4 rfl rfl ?_
    refine g_iload_n C dJ3_checkIndex_8e157_5 rfl rfl ?_
    refine g_icmp_lt (tgt := 16) C dJ3_checkIndex_8e157_6 rfl (fun c6_2 => ?_) (fun c6_2 => ?_)
    · skip
      have n6_2 : k < m := (nj_lt (a := k) (b := m) (by omega) (by omega)).mp c6_2
      refine g_iload_n C dJ3_checkIndex_8e157_16 rfl rfl ?_
      refine g_iret C r rfl dJ3_checkIndex_8e157_17 ?_
      exact ⟨rfl, rfl⟩
    · skip
      have n6_2 : ¬ (k < m) := fun qq => c6_2 ((nj_lt (a := k) (b := m) (by omega) (by omega)).mpr qq)
      exfalso
      omega
set_option maxRecDepth 100000 in
set_option maxHeartbeats 4000000 in
theorem ct_J0_checkIndex_df160 (l : Launch) (w : WD) (hN : 54 ≤ wN w) (σ : SG) (k m : Nat) (hk : k < m) (hm : m ≤ 1000) : CtV l w yJ0_checkIndex_df160 cJ0_checkIndex_df160 2 2 0 0 [.int (nI k), .int (nI m)] σ (fun τ => τ = σ) := by
  refine CtV.mk (by decide) (Nat.le_of_ble_eq_true rfl) ?_
  intro K C hr h0
  have r := RV.of hr h0
  clear hr h0
  show G l w K 0 [(0, .int (nI k)), (1, .int (nI m))] [] σ
  refine g_iload_n C dJ0_checkIndex_df160_0 rfl rfl ?_
  refine g_iload_n C dJ0_checkIndex_df160_1 rfl rfl ?_
  refine g_getsi C fk_J0_1053 dJ0_checkIndex_df160_2 (fun fv hfv => ?_)
  rcases hfv with rfl | ⟨t, rfl⟩
  · skip
    refine g_pSI (rest := []) (v := nI k) C ms_J0_1059 (ct_J3_checkIndex_n l w hN σ k m hk hm) rfl (by decide) rfl (Nat.le_of_ble_eq_true rfl) dJ0_checkIndex_df160_5 ?_
    refine g_pop C dJ0_checkIndex_df160_8 rfl ?_
    refine g_vret C r dJ0_checkIndex_df160_9 ?_
    rfl
  · skip
    refine g_pSI (rest := []) (v := nI k) C ms_J0_1059 (ct_J3_checkIndex_r l w hN σ k m hk hm t) rfl (by decide) rfl (Nat.le_of_ble_eq_true rfl) dJ0_checkIndex_df160_5 ?_
    refine g_pop C dJ0_checkIndex_df160_8 rfl ?_
    refine g_vret C r dJ0_checkIndex_df160_9 ?_
    rfl
theorem and255 {c : Nat} (h : c < 128) : nI c &&& 255 = nI c := by
  have key : ∀ i : Fin 128, nI i.val &&& 255 = nI i.val := by decide +kernel
  exact key ⟨c, h⟩
theorem i2b_lo {c : Nat} (h : c < 128) : (nI c).toInt8.toInt32 = nI c := by
  have key : ∀ i : Fin 128, (nI i.val).toInt8.toInt32 = nI i.val := by decide +kernel
  exact key ⟨c, h⟩
theorem i2b_hi {c : Nat} (h : 128 ≤ c) (h2 : c ≤ 255) : (nI c).toInt8.toInt32 < 0 := by
  have key : ∀ i : Fin 128, (nI (128 + i.val)).toInt8.toInt32 < 0 := by decide +kernel
  have := key ⟨c - 128, by omega⟩
  rw [show 128 + (c - 128) = c by omega] at this
  exact this
theorem nrc {c : Nat} (h : c < 128) : narrow .char (.int (nI c)) = .int (nI c) := by
  have key : ∀ i : Fin 128, narrow .char (.int (nI i.val)) = .int (nI i.val) := by decide +kernel
  exact key ⟨c, h⟩
set_option maxRecDepth 100000 in
set_option maxHeartbeats 4000000 in
theorem ct_J1_charAt_3b067 (l : Launch) (w : WD) (hN : 54 ≤ wN w) (σ : SG) (i : Nat) (hi8 : i < 8) (k : Nat) (hk : k < txL i) : CtI l w yJ1_charAt_3b067 cJ1_charAt_3b067 2 (some .char) 3 0 0 [.ref (sV w i), .int (nI k)] σ (fun r τ => r = nI (txN i k) ∧ τ = σ) := by
  refine CtI.mk (by decide) (Nat.le_of_ble_eq_true rfl) ?_
  intro K C hr h0
  have r := RI.of hr h0
  clear hr h0
  show G l w K 0 [(0, .ref (sV w i)), (1, .int (nI k))] [] σ
  have h8 := tx_l8 hi8
  have h128 := (tx_ok hi8 hk).2
  refine g_iload_n C dJ1_charAt_3b067_0 rfl rfl ?_
  refine g_aload_n C dJ1_charAt_3b067_1 rfl rfl ?_
  refine g_blen C hi8 dJ1_charAt_3b067_2 ?_
  refine g_callSV (rest := []) C ms_J1_9 (ct_J0_checkIndex_df160 l w hN σ k (txL i) hk (by omega)) rfl (by decide) rfl (Nat.le_of_ble_eq_true rfl) dJ1_charAt_3b067_3 (fun σ_1 h1 => ?_)
  rw [h1]
  refine g_aload_n C dJ1_charAt_3b067_6 rfl rfl ?_
  refine g_iload_n C dJ1_charAt_3b067_7 rfl rfl ?_
  refine g_bald (i := i) C hi8 (j := k) (ix_n (by omega) (by omega)) dJ1_charAt_3b067_8 ?_
  refine g_sipush C dJ1_charAt_3b067_9 sp_255 ?_
  refine g_iand C dJ1_charAt_3b067_12 ?_
  refine g_val (y := nI (txN i k)) (and255 h128) ?_
  refine g_i2c (v := nI (txN i k)) C dJ1_charAt_3b067_13 (i2c_id (by omega)) ?_
  refine g_iret C r (nrc h128) dJ1_charAt_3b067_14 ?_
  exact ⟨rfl, rfl⟩
set_option maxRecDepth 100000 in
set_option maxHeartbeats 4000000 in
theorem ct_J0_charAt_5068e (l : Launch) (w : WD) (hN : 54 ≤ wN w) (σ : SG) (i : Nat) (hi8 : i < 8) (k : Nat) (hk : k < txL i) : CtI l w yJ0_charAt_5068e cJ0_charAt_5068e 2 (some .char) 4 0 0 [.ref (sK w i), .int (nI k)] σ (fun r τ => r = nI (txN i k) ∧ τ = σ) := by
  refine CtI.mk (by decide) (Nat.le_of_ble_eq_true rfl) ?_
  intro K C hr h0
  have r := RI.of hr h0
  clear hr h0
  show G l w K 0 [(0, .ref (sK w i)), (1, .int (nI k))] [] σ
  have h8 := tx_l8 hi8
  have h128 := (tx_ok hi8 hk).2
  refine g_aload_n C dJ0_charAt_5068e_0 rfl rfl ?_
  refine g_pWI (i := i) (rest := []) (v := 1) C mw_J0_492 hi8 (ct_J0_isLatin1_aae02 l w hN σ i hi8) rfl (by decide) rfl (Nat.le_of_ble_eq_true rfl) dJ0_charAt_5068e_1 ?_
  refine g_if_eq (tgt := 16) C dJ0_charAt_5068e_4 rfl (fun c4_1 => ?_) (fun c4_1 => ?_)
  · exact absurd c4_1 (by decide)
  · skip
    refine g_aload_n C dJ0_charAt_5068e_7 rfl rfl ?_
    refine g_strv C hi8 fk_J0_9 dJ0_charAt_5068e_8 ?_
    refine g_iload_n C dJ0_charAt_5068e_11 rfl rfl ?_
    refine g_pSI (rest := []) (v := nI (txN i k)) C ms_J0_495 (ct_J1_charAt_3b067 l w hN σ i hi8 k hk) rfl (by decide) rfl (Nat.le_of_ble_eq_true rfl) dJ0_charAt_5068e_12 ?_
    refine g_iret C r (nrc h128) dJ0_charAt_5068e_15 ?_
    exact ⟨rfl, rfl⟩
/-- the place of c in the text i -/
def txF (i c : Nat) : Option Nat := (List.range (txL i)).find? (fun j => decide (txN i j = c))
theorem txF_hit {i c k : Nat} (hk : k < txL i) (he : txN i k = c) (hn : ∀ j, j < k → ¬ txN i j = c) : txF i c = some k := by
  unfold txF
  rw [List.find?_range_eq_some]
  exact ⟨decide_eq_true he, List.mem_range.mpr hk, fun j hj => by simp only [Bool.not_eq_true', decide_eq_false_iff_not]; exact hn j hj⟩
theorem txF_none {i c : Nat} (hn : ∀ j, j < txL i → ¬ txN i j = c) : txF i c = none := by
  unfold txF
  rw [List.find?_eq_none]
  intro j hj
  have := hn j (List.mem_range.mp hj)
  simp only [decide_eq_true_eq]; exact this
set_option maxRecDepth 100000 in
set_option maxHeartbeats 4000000 in
theorem ct_J1_canEncode_9a6ad (l : Launch) (w : WD) (hN : 54 ≤ wN w) (σ : SG) (ch : Nat) (hc : ch ≤ 255) : CtI l w yJ1_canEncode_9a6ad cJ1_canEncode_9a6ad 1 (some .boolean) 1 0 0 [.int (nI ch)] σ (fun r τ => r = 1 ∧ τ = σ) := by
  refine CtI.mk (by decide) (Nat.le_of_ble_eq_true rfl) ?_
  intro K C hr h0
  have r := RI.of hr h0
  clear hr h0
  show G l w K 0 [(0, .int (nI ch))] [] σ
  refine g_iload_n C dJ1_canEncode_9a6ad_0 rfl rfl ?_
  refine g_if_lt (tgt := 15) C dJ1_canEncode_9a6ad_1 rfl (fun c1_1 => ?_) (fun c1_1 => ?_)
  · skip
    have n1_1 : ch < 0 := (nj_lt (a := ch) (b := 0) (by omega) (by omega)).mp c1_1
    exfalso
    omega
  · skip
    have n1_1 : ¬ (ch < 0) := fun qq => c1_1 ((nj_lt (a := ch) (b := 0) (by omega) (by omega)).mpr qq)
    refine g_iload_n C dJ1_canEncode_9a6ad_4 rfl rfl ?_
    refine g_sipush C dJ1_canEncode_9a6ad_5 sp_255 ?_
    refine g_icmp_gt (tgt := 15) C dJ1_canEncode_9a6ad_8 rfl (fun c8_2 => ?_) (fun c8_2 => ?_)
    · skip
      have n8_2 : 255 < ch := (nj_lt (a := 255) (b := ch) (by omega) (by omega)).mp c8_2
      exfalso
      omega
    · skip
      have n8_2 : ¬ (255 < ch) := fun qq => c8_2 ((nj_lt (a := 255) (b := ch) (by omega) (by omega)).mpr qq)
      refine g_iconst C dJ1_canEncode_9a6ad_11 ic_1 ?_
      refine g_goto (tgt := 16) C dJ1_canEncode_9a6ad_12 rfl ?_
      refine g_iret C r rfl dJ1_canEncode_9a6ad_16 ?_
      exact ⟨rfl, rfl⟩
set_option maxRecDepth 100000 in
set_option maxHeartbeats 4000000 in
theorem ct_J1_indexOfChar_4cfef (l : Launch) (w : WD) (hN : 54 ≤ wN w) (σ : SG) (i : Nat) (hi8 : i < 8) (ch : Nat) (hc : ch ≤ 255) : CtI l w yJ1_indexOfChar_4cfef cJ1_indexOfChar_4cfef 6 (some .int) 1 0 0 [.ref (sV w i), .int (nI ch), .int 0, .int (nI (txL i))] σ (fun r τ => r = oJ (txF i ch) (-1) ∧ τ = σ) := by
  refine CtI.mk (by decide) (Nat.le_of_ble_eq_true rfl) ?_
  intro K C hr h0
  have r := RI.of hr h0
  clear hr h0
  show G l w K 0 [(0, .ref (sV w i)), (1, .int (nI ch)), (2, .int 0), (3, .int (nI (txL i)))] [] σ
  have h8 := tx_l8 hi8
  obtain ⟨b, hb⟩ : ∃ q, q = (nI ch).toInt8.toInt32 := ⟨_, rfl⟩
  have hbe : ∀ j, j < txL i → (nI (txN i j) = b ↔ txN i j = ch) := fun j hj => by
    have h2 := (tx_ok hi8 hj).2
    rw [hb]
    by_cases hlo : ch < 128
    · rw [i2b_lo hlo]; exact nj_eq (by omega) (by omega)
    · refine ⟨fun z => ?_, fun z => absurd z (by omega)⟩
      have h3 := i2b_hi (by omega) hc
      rw [← z] at h3
      exact absurd h3 (nj_nn (by omega))
  refine g_iload_n C dJ1_indexOfChar_4cfef_0 rfl rfl ?_
  refine g_i2b (v := b) C dJ1_indexOfChar_4cfef_1 hb.symm ?_
  refine g_istore (lv' := [(4, .int b), (0, .ref (sV w i)), (1, .int (nI ch)), (2, .int 0), (3, .int (nI (txL i)))]) C dJ1_indexOfChar_4cfef_2 (by decide) rfl ?_
  refine g_iload_n C dJ1_indexOfChar_4cfef_4 rfl rfl ?_
  refine g_istore (lv' := [(5, .int 0), (4, .int b), (0, .ref (sV w i)), (1, .int (nI ch)), (2, .int 0), (3, .int (nI (txL i)))]) C dJ1_indexOfChar_4cfef_5 (by decide) rfl ?_
  have L7 : ∀ (m7 : Nat) (k : Nat), m7 = txL i - k → (k ≤ txL i) → (∀ j, j < k → ¬ txN i j = ch) → G l w K 7 [(0, .ref (sV w i)), (3, .int (nI (txL i))), (4, .int b), (5, .int (nI k))] [] σ := by
    intro m7
    induction m7 using Nat.strongRecOn with
    | ind m7 ih7 =>
    intro k em7 hk hno
    refine g_iload C dJ1_indexOfChar_4cfef_7 rfl ?_
    refine g_iload_n C dJ1_indexOfChar_4cfef_9 rfl rfl ?_
    refine g_icmp_ge (tgt := 31) C dJ1_indexOfChar_4cfef_10 rfl (fun c10_1 => ?_) (fun c10_1 => ?_)
    · skip
      have n10_1 : txL i ≤ k := (nj_le (a := txL i) (b := k) (by omega) (by omega)).mp c10_1
      have hkl : k = txL i := by omega
      refine g_iconst C dJ1_indexOfChar_4cfef_31 ic_m1 ?_
      refine g_iret C r rfl dJ1_indexOfChar_4cfef_32 ?_
      refine ⟨?_, rfl⟩
      rw [txF_none (fun j hj => hno j (by omega))]
      rfl
    · skip
      have n10_1 : ¬ (txL i ≤ k) := fun qq => c10_1 ((nj_le (a := txL i) (b := k) (by omega) (by omega)).mpr qq)
      refine g_aload_n C dJ1_indexOfChar_4cfef_13 rfl rfl ?_
      refine g_iload C dJ1_indexOfChar_4cfef_14 rfl ?_
      refine g_bald (i := i) C hi8 (j := k) (ix_n (by omega) (by omega)) dJ1_indexOfChar_4cfef_16 ?_
      refine g_iload C dJ1_indexOfChar_4cfef_17 rfl ?_
      refine g_icmp_ne (tgt := 25) C dJ1_indexOfChar_4cfef_19 rfl (fun c19_2 => ?_) (fun c19_2 => ?_)
      · skip
        have hne : ¬ txN i k = ch := fun z => c19_2 ((hbe k (by omega)).mpr z)
        refine g_iinc (v := nI (k + 1)) (lv' := [(5, .int (nI (k + 1))), (0, .ref (sV w i)), (3, .int (nI (txL i))), (4, .int b)]) C dJ1_indexOfChar_4cfef_25 (by decide) rfl (nj_inc k) rfl ?_
        refine g_goto (tgt := 7) C dJ1_indexOfChar_4cfef_28 rfl ?_
        exact g_lvp [1, 2, 3, 0] rfl (ih7 (txL i - (k + 1)) (by omega) (k + 1) rfl (by first | omega | assumption | rfl | grind) (fun j hj => (Decidable.em (j = k)).elim (fun z => by rw [z]; exact hne) (fun z => hno j (by omega))))
      · skip
        have hye : txN i k = ch := (hbe k (by omega)).mp c19_2
        refine g_iload C dJ1_indexOfChar_4cfef_22 rfl ?_
        refine g_iret C r rfl dJ1_indexOfChar_4cfef_24 ?_
        refine ⟨?_, rfl⟩
        rw [txF_hit (by omega) hye hno]
        rfl
  exact g_lvp [2, 5, 1, 0] rfl (L7 (txL i - 0) 0 rfl (by first | omega | assumption | rfl | grind) (fun j h => absurd h (Nat.not_lt_zero _)))
set_option maxRecDepth 100000 in
set_option maxHeartbeats 4000000 in
theorem ct_J1_indexOf_4cfef (l : Launch) (w : WD) (hN : 54 ≤ wN w) (σ : SG) (i : Nat) (hi8 : i < 8) (ch : Nat) (hc : ch ≤ 255) (hi0 : 0 < txL i) : CtI l w yJ1_indexOf_4cfef cJ1_indexOf_4cfef 4 (some .int) 2 0 0 [.ref (sV w i), .int (nI ch), .int 0, .int (nI (txL i))] σ (fun r τ => r = oJ (txF i ch) (-1) ∧ τ = σ) := by
  refine CtI.mk (by decide) (Nat.le_of_ble_eq_true rfl) ?_
  intro K C hr h0
  have r := RI.of hr h0
  clear hr h0
  show G l w K 0 [(0, .ref (sV w i)), (1, .int (nI ch)), (2, .int 0), (3, .int (nI (txL i)))] [] σ
  have h8 := tx_l8 hi8
  refine g_iload_n C dJ1_indexOf_4cfef_0 rfl rfl ?_
  refine g_pSI (rest := []) (v := 1) C ms_J1_88 (ct_J1_canEncode_9a6ad l w hN σ ch hc) rfl (by decide) rfl (Nat.le_of_ble_eq_true rfl) dJ1_indexOf_4cfef_1 ?_
  refine g_if_ne (tgt := 9) C dJ1_indexOf_4cfef_4 rfl (fun c4_1 => ?_) (fun c4_1 => ?_)
  · skip
    refine g_iload_n C dJ1_indexOf_4cfef_9 rfl rfl ?_
    refine g_iconst C dJ1_indexOf_4cfef_10 ic_0 ?_
    refine g_max C ml_J1_92 st_Lib_Math_max ini_Math co_Lib_Math_max (by decide) (Nat.le_of_ble_eq_true rfl) dJ1_indexOf_4cfef_11 ?_
    refine g_val (y := 0) (by decide) ?_
    refine g_istore_n (lv' := [(2, .int 0), (0, .ref (sV w i)), (1, .int (nI ch)), (3, .int (nI (txL i)))]) C dJ1_indexOf_4cfef_14 rfl (by decide) rfl ?_
    refine g_iload_n C dJ1_indexOf_4cfef_15 rfl rfl ?_
    refine g_aload_n C dJ1_indexOf_4cfef_16 rfl rfl ?_
    refine g_blen C hi8 dJ1_indexOf_4cfef_17 ?_
    refine g_min C ml_J1_38 st_Lib_Math_min ini_Math co_Lib_Math_min (by decide) (Nat.le_of_ble_eq_true rfl) dJ1_indexOf_4cfef_18 ?_
    refine g_val (y := nI (txL i)) (by rw [nj_min (by omega) (by omega), Nat.min_self]) ?_
    refine g_istore_n (lv' := [(3, .int (nI (txL i))), (2, .int 0), (0, .ref (sV w i)), (1, .int (nI ch))]) C dJ1_indexOf_4cfef_21 rfl (by decide) rfl ?_
    refine g_iload_n C dJ1_indexOf_4cfef_22 rfl rfl ?_
    refine g_iload_n C dJ1_indexOf_4cfef_23 rfl rfl ?_
    refine g_icmp_lt (tgt := 29) C dJ1_indexOf_4cfef_24 rfl (fun c24_2 => ?_) (fun c24_2 => ?_)
    · skip
      have n24_2 : 0 < txL i := (nj_lt (a := 0) (b := txL i) (by omega) (by omega)).mp c24_2
      refine g_aload_n C dJ1_indexOf_4cfef_29 rfl rfl ?_
      refine g_iload_n C dJ1_indexOf_4cfef_30 rfl rfl ?_
      refine g_iload_n C dJ1_indexOf_4cfef_31 rfl rfl ?_
      refine g_iload_n C dJ1_indexOf_4cfef_32 rfl rfl ?_
      refine g_pSI (rest := []) (v := oJ (txF i ch) (-1)) C ms_J1_95 (ct_J1_indexOfChar_4cfef l w hN σ i hi8 ch hc) rfl (by decide) rfl (Nat.le_of_ble_eq_true rfl) dJ1_indexOf_4cfef_33 ?_
      refine g_iret C r rfl dJ1_indexOf_4cfef_36 ?_
      exact ⟨rfl, rfl⟩
    · skip
      have n24_2 : ¬ (0 < txL i) := fun qq => c24_2 ((nj_lt (a := 0) (b := txL i) (by omega) (by omega)).mpr qq)
      exfalso
      omega
  · exact absurd c4_1 (by decide)
set_option maxRecDepth 100000 in
set_option maxHeartbeats 4000000 in
theorem ct_J0_indexOf_7cf53 (l : Launch) (w : WD) (hN : 54 ≤ wN w) (σ : SG) (i : Nat) (hi8 : i < 8) (ch : Nat) (hc : ch ≤ 255) (hi0 : 0 < txL i) : CtI l w yJ0_indexOf_7cf53 cJ0_indexOf_7cf53 3 (some .int) 3 0 0 [.ref (sK w i), .int (nI ch), .int 0] σ (fun r τ => r = oJ (txF i ch) (-1) ∧ τ = σ) := by
  refine CtI.mk (by decide) (Nat.le_of_ble_eq_true rfl) ?_
  intro K C hr h0
  have r := RI.of hr h0
  clear hr h0
  show G l w K 0 [(0, .ref (sK w i)), (1, .int (nI ch)), (2, .int 0)] [] σ
  refine g_aload_n C dJ0_indexOf_7cf53_0 rfl rfl ?_
  refine g_pWI (i := i) (rest := []) (v := 1) C mw_J0_492 hi8 (ct_J0_isLatin1_aae02 l w hN σ i hi8) rfl (by decide) rfl (Nat.le_of_ble_eq_true rfl) dJ0_indexOf_7cf53_1 ?_
  refine g_if_eq (tgt := 23) C dJ0_indexOf_7cf53_4 rfl (fun c4_1 => ?_) (fun c4_1 => ?_)
  · exact absurd c4_1 (by decide)
  · skip
    refine g_aload_n C dJ0_indexOf_7cf53_7 rfl rfl ?_
    refine g_strv C hi8 fk_J0_9 dJ0_indexOf_7cf53_8 ?_
    refine g_iload_n C dJ0_indexOf_7cf53_11 rfl rfl ?_
    refine g_iload_n C dJ0_indexOf_7cf53_12 rfl rfl ?_
    refine g_aload_n C dJ0_indexOf_7cf53_13 rfl rfl ?_
    refine g_pWI (i := i) (rest := [.int 0, .int (nI ch), .ref (sV w i)]) (v := nI (txL i)) C mw_J0_505 hi8 (ct_J0_length_8abf5 l w hN σ i hi8) rfl (by decide) rfl (Nat.le_of_ble_eq_true rfl) dJ0_indexOf_7cf53_14 ?_
    refine g_pSI (rest := []) (v := oJ (txF i ch) (-1)) C ms_J0_637 (ct_J1_indexOf_4cfef l w hN σ i hi8 ch hc hi0) rfl (by decide) rfl (Nat.le_of_ble_eq_true rfl) dJ0_indexOf_7cf53_17 ?_
    refine g_goto (tgt := 36) C dJ0_indexOf_7cf53_20 rfl ?_
    refine g_iret C r rfl dJ0_indexOf_7cf53_36 ?_
    exact ⟨rfl, rfl⟩
set_option maxRecDepth 100000 in
set_option maxHeartbeats 4000000 in
theorem ct_J0_indexOf_0f7a4 (l : Launch) (w : WD) (hN : 54 ≤ wN w) (σ : SG) (i : Nat) (hi8 : i < 8) (ch : Nat) (hc : ch ≤ 255) (hi0 : 0 < txL i) : CtI l w yJ0_indexOf_0f7a4 cJ0_indexOf_0f7a4 2 (some .int) 4 0 0 [.ref (sK w i), .int (nI ch)] σ (fun r τ => r = oJ (txF i ch) (-1) ∧ τ = σ) := by
  refine CtI.mk (by decide) (Nat.le_of_ble_eq_true rfl) ?_
  intro K C hr h0
  have r := RI.of hr h0
  clear hr h0
  show G l w K 0 [(0, .ref (sK w i)), (1, .int (nI ch))] [] σ
  refine g_aload_n C dJ0_indexOf_0f7a4_0 rfl rfl ?_
  refine g_iload_n C dJ0_indexOf_0f7a4_1 rfl rfl ?_
  refine g_iconst C dJ0_indexOf_0f7a4_2 ic_0 ?_
  refine g_pWI (i := i) (rest := []) (v := oJ (txF i ch) (-1)) C mw_J0_633 hi8 (ct_J0_indexOf_7cf53 l w hN σ i hi8 ch hc hi0) rfl (by decide) rfl (Nat.le_of_ble_eq_true rfl) dJ0_indexOf_0f7a4_3 ?_
  refine g_iret C r rfl dJ0_indexOf_0f7a4_6 ?_
  exact ⟨rfl, rfl⟩

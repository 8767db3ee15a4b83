theorem two_le {c : Nat → Nat} {q : Nat} (h : dgt (c q)) (h2 : dgt (c (q + 1))) : two c q ≤ 99 := by unfold two; omega
set_option maxRecDepth 100000 in
set_option maxHeartbeats 4000000 in
theorem ct_tell_e (l : Launch) (w : WD) (hN : 54 ≤ wN w) (σ : SG) (nl : Nat) (c : Nat → Nat) (hl1 : σ 32 1 = nI nl) (hl9 : nl ≤ 96) (hc : ∀ j, j < nl → σ 33 j = nI (c j)) (hc9 : ∀ j, j < nl → c j ≤ 255) (p p' : Nat) (a : Row) (hH : Hh σ 19 a) (hB : Bd a) (hD : D9 a) (h6 : σ 19 6 = nI 0) (hle : p' ≤ nl) (e0 : c p = 101) (k1 : (txF 6 (c (p + 1))).isSome = true) (d2 : dgt (c (p + 2))) (d3 : dgt (c (p + 3))) (d4 : dgt (c (p + 4))) (hx : (c (p + 5) = 59 ∧ p' = p + 6) ∨ (dgt (c (p + 5)) ∧ c (p + 6) = 59 ∧ p' = p + 7)) : CtI l w yX2_tellStatement cX2_tellStatement 6 (some .boolean) 8 0 0 [.ref (wA w 32), .int (nI p), .ref (wA w 19), .ref (wA w 28)] σ (fun r τ => r = bI ((effS c a p).isSome = true) ∧ (∀ a', effS c a p = some a' → Hh τ 19 a' ∧ τ 19 6 = nI 0) ∧ Fr (inD 19) σ τ) := by
  refine CtI.mk (by decide) (Nat.le_of_ble_eq_true rfl) ?_
  intro K C hr h0
  have r := RI.of hr h0
  clear hr h0
  show G l w K 0 [(0, .ref (wA w 32)), (1, .int (nI p)), (2, .ref (wA w 19)), (3, .ref (wA w 28))] [] σ
  obtain ⟨hBa, hB0, hB1, hB2, hB3, hB4, hB5, hB6, hB7, hBs, hBp, hBe⟩ := id hB
  refine g_aload_n C dX2_tellStatement_0 rfl rfl ?_
  refine g_iload_n C dX2_tellStatement_1 rfl rfl ?_
  refine g_pVI (rest := []) (v := nI (sgn c nl p)) C mv_X2_19 (ct_X2_sign l w hN σ nl c hl1 hl9 hc hc9 p (by omega)) (Nat.lt_of_lt_of_le (by decide) hN) rfl rfl (by decide) rfl (Nat.le_of_ble_eq_true rfl) dX2_tellStatement_2 ?_
  refine g_val (y := 101) (by rw [sg_in (by omega), e0]; rfl) ?_
  refine g_lsw (x := 101) (off := 59) (tgt := 64) C dX2_tellStatement_5 (by decide) (by decide) rfl ?_
  refine g_aload_n C dX2_tellStatement_64 rfl rfl ?_
  refine g_iload_n C dX2_tellStatement_65 rfl rfl ?_
  refine g_iconst C dX2_tellStatement_66 ic_5 ?_
  refine g_iaddv (v := nI (p + 5)) C (nj_plus p 5) dX2_tellStatement_67 ?_
  have h59 := hc9 (p + 5) (by omega)
  refine g_pVI (rest := []) (v := nI (sgn c nl (p + 5))) C mv_X2_19 (ct_X2_sign l w hN σ nl c hl1 hl9 hc hc9 (p + 5) (by omega)) (Nat.lt_of_lt_of_le (by decide) hN) rfl rfl (by decide) rfl (Nat.le_of_ble_eq_true rfl) dX2_tellStatement_68 ?_
  refine g_val (y := nI (c (p + 5))) (by rw [sg_in (by omega)]) ?_
  refine g_bipush C dX2_tellStatement_71 bp_59 ?_
  refine g_icmp_ne (tgt := 86) C dX2_tellStatement_73 rfl (fun c73_1 => ?_) (fun c73_1 => ?_)
  · skip
    have n73_1 : ¬ (c (p + 5) = 59) := fun qq => c73_1 ((nj_eq (a := c (p + 5)) (b := 59) (by omega) (by omega)).mpr qq)
    have hch : two c (p + 4) = chn c p := (if_neg (by omega)).symm
    have d5 : dgt (c (p + 5)) := by omega
    have d9 : chn c p ≤ 99 := by rw [← hch]; exact two_le d4 d5
    refine g_aload_n C dX2_tellStatement_86 rfl rfl ?_
    refine g_iload_n C dX2_tellStatement_87 rfl rfl ?_
    refine g_iconst C dX2_tellStatement_88 ic_4 ?_
    refine g_iaddv (v := nI (p + 4)) C (nj_plus p 4) dX2_tellStatement_89 ?_
    refine g_pVI (rest := []) (v := 10 * (nI (sgn c nl (p + 4)) - 48) + (nI (sgn c nl (p + 4 + 1)) - 48)) C mv_X2_71 (ct_X2_twoDigits l w hN σ nl c hl1 hl9 hc hc9 (p + 4) (by omega)) (Nat.lt_of_lt_of_le (by decide) hN) rfl rfl (by decide) rfl (Nat.le_of_ble_eq_true rfl) dX2_tellStatement_90 ?_
    refine g_val (y := nI (chn c p)) (by rw [← hch, sg_in (by omega), sg_in (by omega)]; exact dg_two d4 d5) ?_
    refine g_istore (lv' := [(4, .int (nI (chn c p))), (0, .ref (wA w 32)), (1, .int (nI p)), (2, .ref (wA w 19)), (3, .ref (wA w 28))]) C dX2_tellStatement_93 (by decide) rfl ?_
    refine g_aload_n C dX2_tellStatement_95 rfl rfl ?_
    refine g_ldcs (i := 6) C (by decide) rfl dX2_tellStatement_96 ?_
    refine g_aload_n C dX2_tellStatement_98 rfl rfl ?_
    refine g_iload_n C dX2_tellStatement_99 rfl rfl ?_
    refine g_iconst C dX2_tellStatement_100 ic_1 ?_
    refine g_iaddv (v := nI (p + 1)) C (nj_plus p 1) dX2_tellStatement_101 ?_
    refine g_pVI (rest := [.ref (sK w 6), .ref (wA w 19)]) (v := nI (sgn c nl (p + 1))) C mv_X2_19 (ct_X2_sign l w hN σ nl c hl1 hl9 hc hc9 (p + 1) (by omega)) (Nat.lt_of_lt_of_le (by decide) hN) rfl rfl (by decide) rfl (Nat.le_of_ble_eq_true rfl) dX2_tellStatement_102 ?_
    refine g_val (y := nI (c (p + 1))) (by rw [sg_in (by omega)]) ?_
    refine g_pWI (i := 6) (rest := [.ref (wA w 19)]) (v := oJ (txF 6 (c (p + 1))) (-1)) C mw_X2_66 (by decide) (ct_J0_indexOf_0f7a4 l w hN σ 6 (by decide) (c (p + 1)) (hc9 _ (by omega)) (by decide)) rfl (by decide) rfl (Nat.le_of_ble_eq_true rfl) dX2_tellStatement_105 ?_
    refine g_val (y := nI (kiE c p)) (by rw [(kiE_5 k1).1]; rfl) ?_
    refine g_aload_n C dX2_tellStatement_108 rfl rfl ?_
    refine g_iload_n C dX2_tellStatement_109 rfl rfl ?_
    refine g_iconst C dX2_tellStatement_110 ic_2 ?_
    refine g_iaddv (v := nI (p + 2)) C (nj_plus p 2) dX2_tellStatement_111 ?_
    refine g_pVI (rest := [.int (nI (kiE c p)), .ref (wA w 19)]) (v := nI (sgn c nl (p + 2)) - 48) C mv_X2_23 (ct_X2_digit l w hN σ nl c hl1 hl9 hc hc9 (p + 2) (by omega)) (Nat.lt_of_lt_of_le (by decide) hN) rfl rfl (by decide) rfl (Nat.le_of_ble_eq_true rfl) dX2_tellStatement_112 ?_
    refine g_val (y := nI (c (p + 2) - 48)) (by rw [sg_in (by omega)]; exact dg_nat d2) ?_
    refine g_aload_n C dX2_tellStatement_115 rfl rfl ?_
    refine g_iload_n C dX2_tellStatement_116 rfl rfl ?_
    refine g_iconst C dX2_tellStatement_117 ic_3 ?_
    refine g_iaddv (v := nI (p + 3)) C (nj_plus p 3) dX2_tellStatement_118 ?_
    refine g_pVI (rest := [.int (nI (c (p + 2) - 48)), .int (nI (kiE c p)), .ref (wA w 19)]) (v := nI (sgn c nl (p + 3)) - 48) C mv_X2_23 (ct_X2_digit l w hN σ nl c hl1 hl9 hc hc9 (p + 3) (by omega)) (Nat.lt_of_lt_of_le (by decide) hN) rfl rfl (by decide) rfl (Nat.le_of_ble_eq_true rfl) dX2_tellStatement_119 ?_
    refine g_val (y := nI (c (p + 3) - 48)) (by rw [sg_in (by omega)]; exact dg_nat d3) ?_
    refine g_iload C dX2_tellStatement_122 rfl ?_
    refine g_callVI (rest := []) C mv_X2_74 (ct_X1_takeIn l w hN σ 19 (Or.inr (Or.inr rfl)) a hH hB (kiE c p) (c (p + 2) - 48) (c (p + 3) - 48) (chn c p) (by omega)) (Nat.lt_of_lt_of_le (by decide) hN) rfl rfl (by decide) rfl (Nat.le_of_ble_eq_true rfl) dX2_tellStatement_124 (fun r2 σ_2 h2 => ?_)
    obtain ⟨er2, hHy, h6y, hFy⟩ := h2
    rw [er2]
    refine g_iret C r bI_nr dX2_tellStatement_127 ?_
    have hi := kiE_5 k1
    have hef : effS c a p = if 1 ≤ chn c p ∧ chn c p ≤ 10 ∧ a 0 < 4 then some (addE a (kiE c p) (c (p + 2) - 48) (c (p + 3) - 48) (chn c p)) else none := by unfold effS; rw [if_pos e0]
    rw [hef]
    by_cases z : 1 ≤ chn c p ∧ chn c p ≤ 10 ∧ a 0 < 4
    · rw [if_pos z]
      exact ⟨(if_pos z).trans (if_pos rfl).symm, fun a' h => by cases h; exact ⟨hHy z, by rw [h6y]; exact h6⟩, (hFy.mono (fun k z => Or.inl z))⟩
    · rw [if_neg z]
      exact ⟨(if_neg z).trans (if_neg (by decide)).symm, fun a' h => by (cases h), (hFy.mono (fun k z => Or.inl z))⟩
  · skip
    have n73_1 : c (p + 5) = 59 := (nj_eq (a := c (p + 5)) (b := 59) (by omega) (by omega)).mp c73_1
    have hch : c (p + 4) - 48 = chn c p := (if_pos (by omega)).symm
    have d9 : chn c p ≤ 99 := by omega
    refine g_aload_n C dX2_tellStatement_76 rfl rfl ?_
    refine g_iload_n C dX2_tellStatement_77 rfl rfl ?_
    refine g_iconst C dX2_tellStatement_78 ic_4 ?_
    refine g_iaddv (v := nI (p + 4)) C (nj_plus p 4) dX2_tellStatement_79 ?_
    refine g_pVI (rest := []) (v := nI (sgn c nl (p + 4)) - 48) C mv_X2_23 (ct_X2_digit l w hN σ nl c hl1 hl9 hc hc9 (p + 4) (by omega)) (Nat.lt_of_lt_of_le (by decide) hN) rfl rfl (by decide) rfl (Nat.le_of_ble_eq_true rfl) dX2_tellStatement_80 ?_
    refine g_val (y := nI (chn c p)) (by rw [← hch, sg_in (by omega)]; exact dg_nat d4) ?_
    refine g_goto (tgt := 93) C dX2_tellStatement_83 rfl ?_
    refine g_istore (lv' := [(4, .int (nI (chn c p))), (0, .ref (wA w 32)), (1, .int (nI p)), (2, .ref (wA w 19)), (3, .ref (wA w 28))]) C dX2_tellStatement_93 (by decide) rfl ?_
    refine g_aload_n C dX2_tellStatement_95 rfl rfl ?_
    refine g_ldcs (i := 6) C (by decide) rfl dX2_tellStatement_96 ?_
    refine g_aload_n C dX2_tellStatement_98 rfl rfl ?_
    refine g_iload_n C dX2_tellStatement_99 rfl rfl ?_
    refine g_iconst C dX2_tellStatement_100 ic_1 ?_
    refine g_iaddv (v := nI (p + 1)) C (nj_plus p 1) dX2_tellStatement_101 ?_
    refine g_pVI (rest := [.ref (sK w 6), .ref (wA w 19)]) (v := nI (sgn c nl (p + 1))) C mv_X2_19 (ct_X2_sign l w hN σ nl c hl1 hl9 hc hc9 (p + 1) (by omega)) (Nat.lt_of_lt_of_le (by decide) hN) rfl rfl (by decide) rfl (Nat.le_of_ble_eq_true rfl) dX2_tellStatement_102 ?_
    refine g_val (y := nI (c (p + 1))) (by rw [sg_in (by omega)]) ?_
    refine g_pWI (i := 6) (rest := [.ref (wA w 19)]) (v := oJ (txF 6 (c (p + 1))) (-1)) C mw_X2_66 (by decide) (ct_J0_indexOf_0f7a4 l w hN σ 6 (by decide) (c (p + 1)) (hc9 _ (by omega)) (by decide)) rfl (by decide) rfl (Nat.le_of_ble_eq_true rfl) dX2_tellStatement_105 ?_
    refine g_val (y := nI (kiE c p)) (by rw [(kiE_5 k1).1]; rfl) ?_
    refine g_aload_n C dX2_tellStatement_108 rfl rfl ?_
    refine g_iload_n C dX2_tellStatement_109 rfl rfl ?_
    refine g_iconst C dX2_tellStatement_110 ic_2 ?_
    refine g_iaddv (v := nI (p + 2)) C (nj_plus p 2) dX2_tellStatement_111 ?_
    refine g_pVI (rest := [.int (nI (kiE c p)), .ref (wA w 19)]) (v := nI (sgn c nl (p + 2)) - 48) C mv_X2_23 (ct_X2_digit l w hN σ nl c hl1 hl9 hc hc9 (p + 2) (by omega)) (Nat.lt_of_lt_of_le (by decide) hN) rfl rfl (by decide) rfl (Nat.le_of_ble_eq_true rfl) dX2_tellStatement_112 ?_
    refine g_val (y := nI (c (p + 2) - 48)) (by rw [sg_in (by omega)]; exact dg_nat d2) ?_
    refine g_aload_n C dX2_tellStatement_115 rfl rfl ?_
    refine g_iload_n C dX2_tellStatement_116 rfl rfl ?_
    refine g_iconst C dX2_tellStatement_117 ic_3 ?_
    refine g_iaddv (v := nI (p + 3)) C (nj_plus p 3) dX2_tellStatement_118 ?_
    refine g_pVI (rest := [.int (nI (c (p + 2) - 48)), .int (nI (kiE c p)), .ref (wA w 19)]) (v := nI (sgn c nl (p + 3)) - 48) C mv_X2_23 (ct_X2_digit l w hN σ nl c hl1 hl9 hc hc9 (p + 3) (by omega)) (Nat.lt_of_lt_of_le (by decide) hN) rfl rfl (by decide) rfl (Nat.le_of_ble_eq_true rfl) dX2_tellStatement_119 ?_
    refine g_val (y := nI (c (p + 3) - 48)) (by rw [sg_in (by omega)]; exact dg_nat d3) ?_
    refine g_iload C dX2_tellStatement_122 rfl ?_
    refine g_callVI (rest := []) C mv_X2_74 (ct_X1_takeIn l w hN σ 19 (Or.inr (Or.inr rfl)) a hH hB (kiE c p) (c (p + 2) - 48) (c (p + 3) - 48) (chn c p) (by omega)) (Nat.lt_of_lt_of_le (by decide) hN) rfl rfl (by decide) rfl (Nat.le_of_ble_eq_true rfl) dX2_tellStatement_124 (fun r3 σ_3 h3 => ?_)
    obtain ⟨er3, hHy, h6y, hFy⟩ := h3
    rw [er3]
    refine g_iret C r bI_nr dX2_tellStatement_127 ?_
    have hi := kiE_5 k1
    have hef : effS c a p = if 1 ≤ chn c p ∧ chn c p ≤ 10 ∧ a 0 < 4 then some (addE a (kiE c p) (c (p + 2) - 48) (c (p + 3) - 48) (chn c p)) else none := by unfold effS; rw [if_pos e0]
    rw [hef]
    by_cases z : 1 ≤ chn c p ∧ chn c p ≤ 10 ∧ a 0 < 4
    · rw [if_pos z]
      exact ⟨(if_pos z).trans (if_pos rfl).symm, fun a' h => by cases h; exact ⟨hHy z, by rw [h6y]; exact h6⟩, (hFy.mono (fun k z => Or.inl z))⟩
    · rw [if_neg z]
      exact ⟨(if_neg z).trans (if_neg (by decide)).symm, fun a' h => by (cases h), (hFy.mono (fun k z => Or.inl z))⟩
set_option maxRecDepth 100000 in
set_option maxHeartbeats 4000000 in
theorem ct_tell_s (l : Launch) (w : WD) (hN : 54 ≤ wN w) (σ : SG) (nl : Nat) (c : Nat → Nat) (hl1 : σ 32 1 = nI nl) (hl9 : nl ≤ 96) (hc : ∀ j, j < nl → σ 33 j = nI (c j)) (hc9 : ∀ j, j < nl → c j ≤ 255) (p p' : Nat) (a : Row) (hH : Hh σ 19 a) (hB : Bd a) (hD : D9 a) (h6 : σ 19 6 = nI 0) (hle : p' ≤ nl) (e0 : c p = 115) (d1 : dgt (c (p + 1))) (d2 : dgt (c (p + 2))) (d3 : dgt (c (p + 3))) (d4 : c (p + 4) = 59) (hx : p' = p + 5) : CtI l w yX2_tellStatement cX2_tellStatement 6 (some .boolean) 8 0 0 [.ref (wA w 32), .int (nI p), .ref (wA w 19), .ref (wA w 28)] σ (fun r τ => r = bI ((effS c a p).isSome = true) ∧ (∀ a', effS c a p = some a' → Hh τ 19 a' ∧ τ 19 6 = nI 0) ∧ Fr (inD 19) σ τ) := by
  refine CtI.mk (by decide) (Nat.le_of_ble_eq_true rfl) ?_
  intro K C hr h0
  have r := RI.of hr h0
  clear hr h0
  show G l w K 0 [(0, .ref (wA w 32)), (1, .int (nI p)), (2, .ref (wA w 19)), (3, .ref (wA w 28))] [] σ
  obtain ⟨hBa, hB0, hB1, hB2, hB3, hB4, hB5, hB6, hB7, hBs, hBp, hBe⟩ := id hB
  refine g_aload_n C dX2_tellStatement_0 rfl rfl ?_
  refine g_iload_n C dX2_tellStatement_1 rfl rfl ?_
  refine g_pVI (rest := []) (v := nI (sgn c nl p)) C mv_X2_19 (ct_X2_sign l w hN σ nl c hl1 hl9 hc hc9 p (by omega)) (Nat.lt_of_lt_of_le (by decide) hN) rfl rfl (by decide) rfl (Nat.le_of_ble_eq_true rfl) dX2_tellStatement_2 ?_
  refine g_val (y := 115) (by rw [sg_in (by omega), e0]; rfl) ?_
  refine g_lsw (x := 115) (off := 123) (tgt := 128) C dX2_tellStatement_5 (by decide) (by decide) rfl ?_
  refine g_aload_n C dX2_tellStatement_128 rfl rfl ?_
  refine g_aload_n C dX2_tellStatement_129 rfl rfl ?_
  refine g_iload_n C dX2_tellStatement_130 rfl rfl ?_
  refine g_iconst C dX2_tellStatement_131 ic_1 ?_
  refine g_iaddv (v := nI (p + 1)) C (nj_plus p 1) dX2_tellStatement_132 ?_
  refine g_pVI (rest := [.ref (wA w 19)]) (v := nI (sgn c nl (p + 1)) - 48) C mv_X2_23 (ct_X2_digit l w hN σ nl c hl1 hl9 hc hc9 (p + 1) (by omega)) (Nat.lt_of_lt_of_le (by decide) hN) rfl rfl (by decide) rfl (Nat.le_of_ble_eq_true rfl) dX2_tellStatement_133 ?_
  refine g_val (y := nI (c (p + 1) - 48)) (by rw [sg_in (by omega)]; exact dg_nat d1) ?_
  refine g_aload_n C dX2_tellStatement_136 rfl rfl ?_
  refine g_iload_n C dX2_tellStatement_137 rfl rfl ?_
  refine g_iconst C dX2_tellStatement_138 ic_2 ?_
  refine g_iaddv (v := nI (p + 2)) C (nj_plus p 2) dX2_tellStatement_139 ?_
  refine g_pVI (rest := [.int (nI (c (p + 1) - 48)), .ref (wA w 19)]) (v := 10 * (nI (sgn c nl (p + 2)) - 48) + (nI (sgn c nl (p + 2 + 1)) - 48)) C mv_X2_71 (ct_X2_twoDigits l w hN σ nl c hl1 hl9 hc hc9 (p + 2) (by omega)) (Nat.lt_of_lt_of_le (by decide) hN) rfl rfl (by decide) rfl (Nat.le_of_ble_eq_true rfl) dX2_tellStatement_140 ?_
  refine g_val (y := nI (two c (p + 2))) (by rw [sg_in (by omega), sg_in (by omega)]; exact dg_two d2 d3) ?_
  refine g_callVI (rest := []) C mv_X2_80 (ct_X1_putSlices l w hN σ 19 (Or.inr (Or.inr rfl)) a hH hB (c (p + 1) - 48) (two c (p + 2)) (by omega) (by have := two_le d2 d3; omega)) (Nat.lt_of_lt_of_le (by decide) hN) rfl rfl (by decide) rfl (Nat.le_of_ble_eq_true rfl) dX2_tellStatement_143 (fun r1 σ_1 h1 => ?_)
  obtain ⟨er1, hHy, h6y, hFy⟩ := h1
  rw [er1]
  refine g_iret C r bI_nr dX2_tellStatement_146 ?_
  have hef : effS c a p = if c (p + 1) - 48 < 5 ∧ two c (p + 2) ≤ 60 then some (ua a (10 + (c (p + 1) - 48)) (two c (p + 2))) else none := by unfold effS; rw [if_neg (by omega), if_pos e0]
  rw [hef]
  by_cases z : c (p + 1) - 48 < 5 ∧ two c (p + 2) ≤ 60
  · rw [if_pos z]
    exact ⟨(if_pos z).trans (if_pos rfl).symm, fun a' h => by cases h; exact ⟨hHy z, by rw [h6y]; exact h6⟩, (hFy.mono (fun k z => Or.inl z))⟩
  · rw [if_neg z]
    exact ⟨(if_neg z).trans (if_neg (by decide)).symm, fun a' h => by (cases h), (hFy.mono (fun k z => Or.inl z))⟩
theorem opR_s (c : Nat → Nat) (p k : Nat) (a : Row) (j : Nat) : opR c p (k + 1) a j = ua (opR c p k a) (20 + k) (if c (p + 1 + k) = 111 then 1 else 0) j := by
  simp only [opR, ua_at]
  by_cases z : j = 20 + k
  · rw [if_pos z, if_pos (by omega), show p + 1 + (j - 20) = p + 1 + k by omega]
  · rw [if_neg z]
    by_cases y : 20 ≤ j ∧ j < 20 + k
    · rw [if_pos y, if_pos (by omega)]
    · rw [if_neg y, if_neg (by omega)]
theorem opR_0 (c : Nat → Nat) (p : Nat) (a : Row) (j : Nat) : opR c p 0 a j = a j := by unfold opR; rw [if_neg (by omega)]
set_option maxRecDepth 100000 in
set_option maxHeartbeats 4000000 in
theorem ct_tell_w (l : Launch) (w : WD) (hN : 54 ≤ wN w) (σ : SG) (nl : Nat) (c : Nat → Nat) (hl1 : σ 32 1 = nI nl) (hl9 : nl ≤ 96) (hc : ∀ j, j < nl → σ 33 j = nI (c j)) (hc9 : ∀ j, j < nl → c j ≤ 255) (p p' : Nat) (a : Row) (hH : Hh σ 19 a) (hB : Bd a) (hD : D9 a) (h6 : σ 19 6 = nI 0) (hle : p' ≤ nl) (e0 : c p = 119) (d1 : ∀ k, k < 7 → c (p + 1 + k) = 111 ∨ c (p + 1 + k) = 120) (d2 : c (p + 8) = 59) (hx : p' = p + 9) : CtI l w yX2_tellStatement cX2_tellStatement 6 (some .boolean) 8 0 0 [.ref (wA w 32), .int (nI p), .ref (wA w 19), .ref (wA w 28)] σ (fun r τ => r = bI ((effS c a p).isSome = true) ∧ (∀ a', effS c a p = some a' → Hh τ 19 a' ∧ τ 19 6 = nI 0) ∧ Fr (inD 19) σ τ) := by
  refine CtI.mk (by decide) (Nat.le_of_ble_eq_true rfl) ?_
  intro K C hr h0
  have r := RI.of hr h0
  clear hr h0
  show G l w K 0 [(0, .ref (wA w 32)), (1, .int (nI p)), (2, .ref (wA w 19)), (3, .ref (wA w 28))] [] σ
  obtain ⟨hBa, hB0, hB1, hB2, hB3, hB4, hB5, hB6, hB7, hBs, hBp, hBe⟩ := id hB
  refine g_aload_n C dX2_tellStatement_0 rfl rfl ?_
  refine g_iload_n C dX2_tellStatement_1 rfl rfl ?_
  refine g_pVI (rest := []) (v := nI (sgn c nl p)) C mv_X2_19 (ct_X2_sign l w hN σ nl c hl1 hl9 hc hc9 p (by omega)) (Nat.lt_of_lt_of_le (by decide) hN) rfl rfl (by decide) rfl (Nat.le_of_ble_eq_true rfl) dX2_tellStatement_2 ?_
  refine g_val (y := 119) (by rw [sg_in (by omega), e0]; rfl) ?_
  refine g_lsw (x := 119) (off := 142) (tgt := 147) C dX2_tellStatement_5 (by decide) (by decide) rfl ?_
  refine g_iconst C dX2_tellStatement_147 ic_0 ?_
  refine g_istore (lv' := [(5, .int 0), (0, .ref (wA w 32)), (1, .int (nI p)), (2, .ref (wA w 19)), (3, .ref (wA w 28))]) C dX2_tellStatement_148 (by decide) rfl ?_
  have L150 : ∀ (m150 : Nat) (i : Nat) (σ1 : SG), m150 = 7 - i → (i ≤ 7) → (Hh σ1 19 (opR c p i a)) → (Fr (fun k => k = 21) σ σ1) → G l w K 150 [(0, .ref (wA w 32)), (1, .int (nI p)), (2, .ref (wA w 19)), (5, .int (nI i))] [] σ1 := by
    intro m150
    induction m150 using Nat.strongRecOn with
    | ind m150 ih150 =>
    intro i σ1 em150 hi hH1 hF1
    refine g_iload C dX2_tellStatement_150 rfl ?_
    refine g_bipush C dX2_tellStatement_152 bp_7 ?_
    refine g_icmp_ge (tgt := 190) C dX2_tellStatement_154 rfl (fun c154_1 => ?_) (fun c154_1 => ?_)
    · skip
      have n154_1 : 7 ≤ i := (nj_le (a := 7) (b := i) (by omega) (by omega)).mp c154_1
      obtain rfl : i = 7 := by omega
      refine g_iconst C dX2_tellStatement_190 ic_1 ?_
      refine g_iret C r rfl dX2_tellStatement_191 ?_
      have hef : effS c a p = some (opR c p 7 a) := by unfold effS; rw [if_neg (by omega), if_neg (by omega), if_pos e0]
      rw [hef]
      exact ⟨(if_pos rfl).symm, fun a' h => by cases h; exact ⟨hH1, by rw [hF1 19 (by decide)]; exact h6⟩, hF1.mono (fun k z => Or.inl (by subst z; exact ⟨by decide, by decide⟩))⟩
    · skip
      have n154_1 : ¬ (7 ≤ i) := fun qq => c154_1 ((nj_le (a := 7) (b := i) (by omega) (by omega)).mpr qq)
      refine g_aload_n C dX2_tellStatement_157 rfl rfl ?_
      refine g_get (v := .ref (wA w 21)) C fl_X2_84 fs_X2_84 (Nat.lt_of_lt_of_le (by decide) hN) rfl rfl dX2_tellStatement_158 ?_
      refine g_iload C dX2_tellStatement_161 rfl ?_
      refine g_aload_n C dX2_tellStatement_163 rfl rfl ?_
      refine g_iload_n C dX2_tellStatement_164 rfl rfl ?_
      refine g_iconst C dX2_tellStatement_165 ic_1 ?_
      refine g_iaddv (v := nI (p + 1)) C (nj_plus p 1) dX2_tellStatement_166 ?_
      refine g_iload C dX2_tellStatement_167 rfl ?_
      refine g_iaddv (v := nI ((p + 1) + i)) C (nj_plus (p + 1) i) dX2_tellStatement_169 ?_
      have hdi := d1 i (by omega)
      refine g_pVI (rest := [.int (nI i), .ref (wA w 21)]) (v := nI (sgn c nl ((p + 1) + i))) C mv_X2_19 (ct_X2_sign l w hN σ1 nl c (by rw [hF1 32 (by decide)]; exact hl1) hl9 (by rw [hF1 33 (by decide)]; exact hc) hc9 ((p + 1) + i) (by omega)) (Nat.lt_of_lt_of_le (by decide) hN) rfl rfl (by decide) rfl (Nat.le_of_ble_eq_true rfl) dX2_tellStatement_170 ?_
      refine g_val (y := nI (c (p + 1 + i))) (by rw [sg_in (by omega)]) ?_
      refine g_bipush C dX2_tellStatement_173 bp_111 ?_
      refine g_icmp_ne (tgt := 182) C dX2_tellStatement_175 rfl (fun c175_2 => ?_) (fun c175_2 => ?_)
      · skip
        have n175_2 : ¬ (c (p + 1 + i) = 111) := fun qq => c175_2 ((nj_eq (a := c (p + 1 + i)) (b := 111) (by omega) (by omega)).mpr qq)
        refine g_iconst C dX2_tellStatement_182 ic_0 ?_
        refine g_ias (k0 := 21) (n := 7) C (Nat.lt_of_lt_of_le (by decide) hN) rfl (j := i) (ix_n (by omega)) dX2_tellStatement_183 (fun σz hσz => ?_)
        refine g_iinc (v := nI (i + 1)) (lv' := [(5, .int (nI (i + 1))), (0, .ref (wA w 32)), (1, .int (nI p)), (2, .ref (wA w 19))]) C dX2_tellStatement_184 (by decide) rfl (nj_inc i) rfl ?_
        refine g_goto (tgt := 150) C dX2_tellStatement_187 rfl ?_
        exact g_lvp [1, 2, 3, 0] rfl (ih150 (7 - (i + 1)) (by omega) (i + 1) σz rfl (by first | omega | assumption | rfl | grind) (by rw [hσz]; first | exact (hH1.upp (v := 1) (by omega)).ext (fun j _ => by rw [opR_s, if_pos (by omega)]) | exact (hH1.upp (v := 0) (by omega)).ext (fun j _ => by rw [opR_s, if_neg (by omega)])) (hF1.tr (show Fr (fun k => k = 21) σ1 σz by rw [hσz]; exact Fr.up (S := fun k => k = 21) rfl) (fun _ z => z)))
      · skip
        have n175_2 : c (p + 1 + i) = 111 := (nj_eq (a := c (p + 1 + i)) (b := 111) (by omega) (by omega)).mp c175_2
        refine g_iconst C dX2_tellStatement_178 ic_1 ?_
        refine g_goto (tgt := 183) C dX2_tellStatement_179 rfl ?_
        refine g_ias (k0 := 21) (n := 7) C (Nat.lt_of_lt_of_le (by decide) hN) rfl (j := i) (ix_n (by omega)) dX2_tellStatement_183 (fun σz hσz => ?_)
        refine g_iinc (v := nI (i + 1)) (lv' := [(5, .int (nI (i + 1))), (0, .ref (wA w 32)), (1, .int (nI p)), (2, .ref (wA w 19))]) C dX2_tellStatement_184 (by decide) rfl (nj_inc i) rfl ?_
        refine g_goto (tgt := 150) C dX2_tellStatement_187 rfl ?_
        exact g_lvp [1, 2, 3, 0] rfl (ih150 (7 - (i + 1)) (by omega) (i + 1) σz rfl (by first | omega | assumption | rfl | grind) (by rw [hσz]; first | exact (hH1.upp (v := 1) (by omega)).ext (fun j _ => by rw [opR_s, if_pos (by omega)]) | exact (hH1.upp (v := 0) (by omega)).ext (fun j _ => by rw [opR_s, if_neg (by omega)])) (hF1.tr (show Fr (fun k => k = 21) σ1 σz by rw [hσz]; exact Fr.up (S := fun k => k = 21) rfl) (fun _ z => z)))
  exact g_lvp [1, 2, 3, 0] rfl (L150 (7 - 0) 0 σ rfl (by first | omega | assumption | rfl | grind) (hH.ext (fun j _ => opR_0 c p a j)) (Fr.rf))
set_option maxRecDepth 100000 in
set_option maxHeartbeats 4000000 in
theorem ct_tell_h (l : Launch) (w : WD) (hN : 54 ≤ wN w) (σ : SG) (nl : Nat) (c : Nat → Nat) (hl1 : σ 32 1 = nI nl) (hl9 : nl ≤ 96) (hc : ∀ j, j < nl → σ 33 j = nI (c j)) (hc9 : ∀ j, j < nl → c j ≤ 255) (p p' : Nat) (a : Row) (hH : Hh σ 19 a) (hB : Bd a) (hD : D9 a) (h6 : σ 19 6 = nI 0) (hle : p' ≤ nl) (e0 : c p = 104) (k1 : (txF 7 (c (p + 1))).isSome = true) (d2 : c (p + 2) = 59) (hx : p' = p + 3) : CtI l w yX2_tellStatement cX2_tellStatement 6 (some .boolean) 8 0 0 [.ref (wA w 32), .int (nI p), .ref (wA w 19), .ref (wA w 28)] σ (fun r τ => r = bI ((effS c a p).isSome = true) ∧ (∀ a', effS c a p = some a' → Hh τ 19 a' ∧ τ 19 6 = nI 0) ∧ Fr (inD 19) σ τ) := by
  refine CtI.mk (by decide) (Nat.le_of_ble_eq_true rfl) ?_
  intro K C hr h0
  have r := RI.of hr h0
  clear hr h0
  show G l w K 0 [(0, .ref (wA w 32)), (1, .int (nI p)), (2, .ref (wA w 19)), (3, .ref (wA w 28))] [] σ
  obtain ⟨hBa, hB0, hB1, hB2, hB3, hB4, hB5, hB6, hB7, hBs, hBp, hBe⟩ := id hB
  refine g_aload_n C dX2_tellStatement_0 rfl rfl ?_
  refine g_iload_n C dX2_tellStatement_1 rfl rfl ?_
  refine g_pVI (rest := []) (v := nI (sgn c nl p)) C mv_X2_19 (ct_X2_sign l w hN σ nl c hl1 hl9 hc hc9 p (by omega)) (Nat.lt_of_lt_of_le (by decide) hN) rfl rfl (by decide) rfl (Nat.le_of_ble_eq_true rfl) dX2_tellStatement_2 ?_
  refine g_val (y := 104) (by rw [sg_in (by omega), e0]; rfl) ?_
  refine g_lsw (x := 104) (off := 223) (tgt := 228) C dX2_tellStatement_5 (by decide) (by decide) rfl ?_
  refine g_aload_n C dX2_tellStatement_228 rfl rfl ?_
  refine g_iconst C dX2_tellStatement_229 ic_5 ?_
  refine g_ldcs (i := 7) C (by decide) rfl dX2_tellStatement_230 ?_
  refine g_aload_n C dX2_tellStatement_232 rfl rfl ?_
  refine g_iload_n C dX2_tellStatement_233 rfl rfl ?_
  refine g_iconst C dX2_tellStatement_234 ic_1 ?_
  refine g_iaddv (v := nI (p + 1)) C (nj_plus p 1) dX2_tellStatement_235 ?_
  refine g_pVI (rest := [.ref (sK w 7), .int 5, .ref (wA w 19)]) (v := nI (sgn c nl (p + 1))) C mv_X2_19 (ct_X2_sign l w hN σ nl c hl1 hl9 hc hc9 (p + 1) (by omega)) (Nat.lt_of_lt_of_le (by decide) hN) rfl rfl (by decide) rfl (Nat.le_of_ble_eq_true rfl) dX2_tellStatement_236 ?_
  refine g_val (y := nI (c (p + 1))) (by rw [sg_in (by omega)]) ?_
  refine g_pWI (i := 7) (rest := [.int 5, .ref (wA w 19)]) (v := oJ (txF 7 (c (p + 1))) (-1)) C mw_X2_66 (by decide) (ct_J0_indexOf_0f7a4 l w hN σ 7 (by decide) (c (p + 1)) (hc9 _ (by omega)) (by decide)) rfl (by decide) rfl (Nat.le_of_ble_eq_true rfl) dX2_tellStatement_239 ?_
  refine g_val (y := nI (kiH c p)) (by rw [(kiH_5 k1).1]; rfl) ?_
  refine g_callVI (rest := []) C mv_X2_88 (ct_X1_change l w hN σ 19 (Or.inr (Or.inr rfl)) a hH hB 5 (kiH c p) 5 (by decide) rfl (by decide) (by have := (kiH_5 k1).2; omega)) (Nat.lt_of_lt_of_le (by decide) hN) rfl rfl (by decide) rfl (Nat.le_of_ble_eq_true rfl) dX2_tellStatement_242 (fun r1 σ_1 h1 => ?_)
  obtain ⟨er1, hHy, h6y, hFy⟩ := h1
  rw [er1]
  refine g_iret C r bI_nr dX2_tellStatement_245 ?_
  have z := (kiH_5 k1).2
  have hef : effS c a p = some (ua a 7 (kiH c p)) := by unfold effS; rw [if_neg (by omega), if_neg (by omega), if_neg (by omega), if_neg (by omega), if_pos e0]
  rw [hef]
  exact ⟨(if_pos z).trans (if_pos rfl).symm, fun a' h => by cases h; exact ⟨hHy z, by rw [h6y]; exact h6⟩, (hFy.mono (fun k z => Or.inl z))⟩
set_option maxRecDepth 100000 in
set_option maxHeartbeats 4000000 in
theorem ct_tell_d (l : Launch) (w : WD) (hN : 54 ≤ wN w) (σ : SG) (nl : Nat) (c : Nat → Nat) (hl1 : σ 32 1 = nI nl) (hl9 : nl ≤ 96) (hc : ∀ j, j < nl → σ 33 j = nI (c j)) (hc9 : ∀ j, j < nl → c j ≤ 255) (p p' : Nat) (a : Row) (hH : Hh σ 19 a) (hB : Bd a) (hD : D9 a) (h6 : σ 19 6 = nI 0) (hle : p' ≤ nl) (e0 : c p = 100) (d1 : c (p + 1) = 59) (hx : p' = p + 2) : CtI l w yX2_tellStatement cX2_tellStatement 6 (some .boolean) 8 0 0 [.ref (wA w 32), .int (nI p), .ref (wA w 19), .ref (wA w 28)] σ (fun r τ => r = bI ((effS c a p).isSome = true) ∧ (∀ a', effS c a p = some a' → Hh τ 19 a' ∧ τ 19 6 = nI 0) ∧ Fr (inD 19) σ τ) := by
  refine CtI.mk (by decide) (Nat.le_of_ble_eq_true rfl) ?_
  intro K C hr h0
  have r := RI.of hr h0
  clear hr h0
  show G l w K 0 [(0, .ref (wA w 32)), (1, .int (nI p)), (2, .ref (wA w 19)), (3, .ref (wA w 28))] [] σ
  obtain ⟨hBa, hB0, hB1, hB2, hB3, hB4, hB5, hB6, hB7, hBs, hBp, hBe⟩ := id hB
  refine g_aload_n C dX2_tellStatement_0 rfl rfl ?_
  refine g_iload_n C dX2_tellStatement_1 rfl rfl ?_
  refine g_pVI (rest := []) (v := nI (sgn c nl p)) C mv_X2_19 (ct_X2_sign l w hN σ nl c hl1 hl9 hc hc9 p (by omega)) (Nat.lt_of_lt_of_le (by decide) hN) rfl rfl (by decide) rfl (Nat.le_of_ble_eq_true rfl) dX2_tellStatement_2 ?_
  refine g_val (y := 100) (by rw [sg_in (by omega), e0]; rfl) ?_
  refine g_lsw (x := 100) (off := 292) (tgt := 297) C dX2_tellStatement_5 (by decide) (by decide) rfl ?_
  refine g_aload_n C dX2_tellStatement_297 rfl rfl ?_
  refine g_get (v := .int (σ 19 5)) C fl_X2_91 fs_X2_91 (Nat.lt_of_lt_of_le (by decide) hN) rfl rfl dX2_tellStatement_298 ?_
  refine g_val (y := nI (a 1)) (Hh.d hH) ?_
  refine g_sipush C dX2_tellStatement_301 sp_9999 ?_
  refine g_icmp_lt (tgt := 309) C dX2_tellStatement_304 rfl (fun c304_1 => ?_) (fun c304_1 => ?_)
  · skip
    have n304_1 : a 1 < 9999 := (nj_lt (a := a 1) (b := 9999) (by have := hBa 1; omega) (by have := hBa 1; omega)).mp c304_1
    have hlt : a 1 < 9999 := by omega
    refine g_aload_n C dX2_tellStatement_309 rfl rfl ?_
    refine g_aload_n C dX2_tellStatement_310 rfl rfl ?_
    refine g_callVV (rest := []) C mv_X2_94 (ct_X1_passDayW l w hN σ 19 (Or.inr (Or.inr rfl)) a hH hB 0 h6 (Nat.zero_le _) (by omega)) (Nat.lt_of_lt_of_le (by decide) hN) rfl rfl (by decide) rfl (Nat.le_of_ble_eq_true rfl) dX2_tellStatement_311 (fun σ_2 h2 => ?_)
    obtain ⟨hHp, h6p, hFp⟩ := h2
    refine g_iconst C dX2_tellStatement_314 ic_1 ?_
    refine g_iret C r rfl dX2_tellStatement_315 ?_
    have hef : effS c a p = some (dyR (hun a) a 0) := by unfold effS; rw [if_neg (by omega), if_neg (by omega), if_neg (by omega), if_neg (by omega), if_neg (by omega), if_neg (by omega), if_pos hlt]
    rw [hef]
    exact ⟨(if_pos rfl).symm, fun a' h => by cases h; exact ⟨hHp, by rw [h6p, shF_0]⟩, hFp⟩
  · skip
    have n304_1 : ¬ (a 1 < 9999) := fun qq => c304_1 ((nj_lt (a := a 1) (b := 9999) (by have := hBa 1; omega) (by have := hBa 1; omega)).mpr qq)
    have hlt : ¬ a 1 < 9999 := by omega
    refine g_iconst C dX2_tellStatement_307 ic_0 ?_
    refine g_iret C r rfl dX2_tellStatement_308 ?_
    have hef : effS c a p = none := by unfold effS; rw [if_neg (by omega), if_neg (by omega), if_neg (by omega), if_neg (by omega), if_neg (by omega), if_neg (by omega), if_neg hlt]
    rw [hef]
    exact ⟨(if_neg (by decide)).symm, fun a' h => by (cases h), Fr.rf⟩
set_option maxRecDepth 100000 in
set_option maxHeartbeats 4000000 in
theorem ct_tell_b (l : Launch) (w : WD) (hN : 54 ≤ wN w) (σ : SG) (nl : Nat) (c : Nat → Nat) (hl1 : σ 32 1 = nI nl) (hl9 : nl ≤ 96) (hc : ∀ j, j < nl → σ 33 j = nI (c j)) (hc9 : ∀ j, j < nl → c j ≤ 255) (p p' : Nat) (a : Row) (hH : Hh σ 19 a) (hB : Bd a) (hD : D9 a) (h6 : σ 19 6 = nI 0) (hle : p' ≤ nl) (e0 : c p = 98) (d1 : dgt (c (p + 1))) (d2 : dgt (c (p + 2))) (d3 : dgt (c (p + 3))) (d4 : c (p + 4) = 59) (hx : p' = p + 5) : CtI l w yX2_tellStatement cX2_tellStatement 6 (some .boolean) 8 0 0 [.ref (wA w 32), .int (nI p), .ref (wA w 19), .ref (wA w 28)] σ (fun r τ => r = bI ((effS c a p).isSome = true) ∧ (∀ a', effS c a p = some a' → Hh τ 19 a' ∧ τ 19 6 = nI 0) ∧ Fr (inD 19) σ τ) := by
  refine CtI.mk (by decide) (Nat.le_of_ble_eq_true rfl) ?_
  intro K C hr h0
  have r := RI.of hr h0
  clear hr h0
  show G l w K 0 [(0, .ref (wA w 32)), (1, .int (nI p)), (2, .ref (wA w 19)), (3, .ref (wA w 28))] [] σ
  obtain ⟨hBa, hB0, hB1, hB2, hB3, hB4, hB5, hB6, hB7, hBs, hBp, hBe⟩ := id hB
  refine g_aload_n C dX2_tellStatement_0 rfl rfl ?_
  refine g_iload_n C dX2_tellStatement_1 rfl rfl ?_
  refine g_pVI (rest := []) (v := nI (sgn c nl p)) C mv_X2_19 (ct_X2_sign l w hN σ nl c hl1 hl9 hc hc9 p (by omega)) (Nat.lt_of_lt_of_le (by decide) hN) rfl rfl (by decide) rfl (Nat.le_of_ble_eq_true rfl) dX2_tellStatement_2 ?_
  refine g_val (y := 98) (by rw [sg_in (by omega), e0]; rfl) ?_
  refine g_lsw (x := 98) (off := 187) (tgt := 192) C dX2_tellStatement_5 (by decide) (by decide) rfl ?_
  refine g_aload_n C dX2_tellStatement_192 rfl rfl ?_
  refine g_iconst C dX2_tellStatement_193 ic_0 ?_
  refine g_aload_n C dX2_tellStatement_194 rfl rfl ?_
  refine g_iload_n C dX2_tellStatement_195 rfl rfl ?_
  refine g_iconst C dX2_tellStatement_196 ic_1 ?_
  refine g_iaddv (v := nI (p + 1)) C (nj_plus p 1) dX2_tellStatement_197 ?_
  refine g_pVI (rest := [.int 0, .ref (wA w 19)]) (v := 10 * (nI (sgn c nl (p + 1)) - 48) + (nI (sgn c nl (p + 1 + 1)) - 48)) C mv_X2_71 (ct_X2_twoDigits l w hN σ nl c hl1 hl9 hc hc9 (p + 1) (by omega)) (Nat.lt_of_lt_of_le (by decide) hN) rfl rfl (by decide) rfl (Nat.le_of_ble_eq_true rfl) dX2_tellStatement_198 ?_
  refine g_val (y := nI (two c (p + 1))) (by rw [sg_in (by omega), sg_in (by omega)]; exact dg_two d1 d2) ?_
  refine g_callVI (rest := []) C mv_X2_88 (ct_X1_change l w hN σ 19 (Or.inr (Or.inr rfl)) a hH hB 0 (two c (p + 1)) 30 (by decide) rfl (by decide) (by have := two_le d1 d2; omega)) (Nat.lt_of_lt_of_le (by decide) hN) rfl rfl (by decide) rfl (Nat.le_of_ble_eq_true rfl) dX2_tellStatement_201 (fun r1 σa h1 => ?_)
  obtain ⟨er1, hHy, h6y, hFy⟩ := h1
  rw [er1]
  have hHa0 := hHy
  have h6a := h6y
  have hFa := hFy
  clear hHy h6y hFy
  refine g_if_eq (tgt := 226) C dX2_tellStatement_204 rfl (fun c204_2 => ?_) (fun c204_2 => ?_)
  · skip
    have n204_2 : ¬ (two c (p + 1) ≤ 30) := bI_0 c204_2
    have hno : ¬ two c (p + 1) ≤ 30 := n204_2
    refine g_iconst C dX2_tellStatement_226 ic_0 ?_
    refine g_iret C r rfl dX2_tellStatement_227 ?_
    have hef : effS c a p = none := by unfold effS; rw [if_neg (by omega), if_neg (by omega), if_neg (by omega), if_pos e0, if_neg hno]
    rw [hef]
    exact ⟨(if_neg (by decide)).symm, fun a' h => by (cases h), hFa.mono (fun k z => Or.inl z)⟩
  · skip
    have n204_2 : (two c (p + 1) ≤ 30) := bI_1 c204_2
    have hye : two c (p + 1) ≤ 30 := n204_2
    have hHa := hHa0 hye
    have hBa2 : Bd (ua a (2 + 0) (two c (p + 1))) := hB.ut (s := 0) (by omega) ((nj_le (b := 30) (by omega) (by omega)).mpr hye) (by omega)
    refine g_aload_n C dX2_tellStatement_207 rfl rfl ?_
    refine g_iconst C dX2_tellStatement_208 ic_1 ?_
    refine g_aload_n C dX2_tellStatement_209 rfl rfl ?_
    refine g_iload_n C dX2_tellStatement_210 rfl rfl ?_
    refine g_iconst C dX2_tellStatement_211 ic_3 ?_
    refine g_iaddv (v := nI (p + 3)) C (nj_plus p 3) dX2_tellStatement_212 ?_
    refine g_pVI (rest := [.int 1, .ref (wA w 19)]) (v := nI (sgn c nl (p + 3)) - 48) C mv_X2_23 (ct_X2_digit l w hN σa nl c (by rw [hFa 32 (by unfold inH; omega)]; exact hl1) hl9 (by rw [hFa 33 (by unfold inH; omega)]; exact hc) hc9 (p + 3) (by omega)) (Nat.lt_of_lt_of_le (by decide) hN) rfl rfl (by decide) rfl (Nat.le_of_ble_eq_true rfl) dX2_tellStatement_213 ?_
    refine g_val (y := nI (c (p + 3) - 48)) (by rw [sg_in (by omega)]; exact dg_nat d3) ?_
    refine g_callVI (rest := []) C mv_X2_88 (ct_X1_change l w hN σa 19 (Or.inr (Or.inr rfl)) (ua a (2 + 0) (two c (p + 1))) hHa hBa2 1 (c (p + 3) - 48) 9 (by decide) rfl (by decide) (by omega)) (Nat.lt_of_lt_of_le (by decide) hN) rfl rfl (by decide) rfl (Nat.le_of_ble_eq_true rfl) dX2_tellStatement_216 (fun r3 σb h3 => ?_)
    obtain ⟨er3, hHy, h6y, hFy⟩ := h3
    rw [er3]
    have hHb0 := hHy
    have h6b := h6y
    have hFb := hFy
    refine g_if_eq (tgt := 226) C dX2_tellStatement_219 rfl (fun c219_4 => ?_) (fun c219_4 => ?_)
    · skip
      have n219_4 : ¬ (c (p + 3) - 48 ≤ 9) := bI_0 c219_4
      exfalso
      omega
    · skip
      have n219_4 : (c (p + 3) - 48 ≤ 9) := bI_1 c219_4
      refine g_iconst C dX2_tellStatement_222 ic_1 ?_
      refine g_goto (tgt := 227) C dX2_tellStatement_223 rfl ?_
      refine g_iret C r rfl dX2_tellStatement_227 ?_
      have hef : effS c a p = some (ua (ua a 2 (two c (p + 1))) 3 (c (p + 3) - 48)) := by unfold effS; rw [if_neg (by omega), if_neg (by omega), if_neg (by omega), if_pos e0, if_pos hye]
      rw [hef]
      exact ⟨(if_pos rfl).symm, fun a' h => by cases h; exact ⟨hHb0 (by omega), by rw [h6b, h6a]; exact h6⟩, (hFa.tr hFb (fun _ z => z)).mono (fun k z => Or.inl z)⟩
set_option maxRecDepth 100000 in
set_option maxHeartbeats 4000000 in
theorem ct_tell_c (l : Launch) (w : WD) (hN : 54 ≤ wN w) (σ : SG) (nl : Nat) (c : Nat → Nat) (hl1 : σ 32 1 = nI nl) (hl9 : nl ≤ 96) (hc : ∀ j, j < nl → σ 33 j = nI (c j)) (hc9 : ∀ j, j < nl → c j ≤ 255) (p p' : Nat) (a : Row) (hH : Hh σ 19 a) (hB : Bd a) (hD : D9 a) (h6 : σ 19 6 = nI 0) (hle : p' ≤ nl) (e0 : c p = 99) (d1 : dgt (c (p + 1))) (d2 : dgt (c (p + 2))) (d3 : dgt (c (p + 3))) (d4 : c (p + 4) = 59) (hx : p' = p + 5) : CtI l w yX2_tellStatement cX2_tellStatement 6 (some .boolean) 8 0 0 [.ref (wA w 32), .int (nI p), .ref (wA w 19), .ref (wA w 28)] σ (fun r τ => r = bI ((effS c a p).isSome = true) ∧ (∀ a', effS c a p = some a' → Hh τ 19 a' ∧ τ 19 6 = nI 0) ∧ Fr (inD 19) σ τ) := by
  refine CtI.mk (by decide) (Nat.le_of_ble_eq_true rfl) ?_
  intro K C hr h0
  have r := RI.of hr h0
  clear hr h0
  show G l w K 0 [(0, .ref (wA w 32)), (1, .int (nI p)), (2, .ref (wA w 19)), (3, .ref (wA w 28))] [] σ
  obtain ⟨hBa, hB0, hB1, hB2, hB3, hB4, hB5, hB6, hB7, hBs, hBp, hBe⟩ := id hB
  refine g_aload_n C dX2_tellStatement_0 rfl rfl ?_
  refine g_iload_n C dX2_tellStatement_1 rfl rfl ?_
  refine g_pVI (rest := []) (v := nI (sgn c nl p)) C mv_X2_19 (ct_X2_sign l w hN σ nl c hl1 hl9 hc hc9 p (by omega)) (Nat.lt_of_lt_of_le (by decide) hN) rfl rfl (by decide) rfl (Nat.le_of_ble_eq_true rfl) dX2_tellStatement_2 ?_
  refine g_val (y := 99) (by rw [sg_in (by omega), e0]; rfl) ?_
  refine g_lsw (x := 99) (off := 241) (tgt := 246) C dX2_tellStatement_5 (by decide) (by decide) rfl ?_
  refine g_aload_n C dX2_tellStatement_246 rfl rfl ?_
  refine g_iconst C dX2_tellStatement_247 ic_2 ?_
  refine g_aload_n C dX2_tellStatement_248 rfl rfl ?_
  refine g_iload_n C dX2_tellStatement_249 rfl rfl ?_
  refine g_iconst C dX2_tellStatement_250 ic_1 ?_
  refine g_iaddv (v := nI (p + 1)) C (nj_plus p 1) dX2_tellStatement_251 ?_
  refine g_pVI (rest := [.int 2, .ref (wA w 19)]) (v := nI (sgn c nl (p + 1)) - 48) C mv_X2_23 (ct_X2_digit l w hN σ nl c hl1 hl9 hc hc9 (p + 1) (by omega)) (Nat.lt_of_lt_of_le (by decide) hN) rfl rfl (by decide) rfl (Nat.le_of_ble_eq_true rfl) dX2_tellStatement_252 ?_
  refine g_val (y := nI (c (p + 1) - 48)) (by rw [sg_in (by omega)]; exact dg_nat d1) ?_
  refine g_callVI (rest := []) C mv_X2_88 (ct_X1_change l w hN σ 19 (Or.inr (Or.inr rfl)) a hH hB 2 (c (p + 1) - 48) 9 (by decide) rfl (by decide) (by omega)) (Nat.lt_of_lt_of_le (by decide) hN) rfl rfl (by decide) rfl (Nat.le_of_ble_eq_true rfl) dX2_tellStatement_255 (fun r1 σa h1 => ?_)
  obtain ⟨er1, hHy, h6y, hFy⟩ := h1
  rw [er1]
  have hHa := hHy (by omega)
  have h6a := h6y
  have hFa := hFy
  clear hHy h6y hFy
  have hBa2 : Bd (ua a (2 + 2) (c (p + 1) - 48)) := (hB.ut (s := 2) (by omega) ((nj_le (b := 9) (by omega) (by omega)).mpr (by omega)) (by omega))
  refine g_if_eq (tgt := 295) C dX2_tellStatement_258 rfl (fun c258_2 => ?_) (fun c258_2 => ?_)
  · skip
    have n258_2 : ¬ (c (p + 1) - 48 ≤ 9) := bI_0 c258_2
    exfalso
    omega
  · skip
    have n258_2 : (c (p + 1) - 48 ≤ 9) := bI_1 c258_2
    refine g_aload_n C dX2_tellStatement_261 rfl rfl ?_
    refine g_iconst C dX2_tellStatement_262 ic_3 ?_
    refine g_aload_n C dX2_tellStatement_263 rfl rfl ?_
    refine g_iload_n C dX2_tellStatement_264 rfl rfl ?_
    refine g_iconst C dX2_tellStatement_265 ic_2 ?_
    refine g_iaddv (v := nI (p + 2)) C (nj_plus p 2) dX2_tellStatement_266 ?_
    refine g_pVI (rest := [.int 3, .ref (wA w 19)]) (v := nI (sgn c nl (p + 2)) - 48) C mv_X2_23 (ct_X2_digit l w hN σa nl c (by rw [hFa 32 (by unfold inH; omega)]; exact hl1) hl9 (by rw [hFa 33 (by unfold inH; omega)]; exact hc) hc9 (p + 2) (by omega)) (Nat.lt_of_lt_of_le (by decide) hN) rfl rfl (by decide) rfl (Nat.le_of_ble_eq_true rfl) dX2_tellStatement_267 ?_
    refine g_val (y := nI (c (p + 2) - 48)) (by rw [sg_in (by omega)]; exact dg_nat d2) ?_
    refine g_callVI (rest := []) C mv_X2_88 (ct_X1_change l w hN σa 19 (Or.inr (Or.inr rfl)) (ua a (2 + 2) (c (p + 1) - 48)) hHa hBa2 3 (c (p + 2) - 48) 9 (by decide) rfl (by decide) (by omega)) (Nat.lt_of_lt_of_le (by decide) hN) rfl rfl (by decide) rfl (Nat.le_of_ble_eq_true rfl) dX2_tellStatement_270 (fun r3 σb h3 => ?_)
    obtain ⟨er3, hHy, h6y, hFy⟩ := h3
    rw [er3]
    have hHb := hHy (by omega)
    have h6b := h6y
    have hFb := hFa.tr hFy (fun _ z => z)
    clear hHy h6y hFy
    have hBb2 : Bd (ua (ua a (2 + 2) (c (p + 1) - 48)) (2 + 3) (c (p + 2) - 48)) := hBa2.ut (s := 3) (by omega) ((nj_le (b := 9) (by omega) (by omega)).mpr (by omega)) (by omega)
    refine g_if_eq (tgt := 295) C dX2_tellStatement_273 rfl (fun c273_4 => ?_) (fun c273_4 => ?_)
    · skip
      have n273_4 : ¬ (c (p + 2) - 48 ≤ 9) := bI_0 c273_4
      exfalso
      omega
    · skip
      have n273_4 : (c (p + 2) - 48 ≤ 9) := bI_1 c273_4
      refine g_aload_n C dX2_tellStatement_276 rfl rfl ?_
      refine g_iconst C dX2_tellStatement_277 ic_4 ?_
      refine g_aload_n C dX2_tellStatement_278 rfl rfl ?_
      refine g_iload_n C dX2_tellStatement_279 rfl rfl ?_
      refine g_iconst C dX2_tellStatement_280 ic_3 ?_
      refine g_iaddv (v := nI (p + 3)) C (nj_plus p 3) dX2_tellStatement_281 ?_
      refine g_pVI (rest := [.int 4, .ref (wA w 19)]) (v := nI (sgn c nl (p + 3)) - 48) C mv_X2_23 (ct_X2_digit l w hN σb nl c (by rw [hFb 32 (by unfold inH; omega)]; exact hl1) hl9 (by rw [hFb 33 (by unfold inH; omega)]; exact hc) hc9 (p + 3) (by omega)) (Nat.lt_of_lt_of_le (by decide) hN) rfl rfl (by decide) rfl (Nat.le_of_ble_eq_true rfl) dX2_tellStatement_282 ?_
      refine g_val (y := nI (c (p + 3) - 48)) (by rw [sg_in (by omega)]; exact dg_nat d3) ?_
      refine g_callVI (rest := []) C mv_X2_88 (ct_X1_change l w hN σb 19 (Or.inr (Or.inr rfl)) (ua (ua a (2 + 2) (c (p + 1) - 48)) (2 + 3) (c (p + 2) - 48)) hHb hBb2 4 (c (p + 3) - 48) 9 (by decide) rfl (by decide) (by omega)) (Nat.lt_of_lt_of_le (by decide) hN) rfl rfl (by decide) rfl (Nat.le_of_ble_eq_true rfl) dX2_tellStatement_285 (fun r5 σc h5 => ?_)
      obtain ⟨er5, hHy, h6y, hFy⟩ := h5
      rw [er5]
      have hHc := hHy (by omega)
      have h6c := h6y
      have hFc := hFb.tr hFy (fun _ z => z)
      refine g_if_eq (tgt := 295) C dX2_tellStatement_288 rfl (fun c288_6 => ?_) (fun c288_6 => ?_)
      · skip
        have n288_6 : ¬ (c (p + 3) - 48 ≤ 9) := bI_0 c288_6
        exfalso
        omega
      · skip
        have n288_6 : (c (p + 3) - 48 ≤ 9) := bI_1 c288_6
        refine g_iconst C dX2_tellStatement_291 ic_1 ?_
        refine g_goto (tgt := 296) C dX2_tellStatement_292 rfl ?_
        refine g_iret C r rfl dX2_tellStatement_296 ?_
        have hef : effS c a p = some (ua (ua (ua a 4 (c (p + 1) - 48)) 5 (c (p + 2) - 48)) 6 (c (p + 3) - 48)) := by unfold effS; rw [if_neg (by omega), if_neg (by omega), if_neg (by omega), if_neg (by omega), if_neg (by omega), if_pos e0]
        rw [hef]
        exact ⟨(if_pos rfl).symm, fun a' h => by cases h; exact ⟨hHc, by rw [h6c, h6b, h6a]; exact h6⟩, hFc.mono (fun k z => Or.inl z)⟩
theorem ct_X2_tellStatement (l : Launch) (w : WD) (hN : 54 ≤ wN w) (σ : SG) (nl : Nat) (c : Nat → Nat) (hl1 : σ 32 1 = nI nl) (hl9 : nl ≤ 96) (hc : ∀ j, j < nl → σ 33 j = nI (c j)) (hc9 : ∀ j, j < nl → c j ≤ 255) (p p' : Nat) (a : Row) (hH : Hh σ 19 a) (hB : Bd a) (hD : D9 a) (h6 : σ 19 6 = nI 0) (hle : p' ≤ nl) (hS : Stm c p p') : CtI l w yX2_tellStatement cX2_tellStatement 6 (some .boolean) 8 0 0 [.ref (wA w 32), .int (nI p), .ref (wA w 19), .ref (wA w 28)] σ (fun r τ => r = bI ((effS c a p).isSome = true) ∧ (∀ a', effS c a p = some a' → Hh τ 19 a' ∧ τ 19 6 = nI 0) ∧ Fr (inD 19) σ τ) := by
  rcases hS with ⟨e, k1, d1, d2, d3, h1⟩ | ⟨e, d1, d2, d3, d4, h1⟩ | ⟨e, d1, d2, h1⟩ | ⟨e, d1, d2, d3, d4, h1⟩ | ⟨e, k1, d2, h1⟩ | ⟨e, d1, d2, d3, d4, h1⟩ | ⟨e, d1, h1⟩
  · exact ct_tell_e l w hN σ nl c hl1 hl9 hc hc9 p p' a hH hB hD h6 hle e k1 d1 d2 d3 h1
  · exact ct_tell_s l w hN σ nl c hl1 hl9 hc hc9 p p' a hH hB hD h6 hle e d1 d2 d3 d4 h1
  · exact ct_tell_w l w hN σ nl c hl1 hl9 hc hc9 p p' a hH hB hD h6 hle e d1 d2 h1
  · exact ct_tell_b l w hN σ nl c hl1 hl9 hc hc9 p p' a hH hB hD h6 hle e d1 d2 d3 d4 h1
  · exact ct_tell_h l w hN σ nl c hl1 hl9 hc hc9 p p' a hH hB hD h6 hle e k1 d2 h1
  · exact ct_tell_c l w hN σ nl c hl1 hl9 hc hc9 p p' a hH hB hD h6 hle e d1 d2 d3 d4 h1
  · exact ct_tell_d l w hN σ nl c hl1 hl9 hc hc9 p p' a hH hB hD h6 hle e d1 h1

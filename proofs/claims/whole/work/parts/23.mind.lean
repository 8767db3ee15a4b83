set_option maxRecDepth 100000 in
set_option maxHeartbeats 4000000 in
theorem ct_X4_think (l : Launch) (w : WD) (hN : 54 ≤ wN w) (σ : SG) (a : Row) (hH : Hh σ 1 a) : CtV l w yX4_think cX4_think 1 3 0 0 [.ref (wA w 0)] σ (fun τ => Hh τ 19 a ∧ τ 19 6 = σ 1 6 ∧ Fr (inH 19) σ τ) := by
  refine CtV.mk (by decide) (Nat.le_of_ble_eq_true rfl) ?_
  intro K C hr h0
  have r := RV.of hr h0
  clear hr h0
  show G l w K 0 [(0, .ref (wA w 0))] [] σ
  refine g_aload_n C dX4_think_0 rfl rfl ?_
  refine g_get (v := .ref (wA w 19)) C fl_X4_19 fs_X4_19 (Nat.lt_of_lt_of_le (by decide) hN) rfl rfl dX4_think_1 ?_
  refine g_aload_n C dX4_think_4 rfl rfl ?_
  refine g_get (v := .ref (wA w 1)) C fl_X4_12 fs_X4_12 (Nat.lt_of_lt_of_le (by decide) hN) rfl rfl dX4_think_5 ?_
  refine g_callVV (rest := []) C mv_X4_215 (ct_X1_become l w hN σ 19 (Or.inr (Or.inr rfl)) 1 (Or.inl rfl) (by decide) a hH) (Nat.lt_of_lt_of_le (by decide) hN) rfl rfl (by decide) rfl (Nat.le_of_ble_eq_true rfl) dX4_think_8 (fun σ_1 h1 => ?_)
  have hz := h1
  refine g_vret C r dX4_think_11 ?_
  exact hz
set_option maxRecDepth 100000 in
set_option maxHeartbeats 4000000 in
theorem ct_X4_passInMind (l : Launch) (w : WD) (hN : 54 ≤ wN w) (σ : SG) (a : Row) (hH : Hh σ 19 a) (hB : Bd a) (fw : Nat) (hfw : σ 19 6 = nI fw) (hf2 : fw ≤ a 2) (hd1 : a 1 ≤ 28000) (m : Nat) (hm : m ≤ 28) : CtI l w yX4_passInMind cX4_passInMind 3 (some .int) 5 0 0 [.ref (wA w 0), .int (nI m)] σ (fun r τ => r = nV a fw m ∧ Hh τ 19 (nD a fw m).1 ∧ τ 19 6 = nI (nD a fw m).2.1 ∧ Tl τ (nV a fw m) (nD a fw m).2.2.2.1 (nD a fw m).2.2.2.2.1 (nD a fw m).2.2.2.2.2.1 (nD a fw m).2.2.2.2.2.2 ∧ Fr (inD 19) σ τ) := by
  refine CtI.mk (by decide) (Nat.le_of_ble_eq_true rfl) ?_
  intro K C hr h0
  have r := RI.of hr h0
  clear hr h0
  show G l w K 0 [(0, .ref (wA w 0)), (1, .int (nI m))] [] σ
  refine g_aload_n C dX4_passInMind_0 rfl rfl ?_
  refine g_get (v := .ref (wA w 28)) C fl_X4_25 fs_X4_25 (Nat.lt_of_lt_of_le (by decide) hN) rfl rfl dX4_passInMind_1 ?_
  refine g_callVV (rest := []) C mv_X4_114 (ct_X3_clear l w hN σ) (Nat.lt_of_lt_of_le (by decide) hN) rfl rfl (by decide) rfl (Nat.le_of_ble_eq_true rfl) dX4_passInMind_4 (fun σ_1 h1 => ?_)
  obtain ⟨hTc, hFc⟩ := h1
  refine g_iconst C dX4_passInMind_7 ic_0 ?_
  refine g_istore_n (lv' := [(2, .int 0), (0, .ref (wA w 0)), (1, .int (nI m))]) C dX4_passInMind_8 rfl (by decide) rfl ?_
  have L9 : ∀ (m9 : Nat) (k : Nat) (σ1 : SG), m9 = m - k → (k ≤ m) → (Hh σ1 19 (nD a fw k).1) → (σ1 19 6 = nI (nD a fw k).2.1) → (Tl σ1 (nD a fw k).2.2.1 (nD a fw k).2.2.2.1 (nD a fw k).2.2.2.2.1 (nD a fw k).2.2.2.2.2.1 (nD a fw k).2.2.2.2.2.2) → (Fr (inD 19) σ σ1) → G l w K 9 [(0, .ref (wA w 0)), (1, .int (nI m)), (2, .int (nI k))] [] σ1 := by
    intro m9
    induction m9 using Nat.strongRecOn with
    | ind m9 ih9 =>
    intro k σ1 em9 hk hH1 h61 hT1 hF1
    have hbd := nD_bd hB hd1 hf2 k (by omega)
    have hln := nD_len hB hd1 hf2 k (by omega)
    refine g_iload_n C dX4_passInMind_9 rfl rfl ?_
    refine g_iload_n C dX4_passInMind_10 rfl rfl ?_
    refine g_icmp_ge (tgt := 31) C dX4_passInMind_11 rfl (fun c11_2 => ?_) (fun c11_2 => ?_)
    · skip
      have n11_2 : m ≤ k := (nj_le (a := m) (b := k) (by omega) (by omega)).mp c11_2
      obtain rfl : k = m := by omega
      refine g_aload_n C dX4_passInMind_31 rfl rfl ?_
      refine g_get (v := .ref (wA w 28)) C fl_X4_25 fs_X4_25 (Nat.lt_of_lt_of_le (by decide) hN) rfl rfl dX4_passInMind_32 ?_
      refine g_get (v := .ref (wA w 29)) C fl_X4_121 fs_X4_121 (Nat.lt_of_lt_of_le (by decide) hN) rfl rfl dX4_passInMind_35 ?_
      refine g_iconst C dX4_passInMind_38 ic_0 ?_
      refine g_ial (k0 := 29) (n := 6) C (Nat.lt_of_lt_of_le (by decide) hN) rfl (j := 0) (by unfold ix; decide) dX4_passInMind_39 ?_
      refine g_val (y := nV a fw k) hT1.1 ?_
      refine g_iret C r rfl dX4_passInMind_40 ?_
      exact ⟨rfl, hH1, h61, hT1, hF1⟩
    · skip
      have n11_2 : ¬ (m ≤ k) := fun qq => c11_2 ((nj_le (a := m) (b := k) (by omega) (by omega)).mpr qq)
      refine g_aload_n C dX4_passInMind_14 rfl rfl ?_
      refine g_get (v := .ref (wA w 19)) C fl_X4_19 fs_X4_19 (Nat.lt_of_lt_of_le (by decide) hN) rfl rfl dX4_passInMind_15 ?_
      refine g_aload_n C dX4_passInMind_18 rfl rfl ?_
      refine g_get (v := .ref (wA w 28)) C fl_X4_25 fs_X4_25 (Nat.lt_of_lt_of_le (by decide) hN) rfl rfl dX4_passInMind_19 ?_
      refine g_callVV (rest := []) C mv_X4_117 (ct_X1_passDay l w hN σ1 19 (Or.inr (Or.inr rfl)) (nD a fw k).1 hH1 hbd.1 (nD a fw k).2.1 h61 (by omega) _ _ _ _ _ hT1 (by omega) (by omega)) (Nat.lt_of_lt_of_le (by decide) hN) rfl rfl (by decide) rfl (Nat.le_of_ble_eq_true rfl) dX4_passInMind_22 (fun σ_3 h3 => ?_)
      obtain ⟨hHp, h6p, hTp, hFp⟩ := h3
      refine g_iinc (v := nI (k + 1)) (lv' := [(2, .int (nI (k + 1))), (0, .ref (wA w 0)), (1, .int (nI m))]) C dX4_passInMind_25 (by decide) rfl (nj_inc k) rfl ?_
      refine g_goto (tgt := 9) C dX4_passInMind_28 rfl ?_
      exact g_lvp [1, 2, 0] rfl (ih9 (m - (k + 1)) (by omega) (k + 1) σ_3 rfl (by first | omega | assumption | rfl | grind) (hHp) (h6p) (hTp) (hF1.tr hFp (fun _ z => z)))
  exact g_lvp [1, 2, 0] rfl (L9 (m - 0) 0 σ_1 rfl (by first | omega | assumption | rfl | grind) (hH.fr (fun k z1 z2 => hFc k (fun z => by obtain ⟨z3, z4⟩ := z; omega))) (by rw [hFc 19 (fun z => by obtain ⟨z3, z4⟩ := z; omega)]; exact hfw) (hTc) (hFc.mono (fun _ z => Or.inr z)))
set_option maxRecDepth 100000 in
set_option maxHeartbeats 4000000 in
theorem ct_X4_bestOfSetting (l : Launch) (w : WD) (hN : 54 ≤ wN w) (σ : SG) (a : Row) (hR : HR σ a) (s m : Nat) (hs : s < 6) (hm : m ≤ 28) (M : Nat) (hM : mosF s = nI M) (hM9 : M ≤ 30) : CtI l w yX4_bestOfSetting cX4_bestOfSetting 4 (some .int) 6 0 0 [.ref (wA w 0), .int (nI s), .int (nI m)] σ (fun r τ => r = (chF (fun v => nV (ua a (2 + s) v) 0 m) (fun _ => true) (M + 1)).1 ∧ Ch τ (chF (fun v => nV (ua a (2 + s) v) 0 m) (fun _ => true) (M + 1)) ∧ Fr inM σ τ) := by
  refine CtI.mk (by decide) (Nat.le_of_ble_eq_true rfl) ?_
  intro K C hr h0
  have r := RI.of hr h0
  clear hr h0
  show G l w K 0 [(0, .ref (wA w 0)), (1, .int (nI s)), (2, .int (nI m))] [] σ
  obtain ⟨hH, hB, h6, hd9, hu9⟩ := id hR
  refine g_aload_n C dX4_bestOfSetting_0 rfl rfl ?_
  refine g_get (v := .ref (wA w 31)) C fl_X4_32 fs_X4_32 (Nat.lt_of_lt_of_le (by decide) hN) rfl rfl dX4_bestOfSetting_1 ?_
  refine g_callVV (rest := []) C mv_X4_138 (ct_X0_clear l w hN σ) (Nat.lt_of_lt_of_le (by decide) hN) rfl rfl (by decide) rfl (Nat.le_of_ble_eq_true rfl) dX4_bestOfSetting_4 (fun σ_1 h1 => ?_)
  have hcc := h1
  refine g_iconst C dX4_bestOfSetting_7 ic_0 ?_
  refine g_istore_n (lv' := [(3, .int 0), (0, .ref (wA w 0)), (1, .int (nI s)), (2, .int (nI m))]) C dX4_bestOfSetting_8 rfl (by decide) rfl ?_
  have L9 : ∀ (m9 : Nat) (v : Nat) (σ1 : SG), m9 = M + 1 - v → (v ≤ M + 1) → (Ch σ1 (chF (fun v => nV (ua a (2 + s) v) 0 m) (fun _ => true) v)) → (Fr inM σ σ1) → G l w K 9 [(0, .ref (wA w 0)), (1, .int (nI s)), (2, .int (nI m)), (3, .int (nI v))] [] σ1 := by
    intro m9
    induction m9 using Nat.strongRecOn with
    | ind m9 ih9 =>
    intro v σ1 em9 hv hC hF1
    have hR1 := hR.m hF1
    obtain ⟨hH1, -, h61, -⟩ := id hR1
    refine g_iload_n C dX4_bestOfSetting_9 rfl rfl ?_
    refine g_getM C gs_X4_100 dX4_bestOfSetting_10 ?_
    refine g_iload_n C dX4_bestOfSetting_13 rfl rfl ?_
    refine g_alM C (j := s) (ix_n (by omega)) dX4_bestOfSetting_14 ?_
    refine g_val (y := nI M) hM ?_
    refine g_icmp_gt (tgt := 51) C dX4_bestOfSetting_15 rfl (fun c15_2 => ?_) (fun c15_2 => ?_)
    · skip
      have n15_2 : M < v := (nj_lt (a := M) (b := v) (by omega) (by omega)).mp c15_2
      obtain rfl : v = M + 1 := by omega
      refine g_aload_n C dX4_bestOfSetting_51 rfl rfl ?_
      refine g_get (v := .ref (wA w 31)) C fl_X4_32 fs_X4_32 (Nat.lt_of_lt_of_le (by decide) hN) rfl rfl dX4_bestOfSetting_52 ?_
      refine g_get (v := .int (σ1 31 0)) C fl_X4_147 fs_X4_147 (Nat.lt_of_lt_of_le (by decide) hN) rfl rfl dX4_bestOfSetting_55 ?_
      refine g_iret C r rfl dX4_bestOfSetting_58 ?_
      exact ⟨hC.1, hC, hF1⟩
    · skip
      have n15_2 : ¬ (M < v) := fun qq => c15_2 ((nj_lt (a := M) (b := v) (by omega) (by omega)).mpr qq)
      refine g_aload_n C dX4_bestOfSetting_18 rfl rfl ?_
      refine g_callVV (rest := []) C mv_X4_124 (ct_X4_think l w hN σ1 a hH1) (Nat.lt_of_lt_of_le (by decide) hN) rfl rfl (by decide) rfl (Nat.le_of_ble_eq_true rfl) dX4_bestOfSetting_19 (fun σt h3 => ?_)
      obtain ⟨hHt, h6t, hFt⟩ := h3
      refine g_aload_n C dX4_bestOfSetting_22 rfl rfl ?_
      refine g_get (v := .ref (wA w 19)) C fl_X4_19 fs_X4_19 (Nat.lt_of_lt_of_le (by decide) hN) rfl rfl dX4_bestOfSetting_23 ?_
      refine g_get (v := .ref (wA w 22)) C fl_X4_103 fs_X4_103 (Nat.lt_of_lt_of_le (by decide) hN) rfl rfl dX4_bestOfSetting_26 ?_
      refine g_iload_n C dX4_bestOfSetting_29 rfl rfl ?_
      refine g_iload_n C dX4_bestOfSetting_30 rfl rfl ?_
      refine g_ias (k0 := 22) (n := 6) C (Nat.lt_of_lt_of_le (by decide) hN) rfl (j := s) (ix_n (by omega)) dX4_bestOfSetting_31 (fun σu hσu => ?_)
      have hHu : Hh σu 19 (ua a (2 + s) v) := by rw [hσu]; exact hHt.ut hs
      have hBu : Bd (ua a (2 + s) v) := hB.ut hs (by rw [hM]; exact (nj_le (by omega) (by omega)).mpr (by omega)) (by omega)
      have h6u : σu 19 6 = nI 0 := by rw [hσu, up_other (by decide), h6t]; exact h61
      have hu1 : (ua a (2 + s) v) 1 = a 1 := by rw [ua_at, if_neg (by omega)]
      refine g_aload_n C dX4_bestOfSetting_32 rfl rfl ?_
      refine g_get (v := .ref (wA w 31)) C fl_X4_32 fs_X4_32 (Nat.lt_of_lt_of_le (by decide) hN) rfl rfl dX4_bestOfSetting_33 ?_
      refine g_iload_n C dX4_bestOfSetting_36 rfl rfl ?_
      refine g_aload_n C dX4_bestOfSetting_37 rfl rfl ?_
      refine g_iload_n C dX4_bestOfSetting_38 rfl rfl ?_
      refine g_callVI (rest := [.int (nI v), .ref (wA w 31)]) C mv_X4_127 (ct_X4_passInMind l w hN σu (ua a (2 + s) v) hHu hBu 0 h6u (Nat.zero_le _) (by rw [hu1]; omega) m hm) (Nat.lt_of_lt_of_le (by decide) hN) rfl rfl (by decide) rfl (Nat.le_of_ble_eq_true rfl) dX4_bestOfSetting_39 (fun r4 σp h4 => ?_)
      obtain ⟨er4, eh4⟩ := h4
      subst er4
      obtain ⟨hHp, h6p, hTp, hFp⟩ := eh4
      refine g_callVV (rest := []) C mv_X4_143 (ct_X0_offer l w hN σp (nI v) (nV (ua a (2 + s) v) 0 m)) (Nat.lt_of_lt_of_le (by decide) hN) rfl rfl (by decide) rfl (Nat.le_of_ble_eq_true rfl) dX4_bestOfSetting_42 (fun σo h5 => ?_)
      have hC1 : Ch σp (chF (fun v => nV (ua a (2 + s) v) 0 m) (fun _ => true) v) := ⟨by rw [hFp 31 (fun z => by rcases z with ⟨z1, z2⟩ | ⟨z1, z2⟩ <;> omega), hσu, up_other (by decide), hFt 31 (fun z => by obtain ⟨z1, z2⟩ := z; omega)]; exact hC.1, by rw [hFp 31 (fun z => by rcases z with ⟨z1, z2⟩ | ⟨z1, z2⟩ <;> omega), hσu, up_other (by decide), hFt 31 (fun z => by obtain ⟨z1, z2⟩ := z; omega)]; exact hC.2⟩
      obtain ⟨hCo, hFo⟩ := hC1.offer h5
      refine g_iinc (v := nI (v + 1)) (lv' := [(3, .int (nI (v + 1))), (0, .ref (wA w 0)), (1, .int (nI s)), (2, .int (nI m))]) C dX4_bestOfSetting_45 (by decide) rfl (nj_inc v) rfl ?_
      refine g_goto (tgt := 9) C dX4_bestOfSetting_48 rfl ?_
      exact g_lvp [1, 2, 3, 0] rfl (ih9 (M + 1 - (v + 1)) (by omega) (v + 1) σo rfl (by first | omega | assumption | rfl | grind) (hCo) (((hF1.tr (hFt.mono inH_M) (fun _ z => z)).tr (show Fr inM σt σu by rw [hσu]; exact Fr.up ⟨by decide, by decide⟩) (fun _ z => z)).tr ((hFp.mono inD_M).tr hFo (fun k z => by subst z; exact ⟨by decide, by decide⟩)) (fun _ z => z)))
  exact g_lvp [1, 2, 3, 0] rfl (L9 (M + 1 - 0) 0 σ_1 rfl (by first | omega | assumption | rfl | grind) (by rw [hcc]; exact ⟨by simp [up_at, chF], by simp [up_at, chF]⟩) (by rw [hcc]; exact (Fr.up (S := inM) ⟨by decide, by decide⟩).tr (Fr.up (S := inM) ⟨by decide, by decide⟩) (fun _ z => z)))

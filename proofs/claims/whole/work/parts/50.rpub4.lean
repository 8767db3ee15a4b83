set_option maxRecDepth 100000 in
set_option maxHeartbeats 4000000 in
theorem ct_X5_fits (l : Launch) (w : WD) (hN : 54 ≤ wN w) (σ : SG) (a kp : Row) (tk nl : Nat) (lt : Nat → Nat) (qn : Nat) (qs : Nat → Nat) (rf : Nat → Int32) (hC : CM σ (a, kp, tk, (nl, lt), (qn, qs), rf)) : CtI l w yX5_fits cX5_fits 5 (some .int) 5 0 0 [.ref (wA w 38)] σ (fun r τ => r = (spFits (a, kp, tk, (nl, lt), (qn, qs), rf)).1 ∧ CM τ (spFits (a, kp, tk, (nl, lt), (qn, qs), rf)).2 ∧ Fr in38 σ τ) := by
  refine CtI.mk (by decide) (Nat.le_of_ble_eq_true rfl) ?_
  intro K C hr h0
  have r := RI.of hr h0
  clear hr h0
  show G l w K 0 [(0, .ref (wA w 38))] [] σ
  have hM : Mr σ 40 a := hC.2.1
  have hB : Bd a := hC.1.1.1
  have hd9 : a 1 ≤ 9999 := hC.1.1.2.1
  have hu9 : ∀ e, e < 4 → a (30 + 4 * e + 1) ≤ 9 := hC.1.1.2.2
  obtain ⟨hBa, hB0, hB1, hB2, hB3, hB4, hB5, hB6, hB7, hBs, hBp, hBe⟩ := id hB
  have hn1 : σ 38 27 = nI qn := hC.2.2.2.2.2.1.1
  have hn9 : qn ≤ 20 := hC.1.2.2.2.2.2.1
  have hns : ∀ j, j < qn → σ 53 j = nI (qs j) := hC.2.2.2.2.2.1.2
  have hns9 : ∀ j, j < qn → qs j ≤ 99 := hC.1.2.2.2.2.2.2
  refine g_iconst C dX5_fits_0 ic_0 ?_
  refine g_istore_n (lv' := [(1, .int 0), (0, .ref (wA w 38))]) C dX5_fits_1 rfl (by decide) rfl ?_
  refine g_iconst C dX5_fits_2 ic_0 ?_
  refine g_istore_n (lv' := [(2, .int 0), (1, .int 0), (0, .ref (wA w 38))]) C dX5_fits_3 rfl (by decide) rfl ?_
  have L4 : ∀ (m4 : Nat) (k : Nat) (y : Int32) (σ1 : SG), m4 = 6 - k → (k ≤ 6) → (y = fitS (a, kp, tk, (nl, lt), (qn, qs), rf) k) → (FrN σ σ1) → G l w K 4 [(0, .ref (wA w 38)), (1, .int y), (2, .int (nI k))] [] σ1 := by
    intro m4
    induction m4 using Nat.strongRecOn with
    | ind m4 ih4 =>
    intro k y σ1 em4 hk hy hF1
    have hM1 : Mr σ1 40 a := hM.fr (hF1.1 40 (by decide) (by decide) (by decide) (by decide) (by decide) (by decide))
    refine g_iload_n C dX5_fits_4 rfl rfl ?_
    refine g_bipush C dX5_fits_5 bp_6 ?_
    refine g_icmp_ge (tgt := 110) C dX5_fits_7 rfl (fun c7_1 => ?_) (fun c7_1 => ?_)
    · skip
      have n7_1 : 6 ≤ k := (nj_le (a := 6) (b := k) (by omega) (by omega)).mp c7_1
      obtain rfl : k = 6 := by omega
      refine g_iload_n C dX5_fits_110 rfl rfl ?_
      refine g_iret C r rfl dX5_fits_111 ?_
      exact fm_q hC hF1 rfl hy
    · skip
      have n7_1 : ¬ (6 ≤ k) := fun qq => c7_1 ((nj_le (a := 6) (b := k) (by omega) (by omega)).mpr qq)
      refine g_aload_n C dX5_fits_10 rfl rfl ?_
      refine g_get (v := .ref (wA w 40)) C fl_X5_13 fs_X5_13 (Nat.lt_of_lt_of_le (by decide) hN) rfl rfl dX5_fits_11 ?_
      refine g_aload_n C dX5_fits_14 rfl rfl ?_
      refine g_get (v := .ref (wA w 41)) C fl_X5_16 fs_X5_16 (Nat.lt_of_lt_of_le (by decide) hN) rfl rfl dX5_fits_15 ?_
      refine g_callSV (rest := []) C ms_X5_60 (ct_X5_move l w hN σ1 40 (Nat.lt_of_lt_of_le (by decide) hN) rfl 41 (Nat.lt_of_lt_of_le (by decide) hN) rfl (by decide) a hM1) rfl (by decide) rfl (Nat.le_of_ble_eq_true rfl) dX5_fits_18 (fun σt h2 => ?_)
      obtain ⟨hMt, hFt⟩ := h2
      have hMn : Mr σt 40 a := hM1.fr (hFt 40 (by decide))
      refine g_aload_n C dX5_fits_21 rfl rfl ?_
      refine g_get (v := .ref (wA w 41)) C fl_X5_16 fs_X5_16 (Nat.lt_of_lt_of_le (by decide) hN) rfl rfl dX5_fits_22 ?_
      refine g_bipush C dX5_fits_25 bp_7 ?_
      refine g_iload_n C dX5_fits_27 rfl rfl ?_
      refine g_ias (k0 := 41) (n := 46) C (Nat.lt_of_lt_of_le (by decide) hN) rfl (j := 7) (by unfold ix; decide) dX5_fits_28 (fun σu hσu => ?_)
      obtain ⟨a9, ha9⟩ : ∃ q, q = ua a (2 + 5) k := ⟨_, rfl⟩
      have hMu : Mr σu 41 a9 := by rw [hσu, ha9]; exact hMt.u
      have hB9 : Bd a9 := by rw [ha9]; exact hB.ut (by omega) ((nj_le (b := 5) (by omega) (by omega)).mpr (by omega)) (by omega)
      have h91 : a9 1 = a 1 := by rw [ha9, ua_at, if_neg (by omega)]
      have h90 : a9 0 = a 0 := by rw [ha9, ua_at, if_neg (by omega)]
      refine g_aload_n C dX5_fits_29 rfl rfl ?_
      refine g_aload_n C dX5_fits_30 rfl rfl ?_
      refine g_get (v := .ref (wA w 41)) C fl_X5_16 fs_X5_16 (Nat.lt_of_lt_of_le (by decide) hN) rfl rfl dX5_fits_31 ?_
      refine g_callVV (rest := []) C mv_X5_107 (ct_X5_asTold l w hN σu 41 (Nat.lt_of_lt_of_le (by decide) hN) rfl a9 hMu hB9 (by decide)) (Nat.lt_of_lt_of_le (by decide) hN) rfl rfl (by decide) rfl (Nat.le_of_ble_eq_true rfl) dX5_fits_34 (fun σs h3 => ?_)
      obtain ⟨hhs, hFs⟩ := h3
      refine g_iconst C dX5_fits_37 ic_1 ?_
      refine g_istore_n (lv' := [(3, .int 1), (0, .ref (wA w 38)), (1, .int y), (2, .int (nI k))]) C dX5_fits_38 rfl (by decide) rfl ?_
      refine g_iconst C dX5_fits_39 ic_0 ?_
      refine g_istore (lv' := [(4, .int 0), (3, .int 1), (0, .ref (wA w 38)), (1, .int y), (2, .int (nI k))]) C dX5_fits_40 (by decide) rfl ?_
      have L42 : ∀ (m42 : Nat) (q : Nat) (b : Int32) (σ2 : SG), m42 = qn - q → (q ≤ qn) → (b = bI (thOK a9 qs q = true)) → (Mr σ2 41 (nD a9 0 q).1) → (∀ e, e < a 0 → σ2 43 e = nI (hun a9 e)) → (FrM σ1 σ2) → G l w K 42 [(0, .ref (wA w 38)), (1, .int y), (2, .int (nI k)), (3, .int b), (4, .int (nI q))] [] σ2 := by
        intro m42
        induction m42 using Nat.strongRecOn with
        | ind m42 ih42 =>
        intro q b σ2 em42 hq hb hM2 hh2 hF2
        obtain ⟨hBp0, hp1, -, -⟩ := nD_bd hB9 (by rw [h91]; omega) (Nat.zero_le _) q (by omega)
        obtain ⟨p, hp⟩ : ∃ z, z = (nD a9 0 q).1 := ⟨_, rfl⟩
        rw [← hp] at hBp0 hp1
        have hMp : Mr σ2 41 p := by rw [hp]; exact hM2
        have hBp : Bd p := hBp0
        have hhp : hun p = hun a9 := by rw [hp]; exact hun_nD a9 0 q
        have hp0 : p 0 = a 0 := by rw [hp, nD_0 a9 0 q 0 (by omega) (by omega)]; exact h90
        have hhu : ∀ e, e < p 0 → σ2 43 e = nI (hun p e) := by rw [hhp, hp0]; exact hh2
        have hu11 : ∀ e, e < p 0 → hun p e ≤ 11 := fun e he => (hBp.2.2.2.2.2.2.2.2.2.2.2 e (by have := hBp.2.1; omega)).2.1
        refine g_iload C dX5_fits_42 rfl ?_
        refine g_aload_n C dX5_fits_44 rfl rfl ?_
        refine g_get (v := .int (σ2 38 27)) C fl_X5_194 fs_X5_194 (Nat.lt_of_lt_of_le (by decide) hN) rfl rfl dX5_fits_45 ?_
        refine g_val (y := nI qn) (by rw [hF2.2.2.2.1, hF1.2.2.2]; exact hn1) ?_
        refine g_icmp_ge (tgt := 90) C dX5_fits_48 rfl (fun c48_4 => ?_) (fun c48_4 => ?_)
        · skip
          have n48_4 : qn ≤ q := (nj_le (a := qn) (b := q) (by omega) (by omega)).mp c48_4
          have hqq : q = qn := by omega
          refine g_iload_n C dX5_fits_90 rfl rfl ?_
          refine g_iload_n C dX5_fits_91 rfl rfl ?_
          refine g_if_eq (tgt := 101) C dX5_fits_92 rfl (fun c92_5 => ?_) (fun c92_5 => ?_)
          · skip
            have hth : ¬ thOK (ua a (2 + 5) k) qs qn = true := by (rw [← ha9, ← hqq]; exact bI_0 (hb.symm.trans c92_5))
            refine g_iconst C dX5_fits_101 ic_0 ?_
            refine g_ior C dX5_fits_102 ?_
            refine g_top (fun xb exb => ?_)
            refine g_istore_n (lv' := [(1, .int xb), (0, .ref (wA w 38)), (2, .int (nI k)), (3, .int b), (4, .int (nI q))]) C dX5_fits_103 rfl (by decide) rfl ?_
            have hyn : xb = fitS (a, kp, tk, (nl, lt), (qn, qs), rf) (k + 1) := by first | (rw [fitS, if_pos hth, exb, hy]) | (rw [fitS, if_neg hth, exb, hy, i32_or0])
            refine g_iinc (v := nI (k + 1)) (lv' := [(2, .int (nI (k + 1))), (1, .int xb), (0, .ref (wA w 38)), (3, .int b), (4, .int (nI q))]) C dX5_fits_104 (by decide) rfl (nj_inc k) rfl ?_
            refine g_goto (tgt := 4) C dX5_fits_107 rfl ?_
            exact g_lvp [2, 1, 0] rfl (ih4 (6 - (k + 1)) (by omega) (k + 1) xb σ2 rfl (by first | omega | assumption | rfl | grind) (hyn) (hF1.tr hF2.n))
          · skip
            have hth : thOK (ua a (2 + 5) k) qs qn = true := by (rw [← ha9, ← hqq]; exact Decidable.byContradiction (fun z => c92_5 (hb.trans (if_neg z))))
            refine g_iconst C dX5_fits_95 ic_1 ?_
            refine g_iload_n C dX5_fits_96 rfl rfl ?_
            refine g_ishl C dX5_fits_97 ?_
            refine g_goto (tgt := 102) C dX5_fits_98 rfl ?_
            refine g_ior C dX5_fits_102 ?_
            refine g_top (fun xb exb => ?_)
            refine g_istore_n (lv' := [(1, .int xb), (0, .ref (wA w 38)), (2, .int (nI k)), (3, .int b), (4, .int (nI q))]) C dX5_fits_103 rfl (by decide) rfl ?_
            have hyn : xb = fitS (a, kp, tk, (nl, lt), (qn, qs), rf) (k + 1) := by first | (rw [fitS, if_pos hth, exb, hy]) | (rw [fitS, if_neg hth, exb, hy, i32_or0])
            refine g_iinc (v := nI (k + 1)) (lv' := [(2, .int (nI (k + 1))), (1, .int xb), (0, .ref (wA w 38)), (3, .int b), (4, .int (nI q))]) C dX5_fits_104 (by decide) rfl (nj_inc k) rfl ?_
            refine g_goto (tgt := 4) C dX5_fits_107 rfl ?_
            exact g_lvp [2, 1, 0] rfl (ih4 (6 - (k + 1)) (by omega) (k + 1) xb σ2 rfl (by first | omega | assumption | rfl | grind) (hyn) (hF1.tr hF2.n))
        · skip
          have n48_4 : ¬ (qn ≤ q) := fun qq => c48_4 ((nj_le (a := qn) (b := q) (by omega) (by omega)).mpr qq)
          refine g_aload_n C dX5_fits_51 rfl rfl ?_
          refine g_aload_n C dX5_fits_52 rfl rfl ?_
          refine g_get (v := .ref (wA w 41)) C fl_X5_16 fs_X5_16 (Nat.lt_of_lt_of_le (by decide) hN) rfl rfl dX5_fits_53 ?_
          refine g_iconst C dX5_fits_56 ic_0 ?_
          refine g_callVV (rest := []) C mv_X5_111 (ct_X5_day l w hN σ2 41 (Nat.lt_of_lt_of_le (by decide) hN) rfl p hMp hBp (by decide) (by decide) (by decide) (hun p) hhu hu11 0 (Nat.zero_le _) (by omega)) (Nat.lt_of_lt_of_le (by decide) hN) rfl rfl (by decide) rfl (Nat.le_of_ble_eq_true rfl) dX5_fits_57 (fun σd h6 => ?_)
          obtain ⟨hMd, Dd, htd, hFd⟩ := h6
          have hMd2 : Mr σd 41 (nD a9 0 (q + 1)).1 := by show Mr σd 41 (dyR (hun (nD a9 0 q).1) (nD a9 0 q).1 (nD a9 0 q).2.1); rw [nD_F0, ← hp]; exact hMd
          obtain ⟨t, ht⟩ : ∃ z, z = dyT (hun p) p 0 := ⟨_, rfl⟩
          rw [← ht] at htd
          have ht6 : t ≤ 60 := by rw [ht]; exact dyT_le hBp _
          have hq9 := hns9 q (by omega)
          have L83 : ∀ (b3 : Int32), (b3 = bI (thOK a9 qs (q + 1) = true)) → (Mr σd 41 (nD a9 0 (q + 1)).1) → (∀ e, e < a 0 → σd 43 e = nI (hun a9 e)) → (FrM σ1 σd) → G l w K 83 [(0, .ref (wA w 38)), (1, .int y), (2, .int (nI k)), (4, .int (nI q))] [.int b3] σd := by
            intro b3 hb3 hM3 hh3 hF3
            refine g_istore_n (lv' := [(3, .int b3), (0, .ref (wA w 38)), (1, .int y), (2, .int (nI k)), (4, .int (nI q))]) C dX5_fits_83 rfl (by decide) rfl ?_
            refine g_iinc (v := nI (q + 1)) (lv' := [(4, .int (nI (q + 1))), (3, .int b3), (0, .ref (wA w 38)), (1, .int y), (2, .int (nI k))]) C dX5_fits_84 (by decide) rfl (nj_inc q) rfl ?_
            refine g_goto (tgt := 42) C dX5_fits_87 rfl ?_
            exact g_lvp [2, 3, 4, 1, 0] rfl (ih42 (qn - (q + 1)) (by omega) (q + 1) b3 σd rfl (by first | omega | assumption | rfl | grind) (hb3) (hM3) (hh3) (hF3))
          refine g_iload_n C dX5_fits_60 rfl rfl ?_
          refine g_if_eq (tgt := 82) C dX5_fits_61 rfl (fun c61_7 => ?_) (fun c61_7 => ?_)
          · skip
            have hno : ¬ (thOK a9 qs q = true ∧ dyT (hun p) p 0 = qs q) := fun z => bI_0 (hb.symm.trans c61_7) z.1
            refine g_iconst C dX5_fits_82 ic_0 ?_
            have hts : ¬ thOK a9 qs (q + 1) = true := by rw [thOK, nD_F0, ← hp, Bool.and_eq_true, decide_eq_true_eq]; exact hno
            exact g_lvp [0, 1, 2, 4] rfl (L83 0 ((if_neg hts).symm) (hMd2) (fun e he => by rw [hFd.1 43 (by decide) (by decide) (by decide)]; exact hh2 e he) (hF2.tr (FrM.y hFd)))
          · skip
            have hthq : thOK a9 qs q = true := Decidable.byContradiction (fun z => c61_7 (hb.trans (if_neg z)))
            refine g_aload_n C dX5_fits_64 rfl rfl ?_
            refine g_get (v := .int (σd 38 10)) C fl_X5_104 fs_X5_104 (Nat.lt_of_lt_of_le (by decide) hN) rfl rfl dX5_fits_65 ?_
            refine g_val (y := nI t) htd ?_
            refine g_aload_n C dX5_fits_68 rfl rfl ?_
            refine g_get (v := .ref (wA w 53)) C fl_X5_53 fs_X5_53 (Nat.lt_of_lt_of_le (by decide) hN) rfl rfl dX5_fits_69 ?_
            refine g_iload C dX5_fits_72 rfl ?_
            refine g_ial (k0 := 53) (n := 20) C (Nat.lt_of_lt_of_le (by decide) hN) rfl (j := q) (ix_n (by omega)) dX5_fits_74 ?_
            refine g_val (y := nI (qs q)) (by rw [hFd.1 53 (by decide) (by decide) (by decide), hF2.1 53 (by decide) (by decide) (by decide) (by decide) (by decide) (by decide), hF1.1 53 (by decide) (by decide) (by decide) (by decide) (by decide) (by decide)]; exact hns q (by omega)) ?_
            refine g_icmp_ne (tgt := 82) C dX5_fits_75 rfl (fun c75_8 => ?_) (fun c75_8 => ?_)
            · skip
              have n75_8 : ¬ (t = qs q) := fun qq => c75_8 ((nj_eq (a := t) (b := qs q) (by omega) (by omega)).mpr qq)
              have hno : ¬ (thOK a9 qs q = true ∧ dyT (hun p) p 0 = qs q) := fun z => by omega
              refine g_iconst C dX5_fits_82 ic_0 ?_
              have hts : ¬ thOK a9 qs (q + 1) = true := by rw [thOK, nD_F0, ← hp, Bool.and_eq_true, decide_eq_true_eq]; exact hno
              exact g_lvp [0, 1, 2, 4] rfl (L83 0 ((if_neg hts).symm) (hMd2) (fun e he => by rw [hFd.1 43 (by decide) (by decide) (by decide)]; exact hh2 e he) (hF2.tr (FrM.y hFd)))
            · skip
              have n75_8 : t = qs q := (nj_eq (a := t) (b := qs q) (by omega) (by omega)).mp c75_8
              refine g_iconst C dX5_fits_78 ic_1 ?_
              refine g_goto (tgt := 83) C dX5_fits_79 rfl ?_
              have hts : thOK a9 qs (q + 1) = true := by rw [thOK, hthq, nD_F0, ← hp]; exact decide_eq_true (by omega)
              exact g_lvp [0, 1, 2, 4] rfl (L83 1 ((if_pos hts).symm) (hMd2) (fun e he => by rw [hFd.1 43 (by decide) (by decide) (by decide)]; exact hh2 e he) (hF2.tr (FrM.y hFd)))
      exact g_lvp [2, 3, 4, 1, 0] rfl (L42 (qn - 0) 0 1 σs rfl (by first | omega | assumption | rfl | grind) ((if_pos (show thOK a9 qs 0 = true from rfl)).symm) (hMu.fr (hFs 41 (by decide))) (fun e he => hhs e (by rw [h90]; exact he)) ((FrM.f hFt (by decide)).tr ((show FrM σt σu by rw [hσu]; exact FrM.u (by decide)).tr (FrM.f hFs (by decide)))))
  exact g_lvp [2, 1, 0] rfl (L4 (6 - 0) 0 0 σ rfl (by first | omega | assumption | rfl | grind) (rfl) (FrN.rf))
set_option maxRecDepth 100000 in
set_option maxHeartbeats 4000000 in
theorem ct_X5_judge (l : Launch) (w : WD) (hN : 54 ≤ wN w) (σ : SG) (a kp : Row) (tk nl : Nat) (lt : Nat → Nat) (qn : Nat) (qs : Nat → Nat) (rf : Nat → Int32) (hC : CM σ (a, kp, tk, (nl, lt), (qn, qs), rf)) : CtI l w yX5_judge cX5_judge 3 (some .int) 5 0 0 [.ref (wA w 38)] σ (fun r τ => r = (spJudge (a, kp, tk, (nl, lt), (qn, qs), rf)).1 ∧ CM τ (spJudge (a, kp, tk, (nl, lt), (qn, qs), rf)).2 ∧ Fr in38 σ τ) := by
  refine CtI.mk (by decide) (Nat.le_of_ble_eq_true rfl) ?_
  intro K C hr h0
  have r := RI.of hr h0
  clear hr h0
  show G l w K 0 [(0, .ref (wA w 38))] [] σ
  have hM : Mr σ 40 a := hC.2.1
  have hB : Bd a := hC.1.1.1
  have hd9 : a 1 ≤ 9999 := hC.1.1.2.1
  have hu9 : ∀ e, e < 4 → a (30 + 4 * e + 1) ≤ 9 := hC.1.1.2.2
  obtain ⟨hBa, hB0, hB1, hB2, hB3, hB4, hB5, hB6, hB7, hBs, hBp, hBe⟩ := id hB
  have hn1 : σ 38 27 = nI qn := hC.2.2.2.2.2.1.1
  have hn9 : qn ≤ 20 := hC.1.2.2.2.2.2.1
  have hns : ∀ j, j < qn → σ 53 j = nI (qs j) := hC.2.2.2.2.2.1.2
  have hns9 : ∀ j, j < qn → qs j ≤ 99 := hC.1.2.2.2.2.2.2
  refine g_aload_n C dX5_judge_0 rfl rfl ?_
  refine g_get (v := .ref (wA w 40)) C fl_X5_13 fs_X5_13 (Nat.lt_of_lt_of_le (by decide) hN) rfl rfl dX5_judge_1 ?_
  refine g_aload_n C dX5_judge_4 rfl rfl ?_
  refine g_get (v := .ref (wA w 41)) C fl_X5_16 fs_X5_16 (Nat.lt_of_lt_of_le (by decide) hN) rfl rfl dX5_judge_5 ?_
  refine g_callSV (rest := []) C ms_X5_60 (ct_X5_move l w hN σ 40 (Nat.lt_of_lt_of_le (by decide) hN) rfl 41 (Nat.lt_of_lt_of_le (by decide) hN) rfl (by decide) a hM) rfl (by decide) rfl (Nat.le_of_ble_eq_true rfl) dX5_judge_8 (fun σt h1 => ?_)
  obtain ⟨hMt, hFt⟩ := h1
  have hMn : Mr σt 40 a := hM.fr (hFt 40 (by decide))
  refine g_aload_n C dX5_judge_11 rfl rfl ?_
  refine g_aload_n C dX5_judge_12 rfl rfl ?_
  refine g_get (v := .ref (wA w 41)) C fl_X5_16 fs_X5_16 (Nat.lt_of_lt_of_le (by decide) hN) rfl rfl dX5_judge_13 ?_
  refine g_callVV (rest := []) C mv_X5_107 (ct_X5_asTold l w hN σt 41 (Nat.lt_of_lt_of_le (by decide) hN) rfl a hMt hB (by decide)) (Nat.lt_of_lt_of_le (by decide) hN) rfl rfl (by decide) rfl (Nat.le_of_ble_eq_true rfl) dX5_judge_16 (fun σs h2 => ?_)
  obtain ⟨hhs, hFs⟩ := h2
  have hMs : Mr σs 41 a := hMt.fr (hFs 41 (by decide))
  refine g_aload_n C dX5_judge_19 rfl rfl ?_
  refine g_aload_n C dX5_judge_20 rfl rfl ?_
  refine g_get (v := .ref (wA w 41)) C fl_X5_16 fs_X5_16 (Nat.lt_of_lt_of_le (by decide) hN) rfl rfl dX5_judge_21 ?_
  refine g_iconst C dX5_judge_24 ic_0 ?_
  refine g_callVV (rest := []) C mv_X5_111 (ct_X5_day l w hN σs 41 (Nat.lt_of_lt_of_le (by decide) hN) rfl a hMs hB (by decide) (by decide) (by decide) (hun a) hhs (fun e he => (hBe e (by omega)).2.1) 0 (Nat.zero_le _) (by omega)) (Nat.lt_of_lt_of_le (by decide) hN) rfl rfl (by decide) rfl (Nat.le_of_ble_eq_true rfl) dX5_judge_25 (fun σd h3 => ?_)
  obtain ⟨hMd, Dd, htd, hFd⟩ := h3
  obtain ⟨L9, hL9⟩ : ∃ q, q = (dyL (hun a) a 0) := ⟨_, rfl⟩
  rw [← hL9] at Dd
  have hF9 : FrM σ σd := (FrM.f hFt (by decide)).tr ((FrM.f hFs (by decide)).tr (FrM.y hFd))
  have hln : L9.length ≤ 44 := by rw [hL9]; exact dyL_len hB 0
  have hg4 : ∀ i, L9.getD i 0 ≤ 4 := by rw [hL9]; exact dyL_4 a
  refine g_bipush C dX5_judge_28 bp_m9 ?_
  refine g_istore_n (lv' := [(1, .int ((-9))), (0, .ref (wA w 38))]) C dX5_judge_30 rfl (by decide) rfl ?_
  refine g_aload_n C dX5_judge_31 rfl rfl ?_
  refine g_get (v := .int (σd 38 27)) C fl_X5_194 fs_X5_194 (Nat.lt_of_lt_of_le (by decide) hN) rfl rfl dX5_judge_32 ?_
  refine g_val (y := nI qn) (by rw [hF9.2.2.2.1]; exact hn1) ?_
  refine g_iconst C dX5_judge_35 ic_1 ?_
  refine g_isubv (v := (nI qn) - 1) C rfl dX5_judge_36 ?_
  refine g_istore_n (lv' := [(2, .int ((nI qn) - 1)), (1, .int ((-9))), (0, .ref (wA w 38))]) C dX5_judge_37 rfl (by decide) rfl ?_
  have L38 : ∀ (m38 : Nat) (q : Nat) (x : Int32) (y : Int32), m38 = q → (q ≤ qn) → (x = nI q - 1) → (JB L9 qs q qn y) → G l w K 38 [(0, .ref (wA w 38)), (1, .int y), (2, .int x)] [] σd := by
    intro m38
    induction m38 using Nat.strongRecOn with
    | ind m38 ih38 =>
    intro q x y em38 hq hx hJ
    refine g_iload_n C dX5_judge_38 rfl rfl ?_
    refine g_if_lt (tgt := 77) C dX5_judge_39 rfl (fun c39_4 => ?_) (fun c39_4 => ?_)
    · skip
      obtain rfl : q = 0 := nj_pred0 hx c39_4 (by omega)
      refine g_aload_n C dX5_judge_77 rfl rfl ?_
      refine g_iconst C dX5_judge_78 ic_0 ?_
      refine g_putn C fp_X5_194 (Nat.lt_of_lt_of_le (by decide) hN) rfl rfl (Nat.le_of_ble_eq_true rfl) rfl rfl dX5_judge_79 (fun σz hσz => ?_)
      refine g_iload_n C dX5_judge_82 rfl rfl ?_
      refine g_iret C r rfl dX5_judge_83 ?_
      refine ⟨?_, (hC.n hF9.n).rw0 hσz, by rw [hσz]; exact hF9.n.i.tr (Fr.up (S := in38) (by decide)) (fun _ z => z)⟩
      rw [hJ.fin, hL9]
      rfl
    · skip
      obtain ⟨g, rfl, rfl⟩ : ∃ g, q = g + 1 ∧ x = nI g := nj_pred hx c39_4 (by omega)
      have hq9 := hns9 g (by omega)
      have hg9 := hg4 g
      have L70 : ∀ (y1 : Int32), (JB L9 qs g qn y1) → G l w K 70 [(0, .ref (wA w 38)), (2, .int (nI g))] [.int y1] σd := by
        intro y1 hJ1
        refine g_istore_n (lv' := [(1, .int y1), (0, .ref (wA w 38)), (2, .int (nI g))]) C dX5_judge_70 rfl (by decide) rfl ?_
        refine g_iinc (v := nI g - 1) (lv' := [(2, .int (nI g - 1)), (1, .int y1), (0, .ref (wA w 38))]) C dX5_judge_71 (by decide) rfl (nj_decr _) rfl ?_
        refine g_goto (tgt := 38) C dX5_judge_74 rfl ?_
        exact g_lvp [2, 1, 0] rfl (ih38 (g) (by omega) g (nI g - 1) y1 rfl (by first | omega | assumption | rfl | grind) (rfl) (hJ1))
      refine g_iload_n C dX5_judge_42 rfl rfl ?_
      refine g_aload_n C dX5_judge_43 rfl rfl ?_
      refine g_get (v := .int (σd 38 7)) C fl_X5_94 fs_X5_94 (Nat.lt_of_lt_of_le (by decide) hN) rfl rfl dX5_judge_44 ?_
      refine g_val (y := nI L9.length) Dd.2.1 ?_
      refine g_icmp_ge (tgt := 65) C dX5_judge_47 rfl (fun c47_5 => ?_) (fun c47_5 => ?_)
      · skip
        have n47_5 : L9.length ≤ g := (nj_le (a := L9.length) (b := g) (by omega) (by omega)).mp c47_5
        have hbad : L9.length ≤ g ∨ L9.getD g 0 ≠ qs g := Or.inl (by omega)
        refine g_iload_n C dX5_judge_65 rfl rfl ?_
        refine g_goto (tgt := 70) C dX5_judge_66 rfl ?_
        exact g_lvp [0, 2] rfl (L70 (nI g) (JB.bad (by omega) hbad rfl))
      · skip
        have n47_5 : ¬ (L9.length ≤ g) := fun qq => c47_5 ((nj_le (a := L9.length) (b := g) (by omega) (by omega)).mpr qq)
        refine g_aload_n C dX5_judge_50 rfl rfl ?_
        refine g_get (v := .ref (wA w 44)) C fl_X5_25 fs_X5_25 (Nat.lt_of_lt_of_le (by decide) hN) rfl rfl dX5_judge_51 ?_
        refine g_iload_n C dX5_judge_54 rfl rfl ?_
        refine g_ial (k0 := 44) (n := 60) C (Nat.lt_of_lt_of_le (by decide) hN) rfl (j := g) (ix_n (by omega)) dX5_judge_55 ?_
        refine g_val (y := nI (L9.getD g 0)) (Dd.2.2.2.2.2 g (by omega)) ?_
        refine g_aload_n C dX5_judge_56 rfl rfl ?_
        refine g_get (v := .ref (wA w 53)) C fl_X5_53 fs_X5_53 (Nat.lt_of_lt_of_le (by decide) hN) rfl rfl dX5_judge_57 ?_
        refine g_iload_n C dX5_judge_60 rfl rfl ?_
        refine g_ial (k0 := 53) (n := 20) C (Nat.lt_of_lt_of_le (by decide) hN) rfl (j := g) (ix_n (by omega)) dX5_judge_61 ?_
        refine g_val (y := nI (qs g)) (by rw [hF9.1 53 (by decide) (by decide) (by decide) (by decide) (by decide) (by decide)]; exact hns g (by omega)) ?_
        refine g_icmp_eq (tgt := 69) C dX5_judge_62 rfl (fun c62_6 => ?_) (fun c62_6 => ?_)
        · skip
          have n62_6 : L9.getD g 0 = qs g := (nj_eq (a := L9.getD g 0) (b := qs g) (by omega) (by omega)).mp c62_6
          have hgood : ¬ (L9.length ≤ g ∨ L9.getD g 0 ≠ qs g) := by omega
          refine g_iload_n C dX5_judge_69 rfl rfl ?_
          exact g_lvp [0, 2] rfl (L70 y (hJ.ok hgood))
        · skip
          have n62_6 : ¬ (L9.getD g 0 = qs g) := fun qq => c62_6 ((nj_eq (a := L9.getD g 0) (b := qs g) (by omega) (by omega)).mpr qq)
          have hbad : L9.length ≤ g ∨ L9.getD g 0 ≠ qs g := Or.inr (by omega)
          refine g_iload_n C dX5_judge_65 rfl rfl ?_
          refine g_goto (tgt := 70) C dX5_judge_66 rfl ?_
          exact g_lvp [0, 2] rfl (L70 (nI g) (JB.bad (by omega) hbad rfl))
  exact g_lvp [2, 1, 0] rfl (L38 (qn) qn ((nI qn) - 1) ((-9)) rfl (by first | omega | assumption | rfl | grind) (rfl) (Or.inr ⟨fun j h1 h2 => by omega, rfl⟩))
set_option maxRecDepth 100000 in
set_option maxHeartbeats 4000000 in
theorem ct_X5_lots (l : Launch) (w : WD) (hN : 54 ≤ wN w) (σ : SG) (a kp : Row) (tk nl : Nat) (lt : Nat → Nat) (qn : Nat) (qs : Nat → Nat) (rf : Nat → Int32) (hC : CM σ (a, kp, tk, (nl, lt), (qn, qs), rf)) (x z : Int32) : CtI l w yX5_lots cX5_lots 8 (some .int) 5 0 0 [.ref (wA w 38), .int x, .int z] σ (fun r τ => r = (spLots (a, kp, tk, (nl, lt), (qn, qs), rf) x z).1 ∧ CM τ (spLots (a, kp, tk, (nl, lt), (qn, qs), rf) x z).2 ∧ Fr in38 σ τ) := by
  refine CtI.mk (by decide) (Nat.le_of_ble_eq_true rfl) ?_
  intro K C hr h0
  have r := RI.of hr h0
  clear hr h0
  show G l w K 0 [(0, .ref (wA w 38)), (1, .int x), (2, .int z)] [] σ
  have hM : Mr σ 40 a := hC.2.1
  have hB : Bd a := hC.1.1.1
  have hd9 : a 1 ≤ 9999 := hC.1.1.2.1
  have hu9 : ∀ e, e < 4 → a (30 + 4 * e + 1) ≤ 9 := hC.1.1.2.2
  obtain ⟨hBa, hB0, hB1, hB2, hB3, hB4, hB5, hB6, hB7, hBs, hBp, hBe⟩ := id hB
  refine g_iload_n C dX5_lots_0 rfl rfl ?_
  refine g_iconst C dX5_lots_1 ic_1 ?_
  refine g_icmp_ge (tgt := 12) C dX5_lots_2 rfl (fun c2_1 => ?_) (fun c2_1 => ?_)
  · skip
    have hz1 : ¬ x < 1 := Int32.not_lt.mpr c2_1
    refine g_iload_n C dX5_lots_12 rfl rfl ?_
    refine g_bipush C dX5_lots_13 bp_20 ?_
    refine g_icmp_le (tgt := 25) C dX5_lots_15 rfl (fun c15_2 => ?_) (fun c15_2 => ?_)
    · skip
      have hz : ¬ (x < 1 ∨ 20 < x) := fun z => z.elim hz1 (Int32.not_lt.mpr c15_2)
      obtain ⟨m, hm1, hm, rfl⟩ := nj_of5 (lo := 1) (m := 20) hz
      refine g_iload_n C dX5_lots_25 rfl rfl ?_
      refine g_istore_n (lv' := [(3, .int z), (0, .ref (wA w 38)), (1, .int (nI m)), (2, .int z)]) C dX5_lots_26 rfl (by decide) rfl ?_
      refine g_iconst C dX5_lots_27 ic_0 ?_
      refine g_istore (lv' := [(4, .int 0), (3, .int z), (0, .ref (wA w 38)), (1, .int (nI m)), (2, .int z)]) C dX5_lots_28 (by decide) rfl ?_
      refine g_iconst C dX5_lots_30 ic_0 ?_
      refine g_istore (lv' := [(5, .int 0), (4, .int 0), (3, .int z), (0, .ref (wA w 38)), (1, .int (nI m)), (2, .int z)]) C dX5_lots_31 (by decide) rfl ?_
      have L33 : ∀ (m33 : Nat) (y : Nat) (s : Int32) (t : Nat) (σ1 : SG), m33 = m - y → (y ≤ m) → (lyS a z y = (s, t)) → (FrN σ σ1) → G l w K 33 [(0, .ref (wA w 38)), (1, .int (nI m)), (3, .int s), (4, .int (nI t)), (5, .int (nI y))] [] σ1 := by
        intro m33
        induction m33 using Nat.strongRecOn with
        | ind m33 ih33 =>
        intro y s t σ1 em33 hy hs hF1
        have hM1 : Mr σ1 40 a := hM.fr (hF1.1 40 (by decide) (by decide) (by decide) (by decide) (by decide) (by decide))
        refine g_iload C dX5_lots_33 rfl ?_
        refine g_iload_n C dX5_lots_35 rfl rfl ?_
        refine g_icmp_ge (tgt := 150) C dX5_lots_36 rfl (fun c36_3 => ?_) (fun c36_3 => ?_)
        · skip
          have n36_3 : m ≤ y := (nj_le (a := m) (b := y) (by omega) (by omega)).mp c36_3
          have hym : y = m := by omega
          refine g_iload C dX5_lots_150 rfl ?_
          refine g_iret C r rfl dX5_lots_152 ?_
          refine fm_q hC hF1 ?_ rfl
          unfold spLots
          rw [if_neg hz, nn_nj (n := m) (by omega)]
          show (nI (lyS a z m).2, _) = _
          rw [← hym, hs]
        · skip
          have n36_3 : ¬ (m ≤ y) := fun qq => c36_3 ((nj_le (a := m) (b := y) (by omega) (by omega)).mpr qq)
          refine g_aload_n C dX5_lots_39 rfl rfl ?_
          refine g_get (v := .ref (wA w 40)) C fl_X5_13 fs_X5_13 (Nat.lt_of_lt_of_le (by decide) hN) rfl rfl dX5_lots_40 ?_
          refine g_aload_n C dX5_lots_43 rfl rfl ?_
          refine g_get (v := .ref (wA w 41)) C fl_X5_16 fs_X5_16 (Nat.lt_of_lt_of_le (by decide) hN) rfl rfl dX5_lots_44 ?_
          refine g_callSV (rest := []) C ms_X5_60 (ct_X5_move l w hN σ1 40 (Nat.lt_of_lt_of_le (by decide) hN) rfl 41 (Nat.lt_of_lt_of_le (by decide) hN) rfl (by decide) a hM1) rfl (by decide) rfl (Nat.le_of_ble_eq_true rfl) dX5_lots_47 (fun σt h4 => ?_)
          obtain ⟨hMt, hFt⟩ := h4
          have hMn : Mr σt 40 a := hM1.fr (hFt 40 (by decide))
          refine g_iconst C dX5_lots_50 ic_0 ?_
          refine g_istore (lv' := [(6, .int 0), (0, .ref (wA w 38)), (1, .int (nI m)), (3, .int s), (4, .int (nI t)), (5, .int (nI y))]) C dX5_lots_51 (by decide) rfl ?_
          have L53 : ∀ (m53 : Nat) (d : Nat) (s2 : Int32) (t2 : Nat) (u : Nat) (q : Row) (σ2 : SG), m53 = 28 - d → (d ≤ 28) → (ltS a s d = (q, s2, u)) → (t2 = t + u) → (Mr σ2 41 q) → (FrM σ1 σ2) → G l w K 53 [(0, .ref (wA w 38)), (1, .int (nI m)), (3, .int s2), (4, .int (nI t2)), (5, .int (nI y)), (6, .int (nI d))] [] σ2 := by
            intro m53
            induction m53 using Nat.strongRecOn with
            | ind m53 ih53 =>
            intro d s2 t2 u q σ2 em53 hd hl ht2 hM2 hF2
            obtain ⟨hBq, hq1⟩ := ltS_bd hB hd9 s d (by omega)
            have hqa := ltS_at a s d
            rw [hl] at hBq hq1 hqa
            have hBq : Bd q := hBq
            have hq1 : q 1 = a 1 + d := hq1
            have hqa : ∀ j, (j < 10 ∨ 15 ≤ j) → j ≠ 1 → q j = a j := hqa
            have hq0 : q 0 = a 0 := hqa 0 (by omega) (by omega)
            refine g_iload C dX5_lots_53 rfl ?_
            refine g_bipush C dX5_lots_55 bp_28 ?_
            refine g_icmp_ge (tgt := 144) C dX5_lots_57 rfl (fun c57_5 => ?_) (fun c57_5 => ?_)
            · skip
              have n57_5 : 28 ≤ d := (nj_le (a := 28) (b := d) (by omega) (by omega)).mp c57_5
              have hd28 : d = 28 := by omega
              refine g_iinc (v := nI (y + 1)) (lv' := [(5, .int (nI (y + 1))), (0, .ref (wA w 38)), (1, .int (nI m)), (3, .int s2), (4, .int (nI t2)), (6, .int (nI d))]) C dX5_lots_144 (by decide) rfl (nj_inc y) rfl ?_
              refine g_goto (tgt := 33) C dX5_lots_147 rfl ?_
              exact g_lvp [1, 2, 3, 4, 0] rfl (ih33 (m - (y + 1)) (by omega) (y + 1) s2 t2 σ2 rfl (by first | omega | assumption | rfl | grind) (by rw [hd28] at hl; rw [ly_step hs, hl, ht2]) (hF1.tr hF2.n))
            · skip
              have n57_5 : ¬ (28 ≤ d) := fun qq => c57_5 ((nj_le (a := 28) (b := d) (by omega) (by omega)).mpr qq)
              refine g_iconst C dX5_lots_60 ic_0 ?_
              refine g_istore (lv' := [(7, .int 0), (0, .ref (wA w 38)), (1, .int (nI m)), (3, .int s2), (4, .int (nI t2)), (5, .int (nI y)), (6, .int (nI d))]) C dX5_lots_61 (by decide) rfl ?_
              have L63 : ∀ (m63 : Nat) (e : Nat) (s3 : Int32) (σ3 : SG), m63 = a 0 - e → (e ≤ a 0) → (s3 = sdS s2 e) → (∀ e', e' < e → σ3 43 e' = nI (huL a s2 e')) → (Mr σ3 41 q) → (FrM σ1 σ3) → G l w K 63 [(0, .ref (wA w 38)), (1, .int (nI m)), (3, .int s3), (4, .int (nI t2)), (5, .int (nI y)), (6, .int (nI d)), (7, .int (nI e))] [] σ3 := by
                intro m63
                induction m63 using Nat.strongRecOn with
                | ind m63 ih63 =>
                intro e s3 σ3 em63 he hs3 hh3 hM3 hF3
                refine g_iload C dX5_lots_63 rfl ?_
                refine g_aload_n C dX5_lots_65 rfl rfl ?_
                refine g_get (v := .ref (wA w 41)) C fl_X5_16 fs_X5_16 (Nat.lt_of_lt_of_le (by decide) hN) rfl rfl dX5_lots_66 ?_
                refine g_iconst C dX5_lots_69 ic_0 ?_
                refine g_ial (k0 := 41) (n := 46) C (Nat.lt_of_lt_of_le (by decide) hN) rfl (j := 0) (by unfold ix; decide) dX5_lots_70 ?_
                refine g_val (y := nI (q 0)) (hM3 0 (by omega)) ?_
                refine g_icmp_ge (tgt := 120) C dX5_lots_71 rfl (fun c71_6 => ?_) (fun c71_6 => ?_)
                · skip
                  have n71_6 : q 0 ≤ e := (nj_le (a := q 0) (b := e) (by omega) (by omega)).mp c71_6
                  have hea : e = a 0 := by omega
                  refine g_aload_n C dX5_lots_120 rfl rfl ?_
                  refine g_aload_n C dX5_lots_121 rfl rfl ?_
                  refine g_get (v := .ref (wA w 41)) C fl_X5_16 fs_X5_16 (Nat.lt_of_lt_of_le (by decide) hN) rfl rfl dX5_lots_122 ?_
                  refine g_iconst C dX5_lots_125 ic_0 ?_
                  refine g_callVV (rest := []) C mv_X5_111 (ct_X5_day l w hN σ3 41 (Nat.lt_of_lt_of_le (by decide) hN) rfl q hM3 hBq (by decide) (by decide) (by decide) (huL a s2) (fun e' h => hh3 e' (by omega)) (fun e' h => huL_11 hu9 s2 (by omega)) 0 (Nat.zero_le _) (by omega)) (Nat.lt_of_lt_of_le (by decide) hN) rfl rfl (by decide) rfl (Nat.le_of_ble_eq_true rfl) dX5_lots_126 (fun σd h7 => ?_)
                  obtain ⟨hMd, Dd, htd, hFd⟩ := h7
                  refine g_iload C dX5_lots_129 rfl ?_
                  refine g_aload_n C dX5_lots_131 rfl rfl ?_
                  refine g_get (v := .int (σd 38 10)) C fl_X5_104 fs_X5_104 (Nat.lt_of_lt_of_le (by decide) hN) rfl rfl dX5_lots_132 ?_
                  refine g_val (y := nI (dyT (huL a s2) q 0)) htd ?_
                  refine g_iaddv (v := nI (t2 + (dyT (huL a s2) q 0))) C (nj_plus t2 (dyT (huL a s2) q 0)) dX5_lots_135 ?_
                  refine g_istore (lv' := [(4, .int (nI (t2 + (dyT (huL a s2) q 0)))), (0, .ref (wA w 38)), (1, .int (nI m)), (3, .int s3), (5, .int (nI y)), (6, .int (nI d)), (7, .int (nI e))]) C dX5_lots_136 (by decide) rfl ?_
                  refine g_iinc (v := nI (d + 1)) (lv' := [(6, .int (nI (d + 1))), (4, .int (nI (t2 + (dyT (huL a s2) q 0)))), (0, .ref (wA w 38)), (1, .int (nI m)), (3, .int s3), (5, .int (nI y)), (7, .int (nI e))]) C dX5_lots_138 (by decide) rfl (nj_inc d) rfl ?_
                  refine g_goto (tgt := 53) C dX5_lots_141 rfl ?_
                  exact g_lvp [2, 3, 4, 1, 5, 0] rfl (ih53 (28 - (d + 1)) (by omega) (d + 1) s3 (t2 + (dyT (huL a s2) q 0)) (u + dyT (huL a s2) q 0) (dyR (huL a s2) q 0) σd rfl (by first | omega | assumption | rfl | grind) (by rw [lt_step hl, hs3, hea]) (by omega) (hMd) (hF3.tr (FrM.y hFd)))
                · skip
                  have n71_6 : ¬ (q 0 ≤ e) := fun qq => c71_6 ((nj_le (a := q 0) (b := e) (by omega) (by omega)).mpr qq)
                  refine g_iload_n C dX5_lots_74 rfl rfl ?_
                  refine g_ldc C cs_X5_200 dX5_lots_75 ?_
                  refine g_imulv (v := s3 * 1664525) C rfl dX5_lots_77 ?_
                  refine g_ldc C cs_X5_201 dX5_lots_78 ?_
                  refine g_iaddv (v := (s3 * 1664525) + 1013904223) C rfl dX5_lots_80 ?_
                  refine g_top (fun s4 es4 => ?_)
                  refine g_istore_n (lv' := [(3, .int s4), (0, .ref (wA w 38)), (1, .int (nI m)), (4, .int (nI t2)), (5, .int (nI y)), (6, .int (nI d)), (7, .int (nI e))]) C dX5_lots_81 rfl (by decide) rfl ?_
                  refine g_aload_n C dX5_lots_82 rfl rfl ?_
                  refine g_get (v := .ref (wA w 43)) C fl_X5_22 fs_X5_22 (Nat.lt_of_lt_of_le (by decide) hN) rfl rfl dX5_lots_83 ?_
                  refine g_iload C dX5_lots_86 rfl ?_
                  refine g_iload_n C dX5_lots_88 rfl rfl ?_
                  refine g_ldc C cs_X5_202 dX5_lots_89 ?_
                  refine g_iand C dX5_lots_91 ?_
                  refine g_sipush C dX5_lots_92 sp_256 ?_
                  refine g_idivv (v := (s4 &&& 2147483647) / 256) C (by decide) rfl dX5_lots_95 ?_
                  refine g_aload_n C dX5_lots_96 rfl rfl ?_
                  refine g_get (v := .ref (wA w 41)) C fl_X5_16 fs_X5_16 (Nat.lt_of_lt_of_le (by decide) hN) rfl rfl dX5_lots_97 ?_
                  refine g_bipush C dX5_lots_100 bp_30 ?_
                  refine g_iconst C dX5_lots_102 ic_4 ?_
                  refine g_iload C dX5_lots_103 rfl ?_
                  refine g_imulv (v := nI (4 * e)) C (nj_times 4 e) dX5_lots_105 ?_
                  refine g_iaddv (v := nI (30 + (4 * e))) C (nj_plus 30 (4 * e)) dX5_lots_106 ?_
                  refine g_iconst C dX5_lots_107 ic_1 ?_
                  refine g_iaddv (v := nI ((30 + (4 * e)) + 1)) C (nj_plus (30 + (4 * e)) 1) dX5_lots_108 ?_
                  refine g_ial (k0 := 41) (n := 46) C (Nat.lt_of_lt_of_le (by decide) hN) rfl (j := (30 + (4 * e)) + 1) (ix_n (by omega)) dX5_lots_109 ?_
                  refine g_val (y := nI (q ((30 + (4 * e)) + 1))) (hM3 ((30 + (4 * e)) + 1) (by omega)) ?_
                  refine g_iconst C dX5_lots_110 ic_3 ?_
                  refine g_iaddv (v := nI ((q ((30 + (4 * e)) + 1)) + 3)) C (nj_plus (q ((30 + (4 * e)) + 1)) 3) dX5_lots_111 ?_
                  refine g_iremv (v := nI (dN s4 (q ((30 + (4 * e)) + 1) + 3))) C (nj_ne0 (by omega) (by have := hu9 e (by omega); have z2 := hqa ((30 + (4 * e)) + 1) (by omega) (by omega); omega)) (drw_eq s4 (by have := hu9 e (by omega); have z2 := hqa ((30 + (4 * e)) + 1) (by omega) (by omega); omega)) dX5_lots_112 ?_
                  refine g_ias (k0 := 43) (n := 4) C (Nat.lt_of_lt_of_le (by decide) hN) rfl (j := e) (ix_n (by omega)) dX5_lots_113 (fun σ4 hσ4 => ?_)
                  refine g_iinc (v := nI (e + 1)) (lv' := [(7, .int (nI (e + 1))), (3, .int s4), (0, .ref (wA w 38)), (1, .int (nI m)), (4, .int (nI t2)), (5, .int (nI y)), (6, .int (nI d))]) C dX5_lots_114 (by decide) rfl (nj_inc e) rfl ?_
                  refine g_goto (tgt := 63) C dX5_lots_117 rfl ?_
                  exact g_lvp [2, 3, 1, 4, 5, 6, 0] rfl (ih63 (a 0 - (e + 1)) (by omega) (e + 1) s4 σ4 rfl (by first | omega | assumption | rfl | grind) (by rw [es4, hs3]; rfl) (fun e' h => (Decidable.em (e' = e)).elim (fun z => by subst z; rw [hσ4, up_same, es4, hs3]; exact congrArg (fun b => nI (dN _ (b + 3))) (hqa _ (by omega) (by omega))) (fun z => by rw [hσ4, up_elem z]; exact hh3 e' (by omega))) (hM3.fr (by rw [hσ4, up_other (by decide)])) (hF3.tr (by rw [hσ4]; exact FrM.u (by decide))))
              exact g_lvp [1, 2, 3, 4, 5, 6, 0] rfl (L63 (a 0 - 0) 0 s2 σ2 rfl (by first | omega | assumption | rfl | grind) (rfl) (fun e' h => absurd h (Nat.not_lt_zero _)) (hM2) (hF2))
          exact g_lvp [1, 2, 3, 4, 5, 0] rfl (L53 (28 - 0) 0 s t 0 a σt rfl (by first | omega | assumption | rfl | grind) (rfl) (rfl) (hMt) ((FrM.f hFt (by decide))))
      exact g_lvp [3, 4, 2, 1, 0] rfl (L33 (m - 0) 0 z 0 σ rfl (by first | omega | assumption | rfl | grind) (rfl) (FrN.rf))
    · skip
      have hoc : x < 1 ∨ 20 < x := Or.inr (Int32.not_le.mp c15_2)
      have hkO : kO x 1 = 6 := if_neg hz1
      refine g_aload_n C dX5_lots_18 rfl rfl ?_
      refine g_bipush C dX5_lots_19 bp_m6 ?_
      refine g_callVI (rest := []) C mv_X5_64 (ct_X5_no l w hN σ 6 (by decide) ((-6)) (by decide)) (Nat.lt_of_lt_of_le (by decide) hN) rfl rfl (by decide) rfl (Nat.le_of_ble_eq_true rfl) dX5_lots_21 (fun r8 σ_8 h8 => ?_)
      obtain ⟨er8, hrf⟩ := h8
      rw [er8]
      refine g_iret C r rfl dX5_lots_24 ?_
      exact fm_r hC (by decide) hrf (by unfold spLots; rw [if_pos hoc, hkO]) (by decide)
  · skip
    have hoc : x < 1 ∨ 20 < x := Or.inl (Int32.not_le.mp c2_1)
    have hkO : kO x 1 = 4 := if_pos (Int32.not_le.mp c2_1)
    refine g_aload_n C dX5_lots_5 rfl rfl ?_
    refine g_bipush C dX5_lots_6 bp_m4 ?_
    refine g_callVI (rest := []) C mv_X5_64 (ct_X5_no l w hN σ 4 (by decide) ((-4)) (by decide)) (Nat.lt_of_lt_of_le (by decide) hN) rfl rfl (by decide) rfl (Nat.le_of_ble_eq_true rfl) dX5_lots_8 (fun r9 σ_9 h9 => ?_)
    obtain ⟨er9, hrf⟩ := h9
    rw [er9]
    refine g_iret C r rfl dX5_lots_11 ?_
    exact fm_r hC (by decide) hrf (by unfold spLots; rw [if_pos hoc, hkO]) (by decide)

set_option maxRecDepth 100000 in
set_option maxHeartbeats 4000000 in
theorem ct_X5_out (l : Launch) (w : WD) (hN : 54 ≤ wN w) (σ : SG) (a kp : Row) (tk nl : Nat) (lt : Nat → Nat) (qn : Nat) (qs : Nat → Nat) (rf : Nat → Int32) (hC : CM σ (a, kp, tk, (nl, lt), (qn, qs), rf)) (x : Int32) : CtI l w yX5_out cX5_out 7 (some .int) 7 0 0 [.ref (wA w 38), .int x] σ (fun r τ => r = (spOut (a, kp, tk, (nl, lt), (qn, qs), rf) x).1 ∧ CM τ (spOut (a, kp, tk, (nl, lt), (qn, qs), rf) x).2 ∧ Fr in38 σ τ) := by
  refine CtI.mk (by decide) (Nat.le_of_ble_eq_true rfl) ?_
  intro K C hr h0
  have r := RI.of hr h0
  clear hr h0
  show G l w K 0 [(0, .ref (wA w 38)), (1, .int x)] [] σ
  have hM : Mr σ 40 a := hC.2.1
  have hB : Bd a := hC.1.1.1
  have hd9 : a 1 ≤ 9999 := hC.1.1.2.1
  have hu9 : ∀ e, e < 4 → a (30 + 4 * e + 1) ≤ 9 := hC.1.1.2.2
  obtain ⟨hBa, hB0, hB1, hB2, hB3, hB4, hB5, hB6, hB7, hBs, hBp, hBe⟩ := id hB
  have hs5 := sum5 hB
  obtain ⟨M, hMd⟩ : ∃ q, q = min 20 (sumN (fun k => a (10 + k)) 5) := ⟨_, rfl⟩
  refine g_aload_n C dX5_out_0 rfl rfl ?_
  refine g_iload_n C dX5_out_1 rfl rfl ?_
  refine g_pVI (rest := []) (v := oU x 0 28) C mv_X5_164 (ct_X5_isWrong l w hN σ x) (Nat.lt_of_lt_of_le (by decide) hN) rfl rfl (by decide) rfl (Nat.le_of_ble_eq_true rfl) dX5_out_2 ?_
  refine g_if_ge (tgt := 18) C dX5_out_5 rfl (fun c5_1 => ?_) (fun c5_1 => ?_)
  · skip
    have hz := oU_p (lo := 0) (hi := 28) c5_1
    obtain ⟨m, hm, rfl⟩ := nj_of4 (m := 28) hz
    refine g_iconst C dX5_out_18 ic_0 ?_
    refine g_istore_n (lv' := [(2, .int 0), (0, .ref (wA w 38)), (1, .int (nI m))]) C dX5_out_19 rfl (by decide) rfl ?_
    refine g_iconst C dX5_out_20 ic_0 ?_
    refine g_istore_n (lv' := [(3, .int 0), (2, .int 0), (0, .ref (wA w 38)), (1, .int (nI m))]) C dX5_out_21 rfl (by decide) rfl ?_
    refine g_iconst C dX5_out_22 ic_0 ?_
    refine g_istore (lv' := [(4, .int 0), (3, .int 0), (2, .int 0), (0, .ref (wA w 38)), (1, .int (nI m))]) C dX5_out_23 (by decide) rfl ?_
    have L25 : ∀ (m25 : Nat) (k : Nat) (x1 : Int32) (y1 : Int32) (σ1 : SG), m25 = M + 1 - k → (k ≤ M + 1) → (RC (outV a m) k x1 y1) → (FrN σ σ1) → G l w K 25 [(0, .ref (wA w 38)), (1, .int (nI m)), (2, .int x1), (3, .int y1), (4, .int (nI k))] [] σ1 := by
      intro m25
      induction m25 using Nat.strongRecOn with
      | ind m25 ih25 =>
      intro k x1 y1 σ1 em25 hk hR1 hF1
      have hM1 : Mr σ1 40 a := hM.fr (hF1.1 40 (by decide) (by decide) (by decide) (by decide) (by decide) (by decide))
      refine g_iload C dX5_out_25 rfl ?_
      refine g_bipush C dX5_out_27 bp_20 ?_
      refine g_aload_n C dX5_out_29 rfl rfl ?_
      refine g_get (v := .ref (wA w 40)) C fl_X5_13 fs_X5_13 (Nat.lt_of_lt_of_le (by decide) hN) rfl rfl dX5_out_30 ?_
      refine g_pSI (rest := [.int 20, .int (nI k)]) (v := nI (sumN (fun k => a (10 + k)) 5)) C ms_X5_167 (ct_X5_slices l w hN σ1 40 (Nat.lt_of_lt_of_le (by decide) hN) rfl a hM1 hB) rfl (by decide) rfl (Nat.le_of_ble_eq_true rfl) dX5_out_33 ?_
      refine g_min C ml_X5_78 st_Lib_Math_min ini_Math co_Lib_Math_min (by decide) (Nat.le_of_ble_eq_true rfl) dX5_out_36 ?_
      refine g_val (y := nI M) (by rw [hMd]; exact nj_min (a := 20) (by omega) (by omega)) ?_
      refine g_icmp_gt (tgt := 145) C dX5_out_39 rfl (fun c39_2 => ?_) (fun c39_2 => ?_)
      · skip
        have n39_2 : M < k := (nj_lt (a := M) (b := k) (by omega) (by omega)).mp c39_2
        obtain rfl : k = M + 1 := by omega
        refine g_iload_n C dX5_out_145 rfl rfl ?_
        refine g_iret C r rfl dX5_out_146 ?_
        refine fm_q hC hF1 ?_ hR1.fin.1
        unfold spOut
        rw [if_neg hz, nn_nj (n := m) (by omega), hMd]
      · skip
        have n39_2 : ¬ (M < k) := fun qq => c39_2 ((nj_lt (a := M) (b := k) (by omega) (by omega)).mpr qq)
        refine g_aload_n C dX5_out_42 rfl rfl ?_
        refine g_get (v := .ref (wA w 40)) C fl_X5_13 fs_X5_13 (Nat.lt_of_lt_of_le (by decide) hN) rfl rfl dX5_out_43 ?_
        refine g_aload_n C dX5_out_46 rfl rfl ?_
        refine g_get (v := .ref (wA w 41)) C fl_X5_16 fs_X5_16 (Nat.lt_of_lt_of_le (by decide) hN) rfl rfl dX5_out_47 ?_
        refine g_callSV (rest := []) C ms_X5_60 (ct_X5_move l w hN σ1 40 (Nat.lt_of_lt_of_le (by decide) hN) rfl 41 (Nat.lt_of_lt_of_le (by decide) hN) rfl (by decide) a hM1) rfl (by decide) rfl (Nat.le_of_ble_eq_true rfl) dX5_out_50 (fun σt h3 => ?_)
        obtain ⟨hMt, hFt⟩ := h3
        have hMn : Mr σt 40 a := hM1.fr (hFt 40 (by decide))
        refine g_iconst C dX5_out_53 ic_0 ?_
        refine g_istore (lv' := [(5, .int 0), (0, .ref (wA w 38)), (1, .int (nI m)), (2, .int x1), (3, .int y1), (4, .int (nI k))]) C dX5_out_54 (by decide) rfl ?_
        have L56 : ∀ (m56 : Nat) (i : Nat) (σ2 : SG), m56 = k - i → (i ≤ k) → (Mr σ2 41 (losS a i 5).1) → (FrM σ1 σ2) → G l w K 56 [(0, .ref (wA w 38)), (1, .int (nI m)), (2, .int x1), (3, .int y1), (4, .int (nI k)), (5, .int (nI i))] [] σ2 := by
          intro m56
          induction m56 using Nat.strongRecOn with
          | ind m56 ih56 =>
          intro i σ2 em56 hi hM2 hF2
          obtain ⟨p, hp⟩ : ∃ q, q = (losS a i 5).1 := ⟨_, rfl⟩
          have hMp : Mr σ2 41 p := by rw [hp]; exact hM2
          have hBq : Bd p := by rw [hp]; exact losS_bd hB i 5
          have hBp_ := hBq.1
          have hM21 : Mr σ2 40 a := hM1.fr (hF2.1 40 (by decide) (by decide) (by decide) (by decide) (by decide) (by decide))
          have hp1 : p 1 = a 1 := by rw [hp]; exact losS_at a i 5 1 (by omega)
          refine g_iload C dX5_out_56 rfl ?_
          refine g_iload C dX5_out_58 rfl ?_
          refine g_icmp_ge (tgt := 105) C dX5_out_60 rfl (fun c60_4 => ?_) (fun c60_4 => ?_)
          · skip
            have n60_4 : k ≤ i := (nj_le (a := k) (b := i) (by omega) (by omega)).mp c60_4
            obtain rfl : k = i := by omega
            refine g_aload_n C dX5_out_105 rfl rfl ?_
            refine g_iload_n C dX5_out_106 rfl rfl ?_
            refine g_callVI (rest := []) C mv_X5_171 (ct_X5_valueOf l w hN σ2 p hMp hBq (by omega) m (by omega)) (Nat.lt_of_lt_of_le (by decide) hN) rfl rfl (by decide) rfl (Nat.le_of_ble_eq_true rfl) dX5_out_107 (fun r5 σp h5 => ?_)
            obtain ⟨er5, hFg⟩ := h5
            subst er5
            have hFp : FrN σ σp := (hF1.tr hF2.n).tr hFg.n
            have hMq : Mr σp 40 a := hM.fr (hFp.1 40 (by decide) (by decide) (by decide) (by decide) (by decide) (by decide))
            refine g_iload C dX5_out_110 rfl ?_
            refine g_aload_n C dX5_out_112 rfl rfl ?_
            refine g_get (v := .ref (wA w 40)) C fl_X5_13 fs_X5_13 (Nat.lt_of_lt_of_le (by decide) hN) rfl rfl dX5_out_113 ?_
            refine g_iconst C dX5_out_116 ic_5 ?_
            refine g_ial (k0 := 40) (n := 46) C (Nat.lt_of_lt_of_le (by decide) hN) rfl (j := 5) (by unfold ix; decide) dX5_out_117 ?_
            refine g_val (y := nI (a 5)) (hMq 5 (by omega)) ?_
            refine g_imulv (v := nI k * nI (a 5)) C rfl dX5_out_118 ?_
            refine g_isubv (v := outV a m k) C (by rw [hp]; rfl) dX5_out_119 ?_
            refine g_istore (lv' := [(5, .int (outV a m k)), (0, .ref (wA w 38)), (1, .int (nI m)), (2, .int x1), (3, .int y1), (4, .int (nI k))]) C dX5_out_120 (by decide) rfl ?_
            have L139 : ∀ (x2 : Int32) (y2 : Int32) (σ3 : SG), (RC (outV a m) (k + 1) x2 y2) → (FrN σ σ3) → G l w K 139 [(0, .ref (wA w 38)), (1, .int (nI m)), (2, .int x2), (3, .int y2), (4, .int (nI k))] [] σ3 := by
              intro x2 y2 σ3 hR2 hF4
              refine g_iinc (v := nI (k + 1)) (lv' := [(4, .int (nI (k + 1))), (0, .ref (wA w 38)), (1, .int (nI m)), (2, .int x2), (3, .int y2)]) C dX5_out_139 (by decide) rfl (nj_inc k) rfl ?_
              refine g_goto (tgt := 25) C dX5_out_142 rfl ?_
              exact g_lvp [1, 2, 3, 4, 0] rfl (ih25 (M + 1 - (k + 1)) (by omega) (k + 1) x2 y2 σ3 rfl (by first | omega | assumption | rfl | grind) (hR2) (hF4))
            refine g_iload C dX5_out_122 rfl ?_
            refine g_if_eq (tgt := 133) C dX5_out_124 rfl (fun c124_6 => ?_) (fun c124_6 => ?_)
            · skip
              have n124_6 : k = 0 := (nj_eq (a := k) (b := 0) (by omega) (by omega)).mp c124_6
              refine g_iload C dX5_out_133 rfl ?_
              refine g_istore_n (lv' := [(3, .int (outV a m k)), (5, .int (outV a m k)), (0, .ref (wA w 38)), (1, .int (nI m)), (2, .int x1), (4, .int (nI k))]) C dX5_out_135 rfl (by decide) rfl ?_
              refine g_iload C dX5_out_136 rfl ?_
              refine g_istore_n (lv' := [(2, .int (nI k)), (3, .int (outV a m k)), (5, .int (outV a m k)), (0, .ref (wA w 38)), (1, .int (nI m)), (4, .int (nI k))]) C dX5_out_138 rfl (by decide) rfl ?_
              exact g_lvp [3, 4, 0, 1, 5] rfl (L139 (nI k) (outV a m k) σp (hR1.take (by first | exact Or.inl (by omega) | exact Or.inr (Int32.not_le.mp (by assumption)))) (hFp))
            · skip
              have n124_6 : ¬ (k = 0) := fun qq => c124_6 ((nj_eq (a := k) (b := 0) (by omega) (by omega)).mpr qq)
              refine g_iload C dX5_out_127 rfl ?_
              refine g_iload_n C dX5_out_129 rfl rfl ?_
              refine g_icmp_le (tgt := 139) C dX5_out_130 rfl (fun c130_7 => ?_) (fun c130_7 => ?_)
              · skip
                exact g_lvp [1, 2, 3, 4, 5] rfl (L139 x1 y1 σp (hR1.keep (by omega) (by omega) (by assumption)) (hFp))
              · skip
                refine g_iload C dX5_out_133 rfl ?_
                refine g_istore_n (lv' := [(3, .int (outV a m k)), (5, .int (outV a m k)), (0, .ref (wA w 38)), (1, .int (nI m)), (2, .int x1), (4, .int (nI k))]) C dX5_out_135 rfl (by decide) rfl ?_
                refine g_iload C dX5_out_136 rfl ?_
                refine g_istore_n (lv' := [(2, .int (nI k)), (3, .int (outV a m k)), (5, .int (outV a m k)), (0, .ref (wA w 38)), (1, .int (nI m)), (4, .int (nI k))]) C dX5_out_138 rfl (by decide) rfl ?_
                exact g_lvp [3, 4, 0, 1, 5] rfl (L139 (nI k) (outV a m k) σp (hR1.take (by first | exact Or.inl (by omega) | exact Or.inr (Int32.not_le.mp (by assumption)))) (hFp))
          · skip
            have n60_4 : ¬ (k ≤ i) := fun qq => c60_4 ((nj_le (a := k) (b := i) (by omega) (by omega)).mpr qq)
            refine g_iconst C dX5_out_63 ic_4 ?_
            refine g_istore (lv' := [(6, .int 4), (0, .ref (wA w 38)), (1, .int (nI m)), (2, .int x1), (3, .int y1), (4, .int (nI k)), (5, .int (nI i))]) C dX5_out_64 (by decide) rfl ?_
            have L66 : ∀ (m66 : Nat) (g : Nat), m66 = g → (g ≤ 4) → (∀ q, g < q → q ≤ 4 → p (10 + q) = 0) → G l w K 66 [(0, .ref (wA w 38)), (1, .int (nI m)), (2, .int x1), (3, .int y1), (4, .int (nI k)), (5, .int (nI i)), (6, .int (nI g))] [] σ2 := by
              intro m66
              induction m66 using Nat.strongRecOn with
              | ind m66 ih66 =>
              intro g em66 hg hzz
              have hpg := hBp_ (10 + g)
              refine g_aload_n C dX5_out_66 rfl rfl ?_
              refine g_get (v := .ref (wA w 41)) C fl_X5_16 fs_X5_16 (Nat.lt_of_lt_of_le (by decide) hN) rfl rfl dX5_out_67 ?_
              refine g_bipush C dX5_out_70 bp_10 ?_
              refine g_iload C dX5_out_72 rfl ?_
              refine g_iaddv (v := nI (10 + g)) C (nj_plus 10 g) dX5_out_74 ?_
              refine g_ial (k0 := 41) (n := 46) C (Nat.lt_of_lt_of_le (by decide) hN) rfl (j := 10 + g) (ix_n (by omega)) dX5_out_75 ?_
              refine g_val (y := nI (p (10 + g))) (hMp (10 + g) (by omega)) ?_
              refine g_if_ne (tgt := 85) C dX5_out_76 rfl (fun c76_8 => ?_) (fun c76_8 => ?_)
              · skip
                have n76_8 : ¬ (p (10 + g) = 0) := fun qq => c76_8 ((nj_eq (a := p (10 + g)) (b := 0) (by omega) (by omega)).mpr qq)
                refine g_aload_n C dX5_out_85 rfl rfl ?_
                refine g_get (v := .ref (wA w 41)) C fl_X5_16 fs_X5_16 (Nat.lt_of_lt_of_le (by decide) hN) rfl rfl dX5_out_86 ?_
                refine g_bipush C dX5_out_89 bp_10 ?_
                refine g_iload C dX5_out_91 rfl ?_
                refine g_iaddv (v := nI (10 + g)) C (nj_plus 10 g) dX5_out_93 ?_
                refine g_dup2 C dX5_out_94 rfl rfl ?_
                refine g_ial (k0 := 41) (n := 46) C (Nat.lt_of_lt_of_le (by decide) hN) rfl (j := 10 + g) (ix_n (by omega)) dX5_out_95 ?_
                refine g_val (y := nI (p (10 + g))) (hMp (10 + g) (by omega)) ?_
                refine g_iconst C dX5_out_96 ic_1 ?_
                refine g_isubv (v := nI ((p (10 + g)) - 1)) C (nj_minus (a := p (10 + g)) (b := 1) (by omega)) dX5_out_97 ?_
                refine g_ias (k0 := 41) (n := 46) C (Nat.lt_of_lt_of_le (by decide) hN) rfl (j := 10 + g) (ix_n (by omega)) dX5_out_98 (fun σv hσv => ?_)
                refine g_iinc (v := nI (i + 1)) (lv' := [(5, .int (nI (i + 1))), (0, .ref (wA w 38)), (1, .int (nI m)), (2, .int x1), (3, .int y1), (4, .int (nI k)), (6, .int (nI g))]) C dX5_out_99 (by decide) rfl (nj_inc i) rfl ?_
                refine g_goto (tgt := 56) C dX5_out_102 rfl ?_
                exact g_lvp [1, 2, 3, 4, 5, 0] rfl (ih56 (k - (i + 1)) (by omega) (i + 1) σv rfl (by first | omega | assumption | rfl | grind) (by rw [hσv, ← los_step (g := g) (by omega) (by rw [← hp]; exact hzz) (by rw [← hp]; omega), ← hp]; exact hMp.u) (hF2.tr (by rw [hσv]; exact FrM.u (by decide))))
              · skip
                have n76_8 : p (10 + g) = 0 := (nj_eq (a := p (10 + g)) (b := 0) (by omega) (by omega)).mp c76_8
                have hg1 : 1 ≤ g := Nat.pos_of_ne_zero (fun z => by subst z; exact los_pos (a := a) (i := i) (by omega) (by rw [← hp]; exact hzz) (by rw [← hp]; omega))
                refine g_iinc (v := nI (g - 1)) (lv' := [(6, .int (nI (g - 1))), (0, .ref (wA w 38)), (1, .int (nI m)), (2, .int x1), (3, .int y1), (4, .int (nI k)), (5, .int (nI i))]) C dX5_out_79 (by decide) rfl (nj_dec (by omega)) rfl ?_
                refine g_goto (tgt := 66) C dX5_out_82 rfl ?_
                exact g_lvp [1, 2, 3, 4, 5, 6, 0] rfl (ih66 ((g - 1)) (by omega) (g - 1) rfl (by first | omega | assumption | rfl | grind) (fun q h1 h2 => (Decidable.em (q = g)).elim (fun z => by rw [z]; omega) (fun z => hzz q (by omega) h2)))
            exact g_lvp [1, 2, 3, 4, 5, 6, 0] rfl (L66 (4) 4 rfl (by first | omega | assumption | rfl | grind) (fun q h1 h2 => by omega))
        exact g_lvp [1, 2, 3, 4, 5, 0] rfl (L56 (k - 0) 0 σt rfl (by first | omega | assumption | rfl | grind) (by rw [los_0]; exact hMt) ((FrM.f hFt (by decide))))
    exact g_lvp [3, 4, 2, 1, 0] rfl (L25 (M + 1 - 0) 0 0 0 σ rfl (by first | omega | assumption | rfl | grind) (RC.z) (FrN.rf))
  · skip
    have hoc := oU_z c5_1
    refine g_aload_n C dX5_out_8 rfl rfl ?_
    refine g_aload_n C dX5_out_9 rfl rfl ?_
    refine g_iload_n C dX5_out_10 rfl rfl ?_
    refine g_pVI (rest := [.ref (wA w 38)]) (v := oU x 0 28) C mv_X5_164 (ct_X5_isWrong l w hN σ x) (Nat.lt_of_lt_of_le (by decide) hN) rfl rfl (by decide) rfl (Nat.le_of_ble_eq_true rfl) dX5_out_11 ?_
    refine g_callVI (rest := []) C mv_X5_64 (ct_X5_no l w hN σ (kO x 0) (kO_in _ _) (oU x 0 28) (outk hoc)) (Nat.lt_of_lt_of_le (by decide) hN) rfl rfl (by decide) rfl (Nat.le_of_ble_eq_true rfl) dX5_out_14 (fun r9 σ_9 h9 => ?_)
    obtain ⟨er9, hrf⟩ := h9
    rw [er9]
    refine g_iret C r rfl dX5_out_17 ?_
    exact fm_r hC (kO_in _ _) hrf (by unfold spOut; rw [if_pos (outp hoc)]) (outv hoc)
set_option maxRecDepth 100000 in
set_option maxHeartbeats 4000000 in
theorem ct_X5_less (l : Launch) (w : WD) (hN : 54 ≤ wN w) (σ : SG) (a kp : Row) (tk nl : Nat) (lt : Nat → Nat) (qn : Nat) (qs : Nat → Nat) (rf : Nat → Int32) (hC : CM σ (a, kp, tk, (nl, lt), (qn, qs), rf)) (x : Int32) : CtI l w yX5_less cX5_less 5 (some .int) 6 0 0 [.ref (wA w 38), .int x] σ (fun r τ => r = (spLess (a, kp, tk, (nl, lt), (qn, qs), rf) x).1 ∧ CM τ (spLess (a, kp, tk, (nl, lt), (qn, qs), rf) x).2 ∧ Fr in38 σ τ) := by
  refine CtI.mk (by decide) (Nat.le_of_ble_eq_true rfl) ?_
  intro K C hr h0
  have r := RI.of hr h0
  clear hr h0
  show G l w K 0 [(0, .ref (wA w 38)), (1, .int x)] [] σ
  have hM : Mr σ 40 a := hC.2.1
  have hB : Bd a := hC.1.1.1
  have hd9 : a 1 ≤ 9999 := hC.1.1.2.1
  have hu9 : ∀ e, e < 4 → a (30 + 4 * e + 1) ≤ 9 := hC.1.1.2.2
  obtain ⟨hBa, hB0, hB1, hB2, hB3, hB4, hB5, hB6, hB7, hBs, hBp, hBe⟩ := id hB
  have hs7 := sum7 hB
  refine g_aload_n C dX5_less_0 rfl rfl ?_
  refine g_iload_n C dX5_less_1 rfl rfl ?_
  refine g_pVI (rest := []) (v := oU x 0 28) C mv_X5_164 (ct_X5_isWrong l w hN σ x) (Nat.lt_of_lt_of_le (by decide) hN) rfl rfl (by decide) rfl (Nat.le_of_ble_eq_true rfl) dX5_less_2 ?_
  refine g_if_ge (tgt := 18) C dX5_less_5 rfl (fun c5_1 => ?_) (fun c5_1 => ?_)
  · skip
    have hz := oU_p (lo := 0) (hi := 28) c5_1
    obtain ⟨m, hm, rfl⟩ := nj_of4 (m := 28) hz
    refine g_aload_n C dX5_less_18 rfl rfl ?_
    refine g_pVI (rest := []) (v := nI (sumN (fun k => a (20 + k)) 7)) C mv_X5_174 (ct_X5_openDays l w hN σ a hM hB) (Nat.lt_of_lt_of_le (by decide) hN) rfl rfl (by decide) rfl (Nat.le_of_ble_eq_true rfl) dX5_less_19 ?_
    refine g_if_ne (tgt := 28) C dX5_less_22 rfl (fun c22_2 => ?_) (fun c22_2 => ?_)
    · skip
      have n22_2 : ¬ (sumN (fun k => a (20 + k)) 7 = 0) := fun qq => c22_2 ((nj_eq (a := sumN (fun k => a (20 + k)) 7) (b := 0) (by omega) (by omega)).mpr qq)
      have hs0 : ¬ sumN (fun k => a (20 + k)) 7 = 0 := by omega
      refine g_iconst C dX5_less_28 ic_0 ?_
      refine g_istore_n (lv' := [(2, .int 0), (0, .ref (wA w 38)), (1, .int (nI m))]) C dX5_less_29 rfl (by decide) rfl ?_
      refine g_iconst C dX5_less_30 ic_0 ?_
      refine g_istore_n (lv' := [(3, .int 0), (2, .int 0), (0, .ref (wA w 38)), (1, .int (nI m))]) C dX5_less_31 rfl (by decide) rfl ?_
      refine g_iconst C dX5_less_32 ic_0 ?_
      refine g_istore (lv' := [(4, .int 0), (3, .int 0), (2, .int 0), (0, .ref (wA w 38)), (1, .int (nI m))]) C dX5_less_33 (by decide) rfl ?_
      have L35 : ∀ (m35 : Nat) (k : Nat) (x1 : Int32) (y1 : Int32) (σ1 : SG), m35 = a 2 + 1 - k → (k ≤ a 2 + 1) → (RC (fun k => nV a k m) k x1 y1) → (FrN σ σ1) → G l w K 35 [(0, .ref (wA w 38)), (1, .int (nI m)), (2, .int x1), (3, .int y1), (4, .int (nI k))] [] σ1 := by
        intro m35
        induction m35 using Nat.strongRecOn with
        | ind m35 ih35 =>
        intro k x1 y1 σ1 em35 hk hR1 hF1
        have hM1 : Mr σ1 40 a := hM.fr (hF1.1 40 (by decide) (by decide) (by decide) (by decide) (by decide) (by decide))
        refine g_iload C dX5_less_35 rfl ?_
        refine g_aload_n C dX5_less_37 rfl rfl ?_
        refine g_get (v := .ref (wA w 40)) C fl_X5_13 fs_X5_13 (Nat.lt_of_lt_of_le (by decide) hN) rfl rfl dX5_less_38 ?_
        refine g_iconst C dX5_less_41 ic_2 ?_
        refine g_ial (k0 := 40) (n := 46) C (Nat.lt_of_lt_of_le (by decide) hN) rfl (j := 2) (by unfold ix; decide) dX5_less_42 ?_
        refine g_val (y := nI (a 2)) (hM1 2 (by omega)) ?_
        refine g_icmp_gt (tgt := 95) C dX5_less_43 rfl (fun c43_3 => ?_) (fun c43_3 => ?_)
        · skip
          have n43_3 : a 2 < k := (nj_lt (a := a 2) (b := k) (by have := hBa 2; omega) (by have := hBa 2; omega)).mp c43_3
          obtain rfl : k = a 2 + 1 := by omega
          refine g_iload_n C dX5_less_95 rfl rfl ?_
          refine g_iret C r rfl dX5_less_96 ?_
          refine fm_q hC hF1 ?_ hR1.fin.1
          unfold spLess
          rw [if_neg hz, if_neg hs0, nn_nj (n := m) (by omega)]
        · skip
          have n43_3 : ¬ (a 2 < k) := fun qq => c43_3 ((nj_lt (a := a 2) (b := k) (by have := hBa 2; omega) (by have := hBa 2; omega)).mpr qq)
          refine g_aload_n C dX5_less_46 rfl rfl ?_
          refine g_get (v := .ref (wA w 40)) C fl_X5_13 fs_X5_13 (Nat.lt_of_lt_of_le (by decide) hN) rfl rfl dX5_less_47 ?_
          refine g_aload_n C dX5_less_50 rfl rfl ?_
          refine g_get (v := .ref (wA w 41)) C fl_X5_16 fs_X5_16 (Nat.lt_of_lt_of_le (by decide) hN) rfl rfl dX5_less_51 ?_
          refine g_callSV (rest := []) C ms_X5_60 (ct_X5_move l w hN σ1 40 (Nat.lt_of_lt_of_le (by decide) hN) rfl 41 (Nat.lt_of_lt_of_le (by decide) hN) rfl (by decide) a hM1) rfl (by decide) rfl (Nat.le_of_ble_eq_true rfl) dX5_less_54 (fun σt h4 => ?_)
          obtain ⟨hMt, hFt⟩ := h4
          have hMn : Mr σt 40 a := hM1.fr (hFt 40 (by decide))
          refine g_aload_n C dX5_less_57 rfl rfl ?_
          refine g_iload_n C dX5_less_58 rfl rfl ?_
          refine g_iload C dX5_less_59 rfl ?_
          refine g_callVV (rest := []) C mv_X5_115 (ct_X5_goOn l w hN σt a hMt hB (by omega) m (by omega) k (by omega)) (Nat.lt_of_lt_of_le (by decide) hN) rfl rfl (by decide) rfl (Nat.le_of_ble_eq_true rfl) dX5_less_61 (fun σp h5 => ?_)
          obtain ⟨hMg, hSg, hFg⟩ := h5
          have hFp : FrN σ σp := hF1.tr ((FrM.f hFt (by decide)).tr hFg).n
          have L89 : ∀ (x2 : Int32) (y2 : Int32) (σ3 : SG), (RC (fun k => nV a k m) (k + 1) x2 y2) → (FrN σ σ3) → G l w K 89 [(0, .ref (wA w 38)), (1, .int (nI m)), (2, .int x2), (3, .int y2), (4, .int (nI k))] [] σ3 := by
            intro x2 y2 σ3 hR2 hF4
            refine g_iinc (v := nI (k + 1)) (lv' := [(4, .int (nI (k + 1))), (0, .ref (wA w 38)), (1, .int (nI m)), (2, .int x2), (3, .int y2)]) C dX5_less_89 (by decide) rfl (nj_inc k) rfl ?_
            refine g_goto (tgt := 35) C dX5_less_92 rfl ?_
            exact g_lvp [1, 2, 3, 4, 0] rfl (ih35 (a 2 + 1 - (k + 1)) (by omega) (k + 1) x2 y2 σ3 rfl (by first | omega | assumption | rfl | grind) (hR2) (hF4))
          refine g_iload C dX5_less_64 rfl ?_
          refine g_if_eq (tgt := 79) C dX5_less_66 rfl (fun c66_6 => ?_) (fun c66_6 => ?_)
          · skip
            have n66_6 : k = 0 := (nj_eq (a := k) (b := 0) (by omega) (by omega)).mp c66_6
            refine g_aload_n C dX5_less_79 rfl rfl ?_
            refine g_get (v := .ref (wA w 45)) C fl_X5_28 fs_X5_28 (Nat.lt_of_lt_of_le (by decide) hN) rfl rfl dX5_less_80 ?_
            refine g_iconst C dX5_less_83 ic_0 ?_
            refine g_ial (k0 := 45) (n := 6) C (Nat.lt_of_lt_of_le (by decide) hN) rfl (j := 0) (by unfold ix; decide) dX5_less_84 ?_
            refine g_val (y := nV a k m) hSg.1 ?_
            refine g_istore_n (lv' := [(3, .int (nV a k m)), (0, .ref (wA w 38)), (1, .int (nI m)), (2, .int x1), (4, .int (nI k))]) C dX5_less_85 rfl (by decide) rfl ?_
            refine g_iload C dX5_less_86 rfl ?_
            refine g_istore_n (lv' := [(2, .int (nI k)), (3, .int (nV a k m)), (0, .ref (wA w 38)), (1, .int (nI m)), (4, .int (nI k))]) C dX5_less_88 rfl (by decide) rfl ?_
            exact g_lvp [2, 3, 0, 1, 4] rfl (L89 (nI k) (nV a k m) σp (hR1.take (by first | exact Or.inl (by omega) | exact Or.inr (Int32.not_le.mp (by assumption)))) (hFp))
          · skip
            have n66_6 : ¬ (k = 0) := fun qq => c66_6 ((nj_eq (a := k) (b := 0) (by omega) (by omega)).mpr qq)
            refine g_aload_n C dX5_less_69 rfl rfl ?_
            refine g_get (v := .ref (wA w 45)) C fl_X5_28 fs_X5_28 (Nat.lt_of_lt_of_le (by decide) hN) rfl rfl dX5_less_70 ?_
            refine g_iconst C dX5_less_73 ic_0 ?_
            refine g_ial (k0 := 45) (n := 6) C (Nat.lt_of_lt_of_le (by decide) hN) rfl (j := 0) (by unfold ix; decide) dX5_less_74 ?_
            refine g_val (y := nV a k m) hSg.1 ?_
            refine g_iload_n C dX5_less_75 rfl rfl ?_
            refine g_icmp_le (tgt := 89) C dX5_less_76 rfl (fun c76_7 => ?_) (fun c76_7 => ?_)
            · skip
              exact g_lvp [0, 1, 2, 3, 4] rfl (L89 x1 y1 σp (hR1.keep (by omega) (by omega) (by assumption)) (hFp))
            · skip
              refine g_aload_n C dX5_less_79 rfl rfl ?_
              refine g_get (v := .ref (wA w 45)) C fl_X5_28 fs_X5_28 (Nat.lt_of_lt_of_le (by decide) hN) rfl rfl dX5_less_80 ?_
              refine g_iconst C dX5_less_83 ic_0 ?_
              refine g_ial (k0 := 45) (n := 6) C (Nat.lt_of_lt_of_le (by decide) hN) rfl (j := 0) (by unfold ix; decide) dX5_less_84 ?_
              refine g_val (y := nV a k m) hSg.1 ?_
              refine g_istore_n (lv' := [(3, .int (nV a k m)), (0, .ref (wA w 38)), (1, .int (nI m)), (2, .int x1), (4, .int (nI k))]) C dX5_less_85 rfl (by decide) rfl ?_
              refine g_iload C dX5_less_86 rfl ?_
              refine g_istore_n (lv' := [(2, .int (nI k)), (3, .int (nV a k m)), (0, .ref (wA w 38)), (1, .int (nI m)), (4, .int (nI k))]) C dX5_less_88 rfl (by decide) rfl ?_
              exact g_lvp [2, 3, 0, 1, 4] rfl (L89 (nI k) (nV a k m) σp (hR1.take (by first | exact Or.inl (by omega) | exact Or.inr (Int32.not_le.mp (by assumption)))) (hFp))
      exact g_lvp [3, 4, 2, 1, 0] rfl (L35 (a 2 + 1 - 0) 0 0 0 σ rfl (by first | omega | assumption | rfl | grind) (RC.z) (FrN.rf))
    · skip
      have n22_2 : sumN (fun k => a (20 + k)) 7 = 0 := (nj_eq (a := sumN (fun k => a (20 + k)) 7) (b := 0) (by omega) (by omega)).mp c22_2
      refine g_bipush C dX5_less_25 bp_m9 ?_
      refine g_iret C r rfl dX5_less_27 ?_
      refine fm_q hC FrN.rf ?_ rfl
      unfold spLess
      rw [if_neg hz, if_pos (show sumN (fun k => a (20 + k)) 7 = 0 by omega)]
  · skip
    have hoc := oU_z c5_1
    refine g_aload_n C dX5_less_8 rfl rfl ?_
    refine g_aload_n C dX5_less_9 rfl rfl ?_
    refine g_iload_n C dX5_less_10 rfl rfl ?_
    refine g_pVI (rest := [.ref (wA w 38)]) (v := oU x 0 28) C mv_X5_164 (ct_X5_isWrong l w hN σ x) (Nat.lt_of_lt_of_le (by decide) hN) rfl rfl (by decide) rfl (Nat.le_of_ble_eq_true rfl) dX5_less_11 ?_
    refine g_callVI (rest := []) C mv_X5_64 (ct_X5_no l w hN σ (kO x 0) (kO_in _ _) (oU x 0 28) (outk hoc)) (Nat.lt_of_lt_of_le (by decide) hN) rfl rfl (by decide) rfl (Nat.le_of_ble_eq_true rfl) dX5_less_14 (fun r8 σ_8 h8 => ?_)
    obtain ⟨er8, hrf⟩ := h8
    rw [er8]
    refine g_iret C r rfl dX5_less_17 ?_
    exact fm_r hC (kO_in _ _) hrf (by unfold spLess; rw [if_pos (outp hoc)]) (outv hoc)
set_option maxRecDepth 100000 in
set_option maxHeartbeats 4000000 in
theorem ct_X5_close (l : Launch) (w : WD) (hN : 54 ≤ wN w) (σ : SG) (a kp : Row) (tk nl : Nat) (lt : Nat → Nat) (qn : Nat) (qs : Nat → Nat) (rf : Nat → Int32) (hC : CM σ (a, kp, tk, (nl, lt), (qn, qs), rf)) : CtI l w yX5_close cX5_close 5 (some .int) 7 0 0 [.ref (wA w 38)] σ (fun r τ => r = (spClose (a, kp, tk, (nl, lt), (qn, qs), rf)).1 ∧ CM τ (spClose (a, kp, tk, (nl, lt), (qn, qs), rf)).2 ∧ Fr in38 σ τ) := by
  refine CtI.mk (by decide) (Nat.le_of_ble_eq_true rfl) ?_
  intro K C hr h0
  have r := RI.of hr h0
  clear hr h0
  show G l w K 0 [(0, .ref (wA w 38))] [] σ
  have hM : Mr σ 40 a := hC.2.1
  have hB : Bd a := hC.1.1.1
  have hd9 : a 1 ≤ 9999 := hC.1.1.2.1
  have hu9 : ∀ e, e < 4 → a (30 + 4 * e + 1) ≤ 9 := hC.1.1.2.2
  obtain ⟨hBa, hB0, hB1, hB2, hB3, hB4, hB5, hB6, hB7, hBs, hBp, hBe⟩ := id hB
  obtain ⟨FV, hFV⟩ : ∃ f : Nat → Int32, f = (fun d => nV (ua a (20 + d) 0) 0 14) := ⟨_, rfl⟩
  refine g_bipush C dX5_close_0 bp_m9 ?_
  refine g_istore_n (lv' := [(1, .int ((-9))), (0, .ref (wA w 38))]) C dX5_close_2 rfl (by decide) rfl ?_
  refine g_iconst C dX5_close_3 ic_0 ?_
  refine g_istore_n (lv' := [(2, .int 0), (1, .int ((-9))), (0, .ref (wA w 38))]) C dX5_close_4 rfl (by decide) rfl ?_
  refine g_iconst C dX5_close_5 ic_0 ?_
  refine g_istore_n (lv' := [(3, .int 0), (2, .int 0), (1, .int ((-9))), (0, .ref (wA w 38))]) C dX5_close_6 rfl (by decide) rfl ?_
  have L7 : ∀ (m7 : Nat) (d : Nat) (x1 : Int32) (y1 : Int32) (σ1 : SG), m7 = 7 - d → (d ≤ 7) → (x1 = (chF FV (fun d => decide (a (20 + d) = 1)) d).1) → (y1 = (chF FV (fun d => decide (a (20 + d) = 1)) d).2) → (FrN σ σ1) → G l w K 7 [(0, .ref (wA w 38)), (1, .int x1), (2, .int y1), (3, .int (nI d))] [] σ1 := by
    intro m7
    induction m7 using Nat.strongRecOn with
    | ind m7 ih7 =>
    intro d x1 y1 σ1 em7 hd hx1 hy1 hF1
    have hM1 : Mr σ1 40 a := hM.fr (hF1.1 40 (by decide) (by decide) (by decide) (by decide) (by decide) (by decide))
    refine g_iload_n C dX5_close_7 rfl rfl ?_
    refine g_bipush C dX5_close_8 bp_7 ?_
    refine g_icmp_ge (tgt := 78) C dX5_close_10 rfl (fun c10_1 => ?_) (fun c10_1 => ?_)
    · skip
      have n10_1 : 7 ≤ d := (nj_le (a := 7) (b := d) (by omega) (by omega)).mp c10_1
      obtain rfl : d = 7 := by omega
      refine g_iload_n C dX5_close_78 rfl rfl ?_
      refine g_iret C r rfl dX5_close_79 ?_
      exact fm_q hC hF1 (by rw [hFV]; rfl) hx1
    · skip
      have n10_1 : ¬ (7 ≤ d) := fun qq => c10_1 ((nj_le (a := 7) (b := d) (by omega) (by omega)).mpr qq)
      have L72 : ∀ (x2 : Int32) (y2 : Int32) (σ3 : SG), (x2 = (chF FV (fun d => decide (a (20 + d) = 1)) (d + 1)).1) → (y2 = (chF FV (fun d => decide (a (20 + d) = 1)) (d + 1)).2) → (FrN σ σ3) → G l w K 72 [(0, .ref (wA w 38)), (1, .int x2), (2, .int y2), (3, .int (nI d))] [] σ3 := by
        intro x2 y2 σ3 hx2 hy2 hF4
        refine g_iinc (v := nI (d + 1)) (lv' := [(3, .int (nI (d + 1))), (0, .ref (wA w 38)), (1, .int x2), (2, .int y2)]) C dX5_close_72 (by decide) rfl (nj_inc d) rfl ?_
        refine g_goto (tgt := 7) C dX5_close_75 rfl ?_
        exact g_lvp [1, 2, 3, 0] rfl (ih7 (7 - (d + 1)) (by omega) (d + 1) x2 y2 σ3 rfl (by first | omega | assumption | rfl | grind) (hx2) (hy2) (hF4))
      refine g_aload_n C dX5_close_13 rfl rfl ?_
      refine g_get (v := .ref (wA w 40)) C fl_X5_13 fs_X5_13 (Nat.lt_of_lt_of_le (by decide) hN) rfl rfl dX5_close_14 ?_
      refine g_bipush C dX5_close_17 bp_20 ?_
      refine g_iload_n C dX5_close_19 rfl rfl ?_
      refine g_iaddv (v := nI (20 + d)) C (nj_plus 20 d) dX5_close_20 ?_
      refine g_ial (k0 := 40) (n := 46) C (Nat.lt_of_lt_of_le (by decide) hN) rfl (j := 20 + d) (ix_n (by omega)) dX5_close_21 ?_
      refine g_val (y := nI (a (20 + d))) (hM1 (20 + d) (by omega)) ?_
      refine g_iconst C dX5_close_22 ic_1 ?_
      refine g_icmp_ne (tgt := 72) C dX5_close_23 rfl (fun c23_2 => ?_) (fun c23_2 => ?_)
      · skip
        have n23_2 : ¬ (a (20 + d) = 1) := fun qq => c23_2 ((nj_eq (a := a (20 + d)) (b := 1) (by have := hBa (20 + d); omega) (by have := hBa (20 + d); omega)).mpr qq)
        have hst : chF FV (fun d => decide (a (20 + d) = 1)) (d + 1) = chF FV (fun d => decide (a (20 + d) = 1)) d := chF_f (by simp only [decide_eq_false_iff_not]; omega)
        exact g_lvp [0, 1, 2, 3] rfl (L72 x1 y1 σ1 (by rw [hst]; exact hx1) (by rw [hst]; exact hy1) (hF1))
      · skip
        have n23_2 : a (20 + d) = 1 := (nj_eq (a := a (20 + d)) (b := 1) (by have := hBa (20 + d); omega) (by have := hBa (20 + d); omega)).mp c23_2
        refine g_aload_n C dX5_close_26 rfl rfl ?_
        refine g_get (v := .ref (wA w 40)) C fl_X5_13 fs_X5_13 (Nat.lt_of_lt_of_le (by decide) hN) rfl rfl dX5_close_27 ?_
        refine g_aload_n C dX5_close_30 rfl rfl ?_
        refine g_get (v := .ref (wA w 41)) C fl_X5_16 fs_X5_16 (Nat.lt_of_lt_of_le (by decide) hN) rfl rfl dX5_close_31 ?_
        refine g_callSV (rest := []) C ms_X5_60 (ct_X5_move l w hN σ1 40 (Nat.lt_of_lt_of_le (by decide) hN) rfl 41 (Nat.lt_of_lt_of_le (by decide) hN) rfl (by decide) a hM1) rfl (by decide) rfl (Nat.le_of_ble_eq_true rfl) dX5_close_34 (fun σt h3 => ?_)
        obtain ⟨hMt, hFt⟩ := h3
        have hMn : Mr σt 40 a := hM1.fr (hFt 40 (by decide))
        refine g_aload_n C dX5_close_37 rfl rfl ?_
        refine g_get (v := .ref (wA w 41)) C fl_X5_16 fs_X5_16 (Nat.lt_of_lt_of_le (by decide) hN) rfl rfl dX5_close_38 ?_
        refine g_bipush C dX5_close_41 bp_20 ?_
        refine g_iload_n C dX5_close_43 rfl rfl ?_
        refine g_iaddv (v := nI (20 + d)) C (nj_plus 20 d) dX5_close_44 ?_
        refine g_iconst C dX5_close_45 ic_0 ?_
        refine g_ias (k0 := 41) (n := 46) C (Nat.lt_of_lt_of_le (by decide) hN) rfl (j := 20 + d) (ix_n (by omega)) dX5_close_46 (fun σu hσu => ?_)
        have hMu : Mr σu 41 (ua a (20 + d) 0) := by rw [hσu]; exact hMt.u (v := 0)
        have hBu : Bd (ua a (20 + d) 0) := hB.uo (by omega) (by omega)
        have hu1 : (ua a (20 + d) 0) 1 = a 1 := by rw [ua_at, if_neg (by omega)]
        refine g_aload_n C dX5_close_47 rfl rfl ?_
        refine g_bipush C dX5_close_48 bp_14 ?_
        refine g_callVI (rest := []) C mv_X5_171 (ct_X5_valueOf l w hN σu (ua a (20 + d) 0) hMu hBu (by rw [hu1]; omega) 14 (by omega)) (Nat.lt_of_lt_of_le (by decide) hN) rfl rfl (by decide) rfl (Nat.le_of_ble_eq_true rfl) dX5_close_50 (fun r4 σp h4 => ?_)
        obtain ⟨er4, hFg⟩ := h4
        subst er4
        refine g_val (y := FV d) (congrFun hFV d).symm ?_
        have hFp : FrN σ σp := hF1.tr (((FrM.f hFt (by decide)).tr (show FrM σt σu by rw [hσu]; exact FrM.u (by decide))).tr hFg).n
        refine g_istore (lv' := [(4, .int (FV d)), (0, .ref (wA w 38)), (1, .int x1), (2, .int y1), (3, .int (nI d))]) C dX5_close_53 (by decide) rfl ?_
        refine g_iload_n C dX5_close_55 rfl rfl ?_
        refine g_bipush C dX5_close_56 bp_m9 ?_
        refine g_icmp_eq (tgt := 67) C dX5_close_58 rfl (fun c58_5 => ?_) (fun c58_5 => ?_)
        · skip
          have htk : (chF FV (fun d => decide (a (20 + d) = 1)) d).1 = -9 ∨ (chF FV (fun d => decide (a (20 + d) = 1)) d).2 < FV d := Or.inl (hx1.symm.trans c58_5)
          refine g_iload C dX5_close_67 rfl ?_
          refine g_istore_n (lv' := [(2, .int (FV d)), (4, .int (FV d)), (0, .ref (wA w 38)), (1, .int x1), (3, .int (nI d))]) C dX5_close_69 rfl (by decide) rfl ?_
          refine g_iload_n C dX5_close_70 rfl rfl ?_
          refine g_istore_n (lv' := [(1, .int (nI d)), (2, .int (FV d)), (4, .int (FV d)), (0, .ref (wA w 38)), (3, .int (nI d))]) C dX5_close_71 rfl (by decide) rfl ?_
          have hst : chF FV (fun d => decide (a (20 + d) = 1)) (d + 1) = (nI d, FV d) := (chF_t (by simp only [decide_eq_true_eq]; omega)).trans (stC_y htk)
          exact g_lvp [3, 0, 1, 4] rfl (L72 (nI d) (FV d) σp (by rw [hst]) (by rw [hst]) (hFp))
        · skip
          have c9_ := c58_5
          refine g_iload C dX5_close_61 rfl ?_
          refine g_iload_n C dX5_close_63 rfl rfl ?_
          refine g_icmp_le (tgt := 72) C dX5_close_64 rfl (fun c64_6 => ?_) (fun c64_6 => ?_)
          · skip
            have hle : FV d ≤ y1 := c64_6
            have hst : chF FV (fun d => decide (a (20 + d) = 1)) (d + 1) = chF FV (fun d => decide (a (20 + d) = 1)) d := (chF_t (by simp only [decide_eq_true_eq]; omega)).trans (stC_n (fun z => z.elim (fun y => c9_ (hx1.trans y)) (fun y => Int32.not_lt.mpr hle (by rw [hy1]; exact y))))
            exact g_lvp [1, 2, 3, 4] rfl (L72 x1 y1 σp (by rw [hst]; exact hx1) (by rw [hst]; exact hy1) (hFp))
          · skip
            have htk : (chF FV (fun d => decide (a (20 + d) = 1)) d).1 = -9 ∨ (chF FV (fun d => decide (a (20 + d) = 1)) d).2 < FV d := Or.inr (by rw [← hy1]; exact Int32.not_le.mp c64_6)
            refine g_iload C dX5_close_67 rfl ?_
            refine g_istore_n (lv' := [(2, .int (FV d)), (4, .int (FV d)), (0, .ref (wA w 38)), (1, .int x1), (3, .int (nI d))]) C dX5_close_69 rfl (by decide) rfl ?_
            refine g_iload_n C dX5_close_70 rfl rfl ?_
            refine g_istore_n (lv' := [(1, .int (nI d)), (2, .int (FV d)), (4, .int (FV d)), (0, .ref (wA w 38)), (3, .int (nI d))]) C dX5_close_71 rfl (by decide) rfl ?_
            have hst : chF FV (fun d => decide (a (20 + d) = 1)) (d + 1) = (nI d, FV d) := (chF_t (by simp only [decide_eq_true_eq]; omega)).trans (stC_y htk)
            exact g_lvp [3, 0, 1, 4] rfl (L72 (nI d) (FV d) σp (by rw [hst]) (by rw [hst]) (hFp))
  exact g_lvp [3, 2, 1, 0] rfl (L7 (7 - 0) 0 ((-9)) 0 σ rfl (by first | omega | assumption | rfl | grind) (rfl) (rfl) (FrN.rf))
set_option maxRecDepth 100000 in
set_option maxHeartbeats 4000000 in
theorem ct_X5_likes (l : Launch) (w : WD) (hN : 54 ≤ wN w) (σ : SG) (a kp : Row) (tk nl : Nat) (lt : Nat → Nat) (qn : Nat) (qs : Nat → Nat) (rf : Nat → Int32) (hC : CM σ (a, kp, tk, (nl, lt), (qn, qs), rf)) (e : Int32) : CtI l w yX5_likes cX5_likes 5 (some .int) 3 0 0 [.ref (wA w 38), .int e] σ (fun r τ => r = (spLikes (a, kp, tk, (nl, lt), (qn, qs), rf) e).1 ∧ CM τ (spLikes (a, kp, tk, (nl, lt), (qn, qs), rf) e).2 ∧ Fr in38 σ τ) := by
  refine CtI.mk (by decide) (Nat.le_of_ble_eq_true rfl) ?_
  intro K C hr h0
  have r := RI.of hr h0
  clear hr h0
  show G l w K 0 [(0, .ref (wA w 38)), (1, .int e)] [] σ
  have hM : Mr σ 40 a := hC.2.1
  have hB : Bd a := hC.1.1.1
  have hd9 : a 1 ≤ 9999 := hC.1.1.2.1
  have hu9 : ∀ e, e < 4 → a (30 + 4 * e + 1) ≤ 9 := hC.1.1.2.2
  obtain ⟨hBa, hB0, hB1, hB2, hB3, hB4, hB5, hB6, hB7, hBs, hBp, hBe⟩ := id hB
  refine g_aload_n C dX5_likes_0 rfl rfl ?_
  refine g_iload_n C dX5_likes_1 rfl rfl ?_
  refine g_pVI (rest := []) (v := bI (e < 0 ∨ nI (a 0) ≤ e)) C mv_X5_152 (ct_X5_isNoEater l w hN σ a hM e) (Nat.lt_of_lt_of_le (by decide) hN) rfl rfl (by decide) rfl (Nat.le_of_ble_eq_true rfl) dX5_likes_2 ?_
  refine g_if_eq (tgt := 14) C dX5_likes_5 rfl (fun c5_1 => ?_) (fun c5_1 => ?_)
  · skip
    have n5_1 : ¬ (e < 0 ∨ nI (a 0) ≤ e) := bI_0 c5_1
    have hw := noE n5_1
    obtain ⟨k, hk, rfl⟩ := nj_of2 hw (by omega)
    refine g_bipush C dX5_likes_14 bp_m9 ?_
    refine g_istore_n (lv' := [(2, .int ((-9))), (0, .ref (wA w 38)), (1, .int (nI k))]) C dX5_likes_16 rfl (by decide) rfl ?_
    refine g_iconst C dX5_likes_17 ic_0 ?_
    refine g_istore_n (lv' := [(3, .int 0), (2, .int ((-9))), (0, .ref (wA w 38)), (1, .int (nI k))]) C dX5_likes_18 rfl (by decide) rfl ?_
    have L19 : ∀ (m19 : Nat) (g : Nat) (x1 : Int32), m19 = 5 - g → (g ≤ 5) → (x1 = (chF (fun g => nI (wNt a k g)) (fun g => decide (eats a k g)) g).1) → G l w K 19 [(0, .ref (wA w 38)), (1, .int (nI k)), (2, .int x1), (3, .int (nI g))] [] σ := by
      intro m19
      induction m19 using Nat.strongRecOn with
      | ind m19 ih19 =>
      intro g x1 em19 hq hx1
      refine g_iload_n C dX5_likes_19 rfl rfl ?_
      refine g_iconst C dX5_likes_20 ic_5 ?_
      refine g_icmp_ge (tgt := 68) C dX5_likes_21 rfl (fun c21_2 => ?_) (fun c21_2 => ?_)
      · skip
        have n21_2 : 5 ≤ g := (nj_le (a := 5) (b := g) (by omega) (by omega)).mp c21_2
        obtain rfl : g = 5 := by omega
        refine g_iload_n C dX5_likes_68 rfl rfl ?_
        refine g_iret C r rfl dX5_likes_69 ?_
        refine fm_q hC FrN.rf ?_ hx1
        unfold spLikes
        rw [if_neg (fun z => z hw), nn_nj (n := k) (by omega)]
      · skip
        have n21_2 : ¬ (5 ≤ g) := fun qq => c21_2 ((nj_le (a := 5) (b := g) (by omega) (by omega)).mpr qq)
        have L62 : ∀ (x2 : Int32), (x2 = (chF (fun g => nI (wNt a k g)) (fun g => decide (eats a k g)) (g + 1)).1) → G l w K 62 [(0, .ref (wA w 38)), (1, .int (nI k)), (2, .int x2), (3, .int (nI g))] [] σ := by
          intro x2 hx2
          refine g_iinc (v := nI (g + 1)) (lv' := [(3, .int (nI (g + 1))), (0, .ref (wA w 38)), (1, .int (nI k)), (2, .int x2)]) C dX5_likes_62 (by decide) rfl (nj_inc g) rfl ?_
          refine g_goto (tgt := 19) C dX5_likes_65 rfl ?_
          exact g_lvp [1, 2, 3, 0] rfl (ih19 (5 - (g + 1)) (by omega) (g + 1) x2 rfl (by first | omega | assumption | rfl | grind) (hx2))
        refine g_aload_n C dX5_likes_24 rfl rfl ?_
        refine g_get (v := .ref (wA w 40)) C fl_X5_13 fs_X5_13 (Nat.lt_of_lt_of_le (by decide) hN) rfl rfl dX5_likes_25 ?_
        refine g_iload_n C dX5_likes_28 rfl rfl ?_
        refine g_iload_n C dX5_likes_29 rfl rfl ?_
        refine g_pSI (rest := []) (v := wJ a k g) C ms_X5_74 (ct_X5_worthOf l w hN σ 40 (Nat.lt_of_lt_of_le (by decide) hN) rfl a hM hB k g (by omega) (by omega)) rfl (by decide) rfl (Nat.le_of_ble_eq_true rfl) dX5_likes_30 ?_
        refine g_istore (lv' := [(4, .int (wJ a k g)), (0, .ref (wA w 38)), (1, .int (nI k)), (2, .int x1), (3, .int (nI g))]) C dX5_likes_33 (by decide) rfl ?_
        refine g_iload C dX5_likes_35 rfl ?_
        refine g_if_lt (tgt := 62) C dX5_likes_37 rfl (fun c37_3 => ?_) (fun c37_3 => ?_)
        · skip
          have hne : ¬ eats a k g := (wJ_nn hBa).mp c37_3
          exact g_lvp [1, 2, 3, 4] rfl (L62 x1 (by rw [chF_f (by simp only [decide_eq_false_iff_not]; exact hne)]; exact hx1))
        · skip
          have hye : eats a k g := Decidable.byContradiction (fun z => c37_3 ((wJ_nn hBa).mpr z))
          have hwj : wJ a k g = nI (wNt a k g) := if_pos hye
          refine g_iload_n C dX5_likes_40 rfl rfl ?_
          refine g_bipush C dX5_likes_41 bp_m9 ?_
          refine g_icmp_eq (tgt := 60) C dX5_likes_43 rfl (fun c43_4 => ?_) (fun c43_4 => ?_)
          · skip
            have htake : (chF (fun g => nI (wNt a k g)) (fun g => decide (eats a k g)) g).1 = -9 ∨ (chF (fun g => nI (wNt a k g)) (fun g => decide (eats a k g)) g).2 < (fun g => nI (wNt a k g)) g := Or.inl (hx1 ▸ c43_4)
            refine g_iload_n C dX5_likes_60 rfl rfl ?_
            refine g_istore_n (lv' := [(2, .int (nI g)), (4, .int (wJ a k g)), (0, .ref (wA w 38)), (1, .int (nI k)), (3, .int (nI g))]) C dX5_likes_61 rfl (by decide) rfl ?_
            exact g_lvp [2, 3, 0, 4] rfl (L62 (nI g) (by rw [chF_t (by simp only [decide_eq_true_eq]; exact hye), stC_y htake]))
          · skip
            obtain ⟨f, hf, hfo, hfc⟩ := chF_some hx1 c43_4
            rw [hfc] at hx1
            have hxf : x1 = nI f := hx1
            clear hx1
            subst hxf
            simp only [decide_eq_true_eq] at hfo
            refine g_iload C dX5_likes_46 rfl ?_
            refine g_aload_n C dX5_likes_48 rfl rfl ?_
            refine g_get (v := .ref (wA w 40)) C fl_X5_13 fs_X5_13 (Nat.lt_of_lt_of_le (by decide) hN) rfl rfl dX5_likes_49 ?_
            refine g_iload_n C dX5_likes_52 rfl rfl ?_
            refine g_iload_n C dX5_likes_53 rfl rfl ?_
            refine g_pSI (rest := [.int (wJ a k g)]) (v := wJ a k f) C ms_X5_74 (ct_X5_worthOf l w hN σ 40 (Nat.lt_of_lt_of_le (by decide) hN) rfl a hM hB k f (by omega) (by omega)) rfl (by decide) rfl (Nat.le_of_ble_eq_true rfl) dX5_likes_54 ?_
            refine g_icmp_le (tgt := 62) C dX5_likes_57 rfl (fun c57_5 => ?_) (fun c57_5 => ?_)
            · skip
              have hkeep : ¬ ((nI f : Int32) = -9 ∨ nI (wNt a k f) < nI (wNt a k g)) := fun z => z.elim (fun y => by have h2 := congrArg Int32.toInt y; rw [nj_toInt (by omega), show (-9 : Int32).toInt = -9 by decide] at h2; omega) (fun y => Int32.not_lt.mpr (by have z2 := c57_5; rw [hwj, show wJ a k f = nI (wNt a k f) from if_pos hfo] at z2; exact z2) y)
              exact g_lvp [1, 2, 3, 4] rfl (L62 (nI f) (by rw [chF_t (by simp only [decide_eq_true_eq]; exact hye), stC_n (by rw [hfc]; exact hkeep), hfc]))
            · skip
              have htake : (chF (fun g => nI (wNt a k g)) (fun g => decide (eats a k g)) g).1 = -9 ∨ (chF (fun g => nI (wNt a k g)) (fun g => decide (eats a k g)) g).2 < (fun g => nI (wNt a k g)) g := Or.inr (by rw [hfc]; have z2 := Int32.not_le.mp c57_5; rw [hwj, show wJ a k f = nI (wNt a k f) from if_pos hfo] at z2; exact z2)
              refine g_iload_n C dX5_likes_60 rfl rfl ?_
              refine g_istore_n (lv' := [(2, .int (nI g)), (4, .int (wJ a k g)), (0, .ref (wA w 38)), (1, .int (nI k)), (3, .int (nI g))]) C dX5_likes_61 rfl (by decide) rfl ?_
              exact g_lvp [2, 3, 0, 4] rfl (L62 (nI g) (by rw [chF_t (by simp only [decide_eq_true_eq]; exact hye), stC_y htake]))
    exact g_lvp [2, 3, 1, 0] rfl (L19 (5 - 0) 0 ((-9)) rfl (by first | omega | assumption | rfl | grind) (rfl))
  · skip
    have n5_1 : (e < 0 ∨ nI (a 0) ≤ e) := bI_1 c5_1
    have hnw := yeE n5_1
    refine g_aload_n C dX5_likes_8 rfl rfl ?_
    refine g_iconst C dX5_likes_9 ic_m1 ?_
    refine g_callVI (rest := []) C mv_X5_64 (ct_X5_no l w hN σ 1 (by decide) ((-1)) (by decide)) (Nat.lt_of_lt_of_le (by decide) hN) rfl rfl (by decide) rfl (Nat.le_of_ble_eq_true rfl) dX5_likes_10 (fun r6 σ_6 h6 => ?_)
    obtain ⟨er6, hrf⟩ := h6
    rw [er6]
    refine g_iret C r rfl dX5_likes_13 ?_
    exact fm_r hC (by decide) hrf (by unfold spLikes; rw [if_pos hnw]) (by decide)
set_option maxRecDepth 100000 in
set_option maxHeartbeats 4000000 in
theorem ct_X5_whose (l : Launch) (w : WD) (hN : 54 ≤ wN w) (σ : SG) (a kp : Row) (tk nl : Nat) (lt : Nat → Nat) (qn : Nat) (qs : Nat → Nat) (rf : Nat → Int32) (hC : CM σ (a, kp, tk, (nl, lt), (qn, qs), rf)) (g : Int32) : CtI l w yX5_whose cX5_whose 5 (some .int) 3 0 0 [.ref (wA w 38), .int g] σ (fun r τ => r = (spWhose (a, kp, tk, (nl, lt), (qn, qs), rf) g).1 ∧ CM τ (spWhose (a, kp, tk, (nl, lt), (qn, qs), rf) g).2 ∧ Fr in38 σ τ) := by
  refine CtI.mk (by decide) (Nat.le_of_ble_eq_true rfl) ?_
  intro K C hr h0
  have r := RI.of hr h0
  clear hr h0
  show G l w K 0 [(0, .ref (wA w 38)), (1, .int g)] [] σ
  have hM : Mr σ 40 a := hC.2.1
  have hB : Bd a := hC.1.1.1
  have hd9 : a 1 ≤ 9999 := hC.1.1.2.1
  have hu9 : ∀ e, e < 4 → a (30 + 4 * e + 1) ≤ 9 := hC.1.1.2.2
  obtain ⟨hBa, hB0, hB1, hB2, hB3, hB4, hB5, hB6, hB7, hBs, hBp, hBe⟩ := id hB
  refine g_iload_n C dX5_whose_0 rfl rfl ?_
  refine g_pSI (rest := []) (v := bI (g < 0 ∨ 4 < g)) C ms_X5_156 (ct_X5_isNoAge l w hN σ g) rfl (by decide) rfl (Nat.le_of_ble_eq_true rfl) dX5_whose_1 ?_
  refine g_if_eq (tgt := 13) C dX5_whose_4 rfl (fun c4_1 => ?_) (fun c4_1 => ?_)
  · skip
    have n4_1 : ¬ (g < 0 ∨ 4 < g) := bI_0 c4_1
    have hw := (a54 g).mp (noA n4_1)
    obtain ⟨j, hj, rfl⟩ := nj_of2 (m := 5) hw (by decide)
    refine g_bipush C dX5_whose_13 bp_m9 ?_
    refine g_istore_n (lv' := [(2, .int ((-9))), (0, .ref (wA w 38)), (1, .int (nI j))]) C dX5_whose_15 rfl (by decide) rfl ?_
    refine g_iconst C dX5_whose_16 ic_0 ?_
    refine g_istore_n (lv' := [(3, .int 0), (2, .int ((-9))), (0, .ref (wA w 38)), (1, .int (nI j))]) C dX5_whose_17 rfl (by decide) rfl ?_
    have L18 : ∀ (m18 : Nat) (e : Nat) (x1 : Int32), m18 = a 0 - e → (e ≤ a 0) → (x1 = (chF (fun e => nI (wNt a e j)) (fun e => decide (eats a e j)) e).1) → G l w K 18 [(0, .ref (wA w 38)), (1, .int (nI j)), (2, .int x1), (3, .int (nI e))] [] σ := by
      intro m18
      induction m18 using Nat.strongRecOn with
      | ind m18 ih18 =>
      intro e x1 em18 hq hx1
      refine g_iload_n C dX5_whose_18 rfl rfl ?_
      refine g_aload_n C dX5_whose_19 rfl rfl ?_
      refine g_get (v := .ref (wA w 40)) C fl_X5_13 fs_X5_13 (Nat.lt_of_lt_of_le (by decide) hN) rfl rfl dX5_whose_20 ?_
      refine g_iconst C dX5_whose_23 ic_0 ?_
      refine g_ial (k0 := 40) (n := 46) C (Nat.lt_of_lt_of_le (by decide) hN) rfl (j := 0) (by unfold ix; decide) dX5_whose_24 ?_
      refine g_val (y := nI (a 0)) (hM 0 (by omega)) ?_
      refine g_icmp_ge (tgt := 72) C dX5_whose_25 rfl (fun c25_2 => ?_) (fun c25_2 => ?_)
      · skip
        have n25_2 : a 0 ≤ e := (nj_le (a := a 0) (b := e) (by have := hBa 0; omega) (by have := hBa 0; omega)).mp c25_2
        obtain rfl : e = a 0 := by omega
        refine g_iload_n C dX5_whose_72 rfl rfl ?_
        refine g_iret C r rfl dX5_whose_73 ?_
        refine fm_q hC FrN.rf ?_ hx1
        unfold spWhose
        rw [if_neg (fun z => z hw), nn_nj (n := j) (by omega)]
      · skip
        have n25_2 : ¬ (a 0 ≤ e) := fun qq => c25_2 ((nj_le (a := a 0) (b := e) (by have := hBa 0; omega) (by have := hBa 0; omega)).mpr qq)
        have L66 : ∀ (x2 : Int32), (x2 = (chF (fun e => nI (wNt a e j)) (fun e => decide (eats a e j)) (e + 1)).1) → G l w K 66 [(0, .ref (wA w 38)), (1, .int (nI j)), (2, .int x2), (3, .int (nI e))] [] σ := by
          intro x2 hx2
          refine g_iinc (v := nI (e + 1)) (lv' := [(3, .int (nI (e + 1))), (0, .ref (wA w 38)), (1, .int (nI j)), (2, .int x2)]) C dX5_whose_66 (by decide) rfl (nj_inc e) rfl ?_
          refine g_goto (tgt := 18) C dX5_whose_69 rfl ?_
          exact g_lvp [1, 2, 3, 0] rfl (ih18 (a 0 - (e + 1)) (by omega) (e + 1) x2 rfl (by first | omega | assumption | rfl | grind) (hx2))
        refine g_aload_n C dX5_whose_28 rfl rfl ?_
        refine g_get (v := .ref (wA w 40)) C fl_X5_13 fs_X5_13 (Nat.lt_of_lt_of_le (by decide) hN) rfl rfl dX5_whose_29 ?_
        refine g_iload_n C dX5_whose_32 rfl rfl ?_
        refine g_iload_n C dX5_whose_33 rfl rfl ?_
        refine g_pSI (rest := []) (v := wJ a e j) C ms_X5_74 (ct_X5_worthOf l w hN σ 40 (Nat.lt_of_lt_of_le (by decide) hN) rfl a hM hB e j (by omega) (by omega)) rfl (by decide) rfl (Nat.le_of_ble_eq_true rfl) dX5_whose_34 ?_
        refine g_istore (lv' := [(4, .int (wJ a e j)), (0, .ref (wA w 38)), (1, .int (nI j)), (2, .int x1), (3, .int (nI e))]) C dX5_whose_37 (by decide) rfl ?_
        refine g_iload C dX5_whose_39 rfl ?_
        refine g_if_lt (tgt := 66) C dX5_whose_41 rfl (fun c41_3 => ?_) (fun c41_3 => ?_)
        · skip
          have hne : ¬ eats a e j := (wJ_nn hBa).mp c41_3
          exact g_lvp [1, 2, 3, 4] rfl (L66 x1 (by rw [chF_f (by simp only [decide_eq_false_iff_not]; exact hne)]; exact hx1))
        · skip
          have hye : eats a e j := Decidable.byContradiction (fun z => c41_3 ((wJ_nn hBa).mpr z))
          have hwj : wJ a e j = nI (wNt a e j) := if_pos hye
          refine g_iload_n C dX5_whose_44 rfl rfl ?_
          refine g_bipush C dX5_whose_45 bp_m9 ?_
          refine g_icmp_eq (tgt := 64) C dX5_whose_47 rfl (fun c47_4 => ?_) (fun c47_4 => ?_)
          · skip
            have htake : (chF (fun e => nI (wNt a e j)) (fun e => decide (eats a e j)) e).1 = -9 ∨ (chF (fun e => nI (wNt a e j)) (fun e => decide (eats a e j)) e).2 < (fun e => nI (wNt a e j)) e := Or.inl (hx1 ▸ c47_4)
            refine g_iload_n C dX5_whose_64 rfl rfl ?_
            refine g_istore_n (lv' := [(2, .int (nI e)), (4, .int (wJ a e j)), (0, .ref (wA w 38)), (1, .int (nI j)), (3, .int (nI e))]) C dX5_whose_65 rfl (by decide) rfl ?_
            exact g_lvp [2, 3, 0, 4] rfl (L66 (nI e) (by rw [chF_t (by simp only [decide_eq_true_eq]; exact hye), stC_y htake]))
          · skip
            obtain ⟨f, hf, hfo, hfc⟩ := chF_some hx1 c47_4
            rw [hfc] at hx1
            have hxf : x1 = nI f := hx1
            clear hx1
            subst hxf
            simp only [decide_eq_true_eq] at hfo
            refine g_iload C dX5_whose_50 rfl ?_
            refine g_aload_n C dX5_whose_52 rfl rfl ?_
            refine g_get (v := .ref (wA w 40)) C fl_X5_13 fs_X5_13 (Nat.lt_of_lt_of_le (by decide) hN) rfl rfl dX5_whose_53 ?_
            refine g_iload_n C dX5_whose_56 rfl rfl ?_
            refine g_iload_n C dX5_whose_57 rfl rfl ?_
            refine g_pSI (rest := [.int (wJ a e j)]) (v := wJ a f j) C ms_X5_74 (ct_X5_worthOf l w hN σ 40 (Nat.lt_of_lt_of_le (by decide) hN) rfl a hM hB f j (by omega) (by omega)) rfl (by decide) rfl (Nat.le_of_ble_eq_true rfl) dX5_whose_58 ?_
            refine g_icmp_le (tgt := 66) C dX5_whose_61 rfl (fun c61_5 => ?_) (fun c61_5 => ?_)
            · skip
              have hkeep : ¬ ((nI f : Int32) = -9 ∨ nI (wNt a f j) < nI (wNt a e j)) := fun z => z.elim (fun y => by have h2 := congrArg Int32.toInt y; rw [nj_toInt (by omega), show (-9 : Int32).toInt = -9 by decide] at h2; omega) (fun y => Int32.not_lt.mpr (by have z2 := c61_5; rw [hwj, show wJ a f j = nI (wNt a f j) from if_pos hfo] at z2; exact z2) y)
              exact g_lvp [1, 2, 3, 4] rfl (L66 (nI f) (by rw [chF_t (by simp only [decide_eq_true_eq]; exact hye), stC_n (by rw [hfc]; exact hkeep), hfc]))
            · skip
              have htake : (chF (fun e => nI (wNt a e j)) (fun e => decide (eats a e j)) e).1 = -9 ∨ (chF (fun e => nI (wNt a e j)) (fun e => decide (eats a e j)) e).2 < (fun e => nI (wNt a e j)) e := Or.inr (by rw [hfc]; have z2 := Int32.not_le.mp c61_5; rw [hwj, show wJ a f j = nI (wNt a f j) from if_pos hfo] at z2; exact z2)
              refine g_iload_n C dX5_whose_64 rfl rfl ?_
              refine g_istore_n (lv' := [(2, .int (nI e)), (4, .int (wJ a e j)), (0, .ref (wA w 38)), (1, .int (nI j)), (3, .int (nI e))]) C dX5_whose_65 rfl (by decide) rfl ?_
              exact g_lvp [2, 3, 0, 4] rfl (L66 (nI e) (by rw [chF_t (by simp only [decide_eq_true_eq]; exact hye), stC_y htake]))
    exact g_lvp [2, 3, 1, 0] rfl (L18 (a 0 - 0) 0 ((-9)) rfl (by first | omega | assumption | rfl | grind) (rfl))
  · skip
    have n4_1 : (g < 0 ∨ 4 < g) := bI_1 c4_1
    have hnw : ¬ (0 ≤ g ∧ g < 5) := fun z => yeA n4_1 ((a54 g).mpr z)
    refine g_aload_n C dX5_whose_7 rfl rfl ?_
    refine g_iconst C dX5_whose_8 ic_m1 ?_
    refine g_callVI (rest := []) C mv_X5_64 (ct_X5_no l w hN σ 1 (by decide) ((-1)) (by decide)) (Nat.lt_of_lt_of_le (by decide) hN) rfl rfl (by decide) rfl (Nat.le_of_ble_eq_true rfl) dX5_whose_9 (fun r6 σ_6 h6 => ?_)
    obtain ⟨er6, hrf⟩ := h6
    rw [er6]
    refine g_iret C r rfl dX5_whose_12 ?_
    exact fm_r hC (by decide) hrf (by unfold spWhose; rw [if_pos hnw]) (by decide)
set_option maxRecDepth 100000 in
set_option maxHeartbeats 4000000 in
theorem ct_X5_row (l : Launch) (w : WD) (hN : 54 ≤ wN w) (σ : SG) (a kp : Row) (tk nl : Nat) (lt : Nat → Nat) (qn : Nat) (qs : Nat → Nat) (rf : Nat → Int32) (hC : CM σ (a, kp, tk, (nl, lt), (qn, qs), rf)) (v : Int32) : CtI l w yX5_row cX5_row 2 (some .int) 2 0 0 [.ref (wA w 38), .int v] σ (fun r τ => r = (spRow (a, kp, tk, (nl, lt), (qn, qs), rf) v).1 ∧ CM τ (spRow (a, kp, tk, (nl, lt), (qn, qs), rf) v).2 ∧ Fr in38 σ τ) := by
  refine CtI.mk (by decide) (Nat.le_of_ble_eq_true rfl) ?_
  intro K C hr h0
  have r := RI.of hr h0
  clear hr h0
  show G l w K 0 [(0, .ref (wA w 38)), (1, .int v)] [] σ
  have hM : Mr σ 40 a := hC.2.1
  have hB : Bd a := hC.1.1.1
  have hd9 : a 1 ≤ 9999 := hC.1.1.2.1
  have hu9 : ∀ e, e < 4 → a (30 + 4 * e + 1) ≤ 9 := hC.1.1.2.2
  obtain ⟨hBa, hB0, hB1, hB2, hB3, hB4, hB5, hB6, hB7, hBs, hBp, hBe⟩ := id hB
  have hn1 : σ 38 27 = nI qn := hC.2.2.2.2.2.1.1
  have hn9 : qn ≤ 20 := hC.1.2.2.2.2.2.1
  have hns : ∀ j, j < qn → σ 53 j = nI (qs j) := hC.2.2.2.2.2.1.2
  have hns9 : ∀ j, j < qn → qs j ≤ 99 := hC.1.2.2.2.2.2.2
  refine g_iload_n C dX5_row_0 rfl rfl ?_
  refine g_if_ge (tgt := 11) C dX5_row_1 rfl (fun c1_1 => ?_) (fun c1_1 => ?_)
  · skip
    have hv0 : ¬ v < 0 := Int32.not_lt.mpr c1_1
    refine g_iload_n C dX5_row_11 rfl rfl ?_
    refine g_bipush C dX5_row_12 bp_99 ?_
    refine g_icmp_gt (tgt := 26) C dX5_row_14 rfl (fun c14_2 => ?_) (fun c14_2 => ?_)
    · skip
      have hoc : v < 0 ∨ 99 < v := Or.inr c14_2
      have hkO : kO v 0 = 6 := if_neg hv0
      refine g_aload_n C dX5_row_26 rfl rfl ?_
      refine g_bipush C dX5_row_27 bp_m6 ?_
      refine g_callVI (rest := []) C mv_X5_64 (ct_X5_no l w hN σ 6 (by decide) ((-6)) (by decide)) (Nat.lt_of_lt_of_le (by decide) hN) rfl rfl (by decide) rfl (Nat.le_of_ble_eq_true rfl) dX5_row_29 (fun r3 σ_3 h3 => ?_)
      obtain ⟨er3, hrf⟩ := h3
      rw [er3]
      refine g_iret C r rfl dX5_row_32 ?_
      first | exact fm_r hC (by decide) hrf (by unfold spRow; rw [if_pos hoc, hkO]) (by decide) | exact fm_r hC (by decide) hrf (by unfold spRow; rw [if_neg hz, if_pos (show qn = 20 by omega)]) (by decide)
    · skip
      have hz : ¬ (v < 0 ∨ 99 < v) := fun z => z.elim hv0 c14_2
      obtain ⟨m, hm, rfl⟩ := nj_of4 (m := 99) hz
      refine g_aload_n C dX5_row_17 rfl rfl ?_
      refine g_get (v := .int (σ 38 27)) C fl_X5_194 fs_X5_194 (Nat.lt_of_lt_of_le (by decide) hN) rfl rfl dX5_row_18 ?_
      refine g_val (y := nI qn) hn1 ?_
      refine g_bipush C dX5_row_21 bp_20 ?_
      refine g_icmp_ne (tgt := 33) C dX5_row_23 rfl (fun c23_4 => ?_) (fun c23_4 => ?_)
      · skip
        have n23_4 : ¬ (qn = 20) := fun qq => c23_4 ((nj_eq (a := qn) (b := 20) (by omega) (by omega)).mpr qq)
        refine g_aload_n C dX5_row_33 rfl rfl ?_
        refine g_get (v := .ref (wA w 53)) C fl_X5_53 fs_X5_53 (Nat.lt_of_lt_of_le (by decide) hN) rfl rfl dX5_row_34 ?_
        refine g_aload_n C dX5_row_37 rfl rfl ?_
        refine g_get (v := .int (σ 38 27)) C fl_X5_194 fs_X5_194 (Nat.lt_of_lt_of_le (by decide) hN) rfl rfl dX5_row_38 ?_
        refine g_val (y := nI qn) hn1 ?_
        refine g_iload_n C dX5_row_41 rfl rfl ?_
        refine g_ias (k0 := 53) (n := 20) C (Nat.lt_of_lt_of_le (by decide) hN) rfl (j := qn) (ix_n (by omega)) dX5_row_42 (fun σ1 hσ1 => ?_)
        refine g_aload_n C dX5_row_43 rfl rfl ?_
        refine g_dup C dX5_row_44 rfl ?_
        refine g_get (v := .int (σ1 38 27)) C fl_X5_194 fs_X5_194 (Nat.lt_of_lt_of_le (by decide) hN) rfl rfl dX5_row_45 ?_
        refine g_val (y := nI qn) (by rw [hσ1, up_other (by decide)]; exact hn1) ?_
        refine g_iconst C dX5_row_48 ic_1 ?_
        refine g_iaddv (v := nI (qn + 1)) C (nj_plus qn 1) dX5_row_49 ?_
        refine g_putn C fp_X5_194 (Nat.lt_of_lt_of_le (by decide) hN) rfl rfl (Nat.le_of_ble_eq_true rfl) rfl rfl dX5_row_50 (fun σ2 hσ2 => ?_)
        have hc2 := hC.rw1 (τ := σ2) (show qn < 20 by omega) hm (by rw [hσ2, hσ1])
        refine g_aload_n C dX5_row_53 rfl rfl ?_
        refine g_get (v := .int (σ2 38 27)) C fl_X5_194 fs_X5_194 (Nat.lt_of_lt_of_le (by decide) hN) rfl rfl dX5_row_54 ?_
        refine g_val (y := nI (qn + 1)) (by rw [hσ2, up_same]) ?_
        refine g_iret C r rfl dX5_row_57 ?_
        have hs : spRow (a, kp, tk, (nl, lt), (qn, qs), rf) (nI m) = (nI (qn + 1), sAn (a, kp, tk, (nl, lt), (qn, qs), rf) (qn + 1) (fun j => if j = qn then m else qs j)) := by unfold spRow; rw [if_neg hz, if_neg (show ¬ qn = 20 by omega), nn_nj (n := m) (by omega)]
        rw [hs]
        exact ⟨rfl, hc2, by rw [hσ2, hσ1]; exact (Fr.up (S := in38) (by decide)).tr (Fr.up (S := in38) (by decide)) (fun _ z => z)⟩
      · skip
        have n23_4 : qn = 20 := (nj_eq (a := qn) (b := 20) (by omega) (by omega)).mp c23_4
        refine g_aload_n C dX5_row_26 rfl rfl ?_
        refine g_bipush C dX5_row_27 bp_m6 ?_
        refine g_callVI (rest := []) C mv_X5_64 (ct_X5_no l w hN σ 6 (by decide) ((-6)) (by decide)) (Nat.lt_of_lt_of_le (by decide) hN) rfl rfl (by decide) rfl (Nat.le_of_ble_eq_true rfl) dX5_row_29 (fun r5 σ_5 h5 => ?_)
        obtain ⟨er5, hrf⟩ := h5
        rw [er5]
        refine g_iret C r rfl dX5_row_32 ?_
        first | exact fm_r hC (by decide) hrf (by unfold spRow; rw [if_pos hoc, hkO]) (by decide) | exact fm_r hC (by decide) hrf (by unfold spRow; rw [if_neg hz, if_pos (show qn = 20 by omega)]) (by decide)
  · skip
    have hoc : v < 0 ∨ 99 < v := Or.inl (Int32.not_le.mp c1_1)
    have hkO : kO v 0 = 4 := if_pos (Int32.not_le.mp c1_1)
    refine g_aload_n C dX5_row_4 rfl rfl ?_
    refine g_bipush C dX5_row_5 bp_m4 ?_
    refine g_callVI (rest := []) C mv_X5_64 (ct_X5_no l w hN σ 4 (by decide) ((-4)) (by decide)) (Nat.lt_of_lt_of_le (by decide) hN) rfl rfl (by decide) rfl (Nat.le_of_ble_eq_true rfl) dX5_row_7 (fun r6 σ_6 h6 => ?_)
    obtain ⟨er6, hrf⟩ := h6
    rw [er6]
    refine g_iret C r rfl dX5_row_10 ?_
    exact fm_r hC (by decide) hrf (by unfold spRow; rw [if_pos hoc, hkO]) (by decide)
set_option maxRecDepth 100000 in
set_option maxHeartbeats 4000000 in
theorem ct_X5_letter (l : Launch) (w : WD) (hN : 54 ≤ wN w) (σ : SG) (a kp : Row) (tk nl : Nat) (lt : Nat → Nat) (qn : Nat) (qs : Nat → Nat) (rf : Nat → Int32) (hC : CM σ (a, kp, tk, (nl, lt), (qn, qs), rf)) (c : Int32) : CtI l w yX5_letter cX5_letter 2 (some .int) 2 0 0 [.ref (wA w 38), .int c] σ (fun r τ => r = (spLetter (a, kp, tk, (nl, lt), (qn, qs), rf) c).1 ∧ CM τ (spLetter (a, kp, tk, (nl, lt), (qn, qs), rf) c).2 ∧ Fr in38 σ τ) := by
  refine CtI.mk (by decide) (Nat.le_of_ble_eq_true rfl) ?_
  intro K C hr h0
  have r := RI.of hr h0
  clear hr h0
  show G l w K 0 [(0, .ref (wA w 38)), (1, .int c)] [] σ
  have hM : Mr σ 40 a := hC.2.1
  have hB : Bd a := hC.1.1.1
  have hd9 : a 1 ≤ 9999 := hC.1.1.2.1
  have hu9 : ∀ e, e < 4 → a (30 + 4 * e + 1) ≤ 9 := hC.1.1.2.2
  obtain ⟨hBa, hB0, hB1, hB2, hB3, hB4, hB5, hB6, hB7, hBs, hBp, hBe⟩ := id hB
  have hl1 : σ 38 15 = nI nl := hC.2.2.2.2.1.1
  have hl9 : nl ≤ 96 := hC.1.2.2.2.1
  refine g_iload_n C dX5_letter_0 rfl rfl ?_
  refine g_if_ge (tgt := 11) C dX5_letter_1 rfl (fun c1_1 => ?_) (fun c1_1 => ?_)
  · skip
    have hv0 : ¬ c < 0 := Int32.not_lt.mpr c1_1
    refine g_iload_n C dX5_letter_11 rfl rfl ?_
    refine g_sipush C dX5_letter_12 sp_255 ?_
    refine g_icmp_gt (tgt := 27) C dX5_letter_15 rfl (fun c15_2 => ?_) (fun c15_2 => ?_)
    · skip
      have hoc : c < 0 ∨ 255 < c := Or.inr c15_2
      have hkO : kO c 0 = 6 := if_neg hv0
      refine g_aload_n C dX5_letter_27 rfl rfl ?_
      refine g_bipush C dX5_letter_28 bp_m6 ?_
      refine g_callVI (rest := []) C mv_X5_64 (ct_X5_no l w hN σ 6 (by decide) ((-6)) (by decide)) (Nat.lt_of_lt_of_le (by decide) hN) rfl rfl (by decide) rfl (Nat.le_of_ble_eq_true rfl) dX5_letter_30 (fun r3 σ_3 h3 => ?_)
      obtain ⟨er3, hrf⟩ := h3
      rw [er3]
      refine g_iret C r rfl dX5_letter_33 ?_
      first | exact fm_r hC (by decide) hrf (by unfold spLetter; rw [if_pos hoc, hkO]) (by decide) | exact fm_r hC (by decide) hrf (by unfold spLetter; rw [if_neg hz, if_pos (show nl = 96 by omega)]) (by decide)
    · skip
      have hz : ¬ (c < 0 ∨ 255 < c) := fun z => z.elim hv0 c15_2
      obtain ⟨m, hm, rfl⟩ := nj_of4 (m := 255) hz
      refine g_aload_n C dX5_letter_18 rfl rfl ?_
      refine g_get (v := .int (σ 38 15)) C fl_X5_119 fs_X5_119 (Nat.lt_of_lt_of_le (by decide) hN) rfl rfl dX5_letter_19 ?_
      refine g_val (y := nI nl) hl1 ?_
      refine g_bipush C dX5_letter_22 bp_96 ?_
      refine g_icmp_ne (tgt := 34) C dX5_letter_24 rfl (fun c24_4 => ?_) (fun c24_4 => ?_)
      · skip
        have n24_4 : ¬ (nl = 96) := fun qq => c24_4 ((nj_eq (a := nl) (b := 96) (by omega) (by omega)).mpr qq)
        refine g_aload_n C dX5_letter_34 rfl rfl ?_
        refine g_get (v := .ref (wA w 46)) C fl_X5_31 fs_X5_31 (Nat.lt_of_lt_of_le (by decide) hN) rfl rfl dX5_letter_35 ?_
        refine g_aload_n C dX5_letter_38 rfl rfl ?_
        refine g_get (v := .int (σ 38 15)) C fl_X5_119 fs_X5_119 (Nat.lt_of_lt_of_le (by decide) hN) rfl rfl dX5_letter_39 ?_
        refine g_val (y := nI nl) hl1 ?_
        refine g_iload_n C dX5_letter_42 rfl rfl ?_
        refine g_ias (k0 := 46) (n := 96) C (Nat.lt_of_lt_of_le (by decide) hN) rfl (j := nl) (ix_n (by omega)) dX5_letter_43 (fun σ1 hσ1 => ?_)
        refine g_aload_n C dX5_letter_44 rfl rfl ?_
        refine g_dup C dX5_letter_45 rfl ?_
        refine g_get (v := .int (σ1 38 15)) C fl_X5_119 fs_X5_119 (Nat.lt_of_lt_of_le (by decide) hN) rfl rfl dX5_letter_46 ?_
        refine g_val (y := nI nl) (by rw [hσ1, up_other (by decide)]; exact hl1) ?_
        refine g_iconst C dX5_letter_49 ic_1 ?_
        refine g_iaddv (v := nI (nl + 1)) C (nj_plus nl 1) dX5_letter_50 ?_
        refine g_putn C fp_X5_119 (Nat.lt_of_lt_of_le (by decide) hN) rfl rfl (Nat.le_of_ble_eq_true rfl) rfl rfl dX5_letter_51 (fun σ2 hσ2 => ?_)
        have hc2 := hC.let (τ := σ2) (show nl < 96 by omega) hm (by rw [hσ2, hσ1])
        refine g_aload_n C dX5_letter_54 rfl rfl ?_
        refine g_get (v := .int (σ2 38 15)) C fl_X5_119 fs_X5_119 (Nat.lt_of_lt_of_le (by decide) hN) rfl rfl dX5_letter_55 ?_
        refine g_val (y := nI (nl + 1)) (by rw [hσ2, up_same]) ?_
        refine g_iret C r rfl dX5_letter_58 ?_
        have hs : spLetter (a, kp, tk, (nl, lt), (qn, qs), rf) (nI m) = (nI (nl + 1), sAl (a, kp, tk, (nl, lt), (qn, qs), rf) (nl + 1) (fun j => if j = nl then m else lt j)) := by unfold spLetter; rw [if_neg hz, if_neg (show ¬ nl = 96 by omega), nn_nj (n := m) (by omega)]
        rw [hs]
        exact ⟨rfl, hc2, by rw [hσ2, hσ1]; exact (Fr.up (S := in38) (by decide)).tr (Fr.up (S := in38) (by decide)) (fun _ z => z)⟩
      · skip
        have n24_4 : nl = 96 := (nj_eq (a := nl) (b := 96) (by omega) (by omega)).mp c24_4
        refine g_aload_n C dX5_letter_27 rfl rfl ?_
        refine g_bipush C dX5_letter_28 bp_m6 ?_
        refine g_callVI (rest := []) C mv_X5_64 (ct_X5_no l w hN σ 6 (by decide) ((-6)) (by decide)) (Nat.lt_of_lt_of_le (by decide) hN) rfl rfl (by decide) rfl (Nat.le_of_ble_eq_true rfl) dX5_letter_30 (fun r5 σ_5 h5 => ?_)
        obtain ⟨er5, hrf⟩ := h5
        rw [er5]
        refine g_iret C r rfl dX5_letter_33 ?_
        first | exact fm_r hC (by decide) hrf (by unfold spLetter; rw [if_pos hoc, hkO]) (by decide) | exact fm_r hC (by decide) hrf (by unfold spLetter; rw [if_neg hz, if_pos (show nl = 96 by omega)]) (by decide)
  · skip
    have hoc : c < 0 ∨ 255 < c := Or.inl (Int32.not_le.mp c1_1)
    have hkO : kO c 0 = 4 := if_pos (Int32.not_le.mp c1_1)
    refine g_aload_n C dX5_letter_4 rfl rfl ?_
    refine g_bipush C dX5_letter_5 bp_m4 ?_
    refine g_callVI (rest := []) C mv_X5_64 (ct_X5_no l w hN σ 4 (by decide) ((-4)) (by decide)) (Nat.lt_of_lt_of_le (by decide) hN) rfl rfl (by decide) rfl (Nat.le_of_ble_eq_true rfl) dX5_letter_7 (fun r6 σ_6 h6 => ?_)
    obtain ⟨er6, hrf⟩ := h6
    rw [er6]
    refine g_iret C r rfl dX5_letter_10 ?_
    exact fm_r hC (by decide) hrf (by unfold spLetter; rw [if_pos hoc, hkO]) (by decide)
set_option maxRecDepth 100000 in
set_option maxHeartbeats 4000000 in
theorem ct_X5_image (l : Launch) (w : WD) (hN : 54 ≤ wN w) (σ : SG) (a kp : Row) (tk nl : Nat) (lt : Nat → Nat) (qn : Nat) (qs : Nat → Nat) (rf : Nat → Int32) (hC : CM σ (a, kp, tk, (nl, lt), (qn, qs), rf)) : CtI l w yX5_image cX5_image 1 (some .int) 2 0 0 [.ref (wA w 38)] σ (fun r τ => r = (spImage (a, kp, tk, (nl, lt), (qn, qs), rf)).1 ∧ CM τ (spImage (a, kp, tk, (nl, lt), (qn, qs), rf)).2 ∧ Fr in38 σ τ) := by
  refine CtI.mk (by decide) (Nat.le_of_ble_eq_true rfl) ?_
  intro K C hr h0
  have r := RI.of hr h0
  clear hr h0
  show G l w K 0 [(0, .ref (wA w 38))] [] σ
  have hM : Mr σ 40 a := hC.2.1
  have hB : Bd a := hC.1.1.1
  have hd9 : a 1 ≤ 9999 := hC.1.1.2.1
  have hu9 : ∀ e, e < 4 → a (30 + 4 * e + 1) ≤ 9 := hC.1.1.2.2
  obtain ⟨hBa, hB0, hB1, hB2, hB3, hB4, hB5, hB6, hB7, hBs, hBp, hBe⟩ := id hB
  refine g_aload_n C dX5_image_0 rfl rfl ?_
  refine g_iconst C dX5_image_1 ic_1 ?_
  refine g_putn C fp_X5_56 (Nat.lt_of_lt_of_le (by decide) hN) rfl rfl (Nat.le_of_ble_eq_true rfl) rfl rfl dX5_image_2 (fun σ1 hσ1 => ?_)
  have hM1 : Mr σ1 40 a := hM.fr (by rw [hσ1, up_other (by decide)])
  refine g_aload_n C dX5_image_5 rfl rfl ?_
  refine g_get (v := .ref (wA w 40)) C fl_X5_13 fs_X5_13 (Nat.lt_of_lt_of_le (by decide) hN) rfl rfl dX5_image_6 ?_
  refine g_aload_n C dX5_image_9 rfl rfl ?_
  refine g_get (v := .ref (wA w 42)) C fl_X5_19 fs_X5_19 (Nat.lt_of_lt_of_le (by decide) hN) rfl rfl dX5_image_10 ?_
  refine g_callSV (rest := []) C ms_X5_60 (ct_X5_move l w hN σ1 40 (Nat.lt_of_lt_of_le (by decide) hN) rfl 42 (Nat.lt_of_lt_of_le (by decide) hN) rfl (by decide) a hM1) rfl (by decide) rfl (Nat.le_of_ble_eq_true rfl) dX5_image_13 (fun σ2 h1 => ?_)
  obtain ⟨hM2, hF2⟩ := h1
  have hMn : Mr σ2 40 a := hM1.fr (hF2 40 (by decide))
  refine g_aload_n C dX5_image_16 rfl rfl ?_
  refine g_get (v := .ref (wA w 40)) C fl_X5_13 fs_X5_13 (Nat.lt_of_lt_of_le (by decide) hN) rfl rfl dX5_image_17 ?_
  refine g_iconst C dX5_image_20 ic_1 ?_
  refine g_ial (k0 := 40) (n := 46) C (Nat.lt_of_lt_of_le (by decide) hN) rfl (j := 1) (by unfold ix; decide) dX5_image_21 ?_
  refine g_val (y := nI (a 1)) (hMn 1 (by omega)) ?_
  refine g_iret C r rfl dX5_image_22 ?_
  exact ⟨rfl, hC.img hσ1 hM2 hF2, by rw [hσ1] at hF2; exact (Fr.up (S := in38) (by decide)).tr (hF2.mono (fun k z => by subst z; decide)) (fun _ z => z)⟩
set_option maxRecDepth 100000 in
set_option maxHeartbeats 4000000 in
theorem ct_X5_on (l : Launch) (w : WD) (hN : 54 ≤ wN w) (σ : SG) (a kp : Row) (tk nl : Nat) (lt : Nat → Nat) (qn : Nat) (qs : Nat → Nat) (rf : Nat → Int32) (hC : CM σ (a, kp, tk, (nl, lt), (qn, qs), rf)) : CtI l w yX5_on cX5_on 1 (some .int) 2 0 0 [.ref (wA w 38)] σ (fun r τ => r = (spOn (a, kp, tk, (nl, lt), (qn, qs), rf)).1 ∧ CM τ (spOn (a, kp, tk, (nl, lt), (qn, qs), rf)).2 ∧ Fr in38 σ τ) := by
  refine CtI.mk (by decide) (Nat.le_of_ble_eq_true rfl) ?_
  intro K C hr h0
  have r := RI.of hr h0
  clear hr h0
  show G l w K 0 [(0, .ref (wA w 38))] [] σ
  have hM : Mr σ 40 a := hC.2.1
  have hB : Bd a := hC.1.1.1
  have hd9 : a 1 ≤ 9999 := hC.1.1.2.1
  have hu9 : ∀ e, e < 4 → a (30 + 4 * e + 1) ≤ 9 := hC.1.1.2.2
  obtain ⟨hBa, hB0, hB1, hB2, hB3, hB4, hB5, hB6, hB7, hBs, hBp, hBe⟩ := id hB
  have ht1 : σ 38 4 = nI tk := hC.2.2.2.1
  have ht9 : tk ≤ 1 := hC.1.2.2.1
  refine g_aload_n C dX5_on_0 rfl rfl ?_
  refine g_get (v := .int (σ 38 4)) C fl_X5_56 fs_X5_56 (Nat.lt_of_lt_of_le (by decide) hN) rfl rfl dX5_on_1 ?_
  refine g_val (y := nI tk) ht1 ?_
  refine g_if_ne (tgt := 14) C dX5_on_4 rfl (fun c4_1 => ?_) (fun c4_1 => ?_)
  · skip
    have n4_1 : ¬ (tk = 0) := fun qq => c4_1 ((nj_eq (a := tk) (b := 0) (by omega) (by omega)).mpr qq)
    have hk1 : tk = 1 := by omega
    have hMk : Mr σ 42 kp := hC.2.2.1 hk1
    obtain ⟨hBk, hDk⟩ : Bd kp ∧ D9 kp := hC.1.2.1 hk1
    refine g_aload_n C dX5_on_14 rfl rfl ?_
    refine g_get (v := .ref (wA w 42)) C fl_X5_19 fs_X5_19 (Nat.lt_of_lt_of_le (by decide) hN) rfl rfl dX5_on_15 ?_
    refine g_aload_n C dX5_on_18 rfl rfl ?_
    refine g_get (v := .ref (wA w 40)) C fl_X5_13 fs_X5_13 (Nat.lt_of_lt_of_le (by decide) hN) rfl rfl dX5_on_19 ?_
    refine g_callSV (rest := []) C ms_X5_60 (ct_X5_move l w hN σ 42 (Nat.lt_of_lt_of_le (by decide) hN) rfl 40 (Nat.lt_of_lt_of_le (by decide) hN) rfl (by decide) kp hMk) rfl (by decide) rfl (Nat.le_of_ble_eq_true rfl) dX5_on_22 (fun σ1 h2 => ?_)
    obtain ⟨hM1, hF1⟩ := h2
    refine g_aload_n C dX5_on_25 rfl rfl ?_
    refine g_get (v := .ref (wA w 40)) C fl_X5_13 fs_X5_13 (Nat.lt_of_lt_of_le (by decide) hN) rfl rfl dX5_on_26 ?_
    refine g_iconst C dX5_on_29 ic_1 ?_
    refine g_ial (k0 := 40) (n := 46) C (Nat.lt_of_lt_of_le (by decide) hN) rfl (j := 1) (by unfold ix; decide) dX5_on_30 ?_
    refine g_val (y := nI (kp 1)) (hM1 1 (by omega)) ?_
    refine g_iret C r rfl dX5_on_31 ?_
    have hs : spOn (a, kp, tk, (nl, lt), (qn, qs), rf) = (nI (kp 1), sAa (a, kp, tk, (nl, lt), (qn, qs), rf) kp) := by unfold spOn; rw [if_neg (show ¬ tk = 0 by omega)]
    rw [hs]
    exact ⟨rfl, hC.now hF1 hM1 hBk hDk, hF1.mono (fun k z => by subst z; decide)⟩
  · skip
    have n4_1 : tk = 0 := (nj_eq (a := tk) (b := 0) (by omega) (by omega)).mp c4_1
    refine g_aload_n C dX5_on_7 rfl rfl ?_
    refine g_bipush C dX5_on_8 bp_m3 ?_
    refine g_callVI (rest := []) C mv_X5_64 (ct_X5_no l w hN σ 3 (by decide) ((-3)) (by decide)) (Nat.lt_of_lt_of_le (by decide) hN) rfl rfl (by decide) rfl (Nat.le_of_ble_eq_true rfl) dX5_on_10 (fun r3 σ_3 h3 => ?_)
    obtain ⟨er3, hrf⟩ := h3
    rw [er3]
    refine g_iret C r rfl dX5_on_13 ?_
    exact fm_r hC (by decide) hrf (by unfold spOn; rw [if_pos (show tk = 0 by omega)]) (by decide)
set_option maxRecDepth 100000 in
set_option maxHeartbeats 4000000 in
theorem ct_X5_count (l : Launch) (w : WD) (hN : 54 ≤ wN w) (σ : SG) (a kp : Row) (tk nl : Nat) (lt : Nat → Nat) (qn : Nat) (qs : Nat → Nat) (rf : Nat → Int32) (hC : CM σ (a, kp, tk, (nl, lt), (qn, qs), rf)) (x : Int32) : CtI l w yX5_count cX5_count 4 (some .int) 2 0 0 [.ref (wA w 38), .int x] σ (fun r τ => r = (spCount (a, kp, tk, (nl, lt), (qn, qs), rf) x).1 ∧ CM τ (spCount (a, kp, tk, (nl, lt), (qn, qs), rf) x).2 ∧ Fr in38 σ τ) := by
  refine CtI.mk (by decide) (Nat.le_of_ble_eq_true rfl) ?_
  intro K C hr h0
  have r := RI.of hr h0
  clear hr h0
  show G l w K 0 [(0, .ref (wA w 38)), (1, .int x)] [] σ
  have hM : Mr σ 40 a := hC.2.1
  have hB : Bd a := hC.1.1.1
  have hd9 : a 1 ≤ 9999 := hC.1.1.2.1
  have hu9 : ∀ e, e < 4 → a (30 + 4 * e + 1) ≤ 9 := hC.1.1.2.2
  obtain ⟨hBa, hB0, hB1, hB2, hB3, hB4, hB5, hB6, hB7, hBs, hBp, hBe⟩ := id hB
  have hn1 : σ 38 27 = nI qn := hC.2.2.2.2.2.1.1
  have hn9 : qn ≤ 20 := hC.1.2.2.2.2.2.1
  have hns : ∀ j, j < qn → σ 53 j = nI (qs j) := hC.2.2.2.2.2.1.2
  have hns9 : ∀ j, j < qn → qs j ≤ 99 := hC.1.2.2.2.2.2.2
  have hl1 : σ 38 15 = nI nl := hC.2.2.2.2.1.1
  have hl9 : nl ≤ 96 := hC.1.2.2.2.1
  have hf1 : ∀ k, 1 ≤ k → k ≤ 6 → σ 39 k = rf k := hC.2.2.2.2.2.2.1
  refine g_iload_n C dX5_count_0 rfl rfl ?_
  by_cases s1_0 : x = 0
  · skip
    refine g_tsw (v := 0) (tgt := 52) C dX5_count_1 s1_0 (by decide) (by decide) rfl rfl ?_
    refine g_aload_n C dX5_count_52 rfl rfl ?_
    refine g_get (v := .ref (wA w 40)) C fl_X5_13 fs_X5_13 (Nat.lt_of_lt_of_le (by decide) hN) rfl rfl dX5_count_53 ?_
    refine g_iconst C dX5_count_56 ic_0 ?_
    refine g_ial (k0 := 40) (n := 46) C (Nat.lt_of_lt_of_le (by decide) hN) rfl (j := 0) (by unfold ix; decide) dX5_count_57 ?_
    refine g_val (y := nI (a 0)) (hM 0 (by omega)) ?_
    refine g_iret C r rfl dX5_count_58 ?_
    subst s1_0; exact fm_q hC FrN.rf rfl rfl
  by_cases s1_1 : x = 1
  · skip
    refine g_tsw (v := 1) (tgt := 59) C dX5_count_1 s1_1 (by decide) (by decide) rfl rfl ?_
    refine g_aload_n C dX5_count_59 rfl rfl ?_
    refine g_get (v := .ref (wA w 40)) C fl_X5_13 fs_X5_13 (Nat.lt_of_lt_of_le (by decide) hN) rfl rfl dX5_count_60 ?_
    refine g_iconst C dX5_count_63 ic_1 ?_
    refine g_ial (k0 := 40) (n := 46) C (Nat.lt_of_lt_of_le (by decide) hN) rfl (j := 1) (by unfold ix; decide) dX5_count_64 ?_
    refine g_val (y := nI (a 1)) (hM 1 (by omega)) ?_
    refine g_iret C r rfl dX5_count_65 ?_
    subst s1_1; exact fm_q hC FrN.rf rfl rfl
  by_cases s1_2 : x = 2
  · skip
    refine g_tsw (v := 2) (tgt := 66) C dX5_count_1 s1_2 (by decide) (by decide) rfl rfl ?_
    refine g_aload_n C dX5_count_66 rfl rfl ?_
    refine g_get (v := .ref (wA w 40)) C fl_X5_13 fs_X5_13 (Nat.lt_of_lt_of_le (by decide) hN) rfl rfl dX5_count_67 ?_
    refine g_pSI (rest := []) (v := nI (sumN (fun k => a (10 + k)) 5)) C ms_X5_167 (ct_X5_slices l w hN σ 40 (Nat.lt_of_lt_of_le (by decide) hN) rfl a hM hB) rfl (by decide) rfl (Nat.le_of_ble_eq_true rfl) dX5_count_70 ?_
    refine g_iret C r rfl dX5_count_73 ?_
    subst s1_2; exact fm_q hC FrN.rf rfl rfl
  by_cases s1_3 : x = 3
  · skip
    refine g_tsw (v := 3) (tgt := 74) C dX5_count_1 s1_3 (by decide) (by decide) rfl rfl ?_
    refine g_aload_n C dX5_count_74 rfl rfl ?_
    refine g_get (v := .ref (wA w 40)) C fl_X5_13 fs_X5_13 (Nat.lt_of_lt_of_le (by decide) hN) rfl rfl dX5_count_75 ?_
    refine g_iconst C dX5_count_78 ic_2 ?_
    refine g_ial (k0 := 40) (n := 46) C (Nat.lt_of_lt_of_le (by decide) hN) rfl (j := 2) (by unfold ix; decide) dX5_count_79 ?_
    refine g_val (y := nI (a 2)) (hM 2 (by omega)) ?_
    refine g_iret C r rfl dX5_count_80 ?_
    subst s1_3; exact fm_q hC FrN.rf rfl rfl
  by_cases s1_4 : x = 4
  · skip
    refine g_tsw (v := 4) (tgt := 81) C dX5_count_1 s1_4 (by decide) (by decide) rfl rfl ?_
    refine g_aload_n C dX5_count_81 rfl rfl ?_
    refine g_pVI (rest := []) (v := nI (sumN (fun k => a (20 + k)) 7)) C mv_X5_174 (ct_X5_openDays l w hN σ a hM hB) (Nat.lt_of_lt_of_le (by decide) hN) rfl rfl (by decide) rfl (Nat.le_of_ble_eq_true rfl) dX5_count_82 ?_
    refine g_iret C r rfl dX5_count_85 ?_
    subst s1_4; exact fm_q hC FrN.rf rfl rfl
  by_cases s1_5 : x = 5
  · skip
    refine g_tsw (v := 5) (tgt := 86) C dX5_count_1 s1_5 (by decide) (by decide) rfl rfl ?_
    refine g_aload_n C dX5_count_86 rfl rfl ?_
    refine g_get (v := .ref (wA w 40)) C fl_X5_13 fs_X5_13 (Nat.lt_of_lt_of_le (by decide) hN) rfl rfl dX5_count_87 ?_
    refine g_bipush C dX5_count_90 bp_7 ?_
    refine g_ial (k0 := 40) (n := 46) C (Nat.lt_of_lt_of_le (by decide) hN) rfl (j := 7) (by unfold ix; decide) dX5_count_92 ?_
    refine g_val (y := nI (a 7)) (hM 7 (by omega)) ?_
    refine g_iret C r rfl dX5_count_93 ?_
    subst s1_5; exact fm_q hC FrN.rf rfl rfl
  by_cases s1_6 : x = 6
  · skip
    refine g_tsw (v := 6) (tgt := 94) C dX5_count_1 s1_6 (by decide) (by decide) rfl rfl ?_
    refine g_iconst C dX5_count_94 ic_0 ?_
    refine g_istore_n (lv' := [(2, .int 0), (0, .ref (wA w 38)), (1, .int x)]) C dX5_count_95 rfl (by decide) rfl ?_
    refine g_iconst C dX5_count_96 ic_0 ?_
    refine g_istore_n (lv' := [(3, .int 0), (2, .int 0), (0, .ref (wA w 38)), (1, .int x)]) C dX5_count_97 rfl (by decide) rfl ?_
    have L98 : ∀ (m98 : Nat) (e : Nat), m98 = a 0 - e → (e ≤ a 0) → G l w K 98 [(0, .ref (wA w 38)), (2, .int (nI (sumN (fun e => a (30 + 4 * e + 1)) e))), (3, .int (nI e))] [] σ := by
      intro m98
      induction m98 using Nat.strongRecOn with
      | ind m98 ih98 =>
      intro e em98 he
      refine g_iload_n C dX5_count_98 rfl rfl ?_
      refine g_aload_n C dX5_count_99 rfl rfl ?_
      refine g_get (v := .ref (wA w 40)) C fl_X5_13 fs_X5_13 (Nat.lt_of_lt_of_le (by decide) hN) rfl rfl dX5_count_100 ?_
      refine g_iconst C dX5_count_103 ic_0 ?_
      refine g_ial (k0 := 40) (n := 46) C (Nat.lt_of_lt_of_le (by decide) hN) rfl (j := 0) (by unfold ix; decide) dX5_count_104 ?_
      refine g_val (y := nI (a 0)) (hM 0 (by omega)) ?_
      refine g_icmp_ge (tgt := 130) C dX5_count_105 rfl (fun c105_1 => ?_) (fun c105_1 => ?_)
      · skip
        have n105_1 : a 0 ≤ e := (nj_le (a := a 0) (b := e) (by have := hBa 0; omega) (by have := hBa 0; omega)).mp c105_1
        refine g_iload_n C dX5_count_130 rfl rfl ?_
        refine g_iret C r rfl dX5_count_131 ?_
        obtain rfl : e = a 0 := by omega
        subst s1_6; exact fm_q hC FrN.rf rfl rfl
      · skip
        have n105_1 : ¬ (a 0 ≤ e) := fun qq => c105_1 ((nj_le (a := a 0) (b := e) (by have := hBa 0; omega) (by have := hBa 0; omega)).mpr qq)
        refine g_iload_n C dX5_count_108 rfl rfl ?_
        refine g_aload_n C dX5_count_109 rfl rfl ?_
        refine g_get (v := .ref (wA w 40)) C fl_X5_13 fs_X5_13 (Nat.lt_of_lt_of_le (by decide) hN) rfl rfl dX5_count_110 ?_
        refine g_bipush C dX5_count_113 bp_30 ?_
        refine g_iconst C dX5_count_115 ic_4 ?_
        refine g_iload_n C dX5_count_116 rfl rfl ?_
        refine g_imulv (v := nI (4 * e)) C (nj_times 4 e) dX5_count_117 ?_
        refine g_iaddv (v := nI (30 + (4 * e))) C (nj_plus 30 (4 * e)) dX5_count_118 ?_
        refine g_iconst C dX5_count_119 ic_1 ?_
        refine g_iaddv (v := nI ((30 + (4 * e)) + 1)) C (nj_plus (30 + (4 * e)) 1) dX5_count_120 ?_
        refine g_ial (k0 := 40) (n := 46) C (Nat.lt_of_lt_of_le (by decide) hN) rfl (j := (30 + (4 * e)) + 1) (ix_n (by omega)) dX5_count_121 ?_
        refine g_val (y := nI (a ((30 + (4 * e)) + 1))) (hM ((30 + (4 * e)) + 1) (by omega)) ?_
        refine g_iaddv (v := nI ((sumN (fun e => a (30 + 4 * e + 1)) e) + (a ((30 + (4 * e)) + 1)))) C (nj_plus (sumN (fun e => a (30 + 4 * e + 1)) e) (a ((30 + (4 * e)) + 1))) dX5_count_122 ?_
        refine g_istore_n (lv' := [(2, .int (nI ((sumN (fun e => a (30 + 4 * e + 1)) e) + (a ((30 + (4 * e)) + 1))))), (0, .ref (wA w 38)), (3, .int (nI e))]) C dX5_count_123 rfl (by decide) rfl ?_
        refine g_iinc (v := nI (e + 1)) (lv' := [(3, .int (nI (e + 1))), (2, .int (nI ((sumN (fun e => a (30 + 4 * e + 1)) e) + (a ((30 + (4 * e)) + 1))))), (0, .ref (wA w 38))]) C dX5_count_124 (by decide) rfl (nj_inc e) rfl ?_
        refine g_goto (tgt := 98) C dX5_count_127 rfl ?_
        exact g_lvp [2, 1, 0] rfl (ih98 (a 0 - (e + 1)) (by omega) (e + 1) rfl (by first | omega | assumption | rfl | grind))
    exact g_lvp [2, 1, 0] rfl (L98 (a 0 - 0) 0 rfl (by first | omega | assumption | rfl | grind))
  by_cases s1_7 : x = 7
  · skip
    refine g_tsw (v := 7) (tgt := 132) C dX5_count_1 s1_7 (by decide) (by decide) rfl rfl ?_
    refine g_aload_n C dX5_count_132 rfl rfl ?_
    refine g_get (v := .int (σ 38 27)) C fl_X5_194 fs_X5_194 (Nat.lt_of_lt_of_le (by decide) hN) rfl rfl dX5_count_133 ?_
    refine g_val (y := nI qn) hn1 ?_
    refine g_iret C r rfl dX5_count_136 ?_
    subst s1_7; exact fm_q hC FrN.rf rfl rfl
  by_cases s1_8 : x = 8
  · skip
    refine g_tsw (v := 8) (tgt := 137) C dX5_count_1 s1_8 (by decide) (by decide) rfl rfl ?_
    refine g_aload_n C dX5_count_137 rfl rfl ?_
    refine g_get (v := .int (σ 38 15)) C fl_X5_119 fs_X5_119 (Nat.lt_of_lt_of_le (by decide) hN) rfl rfl dX5_count_138 ?_
    refine g_val (y := nI nl) hl1 ?_
    refine g_iret C r rfl dX5_count_141 ?_
    subst s1_8; exact fm_q hC FrN.rf rfl rfl
  refine g_tswd (tgt := 142) C dX5_count_1 (by have q0 : (x : Int32).toInt ≠ 0 := ne_toInt s1_0; have q1 : (x : Int32).toInt ≠ 1 := ne_toInt s1_1; have q2 : (x : Int32).toInt ≠ 2 := ne_toInt s1_2; have q3 : (x : Int32).toInt ≠ 3 := ne_toInt s1_3; have q4 : (x : Int32).toInt ≠ 4 := ne_toInt s1_4; have q5 : (x : Int32).toInt ≠ 5 := ne_toInt s1_5; have q6 : (x : Int32).toInt ≠ 6 := ne_toInt s1_6; have q7 : (x : Int32).toInt ≠ 7 := ne_toInt s1_7; have q8 : (x : Int32).toInt ≠ 8 := ne_toInt s1_8; omega) rfl ?_
  refine g_iload_n C dX5_count_142 rfl rfl ?_
  refine g_bipush C dX5_count_143 bp_11 ?_
  refine g_icmp_lt (tgt := 166) C dX5_count_145 rfl (fun c145_2 => ?_) (fun c145_2 => ?_)
  · skip
    have hw : ¬ (11 ≤ x ∧ x ≤ 16) := fun z => Int32.not_lt.mpr z.1 c145_2
    refine g_bipush C dX5_count_166 bp_m9 ?_
    refine g_iret C r rfl dX5_count_168 ?_
    refine fm_q hC FrN.rf ?_ rfl
    unfold spCount
    rw [if_neg hw, if_neg s1_0, if_neg s1_1, if_neg s1_2, if_neg s1_3, if_neg s1_4, if_neg s1_5, if_neg s1_6, if_neg s1_7, if_neg s1_8]
  · skip
    have hw1 := c145_2
    refine g_iload_n C dX5_count_148 rfl rfl ?_
    refine g_bipush C dX5_count_149 bp_16 ?_
    refine g_icmp_gt (tgt := 166) C dX5_count_151 rfl (fun c151_3 => ?_) (fun c151_3 => ?_)
    · skip
      have hw : ¬ (11 ≤ x ∧ x ≤ 16) := fun z => Int32.not_lt.mpr z.2 c151_3
      refine g_bipush C dX5_count_166 bp_m9 ?_
      refine g_iret C r rfl dX5_count_168 ?_
      refine fm_q hC FrN.rf ?_ rfl
      unfold spCount
      rw [if_neg hw, if_neg s1_0, if_neg s1_1, if_neg s1_2, if_neg s1_3, if_neg s1_4, if_neg s1_5, if_neg s1_6, if_neg s1_7, if_neg s1_8]
    · skip
      have hw : 11 ≤ x ∧ x ≤ 16 := ⟨Int32.not_lt.mp hw1, Int32.not_lt.mp c151_3⟩
      obtain ⟨k, hk1, hk2, rfl⟩ := nj_rng (lo := 11) (hi := 16) hw
      refine g_aload_n C dX5_count_154 rfl rfl ?_
      refine g_get (v := .ref (wA w 39)) C fl_X5_1 fs_X5_1 (Nat.lt_of_lt_of_le (by decide) hN) rfl rfl dX5_count_155 ?_
      refine g_iload_n C dX5_count_158 rfl rfl ?_
      refine g_bipush C dX5_count_159 bp_10 ?_
      refine g_isubv (v := nI (k - 10)) C (nj_minus (a := k) (b := 10) (by omega)) dX5_count_161 ?_
      refine g_ial (k0 := 39) (n := 7) C (Nat.lt_of_lt_of_le (by decide) hN) rfl (j := k - 10) (ix_n (by omega)) dX5_count_162 ?_
      refine g_val (y := rf (k - 10)) (hf1 _ (by omega) (by omega)) ?_
      refine g_goto (tgt := 168) C dX5_count_163 rfl ?_
      refine g_iret C r rfl dX5_count_168 ?_
      refine fm_q hC FrN.rf ?_ rfl
      unfold spCount
      rw [if_pos hw, nn_nj (by omega)]

set_option maxRecDepth 100000 in
set_option maxHeartbeats 4000000 in
theorem ct_X5_mean (l : Launch) (w : WD) (hN : 54 ≤ wN w) (σ : SG) (a kp : Row) (tk nl : Nat) (lt : Nat → Nat) (qn : Nat) (qs : Nat → Nat) (rf : Nat → Int32) (hC : CM σ (a, kp, tk, (nl, lt), (qn, qs), rf)) (x : Int32) : CtL l w yX5_mean cX5_mean 12 5 0 0 [.ref (wA w 38), .int x] σ (fun r τ => r = (spMean (a, kp, tk, (nl, lt), (qn, qs), rf) x).1 ∧ CM τ (spMean (a, kp, tk, (nl, lt), (qn, qs), rf) x).2 ∧ Fr in38 σ τ) := by
  refine CtL.mk (by decide) (Nat.le_of_ble_eq_true rfl) ?_
  intro K C hr h0
  have r := RJ.of hr h0
  clear hr h0
  show G l w K 0 [(0, .ref (wA w 38)), (1, .int x)] [] σ
  have hM : Mr σ 40 a := hC.2.1
  have hB : Bd a := hC.1.1.1
  have hd9 : a 1 ≤ 9999 := hC.1.1.2.1
  have hu9 : ∀ e, e < 4 → a (30 + 4 * e + 1) ≤ 9 := hC.1.1.2.2
  obtain ⟨hBa, hB0, hB1, hB2, hB3, hB4, hB5, hB6, hB7, hBs, hBp, hBe⟩ := id hB
  have hW16 := two4 hB0
  obtain ⟨W2, hW2⟩ : ∃ q, q = 2 ^ a 0 := ⟨_, rfl⟩
  rw [← hW2] at hW16
  have hT4 := ten4 hB0
  have hcc : ∀ e, e < 4 → a (30 + 4 * e + 3) ≤ 10 := fun e he => (hBe e he).2.2.2
  refine g_iload_n C dX5_mean_0 rfl rfl ?_
  refine g_if_eq (tgt := 21) C dX5_mean_1 rfl (fun c1_1 => ?_) (fun c1_1 => ?_)
  · skip
    have hg : 0 ≤ x ∧ x ≤ 1 := by rw [c1_1]; decide
    obtain ⟨m, hm, rfl⟩ := nj_of3 (m := 1) hg
    refine g_lconst (v := 0) C dX5_mean_21 (by decide) ?_
    refine g_vall (y := lI (abZ a 0)) (by rfl) ?_
    refine g_lstore_n (lv' := [(2, .long (lI (abZ a 0))), (0, .ref (wA w 38)), (1, .int (nI m))]) C dX5_mean_22 rfl (by decide) rfl ?_
    refine g_lconst (v := 1) C dX5_mean_23 (by decide) ?_
    refine g_vall (y := lT 0) lT_0 ?_
    refine g_lstore (lv' := [(4, .long (lT 0)), (2, .long (lI (abZ a 0))), (0, .ref (wA w 38)), (1, .int (nI m))]) C dX5_mean_24 (by decide) rfl ?_
    refine g_iconst C dX5_mean_26 ic_0 ?_
    refine g_istore (lv' := [(6, .int 0), (4, .long (lT 0)), (2, .long (lI (abZ a 0))), (0, .ref (wA w 38)), (1, .int (nI m))]) C dX5_mean_27 (by decide) rfl ?_
    have L29 : ∀ (m29 : Nat) (e : Nat), m29 = a 0 - e → (e ≤ a 0) → G l w K 29 [(0, .ref (wA w 38)), (1, .int (nI m)), (2, .long (lI (abZ a 0))), (4, .long (lT e)), (6, .int (nI e))] [] σ := by
      intro m29
      induction m29 using Nat.strongRecOn with
      | ind m29 ih29 =>
      intro e em29 he
      refine g_iload C dX5_mean_29 rfl ?_
      refine g_aload_n C dX5_mean_31 rfl rfl ?_
      refine g_get (v := .ref (wA w 40)) C fl_X5_13 fs_X5_13 (Nat.lt_of_lt_of_le (by decide) hN) rfl rfl dX5_mean_32 ?_
      refine g_iconst C dX5_mean_35 ic_0 ?_
      refine g_ial (k0 := 40) (n := 46) C (Nat.lt_of_lt_of_le (by decide) hN) rfl (j := 0) (by unfold ix; decide) dX5_mean_36 ?_
      refine g_val (y := nI (a 0)) (hM 0 (by omega)) ?_
      refine g_icmp_ge (tgt := 54) C dX5_mean_37 rfl (fun c37_2 => ?_) (fun c37_2 => ?_)
      · skip
        have n37_2 : a 0 ≤ e := (nj_le (a := a 0) (b := e) (by have := hBa 0; omega) (by have := hBa 0; omega)).mp c37_2
        have hea : e = a 0 := by omega
        rw [hea]
        refine g_iconst C dX5_mean_54 ic_0 ?_
        refine g_istore (lv' := [(6, .int 0), (0, .ref (wA w 38)), (1, .int (nI m)), (2, .long (lI (abZ a 0))), (4, .long (lT (a 0)))]) C dX5_mean_55 (by decide) rfl ?_
        have L57 : ∀ (m57 : Nat) (v : Nat) (σ1 : SG), m57 = W2 - v → (v ≤ W2) → (FrN σ σ1) → G l w K 57 [(0, .ref (wA w 38)), (1, .int (nI m)), (2, .long (lI (abZ a v))), (4, .long (lT (a 0))), (6, .int (nI v))] [] σ1 := by
          intro m57
          induction m57 using Nat.strongRecOn with
          | ind m57 ih57 =>
          intro v σ1 em57 hv hF1
          have hM1 : Mr σ1 40 a := hM.fr (hF1.1 40 (by decide) (by decide) (by decide) (by decide) (by decide) (by decide))
          refine g_iload C dX5_mean_57 rfl ?_
          refine g_iconst C dX5_mean_59 ic_1 ?_
          refine g_aload_n C dX5_mean_60 rfl rfl ?_
          refine g_get (v := .ref (wA w 40)) C fl_X5_13 fs_X5_13 (Nat.lt_of_lt_of_le (by decide) hN) rfl rfl dX5_mean_61 ?_
          refine g_iconst C dX5_mean_64 ic_0 ?_
          refine g_ial (k0 := 40) (n := 46) C (Nat.lt_of_lt_of_le (by decide) hN) rfl (j := 0) (by unfold ix; decide) dX5_mean_65 ?_
          refine g_val (y := nI (a 0)) (hM1 0 (by omega)) ?_
          refine g_ishl C dX5_mean_66 ?_
          refine g_val (y := nI W2) (by rw [hW2]; exact shl_eq hB0) ?_
          refine g_icmp_ge (tgt := 216) C dX5_mean_67 rfl (fun c67_3 => ?_) (fun c67_3 => ?_)
          · skip
            have n67_3 : W2 ≤ v := (nj_le (a := W2) (b := v) (by omega) (by omega)).mp c67_3
            have hvW : v = W2 := by omega
            rw [hvW]
            obtain ⟨z, hzd⟩ : ∃ q, q = abZ a W2 := ⟨_, rfl⟩
            have hz9 := abZ_le hcc hB0 W2 hW16
            rw [← hzd] at hz9
            obtain ⟨B, hBd⟩ : ∃ q, q = 10 ^ a 0 := ⟨_, rfl⟩
            rw [← hBd] at hT4
            have hB1_ : 0 < B := by rw [hBd]; exact Nat.pow_pos (by decide)
            obtain ⟨Gd, hGd⟩ : ∃ q, q = Nat.gcd B z.natAbs := ⟨_, rfl⟩
            have hGd0 : 0 < Gd := by rw [hGd]; exact Nat.gcd_pos_of_pos_left _ hB1_
            have hGd9 : Gd ≤ B := by rw [hGd]; exact Nat.gcd_le_left _ hB1_
            rw [← hzd]
            unfold lT
            rw [← hBd]
            refine g_lload_n C dX5_mean_216 rfl rfl ?_
            refine g_lconst (v := 0) C dX5_mean_217 (by decide) ?_
            refine g_lcmp C dX5_mean_218 ?_
            refine g_if_ne (tgt := 225) C dX5_mean_219 rfl (fun c219_4 => ?_) (fun c219_4 => ?_)
            · skip
              have hz0 : ¬ z = 0 := fun q => c219_4 ((lI_eq0 (by omega) (by omega)).mpr q)
              refine g_lload_n C dX5_mean_225 rfl rfl ?_
              refine g_absl C ml_X5_187 st_Lib_MathLoose_abs_long ini_Math co_Lib_MathLoose_abs_long (by decide) (Nat.le_of_ble_eq_true rfl) dX5_mean_226 ?_
              refine g_vall (y := lI (z.natAbs : Int)) (lI_abs (by omega) (by omega)) ?_
              refine g_lstore (lv' := [(6, .long (lI (z.natAbs : Int))), (0, .ref (wA w 38)), (1, .int (nI m)), (2, .long (lI z)), (4, .long (lI (B : Int)))]) C dX5_mean_229 (by decide) rfl ?_
              refine g_lload C dX5_mean_231 rfl ?_
              refine g_lstore (lv' := [(8, .long (lI (B : Int))), (6, .long (lI (z.natAbs : Int))), (0, .ref (wA w 38)), (1, .int (nI m)), (2, .long (lI z)), (4, .long (lI (B : Int)))]) C dX5_mean_233 (by decide) rfl ?_
              have L235 : ∀ (m235 : Nat) (d : Nat) (r1 : Nat), m235 = r1 → (d ≤ 1000000000000000000) → (r1 ≤ 1000000000000000000) → (Nat.gcd d r1 = Gd) → G l w K 235 [(0, .ref (wA w 38)), (1, .int (nI m)), (2, .long (lI z)), (4, .long (lI (B : Int))), (6, .long (lI (d : Int))), (8, .long (lI (r1 : Int)))] [] σ1 := by
                intro m235
                induction m235 using Nat.strongRecOn with
                | ind m235 ih235 =>
                intro d r1 em235 hd9 hr9 hg1
                refine g_lload C dX5_mean_235 rfl ?_
                refine g_lconst (v := 0) C dX5_mean_237 (by decide) ?_
                refine g_lcmp C dX5_mean_238 ?_
                refine g_if_eq (tgt := 260) C dX5_mean_239 rfl (fun c239_5 => ?_) (fun c239_5 => ?_)
                · skip
                  have hr0 : r1 = 0 := by have := (lI_eq0 (by omega) (by omega)).mp c239_5; omega
                  have hdG : d = Gd := by rw [← hg1, hr0, Nat.gcd_zero_right]
                  refine g_iload_n C dX5_mean_260 rfl rfl ?_
                  refine g_if_ne (tgt := 268) C dX5_mean_261 rfl (fun c261_6 => ?_) (fun c261_6 => ?_)
                  · skip
                    have n261_6 : ¬ (m = 0) := fun qq => c261_6 ((nj_eq (a := m) (b := 0) (by omega) (by omega)).mpr qq)
                    refine g_lload C dX5_mean_268 rfl ?_
                    refine g_lload C dX5_mean_270 rfl ?_
                    refine g_ldiv C dX5_mean_272 (fun z => by have z2 := congrArg Int64.toInt z; rw [lI_toInt (by omega) (by omega), show (0 : Int64).toInt = 0 by decide] at z2; omega) ?_
                    refine g_vall (y := lI (mnZ z B m)) (by first | (rw [lI_div (by omega) (by omega) (by omega) (by omega), hdG, hGd]; unfold mnZ; rw [if_pos (by omega)]) | (rw [lI_div (by omega) (by omega) (by omega) (by omega), hdG, hGd]; unfold mnZ; rw [if_neg (by omega)])) ?_
                    refine g_lret C r dX5_mean_273 ?_
                    refine fm_ql hC hF1 ?_ rfl
                    unfold spMean
                    rw [if_neg (fun z => z hg), nn_nj (n := m) (by omega), hzd, hBd, hW2]
                  · skip
                    have n261_6 : m = 0 := (nj_eq (a := m) (b := 0) (by omega) (by omega)).mp c261_6
                    refine g_lload_n C dX5_mean_264 rfl rfl ?_
                    refine g_goto (tgt := 270) C dX5_mean_265 rfl ?_
                    refine g_lload C dX5_mean_270 rfl ?_
                    refine g_ldiv C dX5_mean_272 (fun z => by have z2 := congrArg Int64.toInt z; rw [lI_toInt (by omega) (by omega), show (0 : Int64).toInt = 0 by decide] at z2; omega) ?_
                    refine g_vall (y := lI (mnZ z B m)) (by first | (rw [lI_div (by omega) (by omega) (by omega) (by omega), hdG, hGd]; unfold mnZ; rw [if_pos (by omega)]) | (rw [lI_div (by omega) (by omega) (by omega) (by omega), hdG, hGd]; unfold mnZ; rw [if_neg (by omega)])) ?_
                    refine g_lret C r dX5_mean_273 ?_
                    refine fm_ql hC hF1 ?_ rfl
                    unfold spMean
                    rw [if_neg (fun z => z hg), nn_nj (n := m) (by omega), hzd, hBd, hW2]
                · skip
                  have hr0 : 0 < r1 := Nat.pos_of_ne_zero (fun z => c239_5 ((lI_eq0 (by omega) (by omega)).mpr (by omega)))
                  refine g_lload C dX5_mean_242 rfl ?_
                  refine g_lload C dX5_mean_244 rfl ?_
                  refine g_lrem C dX5_mean_246 (fun z => by have z2 := congrArg Int64.toInt z; rw [lI_toInt (by omega) (by omega), show (0 : Int64).toInt = 0 by decide] at z2; omega) ?_
                  refine g_vall (y := lI ((d % r1 : Nat) : Int)) (lI_rem (by omega) hr0 (by omega)) ?_
                  refine g_lstore (lv' := [(10, .long (lI ((d % r1 : Nat) : Int))), (0, .ref (wA w 38)), (1, .int (nI m)), (2, .long (lI z)), (4, .long (lI (B : Int))), (6, .long (lI (d : Int))), (8, .long (lI (r1 : Int)))]) C dX5_mean_247 (by decide) rfl ?_
                  refine g_lload C dX5_mean_249 rfl ?_
                  refine g_lstore (lv' := [(6, .long (lI (r1 : Int))), (10, .long (lI ((d % r1 : Nat) : Int))), (0, .ref (wA w 38)), (1, .int (nI m)), (2, .long (lI z)), (4, .long (lI (B : Int))), (8, .long (lI (r1 : Int)))]) C dX5_mean_251 (by decide) rfl ?_
                  refine g_lload C dX5_mean_253 rfl ?_
                  refine g_lstore (lv' := [(8, .long (lI ((d % r1 : Nat) : Int))), (6, .long (lI (r1 : Int))), (10, .long (lI ((d % r1 : Nat) : Int))), (0, .ref (wA w 38)), (1, .int (nI m)), (2, .long (lI z)), (4, .long (lI (B : Int)))]) C dX5_mean_255 (by decide) rfl ?_
                  refine g_goto (tgt := 235) C dX5_mean_257 rfl ?_
                  have hm := Nat.mod_lt d hr0
                  have hgs := gcd_st hg1
                  exact g_lvp [3, 4, 5, 6, 1, 0] rfl (ih235 ((d % r1)) (by omega) r1 (d % r1) rfl (hr9) (by omega) (hgs))
              exact g_lvp [2, 3, 4, 5, 1, 0] rfl (L235 (B) z.natAbs B rfl (by omega) (by omega) (by rw [hGd, Nat.gcd_comm]))
            · skip
              have hz0 : z = 0 := (lI_eq0 (by omega) (by omega)).mp c219_4
              refine g_iload_n C dX5_mean_222 rfl rfl ?_
              refine g_i2l C dX5_mean_223 ?_
              refine g_lret C r dX5_mean_224 ?_
              refine fm_ql hC hF1 (v := lI (m : Int)) ?_ (lI_nI (by omega))
              unfold spMean
              rw [if_neg (fun z => z hg), nn_nj (n := m) (by omega)]
              show (lI (mnZ (abZ a (2 ^ a 0)) (10 ^ a 0) m), _) = _
              rw [← hW2, ← hzd, ← hBd, hz0, mnZ_0 hB1_ hm]
          · skip
            have n67_3 : ¬ (W2 ≤ v) := fun qq => c67_3 ((nj_le (a := W2) (b := v) (by omega) (by omega)).mpr qq)
            refine g_aload_n C dX5_mean_70 rfl rfl ?_
            refine g_get (v := .ref (wA w 40)) C fl_X5_13 fs_X5_13 (Nat.lt_of_lt_of_le (by decide) hN) rfl rfl dX5_mean_71 ?_
            refine g_aload_n C dX5_mean_74 rfl rfl ?_
            refine g_get (v := .ref (wA w 41)) C fl_X5_16 fs_X5_16 (Nat.lt_of_lt_of_le (by decide) hN) rfl rfl dX5_mean_75 ?_
            refine g_callSV (rest := []) C ms_X5_60 (ct_X5_move l w hN σ1 40 (Nat.lt_of_lt_of_le (by decide) hN) rfl 41 (Nat.lt_of_lt_of_le (by decide) hN) rfl (by decide) a hM1) rfl (by decide) rfl (Nat.le_of_ble_eq_true rfl) dX5_mean_78 (fun σt h7 => ?_)
            obtain ⟨hMt, hFt⟩ := h7
            have hMn : Mr σt 40 a := hM1.fr (hFt 40 (by decide))
            refine g_lconst (v := 1) C dX5_mean_81 (by decide) ?_
            refine g_vall (y := lI (chZ a v 0 : Int)) rfl ?_
            refine g_lstore (lv' := [(7, .long (lI (chZ a v 0 : Int))), (0, .ref (wA w 38)), (1, .int (nI m)), (2, .long (lI (abZ a v))), (4, .long (lT (a 0))), (6, .int (nI v))]) C dX5_mean_82 (by decide) rfl ?_
            refine g_iconst C dX5_mean_84 ic_0 ?_
            refine g_istore (lv' := [(9, .int 0), (7, .long (lI (chZ a v 0 : Int))), (0, .ref (wA w 38)), (1, .int (nI m)), (2, .long (lI (abZ a v))), (4, .long (lT (a 0))), (6, .int (nI v))]) C dX5_mean_85 (by decide) rfl ?_
            have L87 : ∀ (m87 : Nat) (e : Nat) (σ2 : SG), m87 = a 0 - e → (e ≤ a 0) → (∀ e', e' < e → σ2 43 e' = nI (huW a v e')) → (Mr σ2 41 a) → (Mr σ2 40 a) → (FrM σ1 σ2) → G l w K 87 [(0, .ref (wA w 38)), (1, .int (nI m)), (2, .long (lI (abZ a v))), (4, .long (lT (a 0))), (6, .int (nI v)), (7, .long (lI (chZ a v e : Int))), (9, .int (nI e))] [] σ2 := by
              intro m87
              induction m87 using Nat.strongRecOn with
              | ind m87 ih87 =>
              intro e σ2 em87 he hh2 hM2 hM21 hF2
              refine g_iload C dX5_mean_87 rfl ?_
              refine g_aload_n C dX5_mean_89 rfl rfl ?_
              refine g_get (v := .ref (wA w 40)) C fl_X5_13 fs_X5_13 (Nat.lt_of_lt_of_le (by decide) hN) rfl rfl dX5_mean_90 ?_
              refine g_iconst C dX5_mean_93 ic_0 ?_
              refine g_ial (k0 := 40) (n := 46) C (Nat.lt_of_lt_of_le (by decide) hN) rfl (j := 0) (by unfold ix; decide) dX5_mean_94 ?_
              refine g_val (y := nI (a 0)) (hM21 0 (by omega)) ?_
              refine g_icmp_ge (tgt := 190) C dX5_mean_95 rfl (fun c95_8 => ?_) (fun c95_8 => ?_)
              · skip
                have n95_8 : a 0 ≤ e := (nj_le (a := a 0) (b := e) (by have := hBa 0; omega) (by have := hBa 0; omega)).mp c95_8
                have hea : e = a 0 := by omega
                rw [hea]
                refine g_aload_n C dX5_mean_190 rfl rfl ?_
                refine g_aload_n C dX5_mean_191 rfl rfl ?_
                refine g_get (v := .ref (wA w 41)) C fl_X5_16 fs_X5_16 (Nat.lt_of_lt_of_le (by decide) hN) rfl rfl dX5_mean_192 ?_
                refine g_iconst C dX5_mean_195 ic_0 ?_
                refine g_callVV (rest := []) C mv_X5_111 (ct_X5_day l w hN σ2 41 (Nat.lt_of_lt_of_le (by decide) hN) rfl a hM2 hB (by decide) (by decide) (by decide) (huW a v) (fun e' h => hh2 e' (by omega)) (fun e' h => by unfold huW; split; exact (hBe e' (by omega)).2.1; omega) 0 (Nat.zero_le _) (by omega)) (Nat.lt_of_lt_of_le (by decide) hN) rfl rfl (by decide) rfl (Nat.le_of_ble_eq_true rfl) dX5_mean_196 (fun σd h9 => ?_)
                obtain ⟨hMd, Dd, htd, hFd⟩ := h9
                refine g_lload_n C dX5_mean_199 rfl rfl ?_
                refine g_lload C dX5_mean_200 rfl ?_
                refine g_aload_n C dX5_mean_202 rfl rfl ?_
                refine g_get (v := .int (σd 38 8)) C fl_X5_85 fs_X5_85 (Nat.lt_of_lt_of_le (by decide) hN) rfl rfl dX5_mean_203 ?_
                refine g_val (y := dyV (huW a v) a 0) Dd.1 ?_
                refine g_i2l C dX5_mean_206 ?_
                refine g_lmul C dX5_mean_207 ?_
                refine g_ladd C dX5_mean_208 ?_
                refine g_vall (y := lI (abZ a (v + 1))) (abZ_s a v) ?_
                refine g_lstore_n (lv' := [(2, .long (lI (abZ a (v + 1)))), (0, .ref (wA w 38)), (1, .int (nI m)), (4, .long (lT (a 0))), (6, .int (nI v)), (7, .long (lI (chZ a v (a 0) : Int))), (9, .int (nI (a 0)))]) C dX5_mean_209 rfl (by decide) rfl ?_
                refine g_iinc (v := nI (v + 1)) (lv' := [(6, .int (nI (v + 1))), (2, .long (lI (abZ a (v + 1)))), (0, .ref (wA w 38)), (1, .int (nI m)), (4, .long (lT (a 0))), (7, .long (lI (chZ a v (a 0) : Int))), (9, .int (nI (a 0)))]) C dX5_mean_210 (by decide) rfl (nj_inc v) rfl ?_
                refine g_goto (tgt := 57) C dX5_mean_213 rfl ?_
                exact g_lvp [2, 3, 1, 4, 0] rfl (ih57 (W2 - (v + 1)) (by omega) (v + 1) σd rfl (by first | omega | assumption | rfl | grind) (hF1.tr (hF2.tr (FrM.y hFd)).n))
              · skip
                have n95_8 : ¬ (a 0 ≤ e) := fun qq => c95_8 ((nj_le (a := a 0) (b := e) (by have := hBa 0; omega) (by have := hBa 0; omega)).mpr qq)
                refine g_iload C dX5_mean_98 rfl ?_
                refine g_iload C dX5_mean_100 rfl ?_
                refine g_ishr C dX5_mean_102 ?_
                refine g_iconst C dX5_mean_103 ic_1 ?_
                refine g_iand C dX5_mean_104 ?_
                refine g_val (y := nI (bW v e)) (bW_eq (by omega) (by omega)) ?_
                refine g_iconst C dX5_mean_105 ic_1 ?_
                have hbw := bW_le v e
                have hc9 := hcc e (by omega)
                refine g_icmp_ne (tgt := 113) C dX5_mean_106 rfl (fun c106_10 => ?_) (fun c106_10 => ?_)
                · skip
                  have n106_10 : ¬ (bW v e = 1) := fun qq => c106_10 ((nj_eq (a := bW v e) (b := 1) (by omega) (by omega)).mpr qq)
                  have hb0 : ¬ bW v e = 1 := by omega
                  refine g_iconst C dX5_mean_113 ic_0 ?_
                  refine g_istore (lv' := [(10, .int 0), (0, .ref (wA w 38)), (1, .int (nI m)), (2, .long (lI (abZ a v))), (4, .long (lT (a 0))), (6, .int (nI v)), (7, .long (lI (chZ a v e : Int))), (9, .int (nI e))]) C dX5_mean_114 (by decide) rfl ?_
                  refine g_aload_n C dX5_mean_116 rfl rfl ?_
                  refine g_get (v := .ref (wA w 40)) C fl_X5_13 fs_X5_13 (Nat.lt_of_lt_of_le (by decide) hN) rfl rfl dX5_mean_117 ?_
                  refine g_bipush C dX5_mean_120 bp_30 ?_
                  refine g_iconst C dX5_mean_122 ic_4 ?_
                  refine g_iload C dX5_mean_123 rfl ?_
                  refine g_imulv (v := nI (4 * e)) C (nj_times 4 e) dX5_mean_125 ?_
                  refine g_iaddv (v := nI (30 + (4 * e))) C (nj_plus 30 (4 * e)) dX5_mean_126 ?_
                  refine g_iconst C dX5_mean_127 ic_3 ?_
                  refine g_iaddv (v := nI ((30 + (4 * e)) + 3)) C (nj_plus (30 + (4 * e)) 3) dX5_mean_128 ?_
                  refine g_ial (k0 := 40) (n := 46) C (Nat.lt_of_lt_of_le (by decide) hN) rfl (j := (30 + (4 * e)) + 3) (ix_n (by omega)) dX5_mean_129 ?_
                  refine g_val (y := nI (a ((30 + (4 * e)) + 3))) (hM21 ((30 + (4 * e)) + 3) (by omega)) ?_
                  refine g_istore (lv' := [(11, .int (nI (a ((30 + (4 * e)) + 3)))), (10, .int 0), (0, .ref (wA w 38)), (1, .int (nI m)), (2, .long (lI (abZ a v))), (4, .long (lT (a 0))), (6, .int (nI v)), (7, .long (lI (chZ a v e : Int))), (9, .int (nI e))]) C dX5_mean_130 (by decide) rfl ?_
                  refine g_lload C dX5_mean_132 rfl ?_
                  refine g_iload C dX5_mean_134 rfl ?_
                  refine g_if_eq (tgt := 145) C dX5_mean_136 rfl (fun c136_11 => ?_) (fun c136_11 => ?_)
                  · skip
                    refine g_bipush C dX5_mean_145 bp_10 ?_
                    refine g_iload C dX5_mean_147 rfl ?_
                    refine g_isubv (v := nI (10 - (a ((30 + (4 * e)) + 3)))) C (nj_minus (a := 10) (b := a ((30 + (4 * e)) + 3)) (by omega)) dX5_mean_149 ?_
                    refine g_i2l C dX5_mean_150 ?_
                    refine g_lmul C dX5_mean_151 ?_
                    refine g_vall (y := lI (chZ a v (e + 1) : Int)) (by first | exact chZ_1 hb1 hc9 | exact chZ_0 hb0 hc9) ?_
                    refine g_lstore (lv' := [(7, .long (lI (chZ a v (e + 1) : Int))), (11, .int (nI (a ((30 + (4 * e)) + 3)))), (10, .int 0), (0, .ref (wA w 38)), (1, .int (nI m)), (2, .long (lI (abZ a v))), (4, .long (lT (a 0))), (6, .int (nI v)), (9, .int (nI e))]) C dX5_mean_152 (by decide) rfl ?_
                    refine g_aload_n C dX5_mean_154 rfl rfl ?_
                    refine g_get (v := .ref (wA w 43)) C fl_X5_22 fs_X5_22 (Nat.lt_of_lt_of_le (by decide) hN) rfl rfl dX5_mean_155 ?_
                    refine g_iload C dX5_mean_158 rfl ?_
                    refine g_iload C dX5_mean_160 rfl ?_
                    refine g_if_eq (tgt := 182) C dX5_mean_162 rfl (fun c162_12 => ?_) (fun c162_12 => ?_)
                    · skip
                      refine g_iconst C dX5_mean_182 ic_0 ?_
                      refine g_ias (k0 := 43) (n := 4) C (Nat.lt_of_lt_of_le (by decide) hN) rfl (j := e) (ix_n (by omega)) dX5_mean_183 (fun σz hσz => ?_)
                      refine g_iinc (v := nI (e + 1)) (lv' := [(9, .int (nI (e + 1))), (7, .long (lI (chZ a v (e + 1) : Int))), (11, .int (nI (a ((30 + (4 * e)) + 3)))), (10, .int 0), (0, .ref (wA w 38)), (1, .int (nI m)), (2, .long (lI (abZ a v))), (4, .long (lT (a 0))), (6, .int (nI v))]) C dX5_mean_184 (by decide) rfl (nj_inc e) rfl ?_
                      refine g_goto (tgt := 87) C dX5_mean_187 rfl ?_
                      exact g_lvp [4, 5, 6, 7, 8, 1, 0] rfl (ih87 (a 0 - (e + 1)) (by omega) (e + 1) σz rfl (by first | omega | assumption | rfl | grind) (fun e' h => (Decidable.em (e' = e)).elim (fun z => by rw [z, hσz, up_same]; first | exact congrArg nI (if_pos hb1).symm | exact congrArg nI (if_neg hb0).symm) (fun z => by rw [hσz, up_elem z]; exact hh2 e' (by omega))) (hM2.fr (by rw [hσz, up_other (by decide)])) (hM21.fr (by rw [hσz, up_other (by decide)])) (hF2.tr (by rw [hσz]; exact FrM.u (by decide))))
                    · exact absurd c136_11 c162_12
                  · exact absurd c136_11 (by decide)
                · skip
                  have n106_10 : bW v e = 1 := (nj_eq (a := bW v e) (b := 1) (by omega) (by omega)).mp c106_10
                  have hb1 : bW v e = 1 := by omega
                  refine g_iconst C dX5_mean_109 ic_1 ?_
                  refine g_goto (tgt := 114) C dX5_mean_110 rfl ?_
                  refine g_istore (lv' := [(10, .int 1), (0, .ref (wA w 38)), (1, .int (nI m)), (2, .long (lI (abZ a v))), (4, .long (lT (a 0))), (6, .int (nI v)), (7, .long (lI (chZ a v e : Int))), (9, .int (nI e))]) C dX5_mean_114 (by decide) rfl ?_
                  refine g_aload_n C dX5_mean_116 rfl rfl ?_
                  refine g_get (v := .ref (wA w 40)) C fl_X5_13 fs_X5_13 (Nat.lt_of_lt_of_le (by decide) hN) rfl rfl dX5_mean_117 ?_
                  refine g_bipush C dX5_mean_120 bp_30 ?_
                  refine g_iconst C dX5_mean_122 ic_4 ?_
                  refine g_iload C dX5_mean_123 rfl ?_
                  refine g_imulv (v := nI (4 * e)) C (nj_times 4 e) dX5_mean_125 ?_
                  refine g_iaddv (v := nI (30 + (4 * e))) C (nj_plus 30 (4 * e)) dX5_mean_126 ?_
                  refine g_iconst C dX5_mean_127 ic_3 ?_
                  refine g_iaddv (v := nI ((30 + (4 * e)) + 3)) C (nj_plus (30 + (4 * e)) 3) dX5_mean_128 ?_
                  refine g_ial (k0 := 40) (n := 46) C (Nat.lt_of_lt_of_le (by decide) hN) rfl (j := (30 + (4 * e)) + 3) (ix_n (by omega)) dX5_mean_129 ?_
                  refine g_val (y := nI (a ((30 + (4 * e)) + 3))) (hM21 ((30 + (4 * e)) + 3) (by omega)) ?_
                  refine g_istore (lv' := [(11, .int (nI (a ((30 + (4 * e)) + 3)))), (10, .int 1), (0, .ref (wA w 38)), (1, .int (nI m)), (2, .long (lI (abZ a v))), (4, .long (lT (a 0))), (6, .int (nI v)), (7, .long (lI (chZ a v e : Int))), (9, .int (nI e))]) C dX5_mean_130 (by decide) rfl ?_
                  refine g_lload C dX5_mean_132 rfl ?_
                  refine g_iload C dX5_mean_134 rfl ?_
                  refine g_if_eq (tgt := 145) C dX5_mean_136 rfl (fun c136_13 => ?_) (fun c136_13 => ?_)
                  · exact absurd c136_13 (by decide)
                  · skip
                    refine g_iload C dX5_mean_139 rfl ?_
                    refine g_i2l C dX5_mean_141 ?_
                    refine g_goto (tgt := 151) C dX5_mean_142 rfl ?_
                    refine g_lmul C dX5_mean_151 ?_
                    refine g_vall (y := lI (chZ a v (e + 1) : Int)) (by first | exact chZ_1 hb1 hc9 | exact chZ_0 hb0 hc9) ?_
                    refine g_lstore (lv' := [(7, .long (lI (chZ a v (e + 1) : Int))), (11, .int (nI (a ((30 + (4 * e)) + 3)))), (10, .int 1), (0, .ref (wA w 38)), (1, .int (nI m)), (2, .long (lI (abZ a v))), (4, .long (lT (a 0))), (6, .int (nI v)), (9, .int (nI e))]) C dX5_mean_152 (by decide) rfl ?_
                    refine g_aload_n C dX5_mean_154 rfl rfl ?_
                    refine g_get (v := .ref (wA w 43)) C fl_X5_22 fs_X5_22 (Nat.lt_of_lt_of_le (by decide) hN) rfl rfl dX5_mean_155 ?_
                    refine g_iload C dX5_mean_158 rfl ?_
                    refine g_iload C dX5_mean_160 rfl ?_
                    refine g_if_eq (tgt := 182) C dX5_mean_162 rfl (fun c162_14 => ?_) (fun c162_14 => ?_)
                    · exact absurd c162_14 c136_13
                    · skip
                      refine g_aload_n C dX5_mean_165 rfl rfl ?_
                      refine g_get (v := .ref (wA w 40)) C fl_X5_13 fs_X5_13 (Nat.lt_of_lt_of_le (by decide) hN) rfl rfl dX5_mean_166 ?_
                      refine g_bipush C dX5_mean_169 bp_30 ?_
                      refine g_iconst C dX5_mean_171 ic_4 ?_
                      refine g_iload C dX5_mean_172 rfl ?_
                      refine g_imulv (v := nI (4 * e)) C (nj_times 4 e) dX5_mean_174 ?_
                      refine g_iaddv (v := nI (30 + (4 * e))) C (nj_plus 30 (4 * e)) dX5_mean_175 ?_
                      refine g_iconst C dX5_mean_176 ic_1 ?_
                      refine g_iaddv (v := nI ((30 + (4 * e)) + 1)) C (nj_plus (30 + (4 * e)) 1) dX5_mean_177 ?_
                      refine g_ial (k0 := 40) (n := 46) C (Nat.lt_of_lt_of_le (by decide) hN) rfl (j := (30 + (4 * e)) + 1) (ix_n (by omega)) dX5_mean_178 ?_
                      refine g_val (y := nI (a ((30 + (4 * e)) + 1))) (hM21 ((30 + (4 * e)) + 1) (by omega)) ?_
                      refine g_goto (tgt := 183) C dX5_mean_179 rfl ?_
                      refine g_ias (k0 := 43) (n := 4) C (Nat.lt_of_lt_of_le (by decide) hN) rfl (j := e) (ix_n (by omega)) dX5_mean_183 (fun σz hσz => ?_)
                      refine g_iinc (v := nI (e + 1)) (lv' := [(9, .int (nI (e + 1))), (7, .long (lI (chZ a v (e + 1) : Int))), (11, .int (nI (a ((30 + (4 * e)) + 3)))), (10, .int 1), (0, .ref (wA w 38)), (1, .int (nI m)), (2, .long (lI (abZ a v))), (4, .long (lT (a 0))), (6, .int (nI v))]) C dX5_mean_184 (by decide) rfl (nj_inc e) rfl ?_
                      refine g_goto (tgt := 87) C dX5_mean_187 rfl ?_
                      exact g_lvp [4, 5, 6, 7, 8, 1, 0] rfl (ih87 (a 0 - (e + 1)) (by omega) (e + 1) σz rfl (by first | omega | assumption | rfl | grind) (fun e' h => (Decidable.em (e' = e)).elim (fun z => by rw [z, hσz, up_same]; first | exact congrArg nI (if_pos hb1).symm | exact congrArg nI (if_neg hb0).symm) (fun z => by rw [hσz, up_elem z]; exact hh2 e' (by omega))) (hM2.fr (by rw [hσz, up_other (by decide)])) (hM21.fr (by rw [hσz, up_other (by decide)])) (hF2.tr (by rw [hσz]; exact FrM.u (by decide))))
            exact g_lvp [2, 3, 4, 5, 6, 1, 0] rfl (L87 (a 0 - 0) 0 σt rfl (by first | omega | assumption | rfl | grind) (fun e' h => absurd h (Nat.not_lt_zero _)) (hMt) (hMn) ((FrM.f hFt (by decide))))
        exact g_lvp [1, 2, 3, 4, 0] rfl (L57 (W2 - 0) 0 σ rfl (by first | omega | assumption | rfl | grind) (FrN.rf))
      · skip
        have n37_2 : ¬ (a 0 ≤ e) := fun qq => c37_2 ((nj_le (a := a 0) (b := e) (by have := hBa 0; omega) (by have := hBa 0; omega)).mpr qq)
        refine g_lload C dX5_mean_40 rfl ?_
        refine g_ldc2 C cs_X5_185 dX5_mean_42 ?_
        refine g_lmul C dX5_mean_45 ?_
        refine g_vall (y := lT (e + 1)) (lT_s e) ?_
        refine g_lstore (lv' := [(4, .long (lT (e + 1))), (0, .ref (wA w 38)), (1, .int (nI m)), (2, .long (lI (abZ a 0))), (6, .int (nI e))]) C dX5_mean_46 (by decide) rfl ?_
        refine g_iinc (v := nI (e + 1)) (lv' := [(6, .int (nI (e + 1))), (4, .long (lT (e + 1))), (0, .ref (wA w 38)), (1, .int (nI m)), (2, .long (lI (abZ a 0)))]) C dX5_mean_48 (by decide) rfl (nj_inc e) rfl ?_
        refine g_goto (tgt := 29) C dX5_mean_51 rfl ?_
        exact g_lvp [2, 3, 4, 1, 0] rfl (ih29 (a 0 - (e + 1)) (by omega) (e + 1) rfl (by first | omega | assumption | rfl | grind))
    exact g_lvp [3, 4, 2, 1, 0] rfl (L29 (a 0 - 0) 0 rfl (by first | omega | assumption | rfl | grind))
  · skip
    have hn0 := c1_1
    refine g_iload_n C dX5_mean_4 rfl rfl ?_
    refine g_iconst C dX5_mean_5 ic_1 ?_
    refine g_icmp_eq (tgt := 21) C dX5_mean_6 rfl (fun c6_15 => ?_) (fun c6_15 => ?_)
    · skip
      have hg : 0 ≤ x ∧ x ≤ 1 := by rw [c6_15]; decide
      obtain ⟨m, hm, rfl⟩ := nj_of3 (m := 1) hg
      refine g_lconst (v := 0) C dX5_mean_21 (by decide) ?_
      refine g_vall (y := lI (abZ a 0)) (by rfl) ?_
      refine g_lstore_n (lv' := [(2, .long (lI (abZ a 0))), (0, .ref (wA w 38)), (1, .int (nI m))]) C dX5_mean_22 rfl (by decide) rfl ?_
      refine g_lconst (v := 1) C dX5_mean_23 (by decide) ?_
      refine g_vall (y := lT 0) lT_0 ?_
      refine g_lstore (lv' := [(4, .long (lT 0)), (2, .long (lI (abZ a 0))), (0, .ref (wA w 38)), (1, .int (nI m))]) C dX5_mean_24 (by decide) rfl ?_
      refine g_iconst C dX5_mean_26 ic_0 ?_
      refine g_istore (lv' := [(6, .int 0), (4, .long (lT 0)), (2, .long (lI (abZ a 0))), (0, .ref (wA w 38)), (1, .int (nI m))]) C dX5_mean_27 (by decide) rfl ?_
      have L29 : ∀ (m29 : Nat) (e : Nat), m29 = a 0 - e → (e ≤ a 0) → G l w K 29 [(0, .ref (wA w 38)), (1, .int (nI m)), (2, .long (lI (abZ a 0))), (4, .long (lT e)), (6, .int (nI e))] [] σ := by
        intro m29
        induction m29 using Nat.strongRecOn with
        | ind m29 ih29 =>
        intro e em29 he
        refine g_iload C dX5_mean_29 rfl ?_
        refine g_aload_n C dX5_mean_31 rfl rfl ?_
        refine g_get (v := .ref (wA w 40)) C fl_X5_13 fs_X5_13 (Nat.lt_of_lt_of_le (by decide) hN) rfl rfl dX5_mean_32 ?_
        refine g_iconst C dX5_mean_35 ic_0 ?_
        refine g_ial (k0 := 40) (n := 46) C (Nat.lt_of_lt_of_le (by decide) hN) rfl (j := 0) (by unfold ix; decide) dX5_mean_36 ?_
        refine g_val (y := nI (a 0)) (hM 0 (by omega)) ?_
        refine g_icmp_ge (tgt := 54) C dX5_mean_37 rfl (fun c37_16 => ?_) (fun c37_16 => ?_)
        · skip
          have n37_16 : a 0 ≤ e := (nj_le (a := a 0) (b := e) (by have := hBa 0; omega) (by have := hBa 0; omega)).mp c37_16
          have hea : e = a 0 := by omega
          rw [hea]
          refine g_iconst C dX5_mean_54 ic_0 ?_
          refine g_istore (lv' := [(6, .int 0), (0, .ref (wA w 38)), (1, .int (nI m)), (2, .long (lI (abZ a 0))), (4, .long (lT (a 0)))]) C dX5_mean_55 (by decide) rfl ?_
          have L57 : ∀ (m57 : Nat) (v : Nat) (σ1 : SG), m57 = W2 - v → (v ≤ W2) → (FrN σ σ1) → G l w K 57 [(0, .ref (wA w 38)), (1, .int (nI m)), (2, .long (lI (abZ a v))), (4, .long (lT (a 0))), (6, .int (nI v))] [] σ1 := by
            intro m57
            induction m57 using Nat.strongRecOn with
            | ind m57 ih57 =>
            intro v σ1 em57 hv hF1
            have hM1 : Mr σ1 40 a := hM.fr (hF1.1 40 (by decide) (by decide) (by decide) (by decide) (by decide) (by decide))
            refine g_iload C dX5_mean_57 rfl ?_
            refine g_iconst C dX5_mean_59 ic_1 ?_
            refine g_aload_n C dX5_mean_60 rfl rfl ?_
            refine g_get (v := .ref (wA w 40)) C fl_X5_13 fs_X5_13 (Nat.lt_of_lt_of_le (by decide) hN) rfl rfl dX5_mean_61 ?_
            refine g_iconst C dX5_mean_64 ic_0 ?_
            refine g_ial (k0 := 40) (n := 46) C (Nat.lt_of_lt_of_le (by decide) hN) rfl (j := 0) (by unfold ix; decide) dX5_mean_65 ?_
            refine g_val (y := nI (a 0)) (hM1 0 (by omega)) ?_
            refine g_ishl C dX5_mean_66 ?_
            refine g_val (y := nI W2) (by rw [hW2]; exact shl_eq hB0) ?_
            refine g_icmp_ge (tgt := 216) C dX5_mean_67 rfl (fun c67_17 => ?_) (fun c67_17 => ?_)
            · skip
              have n67_17 : W2 ≤ v := (nj_le (a := W2) (b := v) (by omega) (by omega)).mp c67_17
              have hvW : v = W2 := by omega
              rw [hvW]
              obtain ⟨z, hzd⟩ : ∃ q, q = abZ a W2 := ⟨_, rfl⟩
              have hz9 := abZ_le hcc hB0 W2 hW16
              rw [← hzd] at hz9
              obtain ⟨B, hBd⟩ : ∃ q, q = 10 ^ a 0 := ⟨_, rfl⟩
              rw [← hBd] at hT4
              have hB1_ : 0 < B := by rw [hBd]; exact Nat.pow_pos (by decide)
              obtain ⟨Gd, hGd⟩ : ∃ q, q = Nat.gcd B z.natAbs := ⟨_, rfl⟩
              have hGd0 : 0 < Gd := by rw [hGd]; exact Nat.gcd_pos_of_pos_left _ hB1_
              have hGd9 : Gd ≤ B := by rw [hGd]; exact Nat.gcd_le_left _ hB1_
              rw [← hzd]
              unfold lT
              rw [← hBd]
              refine g_lload_n C dX5_mean_216 rfl rfl ?_
              refine g_lconst (v := 0) C dX5_mean_217 (by decide) ?_
              refine g_lcmp C dX5_mean_218 ?_
              refine g_if_ne (tgt := 225) C dX5_mean_219 rfl (fun c219_18 => ?_) (fun c219_18 => ?_)
              · skip
                have hz0 : ¬ z = 0 := fun q => c219_18 ((lI_eq0 (by omega) (by omega)).mpr q)
                refine g_lload_n C dX5_mean_225 rfl rfl ?_
                refine g_absl C ml_X5_187 st_Lib_MathLoose_abs_long ini_Math co_Lib_MathLoose_abs_long (by decide) (Nat.le_of_ble_eq_true rfl) dX5_mean_226 ?_
                refine g_vall (y := lI (z.natAbs : Int)) (lI_abs (by omega) (by omega)) ?_
                refine g_lstore (lv' := [(6, .long (lI (z.natAbs : Int))), (0, .ref (wA w 38)), (1, .int (nI m)), (2, .long (lI z)), (4, .long (lI (B : Int)))]) C dX5_mean_229 (by decide) rfl ?_
                refine g_lload C dX5_mean_231 rfl ?_
                refine g_lstore (lv' := [(8, .long (lI (B : Int))), (6, .long (lI (z.natAbs : Int))), (0, .ref (wA w 38)), (1, .int (nI m)), (2, .long (lI z)), (4, .long (lI (B : Int)))]) C dX5_mean_233 (by decide) rfl ?_
                have L235 : ∀ (m235 : Nat) (d : Nat) (r1 : Nat), m235 = r1 → (d ≤ 1000000000000000000) → (r1 ≤ 1000000000000000000) → (Nat.gcd d r1 = Gd) → G l w K 235 [(0, .ref (wA w 38)), (1, .int (nI m)), (2, .long (lI z)), (4, .long (lI (B : Int))), (6, .long (lI (d : Int))), (8, .long (lI (r1 : Int)))] [] σ1 := by
                  intro m235
                  induction m235 using Nat.strongRecOn with
                  | ind m235 ih235 =>
                  intro d r1 em235 hd9 hr9 hg1
                  refine g_lload C dX5_mean_235 rfl ?_
                  refine g_lconst (v := 0) C dX5_mean_237 (by decide) ?_
                  refine g_lcmp C dX5_mean_238 ?_
                  refine g_if_eq (tgt := 260) C dX5_mean_239 rfl (fun c239_19 => ?_) (fun c239_19 => ?_)
                  · skip
                    have hr0 : r1 = 0 := by have := (lI_eq0 (by omega) (by omega)).mp c239_19; omega
                    have hdG : d = Gd := by rw [← hg1, hr0, Nat.gcd_zero_right]
                    refine g_iload_n C dX5_mean_260 rfl rfl ?_
                    refine g_if_ne (tgt := 268) C dX5_mean_261 rfl (fun c261_20 => ?_) (fun c261_20 => ?_)
                    · skip
                      have n261_20 : ¬ (m = 0) := fun qq => c261_20 ((nj_eq (a := m) (b := 0) (by omega) (by omega)).mpr qq)
                      refine g_lload C dX5_mean_268 rfl ?_
                      refine g_lload C dX5_mean_270 rfl ?_
                      refine g_ldiv C dX5_mean_272 (fun z => by have z2 := congrArg Int64.toInt z; rw [lI_toInt (by omega) (by omega), show (0 : Int64).toInt = 0 by decide] at z2; omega) ?_
                      refine g_vall (y := lI (mnZ z B m)) (by first | (rw [lI_div (by omega) (by omega) (by omega) (by omega), hdG, hGd]; unfold mnZ; rw [if_pos (by omega)]) | (rw [lI_div (by omega) (by omega) (by omega) (by omega), hdG, hGd]; unfold mnZ; rw [if_neg (by omega)])) ?_
                      refine g_lret C r dX5_mean_273 ?_
                      refine fm_ql hC hF1 ?_ rfl
                      unfold spMean
                      rw [if_neg (fun z => z hg), nn_nj (n := m) (by omega), hzd, hBd, hW2]
                    · skip
                      have n261_20 : m = 0 := (nj_eq (a := m) (b := 0) (by omega) (by omega)).mp c261_20
                      refine g_lload_n C dX5_mean_264 rfl rfl ?_
                      refine g_goto (tgt := 270) C dX5_mean_265 rfl ?_
                      refine g_lload C dX5_mean_270 rfl ?_
                      refine g_ldiv C dX5_mean_272 (fun z => by have z2 := congrArg Int64.toInt z; rw [lI_toInt (by omega) (by omega), show (0 : Int64).toInt = 0 by decide] at z2; omega) ?_
                      refine g_vall (y := lI (mnZ z B m)) (by first | (rw [lI_div (by omega) (by omega) (by omega) (by omega), hdG, hGd]; unfold mnZ; rw [if_pos (by omega)]) | (rw [lI_div (by omega) (by omega) (by omega) (by omega), hdG, hGd]; unfold mnZ; rw [if_neg (by omega)])) ?_
                      refine g_lret C r dX5_mean_273 ?_
                      refine fm_ql hC hF1 ?_ rfl
                      unfold spMean
                      rw [if_neg (fun z => z hg), nn_nj (n := m) (by omega), hzd, hBd, hW2]
                  · skip
                    have hr0 : 0 < r1 := Nat.pos_of_ne_zero (fun z => c239_19 ((lI_eq0 (by omega) (by omega)).mpr (by omega)))
                    refine g_lload C dX5_mean_242 rfl ?_
                    refine g_lload C dX5_mean_244 rfl ?_
                    refine g_lrem C dX5_mean_246 (fun z => by have z2 := congrArg Int64.toInt z; rw [lI_toInt (by omega) (by omega), show (0 : Int64).toInt = 0 by decide] at z2; omega) ?_
                    refine g_vall (y := lI ((d % r1 : Nat) : Int)) (lI_rem (by omega) hr0 (by omega)) ?_
                    refine g_lstore (lv' := [(10, .long (lI ((d % r1 : Nat) : Int))), (0, .ref (wA w 38)), (1, .int (nI m)), (2, .long (lI z)), (4, .long (lI (B : Int))), (6, .long (lI (d : Int))), (8, .long (lI (r1 : Int)))]) C dX5_mean_247 (by decide) rfl ?_
                    refine g_lload C dX5_mean_249 rfl ?_
                    refine g_lstore (lv' := [(6, .long (lI (r1 : Int))), (10, .long (lI ((d % r1 : Nat) : Int))), (0, .ref (wA w 38)), (1, .int (nI m)), (2, .long (lI z)), (4, .long (lI (B : Int))), (8, .long (lI (r1 : Int)))]) C dX5_mean_251 (by decide) rfl ?_
                    refine g_lload C dX5_mean_253 rfl ?_
                    refine g_lstore (lv' := [(8, .long (lI ((d % r1 : Nat) : Int))), (6, .long (lI (r1 : Int))), (10, .long (lI ((d % r1 : Nat) : Int))), (0, .ref (wA w 38)), (1, .int (nI m)), (2, .long (lI z)), (4, .long (lI (B : Int)))]) C dX5_mean_255 (by decide) rfl ?_
                    refine g_goto (tgt := 235) C dX5_mean_257 rfl ?_
                    have hm := Nat.mod_lt d hr0
                    have hgs := gcd_st hg1
                    exact g_lvp [3, 4, 5, 6, 1, 0] rfl (ih235 ((d % r1)) (by omega) r1 (d % r1) rfl (hr9) (by omega) (hgs))
                exact g_lvp [2, 3, 4, 5, 1, 0] rfl (L235 (B) z.natAbs B rfl (by omega) (by omega) (by rw [hGd, Nat.gcd_comm]))
              · skip
                have hz0 : z = 0 := (lI_eq0 (by omega) (by omega)).mp c219_18
                refine g_iload_n C dX5_mean_222 rfl rfl ?_
                refine g_i2l C dX5_mean_223 ?_
                refine g_lret C r dX5_mean_224 ?_
                refine fm_ql hC hF1 (v := lI (m : Int)) ?_ (lI_nI (by omega))
                unfold spMean
                rw [if_neg (fun z => z hg), nn_nj (n := m) (by omega)]
                show (lI (mnZ (abZ a (2 ^ a 0)) (10 ^ a 0) m), _) = _
                rw [← hW2, ← hzd, ← hBd, hz0, mnZ_0 hB1_ hm]
            · skip
              have n67_17 : ¬ (W2 ≤ v) := fun qq => c67_17 ((nj_le (a := W2) (b := v) (by omega) (by omega)).mpr qq)
              refine g_aload_n C dX5_mean_70 rfl rfl ?_
              refine g_get (v := .ref (wA w 40)) C fl_X5_13 fs_X5_13 (Nat.lt_of_lt_of_le (by decide) hN) rfl rfl dX5_mean_71 ?_
              refine g_aload_n C dX5_mean_74 rfl rfl ?_
              refine g_get (v := .ref (wA w 41)) C fl_X5_16 fs_X5_16 (Nat.lt_of_lt_of_le (by decide) hN) rfl rfl dX5_mean_75 ?_
              refine g_callSV (rest := []) C ms_X5_60 (ct_X5_move l w hN σ1 40 (Nat.lt_of_lt_of_le (by decide) hN) rfl 41 (Nat.lt_of_lt_of_le (by decide) hN) rfl (by decide) a hM1) rfl (by decide) rfl (Nat.le_of_ble_eq_true rfl) dX5_mean_78 (fun σt h21 => ?_)
              obtain ⟨hMt, hFt⟩ := h21
              have hMn : Mr σt 40 a := hM1.fr (hFt 40 (by decide))
              refine g_lconst (v := 1) C dX5_mean_81 (by decide) ?_
              refine g_vall (y := lI (chZ a v 0 : Int)) rfl ?_
              refine g_lstore (lv' := [(7, .long (lI (chZ a v 0 : Int))), (0, .ref (wA w 38)), (1, .int (nI m)), (2, .long (lI (abZ a v))), (4, .long (lT (a 0))), (6, .int (nI v))]) C dX5_mean_82 (by decide) rfl ?_
              refine g_iconst C dX5_mean_84 ic_0 ?_
              refine g_istore (lv' := [(9, .int 0), (7, .long (lI (chZ a v 0 : Int))), (0, .ref (wA w 38)), (1, .int (nI m)), (2, .long (lI (abZ a v))), (4, .long (lT (a 0))), (6, .int (nI v))]) C dX5_mean_85 (by decide) rfl ?_
              have L87 : ∀ (m87 : Nat) (e : Nat) (σ2 : SG), m87 = a 0 - e → (e ≤ a 0) → (∀ e', e' < e → σ2 43 e' = nI (huW a v e')) → (Mr σ2 41 a) → (Mr σ2 40 a) → (FrM σ1 σ2) → G l w K 87 [(0, .ref (wA w 38)), (1, .int (nI m)), (2, .long (lI (abZ a v))), (4, .long (lT (a 0))), (6, .int (nI v)), (7, .long (lI (chZ a v e : Int))), (9, .int (nI e))] [] σ2 := by
                intro m87
                induction m87 using Nat.strongRecOn with
                | ind m87 ih87 =>
                intro e σ2 em87 he hh2 hM2 hM21 hF2
                refine g_iload C dX5_mean_87 rfl ?_
                refine g_aload_n C dX5_mean_89 rfl rfl ?_
                refine g_get (v := .ref (wA w 40)) C fl_X5_13 fs_X5_13 (Nat.lt_of_lt_of_le (by decide) hN) rfl rfl dX5_mean_90 ?_
                refine g_iconst C dX5_mean_93 ic_0 ?_
                refine g_ial (k0 := 40) (n := 46) C (Nat.lt_of_lt_of_le (by decide) hN) rfl (j := 0) (by unfold ix; decide) dX5_mean_94 ?_
                refine g_val (y := nI (a 0)) (hM21 0 (by omega)) ?_
                refine g_icmp_ge (tgt := 190) C dX5_mean_95 rfl (fun c95_22 => ?_) (fun c95_22 => ?_)
                · skip
                  have n95_22 : a 0 ≤ e := (nj_le (a := a 0) (b := e) (by have := hBa 0; omega) (by have := hBa 0; omega)).mp c95_22
                  have hea : e = a 0 := by omega
                  rw [hea]
                  refine g_aload_n C dX5_mean_190 rfl rfl ?_
                  refine g_aload_n C dX5_mean_191 rfl rfl ?_
                  refine g_get (v := .ref (wA w 41)) C fl_X5_16 fs_X5_16 (Nat.lt_of_lt_of_le (by decide) hN) rfl rfl dX5_mean_192 ?_
                  refine g_iconst C dX5_mean_195 ic_0 ?_
                  refine g_callVV (rest := []) C mv_X5_111 (ct_X5_day l w hN σ2 41 (Nat.lt_of_lt_of_le (by decide) hN) rfl a hM2 hB (by decide) (by decide) (by decide) (huW a v) (fun e' h => hh2 e' (by omega)) (fun e' h => by unfold huW; split; exact (hBe e' (by omega)).2.1; omega) 0 (Nat.zero_le _) (by omega)) (Nat.lt_of_lt_of_le (by decide) hN) rfl rfl (by decide) rfl (Nat.le_of_ble_eq_true rfl) dX5_mean_196 (fun σd h23 => ?_)
                  obtain ⟨hMd, Dd, htd, hFd⟩ := h23
                  refine g_lload_n C dX5_mean_199 rfl rfl ?_
                  refine g_lload C dX5_mean_200 rfl ?_
                  refine g_aload_n C dX5_mean_202 rfl rfl ?_
                  refine g_get (v := .int (σd 38 8)) C fl_X5_85 fs_X5_85 (Nat.lt_of_lt_of_le (by decide) hN) rfl rfl dX5_mean_203 ?_
                  refine g_val (y := dyV (huW a v) a 0) Dd.1 ?_
                  refine g_i2l C dX5_mean_206 ?_
                  refine g_lmul C dX5_mean_207 ?_
                  refine g_ladd C dX5_mean_208 ?_
                  refine g_vall (y := lI (abZ a (v + 1))) (abZ_s a v) ?_
                  refine g_lstore_n (lv' := [(2, .long (lI (abZ a (v + 1)))), (0, .ref (wA w 38)), (1, .int (nI m)), (4, .long (lT (a 0))), (6, .int (nI v)), (7, .long (lI (chZ a v (a 0) : Int))), (9, .int (nI (a 0)))]) C dX5_mean_209 rfl (by decide) rfl ?_
                  refine g_iinc (v := nI (v + 1)) (lv' := [(6, .int (nI (v + 1))), (2, .long (lI (abZ a (v + 1)))), (0, .ref (wA w 38)), (1, .int (nI m)), (4, .long (lT (a 0))), (7, .long (lI (chZ a v (a 0) : Int))), (9, .int (nI (a 0)))]) C dX5_mean_210 (by decide) rfl (nj_inc v) rfl ?_
                  refine g_goto (tgt := 57) C dX5_mean_213 rfl ?_
                  exact g_lvp [2, 3, 1, 4, 0] rfl (ih57 (W2 - (v + 1)) (by omega) (v + 1) σd rfl (by first | omega | assumption | rfl | grind) (hF1.tr (hF2.tr (FrM.y hFd)).n))
                · skip
                  have n95_22 : ¬ (a 0 ≤ e) := fun qq => c95_22 ((nj_le (a := a 0) (b := e) (by have := hBa 0; omega) (by have := hBa 0; omega)).mpr qq)
                  refine g_iload C dX5_mean_98 rfl ?_
                  refine g_iload C dX5_mean_100 rfl ?_
                  refine g_ishr C dX5_mean_102 ?_
                  refine g_iconst C dX5_mean_103 ic_1 ?_
                  refine g_iand C dX5_mean_104 ?_
                  refine g_val (y := nI (bW v e)) (bW_eq (by omega) (by omega)) ?_
                  refine g_iconst C dX5_mean_105 ic_1 ?_
                  have hbw := bW_le v e
                  have hc9 := hcc e (by omega)
                  refine g_icmp_ne (tgt := 113) C dX5_mean_106 rfl (fun c106_24 => ?_) (fun c106_24 => ?_)
                  · skip
                    have n106_24 : ¬ (bW v e = 1) := fun qq => c106_24 ((nj_eq (a := bW v e) (b := 1) (by omega) (by omega)).mpr qq)
                    have hb0 : ¬ bW v e = 1 := by omega
                    refine g_iconst C dX5_mean_113 ic_0 ?_
                    refine g_istore (lv' := [(10, .int 0), (0, .ref (wA w 38)), (1, .int (nI m)), (2, .long (lI (abZ a v))), (4, .long (lT (a 0))), (6, .int (nI v)), (7, .long (lI (chZ a v e : Int))), (9, .int (nI e))]) C dX5_mean_114 (by decide) rfl ?_
                    refine g_aload_n C dX5_mean_116 rfl rfl ?_
                    refine g_get (v := .ref (wA w 40)) C fl_X5_13 fs_X5_13 (Nat.lt_of_lt_of_le (by decide) hN) rfl rfl dX5_mean_117 ?_
                    refine g_bipush C dX5_mean_120 bp_30 ?_
                    refine g_iconst C dX5_mean_122 ic_4 ?_
                    refine g_iload C dX5_mean_123 rfl ?_
                    refine g_imulv (v := nI (4 * e)) C (nj_times 4 e) dX5_mean_125 ?_
                    refine g_iaddv (v := nI (30 + (4 * e))) C (nj_plus 30 (4 * e)) dX5_mean_126 ?_
                    refine g_iconst C dX5_mean_127 ic_3 ?_
                    refine g_iaddv (v := nI ((30 + (4 * e)) + 3)) C (nj_plus (30 + (4 * e)) 3) dX5_mean_128 ?_
                    refine g_ial (k0 := 40) (n := 46) C (Nat.lt_of_lt_of_le (by decide) hN) rfl (j := (30 + (4 * e)) + 3) (ix_n (by omega)) dX5_mean_129 ?_
                    refine g_val (y := nI (a ((30 + (4 * e)) + 3))) (hM21 ((30 + (4 * e)) + 3) (by omega)) ?_
                    refine g_istore (lv' := [(11, .int (nI (a ((30 + (4 * e)) + 3)))), (10, .int 0), (0, .ref (wA w 38)), (1, .int (nI m)), (2, .long (lI (abZ a v))), (4, .long (lT (a 0))), (6, .int (nI v)), (7, .long (lI (chZ a v e : Int))), (9, .int (nI e))]) C dX5_mean_130 (by decide) rfl ?_
                    refine g_lload C dX5_mean_132 rfl ?_
                    refine g_iload C dX5_mean_134 rfl ?_
                    refine g_if_eq (tgt := 145) C dX5_mean_136 rfl (fun c136_25 => ?_) (fun c136_25 => ?_)
                    · skip
                      refine g_bipush C dX5_mean_145 bp_10 ?_
                      refine g_iload C dX5_mean_147 rfl ?_
                      refine g_isubv (v := nI (10 - (a ((30 + (4 * e)) + 3)))) C (nj_minus (a := 10) (b := a ((30 + (4 * e)) + 3)) (by omega)) dX5_mean_149 ?_
                      refine g_i2l C dX5_mean_150 ?_
                      refine g_lmul C dX5_mean_151 ?_
                      refine g_vall (y := lI (chZ a v (e + 1) : Int)) (by first | exact chZ_1 hb1 hc9 | exact chZ_0 hb0 hc9) ?_
                      refine g_lstore (lv' := [(7, .long (lI (chZ a v (e + 1) : Int))), (11, .int (nI (a ((30 + (4 * e)) + 3)))), (10, .int 0), (0, .ref (wA w 38)), (1, .int (nI m)), (2, .long (lI (abZ a v))), (4, .long (lT (a 0))), (6, .int (nI v)), (9, .int (nI e))]) C dX5_mean_152 (by decide) rfl ?_
                      refine g_aload_n C dX5_mean_154 rfl rfl ?_
                      refine g_get (v := .ref (wA w 43)) C fl_X5_22 fs_X5_22 (Nat.lt_of_lt_of_le (by decide) hN) rfl rfl dX5_mean_155 ?_
                      refine g_iload C dX5_mean_158 rfl ?_
                      refine g_iload C dX5_mean_160 rfl ?_
                      refine g_if_eq (tgt := 182) C dX5_mean_162 rfl (fun c162_26 => ?_) (fun c162_26 => ?_)
                      · skip
                        refine g_iconst C dX5_mean_182 ic_0 ?_
                        refine g_ias (k0 := 43) (n := 4) C (Nat.lt_of_lt_of_le (by decide) hN) rfl (j := e) (ix_n (by omega)) dX5_mean_183 (fun σz hσz => ?_)
                        refine g_iinc (v := nI (e + 1)) (lv' := [(9, .int (nI (e + 1))), (7, .long (lI (chZ a v (e + 1) : Int))), (11, .int (nI (a ((30 + (4 * e)) + 3)))), (10, .int 0), (0, .ref (wA w 38)), (1, .int (nI m)), (2, .long (lI (abZ a v))), (4, .long (lT (a 0))), (6, .int (nI v))]) C dX5_mean_184 (by decide) rfl (nj_inc e) rfl ?_
                        refine g_goto (tgt := 87) C dX5_mean_187 rfl ?_
                        exact g_lvp [4, 5, 6, 7, 8, 1, 0] rfl (ih87 (a 0 - (e + 1)) (by omega) (e + 1) σz rfl (by first | omega | assumption | rfl | grind) (fun e' h => (Decidable.em (e' = e)).elim (fun z => by rw [z, hσz, up_same]; first | exact congrArg nI (if_pos hb1).symm | exact congrArg nI (if_neg hb0).symm) (fun z => by rw [hσz, up_elem z]; exact hh2 e' (by omega))) (hM2.fr (by rw [hσz, up_other (by decide)])) (hM21.fr (by rw [hσz, up_other (by decide)])) (hF2.tr (by rw [hσz]; exact FrM.u (by decide))))
                      · exact absurd c136_25 c162_26
                    · exact absurd c136_25 (by decide)
                  · skip
                    have n106_24 : bW v e = 1 := (nj_eq (a := bW v e) (b := 1) (by omega) (by omega)).mp c106_24
                    have hb1 : bW v e = 1 := by omega
                    refine g_iconst C dX5_mean_109 ic_1 ?_
                    refine g_goto (tgt := 114) C dX5_mean_110 rfl ?_
                    refine g_istore (lv' := [(10, .int 1), (0, .ref (wA w 38)), (1, .int (nI m)), (2, .long (lI (abZ a v))), (4, .long (lT (a 0))), (6, .int (nI v)), (7, .long (lI (chZ a v e : Int))), (9, .int (nI e))]) C dX5_mean_114 (by decide) rfl ?_
                    refine g_aload_n C dX5_mean_116 rfl rfl ?_
                    refine g_get (v := .ref (wA w 40)) C fl_X5_13 fs_X5_13 (Nat.lt_of_lt_of_le (by decide) hN) rfl rfl dX5_mean_117 ?_
                    refine g_bipush C dX5_mean_120 bp_30 ?_
                    refine g_iconst C dX5_mean_122 ic_4 ?_
                    refine g_iload C dX5_mean_123 rfl ?_
                    refine g_imulv (v := nI (4 * e)) C (nj_times 4 e) dX5_mean_125 ?_
                    refine g_iaddv (v := nI (30 + (4 * e))) C (nj_plus 30 (4 * e)) dX5_mean_126 ?_
                    refine g_iconst C dX5_mean_127 ic_3 ?_
                    refine g_iaddv (v := nI ((30 + (4 * e)) + 3)) C (nj_plus (30 + (4 * e)) 3) dX5_mean_128 ?_
                    refine g_ial (k0 := 40) (n := 46) C (Nat.lt_of_lt_of_le (by decide) hN) rfl (j := (30 + (4 * e)) + 3) (ix_n (by omega)) dX5_mean_129 ?_
                    refine g_val (y := nI (a ((30 + (4 * e)) + 3))) (hM21 ((30 + (4 * e)) + 3) (by omega)) ?_
                    refine g_istore (lv' := [(11, .int (nI (a ((30 + (4 * e)) + 3)))), (10, .int 1), (0, .ref (wA w 38)), (1, .int (nI m)), (2, .long (lI (abZ a v))), (4, .long (lT (a 0))), (6, .int (nI v)), (7, .long (lI (chZ a v e : Int))), (9, .int (nI e))]) C dX5_mean_130 (by decide) rfl ?_
                    refine g_lload C dX5_mean_132 rfl ?_
                    refine g_iload C dX5_mean_134 rfl ?_
                    refine g_if_eq (tgt := 145) C dX5_mean_136 rfl (fun c136_27 => ?_) (fun c136_27 => ?_)
                    · exact absurd c136_27 (by decide)
                    · skip
                      refine g_iload C dX5_mean_139 rfl ?_
                      refine g_i2l C dX5_mean_141 ?_
                      refine g_goto (tgt := 151) C dX5_mean_142 rfl ?_
                      refine g_lmul C dX5_mean_151 ?_
                      refine g_vall (y := lI (chZ a v (e + 1) : Int)) (by first | exact chZ_1 hb1 hc9 | exact chZ_0 hb0 hc9) ?_
                      refine g_lstore (lv' := [(7, .long (lI (chZ a v (e + 1) : Int))), (11, .int (nI (a ((30 + (4 * e)) + 3)))), (10, .int 1), (0, .ref (wA w 38)), (1, .int (nI m)), (2, .long (lI (abZ a v))), (4, .long (lT (a 0))), (6, .int (nI v)), (9, .int (nI e))]) C dX5_mean_152 (by decide) rfl ?_
                      refine g_aload_n C dX5_mean_154 rfl rfl ?_
                      refine g_get (v := .ref (wA w 43)) C fl_X5_22 fs_X5_22 (Nat.lt_of_lt_of_le (by decide) hN) rfl rfl dX5_mean_155 ?_
                      refine g_iload C dX5_mean_158 rfl ?_
                      refine g_iload C dX5_mean_160 rfl ?_
                      refine g_if_eq (tgt := 182) C dX5_mean_162 rfl (fun c162_28 => ?_) (fun c162_28 => ?_)
                      · exact absurd c162_28 c136_27
                      · skip
                        refine g_aload_n C dX5_mean_165 rfl rfl ?_
                        refine g_get (v := .ref (wA w 40)) C fl_X5_13 fs_X5_13 (Nat.lt_of_lt_of_le (by decide) hN) rfl rfl dX5_mean_166 ?_
                        refine g_bipush C dX5_mean_169 bp_30 ?_
                        refine g_iconst C dX5_mean_171 ic_4 ?_
                        refine g_iload C dX5_mean_172 rfl ?_
                        refine g_imulv (v := nI (4 * e)) C (nj_times 4 e) dX5_mean_174 ?_
                        refine g_iaddv (v := nI (30 + (4 * e))) C (nj_plus 30 (4 * e)) dX5_mean_175 ?_
                        refine g_iconst C dX5_mean_176 ic_1 ?_
                        refine g_iaddv (v := nI ((30 + (4 * e)) + 1)) C (nj_plus (30 + (4 * e)) 1) dX5_mean_177 ?_
                        refine g_ial (k0 := 40) (n := 46) C (Nat.lt_of_lt_of_le (by decide) hN) rfl (j := (30 + (4 * e)) + 1) (ix_n (by omega)) dX5_mean_178 ?_
                        refine g_val (y := nI (a ((30 + (4 * e)) + 1))) (hM21 ((30 + (4 * e)) + 1) (by omega)) ?_
                        refine g_goto (tgt := 183) C dX5_mean_179 rfl ?_
                        refine g_ias (k0 := 43) (n := 4) C (Nat.lt_of_lt_of_le (by decide) hN) rfl (j := e) (ix_n (by omega)) dX5_mean_183 (fun σz hσz => ?_)
                        refine g_iinc (v := nI (e + 1)) (lv' := [(9, .int (nI (e + 1))), (7, .long (lI (chZ a v (e + 1) : Int))), (11, .int (nI (a ((30 + (4 * e)) + 3)))), (10, .int 1), (0, .ref (wA w 38)), (1, .int (nI m)), (2, .long (lI (abZ a v))), (4, .long (lT (a 0))), (6, .int (nI v))]) C dX5_mean_184 (by decide) rfl (nj_inc e) rfl ?_
                        refine g_goto (tgt := 87) C dX5_mean_187 rfl ?_
                        exact g_lvp [4, 5, 6, 7, 8, 1, 0] rfl (ih87 (a 0 - (e + 1)) (by omega) (e + 1) σz rfl (by first | omega | assumption | rfl | grind) (fun e' h => (Decidable.em (e' = e)).elim (fun z => by rw [z, hσz, up_same]; first | exact congrArg nI (if_pos hb1).symm | exact congrArg nI (if_neg hb0).symm) (fun z => by rw [hσz, up_elem z]; exact hh2 e' (by omega))) (hM2.fr (by rw [hσz, up_other (by decide)])) (hM21.fr (by rw [hσz, up_other (by decide)])) (hF2.tr (by rw [hσz]; exact FrM.u (by decide))))
              exact g_lvp [2, 3, 4, 5, 6, 1, 0] rfl (L87 (a 0 - 0) 0 σt rfl (by first | omega | assumption | rfl | grind) (fun e' h => absurd h (Nat.not_lt_zero _)) (hMt) (hMn) ((FrM.f hFt (by decide))))
          exact g_lvp [1, 2, 3, 4, 0] rfl (L57 (W2 - 0) 0 σ rfl (by first | omega | assumption | rfl | grind) (FrN.rf))
        · skip
          have n37_16 : ¬ (a 0 ≤ e) := fun qq => c37_16 ((nj_le (a := a 0) (b := e) (by have := hBa 0; omega) (by have := hBa 0; omega)).mpr qq)
          refine g_lload C dX5_mean_40 rfl ?_
          refine g_ldc2 C cs_X5_185 dX5_mean_42 ?_
          refine g_lmul C dX5_mean_45 ?_
          refine g_vall (y := lT (e + 1)) (lT_s e) ?_
          refine g_lstore (lv' := [(4, .long (lT (e + 1))), (0, .ref (wA w 38)), (1, .int (nI m)), (2, .long (lI (abZ a 0))), (6, .int (nI e))]) C dX5_mean_46 (by decide) rfl ?_
          refine g_iinc (v := nI (e + 1)) (lv' := [(6, .int (nI (e + 1))), (4, .long (lT (e + 1))), (0, .ref (wA w 38)), (1, .int (nI m)), (2, .long (lI (abZ a 0)))]) C dX5_mean_48 (by decide) rfl (nj_inc e) rfl ?_
          refine g_goto (tgt := 29) C dX5_mean_51 rfl ?_
          exact g_lvp [2, 3, 4, 1, 0] rfl (ih29 (a 0 - (e + 1)) (by omega) (e + 1) rfl (by first | omega | assumption | rfl | grind))
      exact g_lvp [3, 4, 2, 1, 0] rfl (L29 (a 0 - 0) 0 rfl (by first | omega | assumption | rfl | grind))
    · skip
      have hn1 := c6_15
      refine g_ldc2 C cs_X5_183 dX5_mean_9 ?_
      refine g_aload_n C dX5_mean_12 rfl rfl ?_
      refine g_bipush C dX5_mean_13 bp_m2 ?_
      refine g_callVI (rest := [.long 4000000000000000000]) C mv_X5_64 (ct_X5_no l w hN σ 2 (by decide) ((-2)) (by decide)) (Nat.lt_of_lt_of_le (by decide) hN) rfl rfl (by decide) rfl (Nat.le_of_ble_eq_true rfl) dX5_mean_15 (fun r29 σ_29 h29 => ?_)
      obtain ⟨er29, hrf⟩ := h29
      rw [er29]
      refine g_i2l C dX5_mean_18 ?_
      refine g_lsub C dX5_mean_19 ?_
      refine g_lret C r dX5_mean_20 ?_
      exact fm_rl hC (by decide) hrf (by unfold spMean; rw [if_pos (fun z => by obtain ⟨j, hj, e⟩ := nj_of3 (m := 1) z; have : j = 0 ∨ j = 1 := (by omega); rcases this with rfl | rfl; exact hn0 e; exact hn1 e)]) rfl

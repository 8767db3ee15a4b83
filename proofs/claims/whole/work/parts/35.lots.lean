set_option maxRecDepth 100000 in
set_option maxHeartbeats 4000000 in
theorem ct_X4_draw (l : Launch) (w : WD) (hN : 54 ≤ wN w) (σ : SG) (z : Int32) (m : Nat) (hm : 1 ≤ m) (hm9 : m ≤ 1000) : CtI l w yX4_draw cX4_draw 2 (some .int) 1 0 0 [.int z, .int (nI m)] σ (fun r τ => r = nI (dN z m) ∧ τ = σ) := by
  refine CtI.mk (by decide) (Nat.le_of_ble_eq_true rfl) ?_
  intro K C hr h0
  have r := RI.of hr h0
  clear hr h0
  show G l w K 0 [(0, .int z), (1, .int (nI m))] [] σ
  refine g_iload_n C dX4_draw_0 rfl rfl ?_
  refine g_iconst C dX4_draw_1 ic_1 ?_
  refine g_icmp_ge (tgt := 9) C dX4_draw_2 rfl (fun c2_1 => ?_) (fun c2_1 => ?_)
  · skip
    have n2_1 : 1 ≤ m := (nj_le (a := 1) (b := m) (by omega) (by omega)).mp c2_1
    refine g_iload_n C dX4_draw_9 rfl rfl ?_
    refine g_ldc C cs_X4_247 dX4_draw_10 ?_
    refine g_iand C dX4_draw_12 ?_
    refine g_sipush C dX4_draw_13 sp_256 ?_
    refine g_idivv (v := (z &&& 2147483647) / 256) C (by decide) rfl dX4_draw_16 ?_
    refine g_iload_n C dX4_draw_17 rfl rfl ?_
    refine g_iremv (v := nI (dN z m)) C (nj_ne0 hm (by omega)) (drw_eq z (by omega)) dX4_draw_18 ?_
    refine g_iret C r rfl dX4_draw_19 ?_
    exact ⟨rfl, rfl⟩
  · skip
    have n2_1 : ¬ (1 ≤ m) := fun qq => c2_1 ((nj_le (a := 1) (b := m) (by omega) (by omega)).mpr qq)
    exfalso
    omega
set_option maxRecDepth 100000 in
set_option maxHeartbeats 4000000 in
theorem ct_X4_lots (l : Launch) (w : WD) (hN : 54 ≤ wN w) (σ : SG) (a kp : Row) (tk nl : Nat) (lt : Nat → Nat) (qn : Nat) (qs : Nat → Nat) (rf : Nat → Int32) (hC : CX σ (a, kp, tk, (nl, lt), (qn, qs), rf)) (x z : Int32) : CtI l w yX4_lots cX4_lots 9 (some .int) 6 0 0 [.ref (wA w 0), .int x, .int z] σ (fun r τ => r = (spLots (a, kp, tk, (nl, lt), (qn, qs), rf) x z).1 ∧ CX τ (spLots (a, kp, tk, (nl, lt), (qn, qs), rf) x z).2 ∧ Fr in37 σ τ) := by
  refine CtI.mk (by decide) (Nat.le_of_ble_eq_true rfl) ?_
  intro K C hr h0
  have r := RI.of hr h0
  clear hr h0
  show G l w K 0 [(0, .ref (wA w 0)), (1, .int x), (2, .int z)] [] σ
  have hR : HR σ a := hC.2.1
  have hH : Hh σ 1 a := hR.1
  have hB : Bd a := hR.2.1
  have h6 : σ 1 6 = nI 0 := hR.2.2.1
  have hd9 : a 1 ≤ 9999 := hR.2.2.2.1
  have hu9 : ∀ e, e < 4 → a (30 + 4 * e + 1) ≤ 9 := hR.2.2.2.2
  obtain ⟨hBa, hB0, hB1, hB2, hB3, hB4, hB5, hB6, hB7, hBs, hBp, hBe⟩ := id hB
  have h1 : HB 1 := Or.inl rfl
  have h10 : HB 10 := Or.inr (Or.inl rfl)
  have h19 : HB 19 := Or.inr (Or.inr rfl)
  refine g_iload_n C dX4_lots_0 rfl rfl ?_
  refine g_iconst C dX4_lots_1 ic_1 ?_
  refine g_bipush C dX4_lots_2 bp_20 ?_
  refine g_pSI (rest := []) (v := oU x 1 20) C ms_X4_56 (ct_X4_outside l w hN σ x 1 20) rfl (by decide) rfl (Nat.le_of_ble_eq_true rfl) dX4_lots_4 ?_
  refine g_istore_n (lv' := [(3, .int (oU x 1 20)), (0, .ref (wA w 0)), (1, .int x), (2, .int z)]) C dX4_lots_7 rfl (by decide) rfl ?_
  refine g_iload_n C dX4_lots_8 rfl rfl ?_
  refine g_if_eq (tgt := 18) C dX4_lots_9 rfl (fun c9_1 => ?_) (fun c9_1 => ?_)
  · skip
    have hz := out0 (lo := 1) (hi := 20) c9_1
    obtain ⟨m, hm1, hm, rfl⟩ := nj_of5 (lo := 1) (m := 20) hz
    refine g_iload_n C dX4_lots_18 rfl rfl ?_
    refine g_istore (lv' := [(4, .int z), (3, .int (oU (nI m) 1 20)), (0, .ref (wA w 0)), (1, .int (nI m)), (2, .int z)]) C dX4_lots_19 (by decide) rfl ?_
    refine g_iconst C dX4_lots_21 ic_0 ?_
    refine g_istore (lv' := [(5, .int 0), (4, .int z), (3, .int (oU (nI m) 1 20)), (0, .ref (wA w 0)), (1, .int (nI m)), (2, .int z)]) C dX4_lots_22 (by decide) rfl ?_
    refine g_iconst C dX4_lots_24 ic_0 ?_
    refine g_istore (lv' := [(6, .int 0), (5, .int 0), (4, .int z), (3, .int (oU (nI m) 1 20)), (0, .ref (wA w 0)), (1, .int (nI m)), (2, .int z)]) C dX4_lots_25 (by decide) rfl ?_
    have L27 : ∀ (m27 : Nat) (y : Nat) (s : Int32) (t : Nat) (σ1 : SG), m27 = m - y → (y ≤ m) → (lyS a z y = (s, t)) → (Fr inM σ σ1) → G l w K 27 [(0, .ref (wA w 0)), (1, .int (nI m)), (4, .int s), (5, .int (nI t)), (6, .int (nI y))] [] σ1 := by
      intro m27
      induction m27 using Nat.strongRecOn with
      | ind m27 ih27 =>
      intro y s t σ1 em27 hy hs hF1
      have hH1 : Hh σ1 1 a := (hR.m hF1).1
      have h61 : σ1 1 6 = nI 0 := (hR.m hF1).2.2.1
      refine g_iload C dX4_lots_27 rfl ?_
      refine g_iload_n C dX4_lots_29 rfl rfl ?_
      refine g_icmp_ge (tgt := 141) C dX4_lots_30 rfl (fun c30_2 => ?_) (fun c30_2 => ?_)
      · skip
        have n30_2 : m ≤ y := (nj_le (a := m) (b := y) (by omega) (by omega)).mp c30_2
        have hym : y = m := by omega
        refine g_iload C dX4_lots_141 rfl ?_
        refine g_iret C r rfl dX4_lots_143 ?_
        refine fin_q hC (hF1.mono (fun _ z => Or.inl z)) ?_ rfl
        unfold spLots
        rw [if_neg hz, nn_nj (n := m) (by omega)]
        show (nI (lyS a z m).2, _) = _
        rw [← hym, hs]
      · skip
        have n30_2 : ¬ (m ≤ y) := fun qq => c30_2 ((nj_le (a := m) (b := y) (by omega) (by omega)).mpr qq)
        refine g_aload_n C dX4_lots_33 rfl rfl ?_
        refine g_callVV (rest := []) C mv_X4_124 (ct_X4_think l w hN σ1 a hH1) (Nat.lt_of_lt_of_le (by decide) hN) rfl rfl (by decide) rfl (Nat.le_of_ble_eq_true rfl) dX4_lots_34 (fun σt h3 => ?_)
        obtain ⟨hHt, h6t, hFt⟩ := h3
        have h6t : σt 19 6 = nI 0 := by rw [h6t]; exact h61
        refine g_iconst C dX4_lots_37 ic_0 ?_
        refine g_istore (lv' := [(7, .int 0), (0, .ref (wA w 0)), (1, .int (nI m)), (4, .int s), (5, .int (nI t)), (6, .int (nI y))]) C dX4_lots_38 (by decide) rfl ?_
        have L40 : ∀ (m40 : Nat) (d : Nat) (s2 : Int32) (t2 : Nat) (u : Nat) (q : Row) (p : Row) (σ2 : SG), m40 = 28 - d → (d ≤ 28) → (ltS a s d = (q, s2, u)) → (t2 = t + u) → (HuE q p) → (Hh σ2 19 p) → (Bd p) → (σ2 19 6 = nI 0) → (p 1 = a 1 + d) → (p 0 = a 0) → (Fr inM σ σ2) → G l w K 40 [(0, .ref (wA w 0)), (1, .int (nI m)), (4, .int s2), (5, .int (nI t2)), (6, .int (nI y)), (7, .int (nI d))] [] σ2 := by
          intro m40
          induction m40 using Nat.strongRecOn with
          | ind m40 ih40 =>
          intro d s2 t2 u q p σ2 em40 hd hl ht2 hE hH2 hB2 h62 hp1 hp0 hF2
          refine g_iload C dX4_lots_40 rfl ?_
          refine g_bipush C dX4_lots_42 bp_28 ?_
          refine g_icmp_ge (tgt := 135) C dX4_lots_44 rfl (fun c44_4 => ?_) (fun c44_4 => ?_)
          · skip
            have n44_4 : 28 ≤ d := (nj_le (a := 28) (b := d) (by omega) (by omega)).mp c44_4
            have hd28 : d = 28 := by omega
            refine g_iinc (v := nI (y + 1)) (lv' := [(6, .int (nI (y + 1))), (0, .ref (wA w 0)), (1, .int (nI m)), (4, .int s2), (5, .int (nI t2)), (7, .int (nI d))]) C dX4_lots_135 (by decide) rfl (nj_inc y) rfl ?_
            refine g_goto (tgt := 27) C dX4_lots_138 rfl ?_
            exact g_lvp [1, 2, 3, 4, 0] rfl (ih27 (m - (y + 1)) (by omega) (y + 1) s2 t2 σ2 rfl (by first | omega | assumption | rfl | grind) (by rw [hd28] at hl; rw [ly_step hs, hl, ht2]) (hF2))
          · skip
            have n44_4 : ¬ (28 ≤ d) := fun qq => c44_4 ((nj_le (a := 28) (b := d) (by omega) (by omega)).mpr qq)
            refine g_iconst C dX4_lots_47 ic_0 ?_
            refine g_istore (lv' := [(8, .int 0), (0, .ref (wA w 0)), (1, .int (nI m)), (4, .int s2), (5, .int (nI t2)), (6, .int (nI y)), (7, .int (nI d))]) C dX4_lots_48 (by decide) rfl ?_
            have L50 : ∀ (m50 : Nat) (e : Nat) (s3 : Int32) (p3 : Row) (σ3 : SG), m50 = a 0 - e → (e ≤ a 0) → (s3 = sdS s2 e) → (HuE q p3) → (∀ e', e' < e → p3 (30 + 4 * e' + 1) = huL a s2 e') → (Hh σ3 19 p3) → (Bd p3) → (σ3 19 6 = nI 0) → (p3 1 = a 1 + d) → (p3 0 = a 0) → (Fr inM σ σ3) → G l w K 50 [(0, .ref (wA w 0)), (1, .int (nI m)), (4, .int s3), (5, .int (nI t2)), (6, .int (nI y)), (7, .int (nI d)), (8, .int (nI e))] [] σ3 := by
              intro m50
              induction m50 using Nat.strongRecOn with
              | ind m50 ih50 =>
              intro e s3 p3 σ3 em50 he hs3 hE3 hh3 hH3 hB3 h63 hp13 hp03 hF3
              have hH13 : Hh σ3 1 a := (hR.m hF3).1
              refine g_iload C dX4_lots_50 rfl ?_
              refine g_aload_n C dX4_lots_52 rfl rfl ?_
              refine g_get (v := .ref (wA w 1)) C fl_X4_12 fs_X4_12 (Nat.lt_of_lt_of_le (by decide) hN) rfl rfl dX4_lots_53 ?_
              refine g_get (v := .int (σ3 1 4)) C fl_X4_164 fs_X4_164 (Nat.lt_of_lt_of_le (by decide) hN) rfl rfl dX4_lots_56 ?_
              refine g_val (y := nI (a 0)) (Hh.c hH13) ?_
              refine g_icmp_ge (tgt := 109) C dX4_lots_59 rfl (fun c59_5 => ?_) (fun c59_5 => ?_)
              · skip
                have n59_5 : a 0 ≤ e := (nj_le (a := a 0) (b := e) (by have := hBa 0; omega) (by have := hBa 0; omega)).mp c59_5
                have hea : e = a 0 := by omega
                refine g_aload_n C dX4_lots_109 rfl rfl ?_
                refine g_iconst C dX4_lots_110 ic_1 ?_
                refine g_callVI (rest := []) C mv_X4_127 (ct_X4_passInMind l w hN σ3 p3 hH3 hB3 0 h63 (Nat.zero_le _) (by omega) 1 (by omega)) (Nat.lt_of_lt_of_le (by decide) hN) rfl rfl (by decide) rfl (Nat.le_of_ble_eq_true rfl) dX4_lots_111 (fun r6 σp h6 => ?_)
                obtain ⟨er6, eh6⟩ := h6
                subst er6
                obtain ⟨hHp, h6p, hTp, hFp⟩ := eh6
                have hdy := hu_dy hE3 (hu := huL a s2) (hu' := hun p3) (fun e' h => hh3 e' (by have z0 : p3 0 = q 0 := hE3.sl (by omega); omega)) 0
                refine g_pop C dX4_lots_114 rfl ?_
                refine g_iload C dX4_lots_115 rfl ?_
                refine g_aload_n C dX4_lots_117 rfl rfl ?_
                refine g_get (v := .ref (wA w 28)) C fl_X4_25 fs_X4_25 (Nat.lt_of_lt_of_le (by decide) hN) rfl rfl dX4_lots_118 ?_
                refine g_get (v := .ref (wA w 29)) C fl_X4_121 fs_X4_121 (Nat.lt_of_lt_of_le (by decide) hN) rfl rfl dX4_lots_121 ?_
                refine g_iconst C dX4_lots_124 ic_3 ?_
                refine g_ial (k0 := 29) (n := 6) C (Nat.lt_of_lt_of_le (by decide) hN) rfl (j := 3) (by unfold ix; decide) dX4_lots_125 ?_
                refine g_val (y := nI (dyT (huL a s2) q 0)) (by rw [← hdy.2.2.1, ← Nat.zero_add (dyT _ _ _)]; exact hTp.2.2.2.1) ?_
                refine g_iaddv (v := nI (t2 + (dyT (huL a s2) q 0))) C (nj_plus t2 (dyT (huL a s2) q 0)) dX4_lots_126 ?_
                refine g_istore (lv' := [(5, .int (nI (t2 + (dyT (huL a s2) q 0)))), (0, .ref (wA w 0)), (1, .int (nI m)), (4, .int s3), (6, .int (nI y)), (7, .int (nI d)), (8, .int (nI e))]) C dX4_lots_127 (by decide) rfl ?_
                refine g_iinc (v := nI (d + 1)) (lv' := [(7, .int (nI (d + 1))), (5, .int (nI (t2 + (dyT (huL a s2) q 0)))), (0, .ref (wA w 0)), (1, .int (nI m)), (4, .int s3), (6, .int (nI y)), (8, .int (nI e))]) C dX4_lots_129 (by decide) rfl (nj_inc d) rfl ?_
                refine g_goto (tgt := 40) C dX4_lots_132 rfl ?_
                exact g_lvp [2, 3, 4, 1, 5, 0] rfl (ih40 (28 - (d + 1)) (by omega) (d + 1) s3 (t2 + (dyT (huL a s2) q 0)) (u + dyT (huL a s2) q 0) (dyR (huL a s2) q 0) (dyR (hun p3) p3 0) σp rfl (by first | omega | assumption | rfl | grind) (by rw [lt_step hl, hs3, hea]) (by omega) (hdy.2.2.2.2.1) (hHp) (dyR_bd hB3 (by omega)) (by rw [h6p]; exact congrArg nI (shF_0 p3)) (by rw [dyR_1]; omega) (by rw [dyR_at _ _ _ 0 (by omega) (by omega)]; exact hp03) (hF3.tr (hFp.mono inD_M) (fun _ z => z)))
              · skip
                have n59_5 : ¬ (a 0 ≤ e) := fun qq => c59_5 ((nj_le (a := a 0) (b := e) (by have := hBa 0; omega) (by have := hBa 0; omega)).mpr qq)
                refine g_iload C dX4_lots_62 rfl ?_
                refine g_ldc C cs_X4_210 dX4_lots_64 ?_
                refine g_imulv (v := s3 * 1664525) C rfl dX4_lots_66 ?_
                refine g_ldc C cs_X4_211 dX4_lots_67 ?_
                refine g_iaddv (v := (s3 * 1664525) + 1013904223) C rfl dX4_lots_69 ?_
                refine g_top (fun s4 es4 => ?_)
                refine g_istore (lv' := [(4, .int s4), (0, .ref (wA w 0)), (1, .int (nI m)), (5, .int (nI t2)), (6, .int (nI y)), (7, .int (nI d)), (8, .int (nI e))]) C dX4_lots_70 (by decide) rfl ?_
                refine g_aload_n C dX4_lots_72 rfl rfl ?_
                refine g_get (v := .ref (wA w 19)) C fl_X4_19 fs_X4_19 (Nat.lt_of_lt_of_le (by decide) hN) rfl rfl dX4_lots_73 ?_
                refine g_get (v := .ref (wA w 23)) C fl_X4_87 fs_X4_87 (Nat.lt_of_lt_of_le (by decide) hN) rfl rfl dX4_lots_76 ?_
                refine g_iload C dX4_lots_79 rfl ?_
                refine g_aal (k0 := 23) (b := 19) C (Nat.lt_of_lt_of_le (by decide) hN) rfl (j := e) (ix_n (by omega)) dX4_lots_81 ?_
                refine g_iconst C dX4_lots_82 ic_1 ?_
                refine g_iload C dX4_lots_83 rfl ?_
                refine g_aload_n C dX4_lots_85 rfl rfl ?_
                refine g_get (v := .ref (wA w 1)) C fl_X4_12 fs_X4_12 (Nat.lt_of_lt_of_le (by decide) hN) rfl rfl dX4_lots_86 ?_
                refine g_get (v := .ref (wA w 5)) C fl_X4_87 fs_X4_87 (Nat.lt_of_lt_of_le (by decide) hN) rfl rfl dX4_lots_89 ?_
                refine g_iload C dX4_lots_92 rfl ?_
                refine g_aal (k0 := 5) (b := 1) C (Nat.lt_of_lt_of_le (by decide) hN) rfl (j := e) (ix_n (by omega)) dX4_lots_94 ?_
                refine g_iconst C dX4_lots_95 ic_1 ?_
                refine g_ial (k0 := (1 + 5 + e)) (n := 4) C (HB.nr h1 hN (by omega)) (HB.r h1 (by omega)) (j := 1) (by unfold ix; decide) dX4_lots_96 ?_
                refine g_val (y := nI (a (30 + 4 * e + 1))) (Hh.e hH13 (by omega) (by omega)) ?_
                refine g_iconst C dX4_lots_97 ic_3 ?_
                refine g_iaddv (v := nI ((a (30 + 4 * e + 1)) + 3)) C (nj_plus (a (30 + 4 * e + 1)) 3) dX4_lots_98 ?_
                refine g_pSI (rest := [.int 1, .ref (wA w (19 + 5 + e))]) (v := nI (dN s4 ((a (30 + 4 * e + 1)) + 3))) C ms_X4_212 (ct_X4_draw l w hN σ3 s4 ((a (30 + 4 * e + 1)) + 3) (by omega) (by have := hu9 e (by omega); omega)) rfl (by decide) rfl (Nat.le_of_ble_eq_true rfl) dX4_lots_99 ?_
                refine g_ias (k0 := (19 + 5 + e)) (n := 4) C (HB.nr h19 hN (by omega)) (HB.r h19 (by omega)) (j := 1) (by unfold ix; decide) dX4_lots_102 (fun σ4 hσ4 => ?_)
                refine g_iinc (v := nI (e + 1)) (lv' := [(8, .int (nI (e + 1))), (4, .int s4), (0, .ref (wA w 0)), (1, .int (nI m)), (5, .int (nI t2)), (6, .int (nI y)), (7, .int (nI d))]) C dX4_lots_103 (by decide) rfl (nj_inc e) rfl ?_
                refine g_goto (tgt := 50) C dX4_lots_106 rfl ?_
                exact g_lvp [2, 3, 1, 4, 5, 6, 0] rfl (ih50 (a 0 - (e + 1)) (by omega) (e + 1) s4 (ua p3 (30 + 4 * e + 1) (dN s4 (a (30 + 4 * e + 1) + 3))) σ4 rfl (by first | omega | assumption | rfl | grind) (by rw [es4, hs3]; rfl) (hE3.hun (by omega)) (fun e' h => (Decidable.em (e' = e)).elim (fun z => by subst z; rw [ua_at, if_pos rfl, es4, hs3]; rfl) (fun z => by rw [ua_at, if_neg (by omega)]; exact hh3 e' (by omega))) (by rw [hσ4]; exact hH3.ue (by omega) (by omega)) (hB3.ue (by omega) (by have := dN_lt s4 (m := a (30 + 4 * e + 1) + 3) (by omega); have := hu9 e (by omega); omega)) (by rw [hσ4, up_other (by omega)]; exact h63) (by rw [ua_at, if_neg (by omega)]; exact hp13) (by rw [ua_at, if_neg (by omega)]; exact hp03) (hF3.tr (show Fr inM σ3 σ4 by rw [hσ4]; exact Fr.up ⟨by omega, by omega⟩) (fun _ z => z)))
            exact g_lvp [1, 2, 3, 4, 5, 6, 0] rfl (L50 (a 0 - 0) 0 s2 p σ2 rfl (by first | omega | assumption | rfl | grind) (rfl) (hE) (fun e' h => absurd h (Nat.not_lt_zero _)) (hH2) (hB2) (h62) (hp1) (hp0) (hF2))
        exact g_lvp [1, 2, 3, 4, 5, 0] rfl (L40 (28 - 0) 0 s t 0 a a σt rfl (by first | omega | assumption | rfl | grind) (rfl) (rfl) (HuE.rf) (hHt) (hB) (h6t) (rfl) (rfl) (hF1.tr (hFt.mono inH_M) (fun _ z => z)))
    exact g_lvp [4, 5, 2, 1, 0] rfl (L27 (m - 0) 0 z 0 σ rfl (by first | omega | assumption | rfl | grind) (rfl) (Fr.rf))
  · skip
    have hoc := c9_1
    refine g_aload_n C dX4_lots_12 rfl rfl ?_
    refine g_iload_n C dX4_lots_13 rfl rfl ?_
    refine g_callVI (rest := []) C mv_X4_64 (ct_X4_refuse l w hN σ (kO x 1) (kO_in _ _) (oU x 1 20) (outk hoc)) (Nat.lt_of_lt_of_le (by decide) hN) rfl rfl (by decide) rfl (Nat.le_of_ble_eq_true rfl) dX4_lots_14 (fun r7 σ_7 h7 => ?_)
    obtain ⟨er7, hrf⟩ := h7
    rw [er7]
    refine g_iret C r rfl dX4_lots_17 ?_
    exact fin_r hC (kO_in _ _) hrf (by unfold spLots; rw [if_pos (outp hoc)]) (outv hoc)

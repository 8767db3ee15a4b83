set_option maxRecDepth 100000 in
set_option maxHeartbeats 4000000 in
theorem ct_X5_come (l : Launch) (w : WD) (hN : 54 ≤ wN w) (σ : SG) (c : Nat) (hck : c < wN w) (hcs : shp w c = aI w 46) (a : Row) (hM : Mr σ c a) (hB : Bd a) (hc8 : c ≠ 38) (g m bo : Nat) (hg : g < 5) (hm : m ≤ 60) (hbo : σ 38 12 = nI bo) : CtI l w yX5_come cX5_come 5 (some .int) 2 0 0 [.ref (wA w 38), .ref (wA w c), .int (nI g), .int (nI m)] σ (fun r τ => r = nI (min m (60 - a (10 + g))) ∧ τ = up (up σ c (10 + g) (nI (a (10 + g) + min m (60 - a (10 + g))))) 38 12 (nI (bo + min m (60 - a (10 + g))))) := by
  refine CtI.mk (by decide) (Nat.le_of_ble_eq_true rfl) ?_
  intro K C hr h0
  have r := RI.of hr h0
  clear hr h0
  show G l w K 0 [(0, .ref (wA w 38)), (1, .ref (wA w c)), (2, .int (nI g)), (3, .int (nI m))] [] σ
  obtain ⟨hBa, hB0, hB1, hB2, hB3, hB4, hB5, hB6, hB7, hBs, hBp, hBe⟩ := id hB
  have hg1 := hBs g hg
  refine g_iload_n C dX5_come_0 rfl rfl ?_
  refine g_bipush C dX5_come_1 bp_60 ?_
  refine g_aload_n C dX5_come_3 rfl rfl ?_
  refine g_bipush C dX5_come_4 bp_10 ?_
  refine g_iload_n C dX5_come_6 rfl rfl ?_
  refine g_iaddv (v := nI (10 + g)) C (nj_plus 10 g) dX5_come_7 ?_
  refine g_ial (k0 := c) (n := 46) C hck hcs (j := 10 + g) (ix_n (by omega)) dX5_come_8 ?_
  refine g_val (y := nI (a (10 + g))) (hM (10 + g) (by omega)) ?_
  refine g_isubv (v := nI (60 - (a (10 + g)))) C (nj_minus (a := 60) (b := a (10 + g)) (by omega)) dX5_come_9 ?_
  refine g_min C ml_X5_78 st_Lib_Math_min ini_Math co_Lib_Math_min (by decide) (Nat.le_of_ble_eq_true rfl) dX5_come_10 ?_
  refine g_val (y := nI (min m (60 - a (10 + g)))) (nj_min (by omega) (by omega)) ?_
  refine g_istore (lv' := [(4, .int (nI (min m (60 - a (10 + g))))), (0, .ref (wA w 38)), (1, .ref (wA w c)), (2, .int (nI g)), (3, .int (nI m))]) C dX5_come_13 (by decide) rfl ?_
  refine g_aload_n C dX5_come_15 rfl rfl ?_
  refine g_bipush C dX5_come_16 bp_10 ?_
  refine g_iload_n C dX5_come_18 rfl rfl ?_
  refine g_iaddv (v := nI (10 + g)) C (nj_plus 10 g) dX5_come_19 ?_
  refine g_dup2 C dX5_come_20 rfl rfl ?_
  refine g_ial (k0 := c) (n := 46) C hck hcs (j := 10 + g) (ix_n (by omega)) dX5_come_21 ?_
  refine g_val (y := nI (a (10 + g))) (hM (10 + g) (by omega)) ?_
  refine g_iload C dX5_come_22 rfl ?_
  refine g_iaddv (v := nI ((a (10 + g)) + (min m (60 - a (10 + g))))) C (nj_plus (a (10 + g)) (min m (60 - a (10 + g)))) dX5_come_24 ?_
  refine g_ias (k0 := c) (n := 46) C hck hcs (j := 10 + g) (ix_n (by omega)) dX5_come_25 (fun σ1 hσ1 => ?_)
  refine g_aload_n C dX5_come_26 rfl rfl ?_
  refine g_dup C dX5_come_27 rfl ?_
  refine g_get (v := .int (σ1 38 12)) C fl_X5_81 fs_X5_81 (Nat.lt_of_lt_of_le (by decide) hN) rfl rfl dX5_come_28 ?_
  refine g_val (y := nI bo) (by rw [hσ1, up_other (fun z => hc8 z.symm)]; exact hbo) ?_
  refine g_iload C dX5_come_31 rfl ?_
  refine g_iaddv (v := nI (bo + (min m (60 - a (10 + g))))) C (nj_plus bo (min m (60 - a (10 + g)))) dX5_come_33 ?_
  refine g_putn C fp_X5_81 (Nat.lt_of_lt_of_le (by decide) hN) rfl rfl (Nat.le_of_ble_eq_true rfl) rfl rfl dX5_come_34 (fun σ2 hσ2 => ?_)
  refine g_iload C dX5_come_37 rfl ?_
  refine g_iret C r rfl dX5_come_39 ?_
  exact ⟨rfl, by rw [hσ2, hσ1]⟩
set_option maxRecDepth 100000 in
set_option maxHeartbeats 4000000 in
theorem ct_X5_asTold (l : Launch) (w : WD) (hN : 54 ≤ wN w) (σ : SG) (c : Nat) (hck : c < wN w) (hcs : shp w c = aI w 46) (a : Row) (hM : Mr σ c a) (hB : Bd a) (hc3 : c ≠ 43) : CtV l w yX5_asTold cX5_asTold 3 1 0 0 [.ref (wA w 38), .ref (wA w c)] σ (fun τ => (∀ e, e < a 0 → τ 43 e = nI (a (30 + 4 * e + 1))) ∧ Fr (fun k => k = 43) σ τ) := by
  refine CtV.mk (by decide) (Nat.le_of_ble_eq_true rfl) ?_
  intro K C hr h0
  have r := RV.of hr h0
  clear hr h0
  show G l w K 0 [(0, .ref (wA w 38)), (1, .ref (wA w c))] [] σ
  obtain ⟨hBa, hB0, hB1, hB2, hB3, hB4, hB5, hB6, hB7, hBs, hBp, hBe⟩ := id hB
  refine g_iconst C dX5_asTold_0 ic_0 ?_
  refine g_istore_n (lv' := [(2, .int 0), (0, .ref (wA w 38)), (1, .ref (wA w c))]) C dX5_asTold_1 rfl (by decide) rfl ?_
  have L2 : ∀ (m2 : Nat) (e : Nat) (σ1 : SG), m2 = a 0 - e → (e ≤ a 0) → (∀ e', e' < e → σ1 43 e' = nI (a (30 + 4 * e' + 1))) → (Fr (fun k => k = 43) σ σ1) → G l w K 2 [(0, .ref (wA w 38)), (1, .ref (wA w c)), (2, .int (nI e))] [] σ1 := by
    intro m2
    induction m2 using Nat.strongRecOn with
    | ind m2 ih2 =>
    intro e σ1 em2 he h1 hF1
    have hM1 : Mr σ1 c a := hM.fr (hF1 c hc3)
    refine g_iload_n C dX5_asTold_2 rfl rfl ?_
    refine g_aload_n C dX5_asTold_3 rfl rfl ?_
    refine g_iconst C dX5_asTold_4 ic_0 ?_
    refine g_ial (k0 := c) (n := 46) C hck hcs (j := 0) (by unfold ix; decide) dX5_asTold_5 ?_
    refine g_val (y := nI (a 0)) (hM1 0 (by omega)) ?_
    refine g_icmp_ge (tgt := 31) C dX5_asTold_6 rfl (fun c6_1 => ?_) (fun c6_1 => ?_)
    · skip
      have n6_1 : a 0 ≤ e := (nj_le (a := a 0) (b := e) (by have := hBa 0; omega) (by have := hBa 0; omega)).mp c6_1
      refine g_vret C r dX5_asTold_31 ?_
      exact ⟨fun e' h => h1 e' (by omega), hF1⟩
    · skip
      have n6_1 : ¬ (a 0 ≤ e) := fun qq => c6_1 ((nj_le (a := a 0) (b := e) (by have := hBa 0; omega) (by have := hBa 0; omega)).mpr qq)
      refine g_aload_n C dX5_asTold_9 rfl rfl ?_
      refine g_get (v := .ref (wA w 43)) C fl_X5_22 fs_X5_22 (Nat.lt_of_lt_of_le (by decide) hN) rfl rfl dX5_asTold_10 ?_
      refine g_iload_n C dX5_asTold_13 rfl rfl ?_
      refine g_aload_n C dX5_asTold_14 rfl rfl ?_
      refine g_bipush C dX5_asTold_15 bp_30 ?_
      refine g_iconst C dX5_asTold_17 ic_4 ?_
      refine g_iload_n C dX5_asTold_18 rfl rfl ?_
      refine g_imulv (v := nI (4 * e)) C (nj_times 4 e) dX5_asTold_19 ?_
      refine g_iaddv (v := nI (30 + (4 * e))) C (nj_plus 30 (4 * e)) dX5_asTold_20 ?_
      refine g_iconst C dX5_asTold_21 ic_1 ?_
      refine g_iaddv (v := nI ((30 + (4 * e)) + 1)) C (nj_plus (30 + (4 * e)) 1) dX5_asTold_22 ?_
      refine g_ial (k0 := c) (n := 46) C hck hcs (j := (30 + (4 * e)) + 1) (ix_n (by omega)) dX5_asTold_23 ?_
      refine g_val (y := nI (a ((30 + (4 * e)) + 1))) (hM1 ((30 + (4 * e)) + 1) (by omega)) ?_
      refine g_ias (k0 := 43) (n := 4) C (Nat.lt_of_lt_of_le (by decide) hN) rfl (j := e) (ix_n (by omega)) dX5_asTold_24 (fun σ2 hσ2 => ?_)
      refine g_iinc (v := nI (e + 1)) (lv' := [(2, .int (nI (e + 1))), (0, .ref (wA w 38)), (1, .ref (wA w c))]) C dX5_asTold_25 (by decide) rfl (nj_inc e) rfl ?_
      refine g_goto (tgt := 2) C dX5_asTold_28 rfl ?_
      exact g_lvp [1, 2, 0] rfl (ih2 (a 0 - (e + 1)) (by omega) (e + 1) σ2 rfl (by first | omega | assumption | rfl | grind) (fun e' h => by rw [hσ2, up_at]; exact (Decidable.em (e' = e)).elim (fun z => by rw [if_pos ⟨rfl, z⟩, z]) (fun z => by rw [if_neg (fun y => z y.2)]; exact h1 e' (by omega))) (hF1.tr (show Fr (fun k => k = 43) σ1 σ2 by rw [hσ2]; exact Fr.up (S := fun k => k = 43) rfl) (fun _ z => z)))
  exact g_lvp [1, 2, 0] rfl (L2 (a 0 - 0) 0 σ rfl (by first | omega | assumption | rfl | grind) (fun e' h => absurd h (Nat.not_lt_zero _)) (Fr.rf))

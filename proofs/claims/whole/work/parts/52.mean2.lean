set_option maxRecDepth 100000 in
set_option maxHeartbeats 4000000 in
theorem ct_X4_chanceOf (l : Launch) (w : WD) (hN : 54 ≤ wN w) (σ : SG) (a : Row) (hH : Hh σ 1 a) (hB : Bd a) (v : Nat) (hv : v < 16) : CtL l w yX4_chanceOf cX4_chanceOf 6 1 0 0 [.ref (wA w 0), .int (nI v)] σ (fun r τ => r = lI (chZ a v (a 0) : Int) ∧ τ = σ) := by
  refine CtL.mk (by decide) (Nat.le_of_ble_eq_true rfl) ?_
  intro K C hr h0
  have r := RJ.of hr h0
  clear hr h0
  show G l w K 0 [(0, .ref (wA w 0)), (1, .int (nI v))] [] σ
  obtain ⟨hBa, hB0, hB1, hB2, hB3, hB4, hB5, hB6, hB7, hBs, hBp, hBe⟩ := id hB
  have h1 : HB 1 := Or.inl rfl
  refine g_lconst (v := 1) C dX4_chanceOf_0 (by decide) ?_
  refine g_vall (y := lI (chZ a v 0 : Int)) rfl ?_
  refine g_lstore_n (lv' := [(2, .long (lI (chZ a v 0 : Int))), (0, .ref (wA w 0)), (1, .int (nI v))]) C dX4_chanceOf_1 rfl (by decide) rfl ?_
  refine g_iconst C dX4_chanceOf_2 ic_0 ?_
  refine g_istore (lv' := [(4, .int 0), (2, .long (lI (chZ a v 0 : Int))), (0, .ref (wA w 0)), (1, .int (nI v))]) C dX4_chanceOf_3 (by decide) rfl ?_
  have L5 : ∀ (m5 : Nat) (e : Nat), m5 = a 0 - e → (e ≤ a 0) → G l w K 5 [(0, .ref (wA w 0)), (1, .int (nI v)), (2, .long (lI (chZ a v e : Int))), (4, .int (nI e))] [] σ := by
    intro m5
    induction m5 using Nat.strongRecOn with
    | ind m5 ih5 =>
    intro e em5 he
    refine g_iload C dX4_chanceOf_5 rfl ?_
    refine g_aload_n C dX4_chanceOf_7 rfl rfl ?_
    refine g_get (v := .ref (wA w 1)) C fl_X4_12 fs_X4_12 (Nat.lt_of_lt_of_le (by decide) hN) rfl rfl dX4_chanceOf_8 ?_
    refine g_get (v := .int (σ 1 4)) C fl_X4_164 fs_X4_164 (Nat.lt_of_lt_of_le (by decide) hN) rfl rfl dX4_chanceOf_11 ?_
    refine g_val (y := nI (a 0)) (Hh.c hH) ?_
    refine g_icmp_ge (tgt := 62) C dX4_chanceOf_14 rfl (fun c14_1 => ?_) (fun c14_1 => ?_)
    · skip
      have n14_1 : a 0 ≤ e := (nj_le (a := a 0) (b := e) (by have := hBa 0; omega) (by have := hBa 0; omega)).mp c14_1
      obtain rfl : e = a 0 := by omega
      refine g_lload_n C dX4_chanceOf_62 rfl rfl ?_
      refine g_lret C r dX4_chanceOf_63 ?_
      exact ⟨rfl, rfl⟩
    · skip
      have n14_1 : ¬ (a 0 ≤ e) := fun qq => c14_1 ((nj_le (a := a 0) (b := e) (by have := hBa 0; omega) (by have := hBa 0; omega)).mpr qq)
      refine g_aload_n C dX4_chanceOf_17 rfl rfl ?_
      refine g_get (v := .ref (wA w 1)) C fl_X4_12 fs_X4_12 (Nat.lt_of_lt_of_le (by decide) hN) rfl rfl dX4_chanceOf_18 ?_
      refine g_get (v := .ref (wA w 5)) C fl_X4_87 fs_X4_87 (Nat.lt_of_lt_of_le (by decide) hN) rfl rfl dX4_chanceOf_21 ?_
      refine g_iload C dX4_chanceOf_24 rfl ?_
      refine g_aal (k0 := 5) (b := 1) C (Nat.lt_of_lt_of_le (by decide) hN) rfl (j := e) (ix_n (by omega)) dX4_chanceOf_26 ?_
      refine g_iconst C dX4_chanceOf_27 ic_3 ?_
      refine g_ial (k0 := (1 + 5 + e)) (n := 4) C (HB.nr h1 hN (by omega)) (HB.r h1 (by omega)) (j := 3) (by unfold ix; decide) dX4_chanceOf_28 ?_
      refine g_val (y := nI (a (30 + 4 * e + 3))) (Hh.e hH (by omega) (by omega)) ?_
      refine g_istore (lv' := [(5, .int (nI (a (30 + 4 * e + 3)))), (0, .ref (wA w 0)), (1, .int (nI v)), (2, .long (lI (chZ a v e : Int))), (4, .int (nI e))]) C dX4_chanceOf_29 (by decide) rfl ?_
      refine g_lload_n C dX4_chanceOf_31 rfl rfl ?_
      refine g_iload_n C dX4_chanceOf_32 rfl rfl ?_
      refine g_iload C dX4_chanceOf_33 rfl ?_
      refine g_ishr C dX4_chanceOf_35 ?_
      refine g_iconst C dX4_chanceOf_36 ic_1 ?_
      refine g_iand C dX4_chanceOf_37 ?_
      refine g_val (y := nI (bW v e)) (bW_eq hv (by omega)) ?_
      have hbw := bW_le v e
      have hc9 := (hBe e (by omega)).2.2.2
      refine g_iconst C dX4_chanceOf_38 ic_1 ?_
      refine g_icmp_ne (tgt := 48) C dX4_chanceOf_39 rfl (fun c39_2 => ?_) (fun c39_2 => ?_)
      · skip
        have n39_2 : ¬ (bW v e = 1) := fun qq => c39_2 ((nj_eq (a := bW v e) (b := 1) (by omega) (by omega)).mpr qq)
        have hb0 : ¬ bW v e = 1 := by omega
        refine g_bipush C dX4_chanceOf_48 bp_10 ?_
        refine g_iload C dX4_chanceOf_50 rfl ?_
        refine g_isubv (v := nI (10 - (a (30 + 4 * e + 3)))) C (nj_minus (a := 10) (b := a (30 + 4 * e + 3)) (by omega)) dX4_chanceOf_52 ?_
        refine g_i2l C dX4_chanceOf_53 ?_
        refine g_lmul C dX4_chanceOf_54 ?_
        refine g_vall (y := lI (chZ a v (e + 1) : Int)) (by first | exact chZ_1 hb1 hc9 | exact chZ_0 hb0 hc9) ?_
        refine g_lstore_n (lv' := [(2, .long (lI (chZ a v (e + 1) : Int))), (5, .int (nI (a (30 + 4 * e + 3)))), (0, .ref (wA w 0)), (1, .int (nI v)), (4, .int (nI e))]) C dX4_chanceOf_55 rfl (by decide) rfl ?_
        refine g_iinc (v := nI (e + 1)) (lv' := [(4, .int (nI (e + 1))), (2, .long (lI (chZ a v (e + 1) : Int))), (5, .int (nI (a (30 + 4 * e + 3)))), (0, .ref (wA w 0)), (1, .int (nI v))]) C dX4_chanceOf_56 (by decide) rfl (nj_inc e) rfl ?_
        refine g_goto (tgt := 5) C dX4_chanceOf_59 rfl ?_
        exact g_lvp [3, 4, 1, 0] rfl (ih5 (a 0 - (e + 1)) (by omega) (e + 1) rfl (by first | omega | assumption | rfl | grind))
      · skip
        have n39_2 : bW v e = 1 := (nj_eq (a := bW v e) (b := 1) (by omega) (by omega)).mp c39_2
        have hb1 : bW v e = 1 := by omega
        refine g_iload C dX4_chanceOf_42 rfl ?_
        refine g_i2l C dX4_chanceOf_44 ?_
        refine g_goto (tgt := 54) C dX4_chanceOf_45 rfl ?_
        refine g_lmul C dX4_chanceOf_54 ?_
        refine g_vall (y := lI (chZ a v (e + 1) : Int)) (by first | exact chZ_1 hb1 hc9 | exact chZ_0 hb0 hc9) ?_
        refine g_lstore_n (lv' := [(2, .long (lI (chZ a v (e + 1) : Int))), (5, .int (nI (a (30 + 4 * e + 3)))), (0, .ref (wA w 0)), (1, .int (nI v)), (4, .int (nI e))]) C dX4_chanceOf_55 rfl (by decide) rfl ?_
        refine g_iinc (v := nI (e + 1)) (lv' := [(4, .int (nI (e + 1))), (2, .long (lI (chZ a v (e + 1) : Int))), (5, .int (nI (a (30 + 4 * e + 3)))), (0, .ref (wA w 0)), (1, .int (nI v))]) C dX4_chanceOf_56 (by decide) rfl (nj_inc e) rfl ?_
        refine g_goto (tgt := 5) C dX4_chanceOf_59 rfl ?_
        exact g_lvp [3, 4, 1, 0] rfl (ih5 (a 0 - (e + 1)) (by omega) (e + 1) rfl (by first | omega | assumption | rfl | grind))
  exact g_lvp [2, 3, 1, 0] rfl (L5 (a 0 - 0) 0 rfl (by first | omega | assumption | rfl | grind))
set_option maxRecDepth 100000 in
set_option maxHeartbeats 4000000 in
theorem ct_X4_valueIfThereCome (l : Launch) (w : WD) (hN : 54 ≤ wN w) (σ : SG) (a : Row) (hR : HR σ a) (v : Nat) (hv : v < 16) : CtI l w yX4_valueIfThereCome cX4_valueIfThereCome 3 (some .int) 6 0 0 [.ref (wA w 0), .int (nI v)] σ (fun r τ => r = dyV (huW a v) a 0 ∧ Fr inM σ τ) := by
  refine CtI.mk (by decide) (Nat.le_of_ble_eq_true rfl) ?_
  intro K C hr h0
  have r := RI.of hr h0
  clear hr h0
  show G l w K 0 [(0, .ref (wA w 0)), (1, .int (nI v))] [] σ
  obtain ⟨hH, hB, h6, hd9, hu9⟩ := id hR
  obtain ⟨hBa, hB0, hB1, hB2, hB3, hB4, hB5, hB6, hB7, hBs, hBp, hBe⟩ := id hB
  have h1 : HB 1 := Or.inl rfl
  have h19 : HB 19 := Or.inr (Or.inr rfl)
  refine g_aload_n C dX4_valueIfThereCome_0 rfl rfl ?_
  refine g_callVV (rest := []) C mv_X4_124 (ct_X4_think l w hN σ a hH) (Nat.lt_of_lt_of_le (by decide) hN) rfl rfl (by decide) rfl (Nat.le_of_ble_eq_true rfl) dX4_valueIfThereCome_1 (fun σt h1 => ?_)
  obtain ⟨hHt, h6t, hFt⟩ := h1
  refine g_iconst C dX4_valueIfThereCome_4 ic_0 ?_
  refine g_istore_n (lv' := [(2, .int 0), (0, .ref (wA w 0)), (1, .int (nI v))]) C dX4_valueIfThereCome_5 rfl (by decide) rfl ?_
  have L6 : ∀ (m6 : Nat) (e : Nat) (p : Row) (σ1 : SG), m6 = a 0 - e → (e ≤ a 0) → (HuE a p) → (∀ e', e' < e → p (30 + 4 * e' + 1) = huW a v e') → (∀ e', e ≤ e' → e' < 4 → p (30 + 4 * e' + 1) = hun a e') → (Hh σ1 19 p) → (Bd p) → (σ1 19 6 = nI 0) → (Fr inM σ σ1) → G l w K 6 [(0, .ref (wA w 0)), (1, .int (nI v)), (2, .int (nI e))] [] σ1 := by
    intro m6
    induction m6 using Nat.strongRecOn with
    | ind m6 ih6 =>
    intro e p σ1 em6 he hE hp1 hp2 hH1 hB1 h61 hF1
    have hH11 : Hh σ1 1 a := (hR.m hF1).1
    have q0 : p 0 = a 0 := hE.sl (by omega)
    have q1 : p 1 = a 1 := hE.sl (by omega)
    refine g_iload_n C dX4_valueIfThereCome_6 rfl rfl ?_
    refine g_aload_n C dX4_valueIfThereCome_7 rfl rfl ?_
    refine g_get (v := .ref (wA w 1)) C fl_X4_12 fs_X4_12 (Nat.lt_of_lt_of_le (by decide) hN) rfl rfl dX4_valueIfThereCome_8 ?_
    refine g_get (v := .int (σ1 1 4)) C fl_X4_164 fs_X4_164 (Nat.lt_of_lt_of_le (by decide) hN) rfl rfl dX4_valueIfThereCome_11 ?_
    refine g_val (y := nI (a 0)) (Hh.c hH11) ?_
    refine g_icmp_ge (tgt := 43) C dX4_valueIfThereCome_14 rfl (fun c14_2 => ?_) (fun c14_2 => ?_)
    · skip
      have n14_2 : a 0 ≤ e := (nj_le (a := a 0) (b := e) (by have := hBa 0; omega) (by have := hBa 0; omega)).mp c14_2
      have hea : e = a 0 := by omega
      refine g_aload_n C dX4_valueIfThereCome_43 rfl rfl ?_
      refine g_iconst C dX4_valueIfThereCome_44 ic_1 ?_
      refine g_callVI (rest := []) C mv_X4_127 (ct_X4_passInMind l w hN σ1 p hH1 hB1 0 h61 (Nat.zero_le _) (by omega) 1 (by omega)) (Nat.lt_of_lt_of_le (by decide) hN) rfl rfl (by decide) rfl (Nat.le_of_ble_eq_true rfl) dX4_valueIfThereCome_45 (fun r3 σp h3 => ?_)
      obtain ⟨er3, eh3⟩ := h3
      subst er3
      obtain ⟨hHp, h6p, hTp, hFp⟩ := eh3
      have hdy := hu_dy hE (hu := huW a v) (hu' := hun p) (fun e' h => hp1 e' (by omega)) 0
      refine g_iret C r rfl dX4_valueIfThereCome_48 ?_
      refine ⟨?_, hF1.tr (hFp.mono inD_M) (fun _ z => z)⟩
      show 0 + dyV (hun p) p 0 = _
      rw [Int32.zero_add, hdy.2.2.2.1]
    · skip
      have n14_2 : ¬ (a 0 ≤ e) := fun qq => c14_2 ((nj_le (a := a 0) (b := e) (by have := hBa 0; omega) (by have := hBa 0; omega)).mpr qq)
      have L37 : ∀ (p2 : Row) (σ2 : SG), (HuE a p2) → (∀ e', e' < e + 1 → p2 (30 + 4 * e' + 1) = huW a v e') → (∀ e', e + 1 ≤ e' → e' < 4 → p2 (30 + 4 * e' + 1) = hun a e') → (Hh σ2 19 p2) → (Bd p2) → (σ2 19 6 = nI 0) → (Fr inM σ σ2) → G l w K 37 [(0, .ref (wA w 0)), (1, .int (nI v)), (2, .int (nI e))] [] σ2 := by
        intro p2 σ2 hE2 hj1 hj2 hH2 hB2 h62 hF2
        refine g_iinc (v := nI (e + 1)) (lv' := [(2, .int (nI (e + 1))), (0, .ref (wA w 0)), (1, .int (nI v))]) C dX4_valueIfThereCome_37 (by decide) rfl (nj_inc e) rfl ?_
        refine g_goto (tgt := 6) C dX4_valueIfThereCome_40 rfl ?_
        exact g_lvp [1, 2, 0] rfl (ih6 (a 0 - (e + 1)) (by omega) (e + 1) p2 σ2 rfl (by first | omega | assumption | rfl | grind) (hE2) (hj1) (hj2) (hH2) (hB2) (h62) (hF2))
      refine g_iload_n C dX4_valueIfThereCome_17 rfl rfl ?_
      refine g_iload_n C dX4_valueIfThereCome_18 rfl rfl ?_
      refine g_ishr C dX4_valueIfThereCome_19 ?_
      refine g_iconst C dX4_valueIfThereCome_20 ic_1 ?_
      refine g_iand C dX4_valueIfThereCome_21 ?_
      refine g_val (y := nI (bW v e)) (bW_eq hv (by omega)) ?_
      have hbw := bW_le v e
      refine g_if_ne (tgt := 37) C dX4_valueIfThereCome_22 rfl (fun c22_4 => ?_) (fun c22_4 => ?_)
      · skip
        have n22_4 : ¬ (bW v e = 0) := fun qq => c22_4 ((nj_eq (a := bW v e) (b := 0) (by omega) (by omega)).mpr qq)
        exact g_lvp [0, 1, 2] rfl (L37 p σ1 (hE) (fun e' h => (Decidable.em (e' = e)).elim (fun z => by rw [z, hp2 e (by omega) (by omega)]; exact (if_pos (show bW v e = 1 by omega)).symm) (fun z => hp1 e' (by omega))) (fun e' h h4 => hp2 e' (by omega) h4) (hH1) (hB1) (h61) (hF1))
      · skip
        have n22_4 : bW v e = 0 := (nj_eq (a := bW v e) (b := 0) (by omega) (by omega)).mp c22_4
        refine g_aload_n C dX4_valueIfThereCome_25 rfl rfl ?_
        refine g_get (v := .ref (wA w 19)) C fl_X4_19 fs_X4_19 (Nat.lt_of_lt_of_le (by decide) hN) rfl rfl dX4_valueIfThereCome_26 ?_
        refine g_get (v := .ref (wA w 23)) C fl_X4_87 fs_X4_87 (Nat.lt_of_lt_of_le (by decide) hN) rfl rfl dX4_valueIfThereCome_29 ?_
        refine g_iload_n C dX4_valueIfThereCome_32 rfl rfl ?_
        refine g_aal (k0 := 23) (b := 19) C (Nat.lt_of_lt_of_le (by decide) hN) rfl (j := e) (ix_n (by omega)) dX4_valueIfThereCome_33 ?_
        refine g_iconst C dX4_valueIfThereCome_34 ic_1 ?_
        refine g_iconst C dX4_valueIfThereCome_35 ic_0 ?_
        refine g_ias (k0 := (19 + 5 + e)) (n := 4) C (HB.nr h19 hN (by omega)) (HB.r h19 (by omega)) (j := 1) (by unfold ix; decide) dX4_valueIfThereCome_36 (fun σz hσz => ?_)
        exact g_lvp [0, 1, 2] rfl (L37 (ua p (30 + 4 * e + 1) 0) σz (hE.hun (by omega)) (fun e' h => (Decidable.em (e' = e)).elim (fun z => by rw [z, ua_at, if_pos rfl]; exact (if_neg (show ¬ bW v e = 1 by omega)).symm) (fun z => by rw [ua_at, if_neg (by omega)]; exact hp1 e' (by omega))) (fun e' h h4 => by rw [ua_at, if_neg (by omega)]; exact hp2 e' (by omega) h4) (by rw [hσz]; exact hH1.ue (v := 0) (by omega) (by omega)) (hB1.ue (by omega) (by omega)) (by rw [hσz, up_other (by omega)]; exact h61) (hF1.tr (show Fr inM σ1 σz by rw [hσz]; exact Fr.up ⟨by omega, by omega⟩) (fun _ z => z)))
  exact g_lvp [1, 2, 0] rfl (L6 (a 0 - 0) 0 a σt rfl (by first | omega | assumption | rfl | grind) (HuE.rf) (fun e' h => absurd h (Nat.not_lt_zero _)) (fun e' _ _ => rfl) (hHt) (hB) (by rw [h6t]; exact h6) (hFt.mono inH_M))
set_option maxRecDepth 100000 in
set_option maxHeartbeats 4000000 in
theorem ct_X4_greatestDivisor (l : Launch) (w : WD) (hN : 54 ≤ wN w) (σ : SG) (x y Gc : Nat) (hx : 0 < x) (hx9 : x ≤ 1000000000000000000) (hy9 : y ≤ 1000000000000000000) (hG : Nat.gcd x y = Gc) : CtL l w yX4_greatestDivisor cX4_greatestDivisor 11 2 0 0 [.long (lI (x : Int)), .long (lI (y : Int))] σ (fun r τ => r = lI (Gc : Int) ∧ τ = σ) := by
  refine CtL.mk (by decide) (Nat.le_of_ble_eq_true rfl) ?_
  intro K C hr h0
  have r := RJ.of hr h0
  clear hr h0
  show G l w K 0 [(0, .long (lI (x : Int))), (2, .long (lI (y : Int)))] [] σ
  refine g_lload_n C dX4_greatestDivisor_0 rfl rfl ?_
  refine g_lstore (lv' := [(4, .long (lI (x : Int))), (0, .long (lI (x : Int))), (2, .long (lI (y : Int)))]) C dX4_greatestDivisor_1 (by decide) rfl ?_
  refine g_lload_n C dX4_greatestDivisor_3 rfl rfl ?_
  refine g_lstore (lv' := [(6, .long (lI (y : Int))), (4, .long (lI (x : Int))), (0, .long (lI (x : Int))), (2, .long (lI (y : Int)))]) C dX4_greatestDivisor_4 (by decide) rfl ?_
  refine g_iconst C dX4_greatestDivisor_6 ic_0 ?_
  refine g_istore (lv' := [(8, .int 0), (6, .long (lI (y : Int))), (4, .long (lI (x : Int))), (0, .long (lI (x : Int))), (2, .long (lI (y : Int)))]) C dX4_greatestDivisor_7 (by decide) rfl ?_
  have L9 : ∀ (m9 : Nat) (k : Nat) (d : Nat) (r1 : Nat) (j : Nat), m9 = 1000 - k → (d ≤ 1000000000000000000) → (r1 ≤ 1000000000000000000) → (Nat.gcd d r1 = Gc) → (d * r1 < 2 ^ j) → ((k = 0 ∧ j ≤ 150) ∨ (r1 ≤ d ∧ k + j ≤ 200)) → G l w K 9 [(4, .long (lI (d : Int))), (6, .long (lI (r1 : Int))), (8, .int (nI k))] [] σ := by
    intro m9
    induction m9 using Nat.strongRecOn with
    | ind m9 ih9 =>
    intro k d r1 j em9 hd9 hr9 hg1 hj hk
    refine g_iload C dX4_greatestDivisor_9 rfl ?_
    refine g_sipush C dX4_greatestDivisor_11 sp_1000 ?_
    refine g_icmp_ge (tgt := 45) C dX4_greatestDivisor_14 rfl (fun c14_1 => ?_) (fun c14_1 => ?_)
    · skip
      have n14_1 : 1000 ≤ k := (nj_le (a := 1000) (b := k) (by omega) (by omega)).mp c14_1
      exact absurd True.intro (by omega)
    · skip
      have n14_1 : ¬ (1000 ≤ k) := fun qq => c14_1 ((nj_le (a := 1000) (b := k) (by omega) (by omega)).mpr qq)
      refine g_lload C dX4_greatestDivisor_17 rfl ?_
      refine g_lconst (v := 0) C dX4_greatestDivisor_19 (by decide) ?_
      refine g_lcmp C dX4_greatestDivisor_20 ?_
      refine g_if_eq (tgt := 45) C dX4_greatestDivisor_21 rfl (fun c21_2 => ?_) (fun c21_2 => ?_)
      · skip
        have hr0 : r1 = 0 := by have := (lI_eq0 (by omega) (by omega)).mp c21_2; omega
        refine g_lconst (v := 1) C dX4_greatestDivisor_45 (by decide) ?_
        refine g_lload C dX4_greatestDivisor_46 rfl ?_
        have hdG : d = Gc := by rw [← hg1, hr0, Nat.gcd_zero_right]
        have hG0 : 0 < d := by rw [hdG, ← hG]; exact Nat.gcd_pos_of_pos_left y hx
        refine g_maxl C ml_X4_233 st_Lib_MathLoose_max_long ini_Math co_Lib_MathLoose_max_long (by decide) (Nat.le_of_ble_eq_true rfl) dX4_greatestDivisor_48 ?_
        refine g_vall (y := lI (d : Int)) (lI_max1 hG0 (by omega)) ?_
        refine g_lret C r dX4_greatestDivisor_51 ?_
        exact ⟨by rw [hdG], rfl⟩
      · skip
        have hr0 : 0 < r1 := Nat.pos_of_ne_zero (fun z => c21_2 ((lI_eq0 (by omega) (by omega)).mpr (by omega)))
        refine g_lload C dX4_greatestDivisor_24 rfl ?_
        refine g_lload C dX4_greatestDivisor_26 rfl ?_
        refine g_lrem C dX4_greatestDivisor_28 (fun z => by have z2 := congrArg Int64.toInt z; rw [lI_toInt (by omega) (by omega), show (0 : Int64).toInt = 0 by decide] at z2; omega) ?_
        refine g_vall (y := lI ((d % r1 : Nat) : Int)) (lI_rem (by omega) hr0 (by omega)) ?_
        refine g_lstore (lv' := [(9, .long (lI ((d % r1 : Nat) : Int))), (4, .long (lI (d : Int))), (6, .long (lI (r1 : Int))), (8, .int (nI k))]) C dX4_greatestDivisor_29 (by decide) rfl ?_
        refine g_lload C dX4_greatestDivisor_31 rfl ?_
        refine g_lstore (lv' := [(4, .long (lI (r1 : Int))), (9, .long (lI ((d % r1 : Nat) : Int))), (6, .long (lI (r1 : Int))), (8, .int (nI k))]) C dX4_greatestDivisor_33 (by decide) rfl ?_
        refine g_lload C dX4_greatestDivisor_35 rfl ?_
        refine g_lstore (lv' := [(6, .long (lI ((d % r1 : Nat) : Int))), (4, .long (lI (r1 : Int))), (9, .long (lI ((d % r1 : Nat) : Int))), (8, .int (nI k))]) C dX4_greatestDivisor_37 (by decide) rfl ?_
        refine g_iinc (v := nI (k + 1)) (lv' := [(8, .int (nI (k + 1))), (6, .long (lI ((d % r1 : Nat) : Int))), (4, .long (lI (r1 : Int))), (9, .long (lI ((d % r1 : Nat) : Int)))]) C dX4_greatestDivisor_39 (by decide) rfl (nj_inc k) rfl ?_
        refine g_goto (tgt := 9) C dX4_greatestDivisor_42 rfl ?_
        have hm := Nat.mod_lt d hr0
        have hgs := gcd_st hg1
        obtain ⟨j2, hj2, hk2⟩ : ∃ j2, r1 * (d % r1) < 2 ^ j2 ∧ k + 1 + j2 ≤ 200 := by
          by_cases hle : r1 ≤ d
          · cases j with
            | zero => exact absurd hj (Nat.not_lt.mpr (Nat.mul_pos (Nat.lt_of_lt_of_le hr0 hle) hr0))
            | succ j => exact ⟨j, gcd_half hr0 hle hj, by omega⟩
          · refine ⟨j, ?_, by omega⟩
            have h1 := Nat.mul_le_mul_left r1 (Nat.mod_le d r1)
            rw [Nat.mul_comm d r1] at hj
            exact Nat.lt_of_le_of_lt h1 hj
        exact g_lvp [2, 1, 0] rfl (ih9 (1000 - (k + 1)) (by omega) (k + 1) r1 (d % r1) j2 rfl (hr9) (by omega) (hgs) (hj2) (Or.inr ⟨by omega, hk2⟩))
  exact g_lvp [2, 1, 0] rfl (L9 (1000 - 0) 0 x y 120 rfl (hx9) (hy9) (hG) (Nat.lt_of_le_of_lt (Nat.mul_le_mul hx9 hy9) (by decide)) (Or.inl ⟨rfl, by decide⟩))
set_option maxRecDepth 100000 in
set_option maxHeartbeats 4000000 in
theorem ct_X4_mean (l : Launch) (w : WD) (hN : 54 ≤ wN w) (σ : SG) (a kp : Row) (tk nl : Nat) (lt : Nat → Nat) (qn : Nat) (qs : Nat → Nat) (rf : Nat → Int32) (hC : CX σ (a, kp, tk, (nl, lt), (qn, qs), rf)) (x : Int32) : CtL l w yX4_mean cX4_mean 8 7 0 0 [.ref (wA w 0), .int x] σ (fun r τ => r = (spMean (a, kp, tk, (nl, lt), (qn, qs), rf) x).1 ∧ CX τ (spMean (a, kp, tk, (nl, lt), (qn, qs), rf) x).2 ∧ Fr in37 σ τ) := by
  refine CtL.mk (by decide) (Nat.le_of_ble_eq_true rfl) ?_
  intro K C hr h0
  have r := RJ.of hr h0
  clear hr h0
  show G l w K 0 [(0, .ref (wA w 0)), (1, .int x)] [] σ
  have hR : HR σ a := hC.2.1
  have hH : Hh σ 1 a := hR.1
  have hB : Bd a := hR.2.1
  have h6 : σ 1 6 = nI 0 := hR.2.2.1
  have hd9 : a 1 ≤ 9999 := hR.2.2.2.1
  have hu9 : ∀ e, e < 4 → a (30 + 4 * e + 1) ≤ 9 := hR.2.2.2.2
  obtain ⟨hBa, hB0, hB1, hB2, hB3, hB4, hB5, hB6, hB7, hBs, hBp, hBe⟩ := id hB
  have h1 : HB 1 := Or.inl rfl
  have h10 : HB 10 := Or.inr (Or.inl rfl)
  have h19 : HB 19 := Or.inr (Or.inr rfl)
  have hW16 := two4 hB0
  obtain ⟨W2, hW2⟩ : ∃ q, q = 2 ^ a 0 := ⟨_, rfl⟩
  rw [← hW2] at hW16
  have hT4 := ten4 hB0
  have hcc : ∀ e, e < 4 → a (30 + 4 * e + 3) ≤ 10 := fun e he => (hBe e he).2.2.2
  refine g_iload_n C dX4_mean_0 rfl rfl ?_
  refine g_iconst C dX4_mean_1 ic_0 ?_
  refine g_iconst C dX4_mean_2 ic_1 ?_
  refine g_pSI (rest := []) (v := bI (0 ≤ x ∧ x ≤ 1)) C ms_X4_83 (ct_X4_within l w hN σ x 0 1) rfl (by decide) rfl (Nat.le_of_ble_eq_true rfl) dX4_mean_3 ?_
  refine g_if_ne (tgt := 21) C dX4_mean_6 rfl (fun c6_1 => ?_) (fun c6_1 => ?_)
  · skip
    have n6_1 : (0 ≤ x ∧ x ≤ 1) := bI_1 c6_1
    obtain ⟨m, hm, rfl⟩ := nj_of3 (m := 1) n6_1
    refine g_lconst (v := 1) C dX4_mean_21 (by decide) ?_
    refine g_vall (y := lT 0) lT_0 ?_
    refine g_lstore_n (lv' := [(2, .long (lT 0)), (0, .ref (wA w 0)), (1, .int (nI m))]) C dX4_mean_22 rfl (by decide) rfl ?_
    refine g_iconst C dX4_mean_23 ic_0 ?_
    refine g_istore (lv' := [(4, .int 0), (2, .long (lT 0)), (0, .ref (wA w 0)), (1, .int (nI m))]) C dX4_mean_24 (by decide) rfl ?_
    have L26 : ∀ (m26 : Nat) (e : Nat), m26 = a 0 - e → (e ≤ a 0) → G l w K 26 [(0, .ref (wA w 0)), (1, .int (nI m)), (2, .long (lT e)), (4, .int (nI e))] [] σ := by
      intro m26
      induction m26 using Nat.strongRecOn with
      | ind m26 ih26 =>
      intro e em26 he
      refine g_iload C dX4_mean_26 rfl ?_
      refine g_aload_n C dX4_mean_28 rfl rfl ?_
      refine g_get (v := .ref (wA w 1)) C fl_X4_12 fs_X4_12 (Nat.lt_of_lt_of_le (by decide) hN) rfl rfl dX4_mean_29 ?_
      refine g_get (v := .int (σ 1 4)) C fl_X4_164 fs_X4_164 (Nat.lt_of_lt_of_le (by decide) hN) rfl rfl dX4_mean_32 ?_
      refine g_val (y := nI (a 0)) (Hh.c hH) ?_
      refine g_icmp_ge (tgt := 50) C dX4_mean_35 rfl (fun c35_2 => ?_) (fun c35_2 => ?_)
      · skip
        have n35_2 : a 0 ≤ e := (nj_le (a := a 0) (b := e) (by have := hBa 0; omega) (by have := hBa 0; omega)).mp c35_2
        obtain rfl : e = a 0 := by omega
        refine g_lconst (v := 0) C dX4_mean_50 (by decide) ?_
        refine g_vall (y := lI (abZ a 0)) (by rfl) ?_
        refine g_lstore (lv' := [(4, .long (lI (abZ a 0))), (0, .ref (wA w 0)), (1, .int (nI m)), (2, .long (lT (a 0)))]) C dX4_mean_51 (by decide) rfl ?_
        refine g_iconst C dX4_mean_53 ic_0 ?_
        refine g_istore (lv' := [(6, .int 0), (4, .long (lI (abZ a 0))), (0, .ref (wA w 0)), (1, .int (nI m)), (2, .long (lT (a 0)))]) C dX4_mean_54 (by decide) rfl ?_
        have L56 : ∀ (m56 : Nat) (v : Nat) (σ1 : SG), m56 = W2 - v → (v ≤ W2) → (Fr inM σ σ1) → G l w K 56 [(0, .ref (wA w 0)), (1, .int (nI m)), (2, .long (lT (a 0))), (4, .long (lI (abZ a v))), (6, .int (nI v))] [] σ1 := by
          intro m56
          induction m56 using Nat.strongRecOn with
          | ind m56 ih56 =>
          intro v σ1 em56 hv hF1
          have hR1 := hR.m hF1
          have hH1 := hR1.1
          refine g_iload C dX4_mean_56 rfl ?_
          refine g_iconst C dX4_mean_58 ic_1 ?_
          refine g_aload_n C dX4_mean_59 rfl rfl ?_
          refine g_get (v := .ref (wA w 1)) C fl_X4_12 fs_X4_12 (Nat.lt_of_lt_of_le (by decide) hN) rfl rfl dX4_mean_60 ?_
          refine g_get (v := .int (σ1 1 4)) C fl_X4_164 fs_X4_164 (Nat.lt_of_lt_of_le (by decide) hN) rfl rfl dX4_mean_63 ?_
          refine g_val (y := nI (a 0)) (Hh.c hH1) ?_
          refine g_ishl C dX4_mean_66 ?_
          refine g_val (y := nI W2) (by rw [hW2]; exact shl_eq hB0) ?_
          refine g_icmp_ge (tgt := 95) C dX4_mean_67 rfl (fun c67_3 => ?_) (fun c67_3 => ?_)
          · skip
            have n67_3 : W2 ≤ v := (nj_le (a := W2) (b := v) (by omega) (by omega)).mp c67_3
            have hvW : v = W2 := by omega
            rw [hvW]
            obtain ⟨z, hzd⟩ : ∃ q, q = abZ a W2 := ⟨_, rfl⟩
            have hz9 := abZ_le hcc hB0 W2 hW16
            rw [← hzd] at hz9
            obtain ⟨B, hBd⟩ : ∃ q, q = 10 ^ a 0 := ⟨_, rfl⟩
            rw [← hBd] at hT4
            have hB1_ : 0 < B := by rw [hBd]; exact Nat.pow_pos (by decide)
            obtain ⟨Gd, hGd⟩ : ∃ q, q = Nat.gcd B z.natAbs := ⟨_, rfl⟩
            have hGd0 : 0 < Gd := by rw [hGd]; exact Nat.gcd_pos_of_pos_left _ hB1_
            have hGd9 : Gd ≤ B := by rw [hGd]; exact Nat.gcd_le_left _ hB1_
            rw [← hzd]
            unfold lT
            rw [← hBd]
            refine g_lload_n C dX4_mean_95 rfl rfl ?_
            refine g_lload C dX4_mean_96 rfl ?_
            refine g_absl C ml_X4_176 st_Lib_MathLoose_abs_long ini_Math co_Lib_MathLoose_abs_long (by decide) (Nat.le_of_ble_eq_true rfl) dX4_mean_98 ?_
            refine g_vall (y := lI (z.natAbs : Int)) (lI_abs (by omega) (by omega)) ?_
            refine g_callSL (rest := []) C ms_X4_180 (ct_X4_greatestDivisor l w hN σ1 B z.natAbs Gd hB1_ (by omega) (by omega) hGd.symm) rfl (by decide) rfl (Nat.le_of_ble_eq_true rfl) dX4_mean_101 (fun r4 σ_4 h4 => ?_)
            obtain ⟨er4, eh4⟩ := h4
            rw [eh4, er4]
            refine g_lstore (lv' := [(6, .long (lI (Gd : Int))), (0, .ref (wA w 0)), (1, .int (nI m)), (2, .long (lI (B : Int))), (4, .long (lI z))]) C dX4_mean_104 (by decide) rfl ?_
            refine g_iload_n C dX4_mean_106 rfl rfl ?_
            refine g_if_ne (tgt := 115) C dX4_mean_107 rfl (fun c107_5 => ?_) (fun c107_5 => ?_)
            · skip
              have n107_5 : ¬ (m = 0) := fun qq => c107_5 ((nj_eq (a := m) (b := 0) (by omega) (by omega)).mpr qq)
              refine g_lload_n C dX4_mean_115 rfl rfl ?_
              refine g_lload C dX4_mean_116 rfl ?_
              refine g_ldiv C dX4_mean_118 (fun z => by have z2 := congrArg Int64.toInt z; rw [lI_toInt (by omega) (by omega), show (0 : Int64).toInt = 0 by decide] at z2; omega) ?_
              refine g_vall (y := lI (mnZ z B m)) (by first | (rw [lI_div (by omega) (by omega) (by omega) (by omega), hGd]; unfold mnZ; rw [if_pos (by omega)]) | (rw [lI_div (by omega) (by omega) (by omega) (by omega), hGd]; unfold mnZ; rw [if_neg (by omega)])) ?_
              refine g_lret C r dX4_mean_119 ?_
              refine fin_ql hC (hF1.mono (fun _ z => Or.inl z)) ?_ rfl
              unfold spMean
              rw [if_neg (fun z => z (by assumption)), nn_nj (n := m) (by omega), hzd, hBd, hW2]
            · skip
              have n107_5 : m = 0 := (nj_eq (a := m) (b := 0) (by omega) (by omega)).mp c107_5
              refine g_lload C dX4_mean_110 rfl ?_
              refine g_goto (tgt := 116) C dX4_mean_112 rfl ?_
              refine g_lload C dX4_mean_116 rfl ?_
              refine g_ldiv C dX4_mean_118 (fun z => by have z2 := congrArg Int64.toInt z; rw [lI_toInt (by omega) (by omega), show (0 : Int64).toInt = 0 by decide] at z2; omega) ?_
              refine g_vall (y := lI (mnZ z B m)) (by first | (rw [lI_div (by omega) (by omega) (by omega) (by omega), hGd]; unfold mnZ; rw [if_pos (by omega)]) | (rw [lI_div (by omega) (by omega) (by omega) (by omega), hGd]; unfold mnZ; rw [if_neg (by omega)])) ?_
              refine g_lret C r dX4_mean_119 ?_
              refine fin_ql hC (hF1.mono (fun _ z => Or.inl z)) ?_ rfl
              unfold spMean
              rw [if_neg (fun z => z (by assumption)), nn_nj (n := m) (by omega), hzd, hBd, hW2]
          · skip
            have n67_3 : ¬ (W2 ≤ v) := fun qq => c67_3 ((nj_le (a := W2) (b := v) (by omega) (by omega)).mpr qq)
            refine g_lload C dX4_mean_70 rfl ?_
            refine g_aload_n C dX4_mean_72 rfl rfl ?_
            refine g_iload C dX4_mean_73 rfl ?_
            refine g_callVL (rest := [.long (lI (abZ a v))]) C mv_X4_169 (ct_X4_chanceOf l w hN σ1 a hH1 hB v (by omega)) (Nat.lt_of_lt_of_le (by decide) hN) rfl rfl (by decide) rfl (Nat.le_of_ble_eq_true rfl) dX4_mean_75 (fun r6 σ_6 h6 => ?_)
            obtain ⟨er6, eh6⟩ := h6
            rw [eh6, er6]
            refine g_aload_n C dX4_mean_78 rfl rfl ?_
            refine g_iload C dX4_mean_79 rfl ?_
            refine g_callVI (rest := [.long (lI (chZ a v (a 0) : Int)), .long (lI (abZ a v))]) C mv_X4_173 (ct_X4_valueIfThereCome l w hN σ1 a hR1 v (by omega)) (Nat.lt_of_lt_of_le (by decide) hN) rfl rfl (by decide) rfl (Nat.le_of_ble_eq_true rfl) dX4_mean_81 (fun r7 σ_7 h7 => ?_)
            obtain ⟨er7, hFx⟩ := h7
            subst er7
            refine g_i2l C dX4_mean_84 ?_
            refine g_lmul C dX4_mean_85 ?_
            refine g_ladd C dX4_mean_86 ?_
            refine g_vall (y := lI (abZ a (v + 1))) (abZ_s a v) ?_
            refine g_lstore (lv' := [(4, .long (lI (abZ a (v + 1)))), (0, .ref (wA w 0)), (1, .int (nI m)), (2, .long (lT (a 0))), (6, .int (nI v))]) C dX4_mean_87 (by decide) rfl ?_
            refine g_iinc (v := nI (v + 1)) (lv' := [(6, .int (nI (v + 1))), (4, .long (lI (abZ a (v + 1)))), (0, .ref (wA w 0)), (1, .int (nI m)), (2, .long (lT (a 0)))]) C dX4_mean_89 (by decide) rfl (nj_inc v) rfl ?_
            refine g_goto (tgt := 56) C dX4_mean_92 rfl ?_
            exact g_lvp [2, 3, 4, 1, 0] rfl (ih56 (W2 - (v + 1)) (by omega) (v + 1) σ_7 rfl (by first | omega | assumption | rfl | grind) (hF1.tr hFx (fun _ z => z)))
        exact g_lvp [2, 3, 4, 1, 0] rfl (L56 (W2 - 0) 0 σ rfl (by first | omega | assumption | rfl | grind) (Fr.rf))
      · skip
        have n35_2 : ¬ (a 0 ≤ e) := fun qq => c35_2 ((nj_le (a := a 0) (b := e) (by have := hBa 0; omega) (by have := hBa 0; omega)).mpr qq)
        refine g_lload_n C dX4_mean_38 rfl rfl ?_
        refine g_ldc2 C cs_X4_167 dX4_mean_39 ?_
        refine g_lmul C dX4_mean_42 ?_
        refine g_vall (y := lT (e + 1)) (lT_s e) ?_
        refine g_lstore_n (lv' := [(2, .long (lT (e + 1))), (0, .ref (wA w 0)), (1, .int (nI m)), (4, .int (nI e))]) C dX4_mean_43 rfl (by decide) rfl ?_
        refine g_iinc (v := nI (e + 1)) (lv' := [(4, .int (nI (e + 1))), (2, .long (lT (e + 1))), (0, .ref (wA w 0)), (1, .int (nI m))]) C dX4_mean_44 (by decide) rfl (nj_inc e) rfl ?_
        refine g_goto (tgt := 26) C dX4_mean_47 rfl ?_
        exact g_lvp [2, 3, 1, 0] rfl (ih26 (a 0 - (e + 1)) (by omega) (e + 1) rfl (by first | omega | assumption | rfl | grind))
    exact g_lvp [2, 3, 1, 0] rfl (L26 (a 0 - 0) 0 rfl (by first | omega | assumption | rfl | grind))
  · skip
    have n6_1 : ¬ (0 ≤ x ∧ x ≤ 1) := bI_0 c6_1
    refine g_ldc2 C cs_X4_162 dX4_mean_9 ?_
    refine g_aload_n C dX4_mean_12 rfl rfl ?_
    refine g_bipush C dX4_mean_13 bp_m2 ?_
    refine g_callVI (rest := [.long 4000000000000000000]) C mv_X4_64 (ct_X4_refuse l w hN σ 2 (by decide) ((-2)) (by decide)) (Nat.lt_of_lt_of_le (by decide) hN) rfl rfl (by decide) rfl (Nat.le_of_ble_eq_true rfl) dX4_mean_15 (fun r8 σ_8 h8 => ?_)
    obtain ⟨er8, hrf⟩ := h8
    rw [er8]
    refine g_i2l C dX4_mean_18 ?_
    refine g_lsub C dX4_mean_19 ?_
    refine g_lret C r dX4_mean_20 ?_
    exact fin_rl hC (by decide) hrf (by unfold spMean; rw [if_pos (by assumption)]) rfl

def OpC (l : Launch) (w : WD) (σ : SG) (n : Nat) (qs : Nat → Nat) (N q : Nat) : Prop := ∀ (i s : Nat), i + q = N → s < 64 → CtI l w yX5_opened cX5_opened 6 (some .int) (q + 3) 0 0 [.ref (wA w 38), .int (nI i), .int (nI n), .int (nI s)] σ (fun r τ => (∃ m, r = nI m ∧ m ≤ 1000 ∧ Mx (Tw (EB n qs) (q) (i) (s)) m) ∧ τ = σ)
set_option maxRecDepth 100000 in
set_option maxHeartbeats 4000000 in
theorem ct_X5_opened_st (l : Launch) (w : WD) (hN : 54 ≤ wN w) (σ : SG) (n : Nat) (qs : Nat → Nat) (N q : Nat) (h6 : n ≤ 6) (hNN : N ≤ 6) (hln : σ 38 27 = nI (3 * N)) (hns : ∀ j, j < 3 * N → σ 53 j = nI (qs j)) (hq9 : ∀ j, j < 3 * N → qs j ≤ 99) (ih : ∀ q', q' < q → OpC l w σ n qs N q') (i s : Nat) (hiq : i + q = N) (hs : s < 64) : CtI l w yX5_opened cX5_opened 6 (some .int) (q + 3) 0 0 [.ref (wA w 38), .int (nI i), .int (nI n), .int (nI s)] σ (fun r τ => (∃ m, r = nI m ∧ m ≤ 1000 ∧ Mx (Tw (EB n qs) (q) (i) (s)) m) ∧ τ = σ) := by
  refine CtI.mk (by decide) (Nat.le_of_ble_eq_true rfl) ?_
  intro K C hr h0
  have r := RI.of hr h0
  clear hr h0
  show G l w K 0 [(0, .ref (wA w 38)), (1, .int (nI i)), (2, .int (nI n)), (3, .int (nI s))] [] σ
  refine g_iconst C dX5_opened_0 ic_3 ?_
  refine g_iload_n C dX5_opened_1 rfl rfl ?_
  refine g_imulv (v := nI (3 * i)) C (nj_times 3 i) dX5_opened_2 ?_
  refine g_aload_n C dX5_opened_3 rfl rfl ?_
  refine g_get (v := .int (σ 38 27)) C fl_X5_194 fs_X5_194 (Nat.lt_of_lt_of_le (by decide) hN) rfl rfl dX5_opened_4 ?_
  refine g_val (y := nI (3 * N)) hln ?_
  refine g_icmp_ne (tgt := 12) C dX5_opened_7 rfl (fun c7_1 => ?_) (fun c7_1 => ?_)
  · skip
    have n7_1 : ¬ (3 * i = 3 * N) := fun qq => c7_1 ((nj_eq (a := 3 * i) (b := 3 * N) (by omega) (by omega)).mpr qq)
    obtain ⟨q1, rfl⟩ : ∃ q1, q = q1 + 1 := ⟨q - 1, by omega⟩
    have hx0 := hq9 (3 * i) (by omega)
    have hx1 := hq9 (3 * i + 1) (by omega)
    have hx2 := hq9 (3 * i + 2) (by omega)
    refine g_aload_n C dX5_opened_12 rfl rfl ?_
    refine g_iload_n C dX5_opened_13 rfl rfl ?_
    refine g_iconst C dX5_opened_14 ic_1 ?_
    refine g_iaddv (v := nI (i + 1)) C (nj_plus i 1) dX5_opened_15 ?_
    refine g_iload_n C dX5_opened_16 rfl rfl ?_
    refine g_iload_n C dX5_opened_17 rfl rfl ?_
    refine g_callVI (rest := []) C mv_X5_197 (ih q1 (by omega) (i + 1) s (by omega) hs) (Nat.lt_of_lt_of_le (by decide) hN) rfl rfl (by omega) rfl (Nat.le_of_ble_eq_true rfl) dX5_opened_18 (fun r2 σ_2 h2 => ?_)
    obtain ⟨⟨m1, er2, m19, m1x⟩, eh2⟩ := h2
    rw [eh2, er2]
    refine g_istore (lv' := [(4, .int (nI m1)), (0, .ref (wA w 38)), (1, .int (nI i)), (2, .int (nI n)), (3, .int (nI s))]) C dX5_opened_21 (by decide) rfl ?_
    refine g_aload_n C dX5_opened_23 rfl rfl ?_
    refine g_get (v := .ref (wA w 53)) C fl_X5_53 fs_X5_53 (Nat.lt_of_lt_of_le (by decide) hN) rfl rfl dX5_opened_24 ?_
    refine g_iconst C dX5_opened_27 ic_3 ?_
    refine g_iload_n C dX5_opened_28 rfl rfl ?_
    refine g_imulv (v := nI (3 * i)) C (nj_times 3 i) dX5_opened_29 ?_
    refine g_ial (k0 := 53) (n := 20) C (Nat.lt_of_lt_of_le (by decide) hN) rfl (j := 3 * i) (ix_n (by omega)) dX5_opened_30 ?_
    refine g_val (y := nI (qs (3 * i))) (hns _ (by omega)) ?_
    refine g_istore (lv' := [(5, .int (nI (qs (3 * i)))), (4, .int (nI m1)), (0, .ref (wA w 38)), (1, .int (nI i)), (2, .int (nI n)), (3, .int (nI s))]) C dX5_opened_31 (by decide) rfl ?_
    have L33 : ∀ (m33 : Nat) (d : Nat) (mm : Nat), m33 = 99 - d → (qs (3 * i) ≤ d) → (d ≤ 99) → (Mx (Bt n qs q1 i s d) mm) → G l w K 33 [(0, .ref (wA w 38)), (1, .int (nI i)), (2, .int (nI n)), (3, .int (nI s)), (4, .int (nI mm)), (5, .int (nI d))] [] σ := by
      intro m33
      induction m33 using Nat.strongRecOn with
      | ind m33 ih33 =>
      intro d mm em33 hd1 hd9 hmx
      have hmm9 := Bt_le hq9 (by omega) hNN hmx.1
      refine g_iload C dX5_opened_33 rfl ?_
      refine g_aload_n C dX5_opened_35 rfl rfl ?_
      refine g_get (v := .ref (wA w 53)) C fl_X5_53 fs_X5_53 (Nat.lt_of_lt_of_le (by decide) hN) rfl rfl dX5_opened_36 ?_
      refine g_iconst C dX5_opened_39 ic_3 ?_
      refine g_iload_n C dX5_opened_40 rfl rfl ?_
      refine g_imulv (v := nI (3 * i)) C (nj_times 3 i) dX5_opened_41 ?_
      refine g_iconst C dX5_opened_42 ic_1 ?_
      refine g_iaddv (v := nI ((3 * i) + 1)) C (nj_plus (3 * i) 1) dX5_opened_43 ?_
      refine g_ial (k0 := 53) (n := 20) C (Nat.lt_of_lt_of_le (by decide) hN) rfl (j := (3 * i) + 1) (ix_n (by omega)) dX5_opened_44 ?_
      refine g_val (y := nI (qs ((3 * i) + 1))) (hns _ (by omega)) ?_
      refine g_icmp_gt (tgt := 101) C dX5_opened_45 rfl (fun c45_3 => ?_) (fun c45_3 => ?_)
      · skip
        have n45_3 : qs ((3 * i) + 1) < d := (nj_lt (a := qs ((3 * i) + 1)) (b := d) (by omega) (by omega)).mp c45_3
        have hde : qs (3 * i + 1) < d ∨ n ≤ d := by omega
        refine g_iload C dX5_opened_101 rfl ?_
        refine g_iret C r rfl dX5_opened_103 ?_
        have hfin : Mx (Tw (EB n qs) (q1 + 1) i s) mm := hmx.iff (fun v => Bt_n hs q1 i hde v)
        exact ⟨⟨mm, rfl, hmm9, hfin⟩, rfl⟩
      · skip
        have n45_3 : ¬ (qs ((3 * i) + 1) < d) := fun qq => c45_3 ((nj_lt (a := qs ((3 * i) + 1)) (b := d) (by omega) (by omega)).mpr qq)
        refine g_iload C dX5_opened_48 rfl ?_
        refine g_iload_n C dX5_opened_50 rfl rfl ?_
        refine g_icmp_ge (tgt := 101) C dX5_opened_51 rfl (fun c51_4 => ?_) (fun c51_4 => ?_)
        · skip
          have n51_4 : n ≤ d := (nj_le (a := n) (b := d) (by omega) (by omega)).mp c51_4
          have hde : qs (3 * i + 1) < d ∨ n ≤ d := by omega
          refine g_iload C dX5_opened_101 rfl ?_
          refine g_iret C r rfl dX5_opened_103 ?_
          have hfin : Mx (Tw (EB n qs) (q1 + 1) i s) mm := hmx.iff (fun v => Bt_n hs q1 i hde v)
          exact ⟨⟨mm, rfl, hmm9, hfin⟩, rfl⟩
        · skip
          have n51_4 : ¬ (n ≤ d) := fun qq => c51_4 ((nj_le (a := n) (b := d) (by omega) (by omega)).mpr qq)
          have L95 : ∀ (mm2 : Nat), (Mx (Bt n qs q1 i s (d + 1)) mm2) → G l w K 95 [(0, .ref (wA w 38)), (1, .int (nI i)), (2, .int (nI n)), (3, .int (nI s)), (4, .int (nI mm2)), (5, .int (nI d))] [] σ := by
            intro mm2 hmx2
            refine g_iinc (v := nI (d + 1)) (lv' := [(5, .int (nI (d + 1))), (0, .ref (wA w 38)), (1, .int (nI i)), (2, .int (nI n)), (3, .int (nI s)), (4, .int (nI mm2))]) C dX5_opened_95 (by decide) rfl (nj_inc d) rfl ?_
            refine g_goto (tgt := 33) C dX5_opened_98 rfl ?_
            exact g_lvp [1, 2, 3, 4, 5, 0] rfl (ih33 (99 - (d + 1)) (by omega) (d + 1) mm2 rfl (by first | omega | assumption | rfl | grind) (by first | omega | assumption | rfl | grind) (hmx2))
          refine g_iload_n C dX5_opened_54 rfl rfl ?_
          refine g_iload C dX5_opened_55 rfl ?_
          refine g_ishr C dX5_opened_57 ?_
          refine g_iconst C dX5_opened_58 ic_1 ?_
          refine g_iand C dX5_opened_59 ?_
          refine g_val (y := nI (bW s d)) (bw_eq6 hs (by omega)) ?_
          have hbw := bW_le s d
          refine g_if_ne (tgt := 95) C dX5_opened_60 rfl (fun c60_5 => ?_) (fun c60_5 => ?_)
          · skip
            have n60_5 : ¬ (bW s d = 0) := fun qq => c60_5 ((nj_eq (a := bW s d) (b := 0) (by omega) (by omega)).mpr qq)
            exact g_lvp [0, 1, 2, 3, 4, 5] rfl (L95 mm (hmx.iff (fun v => Bt_no hd1 (by omega) (by omega) (by omega) v)))
          · skip
            have n60_5 : bW s d = 0 := (nj_eq (a := bW s d) (b := 0) (by omega) (by omega)).mp c60_5
            have hb0 : bW s d = 0 := by omega
            obtain ⟨k1, k2, k3⟩ := bw_add hs (show d < 6 by omega) hb0
            refine g_iload C dX5_opened_63 rfl ?_
            refine g_aload_n C dX5_opened_65 rfl rfl ?_
            refine g_get (v := .ref (wA w 53)) C fl_X5_53 fs_X5_53 (Nat.lt_of_lt_of_le (by decide) hN) rfl rfl dX5_opened_66 ?_
            refine g_iconst C dX5_opened_69 ic_3 ?_
            refine g_iload_n C dX5_opened_70 rfl rfl ?_
            refine g_imulv (v := nI (3 * i)) C (nj_times 3 i) dX5_opened_71 ?_
            refine g_iconst C dX5_opened_72 ic_2 ?_
            refine g_iaddv (v := nI ((3 * i) + 2)) C (nj_plus (3 * i) 2) dX5_opened_73 ?_
            refine g_ial (k0 := 53) (n := 20) C (Nat.lt_of_lt_of_le (by decide) hN) rfl (j := (3 * i) + 2) (ix_n (by omega)) dX5_opened_74 ?_
            refine g_val (y := nI (qs ((3 * i) + 2))) (hns _ (by omega)) ?_
            refine g_aload_n C dX5_opened_75 rfl rfl ?_
            refine g_iload_n C dX5_opened_76 rfl rfl ?_
            refine g_iconst C dX5_opened_77 ic_1 ?_
            refine g_iaddv (v := nI (i + 1)) C (nj_plus i 1) dX5_opened_78 ?_
            refine g_iload_n C dX5_opened_79 rfl rfl ?_
            refine g_iload_n C dX5_opened_80 rfl rfl ?_
            refine g_iconst C dX5_opened_81 ic_1 ?_
            refine g_iload C dX5_opened_82 rfl ?_
            refine g_ishl C dX5_opened_84 ?_
            refine g_val (y := nI (2 ^ d)) (shl6 (by omega)) ?_
            refine g_ior C dX5_opened_85 ?_
            refine g_val (y := nI (s + 2 ^ d)) k3 ?_
            refine g_callVI (rest := [.int (nI (qs ((3 * i) + 2))), .int (nI mm)]) C mv_X5_197 (ih q1 (by omega) (i + 1) (s + 2 ^ d) (by omega) k1) (Nat.lt_of_lt_of_le (by decide) hN) rfl rfl (by omega) rfl (Nat.le_of_ble_eq_true rfl) dX5_opened_86 (fun r6 σ_6 h6 => ?_)
            obtain ⟨⟨m2, er6, m29, m2x⟩, eh6⟩ := h6
            rw [eh6, er6]
            refine g_iaddv (v := nI (m2 + qs ((3 * i) + 2))) C (by rw [nj_plus, Nat.add_comm]) dX5_opened_89 ?_
            refine g_max C ml_X5_68 st_Lib_Math_max ini_Math co_Lib_Math_max (by omega) (Nat.le_of_ble_eq_true rfl) dX5_opened_90 ?_
            refine g_val (y := nI (max mm (m2 + qs ((3 * i) + 2)))) (nj_max (by omega) (by omega)) ?_
            refine g_nat (fun mx hmxe => ?_)
            refine g_istore (lv' := [(4, .int (nI mx)), (0, .ref (wA w 38)), (1, .int (nI i)), (2, .int (nI n)), (3, .int (nI s)), (5, .int (nI d))]) C dX5_opened_93 (by decide) rfl ?_
            exact g_lvp [1, 2, 3, 4, 0, 5] rfl (L95 mx (by rw [hmxe]; exact (hmx.or (Mx_add m2x)).iff (fun v => Bt_yes hd1 (by omega) (by omega) hb0 v)))
    exact g_lvp [2, 3, 4, 5, 1, 0] rfl (L33 (99 - (qs (3 * i))) (qs (3 * i)) m1 rfl (by first | omega | assumption | rfl | grind) (by first | omega | assumption | rfl | grind) ((m1x).iff (fun v => Bt_0 n qs q1 i s v)))
  · skip
    have n7_1 : 3 * i = 3 * N := (nj_eq (a := 3 * i) (b := 3 * N) (by omega) (by omega)).mp c7_1
    have hiN : i = N := by omega
    have hq0 : q = 0 := by omega
    refine g_iconst C dX5_opened_10 ic_0 ?_
    refine g_iret C r rfl dX5_opened_11 ?_
    rw [hq0]
    exact ⟨⟨0, rfl, by omega, rfl, fun v hv => Nat.le_of_eq hv⟩, rfl⟩
theorem ct_X5_opened (l : Launch) (w : WD) (hN : 54 ≤ wN w) (σ : SG) (n : Nat) (qs : Nat → Nat) (N : Nat) (h6 : n ≤ 6) (hNN : N ≤ 6) (hln : σ 38 27 = nI (3 * N)) (hns : ∀ j, j < 3 * N → σ 53 j = nI (qs j)) (hq9 : ∀ j, j < 3 * N → qs j ≤ 99) : ∀ q, OpC l w σ n qs N q := fun q => Nat.strongRecOn q (fun q ih i s h1 h2 => ct_X5_opened_st l w hN σ n qs N q h6 hNN hln hns hq9 ih i s h1 h2)
set_option maxRecDepth 100000 in
set_option maxHeartbeats 4000000 in
theorem ct_X5_bottles (l : Launch) (w : WD) (hN : 54 ≤ wN w) (σ : SG) (a kp : Row) (tk nl : Nat) (lt : Nat → Nat) (qn : Nat) (qs : Nat → Nat) (rf : Nat → Int32) (hC : CM σ (a, kp, tk, (nl, lt), (qn, qs), rf)) (x : Int32) : CtI l w yX5_bottles cX5_bottles 2 (some .int) 13 0 0 [.ref (wA w 38), .int x] σ (fun r τ => r = (spBottles (a, kp, tk, (nl, lt), (qn, qs), rf) x).1 ∧ CM τ (spBottles (a, kp, tk, (nl, lt), (qn, qs), rf) x).2 ∧ Fr in38 σ τ) := by
  refine CtI.mk (by decide) (Nat.le_of_ble_eq_true rfl) ?_
  intro K C hr h0
  have r := RI.of hr h0
  clear hr h0
  show G l w K 0 [(0, .ref (wA w 38)), (1, .int x)] [] σ
  have hM : Mr σ 40 a := hC.2.1
  have hB : Bd a := hC.1.1.1
  have hd9 : a 1 ≤ 9999 := hC.1.1.2.1
  have hu9 : ∀ e, e < 4 → a (30 + 4 * e + 1) ≤ 9 := hC.1.1.2.2
  obtain ⟨hBa, hB0, hB1, hB2, hB3, hB4, hB5, hB6, hB7, hBs, hBp, hBe⟩ := id hB
  have hn1 : σ 38 27 = nI qn := hC.2.2.2.2.2.1.1
  have hn9 : qn ≤ 20 := hC.1.2.2.2.2.2.1
  have hns : ∀ j, j < qn → σ 53 j = nI (qs j) := hC.2.2.2.2.2.1.2
  have hns9 : ∀ j, j < qn → qs j ≤ 99 := hC.1.2.2.2.2.2.2
  refine g_iload_n C dX5_bottles_0 rfl rfl ?_
  refine g_iconst C dX5_bottles_1 ic_1 ?_
  refine g_icmp_ge (tgt := 12) C dX5_bottles_2 rfl (fun c2_1 => ?_) (fun c2_1 => ?_)
  · skip
    have hz1 : ¬ x < 1 := Int32.not_lt.mpr c2_1
    refine g_iload_n C dX5_bottles_12 rfl rfl ?_
    refine g_bipush C dX5_bottles_13 bp_6 ?_
    refine g_icmp_le (tgt := 25) C dX5_bottles_15 rfl (fun c15_2 => ?_) (fun c15_2 => ?_)
    · skip
      have hz : ¬ (x < 1 ∨ 6 < x) := fun z => z.elim hz1 (Int32.not_lt.mpr c15_2)
      obtain ⟨m, hm1, hm, rfl⟩ := nj_of5 (lo := 1) (m := 6) hz
      refine g_aload_n C dX5_bottles_25 rfl rfl ?_
      refine g_get (v := .int (σ 38 27)) C fl_X5_194 fs_X5_194 (Nat.lt_of_lt_of_le (by decide) hN) rfl rfl dX5_bottles_26 ?_
      refine g_val (y := nI qn) hn1 ?_
      refine g_iconst C dX5_bottles_29 ic_3 ?_
      refine g_iremv (v := nI (qn % 3)) C (by decide) (nj_rem (b := 3) (by omega) (by omega)) dX5_bottles_30 ?_
      refine g_if_ne (tgt := 53) C dX5_bottles_31 rfl (fun c31_3 => ?_) (fun c31_3 => ?_)
      · skip
        have n31_3 : ¬ (qn % 3 = 0) := fun qq => c31_3 ((nj_eq (a := qn % 3) (b := 0) (by omega) (by omega)).mpr qq)
        have hbad : ¬ (qn % 3 = 0 ∧ qn ≤ 18) := by omega
        refine g_aload_n C dX5_bottles_53 rfl rfl ?_
        refine g_bipush C dX5_bottles_54 bp_m3 ?_
        refine g_callVI (rest := []) C mv_X5_64 (ct_X5_no l w hN σ 3 (by decide) ((-3)) (by decide)) (Nat.lt_of_lt_of_le (by decide) hN) rfl rfl (by decide) rfl (Nat.le_of_ble_eq_true rfl) dX5_bottles_56 (fun r4 σ_4 h4 => ?_)
        obtain ⟨er4, hrf⟩ := h4
        rw [er4]
        refine g_iret C r rfl dX5_bottles_59 ?_
        exact fm_r hC (by decide) hrf (by unfold spBottles; rw [if_neg hz, if_pos hbad]) (by decide)
      · skip
        have n31_3 : qn % 3 = 0 := (nj_eq (a := qn % 3) (b := 0) (by omega) (by omega)).mp c31_3
        refine g_aload_n C dX5_bottles_34 rfl rfl ?_
        refine g_get (v := .int (σ 38 27)) C fl_X5_194 fs_X5_194 (Nat.lt_of_lt_of_le (by decide) hN) rfl rfl dX5_bottles_35 ?_
        refine g_val (y := nI qn) hn1 ?_
        refine g_bipush C dX5_bottles_38 bp_18 ?_
        refine g_icmp_gt (tgt := 53) C dX5_bottles_40 rfl (fun c40_5 => ?_) (fun c40_5 => ?_)
        · skip
          have n40_5 : 18 < qn := (nj_lt (a := 18) (b := qn) (by omega) (by omega)).mp c40_5
          have hbad : ¬ (qn % 3 = 0 ∧ qn ≤ 18) := by omega
          refine g_aload_n C dX5_bottles_53 rfl rfl ?_
          refine g_bipush C dX5_bottles_54 bp_m3 ?_
          refine g_callVI (rest := []) C mv_X5_64 (ct_X5_no l w hN σ 3 (by decide) ((-3)) (by decide)) (Nat.lt_of_lt_of_le (by decide) hN) rfl rfl (by decide) rfl (Nat.le_of_ble_eq_true rfl) dX5_bottles_56 (fun r6 σ_6 h6 => ?_)
          obtain ⟨er6, hrf⟩ := h6
          rw [er6]
          refine g_iret C r rfl dX5_bottles_59 ?_
          exact fm_r hC (by decide) hrf (by unfold spBottles; rw [if_neg hz, if_pos hbad]) (by decide)
        · skip
          have n40_5 : ¬ (18 < qn) := fun qq => c40_5 ((nj_lt (a := 18) (b := qn) (by omega) (by omega)).mpr qq)
          have hgood : qn % 3 = 0 ∧ qn ≤ 18 := by omega
          have h3n : qn = 3 * (qn / 3) := by omega
          refine g_aload_n C dX5_bottles_43 rfl rfl ?_
          refine g_iconst C dX5_bottles_44 ic_0 ?_
          refine g_iload_n C dX5_bottles_45 rfl rfl ?_
          refine g_iconst C dX5_bottles_46 ic_0 ?_
          refine g_callVI (rest := []) C mv_X5_197 (ct_X5_opened l w hN σ m qs (qn / 3) (by omega) (by omega) (by rw [← h3n]; exact hn1) (fun j hj => hns j (by omega)) (fun j hj => hns9 j (by omega)) (qn / 3) 0 0 (by omega) (by omega)) (Nat.lt_of_lt_of_le (by decide) hN) rfl rfl (by omega) rfl (Nat.le_of_ble_eq_true rfl) dX5_bottles_47 (fun r7 σ_7 h7 => ?_)
          obtain ⟨⟨m1, er7, m19, m1x⟩, eh7⟩ := h7
          rw [eh7, er7]
          refine g_goto (tgt := 59) C dX5_bottles_50 rfl ?_
          refine g_iret C r rfl dX5_bottles_59 ?_
          refine fm_q hC FrN.rf ?_ rfl
          unfold spBottles
          rw [if_neg hz, if_neg (fun z => z hgood), nn_nj (n := m) (by omega)]
          show (nI (mxOf (Tw (EB m qs) (qn / 3) 0 0)), _) = _
          rw [mxOf_eq m1x]
    · skip
      have hoc : x < 1 ∨ 6 < x := Or.inr (Int32.not_le.mp c15_2)
      have hkO : kO x 1 = 6 := if_neg hz1
      refine g_aload_n C dX5_bottles_18 rfl rfl ?_
      refine g_bipush C dX5_bottles_19 bp_m6 ?_
      refine g_callVI (rest := []) C mv_X5_64 (ct_X5_no l w hN σ 6 (by decide) ((-6)) (by decide)) (Nat.lt_of_lt_of_le (by decide) hN) rfl rfl (by decide) rfl (Nat.le_of_ble_eq_true rfl) dX5_bottles_21 (fun r8 σ_8 h8 => ?_)
      obtain ⟨er8, hrf⟩ := h8
      rw [er8]
      refine g_iret C r rfl dX5_bottles_24 ?_
      exact fm_r hC (by decide) hrf (by unfold spBottles; rw [if_pos hoc, hkO]) (by decide)
  · skip
    have hoc : x < 1 ∨ 6 < x := Or.inl (Int32.not_le.mp c2_1)
    have hkO : kO x 1 = 4 := if_pos (Int32.not_le.mp c2_1)
    refine g_aload_n C dX5_bottles_5 rfl rfl ?_
    refine g_bipush C dX5_bottles_6 bp_m4 ?_
    refine g_callVI (rest := []) C mv_X5_64 (ct_X5_no l w hN σ 4 (by decide) ((-4)) (by decide)) (Nat.lt_of_lt_of_le (by decide) hN) rfl rfl (by decide) rfl (Nat.le_of_ble_eq_true rfl) dX5_bottles_8 (fun r9 σ_9 h9 => ?_)
    obtain ⟨er9, hrf⟩ := h9
    rw [er9]
    refine g_iret C r rfl dX5_bottles_11 ?_
    exact fm_r hC (by decide) hrf (by unfold spBottles; rw [if_pos hoc, hkO]) (by decide)

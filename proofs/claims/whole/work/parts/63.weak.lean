set_option maxRecDepth 100000 in
set_option maxHeartbeats 4000000 in
theorem ct_X3_addEatenW (l : Launch) (w : WD) (hN : 54 ≤ wN w) (σ : SG) (g m : Nat) (wv : Int32) (hm : m ≤ 1000) (hg : g < 5) : CtV l w yX3_addEaten cX3_addEaten 5 1 0 0 [.ref (wA w 28), .int (nI g), .int (nI m), .int wv] σ (fun τ => Fr inT σ τ) := by
  refine CtV.mk (by decide) (Nat.le_of_ble_eq_true rfl) ?_
  intro K C hr h0
  have r := RV.of hr h0
  clear hr h0
  show G l w K 0 [(0, .ref (wA w 28)), (1, .int (nI g)), (2, .int (nI m)), (3, .int wv)] [] σ
  refine g_aload_n C dX3_addEaten_0 rfl rfl ?_
  refine g_get (v := .ref (wA w 29)) C fl_X3_9 fs_X3_9 (Nat.lt_of_lt_of_le (by decide) hN) rfl rfl dX3_addEaten_1 ?_
  refine g_iconst C dX3_addEaten_4 ic_1 ?_
  refine g_dup2 C dX3_addEaten_5 rfl rfl ?_
  refine g_ial (k0 := 29) (n := 6) C (Nat.lt_of_lt_of_le (by decide) hN) rfl (j := 1) (by unfold ix; decide) dX3_addEaten_6 ?_
  refine g_iload_n C dX3_addEaten_7 rfl rfl ?_
  refine g_iaddv (v := (σ 29 1) + (nI m)) C rfl dX3_addEaten_8 ?_
  refine g_ias (k0 := 29) (n := 6) C (Nat.lt_of_lt_of_le (by decide) hN) rfl (j := 1) (by unfold ix; decide) dX3_addEaten_9 (fun σ_1 hσ_1 => ?_)
  have L24 : ∀ (σ1 : SG), (Fr inT σ σ1) → G l w K 24 [(0, .ref (wA w 28)), (1, .int (nI g)), (2, .int (nI m)), (3, .int wv)] [] σ1 := by
    intro σ1 hF
    refine g_aload_n C dX3_addEaten_24 rfl rfl ?_
    refine g_get (v := .ref (wA w 29)) C fl_X3_9 fs_X3_9 (Nat.lt_of_lt_of_le (by decide) hN) rfl rfl dX3_addEaten_25 ?_
    refine g_iconst C dX3_addEaten_28 ic_0 ?_
    refine g_dup2 C dX3_addEaten_29 rfl rfl ?_
    refine g_ial (k0 := 29) (n := 6) C (Nat.lt_of_lt_of_le (by decide) hN) rfl (j := 0) (by unfold ix; decide) dX3_addEaten_30 ?_
    refine g_iload_n C dX3_addEaten_31 rfl rfl ?_
    refine g_iload_n C dX3_addEaten_32 rfl rfl ?_
    refine g_imulv (v := (nI m) * wv) C rfl dX3_addEaten_33 ?_
    refine g_iaddv (v := (σ1 29 0) + ((nI m) * wv)) C rfl dX3_addEaten_34 ?_
    refine g_ias (k0 := 29) (n := 6) C (Nat.lt_of_lt_of_le (by decide) hN) rfl (j := 0) (by unfold ix; decide) dX3_addEaten_35 (fun σ_2 hσ_2 => ?_)
    refine g_iconst C dX3_addEaten_36 ic_0 ?_
    refine g_istore (lv' := [(4, .int 0), (0, .ref (wA w 28)), (1, .int (nI g)), (2, .int (nI m)), (3, .int wv)]) C dX3_addEaten_37 (by decide) rfl ?_
    have L39 : ∀ (m39 : Nat) (k : Nat) (σ2 : SG), m39 = m - k → (k ≤ m) → (Fr inT σ σ2) → G l w K 39 [(0, .ref (wA w 28)), (1, .int (nI g)), (2, .int (nI m)), (4, .int (nI k))] [] σ2 := by
      intro m39
      induction m39 using Nat.strongRecOn with
      | ind m39 ih39 =>
      intro k σ2 em39 hk hF2
      refine g_iload C dX3_addEaten_39 rfl ?_
      refine g_iload_n C dX3_addEaten_41 rfl rfl ?_
      refine g_icmp_ge (tgt := 80) C dX3_addEaten_42 rfl (fun c42_3 => ?_) (fun c42_3 => ?_)
      · skip
        have n42_3 : m ≤ k := (nj_le (a := m) (b := k) (by omega) (by omega)).mp c42_3
        obtain rfl : k = m := by omega
        refine g_vret C r dX3_addEaten_80 ?_
        exact hF2
      · skip
        have n42_3 : ¬ (m ≤ k) := fun qq => c42_3 ((nj_le (a := m) (b := k) (by omega) (by omega)).mpr qq)
        refine g_aload_n C dX3_addEaten_45 rfl rfl ?_
        obtain ⟨kk, hk20, hkk⟩ := cl_k (σ2 28 2)
        refine g_get (v := .int (cl (σ2 28 2))) C fl_X3_24 fs_X3_24 (Nat.lt_of_lt_of_le (by decide) hN) rfl rfl dX3_addEaten_46 ?_
        refine g_val (y := nI kk) hkk ?_
        refine g_bipush C dX3_addEaten_49 bp_20 ?_
        refine g_icmp_ge (tgt := 80) C dX3_addEaten_51 rfl (fun c51_4 => ?_) (fun c51_4 => ?_)
        · skip
          have n51_4 : 20 ≤ kk := (nj_le (a := 20) (b := kk) (by omega) (by omega)).mp c51_4
          refine g_vret C r dX3_addEaten_80 ?_
          exact hF2
        · skip
          have n51_4 : ¬ (20 ≤ kk) := fun qq => c51_4 ((nj_le (a := 20) (b := kk) (by omega) (by omega)).mpr qq)
          refine g_aload_n C dX3_addEaten_54 rfl rfl ?_
          refine g_get (v := .ref (wA w 30)) C fl_X3_15 fs_X3_15 (Nat.lt_of_lt_of_le (by decide) hN) rfl rfl dX3_addEaten_55 ?_
          refine g_aload_n C dX3_addEaten_58 rfl rfl ?_
          refine g_get (v := .int (cl (σ2 28 2))) C fl_X3_24 fs_X3_24 (Nat.lt_of_lt_of_le (by decide) hN) rfl rfl dX3_addEaten_59 ?_
          refine g_val (y := nI kk) hkk ?_
          refine g_iload_n C dX3_addEaten_62 rfl rfl ?_
          refine g_ias (k0 := 30) (n := 20) C (Nat.lt_of_lt_of_le (by decide) hN) rfl (j := kk) (ix_n (by omega)) dX3_addEaten_63 (fun σ2n1 hσ2n1 => ?_)
          refine g_aload_n C dX3_addEaten_64 rfl rfl ?_
          refine g_dup C dX3_addEaten_65 rfl ?_
          refine g_get (v := .int (cl (σ2n1 28 2))) C fl_X3_24 fs_X3_24 (Nat.lt_of_lt_of_le (by decide) hN) rfl rfl dX3_addEaten_66 ?_
          refine g_val (y := nI kk) (by rw [hσ2n1, up_at, if_neg (by omega)]; exact hkk) ?_
          refine g_iconst C dX3_addEaten_69 ic_1 ?_
          refine g_iaddv (v := nI (kk + 1)) C (nj_plus kk 1) dX3_addEaten_70 ?_
          refine g_putn C fp_X3_24 (Nat.lt_of_lt_of_le (by decide) hN) rfl (cl_set (cl_n (by omega))) (Nat.le_of_ble_eq_true rfl) rfl rfl dX3_addEaten_71 (fun σ2n2 hσ2n2 => ?_)
          refine g_iinc (v := nI (k + 1)) (lv' := [(4, .int (nI (k + 1))), (0, .ref (wA w 28)), (1, .int (nI g)), (2, .int (nI m))]) C dX3_addEaten_74 (by decide) rfl (nj_inc k) rfl ?_
          refine g_goto (tgt := 39) C dX3_addEaten_77 rfl ?_
          exact g_lvp [1, 2, 3, 0] rfl (ih39 (m - (k + 1)) (by omega) (k + 1) σ2n2 rfl (by first | omega | assumption | rfl | grind) (by subst_vars; exact hF2.tr ((Fr.up (S := inT) ⟨by decide, by decide⟩).tr (Fr.up (S := inT) ⟨by decide, by decide⟩) (fun _ h => h)) (fun _ h => h)))
    exact g_lvp [1, 2, 3, 0] rfl (L39 (m - 0) 0 σ_2 rfl (by first | omega | assumption | rfl | grind) (by subst_vars; exact hF.tr (Fr.up (S := inT) ⟨by decide, by decide⟩) (fun _ h => h)))
  refine g_iload_n C dX3_addEaten_10 rfl rfl ?_
  refine g_if_ne (tgt := 24) C dX3_addEaten_11 rfl (fun c11_5 => ?_) (fun c11_5 => ?_)
  · skip
    have n11_5 : ¬ (g = 0) := fun qq => c11_5 ((nj_eq (a := g) (b := 0) (by omega) (by omega)).mpr qq)
    exact g_lvp [0, 1, 2, 3] rfl (L24 σ_1 (by subst_vars; exact Fr.up ⟨by decide, by decide⟩))
  · skip
    have n11_5 : g = 0 := (nj_eq (a := g) (b := 0) (by omega) (by omega)).mp c11_5
    refine g_aload_n C dX3_addEaten_14 rfl rfl ?_
    refine g_get (v := .ref (wA w 29)) C fl_X3_9 fs_X3_9 (Nat.lt_of_lt_of_le (by decide) hN) rfl rfl dX3_addEaten_15 ?_
    refine g_iconst C dX3_addEaten_18 ic_2 ?_
    refine g_dup2 C dX3_addEaten_19 rfl rfl ?_
    refine g_ial (k0 := 29) (n := 6) C (Nat.lt_of_lt_of_le (by decide) hN) rfl (j := 2) (by unfold ix; decide) dX3_addEaten_20 ?_
    refine g_iload_n C dX3_addEaten_21 rfl rfl ?_
    refine g_iaddv (v := (σ_1 29 2) + (nI m)) C rfl dX3_addEaten_22 ?_
    refine g_ias (k0 := 29) (n := 6) C (Nat.lt_of_lt_of_le (by decide) hN) rfl (j := 2) (by unfold ix; decide) dX3_addEaten_23 (fun σ_6 hσ_6 => ?_)
    exact g_lvp [0, 1, 2, 3] rfl (L24 σ_6 (by subst_vars; exact (Fr.up (S := inT) ⟨by decide, by decide⟩).tr (Fr.up (S := inT) ⟨by decide, by decide⟩) (fun _ h => h)))
set_option maxRecDepth 100000 in
set_option maxHeartbeats 4000000 in
theorem ct_X1_feedW (l : Launch) (w : WD) (hN : 54 ≤ wN w) (σ : SG) (b : Nat) (hb : HB b) (a : Row) (hH : Hh σ b a) (hB : Bd a) (e : Nat) (he : e < 4) (hu : Nat) (hhu : hu = a (30 + 4 * e + 1)) (W : Nat) (hW : W = wan a hu) : CtV l w yX1_feed cX1_feed 9 3 0 0 [.ref (wA w b), .int (nI e), .ref (wA w 28)] σ (fun τ => Hh τ b (eatS e W a).1 ∧ Fr (fun k => k = b + 1 ∨ inT k) σ τ) := by
  refine CtV.mk (by decide) (Nat.le_of_ble_eq_true rfl) ?_
  intro K C hr h0
  have r := RV.of hr h0
  clear hr h0
  show G l w K 0 [(0, .ref (wA w b)), (1, .int (nI e)), (2, .ref (wA w 28))] [] σ
  obtain ⟨hBa, hB0, hB1, hB2, hB3, hB4, hB5, hB6, hB7, hBs, hBp, hBe⟩ := id hB
  have hbl := hb.le
  have hu11 : hu ≤ 11 := by rw [hhu]; exact (hBe e he).2.1
  have hWh : W ≤ hu := by rw [hW]; unfold wan; split <;> omega
  refine g_aload_n C dX1_feed_0 rfl rfl ?_
  refine g_get (v := .ref (wA w (b + 4))) C fl_X1_23 fs_X1_23 (HB.n0 hb hN) (HB.ou hb _) rfl dX1_feed_1 ?_
  refine g_iload_n C dX1_feed_4 rfl rfl ?_
  refine g_aal (k0 := (b + 4)) (b := b) C (HB.n hb hN (by decide)) (HB.e hb) (j := e) (ix_n (by omega)) dX1_feed_5 ?_
  refine g_iconst C dX1_feed_6 ic_1 ?_
  refine g_ial (k0 := (b + 5 + e)) (n := 4) C (HB.nr hb hN (by omega)) (HB.r hb (by omega)) (j := 1) (by unfold ix; decide) dX1_feed_7 ?_
  refine g_val (y := nI hu) (by rw [hhu]; exact Hh.e hH (by omega) (by omega)) ?_
  refine g_istore_n (lv' := [(3, .int (nI hu)), (0, .ref (wA w b)), (1, .int (nI e)), (2, .ref (wA w 28))]) C dX1_feed_8 rfl (by decide) rfl ?_
  have L28 : ∀ (wx : Int32), (WX wx W) → G l w K 28 [(0, .ref (wA w b)), (1, .int (nI e)), (2, .ref (wA w 28)), (3, .int (nI hu)), (4, .int wx)] [] σ := by
    intro wx hwx
    have L118 : ∀ (a1 : Row) (l1 : List Nat) (k5 : Nat) (σ1 : SG), (eatS e W a = (a1, l1)) → (k5 = l1.length) → (Hh σ1 b a1) → (Fr (fun k => k = b + 1 ∨ inT k) σ σ1) → G l w K 118 [(0, .ref (wA w b)), (2, .ref (wA w 28)), (3, .int (nI hu)), (5, .int (nI k5))] [] σ1 := by
      intro a1 l1 k5 σ1 hX hk5 hH1 hF1
      have hlen : l1.length ≤ W := by have := eatS_len e W a; rw [hX] at this; exact this
      refine g_aload_n C dX1_feed_118 rfl rfl ?_
      refine g_iload_n C dX1_feed_119 rfl rfl ?_
      refine g_iload C dX1_feed_120 rfl ?_
      refine g_isubv (v := nI (hu - k5)) C (nj_minus (a := hu) (b := k5) (by omega)) dX1_feed_122 ?_
      refine g_aload_n C dX1_feed_123 rfl rfl ?_
      refine g_get (v := .ref (wA w (b + 3))) C fl_X1_18 fs_X1_18 (HB.n0 hb hN) (HB.ou hb _) rfl dX1_feed_124 ?_
      refine g_iconst C dX1_feed_127 ic_4 ?_
      refine g_ial (k0 := (b + 3)) (n := 6) C (HB.n hb hN (by decide)) (HB.t hb) (j := 4) (by unfold ix; decide) dX1_feed_128 ?_
      refine g_val (y := nI (a1 6)) (Hh.t hH1 (by omega)) ?_
      refine g_callVV (rest := []) C mv_X1_93 (ct_X3_addLacked l w hN σ1 (nI (hu - k5)) (nI (a1 6))) (Nat.lt_of_lt_of_le (by decide) hN) rfl rfl (by decide) rfl (Nat.le_of_ble_eq_true rfl) dX1_feed_129 (fun σ_1 h1 => ?_)
      have hL := h1
      refine g_vret C r dX1_feed_132 ?_
      exact feed_finW hb hX hH1 hF1 hL
    refine g_iconst C dX1_feed_28 ic_0 ?_
    refine g_istore (lv' := [(5, .int 0), (0, .ref (wA w b)), (1, .int (nI e)), (2, .ref (wA w 28)), (3, .int (nI hu)), (4, .int wx)]) C dX1_feed_29 (by decide) rfl ?_
    refine g_iconst C dX1_feed_31 ic_0 ?_
    refine g_istore (lv' := [(6, .int 0), (5, .int 0), (0, .ref (wA w b)), (1, .int (nI e)), (2, .ref (wA w 28)), (3, .int (nI hu)), (4, .int wx)]) C dX1_feed_32 (by decide) rfl ?_
    have L34 : ∀ (m34 : Nat) (t : Nat) (a1 : Row) (l1 : List Nat) (k5 : Nat) (σ1 : SG), m34 = 5 - t → (t ≤ 5) → (k5 = l1.length) → (l1.length ≤ W) → (eatS e W a = ((eatS e (W - l1.length) a1).1, l1 ++ (eatS e (W - l1.length) a1).2)) → (W ≤ l1.length ∨ avC a1 e 5 + t ≤ 5) → (SmE a a1) → (∀ j, a1 j ≤ a j) → (Hh σ1 b a1) → (Fr (fun k => k = b + 1 ∨ inT k) σ σ1) → G l w K 34 [(0, .ref (wA w b)), (1, .int (nI e)), (2, .ref (wA w 28)), (3, .int (nI hu)), (4, .int wx), (5, .int (nI k5)), (6, .int (nI t))] [] σ1 := by
      intro m34
      induction m34 using Nat.strongRecOn with
      | ind m34 ih34 =>
      intro t a1 l1 k5 σ1 em34 ht hk5 hlW hE hav hSm hle hH1 hF1
      have hB1 : Bd a1 := hB.sm hSm hle
      have hBa1 := hB1.1
      refine g_iload C dX1_feed_34 rfl ?_
      refine g_iconst C dX1_feed_36 ic_5 ?_
      refine g_icmp_ge (tgt := 118) C dX1_feed_37 rfl (fun c37_2 => ?_) (fun c37_2 => ?_)
      · skip
        have n37_2 : 5 ≤ t := (nj_le (a := 5) (b := t) (by omega) (by omega)).mp c37_2
        exact g_lvp [0, 2, 3, 5] rfl (L118 a1 l1 k5 σ1 (feed_exit hE (hav.elim Or.inl (fun q => Or.inr (nxC_av (by omega))))) (by first | omega | assumption | rfl | grind) (by first | omega | assumption | rfl | grind) (by first | omega | assumption | rfl | grind))
      · skip
        have n37_2 : ¬ (5 ≤ t) := fun qq => c37_2 ((nj_le (a := 5) (b := t) (by omega) (by omega)).mpr qq)
        refine g_iload C dX1_feed_40 rfl ?_
        refine g_iload C dX1_feed_42 rfl ?_
        refine g_icmp_ge (tgt := 118) C dX1_feed_44 rfl (fun c44_3 => ?_) (fun c44_3 => ?_)
        · skip
          have hX1 : W ≤ k5 := (hwx.1 k5 (by omega)).mp c44_3
          exact g_lvp [0, 2, 3, 5] rfl (L118 a1 l1 k5 σ1 (feed_exit hE (Or.inl (by omega))) (by first | omega | assumption | rfl | grind) (by first | omega | assumption | rfl | grind) (by first | omega | assumption | rfl | grind))
        · skip
          have hX1 : ¬ W ≤ k5 := fun q => c44_3 ((hwx.1 k5 (by omega)).mpr q)
          refine g_aload_n C dX1_feed_47 rfl rfl ?_
          refine g_iload_n C dX1_feed_48 rfl rfl ?_
          refine g_pVI (rest := []) (v := oJ (nxC a1 e) (-1)) C mv_X1_79 (ct_X1_nextAge l w hN σ1 b hb a1 hH1 hB1 e (by omega)) (HB.n0 hb hN) (HB.ou hb _) rfl (by decide) rfl (Nat.le_of_ble_eq_true rfl) dX1_feed_49 ?_
          refine g_top (fun x7 ex7 => ?_)
          refine g_istore (lv' := [(7, .int x7), (0, .ref (wA w b)), (1, .int (nI e)), (2, .ref (wA w 28)), (3, .int (nI hu)), (4, .int wx), (5, .int (nI k5)), (6, .int (nI t))]) C dX1_feed_52 (by decide) rfl ?_
          refine g_iload C dX1_feed_54 rfl ?_
          refine g_if_ge (tgt := 62) C dX1_feed_56 rfl (fun c56_4 => ?_) (fun c56_4 => ?_)
          · skip
            obtain ⟨g, hg, rfl⟩ := oJ_pos ex7 (Int32.not_lt.mpr c56_4)
            obtain ⟨hg5, hgr, hge⟩ := nxC_spec hg
            have hr0 := (reachC_inR a1 g).mp hgr
            have hr1 := inR_le a1 g
            have hr2 := hBa1 (10 + g)
            refine g_iload C dX1_feed_62 rfl ?_
            refine g_iload C dX1_feed_64 rfl ?_
            refine g_isubv (v := nI (W - k5)) C (hwx.2 k5 (by omega)) dX1_feed_66 ?_
            refine g_aload_n C dX1_feed_67 rfl rfl ?_
            refine g_iload C dX1_feed_68 rfl ?_
            refine g_pVI (rest := [.int (nI (W - k5))]) (v := inRj a1 g) C mv_X1_83 (ct_X1_inReach l w hN σ1 b hb a1 hH1 hB1 g (by omega)) (HB.n0 hb hN) (HB.ou hb _) rfl (by decide) rfl (Nat.le_of_ble_eq_true rfl) dX1_feed_70 ?_
            refine g_val (y := nI (inR a1 g)) (inR_Rj (hBa1 (10 + g)) hgr) ?_
            refine g_min C ml_X1_53 st_Lib_Math_min ini_Math co_Lib_Math_min (by decide) (Nat.le_of_ble_eq_true rfl) dX1_feed_73 ?_
            refine g_val (y := nI (min (W - k5) (inR a1 g))) (nj_min (by omega) (by omega)) ?_
            refine g_nat (fun m hm => ?_)
            refine g_istore (lv' := [(8, .int (nI m)), (7, .int (nI g)), (0, .ref (wA w b)), (1, .int (nI e)), (2, .ref (wA w 28)), (3, .int (nI hu)), (4, .int wx), (5, .int (nI k5)), (6, .int (nI t))]) C dX1_feed_76 (by decide) rfl ?_
            refine g_aload_n C dX1_feed_78 rfl rfl ?_
            refine g_get (v := .ref (wA w (b + 1))) C fl_X1_9 fs_X1_9 (HB.n0 hb hN) (HB.ou hb _) rfl dX1_feed_79 ?_
            refine g_iload C dX1_feed_82 rfl ?_
            refine g_dup2 C dX1_feed_84 rfl rfl ?_
            refine g_ial (k0 := (b + 1)) (n := 5) C (HB.n hb hN (by decide)) (HB.s hb) (j := g) (ix_n (by omega)) dX1_feed_85 ?_
            refine g_val (y := nI (a1 (10 + g))) (Hh.s hH1 (by omega)) ?_
            refine g_iload C dX1_feed_86 rfl ?_
            refine g_isubv (v := nI ((a1 (10 + g)) - m)) C (nj_minus (a := a1 (10 + g)) (b := m) (by omega)) dX1_feed_88 ?_
            refine g_ias (k0 := (b + 1)) (n := 5) C (HB.n hb hN (by decide)) (HB.s hb) (j := g) (ix_n (by omega)) dX1_feed_89 (fun σ2 hσ2 => ?_)
            obtain ⟨a2, ha2⟩ : ∃ q, q = ua a1 (10 + g) (a1 (10 + g) - m) := ⟨_, rfl⟩
            have hS2 : SmE a1 a2 := by rw [ha2]; exact SmE.ua hg5
            have hle2 : ∀ j, a2 j ≤ a1 j := fun j => by rw [ha2]; simp only [ua_at]; by_cases z : j = 10 + g <;> simp [z]
            have hH2 : Hh σ2 b a2 := by rw [hσ2, ha2]; exact hH1.us hg5
            have hB2 : Bd a2 := hB1.sm hS2 hle2
            refine g_iload C dX1_feed_90 rfl ?_
            refine g_iload C dX1_feed_92 rfl ?_
            refine g_iaddv (v := nI (k5 + m)) C (nj_plus k5 m) dX1_feed_94 ?_
            refine g_istore (lv' := [(5, .int (nI (k5 + m))), (8, .int (nI m)), (7, .int (nI g)), (0, .ref (wA w b)), (1, .int (nI e)), (2, .ref (wA w 28)), (3, .int (nI hu)), (4, .int wx), (6, .int (nI t))]) C dX1_feed_95 (by decide) rfl ?_
            refine g_aload_n C dX1_feed_97 rfl rfl ?_
            refine g_iload C dX1_feed_98 rfl ?_
            refine g_iload C dX1_feed_100 rfl ?_
            refine g_aload_n C dX1_feed_102 rfl rfl ?_
            refine g_iload_n C dX1_feed_103 rfl rfl ?_
            refine g_iload C dX1_feed_104 rfl ?_
            refine g_pVI (rest := [.int (nI m), .int (nI g), .ref (wA w 28)]) (v := wJ a2 e g) C mv_X1_86 (ct_X1_worthTo l w hN σ2 b hb a2 hH2 hB2 e g (by omega) (by omega)) (HB.n0 hb hN) (HB.ou hb _) rfl (by decide) rfl (Nat.le_of_ble_eq_true rfl) dX1_feed_106 ?_
            refine g_val (y := nI (wNt a e g)) (by rw [wJ, if_pos ((sm_eats hS2 e g).mpr hge), sm_wNt (hSm.tr hS2)]) ?_
            refine g_callVV (rest := []) C mv_X1_89 (ct_X3_addEatenW l w hN σ2 g m (nI (wNt a e g)) (by omega) hg5) (Nat.lt_of_lt_of_le (by decide) hN) rfl rfl (by decide) rfl (Nat.le_of_ble_eq_true rfl) dX1_feed_109 (fun σ_5 h5 => ?_)
            have hF3 := h5
            refine g_iinc (v := nI (t + 1)) (lv' := [(6, .int (nI (t + 1))), (5, .int (nI (k5 + m))), (8, .int (nI m)), (7, .int (nI g)), (0, .ref (wA w b)), (1, .int (nI e)), (2, .ref (wA w 28)), (3, .int (nI hu)), (4, .int wx)]) C dX1_feed_112 (by decide) rfl (nj_inc t) rfl ?_
            refine g_goto (tgt := 34) C dX1_feed_115 rfl ?_
            exact g_lvp [4, 5, 6, 7, 8, 1, 0] rfl (ih34 (5 - (t + 1)) (by omega) (t + 1) a2 (l1 ++ List.replicate m g) (k5 + m) σ_5 rfl (by first | omega | assumption | rfl | grind) (by rw [List.length_append, List.length_replicate]; omega) (by rw [List.length_append, List.length_replicate]; omega) (by rw [ha2]; exact feed_step hE hg (by rw [hm, hk5])) (by rw [ha2]; exact feed_av hg (by rw [hm, hk5]) (by omega) hav) (hSm.tr hS2) (fun j => Nat.le_trans (hle2 j) (hle j)) (hH2.fr (fun k q1 q2 => hF3 k (fun z => by obtain ⟨z1, z2⟩ := z; omega))) ((hF1.tr (show Fr (fun k => k = b + 1 ∨ inT k) σ1 σ2 by rw [hσ2]; exact Fr.up (Or.inl rfl)) (fun _ z => z)).tr hF3 (fun _ z => Or.inr z)))
          · skip
            have hX0 : nxC a1 e = none := oJ_neg ex7 (Int32.not_le.mp c56_4) (fun g1 h1 => (nxC_spec h1).1)
            refine g_goto (tgt := 118) C dX1_feed_59 rfl ?_
            exact g_lvp [1, 3, 4, 6] rfl (L118 a1 l1 k5 σ1 (feed_exit hE (Or.inr hX0)) (by first | omega | assumption | rfl | grind) (by first | omega | assumption | rfl | grind) (by first | omega | assumption | rfl | grind))
    exact g_lvp [2, 3, 4, 5, 6, 1, 0] rfl (L34 (5 - 0) 0 a ([]) 0 σ rfl (by first | omega | assumption | rfl | grind) (rfl) (Nat.zero_le _) (rfl) (Or.inr (by have := avC_le a e 5; omega)) (SmE.rf) (fun _ => Nat.le_refl _) (hH) (Fr.rf))
  refine g_aload_n C dX1_feed_9 rfl rfl ?_
  refine g_get (v := .ref (wA w (b + 3))) C fl_X1_18 fs_X1_18 (HB.n0 hb hN) (HB.ou hb _) rfl dX1_feed_10 ?_
  refine g_iconst C dX1_feed_13 ic_5 ?_
  refine g_ial (k0 := (b + 3)) (n := 6) C (HB.n hb hN (by decide)) (HB.t hb) (j := 5) (by unfold ix; decide) dX1_feed_14 ?_
  refine g_val (y := nI (a 7)) (Hh.t hH (by omega)) ?_
  refine g_iconst C dX1_feed_15 ic_5 ?_
  refine g_icmp_ne (tgt := 25) C dX1_feed_16 rfl (fun c16_6 => ?_) (fun c16_6 => ?_)
  · skip
    have n16_6 : ¬ (a 7 = 5) := fun qq => c16_6 ((nj_eq (a := a 7) (b := 5) (by have := hBa 7; omega) (by have := hBa 7; omega)).mpr qq)
    refine g_iload_n C dX1_feed_25 rfl rfl ?_
    refine g_istore (lv' := [(4, .int (nI hu)), (3, .int (nI hu)), (0, .ref (wA w b)), (1, .int (nI e)), (2, .ref (wA w 28))]) C dX1_feed_26 (by decide) rfl ?_
    exact g_lvp [2, 3, 4, 1, 0] rfl (L28 (nI hu) (by rw [hW]; unfold wan; first | (rw [if_pos (by omega)]; exact WX_m (by omega)) | (rw [if_neg (by omega)]; exact WX_n (by omega))))
  · skip
    have n16_6 : a 7 = 5 := (nj_eq (a := a 7) (b := 5) (by have := hBa 7; omega) (by have := hBa 7; omega)).mp c16_6
    refine g_iload_n C dX1_feed_19 rfl rfl ?_
    refine g_iconst C dX1_feed_20 ic_1 ?_
    refine g_isubv (v := (nI hu) - 1) C rfl dX1_feed_21 ?_
    refine g_goto (tgt := 26) C dX1_feed_22 rfl ?_
    refine g_istore (lv' := [(4, .int ((nI hu) - 1)), (3, .int (nI hu)), (0, .ref (wA w b)), (1, .int (nI e)), (2, .ref (wA w 28))]) C dX1_feed_26 (by decide) rfl ?_
    exact g_lvp [2, 3, 4, 1, 0] rfl (L28 ((nI hu) - 1) (by rw [hW]; unfold wan; first | (rw [if_pos (by omega)]; exact WX_m (by omega)) | (rw [if_neg (by omega)]; exact WX_n (by omega))))
set_option maxRecDepth 100000 in
set_option maxHeartbeats 4000000 in
theorem ct_X1_shopW (l : Launch) (w : WD) (hN : 54 ≤ wN w) (σ : SG) (b : Nat) (hb : HB b) (a : Row) (hH : Hh σ b a) (hB : Bd a) (fw : Nat) (hfw : σ b 6 = nI fw) (hf2 : fw ≤ a 2) : CtV l w yX1_shop cX1_shop 2 3 0 0 [.ref (wA w b), .ref (wA w 28)] σ (fun τ => Hh τ b (shR a fw) ∧ τ b 6 = nI (shF a fw) ∧ Fr (inS b) σ τ) := by
  refine CtV.mk (by decide) (Nat.le_of_ble_eq_true rfl) ?_
  intro K C hr h0
  have r := RV.of hr h0
  clear hr h0
  show G l w K 0 [(0, .ref (wA w b)), (1, .ref (wA w 28))] [] σ
  obtain ⟨hBa, hB0, hB1, hB2, hB3, hB4, hB5, hB6, hB7, hBs, hBp, hBe⟩ := id hB
  have hbl := hb.le
  have h10 : a 10 ≤ 60 := hBs 0 (by omega)
  have h11 : a 11 ≤ 60 := hBs 1 (by omega)
  refine g_aload_n C dX1_shop_0 rfl rfl ?_
  refine g_get (v := .ref (wA w (b + 2))) C fl_X1_15 fs_X1_15 (HB.n0 hb hN) (HB.ou hb _) rfl dX1_shop_1 ?_
  refine g_aload_n C dX1_shop_4 rfl rfl ?_
  refine g_get (v := .int (σ b 5)) C fl_X1_36 fs_X1_36 (HB.n0 hb hN) (HB.ou hb _) rfl dX1_shop_5 ?_
  refine g_val (y := nI (a 1)) (Hh.d hH) ?_
  refine g_bipush C dX1_shop_8 bp_7 ?_
  refine g_iremv (v := nI (a 1 % 7)) C (by decide) (nj_rem (b := 7) (by omega) (by omega)) dX1_shop_10 ?_
  refine g_ial (k0 := (b + 2)) (n := 7) C (HB.n hb hN (by decide)) (HB.p hb) (j := a 1 % 7) (ix_n (by omega)) dX1_shop_11 ?_
  refine g_val (y := nI (a (20 + (a 1 % 7)))) (Hh.p hH (by omega)) ?_
  refine g_if_ne (tgt := 16) C dX1_shop_12 rfl (fun c12_1 => ?_) (fun c12_1 => ?_)
  · skip
    have n12_1 : ¬ (a (20 + (a 1 % 7)) = 0) := fun qq => c12_1 ((nj_eq (a := a (20 + (a 1 % 7))) (b := 0) (by have := hBa (20 + (a 1 % 7)); have := hBa 1; omega) (by have := hBa (20 + (a 1 % 7)); have := hBa 1; omega)).mpr qq)
    refine g_aload_n C dX1_shop_16 rfl rfl ?_
    refine g_aload_n C dX1_shop_17 rfl rfl ?_
    refine g_iconst C dX1_shop_18 ic_0 ?_
    refine g_aload_n C dX1_shop_19 rfl rfl ?_
    refine g_get (v := .ref (wA w (b + 3))) C fl_X1_18 fs_X1_18 (HB.n0 hb hN) (HB.ou hb _) rfl dX1_shop_20 ?_
    refine g_iconst C dX1_shop_23 ic_0 ?_
    refine g_ial (k0 := (b + 3)) (n := 6) C (HB.n hb hN (by decide)) (HB.t hb) (j := 0) (by unfold ix; decide) dX1_shop_24 ?_
    refine g_val (y := nI (a 2)) (Hh.t hH (by omega)) ?_
    refine g_aload_n C dX1_shop_25 rfl rfl ?_
    refine g_get (v := .int (σ b 6)) C fl_X1_39 fs_X1_39 (HB.n0 hb hN) (HB.ou hb _) rfl dX1_shop_26 ?_
    refine g_val (y := nI fw) hfw ?_
    refine g_isubv (v := nI ((a 2) - fw)) C (nj_minus (a := a 2) (b := fw) (by omega)) dX1_shop_29 ?_
    obtain ⟨c1, hc1⟩ : ∃ q, q = min ((a 2) - fw) (60 - a (10 + 0)) := ⟨_, rfl⟩
    refine g_callVI (rest := [.ref (wA w 28)]) C mv_X1_73 (ct_X1_bring l w hN σ b hb a hH hB 0 ((a 2) - fw) (by omega) (by omega)) (HB.n0 hb hN) (HB.ou hb _) rfl (by decide) rfl (Nat.le_of_ble_eq_true rfl) dX1_shop_30 (fun r2 σa h2 => ?_)
    obtain ⟨er2, ec1⟩ := h2
    rw [← hc1] at er2 ec1
    subst er2
    refine g_aload_n C dX1_shop_33 rfl rfl ?_
    have hHx : Hh σa b (ua a (10 + 0) (a (10 + 0) + c1)) := by rw [ec1]; exact hH.us (by omega)
    refine g_get (v := .ref (wA w (b + 3))) C fl_X1_18 fs_X1_18 (HB.n0 hb hN) (HB.ou hb _) rfl dX1_shop_34 ?_
    refine g_iconst C dX1_shop_37 ic_2 ?_
    refine g_ial (k0 := (b + 3)) (n := 6) C (HB.n hb hN (by decide)) (HB.t hb) (j := 2) (by unfold ix; decide) dX1_shop_38 ?_
    refine g_val (y := nI (a 4)) (by have := Hh.t hHx (k := 2) (by omega); exact this) ?_
    refine g_callVV (rest := []) C mv_X1_76 (ct_X3_addBought l w hN σa (nI c1) (nI (a 4))) (Nat.lt_of_lt_of_le (by decide) hN) rfl rfl (by decide) rfl (Nat.le_of_ble_eq_true rfl) dX1_shop_39 (fun σb h3 => ?_)
    have g4a : a 4 = a 4 := rfl
    obtain ⟨hH0, hB1, h60, hF1⟩ := shop_inW hb hH hB Fr.rf (show 0 < 5 by omega) (by have z0 : a (10 + 0) = a 10 := rfl; omega) ec1 h3
    obtain ⟨a1, ha1⟩ : ∃ q, q = ua a (10 + 0) (a (10 + 0) + c1) := ⟨_, rfl⟩
    rw [← ha1] at hH0 hB1
    have hBa1 := hB1.1
    refine g_aload_n C dX1_shop_42 rfl rfl ?_
    refine g_iconst C dX1_shop_43 ic_0 ?_
    refine g_putn C fp_X1_39 (HB.n0 hb hN) (HB.ou hb _) (HB.ou hb _) (Nat.le_of_ble_eq_true rfl) rfl rfl dX1_shop_44 (fun σc hσc => ?_)
    have hH1 : Hh σc b a1 := by rw [hσc]; exact hH0.uf
    have h61 : σc b 6 = 0 := by rw [hσc, up_same]
    have hF1 : Fr (inS b) σ σc := hF1.tr (show Fr (inS b) σb σc by rw [hσc]; exact Fr.up (Or.inl rfl)) (fun _ z => z)
    have g2 : a1 2 = a 2 := by rw [ha1]; rfl
    have g4 : a1 4 = a 4 := by rw [ha1]; rfl
    have g1 : a1 1 = a 1 := by rw [ha1]; rfl
    have g20 : a1 (20 + (a1 1 + 1) % 7) = a (20 + (a 1 + 1) % 7) := by rw [g1, ha1, ua_at, if_neg (by omega)]
    have g10 : a1 10 = a 10 + c1 := by rw [ha1]; rfl
    have L85 : ∀ (a2 : Row) (c2 : Nat) (σ2 : SG), (c2 = if a (20 + (a 1 + 1) % 7) = 0 then min (a 2) (60 - (a 10 + c1)) else 0) → (a2 = ua a 10 (a 10 + c1 + c2)) → (Hh σ2 b a2) → (Bd a2) → (σ2 b 6 = 0) → (Fr (inS b) σ σ2) → G l w K 85 [(0, .ref (wA w b)), (1, .ref (wA w 28))] [] σ2 := by
      intro a2 c2 σ2 hc2 ha2 hH2 hB2 h62 hF2
      have hBa2 := hB2.1
      have g11 : a2 11 = a 11 := by rw [ha2]; rfl
      have g3 : a2 3 = a 3 := by rw [ha2]; rfl
      have g4 : a2 4 = a 4 := by rw [ha2]; rfl
      refine g_aload_n C dX1_shop_85 rfl rfl ?_
      refine g_aload_n C dX1_shop_86 rfl rfl ?_
      refine g_iconst C dX1_shop_87 ic_1 ?_
      refine g_aload_n C dX1_shop_88 rfl rfl ?_
      refine g_get (v := .ref (wA w (b + 3))) C fl_X1_18 fs_X1_18 (HB.n0 hb hN) (HB.ou hb _) rfl dX1_shop_89 ?_
      refine g_iconst C dX1_shop_92 ic_1 ?_
      refine g_ial (k0 := (b + 3)) (n := 6) C (HB.n hb hN (by decide)) (HB.t hb) (j := 1) (by unfold ix; decide) dX1_shop_93 ?_
      refine g_val (y := nI (a2 3)) (Hh.t hH2 (by omega)) ?_
      obtain ⟨c3, hc3⟩ : ∃ q, q = min (a2 3) (60 - a2 (10 + 1)) := ⟨_, rfl⟩
      refine g_callVI (rest := [.ref (wA w 28)]) C mv_X1_73 (ct_X1_bring l w hN σ2 b hb a2 hH2 hB2 1 (a2 3) (by omega) (by omega)) (HB.n0 hb hN) (HB.ou hb _) rfl (by decide) rfl (Nat.le_of_ble_eq_true rfl) dX1_shop_94 (fun r4 σf h4 => ?_)
      obtain ⟨er4, ec3⟩ := h4
      rw [← hc3] at er4 ec3
      subst er4
      refine g_aload_n C dX1_shop_97 rfl rfl ?_
      have hHz : Hh σf b (ua a2 (10 + 1) (a2 (10 + 1) + c3)) := by rw [ec3]; exact hH2.us (by omega)
      refine g_get (v := .ref (wA w (b + 3))) C fl_X1_18 fs_X1_18 (HB.n0 hb hN) (HB.ou hb _) rfl dX1_shop_98 ?_
      refine g_iconst C dX1_shop_101 ic_2 ?_
      refine g_ial (k0 := (b + 3)) (n := 6) C (HB.n hb hN (by decide)) (HB.t hb) (j := 2) (by unfold ix; decide) dX1_shop_102 ?_
      refine g_val (y := nI (a2 4)) (by have := Hh.t hHz (k := 2) (by omega); exact this) ?_
      refine g_iconst C dX1_shop_103 ic_2 ?_
      refine g_idivv (v := nI (a2 4 / 2)) C (by decide) (nj_div2 (by have := hBa2 4; omega)) dX1_shop_104 ?_
      refine g_callVV (rest := []) C mv_X1_76 (ct_X3_addBought l w hN σf (nI c3) (nI (a2 4 / 2))) (Nat.lt_of_lt_of_le (by decide) hN) rfl rfl (by decide) rfl (Nat.le_of_ble_eq_true rfl) dX1_shop_105 (fun σg h5 => ?_)
      obtain ⟨hH3, hB3, h63, hF3⟩ := shop_inW hb hH2 hB2 hF2 (show 1 < 5 by omega) (by have z0 : a2 (10 + 1) = a2 11 := rfl; omega) ec3 h5
      refine g_vret C r dX1_shop_108 ?_
      rw [ha2] at hH3
      exact shop_finW (by omega) hc1 hc2 (by rw [hc3, g3, g11]) hH3 (by rw [h63]; exact h62) hF3
    refine g_aload_n C dX1_shop_47 rfl rfl ?_
    refine g_get (v := .ref (wA w (b + 2))) C fl_X1_15 fs_X1_15 (HB.n0 hb hN) (HB.ou hb _) rfl dX1_shop_48 ?_
    refine g_aload_n C dX1_shop_51 rfl rfl ?_
    refine g_get (v := .int (σc b 5)) C fl_X1_36 fs_X1_36 (HB.n0 hb hN) (HB.ou hb _) rfl dX1_shop_52 ?_
    refine g_val (y := nI (a1 1)) (Hh.d hH1) ?_
    refine g_iconst C dX1_shop_55 ic_1 ?_
    refine g_iaddv (v := nI ((a1 1) + 1)) C (nj_plus (a1 1) 1) dX1_shop_56 ?_
    refine g_bipush C dX1_shop_57 bp_7 ?_
    refine g_iremv (v := nI ((a1 1 + 1) % 7)) C (by decide) (nj_rem (b := 7) (by omega) (by omega)) dX1_shop_59 ?_
    refine g_ial (k0 := (b + 2)) (n := 7) C (HB.n hb hN (by decide)) (HB.p hb) (j := (a1 1 + 1) % 7) (ix_n (by omega)) dX1_shop_60 ?_
    refine g_val (y := nI (a1 (20 + ((a1 1 + 1) % 7)))) (Hh.p hH1 (by omega)) ?_
    refine g_if_ne (tgt := 85) C dX1_shop_61 rfl (fun c61_6 => ?_) (fun c61_6 => ?_)
    · skip
      have n61_6 : ¬ (a1 (20 + ((a1 1 + 1) % 7)) = 0) := fun qq => c61_6 ((nj_eq (a := a1 (20 + ((a1 1 + 1) % 7))) (b := 0) (by have := hBa1 (20 + ((a1 1 + 1) % 7)); have := hBa1 1; omega) (by have := hBa1 (20 + ((a1 1 + 1) % 7)); have := hBa1 1; omega)).mpr qq)
      exact g_lvp [0, 1] rfl (L85 a1 0 σc (by rw [if_neg (by rw [← g20]; omega)]) (by rw [ha1]; rfl) (hH1) (hB1) (h61) (hF1))
    · skip
      have n61_6 : a1 (20 + ((a1 1 + 1) % 7)) = 0 := (nj_eq (a := a1 (20 + ((a1 1 + 1) % 7))) (b := 0) (by have := hBa1 (20 + ((a1 1 + 1) % 7)); have := hBa1 1; omega) (by have := hBa1 (20 + ((a1 1 + 1) % 7)); have := hBa1 1; omega)).mp c61_6
      refine g_aload_n C dX1_shop_64 rfl rfl ?_
      refine g_aload_n C dX1_shop_65 rfl rfl ?_
      refine g_iconst C dX1_shop_66 ic_0 ?_
      refine g_aload_n C dX1_shop_67 rfl rfl ?_
      refine g_get (v := .ref (wA w (b + 3))) C fl_X1_18 fs_X1_18 (HB.n0 hb hN) (HB.ou hb _) rfl dX1_shop_68 ?_
      refine g_iconst C dX1_shop_71 ic_0 ?_
      refine g_ial (k0 := (b + 3)) (n := 6) C (HB.n hb hN (by decide)) (HB.t hb) (j := 0) (by unfold ix; decide) dX1_shop_72 ?_
      refine g_val (y := nI (a1 2)) (Hh.t hH1 (by omega)) ?_
      obtain ⟨c2, hc2⟩ : ∃ q, q = min (a1 2) (60 - a1 (10 + 0)) := ⟨_, rfl⟩
      refine g_callVI (rest := [.ref (wA w 28)]) C mv_X1_73 (ct_X1_bring l w hN σc b hb a1 hH1 hB1 0 (a1 2) (by omega) (by omega)) (HB.n0 hb hN) (HB.ou hb _) rfl (by decide) rfl (Nat.le_of_ble_eq_true rfl) dX1_shop_73 (fun r7 σd h7 => ?_)
      obtain ⟨er7, ec2⟩ := h7
      rw [← hc2] at er7 ec2
      subst er7
      refine g_aload_n C dX1_shop_76 rfl rfl ?_
      have hHy : Hh σd b (ua a1 (10 + 0) (a1 (10 + 0) + c2)) := by rw [ec2]; exact hH1.us (by omega)
      refine g_get (v := .ref (wA w (b + 3))) C fl_X1_18 fs_X1_18 (HB.n0 hb hN) (HB.ou hb _) rfl dX1_shop_77 ?_
      refine g_iconst C dX1_shop_80 ic_2 ?_
      refine g_ial (k0 := (b + 3)) (n := 6) C (HB.n hb hN (by decide)) (HB.t hb) (j := 2) (by unfold ix; decide) dX1_shop_81 ?_
      refine g_val (y := nI (a1 4)) (by have := Hh.t hHy (k := 2) (by omega); exact this) ?_
      refine g_callVV (rest := []) C mv_X1_76 (ct_X3_addBought l w hN σd (nI c2) (nI (a1 4))) (Nat.lt_of_lt_of_le (by decide) hN) rfl rfl (by decide) rfl (Nat.le_of_ble_eq_true rfl) dX1_shop_82 (fun σe h8 => ?_)
      obtain ⟨hH1b, hB1b, h61b, hF1b⟩ := shop_inW hb hH1 hB1 hF1 (show 0 < 5 by omega) (by have z0 : a1 (10 + 0) = a1 10 := rfl; have z1 := hB1.2.2.2.2.2.2.2.2.2.1 0 (by omega); omega) ec2 h8
      obtain ⟨a1b, ha1b⟩ : ∃ q, q = ua a1 (10 + 0) (a1 (10 + 0) + c2) := ⟨_, rfl⟩
      rw [← ha1b] at hH1b hB1b
      exact g_lvp [0, 1] rfl (L85 a1b c2 σe (by rw [if_pos (by rw [← g20]; omega), hc2, show a1 (10 + 0) = a 10 + c1 by rw [ha1]; rfl, g2]) (by rw [ha1b, ha1, ua_ua]; rfl) (hH1b) (hB1b) (by rw [h61b]; exact h61) (hF1b))
  · skip
    have n12_1 : a (20 + (a 1 % 7)) = 0 := (nj_eq (a := a (20 + (a 1 % 7))) (b := 0) (by have := hBa (20 + (a 1 % 7)); have := hBa 1; omega) (by have := hBa (20 + (a 1 % 7)); have := hBa 1; omega)).mp c12_1
    refine g_vret C r dX1_shop_15 ?_
    exact shop_closedW hH hfw (by omega)
set_option maxRecDepth 100000 in
set_option maxHeartbeats 4000000 in
theorem ct_X1_passDayW (l : Launch) (w : WD) (hN : 54 ≤ wN w) (σ : SG) (b : Nat) (hb : HB b) (a : Row) (hH : Hh σ b a) (hB : Bd a) (fw : Nat) (hfw : σ b 6 = nI fw) (hf2 : fw ≤ a 2) (hd1 : a 1 ≤ 29000) : CtV l w yX1_passDay cX1_passDay 3 4 0 0 [.ref (wA w b), .ref (wA w 28)] σ (fun τ => Hh τ b (dyR (hun a) a fw) ∧ τ b 6 = nI (shF a fw) ∧ Fr (inD b) σ τ) := by
  refine CtV.mk (by decide) (Nat.le_of_ble_eq_true rfl) ?_
  intro K C hr h0
  have r := RV.of hr h0
  clear hr h0
  show G l w K 0 [(0, .ref (wA w b)), (1, .ref (wA w 28))] [] σ
  obtain ⟨hBa, hB0, hB1, hB2, hB3, hB4, hB5, hB6, hB7, hBs, hBp, hBe⟩ := id hB
  have hbl := hb.le
  refine g_aload_n C dX1_passDay_0 rfl rfl ?_
  refine g_aload_n C dX1_passDay_1 rfl rfl ?_
  refine g_callVV (rest := []) C mv_X1_59 (ct_X1_shopW l w hN σ b hb a hH hB fw hfw hf2) (HB.n0 hb hN) (HB.ou hb _) rfl (by decide) rfl (Nat.le_of_ble_eq_true rfl) dX1_passDay_2 (fun σs h1 => ?_)
  obtain ⟨hHs, h6s, hFs⟩ := h1
  obtain ⟨a1, ha1⟩ : ∃ q, q = shR a fw := ⟨_, rfl⟩
  rw [← ha1] at hHs
  have hB1 : Bd a1 := by rw [ha1]; exact shR_bd hB fw
  have hsm : SmE a a1 := by rw [ha1]; exact shR_sm a fw
  have hBa1 := hB1.1
  refine g_iconst C dX1_passDay_5 ic_0 ?_
  refine g_istore_n (lv' := [(2, .int 0), (0, .ref (wA w b)), (1, .ref (wA w 28))]) C dX1_passDay_6 rfl (by decide) rfl ?_
  have L7 : ∀ (m7 : Nat) (e : Nat) (σ1 : SG), m7 = a 0 - e → (e ≤ a 0) → (Hh σ1 b (eaS (hun a) a1 e).1) → (σ1 b 6 = nI (shF a fw)) → (Fr (inD b) σ σ1) → G l w K 7 [(0, .ref (wA w b)), (1, .ref (wA w 28)), (2, .int (nI e))] [] σ1 := by
    intro m7
    induction m7 using Nat.strongRecOn with
    | ind m7 ih7 =>
    intro e σ1 em7 he hH1 h61 hF1
    obtain ⟨a2, ha2⟩ : ∃ q, q = (eaS (hun a) a1 e).1 := ⟨_, rfl⟩
    have hs2 := eaS_sm (hun a) a1 e
    rw [← ha2] at hs2
    have hH2 : Hh σ1 b a2 := by rw [ha2]; exact hH1
    have hB2 : Bd a2 := hB1.sm hs2.1 hs2.2
    have hBa2 := hB2.1
    have g0 : a2 0 = a 0 := (hs2.1 0 (by omega)).trans (hsm 0 (by omega))
    refine g_iload_n C dX1_passDay_7 rfl rfl ?_
    refine g_aload_n C dX1_passDay_8 rfl rfl ?_
    refine g_get (v := .int (σ1 b 4)) C fl_X1_32 fs_X1_32 (HB.n0 hb hN) (HB.ou hb _) rfl dX1_passDay_9 ?_
    refine g_val (y := nI (a2 0)) (Hh.c hH2) ?_
    refine g_icmp_ge (tgt := 27) C dX1_passDay_12 rfl (fun c12_2 => ?_) (fun c12_2 => ?_)
    · skip
      have n12_2 : a2 0 ≤ e := (nj_le (a := a2 0) (b := e) (by have := hBa2 0; omega) (by have := hBa2 0; omega)).mp c12_2
      obtain rfl : e = a 0 := by omega
      have hE : eaS (hun a) a1 (a 0) = dyE (hun a) a fw := by rw [ha1]; rfl
      rw [hE] at ha2
      refine g_aload_n C dX1_passDay_27 rfl rfl ?_
      refine g_aload_n C dX1_passDay_28 rfl rfl ?_
      refine g_get (v := .ref (wA w (b + 1))) C fl_X1_9 fs_X1_9 (HB.n0 hb hN) (HB.ou hb _) rfl dX1_passDay_29 ?_
      refine g_iconst C dX1_passDay_32 ic_4 ?_
      refine g_ial (k0 := (b + 1)) (n := 5) C (HB.n hb hN (by decide)) (HB.s hb) (j := 4) (by unfold ix; decide) dX1_passDay_33 ?_
      refine g_val (y := nI (a2 14)) (Hh.s hH2 (by omega)) ?_
      refine g_aload_n C dX1_passDay_34 rfl rfl ?_
      refine g_get (v := .ref (wA w (b + 3))) C fl_X1_18 fs_X1_18 (HB.n0 hb hN) (HB.ou hb _) rfl dX1_passDay_35 ?_
      refine g_iconst C dX1_passDay_38 ic_3 ?_
      refine g_ial (k0 := (b + 3)) (n := 6) C (HB.n hb hN (by decide)) (HB.t hb) (j := 3) (by unfold ix; decide) dX1_passDay_39 ?_
      refine g_val (y := nI (a2 5)) (Hh.t hH2 (by omega)) ?_
      refine g_callVV (rest := []) C mv_X1_67 (ct_X3_addThrown l w hN σ1 (nI (a2 14)) (nI (a2 5))) (Nat.lt_of_lt_of_le (by decide) hN) rfl rfl (by decide) rfl (Nat.le_of_ble_eq_true rfl) dX1_passDay_40 (fun σt h3 => ?_)
      have hth := h3
      have hft : Fr inT σ1 σt := by rw [hth]; exact fr_tal
      refine g_iconst C dX1_passDay_43 ic_4 ?_
      refine g_istore_n (lv' := [(2, .int 4), (0, .ref (wA w b)), (1, .ref (wA w 28))]) C dX1_passDay_44 rfl (by decide) rfl ?_
      have L45 : ∀ (m45 : Nat) (q : Nat) (σ3 : SG), m45 = q → (q ≤ 4) → (Hh σ3 b (shN a2 q)) → (σ3 b 6 = nI (shF a fw)) → (Fr (inD b) σ σ3) → G l w K 45 [(0, .ref (wA w b)), (1, .ref (wA w 28)), (2, .int (nI q))] [] σ3 := by
        intro m45
        induction m45 using Nat.strongRecOn with
        | ind m45 ih45 =>
        intro q σ3 em45 hq hH3 h63 hF3
        refine g_iload_n C dX1_passDay_45 rfl rfl ?_
        refine g_if_le (tgt := 69) C dX1_passDay_46 rfl (fun c46_4 => ?_) (fun c46_4 => ?_)
        · skip
          have n46_4 : q ≤ 0 := (nj_le (a := q) (b := 0) (by omega) (by omega)).mp c46_4
          obtain rfl : q = 0 := by omega
          refine g_aload_n C dX1_passDay_69 rfl rfl ?_
          refine g_get (v := .ref (wA w (b + 1))) C fl_X1_9 fs_X1_9 (HB.n0 hb hN) (HB.ou hb _) rfl dX1_passDay_70 ?_
          refine g_iconst C dX1_passDay_73 ic_0 ?_
          refine g_iconst C dX1_passDay_74 ic_0 ?_
          refine g_ias (k0 := (b + 1)) (n := 5) C (HB.n hb hN (by decide)) (HB.s hb) (j := 0) (by unfold ix; decide) dX1_passDay_75 (fun σ5 hσ5 => ?_)
          refine g_aload_n C dX1_passDay_76 rfl rfl ?_
          refine g_dup C dX1_passDay_77 rfl ?_
          refine g_get (v := .int (σ5 b 5)) C fl_X1_36 fs_X1_36 (HB.n0 hb hN) (HB.ou hb _) rfl dX1_passDay_78 ?_
          refine g_val (y := nI (ua (shN a2 0) 10 0 1)) (by rw [hσ5, up_other (by omega)]; exact hH3.d) ?_
          refine g_iconst C dX1_passDay_81 ic_1 ?_
          refine g_iaddv (v := nI ((ua (shN a2 0) 10 0 1) + 1)) C (nj_plus (ua (shN a2 0) 10 0 1) 1) dX1_passDay_82 ?_
          refine g_putn C fp_X1_36 (HB.n0 hb hN) (HB.ou hb _) (HB.ou hb _) (Nat.le_of_ble_eq_true rfl) rfl rfl dX1_passDay_83 (fun σ6 hσ6 => ?_)
          refine g_vret C r dX1_passDay_86 ?_
          subst ha2
          refine ⟨day_row hH3 hσ5 hσ6, ?_, ?_⟩
          · rw [hσ6, up_elem (by decide), hσ5, up_other (by omega)]; exact h63
          · exact (hF3.tr (show Fr (inD b) σ3 σ5 by rw [hσ5]; exact Fr.up (Or.inl ⟨by omega, by omega⟩)) (fun _ z => z)).tr (show Fr (inD b) σ5 σ6 by rw [hσ6]; exact Fr.up (Or.inl ⟨by omega, by omega⟩)) (fun _ z => z)
        · skip
          have n46_4 : ¬ (q ≤ 0) := fun qq => c46_4 ((nj_le (a := q) (b := 0) (by omega) (by omega)).mpr qq)
          refine g_aload_n C dX1_passDay_49 rfl rfl ?_
          refine g_get (v := .ref (wA w (b + 1))) C fl_X1_9 fs_X1_9 (HB.n0 hb hN) (HB.ou hb _) rfl dX1_passDay_50 ?_
          refine g_iload_n C dX1_passDay_53 rfl rfl ?_
          refine g_aload_n C dX1_passDay_54 rfl rfl ?_
          refine g_get (v := .ref (wA w (b + 1))) C fl_X1_9 fs_X1_9 (HB.n0 hb hN) (HB.ou hb _) rfl dX1_passDay_55 ?_
          refine g_iload_n C dX1_passDay_58 rfl rfl ?_
          refine g_iconst C dX1_passDay_59 ic_1 ?_
          refine g_isubv (v := nI (q - 1)) C (nj_minus (a := q) (b := 1) (by omega)) dX1_passDay_60 ?_
          refine g_ial (k0 := (b + 1)) (n := 5) C (HB.n hb hN (by decide)) (HB.s hb) (j := q - 1) (ix_n (by omega)) dX1_passDay_61 ?_
          refine g_val (y := nI ((shN a2 q) (10 + (q - 1)))) (Hh.s hH3 (by omega)) ?_
          refine g_ias (k0 := (b + 1)) (n := 5) C (HB.n hb hN (by decide)) (HB.s hb) (j := q) (ix_n (by omega)) dX1_passDay_62 (fun σ4 hσ4 => ?_)
          refine g_iinc (v := nI (q - 1)) (lv' := [(2, .int (nI (q - 1))), (0, .ref (wA w b)), (1, .ref (wA w 28))]) C dX1_passDay_63 (by decide) rfl (nj_dec (by omega)) rfl ?_
          refine g_goto (tgt := 45) C dX1_passDay_66 rfl ?_
          exact g_lvp [1, 2, 0] rfl (ih45 ((q - 1)) (by omega) (q - 1) σ4 rfl (by first | omega | assumption | rfl | grind) (by rw [hσ4]; exact (hH3.us (by omega)).ext (fun j _ => shN_step (by omega) (by omega) j)) (by rw [hσ4, up_other (by omega)]; exact h63) (hF3.tr (show Fr (inD b) σ3 σ4 by rw [hσ4]; exact Fr.up (Or.inl ⟨by omega, by omega⟩)) (fun _ z => z)))
      exact g_lvp [1, 2, 0] rfl (L45 (4) 4 σt rfl (by first | omega | assumption | rfl | grind) (by rw [shN_4]; exact hH2.fr (fun k q1 q2 => hft k (fun z => by obtain ⟨z1, z2⟩ := z; omega))) (by rw [hft b (fun z => by obtain ⟨z1, z2⟩ := z; omega)]; exact h61) (hF1.tr hft (fun _ z => Or.inr z)))
    · skip
      have n12_2 : ¬ (a2 0 ≤ e) := fun qq => c12_2 ((nj_le (a := a2 0) (b := e) (by have := hBa2 0; omega) (by have := hBa2 0; omega)).mpr qq)
      refine g_aload_n C dX1_passDay_15 rfl rfl ?_
      refine g_iload_n C dX1_passDay_16 rfl rfl ?_
      refine g_aload_n C dX1_passDay_17 rfl rfl ?_
      refine g_callVV (rest := []) C mv_X1_63 (ct_X1_feedW l w hN σ1 b hb a2 hH2 hB2 e (by omega) (hun a e) (by show a (30 + 4 * e + 1) = _; rw [hs2.1 _ (by omega), hsm _ (by omega)]) _ rfl) (HB.n0 hb hN) (HB.ou hb _) rfl (by decide) rfl (Nat.le_of_ble_eq_true rfl) dX1_passDay_18 (fun σf h5 => ?_)
      obtain ⟨hHf, hFf⟩ := h5
      refine g_iinc (v := nI (e + 1)) (lv' := [(2, .int (nI (e + 1))), (0, .ref (wA w b)), (1, .ref (wA w 28))]) C dX1_passDay_21 (by decide) rfl (nj_inc e) rfl ?_
      refine g_goto (tgt := 7) C dX1_passDay_24 rfl ?_
      exact g_lvp [1, 2, 0] rfl (ih7 (a 0 - (e + 1)) (by omega) (e + 1) σf rfl (by first | omega | assumption | rfl | grind) (by show Hh σf b (eatS e (wan (eaS (hun a) a1 e).1 (hun a e)) (eaS (hun a) a1 e).1).1; rw [← ha2]; exact hHf) (by rw [hFf b (fun z => by rcases z with z | ⟨z1, z2⟩ <;> omega)]; exact h61) (hF1.tr hFf (fun k z => z.elim (fun z => Or.inl ⟨by omega, by omega⟩) Or.inr)))
  exact g_lvp [1, 2, 0] rfl (L7 (a 0 - 0) 0 σs rfl (by first | omega | assumption | rfl | grind) (by show Hh σs b a1; exact hHs) (h6s) (hFs.mono (fun k z => z.elim (fun z => Or.inl ⟨by omega, by omega⟩) (fun z => z.elim (fun z => Or.inl ⟨by omega, by omega⟩) Or.inr))))

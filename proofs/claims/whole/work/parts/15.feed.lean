set_option maxRecDepth 100000 in
set_option maxHeartbeats 4000000 in
theorem ct_X1_feed (l : Launch) (w : WD) (hN : 54 ≤ wN w) (σ : SG) (b : Nat) (hb : HB b) (a : Row) (hH : Hh σ b a) (hB : Bd a) (e : Nat) (he : e < 4) (hu : Nat) (hhu : hu = a (30 + 4 * e + 1)) (W : Nat) (hW : W = wan a hu) (v : Int32) (ls : List Nat) (th la bo : Nat) (hT : Tl σ v ls th la bo) (hls : ls.length ≤ 90000) : CtV l w yX1_feed cX1_feed 9 3 0 0 [.ref (wA w b), .int (nI e), .ref (wA w 28)] σ (fun τ => Hh τ b (eatS e W a).1 ∧ Tl τ (v + wsum a e (eatS e W a).2 - nI (hu - (eatS e W a).2.length) * nI (a 6)) (ls ++ (eatS e W a).2) th (la + (hu - (eatS e W a).2.length)) bo ∧ Fr (fun k => k = b + 1 ∨ inT k) σ τ) := by
  refine CtV.mk (by decide) (Nat.le_of_ble_eq_true rfl) ?_
  intro K C hr h0
  have r := RV.of hr h0
  clear hr h0
  show G l w K 0 [(0, .ref (wA w b)), (1, .int (nI e)), (2, .ref (wA w 28))] [] σ
  obtain ⟨hBa, hB0, hB1, hB2, hB3, hB4, hB5, hB6, hB7, hBs, hBp, hBe⟩ := id hB
  have hbl := hb.le
  have hu11 : hu ≤ 11 := by rw [hhu]; exact (hBe e he).2.1
  have hWh : W ≤ hu := by rw [hW]; unfold wan; split <;> omega
  refine g_aload_n C dX1_feed_0 rfl rfl ?_
  refine g_get (v := .ref (wA w (b + 4))) C fl_X1_23 fs_X1_23 (HB.n0 hb hN) (HB.ou hb _) rfl dX1_feed_1 ?_
  refine g_iload_n C dX1_feed_4 rfl rfl ?_
  refine g_aal (k0 := (b + 4)) (b := b) C (HB.n hb hN (by decide)) (HB.e hb) (j := e) (ix_n (by omega)) dX1_feed_5 ?_
  refine g_iconst C dX1_feed_6 ic_1 ?_
  refine g_ial (k0 := (b + 5 + e)) (n := 4) C (HB.nr hb hN (by omega)) (HB.r hb (by omega)) (j := 1) (by unfold ix; decide) dX1_feed_7 ?_
  refine g_val (y := nI hu) (by rw [hhu]; exact Hh.e hH (by omega) (by omega)) ?_
  refine g_istore_n (lv' := [(3, .int (nI hu)), (0, .ref (wA w b)), (1, .int (nI e)), (2, .ref (wA w 28))]) C dX1_feed_8 rfl (by decide) rfl ?_
  have L28 : ∀ (wx : Int32), (WX wx W) → G l w K 28 [(0, .ref (wA w b)), (1, .int (nI e)), (2, .ref (wA w 28)), (3, .int (nI hu)), (4, .int wx)] [] σ := by
    intro wx hwx
    have L118 : ∀ (a1 : Row) (l1 : List Nat) (k5 : Nat) (σ1 : SG), (eatS e W a = (a1, l1)) → (k5 = l1.length) → (Hh σ1 b a1) → (Tl σ1 (v + wsum a e l1) (ls ++ l1) th la bo) → (Fr (fun k => k = b + 1 ∨ inT k) σ σ1) → G l w K 118 [(0, .ref (wA w b)), (2, .ref (wA w 28)), (3, .int (nI hu)), (5, .int (nI k5))] [] σ1 := by
      intro a1 l1 k5 σ1 hX hk5 hH1 hT1 hF1
      have hlen : l1.length ≤ W := by have := eatS_len e W a; rw [hX] at this; exact this
      refine g_aload_n C dX1_feed_118 rfl rfl ?_
      refine g_iload_n C dX1_feed_119 rfl rfl ?_
      refine g_iload C dX1_feed_120 rfl ?_
      refine g_isubv (v := nI (hu - k5)) C (nj_minus (a := hu) (b := k5) (by omega)) dX1_feed_122 ?_
      refine g_aload_n C dX1_feed_123 rfl rfl ?_
      refine g_get (v := .ref (wA w (b + 3))) C fl_X1_18 fs_X1_18 (HB.n0 hb hN) (HB.ou hb _) rfl dX1_feed_124 ?_
      refine g_iconst C dX1_feed_127 ic_4 ?_
      refine g_ial (k0 := (b + 3)) (n := 6) C (HB.n hb hN (by decide)) (HB.t hb) (j := 4) (by unfold ix; decide) dX1_feed_128 ?_
      refine g_val (y := nI (a1 6)) (Hh.t hH1 (by omega)) ?_
      refine g_callVV (rest := []) C mv_X1_93 (ct_X3_addLacked l w hN σ1 (nI (hu - k5)) (nI (a1 6))) (Nat.lt_of_lt_of_le (by decide) hN) rfl rfl (by decide) rfl (Nat.le_of_ble_eq_true rfl) dX1_feed_129 (fun σ_1 h1 => ?_)
      have hL := h1
      refine g_vret C r dX1_feed_132 ?_
      exact feed_fin hb hX hk5 hH1 hT1 hF1 hL
    refine g_iconst C dX1_feed_28 ic_0 ?_
    refine g_istore (lv' := [(5, .int 0), (0, .ref (wA w b)), (1, .int (nI e)), (2, .ref (wA w 28)), (3, .int (nI hu)), (4, .int wx)]) C dX1_feed_29 (by decide) rfl ?_
    refine g_iconst C dX1_feed_31 ic_0 ?_
    refine g_istore (lv' := [(6, .int 0), (5, .int 0), (0, .ref (wA w b)), (1, .int (nI e)), (2, .ref (wA w 28)), (3, .int (nI hu)), (4, .int wx)]) C dX1_feed_32 (by decide) rfl ?_
    have L34 : ∀ (m34 : Nat) (t : Nat) (a1 : Row) (l1 : List Nat) (k5 : Nat) (σ1 : SG), m34 = 5 - t → (t ≤ 5) → (k5 = l1.length) → (l1.length ≤ W) → (eatS e W a = ((eatS e (W - l1.length) a1).1, l1 ++ (eatS e (W - l1.length) a1).2)) → (W ≤ l1.length ∨ avC a1 e 5 + t ≤ 5) → (SmE a a1) → (∀ j, a1 j ≤ a j) → (Hh σ1 b a1) → (Tl σ1 (v + wsum a e l1) (ls ++ l1) th la bo) → (Fr (fun k => k = b + 1 ∨ inT k) σ σ1) → G l w K 34 [(0, .ref (wA w b)), (1, .int (nI e)), (2, .ref (wA w 28)), (3, .int (nI hu)), (4, .int wx), (5, .int (nI k5)), (6, .int (nI t))] [] σ1 := by
      intro m34
      induction m34 using Nat.strongRecOn with
      | ind m34 ih34 =>
      intro t a1 l1 k5 σ1 em34 ht hk5 hlW hE hav hSm hle hH1 hT1 hF1
      have hB1 : Bd a1 := hB.sm hSm hle
      have hBa1 := hB1.1
      refine g_iload C dX1_feed_34 rfl ?_
      refine g_iconst C dX1_feed_36 ic_5 ?_
      refine g_icmp_ge (tgt := 118) C dX1_feed_37 rfl (fun c37_2 => ?_) (fun c37_2 => ?_)
      · skip
        have n37_2 : 5 ≤ t := (nj_le (a := 5) (b := t) (by omega) (by omega)).mp c37_2
        exact g_lvp [0, 2, 3, 5] rfl (L118 a1 l1 k5 σ1 (feed_exit hE (hav.elim Or.inl (fun q => Or.inr (nxC_av (by omega))))) (by first | omega | assumption | rfl | grind) (by first | omega | assumption | rfl | grind) (by first | omega | assumption | rfl | grind) (by first | omega | assumption | rfl | grind))
      · skip
        have n37_2 : ¬ (5 ≤ t) := fun qq => c37_2 ((nj_le (a := 5) (b := t) (by omega) (by omega)).mpr qq)
        refine g_iload C dX1_feed_40 rfl ?_
        refine g_iload C dX1_feed_42 rfl ?_
        refine g_icmp_ge (tgt := 118) C dX1_feed_44 rfl (fun c44_3 => ?_) (fun c44_3 => ?_)
        · skip
          have hX1 : W ≤ k5 := (hwx.1 k5 (by omega)).mp c44_3
          exact g_lvp [0, 2, 3, 5] rfl (L118 a1 l1 k5 σ1 (feed_exit hE (Or.inl (by omega))) (by first | omega | assumption | rfl | grind) (by first | omega | assumption | rfl | grind) (by first | omega | assumption | rfl | grind) (by first | omega | assumption | rfl | grind))
        · skip
          have hX1 : ¬ W ≤ k5 := fun q => c44_3 ((hwx.1 k5 (by omega)).mpr q)
          refine g_aload_n C dX1_feed_47 rfl rfl ?_
          refine g_iload_n C dX1_feed_48 rfl rfl ?_
          refine g_pVI (rest := []) (v := oJ (nxC a1 e) (-1)) C mv_X1_79 (ct_X1_nextAge l w hN σ1 b hb a1 hH1 hB1 e (by omega)) (HB.n0 hb hN) (HB.ou hb _) rfl (by decide) rfl (Nat.le_of_ble_eq_true rfl) dX1_feed_49 ?_
          refine g_top (fun x7 ex7 => ?_)
          refine g_istore (lv' := [(7, .int x7), (0, .ref (wA w b)), (1, .int (nI e)), (2, .ref (wA w 28)), (3, .int (nI hu)), (4, .int wx), (5, .int (nI k5)), (6, .int (nI t))]) C dX1_feed_52 (by decide) rfl ?_
          refine g_iload C dX1_feed_54 rfl ?_
          refine g_if_ge (tgt := 62) C dX1_feed_56 rfl (fun c56_4 => ?_) (fun c56_4 => ?_)
          · skip
            obtain ⟨g, hg, rfl⟩ := oJ_pos ex7 (Int32.not_lt.mpr c56_4)
            obtain ⟨hg5, hgr, hge⟩ := nxC_spec hg
            have hr0 := (reachC_inR a1 g).mp hgr
            have hr1 := inR_le a1 g
            have hr2 := hBa1 (10 + g)
            refine g_iload C dX1_feed_62 rfl ?_
            refine g_iload C dX1_feed_64 rfl ?_
            refine g_isubv (v := nI (W - k5)) C (hwx.2 k5 (by omega)) dX1_feed_66 ?_
            refine g_aload_n C dX1_feed_67 rfl rfl ?_
            refine g_iload C dX1_feed_68 rfl ?_
            refine g_pVI (rest := [.int (nI (W - k5))]) (v := inRj a1 g) C mv_X1_83 (ct_X1_inReach l w hN σ1 b hb a1 hH1 hB1 g (by omega)) (HB.n0 hb hN) (HB.ou hb _) rfl (by decide) rfl (Nat.le_of_ble_eq_true rfl) dX1_feed_70 ?_
            refine g_val (y := nI (inR a1 g)) (inR_Rj (hBa1 (10 + g)) hgr) ?_
            refine g_min C ml_X1_53 st_Lib_Math_min ini_Math co_Lib_Math_min (by decide) (Nat.le_of_ble_eq_true rfl) dX1_feed_73 ?_
            refine g_val (y := nI (min (W - k5) (inR a1 g))) (nj_min (by omega) (by omega)) ?_
            refine g_nat (fun m hm => ?_)
            refine g_istore (lv' := [(8, .int (nI m)), (7, .int (nI g)), (0, .ref (wA w b)), (1, .int (nI e)), (2, .ref (wA w 28)), (3, .int (nI hu)), (4, .int wx), (5, .int (nI k5)), (6, .int (nI t))]) C dX1_feed_76 (by decide) rfl ?_
            refine g_aload_n C dX1_feed_78 rfl rfl ?_
            refine g_get (v := .ref (wA w (b + 1))) C fl_X1_9 fs_X1_9 (HB.n0 hb hN) (HB.ou hb _) rfl dX1_feed_79 ?_
            refine g_iload C dX1_feed_82 rfl ?_
            refine g_dup2 C dX1_feed_84 rfl rfl ?_
            refine g_ial (k0 := (b + 1)) (n := 5) C (HB.n hb hN (by decide)) (HB.s hb) (j := g) (ix_n (by omega)) dX1_feed_85 ?_
            refine g_val (y := nI (a1 (10 + g))) (Hh.s hH1 (by omega)) ?_
            refine g_iload C dX1_feed_86 rfl ?_
            refine g_isubv (v := nI ((a1 (10 + g)) - m)) C (nj_minus (a := a1 (10 + g)) (b := m) (by omega)) dX1_feed_88 ?_
            refine g_ias (k0 := (b + 1)) (n := 5) C (HB.n hb hN (by decide)) (HB.s hb) (j := g) (ix_n (by omega)) dX1_feed_89 (fun σ2 hσ2 => ?_)
            obtain ⟨a2, ha2⟩ : ∃ q, q = ua a1 (10 + g) (a1 (10 + g) - m) := ⟨_, rfl⟩
            have hS2 : SmE a1 a2 := by rw [ha2]; exact SmE.ua hg5
            have hle2 : ∀ j, a2 j ≤ a1 j := fun j => by rw [ha2]; simp only [ua_at]; by_cases z : j = 10 + g <;> simp [z]
            have hH2 : Hh σ2 b a2 := by rw [hσ2, ha2]; exact hH1.us hg5
            have hB2 : Bd a2 := hB1.sm hS2 hle2
            have hT2 : Tl σ2 (v + wsum a e l1) (ls ++ l1) th la bo := hT1.fr (by rw [hσ2, up_other (by omega)]) (by rw [hσ2, up_other (by omega)]) (by rw [hσ2, up_other (by omega)])
            refine g_iload C dX1_feed_90 rfl ?_
            refine g_iload C dX1_feed_92 rfl ?_
            refine g_iaddv (v := nI (k5 + m)) C (nj_plus k5 m) dX1_feed_94 ?_
            refine g_istore (lv' := [(5, .int (nI (k5 + m))), (8, .int (nI m)), (7, .int (nI g)), (0, .ref (wA w b)), (1, .int (nI e)), (2, .ref (wA w 28)), (3, .int (nI hu)), (4, .int wx), (6, .int (nI t))]) C dX1_feed_95 (by decide) rfl ?_
            refine g_aload_n C dX1_feed_97 rfl rfl ?_
            refine g_iload C dX1_feed_98 rfl ?_
            refine g_iload C dX1_feed_100 rfl ?_
            refine g_aload_n C dX1_feed_102 rfl rfl ?_
            refine g_iload_n C dX1_feed_103 rfl rfl ?_
            refine g_iload C dX1_feed_104 rfl ?_
            refine g_pVI (rest := [.int (nI m), .int (nI g), .ref (wA w 28)]) (v := wJ a2 e g) C mv_X1_86 (ct_X1_worthTo l w hN σ2 b hb a2 hH2 hB2 e g (by omega) (by omega)) (HB.n0 hb hN) (HB.ou hb _) rfl (by decide) rfl (Nat.le_of_ble_eq_true rfl) dX1_feed_106 ?_
            refine g_val (y := nI (wNt a e g)) (by rw [wJ, if_pos ((sm_eats hS2 e g).mpr hge), sm_wNt (hSm.tr hS2)]) ?_
            refine g_callVV (rest := []) C mv_X1_89 (ct_X3_addEaten l w hN σ2 _ _ _ _ _ hT2 g m (nI (wNt a e g)) (by omega) (by rw [List.length_append]; omega) hg5) (Nat.lt_of_lt_of_le (by decide) hN) rfl rfl (by decide) rfl (Nat.le_of_ble_eq_true rfl) dX1_feed_109 (fun σ_5 h5 => ?_)
            obtain ⟨hT3, hF3⟩ := h5
            refine g_iinc (v := nI (t + 1)) (lv' := [(6, .int (nI (t + 1))), (5, .int (nI (k5 + m))), (8, .int (nI m)), (7, .int (nI g)), (0, .ref (wA w b)), (1, .int (nI e)), (2, .ref (wA w 28)), (3, .int (nI hu)), (4, .int wx)]) C dX1_feed_112 (by decide) rfl (nj_inc t) rfl ?_
            refine g_goto (tgt := 34) C dX1_feed_115 rfl ?_
            exact g_lvp [4, 5, 6, 7, 8, 1, 0] rfl (ih34 (5 - (t + 1)) (by omega) (t + 1) a2 (l1 ++ List.replicate m g) (k5 + m) σ_5 rfl (by first | omega | assumption | rfl | grind) (by rw [List.length_append, List.length_replicate]; omega) (by rw [List.length_append, List.length_replicate]; omega) (by rw [ha2]; exact feed_step hE hg (by rw [hm, hk5])) (by rw [ha2]; exact feed_av hg (by rw [hm, hk5]) (by omega) hav) (hSm.tr hS2) (fun j => Nat.le_trans (hle2 j) (hle j)) (hH2.fr (fun k q1 q2 => hF3 k (fun z => by obtain ⟨z1, z2⟩ := z; omega))) (by rw [wsum_app, wsum_rep, ← Int32.add_assoc, ← List.append_assoc]; exact hT3) ((hF1.tr (show Fr (fun k => k = b + 1 ∨ inT k) σ1 σ2 by rw [hσ2]; exact Fr.up (Or.inl rfl)) (fun _ z => z)).tr hF3 (fun _ z => Or.inr z)))
          · skip
            have hX0 : nxC a1 e = none := oJ_neg ex7 (Int32.not_le.mp c56_4) (fun g1 h1 => (nxC_spec h1).1)
            refine g_goto (tgt := 118) C dX1_feed_59 rfl ?_
            exact g_lvp [1, 3, 4, 6] rfl (L118 a1 l1 k5 σ1 (feed_exit hE (Or.inr hX0)) (by first | omega | assumption | rfl | grind) (by first | omega | assumption | rfl | grind) (by first | omega | assumption | rfl | grind) (by first | omega | assumption | rfl | grind))
    exact g_lvp [2, 3, 4, 5, 6, 1, 0] rfl (L34 (5 - 0) 0 a ([]) 0 σ rfl (by first | omega | assumption | rfl | grind) (rfl) (Nat.zero_le _) (rfl) (Or.inr (by have := avC_le a e 5; omega)) (SmE.rf) (fun _ => Nat.le_refl _) (hH) (by rw [List.append_nil]; show Tl σ (v + 0) ls th la bo; rw [Int32.add_zero]; exact hT) (Fr.rf))
  refine g_aload_n C dX1_feed_9 rfl rfl ?_
  refine g_get (v := .ref (wA w (b + 3))) C fl_X1_18 fs_X1_18 (HB.n0 hb hN) (HB.ou hb _) rfl dX1_feed_10 ?_
  refine g_iconst C dX1_feed_13 ic_5 ?_
  refine g_ial (k0 := (b + 3)) (n := 6) C (HB.n hb hN (by decide)) (HB.t hb) (j := 5) (by unfold ix; decide) dX1_feed_14 ?_
  refine g_val (y := nI (a 7)) (Hh.t hH (by omega)) ?_
  refine g_iconst C dX1_feed_15 ic_5 ?_
  refine g_icmp_ne (tgt := 25) C dX1_feed_16 rfl (fun c16_6 => ?_) (fun c16_6 => ?_)
  · skip
    have n16_6 : ¬ (a 7 = 5) := fun qq => c16_6 ((nj_eq (a := a 7) (b := 5) (by have := hBa 7; omega) (by have := hBa 7; omega)).mpr qq)
    refine g_iload_n C dX1_feed_25 rfl rfl ?_
    refine g_istore (lv' := [(4, .int (nI hu)), (3, .int (nI hu)), (0, .ref (wA w b)), (1, .int (nI e)), (2, .ref (wA w 28))]) C dX1_feed_26 (by decide) rfl ?_
    exact g_lvp [2, 3, 4, 1, 0] rfl (L28 (nI hu) (by rw [hW]; unfold wan; first | (rw [if_pos (by omega)]; exact WX_m (by omega)) | (rw [if_neg (by omega)]; exact WX_n (by omega))))
  · skip
    have n16_6 : a 7 = 5 := (nj_eq (a := a 7) (b := 5) (by have := hBa 7; omega) (by have := hBa 7; omega)).mp c16_6
    refine g_iload_n C dX1_feed_19 rfl rfl ?_
    refine g_iconst C dX1_feed_20 ic_1 ?_
    refine g_isubv (v := (nI hu) - 1) C rfl dX1_feed_21 ?_
    refine g_goto (tgt := 26) C dX1_feed_22 rfl ?_
    refine g_istore (lv' := [(4, .int ((nI hu) - 1)), (3, .int (nI hu)), (0, .ref (wA w b)), (1, .int (nI e)), (2, .ref (wA w 28))]) C dX1_feed_26 (by decide) rfl ?_
    exact g_lvp [2, 3, 4, 1, 0] rfl (L28 ((nI hu) - 1) (by rw [hW]; unfold wan; first | (rw [if_pos (by omega)]; exact WX_m (by omega)) | (rw [if_neg (by omega)]; exact WX_n (by omega))))

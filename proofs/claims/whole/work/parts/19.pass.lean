set_option maxRecDepth 100000 in
set_option maxHeartbeats 4000000 in
theorem ct_X1_passDay (l : Launch) (w : WD) (hN : 54 ≤ wN w) (σ : SG) (b : Nat) (hb : HB b) (a : Row) (hH : Hh σ b a) (hB : Bd a) (fw : Nat) (hfw : σ b 6 = nI fw) (hf2 : fw ≤ a 2) (v : Int32) (ls : List Nat) (th la bo : Nat) (hT : Tl σ v ls th la bo) (hls : ls.length ≤ 80000) (hd1 : a 1 ≤ 29000) : CtV l w yX1_passDay cX1_passDay 3 4 0 0 [.ref (wA w b), .ref (wA w 28)] σ (fun τ => Hh τ b (dyR (hun a) a fw) ∧ τ b 6 = nI (shF a fw) ∧ Tl τ (v + dyV (hun a) a fw) (ls ++ dyL (hun a) a fw) (th + dyT (hun a) a fw) (la + dyK (hun a) a fw) (bo + shB a fw) ∧ Fr (inD b) σ τ) := by
  refine CtV.mk (by decide) (Nat.le_of_ble_eq_true rfl) ?_
  intro K C hr h0
  have r := RV.of hr h0
  clear hr h0
  show G l w K 0 [(0, .ref (wA w b)), (1, .ref (wA w 28))] [] σ
  obtain ⟨hBa, hB0, hB1, hB2, hB3, hB4, hB5, hB6, hB7, hBs, hBp, hBe⟩ := id hB
  have hbl := hb.le
  refine g_aload_n C dX1_passDay_0 rfl rfl ?_
  refine g_aload_n C dX1_passDay_1 rfl rfl ?_
  refine g_callVV (rest := []) C mv_X1_59 (ct_X1_shop l w hN σ b hb a hH hB fw hfw hf2 v ls th la bo hT) (HB.n0 hb hN) (HB.ou hb _) rfl (by decide) rfl (Nat.le_of_ble_eq_true rfl) dX1_passDay_2 (fun σs h1 => ?_)
  obtain ⟨hHs, h6s, hTs, hFs⟩ := h1
  obtain ⟨a1, ha1⟩ : ∃ q, q = shR a fw := ⟨_, rfl⟩
  rw [← ha1] at hHs
  have hB1 : Bd a1 := by rw [ha1]; exact shR_bd hB fw
  have hsm : SmE a a1 := by rw [ha1]; exact shR_sm a fw
  have hBa1 := hB1.1
  refine g_iconst C dX1_passDay_5 ic_0 ?_
  refine g_istore_n (lv' := [(2, .int 0), (0, .ref (wA w b)), (1, .ref (wA w 28))]) C dX1_passDay_6 rfl (by decide) rfl ?_
  have L7 : ∀ (m7 : Nat) (e : Nat) (σ1 : SG), m7 = a 0 - e → (e ≤ a 0) → (Hh σ1 b (eaS (hun a) a1 e).1) → (σ1 b 6 = nI (shF a fw)) → (Tl σ1 (v - shV a fw + (eaS (hun a) a1 e).2.2.2) (ls ++ (eaS (hun a) a1 e).2.1) th (la + (eaS (hun a) a1 e).2.2.1) (bo + shB a fw)) → (Fr (inD b) σ σ1) → G l w K 7 [(0, .ref (wA w b)), (1, .ref (wA w 28)), (2, .int (nI e))] [] σ1 := by
    intro m7
    induction m7 using Nat.strongRecOn with
    | ind m7 ih7 =>
    intro e σ1 em7 he hH1 h61 hT1 hF1
    obtain ⟨a2, ha2⟩ : ∃ q, q = (eaS (hun a) a1 e).1 := ⟨_, rfl⟩
    have hs2 := eaS_sm (hun a) a1 e
    rw [← ha2] at hs2
    have hH2 : Hh σ1 b a2 := by rw [ha2]; exact hH1
    have hB2 : Bd a2 := hB1.sm hs2.1 hs2.2
    have hBa2 := hB2.1
    have g0 : a2 0 = a 0 := (hs2.1 0 (by omega)).trans (hsm 0 (by omega))
    refine g_iload_n C dX1_passDay_7 rfl rfl ?_
    refine g_aload_n C dX1_passDay_8 rfl rfl ?_
    refine g_get (v := .int (σ1 b 4)) C fl_X1_32 fs_X1_32 (HB.n0 hb hN) (HB.ou hb _) rfl dX1_passDay_9 ?_
    refine g_val (y := nI (a2 0)) (Hh.c hH2) ?_
    refine g_icmp_ge (tgt := 27) C dX1_passDay_12 rfl (fun c12_2 => ?_) (fun c12_2 => ?_)
    · skip
      have n12_2 : a2 0 ≤ e := (nj_le (a := a2 0) (b := e) (by have := hBa2 0; omega) (by have := hBa2 0; omega)).mp c12_2
      obtain rfl : e = a 0 := by omega
      have hE : eaS (hun a) a1 (a 0) = dyE (hun a) a fw := by rw [ha1]; rfl
      rw [hE] at ha2 hT1
      refine g_aload_n C dX1_passDay_27 rfl rfl ?_
      refine g_aload_n C dX1_passDay_28 rfl rfl ?_
      refine g_get (v := .ref (wA w (b + 1))) C fl_X1_9 fs_X1_9 (HB.n0 hb hN) (HB.ou hb _) rfl dX1_passDay_29 ?_
      refine g_iconst C dX1_passDay_32 ic_4 ?_
      refine g_ial (k0 := (b + 1)) (n := 5) C (HB.n hb hN (by decide)) (HB.s hb) (j := 4) (by unfold ix; decide) dX1_passDay_33 ?_
      refine g_val (y := nI (a2 14)) (Hh.s hH2 (by omega)) ?_
      refine g_aload_n C dX1_passDay_34 rfl rfl ?_
      refine g_get (v := .ref (wA w (b + 3))) C fl_X1_18 fs_X1_18 (HB.n0 hb hN) (HB.ou hb _) rfl dX1_passDay_35 ?_
      refine g_iconst C dX1_passDay_38 ic_3 ?_
      refine g_ial (k0 := (b + 3)) (n := 6) C (HB.n hb hN (by decide)) (HB.t hb) (j := 3) (by unfold ix; decide) dX1_passDay_39 ?_
      refine g_val (y := nI (a2 5)) (Hh.t hH2 (by omega)) ?_
      refine g_callVV (rest := []) C mv_X1_67 (ct_X3_addThrown l w hN σ1 (nI (a2 14)) (nI (a2 5))) (Nat.lt_of_lt_of_le (by decide) hN) rfl rfl (by decide) rfl (Nat.le_of_ble_eq_true rfl) dX1_passDay_40 (fun σt h3 => ?_)
      have hth := h3
      have hft : Fr inT σ1 σt := by rw [hth]; exact fr_tal
      refine g_iconst C dX1_passDay_43 ic_4 ?_
      refine g_istore_n (lv' := [(2, .int 4), (0, .ref (wA w b)), (1, .ref (wA w 28))]) C dX1_passDay_44 rfl (by decide) rfl ?_
      have L45 : ∀ (m45 : Nat) (q : Nat) (σ3 : SG), m45 = q → (q ≤ 4) → (Hh σ3 b (shN a2 q)) → (σ3 b 6 = nI (shF a fw)) → (Tl σ3 (v - shV a fw + (dyE (hun a) a fw).2.2.2 - nI (a2 14) * nI (a2 5)) (ls ++ (dyE (hun a) a fw).2.1) (th + a2 14) (la + (dyE (hun a) a fw).2.2.1) (bo + shB a fw)) → (Fr (inD b) σ σ3) → G l w K 45 [(0, .ref (wA w b)), (1, .ref (wA w 28)), (2, .int (nI q))] [] σ3 := by
        intro m45
        induction m45 using Nat.strongRecOn with
        | ind m45 ih45 =>
        intro q σ3 em45 hq hH3 h63 hT3 hF3
        refine g_iload_n C dX1_passDay_45 rfl rfl ?_
        refine g_if_le (tgt := 69) C dX1_passDay_46 rfl (fun c46_4 => ?_) (fun c46_4 => ?_)
        · skip
          have n46_4 : q ≤ 0 := (nj_le (a := q) (b := 0) (by omega) (by omega)).mp c46_4
          obtain rfl : q = 0 := by omega
          refine g_aload_n C dX1_passDay_69 rfl rfl ?_
          refine g_get (v := .ref (wA w (b + 1))) C fl_X1_9 fs_X1_9 (HB.n0 hb hN) (HB.ou hb _) rfl dX1_passDay_70 ?_
          refine g_iconst C dX1_passDay_73 ic_0 ?_
          refine g_iconst C dX1_passDay_74 ic_0 ?_
          refine g_ias (k0 := (b + 1)) (n := 5) C (HB.n hb hN (by decide)) (HB.s hb) (j := 0) (by unfold ix; decide) dX1_passDay_75 (fun σ5 hσ5 => ?_)
          refine g_aload_n C dX1_passDay_76 rfl rfl ?_
          refine g_dup C dX1_passDay_77 rfl ?_
          refine g_get (v := .int (σ5 b 5)) C fl_X1_36 fs_X1_36 (HB.n0 hb hN) (HB.ou hb _) rfl dX1_passDay_78 ?_
          refine g_val (y := nI (ua (shN a2 0) 10 0 1)) (by rw [hσ5, up_other (by omega)]; exact hH3.d) ?_
          refine g_iconst C dX1_passDay_81 ic_1 ?_
          refine g_iaddv (v := nI ((ua (shN a2 0) 10 0 1) + 1)) C (nj_plus (ua (shN a2 0) 10 0 1) 1) dX1_passDay_82 ?_
          refine g_putn C fp_X1_36 (HB.n0 hb hN) (HB.ou hb _) (HB.ou hb _) (Nat.le_of_ble_eq_true rfl) rfl rfl dX1_passDay_83 (fun σ6 hσ6 => ?_)
          refine g_vret C r dX1_passDay_86 ?_
          subst ha2
          refine ⟨day_row hH3 hσ5 hσ6, ?_, ?_, ?_⟩
          · rw [hσ6, up_elem (by decide), hσ5, up_other (by omega)]; exact h63
          · refine day_fin (b := b) (hT3.fr ?_ ?_ ?_) <;> rw [hσ6, up_other (by omega), hσ5, up_other (by omega)]
          · exact (hF3.tr (show Fr (inD b) σ3 σ5 by rw [hσ5]; exact Fr.up (Or.inl ⟨by omega, by omega⟩)) (fun _ z => z)).tr (show Fr (inD b) σ5 σ6 by rw [hσ6]; exact Fr.up (Or.inl ⟨by omega, by omega⟩)) (fun _ z => z)
        · skip
          have n46_4 : ¬ (q ≤ 0) := fun qq => c46_4 ((nj_le (a := q) (b := 0) (by omega) (by omega)).mpr qq)
          refine g_aload_n C dX1_passDay_49 rfl rfl ?_
          refine g_get (v := .ref (wA w (b + 1))) C fl_X1_9 fs_X1_9 (HB.n0 hb hN) (HB.ou hb _) rfl dX1_passDay_50 ?_
          refine g_iload_n C dX1_passDay_53 rfl rfl ?_
          refine g_aload_n C dX1_passDay_54 rfl rfl ?_
          refine g_get (v := .ref (wA w (b + 1))) C fl_X1_9 fs_X1_9 (HB.n0 hb hN) (HB.ou hb _) rfl dX1_passDay_55 ?_
          refine g_iload_n C dX1_passDay_58 rfl rfl ?_
          refine g_iconst C dX1_passDay_59 ic_1 ?_
          refine g_isubv (v := nI (q - 1)) C (nj_minus (a := q) (b := 1) (by omega)) dX1_passDay_60 ?_
          refine g_ial (k0 := (b + 1)) (n := 5) C (HB.n hb hN (by decide)) (HB.s hb) (j := q - 1) (ix_n (by omega)) dX1_passDay_61 ?_
          refine g_val (y := nI ((shN a2 q) (10 + (q - 1)))) (Hh.s hH3 (by omega)) ?_
          refine g_ias (k0 := (b + 1)) (n := 5) C (HB.n hb hN (by decide)) (HB.s hb) (j := q) (ix_n (by omega)) dX1_passDay_62 (fun σ4 hσ4 => ?_)
          refine g_iinc (v := nI (q - 1)) (lv' := [(2, .int (nI (q - 1))), (0, .ref (wA w b)), (1, .ref (wA w 28))]) C dX1_passDay_63 (by decide) rfl (nj_dec (by omega)) rfl ?_
          refine g_goto (tgt := 45) C dX1_passDay_66 rfl ?_
          exact g_lvp [1, 2, 0] rfl (ih45 ((q - 1)) (by omega) (q - 1) σ4 rfl (by first | omega | assumption | rfl | grind) (by rw [hσ4]; exact (hH3.us (by omega)).ext (fun j _ => shN_step (by omega) (by omega) j)) (by rw [hσ4, up_other (by omega)]; exact h63) (hT3.fr (by rw [hσ4, up_other (by omega)]) (by rw [hσ4, up_other (by omega)]) (by rw [hσ4, up_other (by omega)])) (hF3.tr (show Fr (inD b) σ3 σ4 by rw [hσ4]; exact Fr.up (Or.inl ⟨by omega, by omega⟩)) (fun _ z => z)))
      exact g_lvp [1, 2, 0] rfl (L45 (4) 4 σt rfl (by first | omega | assumption | rfl | grind) (by rw [shN_4]; exact hH2.fr (fun k q1 q2 => hft k (fun z => by obtain ⟨z1, z2⟩ := z; omega))) (by rw [hft b (fun z => by obtain ⟨z1, z2⟩ := z; omega)]; exact h61) (by rw [hth]; have z := hT1.thrown (a2 14) (nI (a2 5)); exact z) (hF1.tr hft (fun _ z => Or.inr z)))
    · skip
      have n12_2 : ¬ (a2 0 ≤ e) := fun qq => c12_2 ((nj_le (a := a2 0) (b := e) (by have := hBa2 0; omega) (by have := hBa2 0; omega)).mpr qq)
      refine g_aload_n C dX1_passDay_15 rfl rfl ?_
      refine g_iload_n C dX1_passDay_16 rfl rfl ?_
      refine g_aload_n C dX1_passDay_17 rfl rfl ?_
      refine g_callVV (rest := []) C mv_X1_63 (ct_X1_feed l w hN σ1 b hb a2 hH2 hB2 e (by omega) (hun a e) (by show a (30 + 4 * e + 1) = _; rw [hs2.1 _ (by omega), hsm _ (by omega)]) _ rfl _ _ _ _ _ hT1 (by rw [List.length_append]; have := eaS_len4 hBe hB0 a1 e he; omega)) (HB.n0 hb hN) (HB.ou hb _) rfl (by decide) rfl (Nat.le_of_ble_eq_true rfl) dX1_passDay_18 (fun σf h5 => ?_)
      obtain ⟨hHf, hTf, hFf⟩ := h5
      refine g_iinc (v := nI (e + 1)) (lv' := [(2, .int (nI (e + 1))), (0, .ref (wA w b)), (1, .ref (wA w 28))]) C dX1_passDay_21 (by decide) rfl (nj_inc e) rfl ?_
      refine g_goto (tgt := 7) C dX1_passDay_24 rfl ?_
      exact g_lvp [1, 2, 0] rfl (ih7 (a 0 - (e + 1)) (by omega) (e + 1) σf rfl (by first | omega | assumption | rfl | grind) (by show Hh σf b (eatS e (wan (eaS (hun a) a1 e).1 (hun a e)) (eaS (hun a) a1 e).1).1; rw [← ha2]; exact hHf) (by rw [hFf b (fun z => by rcases z with z | ⟨z1, z2⟩ <;> omega)]; exact h61) (day_step (σ := σ) (b := b) (a := a) (by rw [← ha2]; exact hTf)) (hF1.tr hFf (fun k z => z.elim (fun z => Or.inl ⟨by omega, by omega⟩) Or.inr)))
  exact g_lvp [1, 2, 0] rfl (L7 (a 0 - 0) 0 σs rfl (by first | omega | assumption | rfl | grind) (by show Hh σs b a1; exact hHs) (h6s) (by show Tl σs (v - shV a fw + 0) (ls ++ []) th (la + 0) (bo + shB a fw); rw [List.append_nil, Int32.add_zero]; exact hTs) (hFs.mono (fun k z => z.elim (fun z => Or.inl ⟨by omega, by omega⟩) (fun z => z.elim (fun z => Or.inl ⟨by omega, by omega⟩) Or.inr))))

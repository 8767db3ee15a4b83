set_option maxRecDepth 100000 in
set_option maxHeartbeats 4000000 in
theorem ct_X1_shop (l : Launch) (w : WD) (hN : 54 ≤ wN w) (σ : SG) (b : Nat) (hb : HB b) (a : Row) (hH : Hh σ b a) (hB : Bd a) (fw : Nat) (hfw : σ b 6 = nI fw) (hf2 : fw ≤ a 2) (v : Int32) (ls : List Nat) (th la bo : Nat) (hT : Tl σ v ls th la bo) : CtV l w yX1_shop cX1_shop 2 3 0 0 [.ref (wA w b), .ref (wA w 28)] σ (fun τ => Hh τ b (shR a fw) ∧ τ b 6 = nI (shF a fw) ∧ Tl τ (v - shV a fw) ls th la (bo + shB a fw) ∧ Fr (inS b) σ τ) := by
  refine CtV.mk (by decide) (Nat.le_of_ble_eq_true rfl) ?_
  intro K C hr h0
  have r := RV.of hr h0
  clear hr h0
  show G l w K 0 [(0, .ref (wA w b)), (1, .ref (wA w 28))] [] σ
  obtain ⟨hBa, hB0, hB1, hB2, hB3, hB4, hB5, hB6, hB7, hBs, hBp, hBe⟩ := id hB
  have hbl := hb.le
  have h10 : a 10 ≤ 60 := hBs 0 (by omega)
  have h11 : a 11 ≤ 60 := hBs 1 (by omega)
  refine g_aload_n C dX1_shop_0 rfl rfl ?_
  refine g_get (v := .ref (wA w (b + 2))) C fl_X1_15 fs_X1_15 (HB.n0 hb hN) (HB.ou hb _) rfl dX1_shop_1 ?_
  refine g_aload_n C dX1_shop_4 rfl rfl ?_
  refine g_get (v := .int (σ b 5)) C fl_X1_36 fs_X1_36 (HB.n0 hb hN) (HB.ou hb _) rfl dX1_shop_5 ?_
  refine g_val (y := nI (a 1)) (Hh.d hH) ?_
  refine g_bipush C dX1_shop_8 bp_7 ?_
  refine g_iremv (v := nI (a 1 % 7)) C (by decide) (nj_rem (b := 7) (by omega) (by omega)) dX1_shop_10 ?_
  refine g_ial (k0 := (b + 2)) (n := 7) C (HB.n hb hN (by decide)) (HB.p hb) (j := a 1 % 7) (ix_n (by omega)) dX1_shop_11 ?_
  refine g_val (y := nI (a (20 + (a 1 % 7)))) (Hh.p hH (by omega)) ?_
  refine g_if_ne (tgt := 16) C dX1_shop_12 rfl (fun c12_1 => ?_) (fun c12_1 => ?_)
  · skip
    have n12_1 : ¬ (a (20 + (a 1 % 7)) = 0) := fun qq => c12_1 ((nj_eq (a := a (20 + (a 1 % 7))) (b := 0) (by have := hBa (20 + (a 1 % 7)); have := hBa 1; omega) (by have := hBa (20 + (a 1 % 7)); have := hBa 1; omega)).mpr qq)
    refine g_aload_n C dX1_shop_16 rfl rfl ?_
    refine g_aload_n C dX1_shop_17 rfl rfl ?_
    refine g_iconst C dX1_shop_18 ic_0 ?_
    refine g_aload_n C dX1_shop_19 rfl rfl ?_
    refine g_get (v := .ref (wA w (b + 3))) C fl_X1_18 fs_X1_18 (HB.n0 hb hN) (HB.ou hb _) rfl dX1_shop_20 ?_
    refine g_iconst C dX1_shop_23 ic_0 ?_
    refine g_ial (k0 := (b + 3)) (n := 6) C (HB.n hb hN (by decide)) (HB.t hb) (j := 0) (by unfold ix; decide) dX1_shop_24 ?_
    refine g_val (y := nI (a 2)) (Hh.t hH (by omega)) ?_
    refine g_aload_n C dX1_shop_25 rfl rfl ?_
    refine g_get (v := .int (σ b 6)) C fl_X1_39 fs_X1_39 (HB.n0 hb hN) (HB.ou hb _) rfl dX1_shop_26 ?_
    refine g_val (y := nI fw) hfw ?_
    refine g_isubv (v := nI ((a 2) - fw)) C (nj_minus (a := a 2) (b := fw) (by omega)) dX1_shop_29 ?_
    obtain ⟨c1, hc1⟩ : ∃ q, q = min ((a 2) - fw) (60 - a (10 + 0)) := ⟨_, rfl⟩
    refine g_callVI (rest := [.ref (wA w 28)]) C mv_X1_73 (ct_X1_bring l w hN σ b hb a hH hB 0 ((a 2) - fw) (by omega) (by omega)) (HB.n0 hb hN) (HB.ou hb _) rfl (by decide) rfl (Nat.le_of_ble_eq_true rfl) dX1_shop_30 (fun r2 σa h2 => ?_)
    obtain ⟨er2, ec1⟩ := h2
    rw [← hc1] at er2 ec1
    subst er2
    refine g_aload_n C dX1_shop_33 rfl rfl ?_
    have hHx : Hh σa b (ua a (10 + 0) (a (10 + 0) + c1)) := by rw [ec1]; exact hH.us (by omega)
    refine g_get (v := .ref (wA w (b + 3))) C fl_X1_18 fs_X1_18 (HB.n0 hb hN) (HB.ou hb _) rfl dX1_shop_34 ?_
    refine g_iconst C dX1_shop_37 ic_2 ?_
    refine g_ial (k0 := (b + 3)) (n := 6) C (HB.n hb hN (by decide)) (HB.t hb) (j := 2) (by unfold ix; decide) dX1_shop_38 ?_
    refine g_val (y := nI (a 4)) (by have := Hh.t hHx (k := 2) (by omega); exact this) ?_
    refine g_callVV (rest := []) C mv_X1_76 (ct_X3_addBought l w hN σa (nI c1) (nI (a 4))) (Nat.lt_of_lt_of_le (by decide) hN) rfl rfl (by decide) rfl (Nat.le_of_ble_eq_true rfl) dX1_shop_39 (fun σb h3 => ?_)
    have g4a : a 4 = a 4 := rfl
    obtain ⟨hH0, hB1, h60, hT1, hF1⟩ := shop_in hb hH hB hT Fr.rf (show 0 < 5 by omega) (by have z0 : a (10 + 0) = a 10 := rfl; omega) ec1 h3
    obtain ⟨a1, ha1⟩ : ∃ q, q = ua a (10 + 0) (a (10 + 0) + c1) := ⟨_, rfl⟩
    rw [← ha1] at hH0 hB1
    have hBa1 := hB1.1
    refine g_aload_n C dX1_shop_42 rfl rfl ?_
    refine g_iconst C dX1_shop_43 ic_0 ?_
    refine g_putn C fp_X1_39 (HB.n0 hb hN) (HB.ou hb _) (HB.ou hb _) (Nat.le_of_ble_eq_true rfl) rfl rfl dX1_shop_44 (fun σc hσc => ?_)
    have hH1 : Hh σc b a1 := by rw [hσc]; exact hH0.uf
    have h61 : σc b 6 = 0 := by rw [hσc, up_same]
    have hT1 : Tl σc (v - nI c1 * nI (a 4)) ls th la (bo + c1) := hT1.fr (by rw [hσc, up_other (by omega)]) (by rw [hσc, up_other (by omega)]) (by rw [hσc, up_other (by omega)])
    have hF1 : Fr (inS b) σ σc := hF1.tr (show Fr (inS b) σb σc by rw [hσc]; exact Fr.up (Or.inl rfl)) (fun _ z => z)
    have g2 : a1 2 = a 2 := by rw [ha1]; rfl
    have g4 : a1 4 = a 4 := by rw [ha1]; rfl
    have g1 : a1 1 = a 1 := by rw [ha1]; rfl
    have g20 : a1 (20 + (a1 1 + 1) % 7) = a (20 + (a 1 + 1) % 7) := by rw [g1, ha1, ua_at, if_neg (by omega)]
    have g10 : a1 10 = a 10 + c1 := by rw [ha1]; rfl
    have L85 : ∀ (a2 : Row) (c2 : Nat) (σ2 : SG), (c2 = if a (20 + (a 1 + 1) % 7) = 0 then min (a 2) (60 - (a 10 + c1)) else 0) → (a2 = ua a 10 (a 10 + c1 + c2)) → (Hh σ2 b a2) → (Bd a2) → (σ2 b 6 = 0) → (Tl σ2 (v - nI c1 * nI (a 4) - nI c2 * nI (a 4)) ls th la (bo + c1 + c2)) → (Fr (inS b) σ σ2) → G l w K 85 [(0, .ref (wA w b)), (1, .ref (wA w 28))] [] σ2 := by
      intro a2 c2 σ2 hc2 ha2 hH2 hB2 h62 hT2 hF2
      have hBa2 := hB2.1
      have g11 : a2 11 = a 11 := by rw [ha2]; rfl
      have g3 : a2 3 = a 3 := by rw [ha2]; rfl
      have g4 : a2 4 = a 4 := by rw [ha2]; rfl
      refine g_aload_n C dX1_shop_85 rfl rfl ?_
      refine g_aload_n C dX1_shop_86 rfl rfl ?_
      refine g_iconst C dX1_shop_87 ic_1 ?_
      refine g_aload_n C dX1_shop_88 rfl rfl ?_
      refine g_get (v := .ref (wA w (b + 3))) C fl_X1_18 fs_X1_18 (HB.n0 hb hN) (HB.ou hb _) rfl dX1_shop_89 ?_
      refine g_iconst C dX1_shop_92 ic_1 ?_
      refine g_ial (k0 := (b + 3)) (n := 6) C (HB.n hb hN (by decide)) (HB.t hb) (j := 1) (by unfold ix; decide) dX1_shop_93 ?_
      refine g_val (y := nI (a2 3)) (Hh.t hH2 (by omega)) ?_
      obtain ⟨c3, hc3⟩ : ∃ q, q = min (a2 3) (60 - a2 (10 + 1)) := ⟨_, rfl⟩
      refine g_callVI (rest := [.ref (wA w 28)]) C mv_X1_73 (ct_X1_bring l w hN σ2 b hb a2 hH2 hB2 1 (a2 3) (by omega) (by omega)) (HB.n0 hb hN) (HB.ou hb _) rfl (by decide) rfl (Nat.le_of_ble_eq_true rfl) dX1_shop_94 (fun r4 σf h4 => ?_)
      obtain ⟨er4, ec3⟩ := h4
      rw [← hc3] at er4 ec3
      subst er4
      refine g_aload_n C dX1_shop_97 rfl rfl ?_
      have hHz : Hh σf b (ua a2 (10 + 1) (a2 (10 + 1) + c3)) := by rw [ec3]; exact hH2.us (by omega)
      refine g_get (v := .ref (wA w (b + 3))) C fl_X1_18 fs_X1_18 (HB.n0 hb hN) (HB.ou hb _) rfl dX1_shop_98 ?_
      refine g_iconst C dX1_shop_101 ic_2 ?_
      refine g_ial (k0 := (b + 3)) (n := 6) C (HB.n hb hN (by decide)) (HB.t hb) (j := 2) (by unfold ix; decide) dX1_shop_102 ?_
      refine g_val (y := nI (a2 4)) (by have := Hh.t hHz (k := 2) (by omega); exact this) ?_
      refine g_iconst C dX1_shop_103 ic_2 ?_
      refine g_idivv (v := nI (a2 4 / 2)) C (by decide) (nj_div2 (by have := hBa2 4; omega)) dX1_shop_104 ?_
      refine g_callVV (rest := []) C mv_X1_76 (ct_X3_addBought l w hN σf (nI c3) (nI (a2 4 / 2))) (Nat.lt_of_lt_of_le (by decide) hN) rfl rfl (by decide) rfl (Nat.le_of_ble_eq_true rfl) dX1_shop_105 (fun σg h5 => ?_)
      obtain ⟨hH3, hB3, h63, hT3, hF3⟩ := shop_in hb hH2 hB2 hT2 hF2 (show 1 < 5 by omega) (by have z0 : a2 (10 + 1) = a2 11 := rfl; omega) ec3 h5
      refine g_vret C r dX1_shop_108 ?_
      rw [g4] at hT3
      rw [ha2] at hH3
      exact shop_fin (by omega) hc1 hc2 (by rw [hc3, g3, g11]) hH3 (by rw [h63]; exact h62) hT3 hF3
    refine g_aload_n C dX1_shop_47 rfl rfl ?_
    refine g_get (v := .ref (wA w (b + 2))) C fl_X1_15 fs_X1_15 (HB.n0 hb hN) (HB.ou hb _) rfl dX1_shop_48 ?_
    refine g_aload_n C dX1_shop_51 rfl rfl ?_
    refine g_get (v := .int (σc b 5)) C fl_X1_36 fs_X1_36 (HB.n0 hb hN) (HB.ou hb _) rfl dX1_shop_52 ?_
    refine g_val (y := nI (a1 1)) (Hh.d hH1) ?_
    refine g_iconst C dX1_shop_55 ic_1 ?_
    refine g_iaddv (v := nI ((a1 1) + 1)) C (nj_plus (a1 1) 1) dX1_shop_56 ?_
    refine g_bipush C dX1_shop_57 bp_7 ?_
    refine g_iremv (v := nI ((a1 1 + 1) % 7)) C (by decide) (nj_rem (b := 7) (by omega) (by omega)) dX1_shop_59 ?_
    refine g_ial (k0 := (b + 2)) (n := 7) C (HB.n hb hN (by decide)) (HB.p hb) (j := (a1 1 + 1) % 7) (ix_n (by omega)) dX1_shop_60 ?_
    refine g_val (y := nI (a1 (20 + ((a1 1 + 1) % 7)))) (Hh.p hH1 (by omega)) ?_
    refine g_if_ne (tgt := 85) C dX1_shop_61 rfl (fun c61_6 => ?_) (fun c61_6 => ?_)
    · skip
      have n61_6 : ¬ (a1 (20 + ((a1 1 + 1) % 7)) = 0) := fun qq => c61_6 ((nj_eq (a := a1 (20 + ((a1 1 + 1) % 7))) (b := 0) (by have := hBa1 (20 + ((a1 1 + 1) % 7)); have := hBa1 1; omega) (by have := hBa1 (20 + ((a1 1 + 1) % 7)); have := hBa1 1; omega)).mpr qq)
      exact g_lvp [0, 1] rfl (L85 a1 0 σc (by rw [if_neg (by rw [← g20]; omega)]) (by rw [ha1]; rfl) (hH1) (hB1) (h61) (by rw [nI_0, show v - nI c1 * nI (a 4) - 0 * nI (a 4) = v - nI c1 * nI (a 4) by grind]; exact hT1) (hF1))
    · skip
      have n61_6 : a1 (20 + ((a1 1 + 1) % 7)) = 0 := (nj_eq (a := a1 (20 + ((a1 1 + 1) % 7))) (b := 0) (by have := hBa1 (20 + ((a1 1 + 1) % 7)); have := hBa1 1; omega) (by have := hBa1 (20 + ((a1 1 + 1) % 7)); have := hBa1 1; omega)).mp c61_6
      refine g_aload_n C dX1_shop_64 rfl rfl ?_
      refine g_aload_n C dX1_shop_65 rfl rfl ?_
      refine g_iconst C dX1_shop_66 ic_0 ?_
      refine g_aload_n C dX1_shop_67 rfl rfl ?_
      refine g_get (v := .ref (wA w (b + 3))) C fl_X1_18 fs_X1_18 (HB.n0 hb hN) (HB.ou hb _) rfl dX1_shop_68 ?_
      refine g_iconst C dX1_shop_71 ic_0 ?_
      refine g_ial (k0 := (b + 3)) (n := 6) C (HB.n hb hN (by decide)) (HB.t hb) (j := 0) (by unfold ix; decide) dX1_shop_72 ?_
      refine g_val (y := nI (a1 2)) (Hh.t hH1 (by omega)) ?_
      obtain ⟨c2, hc2⟩ : ∃ q, q = min (a1 2) (60 - a1 (10 + 0)) := ⟨_, rfl⟩
      refine g_callVI (rest := [.ref (wA w 28)]) C mv_X1_73 (ct_X1_bring l w hN σc b hb a1 hH1 hB1 0 (a1 2) (by omega) (by omega)) (HB.n0 hb hN) (HB.ou hb _) rfl (by decide) rfl (Nat.le_of_ble_eq_true rfl) dX1_shop_73 (fun r7 σd h7 => ?_)
      obtain ⟨er7, ec2⟩ := h7
      rw [← hc2] at er7 ec2
      subst er7
      refine g_aload_n C dX1_shop_76 rfl rfl ?_
      have hHy : Hh σd b (ua a1 (10 + 0) (a1 (10 + 0) + c2)) := by rw [ec2]; exact hH1.us (by omega)
      refine g_get (v := .ref (wA w (b + 3))) C fl_X1_18 fs_X1_18 (HB.n0 hb hN) (HB.ou hb _) rfl dX1_shop_77 ?_
      refine g_iconst C dX1_shop_80 ic_2 ?_
      refine g_ial (k0 := (b + 3)) (n := 6) C (HB.n hb hN (by decide)) (HB.t hb) (j := 2) (by unfold ix; decide) dX1_shop_81 ?_
      refine g_val (y := nI (a1 4)) (by have := Hh.t hHy (k := 2) (by omega); exact this) ?_
      refine g_callVV (rest := []) C mv_X1_76 (ct_X3_addBought l w hN σd (nI c2) (nI (a1 4))) (Nat.lt_of_lt_of_le (by decide) hN) rfl rfl (by decide) rfl (Nat.le_of_ble_eq_true rfl) dX1_shop_82 (fun σe h8 => ?_)
      obtain ⟨hH1b, hB1b, h61b, hT1b, hF1b⟩ := shop_in hb hH1 hB1 hT1 hF1 (show 0 < 5 by omega) (by have z0 : a1 (10 + 0) = a1 10 := rfl; have z1 := hB1.2.2.2.2.2.2.2.2.2.1 0 (by omega); omega) ec2 h8
      obtain ⟨a1b, ha1b⟩ : ∃ q, q = ua a1 (10 + 0) (a1 (10 + 0) + c2) := ⟨_, rfl⟩
      rw [← ha1b] at hH1b hB1b
      exact g_lvp [0, 1] rfl (L85 a1b c2 σe (by rw [if_pos (by rw [← g20]; omega), hc2, show a1 (10 + 0) = a 10 + c1 by rw [ha1]; rfl, g2]) (by rw [ha1b, ha1, ua_ua]; rfl) (hH1b) (hB1b) (by rw [h61b]; exact h61) (by have z := hT1b; rw [g4] at z; exact z) (hF1b))
  · skip
    have n12_1 : a (20 + (a 1 % 7)) = 0 := (nj_eq (a := a (20 + (a 1 % 7))) (b := 0) (by have := hBa (20 + (a 1 % 7)); have := hBa 1; omega) (by have := hBa (20 + (a 1 % 7)); have := hBa 1; omega)).mp c12_1
    refine g_vret C r dX1_shop_15 ?_
    exact shop_closed hH hfw hT (by omega)

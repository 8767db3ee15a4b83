def ShC (l : Launch) (w : WD) (a : Row) (N q : Nat) : Prop := ∀ (σ : SG) (i s : Nat), i + q = N → s < 81 → Mr σ 40 a → (∀ e, e < 4 → σ 52 e = nI (dg s e)) → CtI l w yX5_shared cX5_shared 8 (some .int) (q + 3) 0 0 [.ref (wA w 38), .int (nI i), .int (nI N)] σ (fun r τ => (∃ m, r = nI m ∧ m ≤ 60 ∧ Mx (Tw (ES a) (q) (i) (s)) m) ∧ (∀ e, e < 4 → τ 52 e = nI (dg (s) e)) ∧ Fr (fun k => k = 52) σ τ)
set_option maxRecDepth 100000 in
set_option maxHeartbeats 4000000 in
theorem ct_X5_shared_st (l : Launch) (w : WD) (hN : 54 ≤ wN w) (a : Row) (hB : Bd a) (N q : Nat) (hNN : N ≤ 6) (hNs : N ≤ cum a 5) (ih : ∀ q', q' < q → ShC l w a N q') (σ : SG) (i s : Nat) (hiq : i + q = N) (hs : s < 81) (hM : Mr σ 40 a) (hh : ∀ e, e < 4 → σ 52 e = nI (dg s e)) : CtI l w yX5_shared cX5_shared 8 (some .int) (q + 3) 0 0 [.ref (wA w 38), .int (nI i), .int (nI N)] σ (fun r τ => (∃ m, r = nI m ∧ m ≤ 60 ∧ Mx (Tw (ES a) (q) (i) (s)) m) ∧ (∀ e, e < 4 → τ 52 e = nI (dg (s) e)) ∧ Fr (fun k => k = 52) σ τ) := by
  refine CtI.mk (by decide) (Nat.le_of_ble_eq_true rfl) ?_
  intro K C hr h0
  have r := RI.of hr h0
  clear hr h0
  show G l w K 0 [(0, .ref (wA w 38)), (1, .int (nI i)), (2, .int (nI N))] [] σ
  obtain ⟨hBa, hB0, hB1, hB2, hB3, hB4, hB5, hB6, hB7, hBs, hBp, hBe⟩ := id hB
  have hNs5 : N ≤ cum a 4 + a (10 + 4) := hNs
  refine g_iload_n C dX5_shared_0 rfl rfl ?_
  refine g_iload_n C dX5_shared_1 rfl rfl ?_
  refine g_icmp_ne (tgt := 7) C dX5_shared_2 rfl (fun c2_1 => ?_) (fun c2_1 => ?_)
  · skip
    have n2_1 : ¬ (i = N) := fun qq => c2_1 ((nj_eq (a := i) (b := N) (by omega) (by omega)).mpr qq)
    obtain ⟨q1, rfl⟩ : ∃ q1, q = q1 + 1 := ⟨q - 1, by omega⟩
    refine g_iconst C dX5_shared_7 ic_0 ?_
    refine g_istore_n (lv' := [(3, .int 0), (0, .ref (wA w 38)), (1, .int (nI i)), (2, .int (nI N))]) C dX5_shared_8 rfl (by decide) rfl ?_
    refine g_aload_n C dX5_shared_9 rfl rfl ?_
    refine g_get (v := .ref (wA w 40)) C fl_X5_13 fs_X5_13 (Nat.lt_of_lt_of_le (by decide) hN) rfl rfl dX5_shared_10 ?_
    refine g_bipush C dX5_shared_13 bp_10 ?_
    refine g_ial (k0 := 40) (n := 46) C (Nat.lt_of_lt_of_le (by decide) hN) rfl (j := 10) (by unfold ix; decide) dX5_shared_15 ?_
    refine g_val (y := nI ((cum a (0 + 1)))) (by rw [hM 10 (by decide)]; exact congrArg nI (Nat.zero_add _).symm) ?_
    refine g_istore (lv' := [(4, .int (nI ((cum a (0 + 1))))), (3, .int 0), (0, .ref (wA w 38)), (1, .int (nI i)), (2, .int (nI N))]) C dX5_shared_16 (by decide) rfl ?_
    have L18 : ∀ (m18 : Nat) (g : Nat), m18 = 4 - g → (g ≤ 4) → (cum a g ≤ i) → G l w K 18 [(0, .ref (wA w 38)), (1, .int (nI i)), (2, .int (nI N)), (3, .int (nI g)), (4, .int (nI ((cum a (g + 1)))))] [] σ := by
      intro m18
      induction m18 using Nat.strongRecOn with
      | ind m18 ih18 =>
      intro g em18 hg hlow
      have hcg : cum a (g + 1) = cum a g + a (10 + g) := rfl
      have hsg := hBs g (by omega)
      refine g_iload_n C dX5_shared_18 rfl rfl ?_
      refine g_iload C dX5_shared_19 rfl ?_
      refine g_icmp_lt (tgt := 44) C dX5_shared_21 rfl (fun c21_2 => ?_) (fun c21_2 => ?_)
      · skip
        have n21_2 : i < (cum a (g + 1)) := (nj_lt (a := i) (b := (cum a (g + 1))) (by have := hBa (g + 1); omega) (by have := hBa (g + 1); omega)).mp c21_2
        have hag : ag a i = g := ag_eq (by omega) hlow (by omega)
        have hF0 : Fr (fun k => k = 52) σ σ := Fr.rf
        refine g_aload_n C dX5_shared_44 rfl rfl ?_
        refine g_iload_n C dX5_shared_45 rfl rfl ?_
        refine g_iconst C dX5_shared_46 ic_1 ?_
        refine g_iaddv (v := nI (i + 1)) C (nj_plus i 1) dX5_shared_47 ?_
        refine g_iload_n C dX5_shared_48 rfl rfl ?_
        refine g_callVI (rest := []) C mv_X5_191 (ih q1 (by omega) σ (i + 1) s (by omega) hs hM hh) (Nat.lt_of_lt_of_le (by decide) hN) rfl rfl (by omega) rfl (Nat.le_of_ble_eq_true rfl) dX5_shared_49 (fun r3 σd h3 => ?_)
        obtain ⟨⟨m1, er3, m19, m1x⟩, hhd, hFd⟩ := h3
        rw [er3]
        refine g_istore (lv' := [(5, .int (nI m1)), (0, .ref (wA w 38)), (1, .int (nI i)), (2, .int (nI N)), (3, .int (nI g)), (4, .int (nI ((cum a (g + 1)))))]) C dX5_shared_52 (by decide) rfl ?_
        refine g_iconst C dX5_shared_54 ic_0 ?_
        refine g_istore (lv' := [(6, .int 0), (5, .int (nI m1)), (0, .ref (wA w 38)), (1, .int (nI i)), (2, .int (nI N)), (3, .int (nI g)), (4, .int (nI ((cum a (g + 1)))))]) C dX5_shared_55 (by decide) rfl ?_
        have L57 : ∀ (m57 : Nat) (e : Nat) (mm : Nat) (σ2 : SG), m57 = a 0 - e → (e ≤ a 0) → (Mx (Tp a q1 i s e) mm) → (∀ e, e < 4 → σ2 52 e = nI (dg s e)) → (Fr (fun k => k = 52) σ σ2) → G l w K 57 [(0, .ref (wA w 38)), (1, .int (nI i)), (2, .int (nI N)), (3, .int (nI g)), (5, .int (nI mm)), (6, .int (nI e))] [] σ2 := by
          intro m57
          induction m57 using Nat.strongRecOn with
          | ind m57 ih57 =>
          intro e mm σ2 em57 he hmx hh2 hF2
          have hM2 : Mr σ2 40 a := hM.fr (hF2 40 (by decide))
          have hmm9 := Tp_le hB (by omega) (by omega) hmx.1
          refine g_iload C dX5_shared_57 rfl ?_
          refine g_aload_n C dX5_shared_59 rfl rfl ?_
          refine g_get (v := .ref (wA w 40)) C fl_X5_13 fs_X5_13 (Nat.lt_of_lt_of_le (by decide) hN) rfl rfl dX5_shared_60 ?_
          refine g_iconst C dX5_shared_63 ic_0 ?_
          refine g_ial (k0 := 40) (n := 46) C (Nat.lt_of_lt_of_le (by decide) hN) rfl (j := 0) (by unfold ix; decide) dX5_shared_64 ?_
          refine g_val (y := nI (a 0)) (hM2 0 (by omega)) ?_
          refine g_icmp_ge (tgt := 142) C dX5_shared_65 rfl (fun c65_4 => ?_) (fun c65_4 => ?_)
          · skip
            have n65_4 : a 0 ≤ e := (nj_le (a := a 0) (b := e) (by have := hBa 0; omega) (by have := hBa 0; omega)).mp c65_4
            have hea : e = a 0 := by omega
            refine g_iload C dX5_shared_142 rfl ?_
            refine g_iret C r rfl dX5_shared_144 ?_
            rw [hea] at hmx
            have hfin : Mx (Tw (ES a) (q1 + 1) i s) mm := hmx.iff (fun v => Tp_n hs q1 i v)
            have hm60 := Ts_le hB _ _ _ _ hfin.1
            exact ⟨⟨mm, rfl, by omega, hfin⟩, hh2, hF2⟩
          · skip
            have n65_4 : ¬ (a 0 ≤ e) := fun qq => c65_4 ((nj_le (a := a 0) (b := e) (by have := hBa 0; omega) (by have := hBa 0; omega)).mpr qq)
            have L136 : ∀ (mm2 : Nat) (σ3 : SG), (Mx (Tp a q1 i s (e + 1)) mm2) → (∀ e, e < 4 → σ3 52 e = nI (dg s e)) → (Fr (fun k => k = 52) σ σ3) → G l w K 136 [(0, .ref (wA w 38)), (1, .int (nI i)), (2, .int (nI N)), (3, .int (nI g)), (5, .int (nI mm2)), (6, .int (nI e))] [] σ3 := by
              intro mm2 σ3 hmx2 hh3 hF3
              refine g_iinc (v := nI (e + 1)) (lv' := [(6, .int (nI (e + 1))), (0, .ref (wA w 38)), (1, .int (nI i)), (2, .int (nI N)), (3, .int (nI g)), (5, .int (nI mm2))]) C dX5_shared_136 (by decide) rfl (nj_inc e) rfl ?_
              refine g_goto (tgt := 57) C dX5_shared_139 rfl ?_
              exact g_lvp [1, 2, 3, 4, 5, 0] rfl (ih57 (a 0 - (e + 1)) (by omega) (e + 1) mm2 σ3 rfl (by first | omega | assumption | rfl | grind) (hmx2) (hh3) (hF3))
            refine g_aload_n C dX5_shared_68 rfl rfl ?_
            refine g_get (v := .ref (wA w 40)) C fl_X5_13 fs_X5_13 (Nat.lt_of_lt_of_le (by decide) hN) rfl rfl dX5_shared_69 ?_
            refine g_iload C dX5_shared_72 rfl ?_
            refine g_iload_n C dX5_shared_74 rfl rfl ?_
            refine g_pSI (rest := []) (v := wJ a e g) C ms_X5_74 (ct_X5_worthOf l w hN σ2 40 (Nat.lt_of_lt_of_le (by decide) hN) rfl a hM2 hB e g (by omega) (by omega)) rfl (by omega) rfl (Nat.le_of_ble_eq_true rfl) dX5_shared_75 ?_
            refine g_istore (lv' := [(7, .int (wJ a e g)), (0, .ref (wA w 38)), (1, .int (nI i)), (2, .int (nI N)), (3, .int (nI g)), (5, .int (nI mm)), (6, .int (nI e))]) C dX5_shared_78 (by decide) rfl ?_
            refine g_iload C dX5_shared_80 rfl ?_
            refine g_if_lt (tgt := 136) C dX5_shared_82 rfl (fun c82_5 => ?_) (fun c82_5 => ?_)
            · skip
              have hne : ¬ eats a e g := (wJ_nn hBa).mp c82_5
              exact g_lvp [1, 2, 3, 4, 5, 6] rfl (L136 mm σ2 (hmx.iff (fun v => Tp_no (fun z => hne (by rw [← hag]; exact z.2)))) (hh2) (hF2))
            · skip
              have hye : eats a e g := Decidable.byContradiction (fun z => c82_5 ((wJ_nn hBa).mpr z))
              have hwj : wJ a e g = nI (wNt a e g) := if_pos hye
              have hw9 := wNt_10 hB (e := e) (by omega) g
              refine g_aload_n C dX5_shared_85 rfl rfl ?_
              refine g_get (v := .ref (wA w 52)) C fl_X5_50 fs_X5_50 (Nat.lt_of_lt_of_le (by decide) hN) rfl rfl dX5_shared_86 ?_
              refine g_iload C dX5_shared_89 rfl ?_
              refine g_ial (k0 := 52) (n := 4) C (Nat.lt_of_lt_of_le (by decide) hN) rfl (j := e) (ix_n (by omega)) dX5_shared_91 ?_
              refine g_val (y := nI (dg s e)) (hh2 e (by omega)) ?_
              refine g_iconst C dX5_shared_92 ic_2 ?_
              have hdl := dg_le s e
              refine g_icmp_ge (tgt := 136) C dX5_shared_93 rfl (fun c93_6 => ?_) (fun c93_6 => ?_)
              · skip
                have n93_6 : 2 ≤ dg s e := (nj_le (a := 2) (b := dg s e) (by omega) (by omega)).mp c93_6
                exact g_lvp [1, 2, 3, 4, 5, 6] rfl (L136 mm σ2 (hmx.iff (fun v => Tp_no (fun z => by omega))) (hh2) (hF2))
              · skip
                have n93_6 : ¬ (2 ≤ dg s e) := fun qq => c93_6 ((nj_le (a := 2) (b := dg s e) (by omega) (by omega)).mpr qq)
                refine g_aload_n C dX5_shared_96 rfl rfl ?_
                refine g_get (v := .ref (wA w 52)) C fl_X5_50 fs_X5_50 (Nat.lt_of_lt_of_le (by decide) hN) rfl rfl dX5_shared_97 ?_
                refine g_iload C dX5_shared_100 rfl ?_
                refine g_dup2 C dX5_shared_102 rfl rfl ?_
                refine g_ial (k0 := 52) (n := 4) C (Nat.lt_of_lt_of_le (by decide) hN) rfl (j := e) (ix_n (by omega)) dX5_shared_103 ?_
                refine g_val (y := nI (dg s e)) (hh2 e (by omega)) ?_
                refine g_iconst C dX5_shared_104 ic_1 ?_
                refine g_iaddv (v := nI ((dg s e) + 1)) C (nj_plus (dg s e) 1) dX5_shared_105 ?_
                refine g_ias (k0 := 52) (n := 4) C (Nat.lt_of_lt_of_le (by decide) hN) rfl (j := e) (ix_n (by omega)) dX5_shared_106 (fun σa hσa => ?_)
                obtain ⟨hs1, hdp, hdga⟩ := dg_add hs (show e < 4 by omega) (by omega)
                refine g_iload C dX5_shared_107 rfl ?_
                refine g_iload C dX5_shared_109 rfl ?_
                refine g_aload_n C dX5_shared_111 rfl rfl ?_
                refine g_iload_n C dX5_shared_112 rfl rfl ?_
                refine g_iconst C dX5_shared_113 ic_1 ?_
                refine g_iaddv (v := nI (i + 1)) C (nj_plus i 1) dX5_shared_114 ?_
                refine g_iload_n C dX5_shared_115 rfl rfl ?_
                refine g_callVI (rest := [.int (wJ a e g), .int (nI mm)]) C mv_X5_191 (ih q1 (by omega) σa (i + 1) (s + 3 ^ e) (by omega) hs1 (hM2.fr (by rw [hσa, up_other (by decide)])) (fun e' he' => by rw [hσa, up_at, hdga e' he']; exact (Decidable.em (e' = e)).elim (fun z => by rw [if_pos ⟨rfl, z⟩, if_pos z]) (fun z => by rw [if_neg (fun y => z y.2), if_neg z]; exact hh2 e' he'))) (Nat.lt_of_lt_of_le (by decide) hN) rfl rfl (by omega) rfl (Nat.le_of_ble_eq_true rfl) dX5_shared_116 (fun r7 σd h7 => ?_)
                obtain ⟨⟨m2, er7, m29, m2x⟩, hhd, hFd⟩ := h7
                rw [er7]
                refine g_iaddv (v := nI (m2 + wNt a e g)) C (by rw [hwj, nj_plus, Nat.add_comm]) dX5_shared_119 ?_
                refine g_max C ml_X5_68 st_Lib_Math_max ini_Math co_Lib_Math_max (by omega) (Nat.le_of_ble_eq_true rfl) dX5_shared_120 ?_
                refine g_val (y := nI (max mm (m2 + wNt a e g))) (nj_max (by omega) (by omega)) ?_
                refine g_nat (fun mx hmxe => ?_)
                refine g_istore (lv' := [(5, .int (nI mx)), (7, .int (wJ a e g)), (0, .ref (wA w 38)), (1, .int (nI i)), (2, .int (nI N)), (3, .int (nI g)), (6, .int (nI e))]) C dX5_shared_123 (by decide) rfl ?_
                skip
                refine g_aload_n C dX5_shared_125 rfl rfl ?_
                refine g_get (v := .ref (wA w 52)) C fl_X5_50 fs_X5_50 (Nat.lt_of_lt_of_le (by decide) hN) rfl rfl dX5_shared_126 ?_
                refine g_iload C dX5_shared_129 rfl ?_
                refine g_dup2 C dX5_shared_131 rfl rfl ?_
                refine g_ial (k0 := 52) (n := 4) C (Nat.lt_of_lt_of_le (by decide) hN) rfl (j := e) (ix_n (by omega)) dX5_shared_132 ?_
                refine g_val (y := nI (dg s e + 1)) (by rw [hhd e (by omega), hdga e (by omega), if_pos rfl]) ?_
                refine g_iconst C dX5_shared_133 ic_1 ?_
                refine g_isubv (v := nI (dg s e)) C (nj_minus (a := dg s e + 1) (b := 1) (by omega)) dX5_shared_134 ?_
                refine g_ias (k0 := 52) (n := 4) C (Nat.lt_of_lt_of_le (by decide) hN) rfl (j := e) (ix_n (by omega)) dX5_shared_135 (fun σb hσb => ?_)
                exact g_lvp [2, 3, 4, 5, 0, 6] rfl (L136 mx σb (by rw [hmxe]; exact (hmx.or (Mx_add m2x)).iff (fun v => by rw [← hag]; exact Tp_yes (by omega) (by rw [hag]; exact hye))) (fun e' he' => by rw [hσb, up_at]; exact (Decidable.em (e' = e)).elim (fun z => by rw [if_pos ⟨rfl, z⟩, z]) (fun z => by rw [if_neg (fun y => z y.2), hhd e' he', hdga e' he', if_neg z])) ((hF2.tr (show Fr (fun k => k = 52) σ2 σa by rw [hσa]; exact Fr.up (S := fun k => k = 52) rfl) (fun _ z => z)).tr (hFd.tr (show Fr (fun k => k = 52) σd σb by rw [hσb]; exact Fr.up (S := fun k => k = 52) rfl) (fun _ z => z)) (fun _ z => z)))
        exact g_lvp [2, 3, 4, 5, 1, 0] rfl (L57 (a 0 - 0) 0 m1 σd rfl (by first | omega | assumption | rfl | grind) ((m1x).iff (fun v => Tp_0 a q1 i s v)) (hhd) (hFd))
      · skip
        have n21_2 : ¬ (i < (cum a (g + 1))) := fun qq => c21_2 ((nj_lt (a := i) (b := (cum a (g + 1))) (by have := hBa (g + 1); omega) (by have := hBa (g + 1); omega)).mpr qq)
        have hg3 : g ≤ 3 := by
          apply Decidable.byContradiction
          intro z
          obtain rfl : g = 4 := by omega
          have z5 : cum a (4 + 1) = cum a 5 := rfl
          omega
        refine g_iinc (v := nI (g + 1)) (lv' := [(3, .int (nI (g + 1))), (0, .ref (wA w 38)), (1, .int (nI i)), (2, .int (nI N)), (4, .int (nI ((cum a (g + 1)))))]) C dX5_shared_24 (by decide) rfl (nj_inc g) rfl ?_
        refine g_iload C dX5_shared_27 rfl ?_
        refine g_aload_n C dX5_shared_29 rfl rfl ?_
        refine g_get (v := .ref (wA w 40)) C fl_X5_13 fs_X5_13 (Nat.lt_of_lt_of_le (by decide) hN) rfl rfl dX5_shared_30 ?_
        refine g_bipush C dX5_shared_33 bp_10 ?_
        refine g_iload_n C dX5_shared_35 rfl rfl ?_
        refine g_iaddv (v := nI (10 + (g + 1))) C (nj_plus 10 (g + 1)) dX5_shared_36 ?_
        refine g_ial (k0 := 40) (n := 46) C (Nat.lt_of_lt_of_le (by decide) hN) rfl (j := 10 + (g + 1)) (ix_n (by omega)) dX5_shared_37 ?_
        refine g_val (y := nI (a (10 + (g + 1)))) (hM (10 + (g + 1)) (by omega)) ?_
        refine g_iaddv (v := nI (((cum a (g + 1))) + (a (10 + (g + 1))))) C (nj_plus ((cum a (g + 1))) (a (10 + (g + 1)))) dX5_shared_38 ?_
        refine g_istore (lv' := [(4, .int (nI (((cum a (g + 1))) + (a (10 + (g + 1)))))), (3, .int (nI (g + 1))), (0, .ref (wA w 38)), (1, .int (nI i)), (2, .int (nI N))]) C dX5_shared_39 (by decide) rfl ?_
        refine g_goto (tgt := 18) C dX5_shared_41 rfl ?_
        exact g_lvp [2, 3, 4, 1, 0] rfl (ih18 (4 - (g + 1)) (by omega) (g + 1) rfl (by first | omega | assumption | rfl | grind) (by first | omega | assumption | rfl | grind))
    exact g_lvp [2, 3, 4, 1, 0] rfl (L18 (4 - 0) 0 rfl (by first | omega | assumption | rfl | grind) (Nat.zero_le _))
  · skip
    have n2_1 : i = N := (nj_eq (a := i) (b := N) (by omega) (by omega)).mp c2_1
    have hiN : i = N := by omega
    have hq0 : q = 0 := by omega
    refine g_iconst C dX5_shared_5 ic_0 ?_
    refine g_iret C r rfl dX5_shared_6 ?_
    rw [hq0]
    exact ⟨⟨0, rfl, by omega, rfl, fun v hv => Nat.le_of_eq hv⟩, hh, Fr.rf⟩
theorem ct_X5_shared (l : Launch) (w : WD) (hN : 54 ≤ wN w) (a : Row) (hB : Bd a) (N : Nat) (hNN : N ≤ 6) (hNs : N ≤ cum a 5) : ∀ q, ShC l w a N q := fun q => Nat.strongRecOn q (fun q ih σ i s h1 h2 h3 h4 => ct_X5_shared_st l w hN a hB N q hNN hNs ih σ i s h1 h2 h3 h4)
theorem CM.h52 {σ τ : SG} {A : AS} (h : CM σ A) (hf : Fr (fun k => k = 52) σ τ) (hz : ∀ j, j < 4 → τ 52 j = 0) : CM τ A := by
  obtain ⟨h0, h1, h2, h3, h4, h5, h6, h7, h8, h9, ha, hb⟩ := h
  have g : ∀ k, k ≠ 52 → τ k = σ k := fun k hk => hf k hk
  refine ⟨h0, h1.fr (g 40 (by decide)), fun hk => (h2 hk).fr (g 42 (by decide)), by rw [g 38 (by decide)]; exact h3, by rw [g 38 (by decide), g 46 (by decide)]; exact h4, by rw [g 38 (by decide), g 53 (by decide)]; exact h5, by rw [g 39 (by decide)]; exact h6, ?_⟩
  unfold MT
  rw [g 47 (by decide), g 48 (by decide), g 49 (by decide), g 50 (by decide)]
  exact ⟨h7, h8, h9, ha, hz⟩
set_option maxRecDepth 100000 in
set_option maxHeartbeats 4000000 in
theorem ct_X5_share (l : Launch) (w : WD) (hN : 54 ≤ wN w) (σ : SG) (a kp : Row) (tk nl : Nat) (lt : Nat → Nat) (qn : Nat) (qs : Nat → Nat) (rf : Nat → Int32) (hC : CM σ (a, kp, tk, (nl, lt), (qn, qs), rf)) : CtI l w yX5_share cX5_share 1 (some .int) 13 0 0 [.ref (wA w 38)] σ (fun r τ => r = (spShare (a, kp, tk, (nl, lt), (qn, qs), rf)).1 ∧ CM τ (spShare (a, kp, tk, (nl, lt), (qn, qs), rf)).2 ∧ Fr in38 σ τ) := by
  refine CtI.mk (by decide) (Nat.le_of_ble_eq_true rfl) ?_
  intro K C hr h0
  have r := RI.of hr h0
  clear hr h0
  show G l w K 0 [(0, .ref (wA w 38))] [] σ
  have hM : Mr σ 40 a := hC.2.1
  have hB : Bd a := hC.1.1.1
  have hd9 : a 1 ≤ 9999 := hC.1.1.2.1
  have hu9 : ∀ e, e < 4 → a (30 + 4 * e + 1) ≤ 9 := hC.1.1.2.2
  obtain ⟨hBa, hB0, hB1, hB2, hB3, hB4, hB5, hB6, hB7, hBs, hBp, hBe⟩ := id hB
  obtain ⟨N, hNd⟩ : ∃ q, q = min 6 (cum a 5) := ⟨_, rfl⟩
  have hNle : N ≤ 6 := by omega
  have hh0 : ∀ e, e < 4 → σ 52 e = nI (dg 0 e) := fun e he => by rw [hC.2.2.2.2.2.2.2.2.2.2.2 e he, dg_0]; rfl
  have hs5 := sum5 hB
  refine g_aload_n C dX5_share_0 rfl rfl ?_
  refine g_iconst C dX5_share_1 ic_0 ?_
  refine g_bipush C dX5_share_2 bp_6 ?_
  refine g_aload_n C dX5_share_4 rfl rfl ?_
  refine g_get (v := .ref (wA w 40)) C fl_X5_13 fs_X5_13 (Nat.lt_of_lt_of_le (by decide) hN) rfl rfl dX5_share_5 ?_
  refine g_pSI (rest := [.int 6, .int 0, .ref (wA w 38)]) (v := nI (sumN (fun k => a (10 + k)) 5)) C ms_X5_167 (ct_X5_slices l w hN σ 40 (Nat.lt_of_lt_of_le (by decide) hN) rfl a hM hB) rfl (by decide) rfl (Nat.le_of_ble_eq_true rfl) dX5_share_8 ?_
  refine g_min C ml_X5_78 st_Lib_Math_min ini_Math co_Lib_Math_min (by decide) (Nat.le_of_ble_eq_true rfl) dX5_share_11 ?_
  refine g_val (y := nI N) (by rw [hNd]; exact nj_min (a := 6) (by omega) (by omega)) ?_
  refine g_callVI (rest := []) C mv_X5_191 (ct_X5_shared l w hN a hB N (by omega) (by omega) N σ 0 0 (by omega) (by omega) hM hh0) (Nat.lt_of_lt_of_le (by decide) hN) rfl rfl (by omega) rfl (Nat.le_of_ble_eq_true rfl) dX5_share_14 (fun r1 σd h1 => ?_)
  obtain ⟨⟨m1, er1, m19, m1x⟩, hhd, hFd⟩ := h1
  rw [er1]
  refine g_iret C r rfl dX5_share_17 ?_
  have hs : spShare (a, kp, tk, (nl, lt), (qn, qs), rf) = (nI m1, (a, kp, tk, (nl, lt), (qn, qs), rf)) := by unfold spShare; show (nI (mxOf (Tw (ES a) (min 6 (cum a 5)) 0 0)), _) = _; rw [← hNd, mxOf_eq m1x]
  rw [hs]
  exact ⟨rfl, hC.h52 hFd (fun e he => by rw [hhd e he, dg_0]; rfl), hFd.mono (fun k z => by subst z; decide)⟩

set_option maxRecDepth 100000 in
set_option maxHeartbeats 4000000 in
theorem ct_X5_goOn (l : Launch) (w : WD) (hN : 54 ≤ wN w) (σ : SG) (a : Row) (hM : Mr σ 41 a) (hB : Bd a) (hd1 : a 1 ≤ 28000) (m : Nat) (hm : m ≤ 28) (fw : Nat) (hf2 : fw ≤ a 2) : CtV l w yX5_goOn cX5_goOn 6 5 0 0 [.ref (wA w 38), .int (nI m), .int (nI fw)] σ (fun τ => Mr τ 41 (nD a fw m).1 ∧ Sm τ (nV a fw m) (nD a fw m).2.2.2.1 (nD a fw m).2.2.2.2.1 (nD a fw m).2.2.2.2.2.1 (nD a fw m).2.2.2.2.2.2 ∧ FrM σ τ) := by
  refine CtV.mk (by decide) (Nat.le_of_ble_eq_true rfl) ?_
  intro K C hr h0
  have r := RV.of hr h0
  clear hr h0
  show G l w K 0 [(0, .ref (wA w 38)), (1, .int (nI m)), (2, .int (nI fw))] [] σ
  obtain ⟨hBa, hB0, hB1, hB2, hB3, hB4, hB5, hB6, hB7, hBs, hBp, hBe⟩ := id hB
  refine g_aload_n C dX5_goOn_0 rfl rfl ?_
  refine g_aload_n C dX5_goOn_1 rfl rfl ?_
  refine g_get (v := .ref (wA w 41)) C fl_X5_16 fs_X5_16 (Nat.lt_of_lt_of_le (by decide) hN) rfl rfl dX5_goOn_2 ?_
  refine g_callVV (rest := []) C mv_X5_107 (ct_X5_asTold l w hN σ 41 (Nat.lt_of_lt_of_le (by decide) hN) rfl a hM hB (by decide)) (Nat.lt_of_lt_of_le (by decide) hN) rfl rfl (by decide) rfl (Nat.le_of_ble_eq_true rfl) dX5_goOn_5 (fun σt h1 => ?_)
  obtain ⟨hht, hFt⟩ := h1
  refine g_iconst C dX5_goOn_8 ic_0 ?_
  refine g_istore_n (lv' := [(3, .int 0), (0, .ref (wA w 38)), (1, .int (nI m)), (2, .int (nI fw))]) C dX5_goOn_9 rfl (by decide) rfl ?_
  have L10 : ∀ (m10 : Nat) (q : Nat) (σ1 : SG), m10 = 6 - q → (q ≤ 6) → (∀ j, j < q → σ1 45 j = 0) → (Mr σ1 41 a) → (∀ e, e < a 0 → σ1 43 e = nI (hun a e)) → (FrM σ σ1) → G l w K 10 [(0, .ref (wA w 38)), (1, .int (nI m)), (2, .int (nI fw)), (3, .int (nI q))] [] σ1 := by
    intro m10
    induction m10 using Nat.strongRecOn with
    | ind m10 ih10 =>
    intro q σ1 em10 hq hz hM1 hh1 hF1
    refine g_iload_n C dX5_goOn_10 rfl rfl ?_
    refine g_bipush C dX5_goOn_11 bp_6 ?_
    refine g_icmp_ge (tgt := 29) C dX5_goOn_13 rfl (fun c13_2 => ?_) (fun c13_2 => ?_)
    · skip
      have n13_2 : 6 ≤ q := (nj_le (a := 6) (b := q) (by omega) (by omega)).mp c13_2
      obtain rfl : q = 6 := by omega
      refine g_iload_n C dX5_goOn_29 rfl rfl ?_
      refine g_istore_n (lv' := [(3, .int (nI fw)), (0, .ref (wA w 38)), (1, .int (nI m)), (2, .int (nI fw))]) C dX5_goOn_30 rfl (by decide) rfl ?_
      refine g_iconst C dX5_goOn_31 ic_0 ?_
      refine g_istore (lv' := [(4, .int 0), (3, .int (nI fw)), (0, .ref (wA w 38)), (1, .int (nI m)), (2, .int (nI fw))]) C dX5_goOn_32 (by decide) rfl ?_
      have L34 : ∀ (m34 : Nat) (k : Nat) (f : Nat) (p : Row) (σ1 : SG), m34 = m - k → (k ≤ m) → (p = (nD a fw k).1) → (f = (nD a fw k).2.1) → (Mr σ1 41 p) → (Sm σ1 (nD a fw k).2.2.1 (nD a fw k).2.2.2.1 (nD a fw k).2.2.2.2.1 (nD a fw k).2.2.2.2.2.1 (nD a fw k).2.2.2.2.2.2) → (∀ e, e < a 0 → σ1 43 e = nI (hun a e)) → (FrM σ σ1) → G l w K 34 [(0, .ref (wA w 38)), (1, .int (nI m)), (3, .int (nI f)), (4, .int (nI k))] [] σ1 := by
        intro m34
        induction m34 using Nat.strongRecOn with
        | ind m34 ih34 =>
        intro k f p σ1 em34 hk hp hf hM1 hS1 hh1 hF1
        have hbd := nD_bd hB hd1 hf2 k (by omega)
        rw [← hp, ← hf] at hbd
        obtain ⟨hBq, hp1, hfl, hp2⟩ := hbd
        have hBp_ := hBq.1
        have hhp : hun p = hun a := by rw [hp]; exact hun_nD a fw k
        have hp0 : p 0 = a 0 := by rw [hp]; exact nD_0 a fw k 0 (by omega) (by omega)
        have hpo := hBq.2.2.2.2.2.2.2.2.2.2.1 (p 1 % 7) (by omega)
        have hhu : ∀ e, e < p 0 → σ1 43 e = nI (hun p e) := by rw [hhp, hp0]; exact hh1
        have hu11 : ∀ e, e < p 0 → hun p e ≤ 11 := fun e he => (hBq.2.2.2.2.2.2.2.2.2.2.2 e (by have := hBq.2.1; omega)).2.1
        have hb1 := hBp_ 1
        have hbo := hBp_ (20 + (p 1 % 7))
        refine g_iload C dX5_goOn_34 rfl ?_
        refine g_iload_n C dX5_goOn_36 rfl rfl ?_
        refine g_icmp_ge (tgt := 181) C dX5_goOn_37 rfl (fun c37_3 => ?_) (fun c37_3 => ?_)
        · skip
          have n37_3 : m ≤ k := (nj_le (a := m) (b := k) (by omega) (by omega)).mp c37_3
          have hkm : k = m := by omega
          refine g_vret C r dX5_goOn_181 ?_
          rw [← hkm, ← hp]
          exact ⟨hM1, by rw [hp] at *; exact hS1, hF1⟩
        · skip
          have n37_3 : ¬ (m ≤ k) := fun qq => c37_3 ((nj_le (a := m) (b := k) (by omega) (by omega)).mpr qq)
          have L97 : ∀ (f2 : Nat) (σ2 : SG), (f2 = shF p f) → (Mr σ2 41 (dyR (hun p) p f)) → (Dt σ2 (dyV (hun p) p f) (dyL (hun p) p f) (dyK (hun p) p f) (shB p f)) → (σ2 38 10 = nI (dyT (hun p) p f)) → (Sm σ2 (nD a fw k).2.2.1 (nD a fw k).2.2.2.1 (nD a fw k).2.2.2.2.1 (nD a fw k).2.2.2.2.2.1 (nD a fw k).2.2.2.2.2.2) → (∀ e, e < a 0 → σ2 43 e = nI (hun a e)) → (FrM σ σ2) → G l w K 97 [(0, .ref (wA w 38)), (1, .int (nI m)), (3, .int (nI f2)), (4, .int (nI k))] [] σ2 := by
            intro f2 σ2 hf2_ hM2 D2 ht2 hS2 hh2 hF2
            refine g_aload_n C dX5_goOn_97 rfl rfl ?_
            refine g_get (v := .ref (wA w 45)) C fl_X5_28 fs_X5_28 (Nat.lt_of_lt_of_le (by decide) hN) rfl rfl dX5_goOn_98 ?_
            refine g_iconst C dX5_goOn_101 ic_0 ?_
            refine g_dup2 C dX5_goOn_102 rfl rfl ?_
            refine g_ial (k0 := 45) (n := 6) C (Nat.lt_of_lt_of_le (by decide) hN) rfl (j := 0) (by unfold ix; decide) dX5_goOn_103 ?_
            refine g_aload_n C dX5_goOn_104 rfl rfl ?_
            refine g_get (v := .int (σ2 38 8)) C fl_X5_85 fs_X5_85 (Nat.lt_of_lt_of_le (by decide) hN) rfl rfl dX5_goOn_105 ?_
            refine g_iaddv (v := (σ2 45 0) + (σ2 38 8)) C rfl dX5_goOn_108 ?_
            refine g_ias (k0 := 45) (n := 6) C (Nat.lt_of_lt_of_le (by decide) hN) rfl (j := 0) (by unfold ix; decide) dX5_goOn_109 (fun t1 ht1 => ?_)
            refine g_aload_n C dX5_goOn_110 rfl rfl ?_
            refine g_get (v := .ref (wA w 45)) C fl_X5_28 fs_X5_28 (Nat.lt_of_lt_of_le (by decide) hN) rfl rfl dX5_goOn_111 ?_
            refine g_iconst C dX5_goOn_114 ic_1 ?_
            refine g_dup2 C dX5_goOn_115 rfl rfl ?_
            refine g_ial (k0 := 45) (n := 6) C (Nat.lt_of_lt_of_le (by decide) hN) rfl (j := 1) (by unfold ix; decide) dX5_goOn_116 ?_
            refine g_aload_n C dX5_goOn_117 rfl rfl ?_
            refine g_get (v := .int (t1 38 7)) C fl_X5_94 fs_X5_94 (Nat.lt_of_lt_of_le (by decide) hN) rfl rfl dX5_goOn_118 ?_
            refine g_iaddv (v := (t1 45 1) + (t1 38 7)) C rfl dX5_goOn_121 ?_
            refine g_ias (k0 := 45) (n := 6) C (Nat.lt_of_lt_of_le (by decide) hN) rfl (j := 1) (by unfold ix; decide) dX5_goOn_122 (fun t2_ ht2_ => ?_)
            refine g_aload_n C dX5_goOn_123 rfl rfl ?_
            refine g_get (v := .ref (wA w 45)) C fl_X5_28 fs_X5_28 (Nat.lt_of_lt_of_le (by decide) hN) rfl rfl dX5_goOn_124 ?_
            refine g_iconst C dX5_goOn_127 ic_2 ?_
            refine g_dup2 C dX5_goOn_128 rfl rfl ?_
            refine g_ial (k0 := 45) (n := 6) C (Nat.lt_of_lt_of_le (by decide) hN) rfl (j := 2) (by unfold ix; decide) dX5_goOn_129 ?_
            refine g_aload_n C dX5_goOn_130 rfl rfl ?_
            refine g_get (v := .int (t2_ 38 9)) C fl_X5_88 fs_X5_88 (Nat.lt_of_lt_of_le (by decide) hN) rfl rfl dX5_goOn_131 ?_
            refine g_iaddv (v := (t2_ 45 2) + (t2_ 38 9)) C rfl dX5_goOn_134 ?_
            refine g_ias (k0 := 45) (n := 6) C (Nat.lt_of_lt_of_le (by decide) hN) rfl (j := 2) (by unfold ix; decide) dX5_goOn_135 (fun t3 ht3 => ?_)
            refine g_aload_n C dX5_goOn_136 rfl rfl ?_
            refine g_get (v := .ref (wA w 45)) C fl_X5_28 fs_X5_28 (Nat.lt_of_lt_of_le (by decide) hN) rfl rfl dX5_goOn_137 ?_
            refine g_iconst C dX5_goOn_140 ic_3 ?_
            refine g_dup2 C dX5_goOn_141 rfl rfl ?_
            refine g_ial (k0 := 45) (n := 6) C (Nat.lt_of_lt_of_le (by decide) hN) rfl (j := 3) (by unfold ix; decide) dX5_goOn_142 ?_
            refine g_aload_n C dX5_goOn_143 rfl rfl ?_
            refine g_get (v := .int (t3 38 10)) C fl_X5_104 fs_X5_104 (Nat.lt_of_lt_of_le (by decide) hN) rfl rfl dX5_goOn_144 ?_
            refine g_iaddv (v := (t3 45 3) + (t3 38 10)) C rfl dX5_goOn_147 ?_
            refine g_ias (k0 := 45) (n := 6) C (Nat.lt_of_lt_of_le (by decide) hN) rfl (j := 3) (by unfold ix; decide) dX5_goOn_148 (fun t4 ht4 => ?_)
            refine g_aload_n C dX5_goOn_149 rfl rfl ?_
            refine g_get (v := .ref (wA w 45)) C fl_X5_28 fs_X5_28 (Nat.lt_of_lt_of_le (by decide) hN) rfl rfl dX5_goOn_150 ?_
            refine g_iconst C dX5_goOn_153 ic_4 ?_
            refine g_dup2 C dX5_goOn_154 rfl rfl ?_
            refine g_ial (k0 := 45) (n := 6) C (Nat.lt_of_lt_of_le (by decide) hN) rfl (j := 4) (by unfold ix; decide) dX5_goOn_155 ?_
            refine g_aload_n C dX5_goOn_156 rfl rfl ?_
            refine g_get (v := .int (t4 38 11)) C fl_X5_91 fs_X5_91 (Nat.lt_of_lt_of_le (by decide) hN) rfl rfl dX5_goOn_157 ?_
            refine g_iaddv (v := (t4 45 4) + (t4 38 11)) C rfl dX5_goOn_160 ?_
            refine g_ias (k0 := 45) (n := 6) C (Nat.lt_of_lt_of_le (by decide) hN) rfl (j := 4) (by unfold ix; decide) dX5_goOn_161 (fun t5 ht5 => ?_)
            refine g_aload_n C dX5_goOn_162 rfl rfl ?_
            refine g_get (v := .ref (wA w 45)) C fl_X5_28 fs_X5_28 (Nat.lt_of_lt_of_le (by decide) hN) rfl rfl dX5_goOn_163 ?_
            refine g_iconst C dX5_goOn_166 ic_5 ?_
            refine g_dup2 C dX5_goOn_167 rfl rfl ?_
            refine g_ial (k0 := 45) (n := 6) C (Nat.lt_of_lt_of_le (by decide) hN) rfl (j := 5) (by unfold ix; decide) dX5_goOn_168 ?_
            refine g_aload_n C dX5_goOn_169 rfl rfl ?_
            refine g_get (v := .int (t5 38 12)) C fl_X5_81 fs_X5_81 (Nat.lt_of_lt_of_le (by decide) hN) rfl rfl dX5_goOn_170 ?_
            refine g_iaddv (v := (t5 45 5) + (t5 38 12)) C rfl dX5_goOn_173 ?_
            refine g_ias (k0 := 45) (n := 6) C (Nat.lt_of_lt_of_le (by decide) hN) rfl (j := 5) (by unfold ix; decide) dX5_goOn_174 (fun t6 ht6 => ?_)
            obtain ⟨hSs, hFs⟩ := go_sum (σ1 := σ2) hS2 D2 ht2 ht1 ht2_ ht3 ht4 ht5 ht6
            refine g_iinc (v := nI (k + 1)) (lv' := [(4, .int (nI (k + 1))), (0, .ref (wA w 38)), (1, .int (nI m)), (3, .int (nI f2))]) C dX5_goOn_175 (by decide) rfl (nj_inc k) rfl ?_
            refine g_goto (tgt := 34) C dX5_goOn_178 rfl ?_
            exact g_lvp [1, 2, 3, 0] rfl (ih34 (m - (k + 1)) (by omega) (k + 1) f2 (dyR (hun p) p f) t6 rfl (by first | omega | assumption | rfl | grind) (by rw [hp, hf]; rfl) (by rw [hf2_, hp, hf]; rfl) (hM2.fr (hFs 41 (by decide))) (by rw [hp, hf] at hSs; exact hSs) (by rw [hFs 43 (by decide)]; exact hh2) (hF2.tr (FrM.f hFs (by decide))))
          refine g_aload_n C dX5_goOn_40 rfl rfl ?_
          refine g_get (v := .ref (wA w 41)) C fl_X5_16 fs_X5_16 (Nat.lt_of_lt_of_le (by decide) hN) rfl rfl dX5_goOn_41 ?_
          refine g_bipush C dX5_goOn_44 bp_20 ?_
          refine g_aload_n C dX5_goOn_46 rfl rfl ?_
          refine g_get (v := .ref (wA w 41)) C fl_X5_16 fs_X5_16 (Nat.lt_of_lt_of_le (by decide) hN) rfl rfl dX5_goOn_47 ?_
          refine g_iconst C dX5_goOn_50 ic_1 ?_
          refine g_ial (k0 := 41) (n := 46) C (Nat.lt_of_lt_of_le (by decide) hN) rfl (j := 1) (by unfold ix; decide) dX5_goOn_51 ?_
          refine g_val (y := nI (p 1)) (hM1 1 (by omega)) ?_
          refine g_bipush C dX5_goOn_52 bp_7 ?_
          refine g_iremv (v := nI (p 1 % 7)) C (by decide) (nj_rem (b := 7) (by omega) (by omega)) dX5_goOn_54 ?_
          refine g_iaddv (v := nI (20 + (p 1 % 7))) C (nj_plus 20 (p 1 % 7)) dX5_goOn_55 ?_
          refine g_ial (k0 := 41) (n := 46) C (Nat.lt_of_lt_of_le (by decide) hN) rfl (j := 20 + (p 1 % 7)) (ix_n (by omega)) dX5_goOn_56 ?_
          refine g_val (y := nI (p (20 + (p 1 % 7)))) (hM1 (20 + (p 1 % 7)) (by omega)) ?_
          refine g_iconst C dX5_goOn_57 ic_1 ?_
          refine g_icmp_ne (tgt := 65) C dX5_goOn_58 rfl (fun c58_4 => ?_) (fun c58_4 => ?_)
          · skip
            have n58_4 : ¬ (p (20 + (p 1 % 7)) = 1) := fun qq => c58_4 ((nj_eq (a := p (20 + (p 1 % 7))) (b := 1) (by omega) (by omega)).mpr qq)
            have hcl : p (20 + (p 1 % 7)) = 0 := by omega
            obtain ⟨q1, q2, q3⟩ := dy_cl hcl (hun p) f
            have r1 : dyR (hun p) p 0 = dyR (hun p) p f := by unfold dyR; rw [q1]
            have r2 : dyV (hun p) p 0 = dyV (hun p) p f := by unfold dyV dyT; rw [q1, q2]
            have r3 : dyL (hun p) p 0 = dyL (hun p) p f := by unfold dyL; rw [q1]
            have r4 : dyK (hun p) p 0 = dyK (hun p) p f := by unfold dyK; rw [q1]
            have r5 : dyT (hun p) p 0 = dyT (hun p) p f := by unfold dyT; rw [q1]
            refine g_iconst C dX5_goOn_65 ic_0 ?_
            refine g_istore (lv' := [(5, .int 0), (0, .ref (wA w 38)), (1, .int (nI m)), (3, .int (nI f)), (4, .int (nI k))]) C dX5_goOn_66 (by decide) rfl ?_
            refine g_aload_n C dX5_goOn_68 rfl rfl ?_
            refine g_aload_n C dX5_goOn_69 rfl rfl ?_
            refine g_get (v := .ref (wA w 41)) C fl_X5_16 fs_X5_16 (Nat.lt_of_lt_of_le (by decide) hN) rfl rfl dX5_goOn_70 ?_
            refine g_iload C dX5_goOn_73 rfl ?_
            refine g_if_eq (tgt := 82) C dX5_goOn_75 rfl (fun c75_5 => ?_) (fun c75_5 => ?_)
            · skip
              refine g_iconst C dX5_goOn_82 ic_0 ?_
              refine g_callVV (rest := []) C mv_X5_111 (ct_X5_day l w hN σ1 41 (Nat.lt_of_lt_of_le (by decide) hN) rfl p hM1 hBq (by decide) (by decide) (by decide) (hun p) hhu hu11 0 (by omega) (by omega)) (Nat.lt_of_lt_of_le (by decide) hN) rfl rfl (by decide) rfl (Nat.le_of_ble_eq_true rfl) dX5_goOn_83 (fun σd h6 => ?_)
              obtain ⟨hMd, Dd, htd, hFd⟩ := h6
              rw [r1] at hMd
              rw [r2, r3, r4, q3] at Dd
              rw [r5] at htd
              refine g_iload C dX5_goOn_86 rfl ?_
              refine g_if_eq (tgt := 95) C dX5_goOn_88 rfl (fun c88_7 => ?_) (fun c88_7 => ?_)
              · skip
                refine g_iload_n C dX5_goOn_95 rfl rfl ?_
                refine g_istore_n (lv' := [(3, .int (nI f)), (5, .int 0), (0, .ref (wA w 38)), (1, .int (nI m)), (4, .int (nI k))]) C dX5_goOn_96 rfl (by decide) rfl ?_
                exact g_lvp [2, 3, 0, 4] rfl (L97 f σd (by unfold shF; first | rw [if_pos (by omega)] | rw [if_neg (by omega)]) (hMd) (Dd) (htd) (by have z := hFd.1 45 (by decide) (by decide) (by decide); unfold Sm; rw [z]; exact hS1) (by rw [hFd.1 43 (by decide) (by decide) (by decide)]; exact hh1) (hF1.tr (FrM.y hFd)))
              · exact absurd c75_5 c88_7
            · exact absurd c75_5 (by decide)
          · skip
            have n58_4 : p (20 + (p 1 % 7)) = 1 := (nj_eq (a := p (20 + (p 1 % 7))) (b := 1) (by omega) (by omega)).mp c58_4
            have hcl : ¬ p (20 + (p 1 % 7)) = 0 := by omega
            have q3 : shB p f = shB p f := rfl
            have r1 : dyR (hun p) p f = dyR (hun p) p f := rfl
            have r2 : dyV (hun p) p f = dyV (hun p) p f := rfl
            have r3 : dyL (hun p) p f = dyL (hun p) p f := rfl
            have r4 : dyK (hun p) p f = dyK (hun p) p f := rfl
            have r5 : dyT (hun p) p f = dyT (hun p) p f := rfl
            refine g_iconst C dX5_goOn_61 ic_1 ?_
            refine g_goto (tgt := 66) C dX5_goOn_62 rfl ?_
            refine g_istore (lv' := [(5, .int 1), (0, .ref (wA w 38)), (1, .int (nI m)), (3, .int (nI f)), (4, .int (nI k))]) C dX5_goOn_66 (by decide) rfl ?_
            refine g_aload_n C dX5_goOn_68 rfl rfl ?_
            refine g_aload_n C dX5_goOn_69 rfl rfl ?_
            refine g_get (v := .ref (wA w 41)) C fl_X5_16 fs_X5_16 (Nat.lt_of_lt_of_le (by decide) hN) rfl rfl dX5_goOn_70 ?_
            refine g_iload C dX5_goOn_73 rfl ?_
            refine g_if_eq (tgt := 82) C dX5_goOn_75 rfl (fun c75_8 => ?_) (fun c75_8 => ?_)
            · exact absurd c75_8 (by decide)
            · skip
              refine g_iload_n C dX5_goOn_78 rfl rfl ?_
              refine g_goto (tgt := 83) C dX5_goOn_79 rfl ?_
              refine g_callVV (rest := []) C mv_X5_111 (ct_X5_day l w hN σ1 41 (Nat.lt_of_lt_of_le (by decide) hN) rfl p hM1 hBq (by decide) (by decide) (by decide) (hun p) hhu hu11 f (by omega) (by omega)) (Nat.lt_of_lt_of_le (by decide) hN) rfl rfl (by decide) rfl (Nat.le_of_ble_eq_true rfl) dX5_goOn_83 (fun σd h9 => ?_)
              obtain ⟨hMd, Dd, htd, hFd⟩ := h9
              rw [r1] at hMd
              rw [r2, r3, r4, q3] at Dd
              rw [r5] at htd
              refine g_iload C dX5_goOn_86 rfl ?_
              refine g_if_eq (tgt := 95) C dX5_goOn_88 rfl (fun c88_10 => ?_) (fun c88_10 => ?_)
              · exact absurd c88_10 c75_8
              · skip
                refine g_iconst C dX5_goOn_91 ic_0 ?_
                refine g_goto (tgt := 96) C dX5_goOn_92 rfl ?_
                refine g_istore_n (lv' := [(3, .int 0), (5, .int 1), (0, .ref (wA w 38)), (1, .int (nI m)), (4, .int (nI k))]) C dX5_goOn_96 rfl (by decide) rfl ?_
                exact g_lvp [2, 3, 0, 4] rfl (L97 0 σd (by unfold shF; first | rw [if_pos (by omega)] | rw [if_neg (by omega)]) (hMd) (Dd) (htd) (by have z := hFd.1 45 (by decide) (by decide) (by decide); unfold Sm; rw [z]; exact hS1) (by rw [hFd.1 43 (by decide) (by decide) (by decide)]; exact hh1) (hF1.tr (FrM.y hFd)))
      exact g_lvp [2, 3, 1, 0] rfl (L34 (m - 0) 0 fw a σ1 rfl (by first | omega | assumption | rfl | grind) (rfl) (rfl) (hM1) (⟨hz 0 (by omega), hz 1 (by omega), hz 2 (by omega), hz 3 (by omega), hz 4 (by omega), hz 5 (by omega)⟩) (hh1) (hF1))
    · skip
      have n13_2 : ¬ (6 ≤ q) := fun qq => c13_2 ((nj_le (a := 6) (b := q) (by omega) (by omega)).mpr qq)
      refine g_aload_n C dX5_goOn_16 rfl rfl ?_
      refine g_get (v := .ref (wA w 45)) C fl_X5_28 fs_X5_28 (Nat.lt_of_lt_of_le (by decide) hN) rfl rfl dX5_goOn_17 ?_
      refine g_iload_n C dX5_goOn_20 rfl rfl ?_
      refine g_iconst C dX5_goOn_21 ic_0 ?_
      refine g_ias (k0 := 45) (n := 6) C (Nat.lt_of_lt_of_le (by decide) hN) rfl (j := q) (ix_n (by omega)) dX5_goOn_22 (fun σz hσz => ?_)
      refine g_iinc (v := nI (q + 1)) (lv' := [(3, .int (nI (q + 1))), (0, .ref (wA w 38)), (1, .int (nI m)), (2, .int (nI fw))]) C dX5_goOn_23 (by decide) rfl (nj_inc q) rfl ?_
      refine g_goto (tgt := 10) C dX5_goOn_26 rfl ?_
      exact g_lvp [1, 2, 3, 0] rfl (ih10 (6 - (q + 1)) (by omega) (q + 1) σz rfl (by first | omega | assumption | rfl | grind) (fun j h => by rw [hσz, up_at]; exact (Decidable.em (j = q)).elim (fun z => by rw [if_pos ⟨rfl, z⟩]) (fun z => by rw [if_neg (fun y => z y.2)]; exact hz j (by omega))) (hM1.fr (by rw [hσz, up_other (by decide)])) (by rw [hσz, up_other (by decide)]; exact hh1) (hF1.tr (by rw [hσz]; exact FrM.u (by decide))))
  exact g_lvp [1, 2, 3, 0] rfl (L10 (6 - 0) 0 σt rfl (by first | omega | assumption | rfl | grind) (fun j h => absurd h (Nat.not_lt_zero _)) (hM.fr (hFt 41 (by decide))) (hht) (FrM.f hFt (by decide)))

set_option maxRecDepth 100000 in
set_option maxHeartbeats 4000000 in
theorem ct_X5_day (l : Launch) (w : WD) (hN : 54 ≤ wN w) (σ : SG) (c : Nat) (hck : c < wN w) (hcs : shp w c = aI w 46) (a : Row) (hM : Mr σ c a) (hB : Bd a) (hc8 : c ≠ 38) (hc4 : c ≠ 44) (hc3 : c ≠ 43) (hu : Nat → Nat) (hhu : ∀ e, e < a 0 → σ 43 e = nI (hu e)) (hu11 : ∀ e, e < a 0 → hu e ≤ 11) (fw : Nat) (hf2 : fw ≤ a 2) (hd1 : a 1 ≤ 29000) : CtV l w yX5_day cX5_day 7 4 0 0 [.ref (wA w 38), .ref (wA w c), .int (nI fw)] σ (fun τ => Mr τ c (dyR hu a fw) ∧ Dt τ (dyV hu a fw) (dyL hu a fw) (dyK hu a fw) (shB a fw) ∧ τ 38 10 = nI (dyT hu a fw) ∧ FrY c σ τ) := by
  refine CtV.mk (by decide) (Nat.le_of_ble_eq_true rfl) ?_
  intro K C hr h0
  have r := RV.of hr h0
  clear hr h0
  show G l w K 0 [(0, .ref (wA w 38)), (1, .ref (wA w c)), (2, .int (nI fw))] [] σ
  obtain ⟨hBa, hB0, hB1, hB2, hB3, hB4, hB5, hB6, hB7, hBs, hBp, hBe⟩ := id hB
  have h10 : a 10 ≤ 60 := hBs 0 (by omega)
  have h11 : a 11 ≤ 60 := hBs 1 (by omega)
  have hop := hBp (a 1 % 7) (by omega)
  refine g_aload_n C dX5_day_0 rfl rfl ?_
  refine g_iconst C dX5_day_1 ic_0 ?_
  refine g_putn C fp_X5_85 (Nat.lt_of_lt_of_le (by decide) hN) rfl rfl (Nat.le_of_ble_eq_true rfl) rfl rfl dX5_day_2 (fun s1 hs1 => ?_)
  refine g_aload_n C dX5_day_5 rfl rfl ?_
  refine g_iconst C dX5_day_6 ic_0 ?_
  refine g_putn C fp_X5_88 (Nat.lt_of_lt_of_le (by decide) hN) rfl rfl (Nat.le_of_ble_eq_true rfl) rfl rfl dX5_day_7 (fun s2 hs2 => ?_)
  refine g_aload_n C dX5_day_10 rfl rfl ?_
  refine g_iconst C dX5_day_11 ic_0 ?_
  refine g_putn C fp_X5_91 (Nat.lt_of_lt_of_le (by decide) hN) rfl rfl (Nat.le_of_ble_eq_true rfl) rfl rfl dX5_day_12 (fun s3 hs3 => ?_)
  refine g_aload_n C dX5_day_15 rfl rfl ?_
  refine g_iconst C dX5_day_16 ic_0 ?_
  refine g_putn C fp_X5_81 (Nat.lt_of_lt_of_le (by decide) hN) rfl rfl (Nat.le_of_ble_eq_true rfl) rfl rfl dX5_day_17 (fun s4 hs4 => ?_)
  refine g_aload_n C dX5_day_20 rfl rfl ?_
  refine g_iconst C dX5_day_21 ic_0 ?_
  refine g_putn C fp_X5_94 (Nat.lt_of_lt_of_le (by decide) hN) rfl rfl (Nat.le_of_ble_eq_true rfl) rfl rfl dX5_day_22 (fun σ5 hσ5 => ?_)
  have D5 : Dt σ5 0 [] 0 0 := by refine ⟨?_, ?_, ?_, ?_, ?_, fun i hi => absurd hi (Nat.not_lt_zero _)⟩ <;> simp [hσ5, hs4, hs3, hs2, hs1, up_at] <;> rfl
  have hM5 : Mr σ5 c a := hM.fr (by rw [hσ5, up_other hc8, hs4, up_other hc8, hs3, up_other hc8, hs2, up_other hc8, hs1, up_other hc8])
  have hF5 : FrY c σ σ5 := by rw [hσ5, hs4, hs3, hs2, hs1]; exact ((((FrY.o ⟨by omega, by omega⟩).tr (FrY.o ⟨by omega, by omega⟩)).tr (FrY.o ⟨by omega, by omega⟩)).tr (FrY.o ⟨by omega, by omega⟩)).tr (FrY.o ⟨by omega, by omega⟩)
  have L126 : ∀ (σ1 : SG), (Mr σ1 c (shR a fw)) → (Dt σ1 (0 - shV a fw) [] 0 (shB a fw)) → (FrY c σ σ1) → G l w K 126 [(0, .ref (wA w 38)), (1, .ref (wA w c))] [] σ1 := by
    intro σ1 hM1 D1 hF1
    obtain ⟨b, hb⟩ : ∃ q, q = shR a fw := ⟨_, rfl⟩
    rw [← hb] at hM1
    have hBb : Bd b := by rw [hb]; exact shR_bd hB fw
    have hsb : SmE a b := by rw [hb]; exact shR_sm a fw
    have hE0 : eaS hu b (a 0) = dyE hu a fw := by rw [hb]; rfl
    refine g_iconst C dX5_day_126 ic_0 ?_
    refine g_istore_n (lv' := [(3, .int 0), (0, .ref (wA w 38)), (1, .ref (wA w c))]) C dX5_day_127 rfl (by decide) rfl ?_
    have L128 : ∀ (m128 : Nat) (e : Nat) (σ2 : SG), m128 = a 0 - e → (e ≤ a 0) → (Mr σ2 c (eaS hu b e).1) → (Dt σ2 (eV hu b e (shV a fw)) (eaS hu b e).2.1 (eaS hu b e).2.2.1 (shB a fw)) → (FrY c σ σ2) → G l w K 128 [(0, .ref (wA w 38)), (1, .ref (wA w c)), (3, .int (nI e))] [] σ2 := by
      intro m128
      induction m128 using Nat.strongRecOn with
      | ind m128 ih128 =>
      intro e σ2 em128 he hM2 D2 hF2
      obtain ⟨p, hp⟩ : ∃ q, q = (eaS hu b e).1 := ⟨_, rfl⟩
      obtain ⟨L, hL⟩ : ∃ q, q = (eaS hu b e).2.1 := ⟨_, rfl⟩
      obtain ⟨la, hla⟩ : ∃ q, q = (eaS hu b e).2.2.1 := ⟨_, rfl⟩
      have hsp := eaS_sm hu b e
      rw [← hp] at hsp
      have hMp : Mr σ2 c p := by rw [hp]; exact hM2
      have hBq : Bd p := hBb.sm hsp.1 hsp.2
      have hBp_ := hBq.1
      have g0 : p 0 = a 0 := (hsp.1 0 (by omega)).trans (hsb 0 (by omega))
      have hhu2 : ∀ q, q < a 0 → σ2 43 q = nI (hu q) := fun q hq => by rw [hF2.1 43 (fun z => hc3 z.symm) (by decide) (by decide)]; exact hhu q hq
      have hLl : L.length ≤ 11 * e := by rw [hL]; exact eaS_lenh hu11 b e he
      rw [← hL, ← hla] at D2
      refine g_iload_n C dX5_day_128 rfl rfl ?_
      refine g_aload_n C dX5_day_129 rfl rfl ?_
      refine g_iconst C dX5_day_130 ic_0 ?_
      refine g_ial (k0 := c) (n := 46) C hck hcs (j := 0) (by unfold ix; decide) dX5_day_131 ?_
      refine g_val (y := nI (p 0)) (hMp 0 (by omega)) ?_
      refine g_icmp_ge (tgt := 294) C dX5_day_132 rfl (fun c132_1 => ?_) (fun c132_1 => ?_)
      · skip
        have n132_1 : p 0 ≤ e := (nj_le (a := p 0) (b := e) (by omega) (by omega)).mp c132_1
        have hea : e = a 0 := by omega
        refine g_aload_n C dX5_day_294 rfl rfl ?_
        refine g_aload_n C dX5_day_295 rfl rfl ?_
        refine g_bipush C dX5_day_296 bp_14 ?_
        refine g_ial (k0 := c) (n := 46) C hck hcs (j := 14) (by unfold ix; decide) dX5_day_298 ?_
        refine g_val (y := nI (p 14)) (hMp 14 (by omega)) ?_
        refine g_putn C fp_X5_104 (Nat.lt_of_lt_of_le (by decide) hN) rfl rfl (Nat.le_of_ble_eq_true rfl) rfl rfl dX5_day_299 (fun σt hσt => ?_)
        have hMt : Mr σt c p := hMp.fr (by rw [hσt, up_other hc8])
        refine g_aload_n C dX5_day_302 rfl rfl ?_
        refine g_dup C dX5_day_303 rfl ?_
        refine g_get (v := .int (σt 38 8)) C fl_X5_85 fs_X5_85 (Nat.lt_of_lt_of_le (by decide) hN) rfl rfl dX5_day_304 ?_
        refine g_val (y := eV hu b e (shV a fw)) (by rw [hσt, up_elem (by decide)]; exact D2.1) ?_
        refine g_aload_n C dX5_day_307 rfl rfl ?_
        refine g_bipush C dX5_day_308 bp_6 ?_
        refine g_ial (k0 := c) (n := 46) C hck hcs (j := 6) (by unfold ix; decide) dX5_day_310 ?_
        refine g_val (y := nI (p 6)) (hMt 6 (by omega)) ?_
        refine g_aload_n C dX5_day_311 rfl rfl ?_
        refine g_get (v := .int (σt 38 11)) C fl_X5_91 fs_X5_91 (Nat.lt_of_lt_of_le (by decide) hN) rfl rfl dX5_day_312 ?_
        refine g_val (y := nI la) (by rw [hσt, up_elem (by decide)]; exact D2.2.2.2.1) ?_
        refine g_imulv (v := nI ((p 6) * la)) C (nj_times (p 6) la) dX5_day_315 ?_
        refine g_aload_n C dX5_day_316 rfl rfl ?_
        refine g_iconst C dX5_day_317 ic_5 ?_
        refine g_ial (k0 := c) (n := 46) C hck hcs (j := 5) (by unfold ix; decide) dX5_day_318 ?_
        refine g_val (y := nI (p 5)) (hMt 5 (by omega)) ?_
        refine g_aload_n C dX5_day_319 rfl rfl ?_
        refine g_get (v := .int (σt 38 10)) C fl_X5_104 fs_X5_104 (Nat.lt_of_lt_of_le (by decide) hN) rfl rfl dX5_day_320 ?_
        refine g_val (y := nI (p 14)) (by rw [hσt, up_same]) ?_
        refine g_imulv (v := nI ((p 5) * (p 14))) C (nj_times (p 5) (p 14)) dX5_day_323 ?_
        refine g_iaddv (v := nI (((p 6) * la) + ((p 5) * (p 14)))) C (nj_plus ((p 6) * la) ((p 5) * (p 14))) dX5_day_324 ?_
        refine g_isubv (v := (eV hu b e (shV a fw)) - (nI (((p 6) * la) + ((p 5) * (p 14))))) C rfl dX5_day_325 ?_
        refine g_putn C fp_X5_85 (Nat.lt_of_lt_of_le (by decide) hN) rfl rfl (Nat.le_of_ble_eq_true rfl) rfl rfl dX5_day_326 (fun σu hσu => ?_)
        rw [hea] at hσu D2
        refine g_iconst C dX5_day_329 ic_4 ?_
        refine g_istore_n (lv' := [(3, .int 4), (0, .ref (wA w 38)), (1, .ref (wA w c))]) C dX5_day_330 rfl (by decide) rfl ?_
        have L331 : ∀ (m331 : Nat) (q : Nat) (σ4 : SG), m331 = q → (q ≤ 4) → (Mr σ4 c (shN p q)) → (Dt σ4 (eV hu b (a 0) (shV a fw) - nI (p 6 * la + p 5 * p 14)) L la (shB a fw)) → (σ4 38 10 = nI (p 14)) → (FrY c σ σ4) → G l w K 331 [(0, .ref (wA w 38)), (1, .ref (wA w c)), (3, .int (nI q))] [] σ4 := by
          intro m331
          induction m331 using Nat.strongRecOn with
          | ind m331 ih331 =>
          intro q σ4 em331 hq hMs Ds hts hFs
          refine g_iload_n C dX5_day_331 rfl rfl ?_
          refine g_if_le (tgt := 355) C dX5_day_332 rfl (fun c332_2 => ?_) (fun c332_2 => ?_)
          · skip
            have n332_2 : q ≤ 0 := (nj_le (a := q) (b := 0) (by omega) (by omega)).mp c332_2
            obtain rfl : q = 0 := by omega
            refine g_aload_n C dX5_day_355 rfl rfl ?_
            refine g_bipush C dX5_day_356 bp_10 ?_
            refine g_iconst C dX5_day_358 ic_0 ?_
            refine g_ias (k0 := c) (n := 46) C hck hcs (j := 10) (by unfold ix; decide) dX5_day_359 (fun σw hσw => ?_)
            have hMw : Mr σw c (ua (shN p 0) 10 0) := by rw [hσw]; exact hMs.u (v := 0)
            refine g_aload_n C dX5_day_360 rfl rfl ?_
            refine g_iconst C dX5_day_361 ic_1 ?_
            refine g_dup2 C dX5_day_362 rfl rfl ?_
            refine g_ial (k0 := c) (n := 46) C hck hcs (j := 1) (by unfold ix; decide) dX5_day_363 ?_
            refine g_val (y := nI ((ua (shN p 0) 10 0) 1)) (hMw 1 (by omega)) ?_
            refine g_iconst C dX5_day_364 ic_1 ?_
            refine g_iaddv (v := nI (((ua (shN p 0) 10 0) 1) + 1)) C (nj_plus ((ua (shN p 0) 10 0) 1) 1) dX5_day_365 ?_
            refine g_ias (k0 := c) (n := 46) C hck hcs (j := 1) (by unfold ix; decide) dX5_day_366 (fun σx hσx => ?_)
            refine g_vret C r dX5_day_367 ?_
            have hpE : p = (dyE hu a fw).1 := by rw [hp, hea, hE0]
            have hLE : L = (dyE hu a fw).2.1 := by rw [hL, hea, hE0]
            have hlE : la = (dyE hu a fw).2.2.1 := by rw [hla, hea, hE0]
            have hMx : Mr σx c (dyR hu a fw) := by rw [hσx]; refine (hMw.u).ext (fun j _ => ?_); unfold dyR; rw [← hpE]; exact sh_row p j
            have Dx : Dt σx (eV hu (shR a fw) (a 0) (shV a fw) - nI (p 6 * (dyE hu a fw).2.2.1 + p 5 * p 14)) (dyE hu a fw).2.1 (dyE hu a fw).2.2.1 (shB a fw) := by rw [hσx, hσw, ← hLE, ← hlE, ← hb]; exact (Ds.c hc8 hc4).c hc8 hc4
            refine ⟨hMx, rday_fin (σ := σ) (c := c) hpE Dx, ?_, hFs.tr ((show FrY c σ4 σw by rw [hσw]; exact FrY.c hc8).tr (by rw [hσx]; exact FrY.c hc8))⟩
            unfold dyT
            rw [← hpE, hσx, up_other (fun z => hc8 z.symm), hσw, up_other (fun z => hc8 z.symm)]
            exact hts
          · skip
            have n332_2 : ¬ (q ≤ 0) := fun qq => c332_2 ((nj_le (a := q) (b := 0) (by omega) (by omega)).mpr qq)
            refine g_aload_n C dX5_day_335 rfl rfl ?_
            refine g_bipush C dX5_day_336 bp_10 ?_
            refine g_iload_n C dX5_day_338 rfl rfl ?_
            refine g_iaddv (v := nI (10 + q)) C (nj_plus 10 q) dX5_day_339 ?_
            refine g_aload_n C dX5_day_340 rfl rfl ?_
            refine g_bipush C dX5_day_341 bp_10 ?_
            refine g_iload_n C dX5_day_343 rfl rfl ?_
            refine g_iaddv (v := nI (10 + q)) C (nj_plus 10 q) dX5_day_344 ?_
            refine g_iconst C dX5_day_345 ic_1 ?_
            refine g_isubv (v := nI ((10 + q) - 1)) C (nj_minus (a := 10 + q) (b := 1) (by omega)) dX5_day_346 ?_
            refine g_ial (k0 := c) (n := 46) C hck hcs (j := (10 + q) - 1) (ix_n (by omega)) dX5_day_347 ?_
            refine g_val (y := nI ((shN p q) ((10 + q) - 1))) (hMs ((10 + q) - 1) (by omega)) ?_
            refine g_ias (k0 := c) (n := 46) C hck hcs (j := 10 + q) (ix_n (by omega)) dX5_day_348 (fun σv hσv => ?_)
            refine g_iinc (v := nI (q - 1)) (lv' := [(3, .int (nI (q - 1))), (0, .ref (wA w 38)), (1, .ref (wA w c))]) C dX5_day_349 (by decide) rfl (nj_dec (by omega)) rfl ?_
            refine g_goto (tgt := 331) C dX5_day_352 rfl ?_
            exact g_lvp [1, 2, 0] rfl (ih331 ((q - 1)) (by omega) (q - 1) σv rfl (by first | omega | assumption | rfl | grind) (by rw [hσv]; exact (hMs.u).ext (fun j _ => by rw [shN_step (by omega) (by omega) j, show 10 + (q - 1) = 10 + q - 1 by omega])) (by rw [hσv]; exact Ds.c hc8 hc4) (by rw [hσv, up_other (fun z => hc8 z.symm)]; exact hts) (hFs.tr (by rw [hσv]; exact FrY.c hc8)))
        exact g_lvp [1, 2, 0] rfl (L331 (4) 4 σu rfl (by first | omega | assumption | rfl | grind) (by rw [shN_4]; exact hMp.fr (by rw [hσu, up_other hc8, hσt, up_other hc8])) (by rw [hσu, hσt]; exact D2.th.v) (by rw [hσu, up_elem (by decide), hσt, up_same]) (hF2.tr ((show FrY c σ2 σt by rw [hσt]; exact FrY.o ⟨by omega, by omega⟩).tr (by rw [hσu]; exact FrY.o ⟨by omega, by omega⟩))))
      · skip
        have n132_1 : ¬ (p 0 ≤ e) := fun qq => c132_1 ((nj_le (a := p 0) (b := e) (by omega) (by omega)).mpr qq)
        have L166 : ∀ (W : Nat), (W = wan p (hu e)) → G l w K 166 [(0, .ref (wA w 38)), (1, .ref (wA w c)), (3, .int (nI e)), (4, .int (nI W))] [] σ2 := by
          intro W hW
          have hWh : W ≤ hu e := by rw [hW]; unfold wan; split <;> omega
          have hue := hu11 e (by omega)
          have L270 : ∀ (t : Nat) (a2 : Row) (l2 : List Nat) (σ3 : SG), (eatS e W p = (a2, l2)) → (l2.length = t) → (t ≤ W) → (Mr σ3 c a2) → (Dt σ3 (eV hu b e (shV a fw) + wsum p e l2) (L ++ l2) la (shB a fw)) → (FrY c σ σ3) → G l w K 270 [(0, .ref (wA w 38)), (1, .ref (wA w c)), (3, .int (nI e)), (5, .int (nI t))] [] σ3 := by
            intro t a2 l2 σ3 hX hl2 ht hM3 D3 hF3
            have hhu3 : σ3 43 e = nI (hu e) := by rw [hF3.1 43 (fun z => hc3 z.symm) (by decide) (by decide)]; exact hhu e (by omega)
            refine g_aload_n C dX5_day_270 rfl rfl ?_
            refine g_dup C dX5_day_271 rfl ?_
            refine g_get (v := .int (σ3 38 11)) C fl_X5_91 fs_X5_91 (Nat.lt_of_lt_of_le (by decide) hN) rfl rfl dX5_day_272 ?_
            refine g_val (y := nI la) D3.2.2.2.1 ?_
            refine g_aload_n C dX5_day_275 rfl rfl ?_
            refine g_get (v := .ref (wA w 43)) C fl_X5_22 fs_X5_22 (Nat.lt_of_lt_of_le (by decide) hN) rfl rfl dX5_day_276 ?_
            refine g_iload_n C dX5_day_279 rfl rfl ?_
            refine g_ial (k0 := 43) (n := 4) C (Nat.lt_of_lt_of_le (by decide) hN) rfl (j := e) (ix_n (by omega)) dX5_day_280 ?_
            refine g_val (y := nI (hu e)) hhu3 ?_
            refine g_iload C dX5_day_281 rfl ?_
            refine g_isubv (v := nI ((hu e) - t)) C (nj_minus (a := hu e) (b := t) (by omega)) dX5_day_283 ?_
            refine g_iaddv (v := nI (la + ((hu e) - t))) C (nj_plus la ((hu e) - t)) dX5_day_284 ?_
            refine g_putn C fp_X5_91 (Nat.lt_of_lt_of_le (by decide) hN) rfl rfl (Nat.le_of_ble_eq_true rfl) rfl rfl dX5_day_285 (fun σ9 hσ9 => ?_)
            refine g_iinc (v := nI (e + 1)) (lv' := [(3, .int (nI (e + 1))), (0, .ref (wA w 38)), (1, .ref (wA w c)), (5, .int (nI t))]) C dX5_day_288 (by decide) rfl (nj_inc e) rfl ?_
            refine g_goto (tgt := 128) C dX5_day_291 rfl ?_
            obtain ⟨k1, k2, k3, k4⟩ := eV_step (x := shV a fw) hp hW hX
            exact g_lvp [1, 2, 0] rfl (ih128 (a 0 - (e + 1)) (by omega) (e + 1) σ9 rfl (by first | omega | assumption | rfl | grind) (by rw [k2]; exact (hM3.fr (by rw [hσ9, up_other hc8]))) (by rw [k1, k3, k4, ← hL, ← hla, hσ9, ← hl2]; exact D3.la) (hF3.tr (by rw [hσ9]; exact FrY.o ⟨by omega, by omega⟩)))
          refine g_iconst C dX5_day_166 ic_0 ?_
          refine g_istore (lv' := [(5, .int 0), (0, .ref (wA w 38)), (1, .ref (wA w c)), (3, .int (nI e)), (4, .int (nI W))]) C dX5_day_167 (by decide) rfl ?_
          refine g_aload_n C dX5_day_169 rfl rfl ?_
          refine g_iload_n C dX5_day_170 rfl rfl ?_
          refine g_pSI (rest := []) (v := oJ (nxC p e) (-9)) C ms_X5_100 (ct_X5_next l w hN σ2 c hck hcs p hMp hBq e (by omega)) rfl (by decide) rfl (Nat.le_of_ble_eq_true rfl) dX5_day_171 ?_
          refine g_istore (lv' := [(6, .int (oJ (nxC p e) (-9))), (5, .int 0), (0, .ref (wA w 38)), (1, .ref (wA w c)), (3, .int (nI e)), (4, .int (nI W))]) C dX5_day_174 (by decide) rfl ?_
          have L176 : ∀ (m176 : Nat) (t : Nat) (a2 : Row) (l2 : List Nat) (x6 : Int32) (σ3 : SG), m176 = W - t → (x6 = oJ (nxC a2 e) (-9)) → (l2.length = t) → (t ≤ W) → (eatS e W p = ((eatS e (W - t) a2).1, l2 ++ (eatS e (W - t) a2).2)) → (SmE p a2) → (∀ j, a2 j ≤ p j) → (Mr σ3 c a2) → (Dt σ3 (eV hu b e (shV a fw) + wsum p e l2) (L ++ l2) la (shB a fw)) → (FrY c σ σ3) → G l w K 176 [(0, .ref (wA w 38)), (1, .ref (wA w c)), (3, .int (nI e)), (4, .int (nI W)), (5, .int (nI t)), (6, .int x6)] [] σ3 := by
            intro m176
            induction m176 using Nat.strongRecOn with
            | ind m176 ih176 =>
            intro t a2 l2 x6 σ3 em176 hx6 hl2 ht hE hSm hle hM3 D3 hF3
            have hB2_ : Bd a2 := hBq.sm hSm hle
            have hBa2 := hB2_.1
            refine g_iload C dX5_day_176 rfl ?_
            refine g_iload C dX5_day_178 rfl ?_
            refine g_icmp_ge (tgt := 270) C dX5_day_180 rfl (fun c180_3 => ?_) (fun c180_3 => ?_)
            · skip
              have n180_3 : W ≤ t := (nj_le (a := W) (b := t) (by omega) (by omega)).mp c180_3
              exact g_lvp [0, 1, 2, 4] rfl (L270 t a2 l2 σ3 (eat_exit hE (Or.inl (by omega))) (by first | omega | assumption | rfl | grind) (by first | omega | assumption | rfl | grind) (by first | omega | assumption | rfl | grind) (by first | omega | assumption | rfl | grind) (by first | omega | assumption | rfl | grind))
            · skip
              have n180_3 : ¬ (W ≤ t) := fun qq => c180_3 ((nj_le (a := W) (b := t) (by omega) (by omega)).mpr qq)
              refine g_iload C dX5_day_183 rfl ?_
              refine g_bipush C dX5_day_185 bp_m9 ?_
              refine g_icmp_eq (tgt := 270) C dX5_day_187 rfl (fun c187_4 => ?_) (fun c187_4 => ?_)
              · skip
                have hno : nxC a2 e = none := oJ9_neg hx6 c187_4 (fun g1 h1 => (nxC_spec h1).1)
                exact g_lvp [0, 1, 2, 4] rfl (L270 t a2 l2 σ3 (eat_exit hE (Or.inr hno)) (by first | omega | assumption | rfl | grind) (by first | omega | assumption | rfl | grind) (by first | omega | assumption | rfl | grind) (by first | omega | assumption | rfl | grind) (by first | omega | assumption | rfl | grind))
              · skip
                obtain ⟨g, hg, rfl⟩ := oJ9_pos hx6 c187_4
                obtain ⟨hg5, hgr, hge⟩ := nxC_spec hg
                have hr0 := (reachC_inR a2 g).mp hgr
                have hr1 := inR_le a2 g
                refine g_aload_n C dX5_day_190 rfl rfl ?_
                refine g_dup C dX5_day_191 rfl ?_
                obtain ⟨vv, hvv⟩ : ∃ q, q = eV hu b e (shV a fw) + wsum p e l2 := ⟨_, rfl⟩
                refine g_get (v := .int (σ3 38 8)) C fl_X5_85 fs_X5_85 (Nat.lt_of_lt_of_le (by decide) hN) rfl rfl dX5_day_192 ?_
                refine g_val (y := vv) (by rw [hvv]; exact D3.1) ?_
                refine g_aload_n C dX5_day_195 rfl rfl ?_
                refine g_iload_n C dX5_day_196 rfl rfl ?_
                refine g_iload C dX5_day_197 rfl ?_
                refine g_pSI (rest := [.int vv, .ref (wA w 38)]) (v := wJ a2 e g) C ms_X5_74 (ct_X5_worthOf l w hN σ3 c hck hcs a2 hM3 hB2_ e g (by omega) (by omega)) rfl (by decide) rfl (Nat.le_of_ble_eq_true rfl) dX5_day_199 ?_
                refine g_val (y := nI (wNt p e g)) (by rw [wJ, if_pos hge, sm_wNt hSm]) ?_
                refine g_iaddv (v := vv + (nI (wNt p e g))) C rfl dX5_day_202 ?_
                refine g_putn C fp_X5_85 (Nat.lt_of_lt_of_le (by decide) hN) rfl rfl (Nat.le_of_ble_eq_true rfl) rfl rfl dX5_day_203 (fun σ4 hσ4 => ?_)
                have hM4 : Mr σ4 c a2 := hM3.fr (by rw [hσ4, up_other hc8])
                have D4 : Dt σ4 (vv + nI (wNt p e g)) (L ++ l2) la (shB a fw) := by rw [hσ4]; exact D3.v
                have hws : eV hu b e (shV a fw) + wsum p e (l2 ++ [g]) = vv + nI (wNt p e g) := by rw [wsum_app, hvv]; show _ + (_ + (nI (wNt p e g) + 0)) = _; rw [Int32.add_zero, Int32.add_assoc]
                refine g_aload_n C dX5_day_206 rfl rfl ?_
                refine g_bipush C dX5_day_207 bp_10 ?_
                refine g_iload C dX5_day_209 rfl ?_
                refine g_iaddv (v := nI (10 + g)) C (nj_plus 10 g) dX5_day_211 ?_
                refine g_dup2 C dX5_day_212 rfl rfl ?_
                refine g_ial (k0 := c) (n := 46) C hck hcs (j := 10 + g) (ix_n (by omega)) dX5_day_213 ?_
                refine g_val (y := nI (a2 (10 + g))) (hM4 (10 + g) (by omega)) ?_
                refine g_iconst C dX5_day_214 ic_1 ?_
                refine g_isubv (v := nI ((a2 (10 + g)) - 1)) C (nj_minus (a := a2 (10 + g)) (b := 1) (by omega)) dX5_day_215 ?_
                refine g_ias (k0 := c) (n := 46) C hck hcs (j := 10 + g) (ix_n (by omega)) dX5_day_216 (fun σ5 hσ5 => ?_)
                obtain ⟨a3, ha3⟩ : ∃ q, q = ua a2 (10 + g) (a2 (10 + g) - 1) := ⟨_, rfl⟩
                have hM5 : Mr σ5 c a3 := by rw [hσ5, ha3]; exact hM4.u
                have hS3 : SmE a2 a3 := by rw [ha3]; exact SmE.ua hg5
                have hle3 : ∀ j, a3 j ≤ a2 j := fun j => by rw [ha3]; simp only [ua_at]; by_cases z : j = 10 + g <;> simp [z]
                have hB3_ : Bd a3 := hB2_.sm hS3 hle3
                have D7 : Dt σ5 (vv + nI (wNt p e g)) (L ++ l2) la (shB a fw) := by rw [hσ5]; exact D4.c hc8 hc4
                have hll : (L ++ l2).length = L.length + t := by rw [List.length_append, hl2]
                refine g_aload_n C dX5_day_217 rfl rfl ?_
                refine g_get (v := .ref (wA w 44)) C fl_X5_25 fs_X5_25 (Nat.lt_of_lt_of_le (by decide) hN) rfl rfl dX5_day_218 ?_
                refine g_aload_n C dX5_day_221 rfl rfl ?_
                refine g_get (v := .int (σ5 38 7)) C fl_X5_94 fs_X5_94 (Nat.lt_of_lt_of_le (by decide) hN) rfl rfl dX5_day_222 ?_
                refine g_val (y := nI ((L ++ l2).length)) D7.2.1 ?_
                refine g_iload C dX5_day_225 rfl ?_
                refine g_ias (k0 := 44) (n := 60) C (Nat.lt_of_lt_of_le (by decide) hN) rfl (j := (L ++ l2).length) (ix_n (by omega)) dX5_day_227 (fun σ6 hσ6 => ?_)
                refine g_aload_n C dX5_day_228 rfl rfl ?_
                refine g_dup C dX5_day_229 rfl ?_
                refine g_get (v := .int (σ6 38 7)) C fl_X5_94 fs_X5_94 (Nat.lt_of_lt_of_le (by decide) hN) rfl rfl dX5_day_230 ?_
                refine g_val (y := nI ((L ++ l2).length)) (by rw [hσ6, up_other (by decide)]; exact D7.2.1) ?_
                refine g_iconst C dX5_day_233 ic_1 ?_
                refine g_iaddv (v := nI (((L ++ l2).length) + 1)) C (nj_plus ((L ++ l2).length) 1) dX5_day_234 ?_
                refine g_putn C fp_X5_94 (Nat.lt_of_lt_of_le (by decide) hN) rfl rfl (Nat.le_of_ble_eq_true rfl) rfl rfl dX5_day_235 (fun σ7 hσ7 => ?_)
                have hM7 : Mr σ7 c a3 := hM5.fr (by rw [hσ7, up_other hc8, hσ6, up_other hc4])
                have hF7 : FrY c σ σ7 := hF3.tr ((show FrY c σ3 σ4 by rw [hσ4]; exact FrY.o ⟨by omega, by omega⟩).tr ((show FrY c σ4 σ5 by rw [hσ5]; exact FrY.c hc8).tr ((show FrY c σ5 σ6 by rw [hσ6]; exact FrY.e).tr (by rw [hσ7]; exact FrY.o ⟨by omega, by omega⟩))))
                have L257 : ∀ (σ8 : SG), (Mr σ8 c a3) → (Dt σ8 (eV hu b e (shV a fw) + wsum p e (l2 ++ [g])) (L ++ (l2 ++ [g])) la (shB a fw)) → (FrY c σ σ8) → G l w K 257 [(0, .ref (wA w 38)), (1, .ref (wA w c)), (3, .int (nI e)), (4, .int (nI W)), (5, .int (nI t)), (6, .int (nI g))] [] σ8 := by
                  intro σ8 hM8 D8 hF8
                  refine g_iinc (v := nI (t + 1)) (lv' := [(5, .int (nI (t + 1))), (0, .ref (wA w 38)), (1, .ref (wA w c)), (3, .int (nI e)), (4, .int (nI W)), (6, .int (nI g))]) C dX5_day_257 (by decide) rfl (nj_inc t) rfl ?_
                  refine g_aload_n C dX5_day_260 rfl rfl ?_
                  refine g_iload_n C dX5_day_261 rfl rfl ?_
                  refine g_pSI (rest := []) (v := oJ (nxC a3 e) (-9)) C ms_X5_100 (ct_X5_next l w hN σ8 c hck hcs a3 hM8 hB3_ e (by omega)) rfl (by decide) rfl (Nat.le_of_ble_eq_true rfl) dX5_day_262 ?_
                  refine g_istore (lv' := [(6, .int (oJ (nxC a3 e) (-9))), (5, .int (nI (t + 1))), (0, .ref (wA w 38)), (1, .ref (wA w c)), (3, .int (nI e)), (4, .int (nI W))]) C dX5_day_265 (by decide) rfl ?_
                  refine g_goto (tgt := 176) C dX5_day_267 rfl ?_
                  exact g_lvp [2, 3, 4, 5, 1, 0] rfl (ih176 (W - (t + 1)) (by omega) (t + 1) a3 (l2 ++ [g]) (oJ (nxC a3 e) (-9)) σ8 rfl (rfl) (by rw [List.length_append, List.length_singleton]; omega) (by first | omega | assumption | rfl | grind) (by rw [ha3]; exact eat_step hE hg (by omega)) (hSm.tr hS3) (fun j => Nat.le_trans (hle3 j) (hle j)) (hM8) (D8) (hF8))
                refine g_aload_n C dX5_day_238 rfl rfl ?_
                refine g_dup C dX5_day_239 rfl ?_
                refine g_get (v := .int (σ7 38 9)) C fl_X5_88 fs_X5_88 (Nat.lt_of_lt_of_le (by decide) hN) rfl rfl dX5_day_240 ?_
                refine g_val (y := nI ((L ++ l2).count 0)) (by rw [hσ7, up_elem (by decide), hσ6, up_other (by decide)]; exact D7.2.2.1) ?_
                refine g_iload C dX5_day_243 rfl ?_
                refine g_if_ne (tgt := 252) C dX5_day_245 rfl (fun c245_5 => ?_) (fun c245_5 => ?_)
                · skip
                  have n245_5 : ¬ (g = 0) := fun qq => c245_5 ((nj_eq (a := g) (b := 0) (by omega) (by omega)).mpr qq)
                  refine g_iconst C dX5_day_252 ic_0 ?_
                  refine g_iaddv (v := nI (((L ++ l2).count 0) + 0)) C (nj_plus ((L ++ l2).count 0) 0) dX5_day_253 ?_
                  refine g_putn C fp_X5_88 (Nat.lt_of_lt_of_le (by decide) hN) rfl rfl (Nat.le_of_ble_eq_true rfl) rfl rfl dX5_day_254 (fun σ8 hσ8 => ?_)
                  exact g_lvp [0, 1, 2, 3, 4, 5] rfl (L257 σ8 (hM7.fr (by rw [hσ8, up_other hc8])) (by rw [← List.append_assoc, hws]; exact D7.eat hσ6 hσ7 (by rw [hσ8]; first | rw [if_neg (by omega)] | rw [if_pos (by omega)])) (hF7.tr (by rw [hσ8]; exact FrY.o ⟨by omega, by omega⟩)))
                · skip
                  have n245_5 : g = 0 := (nj_eq (a := g) (b := 0) (by omega) (by omega)).mp c245_5
                  refine g_iconst C dX5_day_248 ic_1 ?_
                  refine g_goto (tgt := 253) C dX5_day_249 rfl ?_
                  refine g_iaddv (v := nI (((L ++ l2).count 0) + 1)) C (nj_plus ((L ++ l2).count 0) 1) dX5_day_253 ?_
                  refine g_putn C fp_X5_88 (Nat.lt_of_lt_of_le (by decide) hN) rfl rfl (Nat.le_of_ble_eq_true rfl) rfl rfl dX5_day_254 (fun σ8 hσ8 => ?_)
                  exact g_lvp [0, 1, 2, 3, 4, 5] rfl (L257 σ8 (hM7.fr (by rw [hσ8, up_other hc8])) (by rw [← List.append_assoc, hws]; exact D7.eat hσ6 hσ7 (by rw [hσ8]; first | rw [if_neg (by omega)] | rw [if_pos (by omega)])) (hF7.tr (by rw [hσ8]; exact FrY.o ⟨by omega, by omega⟩)))
          exact g_lvp [2, 3, 4, 5, 1, 0] rfl (L176 (W - 0) 0 p ([]) (oJ (nxC p e) (-9)) σ2 rfl (rfl) (rfl) (by first | omega | assumption | rfl | grind) (rfl) (SmE.rf) (fun _ => Nat.le_refl _) (hMp) (by rw [List.append_nil]; show Dt σ2 (eV hu b e (shV a fw) + 0) L la (shB a fw); rw [Int32.add_zero]; exact D2) (hF2))
        have hp7 := hBp_ 7
        refine g_aload_n C dX5_day_135 rfl rfl ?_
        refine g_bipush C dX5_day_136 bp_7 ?_
        refine g_ial (k0 := c) (n := 46) C hck hcs (j := 7) (by unfold ix; decide) dX5_day_138 ?_
        refine g_val (y := nI (p 7)) (hMp 7 (by omega)) ?_
        refine g_iconst C dX5_day_139 ic_5 ?_
        refine g_icmp_ne (tgt := 158) C dX5_day_140 rfl (fun c140_6 => ?_) (fun c140_6 => ?_)
        · skip
          have n140_6 : ¬ (p 7 = 5) := fun qq => c140_6 ((nj_eq (a := p 7) (b := 5) (by omega) (by omega)).mpr qq)
          refine g_aload_n C dX5_day_158 rfl rfl ?_
          refine g_get (v := .ref (wA w 43)) C fl_X5_22 fs_X5_22 (Nat.lt_of_lt_of_le (by decide) hN) rfl rfl dX5_day_159 ?_
          refine g_iload_n C dX5_day_162 rfl rfl ?_
          refine g_ial (k0 := 43) (n := 4) C (Nat.lt_of_lt_of_le (by decide) hN) rfl (j := e) (ix_n (by omega)) dX5_day_163 ?_
          refine g_val (y := nI (hu e)) (hhu2 e (by omega)) ?_
          refine g_istore (lv' := [(4, .int (nI (hu e))), (0, .ref (wA w 38)), (1, .ref (wA w c)), (3, .int (nI e))]) C dX5_day_164 (by decide) rfl ?_
          exact g_lvp [1, 2, 3, 0] rfl (L166 (hu e) (by unfold wan; first | rw [if_pos (by omega)] | rw [if_neg (by omega)]))
        · skip
          have n140_6 : p 7 = 5 := (nj_eq (a := p 7) (b := 5) (by omega) (by omega)).mp c140_6
          refine g_iconst C dX5_day_143 ic_0 ?_
          refine g_aload_n C dX5_day_144 rfl rfl ?_
          refine g_get (v := .ref (wA w 43)) C fl_X5_22 fs_X5_22 (Nat.lt_of_lt_of_le (by decide) hN) rfl rfl dX5_day_145 ?_
          refine g_iload_n C dX5_day_148 rfl rfl ?_
          refine g_ial (k0 := 43) (n := 4) C (Nat.lt_of_lt_of_le (by decide) hN) rfl (j := e) (ix_n (by omega)) dX5_day_149 ?_
          refine g_val (y := nI (hu e)) (hhu2 e (by omega)) ?_
          refine g_iconst C dX5_day_150 ic_1 ?_
          refine g_isubv (v := (nI (hu e)) - 1) C rfl dX5_day_151 ?_
          refine g_max C ml_X5_68 st_Lib_Math_max ini_Math co_Lib_Math_max (by decide) (Nat.le_of_ble_eq_true rfl) dX5_day_152 ?_
          refine g_val (y := nI (hu e - 1)) (nj_max0 (b := 1) (by have := hu11 e (by omega); omega) (by omega)) ?_
          refine g_goto (tgt := 164) C dX5_day_155 rfl ?_
          refine g_istore (lv' := [(4, .int (nI (hu e - 1))), (0, .ref (wA w 38)), (1, .ref (wA w c)), (3, .int (nI e))]) C dX5_day_164 (by decide) rfl ?_
          exact g_lvp [1, 2, 3, 0] rfl (L166 (hu e - 1) (by unfold wan; first | rw [if_pos (by omega)] | rw [if_neg (by omega)]))
    exact g_lvp [1, 2, 0] rfl (L128 (a 0 - 0) 0 σ1 rfl (by first | omega | assumption | rfl | grind) (by show Mr σ1 c b; exact hM1) (by show Dt σ1 (0 + nI 0 * nI (b 6) - shV a fw) [] 0 (shB a fw); rw [nI_0, show (0 : Int32) + 0 * nI (b 6) - shV a fw = 0 - shV a fw by grind]; exact D1) (hF1))
  refine g_aload_n C dX5_day_25 rfl rfl ?_
  refine g_bipush C dX5_day_26 bp_20 ?_
  refine g_aload_n C dX5_day_28 rfl rfl ?_
  refine g_iconst C dX5_day_29 ic_1 ?_
  refine g_ial (k0 := c) (n := 46) C hck hcs (j := 1) (by unfold ix; decide) dX5_day_30 ?_
  refine g_val (y := nI (a 1)) (hM5 1 (by omega)) ?_
  refine g_bipush C dX5_day_31 bp_7 ?_
  refine g_iremv (v := nI (a 1 % 7)) C (by decide) (nj_rem (b := 7) (by omega) (by omega)) dX5_day_33 ?_
  refine g_iaddv (v := nI (20 + (a 1 % 7))) C (nj_plus 20 (a 1 % 7)) dX5_day_34 ?_
  refine g_ial (k0 := c) (n := 46) C hck hcs (j := 20 + (a 1 % 7)) (ix_n (by omega)) dX5_day_35 ?_
  refine g_val (y := nI (a (20 + (a 1 % 7)))) (hM5 (20 + (a 1 % 7)) (by omega)) ?_
  refine g_iconst C dX5_day_36 ic_1 ?_
  refine g_icmp_ne (tgt := 126) C dX5_day_37 rfl (fun c37_7 => ?_) (fun c37_7 => ?_)
  · skip
    have n37_7 : ¬ (a (20 + (a 1 % 7)) = 1) := fun qq => c37_7 ((nj_eq (a := a (20 + (a 1 % 7))) (b := 1) (by have := hBa (20 + (a 1 % 7)); have := hBa 1; omega) (by have := hBa (20 + (a 1 % 7)); have := hBa 1; omega)).mpr qq)
    obtain ⟨j1, j2, j3⟩ := rshop_cl (fw := fw) (show a (20 + a 1 % 7) = 0 by omega) hM5 D5 hF5
    exact g_lvp [0, 1] rfl (L126 σ5 (j1) (j2) (j3))
  · skip
    have n37_7 : a (20 + (a 1 % 7)) = 1 := (nj_eq (a := a (20 + (a 1 % 7))) (b := 1) (by have := hBa (20 + (a 1 % 7)); have := hBa 1; omega) (by have := hBa (20 + (a 1 % 7)); have := hBa 1; omega)).mp c37_7
    refine g_aload_n C dX5_day_40 rfl rfl ?_
    refine g_dup C dX5_day_41 rfl ?_
    refine g_get (v := .int (σ5 38 8)) C fl_X5_85 fs_X5_85 (Nat.lt_of_lt_of_le (by decide) hN) rfl rfl dX5_day_42 ?_
    refine g_val (y := 0) D5.1 ?_
    refine g_aload_n C dX5_day_45 rfl rfl ?_
    refine g_iconst C dX5_day_46 ic_4 ?_
    refine g_ial (k0 := c) (n := 46) C hck hcs (j := 4) (by unfold ix; decide) dX5_day_47 ?_
    refine g_val (y := nI (a 4)) (hM5 4 (by omega)) ?_
    refine g_aload_n C dX5_day_48 rfl rfl ?_
    refine g_aload_n C dX5_day_49 rfl rfl ?_
    refine g_iconst C dX5_day_50 ic_0 ?_
    refine g_aload_n C dX5_day_51 rfl rfl ?_
    refine g_iconst C dX5_day_52 ic_2 ?_
    refine g_ial (k0 := c) (n := 46) C hck hcs (j := 2) (by unfold ix; decide) dX5_day_53 ?_
    refine g_val (y := nI (a 2)) (hM5 2 (by omega)) ?_
    refine g_iload_n C dX5_day_54 rfl rfl ?_
    refine g_isubv (v := nI ((a 2) - fw)) C (nj_minus (a := a 2) (b := fw) (by omega)) dX5_day_55 ?_
    obtain ⟨c1, hc1⟩ : ∃ q, q = min ((a 2) - fw) (60 - a (10 + 0)) := ⟨_, rfl⟩
    refine g_callVI (rest := [.int (nI (a 4)), .int 0, .ref (wA w 38)]) C mv_X5_97 (ct_X5_come l w hN σ5 c hck hcs a hM5 hB hc8 0 ((a 2) - fw) 0 (by omega) (by omega) D5.2.2.2.2.1) (Nat.lt_of_lt_of_le (by decide) hN) rfl rfl (by decide) rfl (Nat.le_of_ble_eq_true rfl) dX5_day_56 (fun r8 σ6 h8 => ?_)
    obtain ⟨er8, ec1⟩ := h8
    rw [← hc1] at er8 ec1
    rw [er8]
    refine g_imulv (v := nI ((a 4) * c1)) C (nj_times (a 4) c1) dX5_day_59 ?_
    refine g_isubv (v := 0 - (nI ((a 4) * c1))) C rfl dX5_day_60 ?_
    refine g_putn C fp_X5_85 (Nat.lt_of_lt_of_le (by decide) hN) rfl rfl (Nat.le_of_ble_eq_true rfl) rfl rfl dX5_day_61 (fun σ7 hσ7 => ?_)
    obtain ⟨hM7, D7, hF7⟩ := come_in hc8 hc4 hM5 D5 ec1 hσ7
    obtain ⟨a2, ha2⟩ : ∃ q, q = ua a (10 + 0) (a (10 + 0) + c1) := ⟨_, rfl⟩
    rw [← ha2] at hM7
    have z10 : a (10 + 0) = a 10 := rfl
    have hBq2 : Bd a2 := by rw [ha2]; exact hB.us (by omega) (by omega)
    have hBa2 := hBq2.1
    have hq1 : c1 = min (a 2 - fw) (60 - a 10) := hc1
    refine g_aload_n C dX5_day_64 rfl rfl ?_
    refine g_dup C dX5_day_65 rfl ?_
    refine g_get (v := .int (σ7 38 8)) C fl_X5_85 fs_X5_85 (Nat.lt_of_lt_of_le (by decide) hN) rfl rfl dX5_day_66 ?_
    refine g_val (y := 0 - nI (a 4 * c1)) D7.1 ?_
    refine g_aload_n C dX5_day_69 rfl rfl ?_
    refine g_iconst C dX5_day_70 ic_4 ?_
    refine g_ial (k0 := c) (n := 46) C hck hcs (j := 4) (by unfold ix; decide) dX5_day_71 ?_
    refine g_val (y := nI (a2 4)) (hM7 4 (by omega)) ?_
    refine g_iconst C dX5_day_72 ic_2 ?_
    refine g_idivv (v := nI (a2 4 / 2)) C (by decide) (nj_div2 (by have := hBa2 4; omega)) dX5_day_73 ?_
    refine g_aload_n C dX5_day_74 rfl rfl ?_
    refine g_aload_n C dX5_day_75 rfl rfl ?_
    refine g_iconst C dX5_day_76 ic_1 ?_
    refine g_aload_n C dX5_day_77 rfl rfl ?_
    refine g_iconst C dX5_day_78 ic_3 ?_
    refine g_ial (k0 := c) (n := 46) C hck hcs (j := 3) (by unfold ix; decide) dX5_day_79 ?_
    refine g_val (y := nI (a2 3)) (hM7 3 (by omega)) ?_
    obtain ⟨c3, hc3⟩ : ∃ q, q = min (a2 3) (60 - a2 (10 + 1)) := ⟨_, rfl⟩
    refine g_callVI (rest := [.int (nI (a2 4 / 2)), .int (0 - nI (a 4 * c1)), .ref (wA w 38)]) C mv_X5_97 (ct_X5_come l w hN σ7 c hck hcs a2 hM7 hBq2 hc8 1 (a2 3) (0 + c1) (by omega) (by have : a2 3 = a 3 := (by rw [ha2]; rfl); omega) D7.2.2.2.2.1) (Nat.lt_of_lt_of_le (by decide) hN) rfl rfl (by decide) rfl (Nat.le_of_ble_eq_true rfl) dX5_day_80 (fun r9 σ8 h9 => ?_)
    obtain ⟨er9, ec3⟩ := h9
    rw [← hc3] at er9 ec3
    rw [er9]
    refine g_imulv (v := nI ((a2 4 / 2) * c3)) C (nj_times (a2 4 / 2) c3) dX5_day_83 ?_
    refine g_isubv (v := (0 - nI (a 4 * c1)) - (nI ((a2 4 / 2) * c3))) C rfl dX5_day_84 ?_
    refine g_putn C fp_X5_85 (Nat.lt_of_lt_of_le (by decide) hN) rfl rfl (Nat.le_of_ble_eq_true rfl) rfl rfl dX5_day_85 (fun σ9 hσ9 => ?_)
    have z11 : a2 (10 + 1) = a 11 := by rw [ha2]; rfl
    obtain ⟨hM9, D9, hF9⟩ := come_in hc8 hc4 hM7 D7 ec3 hσ9
    rw [z11] at hM9
    have hF9 := hF5.tr (hF7.tr hF9)
    obtain ⟨a3, ha3⟩ : ∃ q, q = ua a2 (10 + 1) (a 11 + c3) := ⟨_, rfl⟩
    rw [← ha3] at hM9
    have g4 : a2 4 = a 4 := by rw [ha2]; rfl
    have g3 : a2 3 = a 3 := by rw [ha2]; rfl
    have hq3 : c3 = min (a 3) (60 - a 11) := by rw [hc3, g3, z11]
    have hBq3 : Bd a3 := by rw [ha3]; exact hBq2.us (by omega) (by omega)
    have hBa3 := hBq3.1
    have k1 : a3 1 = a 1 := by rw [ha3, ha2]; rfl
    have k2 : a3 2 = a 2 := by rw [ha3, ha2]; rfl
    have k4 : a3 4 = a 4 := by rw [ha3, ha2]; rfl
    have k10 : a3 10 = a 10 + c1 := by rw [ha3, ha2]; rfl
    have k20 : a3 (20 + ((a3 1 + 1) % 7)) = a (20 + (a 1 + 1) % 7) := by rw [k1, ha3, ua_at, if_neg (by omega), ha2, ua_at, if_neg (by omega)]
    have D9 := D9
    obtain ⟨v9, ev9⟩ : ∃ q, q = 0 - nI (a 4 * c1) - nI (a 4 / 2 * c3) := ⟨_, rfl⟩
    rw [g4, ← ev9] at D9
    refine g_aload_n C dX5_day_88 rfl rfl ?_
    refine g_bipush C dX5_day_89 bp_20 ?_
    refine g_aload_n C dX5_day_91 rfl rfl ?_
    refine g_iconst C dX5_day_92 ic_1 ?_
    refine g_ial (k0 := c) (n := 46) C hck hcs (j := 1) (by unfold ix; decide) dX5_day_93 ?_
    refine g_val (y := nI (a3 1)) (hM9 1 (by omega)) ?_
    refine g_iconst C dX5_day_94 ic_1 ?_
    refine g_iaddv (v := nI ((a3 1) + 1)) C (nj_plus (a3 1) 1) dX5_day_95 ?_
    refine g_bipush C dX5_day_96 bp_7 ?_
    refine g_iremv (v := nI ((a3 1 + 1) % 7)) C (by decide) (nj_rem (b := 7) (by have := hBa3 1; omega) (by omega)) dX5_day_98 ?_
    refine g_iaddv (v := nI (20 + ((a3 1 + 1) % 7))) C (nj_plus 20 ((a3 1 + 1) % 7)) dX5_day_99 ?_
    refine g_ial (k0 := c) (n := 46) C hck hcs (j := 20 + ((a3 1 + 1) % 7)) (ix_n (by omega)) dX5_day_100 ?_
    refine g_val (y := nI (a3 (20 + ((a3 1 + 1) % 7)))) (hM9 (20 + ((a3 1 + 1) % 7)) (by omega)) ?_
    refine g_if_ne (tgt := 126) C dX5_day_101 rfl (fun c101_10 => ?_) (fun c101_10 => ?_)
    · skip
      have n101_10 : ¬ (a3 (20 + ((a3 1 + 1) % 7)) = 0) := fun qq => c101_10 ((nj_eq (a := a3 (20 + ((a3 1 + 1) % 7))) (b := 0) (by have := hBa3 (20 + ((a3 1 + 1) % 7)); have := hBa3 1; omega) (by have := hBa3 (20 + ((a3 1 + 1) % 7)); have := hBa3 1; omega)).mpr qq)
      obtain ⟨j1, j2, j3⟩ := rshop_fin (σ0 := σ) (c2 := 0) (by omega) hq1 (by rw [if_neg (by omega)]) hq3 (by rw [ha3, ha2]; rfl) hM9 (show v9 = _ by rw [ev9]; show _ = 0 - nI (a 4 * c1) - nI (a 4 / 2 * c3) - nI 0; rw [nI_0, Int32.sub_zero]) D9 hF9
      exact g_lvp [0, 1] rfl (L126 σ9 (j1) (j2) (j3))
    · skip
      have n101_10 : a3 (20 + ((a3 1 + 1) % 7)) = 0 := (nj_eq (a := a3 (20 + ((a3 1 + 1) % 7))) (b := 0) (by have := hBa3 (20 + ((a3 1 + 1) % 7)); have := hBa3 1; omega) (by have := hBa3 (20 + ((a3 1 + 1) % 7)); have := hBa3 1; omega)).mp c101_10
      refine g_aload_n C dX5_day_104 rfl rfl ?_
      refine g_dup C dX5_day_105 rfl ?_
      refine g_get (v := .int (σ9 38 8)) C fl_X5_85 fs_X5_85 (Nat.lt_of_lt_of_le (by decide) hN) rfl rfl dX5_day_106 ?_
      refine g_val (y := v9) D9.1 ?_
      refine g_aload_n C dX5_day_109 rfl rfl ?_
      refine g_iconst C dX5_day_110 ic_4 ?_
      refine g_ial (k0 := c) (n := 46) C hck hcs (j := 4) (by unfold ix; decide) dX5_day_111 ?_
      refine g_val (y := nI (a3 4)) (hM9 4 (by omega)) ?_
      refine g_aload_n C dX5_day_112 rfl rfl ?_
      refine g_aload_n C dX5_day_113 rfl rfl ?_
      refine g_iconst C dX5_day_114 ic_0 ?_
      refine g_aload_n C dX5_day_115 rfl rfl ?_
      refine g_iconst C dX5_day_116 ic_2 ?_
      refine g_ial (k0 := c) (n := 46) C hck hcs (j := 2) (by unfold ix; decide) dX5_day_117 ?_
      refine g_val (y := nI (a3 2)) (hM9 2 (by omega)) ?_
      obtain ⟨c2, hc2⟩ : ∃ q, q = min (a3 2) (60 - a3 (10 + 0)) := ⟨_, rfl⟩
      refine g_callVI (rest := [.int (nI (a3 4)), .int v9, .ref (wA w 38)]) C mv_X5_97 (ct_X5_come l w hN σ9 c hck hcs a3 hM9 hBq3 hc8 0 (a3 2) (0 + c1 + c3) (by omega) (by omega) D9.2.2.2.2.1) (Nat.lt_of_lt_of_le (by decide) hN) rfl rfl (by decide) rfl (Nat.le_of_ble_eq_true rfl) dX5_day_118 (fun r11 σ10 h11 => ?_)
      obtain ⟨er11, ec2⟩ := h11
      rw [← hc2] at er11 ec2
      rw [er11]
      refine g_imulv (v := nI ((a3 4) * c2)) C (nj_times (a3 4) c2) dX5_day_121 ?_
      refine g_isubv (v := v9 - (nI ((a3 4) * c2))) C rfl dX5_day_122 ?_
      refine g_putn C fp_X5_85 (Nat.lt_of_lt_of_le (by decide) hN) rfl rfl (Nat.le_of_ble_eq_true rfl) rfl rfl dX5_day_123 (fun σ12 hσ12 => ?_)
      obtain ⟨hM12, D12, hF12⟩ := come_in hc8 hc4 hM9 D9 ec2 hσ12
      have hq2 : c2 = min (a 2) (60 - (a 10 + c1)) := by rw [hc2, k2]; show min _ (60 - a3 10) = _; rw [k10]
      have hb4 : ua a3 (10 + 0) (a3 (10 + 0) + c2) = ua (ua a 10 (a 10 + c1 + c2)) 11 (a 11 + c3) := by show ua a3 10 (a3 10 + c2) = _; rw [k10, ha3, ha2]; show ua (ua (ua a 10 (a 10 + c1)) 11 (a 11 + c3)) 10 _ = _; rw [ua_comm (k := 11) (k' := 10) (by decide), ua_ua]
      have ev12 : v9 - nI (a3 4 * c2) = 0 - nI (a 4 * c1) - nI (a 4 / 2 * c3) - nI (a 4 * c2) := by rw [ev9, k4]
      obtain ⟨j1, j2, j3⟩ := rshop_fin (σ0 := σ) (c2 := c2) (by omega) hq1 (by rw [if_pos (by omega)]; exact hq2) hq3 hb4 hM12 ev12 D12 (hF9.tr hF12)
      exact g_lvp [0, 1] rfl (L126 σ12 (j1) (j2) (j3))

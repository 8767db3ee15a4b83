theorem px_beg {τ : SG} {c : Nat → Nat} {nl p : Nat} {r : Int32} (hb : Bnd (sA c p)) (hp : p ≤ nl) (h0 : p < nl ∨ nl = 0) (hO : OneP c nl 7 gBeg 1 p r τ) : PX τ c nl (fun q f t => q = p + 1 ∧ t = 0 ∧ f = fB (c p) ∧ p < nl ∧ ∃ k, k < 7 ∧ gBeg k = c p ∧ r = nI k) := by
  obtain ⟨f, t, h1, h2⟩ := hb
  have hr : RS c nl p f t := ⟨h1, hp⟩
  rcases hO with ⟨k, k1, k2, k3, k4, k5, k6, k7⟩ | ⟨k1, k2, k3, k4⟩
  · refine Or.inl ⟨p + 1, fB (c p), 0, ⟨rfl, rfl, rfl, k3, k, k1, k4, k5⟩, k7, k6, hr.ok k3 ?_⟩
    rw [stb h2, ← k4]
    have key : ∀ i : Fin 7, (if txL (fB (gBeg i.val)) = 0 then none else some (fB (gBeg i.val), 0)) = some (fB (gBeg i.val), 0) := by decide
    exact key ⟨k, k1⟩
  · refine Or.inr ⟨k4, p, k3, ?_⟩
    by_cases hl : p < nl
    · refine hr.bad hl ?_
      have hn := (k1.resolve_left (by decide)).resolve_left (fun z => z hl)
      have n0 : ¬ 101 = c p := hn 0 (by decide)
      have n1 : ¬ 115 = c p := hn 1 (by decide)
      have n2 : ¬ 119 = c p := hn 2 (by decide)
      have n3 : ¬ 98 = c p := hn 3 (by decide)
      have n4 : ¬ 104 = c p := hn 4 (by decide)
      have n5 : ¬ 99 = c p := hn 5 (by decide)
      have n6 : ¬ 100 = c p := hn 6 (by decide)
      have hf : fB (c p) = 0 := by unfold fB; rw [if_neg (by omega), if_neg (by omega), if_neg (by omega), if_neg (by omega), if_neg (by omega)]
      rw [stb h2, hf, if_pos (by decide)]
    · have e1 : nl = 0 := h0.resolve_left hl
      have e2 : p = nl := by omega
      exact Or.inr ⟨e2, ⟨(f, t), by rw [← e2]; exact h1⟩, Or.inl e1⟩
theorem one_eat {f t : Nat} (hf : f = 1) (ht : t = 0) : t < txL f ∧ (∀ s, (∃ k, k < 6 ∧ gEat k = s) → stepF f t s = some (f, t + 1)) ∧ ∀ s, (∀ k, k < 6 → ¬ gEat k = s) → stepF f t s = none := by
  subst hf; subst ht
  refine ⟨by decide, fun s h => ?_, fun s h => ?_⟩
  · rw [st69, if_pos]
    obtain ⟨k, k1, k2⟩ := h
    exact txF_of ⟨k, k1, by rw [← gEat_tx k k1]; exact k2⟩
  · rw [st69, if_neg]
    exact txF_no (fun k hk => by have hk' : k < 6 := hk; rw [← gEat_tx k hk']; exact h k hk')
theorem one_hou {f t : Nat} (hf : f = 4) (ht : t = 0) : t < txL f ∧ (∀ s, (∃ k, k < 6 ∧ gHou k = s) → stepF f t s = some (f, t + 1)) ∧ ∀ s, (∀ k, k < 6 → ¬ gHou k = s) → stepF f t s = none := by
  subst hf; subst ht
  refine ⟨by decide, fun s h => ?_, fun s h => ?_⟩
  · rw [st72, if_pos]
    obtain ⟨k, k1, k2⟩ := h
    exact txF_of ⟨k, k1, by rw [← gHou_tx k k1]; exact k2⟩
  · rw [st72, if_neg]
    exact txF_no (fun k hk => by have hk' : k < 6 := hk; rw [← gHou_tx k hk']; exact h k hk')
theorem one_opn {f t : Nat} (hf : f = 3) (ht : t < 7) : t < txL f ∧ (∀ s, (∃ k, k < 2 ∧ gOpn k = s) → stepF f t s = some (f, t + 1)) ∧ ∀ s, (∀ k, k < 2 → ¬ gOpn k = s) → stepF f t s = none := by
  subst hf
  have hl : t < txL 3 := by have : txL 3 = 8 := by decide
                            omega
  have h87 : txN 3 t = 87 := by
    have key : ∀ i : Fin 7, txN 3 i.val = 87 := by decide
    exact key ⟨t, ht⟩
  refine ⟨hl, fun s h => ?_, fun s h => ?_⟩
  · rw [st87 hl h87, if_pos]
    obtain ⟨k, k1, k2⟩ := h
    have : k = 0 ∨ k = 1 := by omega
    rcases this with rfl | rfl
    · exact Or.inr k2.symm
    · exact Or.inl k2.symm
  · rw [st87 hl h87, if_neg]
    have n0 : ¬ 120 = s := h 0 (by decide)
    have n1 : ¬ 111 = s := h 1 (by decide)
    omega
theorem n57_2 {f t : Nat} (hf : f = 2) (ht : t < 3) : t < txL f ∧ txN f t = 57 := by
  subst hf
  have key : ∀ i : Fin 3, i.val < txL 2 ∧ txN 2 i.val = 57 := by decide
  exact key ⟨t, ht⟩
theorem n57_22 {f t : Nat} (hf : f = 2) (ht : t < 2) : t + 1 < txL f ∧ txN f t = 57 ∧ txN f (t + 1) = 57 := by
  subst hf
  have key : ∀ i : Fin 2, i.val + 1 < txL 2 ∧ txN 2 i.val = 57 ∧ txN 2 (i.val + 1) = 57 := by decide
  exact key ⟨t, ht⟩
theorem n57_1 {f t : Nat} (hf : f = 1) (ht : t = 1 ∨ t = 2) : t < txL f ∧ txN f t = 57 := by
  subst hf
  rcases ht with rfl | rfl <;> decide
/-- the end of a STATEMENT: what is left is the last sign -/
def PF (σ : SG) (c : Nat → Nat) (nl p : Nat) (q f t : Nat) : Prop := p < nl ∧ t < txL f ∧ (c q = 59 → Stm c p (q + 1) ∧ (∃ t', stepF f t (c q) = some (f, t') ∧ txL f ≤ t') ∧ FD σ c p) ∧ (¬ c q = 59 → (q < nl → stepF f t (c q) = none))
theorem pf59 {c : Nat → Nat} {f t q : Nat} (h : t < txL f) (h2 : txN f t = 59) (h3 : txL f = t + 1) : (c q = 59 → ∃ t', stepF f t (c q) = some (f, t') ∧ txL f ≤ t') ∧ (¬ c q = 59 → stepF f t (c q) = none) := by
  rw [st59 h h2]
  exact ⟨fun z => ⟨t + 1, by rw [if_pos z], by omega⟩, fun z => by rw [if_neg z]⟩
set_option maxRecDepth 100000 in
set_option maxHeartbeats 4000000 in
theorem ct_X5_statement (l : Launch) (w : WD) (hN : 54 ≤ wN w) (σ : SG) (nl : Nat) (c : Nat → Nat) (htn : σ 38 15 = nI nl) (hl9 : nl ≤ 96) (htp : ∀ j, j < nl → σ 46 j = nI (c j)) (hc9 : ∀ j, j < nl → c j ≤ 255) (hmB : ∀ j, j < 7 → σ 47 j = nI (gBeg j)) (hmE : ∀ j, j < 6 → σ 48 j = nI (gEat j)) (hmH : ∀ j, j < 6 → σ 49 j = nI (gHou j)) (hmO : ∀ j, j < 2 → σ 50 j = nI (gOpn j)) (p : Nat) (hp : p ≤ nl) (hp0 : p < nl ∨ nl = 0) (hbd : Bnd (sA c p)) (hwl : σ 38 17 = nI 1) (hat : σ 38 16 = nI p) : CtV l w yX5_statement cX5_statement 2 2 0 0 [.ref (wA w 38)] σ (fun τ => FrP σ τ ∧ ((∃ p', Stm c p p' ∧ p' ≤ nl ∧ Bnd (sA c p') ∧ τ 38 17 = nI 1 ∧ τ 38 16 = nI p' ∧ FD τ c p) ∨ (∃ q, Wrong c nl q ∧ τ 38 17 = nI 0 ∧ τ 38 16 = nI q))) := by
  refine CtV.mk (by decide) (Nat.le_of_ble_eq_true rfl) ?_
  intro K C hr h0
  have r := RV.of hr h0
  clear hr h0
  show G l w K 0 [(0, .ref (wA w 38))] [] σ
  have hF0 : FrP σ σ := FrP.rf
  refine g_aload_n C dX5_statement_0 rfl rfl ?_
  refine g_aload_n C dX5_statement_1 rfl rfl ?_
  refine g_aload_n C dX5_statement_2 rfl rfl ?_
  refine g_get (v := .ref (wA w 47)) C fl_X5_34 fs_X5_34 (Nat.lt_of_lt_of_le (by decide) hN) rfl rfl dX5_statement_3 ?_
  refine g_callVI (rest := [.ref (wA w 38)]) C mv_X5_128 (ct_X5_oneOf l w hN σ 47 7 (Nat.lt_of_lt_of_le (by decide) hN) rfl (by decide) gBeg (by rw [hF0.1 47 (by decide) (by decide)]; exact hmB) (by decide) nl c (by rw [hF0.2 15 (by decide) (by decide) (by decide)]; exact htn) hl9 (by rw [hF0.1 46 (by decide) (by decide)]; exact htp) hc9 1 p (Nat.le_refl 1) hwl hp hat) (Nat.lt_of_lt_of_le (by decide) hN) rfl rfl (by decide) rfl (Nat.le_of_ble_eq_true rfl) dX5_statement_6 (fun r1_ σ1_ h1_ => ?_)
  obtain ⟨hO1_, hG1_⟩ := h1_
  have hX1_ := px_beg hbd hp hp0 hO1_
  have F2_ : FrP σ σ1_ := hF0.tr (hG1_.P)
  refine g_putn C fp_X5_132 (Nat.lt_of_lt_of_le (by decide) hN) rfl rfl (Nat.le_of_ble_eq_true rfl) rfl rfl dX5_statement_9 (fun σ_1 hσ_1 => ?_)
  have hY3_ := hX1_.fr (show σ_1 38 16 = σ1_ 38 16 by rw [hσ_1, up_elem (by decide)]) (show σ_1 38 17 = σ1_ 38 17 by rw [hσ_1, up_elem (by decide)])
  have F4_ : FrP σ σ_1 := F2_.tr (by rw [hσ_1]; exact FrP.u38 (by decide))
  have hsrt : σ_1 38 22 = r1_ := by rw [hσ_1, up_same]
  have L239 : ∀ (σ2 : SG), (PX σ2 c nl (PF σ2 c nl p)) → (FrP σ σ2) → G l w K 239 [(0, .ref (wA w 38))] [] σ2 := by
    intro σ2 hPX hF2
    obtain ⟨wl9, q9, hw9a, hw9b, hq9a, hq9b⟩ := hPX.st
    have hat9 := hPX.at hw9a hw9b hq9a hl9 hq9b
    refine g_aload_n C dX5_statement_239 rfl rfl ?_
    refine g_get (v := .int (σ2 38 17)) C fl_X5_122 fs_X5_122 (Nat.lt_of_lt_of_le (by decide) hN) rfl rfl dX5_statement_240 ?_
    refine g_val (y := nI wl9) hw9b ?_
    refine g_if_eq (tgt := 284) C dX5_statement_243 rfl (fun c243_2 => ?_) (fun c243_2 => ?_)
    · skip
      have n243_2 : wl9 = 0 := (nj_eq (a := wl9) (b := 0) (by omega) (by omega)).mp c243_2
      refine g_aload_n C dX5_statement_284 rfl rfl ?_
      refine g_iconst C dX5_statement_285 ic_0 ?_
      refine g_putn C fp_X5_122 (Nat.lt_of_lt_of_le (by decide) hN) rfl rfl (Nat.le_of_ble_eq_true rfl) rfl rfl dX5_statement_286 (fun σy hσy => ?_)
      refine g_vret C r dX5_statement_289 ?_
      have hFy : FrP σ2 σy := by rw [hσy]; exact FrP.u38 (by decide)
      refine ⟨hF2.tr hFy, Or.inr ⟨q9, ?_, by rw [hσy, up_same]; rfl, by rw [hσy, up_elem (by decide)]; exact hq9b⟩⟩
      rcases hat9 with ⟨e1, f, t, ⟨z1, z2, z3, z4⟩, hr⟩ | ⟨e1, hW⟩
      · by_cases hql : q9 < nl
        · exact hr.bad hql (z4 (by omega) hql)
        · exact hr.fin z2 hql
      · exact hW
    · skip
      have n243_2 : ¬ (wl9 = 0) := fun qq => c243_2 ((nj_eq (a := wl9) (b := 0) (by omega) (by omega)).mpr qq)
      refine g_aload_n C dX5_statement_246 rfl rfl ?_
      refine g_get (v := .int (σ2 38 16)) C fl_X5_125 fs_X5_125 (Nat.lt_of_lt_of_le (by decide) hN) rfl rfl dX5_statement_247 ?_
      refine g_val (y := nI q9) hq9b ?_
      refine g_aload_n C dX5_statement_250 rfl rfl ?_
      refine g_get (v := .int (σ2 38 15)) C fl_X5_119 fs_X5_119 (Nat.lt_of_lt_of_le (by decide) hN) rfl rfl dX5_statement_251 ?_
      refine g_val (y := nI nl) (by rw [hF2.2 15 (by decide) (by decide) (by decide)]; exact htn) ?_
      refine g_icmp_ge (tgt := 284) C dX5_statement_254 rfl (fun c254_3 => ?_) (fun c254_3 => ?_)
      · skip
        have n254_3 : nl ≤ q9 := (nj_le (a := nl) (b := q9) (by omega) (by omega)).mp c254_3
        refine g_aload_n C dX5_statement_284 rfl rfl ?_
        refine g_iconst C dX5_statement_285 ic_0 ?_
        refine g_putn C fp_X5_122 (Nat.lt_of_lt_of_le (by decide) hN) rfl rfl (Nat.le_of_ble_eq_true rfl) rfl rfl dX5_statement_286 (fun σy hσy => ?_)
        refine g_vret C r dX5_statement_289 ?_
        have hFy : FrP σ2 σy := by rw [hσy]; exact FrP.u38 (by decide)
        refine ⟨hF2.tr hFy, Or.inr ⟨q9, ?_, by rw [hσy, up_same]; rfl, by rw [hσy, up_elem (by decide)]; exact hq9b⟩⟩
        rcases hat9 with ⟨e1, f, t, ⟨z1, z2, z3, z4⟩, hr⟩ | ⟨e1, hW⟩
        · by_cases hql : q9 < nl
          · exact hr.bad hql (z4 (by omega) hql)
          · exact hr.fin z2 hql
        · exact hW
      · skip
        have n254_3 : ¬ (nl ≤ q9) := fun qq => c254_3 ((nj_le (a := nl) (b := q9) (by omega) (by omega)).mpr qq)
        have hcq := hc9 q9 (by omega)
        refine g_aload_n C dX5_statement_257 rfl rfl ?_
        refine g_get (v := .ref (wA w 46)) C fl_X5_31 fs_X5_31 (Nat.lt_of_lt_of_le (by decide) hN) rfl rfl dX5_statement_258 ?_
        refine g_aload_n C dX5_statement_261 rfl rfl ?_
        refine g_get (v := .int (σ2 38 16)) C fl_X5_125 fs_X5_125 (Nat.lt_of_lt_of_le (by decide) hN) rfl rfl dX5_statement_262 ?_
        refine g_val (y := nI q9) hq9b ?_
        refine g_ial (k0 := 46) (n := 96) C (Nat.lt_of_lt_of_le (by decide) hN) rfl (j := q9) (ix_n (by omega)) dX5_statement_265 ?_
        refine g_val (y := nI (c q9)) (by rw [hF2.1 46 (by decide) (by decide)]; exact htp _ (by omega)) ?_
        refine g_bipush C dX5_statement_266 bp_59 ?_
        refine g_icmp_ne (tgt := 284) C dX5_statement_268 rfl (fun c268_4 => ?_) (fun c268_4 => ?_)
        · skip
          have n268_4 : ¬ (c q9 = 59) := fun qq => c268_4 ((nj_eq (a := c q9) (b := 59) (by omega) (by omega)).mpr qq)
          refine g_aload_n C dX5_statement_284 rfl rfl ?_
          refine g_iconst C dX5_statement_285 ic_0 ?_
          refine g_putn C fp_X5_122 (Nat.lt_of_lt_of_le (by decide) hN) rfl rfl (Nat.le_of_ble_eq_true rfl) rfl rfl dX5_statement_286 (fun σy hσy => ?_)
          refine g_vret C r dX5_statement_289 ?_
          have hFy : FrP σ2 σy := by rw [hσy]; exact FrP.u38 (by decide)
          refine ⟨hF2.tr hFy, Or.inr ⟨q9, ?_, by rw [hσy, up_same]; rfl, by rw [hσy, up_elem (by decide)]; exact hq9b⟩⟩
          rcases hat9 with ⟨e1, f, t, ⟨z1, z2, z3, z4⟩, hr⟩ | ⟨e1, hW⟩
          · by_cases hql : q9 < nl
            · exact hr.bad hql (z4 (by omega) hql)
            · exact hr.fin z2 hql
          · exact hW
        · skip
          have n268_4 : c q9 = 59 := (nj_eq (a := c q9) (b := 59) (by omega) (by omega)).mp c268_4
          refine g_aload_n C dX5_statement_271 rfl rfl ?_
          refine g_dup C dX5_statement_272 rfl ?_
          refine g_get (v := .int (σ2 38 16)) C fl_X5_125 fs_X5_125 (Nat.lt_of_lt_of_le (by decide) hN) rfl rfl dX5_statement_273 ?_
          refine g_val (y := nI q9) hq9b ?_
          refine g_iconst C dX5_statement_276 ic_1 ?_
          refine g_iaddv (v := nI (q9 + 1)) C (nj_plus q9 1) dX5_statement_277 ?_
          refine g_putn C fp_X5_125 (Nat.lt_of_lt_of_le (by decide) hN) rfl rfl (Nat.le_of_ble_eq_true rfl) rfl rfl dX5_statement_278 (fun σz hσz => ?_)
          refine g_goto (tgt := 289) C dX5_statement_281 rfl ?_
          refine g_vret C r dX5_statement_289 ?_
          have hFz : FrP σ2 σz := by rw [hσz]; exact FrP.u38 (by decide)
          refine ⟨hF2.tr hFz, ?_⟩
          rcases hat9 with ⟨e1, f, t, ⟨z1, z2, z3, z4⟩, hr⟩ | ⟨e1, -⟩
          · obtain ⟨hS, ⟨t2, s1, s2⟩, hFD⟩ := z3 (by omega)
            have hr2 := hr.ok (by omega) s1
            exact Or.inl ⟨q9 + 1, hS, hr2.2, hr2.bnd s2, by rw [hσz, up_elem (by decide), hw9b, e1], by rw [hσz, up_same], hFD.fr (by rw [hσz, up_elem (by decide)]) (by rw [hσz, up_other (by decide)])⟩
          · omega
  refine g_aload_n C dX5_statement_12 rfl rfl ?_
  refine g_get (v := .int (σ_1 38 22)) C fl_X5_132 fs_X5_132 (Nat.lt_of_lt_of_le (by decide) hN) rfl rfl dX5_statement_13 ?_
  refine g_val (y := r1_) hsrt ?_
  by_cases s16_0 : r1_ = 0
  · skip
    refine g_tsw (v := 0) (tgt := 56) C dX5_statement_16 s16_0 (by decide) (by decide) rfl rfl ?_
    have hZ0 : PX σ_1 c nl (fun q f t => q = p + 1 ∧ f = 1 ∧ t = 0 ∧ p < nl ∧ c p = 101) := hY3_.imp (fun q f t _ h => by obtain ⟨e1, e2, e3, e4, k, k1, k2, k3⟩ := h; have ek : k = 0 := (nj_eq (by omega) (by omega)).mp (k3.symm.trans (by assumption)); subst ek; have e5 : c p = 101 := k2.symm; exact ⟨e1, by rw [e3, e5]; decide, e2, e4, e5⟩)
    have hsrt : σ_1 38 22 = nI 0 := hsrt.trans s16_0
    refine g_aload_n C dX5_statement_56 rfl rfl ?_
    refine g_get (v := .ref (wA w 51)) C fl_X5_47 fs_X5_47 (Nat.lt_of_lt_of_le (by decide) hN) rfl rfl dX5_statement_57 ?_
    refine g_iconst C dX5_statement_60 ic_0 ?_
    refine g_aload_n C dX5_statement_61 rfl rfl ?_
    refine g_aload_n C dX5_statement_62 rfl rfl ?_
    refine g_get (v := .ref (wA w 48)) C fl_X5_38 fs_X5_38 (Nat.lt_of_lt_of_le (by decide) hN) rfl rfl dX5_statement_63 ?_
    obtain ⟨wl5_, q5_, ha5_, hb5_, hc5_, hd5_⟩ := hZ0.st
    refine g_callVI (rest := [.int 0, .ref (wA w 51)]) C mv_X5_128 (ct_X5_oneOf l w hN σ_1 48 6 (Nat.lt_of_lt_of_le (by decide) hN) rfl (by decide) gEat (by rw [F4_.1 48 (by decide) (by decide)]; exact hmE) (by decide) nl c (by rw [F4_.2 15 (by decide) (by decide) (by decide)]; exact htn) hl9 (by rw [F4_.1 46 (by decide) (by decide)]; exact htp) hc9 wl5_ q5_ ha5_ hb5_ hc5_ hd5_) (Nat.lt_of_lt_of_le (by decide) hN) rfl rfl (by decide) rfl (Nat.le_of_ble_eq_true rfl) dX5_statement_66 (fun r5_ σ5_ h5_ => ?_)
    obtain ⟨hO5_, hG5_⟩ := h5_
    have hX5_ := px_one hZ0 ha5_ hb5_ hc5_ hl9 hd5_ hO5_ (fun q f t h => one_eat h.2.1 h.2.2.1)
    have hsrt : σ5_ 38 22 = nI 0 := by rw [hG5_.2 22 (by decide) (by decide)]; exact hsrt
    have hX5_i : PX σ5_ c nl (fun q f t => q = p + 2 ∧ f = 1 ∧ t = 1 ∧ p < nl ∧ c p = 101 ∧ (txF 6 (c (p + 1))).isSome = true ∧ r5_ = nI (kiE c p)) := hX5_.imp (fun q f t _ h => by obtain ⟨q0, t0, ⟨e1, e2, e3, e4, e5⟩, e6, e7, k, k1, k2, k3⟩ := h; subst e1; subst e2; subst e3; have hk := gEat_uq k1 k2; refine ⟨e6, rfl, e7, e4, e5, by rw [hk]; rfl, ?_⟩; rw [k3]; unfold kiE; rw [hk]; rfl)
    have F6_ : FrP σ σ5_ := F4_.tr (hG5_.P)
    refine g_ias (k0 := 51) (n := 7) C (Nat.lt_of_lt_of_le (by decide) hN) rfl (j := 0) (by unfold ix; decide) dX5_statement_69 (fun σ_5 hσ_5 => ?_)
    have hY7_ := hX5_i.fr (show σ_5 38 16 = σ5_ 38 16 by rw [hσ_5, up_other (by decide)]) (show σ_5 38 17 = σ5_ 38 17 by rw [hσ_5, up_other (by decide)])
    have F8_ : FrP σ σ_5 := F6_.tr (by rw [hσ_5]; exact FrP.u51)
    have hf0 : σ_5 51 0 = r5_ := by rw [hσ_5, up_same]
    have hsrt : σ_5 38 22 = nI 0 := by rw [hσ_5, up_other (by decide)]; exact hsrt
    refine g_aload_n C dX5_statement_70 rfl rfl ?_
    refine g_get (v := .ref (wA w 51)) C fl_X5_47 fs_X5_47 (Nat.lt_of_lt_of_le (by decide) hN) rfl rfl dX5_statement_71 ?_
    refine g_iconst C dX5_statement_74 ic_1 ?_
    refine g_aload_n C dX5_statement_75 rfl rfl ?_
    refine g_iconst C dX5_statement_76 ic_1 ?_
    refine g_iconst C dX5_statement_77 ic_1 ?_
    obtain ⟨wl9_, q9_, ha9_, hb9_, hc9_, hd9_⟩ := hY7_.st
    refine g_callVI (rest := [.int 1, .ref (wA w 51)]) C mv_X5_135 (ct_X5_figures l w hN σ_5 1 1 (by decide) (by decide) nl c (by rw [F8_.2 15 (by decide) (by decide) (by decide)]; exact htn) hl9 (by rw [F8_.1 46 (by decide) (by decide)]; exact htp) hc9 wl9_ q9_ ha9_ hb9_ hc9_ hd9_) (Nat.lt_of_lt_of_le (by decide) hN) rfl rfl (by decide) rfl (Nat.le_of_ble_eq_true rfl) dX5_statement_78 (fun r9_ σ9_ h9_ => ?_)
    obtain ⟨hO9_, hG9_⟩ := h9_
    have hX9_ := px_fig1 hY7_ ha9_ hb9_ hc9_ hl9 hd9_ hO9_ (fun q f t h => n57_1 h.2.1 (by omega))
    have hf0 : σ9_ 51 0 = r5_ := by rw [hG9_.1 51 (by decide)]; exact hf0
    have hsrt : σ9_ 38 22 = nI 0 := by rw [hG9_.2 22 (by decide) (by decide)]; exact hsrt
    have hX9_i : PX σ9_ c nl (fun q f t => q = p + 3 ∧ f = 1 ∧ t = 2 ∧ p < nl ∧ c p = 101 ∧ (txF 6 (c (p + 1))).isSome = true ∧ r5_ = nI (kiE c p) ∧ dgt (c (p + 2)) ∧ r9_ = nI (c (p + 2) - 48)) := hX9_.imp (fun q f t _ h => by obtain ⟨q0, t0, ⟨e1, e2, e3, e4, e5, e8, e9⟩, e6, e7, k1, k2⟩ := h; subst e1; subst e2; subst e3; exact ⟨e6, rfl, e7, e4, e5, e8, e9, k1, k2⟩)
    have F10_ : FrP σ σ9_ := F8_.tr (hG9_.P)
    refine g_ias (k0 := 51) (n := 7) C (Nat.lt_of_lt_of_le (by decide) hN) rfl (j := 1) (by unfold ix; decide) dX5_statement_81 (fun σ_6 hσ_6 => ?_)
    have hY11_ := hX9_i.fr (show σ_6 38 16 = σ9_ 38 16 by rw [hσ_6, up_other (by decide)]) (show σ_6 38 17 = σ9_ 38 17 by rw [hσ_6, up_other (by decide)])
    have F12_ : FrP σ σ_6 := F10_.tr (by rw [hσ_6]; exact FrP.u51)
    have hf0 : σ_6 51 0 = r5_ := by rw [hσ_6, up_elem (by decide)]; exact hf0
    have hf1 : σ_6 51 1 = r9_ := by rw [hσ_6, up_same]
    have hsrt : σ_6 38 22 = nI 0 := by rw [hσ_6, up_other (by decide)]; exact hsrt
    refine g_aload_n C dX5_statement_82 rfl rfl ?_
    refine g_get (v := .ref (wA w 51)) C fl_X5_47 fs_X5_47 (Nat.lt_of_lt_of_le (by decide) hN) rfl rfl dX5_statement_83 ?_
    refine g_iconst C dX5_statement_86 ic_2 ?_
    refine g_aload_n C dX5_statement_87 rfl rfl ?_
    refine g_iconst C dX5_statement_88 ic_1 ?_
    refine g_iconst C dX5_statement_89 ic_1 ?_
    obtain ⟨wl13_, q13_, ha13_, hb13_, hc13_, hd13_⟩ := hY11_.st
    refine g_callVI (rest := [.int 2, .ref (wA w 51)]) C mv_X5_135 (ct_X5_figures l w hN σ_6 1 1 (by decide) (by decide) nl c (by rw [F12_.2 15 (by decide) (by decide) (by decide)]; exact htn) hl9 (by rw [F12_.1 46 (by decide) (by decide)]; exact htp) hc9 wl13_ q13_ ha13_ hb13_ hc13_ hd13_) (Nat.lt_of_lt_of_le (by decide) hN) rfl rfl (by decide) rfl (Nat.le_of_ble_eq_true rfl) dX5_statement_90 (fun r13_ σ13_ h13_ => ?_)
    obtain ⟨hO13_, hG13_⟩ := h13_
    have hX13_ := px_fig1 hY11_ ha13_ hb13_ hc13_ hl9 hd13_ hO13_ (fun q f t h => n57_1 h.2.1 (by omega))
    have hf0 : σ13_ 51 0 = r5_ := by rw [hG13_.1 51 (by decide)]; exact hf0
    have hf1 : σ13_ 51 1 = r9_ := by rw [hG13_.1 51 (by decide)]; exact hf1
    have hsrt : σ13_ 38 22 = nI 0 := by rw [hG13_.2 22 (by decide) (by decide)]; exact hsrt
    have hX13_i : PX σ13_ c nl (fun q f t => q = p + 4 ∧ f = 1 ∧ t = 3 ∧ p < nl ∧ c p = 101 ∧ (txF 6 (c (p + 1))).isSome = true ∧ r5_ = nI (kiE c p) ∧ dgt (c (p + 2)) ∧ r9_ = nI (c (p + 2) - 48) ∧ dgt (c (p + 3)) ∧ r13_ = nI (c (p + 3) - 48)) := hX13_.imp (fun q f t _ h => by obtain ⟨q0, t0, ⟨e1, e2, e3, e4, e5, e8, e9, e10, e11⟩, e6, e7, k1, k2⟩ := h; subst e1; subst e2; subst e3; exact ⟨e6, rfl, e7, e4, e5, e8, e9, e10, e11, k1, k2⟩)
    have F14_ : FrP σ σ13_ := F12_.tr (hG13_.P)
    refine g_ias (k0 := 51) (n := 7) C (Nat.lt_of_lt_of_le (by decide) hN) rfl (j := 2) (by unfold ix; decide) dX5_statement_93 (fun σ_7 hσ_7 => ?_)
    have hY15_ := hX13_i.fr (show σ_7 38 16 = σ13_ 38 16 by rw [hσ_7, up_other (by decide)]) (show σ_7 38 17 = σ13_ 38 17 by rw [hσ_7, up_other (by decide)])
    have F16_ : FrP σ σ_7 := F14_.tr (by rw [hσ_7]; exact FrP.u51)
    have hf0 : σ_7 51 0 = r5_ := by rw [hσ_7, up_elem (by decide)]; exact hf0
    have hf1 : σ_7 51 1 = r9_ := by rw [hσ_7, up_elem (by decide)]; exact hf1
    have hf2 : σ_7 51 2 = r13_ := by rw [hσ_7, up_same]
    have hsrt : σ_7 38 22 = nI 0 := by rw [hσ_7, up_other (by decide)]; exact hsrt
    refine g_aload_n C dX5_statement_94 rfl rfl ?_
    refine g_get (v := .ref (wA w 51)) C fl_X5_47 fs_X5_47 (Nat.lt_of_lt_of_le (by decide) hN) rfl rfl dX5_statement_95 ?_
    refine g_iconst C dX5_statement_98 ic_3 ?_
    refine g_aload_n C dX5_statement_99 rfl rfl ?_
    refine g_iconst C dX5_statement_100 ic_1 ?_
    refine g_iconst C dX5_statement_101 ic_2 ?_
    obtain ⟨wl17_, q17_, ha17_, hb17_, hc17_, hd17_⟩ := hY15_.st
    refine g_callVI (rest := [.int 3, .ref (wA w 51)]) C mv_X5_135 (ct_X5_figures l w hN σ_7 1 2 (by decide) (by decide) nl c (by rw [F16_.2 15 (by decide) (by decide) (by decide)]; exact htn) hl9 (by rw [F16_.1 46 (by decide) (by decide)]; exact htp) hc9 wl17_ q17_ ha17_ hb17_ hc17_ hd17_) (Nat.lt_of_lt_of_le (by decide) hN) rfl rfl (by decide) rfl (Nat.le_of_ble_eq_true rfl) dX5_statement_102 (fun r17_ σ17_ h17_ => ?_)
    obtain ⟨hO17_, hG17_⟩ := h17_
    have hX17_ := px_fig12 hY15_ ha17_ hb17_ hc17_ hl9 hd17_ hO17_ (fun q f t h => ⟨h.2.1, h.2.2.1⟩)
    have hf0 : σ17_ 51 0 = r5_ := by rw [hG17_.1 51 (by decide)]; exact hf0
    have hf1 : σ17_ 51 1 = r9_ := by rw [hG17_.1 51 (by decide)]; exact hf1
    have hf2 : σ17_ 51 2 = r13_ := by rw [hG17_.1 51 (by decide)]; exact hf2
    have hsrt : σ17_ 38 22 = nI 0 := by rw [hG17_.2 22 (by decide) (by decide)]; exact hsrt
    have hX17_i : PX σ17_ c nl (fun q f t => f = 1 ∧ p < nl ∧ c p = 101 ∧ (txF 6 (c (p + 1))).isSome = true ∧ r5_ = nI (kiE c p) ∧ dgt (c (p + 2)) ∧ r9_ = nI (c (p + 2) - 48) ∧ dgt (c (p + 3)) ∧ r13_ = nI (c (p + 3) - 48) ∧ dgt (c (p + 4)) ∧ ((q = p + 5 ∧ t = 4 ∧ ¬ (q < nl ∧ dgt (c q)) ∧ r17_ = nI (c (p + 4) - 48)) ∨ (q = p + 6 ∧ t = 5 ∧ dgt (c (p + 5)) ∧ r17_ = nI (two c (p + 4))))) := hX17_.imp (fun q f t _ h => by obtain ⟨q0, ⟨e1, e2, e3, e4, e5, e8, e9, e10, e11, e12, e13⟩, e6, k1, k2⟩ := h; subst e1; exact ⟨e6, e4, e5, e8, e9, e10, e11, e12, e13, k1, k2⟩)
    have F18_ : FrP σ σ17_ := F16_.tr (hG17_.P)
    refine g_ias (k0 := 51) (n := 7) C (Nat.lt_of_lt_of_le (by decide) hN) rfl (j := 3) (by unfold ix; decide) dX5_statement_105 (fun σ_8 hσ_8 => ?_)
    have hY19_ := hX17_i.fr (show σ_8 38 16 = σ17_ 38 16 by rw [hσ_8, up_other (by decide)]) (show σ_8 38 17 = σ17_ 38 17 by rw [hσ_8, up_other (by decide)])
    have F20_ : FrP σ σ_8 := F18_.tr (by rw [hσ_8]; exact FrP.u51)
    have hf0 : σ_8 51 0 = r5_ := by rw [hσ_8, up_elem (by decide)]; exact hf0
    have hf1 : σ_8 51 1 = r9_ := by rw [hσ_8, up_elem (by decide)]; exact hf1
    have hf2 : σ_8 51 2 = r13_ := by rw [hσ_8, up_elem (by decide)]; exact hf2
    have hf3 : σ_8 51 3 = r17_ := by rw [hσ_8, up_same]
    have hsrt : σ_8 38 22 = nI 0 := by rw [hσ_8, up_other (by decide)]; exact hsrt
    refine g_goto (tgt := 239) C dX5_statement_106 rfl ?_
    exact g_lvp [0] rfl (L239 σ_8 (hY19_.imp (fun q f t hrs h => by obtain ⟨e1, e2, e3, e4, e5, e6, e7, e8, e9, e10, e11⟩ := h; subst e1; rcases e11 with ⟨rfl, rfl, y1, y2⟩ | ⟨rfl, rfl, y1, y2⟩; refine ⟨e2, by decide, fun z => ⟨Or.inl ⟨e3, e4, e6, e8, e10, Or.inl ⟨z, rfl⟩⟩, ⟨6, by rw [st63, if_neg (by omega), if_pos z], by decide⟩, ⟨fun _ => ⟨hsrt, hf0.trans e5, hf1.trans e7, hf2.trans e9, hf3.trans (y2.trans (congrArg nI (if_pos z).symm))⟩, fun z => absurd z (by omega), fun z => absurd z (by omega), fun z => absurd z (by omega), fun z => absurd z (by omega), fun z => absurd z (by omega), fun z => absurd z (by omega)⟩⟩, fun z hq => by rw [st63, if_neg (fun x => y1 ⟨hq, x⟩), if_neg z]⟩; refine ⟨e2, by decide, fun z => ⟨Or.inl ⟨e3, e4, e6, e8, e10, Or.inr ⟨y1, z, rfl⟩⟩, ⟨6, by rw [st59 (by decide) (by decide), if_pos z], by decide⟩, ⟨fun _ => ⟨hsrt, hf0.trans e5, hf1.trans e7, hf2.trans e9, hf3.trans (y2.trans (congrArg nI (if_neg (by omega)).symm))⟩, fun z => absurd z (by omega), fun z => absurd z (by omega), fun z => absurd z (by omega), fun z => absurd z (by omega), fun z => absurd z (by omega), fun z => absurd z (by omega)⟩⟩, fun z _ => by rw [st59 (by decide) (by decide), if_neg z]⟩)) (F20_))
  by_cases s16_1 : r1_ = 1
  · skip
    refine g_tsw (v := 1) (tgt := 109) C dX5_statement_16 s16_1 (by decide) (by decide) rfl rfl ?_
    have hZ1 : PX σ_1 c nl (fun q f t => q = p + 1 ∧ f = 2 ∧ t = 0 ∧ p < nl ∧ c p = 115) := hY3_.imp (fun q f t _ h => by obtain ⟨e1, e2, e3, e4, k, k1, k2, k3⟩ := h; have ek : k = 1 := (nj_eq (by omega) (by omega)).mp (k3.symm.trans (by assumption)); subst ek; have e5 : c p = 115 := k2.symm; exact ⟨e1, by rw [e3, e5]; decide, e2, e4, e5⟩)
    have hsrt : σ_1 38 22 = nI 1 := hsrt.trans s16_1
    refine g_aload_n C dX5_statement_109 rfl rfl ?_
    refine g_get (v := .ref (wA w 51)) C fl_X5_47 fs_X5_47 (Nat.lt_of_lt_of_le (by decide) hN) rfl rfl dX5_statement_110 ?_
    refine g_iconst C dX5_statement_113 ic_0 ?_
    refine g_aload_n C dX5_statement_114 rfl rfl ?_
    refine g_iconst C dX5_statement_115 ic_1 ?_
    refine g_iconst C dX5_statement_116 ic_1 ?_
    obtain ⟨wl21_, q21_, ha21_, hb21_, hc21_, hd21_⟩ := hZ1.st
    refine g_callVI (rest := [.int 0, .ref (wA w 51)]) C mv_X5_135 (ct_X5_figures l w hN σ_1 1 1 (by decide) (by decide) nl c (by rw [F4_.2 15 (by decide) (by decide) (by decide)]; exact htn) hl9 (by rw [F4_.1 46 (by decide) (by decide)]; exact htp) hc9 wl21_ q21_ ha21_ hb21_ hc21_ hd21_) (Nat.lt_of_lt_of_le (by decide) hN) rfl rfl (by decide) rfl (Nat.le_of_ble_eq_true rfl) dX5_statement_117 (fun r21_ σ21_ h21_ => ?_)
    obtain ⟨hO21_, hG21_⟩ := h21_
    have hX21_ := px_fig1 hZ1 ha21_ hb21_ hc21_ hl9 hd21_ hO21_ (fun q f t h => n57_2 h.2.1 (by omega))
    have hsrt : σ21_ 38 22 = nI 1 := by rw [hG21_.2 22 (by decide) (by decide)]; exact hsrt
    have hX21_i : PX σ21_ c nl (fun q f t => q = p + 2 ∧ f = 2 ∧ t = 1 ∧ p < nl ∧ c p = 115 ∧ dgt (c (p + 1)) ∧ r21_ = nI (c (p + 1) - 48)) := hX21_.imp (fun q f t _ h => by obtain ⟨q0, t0, ⟨e1, e2, e3, e4, e5⟩, e6, e7, k1, k2⟩ := h; subst e1; subst e2; subst e3; exact ⟨e6, rfl, e7, e4, e5, k1, k2⟩)
    have F22_ : FrP σ σ21_ := F4_.tr (hG21_.P)
    refine g_ias (k0 := 51) (n := 7) C (Nat.lt_of_lt_of_le (by decide) hN) rfl (j := 0) (by unfold ix; decide) dX5_statement_120 (fun σ_9 hσ_9 => ?_)
    have hY23_ := hX21_i.fr (show σ_9 38 16 = σ21_ 38 16 by rw [hσ_9, up_other (by decide)]) (show σ_9 38 17 = σ21_ 38 17 by rw [hσ_9, up_other (by decide)])
    have F24_ : FrP σ σ_9 := F22_.tr (by rw [hσ_9]; exact FrP.u51)
    have hf0 : σ_9 51 0 = r21_ := by rw [hσ_9, up_same]
    have hsrt : σ_9 38 22 = nI 1 := by rw [hσ_9, up_other (by decide)]; exact hsrt
    refine g_aload_n C dX5_statement_121 rfl rfl ?_
    refine g_get (v := .ref (wA w 51)) C fl_X5_47 fs_X5_47 (Nat.lt_of_lt_of_le (by decide) hN) rfl rfl dX5_statement_122 ?_
    refine g_iconst C dX5_statement_125 ic_1 ?_
    refine g_aload_n C dX5_statement_126 rfl rfl ?_
    refine g_iconst C dX5_statement_127 ic_2 ?_
    refine g_iconst C dX5_statement_128 ic_2 ?_
    obtain ⟨wl25_, q25_, ha25_, hb25_, hc25_, hd25_⟩ := hY23_.st
    refine g_callVI (rest := [.int 1, .ref (wA w 51)]) C mv_X5_135 (ct_X5_figures l w hN σ_9 2 2 (by decide) (by decide) nl c (by rw [F24_.2 15 (by decide) (by decide) (by decide)]; exact htn) hl9 (by rw [F24_.1 46 (by decide) (by decide)]; exact htp) hc9 wl25_ q25_ ha25_ hb25_ hc25_ hd25_) (Nat.lt_of_lt_of_le (by decide) hN) rfl rfl (by decide) rfl (Nat.le_of_ble_eq_true rfl) dX5_statement_129 (fun r25_ σ25_ h25_ => ?_)
    obtain ⟨hO25_, hG25_⟩ := h25_
    have hX25_ := px_fig2 hY23_ ha25_ hb25_ hc25_ hl9 hd25_ hO25_ (fun q f t h => n57_22 h.2.1 (by omega))
    have hf0 : σ25_ 51 0 = r21_ := by rw [hG25_.1 51 (by decide)]; exact hf0
    have hsrt : σ25_ 38 22 = nI 1 := by rw [hG25_.2 22 (by decide) (by decide)]; exact hsrt
    have hX25_i : PX σ25_ c nl (fun q f t => q = p + 4 ∧ f = 2 ∧ t = 3 ∧ p < nl ∧ c p = 115 ∧ dgt (c (p + 1)) ∧ r21_ = nI (c (p + 1) - 48) ∧ dgt (c (p + 2)) ∧ dgt (c (p + 3)) ∧ r25_ = nI (two c (p + 2))) := hX25_.imp (fun q f t _ h => by obtain ⟨q0, t0, ⟨e1, e2, e3, e4, e5, e8, e9⟩, e6, e7, k1, k2, k3⟩ := h; subst e1; subst e2; subst e3; exact ⟨e6, rfl, e7, e4, e5, e8, e9, k1, k2, k3⟩)
    have F26_ : FrP σ σ25_ := F24_.tr (hG25_.P)
    refine g_ias (k0 := 51) (n := 7) C (Nat.lt_of_lt_of_le (by decide) hN) rfl (j := 1) (by unfold ix; decide) dX5_statement_132 (fun σ_10 hσ_10 => ?_)
    have hY27_ := hX25_i.fr (show σ_10 38 16 = σ25_ 38 16 by rw [hσ_10, up_other (by decide)]) (show σ_10 38 17 = σ25_ 38 17 by rw [hσ_10, up_other (by decide)])
    have F28_ : FrP σ σ_10 := F26_.tr (by rw [hσ_10]; exact FrP.u51)
    have hf0 : σ_10 51 0 = r21_ := by rw [hσ_10, up_elem (by decide)]; exact hf0
    have hf1 : σ_10 51 1 = r25_ := by rw [hσ_10, up_same]
    have hsrt : σ_10 38 22 = nI 1 := by rw [hσ_10, up_other (by decide)]; exact hsrt
    refine g_goto (tgt := 239) C dX5_statement_133 rfl ?_
    exact g_lvp [0] rfl (L239 σ_10 (hY27_.imp (fun q f t hrs h => by obtain ⟨e1, e2, e3, e4, e5, e6, e7, e8, e9, e10⟩ := h; subst e1; subst e2; subst e3; obtain ⟨z1, z2⟩ := pf59 (c := c) (q := p + 4) (f := 2) (t := 3) (by decide) (by decide) (by decide); exact ⟨e4, by decide, fun z => ⟨Or.inr (Or.inl ⟨e5, e6, e8, e9, z, rfl⟩), z1 z, ⟨fun z => absurd z (by omega), fun _ => ⟨hsrt, hf0.trans e7, hf1.trans e10⟩, fun z => absurd z (by omega), fun z => absurd z (by omega), fun z => absurd z (by omega), fun z => absurd z (by omega), fun z => absurd z (by omega)⟩⟩, fun z _ => z2 z⟩)) (F28_))
  by_cases s16_2 : r1_ = 2
  · skip
    refine g_tsw (v := 2) (tgt := 136) C dX5_statement_16 s16_2 (by decide) (by decide) rfl rfl ?_
    have hZ2 : PX σ_1 c nl (fun q f t => q = p + 1 ∧ f = 3 ∧ t = 0 ∧ p < nl ∧ c p = 119) := hY3_.imp (fun q f t _ h => by obtain ⟨e1, e2, e3, e4, k, k1, k2, k3⟩ := h; have ek : k = 2 := (nj_eq (by omega) (by omega)).mp (k3.symm.trans (by assumption)); subst ek; have e5 : c p = 119 := k2.symm; exact ⟨e1, by rw [e3, e5]; decide, e2, e4, e5⟩)
    have hsrt : σ_1 38 22 = nI 2 := hsrt.trans s16_2
    refine g_iconst C dX5_statement_136 ic_0 ?_
    refine g_istore_n (lv' := [(1, .int 0), (0, .ref (wA w 38))]) C dX5_statement_137 rfl (by decide) rfl ?_
    have L138 : ∀ (m138 : Nat) (k : Nat) (σ1 : SG), m138 = 7 - k → (k ≤ 7) → (PX σ1 c nl (fun q f t => q = p + 1 + k ∧ f = 3 ∧ t = k ∧ p < nl ∧ c p = 119 ∧ ∀ j, j < k → (c (p + 1 + j) = 111 ∨ c (p + 1 + j) = 120) ∧ σ1 51 j = nI (if c (p + 1 + j) = 111 then 1 else 0))) → (FrP σ σ1) → (σ1 38 22 = nI 2) → G l w K 138 [(0, .ref (wA w 38)), (1, .int (nI k))] [] σ1 := by
      intro m138
      induction m138 using Nat.strongRecOn with
      | ind m138 ih138 =>
      intro k σ1 em138 hk hPL hF1 hs1
      have hsrt := hs1
      refine g_iload_n C dX5_statement_138 rfl rfl ?_
      refine g_bipush C dX5_statement_139 bp_7 ?_
      refine g_icmp_ge (tgt := 164) C dX5_statement_141 rfl (fun c141_11 => ?_) (fun c141_11 => ?_)
      · skip
        have n141_11 : 7 ≤ k := (nj_le (a := 7) (b := k) (by omega) (by omega)).mp c141_11
        obtain rfl : k = 7 := by omega
        refine g_goto (tgt := 239) C dX5_statement_164 rfl ?_
        exact g_lvp [0] rfl (L239 σ1 (hPL.imp (fun q f t hrs h => by obtain ⟨e1, e2, e3, e4, e5, e6⟩ := h; subst e1; subst e2; subst e3; obtain ⟨z1, z2⟩ := pf59 (c := c) (q := p + 1 + 7) (f := 3) (t := 7) (by decide) (by decide) (by decide); exact ⟨e4, by decide, fun z => ⟨Or.inr (Or.inr (Or.inl ⟨e5, fun j hj => (e6 j hj).1, z, rfl⟩)), z1 z, ⟨fun z => absurd z (by omega), fun z => absurd z (by omega), fun _ => ⟨hs1, fun j hj => (e6 j hj).2⟩, fun z => absurd z (by omega), fun z => absurd z (by omega), fun z => absurd z (by omega), fun z => absurd z (by omega)⟩⟩, fun z _ => z2 z⟩)) (hF1))
      · skip
        have n141_11 : ¬ (7 ≤ k) := fun qq => c141_11 ((nj_le (a := 7) (b := k) (by omega) (by omega)).mpr qq)
        refine g_aload_n C dX5_statement_144 rfl rfl ?_
        refine g_get (v := .ref (wA w 51)) C fl_X5_47 fs_X5_47 (Nat.lt_of_lt_of_le (by decide) hN) rfl rfl dX5_statement_145 ?_
        refine g_iload_n C dX5_statement_148 rfl rfl ?_
        refine g_aload_n C dX5_statement_149 rfl rfl ?_
        refine g_aload_n C dX5_statement_150 rfl rfl ?_
        refine g_get (v := .ref (wA w 50)) C fl_X5_44 fs_X5_44 (Nat.lt_of_lt_of_le (by decide) hN) rfl rfl dX5_statement_151 ?_
        obtain ⟨wl29_, q29_, ha29_, hb29_, hc29_, hd29_⟩ := hPL.st
        refine g_callVI (rest := [.int (nI k), .ref (wA w 51)]) C mv_X5_128 (ct_X5_oneOf l w hN σ1 50 2 (Nat.lt_of_lt_of_le (by decide) hN) rfl (by decide) gOpn (by rw [hF1.1 50 (by decide) (by decide)]; exact hmO) (by decide) nl c (by rw [hF1.2 15 (by decide) (by decide) (by decide)]; exact htn) hl9 (by rw [hF1.1 46 (by decide) (by decide)]; exact htp) hc9 wl29_ q29_ ha29_ hb29_ hc29_ hd29_) (Nat.lt_of_lt_of_le (by decide) hN) rfl rfl (by decide) rfl (Nat.le_of_ble_eq_true rfl) dX5_statement_154 (fun r29_ σ29_ h29_ => ?_)
        obtain ⟨hO29_, hG29_⟩ := h29_
        have hX29_ := px_one hPL ha29_ hb29_ hc29_ hl9 hd29_ hO29_ (fun q f t h => one_opn h.2.1 (by omega))
        have hst_call : ∀ j, σ29_ 51 j = σ1 51 j := fun j => by rw [hG29_.1 51 (by decide)]
        have hsrt : σ29_ 38 22 = nI 2 := by rw [hG29_.2 22 (by decide) (by decide)]; exact hsrt
        have F30_ : FrP σ σ29_ := hF1.tr (hG29_.P)
        refine g_ias (k0 := 51) (n := 7) C (Nat.lt_of_lt_of_le (by decide) hN) rfl (j := k) (ix_n (by omega)) dX5_statement_157 (fun σ_12 hσ_12 => ?_)
        have hY31_ := hX29_.fr (show σ_12 38 16 = σ29_ 38 16 by rw [hσ_12, up_other (by decide)]) (show σ_12 38 17 = σ29_ 38 17 by rw [hσ_12, up_other (by decide)])
        have F32_ : FrP σ σ_12 := F30_.tr (by rw [hσ_12]; exact FrP.u51)
        have hsrt : σ_12 38 22 = nI 2 := by rw [hσ_12, up_other (by decide)]; exact hsrt
        have hst_new : σ_12 51 k = r29_ := by rw [hσ_12, up_same]
        have hst_old : ∀ j, j ≠ k → σ_12 51 j = σ1 51 j := fun j hj => by rw [hσ_12, up_elem hj, hst_call j]
        have hs1n := hsrt
        refine g_iinc (v := nI (k + 1)) (lv' := [(1, .int (nI (k + 1))), (0, .ref (wA w 38))]) C dX5_statement_158 (by decide) rfl (nj_inc k) rfl ?_
        refine g_goto (tgt := 138) C dX5_statement_161 rfl ?_
        exact g_lvp [1, 0] rfl (ih138 (7 - (k + 1)) (by omega) (k + 1) σ_12 rfl (by first | omega | assumption | rfl | grind) (hY31_.imp (fun q f t _ h => by obtain ⟨q0, t0, ⟨e1, e2, e3, e4, e5, e6⟩, e7, e8, k', k1, k2, k3⟩ := h; refine ⟨by omega, e2, by omega, e4, e5, fun j hj => ?_⟩; by_cases z : j = k; subst z; subst e1; have k12 : k' = 0 ∨ k' = 1 := (by omega); rcases k12 with rfl | rfl; have ec : c (p + 1 + j) = 120 := k2.symm; exact ⟨Or.inr ec, by rw [hst_new, k3, if_neg (by omega)]⟩; have ec : c (p + 1 + j) = 111 := k2.symm; exact ⟨Or.inl ec, by rw [hst_new, k3, if_pos ec]⟩; have := e6 j (by omega); exact ⟨this.1, by rw [hst_old j z]; exact this.2⟩)) (F32_) (hsrt))
    exact g_lvp [1, 0] rfl (L138 (7 - 0) 0 σ_1 rfl (by first | omega | assumption | rfl | grind) (hZ2.imp (fun q f t _ h => by obtain ⟨e1, e2, e3, e4, e5⟩ := h; exact ⟨e1, e2, e3, e4, e5, fun j hj => absurd hj (Nat.not_lt_zero _)⟩)) (F4_) (hsrt))
  by_cases s16_3 : r1_ = 3
  · skip
    refine g_tsw (v := 3) (tgt := 167) C dX5_statement_16 s16_3 (by decide) (by decide) rfl rfl ?_
    have hZ3 : PX σ_1 c nl (fun q f t => q = p + 1 ∧ f = 2 ∧ t = 0 ∧ p < nl ∧ c p = 98) := hY3_.imp (fun q f t _ h => by obtain ⟨e1, e2, e3, e4, k, k1, k2, k3⟩ := h; have ek : k = 3 := (nj_eq (by omega) (by omega)).mp (k3.symm.trans (by assumption)); subst ek; have e5 : c p = 98 := k2.symm; exact ⟨e1, by rw [e3, e5]; decide, e2, e4, e5⟩)
    have hsrt : σ_1 38 22 = nI 3 := hsrt.trans s16_3
    refine g_aload_n C dX5_statement_167 rfl rfl ?_
    refine g_get (v := .ref (wA w 51)) C fl_X5_47 fs_X5_47 (Nat.lt_of_lt_of_le (by decide) hN) rfl rfl dX5_statement_168 ?_
    refine g_iconst C dX5_statement_171 ic_0 ?_
    refine g_aload_n C dX5_statement_172 rfl rfl ?_
    refine g_iconst C dX5_statement_173 ic_2 ?_
    refine g_iconst C dX5_statement_174 ic_2 ?_
    obtain ⟨wl33_, q33_, ha33_, hb33_, hc33_, hd33_⟩ := hZ3.st
    refine g_callVI (rest := [.int 0, .ref (wA w 51)]) C mv_X5_135 (ct_X5_figures l w hN σ_1 2 2 (by decide) (by decide) nl c (by rw [F4_.2 15 (by decide) (by decide) (by decide)]; exact htn) hl9 (by rw [F4_.1 46 (by decide) (by decide)]; exact htp) hc9 wl33_ q33_ ha33_ hb33_ hc33_ hd33_) (Nat.lt_of_lt_of_le (by decide) hN) rfl rfl (by decide) rfl (Nat.le_of_ble_eq_true rfl) dX5_statement_175 (fun r33_ σ33_ h33_ => ?_)
    obtain ⟨hO33_, hG33_⟩ := h33_
    have hX33_ := px_fig2 hZ3 ha33_ hb33_ hc33_ hl9 hd33_ hO33_ (fun q f t h => n57_22 h.2.1 (by omega))
    have hsrt : σ33_ 38 22 = nI 3 := by rw [hG33_.2 22 (by decide) (by decide)]; exact hsrt
    have hX33_i : PX σ33_ c nl (fun q f t => q = p + 3 ∧ f = 2 ∧ t = 2 ∧ p < nl ∧ c p = 98 ∧ dgt (c (p + 1)) ∧ dgt (c (p + 2)) ∧ r33_ = nI (two c (p + 1))) := hX33_.imp (fun q f t _ h => by obtain ⟨q0, t0, ⟨e1, e2, e3, e4, e5⟩, e6, e7, k1, k2, k3⟩ := h; subst e1; subst e2; subst e3; exact ⟨e6, rfl, e7, e4, e5, k1, k2, k3⟩)
    have F34_ : FrP σ σ33_ := F4_.tr (hG33_.P)
    refine g_ias (k0 := 51) (n := 7) C (Nat.lt_of_lt_of_le (by decide) hN) rfl (j := 0) (by unfold ix; decide) dX5_statement_178 (fun σ_13 hσ_13 => ?_)
    have hY35_ := hX33_i.fr (show σ_13 38 16 = σ33_ 38 16 by rw [hσ_13, up_other (by decide)]) (show σ_13 38 17 = σ33_ 38 17 by rw [hσ_13, up_other (by decide)])
    have F36_ : FrP σ σ_13 := F34_.tr (by rw [hσ_13]; exact FrP.u51)
    have hf0 : σ_13 51 0 = r33_ := by rw [hσ_13, up_same]
    have hsrt : σ_13 38 22 = nI 3 := by rw [hσ_13, up_other (by decide)]; exact hsrt
    refine g_aload_n C dX5_statement_179 rfl rfl ?_
    refine g_get (v := .ref (wA w 51)) C fl_X5_47 fs_X5_47 (Nat.lt_of_lt_of_le (by decide) hN) rfl rfl dX5_statement_180 ?_
    refine g_iconst C dX5_statement_183 ic_1 ?_
    refine g_aload_n C dX5_statement_184 rfl rfl ?_
    refine g_iconst C dX5_statement_185 ic_1 ?_
    refine g_iconst C dX5_statement_186 ic_1 ?_
    obtain ⟨wl37_, q37_, ha37_, hb37_, hc37_, hd37_⟩ := hY35_.st
    refine g_callVI (rest := [.int 1, .ref (wA w 51)]) C mv_X5_135 (ct_X5_figures l w hN σ_13 1 1 (by decide) (by decide) nl c (by rw [F36_.2 15 (by decide) (by decide) (by decide)]; exact htn) hl9 (by rw [F36_.1 46 (by decide) (by decide)]; exact htp) hc9 wl37_ q37_ ha37_ hb37_ hc37_ hd37_) (Nat.lt_of_lt_of_le (by decide) hN) rfl rfl (by decide) rfl (Nat.le_of_ble_eq_true rfl) dX5_statement_187 (fun r37_ σ37_ h37_ => ?_)
    obtain ⟨hO37_, hG37_⟩ := h37_
    have hX37_ := px_fig1 hY35_ ha37_ hb37_ hc37_ hl9 hd37_ hO37_ (fun q f t h => n57_2 h.2.1 (by omega))
    have hf0 : σ37_ 51 0 = r33_ := by rw [hG37_.1 51 (by decide)]; exact hf0
    have hsrt : σ37_ 38 22 = nI 3 := by rw [hG37_.2 22 (by decide) (by decide)]; exact hsrt
    have hX37_i : PX σ37_ c nl (fun q f t => q = p + 4 ∧ f = 2 ∧ t = 3 ∧ p < nl ∧ c p = 98 ∧ dgt (c (p + 1)) ∧ dgt (c (p + 2)) ∧ r33_ = nI (two c (p + 1)) ∧ dgt (c (p + 3)) ∧ r37_ = nI (c (p + 3) - 48)) := hX37_.imp (fun q f t _ h => by obtain ⟨q0, t0, ⟨e1, e2, e3, e4, e5, e8, e9, e10⟩, e6, e7, k1, k2⟩ := h; subst e1; subst e2; subst e3; exact ⟨e6, rfl, e7, e4, e5, e8, e9, e10, k1, k2⟩)
    have F38_ : FrP σ σ37_ := F36_.tr (hG37_.P)
    refine g_ias (k0 := 51) (n := 7) C (Nat.lt_of_lt_of_le (by decide) hN) rfl (j := 1) (by unfold ix; decide) dX5_statement_190 (fun σ_14 hσ_14 => ?_)
    have hY39_ := hX37_i.fr (show σ_14 38 16 = σ37_ 38 16 by rw [hσ_14, up_other (by decide)]) (show σ_14 38 17 = σ37_ 38 17 by rw [hσ_14, up_other (by decide)])
    have F40_ : FrP σ σ_14 := F38_.tr (by rw [hσ_14]; exact FrP.u51)
    have hf0 : σ_14 51 0 = r33_ := by rw [hσ_14, up_elem (by decide)]; exact hf0
    have hf1 : σ_14 51 1 = r37_ := by rw [hσ_14, up_same]
    have hsrt : σ_14 38 22 = nI 3 := by rw [hσ_14, up_other (by decide)]; exact hsrt
    refine g_goto (tgt := 239) C dX5_statement_191 rfl ?_
    exact g_lvp [0] rfl (L239 σ_14 (hY39_.imp (fun q f t hrs h => by obtain ⟨e1, e2, e3, e4, e5, e6, e7, e8, e9, e10⟩ := h; subst e1; subst e2; subst e3; obtain ⟨z1, z2⟩ := pf59 (c := c) (q := p + 4) (f := 2) (t := 3) (by decide) (by decide) (by decide); exact ⟨e4, by decide, fun z => ⟨Or.inr (Or.inr (Or.inr (Or.inl ⟨e5, e6, e7, e9, z, rfl⟩))), z1 z, ⟨fun z => absurd z (by omega), fun z => absurd z (by omega), fun z => absurd z (by omega), fun _ => ⟨hsrt, hf0.trans e8, hf1.trans e10⟩, fun z => absurd z (by omega), fun z => absurd z (by omega), fun z => absurd z (by omega)⟩⟩, fun z _ => z2 z⟩)) (F40_))
  by_cases s16_4 : r1_ = 4
  · skip
    refine g_tsw (v := 4) (tgt := 194) C dX5_statement_16 s16_4 (by decide) (by decide) rfl rfl ?_
    have hZ4 : PX σ_1 c nl (fun q f t => q = p + 1 ∧ f = 4 ∧ t = 0 ∧ p < nl ∧ c p = 104) := hY3_.imp (fun q f t _ h => by obtain ⟨e1, e2, e3, e4, k, k1, k2, k3⟩ := h; have ek : k = 4 := (nj_eq (by omega) (by omega)).mp (k3.symm.trans (by assumption)); subst ek; have e5 : c p = 104 := k2.symm; exact ⟨e1, by rw [e3, e5]; decide, e2, e4, e5⟩)
    have hsrt : σ_1 38 22 = nI 4 := hsrt.trans s16_4
    refine g_aload_n C dX5_statement_194 rfl rfl ?_
    refine g_get (v := .ref (wA w 51)) C fl_X5_47 fs_X5_47 (Nat.lt_of_lt_of_le (by decide) hN) rfl rfl dX5_statement_195 ?_
    refine g_iconst C dX5_statement_198 ic_0 ?_
    refine g_aload_n C dX5_statement_199 rfl rfl ?_
    refine g_aload_n C dX5_statement_200 rfl rfl ?_
    refine g_get (v := .ref (wA w 49)) C fl_X5_41 fs_X5_41 (Nat.lt_of_lt_of_le (by decide) hN) rfl rfl dX5_statement_201 ?_
    obtain ⟨wl41_, q41_, ha41_, hb41_, hc41_, hd41_⟩ := hZ4.st
    refine g_callVI (rest := [.int 0, .ref (wA w 51)]) C mv_X5_128 (ct_X5_oneOf l w hN σ_1 49 6 (Nat.lt_of_lt_of_le (by decide) hN) rfl (by decide) gHou (by rw [F4_.1 49 (by decide) (by decide)]; exact hmH) (by decide) nl c (by rw [F4_.2 15 (by decide) (by decide) (by decide)]; exact htn) hl9 (by rw [F4_.1 46 (by decide) (by decide)]; exact htp) hc9 wl41_ q41_ ha41_ hb41_ hc41_ hd41_) (Nat.lt_of_lt_of_le (by decide) hN) rfl rfl (by decide) rfl (Nat.le_of_ble_eq_true rfl) dX5_statement_204 (fun r41_ σ41_ h41_ => ?_)
    obtain ⟨hO41_, hG41_⟩ := h41_
    have hX41_ := px_one hZ4 ha41_ hb41_ hc41_ hl9 hd41_ hO41_ (fun q f t h => one_hou h.2.1 h.2.2.1)
    have hsrt : σ41_ 38 22 = nI 4 := by rw [hG41_.2 22 (by decide) (by decide)]; exact hsrt
    have hX41_i : PX σ41_ c nl (fun q f t => q = p + 2 ∧ f = 4 ∧ t = 1 ∧ p < nl ∧ c p = 104 ∧ (txF 7 (c (p + 1))).isSome = true ∧ r41_ = nI (kiH c p)) := hX41_.imp (fun q f t _ h => by obtain ⟨q0, t0, ⟨e1, e2, e3, e4, e5⟩, e6, e7, k, k1, k2, k3⟩ := h; subst e1; subst e2; subst e3; have hk := gHou_uq k1 k2; refine ⟨e6, rfl, e7, e4, e5, by rw [hk]; rfl, ?_⟩; rw [k3]; unfold kiH; rw [hk]; rfl)
    have F42_ : FrP σ σ41_ := F4_.tr (hG41_.P)
    refine g_ias (k0 := 51) (n := 7) C (Nat.lt_of_lt_of_le (by decide) hN) rfl (j := 0) (by unfold ix; decide) dX5_statement_207 (fun σ_15 hσ_15 => ?_)
    have hY43_ := hX41_i.fr (show σ_15 38 16 = σ41_ 38 16 by rw [hσ_15, up_other (by decide)]) (show σ_15 38 17 = σ41_ 38 17 by rw [hσ_15, up_other (by decide)])
    have F44_ : FrP σ σ_15 := F42_.tr (by rw [hσ_15]; exact FrP.u51)
    have hf0 : σ_15 51 0 = r41_ := by rw [hσ_15, up_same]
    have hsrt : σ_15 38 22 = nI 4 := by rw [hσ_15, up_other (by decide)]; exact hsrt
    refine g_goto (tgt := 239) C dX5_statement_208 rfl ?_
    exact g_lvp [0] rfl (L239 σ_15 (hY43_.imp (fun q f t hrs h => by obtain ⟨e1, e2, e3, e4, e5, e6, e7⟩ := h; subst e1; subst e2; subst e3; obtain ⟨z1, z2⟩ := pf59 (c := c) (q := p + 2) (f := 4) (t := 1) (by decide) (by decide) (by decide); exact ⟨e4, by decide, fun z => ⟨Or.inr (Or.inr (Or.inr (Or.inr (Or.inl ⟨e5, e6, z, rfl⟩)))), z1 z, ⟨fun z => absurd z (by omega), fun z => absurd z (by omega), fun z => absurd z (by omega), fun z => absurd z (by omega), fun _ => ⟨hsrt, hf0.trans e7⟩, fun z => absurd z (by omega), fun z => absurd z (by omega)⟩⟩, fun z _ => z2 z⟩)) (F44_))
  by_cases s16_5 : r1_ = 5
  · skip
    refine g_tsw (v := 5) (tgt := 211) C dX5_statement_16 s16_5 (by decide) (by decide) rfl rfl ?_
    have hZ5 : PX σ_1 c nl (fun q f t => q = p + 1 ∧ f = 2 ∧ t = 0 ∧ p < nl ∧ c p = 99) := hY3_.imp (fun q f t _ h => by obtain ⟨e1, e2, e3, e4, k, k1, k2, k3⟩ := h; have ek : k = 5 := (nj_eq (by omega) (by omega)).mp (k3.symm.trans (by assumption)); subst ek; have e5 : c p = 99 := k2.symm; exact ⟨e1, by rw [e3, e5]; decide, e2, e4, e5⟩)
    have hsrt : σ_1 38 22 = nI 5 := hsrt.trans s16_5
    refine g_iconst C dX5_statement_211 ic_0 ?_
    refine g_istore_n (lv' := [(1, .int 0), (0, .ref (wA w 38))]) C dX5_statement_212 rfl (by decide) rfl ?_
    have L213 : ∀ (m213 : Nat) (k : Nat) (σ1 : SG), m213 = 3 - k → (k ≤ 3) → (PX σ1 c nl (fun q f t => q = p + 1 + k ∧ f = 2 ∧ t = k ∧ p < nl ∧ c p = 99 ∧ ∀ j, j < k → dgt (c (p + 1 + j)) ∧ σ1 51 j = nI (c (p + 1 + j) - 48))) → (FrP σ σ1) → (σ1 38 22 = nI 5) → G l w K 213 [(0, .ref (wA w 38)), (1, .int (nI k))] [] σ1 := by
      intro m213
      induction m213 using Nat.strongRecOn with
      | ind m213 ih213 =>
      intro k σ1 em213 hk hPL hF1 hs1
      have hsrt := hs1
      refine g_iload_n C dX5_statement_213 rfl rfl ?_
      refine g_iconst C dX5_statement_214 ic_3 ?_
      refine g_icmp_ge (tgt := 236) C dX5_statement_215 rfl (fun c215_16 => ?_) (fun c215_16 => ?_)
      · skip
        have n215_16 : 3 ≤ k := (nj_le (a := 3) (b := k) (by omega) (by omega)).mp c215_16
        obtain rfl : k = 3 := by omega
        refine g_goto (tgt := 239) C dX5_statement_236 rfl ?_
        exact g_lvp [0] rfl (L239 σ1 (hPL.imp (fun q f t hrs h => by obtain ⟨e1, e2, e3, e4, e5, e6⟩ := h; subst e1; subst e2; subst e3; obtain ⟨z1, z2⟩ := pf59 (c := c) (q := p + 1 + 3) (f := 2) (t := 3) (by decide) (by decide) (by decide); exact ⟨e4, by decide, fun z => ⟨Or.inr (Or.inr (Or.inr (Or.inr (Or.inr (Or.inl ⟨e5, (e6 0 (by decide)).1, (e6 1 (by decide)).1, (e6 2 (by decide)).1, z, rfl⟩))))), z1 z, ⟨fun z => absurd z (by omega), fun z => absurd z (by omega), fun z => absurd z (by omega), fun z => absurd z (by omega), fun z => absurd z (by omega), fun _ => ⟨hs1, fun j hj => (e6 j hj).2⟩, fun z => absurd z (by omega)⟩⟩, fun z _ => z2 z⟩)) (hF1))
      · skip
        have n215_16 : ¬ (3 ≤ k) := fun qq => c215_16 ((nj_le (a := 3) (b := k) (by omega) (by omega)).mpr qq)
        refine g_aload_n C dX5_statement_218 rfl rfl ?_
        refine g_get (v := .ref (wA w 51)) C fl_X5_47 fs_X5_47 (Nat.lt_of_lt_of_le (by decide) hN) rfl rfl dX5_statement_219 ?_
        refine g_iload_n C dX5_statement_222 rfl rfl ?_
        refine g_aload_n C dX5_statement_223 rfl rfl ?_
        refine g_iconst C dX5_statement_224 ic_1 ?_
        refine g_iconst C dX5_statement_225 ic_1 ?_
        obtain ⟨wl45_, q45_, ha45_, hb45_, hc45_, hd45_⟩ := hPL.st
        refine g_callVI (rest := [.int (nI k), .ref (wA w 51)]) C mv_X5_135 (ct_X5_figures l w hN σ1 1 1 (by decide) (by decide) nl c (by rw [hF1.2 15 (by decide) (by decide) (by decide)]; exact htn) hl9 (by rw [hF1.1 46 (by decide) (by decide)]; exact htp) hc9 wl45_ q45_ ha45_ hb45_ hc45_ hd45_) (Nat.lt_of_lt_of_le (by decide) hN) rfl rfl (by decide) rfl (Nat.le_of_ble_eq_true rfl) dX5_statement_226 (fun r45_ σ45_ h45_ => ?_)
        obtain ⟨hO45_, hG45_⟩ := h45_
        have hX45_ := px_fig1 hPL ha45_ hb45_ hc45_ hl9 hd45_ hO45_ (fun q f t h => n57_2 h.2.1 (by omega))
        have hst_call : ∀ j, σ45_ 51 j = σ1 51 j := fun j => by rw [hG45_.1 51 (by decide)]
        have hsrt : σ45_ 38 22 = nI 5 := by rw [hG45_.2 22 (by decide) (by decide)]; exact hsrt
        have F46_ : FrP σ σ45_ := hF1.tr (hG45_.P)
        refine g_ias (k0 := 51) (n := 7) C (Nat.lt_of_lt_of_le (by decide) hN) rfl (j := k) (ix_n (by omega)) dX5_statement_229 (fun σ_17 hσ_17 => ?_)
        have hY47_ := hX45_.fr (show σ_17 38 16 = σ45_ 38 16 by rw [hσ_17, up_other (by decide)]) (show σ_17 38 17 = σ45_ 38 17 by rw [hσ_17, up_other (by decide)])
        have F48_ : FrP σ σ_17 := F46_.tr (by rw [hσ_17]; exact FrP.u51)
        have hsrt : σ_17 38 22 = nI 5 := by rw [hσ_17, up_other (by decide)]; exact hsrt
        have hst_new : σ_17 51 k = r45_ := by rw [hσ_17, up_same]
        have hst_old : ∀ j, j ≠ k → σ_17 51 j = σ1 51 j := fun j hj => by rw [hσ_17, up_elem hj, hst_call j]
        have hs1n := hsrt
        refine g_iinc (v := nI (k + 1)) (lv' := [(1, .int (nI (k + 1))), (0, .ref (wA w 38))]) C dX5_statement_230 (by decide) rfl (nj_inc k) rfl ?_
        refine g_goto (tgt := 213) C dX5_statement_233 rfl ?_
        exact g_lvp [1, 0] rfl (ih213 (3 - (k + 1)) (by omega) (k + 1) σ_17 rfl (by first | omega | assumption | rfl | grind) (hY47_.imp (fun q f t _ h => by obtain ⟨q0, t0, ⟨e1, e2, e3, e4, e5, e6⟩, e7, e8, k1, k2⟩ := h; refine ⟨by omega, e2, by omega, e4, e5, fun j hj => ?_⟩; by_cases z : j = k; subst z; subst e1; exact ⟨k1, by rw [hst_new, k2]⟩; have := e6 j (by omega); exact ⟨this.1, by rw [hst_old j z]; exact this.2⟩)) (F48_) (hsrt))
    exact g_lvp [1, 0] rfl (L213 (3 - 0) 0 σ_1 rfl (by first | omega | assumption | rfl | grind) (hZ5.imp (fun q f t _ h => by obtain ⟨e1, e2, e3, e4, e5⟩ := h; exact ⟨e1, e2, e3, e4, e5, fun j hj => absurd hj (Nat.not_lt_zero _)⟩)) (F4_) (hsrt))
  refine g_tswd (tgt := 239) C dX5_statement_16 (by have q0 : (r1_ : Int32).toInt ≠ 0 := ne_toInt s16_0; have q1 : (r1_ : Int32).toInt ≠ 1 := ne_toInt s16_1; have q2 : (r1_ : Int32).toInt ≠ 2 := ne_toInt s16_2; have q3 : (r1_ : Int32).toInt ≠ 3 := ne_toInt s16_3; have q4 : (r1_ : Int32).toInt ≠ 4 := ne_toInt s16_4; have q5 : (r1_ : Int32).toInt ≠ 5 := ne_toInt s16_5; omega) rfl ?_
  have hZ6 : PX σ_1 c nl (fun q f t => q = p + 1 ∧ f = 5 ∧ t = 0 ∧ p < nl ∧ c p = 100 ∧ r1_ = nI 6) := hY3_.imp (fun q f t _ h => by obtain ⟨e1, e2, e3, e4, k, k1, k2, k3⟩ := h; have ek : k = 6 := Decidable.byContradiction (fun z => by have : k = 0 ∨ k = 1 ∨ k = 2 ∨ k = 3 ∨ k = 4 ∨ k = 5 := (by omega); rcases this with rfl | rfl | rfl | rfl | rfl | rfl; exact s16_0 k3; exact s16_1 k3; exact s16_2 k3; exact s16_3 k3; exact s16_4 k3; exact s16_5 k3); subst ek; have e5 : c p = 100 := k2.symm; exact ⟨e1, by rw [e3, e5]; decide, e2, e4, e5, k3⟩)
  exact g_lvp [0] rfl (L239 σ_1 (hZ6.imp (fun q f t hrs h => by obtain ⟨e1, e2, e3, e4, e5, e6⟩ := h; subst e1; subst e2; subst e3; obtain ⟨z1, z2⟩ := pf59 (c := c) (q := p + 1) (f := 5) (t := 0) (by decide) (by decide) (by decide); exact ⟨e4, by decide, fun z => ⟨Or.inr (Or.inr (Or.inr (Or.inr (Or.inr (Or.inr ⟨e5, z, rfl⟩))))), z1 z, ⟨fun z => absurd z (by omega), fun z => absurd z (by omega), fun z => absurd z (by omega), fun z => absurd z (by omega), fun z => absurd z (by omega), fun z => absurd z (by omega), fun _ => hsrt.trans e6⟩⟩, fun z _ => z2 z⟩)) (F4_))

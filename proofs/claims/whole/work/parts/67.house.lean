theorem hS_step {c : Nat → Nat} {nl m p k : Nat} {a a' : Row} (h : ¬ nl ≤ p) (he : effS c a p = some a') : hS c nl (m + 1) p a k = hS c nl m (nxt c p) a' (k + 1) := by rw [hS, if_neg h, he]
theorem hS_bad {c : Nat → Nat} {nl m p k : Nat} {a : Row} (h : ¬ nl ≤ p) (he : effS c a p = none) : hS c nl (m + 1) p a k = (-2000 - nI p, none) := by rw [hS, if_neg h, he]
theorem hS_end {c : Nat → Nat} {nl m p k : Nat} {a : Row} (h : nl ≤ p) : hS c nl m p a k = (nI k, some a) := by
  cases m with
  | zero => rfl
  | succ m => rw [hS, if_pos h]
theorem CX.le0 {σ τ : SG} {A : AS} (h : CX σ A) (ht : τ = up σ 32 1 0) : CX τ (sAl A 0 (Ac A)) := by
  obtain ⟨⟨i1, i2, i3, i4, i5, i6, i7⟩, h1, h2, h3, h4, h5, h6⟩ := h
  have e : ∀ q, q ≠ 32 → τ q = σ q := fun q q1 => by rw [ht, up_other q1]
  exact ⟨⟨i1, i2, i3, Nat.zero_le _, fun j hj => absurd hj (Nat.not_lt_zero _), i6, i7⟩, h1.fr (fun k z1 z2 => e k (by omega)), fun hk => ⟨(h2 hk).1.fr (fun k z1 z2 => e k (by omega)), by rw [e 10 (by omega)]; exact (h2 hk).2⟩, by rw [e 0 (by omega)]; exact h3, ⟨by rw [ht, up_same]; rfl, fun j hj => absurd hj (Nat.not_lt_zero _)⟩, by rw [e 0 (by omega), e 34 (by omega)]; exact h5, by rw [e 35 (by omega)]; exact h6⟩
set_option maxRecDepth 100000 in
set_option maxHeartbeats 4000000 in
theorem ct_X4_becomeHouse (l : Launch) (w : WD) (hN : 54 ≤ wN w) (σ : SG) (a : Row) (hR : HR σ a) (nl : Nat) (c : Nat → Nat) (hl1 : σ 32 1 = nI nl) (hl9 : nl ≤ 96) (hc : ∀ j, j < nl → σ 33 j = nI (c j)) (hc9 : ∀ j, j < nl → c j ≤ 255) (hRt : Right c nl) : CtI l w yX4_becomeHouse cX4_becomeHouse 4 (some .int) 9 0 0 [.ref (wA w 0)] σ (fun r τ => r = (hS c nl 96 0 a 0).1 ∧ HR τ ((hS c nl 96 0 a 0).2.getD a) ∧ Fr (fun k => (1 ≤ k ∧ k ≤ 9) ∨ inQ k) σ τ) := by
  refine CtI.mk (by decide) (Nat.le_of_ble_eq_true rfl) ?_
  intro K C hr h0
  have r := RI.of hr h0
  clear hr h0
  show G l w K 0 [(0, .ref (wA w 0))] [] σ
  obtain ⟨hH, hB, h6, hd9, hu9⟩ := id hR
  refine g_aload_n C dX4_becomeHouse_0 rfl rfl ?_
  refine g_callVV (rest := []) C mv_X4_124 (ct_X4_think l w hN σ a hH) (Nat.lt_of_lt_of_le (by decide) hN) rfl rfl (by decide) rfl (Nat.le_of_ble_eq_true rfl) dX4_becomeHouse_1 (fun σt h1 => ?_)
  obtain ⟨hHt, h6t, hFt⟩ := h1
  refine g_iconst C dX4_becomeHouse_4 ic_0 ?_
  refine g_istore_n (lv' := [(1, .int 0), (0, .ref (wA w 0))]) C dX4_becomeHouse_5 rfl (by decide) rfl ?_
  refine g_iconst C dX4_becomeHouse_6 ic_0 ?_
  refine g_istore_n (lv' := [(2, .int 0), (1, .int 0), (0, .ref (wA w 0))]) C dX4_becomeHouse_7 rfl (by decide) rfl ?_
  refine g_iconst C dX4_becomeHouse_8 ic_0 ?_
  refine g_istore_n (lv' := [(3, .int 0), (2, .int 0), (1, .int 0), (0, .ref (wA w 0))]) C dX4_becomeHouse_9 rfl (by decide) rfl ?_
  have L10 : ∀ (m10 : Nat) (k : Nat) (p : Nat) (t : Nat) (q : Row) (σ1 : SG), m10 = 96 - t → (t ≤ 96) → (2 * t ≤ p) → (p ≤ nl) → (Bnd (sA c p)) → (hS c nl (96 - t) p q k = (hS c nl 96 0 a 0)) → (Hh σ1 19 q) → (Bd q) → (D9 q) → (σ1 19 6 = nI 0) → (Fr (inD 19) σ σ1) → G l w K 10 [(0, .ref (wA w 0)), (1, .int (nI k)), (2, .int (nI p)), (3, .int (nI t))] [] σ1 := by
    intro m10
    induction m10 using Nat.strongRecOn with
    | ind m10 ih10 =>
    intro k p t q σ1 em10 ht h2t hp hb hE hHq hBq hDq h6q hF1
    refine g_iload_n C dX4_becomeHouse_10 rfl rfl ?_
    refine g_bipush C dX4_becomeHouse_11 bp_96 ?_
    refine g_icmp_ge (tgt := 70) C dX4_becomeHouse_13 rfl (fun c13_2 => ?_) (fun c13_2 => ?_)
    · skip
      have n13_2 : 96 ≤ t := (nj_le (a := 96) (b := t) (by omega) (by omega)).mp c13_2
      exfalso
      omega
    · skip
      have n13_2 : ¬ (96 ≤ t) := fun qq => c13_2 ((nj_le (a := 96) (b := t) (by omega) (by omega)).mpr qq)
      refine g_iload_n C dX4_becomeHouse_16 rfl rfl ?_
      refine g_aload_n C dX4_becomeHouse_17 rfl rfl ?_
      refine g_get (v := .ref (wA w 32)) C fl_X4_39 fs_X4_39 (Nat.lt_of_lt_of_le (by decide) hN) rfl rfl dX4_becomeHouse_18 ?_
      refine g_get (v := .int (σ1 32 1)) C fl_X4_60 fs_X4_60 (Nat.lt_of_lt_of_le (by decide) hN) rfl rfl dX4_becomeHouse_21 ?_
      refine g_val (y := nI nl) (by rw [hF1 32 (fun z => by rcases z with ⟨z1, z2⟩ | ⟨z1, z2⟩ <;> omega)]; exact hl1) ?_
      refine g_icmp_ge (tgt := 70) C dX4_becomeHouse_24 rfl (fun c24_3 => ?_) (fun c24_3 => ?_)
      · skip
        have n24_3 : nl ≤ p := (nj_le (a := nl) (b := p) (by omega) (by omega)).mp c24_3
        refine g_aload_n C dX4_becomeHouse_70 rfl rfl ?_
        refine g_get (v := .ref (wA w 1)) C fl_X4_12 fs_X4_12 (Nat.lt_of_lt_of_le (by decide) hN) rfl rfl dX4_becomeHouse_71 ?_
        refine g_aload_n C dX4_becomeHouse_74 rfl rfl ?_
        refine g_get (v := .ref (wA w 19)) C fl_X4_19 fs_X4_19 (Nat.lt_of_lt_of_le (by decide) hN) rfl rfl dX4_becomeHouse_75 ?_
        refine g_callVV (rest := []) C mv_X4_215 (ct_X1_become l w hN σ1 1 (Or.inl rfl) 19 (Or.inr (Or.inr rfl)) (by decide) q hHq) (Nat.lt_of_lt_of_le (by decide) hN) rfl rfl (by decide) rfl (Nat.le_of_ble_eq_true rfl) dX4_becomeHouse_78 (fun σo h4 => ?_)
        obtain ⟨hHo, h6o, hFo⟩ := h4
        refine g_iload_n C dX4_becomeHouse_81 rfl rfl ?_
        refine g_iret C r rfl dX4_becomeHouse_82 ?_
        have he9 := hS_end (c := c) (m := 96 - t) (a := q) (k := k) (show nl ≤ p by omega)
        rw [hE] at he9
        rw [he9]
        exact ⟨rfl, ⟨hHo, hBq, by rw [h6o]; exact h6q, hDq⟩, (hF1.mono (fun k z => by rcases z with ⟨z1, z2⟩ | ⟨z1, z2⟩ <;> exact Or.inr (Or.inl ⟨by omega, by omega⟩))).tr hFo (fun k z => by obtain ⟨z1, z2⟩ := z; exact Or.inl ⟨by omega, by omega⟩)⟩
      · skip
        have n24_3 : ¬ (nl ≤ p) := fun qq => c24_3 ((nj_le (a := nl) (b := p) (by omega) (by omega)).mpr qq)
        obtain ⟨p', hStm, hle', hb'⟩ := stm_of hb (by omega) hRt
        have hend := hStm.end
        refine g_aload_n C dX4_becomeHouse_27 rfl rfl ?_
        refine g_get (v := .ref (wA w 32)) C fl_X4_39 fs_X4_39 (Nat.lt_of_lt_of_le (by decide) hN) rfl rfl dX4_becomeHouse_28 ?_
        refine g_iload_n C dX4_becomeHouse_31 rfl rfl ?_
        refine g_aload_n C dX4_becomeHouse_32 rfl rfl ?_
        refine g_get (v := .ref (wA w 19)) C fl_X4_19 fs_X4_19 (Nat.lt_of_lt_of_le (by decide) hN) rfl rfl dX4_becomeHouse_33 ?_
        refine g_aload_n C dX4_becomeHouse_36 rfl rfl ?_
        refine g_get (v := .ref (wA w 28)) C fl_X4_25 fs_X4_25 (Nat.lt_of_lt_of_le (by decide) hN) rfl rfl dX4_becomeHouse_37 ?_
        refine g_callVI (rest := []) C mv_X4_226 (ct_X2_tellStatement l w hN σ1 nl c (by rw [hF1 32 (fun z => by rcases z with ⟨z1, z2⟩ | ⟨z1, z2⟩ <;> omega)]; exact hl1) hl9 (by rw [hF1 33 (fun z => by rcases z with ⟨z1, z2⟩ | ⟨z1, z2⟩ <;> omega)]; exact hc) hc9 p p' q hHq hBq hDq h6q hle' hStm) (Nat.lt_of_lt_of_le (by decide) hN) rfl rfl (by decide) rfl (Nat.le_of_ble_eq_true rfl) dX4_becomeHouse_40 (fun r5 σ2 h5 => ?_)
        obtain ⟨er5, hHt, hFt⟩ := h5
        rw [er5]
        refine g_if_ne (tgt := 52) C dX4_becomeHouse_43 rfl (fun c43_6 => ?_) (fun c43_6 => ?_)
        · skip
          have n43_6 : ((effS c q p).isSome = true) := bI_1 c43_6
          obtain ⟨a', hef⟩ := Option.isSome_iff_exists.mp n43_6
          obtain ⟨hH', h6'⟩ := hHt a' hef
          obtain ⟨hB', hD'⟩ := eff_ok hStm hBq hDq hef
          refine g_iinc (v := nI (k + 1)) (lv' := [(1, .int (nI (k + 1))), (0, .ref (wA w 0)), (2, .int (nI p)), (3, .int (nI t))]) C dX4_becomeHouse_52 (by decide) rfl (nj_inc k) rfl ?_
          refine g_aload_n C dX4_becomeHouse_55 rfl rfl ?_
          refine g_get (v := .ref (wA w 32)) C fl_X4_39 fs_X4_39 (Nat.lt_of_lt_of_le (by decide) hN) rfl rfl dX4_becomeHouse_56 ?_
          refine g_iload_n C dX4_becomeHouse_59 rfl rfl ?_
          refine g_pVI (rest := []) (v := nI p') C mv_X4_230 (ct_X2_behindStatement l w hN σ2 nl c (by rw [hFt 32 (fun z => by rcases z with ⟨z1, z2⟩ | ⟨z1, z2⟩ <;> omega), hF1 32 (fun z => by rcases z with ⟨z1, z2⟩ | ⟨z1, z2⟩ <;> omega)]; exact hl1) hl9 (by rw [hFt 33 (fun z => by rcases z with ⟨z1, z2⟩ | ⟨z1, z2⟩ <;> omega), hF1 33 (fun z => by rcases z with ⟨z1, z2⟩ | ⟨z1, z2⟩ <;> omega)]; exact hc) hc9 p p' hend.1 hle' hend.2.1 hend.2.2) (Nat.lt_of_lt_of_le (by decide) hN) rfl rfl (by decide) rfl (Nat.le_of_ble_eq_true rfl) dX4_becomeHouse_60 ?_
          refine g_istore_n (lv' := [(2, .int (nI p')), (1, .int (nI (k + 1))), (0, .ref (wA w 0)), (3, .int (nI t))]) C dX4_becomeHouse_63 rfl (by decide) rfl ?_
          refine g_iinc (v := nI (t + 1)) (lv' := [(3, .int (nI (t + 1))), (2, .int (nI p')), (1, .int (nI (k + 1))), (0, .ref (wA w 0))]) C dX4_becomeHouse_64 (by decide) rfl (nj_inc t) rfl ?_
          refine g_goto (tgt := 10) C dX4_becomeHouse_67 rfl ?_
          exact g_lvp [3, 2, 1, 0] rfl (ih10 (96 - (t + 1)) (by omega) (k + 1) p' (t + 1) a' σ2 rfl (by first | omega | assumption | rfl | grind) (by have := hend.1; omega) (hle') (hb') (by rw [← hE, show 96 - t = (96 - (t + 1)) + 1 by omega, hS_step (by omega) hef, ← hStm.nx]) (hH') (hB') (hD') (h6') (hF1.tr hFt (fun _ z => z)))
        · skip
          have n43_6 : ¬ ((effS c q p).isSome = true) := bI_0 c43_6
          have hef : effS c q p = none := Option.not_isSome_iff_eq_none.mp n43_6
          refine g_sipush C dX4_becomeHouse_46 sp_m2000 ?_
          refine g_iload_n C dX4_becomeHouse_49 rfl rfl ?_
          refine g_isubv (v := ((-2000)) - (nI p)) C rfl dX4_becomeHouse_50 ?_
          refine g_iret C r rfl dX4_becomeHouse_51 ?_
          have hb9 := hS_bad (m := 96 - (t + 1)) (k := k) (show ¬ nl ≤ p by omega) hef
          rw [show 96 - (t + 1) + 1 = 96 - t by omega, hE] at hb9
          rw [hb9]
          exact ⟨rfl, hR.fr (fun k z1 z2 => by rw [hFt k (fun z => by rcases z with ⟨z1, z2⟩ | ⟨z1, z2⟩ <;> omega), hF1 k (fun z => by rcases z with ⟨z1, z2⟩ | ⟨z1, z2⟩ <;> omega)]), (hF1.tr hFt (fun _ z => z)).mono (fun k z => by rcases z with ⟨z1, z2⟩ | ⟨z1, z2⟩ <;> exact Or.inr (Or.inl ⟨by omega, by omega⟩))⟩
  exact g_lvp [3, 2, 1, 0] rfl (L10 (96 - 0) 0 0 0 a σt rfl (by first | omega | assumption | rfl | grind) (by first | omega | assumption | rfl | grind) (by first | omega | assumption | rfl | grind) (Bnd_0 c) (rfl) (hHt) (hB) (⟨hd9, hu9⟩) (by rw [h6t]; exact h6) (hFt.mono (fun _ z => Or.inl z)))
set_option maxRecDepth 100000 in
set_option maxHeartbeats 4000000 in
theorem ct_X4_house (l : Launch) (w : WD) (hN : 54 ≤ wN w) (σ : SG) (a kp : Row) (tk nl : Nat) (lt : Nat → Nat) (qn : Nat) (qs : Nat → Nat) (rf : Nat → Int32) (hC : CX σ (a, kp, tk, (nl, lt), (qn, qs), rf)) : CtI l w yX4_house cX4_house 3 (some .int) 10 0 0 [.ref (wA w 0)] σ (fun r τ => r = (spHouse (a, kp, tk, (nl, lt), (qn, qs), rf)).1 ∧ CX τ (spHouse (a, kp, tk, (nl, lt), (qn, qs), rf)).2 ∧ Fr in37 σ τ) := by
  refine CtI.mk (by decide) (Nat.le_of_ble_eq_true rfl) ?_
  intro K C hr h0
  have r := RI.of hr h0
  clear hr h0
  show G l w K 0 [(0, .ref (wA w 0))] [] σ
  have hR : HR σ a := hC.2.1
  have hH : Hh σ 1 a := hR.1
  have hB : Bd a := hR.2.1
  have h6 : σ 1 6 = nI 0 := hR.2.2.1
  have hd9 : a 1 ≤ 9999 := hR.2.2.2.1
  have hu9 : ∀ e, e < 4 → a (30 + 4 * e + 1) ≤ 9 := hR.2.2.2.2
  obtain ⟨hBa, hB0, hB1, hB2, hB3, hB4, hB5, hB6, hB7, hBs, hBp, hBe⟩ := id hB
  have h1 : HB 1 := Or.inl rfl
  have h10 : HB 10 := Or.inr (Or.inl rfl)
  have h19 : HB 19 := Or.inr (Or.inr rfl)
  have hl1 : σ 32 1 = nI nl := hC.2.2.2.2.1.1
  have hl9 : nl ≤ 96 := hC.1.2.2.2.1
  have hcs : ∀ j, j < nl → σ 33 j = nI (lt j) := hC.2.2.2.2.1.2
  have hc9 : ∀ j, j < nl → lt j ≤ 255 := hC.1.2.2.2.2.1
  refine g_aload_n C dX4_house_0 rfl rfl ?_
  refine g_get (v := .ref (wA w 32)) C fl_X4_39 fs_X4_39 (Nat.lt_of_lt_of_le (by decide) hN) rfl rfl dX4_house_1 ?_
  refine g_callVI (rest := []) C mv_X4_72 (ct_X2_wrongPlace l w hN σ nl lt hl1 hl9 hcs hc9) (Nat.lt_of_lt_of_le (by decide) hN) rfl rfl (by decide) rfl (Nat.le_of_ble_eq_true rfl) dX4_house_4 (fun r5 σ5 h5 => ?_)
  obtain ⟨hw, e5⟩ := h5
  rw [e5]
  rcases hw with ⟨q, hq, e6⟩ | ⟨hRt, e6⟩
  · skip
    rw [e6]
    have hqle := hq.le
    have hq0 : ¬ nI q < 0 := nj_nn (by omega)
    refine g_istore_n (lv' := [(1, .int (nI q)), (0, .ref (wA w 0))]) C dX4_house_7 rfl (by decide) rfl ?_
    refine g_iload_n C dX4_house_8 rfl rfl ?_
    refine g_if_lt (tgt := 20) C dX4_house_9 rfl (fun c9_1 => ?_) (fun c9_1 => ?_)
    · exact absurd c9_1 hq0
    · skip
      have n9_1 : ¬ (q < 0) := fun qq => c9_1 ((nj_lt (a := q) (b := 0) (by omega) (by omega)).mpr qq)
      refine g_sipush C dX4_house_12 sp_m1000 ?_
      refine g_iload_n C dX4_house_15 rfl rfl ?_
      refine g_isubv (v := ((-1000)) - (nI q)) C rfl dX4_house_16 ?_
      refine g_goto (tgt := 24) C dX4_house_17 rfl ?_
      refine g_istore_n (lv' := [(2, .int (((-1000)) - (nI q))), (1, .int (nI q)), (0, .ref (wA w 0))]) C dX4_house_24 rfl (by decide) rfl ?_
      refine g_aload_n C dX4_house_25 rfl rfl ?_
      refine g_get (v := .ref (wA w 32)) C fl_X4_39 fs_X4_39 (Nat.lt_of_lt_of_le (by decide) hN) rfl rfl dX4_house_26 ?_
      refine g_iconst C dX4_house_29 ic_0 ?_
      refine g_putn C fp_X4_60 (Nat.lt_of_lt_of_le (by decide) hN) rfl rfl (Nat.le_of_ble_eq_true rfl) rfl rfl dX4_house_30 (fun σ_2 hσ_2 => ?_)
      have hz := hσ_2
      refine g_iload_n C dX4_house_33 rfl rfl ?_
      refine g_iret C r rfl dX4_house_34 ?_
      have hs : spHouse (a, kp, tk, (nl, lt), (qn, qs), rf) = ((-1000) - nI q, sAl (a, kp, tk, (nl, lt), (qn, qs), rf) 0 lt) := by unfold spHouse; show (match wpO lt nl with | some q => _ | none => _) = _; rw [wpO_w hq]
      rw [hs]
      exact ⟨rfl, hC.le0 hz, by rw [hz]; exact Fr.up (S := in37) (by decide)⟩
  · skip
    rw [e6]
    refine g_istore_n (lv' := [(1, .int ((-1))), (0, .ref (wA w 0))]) C dX4_house_7 rfl (by decide) rfl ?_
    refine g_iload_n C dX4_house_8 rfl rfl ?_
    refine g_if_lt (tgt := 20) C dX4_house_9 rfl (fun c9_3 => ?_) (fun c9_3 => ?_)
    · skip
      refine g_aload_n C dX4_house_20 rfl rfl ?_
      refine g_callVI (rest := []) C mv_X4_76 (ct_X4_becomeHouse l w hN σ a hR nl lt hl1 hl9 hcs hc9 hRt) (Nat.lt_of_lt_of_le (by decide) hN) rfl rfl (by decide) rfl (Nat.le_of_ble_eq_true rfl) dX4_house_21 (fun r4 σb h4 => ?_)
      obtain ⟨er4, hRb, hFb⟩ := h4
      rw [er4]
      refine g_istore_n (lv' := [(2, .int ((hS lt nl 96 0 a 0).1)), (1, .int ((-1))), (0, .ref (wA w 0))]) C dX4_house_24 rfl (by decide) rfl ?_
      refine g_aload_n C dX4_house_25 rfl rfl ?_
      refine g_get (v := .ref (wA w 32)) C fl_X4_39 fs_X4_39 (Nat.lt_of_lt_of_le (by decide) hN) rfl rfl dX4_house_26 ?_
      refine g_iconst C dX4_house_29 ic_0 ?_
      refine g_putn C fp_X4_60 (Nat.lt_of_lt_of_le (by decide) hN) rfl rfl (Nat.le_of_ble_eq_true rfl) rfl rfl dX4_house_30 (fun σ_5 hσ_5 => ?_)
      have hz := hσ_5
      refine g_iload_n C dX4_house_33 rfl rfl ?_
      refine g_iret C r rfl dX4_house_34 ?_
      have hs : spHouse (a, kp, tk, (nl, lt), (qn, qs), rf) = ((hS lt nl 96 0 a 0).1, sAl (sAa (a, kp, tk, (nl, lt), (qn, qs), rf) ((hS lt nl 96 0 a 0).2.getD a)) 0 lt) := by unfold spHouse; show (match wpO lt nl with | some q => _ | none => _) = _; rw [wpO_r hRt]
      rw [hs]
      exact ⟨rfl, (hC.her (fun k z1 z2 => hFb k (fun z => z.elim z1 z2)) hRb).le0 hz, by rw [hz]; exact (hFb.mono (fun k z => by rcases z with z | z | z | z <;> simp only [in37] <;> omega)).tr (Fr.up (S := in37) (by decide)) (fun _ z => z)⟩
    · exact absurd c9_3 (by decide)

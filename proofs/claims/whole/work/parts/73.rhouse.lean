theorem CM.lz0 {σ τ : SG} {A : AS} (h : CM σ A) (ht : τ = up σ 38 15 0) : CM τ (sAl A 0 (Ac A)) := by
  obtain ⟨⟨i1, i2, i3, i4, i5, i6, i7⟩, h1, h2, h3, h4, h5, h6, h7⟩ := h
  have e : ∀ q, q ≠ 38 → τ q = σ q := fun q q1 => by rw [ht, up_other q1]
  have f : ∀ j, j ≠ 15 → τ 38 j = σ 38 j := fun j hj => by rw [ht, up_elem hj]
  refine ⟨⟨i1, i2, i3, Nat.zero_le _, fun j hj => absurd hj (Nat.not_lt_zero _), i6, i7⟩, h1.fr (e 40 (by decide)), fun hk => (h2 hk).fr (e 42 (by decide)), by rw [f 4 (by decide)]; exact h3, ⟨by rw [ht, up_same]; rfl, fun j hj => absurd hj (Nat.not_lt_zero _)⟩, by rw [f 27 (by decide), e 53 (by decide)]; exact h5, by rw [e 39 (by decide)]; exact h6, ?_⟩
  unfold MT
  rw [e 47 (by decide), e 48 (by decide), e 49 (by decide), e 50 (by decide), e 52 (by decide)]
  exact h7
set_option maxRecDepth 100000 in
set_option maxHeartbeats 4000000 in
theorem ct_X5_house (l : Launch) (w : WD) (h54e : wN w = 54) (σ : SG) (a kp : Row) (tk nl : Nat) (lt : Nat → Nat) (qn : Nat) (qs : Nat → Nat) (rf : Nat → Int32) (hC : CM σ (a, kp, tk, (nl, lt), (qn, qs), rf)) : CtI l w yX5_house cX5_house 2 (some .int) 7 1 46 [.ref (wA w 38)] σ (fun r τ => r = (spHouse (a, kp, tk, (nl, lt), (qn, qs), rf)).1 ∧ CM τ (spHouse (a, kp, tk, (nl, lt), (qn, qs), rf)).2 ∧ Fr in38 σ τ) := by
  refine CtI.mk (by decide) (Nat.le_of_ble_eq_true rfl) ?_
  intro K C hr h0
  show G l w K 0 [(0, .ref (wA w 38))] [] σ
  have hN : 54 ≤ wN w := Nat.le_of_eq h54e.symm
  refine g_aload_n C dX5_house_0 rfl rfl ?_
  refine g_callVI1 (rest := []) C h0 mv_X5_148 (ct_X5_read l w h54e σ nl lt hC.2.2.2.2.1.1 hC.1.2.2.2.1 hC.2.2.2.2.1.2 hC.1.2.2.2.2.1 hC.2.2.2.2.2.2.2.1 hC.2.2.2.2.2.2.2.2.1 hC.2.2.2.2.2.2.2.2.2.1 hC.2.2.2.2.2.2.2.2.2.2.1 a hC.2.1 hC.1.1.1 hC.1.1.2) (Nat.le_refl _) (Nat.le_refl _) (Nat.lt_of_lt_of_le (by decide) hN) rfl rfl (by decide) rfl (Nat.le_of_ble_eq_true rfl) dX5_house_1 (fun K' k1 k2 k3 r1 σ1 h1 => ?_)
  have r := hr K' k1 k2 (by rw [k3])
  have C := OK.widen C k1 k2 k3
  obtain ⟨hF1, a', hM1, hB1, hD1, hans⟩ := h1
  refine g_istore_n (lv' := [(1, .int r1), (0, .ref (wA w 38))]) C dX5_house_4 rfl (by decide) rfl ?_
  refine g_aload_n C dX5_house_5 rfl rfl ?_
  refine g_iconst C dX5_house_6 ic_0 ?_
  refine g_putn C fp_X5_119 (Nat.lt_of_lt_of_le (by decide) hN) rfl rfl (Nat.le_of_ble_eq_true rfl) rfl rfl dX5_house_7 (fun σz hσz => ?_)
  refine g_iload_n C dX5_house_10 rfl rfl ?_
  refine g_iret C r rfl dX5_house_11 ?_
  have hCa := hC.rd hF1 hM1 hB1 hD1
  have hFo : Fr in38 σ σz := fun k z => by simp only [in38] at z; rw [hσz, up_other (by omega)]; exact hF1.1 k (by omega) (by omega) (by omega) (by omega) (by omega) (by omega)
  rcases hans with ⟨q, hW, e1, e2⟩ | ⟨hRt, e1, e2⟩
  · have hs : spHouse (a, kp, tk, (nl, lt), (qn, qs), rf) = ((-1000) - nI q, sAl (a, kp, tk, (nl, lt), (qn, qs), rf) 0 lt) := by unfold spHouse; show (match wpO lt nl with | some q => _ | none => _) = _; rw [wpO_w hW]
    rw [hs]
    rw [e2] at hCa
    exact ⟨e1, hCa.lz0 hσz, hFo⟩
  · have hs : spHouse (a, kp, tk, (nl, lt), (qn, qs), rf) = ((hS lt nl 96 0 a 0).1, sAl (sAa (a, kp, tk, (nl, lt), (qn, qs), rf) ((hS lt nl 96 0 a 0).2.getD a)) 0 lt) := by unfold spHouse; show (match wpO lt nl with | some q => _ | none => _) = _; rw [wpO_r hRt]
    rw [hs]
    rw [e2] at hCa
    exact ⟨e1, hCa.lz0 hσz, hFo⟩

theorem fill_step {σ : SG} {k0 q : Nat} {x : Int32} : up (upc σ k0 (fun j => if j < q then x else σ k0 j)) k0 q x = upc σ k0 (fun j => if j < q + 1 then x else σ k0 j) := by
  funext k j
  rw [up_at]
  unfold upc
  by_cases h : k = k0
  · subst h
    rw [if_pos rfl, if_pos rfl]
    by_cases h2 : j = q
    · rw [if_pos ⟨rfl, h2⟩, if_pos (by omega)]
    · rw [if_neg (fun z => h2 z.2)]
      by_cases h3 : j < q
      · rw [if_pos h3, if_pos (by omega)]
      · rw [if_neg h3, if_neg (by omega)]
  · rw [if_neg (fun z => h z.1), if_neg h, if_neg h]
set_option maxRecDepth 100000 in
set_option maxHeartbeats 4000000 in
theorem ct_fill (l : Launch) (w : WD) (hN : 54 ≤ wN w) (σ : SG) (k0 n : Nat) (hk0k : k0 < wN w) (hk0s : shp w k0 = aI w n) (hn : n ≤ 1000) (x : Int32) : CtV l w yJ7_fill_53178 cJ7_fill_53178 4 1 0 0 [.ref (wA w k0), .int x] σ (fun τ => τ = upc σ k0 (fun j => if j < n then x else σ k0 j)) := by
  refine CtV.mk (by decide) (Nat.le_of_ble_eq_true rfl) ?_
  intro K C hr h0
  have r := RV.of hr h0
  clear hr h0
  show G l w K 0 [(0, .ref (wA w k0)), (1, .int x)] [] σ
  refine g_iconst C dJ7_fill_53178_0 ic_0 ?_
  refine g_istore_n (lv' := [(2, .int 0), (0, .ref (wA w k0)), (1, .int x)]) C dJ7_fill_53178_1 rfl (by decide) rfl ?_
  refine g_aload_n C dJ7_fill_53178_2 rfl rfl ?_
  refine g_alen (k0 := k0) (n := n) (v := nI n) C hk0k hk0s rfl dJ7_fill_53178_3 ?_
  refine g_istore_n (lv' := [(3, .int (nI n)), (2, .int 0), (0, .ref (wA w k0)), (1, .int x)]) C dJ7_fill_53178_4 rfl (by decide) rfl ?_
  have L5 : ∀ (m5 : Nat) (q : Nat) (σ1 : SG), m5 = n - q → (q ≤ n) → (σ1 = upc σ k0 (fun j => if j < q then x else σ k0 j)) → G l w K 5 [(0, .ref (wA w k0)), (1, .int x), (2, .int (nI q)), (3, .int (nI n))] [] σ1 := by
    intro m5
    induction m5 using Nat.strongRecOn with
    | ind m5 ih5 =>
    intro q σ1 em5 hq h1
    refine g_iload_n C dJ7_fill_53178_5 rfl rfl ?_
    refine g_iload_n C dJ7_fill_53178_6 rfl rfl ?_
    refine g_icmp_ge (tgt := 20) C dJ7_fill_53178_7 rfl (fun c7_1 => ?_) (fun c7_1 => ?_)
    · skip
      have n7_1 : n ≤ q := (nj_le (a := n) (b := q) (by omega) (by omega)).mp c7_1
      obtain rfl : q = n := by omega
      refine g_vret C r dJ7_fill_53178_20 ?_
      exact h1
    · skip
      have n7_1 : ¬ (n ≤ q) := fun qq => c7_1 ((nj_le (a := n) (b := q) (by omega) (by omega)).mpr qq)
      refine g_aload_n C dJ7_fill_53178_10 rfl rfl ?_
      refine g_iload_n C dJ7_fill_53178_11 rfl rfl ?_
      refine g_iload_n C dJ7_fill_53178_12 rfl rfl ?_
      refine g_ias (k0 := k0) (n := n) C hk0k hk0s (j := q) (ix_n (by omega) (by omega)) dJ7_fill_53178_13 (fun σ2 hσ2 => ?_)
      refine g_iinc (v := nI (q + 1)) (lv' := [(2, .int (nI (q + 1))), (0, .ref (wA w k0)), (1, .int x), (3, .int (nI n))]) C dJ7_fill_53178_14 (by decide) rfl (nj_inc q) rfl ?_
      refine g_goto (tgt := 5) C dJ7_fill_53178_17 rfl ?_
      exact g_lvp [1, 2, 0, 3] rfl (ih5 (n - (q + 1)) (by omega) (q + 1) σ2 rfl (by first | omega | assumption | rfl | grind) (by rw [hσ2, h1]; exact fill_step))
  exact g_lvp [2, 3, 1, 0] rfl (L5 (n - 0) 0 σ rfl (by first | omega | assumption | rfl | grind) (by funext j; unfold upc; split <;> simp_all))
set_option maxRecDepth 100000 in
set_option maxHeartbeats 4000000 in
theorem ct_X3_clear (l : Launch) (w : WD) (hN : 54 ≤ wN w) (σ : SG) : CtV l w yX3_clear cX3_clear 1 2 0 0 [.ref (wA w 28)] σ (fun τ => Tl τ 0 [] 0 0 0 ∧ Fr inT σ τ) := by
  refine CtV.mk (by decide) (Nat.le_of_ble_eq_true rfl) ?_
  intro K C hr h0
  have r := RV.of hr h0
  clear hr h0
  show G l w K 0 [(0, .ref (wA w 28))] [] σ
  refine g_aload_n C dX3_clear_0 rfl rfl ?_
  refine g_get (v := .ref (wA w 29)) C fl_X3_9 fs_X3_9 (Nat.lt_of_lt_of_le (by decide) hN) rfl rfl dX3_clear_1 ?_
  refine g_iconst C dX3_clear_4 ic_0 ?_
  refine g_callSV (rest := []) C ms_X3_18 (ct_fill l w hN σ 29 6 (Nat.lt_of_lt_of_le (by decide) hN) rfl (by decide) 0) rfl (by decide) rfl (Nat.le_of_ble_eq_true rfl) dX3_clear_5 (fun σ_1 h1 => ?_)
  have hf := h1
  clear h1
  refine g_aload_n C dX3_clear_8 rfl rfl ?_
  refine g_iconst C dX3_clear_9 ic_0 ?_
  refine g_putn C fp_X3_24 (Nat.lt_of_lt_of_le (by decide) hN) rfl (cl_set (by decide)) (Nat.le_of_ble_eq_true rfl) rfl rfl dX3_clear_10 (fun σ_2 hσ_2 => ?_)
  refine g_vret C r dX3_clear_13 ?_
  refine ⟨⟨?_, ?_, ?_, ?_, ?_, ?_, ?_, fun i hi hl => absurd hl (by simp)⟩, ?_⟩
  all_goals first | (subst_vars; simp [up_at, upc]; done) | (subst_vars; simp [up_at, upc]; rfl) | skip
  subst_vars; exact (Fr.upc (S := inT) ⟨by decide, by decide⟩).tr (Fr.up (S := inT) ⟨by decide, by decide⟩) (fun _ z => z)
set_option maxRecDepth 100000 in
set_option maxHeartbeats 4000000 in
theorem ct_X1_become (l : Launch) (w : WD) (hN : 54 ≤ wN w) (σ : SG) (b : Nat) (hb : HB b) (c : Nat) (hc : HB c) (hbc : b ≠ c) (a : Row) (hH : Hh σ c a) : CtV l w yX1_become cX1_become 3 2 0 0 [.ref (wA w b), .ref (wA w c)] σ (fun τ => Hh τ b a ∧ τ b 6 = σ c 6 ∧ Fr (inH b) σ τ) := by
  refine CtV.mk (by decide) (Nat.le_of_ble_eq_true rfl) ?_
  intro K C hr h0
  have r := RV.of hr h0
  clear hr h0
  show G l w K 0 [(0, .ref (wA w b)), (1, .ref (wA w c))] [] σ
  have hdj : ∀ k, c ≤ k → k ≤ c + 8 → ¬ inH b k := fun k z1 z2 => hb.dj hc hbc z1 z2
  refine g_aload_n C dX1_become_0 rfl rfl ?_
  refine g_get (v := .ref (wA w (c + 1))) C fl_X1_9 fs_X1_9 (HB.n0 hc hN) (HB.ou hc _) rfl dX1_become_1 ?_
  refine g_iconst C dX1_become_4 ic_0 ?_
  refine g_aload_n C dX1_become_5 rfl rfl ?_
  refine g_get (v := .ref (wA w (b + 1))) C fl_X1_9 fs_X1_9 (HB.n0 hb hN) (HB.ou hb _) rfl dX1_become_6 ?_
  refine g_iconst C dX1_become_9 ic_0 ?_
  refine g_iconst C dX1_become_10 ic_5 ?_
  refine g_copy (k0 := (c + 1)) (k1 := (b + 1)) (n0 := 5) (n := 5) C ml_X1_26 (HB.n hc hN (by decide)) (HB.n hb hN (by decide)) (HB.s hc) (HB.s hb) (by decide) (by decide) (by decide) (by decide) dX1_become_11 (fun σ2 hσ2 => ?_)
  refine g_aload_n C dX1_become_14 rfl rfl ?_
  refine g_get (v := .ref (wA w (c + 2))) C fl_X1_15 fs_X1_15 (HB.n0 hc hN) (HB.ou hc _) rfl dX1_become_15 ?_
  refine g_iconst C dX1_become_18 ic_0 ?_
  refine g_aload_n C dX1_become_19 rfl rfl ?_
  refine g_get (v := .ref (wA w (b + 2))) C fl_X1_15 fs_X1_15 (HB.n0 hb hN) (HB.ou hb _) rfl dX1_become_20 ?_
  refine g_iconst C dX1_become_23 ic_0 ?_
  refine g_bipush C dX1_become_24 bp_7 ?_
  refine g_copy (k0 := (c + 2)) (k1 := (b + 2)) (n0 := 7) (n := 7) C ml_X1_26 (HB.n hc hN (by decide)) (HB.n hb hN (by decide)) (HB.p hc) (HB.p hb) (by decide) (by decide) (by decide) (by decide) dX1_become_26 (fun σ3 hσ3 => ?_)
  refine g_aload_n C dX1_become_29 rfl rfl ?_
  refine g_get (v := .ref (wA w (c + 3))) C fl_X1_18 fs_X1_18 (HB.n0 hc hN) (HB.ou hc _) rfl dX1_become_30 ?_
  refine g_iconst C dX1_become_33 ic_0 ?_
  refine g_aload_n C dX1_become_34 rfl rfl ?_
  refine g_get (v := .ref (wA w (b + 3))) C fl_X1_18 fs_X1_18 (HB.n0 hb hN) (HB.ou hb _) rfl dX1_become_35 ?_
  refine g_iconst C dX1_become_38 ic_0 ?_
  refine g_aload_n C dX1_become_39 rfl rfl ?_
  refine g_get (v := .ref (wA w (b + 3))) C fl_X1_18 fs_X1_18 (HB.n0 hb hN) (HB.ou hb _) rfl dX1_become_40 ?_
  refine g_alen (k0 := (b + 3)) (n := 6) (v := 6) C (HB.n hb hN (by decide)) (HB.t hb) rfl dX1_become_43 ?_
  refine g_copy (k0 := (c + 3)) (k1 := (b + 3)) (n0 := 6) (n := 6) C ml_X1_26 (HB.n hc hN (by decide)) (HB.n hb hN (by decide)) (HB.t hc) (HB.t hb) (by decide) (by decide) (by decide) (by decide) dX1_become_44 (fun σ4 hσ4 => ?_)
  refine g_iconst C dX1_become_47 ic_0 ?_
  refine g_istore_n (lv' := [(2, .int 0), (0, .ref (wA w b)), (1, .ref (wA w c))]) C dX1_become_48 rfl (by decide) rfl ?_
  have L49 : ∀ (m49 : Nat) (e : Nat) (σ1 : SG), m49 = 4 - e → (e ≤ 4) → (∀ k, k < 5 → σ1 (b + 1) k = nI (a (10 + k))) → (∀ k, k < 7 → σ1 (b + 2) k = nI (a (20 + k))) → (∀ k, k < 6 → σ1 (b + 3) k = nI (a (2 + k))) → (∀ e', e' < e → ∀ k, k < 4 → σ1 (b + 5 + e') k = nI (a (30 + 4 * e' + k))) → (Fr (inH b) σ σ1) → G l w K 49 [(0, .ref (wA w b)), (1, .ref (wA w c)), (2, .int (nI e))] [] σ1 := by
    intro m49
    induction m49 using Nat.strongRecOn with
    | ind m49 ih49 =>
    intro e σ1 em49 he h1 h2 h3 h4 hF
    have hc1 : ∀ k, c ≤ k → k ≤ c + 8 → σ1 k = σ k := fun k z1 z2 => hF k (hdj k z1 z2)
    refine g_iload_n C dX1_become_49 rfl rfl ?_
    refine g_iconst C dX1_become_50 ic_4 ?_
    refine g_icmp_ge (tgt := 78) C dX1_become_51 rfl (fun c51_1 => ?_) (fun c51_1 => ?_)
    · skip
      have n51_1 : 4 ≤ e := (nj_le (a := 4) (b := e) (by omega) (by omega)).mp c51_1
      refine g_aload_n C dX1_become_78 rfl rfl ?_
      refine g_aload_n C dX1_become_79 rfl rfl ?_
      refine g_get (v := .int (σ1 c 4)) C fl_X1_32 fs_X1_32 (HB.n0 hc hN) (HB.ou hc _) rfl dX1_become_80 ?_
      refine g_putn C fp_X1_32 (HB.n0 hb hN) (HB.ou hb _) (HB.ou hb _) (Nat.le_of_ble_eq_true rfl) rfl rfl dX1_become_83 (fun σ6 hσ6 => ?_)
      refine g_aload_n C dX1_become_86 rfl rfl ?_
      refine g_aload_n C dX1_become_87 rfl rfl ?_
      refine g_get (v := .int (σ6 c 5)) C fl_X1_36 fs_X1_36 (HB.n0 hc hN) (HB.ou hc _) rfl dX1_become_88 ?_
      refine g_putn C fp_X1_36 (HB.n0 hb hN) (HB.ou hb _) (HB.ou hb _) (Nat.le_of_ble_eq_true rfl) rfl rfl dX1_become_91 (fun σ7 hσ7 => ?_)
      refine g_aload_n C dX1_become_94 rfl rfl ?_
      refine g_aload_n C dX1_become_95 rfl rfl ?_
      refine g_get (v := .int (σ7 c 6)) C fl_X1_39 fs_X1_39 (HB.n0 hc hN) (HB.ou hc _) rfl dX1_become_96 ?_
      refine g_putn C fp_X1_39 (HB.n0 hb hN) (HB.ou hb _) (HB.ou hb _) (Nat.le_of_ble_eq_true rfl) rfl rfl dX1_become_99 (fun σ8 hσ8 => ?_)
      refine g_vret C r dX1_become_102 ?_
      have g6 : σ8 b 4 = nI (a 0) := by rw [hσ8, up_elem (by decide), hσ7, up_elem (by decide), hσ6, up_same, hc1 c (by omega) (by omega)]; exact hH.c
      have n1 : c ≠ b := fun z => hbc z.symm
      have g7 : σ8 b 5 = nI (a 1) := by rw [hσ8, up_elem (by decide), hσ7, up_same, hσ6, up_other n1, hc1 c (by omega) (by omega)]; exact hH.d
      have g8 : σ8 b 6 = σ c 6 := by rw [hσ8, up_same, hσ7, up_other n1, hσ6, up_other n1, hc1 c (by omega) (by omega)]
      have g9 : ∀ k, k ≠ b → σ8 k = σ1 k := fun k z => by rw [hσ8, up_other z, hσ7, up_other z, hσ6, up_other z]
      obtain rfl : e = 4 := by omega
      refine ⟨⟨g6, g7, fun k hk => ?_, fun k hk => ?_, fun k hk => ?_, fun e he k hk => ?_⟩, g8, fun k z => ?_⟩
      · rw [g9 _ (by omega)]; exact h3 k hk
      · rw [g9 _ (by omega)]; exact h1 k hk
      · rw [g9 _ (by omega)]; exact h2 k hk
      · rw [g9 _ (by omega)]; exact h4 e he k hk
      · rw [g9 k (fun y => z ⟨by omega, by omega⟩)]; exact hF k z
    · skip
      have n51_1 : ¬ (4 ≤ e) := fun qq => c51_1 ((nj_le (a := 4) (b := e) (by omega) (by omega)).mpr qq)
      refine g_aload_n C dX1_become_54 rfl rfl ?_
      refine g_get (v := .ref (wA w (c + 4))) C fl_X1_23 fs_X1_23 (HB.n0 hc hN) (HB.ou hc _) rfl dX1_become_55 ?_
      refine g_iload_n C dX1_become_58 rfl rfl ?_
      refine g_aal (k0 := (c + 4)) (b := c) C (HB.n hc hN (by decide)) (HB.e hc) (j := e) (ix_n (by omega)) dX1_become_59 ?_
      refine g_iconst C dX1_become_60 ic_0 ?_
      refine g_aload_n C dX1_become_61 rfl rfl ?_
      refine g_get (v := .ref (wA w (b + 4))) C fl_X1_23 fs_X1_23 (HB.n0 hb hN) (HB.ou hb _) rfl dX1_become_62 ?_
      refine g_iload_n C dX1_become_65 rfl rfl ?_
      refine g_aal (k0 := (b + 4)) (b := b) C (HB.n hb hN (by decide)) (HB.e hb) (j := e) (ix_n (by omega)) dX1_become_66 ?_
      refine g_iconst C dX1_become_67 ic_0 ?_
      refine g_iconst C dX1_become_68 ic_4 ?_
      refine g_copy (k0 := (c + 5 + e)) (k1 := (b + 5 + e)) (n0 := 4) (n := 4) C ml_X1_26 (HB.nr hc hN (by omega)) (HB.nr hb hN (by omega)) (HB.r hc (by omega)) (HB.r hb (by omega)) (by decide) (by decide) (by decide) (by decide) dX1_become_69 (fun σ5 hσ5 => ?_)
      refine g_iinc (v := nI (e + 1)) (lv' := [(2, .int (nI (e + 1))), (0, .ref (wA w b)), (1, .ref (wA w c))]) C dX1_become_72 (by decide) rfl (nj_inc e) rfl ?_
      refine g_goto (tgt := 49) C dX1_become_75 rfl ?_
      exact g_lvp [1, 2, 0] rfl (ih49 (4 - (e + 1)) (by omega) (e + 1) σ5 rfl (by first | omega | assumption | rfl | grind) (fun k hk => by rw [hσ5, upc_other (by omega)]; exact h1 k hk) (fun k hk => by rw [hσ5, upc_other (by omega)]; exact h2 k hk) (fun k hk => by rw [hσ5, upc_other (by omega)]; exact h3 k hk) (fun e' h k hk => (Decidable.em (e' = e)).elim (fun z => by subst z; rw [hσ5, upc_same, if_pos hk, hc1 _ (by omega) (by omega)]; exact hH.e (by omega) hk) (fun z => by rw [hσ5, upc_other (by omega)]; exact h4 e' (by omega) k hk)) (hF.tr (show Fr (inH b) σ1 σ5 by rw [hσ5]; exact Fr.upc ⟨by omega, by omega⟩) (fun _ z => z)))
  exact g_lvp [1, 2, 0] rfl (L49 (4 - 0) 0 σ4 rfl (by first | omega | assumption | rfl | grind) (fun k hk => by rw [hσ4, upc_other (by omega), hσ3, upc_other (by omega), hσ2, upc_same, if_pos hk]; exact hH.s hk) (fun k hk => by rw [hσ4, upc_other (by omega), hσ3, upc_same, if_pos hk, hσ2, upc_other (by have := hdj (c + 2) (by omega) (by omega); unfold inH at this; omega)]; exact hH.p hk) (fun k hk => by rw [hσ4, upc_same, if_pos hk, hσ3, upc_other (by have := hdj (c + 3) (by omega) (by omega); unfold inH at this; omega), hσ2, upc_other (by have := hdj (c + 3) (by omega) (by omega); unfold inH at this; omega)]; exact hH.t hk) (fun e' h => absurd h (Nat.not_lt_zero _)) (by subst_vars; exact ((Fr.upc (S := inH b) ⟨by omega, by omega⟩).tr (Fr.upc (S := inH b) ⟨by omega, by omega⟩) (fun _ z => z)).tr (Fr.upc (S := inH b) ⟨by omega, by omega⟩) (fun _ z => z)))

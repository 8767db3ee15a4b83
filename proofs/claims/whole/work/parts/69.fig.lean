set_option maxRecDepth 100000 in
set_option maxHeartbeats 4000000 in
theorem ct_X5_oneOf (l : Launch) (w : WD) (hN : 54 ≤ wN w) (σ : SG) (kc m : Nat) (hkck : kc < wN w) (hkcs : shp w kc = aC w m) (hm : m ≤ 100) (g : Nat → Nat) (hg : ∀ j, j < m → σ kc j = nI (g j)) (hg9 : ∀ j, j < m → g j ≤ 255) (nl : Nat) (c : Nat → Nat) (htn : σ 38 15 = nI nl) (hl9 : nl ≤ 96) (htp : ∀ j, j < nl → σ 46 j = nI (c j)) (hc9 : ∀ j, j < nl → c j ≤ 255) (wl q : Nat) (hw9 : wl ≤ 1) (hw : σ 38 17 = nI wl) (hq9 : q ≤ nl) (hq : σ 38 16 = nI q) : CtI l w yX5_oneOf cX5_oneOf 3 (some .int) 1 0 0 [.ref (wA w 38), .ref (wA w kc)] σ (fun r τ => OneP c nl m g wl q r τ ∧ Fr67 σ τ) := by
  refine CtI.mk (by decide) (Nat.le_of_ble_eq_true rfl) ?_
  intro K C hr h0
  have r := RI.of hr h0
  clear hr h0
  show G l w K 0 [(0, .ref (wA w 38)), (1, .ref (wA w kc))] [] σ
  refine g_iconst C dX5_oneOf_0 ic_0 ?_
  refine g_istore_n (lv' := [(2, .int 0), (0, .ref (wA w 38)), (1, .ref (wA w kc))]) C dX5_oneOf_1 rfl (by decide) rfl ?_
  have L2 : ∀ (m2 : Nat) (k : Nat), m2 = m - k → (k ≤ m) → (∀ j, j < k → ¬ (wl = 1 ∧ q < nl ∧ g j = c q)) → G l w K 2 [(0, .ref (wA w 38)), (1, .ref (wA w kc)), (2, .int (nI k))] [] σ := by
    intro m2
    induction m2 using Nat.strongRecOn with
    | ind m2 ih2 =>
    intro k em2 hk hno
    refine g_iload_n C dX5_oneOf_2 rfl rfl ?_
    refine g_aload_n C dX5_oneOf_3 rfl rfl ?_
    refine g_alenC (k0 := kc) (n := m) (v := nI m) C hkck hkcs rfl dX5_oneOf_4 ?_
    refine g_icmp_ge (tgt := 59) C dX5_oneOf_5 rfl (fun c5_1 => ?_) (fun c5_1 => ?_)
    · skip
      have n5_1 : m ≤ k := (nj_le (a := m) (b := k) (by omega) (by omega)).mp c5_1
      have hkm : k = m := by omega
      refine g_aload_n C dX5_oneOf_59 rfl rfl ?_
      refine g_iconst C dX5_oneOf_60 ic_0 ?_
      refine g_putn C fp_X5_122 (Nat.lt_of_lt_of_le (by decide) hN) rfl rfl (Nat.le_of_ble_eq_true rfl) rfl rfl dX5_oneOf_61 (fun σ1 hσ1 => ?_)
      refine g_iconst C dX5_oneOf_64 ic_0 ?_
      refine g_iret C r rfl dX5_oneOf_65 ?_
      refine ⟨Or.inr ⟨?_, rfl, by rw [hσ1, up_elem (by decide)]; exact hq, by rw [hσ1, up_same]; rfl⟩, by rw [hσ1]; exact ⟨fun k hk => up_other hk, fun j h1 h2 => up_elem h2⟩⟩
      by_cases z1 : wl = 0
      · exact Or.inl z1
      · by_cases z2 : q < nl
        · exact Or.inr (Or.inr (fun j hj z => hno j (by omega) ⟨by omega, z2, z⟩))
        · exact Or.inr (Or.inl z2)
    · skip
      have n5_1 : ¬ (m ≤ k) := fun qq => c5_1 ((nj_le (a := m) (b := k) (by omega) (by omega)).mpr qq)
      refine g_aload_n C dX5_oneOf_8 rfl rfl ?_
      refine g_get (v := .int (σ 38 17)) C fl_X5_122 fs_X5_122 (Nat.lt_of_lt_of_le (by decide) hN) rfl rfl dX5_oneOf_9 ?_
      refine g_val (y := nI wl) hw ?_
      refine g_if_eq (tgt := 53) C dX5_oneOf_12 rfl (fun c12_2 => ?_) (fun c12_2 => ?_)
      · skip
        have n12_2 : wl = 0 := (nj_eq (a := wl) (b := 0) (by omega) (by omega)).mp c12_2
        refine g_iinc (v := nI (k + 1)) (lv' := [(2, .int (nI (k + 1))), (0, .ref (wA w 38)), (1, .ref (wA w kc))]) C dX5_oneOf_53 (by decide) rfl (nj_inc k) rfl ?_
        refine g_goto (tgt := 2) C dX5_oneOf_56 rfl ?_
        exact g_lvp [1, 2, 0] rfl (ih2 (m - (k + 1)) (by omega) (k + 1) rfl (by first | omega | assumption | rfl | grind) (fun j hj => (Decidable.em (j = k)).elim (fun z => by rw [z]; intro y; omega) (fun z => hno j (by omega))))
      · skip
        have n12_2 : ¬ (wl = 0) := fun qq => c12_2 ((nj_eq (a := wl) (b := 0) (by omega) (by omega)).mpr qq)
        refine g_aload_n C dX5_oneOf_15 rfl rfl ?_
        refine g_get (v := .int (σ 38 16)) C fl_X5_125 fs_X5_125 (Nat.lt_of_lt_of_le (by decide) hN) rfl rfl dX5_oneOf_16 ?_
        refine g_val (y := nI q) hq ?_
        refine g_aload_n C dX5_oneOf_19 rfl rfl ?_
        refine g_get (v := .int (σ 38 15)) C fl_X5_119 fs_X5_119 (Nat.lt_of_lt_of_le (by decide) hN) rfl rfl dX5_oneOf_20 ?_
        refine g_val (y := nI nl) htn ?_
        refine g_icmp_ge (tgt := 53) C dX5_oneOf_23 rfl (fun c23_3 => ?_) (fun c23_3 => ?_)
        · skip
          have n23_3 : nl ≤ q := (nj_le (a := nl) (b := q) (by omega) (by omega)).mp c23_3
          refine g_iinc (v := nI (k + 1)) (lv' := [(2, .int (nI (k + 1))), (0, .ref (wA w 38)), (1, .ref (wA w kc))]) C dX5_oneOf_53 (by decide) rfl (nj_inc k) rfl ?_
          refine g_goto (tgt := 2) C dX5_oneOf_56 rfl ?_
          exact g_lvp [1, 2, 0] rfl (ih2 (m - (k + 1)) (by omega) (k + 1) rfl (by first | omega | assumption | rfl | grind) (fun j hj => (Decidable.em (j = k)).elim (fun z => by rw [z]; intro y; omega) (fun z => hno j (by omega))))
        · skip
          have n23_3 : ¬ (nl ≤ q) := fun qq => c23_3 ((nj_le (a := nl) (b := q) (by omega) (by omega)).mpr qq)
          have hcq := hc9 q (by omega)
          refine g_aload_n C dX5_oneOf_26 rfl rfl ?_
          refine g_get (v := .ref (wA w 46)) C fl_X5_31 fs_X5_31 (Nat.lt_of_lt_of_le (by decide) hN) rfl rfl dX5_oneOf_27 ?_
          refine g_aload_n C dX5_oneOf_30 rfl rfl ?_
          refine g_get (v := .int (σ 38 16)) C fl_X5_125 fs_X5_125 (Nat.lt_of_lt_of_le (by decide) hN) rfl rfl dX5_oneOf_31 ?_
          refine g_val (y := nI q) hq ?_
          refine g_ial (k0 := 46) (n := 96) C (Nat.lt_of_lt_of_le (by decide) hN) rfl (j := q) (ix_n (by omega)) dX5_oneOf_34 ?_
          refine g_val (y := nI (c q)) (htp q (by omega)) ?_
          refine g_aload_n C dX5_oneOf_35 rfl rfl ?_
          refine g_iload_n C dX5_oneOf_36 rfl rfl ?_
          refine g_cal (k0 := kc) (n := m) C hkck hkcs (j := k) (ix_n (by omega) (by omega)) dX5_oneOf_37 ?_
          refine g_val (y := nI (g k)) (hg k (by omega)) ?_
          have hgk := hg9 k (by omega)
          refine g_icmp_ne (tgt := 53) C dX5_oneOf_38 rfl (fun c38_4 => ?_) (fun c38_4 => ?_)
          · skip
            have n38_4 : ¬ (c q = g k) := fun qq => c38_4 ((nj_eq (a := c q) (b := g k) (by omega) (by omega)).mpr qq)
            refine g_iinc (v := nI (k + 1)) (lv' := [(2, .int (nI (k + 1))), (0, .ref (wA w 38)), (1, .ref (wA w kc))]) C dX5_oneOf_53 (by decide) rfl (nj_inc k) rfl ?_
            refine g_goto (tgt := 2) C dX5_oneOf_56 rfl ?_
            exact g_lvp [1, 2, 0] rfl (ih2 (m - (k + 1)) (by omega) (k + 1) rfl (by first | omega | assumption | rfl | grind) (fun j hj => (Decidable.em (j = k)).elim (fun z => by rw [z]; intro y; omega) (fun z => hno j (by omega))))
          · skip
            have n38_4 : c q = g k := (nj_eq (a := c q) (b := g k) (by omega) (by omega)).mp c38_4
            refine g_aload_n C dX5_oneOf_41 rfl rfl ?_
            refine g_dup C dX5_oneOf_42 rfl ?_
            refine g_get (v := .int (σ 38 16)) C fl_X5_125 fs_X5_125 (Nat.lt_of_lt_of_le (by decide) hN) rfl rfl dX5_oneOf_43 ?_
            refine g_val (y := nI q) hq ?_
            refine g_iconst C dX5_oneOf_46 ic_1 ?_
            refine g_iaddv (v := nI (q + 1)) C (nj_plus q 1) dX5_oneOf_47 ?_
            refine g_putn C fp_X5_125 (Nat.lt_of_lt_of_le (by decide) hN) rfl rfl (Nat.le_of_ble_eq_true rfl) rfl rfl dX5_oneOf_48 (fun σ1 hσ1 => ?_)
            refine g_iload_n C dX5_oneOf_51 rfl rfl ?_
            refine g_iret C r rfl dX5_oneOf_52 ?_
            refine ⟨Or.inl ⟨k, by omega, by omega, by omega, by omega, rfl, by rw [hσ1, up_same], by rw [hσ1, up_elem (by decide), hw]; exact congrArg nI (by omega)⟩, ?_⟩
            rw [hσ1]; exact ⟨fun k hk => up_other hk, fun j h1 h2 => up_elem h1⟩
  exact g_lvp [1, 2, 0] rfl (L2 (m - 0) 0 rfl (by first | omega | assumption | rfl | grind) (fun j h => absurd h (Nat.not_lt_zero _)))
set_option maxRecDepth 100000 in
set_option maxHeartbeats 4000000 in
theorem ct_X5_figures (l : Launch) (w : WD) (hN : 54 ≤ wN w) (σ : SG) (ls ms : Nat) (hls : ls ≤ 2) (hms : ms ≤ 2) (nl : Nat) (c : Nat → Nat) (htn : σ 38 15 = nI nl) (hl9 : nl ≤ 96) (htp : ∀ j, j < nl → σ 46 j = nI (c j)) (hc9 : ∀ j, j < nl → c j ≤ 255) (wl q : Nat) (hw9 : wl ≤ 1) (hw : σ 38 17 = nI wl) (hq9 : q ≤ nl) (hq : σ 38 16 = nI q) : CtI l w yX5_figures cX5_figures 5 (some .int) 1 0 0 [.ref (wA w 38), .int (nI ls), .int (nI ms)] σ (fun r τ => FigP c nl ls ms wl q r τ ∧ Fr67 σ τ) := by
  refine CtI.mk (by decide) (Nat.le_of_ble_eq_true rfl) ?_
  intro K C hr h0
  have r := RI.of hr h0
  clear hr h0
  show G l w K 0 [(0, .ref (wA w 38)), (1, .int (nI ls)), (2, .int (nI ms))] [] σ
  refine g_iconst C dX5_figures_0 ic_0 ?_
  refine g_istore_n (lv' := [(3, .int 0), (0, .ref (wA w 38)), (1, .int (nI ls)), (2, .int (nI ms))]) C dX5_figures_1 rfl (by decide) rfl ?_
  refine g_iconst C dX5_figures_2 ic_0 ?_
  refine g_istore (lv' := [(4, .int 0), (3, .int 0), (0, .ref (wA w 38)), (1, .int (nI ls)), (2, .int (nI ms))]) C dX5_figures_3 (by decide) rfl ?_
  have L5 : ∀ (m5 : Nat) (d : Nat) (σ1 : SG), m5 = ms - d → (d ≤ ms) → (wl = 0 → d = 0) → (∀ j, j < d → q + j < nl ∧ dgt (c (q + j))) → (σ1 38 16 = nI (q + d)) → (σ1 38 17 = nI wl) → ((∀ k, k ≠ 38 → σ1 k = σ k) ∧ ∀ j, j ≠ 16 → σ1 38 j = σ 38 j) → G l w K 5 [(0, .ref (wA w 38)), (1, .int (nI ls)), (2, .int (nI ms)), (3, .int (nI (fv c q d))), (4, .int (nI d))] [] σ1 := by
    intro m5
    induction m5 using Nat.strongRecOn with
    | ind m5 ih5 =>
    intro d σ1 em5 hd hd0 hdj h16 h17 hF1
    have L91 : (wl = 1 → d = ms ∨ ¬ (q + d < nl ∧ dgt (c (q + d)))) → G l w K 91 [(0, .ref (wA w 38)), (1, .int (nI ls)), (3, .int (nI (fv c q d))), (4, .int (nI d))] [] σ1 := by
      intro hex
      refine g_aload_n C dX5_figures_91 rfl rfl ?_
      refine g_aload_n C dX5_figures_92 rfl rfl ?_
      refine g_get (v := .int (σ1 38 17)) C fl_X5_122 fs_X5_122 (Nat.lt_of_lt_of_le (by decide) hN) rfl rfl dX5_figures_93 ?_
      refine g_val (y := nI wl) h17 ?_
      refine g_if_eq (tgt := 109) C dX5_figures_96 rfl (fun c96_1 => ?_) (fun c96_1 => ?_)
      · skip
        have n96_1 : wl = 0 := (nj_eq (a := wl) (b := 0) (by omega) (by omega)).mp c96_1
        refine g_iconst C dX5_figures_109 ic_0 ?_
        refine g_putn C fp_X5_122 (Nat.lt_of_lt_of_le (by decide) hN) rfl rfl (Nat.le_of_ble_eq_true rfl) rfl rfl dX5_figures_110 (fun σy hσy => ?_)
        refine g_iload_n C dX5_figures_113 rfl rfl ?_
        refine g_iret C r rfl dX5_figures_114 ?_
        refine ⟨⟨d, hd, hd0, hdj, hex, rfl, by rw [hσy, up_elem (by decide)]; exact h16, ?_⟩, ⟨fun k hk => by rw [hσy, up_other hk]; exact hF1.1 k hk, fun j h1 h2 => by rw [hσy, up_elem h2]; exact hF1.2 j h1⟩⟩
        rw [hσy, up_same]
        first | (rw [if_pos ⟨by omega, by omega⟩]; rfl) | (rw [if_neg (by omega)]; rfl)
      · skip
        have n96_1 : ¬ (wl = 0) := fun qq => c96_1 ((nj_eq (a := wl) (b := 0) (by omega) (by omega)).mpr qq)
        refine g_iload C dX5_figures_99 rfl ?_
        refine g_iload_n C dX5_figures_101 rfl rfl ?_
        refine g_icmp_lt (tgt := 109) C dX5_figures_102 rfl (fun c102_2 => ?_) (fun c102_2 => ?_)
        · skip
          have n102_2 : d < ls := (nj_lt (a := d) (b := ls) (by omega) (by omega)).mp c102_2
          refine g_iconst C dX5_figures_109 ic_0 ?_
          refine g_putn C fp_X5_122 (Nat.lt_of_lt_of_le (by decide) hN) rfl rfl (Nat.le_of_ble_eq_true rfl) rfl rfl dX5_figures_110 (fun σy hσy => ?_)
          refine g_iload_n C dX5_figures_113 rfl rfl ?_
          refine g_iret C r rfl dX5_figures_114 ?_
          refine ⟨⟨d, hd, hd0, hdj, hex, rfl, by rw [hσy, up_elem (by decide)]; exact h16, ?_⟩, ⟨fun k hk => by rw [hσy, up_other hk]; exact hF1.1 k hk, fun j h1 h2 => by rw [hσy, up_elem h2]; exact hF1.2 j h1⟩⟩
          rw [hσy, up_same]
          first | (rw [if_pos ⟨by omega, by omega⟩]; rfl) | (rw [if_neg (by omega)]; rfl)
        · skip
          have n102_2 : ¬ (d < ls) := fun qq => c102_2 ((nj_lt (a := d) (b := ls) (by omega) (by omega)).mpr qq)
          refine g_iconst C dX5_figures_105 ic_1 ?_
          refine g_goto (tgt := 110) C dX5_figures_106 rfl ?_
          refine g_putn C fp_X5_122 (Nat.lt_of_lt_of_le (by decide) hN) rfl rfl (Nat.le_of_ble_eq_true rfl) rfl rfl dX5_figures_110 (fun σy hσy => ?_)
          refine g_iload_n C dX5_figures_113 rfl rfl ?_
          refine g_iret C r rfl dX5_figures_114 ?_
          refine ⟨⟨d, hd, hd0, hdj, hex, rfl, by rw [hσy, up_elem (by decide)]; exact h16, ?_⟩, ⟨fun k hk => by rw [hσy, up_other hk]; exact hF1.1 k hk, fun j h1 h2 => by rw [hσy, up_elem h2]; exact hF1.2 j h1⟩⟩
          rw [hσy, up_same]
          first | (rw [if_pos ⟨by omega, by omega⟩]; rfl) | (rw [if_neg (by omega)]; rfl)
    refine g_aload_n C dX5_figures_5 rfl rfl ?_
    refine g_get (v := .int (σ1 38 17)) C fl_X5_122 fs_X5_122 (Nat.lt_of_lt_of_le (by decide) hN) rfl rfl dX5_figures_6 ?_
    refine g_val (y := nI wl) h17 ?_
    refine g_if_eq (tgt := 91) C dX5_figures_9 rfl (fun c9_3 => ?_) (fun c9_3 => ?_)
    · skip
      have n9_3 : wl = 0 := (nj_eq (a := wl) (b := 0) (by omega) (by omega)).mp c9_3
      exact g_lvp [0, 1, 3, 4] rfl (L91  (fun z => by omega))
    · skip
      have n9_3 : ¬ (wl = 0) := fun qq => c9_3 ((nj_eq (a := wl) (b := 0) (by omega) (by omega)).mpr qq)
      refine g_iload C dX5_figures_12 rfl ?_
      refine g_iload_n C dX5_figures_14 rfl rfl ?_
      refine g_icmp_ge (tgt := 91) C dX5_figures_15 rfl (fun c15_4 => ?_) (fun c15_4 => ?_)
      · skip
        have n15_4 : ms ≤ d := (nj_le (a := ms) (b := d) (by omega) (by omega)).mp c15_4
        exact g_lvp [0, 1, 3, 4] rfl (L91  (fun z => Or.inl (by omega)))
      · skip
        have n15_4 : ¬ (ms ≤ d) := fun qq => c15_4 ((nj_le (a := ms) (b := d) (by omega) (by omega)).mpr qq)
        refine g_aload_n C dX5_figures_18 rfl rfl ?_
        refine g_get (v := .int (σ1 38 16)) C fl_X5_125 fs_X5_125 (Nat.lt_of_lt_of_le (by decide) hN) rfl rfl dX5_figures_19 ?_
        refine g_val (y := nI (q + d)) h16 ?_
        refine g_aload_n C dX5_figures_22 rfl rfl ?_
        refine g_get (v := .int (σ1 38 15)) C fl_X5_119 fs_X5_119 (Nat.lt_of_lt_of_le (by decide) hN) rfl rfl dX5_figures_23 ?_
        refine g_val (y := nI nl) (by rw [hF1.2 15 (by decide)]; exact htn) ?_
        refine g_icmp_ge (tgt := 91) C dX5_figures_26 rfl (fun c26_5 => ?_) (fun c26_5 => ?_)
        · skip
          have n26_5 : nl ≤ q + d := (nj_le (a := nl) (b := q + d) (by omega) (by omega)).mp c26_5
          exact g_lvp [0, 1, 3, 4] rfl (L91  (fun z => Or.inr (fun y => by omega)))
        · skip
          have n26_5 : ¬ (nl ≤ q + d) := fun qq => c26_5 ((nj_le (a := nl) (b := q + d) (by omega) (by omega)).mpr qq)
          have hcq := hc9 (q + d) (by omega)
          refine g_aload_n C dX5_figures_29 rfl rfl ?_
          refine g_get (v := .ref (wA w 46)) C fl_X5_31 fs_X5_31 (Nat.lt_of_lt_of_le (by decide) hN) rfl rfl dX5_figures_30 ?_
          refine g_aload_n C dX5_figures_33 rfl rfl ?_
          refine g_get (v := .int (σ1 38 16)) C fl_X5_125 fs_X5_125 (Nat.lt_of_lt_of_le (by decide) hN) rfl rfl dX5_figures_34 ?_
          refine g_val (y := nI (q + d)) h16 ?_
          refine g_ial (k0 := 46) (n := 96) C (Nat.lt_of_lt_of_le (by decide) hN) rfl (j := q + d) (ix_n (by omega)) dX5_figures_37 ?_
          refine g_val (y := nI (c (q + d))) (by rw [hF1.1 46 (by decide)]; exact htp _ (by omega)) ?_
          refine g_bipush C dX5_figures_38 bp_48 ?_
          refine g_icmp_lt (tgt := 91) C dX5_figures_40 rfl (fun c40_6 => ?_) (fun c40_6 => ?_)
          · skip
            have n40_6 : c (q + d) < 48 := (nj_lt (a := c (q + d)) (b := 48) (by omega) (by omega)).mp c40_6
            exact g_lvp [0, 1, 3, 4] rfl (L91  (fun z => Or.inr (fun y => by have := y.2; omega)))
          · skip
            have n40_6 : ¬ (c (q + d) < 48) := fun qq => c40_6 ((nj_lt (a := c (q + d)) (b := 48) (by omega) (by omega)).mpr qq)
            refine g_aload_n C dX5_figures_43 rfl rfl ?_
            refine g_get (v := .ref (wA w 46)) C fl_X5_31 fs_X5_31 (Nat.lt_of_lt_of_le (by decide) hN) rfl rfl dX5_figures_44 ?_
            refine g_aload_n C dX5_figures_47 rfl rfl ?_
            refine g_get (v := .int (σ1 38 16)) C fl_X5_125 fs_X5_125 (Nat.lt_of_lt_of_le (by decide) hN) rfl rfl dX5_figures_48 ?_
            refine g_val (y := nI (q + d)) h16 ?_
            refine g_ial (k0 := 46) (n := 96) C (Nat.lt_of_lt_of_le (by decide) hN) rfl (j := q + d) (ix_n (by omega)) dX5_figures_51 ?_
            refine g_val (y := nI (c (q + d))) (by rw [hF1.1 46 (by decide)]; exact htp _ (by omega)) ?_
            refine g_bipush C dX5_figures_52 bp_57 ?_
            refine g_icmp_gt (tgt := 91) C dX5_figures_54 rfl (fun c54_7 => ?_) (fun c54_7 => ?_)
            · skip
              have n54_7 : 57 < c (q + d) := (nj_lt (a := 57) (b := c (q + d)) (by omega) (by omega)).mp c54_7
              exact g_lvp [0, 1, 3, 4] rfl (L91  (fun z => Or.inr (fun y => by have := y.2; omega)))
            · skip
              have n54_7 : ¬ (57 < c (q + d)) := fun qq => c54_7 ((nj_lt (a := 57) (b := c (q + d)) (by omega) (by omega)).mpr qq)
              refine g_bipush C dX5_figures_57 bp_10 ?_
              refine g_iload_n C dX5_figures_59 rfl rfl ?_
              refine g_imulv (v := nI (10 * (fv c q d))) C (nj_times 10 (fv c q d)) dX5_figures_60 ?_
              refine g_aload_n C dX5_figures_61 rfl rfl ?_
              refine g_get (v := .ref (wA w 46)) C fl_X5_31 fs_X5_31 (Nat.lt_of_lt_of_le (by decide) hN) rfl rfl dX5_figures_62 ?_
              refine g_aload_n C dX5_figures_65 rfl rfl ?_
              refine g_get (v := .int (σ1 38 16)) C fl_X5_125 fs_X5_125 (Nat.lt_of_lt_of_le (by decide) hN) rfl rfl dX5_figures_66 ?_
              refine g_val (y := nI (q + d)) h16 ?_
              refine g_ial (k0 := 46) (n := 96) C (Nat.lt_of_lt_of_le (by decide) hN) rfl (j := q + d) (ix_n (by omega)) dX5_figures_69 ?_
              refine g_val (y := nI (c (q + d))) (by rw [hF1.1 46 (by decide)]; exact htp _ (by omega)) ?_
              refine g_iaddv (v := nI ((10 * (fv c q d)) + (c (q + d)))) C (nj_plus (10 * (fv c q d)) (c (q + d))) dX5_figures_70 ?_
              refine g_bipush C dX5_figures_71 bp_48 ?_
              refine g_isubv (v := nI (((10 * (fv c q d)) + (c (q + d))) - 48)) C (nj_minus (a := (10 * (fv c q d)) + (c (q + d))) (b := 48) (by omega)) dX5_figures_73 ?_
              refine g_istore_n (lv' := [(3, .int (nI (((10 * (fv c q d)) + (c (q + d))) - 48))), (0, .ref (wA w 38)), (1, .int (nI ls)), (2, .int (nI ms)), (4, .int (nI d))]) C dX5_figures_74 rfl (by decide) rfl ?_
              refine g_aload_n C dX5_figures_75 rfl rfl ?_
              refine g_dup C dX5_figures_76 rfl ?_
              refine g_get (v := .int (σ1 38 16)) C fl_X5_125 fs_X5_125 (Nat.lt_of_lt_of_le (by decide) hN) rfl rfl dX5_figures_77 ?_
              refine g_val (y := nI (q + d)) h16 ?_
              refine g_iconst C dX5_figures_80 ic_1 ?_
              refine g_iaddv (v := nI ((q + d) + 1)) C (nj_plus (q + d) 1) dX5_figures_81 ?_
              refine g_putn C fp_X5_125 (Nat.lt_of_lt_of_le (by decide) hN) rfl rfl (Nat.le_of_ble_eq_true rfl) rfl rfl dX5_figures_82 (fun σz hσz => ?_)
              refine g_iinc (v := nI (d + 1)) (lv' := [(4, .int (nI (d + 1))), (3, .int (nI (((10 * (fv c q d)) + (c (q + d))) - 48))), (0, .ref (wA w 38)), (1, .int (nI ls)), (2, .int (nI ms))]) C dX5_figures_85 (by decide) rfl (nj_inc d) rfl ?_
              refine g_goto (tgt := 5) C dX5_figures_88 rfl ?_
              exact g_lvp [2, 3, 4, 1, 0] rfl (ih5 (ms - (d + 1)) (by omega) (d + 1) σz rfl (by first | omega | assumption | rfl | grind) (fun z => by omega) (fun j hj => (Decidable.em (j = d)).elim (fun z => by rw [z]; exact ⟨by omega, ⟨by omega, by omega⟩⟩) (fun z => hdj j (by omega))) (by rw [hσz, up_same]; rfl) (by rw [hσz, up_elem (by decide)]; exact h17) (⟨fun k hk => by rw [hσz, up_other hk]; exact hF1.1 k hk, fun j hj => by rw [hσz, up_elem hj]; exact hF1.2 j hj⟩))
  exact g_lvp [2, 3, 4, 1, 0] rfl (L5 (ms - 0) 0 σ rfl (by first | omega | assumption | rfl | grind) (by first | omega | assumption | rfl | grind) (fun j h => absurd h (Nat.not_lt_zero _)) (hq) (hw) (⟨fun _ _ => rfl, fun _ _ => rfl⟩))

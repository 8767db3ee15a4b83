set_option maxRecDepth 100000 in
set_option maxHeartbeats 4000000 in
theorem ct_X5_no (l : Launch) (w : WD) (hN : 54 ≤ wN w) (σ : SG) (k : Nat) (hk : 1 ≤ k ∧ k ≤ 6) (x : Int32) (hx : -x = nI k) : CtI l w yX5_no cX5_no 2 (some .int) 1 0 0 [.ref (wA w 38), .int x] σ (fun r τ => r = x ∧ τ = up σ 39 k (σ 39 k + 1)) := by
  refine CtI.mk (by decide) (Nat.le_of_ble_eq_true rfl) ?_
  intro K C hr h0
  have r := RI.of hr h0
  clear hr h0
  show G l w K 0 [(0, .ref (wA w 38)), (1, .int x)] [] σ
  refine g_aload_n C dX5_no_0 rfl rfl ?_
  refine g_get (v := .ref (wA w 39)) C fl_X5_1 fs_X5_1 (Nat.lt_of_lt_of_le (by decide) hN) rfl rfl dX5_no_1 ?_
  refine g_iload_n C dX5_no_4 rfl rfl ?_
  refine g_ineg C dX5_no_5 ?_
  refine g_dup2 C dX5_no_6 rfl rfl ?_
  refine g_ial (k0 := 39) (n := 7) C (Nat.lt_of_lt_of_le (by decide) hN) rfl (j := k) (by rw [hx]; exact ix_n (by omega)) dX5_no_7 ?_
  refine g_iconst C dX5_no_8 ic_1 ?_
  refine g_iaddv (v := (σ 39 k) + 1) C rfl dX5_no_9 ?_
  refine g_ias (k0 := 39) (n := 7) C (Nat.lt_of_lt_of_le (by decide) hN) rfl (j := k) (by rw [hx]; exact ix_n (by omega)) dX5_no_10 (fun σ_1 hσ_1 => ?_)
  refine g_iload_n C dX5_no_11 rfl rfl ?_
  refine g_iret C r rfl dX5_no_12 ?_
  exact ⟨rfl, hσ_1⟩
set_option maxRecDepth 100000 in
set_option maxHeartbeats 4000000 in
theorem ct_X5_move (l : Launch) (w : WD) (hN : 54 ≤ wN w) (σ : SG) (c : Nat) (hck : c < wN w) (hcs : shp w c = aI w 46) (c2 : Nat) (hc2k : c2 < wN w) (hc2s : shp w c2 = aI w 46) (hne : c ≠ c2) (a : Row) (hM : Mr σ c a) : CtV l w yX5_move cX5_move 3 1 0 0 [.ref (wA w c), .ref (wA w c2)] σ (fun τ => Mr τ c2 a ∧ Fr (fun k => k = c2) σ τ) := by
  refine CtV.mk (by decide) (Nat.le_of_ble_eq_true rfl) ?_
  intro K C hr h0
  have r := RV.of hr h0
  clear hr h0
  show G l w K 0 [(0, .ref (wA w c)), (1, .ref (wA w c2))] [] σ
  refine g_iconst C dX5_move_0 ic_0 ?_
  refine g_istore_n (lv' := [(2, .int 0), (0, .ref (wA w c)), (1, .ref (wA w c2))]) C dX5_move_1 rfl (by decide) rfl ?_
  have L2 : ∀ (m2 : Nat) (q : Nat) (σ1 : SG), m2 = 46 - q → (q ≤ 46) → (∀ j, j < q → σ1 c2 j = nI (a j)) → (Fr (fun k => k = c2) σ σ1) → G l w K 2 [(0, .ref (wA w c)), (1, .ref (wA w c2)), (2, .int (nI q))] [] σ1 := by
    intro m2
    induction m2 using Nat.strongRecOn with
    | ind m2 ih2 =>
    intro q σ1 em2 hq h1 hF1
    have hM1 : Mr σ1 c a := hM.fr (hF1 c hne)
    refine g_iload_n C dX5_move_2 rfl rfl ?_
    refine g_bipush C dX5_move_3 bp_46 ?_
    refine g_icmp_ge (tgt := 20) C dX5_move_5 rfl (fun c5_1 => ?_) (fun c5_1 => ?_)
    · skip
      have n5_1 : 46 ≤ q := (nj_le (a := 46) (b := q) (by omega) (by omega)).mp c5_1
      refine g_vret C r dX5_move_20 ?_
      exact ⟨fun j hj => h1 j (by omega), hF1⟩
    · skip
      have n5_1 : ¬ (46 ≤ q) := fun qq => c5_1 ((nj_le (a := 46) (b := q) (by omega) (by omega)).mpr qq)
      refine g_aload_n C dX5_move_8 rfl rfl ?_
      refine g_iload_n C dX5_move_9 rfl rfl ?_
      refine g_aload_n C dX5_move_10 rfl rfl ?_
      refine g_iload_n C dX5_move_11 rfl rfl ?_
      refine g_ial (k0 := c) (n := 46) C hck hcs (j := q) (ix_n (by omega)) dX5_move_12 ?_
      refine g_val (y := nI (a q)) (hM1 q (by omega)) ?_
      refine g_ias (k0 := c2) (n := 46) C hc2k hc2s (j := q) (ix_n (by omega)) dX5_move_13 (fun σ2 hσ2 => ?_)
      refine g_iinc (v := nI (q + 1)) (lv' := [(2, .int (nI (q + 1))), (0, .ref (wA w c)), (1, .ref (wA w c2))]) C dX5_move_14 (by decide) rfl (nj_inc q) rfl ?_
      refine g_goto (tgt := 2) C dX5_move_17 rfl ?_
      exact g_lvp [1, 2, 0] rfl (ih2 (46 - (q + 1)) (by omega) (q + 1) σ2 rfl (by first | omega | assumption | rfl | grind) (fun j h => by rw [hσ2, up_at]; exact (Decidable.em (j = q)).elim (fun z => by rw [if_pos ⟨rfl, z⟩, z]) (fun z => by rw [if_neg (fun y => z y.2)]; exact h1 j (by omega))) (hF1.tr (show Fr (fun k => k = c2) σ1 σ2 by rw [hσ2]; exact Fr.up (S := fun k => k = c2) rfl) (fun _ z => z)))
  exact g_lvp [1, 2, 0] rfl (L2 (46 - 0) 0 σ rfl (by first | omega | assumption | rfl | grind) (fun j h => absurd h (Nat.not_lt_zero _)) (Fr.rf))
set_option maxRecDepth 100000 in
set_option maxHeartbeats 4000000 in
theorem ct_X5_worthOf (l : Launch) (w : WD) (hN : 54 ≤ wN w) (σ : SG) (c : Nat) (hck : c < wN w) (hcs : shp w c = aI w 46) (a : Row) (hM : Mr σ c a) (hB : Bd a) (e g : Nat) (he : e < 4) (hg : g < 5) : CtI l w yX5_worthOf cX5_worthOf 6 (some .int) 2 0 0 [.ref (wA w c), .int (nI e), .int (nI g)] σ (fun r τ => r = wJ a e g ∧ τ = σ) := by
  refine CtI.mk (by decide) (Nat.le_of_ble_eq_true rfl) ?_
  intro K C hr h0
  have r := RI.of hr h0
  clear hr h0
  show G l w K 0 [(0, .ref (wA w c)), (1, .int (nI e)), (2, .int (nI g))] [] σ
  obtain ⟨hBa, hB0, hB1, hB2, hB3, hB4, hB5, hB6, hB7, hBs, hBp, hBe⟩ := id hB
  have hBk := hBe e he
  obtain ⟨wb, hwb⟩ : ∃ q, q = a (30 + (4 * e) + 2) := ⟨_, rfl⟩
  have hwb9 : wb ≤ 9 := by rw [hwb]; exact hBk.2.2.1
  refine g_aload_n C dX5_worthOf_0 rfl rfl ?_
  refine g_bipush C dX5_worthOf_1 bp_30 ?_
  refine g_iconst C dX5_worthOf_3 ic_4 ?_
  refine g_iload_n C dX5_worthOf_4 rfl rfl ?_
  refine g_imulv (v := nI (4 * e)) C (nj_times 4 e) dX5_worthOf_5 ?_
  refine g_iaddv (v := nI (30 + (4 * e))) C (nj_plus 30 (4 * e)) dX5_worthOf_6 ?_
  refine g_ial (k0 := c) (n := 46) C hck hcs (j := 30 + (4 * e)) (ix_n (by omega)) dX5_worthOf_7 ?_
  refine g_val (y := nI (a (30 + (4 * e)))) (hM (30 + (4 * e)) (by omega)) ?_
  refine g_istore_n (lv' := [(3, .int (nI (a (30 + (4 * e))))), (0, .ref (wA w c)), (1, .int (nI e)), (2, .int (nI g))]) C dX5_worthOf_8 rfl (by decide) rfl ?_
  refine g_aload_n C dX5_worthOf_9 rfl rfl ?_
  refine g_bipush C dX5_worthOf_10 bp_30 ?_
  refine g_iconst C dX5_worthOf_12 ic_4 ?_
  refine g_iload_n C dX5_worthOf_13 rfl rfl ?_
  refine g_imulv (v := nI (4 * e)) C (nj_times 4 e) dX5_worthOf_14 ?_
  refine g_iaddv (v := nI (30 + (4 * e))) C (nj_plus 30 (4 * e)) dX5_worthOf_15 ?_
  refine g_iconst C dX5_worthOf_16 ic_2 ?_
  refine g_iaddv (v := nI ((30 + (4 * e)) + 2)) C (nj_plus (30 + (4 * e)) 2) dX5_worthOf_17 ?_
  refine g_ial (k0 := c) (n := 46) C hck hcs (j := (30 + (4 * e)) + 2) (ix_n (by omega)) dX5_worthOf_18 ?_
  refine g_val (y := nI wb) (by rw [hwb]; exact hM _ (by omega)) ?_
  refine g_istore (lv' := [(4, .int (nI wb)), (3, .int (nI (a (30 + (4 * e))))), (0, .ref (wA w c)), (1, .int (nI e)), (2, .int (nI g))]) C dX5_worthOf_19 (by decide) rfl ?_
  refine g_iload_n C dX5_worthOf_21 rfl rfl ?_
  by_cases s22_0 : nI (a (30 + (4 * e))) = 0
  · skip
    have ns22_0 : a (30 + (4 * e)) = 0 := (nj_eq (a := a (30 + (4 * e))) (b := 0) (by have := hBa (30 + (4 * e)); omega) (by have := hBa (30 + (4 * e)); omega)).mp s22_0
    refine g_tsw (v := 0) (tgt := 56) C dX5_worthOf_22 s22_0 (by decide) (by decide) rfl rfl ?_
    refine g_iconst C dX5_worthOf_56 ic_0 ?_
    refine g_iload C dX5_worthOf_57 rfl ?_
    refine g_iload_n C dX5_worthOf_59 rfl rfl ?_
    refine g_isubv (v := (nI wb) - (nI g)) C rfl dX5_worthOf_60 ?_
    refine g_max C ml_X5_68 st_Lib_Math_max ini_Math co_Lib_Math_max (by decide) (Nat.le_of_ble_eq_true rfl) dX5_worthOf_61 ?_
    refine g_val (y := nI (wb - g)) (nj_max0 (by omega) (by omega)) ?_
    refine g_iret C r rfl dX5_worthOf_64 ?_
    refine ⟨?_, rfl⟩
    clear r C
    try subst wy
    subst hwb
    simp only [wJ, wNt, eats]
    repeat first | rw [if_pos (by omega)] | rw [if_neg (by omega)]
    all_goals first | rfl | exact congrArg nI (by omega) | exact congrArg nI (show 0 = _ by omega)
  have ns22_0 : ¬ (a (30 + (4 * e)) = 0) := fun qq => s22_0 ((nj_eq (a := a (30 + (4 * e))) (b := 0) (by have := hBa (30 + (4 * e)); omega) (by have := hBa (30 + (4 * e)); omega)).mpr qq)
  by_cases s22_1 : nI (a (30 + (4 * e))) = 1
  · skip
    have ns22_1 : a (30 + (4 * e)) = 1 := (nj_eq (a := a (30 + (4 * e))) (b := 1) (by have := hBa (30 + (4 * e)); omega) (by have := hBa (30 + (4 * e)); omega)).mp s22_1
    refine g_tsw (v := 1) (tgt := 88) C dX5_worthOf_22 s22_1 (by decide) (by decide) rfl rfl ?_
    refine g_iload_n C dX5_worthOf_88 rfl rfl ?_
    refine g_iconst C dX5_worthOf_89 ic_1 ?_
    refine g_icmp_gt (tgt := 103) C dX5_worthOf_90 rfl (fun c90_1 => ?_) (fun c90_1 => ?_)
    · skip
      have n90_1 : 1 < g := (nj_lt (a := 1) (b := g) (by omega) (by omega)).mp c90_1
      refine g_iconst C dX5_worthOf_103 ic_m1 ?_
      refine g_iret C r rfl dX5_worthOf_104 ?_
      refine ⟨?_, rfl⟩
      clear r C
      try subst wy
      subst hwb
      simp only [wJ, wNt, eats]
      repeat first | rw [if_pos (by omega)] | rw [if_neg (by omega)]
      all_goals first | rfl | exact congrArg nI (by omega) | exact congrArg nI (show 0 = _ by omega)
    · skip
      have n90_1 : ¬ (1 < g) := fun qq => c90_1 ((nj_lt (a := 1) (b := g) (by omega) (by omega)).mpr qq)
      refine g_iload_n C dX5_worthOf_93 rfl rfl ?_
      refine g_iconst C dX5_worthOf_94 ic_1 ?_
      refine g_icmp_ne (tgt := 105) C dX5_worthOf_95 rfl (fun c95_2 => ?_) (fun c95_2 => ?_)
      · skip
        have n95_2 : ¬ (g = 1) := fun qq => c95_2 ((nj_eq (a := g) (b := 1) (by omega) (by omega)).mpr qq)
        refine g_iload_n C dX5_worthOf_105 rfl rfl ?_
        refine g_if_ne (tgt := 114) C dX5_worthOf_106 rfl (fun c106_3 => ?_) (fun c106_3 => ?_)
        · skip
          have n106_3 : ¬ (g = 0) := fun qq => c106_3 ((nj_eq (a := g) (b := 0) (by omega) (by omega)).mpr qq)
          refine g_iload C dX5_worthOf_114 rfl ?_
          refine g_iconst C dX5_worthOf_116 ic_2 ?_
          refine g_idivv (v := nI (wb / 2)) C (by decide) (nj_div2 (by omega)) dX5_worthOf_117 ?_
          refine g_nat (fun wy hwy => ?_)
          refine g_istore (lv' := [(5, .int (nI wy)), (4, .int (nI wb)), (3, .int (nI (a (30 + (4 * e))))), (0, .ref (wA w c)), (1, .int (nI e)), (2, .int (nI g))]) C dX5_worthOf_118 (by decide) rfl ?_
          refine g_iload_n C dX5_worthOf_120 rfl rfl ?_
          refine g_iconst C dX5_worthOf_121 ic_5 ?_
          refine g_icmp_ne (tgt := 146) C dX5_worthOf_122 rfl (fun c122_4 => ?_) (fun c122_4 => ?_)
          · skip
            have n122_4 : ¬ (a (30 + (4 * e)) = 5) := fun qq => c122_4 ((nj_eq (a := a (30 + (4 * e))) (b := 5) (by have := hBa (30 + (4 * e)); omega) (by have := hBa (30 + (4 * e)); omega)).mpr qq)
            refine g_iload C dX5_worthOf_146 rfl ?_
            refine g_iret C r rfl dX5_worthOf_148 ?_
            refine ⟨?_, rfl⟩
            clear r C
            try subst wy
            subst hwb
            simp only [wJ, wNt, eats]
            repeat first | rw [if_pos (by omega)] | rw [if_neg (by omega)]
            all_goals first | rfl | exact congrArg nI (by omega) | exact congrArg nI (show 0 = _ by omega)
          · skip
            have n122_4 : a (30 + (4 * e)) = 5 := (nj_eq (a := a (30 + (4 * e))) (b := 5) (by have := hBa (30 + (4 * e)); omega) (by have := hBa (30 + (4 * e)); omega)).mp c122_4
            refine g_aload_n C dX5_worthOf_125 rfl rfl ?_
            refine g_iconst C dX5_worthOf_126 ic_1 ?_
            refine g_ial (k0 := c) (n := 46) C hck hcs (j := 1) (by unfold ix; decide) dX5_worthOf_127 ?_
            refine g_val (y := nI (a 1)) (hM 1 (by omega)) ?_
            refine g_bipush C dX5_worthOf_128 bp_7 ?_
            refine g_iremv (v := nI (a 1 % 7)) C (by decide) (nj_rem (b := 7) (by have := hBa 1; omega) (by omega)) dX5_worthOf_130 ?_
            refine g_iconst C dX5_worthOf_131 ic_4 ?_
            refine g_icmp_le (tgt := 146) C dX5_worthOf_132 rfl (fun c132_5 => ?_) (fun c132_5 => ?_)
            · skip
              have n132_5 : a 1 % 7 ≤ 4 := (nj_le (a := a 1 % 7) (b := 4) (by have := hBa 1; omega) (by have := hBa 1; omega)).mp c132_5
              refine g_iload C dX5_worthOf_146 rfl ?_
              refine g_iret C r rfl dX5_worthOf_148 ?_
              refine ⟨?_, rfl⟩
              clear r C
              try subst wy
              subst hwb
              simp only [wJ, wNt, eats]
              repeat first | rw [if_pos (by omega)] | rw [if_neg (by omega)]
              all_goals first | rfl | exact congrArg nI (by omega) | exact congrArg nI (show 0 = _ by omega)
            · skip
              have n132_5 : ¬ (a 1 % 7 ≤ 4) := fun qq => c132_5 ((nj_le (a := a 1 % 7) (b := 4) (by have := hBa 1; omega) (by have := hBa 1; omega)).mpr qq)
              refine g_iconst C dX5_worthOf_135 ic_0 ?_
              refine g_iload C dX5_worthOf_136 rfl ?_
              refine g_iconst C dX5_worthOf_138 ic_1 ?_
              refine g_isubv (v := (nI wy) - 1) C rfl dX5_worthOf_139 ?_
              refine g_max C ml_X5_68 st_Lib_Math_max ini_Math co_Lib_Math_max (by decide) (Nat.le_of_ble_eq_true rfl) dX5_worthOf_140 ?_
              refine g_val (y := nI (wy - 1)) (nj_max0 (b := 1) (by omega) (by omega)) ?_
              refine g_goto (tgt := 148) C dX5_worthOf_143 rfl ?_
              refine g_iret C r rfl dX5_worthOf_148 ?_
              refine ⟨?_, rfl⟩
              clear r C
              try subst wy
              subst hwb
              simp only [wJ, wNt, eats]
              repeat first | rw [if_pos (by omega)] | rw [if_neg (by omega)]
              all_goals first | rfl | exact congrArg nI (by omega) | exact congrArg nI (show 0 = _ by omega)
        · skip
          have n106_3 : g = 0 := (nj_eq (a := g) (b := 0) (by omega) (by omega)).mp c106_3
          refine g_iload C dX5_worthOf_109 rfl ?_
          refine g_goto (tgt := 118) C dX5_worthOf_111 rfl ?_
          refine g_nat (fun wy hwy => ?_)
          refine g_istore (lv' := [(5, .int (nI wy)), (4, .int (nI wb)), (3, .int (nI (a (30 + (4 * e))))), (0, .ref (wA w c)), (1, .int (nI e)), (2, .int (nI g))]) C dX5_worthOf_118 (by decide) rfl ?_
          refine g_iload_n C dX5_worthOf_120 rfl rfl ?_
          refine g_iconst C dX5_worthOf_121 ic_5 ?_
          refine g_icmp_ne (tgt := 146) C dX5_worthOf_122 rfl (fun c122_6 => ?_) (fun c122_6 => ?_)
          · skip
            have n122_6 : ¬ (a (30 + (4 * e)) = 5) := fun qq => c122_6 ((nj_eq (a := a (30 + (4 * e))) (b := 5) (by have := hBa (30 + (4 * e)); omega) (by have := hBa (30 + (4 * e)); omega)).mpr qq)
            refine g_iload C dX5_worthOf_146 rfl ?_
            refine g_iret C r rfl dX5_worthOf_148 ?_
            refine ⟨?_, rfl⟩
            clear r C
            try subst wy
            subst hwb
            simp only [wJ, wNt, eats]
            repeat first | rw [if_pos (by omega)] | rw [if_neg (by omega)]
            all_goals first | rfl | exact congrArg nI (by omega) | exact congrArg nI (show 0 = _ by omega)
          · skip
            have n122_6 : a (30 + (4 * e)) = 5 := (nj_eq (a := a (30 + (4 * e))) (b := 5) (by have := hBa (30 + (4 * e)); omega) (by have := hBa (30 + (4 * e)); omega)).mp c122_6
            refine g_aload_n C dX5_worthOf_125 rfl rfl ?_
            refine g_iconst C dX5_worthOf_126 ic_1 ?_
            refine g_ial (k0 := c) (n := 46) C hck hcs (j := 1) (by unfold ix; decide) dX5_worthOf_127 ?_
            refine g_val (y := nI (a 1)) (hM 1 (by omega)) ?_
            refine g_bipush C dX5_worthOf_128 bp_7 ?_
            refine g_iremv (v := nI (a 1 % 7)) C (by decide) (nj_rem (b := 7) (by have := hBa 1; omega) (by omega)) dX5_worthOf_130 ?_
            refine g_iconst C dX5_worthOf_131 ic_4 ?_
            refine g_icmp_le (tgt := 146) C dX5_worthOf_132 rfl (fun c132_7 => ?_) (fun c132_7 => ?_)
            · skip
              have n132_7 : a 1 % 7 ≤ 4 := (nj_le (a := a 1 % 7) (b := 4) (by have := hBa 1; omega) (by have := hBa 1; omega)).mp c132_7
              refine g_iload C dX5_worthOf_146 rfl ?_
              refine g_iret C r rfl dX5_worthOf_148 ?_
              refine ⟨?_, rfl⟩
              clear r C
              try subst wy
              subst hwb
              simp only [wJ, wNt, eats]
              repeat first | rw [if_pos (by omega)] | rw [if_neg (by omega)]
              all_goals first | rfl | exact congrArg nI (by omega) | exact congrArg nI (show 0 = _ by omega)
            · skip
              have n132_7 : ¬ (a 1 % 7 ≤ 4) := fun qq => c132_7 ((nj_le (a := a 1 % 7) (b := 4) (by have := hBa 1; omega) (by have := hBa 1; omega)).mpr qq)
              refine g_iconst C dX5_worthOf_135 ic_0 ?_
              refine g_iload C dX5_worthOf_136 rfl ?_
              refine g_iconst C dX5_worthOf_138 ic_1 ?_
              refine g_isubv (v := (nI wy) - 1) C rfl dX5_worthOf_139 ?_
              refine g_max C ml_X5_68 st_Lib_Math_max ini_Math co_Lib_Math_max (by decide) (Nat.le_of_ble_eq_true rfl) dX5_worthOf_140 ?_
              refine g_val (y := nI (wy - 1)) (nj_max0 (b := 1) (by omega) (by omega)) ?_
              refine g_goto (tgt := 148) C dX5_worthOf_143 rfl ?_
              refine g_iret C r rfl dX5_worthOf_148 ?_
              refine ⟨?_, rfl⟩
              clear r C
              try subst wy
              subst hwb
              simp only [wJ, wNt, eats]
              repeat first | rw [if_pos (by omega)] | rw [if_neg (by omega)]
              all_goals first | rfl | exact congrArg nI (by omega) | exact congrArg nI (show 0 = _ by omega)
      · skip
        have n95_2 : g = 1 := (nj_eq (a := g) (b := 1) (by omega) (by omega)).mp c95_2
        refine g_iload_n C dX5_worthOf_98 rfl rfl ?_
        refine g_iconst C dX5_worthOf_99 ic_1 ?_
        refine g_icmp_ne (tgt := 105) C dX5_worthOf_100 rfl (fun c100_8 => ?_) (fun c100_8 => ?_)
        · skip
          have n100_8 : ¬ (a (30 + (4 * e)) = 1) := fun qq => c100_8 ((nj_eq (a := a (30 + (4 * e))) (b := 1) (by have := hBa (30 + (4 * e)); omega) (by have := hBa (30 + (4 * e)); omega)).mpr qq)
          refine g_iload_n C dX5_worthOf_105 rfl rfl ?_
          refine g_if_ne (tgt := 114) C dX5_worthOf_106 rfl (fun c106_9 => ?_) (fun c106_9 => ?_)
          · skip
            have n106_9 : ¬ (g = 0) := fun qq => c106_9 ((nj_eq (a := g) (b := 0) (by omega) (by omega)).mpr qq)
            refine g_iload C dX5_worthOf_114 rfl ?_
            refine g_iconst C dX5_worthOf_116 ic_2 ?_
            refine g_idivv (v := nI (wb / 2)) C (by decide) (nj_div2 (by omega)) dX5_worthOf_117 ?_
            refine g_nat (fun wy hwy => ?_)
            refine g_istore (lv' := [(5, .int (nI wy)), (4, .int (nI wb)), (3, .int (nI (a (30 + (4 * e))))), (0, .ref (wA w c)), (1, .int (nI e)), (2, .int (nI g))]) C dX5_worthOf_118 (by decide) rfl ?_
            refine g_iload_n C dX5_worthOf_120 rfl rfl ?_
            refine g_iconst C dX5_worthOf_121 ic_5 ?_
            refine g_icmp_ne (tgt := 146) C dX5_worthOf_122 rfl (fun c122_10 => ?_) (fun c122_10 => ?_)
            · skip
              have n122_10 : ¬ (a (30 + (4 * e)) = 5) := fun qq => c122_10 ((nj_eq (a := a (30 + (4 * e))) (b := 5) (by have := hBa (30 + (4 * e)); omega) (by have := hBa (30 + (4 * e)); omega)).mpr qq)
              refine g_iload C dX5_worthOf_146 rfl ?_
              refine g_iret C r rfl dX5_worthOf_148 ?_
              refine ⟨?_, rfl⟩
              clear r C
              try subst wy
              subst hwb
              simp only [wJ, wNt, eats]
              repeat first | rw [if_pos (by omega)] | rw [if_neg (by omega)]
              all_goals first | rfl | exact congrArg nI (by omega) | exact congrArg nI (show 0 = _ by omega)
            · skip
              have n122_10 : a (30 + (4 * e)) = 5 := (nj_eq (a := a (30 + (4 * e))) (b := 5) (by have := hBa (30 + (4 * e)); omega) (by have := hBa (30 + (4 * e)); omega)).mp c122_10
              refine g_aload_n C dX5_worthOf_125 rfl rfl ?_
              refine g_iconst C dX5_worthOf_126 ic_1 ?_
              refine g_ial (k0 := c) (n := 46) C hck hcs (j := 1) (by unfold ix; decide) dX5_worthOf_127 ?_
              refine g_val (y := nI (a 1)) (hM 1 (by omega)) ?_
              refine g_bipush C dX5_worthOf_128 bp_7 ?_
              refine g_iremv (v := nI (a 1 % 7)) C (by decide) (nj_rem (b := 7) (by have := hBa 1; omega) (by omega)) dX5_worthOf_130 ?_
              refine g_iconst C dX5_worthOf_131 ic_4 ?_
              refine g_icmp_le (tgt := 146) C dX5_worthOf_132 rfl (fun c132_11 => ?_) (fun c132_11 => ?_)
              · skip
                have n132_11 : a 1 % 7 ≤ 4 := (nj_le (a := a 1 % 7) (b := 4) (by have := hBa 1; omega) (by have := hBa 1; omega)).mp c132_11
                refine g_iload C dX5_worthOf_146 rfl ?_
                refine g_iret C r rfl dX5_worthOf_148 ?_
                refine ⟨?_, rfl⟩
                clear r C
                try subst wy
                subst hwb
                simp only [wJ, wNt, eats]
                repeat first | rw [if_pos (by omega)] | rw [if_neg (by omega)]
                all_goals first | rfl | exact congrArg nI (by omega) | exact congrArg nI (show 0 = _ by omega)
              · skip
                have n132_11 : ¬ (a 1 % 7 ≤ 4) := fun qq => c132_11 ((nj_le (a := a 1 % 7) (b := 4) (by have := hBa 1; omega) (by have := hBa 1; omega)).mpr qq)
                refine g_iconst C dX5_worthOf_135 ic_0 ?_
                refine g_iload C dX5_worthOf_136 rfl ?_
                refine g_iconst C dX5_worthOf_138 ic_1 ?_
                refine g_isubv (v := (nI wy) - 1) C rfl dX5_worthOf_139 ?_
                refine g_max C ml_X5_68 st_Lib_Math_max ini_Math co_Lib_Math_max (by decide) (Nat.le_of_ble_eq_true rfl) dX5_worthOf_140 ?_
                refine g_val (y := nI (wy - 1)) (nj_max0 (b := 1) (by omega) (by omega)) ?_
                refine g_goto (tgt := 148) C dX5_worthOf_143 rfl ?_
                refine g_iret C r rfl dX5_worthOf_148 ?_
                refine ⟨?_, rfl⟩
                clear r C
                try subst wy
                subst hwb
                simp only [wJ, wNt, eats]
                repeat first | rw [if_pos (by omega)] | rw [if_neg (by omega)]
                all_goals first | rfl | exact congrArg nI (by omega) | exact congrArg nI (show 0 = _ by omega)
          · skip
            have n106_9 : g = 0 := (nj_eq (a := g) (b := 0) (by omega) (by omega)).mp c106_9
            refine g_iload C dX5_worthOf_109 rfl ?_
            refine g_goto (tgt := 118) C dX5_worthOf_111 rfl ?_
            refine g_nat (fun wy hwy => ?_)
            refine g_istore (lv' := [(5, .int (nI wy)), (4, .int (nI wb)), (3, .int (nI (a (30 + (4 * e))))), (0, .ref (wA w c)), (1, .int (nI e)), (2, .int (nI g))]) C dX5_worthOf_118 (by decide) rfl ?_
            refine g_iload_n C dX5_worthOf_120 rfl rfl ?_
            refine g_iconst C dX5_worthOf_121 ic_5 ?_
            refine g_icmp_ne (tgt := 146) C dX5_worthOf_122 rfl (fun c122_12 => ?_) (fun c122_12 => ?_)
            · skip
              have n122_12 : ¬ (a (30 + (4 * e)) = 5) := fun qq => c122_12 ((nj_eq (a := a (30 + (4 * e))) (b := 5) (by have := hBa (30 + (4 * e)); omega) (by have := hBa (30 + (4 * e)); omega)).mpr qq)
              refine g_iload C dX5_worthOf_146 rfl ?_
              refine g_iret C r rfl dX5_worthOf_148 ?_
              refine ⟨?_, rfl⟩
              clear r C
              try subst wy
              subst hwb
              simp only [wJ, wNt, eats]
              repeat first | rw [if_pos (by omega)] | rw [if_neg (by omega)]
              all_goals first | rfl | exact congrArg nI (by omega) | exact congrArg nI (show 0 = _ by omega)
            · skip
              have n122_12 : a (30 + (4 * e)) = 5 := (nj_eq (a := a (30 + (4 * e))) (b := 5) (by have := hBa (30 + (4 * e)); omega) (by have := hBa (30 + (4 * e)); omega)).mp c122_12
              refine g_aload_n C dX5_worthOf_125 rfl rfl ?_
              refine g_iconst C dX5_worthOf_126 ic_1 ?_
              refine g_ial (k0 := c) (n := 46) C hck hcs (j := 1) (by unfold ix; decide) dX5_worthOf_127 ?_
              refine g_val (y := nI (a 1)) (hM 1 (by omega)) ?_
              refine g_bipush C dX5_worthOf_128 bp_7 ?_
              refine g_iremv (v := nI (a 1 % 7)) C (by decide) (nj_rem (b := 7) (by have := hBa 1; omega) (by omega)) dX5_worthOf_130 ?_
              refine g_iconst C dX5_worthOf_131 ic_4 ?_
              refine g_icmp_le (tgt := 146) C dX5_worthOf_132 rfl (fun c132_13 => ?_) (fun c132_13 => ?_)
              · skip
                have n132_13 : a 1 % 7 ≤ 4 := (nj_le (a := a 1 % 7) (b := 4) (by have := hBa 1; omega) (by have := hBa 1; omega)).mp c132_13
                refine g_iload C dX5_worthOf_146 rfl ?_
                refine g_iret C r rfl dX5_worthOf_148 ?_
                refine ⟨?_, rfl⟩
                clear r C
                try subst wy
                subst hwb
                simp only [wJ, wNt, eats]
                repeat first | rw [if_pos (by omega)] | rw [if_neg (by omega)]
                all_goals first | rfl | exact congrArg nI (by omega) | exact congrArg nI (show 0 = _ by omega)
              · skip
                have n132_13 : ¬ (a 1 % 7 ≤ 4) := fun qq => c132_13 ((nj_le (a := a 1 % 7) (b := 4) (by have := hBa 1; omega) (by have := hBa 1; omega)).mpr qq)
                refine g_iconst C dX5_worthOf_135 ic_0 ?_
                refine g_iload C dX5_worthOf_136 rfl ?_
                refine g_iconst C dX5_worthOf_138 ic_1 ?_
                refine g_isubv (v := (nI wy) - 1) C rfl dX5_worthOf_139 ?_
                refine g_max C ml_X5_68 st_Lib_Math_max ini_Math co_Lib_Math_max (by decide) (Nat.le_of_ble_eq_true rfl) dX5_worthOf_140 ?_
                refine g_val (y := nI (wy - 1)) (nj_max0 (b := 1) (by omega) (by omega)) ?_
                refine g_goto (tgt := 148) C dX5_worthOf_143 rfl ?_
                refine g_iret C r rfl dX5_worthOf_148 ?_
                refine ⟨?_, rfl⟩
                clear r C
                try subst wy
                subst hwb
                simp only [wJ, wNt, eats]
                repeat first | rw [if_pos (by omega)] | rw [if_neg (by omega)]
                all_goals first | rfl | exact congrArg nI (by omega) | exact congrArg nI (show 0 = _ by omega)
        · skip
          have n100_8 : a (30 + (4 * e)) = 1 := (nj_eq (a := a (30 + (4 * e))) (b := 1) (by have := hBa (30 + (4 * e)); omega) (by have := hBa (30 + (4 * e)); omega)).mp c100_8
          refine g_iconst C dX5_worthOf_103 ic_m1 ?_
          refine g_iret C r rfl dX5_worthOf_104 ?_
          refine ⟨?_, rfl⟩
          clear r C
          try subst wy
          subst hwb
          simp only [wJ, wNt, eats]
          repeat first | rw [if_pos (by omega)] | rw [if_neg (by omega)]
          all_goals first | rfl | exact congrArg nI (by omega) | exact congrArg nI (show 0 = _ by omega)
  have ns22_1 : ¬ (a (30 + (4 * e)) = 1) := fun qq => s22_1 ((nj_eq (a := a (30 + (4 * e))) (b := 1) (by have := hBa (30 + (4 * e)); omega) (by have := hBa (30 + (4 * e)); omega)).mpr qq)
  by_cases s22_2 : nI (a (30 + (4 * e))) = 2
  · skip
    have ns22_2 : a (30 + (4 * e)) = 2 := (nj_eq (a := a (30 + (4 * e))) (b := 2) (by have := hBa (30 + (4 * e)); omega) (by have := hBa (30 + (4 * e)); omega)).mp s22_2
    refine g_tsw (v := 2) (tgt := 65) C dX5_worthOf_22 s22_2 (by decide) (by decide) rfl rfl ?_
    refine g_iload_n C dX5_worthOf_65 rfl rfl ?_
    refine g_iconst C dX5_worthOf_66 ic_2 ?_
    refine g_icmp_le (tgt := 77) C dX5_worthOf_67 rfl (fun c67_14 => ?_) (fun c67_14 => ?_)
    · skip
      have n67_14 : g ≤ 2 := (nj_le (a := g) (b := 2) (by omega) (by omega)).mp c67_14
      refine g_iconst C dX5_worthOf_77 ic_0 ?_
      refine g_iload C dX5_worthOf_78 rfl ?_
      refine g_iload_n C dX5_worthOf_80 rfl rfl ?_
      refine g_isubv (v := (nI wb) - (nI g)) C rfl dX5_worthOf_81 ?_
      refine g_max C ml_X5_68 st_Lib_Math_max ini_Math co_Lib_Math_max (by decide) (Nat.le_of_ble_eq_true rfl) dX5_worthOf_82 ?_
      refine g_val (y := nI (wb - g)) (nj_max0 (by omega) (by omega)) ?_
      refine g_iret C r rfl dX5_worthOf_85 ?_
      refine ⟨?_, rfl⟩
      clear r C
      try subst wy
      subst hwb
      simp only [wJ, wNt, eats]
      repeat first | rw [if_pos (by omega)] | rw [if_neg (by omega)]
      all_goals first | rfl | exact congrArg nI (by omega) | exact congrArg nI (show 0 = _ by omega)
    · skip
      have n67_14 : ¬ (g ≤ 2) := fun qq => c67_14 ((nj_le (a := g) (b := 2) (by omega) (by omega)).mpr qq)
      refine g_iload C dX5_worthOf_70 rfl ?_
      refine g_iconst C dX5_worthOf_72 ic_1 ?_
      refine g_iaddv (v := nI (wb + 1)) C (nj_plus wb 1) dX5_worthOf_73 ?_
      refine g_goto (tgt := 85) C dX5_worthOf_74 rfl ?_
      refine g_iret C r rfl dX5_worthOf_85 ?_
      refine ⟨?_, rfl⟩
      clear r C
      try subst wy
      subst hwb
      simp only [wJ, wNt, eats]
      repeat first | rw [if_pos (by omega)] | rw [if_neg (by omega)]
      all_goals first | rfl | exact congrArg nI (by omega) | exact congrArg nI (show 0 = _ by omega)
  have ns22_2 : ¬ (a (30 + (4 * e)) = 2) := fun qq => s22_2 ((nj_eq (a := a (30 + (4 * e))) (b := 2) (by have := hBa (30 + (4 * e)); omega) (by have := hBa (30 + (4 * e)); omega)).mpr qq)
  by_cases s22_3 : nI (a (30 + (4 * e))) = 3
  · skip
    have ns22_3 : a (30 + (4 * e)) = 3 := (nj_eq (a := a (30 + (4 * e))) (b := 3) (by have := hBa (30 + (4 * e)); omega) (by have := hBa (30 + (4 * e)); omega)).mp s22_3
    refine g_tsw (v := 3) (tgt := 88) C dX5_worthOf_22 s22_3 (by decide) (by decide) rfl rfl ?_
    refine g_iload_n C dX5_worthOf_88 rfl rfl ?_
    refine g_iconst C dX5_worthOf_89 ic_1 ?_
    refine g_icmp_gt (tgt := 103) C dX5_worthOf_90 rfl (fun c90_15 => ?_) (fun c90_15 => ?_)
    · skip
      have n90_15 : 1 < g := (nj_lt (a := 1) (b := g) (by omega) (by omega)).mp c90_15
      refine g_iconst C dX5_worthOf_103 ic_m1 ?_
      refine g_iret C r rfl dX5_worthOf_104 ?_
      refine ⟨?_, rfl⟩
      clear r C
      try subst wy
      subst hwb
      simp only [wJ, wNt, eats]
      repeat first | rw [if_pos (by omega)] | rw [if_neg (by omega)]
      all_goals first | rfl | exact congrArg nI (by omega) | exact congrArg nI (show 0 = _ by omega)
    · skip
      have n90_15 : ¬ (1 < g) := fun qq => c90_15 ((nj_lt (a := 1) (b := g) (by omega) (by omega)).mpr qq)
      refine g_iload_n C dX5_worthOf_93 rfl rfl ?_
      refine g_iconst C dX5_worthOf_94 ic_1 ?_
      refine g_icmp_ne (tgt := 105) C dX5_worthOf_95 rfl (fun c95_16 => ?_) (fun c95_16 => ?_)
      · skip
        have n95_16 : ¬ (g = 1) := fun qq => c95_16 ((nj_eq (a := g) (b := 1) (by omega) (by omega)).mpr qq)
        refine g_iload_n C dX5_worthOf_105 rfl rfl ?_
        refine g_if_ne (tgt := 114) C dX5_worthOf_106 rfl (fun c106_17 => ?_) (fun c106_17 => ?_)
        · skip
          have n106_17 : ¬ (g = 0) := fun qq => c106_17 ((nj_eq (a := g) (b := 0) (by omega) (by omega)).mpr qq)
          refine g_iload C dX5_worthOf_114 rfl ?_
          refine g_iconst C dX5_worthOf_116 ic_2 ?_
          refine g_idivv (v := nI (wb / 2)) C (by decide) (nj_div2 (by omega)) dX5_worthOf_117 ?_
          refine g_nat (fun wy hwy => ?_)
          refine g_istore (lv' := [(5, .int (nI wy)), (4, .int (nI wb)), (3, .int (nI (a (30 + (4 * e))))), (0, .ref (wA w c)), (1, .int (nI e)), (2, .int (nI g))]) C dX5_worthOf_118 (by decide) rfl ?_
          refine g_iload_n C dX5_worthOf_120 rfl rfl ?_
          refine g_iconst C dX5_worthOf_121 ic_5 ?_
          refine g_icmp_ne (tgt := 146) C dX5_worthOf_122 rfl (fun c122_18 => ?_) (fun c122_18 => ?_)
          · skip
            have n122_18 : ¬ (a (30 + (4 * e)) = 5) := fun qq => c122_18 ((nj_eq (a := a (30 + (4 * e))) (b := 5) (by have := hBa (30 + (4 * e)); omega) (by have := hBa (30 + (4 * e)); omega)).mpr qq)
            refine g_iload C dX5_worthOf_146 rfl ?_
            refine g_iret C r rfl dX5_worthOf_148 ?_
            refine ⟨?_, rfl⟩
            clear r C
            try subst wy
            subst hwb
            simp only [wJ, wNt, eats]
            repeat first | rw [if_pos (by omega)] | rw [if_neg (by omega)]
            all_goals first | rfl | exact congrArg nI (by omega) | exact congrArg nI (show 0 = _ by omega)
          · skip
            have n122_18 : a (30 + (4 * e)) = 5 := (nj_eq (a := a (30 + (4 * e))) (b := 5) (by have := hBa (30 + (4 * e)); omega) (by have := hBa (30 + (4 * e)); omega)).mp c122_18
            refine g_aload_n C dX5_worthOf_125 rfl rfl ?_
            refine g_iconst C dX5_worthOf_126 ic_1 ?_
            refine g_ial (k0 := c) (n := 46) C hck hcs (j := 1) (by unfold ix; decide) dX5_worthOf_127 ?_
            refine g_val (y := nI (a 1)) (hM 1 (by omega)) ?_
            refine g_bipush C dX5_worthOf_128 bp_7 ?_
            refine g_iremv (v := nI (a 1 % 7)) C (by decide) (nj_rem (b := 7) (by have := hBa 1; omega) (by omega)) dX5_worthOf_130 ?_
            refine g_iconst C dX5_worthOf_131 ic_4 ?_
            refine g_icmp_le (tgt := 146) C dX5_worthOf_132 rfl (fun c132_19 => ?_) (fun c132_19 => ?_)
            · skip
              have n132_19 : a 1 % 7 ≤ 4 := (nj_le (a := a 1 % 7) (b := 4) (by have := hBa 1; omega) (by have := hBa 1; omega)).mp c132_19
              refine g_iload C dX5_worthOf_146 rfl ?_
              refine g_iret C r rfl dX5_worthOf_148 ?_
              refine ⟨?_, rfl⟩
              clear r C
              try subst wy
              subst hwb
              simp only [wJ, wNt, eats]
              repeat first | rw [if_pos (by omega)] | rw [if_neg (by omega)]
              all_goals first | rfl | exact congrArg nI (by omega) | exact congrArg nI (show 0 = _ by omega)
            · skip
              have n132_19 : ¬ (a 1 % 7 ≤ 4) := fun qq => c132_19 ((nj_le (a := a 1 % 7) (b := 4) (by have := hBa 1; omega) (by have := hBa 1; omega)).mpr qq)
              refine g_iconst C dX5_worthOf_135 ic_0 ?_
              refine g_iload C dX5_worthOf_136 rfl ?_
              refine g_iconst C dX5_worthOf_138 ic_1 ?_
              refine g_isubv (v := (nI wy) - 1) C rfl dX5_worthOf_139 ?_
              refine g_max C ml_X5_68 st_Lib_Math_max ini_Math co_Lib_Math_max (by decide) (Nat.le_of_ble_eq_true rfl) dX5_worthOf_140 ?_
              refine g_val (y := nI (wy - 1)) (nj_max0 (b := 1) (by omega) (by omega)) ?_
              refine g_goto (tgt := 148) C dX5_worthOf_143 rfl ?_
              refine g_iret C r rfl dX5_worthOf_148 ?_
              refine ⟨?_, rfl⟩
              clear r C
              try subst wy
              subst hwb
              simp only [wJ, wNt, eats]
              repeat first | rw [if_pos (by omega)] | rw [if_neg (by omega)]
              all_goals first | rfl | exact congrArg nI (by omega) | exact congrArg nI (show 0 = _ by omega)
        · skip
          have n106_17 : g = 0 := (nj_eq (a := g) (b := 0) (by omega) (by omega)).mp c106_17
          refine g_iload C dX5_worthOf_109 rfl ?_
          refine g_goto (tgt := 118) C dX5_worthOf_111 rfl ?_
          refine g_nat (fun wy hwy => ?_)
          refine g_istore (lv' := [(5, .int (nI wy)), (4, .int (nI wb)), (3, .int (nI (a (30 + (4 * e))))), (0, .ref (wA w c)), (1, .int (nI e)), (2, .int (nI g))]) C dX5_worthOf_118 (by decide) rfl ?_
          refine g_iload_n C dX5_worthOf_120 rfl rfl ?_
          refine g_iconst C dX5_worthOf_121 ic_5 ?_
          refine g_icmp_ne (tgt := 146) C dX5_worthOf_122 rfl (fun c122_20 => ?_) (fun c122_20 => ?_)
          · skip
            have n122_20 : ¬ (a (30 + (4 * e)) = 5) := fun qq => c122_20 ((nj_eq (a := a (30 + (4 * e))) (b := 5) (by have := hBa (30 + (4 * e)); omega) (by have := hBa (30 + (4 * e)); omega)).mpr qq)
            refine g_iload C dX5_worthOf_146 rfl ?_
            refine g_iret C r rfl dX5_worthOf_148 ?_
            refine ⟨?_, rfl⟩
            clear r C
            try subst wy
            subst hwb
            simp only [wJ, wNt, eats]
            repeat first | rw [if_pos (by omega)] | rw [if_neg (by omega)]
            all_goals first | rfl | exact congrArg nI (by omega) | exact congrArg nI (show 0 = _ by omega)
          · skip
            have n122_20 : a (30 + (4 * e)) = 5 := (nj_eq (a := a (30 + (4 * e))) (b := 5) (by have := hBa (30 + (4 * e)); omega) (by have := hBa (30 + (4 * e)); omega)).mp c122_20
            refine g_aload_n C dX5_worthOf_125 rfl rfl ?_
            refine g_iconst C dX5_worthOf_126 ic_1 ?_
            refine g_ial (k0 := c) (n := 46) C hck hcs (j := 1) (by unfold ix; decide) dX5_worthOf_127 ?_
            refine g_val (y := nI (a 1)) (hM 1 (by omega)) ?_
            refine g_bipush C dX5_worthOf_128 bp_7 ?_
            refine g_iremv (v := nI (a 1 % 7)) C (by decide) (nj_rem (b := 7) (by have := hBa 1; omega) (by omega)) dX5_worthOf_130 ?_
            refine g_iconst C dX5_worthOf_131 ic_4 ?_
            refine g_icmp_le (tgt := 146) C dX5_worthOf_132 rfl (fun c132_21 => ?_) (fun c132_21 => ?_)
            · skip
              have n132_21 : a 1 % 7 ≤ 4 := (nj_le (a := a 1 % 7) (b := 4) (by have := hBa 1; omega) (by have := hBa 1; omega)).mp c132_21
              refine g_iload C dX5_worthOf_146 rfl ?_
              refine g_iret C r rfl dX5_worthOf_148 ?_
              refine ⟨?_, rfl⟩
              clear r C
              try subst wy
              subst hwb
              simp only [wJ, wNt, eats]
              repeat first | rw [if_pos (by omega)] | rw [if_neg (by omega)]
              all_goals first | rfl | exact congrArg nI (by omega) | exact congrArg nI (show 0 = _ by omega)
            · skip
              have n132_21 : ¬ (a 1 % 7 ≤ 4) := fun qq => c132_21 ((nj_le (a := a 1 % 7) (b := 4) (by have := hBa 1; omega) (by have := hBa 1; omega)).mpr qq)
              refine g_iconst C dX5_worthOf_135 ic_0 ?_
              refine g_iload C dX5_worthOf_136 rfl ?_
              refine g_iconst C dX5_worthOf_138 ic_1 ?_
              refine g_isubv (v := (nI wy) - 1) C rfl dX5_worthOf_139 ?_
              refine g_max C ml_X5_68 st_Lib_Math_max ini_Math co_Lib_Math_max (by decide) (Nat.le_of_ble_eq_true rfl) dX5_worthOf_140 ?_
              refine g_val (y := nI (wy - 1)) (nj_max0 (b := 1) (by omega) (by omega)) ?_
              refine g_goto (tgt := 148) C dX5_worthOf_143 rfl ?_
              refine g_iret C r rfl dX5_worthOf_148 ?_
              refine ⟨?_, rfl⟩
              clear r C
              try subst wy
              subst hwb
              simp only [wJ, wNt, eats]
              repeat first | rw [if_pos (by omega)] | rw [if_neg (by omega)]
              all_goals first | rfl | exact congrArg nI (by omega) | exact congrArg nI (show 0 = _ by omega)
      · skip
        have n95_16 : g = 1 := (nj_eq (a := g) (b := 1) (by omega) (by omega)).mp c95_16
        refine g_iload_n C dX5_worthOf_98 rfl rfl ?_
        refine g_iconst C dX5_worthOf_99 ic_1 ?_
        refine g_icmp_ne (tgt := 105) C dX5_worthOf_100 rfl (fun c100_22 => ?_) (fun c100_22 => ?_)
        · skip
          have n100_22 : ¬ (a (30 + (4 * e)) = 1) := fun qq => c100_22 ((nj_eq (a := a (30 + (4 * e))) (b := 1) (by have := hBa (30 + (4 * e)); omega) (by have := hBa (30 + (4 * e)); omega)).mpr qq)
          refine g_iload_n C dX5_worthOf_105 rfl rfl ?_
          refine g_if_ne (tgt := 114) C dX5_worthOf_106 rfl (fun c106_23 => ?_) (fun c106_23 => ?_)
          · skip
            have n106_23 : ¬ (g = 0) := fun qq => c106_23 ((nj_eq (a := g) (b := 0) (by omega) (by omega)).mpr qq)
            refine g_iload C dX5_worthOf_114 rfl ?_
            refine g_iconst C dX5_worthOf_116 ic_2 ?_
            refine g_idivv (v := nI (wb / 2)) C (by decide) (nj_div2 (by omega)) dX5_worthOf_117 ?_
            refine g_nat (fun wy hwy => ?_)
            refine g_istore (lv' := [(5, .int (nI wy)), (4, .int (nI wb)), (3, .int (nI (a (30 + (4 * e))))), (0, .ref (wA w c)), (1, .int (nI e)), (2, .int (nI g))]) C dX5_worthOf_118 (by decide) rfl ?_
            refine g_iload_n C dX5_worthOf_120 rfl rfl ?_
            refine g_iconst C dX5_worthOf_121 ic_5 ?_
            refine g_icmp_ne (tgt := 146) C dX5_worthOf_122 rfl (fun c122_24 => ?_) (fun c122_24 => ?_)
            · skip
              have n122_24 : ¬ (a (30 + (4 * e)) = 5) := fun qq => c122_24 ((nj_eq (a := a (30 + (4 * e))) (b := 5) (by have := hBa (30 + (4 * e)); omega) (by have := hBa (30 + (4 * e)); omega)).mpr qq)
              refine g_iload C dX5_worthOf_146 rfl ?_
              refine g_iret C r rfl dX5_worthOf_148 ?_
              refine ⟨?_, rfl⟩
              clear r C
              try subst wy
              subst hwb
              simp only [wJ, wNt, eats]
              repeat first | rw [if_pos (by omega)] | rw [if_neg (by omega)]
              all_goals first | rfl | exact congrArg nI (by omega) | exact congrArg nI (show 0 = _ by omega)
            · skip
              have n122_24 : a (30 + (4 * e)) = 5 := (nj_eq (a := a (30 + (4 * e))) (b := 5) (by have := hBa (30 + (4 * e)); omega) (by have := hBa (30 + (4 * e)); omega)).mp c122_24
              refine g_aload_n C dX5_worthOf_125 rfl rfl ?_
              refine g_iconst C dX5_worthOf_126 ic_1 ?_
              refine g_ial (k0 := c) (n := 46) C hck hcs (j := 1) (by unfold ix; decide) dX5_worthOf_127 ?_
              refine g_val (y := nI (a 1)) (hM 1 (by omega)) ?_
              refine g_bipush C dX5_worthOf_128 bp_7 ?_
              refine g_iremv (v := nI (a 1 % 7)) C (by decide) (nj_rem (b := 7) (by have := hBa 1; omega) (by omega)) dX5_worthOf_130 ?_
              refine g_iconst C dX5_worthOf_131 ic_4 ?_
              refine g_icmp_le (tgt := 146) C dX5_worthOf_132 rfl (fun c132_25 => ?_) (fun c132_25 => ?_)
              · skip
                have n132_25 : a 1 % 7 ≤ 4 := (nj_le (a := a 1 % 7) (b := 4) (by have := hBa 1; omega) (by have := hBa 1; omega)).mp c132_25
                refine g_iload C dX5_worthOf_146 rfl ?_
                refine g_iret C r rfl dX5_worthOf_148 ?_
                refine ⟨?_, rfl⟩
                clear r C
                try subst wy
                subst hwb
                simp only [wJ, wNt, eats]
                repeat first | rw [if_pos (by omega)] | rw [if_neg (by omega)]
                all_goals first | rfl | exact congrArg nI (by omega) | exact congrArg nI (show 0 = _ by omega)
              · skip
                have n132_25 : ¬ (a 1 % 7 ≤ 4) := fun qq => c132_25 ((nj_le (a := a 1 % 7) (b := 4) (by have := hBa 1; omega) (by have := hBa 1; omega)).mpr qq)
                refine g_iconst C dX5_worthOf_135 ic_0 ?_
                refine g_iload C dX5_worthOf_136 rfl ?_
                refine g_iconst C dX5_worthOf_138 ic_1 ?_
                refine g_isubv (v := (nI wy) - 1) C rfl dX5_worthOf_139 ?_
                refine g_max C ml_X5_68 st_Lib_Math_max ini_Math co_Lib_Math_max (by decide) (Nat.le_of_ble_eq_true rfl) dX5_worthOf_140 ?_
                refine g_val (y := nI (wy - 1)) (nj_max0 (b := 1) (by omega) (by omega)) ?_
                refine g_goto (tgt := 148) C dX5_worthOf_143 rfl ?_
                refine g_iret C r rfl dX5_worthOf_148 ?_
                refine ⟨?_, rfl⟩
                clear r C
                try subst wy
                subst hwb
                simp only [wJ, wNt, eats]
                repeat first | rw [if_pos (by omega)] | rw [if_neg (by omega)]
                all_goals first | rfl | exact congrArg nI (by omega) | exact congrArg nI (show 0 = _ by omega)
          · skip
            have n106_23 : g = 0 := (nj_eq (a := g) (b := 0) (by omega) (by omega)).mp c106_23
            refine g_iload C dX5_worthOf_109 rfl ?_
            refine g_goto (tgt := 118) C dX5_worthOf_111 rfl ?_
            refine g_nat (fun wy hwy => ?_)
            refine g_istore (lv' := [(5, .int (nI wy)), (4, .int (nI wb)), (3, .int (nI (a (30 + (4 * e))))), (0, .ref (wA w c)), (1, .int (nI e)), (2, .int (nI g))]) C dX5_worthOf_118 (by decide) rfl ?_
            refine g_iload_n C dX5_worthOf_120 rfl rfl ?_
            refine g_iconst C dX5_worthOf_121 ic_5 ?_
            refine g_icmp_ne (tgt := 146) C dX5_worthOf_122 rfl (fun c122_26 => ?_) (fun c122_26 => ?_)
            · skip
              have n122_26 : ¬ (a (30 + (4 * e)) = 5) := fun qq => c122_26 ((nj_eq (a := a (30 + (4 * e))) (b := 5) (by have := hBa (30 + (4 * e)); omega) (by have := hBa (30 + (4 * e)); omega)).mpr qq)
              refine g_iload C dX5_worthOf_146 rfl ?_
              refine g_iret C r rfl dX5_worthOf_148 ?_
              refine ⟨?_, rfl⟩
              clear r C
              try subst wy
              subst hwb
              simp only [wJ, wNt, eats]
              repeat first | rw [if_pos (by omega)] | rw [if_neg (by omega)]
              all_goals first | rfl | exact congrArg nI (by omega) | exact congrArg nI (show 0 = _ by omega)
            · skip
              have n122_26 : a (30 + (4 * e)) = 5 := (nj_eq (a := a (30 + (4 * e))) (b := 5) (by have := hBa (30 + (4 * e)); omega) (by have := hBa (30 + (4 * e)); omega)).mp c122_26
              refine g_aload_n C dX5_worthOf_125 rfl rfl ?_
              refine g_iconst C dX5_worthOf_126 ic_1 ?_
              refine g_ial (k0 := c) (n := 46) C hck hcs (j := 1) (by unfold ix; decide) dX5_worthOf_127 ?_
              refine g_val (y := nI (a 1)) (hM 1 (by omega)) ?_
              refine g_bipush C dX5_worthOf_128 bp_7 ?_
              refine g_iremv (v := nI (a 1 % 7)) C (by decide) (nj_rem (b := 7) (by have := hBa 1; omega) (by omega)) dX5_worthOf_130 ?_
              refine g_iconst C dX5_worthOf_131 ic_4 ?_
              refine g_icmp_le (tgt := 146) C dX5_worthOf_132 rfl (fun c132_27 => ?_) (fun c132_27 => ?_)
              · skip
                have n132_27 : a 1 % 7 ≤ 4 := (nj_le (a := a 1 % 7) (b := 4) (by have := hBa 1; omega) (by have := hBa 1; omega)).mp c132_27
                refine g_iload C dX5_worthOf_146 rfl ?_
                refine g_iret C r rfl dX5_worthOf_148 ?_
                refine ⟨?_, rfl⟩
                clear r C
                try subst wy
                subst hwb
                simp only [wJ, wNt, eats]
                repeat first | rw [if_pos (by omega)] | rw [if_neg (by omega)]
                all_goals first | rfl | exact congrArg nI (by omega) | exact congrArg nI (show 0 = _ by omega)
              · skip
                have n132_27 : ¬ (a 1 % 7 ≤ 4) := fun qq => c132_27 ((nj_le (a := a 1 % 7) (b := 4) (by have := hBa 1; omega) (by have := hBa 1; omega)).mpr qq)
                refine g_iconst C dX5_worthOf_135 ic_0 ?_
                refine g_iload C dX5_worthOf_136 rfl ?_
                refine g_iconst C dX5_worthOf_138 ic_1 ?_
                refine g_isubv (v := (nI wy) - 1) C rfl dX5_worthOf_139 ?_
                refine g_max C ml_X5_68 st_Lib_Math_max ini_Math co_Lib_Math_max (by decide) (Nat.le_of_ble_eq_true rfl) dX5_worthOf_140 ?_
                refine g_val (y := nI (wy - 1)) (nj_max0 (b := 1) (by omega) (by omega)) ?_
                refine g_goto (tgt := 148) C dX5_worthOf_143 rfl ?_
                refine g_iret C r rfl dX5_worthOf_148 ?_
                refine ⟨?_, rfl⟩
                clear r C
                try subst wy
                subst hwb
                simp only [wJ, wNt, eats]
                repeat first | rw [if_pos (by omega)] | rw [if_neg (by omega)]
                all_goals first | rfl | exact congrArg nI (by omega) | exact congrArg nI (show 0 = _ by omega)
        · skip
          have n100_22 : a (30 + (4 * e)) = 1 := (nj_eq (a := a (30 + (4 * e))) (b := 1) (by have := hBa (30 + (4 * e)); omega) (by have := hBa (30 + (4 * e)); omega)).mp c100_22
          refine g_iconst C dX5_worthOf_103 ic_m1 ?_
          refine g_iret C r rfl dX5_worthOf_104 ?_
          refine ⟨?_, rfl⟩
          clear r C
          try subst wy
          subst hwb
          simp only [wJ, wNt, eats]
          repeat first | rw [if_pos (by omega)] | rw [if_neg (by omega)]
          all_goals first | rfl | exact congrArg nI (by omega) | exact congrArg nI (show 0 = _ by omega)
  have ns22_3 : ¬ (a (30 + (4 * e)) = 3) := fun qq => s22_3 ((nj_eq (a := a (30 + (4 * e))) (b := 3) (by have := hBa (30 + (4 * e)); omega) (by have := hBa (30 + (4 * e)); omega)).mpr qq)
  by_cases s22_4 : nI (a (30 + (4 * e))) = 4
  · skip
    have ns22_4 : a (30 + (4 * e)) = 4 := (nj_eq (a := a (30 + (4 * e))) (b := 4) (by have := hBa (30 + (4 * e)); omega) (by have := hBa (30 + (4 * e)); omega)).mp s22_4
    refine g_tsw (v := 4) (tgt := 86) C dX5_worthOf_22 s22_4 (by decide) (by decide) rfl rfl ?_
    refine g_iconst C dX5_worthOf_86 ic_1 ?_
    refine g_iret C r rfl dX5_worthOf_87 ?_
    refine ⟨?_, rfl⟩
    clear r C
    try subst wy
    subst hwb
    simp only [wJ, wNt, eats]
    repeat first | rw [if_pos (by omega)] | rw [if_neg (by omega)]
    all_goals first | rfl | exact congrArg nI (by omega) | exact congrArg nI (show 0 = _ by omega)
  have ns22_4 : ¬ (a (30 + (4 * e)) = 4) := fun qq => s22_4 ((nj_eq (a := a (30 + (4 * e))) (b := 4) (by have := hBa (30 + (4 * e)); omega) (by have := hBa (30 + (4 * e)); omega)).mpr qq)
  refine g_tswd (tgt := 88) C dX5_worthOf_22 (by have q0 : (nI (a (30 + (4 * e))) : Int32).toInt ≠ 0 := ne_toInt s22_0; have q1 : (nI (a (30 + (4 * e))) : Int32).toInt ≠ 1 := ne_toInt s22_1; have q2 : (nI (a (30 + (4 * e))) : Int32).toInt ≠ 2 := ne_toInt s22_2; have q3 : (nI (a (30 + (4 * e))) : Int32).toInt ≠ 3 := ne_toInt s22_3; have q4 : (nI (a (30 + (4 * e))) : Int32).toInt ≠ 4 := ne_toInt s22_4; omega) rfl ?_
  refine g_iload_n C dX5_worthOf_88 rfl rfl ?_
  refine g_iconst C dX5_worthOf_89 ic_1 ?_
  refine g_icmp_gt (tgt := 103) C dX5_worthOf_90 rfl (fun c90_28 => ?_) (fun c90_28 => ?_)
  · skip
    have n90_28 : 1 < g := (nj_lt (a := 1) (b := g) (by omega) (by omega)).mp c90_28
    refine g_iconst C dX5_worthOf_103 ic_m1 ?_
    refine g_iret C r rfl dX5_worthOf_104 ?_
    refine ⟨?_, rfl⟩
    clear r C
    try subst wy
    subst hwb
    simp only [wJ, wNt, eats]
    repeat first | rw [if_pos (by omega)] | rw [if_neg (by omega)]
    all_goals first | rfl | exact congrArg nI (by omega) | exact congrArg nI (show 0 = _ by omega)
  · skip
    have n90_28 : ¬ (1 < g) := fun qq => c90_28 ((nj_lt (a := 1) (b := g) (by omega) (by omega)).mpr qq)
    refine g_iload_n C dX5_worthOf_93 rfl rfl ?_
    refine g_iconst C dX5_worthOf_94 ic_1 ?_
    refine g_icmp_ne (tgt := 105) C dX5_worthOf_95 rfl (fun c95_29 => ?_) (fun c95_29 => ?_)
    · skip
      have n95_29 : ¬ (g = 1) := fun qq => c95_29 ((nj_eq (a := g) (b := 1) (by omega) (by omega)).mpr qq)
      refine g_iload_n C dX5_worthOf_105 rfl rfl ?_
      refine g_if_ne (tgt := 114) C dX5_worthOf_106 rfl (fun c106_30 => ?_) (fun c106_30 => ?_)
      · skip
        have n106_30 : ¬ (g = 0) := fun qq => c106_30 ((nj_eq (a := g) (b := 0) (by omega) (by omega)).mpr qq)
        refine g_iload C dX5_worthOf_114 rfl ?_
        refine g_iconst C dX5_worthOf_116 ic_2 ?_
        refine g_idivv (v := nI (wb / 2)) C (by decide) (nj_div2 (by omega)) dX5_worthOf_117 ?_
        refine g_nat (fun wy hwy => ?_)
        refine g_istore (lv' := [(5, .int (nI wy)), (4, .int (nI wb)), (3, .int (nI (a (30 + (4 * e))))), (0, .ref (wA w c)), (1, .int (nI e)), (2, .int (nI g))]) C dX5_worthOf_118 (by decide) rfl ?_
        refine g_iload_n C dX5_worthOf_120 rfl rfl ?_
        refine g_iconst C dX5_worthOf_121 ic_5 ?_
        refine g_icmp_ne (tgt := 146) C dX5_worthOf_122 rfl (fun c122_31 => ?_) (fun c122_31 => ?_)
        · skip
          have n122_31 : ¬ (a (30 + (4 * e)) = 5) := fun qq => c122_31 ((nj_eq (a := a (30 + (4 * e))) (b := 5) (by have := hBa (30 + (4 * e)); omega) (by have := hBa (30 + (4 * e)); omega)).mpr qq)
          refine g_iload C dX5_worthOf_146 rfl ?_
          refine g_iret C r rfl dX5_worthOf_148 ?_
          refine ⟨?_, rfl⟩
          clear r C
          try subst wy
          subst hwb
          simp only [wJ, wNt, eats]
          repeat first | rw [if_pos (by omega)] | rw [if_neg (by omega)]
          all_goals first | rfl | exact congrArg nI (by omega) | exact congrArg nI (show 0 = _ by omega)
        · skip
          have n122_31 : a (30 + (4 * e)) = 5 := (nj_eq (a := a (30 + (4 * e))) (b := 5) (by have := hBa (30 + (4 * e)); omega) (by have := hBa (30 + (4 * e)); omega)).mp c122_31
          refine g_aload_n C dX5_worthOf_125 rfl rfl ?_
          refine g_iconst C dX5_worthOf_126 ic_1 ?_
          refine g_ial (k0 := c) (n := 46) C hck hcs (j := 1) (by unfold ix; decide) dX5_worthOf_127 ?_
          refine g_val (y := nI (a 1)) (hM 1 (by omega)) ?_
          refine g_bipush C dX5_worthOf_128 bp_7 ?_
          refine g_iremv (v := nI (a 1 % 7)) C (by decide) (nj_rem (b := 7) (by have := hBa 1; omega) (by omega)) dX5_worthOf_130 ?_
          refine g_iconst C dX5_worthOf_131 ic_4 ?_
          refine g_icmp_le (tgt := 146) C dX5_worthOf_132 rfl (fun c132_32 => ?_) (fun c132_32 => ?_)
          · skip
            have n132_32 : a 1 % 7 ≤ 4 := (nj_le (a := a 1 % 7) (b := 4) (by have := hBa 1; omega) (by have := hBa 1; omega)).mp c132_32
            refine g_iload C dX5_worthOf_146 rfl ?_
            refine g_iret C r rfl dX5_worthOf_148 ?_
            refine ⟨?_, rfl⟩
            clear r C
            try subst wy
            subst hwb
            simp only [wJ, wNt, eats]
            repeat first | rw [if_pos (by omega)] | rw [if_neg (by omega)]
            all_goals first | rfl | exact congrArg nI (by omega) | exact congrArg nI (show 0 = _ by omega)
          · skip
            have n132_32 : ¬ (a 1 % 7 ≤ 4) := fun qq => c132_32 ((nj_le (a := a 1 % 7) (b := 4) (by have := hBa 1; omega) (by have := hBa 1; omega)).mpr qq)
            refine g_iconst C dX5_worthOf_135 ic_0 ?_
            refine g_iload C dX5_worthOf_136 rfl ?_
            refine g_iconst C dX5_worthOf_138 ic_1 ?_
            refine g_isubv (v := (nI wy) - 1) C rfl dX5_worthOf_139 ?_
            refine g_max C ml_X5_68 st_Lib_Math_max ini_Math co_Lib_Math_max (by decide) (Nat.le_of_ble_eq_true rfl) dX5_worthOf_140 ?_
            refine g_val (y := nI (wy - 1)) (nj_max0 (b := 1) (by omega) (by omega)) ?_
            refine g_goto (tgt := 148) C dX5_worthOf_143 rfl ?_
            refine g_iret C r rfl dX5_worthOf_148 ?_
            refine ⟨?_, rfl⟩
            clear r C
            try subst wy
            subst hwb
            simp only [wJ, wNt, eats]
            repeat first | rw [if_pos (by omega)] | rw [if_neg (by omega)]
            all_goals first | rfl | exact congrArg nI (by omega) | exact congrArg nI (show 0 = _ by omega)
      · skip
        have n106_30 : g = 0 := (nj_eq (a := g) (b := 0) (by omega) (by omega)).mp c106_30
        refine g_iload C dX5_worthOf_109 rfl ?_
        refine g_goto (tgt := 118) C dX5_worthOf_111 rfl ?_
        refine g_nat (fun wy hwy => ?_)
        refine g_istore (lv' := [(5, .int (nI wy)), (4, .int (nI wb)), (3, .int (nI (a (30 + (4 * e))))), (0, .ref (wA w c)), (1, .int (nI e)), (2, .int (nI g))]) C dX5_worthOf_118 (by decide) rfl ?_
        refine g_iload_n C dX5_worthOf_120 rfl rfl ?_
        refine g_iconst C dX5_worthOf_121 ic_5 ?_
        refine g_icmp_ne (tgt := 146) C dX5_worthOf_122 rfl (fun c122_33 => ?_) (fun c122_33 => ?_)
        · skip
          have n122_33 : ¬ (a (30 + (4 * e)) = 5) := fun qq => c122_33 ((nj_eq (a := a (30 + (4 * e))) (b := 5) (by have := hBa (30 + (4 * e)); omega) (by have := hBa (30 + (4 * e)); omega)).mpr qq)
          refine g_iload C dX5_worthOf_146 rfl ?_
          refine g_iret C r rfl dX5_worthOf_148 ?_
          refine ⟨?_, rfl⟩
          clear r C
          try subst wy
          subst hwb
          simp only [wJ, wNt, eats]
          repeat first | rw [if_pos (by omega)] | rw [if_neg (by omega)]
          all_goals first | rfl | exact congrArg nI (by omega) | exact congrArg nI (show 0 = _ by omega)
        · skip
          have n122_33 : a (30 + (4 * e)) = 5 := (nj_eq (a := a (30 + (4 * e))) (b := 5) (by have := hBa (30 + (4 * e)); omega) (by have := hBa (30 + (4 * e)); omega)).mp c122_33
          refine g_aload_n C dX5_worthOf_125 rfl rfl ?_
          refine g_iconst C dX5_worthOf_126 ic_1 ?_
          refine g_ial (k0 := c) (n := 46) C hck hcs (j := 1) (by unfold ix; decide) dX5_worthOf_127 ?_
          refine g_val (y := nI (a 1)) (hM 1 (by omega)) ?_
          refine g_bipush C dX5_worthOf_128 bp_7 ?_
          refine g_iremv (v := nI (a 1 % 7)) C (by decide) (nj_rem (b := 7) (by have := hBa 1; omega) (by omega)) dX5_worthOf_130 ?_
          refine g_iconst C dX5_worthOf_131 ic_4 ?_
          refine g_icmp_le (tgt := 146) C dX5_worthOf_132 rfl (fun c132_34 => ?_) (fun c132_34 => ?_)
          · skip
            have n132_34 : a 1 % 7 ≤ 4 := (nj_le (a := a 1 % 7) (b := 4) (by have := hBa 1; omega) (by have := hBa 1; omega)).mp c132_34
            refine g_iload C dX5_worthOf_146 rfl ?_
            refine g_iret C r rfl dX5_worthOf_148 ?_
            refine ⟨?_, rfl⟩
            clear r C
            try subst wy
            subst hwb
            simp only [wJ, wNt, eats]
            repeat first | rw [if_pos (by omega)] | rw [if_neg (by omega)]
            all_goals first | rfl | exact congrArg nI (by omega) | exact congrArg nI (show 0 = _ by omega)
          · skip
            have n132_34 : ¬ (a 1 % 7 ≤ 4) := fun qq => c132_34 ((nj_le (a := a 1 % 7) (b := 4) (by have := hBa 1; omega) (by have := hBa 1; omega)).mpr qq)
            refine g_iconst C dX5_worthOf_135 ic_0 ?_
            refine g_iload C dX5_worthOf_136 rfl ?_
            refine g_iconst C dX5_worthOf_138 ic_1 ?_
            refine g_isubv (v := (nI wy) - 1) C rfl dX5_worthOf_139 ?_
            refine g_max C ml_X5_68 st_Lib_Math_max ini_Math co_Lib_Math_max (by decide) (Nat.le_of_ble_eq_true rfl) dX5_worthOf_140 ?_
            refine g_val (y := nI (wy - 1)) (nj_max0 (b := 1) (by omega) (by omega)) ?_
            refine g_goto (tgt := 148) C dX5_worthOf_143 rfl ?_
            refine g_iret C r rfl dX5_worthOf_148 ?_
            refine ⟨?_, rfl⟩
            clear r C
            try subst wy
            subst hwb
            simp only [wJ, wNt, eats]
            repeat first | rw [if_pos (by omega)] | rw [if_neg (by omega)]
            all_goals first | rfl | exact congrArg nI (by omega) | exact congrArg nI (show 0 = _ by omega)
    · skip
      have n95_29 : g = 1 := (nj_eq (a := g) (b := 1) (by omega) (by omega)).mp c95_29
      refine g_iload_n C dX5_worthOf_98 rfl rfl ?_
      refine g_iconst C dX5_worthOf_99 ic_1 ?_
      refine g_icmp_ne (tgt := 105) C dX5_worthOf_100 rfl (fun c100_35 => ?_) (fun c100_35 => ?_)
      · skip
        have n100_35 : ¬ (a (30 + (4 * e)) = 1) := fun qq => c100_35 ((nj_eq (a := a (30 + (4 * e))) (b := 1) (by have := hBa (30 + (4 * e)); omega) (by have := hBa (30 + (4 * e)); omega)).mpr qq)
        refine g_iload_n C dX5_worthOf_105 rfl rfl ?_
        refine g_if_ne (tgt := 114) C dX5_worthOf_106 rfl (fun c106_36 => ?_) (fun c106_36 => ?_)
        · skip
          have n106_36 : ¬ (g = 0) := fun qq => c106_36 ((nj_eq (a := g) (b := 0) (by omega) (by omega)).mpr qq)
          refine g_iload C dX5_worthOf_114 rfl ?_
          refine g_iconst C dX5_worthOf_116 ic_2 ?_
          refine g_idivv (v := nI (wb / 2)) C (by decide) (nj_div2 (by omega)) dX5_worthOf_117 ?_
          refine g_nat (fun wy hwy => ?_)
          refine g_istore (lv' := [(5, .int (nI wy)), (4, .int (nI wb)), (3, .int (nI (a (30 + (4 * e))))), (0, .ref (wA w c)), (1, .int (nI e)), (2, .int (nI g))]) C dX5_worthOf_118 (by decide) rfl ?_
          refine g_iload_n C dX5_worthOf_120 rfl rfl ?_
          refine g_iconst C dX5_worthOf_121 ic_5 ?_
          refine g_icmp_ne (tgt := 146) C dX5_worthOf_122 rfl (fun c122_37 => ?_) (fun c122_37 => ?_)
          · skip
            have n122_37 : ¬ (a (30 + (4 * e)) = 5) := fun qq => c122_37 ((nj_eq (a := a (30 + (4 * e))) (b := 5) (by have := hBa (30 + (4 * e)); omega) (by have := hBa (30 + (4 * e)); omega)).mpr qq)
            refine g_iload C dX5_worthOf_146 rfl ?_
            refine g_iret C r rfl dX5_worthOf_148 ?_
            refine ⟨?_, rfl⟩
            clear r C
            try subst wy
            subst hwb
            simp only [wJ, wNt, eats]
            repeat first | rw [if_pos (by omega)] | rw [if_neg (by omega)]
            all_goals first | rfl | exact congrArg nI (by omega) | exact congrArg nI (show 0 = _ by omega)
          · skip
            have n122_37 : a (30 + (4 * e)) = 5 := (nj_eq (a := a (30 + (4 * e))) (b := 5) (by have := hBa (30 + (4 * e)); omega) (by have := hBa (30 + (4 * e)); omega)).mp c122_37
            refine g_aload_n C dX5_worthOf_125 rfl rfl ?_
            refine g_iconst C dX5_worthOf_126 ic_1 ?_
            refine g_ial (k0 := c) (n := 46) C hck hcs (j := 1) (by unfold ix; decide) dX5_worthOf_127 ?_
            refine g_val (y := nI (a 1)) (hM 1 (by omega)) ?_
            refine g_bipush C dX5_worthOf_128 bp_7 ?_
            refine g_iremv (v := nI (a 1 % 7)) C (by decide) (nj_rem (b := 7) (by have := hBa 1; omega) (by omega)) dX5_worthOf_130 ?_
            refine g_iconst C dX5_worthOf_131 ic_4 ?_
            refine g_icmp_le (tgt := 146) C dX5_worthOf_132 rfl (fun c132_38 => ?_) (fun c132_38 => ?_)
            · skip
              have n132_38 : a 1 % 7 ≤ 4 := (nj_le (a := a 1 % 7) (b := 4) (by have := hBa 1; omega) (by have := hBa 1; omega)).mp c132_38
              refine g_iload C dX5_worthOf_146 rfl ?_
              refine g_iret C r rfl dX5_worthOf_148 ?_
              refine ⟨?_, rfl⟩
              clear r C
              try subst wy
              subst hwb
              simp only [wJ, wNt, eats]
              repeat first | rw [if_pos (by omega)] | rw [if_neg (by omega)]
              all_goals first | rfl | exact congrArg nI (by omega) | exact congrArg nI (show 0 = _ by omega)
            · skip
              have n132_38 : ¬ (a 1 % 7 ≤ 4) := fun qq => c132_38 ((nj_le (a := a 1 % 7) (b := 4) (by have := hBa 1; omega) (by have := hBa 1; omega)).mpr qq)
              refine g_iconst C dX5_worthOf_135 ic_0 ?_
              refine g_iload C dX5_worthOf_136 rfl ?_
              refine g_iconst C dX5_worthOf_138 ic_1 ?_
              refine g_isubv (v := (nI wy) - 1) C rfl dX5_worthOf_139 ?_
              refine g_max C ml_X5_68 st_Lib_Math_max ini_Math co_Lib_Math_max (by decide) (Nat.le_of_ble_eq_true rfl) dX5_worthOf_140 ?_
              refine g_val (y := nI (wy - 1)) (nj_max0 (b := 1) (by omega) (by omega)) ?_
              refine g_goto (tgt := 148) C dX5_worthOf_143 rfl ?_
              refine g_iret C r rfl dX5_worthOf_148 ?_
              refine ⟨?_, rfl⟩
              clear r C
              try subst wy
              subst hwb
              simp only [wJ, wNt, eats]
              repeat first | rw [if_pos (by omega)] | rw [if_neg (by omega)]
              all_goals first | rfl | exact congrArg nI (by omega) | exact congrArg nI (show 0 = _ by omega)
        · skip
          have n106_36 : g = 0 := (nj_eq (a := g) (b := 0) (by omega) (by omega)).mp c106_36
          refine g_iload C dX5_worthOf_109 rfl ?_
          refine g_goto (tgt := 118) C dX5_worthOf_111 rfl ?_
          refine g_nat (fun wy hwy => ?_)
          refine g_istore (lv' := [(5, .int (nI wy)), (4, .int (nI wb)), (3, .int (nI (a (30 + (4 * e))))), (0, .ref (wA w c)), (1, .int (nI e)), (2, .int (nI g))]) C dX5_worthOf_118 (by decide) rfl ?_
          refine g_iload_n C dX5_worthOf_120 rfl rfl ?_
          refine g_iconst C dX5_worthOf_121 ic_5 ?_
          refine g_icmp_ne (tgt := 146) C dX5_worthOf_122 rfl (fun c122_39 => ?_) (fun c122_39 => ?_)
          · skip
            have n122_39 : ¬ (a (30 + (4 * e)) = 5) := fun qq => c122_39 ((nj_eq (a := a (30 + (4 * e))) (b := 5) (by have := hBa (30 + (4 * e)); omega) (by have := hBa (30 + (4 * e)); omega)).mpr qq)
            refine g_iload C dX5_worthOf_146 rfl ?_
            refine g_iret C r rfl dX5_worthOf_148 ?_
            refine ⟨?_, rfl⟩
            clear r C
            try subst wy
            subst hwb
            simp only [wJ, wNt, eats]
            repeat first | rw [if_pos (by omega)] | rw [if_neg (by omega)]
            all_goals first | rfl | exact congrArg nI (by omega) | exact congrArg nI (show 0 = _ by omega)
          · skip
            have n122_39 : a (30 + (4 * e)) = 5 := (nj_eq (a := a (30 + (4 * e))) (b := 5) (by have := hBa (30 + (4 * e)); omega) (by have := hBa (30 + (4 * e)); omega)).mp c122_39
            refine g_aload_n C dX5_worthOf_125 rfl rfl ?_
            refine g_iconst C dX5_worthOf_126 ic_1 ?_
            refine g_ial (k0 := c) (n := 46) C hck hcs (j := 1) (by unfold ix; decide) dX5_worthOf_127 ?_
            refine g_val (y := nI (a 1)) (hM 1 (by omega)) ?_
            refine g_bipush C dX5_worthOf_128 bp_7 ?_
            refine g_iremv (v := nI (a 1 % 7)) C (by decide) (nj_rem (b := 7) (by have := hBa 1; omega) (by omega)) dX5_worthOf_130 ?_
            refine g_iconst C dX5_worthOf_131 ic_4 ?_
            refine g_icmp_le (tgt := 146) C dX5_worthOf_132 rfl (fun c132_40 => ?_) (fun c132_40 => ?_)
            · skip
              have n132_40 : a 1 % 7 ≤ 4 := (nj_le (a := a 1 % 7) (b := 4) (by have := hBa 1; omega) (by have := hBa 1; omega)).mp c132_40
              refine g_iload C dX5_worthOf_146 rfl ?_
              refine g_iret C r rfl dX5_worthOf_148 ?_
              refine ⟨?_, rfl⟩
              clear r C
              try subst wy
              subst hwb
              simp only [wJ, wNt, eats]
              repeat first | rw [if_pos (by omega)] | rw [if_neg (by omega)]
              all_goals first | rfl | exact congrArg nI (by omega) | exact congrArg nI (show 0 = _ by omega)
            · skip
              have n132_40 : ¬ (a 1 % 7 ≤ 4) := fun qq => c132_40 ((nj_le (a := a 1 % 7) (b := 4) (by have := hBa 1; omega) (by have := hBa 1; omega)).mpr qq)
              refine g_iconst C dX5_worthOf_135 ic_0 ?_
              refine g_iload C dX5_worthOf_136 rfl ?_
              refine g_iconst C dX5_worthOf_138 ic_1 ?_
              refine g_isubv (v := (nI wy) - 1) C rfl dX5_worthOf_139 ?_
              refine g_max C ml_X5_68 st_Lib_Math_max ini_Math co_Lib_Math_max (by decide) (Nat.le_of_ble_eq_true rfl) dX5_worthOf_140 ?_
              refine g_val (y := nI (wy - 1)) (nj_max0 (b := 1) (by omega) (by omega)) ?_
              refine g_goto (tgt := 148) C dX5_worthOf_143 rfl ?_
              refine g_iret C r rfl dX5_worthOf_148 ?_
              refine ⟨?_, rfl⟩
              clear r C
              try subst wy
              subst hwb
              simp only [wJ, wNt, eats]
              repeat first | rw [if_pos (by omega)] | rw [if_neg (by omega)]
              all_goals first | rfl | exact congrArg nI (by omega) | exact congrArg nI (show 0 = _ by omega)
      · skip
        have n100_35 : a (30 + (4 * e)) = 1 := (nj_eq (a := a (30 + (4 * e))) (b := 1) (by have := hBa (30 + (4 * e)); omega) (by have := hBa (30 + (4 * e)); omega)).mp c100_35
        refine g_iconst C dX5_worthOf_103 ic_m1 ?_
        refine g_iret C r rfl dX5_worthOf_104 ?_
        refine ⟨?_, rfl⟩
        clear r C
        try subst wy
        subst hwb
        simp only [wJ, wNt, eats]
        repeat first | rw [if_pos (by omega)] | rw [if_neg (by omega)]
        all_goals first | rfl | exact congrArg nI (by omega) | exact congrArg nI (show 0 = _ by omega)
set_option maxRecDepth 100000 in
set_option maxHeartbeats 4000000 in
theorem ct_X5_next (l : Launch) (w : WD) (hN : 54 ≤ wN w) (σ : SG) (c : Nat) (hck : c < wN w) (hcs : shp w c = aI w 46) (a : Row) (hM : Mr σ c a) (hB : Bd a) (e : Nat) (he : e < 4) : CtI l w yX5_next cX5_next 7 (some .int) 3 0 0 [.ref (wA w c), .int (nI e)] σ (fun r τ => r = oJ (nxC a e) (-9) ∧ τ = σ) := by
  refine CtI.mk (by decide) (Nat.le_of_ble_eq_true rfl) ?_
  intro K C hr h0
  have r := RI.of hr h0
  clear hr h0
  show G l w K 0 [(0, .ref (wA w c)), (1, .int (nI e))] [] σ
  obtain ⟨hBa, hB0, hB1, hB2, hB3, hB4, hB5, hB6, hB7, hBs, hBp, hBe⟩ := id hB
  refine g_aload_n C dX5_next_0 rfl rfl ?_
  refine g_bipush C dX5_next_1 bp_7 ?_
  refine g_ial (k0 := c) (n := 46) C hck hcs (j := 7) (by unfold ix; decide) dX5_next_3 ?_
  refine g_val (y := nI (a 7)) (hM 7 (by omega)) ?_
  refine g_istore_n (lv' := [(2, .int (nI (a 7))), (0, .ref (wA w c)), (1, .int (nI e))]) C dX5_next_4 rfl (by decide) rfl ?_
  have L28 : ∀ (wy : Nat), (wy = way a) → (wy ≤ 5) → G l w K 28 [(0, .ref (wA w c)), (1, .int (nI e)), (2, .int (nI wy))] [] σ := by
    intro wy hw hw9
    refine g_bipush C dX5_next_28 bp_m9 ?_
    refine g_istore_n (lv' := [(3, .int ((-9))), (0, .ref (wA w c)), (1, .int (nI e)), (2, .int (nI wy))]) C dX5_next_30 rfl (by decide) rfl ?_
    refine g_iconst C dX5_next_31 ic_4 ?_
    refine g_istore (lv' := [(4, .int 4), (3, .int ((-9))), (0, .ref (wA w c)), (1, .int (nI e)), (2, .int (nI wy))]) C dX5_next_32 (by decide) rfl ?_
    have L34 : ∀ (m34 : Nat) (q : Nat) (x : Int32) (y : Int32), m34 = q → (q ≤ 5) → (x = nI q - 1) → (y = oJ (pkR a e (5 - q)) (-9)) → G l w K 34 [(0, .ref (wA w c)), (1, .int (nI e)), (2, .int (nI wy)), (3, .int y), (4, .int x)] [] σ := by
      intro m34
      induction m34 using Nat.strongRecOn with
      | ind m34 ih34 =>
      intro q x y em34 hq hx hy
      refine g_iload C dX5_next_34 rfl ?_
      refine g_if_lt (tgt := 115) C dX5_next_36 rfl (fun c36_1 => ?_) (fun c36_1 => ?_)
      · skip
        obtain rfl : q = 0 := nj_pred0 hx c36_1 (by omega)
        have hR5 : y = oJ (pkR a e 5) (-9) := hy
        refine g_iload_n C dX5_next_115 rfl rfl ?_
        refine g_if_ne (tgt := 142) C dX5_next_116 rfl (fun c116_2 => ?_) (fun c116_2 => ?_)
        · skip
          refine g_iload_n C dX5_next_142 rfl rfl ?_
          refine g_iret C r rfl dX5_next_143 ?_
          refine ⟨?_, rfl⟩
          rw [← nxR_eq]
          unfold nxR
          first | rw [if_pos ⟨by have z := oJ_zero hR5 (by assumption); exact z, by omega, by omega⟩]; rfl | (rw [if_neg (fun z => by have z0 := hR5; rw [z.1] at z0; first | (exact absurd z0 (by assumption)) | omega)]; exact hR5)
        · skip
          refine g_iload_n C dX5_next_119 rfl rfl ?_
          refine g_iconst C dX5_next_120 ic_3 ?_
          refine g_icmp_eq (tgt := 129) C dX5_next_121 rfl (fun c121_3 => ?_) (fun c121_3 => ?_)
          · skip
            have n121_3 : wy = 3 := (nj_eq (a := wy) (b := 3) (by omega) (by omega)).mp c121_3
            refine g_aload_n C dX5_next_129 rfl rfl ?_
            refine g_bipush C dX5_next_130 bp_10 ?_
            refine g_ial (k0 := c) (n := 46) C hck hcs (j := 10) (by unfold ix; decide) dX5_next_132 ?_
            refine g_val (y := nI (a 10)) (hM 10 (by omega)) ?_
            refine g_iconst C dX5_next_133 ic_3 ?_
            refine g_icmp_gt (tgt := 142) C dX5_next_134 rfl (fun c134_4 => ?_) (fun c134_4 => ?_)
            · skip
              have n134_4 : 3 < a 10 := (nj_lt (a := 3) (b := a 10) (by have := hBa 10; omega) (by have := hBa 10; omega)).mp c134_4
              refine g_iload_n C dX5_next_142 rfl rfl ?_
              refine g_iret C r rfl dX5_next_143 ?_
              refine ⟨?_, rfl⟩
              rw [← nxR_eq]
              unfold nxR
              first | rw [if_pos ⟨by have z := oJ_zero hR5 (by assumption); exact z, by omega, by omega⟩]; rfl | (rw [if_neg (fun z => by have z0 := hR5; rw [z.1] at z0; first | (exact absurd z0 (by assumption)) | omega)]; exact hR5)
            · skip
              have n134_4 : ¬ (3 < a 10) := fun qq => c134_4 ((nj_lt (a := 3) (b := a 10) (by have := hBa 10; omega) (by have := hBa 10; omega)).mpr qq)
              refine g_bipush C dX5_next_137 bp_m9 ?_
              refine g_goto (tgt := 143) C dX5_next_139 rfl ?_
              refine g_iret C r rfl dX5_next_143 ?_
              refine ⟨?_, rfl⟩
              rw [← nxR_eq]
              unfold nxR
              first | rw [if_pos ⟨by have z := oJ_zero hR5 (by assumption); exact z, by omega, by omega⟩]; rfl | (rw [if_neg (fun z => by have z0 := hR5; rw [z.1] at z0; first | (exact absurd z0 (by assumption)) | omega)]; exact hR5)
          · skip
            have n121_3 : ¬ (wy = 3) := fun qq => c121_3 ((nj_eq (a := wy) (b := 3) (by omega) (by omega)).mpr qq)
            refine g_iload_n C dX5_next_124 rfl rfl ?_
            refine g_iconst C dX5_next_125 ic_5 ?_
            refine g_icmp_ne (tgt := 142) C dX5_next_126 rfl (fun c126_5 => ?_) (fun c126_5 => ?_)
            · skip
              have n126_5 : ¬ (wy = 5) := fun qq => c126_5 ((nj_eq (a := wy) (b := 5) (by omega) (by omega)).mpr qq)
              refine g_iload_n C dX5_next_142 rfl rfl ?_
              refine g_iret C r rfl dX5_next_143 ?_
              refine ⟨?_, rfl⟩
              rw [← nxR_eq]
              unfold nxR
              first | rw [if_pos ⟨by have z := oJ_zero hR5 (by assumption); exact z, by omega, by omega⟩]; rfl | (rw [if_neg (fun z => by have z0 := hR5; rw [z.1] at z0; first | (exact absurd z0 (by assumption)) | omega)]; exact hR5)
            · skip
              have n126_5 : wy = 5 := (nj_eq (a := wy) (b := 5) (by omega) (by omega)).mp c126_5
              refine g_aload_n C dX5_next_129 rfl rfl ?_
              refine g_bipush C dX5_next_130 bp_10 ?_
              refine g_ial (k0 := c) (n := 46) C hck hcs (j := 10) (by unfold ix; decide) dX5_next_132 ?_
              refine g_val (y := nI (a 10)) (hM 10 (by omega)) ?_
              refine g_iconst C dX5_next_133 ic_3 ?_
              refine g_icmp_gt (tgt := 142) C dX5_next_134 rfl (fun c134_6 => ?_) (fun c134_6 => ?_)
              · skip
                have n134_6 : 3 < a 10 := (nj_lt (a := 3) (b := a 10) (by have := hBa 10; omega) (by have := hBa 10; omega)).mp c134_6
                refine g_iload_n C dX5_next_142 rfl rfl ?_
                refine g_iret C r rfl dX5_next_143 ?_
                refine ⟨?_, rfl⟩
                rw [← nxR_eq]
                unfold nxR
                first | rw [if_pos ⟨by have z := oJ_zero hR5 (by assumption); exact z, by omega, by omega⟩]; rfl | (rw [if_neg (fun z => by have z0 := hR5; rw [z.1] at z0; first | (exact absurd z0 (by assumption)) | omega)]; exact hR5)
              · skip
                have n134_6 : ¬ (3 < a 10) := fun qq => c134_6 ((nj_lt (a := 3) (b := a 10) (by have := hBa 10; omega) (by have := hBa 10; omega)).mpr qq)
                refine g_bipush C dX5_next_137 bp_m9 ?_
                refine g_goto (tgt := 143) C dX5_next_139 rfl ?_
                refine g_iret C r rfl dX5_next_143 ?_
                refine ⟨?_, rfl⟩
                rw [← nxR_eq]
                unfold nxR
                first | rw [if_pos ⟨by have z := oJ_zero hR5 (by assumption); exact z, by omega, by omega⟩]; rfl | (rw [if_neg (fun z => by have z0 := hR5; rw [z.1] at z0; first | (exact absurd z0 (by assumption)) | omega)]; exact hR5)
      · skip
        obtain ⟨g, rfl, rfl⟩ : ∃ g, q = g + 1 ∧ x = nI g := nj_pred hx c36_1 (by omega)
        have hg5 : g < 5 := by omega
        have hg9 := hBa (10 + g)
        have L109 : ∀ (y1 : Int32), (y1 = oJ (pkR a e (5 - g)) (-9)) → G l w K 109 [(0, .ref (wA w c)), (1, .int (nI e)), (2, .int (nI wy)), (3, .int y1), (4, .int (nI g))] [] σ := by
          intro y1 hy1
          refine g_iinc (v := nI g - 1) (lv' := [(4, .int (nI g - 1)), (0, .ref (wA w c)), (1, .int (nI e)), (2, .int (nI wy)), (3, .int y1)]) C dX5_next_109 (by decide) rfl (nj_decr _) rfl ?_
          refine g_goto (tgt := 34) C dX5_next_112 rfl ?_
          exact g_lvp [1, 2, 3, 4, 0] rfl (ih34 (g) (by omega) g (nI g - 1) y1 rfl (by first | omega | assumption | rfl | grind) (rfl) (hy1))
        refine g_aload_n C dX5_next_39 rfl rfl ?_
        refine g_iload_n C dX5_next_40 rfl rfl ?_
        refine g_iload C dX5_next_41 rfl ?_
        refine g_pSI (rest := []) (v := wJ a e g) C ms_X5_74 (ct_X5_worthOf l w hN σ c hck hcs a hM hB e g (by omega) (by omega)) rfl (by decide) rfl (Nat.le_of_ble_eq_true rfl) dX5_next_43 ?_
        refine g_istore (lv' := [(5, .int (wJ a e g)), (0, .ref (wA w c)), (1, .int (nI e)), (2, .int (nI wy)), (3, .int y), (4, .int (nI g))]) C dX5_next_46 (by decide) rfl ?_
        refine g_aload_n C dX5_next_48 rfl rfl ?_
        refine g_bipush C dX5_next_49 bp_10 ?_
        refine g_iload C dX5_next_51 rfl ?_
        refine g_iaddv (v := nI (10 + g)) C (nj_plus 10 g) dX5_next_53 ?_
        refine g_ial (k0 := c) (n := 46) C hck hcs (j := 10 + g) (ix_n (by omega)) dX5_next_54 ?_
        refine g_val (y := nI (a (10 + g))) (hM (10 + g) (by omega)) ?_
        refine g_if_le (tgt := 109) C dX5_next_55 rfl (fun c55_7 => ?_) (fun c55_7 => ?_)
        · skip
          have n55_7 : a (10 + g) ≤ 0 := (nj_le (a := a (10 + g)) (b := 0) (by have := hBa (10 + g); omega) (by have := hBa (10 + g); omega)).mp c55_7
          have hr : ¬ 0 < a (10 + g) := by omega
          exact g_lvp [1, 2, 3, 4, 5] rfl (L109 y (by rw [pr_skip hg5 (fun q => hr q.1)]; exact hy))
        · skip
          have n55_7 : ¬ (a (10 + g) ≤ 0) := fun qq => c55_7 ((nj_le (a := a (10 + g)) (b := 0) (by have := hBa (10 + g); omega) (by have := hBa (10 + g); omega)).mpr qq)
          have hr : 0 < a (10 + g) := by omega
          refine g_iload C dX5_next_58 rfl ?_
          refine g_if_lt (tgt := 109) C dX5_next_60 rfl (fun c60_8 => ?_) (fun c60_8 => ?_)
          · skip
            have he1 : ¬ eats a e g := (wJ_nn hBa).mp c60_8
            exact g_lvp [1, 2, 3, 4, 5] rfl (L109 y (by rw [pr_skip hg5 (fun q => he1 q.2)]; exact hy))
          · skip
            have he1 : eats a e g := Decidable.byContradiction (fun z => c60_8 ((wJ_nn hBa).mpr z))
            have hwj : wJ a e g = nI (wNt a e g) := if_pos he1
            refine g_iload_n C dX5_next_63 rfl rfl ?_
            refine g_bipush C dX5_next_64 bp_m9 ?_
            refine g_icmp_eq (tgt := 90) C dX5_next_66 rfl (fun c66_9 => ?_) (fun c66_9 => ?_)
            · skip
              have ho : pkR a e (5 - (g + 1)) = none := oJ9_neg hy c66_9 (fun g1 h1 => (pkR_lt _ g1 (by omega) h1).2)
              have hp := pr_take0 hg5 hr he1 ho
              refine g_iconst C dX5_next_90 ic_1 ?_
              refine g_goto (tgt := 95) C dX5_next_91 rfl ?_
              refine g_istore (lv' := [(6, .int 1), (5, .int (wJ a e g)), (0, .ref (wA w c)), (1, .int (nI e)), (2, .int (nI wy)), (3, .int y), (4, .int (nI g))]) C dX5_next_95 (by decide) rfl ?_
              refine g_iload C dX5_next_97 rfl ?_
              refine g_if_eq (tgt := 107) C dX5_next_99 rfl (fun c99_10 => ?_) (fun c99_10 => ?_)
              · exact absurd c99_10 (by decide)
              · skip
                refine g_iload C dX5_next_102 rfl ?_
                refine g_goto (tgt := 108) C dX5_next_104 rfl ?_
                refine g_istore_n (lv' := [(3, .int (nI g)), (6, .int 1), (5, .int (wJ a e g)), (0, .ref (wA w c)), (1, .int (nI e)), (2, .int (nI wy)), (4, .int (nI g))]) C dX5_next_108 rfl (by decide) rfl ?_
                exact g_lvp [3, 4, 5, 0, 6] rfl (L109 (nI g) (by rw [hp]; first | rfl | exact hyf))
            · skip
              obtain ⟨f, hf, hyf⟩ := oJ9_pos hy c66_9
              have hf5 := (pkR_lt _ f (by omega) hf).2
              subst hyf
              have hyf : nI f = nI f := rfl
              refine g_iload_n C dX5_next_69 rfl rfl ?_
              refine g_iconst C dX5_next_70 ic_1 ?_
              refine g_icmp_eq (tgt := 90) C dX5_next_71 rfl (fun c71_11 => ?_) (fun c71_11 => ?_)
              · skip
                have n71_11 : wy = 1 := (nj_eq (a := wy) (b := 1) (by omega) (by omega)).mp c71_11
                have hp := pr_take hg5 hr he1 hf (Or.inl (by omega))
                refine g_iconst C dX5_next_90 ic_1 ?_
                refine g_goto (tgt := 95) C dX5_next_91 rfl ?_
                refine g_istore (lv' := [(6, .int 1), (5, .int (wJ a e g)), (0, .ref (wA w c)), (1, .int (nI e)), (2, .int (nI wy)), (3, .int (nI f)), (4, .int (nI g))]) C dX5_next_95 (by decide) rfl ?_
                refine g_iload C dX5_next_97 rfl ?_
                refine g_if_eq (tgt := 107) C dX5_next_99 rfl (fun c99_12 => ?_) (fun c99_12 => ?_)
                · exact absurd c99_12 (by decide)
                · skip
                  refine g_iload C dX5_next_102 rfl ?_
                  refine g_goto (tgt := 108) C dX5_next_104 rfl ?_
                  refine g_istore_n (lv' := [(3, .int (nI g)), (6, .int 1), (5, .int (wJ a e g)), (0, .ref (wA w c)), (1, .int (nI e)), (2, .int (nI wy)), (4, .int (nI g))]) C dX5_next_108 rfl (by decide) rfl ?_
                  exact g_lvp [3, 4, 5, 0, 6] rfl (L109 (nI g) (by rw [hp]; first | rfl | exact hyf))
              · skip
                have n71_11 : ¬ (wy = 1) := fun qq => c71_11 ((nj_eq (a := wy) (b := 1) (by omega) (by omega)).mpr qq)
                refine g_iload_n C dX5_next_74 rfl rfl ?_
                refine g_iconst C dX5_next_75 ic_2 ?_
                refine g_icmp_ne (tgt := 94) C dX5_next_76 rfl (fun c76_13 => ?_) (fun c76_13 => ?_)
                · skip
                  have n76_13 : ¬ (wy = 2) := fun qq => c76_13 ((nj_eq (a := wy) (b := 2) (by omega) (by omega)).mpr qq)
                  have hp := pr_keep hg5 hr he1 hf (by omega)
                  refine g_iconst C dX5_next_94 ic_0 ?_
                  refine g_istore (lv' := [(6, .int 0), (5, .int (wJ a e g)), (0, .ref (wA w c)), (1, .int (nI e)), (2, .int (nI wy)), (3, .int (nI f)), (4, .int (nI g))]) C dX5_next_95 (by decide) rfl ?_
                  refine g_iload C dX5_next_97 rfl ?_
                  refine g_if_eq (tgt := 107) C dX5_next_99 rfl (fun c99_14 => ?_) (fun c99_14 => ?_)
                  · skip
                    refine g_iload_n C dX5_next_107 rfl rfl ?_
                    refine g_istore_n (lv' := [(3, .int (nI f)), (6, .int 0), (5, .int (wJ a e g)), (0, .ref (wA w c)), (1, .int (nI e)), (2, .int (nI wy)), (4, .int (nI g))]) C dX5_next_108 rfl (by decide) rfl ?_
                    exact g_lvp [3, 4, 5, 0, 6] rfl (L109 (nI f) (by rw [hp]; first | rfl | exact hyf))
                  · exact absurd c99_14 (by decide)
                · skip
                  have n76_13 : wy = 2 := (nj_eq (a := wy) (b := 2) (by omega) (by omega)).mp c76_13
                  refine g_iload C dX5_next_79 rfl ?_
                  refine g_aload_n C dX5_next_81 rfl rfl ?_
                  refine g_iload_n C dX5_next_82 rfl rfl ?_
                  refine g_iload_n C dX5_next_83 rfl rfl ?_
                  refine g_pSI (rest := [.int (wJ a e g)]) (v := wJ a e f) C ms_X5_74 (ct_X5_worthOf l w hN σ c hck hcs a hM hB e f (by omega) (by omega)) rfl (by decide) rfl (Nat.le_of_ble_eq_true rfl) dX5_next_84 ?_
                  refine g_val (y := nI (wNt a e f)) (if_pos (pkR_eats hf)) ?_
                  refine g_icmp_le (tgt := 94) C dX5_next_87 rfl (fun c87_15 => ?_) (fun c87_15 => ?_)
                  · skip
                    have hw1 : wNt a e g ≤ wNt a e f := (nj_le (by have := wNt_le hBa e g; omega) (by have := wNt_le hBa e f; omega)).mp (by rw [← hwj]; exact c87_15)
                    have hp := pr_keep hg5 hr he1 hf (by omega)
                    refine g_iconst C dX5_next_94 ic_0 ?_
                    refine g_istore (lv' := [(6, .int 0), (5, .int (wJ a e g)), (0, .ref (wA w c)), (1, .int (nI e)), (2, .int (nI wy)), (3, .int (nI f)), (4, .int (nI g))]) C dX5_next_95 (by decide) rfl ?_
                    refine g_iload C dX5_next_97 rfl ?_
                    refine g_if_eq (tgt := 107) C dX5_next_99 rfl (fun c99_16 => ?_) (fun c99_16 => ?_)
                    · skip
                      refine g_iload_n C dX5_next_107 rfl rfl ?_
                      refine g_istore_n (lv' := [(3, .int (nI f)), (6, .int 0), (5, .int (wJ a e g)), (0, .ref (wA w c)), (1, .int (nI e)), (2, .int (nI wy)), (4, .int (nI g))]) C dX5_next_108 rfl (by decide) rfl ?_
                      exact g_lvp [3, 4, 5, 0, 6] rfl (L109 (nI f) (by rw [hp]; first | rfl | exact hyf))
                    · exact absurd c99_16 (by decide)
                  · skip
                    have hw1 : ¬ wNt a e g ≤ wNt a e f := fun q => c87_15 (by rw [hwj]; exact (nj_le (by have := wNt_le hBa e g; omega) (by have := wNt_le hBa e f; omega)).mpr q)
                    have hp := pr_take hg5 hr he1 hf (Or.inr ⟨by omega, by omega⟩)
                    refine g_iconst C dX5_next_90 ic_1 ?_
                    refine g_goto (tgt := 95) C dX5_next_91 rfl ?_
                    refine g_istore (lv' := [(6, .int 1), (5, .int (wJ a e g)), (0, .ref (wA w c)), (1, .int (nI e)), (2, .int (nI wy)), (3, .int (nI f)), (4, .int (nI g))]) C dX5_next_95 (by decide) rfl ?_
                    refine g_iload C dX5_next_97 rfl ?_
                    refine g_if_eq (tgt := 107) C dX5_next_99 rfl (fun c99_17 => ?_) (fun c99_17 => ?_)
                    · exact absurd c99_17 (by decide)
                    · skip
                      refine g_iload C dX5_next_102 rfl ?_
                      refine g_goto (tgt := 108) C dX5_next_104 rfl ?_
                      refine g_istore_n (lv' := [(3, .int (nI g)), (6, .int 1), (5, .int (wJ a e g)), (0, .ref (wA w c)), (1, .int (nI e)), (2, .int (nI wy)), (4, .int (nI g))]) C dX5_next_108 rfl (by decide) rfl ?_
                      exact g_lvp [3, 4, 5, 0, 6] rfl (L109 (nI g) (by rw [hp]; first | rfl | exact hyf))
    exact g_lvp [2, 3, 4, 1, 0] rfl (L34 (5) 5 4 ((-9)) rfl (by first | omega | assumption | rfl | grind) (by decide) (rfl))
  refine g_iload_n C dX5_next_5 rfl rfl ?_
  refine g_iconst C dX5_next_6 ic_4 ?_
  refine g_icmp_ne (tgt := 26) C dX5_next_7 rfl (fun c7_18 => ?_) (fun c7_18 => ?_)
  · skip
    have n7_18 : ¬ (a 7 = 4) := fun qq => c7_18 ((nj_eq (a := a 7) (b := 4) (by have := hBa 7; omega) (by have := hBa 7; omega)).mpr qq)
    refine g_iload_n C dX5_next_26 rfl rfl ?_
    refine g_istore_n (lv' := [(2, .int (nI (a 7))), (0, .ref (wA w c)), (1, .int (nI e))]) C dX5_next_27 rfl (by decide) rfl ?_
    exact g_lvp [1, 2, 0] rfl (L28 (a 7) (by simp only [way]; first | rw [if_neg (by omega)] | (rw [if_pos (by omega)]; first | rw [if_pos (by omega)] | rw [if_neg (by omega)])) (by omega))
  · skip
    have n7_18 : a 7 = 4 := (nj_eq (a := a 7) (b := 4) (by have := hBa 7; omega) (by have := hBa 7; omega)).mp c7_18
    refine g_aload_n C dX5_next_10 rfl rfl ?_
    refine g_iconst C dX5_next_11 ic_1 ?_
    refine g_ial (k0 := c) (n := 46) C hck hcs (j := 1) (by unfold ix; decide) dX5_next_12 ?_
    refine g_val (y := nI (a 1)) (hM 1 (by omega)) ?_
    refine g_iconst C dX5_next_13 ic_2 ?_
    refine g_iremv (v := nI (a 1 % 2)) C (by decide) (nj_rem (b := 2) (by have := hBa 1; omega) (by omega)) dX5_next_14 ?_
    refine g_if_ne (tgt := 22) C dX5_next_15 rfl (fun c15_19 => ?_) (fun c15_19 => ?_)
    · skip
      have n15_19 : ¬ (a 1 % 2 = 0) := fun qq => c15_19 ((nj_eq (a := a 1 % 2) (b := 0) (by have := hBa 1; omega) (by have := hBa 1; omega)).mpr qq)
      refine g_iconst C dX5_next_22 ic_1 ?_
      refine g_goto (tgt := 27) C dX5_next_23 rfl ?_
      refine g_istore_n (lv' := [(2, .int 1), (0, .ref (wA w c)), (1, .int (nI e))]) C dX5_next_27 rfl (by decide) rfl ?_
      exact g_lvp [1, 2, 0] rfl (L28 1 (by simp only [way]; first | rw [if_neg (by omega)] | (rw [if_pos (by omega)]; first | rw [if_pos (by omega)] | rw [if_neg (by omega)])) (by omega))
    · skip
      have n15_19 : a 1 % 2 = 0 := (nj_eq (a := a 1 % 2) (b := 0) (by have := hBa 1; omega) (by have := hBa 1; omega)).mp c15_19
      refine g_iconst C dX5_next_18 ic_2 ?_
      refine g_goto (tgt := 27) C dX5_next_19 rfl ?_
      refine g_istore_n (lv' := [(2, .int 2), (0, .ref (wA w c)), (1, .int (nI e))]) C dX5_next_27 rfl (by decide) rfl ?_
      exact g_lvp [1, 2, 0] rfl (L28 2 (by simp only [way]; first | rw [if_neg (by omega)] | (rw [if_pos (by omega)]; first | rw [if_pos (by omega)] | rw [if_neg (by omega)])) (by omega))

/-! ===== the reference takes a STATEMENT ===== -/
def fE (c : Nat → Nat) (p : Nat) : Nat → Nat
  | 0 => kiE c p
  | 1 => c (p + 2) - 48
  | 2 => c (p + 3) - 48
  | _ => chn c p
def fW (c : Nat → Nat) (p k : Nat) : Nat := if c (p + 1 + k) = 111 then 1 else 0
def fC (c : Nat → Nat) (p k : Nat) : Nat := c (p + 1 + k) - 48
def aE (c : Nat → Nat) (p i : Nat) (a : Row) : Row := fun j => if 30 + 4 * a 0 ≤ j ∧ j < 30 + 4 * a 0 + i then fE c p (j - (30 + 4 * a 0)) else a j
theorem aE_0 (c : Nat → Nat) (p : Nat) (a : Row) (j : Nat) : aE c p 0 a j = a j := by unfold aE; rw [if_neg (by omega)]
theorem aE_s (c : Nat → Nat) (p i : Nat) (a : Row) (j : Nat) : aE c p (i + 1) a j = ua (aE c p i a) (30 + 4 * a 0 + i) (fE c p i) j := by
  rw [ua_at]
  unfold aE
  by_cases z : j = 30 + 4 * a 0 + i
  · rw [if_pos z, if_pos (by omega), show j - (30 + 4 * a 0) = i by omega]
  · rw [if_neg z]
    by_cases y : 30 + 4 * a 0 ≤ j ∧ j < 30 + 4 * a 0 + i
    · rw [if_pos y, if_pos (by omega)]
    · rw [if_neg y, if_neg (by omega)]
theorem aE_n (c : Nat → Nat) (p i : Nat) (a : Row) : aE c p i a 0 = a 0 := by unfold aE; rw [if_neg (by omega)]
theorem aE_4 (c : Nat → Nat) (p : Nat) (a : Row) (j : Nat) : addE a (kiE c p) (c (p + 2) - 48) (c (p + 3) - 48) (chn c p) j = ua (aE c p 4 a) 0 (a 0 + 1) j := by
  rw [addE_at, ua_at]
  by_cases z : j = 0
  · rw [if_pos z, if_pos z]
  · rw [if_neg z, if_neg z]
    unfold aE
    by_cases z3 : j = 30 + 4 * a 0 + 3
    · rw [if_pos z3, if_pos (by omega), show j - (30 + 4 * a 0) = 3 by omega]; rfl
    · rw [if_neg z3]
      by_cases z2 : j = 30 + 4 * a 0 + 2
      · rw [if_pos z2, if_pos (by omega), show j - (30 + 4 * a 0) = 2 by omega]; rfl
      · rw [if_neg z2]
        by_cases z1 : j = 30 + 4 * a 0 + 1
        · rw [if_pos z1, if_pos (by omega), show j - (30 + 4 * a 0) = 1 by omega]; rfl
        · rw [if_neg z1]
          by_cases z0 : j = 30 + 4 * a 0
          · rw [if_pos z0, if_pos (by omega), show j - (30 + 4 * a 0) = 0 by omega]; rfl
          · rw [if_neg z0, if_neg (by omega)]
def FrT (σ τ : SG) : Prop := (∀ k, k ≠ 38 → k ≠ 40 → k ≠ 43 → k ≠ 44 → τ k = σ k) ∧ ∀ j, (j < 7 ∨ 12 < j) → τ 38 j = σ 38 j
theorem FrT.rf {σ : SG} : FrT σ σ := ⟨fun _ _ _ _ _ => rfl, fun _ _ => rfl⟩
theorem FrT.tr {σ τ ρ : SG} (h : FrT σ τ) (h' : FrT τ ρ) : FrT σ ρ := ⟨fun k a b d e => (h'.1 k a b d e).trans (h.1 k a b d e), fun j hj => (h'.2 j hj).trans (h.2 j hj)⟩
theorem FrT.u {σ : SG} {j : Nat} {v : Int32} : FrT σ (up σ 40 j v) := ⟨fun k _ a _ _ => up_other a, fun j _ => by rw [up_other (by decide)]⟩
theorem FrT.y {σ τ : SG} (h : FrY 40 σ τ) : FrT σ τ := ⟨fun k a b _ d => h.1 k b a d, h.2⟩
theorem FrT.f {σ τ : SG} (h : Fr (fun k => k = 43) σ τ) : FrT σ τ := ⟨fun k _ _ a _ => h k a, fun j _ => by rw [h 38 (by decide)]⟩
theorem sml_c {c : Nat → Nat} {p : Nat} (d4 : dgt (c (p + 4))) (hx : (c (p + 5) = 59 ∧ True) ∨ dgt (c (p + 5))) : chn c p ≤ 99 := by
  unfold chn
  by_cases z : c (p + 5) = 59
  · rw [if_pos z]; omega
  · rw [if_neg z]
    exact two_le d4 (hx.resolve_left (fun y => z y.1))
set_option maxRecDepth 100000 in
set_option maxHeartbeats 4000000 in
theorem ct_must_e (l : Launch) (w : WD) (hN : 54 ≤ wN w) (σ : SG) (c : Nat → Nat) (p p' : Nat) (a : Row) (hM : Mr σ 40 a) (hB : Bd a) (hf : FD σ c p) (e0 : c p = 101) (h99 : chn c p ≤ 99) : CtI l w yX5_isAsItMustBe cX5_isAsItMustBe 1 (some .boolean) 1 0 0 [.ref (wA w 38)] σ (fun r τ => r = bI ((effS c a p).isSome = true) ∧ τ = σ) := by
  refine CtI.mk (by decide) (Nat.le_of_ble_eq_true rfl) ?_
  intro K C hr h0
  have r := RI.of hr h0
  clear hr h0
  show G l w K 0 [(0, .ref (wA w 38))] [] σ
  obtain ⟨hBa, hB0, hB1, hB2, hB3, hB4, hB5, hB6, hB7, hBs, hBp, hBe⟩ := id hB
  have hef : effS c a p = if 1 ≤ chn c p ∧ chn c p ≤ 10 ∧ a 0 < 4 then some (addE a (kiE c p) (c (p + 2) - 48) (c (p + 3) - 48) (chn c p)) else none := by unfold effS;  rw [if_pos e0]
  refine g_aload_n C dX5_isAsItMustBe_0 rfl rfl ?_
  refine g_get (v := .int (σ 38 22)) C fl_X5_132 fs_X5_132 (Nat.lt_of_lt_of_le (by decide) hN) rfl rfl dX5_isAsItMustBe_1 ?_
  refine g_val (y := 0) (hf.1 e0).1 ?_
  refine g_tsw (v := 0) (tgt := 48) C dX5_isAsItMustBe_4 rfl (by decide) (by decide) rfl rfl ?_
  refine g_aload_n C dX5_isAsItMustBe_48 rfl rfl ?_
  refine g_get (v := .ref (wA w 51)) C fl_X5_47 fs_X5_47 (Nat.lt_of_lt_of_le (by decide) hN) rfl rfl dX5_isAsItMustBe_49 ?_
  refine g_iconst C dX5_isAsItMustBe_52 ic_3 ?_
  refine g_ial (k0 := 51) (n := 7) C (Nat.lt_of_lt_of_le (by decide) hN) rfl (j := 3) (by unfold ix; decide) dX5_isAsItMustBe_53 ?_
  refine g_val (y := nI (chn c p)) (hf.1 e0).2.2.2.2 ?_
  refine g_iconst C dX5_isAsItMustBe_54 ic_1 ?_
  refine g_icmp_lt (tgt := 83) C dX5_isAsItMustBe_55 rfl (fun c55_1 => ?_) (fun c55_1 => ?_)
  · skip
    have n55_1 : chn c p < 1 := (nj_lt (a := chn c p) (b := 1) (by omega) (by omega)).mp c55_1
    refine g_iconst C dX5_isAsItMustBe_83 ic_0 ?_
    refine g_iret C r rfl dX5_isAsItMustBe_84 ?_
    rw [hef, if_neg (by omega)]
    exact ⟨(if_neg (by decide)).symm, rfl⟩
  · skip
    have n55_1 : ¬ (chn c p < 1) := fun qq => c55_1 ((nj_lt (a := chn c p) (b := 1) (by omega) (by omega)).mpr qq)
    refine g_aload_n C dX5_isAsItMustBe_58 rfl rfl ?_
    refine g_get (v := .ref (wA w 51)) C fl_X5_47 fs_X5_47 (Nat.lt_of_lt_of_le (by decide) hN) rfl rfl dX5_isAsItMustBe_59 ?_
    refine g_iconst C dX5_isAsItMustBe_62 ic_3 ?_
    refine g_ial (k0 := 51) (n := 7) C (Nat.lt_of_lt_of_le (by decide) hN) rfl (j := 3) (by unfold ix; decide) dX5_isAsItMustBe_63 ?_
    refine g_val (y := nI (chn c p)) (hf.1 e0).2.2.2.2 ?_
    refine g_bipush C dX5_isAsItMustBe_64 bp_10 ?_
    refine g_icmp_gt (tgt := 83) C dX5_isAsItMustBe_66 rfl (fun c66_2 => ?_) (fun c66_2 => ?_)
    · skip
      have n66_2 : 10 < chn c p := (nj_lt (a := 10) (b := chn c p) (by omega) (by omega)).mp c66_2
      refine g_iconst C dX5_isAsItMustBe_83 ic_0 ?_
      refine g_iret C r rfl dX5_isAsItMustBe_84 ?_
      rw [hef, if_neg (by omega)]
      exact ⟨(if_neg (by decide)).symm, rfl⟩
    · skip
      have n66_2 : ¬ (10 < chn c p) := fun qq => c66_2 ((nj_lt (a := 10) (b := chn c p) (by omega) (by omega)).mpr qq)
      refine g_aload_n C dX5_isAsItMustBe_69 rfl rfl ?_
      refine g_get (v := .ref (wA w 40)) C fl_X5_13 fs_X5_13 (Nat.lt_of_lt_of_le (by decide) hN) rfl rfl dX5_isAsItMustBe_70 ?_
      refine g_iconst C dX5_isAsItMustBe_73 ic_0 ?_
      refine g_ial (k0 := 40) (n := 46) C (Nat.lt_of_lt_of_le (by decide) hN) rfl (j := 0) (by unfold ix; decide) dX5_isAsItMustBe_74 ?_
      refine g_val (y := nI (a 0)) (hM 0 (by omega)) ?_
      refine g_iconst C dX5_isAsItMustBe_75 ic_4 ?_
      refine g_icmp_ge (tgt := 83) C dX5_isAsItMustBe_76 rfl (fun c76_3 => ?_) (fun c76_3 => ?_)
      · skip
        have n76_3 : 4 ≤ a 0 := (nj_le (a := 4) (b := a 0) (by have := hBa 0; omega) (by have := hBa 0; omega)).mp c76_3
        refine g_iconst C dX5_isAsItMustBe_83 ic_0 ?_
        refine g_iret C r rfl dX5_isAsItMustBe_84 ?_
        rw [hef, if_neg (by omega)]
        exact ⟨(if_neg (by decide)).symm, rfl⟩
      · skip
        have n76_3 : ¬ (4 ≤ a 0) := fun qq => c76_3 ((nj_le (a := 4) (b := a 0) (by have := hBa 0; omega) (by have := hBa 0; omega)).mpr qq)
        refine g_iconst C dX5_isAsItMustBe_79 ic_1 ?_
        refine g_goto (tgt := 84) C dX5_isAsItMustBe_80 rfl ?_
        refine g_iret C r rfl dX5_isAsItMustBe_84 ?_
        rw [hef, if_pos (by omega)]
        exact ⟨(if_pos rfl).symm, rfl⟩
set_option maxRecDepth 100000 in
set_option maxHeartbeats 4000000 in
theorem ct_must_s (l : Launch) (w : WD) (hN : 54 ≤ wN w) (σ : SG) (c : Nat → Nat) (p p' : Nat) (a : Row) (hM : Mr σ 40 a) (hB : Bd a) (hf : FD σ c p) (e0 : c p = 115) (d1 : dgt (c (p + 1))) (h99 : two c (p + 2) ≤ 99) : CtI l w yX5_isAsItMustBe cX5_isAsItMustBe 1 (some .boolean) 1 0 0 [.ref (wA w 38)] σ (fun r τ => r = bI ((effS c a p).isSome = true) ∧ τ = σ) := by
  refine CtI.mk (by decide) (Nat.le_of_ble_eq_true rfl) ?_
  intro K C hr h0
  have r := RI.of hr h0
  clear hr h0
  show G l w K 0 [(0, .ref (wA w 38))] [] σ
  obtain ⟨hBa, hB0, hB1, hB2, hB3, hB4, hB5, hB6, hB7, hBs, hBp, hBe⟩ := id hB
  have hef : effS c a p = if c (p + 1) - 48 < 5 ∧ two c (p + 2) ≤ 60 then some (ua a (10 + (c (p + 1) - 48)) (two c (p + 2))) else none := by unfold effS; rw [if_neg (by omega)]; rw [if_pos e0]
  refine g_aload_n C dX5_isAsItMustBe_0 rfl rfl ?_
  refine g_get (v := .int (σ 38 22)) C fl_X5_132 fs_X5_132 (Nat.lt_of_lt_of_le (by decide) hN) rfl rfl dX5_isAsItMustBe_1 ?_
  refine g_val (y := 1) (hf.2.1 e0).1 ?_
  refine g_tsw (v := 1) (tgt := 85) C dX5_isAsItMustBe_4 rfl (by decide) (by decide) rfl rfl ?_
  refine g_aload_n C dX5_isAsItMustBe_85 rfl rfl ?_
  refine g_get (v := .ref (wA w 51)) C fl_X5_47 fs_X5_47 (Nat.lt_of_lt_of_le (by decide) hN) rfl rfl dX5_isAsItMustBe_86 ?_
  refine g_iconst C dX5_isAsItMustBe_89 ic_0 ?_
  refine g_ial (k0 := 51) (n := 7) C (Nat.lt_of_lt_of_le (by decide) hN) rfl (j := 0) (by unfold ix; decide) dX5_isAsItMustBe_90 ?_
  refine g_val (y := nI (c (p + 1) - 48)) (hf.2.1 e0).2.1 ?_
  refine g_iconst C dX5_isAsItMustBe_91 ic_5 ?_
  refine g_icmp_ge (tgt := 110) C dX5_isAsItMustBe_92 rfl (fun c92_1 => ?_) (fun c92_1 => ?_)
  · skip
    have n92_1 : 5 ≤ c (p + 1) - 48 := (nj_le (a := 5) (b := c (p + 1) - 48) (by omega) (by omega)).mp c92_1
    refine g_iconst C dX5_isAsItMustBe_110 ic_0 ?_
    refine g_iret C r rfl dX5_isAsItMustBe_111 ?_
    rw [hef, if_neg (by omega)]
    exact ⟨(if_neg (by decide)).symm, rfl⟩
  · skip
    have n92_1 : ¬ (5 ≤ c (p + 1) - 48) := fun qq => c92_1 ((nj_le (a := 5) (b := c (p + 1) - 48) (by omega) (by omega)).mpr qq)
    refine g_aload_n C dX5_isAsItMustBe_95 rfl rfl ?_
    refine g_get (v := .ref (wA w 51)) C fl_X5_47 fs_X5_47 (Nat.lt_of_lt_of_le (by decide) hN) rfl rfl dX5_isAsItMustBe_96 ?_
    refine g_iconst C dX5_isAsItMustBe_99 ic_1 ?_
    refine g_ial (k0 := 51) (n := 7) C (Nat.lt_of_lt_of_le (by decide) hN) rfl (j := 1) (by unfold ix; decide) dX5_isAsItMustBe_100 ?_
    refine g_val (y := nI (two c (p + 2))) (hf.2.1 e0).2.2 ?_
    refine g_bipush C dX5_isAsItMustBe_101 bp_60 ?_
    refine g_icmp_gt (tgt := 110) C dX5_isAsItMustBe_103 rfl (fun c103_2 => ?_) (fun c103_2 => ?_)
    · skip
      have n103_2 : 60 < two c (p + 2) := (nj_lt (a := 60) (b := two c (p + 2)) (by omega) (by omega)).mp c103_2
      refine g_iconst C dX5_isAsItMustBe_110 ic_0 ?_
      refine g_iret C r rfl dX5_isAsItMustBe_111 ?_
      rw [hef, if_neg (by omega)]
      exact ⟨(if_neg (by decide)).symm, rfl⟩
    · skip
      have n103_2 : ¬ (60 < two c (p + 2)) := fun qq => c103_2 ((nj_lt (a := 60) (b := two c (p + 2)) (by omega) (by omega)).mpr qq)
      refine g_iconst C dX5_isAsItMustBe_106 ic_1 ?_
      refine g_goto (tgt := 111) C dX5_isAsItMustBe_107 rfl ?_
      refine g_iret C r rfl dX5_isAsItMustBe_111 ?_
      rw [hef, if_pos (by omega)]
      exact ⟨(if_pos rfl).symm, rfl⟩
set_option maxRecDepth 100000 in
set_option maxHeartbeats 4000000 in
theorem ct_must_w (l : Launch) (w : WD) (hN : 54 ≤ wN w) (σ : SG) (c : Nat → Nat) (p p' : Nat) (a : Row) (hM : Mr σ 40 a) (hB : Bd a) (hf : FD σ c p) (e0 : c p = 119) : CtI l w yX5_isAsItMustBe cX5_isAsItMustBe 1 (some .boolean) 1 0 0 [.ref (wA w 38)] σ (fun r τ => r = bI ((effS c a p).isSome = true) ∧ τ = σ) := by
  refine CtI.mk (by decide) (Nat.le_of_ble_eq_true rfl) ?_
  intro K C hr h0
  have r := RI.of hr h0
  clear hr h0
  show G l w K 0 [(0, .ref (wA w 38))] [] σ
  obtain ⟨hBa, hB0, hB1, hB2, hB3, hB4, hB5, hB6, hB7, hBs, hBp, hBe⟩ := id hB
  have hef : effS c a p = some (opR c p 7 a) := by unfold effS; rw [if_neg (by omega)]; rw [if_neg (by omega)]; rw [if_pos e0]
  refine g_aload_n C dX5_isAsItMustBe_0 rfl rfl ?_
  refine g_get (v := .int (σ 38 22)) C fl_X5_132 fs_X5_132 (Nat.lt_of_lt_of_le (by decide) hN) rfl rfl dX5_isAsItMustBe_1 ?_
  refine g_val (y := 2) (hf.2.2.1 e0).1 ?_
  refine g_tsw (v := 2) (tgt := 147) C dX5_isAsItMustBe_4 rfl (by decide) (by decide) rfl rfl ?_
  refine g_iconst C dX5_isAsItMustBe_147 ic_1 ?_
  refine g_iret C r rfl dX5_isAsItMustBe_148 ?_
  rw [hef]
  exact ⟨(if_pos rfl).symm, rfl⟩
set_option maxRecDepth 100000 in
set_option maxHeartbeats 4000000 in
theorem ct_must_b (l : Launch) (w : WD) (hN : 54 ≤ wN w) (σ : SG) (c : Nat → Nat) (p p' : Nat) (a : Row) (hM : Mr σ 40 a) (hB : Bd a) (hf : FD σ c p) (e0 : c p = 98) (h99 : two c (p + 1) ≤ 99) : CtI l w yX5_isAsItMustBe cX5_isAsItMustBe 1 (some .boolean) 1 0 0 [.ref (wA w 38)] σ (fun r τ => r = bI ((effS c a p).isSome = true) ∧ τ = σ) := by
  refine CtI.mk (by decide) (Nat.le_of_ble_eq_true rfl) ?_
  intro K C hr h0
  have r := RI.of hr h0
  clear hr h0
  show G l w K 0 [(0, .ref (wA w 38))] [] σ
  obtain ⟨hBa, hB0, hB1, hB2, hB3, hB4, hB5, hB6, hB7, hBs, hBp, hBe⟩ := id hB
  have hef : effS c a p = if two c (p + 1) ≤ 30 then some (ua (ua a 2 (two c (p + 1))) 3 (c (p + 3) - 48)) else none := by unfold effS; rw [if_neg (by omega)]; rw [if_neg (by omega)]; rw [if_neg (by omega)]; rw [if_pos e0]
  refine g_aload_n C dX5_isAsItMustBe_0 rfl rfl ?_
  refine g_get (v := .int (σ 38 22)) C fl_X5_132 fs_X5_132 (Nat.lt_of_lt_of_le (by decide) hN) rfl rfl dX5_isAsItMustBe_1 ?_
  refine g_val (y := 3) (hf.2.2.2.1 e0).1 ?_
  refine g_tsw (v := 3) (tgt := 112) C dX5_isAsItMustBe_4 rfl (by decide) (by decide) rfl rfl ?_
  refine g_aload_n C dX5_isAsItMustBe_112 rfl rfl ?_
  refine g_get (v := .ref (wA w 51)) C fl_X5_47 fs_X5_47 (Nat.lt_of_lt_of_le (by decide) hN) rfl rfl dX5_isAsItMustBe_113 ?_
  refine g_iconst C dX5_isAsItMustBe_116 ic_0 ?_
  refine g_ial (k0 := 51) (n := 7) C (Nat.lt_of_lt_of_le (by decide) hN) rfl (j := 0) (by unfold ix; decide) dX5_isAsItMustBe_117 ?_
  refine g_val (y := nI (two c (p + 1))) (hf.2.2.2.1 e0).2.1 ?_
  refine g_bipush C dX5_isAsItMustBe_118 bp_30 ?_
  refine g_icmp_gt (tgt := 127) C dX5_isAsItMustBe_120 rfl (fun c120_1 => ?_) (fun c120_1 => ?_)
  · skip
    have n120_1 : 30 < two c (p + 1) := (nj_lt (a := 30) (b := two c (p + 1)) (by omega) (by omega)).mp c120_1
    refine g_iconst C dX5_isAsItMustBe_127 ic_0 ?_
    refine g_iret C r rfl dX5_isAsItMustBe_128 ?_
    rw [hef, if_neg (by omega)]
    exact ⟨(if_neg (by decide)).symm, rfl⟩
  · skip
    have n120_1 : ¬ (30 < two c (p + 1)) := fun qq => c120_1 ((nj_lt (a := 30) (b := two c (p + 1)) (by omega) (by omega)).mpr qq)
    refine g_iconst C dX5_isAsItMustBe_123 ic_1 ?_
    refine g_goto (tgt := 128) C dX5_isAsItMustBe_124 rfl ?_
    refine g_iret C r rfl dX5_isAsItMustBe_128 ?_
    rw [hef, if_pos (by omega)]
    exact ⟨(if_pos rfl).symm, rfl⟩
set_option maxRecDepth 100000 in
set_option maxHeartbeats 4000000 in
theorem ct_must_h (l : Launch) (w : WD) (hN : 54 ≤ wN w) (σ : SG) (c : Nat → Nat) (p p' : Nat) (a : Row) (hM : Mr σ 40 a) (hB : Bd a) (hf : FD σ c p) (e0 : c p = 104) : CtI l w yX5_isAsItMustBe cX5_isAsItMustBe 1 (some .boolean) 1 0 0 [.ref (wA w 38)] σ (fun r τ => r = bI ((effS c a p).isSome = true) ∧ τ = σ) := by
  refine CtI.mk (by decide) (Nat.le_of_ble_eq_true rfl) ?_
  intro K C hr h0
  have r := RI.of hr h0
  clear hr h0
  show G l w K 0 [(0, .ref (wA w 38))] [] σ
  obtain ⟨hBa, hB0, hB1, hB2, hB3, hB4, hB5, hB6, hB7, hBs, hBp, hBe⟩ := id hB
  have hef : effS c a p = some (ua a 7 (kiH c p)) := by unfold effS; rw [if_neg (by omega)]; rw [if_neg (by omega)]; rw [if_neg (by omega)]; rw [if_neg (by omega)]; rw [if_pos e0]
  refine g_aload_n C dX5_isAsItMustBe_0 rfl rfl ?_
  refine g_get (v := .int (σ 38 22)) C fl_X5_132 fs_X5_132 (Nat.lt_of_lt_of_le (by decide) hN) rfl rfl dX5_isAsItMustBe_1 ?_
  refine g_val (y := 4) (hf.2.2.2.2.1 e0).1 ?_
  refine g_tsw (v := 4) (tgt := 147) C dX5_isAsItMustBe_4 rfl (by decide) (by decide) rfl rfl ?_
  refine g_iconst C dX5_isAsItMustBe_147 ic_1 ?_
  refine g_iret C r rfl dX5_isAsItMustBe_148 ?_
  rw [hef]
  exact ⟨(if_pos rfl).symm, rfl⟩
set_option maxRecDepth 100000 in
set_option maxHeartbeats 4000000 in
theorem ct_must_c (l : Launch) (w : WD) (hN : 54 ≤ wN w) (σ : SG) (c : Nat → Nat) (p p' : Nat) (a : Row) (hM : Mr σ 40 a) (hB : Bd a) (hf : FD σ c p) (e0 : c p = 99) : CtI l w yX5_isAsItMustBe cX5_isAsItMustBe 1 (some .boolean) 1 0 0 [.ref (wA w 38)] σ (fun r τ => r = bI ((effS c a p).isSome = true) ∧ τ = σ) := by
  refine CtI.mk (by decide) (Nat.le_of_ble_eq_true rfl) ?_
  intro K C hr h0
  have r := RI.of hr h0
  clear hr h0
  show G l w K 0 [(0, .ref (wA w 38))] [] σ
  obtain ⟨hBa, hB0, hB1, hB2, hB3, hB4, hB5, hB6, hB7, hBs, hBp, hBe⟩ := id hB
  have hef : effS c a p = some (ua (ua (ua a 4 (c (p + 1) - 48)) 5 (c (p + 2) - 48)) 6 (c (p + 3) - 48)) := by unfold effS; rw [if_neg (by omega)]; rw [if_neg (by omega)]; rw [if_neg (by omega)]; rw [if_neg (by omega)]; rw [if_neg (by omega)]; rw [if_pos e0]
  refine g_aload_n C dX5_isAsItMustBe_0 rfl rfl ?_
  refine g_get (v := .int (σ 38 22)) C fl_X5_132 fs_X5_132 (Nat.lt_of_lt_of_le (by decide) hN) rfl rfl dX5_isAsItMustBe_1 ?_
  refine g_val (y := 5) (hf.2.2.2.2.2.1 e0).1 ?_
  refine g_tsw (v := 5) (tgt := 147) C dX5_isAsItMustBe_4 rfl (by decide) (by decide) rfl rfl ?_
  refine g_iconst C dX5_isAsItMustBe_147 ic_1 ?_
  refine g_iret C r rfl dX5_isAsItMustBe_148 ?_
  rw [hef]
  exact ⟨(if_pos rfl).symm, rfl⟩
set_option maxRecDepth 100000 in
set_option maxHeartbeats 4000000 in
theorem ct_must_d (l : Launch) (w : WD) (hN : 54 ≤ wN w) (σ : SG) (c : Nat → Nat) (p p' : Nat) (a : Row) (hM : Mr σ 40 a) (hB : Bd a) (hf : FD σ c p) (e0 : c p = 100) : CtI l w yX5_isAsItMustBe cX5_isAsItMustBe 1 (some .boolean) 1 0 0 [.ref (wA w 38)] σ (fun r τ => r = bI ((effS c a p).isSome = true) ∧ τ = σ) := by
  refine CtI.mk (by decide) (Nat.le_of_ble_eq_true rfl) ?_
  intro K C hr h0
  have r := RI.of hr h0
  clear hr h0
  show G l w K 0 [(0, .ref (wA w 38))] [] σ
  obtain ⟨hBa, hB0, hB1, hB2, hB3, hB4, hB5, hB6, hB7, hBs, hBp, hBe⟩ := id hB
  have hef : effS c a p = if a 1 < 9999 then some (dyR (hun a) a 0) else none := by unfold effS; rw [if_neg (by omega)]; rw [if_neg (by omega)]; rw [if_neg (by omega)]; rw [if_neg (by omega)]; rw [if_neg (by omega)]; rw [if_neg (by omega)]; skip
  refine g_aload_n C dX5_isAsItMustBe_0 rfl rfl ?_
  refine g_get (v := .int (σ 38 22)) C fl_X5_132 fs_X5_132 (Nat.lt_of_lt_of_le (by decide) hN) rfl rfl dX5_isAsItMustBe_1 ?_
  refine g_val (y := 6) (hf.2.2.2.2.2.2 e0) ?_
  refine g_tsw (v := 6) (tgt := 129) C dX5_isAsItMustBe_4 rfl (by decide) (by decide) rfl rfl ?_
  refine g_aload_n C dX5_isAsItMustBe_129 rfl rfl ?_
  refine g_get (v := .ref (wA w 40)) C fl_X5_13 fs_X5_13 (Nat.lt_of_lt_of_le (by decide) hN) rfl rfl dX5_isAsItMustBe_130 ?_
  refine g_iconst C dX5_isAsItMustBe_133 ic_1 ?_
  refine g_ial (k0 := 40) (n := 46) C (Nat.lt_of_lt_of_le (by decide) hN) rfl (j := 1) (by unfold ix; decide) dX5_isAsItMustBe_134 ?_
  refine g_val (y := nI (a 1)) (hM 1 (by omega)) ?_
  refine g_sipush C dX5_isAsItMustBe_135 sp_9999 ?_
  refine g_icmp_ge (tgt := 145) C dX5_isAsItMustBe_138 rfl (fun c138_1 => ?_) (fun c138_1 => ?_)
  · skip
    have n138_1 : 9999 ≤ a 1 := (nj_le (a := 9999) (b := a 1) (by have := hBa 1; omega) (by have := hBa 1; omega)).mp c138_1
    refine g_iconst C dX5_isAsItMustBe_145 ic_0 ?_
    refine g_iret C r rfl dX5_isAsItMustBe_146 ?_
    rw [hef, if_neg (by omega)]
    exact ⟨(if_neg (by decide)).symm, rfl⟩
  · skip
    have n138_1 : ¬ (9999 ≤ a 1) := fun qq => c138_1 ((nj_le (a := 9999) (b := a 1) (by have := hBa 1; omega) (by have := hBa 1; omega)).mpr qq)
    refine g_iconst C dX5_isAsItMustBe_141 ic_1 ?_
    refine g_goto (tgt := 146) C dX5_isAsItMustBe_142 rfl ?_
    refine g_iret C r rfl dX5_isAsItMustBe_146 ?_
    rw [hef, if_pos (by omega)]
    exact ⟨(if_pos rfl).symm, rfl⟩
theorem ct_X5_isAsItMustBe (l : Launch) (w : WD) (hN : 54 ≤ wN w) (σ : SG) (c : Nat → Nat) (p p' : Nat) (a : Row) (hM : Mr σ 40 a) (hB : Bd a) (hf : FD σ c p) (hS : Stm c p p') : CtI l w yX5_isAsItMustBe cX5_isAsItMustBe 1 (some .boolean) 1 0 0 [.ref (wA w 38)] σ (fun r τ => r = bI ((effS c a p).isSome = true) ∧ τ = σ) := by
  rcases hS with ⟨e, k1, d1, d2, d3, h1⟩ | ⟨e, d1, d2, d3, d4, h1⟩ | ⟨e, d1, d2, h1⟩ | ⟨e, d1, d2, d3, d4, h1⟩ | ⟨e, k1, d2, h1⟩ | ⟨e, d1, d2, d3, d4, h1⟩ | ⟨e, d1, h1⟩
  · exact ct_must_e l w hN σ c p p' a hM hB hf e (sml_c d3 (h1.elim (fun z => Or.inl ⟨z.1, True.intro⟩) (fun z => Or.inr z.1)))
  · exact ct_must_s l w hN σ c p p' a hM hB hf e d1 (two_le d2 d3)
  · exact ct_must_w l w hN σ c p p' a hM hB hf e
  · exact ct_must_b l w hN σ c p p' a hM hB hf e (two_le d1 d2)
  · exact ct_must_h l w hN σ c p p' a hM hB hf e
  · exact ct_must_c l w hN σ c p p' a hM hB hf e
  · exact ct_must_d l w hN σ c p p' a hM hB hf e
set_option maxRecDepth 100000 in
set_option maxHeartbeats 4000000 in
theorem ct_take_e (l : Launch) (w : WD) (hN : 54 ≤ wN w) (σ : SG) (c : Nat → Nat) (p p' : Nat) (a : Row) (hM : Mr σ 40 a) (hB : Bd a) (a' : Row) (hf : FD σ c p) (e0 : c p = 101) (h4 : a 0 < 4) (he : ∀ j, j < 46 → a' j = addE a (kiE c p) (c (p + 2) - 48) (c (p + 3) - 48) (chn c p) j) : CtV l w yX5_take cX5_take 2 5 0 0 [.ref (wA w 38)] σ (fun τ => Mr τ 40 a' ∧ FrT σ τ) := by
  refine CtV.mk (by decide) (Nat.le_of_ble_eq_true rfl) ?_
  intro K C hr h0
  have r := RV.of hr h0
  clear hr h0
  show G l w K 0 [(0, .ref (wA w 38))] [] σ
  obtain ⟨hBa, hB0, hB1, hB2, hB3, hB4, hB5, hB6, hB7, hBs, hBp, hBe⟩ := id hB
  obtain ⟨-, f0, f1, f2, f3⟩ := hf.1 e0
  have hfE : ∀ k, k < 4 → σ 51 k = nI (fE c p k) := fun k hk => by have z : k = 0 ∨ k = 1 ∨ k = 2 ∨ k = 3 := (by omega); rcases z with rfl | rfl | rfl | rfl; exact f0; exact f1; exact f2; exact f3
  refine g_aload_n C dX5_take_0 rfl rfl ?_
  refine g_get (v := .int (σ 38 22)) C fl_X5_132 fs_X5_132 (Nat.lt_of_lt_of_le (by decide) hN) rfl rfl dX5_take_1 ?_
  refine g_val (y := 0) (hf.1 e0).1 ?_
  refine g_tsw (v := 0) (tgt := 44) C dX5_take_4 rfl (by decide) (by decide) rfl rfl ?_
  refine g_iconst C dX5_take_44 ic_0 ?_
  refine g_istore_n (lv' := [(1, .int 0), (0, .ref (wA w 38))]) C dX5_take_45 rfl (by decide) rfl ?_
  have L46 : ∀ (m46 : Nat) (i : Nat) (σ1 : SG), m46 = 4 - i → (i ≤ 4) → (Mr σ1 40 (aE c p i a)) → (FrT σ σ1) → G l w K 46 [(0, .ref (wA w 38)), (1, .int (nI i))] [] σ1 := by
    intro m46
    induction m46 using Nat.strongRecOn with
    | ind m46 ih46 =>
    intro i σ1 em46 hi hM1 hF1
    have hf51 : ∀ k, k < 4 → σ1 51 k = nI (fE c p k) := by rw [hF1.1 51 (by decide) (by decide) (by decide) (by decide)]; exact hfE
    refine g_iload_n C dX5_take_46 rfl rfl ?_
    refine g_iconst C dX5_take_47 ic_4 ?_
    refine g_icmp_ge (tgt := 81) C dX5_take_48 rfl (fun c48_1 => ?_) (fun c48_1 => ?_)
    · skip
      have n48_1 : 4 ≤ i := (nj_le (a := 4) (b := i) (by omega) (by omega)).mp c48_1
      obtain rfl : i = 4 := by omega
      refine g_aload_n C dX5_take_81 rfl rfl ?_
      refine g_get (v := .ref (wA w 40)) C fl_X5_13 fs_X5_13 (Nat.lt_of_lt_of_le (by decide) hN) rfl rfl dX5_take_82 ?_
      refine g_iconst C dX5_take_85 ic_0 ?_
      refine g_dup2 C dX5_take_86 rfl rfl ?_
      refine g_ial (k0 := 40) (n := 46) C (Nat.lt_of_lt_of_le (by decide) hN) rfl (j := 0) (by unfold ix; decide) dX5_take_87 ?_
      refine g_val (y := nI (a 0)) ((hM1 0 (by decide)).trans (congrArg nI (aE_n c p 4 a))) ?_
      refine g_iconst C dX5_take_88 ic_1 ?_
      refine g_iaddv (v := nI ((a 0) + 1)) C (nj_plus (a 0) 1) dX5_take_89 ?_
      refine g_ias (k0 := 40) (n := 46) C (Nat.lt_of_lt_of_le (by decide) hN) rfl (j := 0) (by unfold ix; decide) dX5_take_90 (fun σy hσy => ?_)
      refine g_goto (tgt := 239) C dX5_take_91 rfl ?_
      refine g_vret C r dX5_take_239 ?_
      refine ⟨?_, hF1.tr (by rw [hσy]; exact FrT.u)⟩
      rw [hσy]
      exact (hM1.u (k := 0) (v := a 0 + 1)).ext (fun j hj => (he j hj).trans (aE_4 c p a j))
    · skip
      have n48_1 : ¬ (4 ≤ i) := fun qq => c48_1 ((nj_le (a := 4) (b := i) (by omega) (by omega)).mpr qq)
      refine g_aload_n C dX5_take_51 rfl rfl ?_
      refine g_get (v := .ref (wA w 40)) C fl_X5_13 fs_X5_13 (Nat.lt_of_lt_of_le (by decide) hN) rfl rfl dX5_take_52 ?_
      refine g_bipush C dX5_take_55 bp_30 ?_
      refine g_iconst C dX5_take_57 ic_4 ?_
      refine g_aload_n C dX5_take_58 rfl rfl ?_
      refine g_get (v := .ref (wA w 40)) C fl_X5_13 fs_X5_13 (Nat.lt_of_lt_of_le (by decide) hN) rfl rfl dX5_take_59 ?_
      refine g_iconst C dX5_take_62 ic_0 ?_
      refine g_ial (k0 := 40) (n := 46) C (Nat.lt_of_lt_of_le (by decide) hN) rfl (j := 0) (by unfold ix; decide) dX5_take_63 ?_
      refine g_val (y := nI (a 0)) ((hM1 0 (by decide)).trans (congrArg nI (aE_n c p i a))) ?_
      refine g_imulv (v := nI (4 * (a 0))) C (nj_times 4 (a 0)) dX5_take_64 ?_
      refine g_iaddv (v := nI (30 + (4 * (a 0)))) C (nj_plus 30 (4 * (a 0))) dX5_take_65 ?_
      refine g_iload_n C dX5_take_66 rfl rfl ?_
      refine g_iaddv (v := nI ((30 + (4 * (a 0))) + i)) C (nj_plus (30 + (4 * (a 0))) i) dX5_take_67 ?_
      refine g_aload_n C dX5_take_68 rfl rfl ?_
      refine g_get (v := .ref (wA w 51)) C fl_X5_47 fs_X5_47 (Nat.lt_of_lt_of_le (by decide) hN) rfl rfl dX5_take_69 ?_
      refine g_iload_n C dX5_take_72 rfl rfl ?_
      refine g_ial (k0 := 51) (n := 7) C (Nat.lt_of_lt_of_le (by decide) hN) rfl (j := i) (ix_n (by omega)) dX5_take_73 ?_
      refine g_val (y := nI (fE c p i)) (hf51 i (by omega)) ?_
      refine g_ias (k0 := 40) (n := 46) C (Nat.lt_of_lt_of_le (by decide) hN) rfl (j := (30 + (4 * (a 0))) + i) (ix_n (by omega)) dX5_take_74 (fun σz hσz => ?_)
      refine g_iinc (v := nI (i + 1)) (lv' := [(1, .int (nI (i + 1))), (0, .ref (wA w 38))]) C dX5_take_75 (by decide) rfl (nj_inc i) rfl ?_
      refine g_goto (tgt := 46) C dX5_take_78 rfl ?_
      exact g_lvp [1, 0] rfl (ih46 (4 - (i + 1)) (by omega) (i + 1) σz rfl (by first | omega | assumption | rfl | grind) (by rw [hσz]; exact hM1.u.ext (fun j _ => aE_s c p i a j)) (hF1.tr (by rw [hσz]; exact FrT.u)))
  exact g_lvp [1, 0] rfl (L46 (4 - 0) 0 σ rfl (by first | omega | assumption | rfl | grind) (hM.ext (fun j _ => aE_0 c p a j)) (FrT.rf))
set_option maxRecDepth 100000 in
set_option maxHeartbeats 4000000 in
theorem ct_take_s (l : Launch) (w : WD) (hN : 54 ≤ wN w) (σ : SG) (c : Nat → Nat) (p p' : Nat) (a : Row) (hM : Mr σ 40 a) (hB : Bd a) (a' : Row) (hf : FD σ c p) (e0 : c p = 115) (d1 : dgt (c (p + 1))) (h5 : c (p + 1) - 48 < 5) (he : ∀ j, j < 46 → a' j = ua a (10 + (c (p + 1) - 48)) (two c (p + 2)) j) : CtV l w yX5_take cX5_take 2 5 0 0 [.ref (wA w 38)] σ (fun τ => Mr τ 40 a' ∧ FrT σ τ) := by
  refine CtV.mk (by decide) (Nat.le_of_ble_eq_true rfl) ?_
  intro K C hr h0
  have r := RV.of hr h0
  clear hr h0
  show G l w K 0 [(0, .ref (wA w 38))] [] σ
  obtain ⟨hBa, hB0, hB1, hB2, hB3, hB4, hB5, hB6, hB7, hBs, hBp, hBe⟩ := id hB
  refine g_aload_n C dX5_take_0 rfl rfl ?_
  refine g_get (v := .int (σ 38 22)) C fl_X5_132 fs_X5_132 (Nat.lt_of_lt_of_le (by decide) hN) rfl rfl dX5_take_1 ?_
  refine g_val (y := 1) (hf.2.1 e0).1 ?_
  refine g_tsw (v := 1) (tgt := 94) C dX5_take_4 rfl (by decide) (by decide) rfl rfl ?_
  refine g_aload_n C dX5_take_94 rfl rfl ?_
  refine g_get (v := .ref (wA w 40)) C fl_X5_13 fs_X5_13 (Nat.lt_of_lt_of_le (by decide) hN) rfl rfl dX5_take_95 ?_
  refine g_bipush C dX5_take_98 bp_10 ?_
  refine g_aload_n C dX5_take_100 rfl rfl ?_
  refine g_get (v := .ref (wA w 51)) C fl_X5_47 fs_X5_47 (Nat.lt_of_lt_of_le (by decide) hN) rfl rfl dX5_take_101 ?_
  refine g_iconst C dX5_take_104 ic_0 ?_
  refine g_ial (k0 := 51) (n := 7) C (Nat.lt_of_lt_of_le (by decide) hN) rfl (j := 0) (by unfold ix; decide) dX5_take_105 ?_
  refine g_val (y := nI (c (p + 1) - 48)) (hf.2.1 e0).2.1 ?_
  refine g_iaddv (v := nI (10 + (c (p + 1) - 48))) C (nj_plus 10 (c (p + 1) - 48)) dX5_take_106 ?_
  refine g_aload_n C dX5_take_107 rfl rfl ?_
  refine g_get (v := .ref (wA w 51)) C fl_X5_47 fs_X5_47 (Nat.lt_of_lt_of_le (by decide) hN) rfl rfl dX5_take_108 ?_
  refine g_iconst C dX5_take_111 ic_1 ?_
  refine g_ial (k0 := 51) (n := 7) C (Nat.lt_of_lt_of_le (by decide) hN) rfl (j := 1) (by unfold ix; decide) dX5_take_112 ?_
  refine g_val (y := nI (two c (p + 2))) (hf.2.1 e0).2.2 ?_
  refine g_ias (k0 := 40) (n := 46) C (Nat.lt_of_lt_of_le (by decide) hN) rfl (j := 10 + (c (p + 1) - 48)) (ix_n (by omega)) dX5_take_113 (fun σz hσz => ?_)
  refine g_goto (tgt := 239) C dX5_take_114 rfl ?_
  refine g_vret C r dX5_take_239 ?_
  rw [hσz]
  exact ⟨hM.u.ext he, FrT.u⟩
set_option maxRecDepth 100000 in
set_option maxHeartbeats 4000000 in
theorem ct_take_w (l : Launch) (w : WD) (hN : 54 ≤ wN w) (σ : SG) (c : Nat → Nat) (p p' : Nat) (a : Row) (hM : Mr σ 40 a) (hB : Bd a) (a' : Row) (hf : FD σ c p) (e0 : c p = 119) (he : ∀ j, j < 46 → a' j = opR c p 7 a j) : CtV l w yX5_take cX5_take 2 5 0 0 [.ref (wA w 38)] σ (fun τ => Mr τ 40 a' ∧ FrT σ τ) := by
  refine CtV.mk (by decide) (Nat.le_of_ble_eq_true rfl) ?_
  intro K C hr h0
  have r := RV.of hr h0
  clear hr h0
  show G l w K 0 [(0, .ref (wA w 38))] [] σ
  obtain ⟨hBa, hB0, hB1, hB2, hB3, hB4, hB5, hB6, hB7, hBs, hBp, hBe⟩ := id hB
  refine g_aload_n C dX5_take_0 rfl rfl ?_
  refine g_get (v := .int (σ 38 22)) C fl_X5_132 fs_X5_132 (Nat.lt_of_lt_of_le (by decide) hN) rfl rfl dX5_take_1 ?_
  refine g_val (y := 2) (hf.2.2.1 e0).1 ?_
  refine g_tsw (v := 2) (tgt := 117) C dX5_take_4 rfl (by decide) (by decide) rfl rfl ?_
  refine g_iconst C dX5_take_117 ic_0 ?_
  refine g_istore_n (lv' := [(1, .int 0), (0, .ref (wA w 38))]) C dX5_take_118 rfl (by decide) rfl ?_
  have L119 : ∀ (m119 : Nat) (i : Nat) (σ1 : SG), m119 = 7 - i → (i ≤ 7) → (Mr σ1 40 (opR c p i a)) → (FrT σ σ1) → G l w K 119 [(0, .ref (wA w 38)), (1, .int (nI i))] [] σ1 := by
    intro m119
    induction m119 using Nat.strongRecOn with
    | ind m119 ih119 =>
    intro i σ1 em119 hi hM1 hF1
    have hf51 : ∀ k, k < 7 → σ1 51 k = nI (fW c p k) := by rw [hF1.1 51 (by decide) (by decide) (by decide) (by decide)]; exact (hf.2.2.1 e0).2
    refine g_iload_n C dX5_take_119 rfl rfl ?_
    refine g_bipush C dX5_take_120 bp_7 ?_
    refine g_icmp_ge (tgt := 146) C dX5_take_122 rfl (fun c122_1 => ?_) (fun c122_1 => ?_)
    · skip
      have n122_1 : 7 ≤ i := (nj_le (a := 7) (b := i) (by omega) (by omega)).mp c122_1
      obtain rfl : i = 7 := by omega
      refine g_goto (tgt := 239) C dX5_take_146 rfl ?_
      refine g_vret C r dX5_take_239 ?_
      exact ⟨hM1.ext he, hF1⟩
    · skip
      have n122_1 : ¬ (7 ≤ i) := fun qq => c122_1 ((nj_le (a := 7) (b := i) (by omega) (by omega)).mpr qq)
      refine g_aload_n C dX5_take_125 rfl rfl ?_
      refine g_get (v := .ref (wA w 40)) C fl_X5_13 fs_X5_13 (Nat.lt_of_lt_of_le (by decide) hN) rfl rfl dX5_take_126 ?_
      refine g_bipush C dX5_take_129 bp_20 ?_
      refine g_iload_n C dX5_take_131 rfl rfl ?_
      refine g_iaddv (v := nI (20 + i)) C (nj_plus 20 i) dX5_take_132 ?_
      refine g_aload_n C dX5_take_133 rfl rfl ?_
      refine g_get (v := .ref (wA w 51)) C fl_X5_47 fs_X5_47 (Nat.lt_of_lt_of_le (by decide) hN) rfl rfl dX5_take_134 ?_
      refine g_iload_n C dX5_take_137 rfl rfl ?_
      refine g_ial (k0 := 51) (n := 7) C (Nat.lt_of_lt_of_le (by decide) hN) rfl (j := i) (ix_n (by omega)) dX5_take_138 ?_
      refine g_val (y := nI (fW c p i)) (hf51 i (by omega)) ?_
      refine g_ias (k0 := 40) (n := 46) C (Nat.lt_of_lt_of_le (by decide) hN) rfl (j := 20 + i) (ix_n (by omega)) dX5_take_139 (fun σz hσz => ?_)
      refine g_iinc (v := nI (i + 1)) (lv' := [(1, .int (nI (i + 1))), (0, .ref (wA w 38))]) C dX5_take_140 (by decide) rfl (nj_inc i) rfl ?_
      refine g_goto (tgt := 119) C dX5_take_143 rfl ?_
      exact g_lvp [1, 0] rfl (ih119 (7 - (i + 1)) (by omega) (i + 1) σz rfl (by first | omega | assumption | rfl | grind) (by rw [hσz]; exact hM1.u.ext (fun j _ => opR_s c p i a j)) (hF1.tr (by rw [hσz]; exact FrT.u)))
  exact g_lvp [1, 0] rfl (L119 (7 - 0) 0 σ rfl (by first | omega | assumption | rfl | grind) (hM.ext (fun j _ => opR_0 c p a j)) (FrT.rf))
set_option maxRecDepth 100000 in
set_option maxHeartbeats 4000000 in
theorem ct_take_b (l : Launch) (w : WD) (hN : 54 ≤ wN w) (σ : SG) (c : Nat → Nat) (p p' : Nat) (a : Row) (hM : Mr σ 40 a) (hB : Bd a) (a' : Row) (hf : FD σ c p) (e0 : c p = 98) (he : ∀ j, j < 46 → a' j = ua (ua a 2 (two c (p + 1))) 3 (c (p + 3) - 48) j) : CtV l w yX5_take cX5_take 2 5 0 0 [.ref (wA w 38)] σ (fun τ => Mr τ 40 a' ∧ FrT σ τ) := by
  refine CtV.mk (by decide) (Nat.le_of_ble_eq_true rfl) ?_
  intro K C hr h0
  have r := RV.of hr h0
  clear hr h0
  show G l w K 0 [(0, .ref (wA w 38))] [] σ
  obtain ⟨hBa, hB0, hB1, hB2, hB3, hB4, hB5, hB6, hB7, hBs, hBp, hBe⟩ := id hB
  refine g_aload_n C dX5_take_0 rfl rfl ?_
  refine g_get (v := .int (σ 38 22)) C fl_X5_132 fs_X5_132 (Nat.lt_of_lt_of_le (by decide) hN) rfl rfl dX5_take_1 ?_
  refine g_val (y := 3) (hf.2.2.2.1 e0).1 ?_
  refine g_tsw (v := 3) (tgt := 149) C dX5_take_4 rfl (by decide) (by decide) rfl rfl ?_
  refine g_aload_n C dX5_take_149 rfl rfl ?_
  refine g_get (v := .ref (wA w 40)) C fl_X5_13 fs_X5_13 (Nat.lt_of_lt_of_le (by decide) hN) rfl rfl dX5_take_150 ?_
  refine g_iconst C dX5_take_153 ic_2 ?_
  refine g_aload_n C dX5_take_154 rfl rfl ?_
  refine g_get (v := .ref (wA w 51)) C fl_X5_47 fs_X5_47 (Nat.lt_of_lt_of_le (by decide) hN) rfl rfl dX5_take_155 ?_
  refine g_iconst C dX5_take_158 ic_0 ?_
  refine g_ial (k0 := 51) (n := 7) C (Nat.lt_of_lt_of_le (by decide) hN) rfl (j := 0) (by unfold ix; decide) dX5_take_159 ?_
  refine g_val (y := nI (two c (p + 1))) (hf.2.2.2.1 e0).2.1 ?_
  refine g_ias (k0 := 40) (n := 46) C (Nat.lt_of_lt_of_le (by decide) hN) rfl (j := 2) (by unfold ix; decide) dX5_take_160 (fun σy hσy => ?_)
  refine g_aload_n C dX5_take_161 rfl rfl ?_
  refine g_get (v := .ref (wA w 40)) C fl_X5_13 fs_X5_13 (Nat.lt_of_lt_of_le (by decide) hN) rfl rfl dX5_take_162 ?_
  refine g_iconst C dX5_take_165 ic_3 ?_
  refine g_aload_n C dX5_take_166 rfl rfl ?_
  refine g_get (v := .ref (wA w 51)) C fl_X5_47 fs_X5_47 (Nat.lt_of_lt_of_le (by decide) hN) rfl rfl dX5_take_167 ?_
  refine g_iconst C dX5_take_170 ic_1 ?_
  refine g_ial (k0 := 51) (n := 7) C (Nat.lt_of_lt_of_le (by decide) hN) rfl (j := 1) (by unfold ix; decide) dX5_take_171 ?_
  refine g_val (y := nI (c (p + 3) - 48)) (by rw [hσy, up_other (by decide)]; exact (hf.2.2.2.1 e0).2.2) ?_
  refine g_ias (k0 := 40) (n := 46) C (Nat.lt_of_lt_of_le (by decide) hN) rfl (j := 3) (by unfold ix; decide) dX5_take_172 (fun σz hσz => ?_)
  refine g_goto (tgt := 239) C dX5_take_173 rfl ?_
  refine g_vret C r dX5_take_239 ?_
  rw [hσz, hσy]
  exact ⟨hM.u.u.ext he, FrT.u.tr FrT.u⟩
set_option maxRecDepth 100000 in
set_option maxHeartbeats 4000000 in
theorem ct_take_h (l : Launch) (w : WD) (hN : 54 ≤ wN w) (σ : SG) (c : Nat → Nat) (p p' : Nat) (a : Row) (hM : Mr σ 40 a) (hB : Bd a) (a' : Row) (hf : FD σ c p) (e0 : c p = 104) (he : ∀ j, j < 46 → a' j = ua a 7 (kiH c p) j) : CtV l w yX5_take cX5_take 2 5 0 0 [.ref (wA w 38)] σ (fun τ => Mr τ 40 a' ∧ FrT σ τ) := by
  refine CtV.mk (by decide) (Nat.le_of_ble_eq_true rfl) ?_
  intro K C hr h0
  have r := RV.of hr h0
  clear hr h0
  show G l w K 0 [(0, .ref (wA w 38))] [] σ
  obtain ⟨hBa, hB0, hB1, hB2, hB3, hB4, hB5, hB6, hB7, hBs, hBp, hBe⟩ := id hB
  refine g_aload_n C dX5_take_0 rfl rfl ?_
  refine g_get (v := .int (σ 38 22)) C fl_X5_132 fs_X5_132 (Nat.lt_of_lt_of_le (by decide) hN) rfl rfl dX5_take_1 ?_
  refine g_val (y := 4) (hf.2.2.2.2.1 e0).1 ?_
  refine g_tsw (v := 4) (tgt := 176) C dX5_take_4 rfl (by decide) (by decide) rfl rfl ?_
  refine g_aload_n C dX5_take_176 rfl rfl ?_
  refine g_get (v := .ref (wA w 40)) C fl_X5_13 fs_X5_13 (Nat.lt_of_lt_of_le (by decide) hN) rfl rfl dX5_take_177 ?_
  refine g_bipush C dX5_take_180 bp_7 ?_
  refine g_aload_n C dX5_take_182 rfl rfl ?_
  refine g_get (v := .ref (wA w 51)) C fl_X5_47 fs_X5_47 (Nat.lt_of_lt_of_le (by decide) hN) rfl rfl dX5_take_183 ?_
  refine g_iconst C dX5_take_186 ic_0 ?_
  refine g_ial (k0 := 51) (n := 7) C (Nat.lt_of_lt_of_le (by decide) hN) rfl (j := 0) (by unfold ix; decide) dX5_take_187 ?_
  refine g_val (y := nI (kiH c p)) (hf.2.2.2.2.1 e0).2 ?_
  refine g_ias (k0 := 40) (n := 46) C (Nat.lt_of_lt_of_le (by decide) hN) rfl (j := 7) (by unfold ix; decide) dX5_take_188 (fun σz hσz => ?_)
  refine g_goto (tgt := 239) C dX5_take_189 rfl ?_
  refine g_vret C r dX5_take_239 ?_
  rw [hσz]
  exact ⟨hM.u.ext he, FrT.u⟩
set_option maxRecDepth 100000 in
set_option maxHeartbeats 4000000 in
theorem ct_take_c (l : Launch) (w : WD) (hN : 54 ≤ wN w) (σ : SG) (c : Nat → Nat) (p p' : Nat) (a : Row) (hM : Mr σ 40 a) (hB : Bd a) (a' : Row) (hf : FD σ c p) (e0 : c p = 99) (he : ∀ j, j < 46 → a' j = ua (ua (ua a 4 (c (p + 1) - 48)) 5 (c (p + 2) - 48)) 6 (c (p + 3) - 48) j) : CtV l w yX5_take cX5_take 2 5 0 0 [.ref (wA w 38)] σ (fun τ => Mr τ 40 a' ∧ FrT σ τ) := by
  refine CtV.mk (by decide) (Nat.le_of_ble_eq_true rfl) ?_
  intro K C hr h0
  have r := RV.of hr h0
  clear hr h0
  show G l w K 0 [(0, .ref (wA w 38))] [] σ
  obtain ⟨hBa, hB0, hB1, hB2, hB3, hB4, hB5, hB6, hB7, hBs, hBp, hBe⟩ := id hB
  have hf51 : ∀ k, k < 3 → σ 51 k = nI (fC c p k) := (hf.2.2.2.2.2.1 e0).2
  refine g_aload_n C dX5_take_0 rfl rfl ?_
  refine g_get (v := .int (σ 38 22)) C fl_X5_132 fs_X5_132 (Nat.lt_of_lt_of_le (by decide) hN) rfl rfl dX5_take_1 ?_
  refine g_val (y := 5) (hf.2.2.2.2.2.1 e0).1 ?_
  refine g_tsw (v := 5) (tgt := 192) C dX5_take_4 rfl (by decide) (by decide) rfl rfl ?_
  refine g_iconst C dX5_take_192 ic_0 ?_
  refine g_istore_n (lv' := [(1, .int 0), (0, .ref (wA w 38))]) C dX5_take_193 rfl (by decide) rfl ?_
  refine g_iload_n C dX5_take_194 rfl rfl ?_
  refine g_iconst C dX5_take_195 ic_3 ?_
  refine g_icmp_ge (tgt := 219) C dX5_take_196 rfl (fun c196_1 => ?_) (fun c196_1 => ?_)
  · exact absurd c196_1 (by decide)
  · skip
    refine g_aload_n C dX5_take_199 rfl rfl ?_
    refine g_get (v := .ref (wA w 40)) C fl_X5_13 fs_X5_13 (Nat.lt_of_lt_of_le (by decide) hN) rfl rfl dX5_take_200 ?_
    refine g_iconst C dX5_take_203 ic_4 ?_
    refine g_iload_n C dX5_take_204 rfl rfl ?_
    refine g_iaddv (v := 4) C (by decide) dX5_take_205 ?_
    refine g_aload_n C dX5_take_206 rfl rfl ?_
    refine g_get (v := .ref (wA w 51)) C fl_X5_47 fs_X5_47 (Nat.lt_of_lt_of_le (by decide) hN) rfl rfl dX5_take_207 ?_
    refine g_iload_n C dX5_take_210 rfl rfl ?_
    refine g_ial (k0 := 51) (n := 7) C (Nat.lt_of_lt_of_le (by decide) hN) rfl (j := 0) (by unfold ix; decide) dX5_take_211 ?_
    refine g_val (y := nI ((fC c p) 0)) (hf51 0 (by omega)) ?_
    refine g_ias (k0 := 40) (n := 46) C (Nat.lt_of_lt_of_le (by decide) hN) rfl (j := 4) (by unfold ix; decide) dX5_take_212 (fun σ_2 hσ_2 => ?_)
    have hf51 : ∀ k, k < 3 → σ_2 51 k = nI (fC c p k) := by rw [hσ_2, up_other (by decide)]; exact hf51
    refine g_iinc (v := 1) (lv' := [(1, .int 1), (0, .ref (wA w 38))]) C dX5_take_213 (by decide) rfl (by decide) rfl ?_
    refine g_goto (tgt := 194) C dX5_take_216 rfl ?_
    refine g_iload_n C dX5_take_194 rfl rfl ?_
    refine g_iconst C dX5_take_195 ic_3 ?_
    refine g_icmp_ge (tgt := 219) C dX5_take_196 rfl (fun c196_3 => ?_) (fun c196_3 => ?_)
    · exact absurd c196_3 (by decide)
    · skip
      refine g_aload_n C dX5_take_199 rfl rfl ?_
      refine g_get (v := .ref (wA w 40)) C fl_X5_13 fs_X5_13 (Nat.lt_of_lt_of_le (by decide) hN) rfl rfl dX5_take_200 ?_
      refine g_iconst C dX5_take_203 ic_4 ?_
      refine g_iload_n C dX5_take_204 rfl rfl ?_
      refine g_iaddv (v := 5) C (by decide) dX5_take_205 ?_
      refine g_aload_n C dX5_take_206 rfl rfl ?_
      refine g_get (v := .ref (wA w 51)) C fl_X5_47 fs_X5_47 (Nat.lt_of_lt_of_le (by decide) hN) rfl rfl dX5_take_207 ?_
      refine g_iload_n C dX5_take_210 rfl rfl ?_
      refine g_ial (k0 := 51) (n := 7) C (Nat.lt_of_lt_of_le (by decide) hN) rfl (j := 1) (by unfold ix; decide) dX5_take_211 ?_
      refine g_val (y := nI ((fC c p) 1)) (hf51 1 (by omega)) ?_
      refine g_ias (k0 := 40) (n := 46) C (Nat.lt_of_lt_of_le (by decide) hN) rfl (j := 5) (by unfold ix; decide) dX5_take_212 (fun σ_4 hσ_4 => ?_)
      have hf51 : ∀ k, k < 3 → σ_4 51 k = nI (fC c p k) := by rw [hσ_4, up_other (by decide)]; exact hf51
      refine g_iinc (v := 2) (lv' := [(1, .int 2), (0, .ref (wA w 38))]) C dX5_take_213 (by decide) rfl (by decide) rfl ?_
      refine g_goto (tgt := 194) C dX5_take_216 rfl ?_
      refine g_iload_n C dX5_take_194 rfl rfl ?_
      refine g_iconst C dX5_take_195 ic_3 ?_
      refine g_icmp_ge (tgt := 219) C dX5_take_196 rfl (fun c196_5 => ?_) (fun c196_5 => ?_)
      · exact absurd c196_5 (by decide)
      · skip
        refine g_aload_n C dX5_take_199 rfl rfl ?_
        refine g_get (v := .ref (wA w 40)) C fl_X5_13 fs_X5_13 (Nat.lt_of_lt_of_le (by decide) hN) rfl rfl dX5_take_200 ?_
        refine g_iconst C dX5_take_203 ic_4 ?_
        refine g_iload_n C dX5_take_204 rfl rfl ?_
        refine g_iaddv (v := 6) C (by decide) dX5_take_205 ?_
        refine g_aload_n C dX5_take_206 rfl rfl ?_
        refine g_get (v := .ref (wA w 51)) C fl_X5_47 fs_X5_47 (Nat.lt_of_lt_of_le (by decide) hN) rfl rfl dX5_take_207 ?_
        refine g_iload_n C dX5_take_210 rfl rfl ?_
        refine g_ial (k0 := 51) (n := 7) C (Nat.lt_of_lt_of_le (by decide) hN) rfl (j := 2) (by unfold ix; decide) dX5_take_211 ?_
        refine g_val (y := nI ((fC c p) 2)) (hf51 2 (by omega)) ?_
        refine g_ias (k0 := 40) (n := 46) C (Nat.lt_of_lt_of_le (by decide) hN) rfl (j := 6) (by unfold ix; decide) dX5_take_212 (fun σ_6 hσ_6 => ?_)
        have hf51 : ∀ k, k < 3 → σ_6 51 k = nI (fC c p k) := by rw [hσ_6, up_other (by decide)]; exact hf51
        refine g_iinc (v := 3) (lv' := [(1, .int 3), (0, .ref (wA w 38))]) C dX5_take_213 (by decide) rfl (by decide) rfl ?_
        refine g_goto (tgt := 194) C dX5_take_216 rfl ?_
        refine g_iload_n C dX5_take_194 rfl rfl ?_
        refine g_iconst C dX5_take_195 ic_3 ?_
        refine g_icmp_ge (tgt := 219) C dX5_take_196 rfl (fun c196_7 => ?_) (fun c196_7 => ?_)
        · skip
          refine g_goto (tgt := 239) C dX5_take_219 rfl ?_
          refine g_vret C r dX5_take_239 ?_
          rw [hσ_6, hσ_4, hσ_2]
          exact ⟨hM.u.u.u.ext he, (FrT.u.tr FrT.u).tr FrT.u⟩
        · exact absurd c196_7 (by decide)
set_option maxRecDepth 100000 in
set_option maxHeartbeats 4000000 in
theorem ct_take_d (l : Launch) (w : WD) (hN : 54 ≤ wN w) (σ : SG) (c : Nat → Nat) (p p' : Nat) (a : Row) (hM : Mr σ 40 a) (hB : Bd a) (a' : Row) (hf : FD σ c p) (e0 : c p = 100) (h9 : a 1 < 9999) (he : ∀ j, j < 46 → a' j = dyR (hun a) a 0 j) : CtV l w yX5_take cX5_take 2 5 0 0 [.ref (wA w 38)] σ (fun τ => Mr τ 40 a' ∧ FrT σ τ) := by
  refine CtV.mk (by decide) (Nat.le_of_ble_eq_true rfl) ?_
  intro K C hr h0
  have r := RV.of hr h0
  clear hr h0
  show G l w K 0 [(0, .ref (wA w 38))] [] σ
  obtain ⟨hBa, hB0, hB1, hB2, hB3, hB4, hB5, hB6, hB7, hBs, hBp, hBe⟩ := id hB
  refine g_aload_n C dX5_take_0 rfl rfl ?_
  refine g_get (v := .int (σ 38 22)) C fl_X5_132 fs_X5_132 (Nat.lt_of_lt_of_le (by decide) hN) rfl rfl dX5_take_1 ?_
  refine g_val (y := 6) (hf.2.2.2.2.2.2 e0) ?_
  refine g_tswd (tgt := 222) C dX5_take_4 (by decide) rfl ?_
  refine g_aload_n C dX5_take_222 rfl rfl ?_
  refine g_aload_n C dX5_take_223 rfl rfl ?_
  refine g_get (v := .ref (wA w 40)) C fl_X5_13 fs_X5_13 (Nat.lt_of_lt_of_le (by decide) hN) rfl rfl dX5_take_224 ?_
  refine g_callVV (rest := []) C mv_X5_107 (ct_X5_asTold l w hN σ 40 (Nat.lt_of_lt_of_le (by decide) hN) rfl a hM hB (by decide)) (Nat.lt_of_lt_of_le (by decide) hN) rfl rfl (by decide) rfl (Nat.le_of_ble_eq_true rfl) dX5_take_227 (fun σt h1 => ?_)
  obtain ⟨hht, hFt⟩ := h1
  have hMt : Mr σt 40 a := hM.fr (hFt 40 (by decide))
  refine g_aload_n C dX5_take_230 rfl rfl ?_
  refine g_aload_n C dX5_take_231 rfl rfl ?_
  refine g_get (v := .ref (wA w 40)) C fl_X5_13 fs_X5_13 (Nat.lt_of_lt_of_le (by decide) hN) rfl rfl dX5_take_232 ?_
  refine g_iconst C dX5_take_235 ic_0 ?_
  refine g_callVV (rest := []) C mv_X5_111 (ct_X5_day l w hN σt 40 (Nat.lt_of_lt_of_le (by decide) hN) rfl a hMt hB (by decide) (by decide) (by decide) (hun a) hht (fun e he => (hBe e (by omega)).2.1) 0 (Nat.zero_le _) (by omega)) (Nat.lt_of_lt_of_le (by decide) hN) rfl rfl (by decide) rfl (Nat.le_of_ble_eq_true rfl) dX5_take_236 (fun σd h2 => ?_)
  refine g_vret C r dX5_take_239 ?_
  obtain ⟨hMd, -, -, hFd⟩ := h2
  exact ⟨hMd.ext he, (FrT.f hFt).tr (FrT.y hFd)⟩
theorem ct_X5_take (l : Launch) (w : WD) (hN : 54 ≤ wN w) (σ : SG) (c : Nat → Nat) (p p' : Nat) (a : Row) (hM : Mr σ 40 a) (hB : Bd a) (hf : FD σ c p) (hS : Stm c p p') (a' : Row) (he : effS c a p = some a') : CtV l w yX5_take cX5_take 2 5 0 0 [.ref (wA w 38)] σ (fun τ => Mr τ 40 a' ∧ FrT σ τ) := by
  unfold effS at he
  rcases hS with ⟨e, k1, d1, d2, d3, h1⟩ | ⟨e, d1, d2, d3, d4, h1⟩ | ⟨e, d1, d2, h1⟩ | ⟨e, d1, d2, d3, d4, h1⟩ | ⟨e, k1, d2, h1⟩ | ⟨e, d1, d2, d3, d4, h1⟩ | ⟨e, d1, h1⟩
  · rw [if_pos e] at he
    by_cases z : 1 ≤ chn c p ∧ chn c p ≤ 10 ∧ a 0 < 4
    · rw [if_pos z] at he
      exact ct_take_e l w hN σ c p p' a hM hB a' hf e z.2.2 (fun j _ => by cases he; rfl)
    · rw [if_neg z] at he; cases he
  · rw [if_neg (by omega), if_pos e] at he
    by_cases z : c (p + 1) - 48 < 5 ∧ two c (p + 2) ≤ 60
    · rw [if_pos z] at he
      exact ct_take_s l w hN σ c p p' a hM hB a' hf e d1 z.1 (fun j _ => by cases he; rfl)
    · rw [if_neg z] at he; cases he
  · rw [if_neg (by omega), if_neg (by omega), if_pos e] at he
    exact ct_take_w l w hN σ c p p' a hM hB a' hf e (fun j _ => by cases he; rfl)
  · rw [if_neg (by omega), if_neg (by omega), if_neg (by omega), if_pos e] at he
    by_cases z : two c (p + 1) ≤ 30
    · rw [if_pos z] at he
      exact ct_take_b l w hN σ c p p' a hM hB a' hf e (fun j _ => by cases he; rfl)
    · rw [if_neg z] at he; cases he
  · rw [if_neg (by omega), if_neg (by omega), if_neg (by omega), if_neg (by omega), if_pos e] at he
    exact ct_take_h l w hN σ c p p' a hM hB a' hf e (fun j _ => by cases he; rfl)
  · rw [if_neg (by omega), if_neg (by omega), if_neg (by omega), if_neg (by omega), if_neg (by omega), if_pos e] at he
    exact ct_take_c l w hN σ c p p' a hM hB a' hf e (fun j _ => by cases he; rfl)
  · rw [if_neg (by omega), if_neg (by omega), if_neg (by omega), if_neg (by omega), if_neg (by omega), if_neg (by omega)] at he
    by_cases z : a 1 < 9999
    · rw [if_pos z] at he
      exact ct_take_d l w hN σ c p p' a hM hB a' hf e z (fun j _ => by cases he; rfl)
    · rw [if_neg z] at he; cases he

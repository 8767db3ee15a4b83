set_option maxRecDepth 100000 in
set_option maxHeartbeats 4000000 in
theorem ct_X1_nextAge (l : Launch) (w : WD) (hN : 54 ≤ wN w) (σ : SG) (b : Nat) (hb : HB b) (a : Row) (hH : Hh σ b a) (hB : Bd a) (e : Nat) (he : e < 4) : CtI l w yX1_nextAge cX1_nextAge 7 (some .int) 2 0 0 [.ref (wA w b), .int (nI e)] σ (fun r τ => r = oJ (nxC a e) (-1) ∧ τ = σ) := by
  refine CtI.mk (by decide) (Nat.le_of_ble_eq_true rfl) ?_
  intro K C hr h0
  have r := RI.of hr h0
  clear hr h0
  show G l w K 0 [(0, .ref (wA w b)), (1, .int (nI e))] [] σ
  obtain ⟨hBa, hB0, hB1, hB2, hB3, hB4, hB5, hB6, hB7, hBs, hBp, hBe⟩ := id hB
  refine g_aload_n C dX1_nextAge_0 rfl rfl ?_
  refine g_get (v := .ref (wA w (b + 3))) C fl_X1_18 fs_X1_18 (HB.n0 hb hN) (HB.ou hb _) rfl dX1_nextAge_1 ?_
  refine g_iconst C dX1_nextAge_4 ic_5 ?_
  refine g_ial (k0 := (b + 3)) (n := 6) C (HB.n hb hN (by decide)) (HB.t hb) (j := 5) (by unfold ix; decide) dX1_nextAge_5 ?_
  refine g_val (y := nI (a 7)) (Hh.t hH (by omega)) ?_
  refine g_istore_n (lv' := [(2, .int (nI (a 7))), (0, .ref (wA w b)), (1, .int (nI e))]) C dX1_nextAge_6 rfl (by decide) rfl ?_
  have L27 : ∀ (wy : Nat), (wy = way a) → (wy ≤ 5) → G l w K 27 [(0, .ref (wA w b)), (1, .int (nI e)), (2, .int (nI wy))] [] σ := by
    intro wy hw hw9
    refine g_iconst C dX1_nextAge_27 ic_m1 ?_
    refine g_istore_n (lv' := [(3, .int ((-1))), (0, .ref (wA w b)), (1, .int (nI e)), (2, .int (nI wy))]) C dX1_nextAge_28 rfl (by decide) rfl ?_
    refine g_iconst C dX1_nextAge_29 ic_m1 ?_
    refine g_istore (lv' := [(4, .int ((-1))), (3, .int ((-1))), (0, .ref (wA w b)), (1, .int (nI e)), (2, .int (nI wy))]) C dX1_nextAge_30 (by decide) rfl ?_
    refine g_iconst C dX1_nextAge_32 ic_4 ?_
    refine g_istore (lv' := [(5, .int 4), (4, .int ((-1))), (3, .int ((-1))), (0, .ref (wA w b)), (1, .int (nI e)), (2, .int (nI wy))]) C dX1_nextAge_33 (by decide) rfl ?_
    have L35 : ∀ (m35 : Nat) (q : Nat) (x : Int32) (y : Int32) (z : Int32), m35 = q → (q ≤ 5) → (x = nI q - 1) → (y = oJ (pkC a e (5 - q)) (-1)) → (z = obW a e (pkC a e (5 - q))) → G l w K 35 [(0, .ref (wA w b)), (1, .int (nI e)), (2, .int (nI wy)), (3, .int y), (4, .int z), (5, .int x)] [] σ := by
      intro m35
      induction m35 using Nat.strongRecOn with
      | ind m35 ih35 =>
      intro q x y z em35 hq hx hy hz
      refine g_iload C dX1_nextAge_35 rfl ?_
      refine g_if_lt (tgt := 104) C dX1_nextAge_37 rfl (fun c37_1 => ?_) (fun c37_1 => ?_)
      · skip
        obtain rfl : q = 0 := nj_pred0 hx c37_1 (by omega)
        refine g_iload_n C dX1_nextAge_104 rfl rfl ?_
        refine g_iret C r rfl dX1_nextAge_105 ?_
        exact ⟨hy, rfl⟩
      · skip
        obtain ⟨g, rfl, rfl⟩ : ∃ g, q = g + 1 ∧ x = nI g := nj_pred hx c37_1 (by omega)
        have hg5 : g < 5 := by omega
        have hg9 := hBa (10 + g)
        have L98 : ∀ (y1 : Int32) (z1 : Int32), (y1 = oJ (pkC a e (5 - g)) (-1)) → (z1 = obW a e (pkC a e (5 - g))) → G l w K 98 [(0, .ref (wA w b)), (1, .int (nI e)), (2, .int (nI wy)), (3, .int y1), (4, .int z1), (5, .int (nI g))] [] σ := by
          intro y1 z1 hy1 hz1
          refine g_iinc (v := nI g - 1) (lv' := [(5, .int (nI g - 1)), (0, .ref (wA w b)), (1, .int (nI e)), (2, .int (nI wy)), (3, .int y1), (4, .int z1)]) C dX1_nextAge_98 (by decide) rfl (nj_decr _) rfl ?_
          refine g_goto (tgt := 35) C dX1_nextAge_101 rfl ?_
          exact g_lvp [1, 2, 3, 4, 5, 0] rfl (ih35 (g) (by omega) g (nI g - 1) y1 z1 rfl (by first | omega | assumption | rfl | grind) (rfl) (hy1) (hz1))
        refine g_aload_n C dX1_nextAge_40 rfl rfl ?_
        refine g_iload C dX1_nextAge_41 rfl ?_
        refine g_pVI (rest := []) (v := inRj a g) C mv_X1_83 (ct_X1_inReach l w hN σ b hb a hH hB g (by omega)) (HB.n0 hb hN) (HB.ou hb _) rfl (by decide) rfl (Nat.le_of_ble_eq_true rfl) dX1_nextAge_43 ?_
        refine g_if_gt (tgt := 52) C dX1_nextAge_46 rfl (fun c46_2 => ?_) (fun c46_2 => ?_)
        · skip
          have hr : reachC a g := (inRj_pos hg9).mp c46_2
          refine g_aload_n C dX1_nextAge_52 rfl rfl ?_
          refine g_iload_n C dX1_nextAge_53 rfl rfl ?_
          refine g_iload C dX1_nextAge_54 rfl ?_
          refine g_pVI (rest := []) (v := wJ a e g) C mv_X1_86 (ct_X1_worthTo l w hN σ b hb a hH hB e g (by omega) (by omega)) (HB.n0 hb hN) (HB.ou hb _) rfl (by decide) rfl (Nat.le_of_ble_eq_true rfl) dX1_nextAge_56 ?_
          refine g_istore (lv' := [(6, .int (wJ a e g)), (0, .ref (wA w b)), (1, .int (nI e)), (2, .int (nI wy)), (3, .int y), (4, .int z), (5, .int (nI g))]) C dX1_nextAge_59 (by decide) rfl ?_
          refine g_iload C dX1_nextAge_61 rfl ?_
          refine g_iconst C dX1_nextAge_63 ic_m1 ?_
          refine g_icmp_ne (tgt := 70) C dX1_nextAge_64 rfl (fun c64_3 => ?_) (fun c64_3 => ?_)
          · skip
            have he1 : eats a e g := wJ_eats c64_3
            have hwj : wJ a e g = nI (wNt a e g) := if_pos he1
            refine g_iload_n C dX1_nextAge_70 rfl rfl ?_
            refine g_if_lt (tgt := 91) C dX1_nextAge_71 rfl (fun c71_4 => ?_) (fun c71_4 => ?_)
            · skip
              have ho : pkC a e (5 - (g + 1)) = none := oJ_neg hy c71_4 (fun g1 h1 => (pkC_spec _ g1 (by omega) h1).2.1)
              have hp := pk_take0 hg5 hr he1 ho
              refine g_iload C dX1_nextAge_91 rfl ?_
              refine g_istore_n (lv' := [(3, .int (nI g)), (6, .int (wJ a e g)), (0, .ref (wA w b)), (1, .int (nI e)), (2, .int (nI wy)), (4, .int z), (5, .int (nI g))]) C dX1_nextAge_93 rfl (by decide) rfl ?_
              refine g_iload C dX1_nextAge_94 rfl ?_
              refine g_istore (lv' := [(4, .int (wJ a e g)), (3, .int (nI g)), (6, .int (wJ a e g)), (0, .ref (wA w b)), (1, .int (nI e)), (2, .int (nI wy)), (5, .int (nI g))]) C dX1_nextAge_96 (by decide) rfl ?_
              exact g_lvp [3, 4, 5, 1, 0, 6] rfl (L98 (nI g) (wJ a e g) (by rw [hp]; rfl) (by rw [hp]; exact hwj))
            · skip
              obtain ⟨f, hf, hyf⟩ := oJ_pos hy c71_4
              refine g_iload_n C dX1_nextAge_74 rfl rfl ?_
              refine g_iconst C dX1_nextAge_75 ic_1 ?_
              refine g_icmp_eq (tgt := 91) C dX1_nextAge_76 rfl (fun c76_5 => ?_) (fun c76_5 => ?_)
              · skip
                have n76_5 : wy = 1 := (nj_eq (a := wy) (b := 1) (by omega) (by omega)).mp c76_5
                have hp := pk_take hg5 hr he1 hf (Or.inl (by omega))
                refine g_iload C dX1_nextAge_91 rfl ?_
                refine g_istore_n (lv' := [(3, .int (nI g)), (6, .int (wJ a e g)), (0, .ref (wA w b)), (1, .int (nI e)), (2, .int (nI wy)), (4, .int z), (5, .int (nI g))]) C dX1_nextAge_93 rfl (by decide) rfl ?_
                refine g_iload C dX1_nextAge_94 rfl ?_
                refine g_istore (lv' := [(4, .int (wJ a e g)), (3, .int (nI g)), (6, .int (wJ a e g)), (0, .ref (wA w b)), (1, .int (nI e)), (2, .int (nI wy)), (5, .int (nI g))]) C dX1_nextAge_96 (by decide) rfl ?_
                exact g_lvp [3, 4, 5, 1, 0, 6] rfl (L98 (nI g) (wJ a e g) (by rw [hp]; rfl) (by rw [hp]; exact hwj))
              · skip
                have n76_5 : ¬ (wy = 1) := fun qq => c76_5 ((nj_eq (a := wy) (b := 1) (by omega) (by omega)).mpr qq)
                refine g_iload_n C dX1_nextAge_79 rfl rfl ?_
                refine g_iconst C dX1_nextAge_80 ic_2 ?_
                refine g_icmp_ne (tgt := 98) C dX1_nextAge_81 rfl (fun c81_6 => ?_) (fun c81_6 => ?_)
                · skip
                  have n81_6 : ¬ (wy = 2) := fun qq => c81_6 ((nj_eq (a := wy) (b := 2) (by omega) (by omega)).mpr qq)
                  have hp := pk_keep hg5 hr he1 hf (by omega)
                  exact g_lvp [1, 2, 3, 4, 5, 6] rfl (L98 y z (by rw [hp, hyf]; rfl) (by rw [hp, hz, hf]))
                · skip
                  have n81_6 : wy = 2 := (nj_eq (a := wy) (b := 2) (by omega) (by omega)).mp c81_6
                  refine g_iload C dX1_nextAge_84 rfl ?_
                  refine g_iload C dX1_nextAge_86 rfl ?_
                  refine g_icmp_le (tgt := 98) C dX1_nextAge_88 rfl (fun c88_7 => ?_) (fun c88_7 => ?_)
                  · skip
                    have hw1 : wNt a e g ≤ wNt a e f := (nj_le (by have := wNt_le hBa e g; omega) (by have := wNt_le hBa e f; omega)).mp (by rw [← hwj]; rw [hz, hf] at c88_7; exact c88_7)
                    have hp := pk_keep hg5 hr he1 hf (by omega)
                    exact g_lvp [1, 2, 3, 4, 5, 6] rfl (L98 y z (by rw [hp, hyf]; rfl) (by rw [hp, hz, hf]))
                  · skip
                    have hw1 : ¬ wNt a e g ≤ wNt a e f := fun q => c88_7 (by rw [hwj, hz, hf]; exact (nj_le (by have := wNt_le hBa e g; omega) (by have := wNt_le hBa e f; omega)).mpr q)
                    have hp := pk_take hg5 hr he1 hf (Or.inr ⟨by omega, by omega⟩)
                    refine g_iload C dX1_nextAge_91 rfl ?_
                    refine g_istore_n (lv' := [(3, .int (nI g)), (6, .int (wJ a e g)), (0, .ref (wA w b)), (1, .int (nI e)), (2, .int (nI wy)), (4, .int z), (5, .int (nI g))]) C dX1_nextAge_93 rfl (by decide) rfl ?_
                    refine g_iload C dX1_nextAge_94 rfl ?_
                    refine g_istore (lv' := [(4, .int (wJ a e g)), (3, .int (nI g)), (6, .int (wJ a e g)), (0, .ref (wA w b)), (1, .int (nI e)), (2, .int (nI wy)), (5, .int (nI g))]) C dX1_nextAge_96 (by decide) rfl ?_
                    exact g_lvp [3, 4, 5, 1, 0, 6] rfl (L98 (nI g) (wJ a e g) (by rw [hp]; rfl) (by rw [hp]; exact hwj))
          · skip
            have he1 : ¬ eats a e g := wJ_neats hBa c64_3
            refine g_goto (tgt := 98) C dX1_nextAge_67 rfl ?_
            exact g_lvp [1, 2, 3, 4, 5, 6] rfl (L98 y z (by rw [pk_skip hg5 (fun q => he1 q.2)]; exact hy) (by rw [pk_skip hg5 (fun q => he1 q.2)]; exact hz))
        · skip
          have hr : ¬ reachC a g := fun q => c46_2 ((inRj_pos hg9).mpr q)
          refine g_goto (tgt := 98) C dX1_nextAge_49 rfl ?_
          exact g_lvp [0, 1, 2, 3, 4, 5] rfl (L98 y z (by rw [pk_skip hg5 (fun q => hr q.1)]; exact hy) (by rw [pk_skip hg5 (fun q => hr q.1)]; exact hz))
    exact g_lvp [3, 4, 5, 2, 1, 0] rfl (L35 (5) 5 4 ((-1)) ((-1)) rfl (by first | omega | assumption | rfl | grind) (by decide) (rfl) (rfl))
  refine g_iload_n C dX1_nextAge_7 rfl rfl ?_
  refine g_iconst C dX1_nextAge_8 ic_4 ?_
  refine g_icmp_ne (tgt := 27) C dX1_nextAge_9 rfl (fun c9_8 => ?_) (fun c9_8 => ?_)
  · skip
    have n9_8 : ¬ (a 7 = 4) := fun qq => c9_8 ((nj_eq (a := a 7) (b := 4) (by have := hBa 7; omega) (by have := hBa 7; omega)).mpr qq)
    exact g_lvp [1, 2, 0] rfl (L27 (a 7) (by simp only [way]; first | rw [if_neg (by omega)] | (rw [if_pos (by omega)]; first | rw [if_pos (by omega)] | rw [if_neg (by omega)])) (by omega))
  · skip
    have n9_8 : a 7 = 4 := (nj_eq (a := a 7) (b := 4) (by have := hBa 7; omega) (by have := hBa 7; omega)).mp c9_8
    refine g_aload_n C dX1_nextAge_12 rfl rfl ?_
    refine g_get (v := .int (σ b 5)) C fl_X1_36 fs_X1_36 (HB.n0 hb hN) (HB.ou hb _) rfl dX1_nextAge_13 ?_
    refine g_val (y := nI (a 1)) (Hh.d hH) ?_
    refine g_iconst C dX1_nextAge_16 ic_2 ?_
    refine g_iremv (v := nI (a 1 % 2)) C (by decide) (nj_rem (b := 2) (by have := hBa 1; omega) (by omega)) dX1_nextAge_17 ?_
    refine g_if_ne (tgt := 25) C dX1_nextAge_18 rfl (fun c18_9 => ?_) (fun c18_9 => ?_)
    · skip
      have n18_9 : ¬ (a 1 % 2 = 0) := fun qq => c18_9 ((nj_eq (a := a 1 % 2) (b := 0) (by have := hBa 1; omega) (by have := hBa 1; omega)).mpr qq)
      refine g_iconst C dX1_nextAge_25 ic_1 ?_
      refine g_istore_n (lv' := [(2, .int 1), (0, .ref (wA w b)), (1, .int (nI e))]) C dX1_nextAge_26 rfl (by decide) rfl ?_
      exact g_lvp [1, 2, 0] rfl (L27 1 (by simp only [way]; first | rw [if_neg (by omega)] | (rw [if_pos (by omega)]; first | rw [if_pos (by omega)] | rw [if_neg (by omega)])) (by omega))
    · skip
      have n18_9 : a 1 % 2 = 0 := (nj_eq (a := a 1 % 2) (b := 0) (by have := hBa 1; omega) (by have := hBa 1; omega)).mp c18_9
      refine g_iconst C dX1_nextAge_21 ic_2 ?_
      refine g_goto (tgt := 26) C dX1_nextAge_22 rfl ?_
      refine g_istore_n (lv' := [(2, .int 2), (0, .ref (wA w b)), (1, .int (nI e))]) C dX1_nextAge_26 rfl (by decide) rfl ?_
      exact g_lvp [1, 2, 0] rfl (L27 2 (by simp only [way]; first | rw [if_neg (by omega)] | (rw [if_pos (by omega)]; first | rw [if_pos (by omega)] | rw [if_neg (by omega)])) (by omega))
set_option maxRecDepth 100000 in
set_option maxHeartbeats 4000000 in
theorem ct_X3_addEaten (l : Launch) (w : WD) (hN : 54 ≤ wN w) (σ : SG) (v : Int32) (ls : List Nat) (th la bo : Nat) (hT : Tl σ v ls th la bo) (g m : Nat) (wv : Int32) (hm : m ≤ 1000) (hls : ls.length ≤ 100000) (hg : g < 5) : CtV l w yX3_addEaten cX3_addEaten 5 1 0 0 [.ref (wA w 28), .int (nI g), .int (nI m), .int wv] σ (fun τ => Tl τ (v + nI m * wv) (ls ++ List.replicate m g) th la bo ∧ Fr inT σ τ) := by
  refine CtV.mk (by decide) (Nat.le_of_ble_eq_true rfl) ?_
  intro K C hr h0
  have r := RV.of hr h0
  clear hr h0
  show G l w K 0 [(0, .ref (wA w 28)), (1, .int (nI g)), (2, .int (nI m)), (3, .int wv)] [] σ
  refine g_aload_n C dX3_addEaten_0 rfl rfl ?_
  refine g_get (v := .ref (wA w 29)) C fl_X3_9 fs_X3_9 (Nat.lt_of_lt_of_le (by decide) hN) rfl rfl dX3_addEaten_1 ?_
  refine g_iconst C dX3_addEaten_4 ic_1 ?_
  refine g_dup2 C dX3_addEaten_5 rfl rfl ?_
  refine g_ial (k0 := 29) (n := 6) C (Nat.lt_of_lt_of_le (by decide) hN) rfl (j := 1) (by unfold ix; decide) dX3_addEaten_6 ?_
  refine g_iload_n C dX3_addEaten_7 rfl rfl ?_
  refine g_iaddv (v := (σ 29 1) + (nI m)) C rfl dX3_addEaten_8 ?_
  refine g_ias (k0 := 29) (n := 6) C (Nat.lt_of_lt_of_le (by decide) hN) rfl (j := 1) (by unfold ix; decide) dX3_addEaten_9 (fun σ_1 hσ_1 => ?_)
  have L24 : ∀ (σ1 : SG), (σ1 29 0 = v ∧ σ1 29 1 = nI (ls.length + m) ∧ σ1 29 2 = nI ((ls ++ List.replicate m g).count 0) ∧ σ1 29 3 = nI th ∧ σ1 29 4 = nI la ∧ σ1 29 5 = nI bo ∧ σ1 28 = σ 28 ∧ σ1 30 = σ 30) → (Fr inT σ σ1) → G l w K 24 [(0, .ref (wA w 28)), (1, .int (nI g)), (2, .int (nI m)), (3, .int wv)] [] σ1 := by
    intro σ1 h1 hF
    refine g_aload_n C dX3_addEaten_24 rfl rfl ?_
    refine g_get (v := .ref (wA w 29)) C fl_X3_9 fs_X3_9 (Nat.lt_of_lt_of_le (by decide) hN) rfl rfl dX3_addEaten_25 ?_
    refine g_iconst C dX3_addEaten_28 ic_0 ?_
    refine g_dup2 C dX3_addEaten_29 rfl rfl ?_
    refine g_ial (k0 := 29) (n := 6) C (Nat.lt_of_lt_of_le (by decide) hN) rfl (j := 0) (by unfold ix; decide) dX3_addEaten_30 ?_
    refine g_iload_n C dX3_addEaten_31 rfl rfl ?_
    refine g_iload_n C dX3_addEaten_32 rfl rfl ?_
    refine g_imulv (v := (nI m) * wv) C rfl dX3_addEaten_33 ?_
    refine g_iaddv (v := (σ1 29 0) + ((nI m) * wv)) C rfl dX3_addEaten_34 ?_
    refine g_ias (k0 := 29) (n := 6) C (Nat.lt_of_lt_of_le (by decide) hN) rfl (j := 0) (by unfold ix; decide) dX3_addEaten_35 (fun σ_2 hσ_2 => ?_)
    refine g_iconst C dX3_addEaten_36 ic_0 ?_
    refine g_istore (lv' := [(4, .int 0), (0, .ref (wA w 28)), (1, .int (nI g)), (2, .int (nI m)), (3, .int wv)]) C dX3_addEaten_37 (by decide) rfl ?_
    have L39 : ∀ (m39 : Nat) (k : Nat) (σ2 : SG), m39 = m - k → (k ≤ m) → (σ2 29 0 = v + nI m * wv ∧ σ2 29 1 = nI (ls.length + m) ∧ σ2 29 2 = nI ((ls ++ List.replicate m g).count 0) ∧ σ2 29 3 = nI th ∧ σ2 29 4 = nI la ∧ σ2 29 5 = nI bo) → (σ2 28 2 = nI (min 20 (ls.length + k))) → (∀ i, i < 20 → i < ls.length + k → σ2 30 i = nI ((ls ++ List.replicate m g).getD i 0)) → (Fr inT σ σ2) → G l w K 39 [(0, .ref (wA w 28)), (1, .int (nI g)), (2, .int (nI m)), (4, .int (nI k))] [] σ2 := by
      intro m39
      induction m39 using Nat.strongRecOn with
      | ind m39 ih39 =>
      intro k σ2 em39 hk hT2 hC hA hF2
      refine g_iload C dX3_addEaten_39 rfl ?_
      refine g_iload_n C dX3_addEaten_41 rfl rfl ?_
      refine g_icmp_ge (tgt := 80) C dX3_addEaten_42 rfl (fun c42_3 => ?_) (fun c42_3 => ?_)
      · skip
        have n42_3 : m ≤ k := (nj_le (a := m) (b := k) (by omega) (by omega)).mp c42_3
        obtain rfl : k = m := by omega
        refine g_vret C r dX3_addEaten_80 ?_
        exact ⟨addE_fin hT2 hC hA (by omega), hF2⟩
      · skip
        have n42_3 : ¬ (m ≤ k) := fun qq => c42_3 ((nj_le (a := m) (b := k) (by omega) (by omega)).mpr qq)
        refine g_aload_n C dX3_addEaten_45 rfl rfl ?_
        refine g_get (v := .int (cl (σ2 28 2))) C fl_X3_24 fs_X3_24 (Nat.lt_of_lt_of_le (by decide) hN) rfl rfl dX3_addEaten_46 ?_
        refine g_val (y := nI (min 20 (ls.length + k))) (by rw [hC]; exact cl_n (by omega)) ?_
        refine g_bipush C dX3_addEaten_49 bp_20 ?_
        refine g_icmp_ge (tgt := 80) C dX3_addEaten_51 rfl (fun c51_4 => ?_) (fun c51_4 => ?_)
        · skip
          have n51_4 : 20 ≤ min 20 (ls.length + k) := (nj_le (a := 20) (b := min 20 (ls.length + k)) (by omega) (by omega)).mp c51_4
          refine g_vret C r dX3_addEaten_80 ?_
          exact ⟨addE_fin hT2 hC hA (by omega), hF2⟩
        · skip
          have n51_4 : ¬ (20 ≤ min 20 (ls.length + k)) := fun qq => c51_4 ((nj_le (a := 20) (b := min 20 (ls.length + k)) (by omega) (by omega)).mpr qq)
          refine g_aload_n C dX3_addEaten_54 rfl rfl ?_
          refine g_get (v := .ref (wA w 30)) C fl_X3_15 fs_X3_15 (Nat.lt_of_lt_of_le (by decide) hN) rfl rfl dX3_addEaten_55 ?_
          refine g_aload_n C dX3_addEaten_58 rfl rfl ?_
          refine g_get (v := .int (cl (σ2 28 2))) C fl_X3_24 fs_X3_24 (Nat.lt_of_lt_of_le (by decide) hN) rfl rfl dX3_addEaten_59 ?_
          refine g_val (y := nI (min 20 (ls.length + k))) (by rw [hC]; exact cl_n (by omega)) ?_
          refine g_iload_n C dX3_addEaten_62 rfl rfl ?_
          refine g_ias (k0 := 30) (n := 20) C (Nat.lt_of_lt_of_le (by decide) hN) rfl (j := min 20 (ls.length + k)) (ix_n (by omega)) dX3_addEaten_63 (fun σ2n1 hσ2n1 => ?_)
          refine g_aload_n C dX3_addEaten_64 rfl rfl ?_
          refine g_dup C dX3_addEaten_65 rfl ?_
          refine g_get (v := .int (cl (σ2n1 28 2))) C fl_X3_24 fs_X3_24 (Nat.lt_of_lt_of_le (by decide) hN) rfl rfl dX3_addEaten_66 ?_
          refine g_val (y := nI (min 20 (ls.length + k))) (by rw [hσ2n1, up_at, if_neg (by omega), hC]; exact cl_n (by omega)) ?_
          refine g_iconst C dX3_addEaten_69 ic_1 ?_
          refine g_iaddv (v := nI ((min 20 (ls.length + k)) + 1)) C (nj_plus (min 20 (ls.length + k)) 1) dX3_addEaten_70 ?_
          refine g_putn C fp_X3_24 (Nat.lt_of_lt_of_le (by decide) hN) rfl (cl_set (cl_n (by omega))) (Nat.le_of_ble_eq_true rfl) rfl rfl dX3_addEaten_71 (fun σ2n2 hσ2n2 => ?_)
          refine g_iinc (v := nI (k + 1)) (lv' := [(4, .int (nI (k + 1))), (0, .ref (wA w 28)), (1, .int (nI g)), (2, .int (nI m))]) C dX3_addEaten_74 (by decide) rfl (nj_inc k) rfl ?_
          refine g_goto (tgt := 39) C dX3_addEaten_77 rfl ?_
          exact g_lvp [1, 2, 3, 0] rfl (ih39 (m - (k + 1)) (by omega) (k + 1) σ2n2 rfl (by first | omega | assumption | rfl | grind) (by subst_vars; simp [up_at, hT2]) (by subst_vars; rw [up_at, if_pos ⟨rfl, rfl⟩]; exact congrArg nI (by omega)) (by exact addE_row hσ2n1 hσ2n2 hA (by omega) (by omega)) (by subst_vars; exact hF2.tr ((Fr.up (S := inT) ⟨by decide, by decide⟩).tr (Fr.up (S := inT) ⟨by decide, by decide⟩) (fun _ h => h)) (fun _ h => h)))
    obtain ⟨h0, hh1, h2, h3, h4, h5, h6, h7⟩ := hT
    obtain ⟨g0, g1, g2, g3, g4, g5, g6, g7⟩ := h1
    exact g_lvp [1, 2, 3, 0] rfl (L39 (m - 0) 0 σ_2 rfl (by first | omega | assumption | rfl | grind) (by subst_vars; simp [up_at, *]) (by subst_vars; simp [up_at, *]) (fun i hi hl => by have e1 := h7 i hi (by omega); subst_vars; rw [up_other (by decide), g7, e1, getD_app_l (by omega)]) (by subst_vars; exact hF.tr (Fr.up (S := inT) ⟨by decide, by decide⟩) (fun _ h => h)))
  refine g_iload_n C dX3_addEaten_10 rfl rfl ?_
  refine g_if_ne (tgt := 24) C dX3_addEaten_11 rfl (fun c11_5 => ?_) (fun c11_5 => ?_)
  · skip
    have n11_5 : ¬ (g = 0) := fun qq => c11_5 ((nj_eq (a := g) (b := 0) (by omega) (by omega)).mpr qq)
    obtain ⟨h0, h1, h2, h3, h4, h5, h6, h7⟩ := hT
    exact g_lvp [0, 1, 2, 3] rfl (L24 σ_1 (by subst_vars; simp [up_at, List.count_append, List.count_replicate, nj_plus, up_other, *]) (by subst_vars; exact Fr.up ⟨by decide, by decide⟩))
  · skip
    have n11_5 : g = 0 := (nj_eq (a := g) (b := 0) (by omega) (by omega)).mp c11_5
    refine g_aload_n C dX3_addEaten_14 rfl rfl ?_
    refine g_get (v := .ref (wA w 29)) C fl_X3_9 fs_X3_9 (Nat.lt_of_lt_of_le (by decide) hN) rfl rfl dX3_addEaten_15 ?_
    refine g_iconst C dX3_addEaten_18 ic_2 ?_
    refine g_dup2 C dX3_addEaten_19 rfl rfl ?_
    refine g_ial (k0 := 29) (n := 6) C (Nat.lt_of_lt_of_le (by decide) hN) rfl (j := 2) (by unfold ix; decide) dX3_addEaten_20 ?_
    refine g_iload_n C dX3_addEaten_21 rfl rfl ?_
    refine g_iaddv (v := (σ_1 29 2) + (nI m)) C rfl dX3_addEaten_22 ?_
    refine g_ias (k0 := 29) (n := 6) C (Nat.lt_of_lt_of_le (by decide) hN) rfl (j := 2) (by unfold ix; decide) dX3_addEaten_23 (fun σ_6 hσ_6 => ?_)
    obtain ⟨h0, h1, h2, h3, h4, h5, h6, h7⟩ := hT
    exact g_lvp [0, 1, 2, 3] rfl (L24 σ_6 (by subst_vars; simp [up_at, List.count_append, List.count_replicate, nj_plus, up_other, *]) (by subst_vars; exact (Fr.up (S := inT) ⟨by decide, by decide⟩).tr (Fr.up (S := inT) ⟨by decide, by decide⟩) (fun _ h => h)))

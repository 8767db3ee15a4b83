set_option maxRecDepth 100000 in
set_option maxHeartbeats 4000000 in
theorem ct_X4_shareOne (l : Launch) (w : WD) (hN : 54 ≤ wN w) (σ : SG) (a : Row) (hH : Hh σ 1 a) (hB : Bd a) (i g : Nat) (hi : i < 6) (hg5 : g < 5) (hg : ag a i = g) (hM : ∀ s, s < 81 → MXI (Rw (ES a) i s) (σ 36 s)) : CtV l w yX4_shareOne cX4_shareOne 7 2 0 0 [.ref (wA w 0), .int (nI g)] σ (fun τ => (∀ s, s < 81 → MXI (Rw (ES a) (i + 1) s) (τ 36 s)) ∧ Fr (fun k => k = 36) σ τ) := by
  refine CtV.mk (by decide) (Nat.le_of_ble_eq_true rfl) ?_
  intro K C hr h0
  have r := RV.of hr h0
  clear hr h0
  show G l w K 0 [(0, .ref (wA w 0)), (1, .int (nI g))] [] σ
  obtain ⟨hBa, hB0, hB1, hB2, hB3, hB4, hB5, hB6, hB7, hBs, hBp, hBe⟩ := id hB
  have h1 : HB 1 := Or.inl rfl
  have hRl : ∀ s v, Rw (ES a) i s v → v ≤ 1000 := fun s v h => by have := Rs_le hB _ _ _ h; omega
  refine g_bipush C dX4_shareOne_0 bp_80 ?_
  refine g_istore_n (lv' := [(2, .int 80), (0, .ref (wA w 0)), (1, .int (nI g))]) C dX4_shareOne_2 rfl (by decide) rfl ?_
  have L3 : ∀ (m3 : Nat) (q : Nat) (σ1 : SG), m3 = q → (q ≤ 80) → (∀ s, s < 81 → q < s → MXI (Rw (ES a) (i + 1) s) (σ1 36 s)) → (∀ s, s ≤ q → MXI (Rw (ES a) i s) (σ1 36 s)) → (Fr (fun k => k = 36) σ σ1) → G l w K 3 [(0, .ref (wA w 0)), (1, .int (nI g)), (2, .int (nI q))] [] σ1 := by
    intro m3
    induction m3 using Nat.strongRecOn with
    | ind m3 ih3 =>
    intro q σ1 em3 hq h1a h1b hF1
    have hH1 : Hh σ1 1 a := hH.fr (fun k z1 z2 => hF1 k (by omega))
    refine g_iload_n C dX4_shareOne_3 rfl rfl ?_
    refine g_if_le (tgt := 125) C dX4_shareOne_4 rfl (fun c4_1 => ?_) (fun c4_1 => ?_)
    · skip
      have n4_1 : q ≤ 0 := (nj_le (a := q) (b := 0) (by omega) (by omega)).mp c4_1
      have hq0 : q = 0 := by omega
      refine g_vret C r dX4_shareOne_125 ?_
      refine ⟨fun s hs => (Decidable.em (s = 0)).elim (fun z => by rw [z]; exact (h1b 0 (Nat.zero_le _)).iff (fun v => R1_0 a hB0 i v)) (fun z => h1a s hs (by omega)), hF1⟩
    · skip
      have n4_1 : ¬ (q ≤ 0) := fun qq => c4_1 ((nj_le (a := q) (b := 0) (by omega) (by omega)).mpr qq)
      refine g_iconst C dX4_shareOne_7 ic_0 ?_
      refine g_istore_n (lv' := [(3, .int 0), (0, .ref (wA w 0)), (1, .int (nI g)), (2, .int (nI q))]) C dX4_shareOne_8 rfl (by decide) rfl ?_
      have L9 : ∀ (m9 : Nat) (e : Nat) (σ2 : SG), m9 = a 0 - e → (e ≤ a 0) → (∀ s, s < 81 → q < s → MXI (Rw (ES a) (i + 1) s) (σ2 36 s)) → (∀ s, s < q → MXI (Rw (ES a) i s) (σ2 36 s)) → (MXI (Rp a i q e) (σ2 36 q)) → (Fr (fun k => k = 36) σ σ2) → G l w K 9 [(0, .ref (wA w 0)), (1, .int (nI g)), (2, .int (nI q)), (3, .int (nI e))] [] σ2 := by
        intro m9
        induction m9 using Nat.strongRecOn with
        | ind m9 ih9 =>
        intro e σ2 em9 he h2a h2b hpq hF2
        have hH2 : Hh σ2 1 a := hH.fr (fun k z1 z2 => hF2 k (by omega))
        have hpl : ∀ v, Rp a i q e v → v ≤ 1000 := fun v h => Rp_le hB (by omega) (by omega) h
        refine g_iload_n C dX4_shareOne_9 rfl rfl ?_
        refine g_aload_n C dX4_shareOne_10 rfl rfl ?_
        refine g_get (v := .ref (wA w 1)) C fl_X4_12 fs_X4_12 (Nat.lt_of_lt_of_le (by decide) hN) rfl rfl dX4_shareOne_11 ?_
        refine g_get (v := .int (σ2 1 4)) C fl_X4_164 fs_X4_164 (Nat.lt_of_lt_of_le (by decide) hN) rfl rfl dX4_shareOne_14 ?_
        refine g_val (y := nI (a 0)) (Hh.c hH2) ?_
        refine g_icmp_ge (tgt := 119) C dX4_shareOne_17 rfl (fun c17_2 => ?_) (fun c17_2 => ?_)
        · skip
          have n17_2 : a 0 ≤ e := (nj_le (a := a 0) (b := e) (by have := hBa 0; omega) (by have := hBa 0; omega)).mp c17_2
          have hea : e = a 0 := by omega
          refine g_iinc (v := nI (q - 1)) (lv' := [(2, .int (nI (q - 1))), (0, .ref (wA w 0)), (1, .int (nI g)), (3, .int (nI e))]) C dX4_shareOne_119 (by decide) rfl (nj_dec (by omega)) rfl ?_
          refine g_goto (tgt := 3) C dX4_shareOne_122 rfl ?_
          exact g_lvp [1, 2, 0] rfl (ih3 ((q - 1)) (by omega) (q - 1) σ2 rfl (by first | omega | assumption | rfl | grind) (fun s h1 h2 => (Decidable.em (s = q)).elim (fun z => by rw [z]; exact (hpq.iff (fun v => by rw [hea]; exact (Rp_n hB0 (by omega) i v).symm))) (fun z => h2a s h1 (by omega))) (fun s h => h2b s (by omega)) (hF2))
        · skip
          have n17_2 : ¬ (a 0 ≤ e) := fun qq => c17_2 ((nj_le (a := a 0) (b := e) (by have := hBa 0; omega) (by have := hBa 0; omega)).mpr qq)
          have L113 : ∀ (σ3 : SG), (∀ s, s < 81 → q < s → MXI (Rw (ES a) (i + 1) s) (σ3 36 s)) → (∀ s, s < q → MXI (Rw (ES a) i s) (σ3 36 s)) → (MXI (Rp a i q (e + 1)) (σ3 36 q)) → (Fr (fun k => k = 36) σ σ3) → G l w K 113 [(0, .ref (wA w 0)), (1, .int (nI g)), (2, .int (nI q)), (3, .int (nI e))] [] σ3 := by
            intro σ3 h3a h3b h3q hF3
            refine g_iinc (v := nI (e + 1)) (lv' := [(3, .int (nI (e + 1))), (0, .ref (wA w 0)), (1, .int (nI g)), (2, .int (nI q))]) C dX4_shareOne_113 (by decide) rfl (nj_inc e) rfl ?_
            refine g_goto (tgt := 9) C dX4_shareOne_116 rfl ?_
            exact g_lvp [1, 2, 3, 0] rfl (ih9 (a 0 - (e + 1)) (by omega) (e + 1) σ3 rfl (by first | omega | assumption | rfl | grind) (h3a) (h3b) (h3q) (hF3))
          have h3b_ := thr_b (e := e) (by omega)
          have hdg := dg_le q e
          have hqd : q / 3 ^ e ≤ q := Nat.div_le_self _ _
          refine g_iload_n C dX4_shareOne_20 rfl rfl ?_
          refine g_getT C gs_X4_236 dX4_shareOne_21 ?_
          refine g_iload_n C dX4_shareOne_24 rfl rfl ?_
          refine g_alT C (j := e) (ix_n (by omega)) dX4_shareOne_25 ?_
          refine g_val (y := nI (3 ^ e)) (thr_eq (by omega)) ?_
          refine g_idivv (v := nI (q / 3 ^ e)) C (fun z => by have z2 := (nj_eq (a := 3 ^ e) (b := 0) (by omega) (by omega)).mp z; omega) (nj_div (by omega) (by omega)) dX4_shareOne_26 ?_
          refine g_iconst C dX4_shareOne_27 ic_3 ?_
          refine g_iremv (v := nI (dg q e)) C (by decide) (nj_rem (b := 3) (by omega) (by omega)) dX4_shareOne_28 ?_
          refine g_if_le (tgt := 36) C dX4_shareOne_29 rfl (fun c29_3 => ?_) (fun c29_3 => ?_)
          · skip
            have n29_3 : dg q e ≤ 0 := (nj_le (a := dg q e) (b := 0) (by omega) (by omega)).mp c29_3
            have hskip : ¬ (0 < dg q e ∧ eats a e (ag a i) ∧ ∃ u, Rw (ES a) i (q - 3 ^ e) u) := fun z => by omega
            refine g_iconst C dX4_shareOne_36 ic_0 ?_
            refine g_istore (lv' := [(4, .int 0), (0, .ref (wA w 0)), (1, .int (nI g)), (2, .int (nI q)), (3, .int (nI e))]) C dX4_shareOne_37 (by decide) rfl ?_
            refine g_iload C dX4_shareOne_39 rfl ?_
            refine g_if_eq (tgt := 59) C dX4_shareOne_41 rfl (fun c41_4 => ?_) (fun c41_4 => ?_)
            · skip
              refine g_iconst C dX4_shareOne_59 ic_m1 ?_
              refine g_istore (lv' := [(5, .int ((-1))), (4, .int 0), (0, .ref (wA w 0)), (1, .int (nI g)), (2, .int (nI q)), (3, .int (nI e))]) C dX4_shareOne_60 (by decide) rfl ?_
              refine g_iload C dX4_shareOne_62 rfl ?_
              refine g_iconst C dX4_shareOne_64 ic_m1 ?_
              refine g_icmp_ne (tgt := 71) C dX4_shareOne_65 rfl (fun c65_5 => ?_) (fun c65_5 => ?_)
              · exact absurd c65_5 (by decide)
              · skip
                have hskip : ¬ (0 < dg q e ∧ eats a e (ag a i) ∧ ∃ u, Rw (ES a) i (q - 3 ^ e) u) := by first | exact hskip | exact fun z => by obtain ⟨z1, z2, u, z3⟩ := z; exact (h2b _ k3).none (hRl _) c65_5 u z3
                refine g_goto (tgt := 113) C dX4_shareOne_68 rfl ?_
                exact g_lvp [2, 3, 4, 5] rfl (L113 σ2 (h2a) (h2b) (hpq.iff (fun v => Rp_no hskip)) (hF2))
            · exact absurd c41_4 (by decide)
          · skip
            have n29_3 : ¬ (dg q e ≤ 0) := fun qq => c29_3 ((nj_le (a := dg q e) (b := 0) (by omega) (by omega)).mpr qq)
            obtain ⟨k1, k2⟩ := dg_sub (s := q) (by omega) (show e < 4 by omega) (by omega)
            have k3 : q - 3 ^ e < q := Nat.sub_lt (by omega) (by omega)
            refine g_iconst C dX4_shareOne_32 ic_1 ?_
            refine g_goto (tgt := 37) C dX4_shareOne_33 rfl ?_
            refine g_istore (lv' := [(4, .int 1), (0, .ref (wA w 0)), (1, .int (nI g)), (2, .int (nI q)), (3, .int (nI e))]) C dX4_shareOne_37 (by decide) rfl ?_
            refine g_iload C dX4_shareOne_39 rfl ?_
            refine g_if_eq (tgt := 59) C dX4_shareOne_41 rfl (fun c41_6 => ?_) (fun c41_6 => ?_)
            · exact absurd c41_6 (by decide)
            · skip
              refine g_aload_n C dX4_shareOne_44 rfl rfl ?_
              refine g_get (v := .ref (wA w 36)) C fl_X4_50 fs_X4_50 (Nat.lt_of_lt_of_le (by decide) hN) rfl rfl dX4_shareOne_45 ?_
              refine g_iload_n C dX4_shareOne_48 rfl rfl ?_
              refine g_getT C gs_X4_236 dX4_shareOne_49 ?_
              refine g_iload_n C dX4_shareOne_52 rfl rfl ?_
              refine g_alT C (j := e) (ix_n (by omega)) dX4_shareOne_53 ?_
              refine g_val (y := nI (3 ^ e)) (thr_eq (by omega)) ?_
              refine g_isubv (v := nI (q - (3 ^ e))) C (nj_minus (a := q) (b := 3 ^ e) k1) dX4_shareOne_54 ?_
              refine g_ial (k0 := 36) (n := 81) C (Nat.lt_of_lt_of_le (by decide) hN) rfl (j := q - (3 ^ e)) (ix_n (by omega)) dX4_shareOne_55 ?_
              refine g_goto (tgt := 60) C dX4_shareOne_56 rfl ?_
              refine g_istore (lv' := [(5, .int (σ2 36 (q - (3 ^ e)))), (4, .int 1), (0, .ref (wA w 0)), (1, .int (nI g)), (2, .int (nI q)), (3, .int (nI e))]) C dX4_shareOne_60 (by decide) rfl ?_
              refine g_iload C dX4_shareOne_62 rfl ?_
              refine g_iconst C dX4_shareOne_64 ic_m1 ?_
              refine g_icmp_ne (tgt := 71) C dX4_shareOne_65 rfl (fun c65_7 => ?_) (fun c65_7 => ?_)
              · skip
                obtain ⟨u, hub, hum⟩ := (h2b _ k3).some c65_7
                have hu9 := hRl _ _ hum.1
                refine g_aload_n C dX4_shareOne_71 rfl rfl ?_
                refine g_get (v := .ref (wA w 1)) C fl_X4_12 fs_X4_12 (Nat.lt_of_lt_of_le (by decide) hN) rfl rfl dX4_shareOne_72 ?_
                refine g_iload_n C dX4_shareOne_75 rfl rfl ?_
                refine g_iload_n C dX4_shareOne_76 rfl rfl ?_
                refine g_pVI (rest := []) (v := wJ a e g) C mv_X4_106 (ct_X1_worthTo l w hN σ2 1 (Or.inl rfl) a hH2 hB e g (by omega) (by omega)) (Nat.lt_of_lt_of_le (by decide) hN) rfl rfl (by decide) rfl (Nat.le_of_ble_eq_true rfl) dX4_shareOne_77 ?_
                refine g_istore (lv' := [(6, .int (wJ a e g)), (5, .int (σ2 36 (q - (3 ^ e)))), (4, .int 1), (0, .ref (wA w 0)), (1, .int (nI g)), (2, .int (nI q)), (3, .int (nI e))]) C dX4_shareOne_80 (by decide) rfl ?_
                refine g_iload C dX4_shareOne_82 rfl ?_
                refine g_iconst C dX4_shareOne_84 ic_m1 ?_
                refine g_icmp_eq (tgt := 113) C dX4_shareOne_85 rfl (fun c85_8 => ?_) (fun c85_8 => ?_)
                · skip
                  have hskip : ¬ (0 < dg q e ∧ eats a e (ag a i) ∧ ∃ u, Rw (ES a) i (q - 3 ^ e) u) := fun z => wJ_neats hBa c85_8 (by rw [← hg]; exact z.2.1)
                  exact g_lvp [3, 4, 5, 6] rfl (L113 σ2 (h2a) (h2b) (hpq.iff (fun v => Rp_no hskip)) (hF2))
                · skip
                  have hye : eats a e g := wJ_eats c85_8
                  have hwj : wJ a e g = nI (wNt a e g) := if_pos hye
                  have hw9 := wNt_10 hB (e := e) (by omega) g
                  have hQ : Mx (fun v => ∃ t, Rw (ES a) i (q - 3 ^ e) t ∧ v = t + wNt a e g) (u + wNt a e g) := Mx_add hum
                  have hRs : ∀ v, Rp a i q (e + 1) v ↔ Rp a i q e v ∨ ∃ t, Rw (ES a) i (q - 3 ^ e) t ∧ v = t + wNt a e g := fun v => by rw [Rp_s, hg]; exact or_congr Iff.rfl ⟨fun z => z.2.2, fun z => ⟨by omega, hye, z⟩⟩
                  refine g_iload C dX4_shareOne_88 rfl ?_
                  refine g_iload C dX4_shareOne_90 rfl ?_
                  refine g_iaddv (v := nI (u + wNt a e g)) C (by rw [hub, hwj, nj_plus]) dX4_shareOne_92 ?_
                  refine g_aload_n C dX4_shareOne_93 rfl rfl ?_
                  refine g_get (v := .ref (wA w 36)) C fl_X4_50 fs_X4_50 (Nat.lt_of_lt_of_le (by decide) hN) rfl rfl dX4_shareOne_94 ?_
                  refine g_iload_n C dX4_shareOne_97 rfl rfl ?_
                  refine g_ial (k0 := 36) (n := 81) C (Nat.lt_of_lt_of_le (by decide) hN) rfl (j := q) (ix_n (by omega)) dX4_shareOne_98 ?_
                  refine g_icmp_le (tgt := 113) C dX4_shareOne_99 rfl (fun c99_9 => ?_) (fun c99_9 => ?_)
                  · skip
                    have hle := c99_9
                    exact g_lvp [3, 4, 5, 6] rfl (L113 σ2 (h2a) (h2b) (hpq.stay hpl (by omega) hQ hRs hle) (hF2))
                  · skip
                    have hle := c99_9
                    refine g_aload_n C dX4_shareOne_102 rfl rfl ?_
                    refine g_get (v := .ref (wA w 36)) C fl_X4_50 fs_X4_50 (Nat.lt_of_lt_of_le (by decide) hN) rfl rfl dX4_shareOne_103 ?_
                    refine g_iload_n C dX4_shareOne_106 rfl rfl ?_
                    refine g_iload C dX4_shareOne_107 rfl ?_
                    refine g_iload C dX4_shareOne_109 rfl ?_
                    refine g_iaddv (v := nI (u + wNt a e g)) C (by rw [hub, hwj, nj_plus]) dX4_shareOne_111 ?_
                    refine g_ias (k0 := 36) (n := 81) C (Nat.lt_of_lt_of_le (by decide) hN) rfl (j := q) (ix_n (by omega)) dX4_shareOne_112 (fun σz hσz => ?_)
                    exact g_lvp [3, 4, 5, 6] rfl (L113 σz (fun s h h2 => by rw [hσz, up_elem (by omega)]; exact h2a s h h2) (fun s h => by rw [hσz, up_elem (by omega)]; exact h2b s h) (by rw [hσz, up_same]; exact hpq.up hpl (by omega) hQ hRs hle) (hF2.tr (show Fr (fun k => k = 36) σ2 σz by rw [hσz]; exact Fr.up (S := fun k => k = 36) rfl) (fun _ z => z)))
              · skip
                have hskip : ¬ (0 < dg q e ∧ eats a e (ag a i) ∧ ∃ u, Rw (ES a) i (q - 3 ^ e) u) := by first | exact hskip | exact fun z => by obtain ⟨z1, z2, u, z3⟩ := z; exact (h2b _ k3).none (hRl _) c65_7 u z3
                refine g_goto (tgt := 113) C dX4_shareOne_68 rfl ?_
                exact g_lvp [2, 3, 4, 5] rfl (L113 σ2 (h2a) (h2b) (hpq.iff (fun v => Rp_no hskip)) (hF2))
      exact g_lvp [1, 2, 3, 0] rfl (L9 (a 0 - 0) 0 σ1 rfl (by first | omega | assumption | rfl | grind) (h1a) (fun s h => h1b s (by omega)) ((h1b q (Nat.le_refl q)).iff (fun v => Rp_0 a i q v)) (hF1))
  exact g_lvp [1, 2, 0] rfl (L3 (80) 80 σ rfl (by first | omega | assumption | rfl | grind) (fun s h1 h2 => by omega) (fun s h => hM s (by omega)) (Fr.rf))
def GX (P : Nat → Nat → Prop) (q x : Nat) : Prop := x = 0 ∨ ∃ s, s < q ∧ P s x
theorem gr_x1 {P : Nat → Nat → Prop} {q x x2 : Nat} (hm1 : x2 = x ∨ P q x2) (hx1 : GX P q x) : GX P (q + 1) x2 := by
  rcases hm1 with z | z
  · rw [z]
    rcases hx1 with y | y
    · exact Or.inl y
    · obtain ⟨s, z1, z2⟩ := y
      exact Or.inr ⟨s, Nat.lt_succ_of_lt z1, z2⟩
  · exact Or.inr ⟨q, Nat.lt_succ_self q, z⟩
set_option maxRecDepth 100000 in
set_option maxHeartbeats 4000000 in
theorem ct_X4_greatest (l : Launch) (w : WD) (hN : 54 ≤ wN w) (σ : SG) (k0 nn_ : Nat) (hk0k : k0 < wN w) (hk0s : shp w k0 = aI w nn_) (hn9 : nn_ ≤ 1000) (hn0 : 0 < nn_) (P : Nat → Nat → Prop) (hP : ∀ s v, P s v → v ≤ 1000) (h0 : P 0 0) (hM : ∀ s, s < nn_ → MXI (P s) (σ k0 s)) : CtI l w yX4_greatest cX4_greatest 3 (some .int) 2 0 0 [.ref (wA w k0)] σ (fun r τ => (∃ m, r = nI m ∧ m ≤ 1000 ∧ Mx (fun v => ∃ s, s < nn_ ∧ P s v) m) ∧ τ = σ) := by
  refine CtI.mk (by decide) (Nat.le_of_ble_eq_true rfl) ?_
  intro K C hr h0
  have r := RI.of hr h0
  clear hr h0
  show G l w K 0 [(0, .ref (wA w k0))] [] σ
  refine g_iconst C dX4_greatest_0 ic_0 ?_
  refine g_istore_n (lv' := [(1, .int 0), (0, .ref (wA w k0))]) C dX4_greatest_1 rfl (by decide) rfl ?_
  refine g_iconst C dX4_greatest_2 ic_0 ?_
  refine g_istore_n (lv' := [(2, .int 0), (1, .int 0), (0, .ref (wA w k0))]) C dX4_greatest_3 rfl (by decide) rfl ?_
  have L4 : ∀ (m4 : Nat) (x : Nat) (q : Nat), m4 = nn_ - q → (q ≤ nn_) → (x ≤ 1000) → (GX P q x) → (∀ s, s < q → ∀ v, P s v → v ≤ x) → G l w K 4 [(0, .ref (wA w k0)), (1, .int (nI x)), (2, .int (nI q))] [] σ := by
    intro m4
    induction m4 using Nat.strongRecOn with
    | ind m4 ih4 =>
    intro x q em4 hq hx9 hx1 hx2
    refine g_iload_n C dX4_greatest_4 rfl rfl ?_
    refine g_aload_n C dX4_greatest_5 rfl rfl ?_
    refine g_alen (k0 := k0) (n := nn_) (v := nI nn_) C hk0k hk0s rfl dX4_greatest_6 ?_
    refine g_icmp_ge (tgt := 24) C dX4_greatest_7 rfl (fun c7_1 => ?_) (fun c7_1 => ?_)
    · skip
      have n7_1 : nn_ ≤ q := (nj_le (a := nn_) (b := q) (by omega) (by omega)).mp c7_1
      have hqn : q = nn_ := by omega
      refine g_iload_n C dX4_greatest_24 rfl rfl ?_
      refine g_iret C r rfl dX4_greatest_25 ?_
      refine ⟨⟨x, rfl, hx9, ?_, fun v hv => ?_⟩, rfl⟩
      · rcases hx1 with z | ⟨s, z1, z2⟩
        · exact ⟨0, hn0, by rw [z]; exact h0⟩
        · exact ⟨s, by omega, z2⟩
      · obtain ⟨s, z1, z2⟩ := hv; exact hx2 s (by omega) v z2
    · skip
      have n7_1 : ¬ (nn_ ≤ q) := fun qq => c7_1 ((nj_le (a := nn_) (b := q) (by omega) (by omega)).mpr qq)
      obtain ⟨x2, hme, hm9, hm1, hm2, hm3⟩ := (hM q (by omega)).le (hP q) hx9
      refine g_iload_n C dX4_greatest_10 rfl rfl ?_
      refine g_aload_n C dX4_greatest_11 rfl rfl ?_
      refine g_iload_n C dX4_greatest_12 rfl rfl ?_
      refine g_ial (k0 := k0) (n := nn_) C hk0k hk0s (j := q) (ix_n (by omega) (by omega)) dX4_greatest_13 ?_
      refine g_max C ml_X4_239 st_Lib_Math_max ini_Math co_Lib_Math_max (by decide) (Nat.le_of_ble_eq_true rfl) dX4_greatest_14 ?_
      refine g_val (y := nI x2) hme ?_
      refine g_istore_n (lv' := [(1, .int (nI x2)), (0, .ref (wA w k0)), (2, .int (nI q))]) C dX4_greatest_17 rfl (by decide) rfl ?_
      refine g_iinc (v := nI (q + 1)) (lv' := [(2, .int (nI (q + 1))), (1, .int (nI x2)), (0, .ref (wA w k0))]) C dX4_greatest_18 (by decide) rfl (nj_inc q) rfl ?_
      refine g_goto (tgt := 4) C dX4_greatest_21 rfl ?_
      exact g_lvp [2, 1, 0] rfl (ih4 (nn_ - (q + 1)) (by omega) x2 (q + 1) rfl (by first | omega | assumption | rfl | grind) (hm9) (gr_x1 hm1 hx1) (fun s h v hv => (Decidable.em (s = q)).elim (fun z => hm3 v (by rw [← z]; exact hv)) (fun z => Nat.le_trans (hx2 s (by omega) v hv) hm2)))
  exact g_lvp [2, 1, 0] rfl (L4 (nn_ - 0) 0 0 rfl (by first | omega | assumption | rfl | grind) (by first | omega | assumption | rfl | grind) (Or.inl rfl) (fun s h => absurd h (Nat.not_lt_zero _)))
set_option maxRecDepth 100000 in
set_option maxHeartbeats 4000000 in
theorem ct_X4_share (l : Launch) (w : WD) (hN : 54 ≤ wN w) (σ : SG) (a kp : Row) (tk nl : Nat) (lt : Nat → Nat) (qn : Nat) (qs : Nat → Nat) (rf : Nat → Int32) (hC : CX σ (a, kp, tk, (nl, lt), (qn, qs), rf)) : CtI l w yX4_share cX4_share 5 (some .int) 3 0 0 [.ref (wA w 0)] σ (fun r τ => r = (spShare (a, kp, tk, (nl, lt), (qn, qs), rf)).1 ∧ CX τ (spShare (a, kp, tk, (nl, lt), (qn, qs), rf)).2 ∧ Fr in37 σ τ) := by
  refine CtI.mk (by decide) (Nat.le_of_ble_eq_true rfl) ?_
  intro K C hr h0
  have r := RI.of hr h0
  clear hr h0
  show G l w K 0 [(0, .ref (wA w 0))] [] σ
  have hR : HR σ a := hC.2.1
  have hH : Hh σ 1 a := hR.1
  have hB : Bd a := hR.2.1
  have h6 : σ 1 6 = nI 0 := hR.2.2.1
  have hd9 : a 1 ≤ 9999 := hR.2.2.2.1
  have hu9 : ∀ e, e < 4 → a (30 + 4 * e + 1) ≤ 9 := hR.2.2.2.2
  obtain ⟨hBa, hB0, hB1, hB2, hB3, hB4, hB5, hB6, hB7, hBs, hBp, hBe⟩ := id hB
  have h1 : HB 1 := Or.inl rfl
  have h10 : HB 10 := Or.inr (Or.inl rfl)
  have h19 : HB 19 := Or.inr (Or.inr rfl)
  refine g_aload_n C dX4_share_0 rfl rfl ?_
  refine g_get (v := .ref (wA w 36)) C fl_X4_50 fs_X4_50 (Nat.lt_of_lt_of_le (by decide) hN) rfl rfl dX4_share_1 ?_
  refine g_iconst C dX4_share_4 ic_m1 ?_
  refine g_callSV (rest := []) C ms_X4_184 (ct_fill l w hN σ 36 81 (Nat.lt_of_lt_of_le (by decide) hN) rfl (by decide) ((-1))) rfl (by decide) rfl (Nat.le_of_ble_eq_true rfl) dX4_share_5 (fun σf h1 => ?_)
  have hfl := h1
  refine g_aload_n C dX4_share_8 rfl rfl ?_
  refine g_get (v := .ref (wA w 36)) C fl_X4_50 fs_X4_50 (Nat.lt_of_lt_of_le (by decide) hN) rfl rfl dX4_share_9 ?_
  refine g_iconst C dX4_share_12 ic_0 ?_
  refine g_iconst C dX4_share_13 ic_0 ?_
  refine g_ias (k0 := 36) (n := 81) C (Nat.lt_of_lt_of_le (by decide) hN) rfl (j := 0) (by unfold ix; decide) dX4_share_14 (fun σ0 hσ0 => ?_)
  refine g_bipush C dX4_share_15 bp_6 ?_
  refine g_istore_n (lv' := [(1, .int 6), (0, .ref (wA w 0))]) C dX4_share_17 rfl (by decide) rfl ?_
  refine g_iconst C dX4_share_18 ic_0 ?_
  refine g_istore_n (lv' := [(2, .int 0), (1, .int 6), (0, .ref (wA w 0))]) C dX4_share_19 rfl (by decide) rfl ?_
  have L20 : ∀ (m20 : Nat) (g : Nat) (lf : Nat) (σ1 : SG), m20 = 5 - g → (g ≤ 5) → (lf + min 6 (cum a g) = 6) → (∀ s, s < 81 → MXI (Rw (ES a) (min 6 (cum a g)) s) (σ1 36 s)) → (Fr (fun k => k = 36) σ σ1) → G l w K 20 [(0, .ref (wA w 0)), (1, .int (nI lf)), (2, .int (nI g))] [] σ1 := by
    intro m20
    induction m20 using Nat.strongRecOn with
    | ind m20 ih20 =>
    intro g lf σ1 em20 hg hl hM1 hF1
    have hH1 : Hh σ1 1 a := hH.fr (fun k z1 z2 => hF1 k (by omega))
    refine g_iload_n C dX4_share_20 rfl rfl ?_
    refine g_iconst C dX4_share_21 ic_5 ?_
    refine g_icmp_ge (tgt := 69) C dX4_share_22 rfl (fun c22_2 => ?_) (fun c22_2 => ?_)
    · skip
      have n22_2 : 5 ≤ g := (nj_le (a := 5) (b := g) (by omega) (by omega)).mp c22_2
      have hg5 : g = 5 := by omega
      refine g_aload_n C dX4_share_69 rfl rfl ?_
      refine g_get (v := .ref (wA w 36)) C fl_X4_50 fs_X4_50 (Nat.lt_of_lt_of_le (by decide) hN) rfl rfl dX4_share_70 ?_
      refine g_callSI (rest := []) C ms_X4_193 (ct_X4_greatest l w hN σ1 36 81 (Nat.lt_of_lt_of_le (by decide) hN) rfl (by decide) (by decide) (Rw (ES a) (min 6 (cum a g))) (fun s v h => by have := Rs_le hB _ _ _ h; omega) (Rw_00 _ _) hM1) rfl (by decide) rfl (Nat.le_of_ble_eq_true rfl) dX4_share_73 (fun r3 σg h3 => ?_)
      obtain ⟨⟨m9, er3, hm9, hmx⟩, eh3⟩ := h3
      rw [eh3, er3]
      refine g_iret C r rfl dX4_share_76 ?_
      refine fin_q hC (hF1.mono (fun k z => by subst z; exact Or.inr (Or.inl rfl))) ?_ rfl
      unfold spShare
      have hs := sh_all hB0 hmx
      rw [hg5] at hs
      show (nI (mxOf (Tw (ES a) (min 6 (cum a 5)) 0 0)), _) = _
      rw [hs]
    · skip
      have n22_2 : ¬ (5 ≤ g) := fun qq => c22_2 ((nj_le (a := 5) (b := g) (by omega) (by omega)).mpr qq)
      have hsg := hBs g (by omega)
      refine g_iload_n C dX4_share_25 rfl rfl ?_
      refine g_aload_n C dX4_share_26 rfl rfl ?_
      refine g_get (v := .ref (wA w 1)) C fl_X4_12 fs_X4_12 (Nat.lt_of_lt_of_le (by decide) hN) rfl rfl dX4_share_27 ?_
      refine g_get (v := .ref (wA w 2)) C fl_X4_94 fs_X4_94 (Nat.lt_of_lt_of_le (by decide) hN) rfl rfl dX4_share_30 ?_
      refine g_iload_n C dX4_share_33 rfl rfl ?_
      refine g_ial (k0 := 2) (n := 5) C (Nat.lt_of_lt_of_le (by decide) hN) rfl (j := g) (ix_n (by omega)) dX4_share_34 ?_
      refine g_val (y := nI (a (10 + g))) (Hh.s hH1 (by omega)) ?_
      refine g_min C ml_X4_133 st_Lib_Math_min ini_Math co_Lib_Math_min (by decide) (Nat.le_of_ble_eq_true rfl) dX4_share_35 ?_
      refine g_val (y := nI (min lf (a (10 + g)))) (nj_min (by omega) (by omega)) ?_
      refine g_nat (fun mm hmm => ?_)
      refine g_istore_n (lv' := [(3, .int (nI mm)), (0, .ref (wA w 0)), (1, .int (nI lf)), (2, .int (nI g))]) C dX4_share_38 rfl (by decide) rfl ?_
      refine g_iconst C dX4_share_39 ic_0 ?_
      refine g_istore (lv' := [(4, .int 0), (3, .int (nI mm)), (0, .ref (wA w 0)), (1, .int (nI lf)), (2, .int (nI g))]) C dX4_share_40 (by decide) rfl ?_
      have L42 : ∀ (m42 : Nat) (j : Nat) (σ2 : SG), m42 = mm - j → (j ≤ mm) → (∀ s, s < 81 → MXI (Rw (ES a) ((min 6 (cum a g)) + j) s) (σ2 36 s)) → (Fr (fun k => k = 36) σ σ2) → G l w K 42 [(0, .ref (wA w 0)), (1, .int (nI lf)), (2, .int (nI g)), (3, .int (nI mm)), (4, .int (nI j))] [] σ2 := by
        intro m42
        induction m42 using Nat.strongRecOn with
        | ind m42 ih42 =>
        intro j σ2 em42 hj hM2 hF2
        have hH2 : Hh σ2 1 a := hH.fr (fun k z1 z2 => hF2 k (by omega))
        have hcg : cum a (g + 1) = cum a g + a (10 + g) := rfl
        refine g_iload C dX4_share_42 rfl ?_
        refine g_iload_n C dX4_share_44 rfl rfl ?_
        refine g_icmp_ge (tgt := 59) C dX4_share_45 rfl (fun c45_4 => ?_) (fun c45_4 => ?_)
        · skip
          have n45_4 : mm ≤ j := (nj_le (a := mm) (b := j) (by omega) (by omega)).mp c45_4
          have hjm : j = mm := by omega
          refine g_iload_n C dX4_share_59 rfl rfl ?_
          refine g_iload_n C dX4_share_60 rfl rfl ?_
          refine g_isubv (v := nI (lf - mm)) C (nj_minus (a := lf) (b := mm) (by omega)) dX4_share_61 ?_
          refine g_istore_n (lv' := [(1, .int (nI (lf - mm))), (0, .ref (wA w 0)), (2, .int (nI g)), (3, .int (nI mm)), (4, .int (nI j))]) C dX4_share_62 rfl (by decide) rfl ?_
          refine g_iinc (v := nI (g + 1)) (lv' := [(2, .int (nI (g + 1))), (1, .int (nI (lf - mm))), (0, .ref (wA w 0)), (3, .int (nI mm)), (4, .int (nI j))]) C dX4_share_63 (by decide) rfl (nj_inc g) rfl ?_
          refine g_goto (tgt := 20) C dX4_share_66 rfl ?_
          exact g_lvp [2, 1, 0] rfl (ih20 (5 - (g + 1)) (by omega) (g + 1) (lf - mm) σ2 rfl (by first | omega | assumption | rfl | grind) (by omega) (fun s hs => by have z := hM2 s hs; rw [show min 6 (cum a (g + 1)) = min 6 (cum a g) + j by omega]; exact z) (hF2))
        · skip
          have n45_4 : ¬ (mm ≤ j) := fun qq => c45_4 ((nj_le (a := mm) (b := j) (by omega) (by omega)).mpr qq)
          refine g_aload_n C dX4_share_48 rfl rfl ?_
          refine g_iload_n C dX4_share_49 rfl rfl ?_
          refine g_callVV (rest := []) C mv_X4_190 (ct_X4_shareOne l w hN σ2 a hH2 hB ((min 6 (cum a g)) + j) g (by omega) (by omega) (ag_eq (by omega) (by omega) (by omega)) hM2) (Nat.lt_of_lt_of_le (by decide) hN) rfl rfl (by decide) rfl (Nat.le_of_ble_eq_true rfl) dX4_share_50 (fun σo h5 => ?_)
          obtain ⟨hMo, hFo⟩ := h5
          refine g_iinc (v := nI (j + 1)) (lv' := [(4, .int (nI (j + 1))), (0, .ref (wA w 0)), (1, .int (nI lf)), (2, .int (nI g)), (3, .int (nI mm))]) C dX4_share_53 (by decide) rfl (nj_inc j) rfl ?_
          refine g_goto (tgt := 42) C dX4_share_56 rfl ?_
          exact g_lvp [1, 2, 3, 4, 0] rfl (ih42 (mm - (j + 1)) (by omega) (j + 1) σo rfl (by first | omega | assumption | rfl | grind) (hMo) (hF2.tr hFo (fun _ z => z)))
      exact g_lvp [2, 3, 4, 1, 0] rfl (L42 (mm - 0) 0 σ1 rfl (by first | omega | assumption | rfl | grind) (hM1) (hF1))
  exact g_lvp [2, 1, 0] rfl (L20 (5 - 0) 0 6 σ0 rfl (by first | omega | assumption | rfl | grind) (by show 6 + min 6 0 = 6; rfl) (fun s hs => by rw [hσ0, up_at, show (min 6 (cum a 0)) = 0 from rfl]; exact (Decidable.em (s = 0)).elim (fun z => by rw [if_pos ⟨rfl, z⟩, z]; exact Or.inr ⟨0, rfl, ⟨rfl, rfl⟩, fun v hv => by obtain ⟨-, z2⟩ := hv; omega⟩) (fun z => by rw [if_neg (fun y => z y.2), hfl, upc_same, if_pos hs]; exact Or.inl ⟨rfl, fun v hv => z hv.1⟩)) (by rw [hσ0, hfl]; exact (Fr.upc (S := fun k => k = 36) rfl).tr (Fr.up (S := fun k => k = 36) rfl) (fun _ z => z)))

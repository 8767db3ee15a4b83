set_option maxRecDepth 100000 in
set_option maxHeartbeats 4000000 in
theorem ct_X4_openBottle (l : Launch) (w : WD) (hN : 54 ≤ wN w) (σ : SG) (n : Nat) (qs : Nat → Nat) (N i f t v : Nat) (hn1 : 1 ≤ n) (h6 : n ≤ 6) (hNN : N ≤ 6) (hi : i < N) (hq9 : ∀ j, j < 3 * N → qs j ≤ 99) (hf : f = qs (3 * i)) (ht : t = min (qs (3 * i + 1)) (n - 1)) (hv : v = qs (3 * i + 2)) (hM : ∀ s, s < 64 → MXI (Rw (EB n qs) i s) (σ 37 s)) : CtV l w yX4_openBottle cX4_openBottle 8 1 0 0 [.ref (wA w 0), .int (nI f), .int (nI t), .int (nI v)] σ (fun τ => (∀ s, s < 64 → MXI (Rw (EB n qs) (i + 1) s) (τ 37 s)) ∧ Fr (fun k => k = 37) σ τ) := by
  refine CtV.mk (by decide) (Nat.le_of_ble_eq_true rfl) ?_
  intro K C hr h0
  have r := RV.of hr h0
  clear hr h0
  show G l w K 0 [(0, .ref (wA w 0)), (1, .int (nI f)), (2, .int (nI t)), (3, .int (nI v))] [] σ
  have hRl : ∀ s u, Rw (EB n qs) i s u → u ≤ 1000 := fun s u h => by have := Rb_le hq9 _ _ _ (by omega) h; omega
  have hf9 := hq9 (3 * i) (by omega)
  have ht9 := hq9 (3 * i + 1) (by omega)
  have hv9 := hq9 (3 * i + 2) (by omega)
  refine g_bipush C dX4_openBottle_0 bp_63 ?_
  refine g_istore (lv' := [(4, .int 63), (0, .ref (wA w 0)), (1, .int (nI f)), (2, .int (nI t)), (3, .int (nI v))]) C dX4_openBottle_2 (by decide) rfl ?_
  have L4 : ∀ (m4 : Nat) (q : Nat) (σ1 : SG), m4 = q → (q ≤ 63) → (∀ s, s < 64 → q < s → MXI (Rw (EB n qs) (i + 1) s) (σ1 37 s)) → (∀ s, s ≤ q → MXI (Rw (EB n qs) i s) (σ1 37 s)) → (Fr (fun k => k = 37) σ σ1) → G l w K 4 [(0, .ref (wA w 0)), (1, .int (nI f)), (2, .int (nI t)), (3, .int (nI v)), (4, .int (nI q))] [] σ1 := by
    intro m4
    induction m4 using Nat.strongRecOn with
    | ind m4 ih4 =>
    intro q σ1 em4 hq h1a h1b hF1
    refine g_iload C dX4_openBottle_4 rfl ?_
    refine g_if_le (tgt := 102) C dX4_openBottle_6 rfl (fun c6_1 => ?_) (fun c6_1 => ?_)
    · skip
      have n6_1 : q ≤ 0 := (nj_le (a := q) (b := 0) (by omega) (by omega)).mp c6_1
      have hq0 : q = 0 := by omega
      refine g_vret C r dX4_openBottle_102 ?_
      refine ⟨fun s hs => (Decidable.em (s = 0)).elim (fun z => by rw [z]; exact (h1b 0 (Nat.zero_le _)).iff (fun u => Rb1_0 n qs h6 i u)) (fun z => h1a s hs (by omega)), hF1⟩
    · skip
      have n6_1 : ¬ (q ≤ 0) := fun qq => c6_1 ((nj_le (a := q) (b := 0) (by omega) (by omega)).mpr qq)
      refine g_iload_n C dX4_openBottle_9 rfl rfl ?_
      refine g_istore (lv' := [(5, .int (nI f)), (0, .ref (wA w 0)), (1, .int (nI f)), (2, .int (nI t)), (3, .int (nI v)), (4, .int (nI q))]) C dX4_openBottle_10 (by decide) rfl ?_
      have L12 : ∀ (m12 : Nat) (d : Nat) (σ2 : SG), m12 = 200 - d → (f ≤ d) → (d ≤ 200) → (∀ s, s < 64 → q < s → MXI (Rw (EB n qs) (i + 1) s) (σ2 37 s)) → (∀ s, s < q → MXI (Rw (EB n qs) i s) (σ2 37 s)) → (MXI (Bp n qs i q d) (σ2 37 q)) → (Fr (fun k => k = 37) σ σ2) → G l w K 12 [(0, .ref (wA w 0)), (1, .int (nI f)), (2, .int (nI t)), (3, .int (nI v)), (4, .int (nI q)), (5, .int (nI d))] [] σ2 := by
        intro m12
        induction m12 using Nat.strongRecOn with
        | ind m12 ih12 =>
        intro d σ2 em12 hd1 hd2 h2a h2b hpq hF2
        have hpl : ∀ u, Bp n qs i q d u → u ≤ 1000 := fun u h => Bp_le hq9 hi hNN h
        refine g_iload C dX4_openBottle_12 rfl ?_
        refine g_iload_n C dX4_openBottle_14 rfl rfl ?_
        refine g_icmp_gt (tgt := 96) C dX4_openBottle_15 rfl (fun c15_2 => ?_) (fun c15_2 => ?_)
        · skip
          have n15_2 : t < d := (nj_lt (a := t) (b := d) (by omega) (by omega)).mp c15_2
          have hde : qs (3 * i + 1) < d ∨ n ≤ d := by omega
          refine g_iinc (v := nI (q - 1)) (lv' := [(4, .int (nI (q - 1))), (0, .ref (wA w 0)), (1, .int (nI f)), (2, .int (nI t)), (3, .int (nI v)), (5, .int (nI d))]) C dX4_openBottle_96 (by decide) rfl (nj_dec (by omega)) rfl ?_
          refine g_goto (tgt := 4) C dX4_openBottle_99 rfl ?_
          exact g_lvp [1, 2, 3, 4, 0] rfl (ih4 ((q - 1)) (by omega) (q - 1) σ2 rfl (by first | omega | assumption | rfl | grind) (fun s h1 h2 => (Decidable.em (s = q)).elim (fun z => by rw [z]; exact (hpq.iff (fun u => (Bp_n h6 (by omega) i hde u).symm))) (fun z => h2a s h1 (by omega))) (fun s h => h2b s (by omega)) (hF2))
        · skip
          have n15_2 : ¬ (t < d) := fun qq => c15_2 ((nj_lt (a := t) (b := d) (by omega) (by omega)).mpr qq)
          have L90 : ∀ (σ3 : SG), (∀ s, s < 64 → q < s → MXI (Rw (EB n qs) (i + 1) s) (σ3 37 s)) → (∀ s, s < q → MXI (Rw (EB n qs) i s) (σ3 37 s)) → (MXI (Bp n qs i q (d + 1)) (σ3 37 q)) → (Fr (fun k => k = 37) σ σ3) → G l w K 90 [(0, .ref (wA w 0)), (1, .int (nI f)), (2, .int (nI t)), (3, .int (nI v)), (4, .int (nI q)), (5, .int (nI d))] [] σ3 := by
            intro σ3 h3a h3b h3q hF3
            refine g_iinc (v := nI (d + 1)) (lv' := [(5, .int (nI (d + 1))), (0, .ref (wA w 0)), (1, .int (nI f)), (2, .int (nI t)), (3, .int (nI v)), (4, .int (nI q))]) C dX4_openBottle_90 (by decide) rfl (nj_inc d) rfl ?_
            refine g_goto (tgt := 12) C dX4_openBottle_93 rfl ?_
            exact g_lvp [1, 2, 3, 4, 5, 0] rfl (ih12 (200 - (d + 1)) (by omega) (d + 1) σ3 rfl (by first | omega | assumption | rfl | grind) (by first | omega | assumption | rfl | grind) (h3a) (h3b) (h3q) (hF3))
          have h2b_ := two_b (d := d) (by omega)
          have hbw := bW_le q d
          refine g_iload C dX4_openBottle_18 rfl ?_
          refine g_iload C dX4_openBottle_20 rfl ?_
          refine g_ishr C dX4_openBottle_22 ?_
          refine g_iconst C dX4_openBottle_23 ic_1 ?_
          refine g_iand C dX4_openBottle_24 ?_
          refine g_val (y := nI (bW q d)) (bw_eq6 (by omega) (by omega)) ?_
          refine g_iconst C dX4_openBottle_25 ic_1 ?_
          refine g_icmp_ne (tgt := 33) C dX4_openBottle_26 rfl (fun c26_3 => ?_) (fun c26_3 => ?_)
          · skip
            have n26_3 : ¬ (bW q d = 1) := fun qq => c26_3 ((nj_eq (a := bW q d) (b := 1) (by omega) (by omega)).mpr qq)
            have hskip : ¬ (bW q d = 1 ∧ ∃ u, Rw (EB n qs) i (q - 2 ^ d) u) := fun z => by omega
            refine g_iconst C dX4_openBottle_33 ic_0 ?_
            refine g_istore (lv' := [(6, .int 0), (0, .ref (wA w 0)), (1, .int (nI f)), (2, .int (nI t)), (3, .int (nI v)), (4, .int (nI q)), (5, .int (nI d))]) C dX4_openBottle_34 (by decide) rfl ?_
            refine g_iload C dX4_openBottle_36 rfl ?_
            refine g_if_eq (tgt := 56) C dX4_openBottle_38 rfl (fun c38_4 => ?_) (fun c38_4 => ?_)
            · skip
              refine g_iconst C dX4_openBottle_56 ic_m1 ?_
              refine g_istore (lv' := [(7, .int ((-1))), (6, .int 0), (0, .ref (wA w 0)), (1, .int (nI f)), (2, .int (nI t)), (3, .int (nI v)), (4, .int (nI q)), (5, .int (nI d))]) C dX4_openBottle_57 (by decide) rfl ?_
              refine g_iload C dX4_openBottle_59 rfl ?_
              refine g_iconst C dX4_openBottle_61 ic_m1 ?_
              refine g_icmp_eq (tgt := 90) C dX4_openBottle_62 rfl (fun c62_5 => ?_) (fun c62_5 => ?_)
              · skip
                have hskip : ¬ (bW q d = 1 ∧ ∃ u, Rw (EB n qs) i (q - 2 ^ d) u) := by first | exact hskip | exact fun z => by obtain ⟨z1, u, z3⟩ := z; exact (h2b _ k3).none (hRl _) c62_5 u z3
                exact g_lvp [2, 3, 4, 5, 6, 7] rfl (L90 σ2 (h2a) (h2b) (hpq.iff (fun u => Bp_no (by omega) (by omega) (by omega) hskip u)) (hF2))
              · exact absurd c62_5 (by decide)
            · exact absurd c38_4 (by decide)
          · skip
            have n26_3 : bW q d = 1 := (nj_eq (a := bW q d) (b := 1) (by omega) (by omega)).mp c26_3
            obtain ⟨k1, k2⟩ := bw_sub (s := q) (by omega) (show d < 6 by omega) (by omega)
            have k3 : q - 2 ^ d < q := Nat.sub_lt (by omega) (by omega)
            refine g_iconst C dX4_openBottle_29 ic_1 ?_
            refine g_goto (tgt := 34) C dX4_openBottle_30 rfl ?_
            refine g_istore (lv' := [(6, .int 1), (0, .ref (wA w 0)), (1, .int (nI f)), (2, .int (nI t)), (3, .int (nI v)), (4, .int (nI q)), (5, .int (nI d))]) C dX4_openBottle_34 (by decide) rfl ?_
            refine g_iload C dX4_openBottle_36 rfl ?_
            refine g_if_eq (tgt := 56) C dX4_openBottle_38 rfl (fun c38_6 => ?_) (fun c38_6 => ?_)
            · exact absurd c38_6 (by decide)
            · skip
              refine g_aload_n C dX4_openBottle_41 rfl rfl ?_
              refine g_get (v := .ref (wA w 37)) C fl_X4_53 fs_X4_53 (Nat.lt_of_lt_of_le (by decide) hN) rfl rfl dX4_openBottle_42 ?_
              refine g_iload C dX4_openBottle_45 rfl ?_
              refine g_iconst C dX4_openBottle_47 ic_1 ?_
              refine g_iload C dX4_openBottle_48 rfl ?_
              refine g_ishl C dX4_openBottle_50 ?_
              refine g_val (y := nI (2 ^ d)) (shl6 (by omega)) ?_
              refine g_isubv (v := nI (q - (2 ^ d))) C (nj_minus (a := q) (b := 2 ^ d) k1) dX4_openBottle_51 ?_
              refine g_ial (k0 := 37) (n := 64) C (Nat.lt_of_lt_of_le (by decide) hN) rfl (j := q - (2 ^ d)) (ix_n (by omega)) dX4_openBottle_52 ?_
              refine g_goto (tgt := 57) C dX4_openBottle_53 rfl ?_
              refine g_istore (lv' := [(7, .int (σ2 37 (q - (2 ^ d)))), (6, .int 1), (0, .ref (wA w 0)), (1, .int (nI f)), (2, .int (nI t)), (3, .int (nI v)), (4, .int (nI q)), (5, .int (nI d))]) C dX4_openBottle_57 (by decide) rfl ?_
              refine g_iload C dX4_openBottle_59 rfl ?_
              refine g_iconst C dX4_openBottle_61 ic_m1 ?_
              refine g_icmp_eq (tgt := 90) C dX4_openBottle_62 rfl (fun c62_7 => ?_) (fun c62_7 => ?_)
              · skip
                have hskip : ¬ (bW q d = 1 ∧ ∃ u, Rw (EB n qs) i (q - 2 ^ d) u) := by first | exact hskip | exact fun z => by obtain ⟨z1, u, z3⟩ := z; exact (h2b _ k3).none (hRl _) c62_7 u z3
                exact g_lvp [2, 3, 4, 5, 6, 7] rfl (L90 σ2 (h2a) (h2b) (hpq.iff (fun u => Bp_no (by omega) (by omega) (by omega) hskip u)) (hF2))
              · skip
                obtain ⟨u, hub, hum⟩ := (h2b _ k3).some c62_7
                have hu9 := hRl _ _ hum.1
                have hQ : Mx (fun x => ∃ t, Rw (EB n qs) i (q - 2 ^ d) t ∧ x = t + v) (u + v) := Mx_add hum
                have hRs : ∀ x, Bp n qs i q (d + 1) x ↔ Bp n qs i q d x ∨ ∃ t, Rw (EB n qs) i (q - 2 ^ d) t ∧ x = t + v := fun x => by rw [Bp_s (by omega) (by omega) (by omega), hv]; exact or_congr Iff.rfl ⟨fun z => z.2, fun z => ⟨by omega, z⟩⟩
                refine g_iload C dX4_openBottle_65 rfl ?_
                refine g_iload_n C dX4_openBottle_67 rfl rfl ?_
                refine g_iaddv (v := nI (u + v)) C (by rw [hub, nj_plus]) dX4_openBottle_68 ?_
                refine g_aload_n C dX4_openBottle_69 rfl rfl ?_
                refine g_get (v := .ref (wA w 37)) C fl_X4_53 fs_X4_53 (Nat.lt_of_lt_of_le (by decide) hN) rfl rfl dX4_openBottle_70 ?_
                refine g_iload C dX4_openBottle_73 rfl ?_
                refine g_ial (k0 := 37) (n := 64) C (Nat.lt_of_lt_of_le (by decide) hN) rfl (j := q) (ix_n (by omega)) dX4_openBottle_75 ?_
                refine g_icmp_le (tgt := 90) C dX4_openBottle_76 rfl (fun c76_8 => ?_) (fun c76_8 => ?_)
                · skip
                  have hle := c76_8
                  exact g_lvp [2, 3, 4, 5, 6, 7] rfl (L90 σ2 (h2a) (h2b) (hpq.stay hpl (by omega) hQ hRs hle) (hF2))
                · skip
                  have hle := c76_8
                  refine g_aload_n C dX4_openBottle_79 rfl rfl ?_
                  refine g_get (v := .ref (wA w 37)) C fl_X4_53 fs_X4_53 (Nat.lt_of_lt_of_le (by decide) hN) rfl rfl dX4_openBottle_80 ?_
                  refine g_iload C dX4_openBottle_83 rfl ?_
                  refine g_iload C dX4_openBottle_85 rfl ?_
                  refine g_iload_n C dX4_openBottle_87 rfl rfl ?_
                  refine g_iaddv (v := nI (u + v)) C (by rw [hub, nj_plus]) dX4_openBottle_88 ?_
                  refine g_ias (k0 := 37) (n := 64) C (Nat.lt_of_lt_of_le (by decide) hN) rfl (j := q) (ix_n (by omega)) dX4_openBottle_89 (fun σz hσz => ?_)
                  exact g_lvp [2, 3, 4, 5, 6, 7] rfl (L90 σz (fun s h h2 => by rw [hσz, up_elem (by omega)]; exact h2a s h h2) (fun s h => by rw [hσz, up_elem (by omega)]; exact h2b s h) (by rw [hσz, up_same]; exact hpq.up hpl (by omega) hQ hRs hle) (hF2.tr (show Fr (fun k => k = 37) σ2 σz by rw [hσz]; exact Fr.up (S := fun k => k = 37) rfl) (fun _ z => z)))
      exact g_lvp [1, 2, 3, 4, 5, 0] rfl (L12 (200 - f) f σ1 rfl (by first | omega | assumption | rfl | grind) (by first | omega | assumption | rfl | grind) (h1a) (fun s h => h1b s (by omega)) ((h1b q (Nat.le_refl q)).iff (fun u => by rw [hf]; exact Bp_0 n qs i q u)) (hF1))
  exact g_lvp [1, 2, 3, 4, 0] rfl (L4 (63) 63 σ rfl (by first | omega | assumption | rfl | grind) (fun s h1 h2 => by omega) (fun s h => hM s (by omega)) (Fr.rf))
set_option maxRecDepth 100000 in
set_option maxHeartbeats 4000000 in
theorem ct_X4_bottles (l : Launch) (w : WD) (hN : 54 ≤ wN w) (σ : SG) (a kp : Row) (tk nl : Nat) (lt : Nat → Nat) (qn : Nat) (qs : Nat → Nat) (rf : Nat → Int32) (hC : CX σ (a, kp, tk, (nl, lt), (qn, qs), rf)) (x : Int32) : CtI l w yX4_bottles cX4_bottles 4 (some .int) 3 0 0 [.ref (wA w 0), .int x] σ (fun r τ => r = (spBottles (a, kp, tk, (nl, lt), (qn, qs), rf) x).1 ∧ CX τ (spBottles (a, kp, tk, (nl, lt), (qn, qs), rf) x).2 ∧ Fr in37 σ τ) := by
  refine CtI.mk (by decide) (Nat.le_of_ble_eq_true rfl) ?_
  intro K C hr h0
  have r := RI.of hr h0
  clear hr h0
  show G l w K 0 [(0, .ref (wA w 0)), (1, .int x)] [] σ
  have hR : HR σ a := hC.2.1
  have hH : Hh σ 1 a := hR.1
  have hB : Bd a := hR.2.1
  have h6 : σ 1 6 = nI 0 := hR.2.2.1
  have hd9 : a 1 ≤ 9999 := hR.2.2.2.1
  have hu9 : ∀ e, e < 4 → a (30 + 4 * e + 1) ≤ 9 := hR.2.2.2.2
  obtain ⟨hBa, hB0, hB1, hB2, hB3, hB4, hB5, hB6, hB7, hBs, hBp, hBe⟩ := id hB
  have h1 : HB 1 := Or.inl rfl
  have h10 : HB 10 := Or.inr (Or.inl rfl)
  have h19 : HB 19 := Or.inr (Or.inr rfl)
  have hn1 : σ 0 10 = nI qn := hC.2.2.2.2.2.1.1
  have hn9 : qn ≤ 20 := hC.1.2.2.2.2.2.1
  have hns : ∀ j, j < qn → σ 34 j = nI (qs j) := hC.2.2.2.2.2.1.2
  have hns9 : ∀ j, j < qn → qs j ≤ 99 := hC.1.2.2.2.2.2.2
  refine g_iload_n C dX4_bottles_0 rfl rfl ?_
  refine g_iconst C dX4_bottles_1 ic_1 ?_
  refine g_bipush C dX4_bottles_2 bp_6 ?_
  refine g_pSI (rest := []) (v := oU x 1 6) C ms_X4_56 (ct_X4_outside l w hN σ x 1 6) rfl (by decide) rfl (Nat.le_of_ble_eq_true rfl) dX4_bottles_4 ?_
  refine g_istore_n (lv' := [(2, .int (oU x 1 6)), (0, .ref (wA w 0)), (1, .int x)]) C dX4_bottles_7 rfl (by decide) rfl ?_
  refine g_iload_n C dX4_bottles_8 rfl rfl ?_
  refine g_if_ne (tgt := 33) C dX4_bottles_9 rfl (fun c9_1 => ?_) (fun c9_1 => ?_)
  · skip
    have hoc := c9_1
    refine g_iload_n C dX4_bottles_33 rfl rfl ?_
    refine g_if_eq (tgt := 43) C dX4_bottles_34 rfl (fun c34_2 => ?_) (fun c34_2 => ?_)
    · exact absurd c34_2 c9_1
    · skip
      refine g_aload_n C dX4_bottles_37 rfl rfl ?_
      refine g_iload_n C dX4_bottles_38 rfl rfl ?_
      refine g_callVI (rest := []) C mv_X4_64 (ct_X4_refuse l w hN σ (kO x 1) (kO_in _ _) (oU x 1 6) (outk hoc)) (Nat.lt_of_lt_of_le (by decide) hN) rfl rfl (by decide) rfl (Nat.le_of_ble_eq_true rfl) dX4_bottles_39 (fun r3 σ_3 h3 => ?_)
      obtain ⟨er3, hrf⟩ := h3
      rw [er3]
      refine g_iret C r rfl dX4_bottles_42 ?_
      first | exact fin_r hC (kO_in _ _) hrf (by unfold spBottles; rw [if_pos (outp hoc)]) (outv hoc) | exact fin_r hC (by decide) hrf (by unfold spBottles; rw [if_neg hz, if_pos hbad]) (by decide)
  · skip
    have hz := out0 (lo := 1) (hi := 6) c9_1
    refine g_aload_n C dX4_bottles_12 rfl rfl ?_
    refine g_get (v := .int (σ 0 10)) C fl_X4_197 fs_X4_197 (Nat.lt_of_lt_of_le (by decide) hN) rfl rfl dX4_bottles_13 ?_
    refine g_val (y := nI qn) hn1 ?_
    refine g_iconst C dX4_bottles_16 ic_3 ?_
    refine g_iremv (v := nI (qn % 3)) C (by decide) (nj_rem (b := 3) (by omega) (by omega)) dX4_bottles_17 ?_
    refine g_if_ne (tgt := 30) C dX4_bottles_18 rfl (fun c18_4 => ?_) (fun c18_4 => ?_)
    · skip
      have n18_4 : ¬ (qn % 3 = 0) := fun qq => c18_4 ((nj_eq (a := qn % 3) (b := 0) (by omega) (by omega)).mpr qq)
      have hbad : ¬ (qn % 3 = 0 ∧ qn ≤ 18) := by omega
      refine g_bipush C dX4_bottles_30 bp_m3 ?_
      refine g_istore_n (lv' := [(2, .int ((-3))), (0, .ref (wA w 0)), (1, .int x)]) C dX4_bottles_32 rfl (by decide) rfl ?_
      refine g_iload_n C dX4_bottles_33 rfl rfl ?_
      refine g_if_eq (tgt := 43) C dX4_bottles_34 rfl (fun c34_5 => ?_) (fun c34_5 => ?_)
      · exact absurd c34_5 (by decide)
      · skip
        refine g_aload_n C dX4_bottles_37 rfl rfl ?_
        refine g_iload_n C dX4_bottles_38 rfl rfl ?_
        refine g_callVI (rest := []) C mv_X4_64 (ct_X4_refuse l w hN σ 3 (by decide) ((-3)) (by decide)) (Nat.lt_of_lt_of_le (by decide) hN) rfl rfl (by decide) rfl (Nat.le_of_ble_eq_true rfl) dX4_bottles_39 (fun r6 σ_6 h6 => ?_)
        obtain ⟨er6, hrf⟩ := h6
        rw [er6]
        refine g_iret C r rfl dX4_bottles_42 ?_
        first | exact fin_r hC (kO_in _ _) hrf (by unfold spBottles; rw [if_pos (outp hoc)]) (outv hoc) | exact fin_r hC (by decide) hrf (by unfold spBottles; rw [if_neg hz, if_pos hbad]) (by decide)
    · skip
      have n18_4 : qn % 3 = 0 := (nj_eq (a := qn % 3) (b := 0) (by omega) (by omega)).mp c18_4
      refine g_aload_n C dX4_bottles_21 rfl rfl ?_
      refine g_get (v := .int (σ 0 10)) C fl_X4_197 fs_X4_197 (Nat.lt_of_lt_of_le (by decide) hN) rfl rfl dX4_bottles_22 ?_
      refine g_val (y := nI qn) hn1 ?_
      refine g_bipush C dX4_bottles_25 bp_18 ?_
      refine g_icmp_le (tgt := 33) C dX4_bottles_27 rfl (fun c27_7 => ?_) (fun c27_7 => ?_)
      · skip
        have n27_7 : qn ≤ 18 := (nj_le (a := qn) (b := 18) (by omega) (by omega)).mp c27_7
        have hgood : qn % 3 = 0 ∧ qn ≤ 18 := by omega
        refine g_iload_n C dX4_bottles_33 rfl rfl ?_
        refine g_if_eq (tgt := 43) C dX4_bottles_34 rfl (fun c34_8 => ?_) (fun c34_8 => ?_)
        · skip
          obtain ⟨m, hm1, hm, rfl⟩ := nj_of5 (lo := 1) (m := 6) hz
          refine g_aload_n C dX4_bottles_43 rfl rfl ?_
          refine g_get (v := .ref (wA w 37)) C fl_X4_53 fs_X4_53 (Nat.lt_of_lt_of_le (by decide) hN) rfl rfl dX4_bottles_44 ?_
          refine g_iconst C dX4_bottles_47 ic_m1 ?_
          refine g_callSV (rest := []) C ms_X4_184 (ct_fill l w hN σ 37 64 (Nat.lt_of_lt_of_le (by decide) hN) rfl (by decide) ((-1))) rfl (by decide) rfl (Nat.le_of_ble_eq_true rfl) dX4_bottles_48 (fun σf h9 => ?_)
          have hfl := h9
          refine g_aload_n C dX4_bottles_51 rfl rfl ?_
          refine g_get (v := .ref (wA w 37)) C fl_X4_53 fs_X4_53 (Nat.lt_of_lt_of_le (by decide) hN) rfl rfl dX4_bottles_52 ?_
          refine g_iconst C dX4_bottles_55 ic_0 ?_
          refine g_iconst C dX4_bottles_56 ic_0 ?_
          refine g_ias (k0 := 37) (n := 64) C (Nat.lt_of_lt_of_le (by decide) hN) rfl (j := 0) (by unfold ix; decide) dX4_bottles_57 (fun σ0 hσ0 => ?_)
          refine g_iconst C dX4_bottles_58 ic_0 ?_
          refine g_istore_n (lv' := [(3, .int 0), (2, .int (oU (nI m) 1 6)), (0, .ref (wA w 0)), (1, .int (nI m))]) C dX4_bottles_59 rfl (by decide) rfl ?_
          have L60 : ∀ (m60 : Nat) (i : Nat) (σ1 : SG), m60 = qn / 3 - i → (i ≤ qn / 3) → (∀ s, s < 64 → MXI (Rw (EB m qs) i s) (σ1 37 s)) → (Fr (fun k => k = 37) σ σ1) → G l w K 60 [(0, .ref (wA w 0)), (1, .int (nI m)), (3, .int (nI (3 * i)))] [] σ1 := by
            intro m60
            induction m60 using Nat.strongRecOn with
            | ind m60 ih60 =>
            intro i σ1 em60 hi hM1 hF1
            refine g_iload_n C dX4_bottles_60 rfl rfl ?_
            refine g_iconst C dX4_bottles_61 ic_2 ?_
            refine g_iaddv (v := nI ((3 * i) + 2)) C (nj_plus (3 * i) 2) dX4_bottles_62 ?_
            refine g_aload_n C dX4_bottles_63 rfl rfl ?_
            refine g_get (v := .int (σ1 0 10)) C fl_X4_197 fs_X4_197 (Nat.lt_of_lt_of_le (by decide) hN) rfl rfl dX4_bottles_64 ?_
            refine g_val (y := nI qn) (by rw [hF1 0 (by decide)]; exact hn1) ?_
            refine g_icmp_ge (tgt := 108) C dX4_bottles_67 rfl (fun c67_10 => ?_) (fun c67_10 => ?_)
            · skip
              have n67_10 : qn ≤ (3 * i) + 2 := (nj_le (a := qn) (b := (3 * i) + 2) (by omega) (by omega)).mp c67_10
              have hiN : i = qn / 3 := by omega
              refine g_aload_n C dX4_bottles_108 rfl rfl ?_
              refine g_get (v := .ref (wA w 37)) C fl_X4_53 fs_X4_53 (Nat.lt_of_lt_of_le (by decide) hN) rfl rfl dX4_bottles_109 ?_
              refine g_callSI (rest := []) C ms_X4_193 (ct_X4_greatest l w hN σ1 37 64 (Nat.lt_of_lt_of_le (by decide) hN) rfl (by decide) (by decide) (Rw (EB m qs) i) (fun s v h => by have := Rb_le (N := qn / 3) (fun j hj => hns9 j (by omega)) _ _ _ hi h; omega) (Rw_00 _ _) hM1) rfl (by decide) rfl (Nat.le_of_ble_eq_true rfl) dX4_bottles_112 (fun r11 σg h11 => ?_)
              obtain ⟨⟨m9, er11, hm9, hmx⟩, eh11⟩ := h11
              rw [eh11, er11]
              refine g_iret C r rfl dX4_bottles_115 ?_
              refine fin_q hC (hF1.mono (fun k z => by subst z; exact Or.inr (Or.inr rfl))) ?_ rfl
              unfold spBottles
              have hs := bo_all (by omega) hmx
              rw [hiN] at hs
              rw [if_neg hz, if_neg (fun z => z hgood), nn_nj (n := m) (by omega)]
              show (nI (mxOf (Tw (EB m qs) (qn / 3) 0 0)), _) = _
              rw [hs]
            · skip
              have n67_10 : ¬ (qn ≤ (3 * i) + 2) := fun qq => c67_10 ((nj_le (a := qn) (b := (3 * i) + 2) (by omega) (by omega)).mpr qq)
              refine g_aload_n C dX4_bottles_70 rfl rfl ?_
              refine g_aload_n C dX4_bottles_71 rfl rfl ?_
              refine g_get (v := .ref (wA w 34)) C fl_X4_43 fs_X4_43 (Nat.lt_of_lt_of_le (by decide) hN) rfl rfl dX4_bottles_72 ?_
              refine g_iload_n C dX4_bottles_75 rfl rfl ?_
              refine g_ial (k0 := 34) (n := 20) C (Nat.lt_of_lt_of_le (by decide) hN) rfl (j := 3 * i) (ix_n (by omega)) dX4_bottles_76 ?_
              refine g_val (y := nI (qs (3 * i))) (by rw [hF1 34 (by decide)]; exact hns _ (by omega)) ?_
              refine g_aload_n C dX4_bottles_77 rfl rfl ?_
              refine g_get (v := .ref (wA w 34)) C fl_X4_43 fs_X4_43 (Nat.lt_of_lt_of_le (by decide) hN) rfl rfl dX4_bottles_78 ?_
              refine g_iload_n C dX4_bottles_81 rfl rfl ?_
              refine g_iconst C dX4_bottles_82 ic_1 ?_
              refine g_iaddv (v := nI ((3 * i) + 1)) C (nj_plus (3 * i) 1) dX4_bottles_83 ?_
              refine g_ial (k0 := 34) (n := 20) C (Nat.lt_of_lt_of_le (by decide) hN) rfl (j := (3 * i) + 1) (ix_n (by omega)) dX4_bottles_84 ?_
              refine g_val (y := nI (qs ((3 * i) + 1))) (by rw [hF1 34 (by decide)]; exact hns _ (by omega)) ?_
              refine g_iload_n C dX4_bottles_85 rfl rfl ?_
              refine g_iconst C dX4_bottles_86 ic_1 ?_
              refine g_isubv (v := nI (m - 1)) C (nj_minus (a := m) (b := 1) (by omega)) dX4_bottles_87 ?_
              refine g_min C ml_X4_133 st_Lib_Math_min ini_Math co_Lib_Math_min (by decide) (Nat.le_of_ble_eq_true rfl) dX4_bottles_88 ?_
              refine g_val (y := nI (min (qs ((3 * i) + 1)) (m - 1))) (nj_min (by have := hns9 (3 * i + 1) (by omega); omega) (by omega)) ?_
              refine g_aload_n C dX4_bottles_91 rfl rfl ?_
              refine g_get (v := .ref (wA w 34)) C fl_X4_43 fs_X4_43 (Nat.lt_of_lt_of_le (by decide) hN) rfl rfl dX4_bottles_92 ?_
              refine g_iload_n C dX4_bottles_95 rfl rfl ?_
              refine g_iconst C dX4_bottles_96 ic_2 ?_
              refine g_iaddv (v := nI ((3 * i) + 2)) C (nj_plus (3 * i) 2) dX4_bottles_97 ?_
              refine g_ial (k0 := 34) (n := 20) C (Nat.lt_of_lt_of_le (by decide) hN) rfl (j := (3 * i) + 2) (ix_n (by omega)) dX4_bottles_98 ?_
              refine g_val (y := nI (qs ((3 * i) + 2))) (by rw [hF1 34 (by decide)]; exact hns _ (by omega)) ?_
              refine g_callVV (rest := []) C mv_X4_200 (ct_X4_openBottle l w hN σ1 m qs (qn / 3) i (qs (3 * i)) (min (qs ((3 * i) + 1)) (m - 1)) (qs ((3 * i) + 2)) hm1 (by omega) (by omega) (by omega) (fun j hj => hns9 j (by omega)) rfl rfl rfl hM1) (Nat.lt_of_lt_of_le (by decide) hN) rfl rfl (by decide) rfl (Nat.le_of_ble_eq_true rfl) dX4_bottles_99 (fun σo h12 => ?_)
              obtain ⟨hMo, hFo⟩ := h12
              refine g_iinc (v := nI ((3 * i) + 3)) (lv' := [(3, .int (nI ((3 * i) + 3))), (0, .ref (wA w 0)), (1, .int (nI m))]) C dX4_bottles_102 (by decide) rfl (nj_inc3 (3 * i)) rfl ?_
              refine g_goto (tgt := 60) C dX4_bottles_105 rfl ?_
              exact g_lvp [1, 2, 0] rfl (ih60 (qn / 3 - (i + 1)) (by omega) (i + 1) σo rfl (by first | omega | assumption | rfl | grind) (hMo) (hF1.tr hFo (fun _ z => z)))
          exact g_lvp [2, 3, 0] rfl (L60 (qn / 3 - 0) 0 σ0 rfl (by first | omega | assumption | rfl | grind) (fun s hs => by rw [hσ0, up_at]; exact (Decidable.em (s = 0)).elim (fun z => by rw [if_pos ⟨rfl, z⟩, z]; exact Or.inr ⟨0, rfl, ⟨rfl, rfl⟩, fun v hv => by obtain ⟨-, z2⟩ := hv; omega⟩) (fun z => by rw [if_neg (fun y => z y.2), hfl, upc_same, if_pos hs]; exact Or.inl ⟨rfl, fun v hv => z hv.1⟩)) (by rw [hσ0, hfl]; exact (Fr.upc (S := fun k => k = 37) rfl).tr (Fr.up (S := fun k => k = 37) rfl) (fun _ z => z)))
        · exact absurd c9_1 c34_8
      · skip
        have n27_7 : ¬ (qn ≤ 18) := fun qq => c27_7 ((nj_le (a := qn) (b := 18) (by omega) (by omega)).mpr qq)
        have hbad : ¬ (qn % 3 = 0 ∧ qn ≤ 18) := by omega
        refine g_bipush C dX4_bottles_30 bp_m3 ?_
        refine g_istore_n (lv' := [(2, .int ((-3))), (0, .ref (wA w 0)), (1, .int x)]) C dX4_bottles_32 rfl (by decide) rfl ?_
        refine g_iload_n C dX4_bottles_33 rfl rfl ?_
        refine g_if_eq (tgt := 43) C dX4_bottles_34 rfl (fun c34_13 => ?_) (fun c34_13 => ?_)
        · exact absurd c34_13 (by decide)
        · skip
          refine g_aload_n C dX4_bottles_37 rfl rfl ?_
          refine g_iload_n C dX4_bottles_38 rfl rfl ?_
          refine g_callVI (rest := []) C mv_X4_64 (ct_X4_refuse l w hN σ 3 (by decide) ((-3)) (by decide)) (Nat.lt_of_lt_of_le (by decide) hN) rfl rfl (by decide) rfl (Nat.le_of_ble_eq_true rfl) dX4_bottles_39 (fun r14 σ_14 h14 => ?_)
          obtain ⟨er14, hrf⟩ := h14
          rw [er14]
          refine g_iret C r rfl dX4_bottles_42 ?_
          first | exact fin_r hC (kO_in _ _) hrf (by unfold spBottles; rw [if_pos (outp hoc)]) (outv hoc) | exact fin_r hC (by decide) hrf (by unfold spBottles; rw [if_neg hz, if_pos hbad]) (by decide)

/-! ===== the reference's house ===== -/
def FrR (σ τ : SG) : Prop := (∀ k, k ≠ 38 → k ≠ 40 → k ≠ 43 → k ≠ 44 → k ≠ 51 → k ≠ 54 → τ k = σ k) ∧ ∀ j, (j = 4 ∨ j = 15 ∨ j = 27) → τ 38 j = σ 38 j
theorem FrR.rf {σ : SG} : FrR σ σ := ⟨fun _ _ _ _ _ _ _ => rfl, fun _ _ => rfl⟩
theorem FrR.tr {σ τ ρ : SG} (h : FrR σ τ) (h' : FrR τ ρ) : FrR σ ρ := ⟨fun k a b d e f g => (h'.1 k a b d e f g).trans (h.1 k a b d e f g), fun j hj => (h'.2 j hj).trans (h.2 j hj)⟩
theorem FrR.P {σ τ : SG} (h : FrP σ τ) : FrR σ τ := ⟨fun k a _ _ _ e _ => h.1 k a e, fun j hj => h.2 j (by omega) (by omega) (by omega)⟩
theorem FrR.T {σ τ : SG} (h : FrT σ τ) : FrR σ τ := ⟨fun k a b d e _ _ => h.1 k a b d e, fun j hj => h.2 j (by omega)⟩
theorem FrR.c {σ τ : SG} {c : Nat} (h : Fr (fun k => k = c) σ τ) (hc : c = 40 ∨ c = 54) : FrR σ τ := ⟨fun k _ b _ _ _ g => h k (by show ¬ k = c; omega), fun j _ => by rw [h 38 (by show ¬ 38 = c; omega)]⟩
theorem rd_two {τ : SG} {c : Nat → Nat} {nl p : Nat} (h : (∃ p', Stm c p p' ∧ p' ≤ nl ∧ Bnd (sA c p') ∧ τ 38 17 = nI 1 ∧ τ 38 16 = nI p' ∧ FD τ c p) ∨ ∃ q, Wrong c nl q ∧ τ 38 17 = nI 0 ∧ τ 38 16 = nI q) : ∃ wl q, wl ≤ 1 ∧ q ≤ nl ∧ τ 38 17 = nI wl ∧ τ 38 16 = nI q ∧ ((wl = 1 ∧ Stm c p q ∧ Bnd (sA c q)) ∨ (wl = 0 ∧ Wrong c nl q)) := by
  rcases h with ⟨p', h1, h2, h3, h4, h5, h6⟩ | ⟨q, h1, h2, h3⟩
  · exact ⟨1, p', Nat.le_refl 1, h2, h4, h5, Or.inl ⟨rfl, h1, h3⟩⟩
  · exact ⟨0, q, Nat.zero_le 1, h1.le, h2, h3, Or.inr ⟨rfl, h1⟩⟩
theorem rd_one {τ : SG} {c : Nat → Nat} {nl p : Nat} (hR : Right c nl) (h : (∃ p', Stm c p p' ∧ p' ≤ nl ∧ Bnd (sA c p') ∧ τ 38 17 = nI 1 ∧ τ 38 16 = nI p' ∧ FD τ c p) ∨ ∃ q, Wrong c nl q ∧ τ 38 17 = nI 0 ∧ τ 38 16 = nI q) : ∃ p', Stm c p p' ∧ p' ≤ nl ∧ Bnd (sA c p') ∧ τ 38 17 = nI 1 ∧ τ 38 16 = nI p' ∧ FD τ c p := by
  rcases h with h | ⟨q, h1, -⟩
  · exact h
  · exact absurd h1 (fun z => hR.no z)
def itn (c : Nat → Nat) : Nat → Nat
  | 0 => 0
  | k + 1 => nxt c (itn c k)
theorem itn_uq {c : Nat → Nat} {nl n t : Nat} (h1 : ∀ j, j < n → itn c j < nl) (h2 : itn c n = nl) (h3 : ∀ j, j < t → itn c j < nl) (h4 : itn c t = nl) : n = t := by
  rcases Nat.lt_trichotomy n t with z | z | z
  · have := h3 n z; omega
  · exact z
  · have := h1 t z; omega
theorem CM.rd {σ τ : SG} {A : AS} (h : CM σ A) (hF : FrR σ τ) {a' : Row} (hM : Mr τ 40 a') (hB : Bd a') (hD : D9 a') : CM τ (sAa A a') := by
  obtain ⟨h0, h1, h2, h3, h4, h5, h6, h7⟩ := h
  obtain ⟨f1, f2⟩ := hF
  have f : ∀ k, (k = 42 ∨ k = 46 ∨ k = 53 ∨ k = 39 ∨ k = 47 ∨ k = 48 ∨ k = 49 ∨ k = 50 ∨ k = 52) → τ k = σ k := fun k hk => f1 k (by omega) (by omega) (by omega) (by omega) (by omega) (by omega)
  refine ⟨⟨⟨hB, hD⟩, h0.2⟩, hM, fun hk => (h2 hk).fr (f 42 (by omega)), by rw [f2 4 (by omega)]; exact h3, by rw [f2 15 (by omega), f 46 (by omega)]; exact h4, by rw [f2 27 (by omega), f 53 (by omega)]; exact h5, by rw [f 39 (by omega)]; exact h6, ?_⟩
  unfold MT
  rw [f 47 (by omega), f 48 (by omega), f 49 (by omega), f 50 (by omega), f 52 (by omega)]
  exact h7
set_option maxRecDepth 100000 in
set_option maxHeartbeats 4000000 in
theorem ct_X5_read (l : Launch) (w : WD) (h54e : wN w = 54) (σ : SG) (nl : Nat) (c : Nat → Nat) (htn : σ 38 15 = nI nl) (hl9 : nl ≤ 96) (htp : ∀ j, j < nl → σ 46 j = nI (c j)) (hc9 : ∀ j, j < nl → c j ≤ 255) (hmB : ∀ j, j < 7 → σ 47 j = nI (gBeg j)) (hmE : ∀ j, j < 6 → σ 48 j = nI (gEat j)) (hmH : ∀ j, j < 6 → σ 49 j = nI (gHou j)) (hmO : ∀ j, j < 2 → σ 50 j = nI (gOpn j)) (a : Row) (hM : Mr σ 40 a) (hB : Bd a) (hD : D9 a) : CtI l w yX5_read cX5_read 4 (some .int) 6 1 46 [.ref (wA w 38)] σ (fun r τ => FrR σ τ ∧ ∃ a', Mr τ 40 a' ∧ Bd a' ∧ D9 a' ∧ ((∃ q, Wrong c nl q ∧ r = -1000 - nI q ∧ a' = a) ∨ (Right c nl ∧ r = (hS c nl 96 0 a 0).1 ∧ a' = (hS c nl 96 0 a 0).2.getD a))) := by
  refine CtI.mk (by decide) (Nat.le_of_ble_eq_true rfl) ?_
  intro K C hr h0
  show G l w K 0 [(0, .ref (wA w 38))] [] σ
  have hN : 54 ≤ wN w := Nat.le_of_eq h54e.symm
  refine g_iconst C dX5_read_0 ic_0 ?_
  refine g_istore_n (lv' := [(1, .int 0), (0, .ref (wA w 38))]) C dX5_read_1 rfl (by decide) rfl ?_
  refine g_aload_n C dX5_read_2 rfl rfl ?_
  refine g_iconst C dX5_read_3 ic_0 ?_
  refine g_putn C fp_X5_125 (Nat.lt_of_lt_of_le (by decide) hN) rfl rfl (Nat.le_of_ble_eq_true rfl) rfl rfl dX5_read_4 (fun σa hσa => ?_)
  refine g_aload_n C dX5_read_7 rfl rfl ?_
  refine g_iconst C dX5_read_8 ic_1 ?_
  refine g_putn C fp_X5_122 (Nat.lt_of_lt_of_le (by decide) hN) rfl rfl (Nat.le_of_ble_eq_true rfl) rfl rfl dX5_read_9 (fun σb hσb => ?_)
  have L12 : ∀ (m12 : Nat) (k : Nat) (p : Nat) (σ1 : SG), m12 = nl - p → (p ≤ nl) → (p < nl ∨ nl = 0) → (Bnd (sA c p)) → ((∀ j, j < k → itn c j < nl) ∧ itn c k = p) → (σ1 38 17 = nI 1) → (σ1 38 16 = nI p) → (FrR σ σ1) → (Mr σ1 40 a) → G l w K 12 [(0, .ref (wA w 38)), (1, .int (nI k))] [] σ1 := by
    intro m12
    induction m12 using Nat.strongRecOn with
    | ind m12 ih12 =>
    intro k p σ1 em12 hp hp0 hb hit hwl hat hF1 hM1
    refine g_aload_n C dX5_read_12 rfl rfl ?_
    refine g_callVV (rest := []) C mv_X5_138 (ct_X5_statement l w hN σ1 nl c (by rw [hF1.2 15 (by omega)]; exact htn) hl9 (by rw [hF1.1 46 (by decide) (by decide) (by decide) (by decide) (by decide) (by decide)]; exact htp) hc9 (by rw [hF1.1 47 (by decide) (by decide) (by decide) (by decide) (by decide) (by decide)]; exact hmB) (by rw [hF1.1 48 (by decide) (by decide) (by decide) (by decide) (by decide) (by decide)]; exact hmE) (by rw [hF1.1 49 (by decide) (by decide) (by decide) (by decide) (by decide) (by decide)]; exact hmH) (by rw [hF1.1 50 (by decide) (by decide) (by decide) (by decide) (by decide) (by decide)]; exact hmO) p hp hp0 hb hwl hat) (Nat.lt_of_lt_of_le (by decide) hN) rfl rfl (by decide) rfl (Nat.le_of_ble_eq_true rfl) dX5_read_13 (fun σs h1 => ?_)
    obtain ⟨hFs, hG⟩ := h1
    obtain ⟨wl, q, hwl9, hq9, hwl2, hat2, hgw⟩ := rd_two hG
    have hF2 : FrR σ σs := hF1.tr (FrR.P hFs)
    have hM2 : Mr σs 40 a := hM1.fr (hFs.1 40 (by decide) (by decide))
    refine g_iinc (v := nI (k + 1)) (lv' := [(1, .int (nI (k + 1))), (0, .ref (wA w 38))]) C dX5_read_16 (by decide) rfl (nj_inc k) rfl ?_
    refine g_aload_n C dX5_read_19 rfl rfl ?_
    refine g_get (v := .int (σs 38 17)) C fl_X5_122 fs_X5_122 (Nat.lt_of_lt_of_le (by decide) hN) rfl rfl dX5_read_20 ?_
    refine g_val (y := nI wl) hwl2 ?_
    refine g_if_eq (tgt := 37) C dX5_read_23 rfl (fun c23_2 => ?_) (fun c23_2 => ?_)
    · skip
      have n23_2 : wl = 0 := (nj_eq (a := wl) (b := 0) (by omega) (by omega)).mp c23_2
      have hW : Wrong c nl q := by rcases hgw with ⟨z, -⟩ | ⟨-, z⟩; (exfalso; omega); exact z
      refine g_aload_n C dX5_read_37 rfl rfl ?_
      refine g_get (v := .int (σs 38 17)) C fl_X5_122 fs_X5_122 (Nat.lt_of_lt_of_le (by decide) hN) rfl rfl dX5_read_38 ?_
      refine g_val (y := nI wl) hwl2 ?_
      refine g_if_ne (tgt := 53) C dX5_read_41 rfl (fun c41_3 => ?_) (fun c41_3 => ?_)
      · exact absurd c23_2 c41_3
      · skip
        have n41_3 : wl = 0 := (nj_eq (a := wl) (b := 0) (by omega) (by omega)).mp c41_3
        refine g_widen (K' := (K.1, (K.2.1.1, 1, 46), K.2.2)) rfl rfl rfl (by rw [h0]; exact Nat.zero_le _) (by rw [h0]; exact Nat.zero_le _) ?_
        have r := hr (K.1, (K.2.1.1, 1, 46), K.2.2) rfl rfl rfl
        have C := OK.widen (K' := (K.1, (K.2.1.1, 1, 46), K.2.2)) C rfl rfl rfl
        refine g_sipush C dX5_read_44 sp_m1000 ?_
        refine g_aload_n C dX5_read_47 rfl rfl ?_
        refine g_get (v := .int (σs 38 16)) C fl_X5_125 fs_X5_125 (Nat.lt_of_lt_of_le (by decide) hN) rfl rfl dX5_read_48 ?_
        refine g_val (y := nI q) hat2 ?_
        refine g_isubv (v := ((-1000)) - (nI q)) C rfl dX5_read_51 ?_
        refine g_iret C r rfl dX5_read_52 ?_
        exact ⟨hF2, a, hM2, hB, hD, Or.inl ⟨q, hW, rfl, rfl⟩⟩
    · skip
      have n23_2 : ¬ (wl = 0) := fun qq => c23_2 ((nj_eq (a := wl) (b := 0) (by omega) (by omega)).mpr qq)
      have hw1 : wl = 1 := by omega
      have hgd : Stm c p q ∧ Bnd (sA c q) := by rcases hgw with ⟨-, z⟩ | ⟨z, -⟩; exact z; (exfalso; omega)
      have hit2 : (∀ j, j < k + 1 → itn c j < nl) ∧ itn c (k + 1) = q := by have he := hgd.1.end; exact ⟨fun j hj => (Nat.lt_succ_iff_lt_or_eq.mp hj).elim (hit.1 j) (fun z => by rw [z, hit.2]; omega), by show nxt c (itn c k) = q; rw [hit.2, ← hgd.1.nx]⟩
      refine g_aload_n C dX5_read_26 rfl rfl ?_
      refine g_get (v := .int (σs 38 16)) C fl_X5_125 fs_X5_125 (Nat.lt_of_lt_of_le (by decide) hN) rfl rfl dX5_read_27 ?_
      refine g_val (y := nI q) hat2 ?_
      refine g_aload_n C dX5_read_30 rfl rfl ?_
      refine g_get (v := .int (σs 38 15)) C fl_X5_119 fs_X5_119 (Nat.lt_of_lt_of_le (by decide) hN) rfl rfl dX5_read_31 ?_
      refine g_val (y := nI nl) (by rw [hF2.2 15 (by omega)]; exact htn) ?_
      refine g_icmp_lt (tgt := 12) C dX5_read_34 rfl (fun c34_4 => ?_) (fun c34_4 => ?_)
      · skip
        have n34_4 : q < nl := (nj_lt (a := q) (b := nl) (by omega) (by omega)).mp c34_4
        have n_lt := n34_4
        exact g_lvp [1, 0] rfl (ih12 (nl - q) (by have := hgd.1.end; omega) (k + 1) q σs rfl (hq9) (Or.inl n_lt) (hgd.2) (hit2) (hwl2.trans (congrArg nI hw1)) (hat2) (hF2) (hM2))
      · skip
        have n34_4 : ¬ (q < nl) := fun qq => c34_4 ((nj_lt (a := q) (b := nl) (by omega) (by omega)).mpr qq)
        have hqn : q = nl := by omega
        have hend := hgd.1.end
        have hRt : Right c nl := ⟨by omega, by rw [← hqn]; exact hgd.2⟩
        obtain ⟨n, hn⟩ : ∃ n, n = k + 1 := ⟨_, rfl⟩
        rw [← hn] at hit2
        rw [← hn]
        refine g_aload_n C dX5_read_37 rfl rfl ?_
        refine g_get (v := .int (σs 38 17)) C fl_X5_122 fs_X5_122 (Nat.lt_of_lt_of_le (by decide) hN) rfl rfl dX5_read_38 ?_
        refine g_val (y := nI wl) hwl2 ?_
        refine g_if_ne (tgt := 53) C dX5_read_41 rfl (fun c41_5 => ?_) (fun c41_5 => ?_)
        · skip
          have n41_5 : ¬ (wl = 0) := fun qq => c41_5 ((nj_eq (a := wl) (b := 0) (by omega) (by omega)).mpr qq)
          refine g_aload_n C dX5_read_53 rfl rfl ?_
          refine g_iconst C dX5_read_54 ic_0 ?_
          refine g_putn C fp_X5_125 (Nat.lt_of_lt_of_le (by decide) hN) rfl rfl (Nat.le_of_ble_eq_true rfl) rfl rfl dX5_read_55 (fun σc hσc => ?_)
          refine g_bipush C dX5_read_58 bp_46 ?_
          refine g_lvp [1, 0] rfl (g_new54 (ty := .int) (x := nI n) C h0 h54e hr ar_int dX5_read_60 (fun w K hN h54 C r => ?_))
          obtain ⟨σn, hσn⟩ : ∃ t, t = upc σc 54 (fun _ => 0) := ⟨_, rfl⟩
          rw [← hσn]
          have hFn : FrR σ σn := hF2.tr ((show FrR σs σc by rw [hσc]; exact FrR.P (FrP.u38 (by decide))).tr (by rw [hσn]; exact ⟨fun k _ _ _ _ _ z => upc_other z, fun j _ => by rw [upc_other (by decide)]⟩))
          have hMn : Mr σn 40 a := hM2.fr (by rw [hσn, upc_other (by decide), hσc, up_other (by decide)])
          refine g_astore_n (lv' := [(2, .ref (wA w 54)), (0, .ref (wA w 38)), (1, .int (nI n))]) C dX5_read_62 rfl (by decide) rfl ?_
          refine g_aload_n C dX5_read_63 rfl rfl ?_
          refine g_get (v := .ref (wA w 40)) C fl_X5_13 fs_X5_13 (Nat.lt_of_lt_of_le (by decide) hN) rfl rfl dX5_read_64 ?_
          refine g_aload_n C dX5_read_67 rfl rfl ?_
          refine g_callSV (rest := []) C ms_X5_60 (ct_X5_move l w hN σn 40 (Nat.lt_of_lt_of_le (by decide) hN) rfl 54 h54 rfl (by decide) a hMn) rfl (by decide) rfl (Nat.le_of_ble_eq_true rfl) dX5_read_68 (fun σm h6 => ?_)
          obtain ⟨hMv, hFv⟩ := h6
          have hFm : FrR σ σm := hFn.tr (FrR.c hFv (by omega))
          have hMm : Mr σm 40 a := hMn.fr (hFv 40 (by decide))
          have hwm : σm 38 17 = nI 1 := by rw [hFv 38 (by decide), hσn, upc_other (by decide), hσc, up_elem (by decide), hwl2, hw1]
          have ham : σm 38 16 = nI 0 := by rw [hFv 38 (by decide), hσn, upc_other (by decide), hσc, up_same]; rfl
          have L71 : ∀ (m71 : Nat) (t : Nat) (p : Nat) (b : Row) (σ1 : SG), m71 = nl - p → (2 * t ≤ p) → (p ≤ nl) → (Bnd (sA c p)) → ((∀ j, j < t → itn c j < nl) ∧ itn c t = p) → (hS c nl (96 - t) p b t = (hS c nl 96 0 a 0)) → (σ1 38 17 = nI 1) → (σ1 38 16 = nI p) → (Mr σ1 40 b) → (Bd b) → (D9 b) → (Mr σ1 54 a) → (FrR σ σ1) → G l w K 71 [(0, .ref (wA w 38)), (1, .int (nI n)), (2, .ref (wA w 54))] [] σ1 := by
            intro m71
            induction m71 using Nat.strongRecOn with
            | ind m71 ih71 =>
            intro t p b σ1 em71 h2t hp hb hit hE hwl hat hMb hBb hDb hMa hF1
            refine g_aload_n C dX5_read_71 rfl rfl ?_
            refine g_get (v := .int (σ1 38 16)) C fl_X5_125 fs_X5_125 (Nat.lt_of_lt_of_le (by decide) hN) rfl rfl dX5_read_72 ?_
            refine g_val (y := nI p) hat ?_
            refine g_aload_n C dX5_read_75 rfl rfl ?_
            refine g_get (v := .int (σ1 38 15)) C fl_X5_119 fs_X5_119 (Nat.lt_of_lt_of_le (by decide) hN) rfl rfl dX5_read_76 ?_
            refine g_val (y := nI nl) (by rw [hF1.2 15 (by omega)]; exact htn) ?_
            refine g_icmp_ge (tgt := 119) C dX5_read_79 rfl (fun c79_7 => ?_) (fun c79_7 => ?_)
            · skip
              have n79_7 : nl ≤ p := (nj_le (a := nl) (b := p) (by omega) (by omega)).mp c79_7
              refine g_iload_n C dX5_read_119 rfl rfl ?_
              refine g_iret C r rfl dX5_read_120 ?_
              have hpn : p = nl := by omega
              have htn2 : n = t := itn_uq hit2.1 (hit2.2.trans hqn) hit.1 (hit.2.trans hpn)
              have he9 := hS_end (c := c) (m := 96 - t) (a := b) (k := t) (show nl ≤ p by omega)
              rw [hE] at he9
              exact ⟨hF1, b, hMb, hBb, hDb, Or.inr ⟨hRt, by rw [he9, htn2], by rw [he9]; rfl⟩⟩
            · skip
              have n79_7 : ¬ (nl ≤ p) := fun qq => c79_7 ((nj_le (a := nl) (b := p) (by omega) (by omega)).mpr qq)
              have n_lt : p < nl := by omega
              refine g_aload_n C dX5_read_82 rfl rfl ?_
              refine g_get (v := .int (σ1 38 16)) C fl_X5_125 fs_X5_125 (Nat.lt_of_lt_of_le (by decide) hN) rfl rfl dX5_read_83 ?_
              refine g_val (y := nI p) hat ?_
              refine g_istore_n (lv' := [(3, .int (nI p)), (0, .ref (wA w 38)), (1, .int (nI n)), (2, .ref (wA w 54))]) C dX5_read_86 rfl (by decide) rfl ?_
              refine g_aload_n C dX5_read_87 rfl rfl ?_
              refine g_callVV (rest := []) C mv_X5_138 (ct_X5_statement l w hN σ1 nl c (by rw [hF1.2 15 (by omega)]; exact htn) hl9 (by rw [hF1.1 46 (by decide) (by decide) (by decide) (by decide) (by decide) (by decide)]; exact htp) hc9 (by rw [hF1.1 47 (by decide) (by decide) (by decide) (by decide) (by decide) (by decide)]; exact hmB) (by rw [hF1.1 48 (by decide) (by decide) (by decide) (by decide) (by decide) (by decide)]; exact hmE) (by rw [hF1.1 49 (by decide) (by decide) (by decide) (by decide) (by decide) (by decide)]; exact hmH) (by rw [hF1.1 50 (by decide) (by decide) (by decide) (by decide) (by decide) (by decide)]; exact hmO) p hp (Or.inl n_lt) hb hwl hat) (Nat.lt_of_lt_of_le (by decide) hN) rfl rfl (by decide) rfl (Nat.le_of_ble_eq_true rfl) dX5_read_88 (fun σs2 h8 => ?_)
              obtain ⟨hFs, hG⟩ := h8
              obtain ⟨p', hStm, hle', hb', hwls, hats, hFD⟩ := rd_one hRt hG
              have hend := hStm.end
              have hMs : Mr σs2 40 b := hMb.fr (hFs.1 40 (by decide) (by decide))
              refine g_aload_n C dX5_read_91 rfl rfl ?_
              refine g_pVI (rest := []) (v := bI ((effS c b p).isSome = true)) C mv_X5_141 (ct_X5_isAsItMustBe l w hN σs2 c p p' b hMs hBb hFD hStm) (Nat.lt_of_lt_of_le (by decide) hN) rfl rfl (by decide) rfl (Nat.le_of_ble_eq_true rfl) dX5_read_92 ?_
              refine g_if_ne (tgt := 112) C dX5_read_95 rfl (fun c95_9 => ?_) (fun c95_9 => ?_)
              · skip
                have n95_9 : ((effS c b p).isSome = true) := bI_1 c95_9
                obtain ⟨b', hef⟩ := Option.isSome_iff_exists.mp n95_9
                obtain ⟨hB', hD'⟩ := eff_ok hStm hBb hDb hef
                refine g_aload_n C dX5_read_112 rfl rfl ?_
                refine g_callVV (rest := []) C mv_X5_145 (ct_X5_take l w hN σs2 c p p' b hMs hBb hFD hStm b' hef) (Nat.lt_of_lt_of_le (by decide) hN) rfl rfl (by decide) rfl (Nat.le_of_ble_eq_true rfl) dX5_read_113 (fun σt h10 => ?_)
                obtain ⟨hMt, hFt⟩ := h10
                refine g_goto (tgt := 71) C dX5_read_116 rfl ?_
                exact g_lvp [1, 2, 3] rfl (ih71 (nl - p') (by have := hend.1; omega) (t + 1) p' b' σt rfl (by have := hend.1; omega) (hle') (hb') (⟨fun j hj => (Nat.lt_succ_iff_lt_or_eq.mp hj).elim (hit.1 j) (fun z => by rw [z, hit.2]; exact n_lt), by show nxt c (itn c t) = p'; rw [hit.2, ← hStm.nx]⟩) (by rw [← hE, show 96 - t = (96 - (t + 1)) + 1 by omega, hS_step (by omega) hef, ← hStm.nx]) (by rw [hFt.2 17 (by omega)]; exact hwls) (by rw [hFt.2 16 (by omega)]; exact hats) (hMt) (hB') (hD') (hMa.fr (by rw [hFt.1 54 (by decide) (by decide) (by decide) (by decide), hFs.1 54 (by decide) (by decide)])) (hF1.tr ((FrR.P hFs).tr (FrR.T hFt))))
              · skip
                have n95_9 : ¬ ((effS c b p).isSome = true) := bI_0 c95_9
                have hef : effS c b p = none := Option.not_isSome_iff_eq_none.mp n95_9
                refine g_aload_n C dX5_read_98 rfl rfl ?_
                refine g_aload_n C dX5_read_99 rfl rfl ?_
                refine g_get (v := .ref (wA w 40)) C fl_X5_13 fs_X5_13 (Nat.lt_of_lt_of_le (by decide) hN) rfl rfl dX5_read_100 ?_
                refine g_callSV (rest := []) C ms_X5_60 (ct_X5_move l w hN σs2 54 h54 rfl 40 (Nat.lt_of_lt_of_le (by decide) hN) rfl (by decide) a (hMa.fr (hFs.1 54 (by decide) (by decide)))) rfl (by decide) rfl (Nat.le_of_ble_eq_true rfl) dX5_read_103 (fun σv h11 => ?_)
                obtain ⟨hMw, hFw⟩ := h11
                refine g_sipush C dX5_read_106 sp_m2000 ?_
                refine g_iload_n C dX5_read_109 rfl rfl ?_
                refine g_isubv (v := ((-2000)) - (nI p)) C rfl dX5_read_110 ?_
                refine g_iret C r rfl dX5_read_111 ?_
                have hb9 := hS_bad (m := 96 - (t + 1)) (k := t) (show ¬ nl ≤ p by omega) hef
                rw [show 96 - (t + 1) + 1 = 96 - t by omega, hE] at hb9
                exact ⟨hF1.tr ((FrR.P hFs).tr (FrR.c hFw (by omega))), a, hMw, hB, hD, Or.inr ⟨hRt, by rw [hb9], by rw [hb9]; rfl⟩⟩
          exact g_lvp [1, 2, 0] rfl (L71 (nl - 0) 0 0 a σm rfl (by omega) (Nat.zero_le _) (Bnd_0 c) (⟨fun j hj => absurd hj (Nat.not_lt_zero _), rfl⟩) (rfl) (hwm) (ham) (hMm) (hB) (hD) (hMv) (hFm))
        · exact absurd c41_5 c23_2
  exact g_lvp [1, 0] rfl (L12 (nl - 0) 0 0 σb rfl (Nat.zero_le _) (by omega) (Bnd_0 c) (⟨fun j hj => absurd hj (Nat.not_lt_zero _), rfl⟩) (by rw [hσb, up_same]; rfl) (by rw [hσb, up_elem (by decide), hσa, up_same]; rfl) (by rw [hσb, hσa]; exact FrR.P ((FrP.u38 (by decide)).tr (FrP.u38 (by decide)))) (hM.fr (by rw [hσb, up_other (by decide), hσa, up_other (by decide)])))

/-! ===== the law's loop ===== -/
theorem lw_hd {i L : Nat} (hL : L ≤ 1536) (hi : i ≤ 4000) (h : ¬ (Int32.ofNat L - 3 < nI i)) : i + 3 ≤ L := by
  have hn := nj_nn (n := i) (by omega)
  rcases Nat.lt_or_ge L 3 with z | z
  · exfalso
    apply h
    rw [Int32.lt_iff_toInt_lt, nI_toInt (by omega : i < 2 ^ 31)]
    rcases (show L = 0 ∨ L = 1 ∨ L = 2 by omega) with rfl | rfl | rfl
    · rw [show (Int32.ofNat 0 - 3).toInt = -3 by decide]; omega
    · rw [show (Int32.ofNat 1 - 3).toInt = -2 by decide]; omega
    · rw [show (Int32.ofNat 2 - 3).toInt = -1 by decide]; omega
  · have e : Int32.ofNat L - 3 = nI (L - 3) := nj_minus (a := L) (b := 3) z
    rw [e, nj_lt (by omega) (by omega)] at h
    omega
theorem law_loop {l : Launch} {w : WD} (h54 : wN w = 54) {b L : Nat} {xs : Nat → Int32} (hL : L ≤ 1536) {K0 : KT} (C0 : OK l w K0 code 4 RL 1312 600000 7302250) (hX0 : SX K0 b L xs) {c0 s0 : Nat} (hc0 : c0 ≤ 1000) (hs0 : s0 ≤ 4000) (hend : ∀ K : KT, K.1 = K0.1 → K.2.2 = K0.2.2 → K.2.1.1 = K0.2.1.1 → K.2.1.2.1 ≤ 600000 → K.2.1.2.2 ≤ 7302250 → ∀ (i : Nat) (σ : SG), G l w K 855 (lwV w b i) [] σ) :
    ∀ (t i : Nat), t = L + 3 - i → i ≤ L + 3 → ∀ K : KT, K.1 = K0.1 → K.2.2 = K0.2.2 → K.2.1.1 = K0.2.1.1 → K.2.1.2.1 ≤ c0 + i → K.2.1.2.2 ≤ s0 + 46 * i → ∀ (σ : SG) (A : AS), CX σ A → CM σ A → G l w K 18 (lwV w b i) [] σ := by
  intro t
  induction t using Nat.strongRecOn with
  | ind t ih =>
  intro i et hi K e1 e2 e3 hc hs σ A hx hm
  have hb1 : K.2.1.2.1 ≤ 600000 := by omega
  have hb2 : K.2.1.2.2 ≤ 7302250 := by omega
  have C := OK.move C0 e1 e2 e3 hb1 hb2
  have hX := SX.move hX0 e1 e2
  refine g_iload_n C dL_law_18 rfl rfl ?_
  refine g_aload_n C dL_law_19 rfl rfl ?_
  refine g_slen C hX dL_law_20 ?_
  refine g_iconst C dL_law_21 ic_3 ?_
  refine g_isub C dL_law_22 ?_
  refine g_icmp_gt (tgt := 855) C dL_law_23 (by decide) (fun _ => hend K e1 e2 e3 hb1 hb2 i σ) (fun hz => ?_)
  have hi3 : i + 3 ≤ L := lw_hd hL (by omega) hz
  have hc1 : K.2.1.2.1 + 1 ≤ 600000 := by omega
  have hc2 : K.2.1.2.2 + 46 ≤ 7302250 := by omega
  have kont : ∀ K' : KT, K'.1 = K.1 → K'.2.2 = K.2.2 → K'.2.1.1 = K.2.1.1 → K'.2.1.2.1 ≤ K.2.1.2.1 + 1 → K'.2.1.2.2 ≤ K.2.1.2.2 + 46 → ∀ (τ : SG) (B : AS), CX τ B → CM τ B → G l w K' 849 (lwV w b i) [] τ := by
    intro K' f1 f2 f3 f4 f5 τ B hx' hm'
    have C' := OK.move C f1 f2 f3 (Nat.le_trans f4 hc1) (Nat.le_trans f5 hc2)
    refine g_iinc (v := nI (i + 3)) (lv' := lwV w b (i + 3)) C' dL_law_849 (by decide) rfl (nj_inc3 i) rfl ?_
    refine g_goto (tgt := 18) C' dL_law_852 (by decide) ?_
    exact ih (L + 3 - (i + 3)) (by omega) (i + 3) rfl (by omega) K' (f1.trans e1) (f2.trans e2) (f3.trans e3) (by omega) (by omega) τ B hx' hm'
  refine g_aload_n C dL_law_26 rfl rfl ?_
  refine g_iload_n C dL_law_27 rfl rfl ?_
  refine g_sld C hX (lw_in (by omega) hL) dL_law_28 ?_
  refine g_bipush C dL_law_29 bp_31 ?_
  refine g_iand C dL_law_31 ?_
  generalize (xs (nI i).toNatClampNeg &&& 31) = x
  by_cases hz2 : x.toInt < 0 ∨ 29 < x.toInt
  · exact g_tswd (tgt := 849) C dL_law_32 hz2 (by decide) (kont K rfl rfl rfl (Nat.le_succ _) (Nat.le_add_right _ 46) σ A hx hm)
  have h30 : x.toInt = 0 ∨ x.toInt = 1 ∨ x.toInt = 2 ∨ x.toInt = 3 ∨ x.toInt = 4 ∨ x.toInt = 5 ∨ x.toInt = 6 ∨ x.toInt = 7 ∨ x.toInt = 8 ∨ x.toInt = 9 ∨ x.toInt = 10 ∨ x.toInt = 11 ∨ x.toInt = 12 ∨ x.toInt = 13 ∨ x.toInt = 14 ∨ x.toInt = 15 ∨ x.toInt = 16 ∨ x.toInt = 17 ∨ x.toInt = 18 ∨ x.toInt = 19 ∨ x.toInt = 20 ∨ x.toInt = 21 ∨ x.toInt = 22 ∨ x.toInt = 23 ∨ x.toInt = 24 ∨ x.toInt = 25 ∨ x.toInt = 26 ∨ x.toInt = 27 ∨ x.toInt = 28 ∨ x.toInt = 29 := by omega
  rcases h30 with q | q | q | q | q | q | q | q | q | q | q | q | q | q | q | q | q | q | q | q | q | q | q | q | q | q | q | q | q | q
  · exact g_tsw (v := 0) (off := 136) (tgt := 168) C dL_law_32 (Int32.toInt_inj.mp (q.trans (by decide))) (by decide) (by decide) (by decide) (by decide) (lc_letter h54 C hX hi3 hL hc1 hc2 hx hm kont)
  · exact g_tsw (v := 1) (off := 159) (tgt := 191) C dL_law_32 (Int32.toInt_inj.mp (q.trans (by decide))) (by decide) (by decide) (by decide) (by decide) (lc_house h54 C hX hi3 hL hc1 hc2 hx hm kont)
  · exact g_tsw (v := 2) (off := 172) (tgt := 204) C dL_law_32 (Int32.toInt_inj.mp (q.trans (by decide))) (by decide) (by decide) (by decide) (by decide) (lc_eater h54 C hX hi3 hL hc1 hc2 hx hm kont)
  · exact g_tsw (v := 3) (off := 205) (tgt := 237) C dL_law_32 (Int32.toInt_inj.mp (q.trans (by decide))) (by decide) (by decide) (by decide) (by decide) (lc_stock h54 C hX hi3 hL hc1 hc2 hx hm kont)
  · exact g_tsw (v := 4) (off := 238) (tgt := 270) C dL_law_32 (Int32.toInt_inj.mp (q.trans (by decide))) (by decide) (by decide) (by decide) (by decide) (lc_open h54 C hX hi3 hL hc1 hc2 hx hm kont)
  · exact g_tsw (v := 5) (off := 271) (tgt := 303) C dL_law_32 (Int32.toInt_inj.mp (q.trans (by decide))) (by decide) (by decide) (by decide) (by decide) (lc_set h54 C hX hi3 hL hc1 hc2 hx hm kont)
  · exact g_tsw (v := 6) (off := 304) (tgt := 336) C dL_law_32 (Int32.toInt_inj.mp (q.trans (by decide))) (by decide) (by decide) (by decide) (by decide) (lc_worth h54 C hX hi3 hL hc1 hc2 hx hm kont)
  · exact g_tsw (v := 7) (off := 337) (tgt := 369) C dL_law_32 (Int32.toInt_inj.mp (q.trans (by decide))) (by decide) (by decide) (by decide) (by decide) (lc_dayOn h54 C hX hi3 hL hc1 hc2 hx hm kont)
  · exact g_tsw (v := 8) (off := 350) (tgt := 382) C dL_law_32 (Int32.toInt_inj.mp (q.trans (by decide))) (by decide) (by decide) (by decide) (by decide) (lc_total h54 C hX hi3 hL hc1 hc2 hx hm kont)
  · exact g_tsw (v := 9) (off := 383) (tgt := 415) C dL_law_32 (Int32.toInt_inj.mp (q.trans (by decide))) (by decide) (by decide) (by decide) (by decide) (lc_left h54 C hX hi3 hL hc1 hc2 hx hm kont)
  · exact g_tsw (v := 10) (off := 416) (tgt := 448) C dL_law_32 (Int32.toInt_inj.mp (q.trans (by decide))) (by decide) (by decide) (by decide) (by decide) (lc_never h54 C hX hi3 hL hc1 hc2 hx hm kont)
  · exact g_tsw (v := 11) (off := 429) (tgt := 461) C dL_law_32 (Int32.toInt_inj.mp (q.trans (by decide))) (by decide) (by decide) (by decide) (by decide) (lc_out h54 C hX hi3 hL hc1 hc2 hx hm kont)
  · exact g_tsw (v := 12) (off := 452) (tgt := 484) C dL_law_32 (Int32.toInt_inj.mp (q.trans (by decide))) (by decide) (by decide) (by decide) (by decide) (lc_less h54 C hX hi3 hL hc1 hc2 hx hm kont)
  · exact g_tsw (v := 13) (off := 475) (tgt := 507) C dL_law_32 (Int32.toInt_inj.mp (q.trans (by decide))) (by decide) (by decide) (by decide) (by decide) (lc_best h54 C hX hi3 hL hc1 hc2 hx hm kont)
  · exact g_tsw (v := 14) (off := 498) (tgt := 530) C dL_law_32 (Int32.toInt_inj.mp (q.trans (by decide))) (by decide) (by decide) (by decide) (by decide) (lc_buying h54 C hX hi3 hL hc1 hc2 hx hm kont)
  · exact g_tsw (v := 15) (off := 521) (tgt := 553) C dL_law_32 (Int32.toInt_inj.mp (q.trans (by decide))) (by decide) (by decide) (by decide) (by decide) (lc_close h54 C hX hi3 hL hc1 hc2 hx hm kont)
  · exact g_tsw (v := 16) (off := 534) (tgt := 566) C dL_law_32 (Int32.toInt_inj.mp (q.trans (by decide))) (by decide) (by decide) (by decide) (by decide) (lc_half h54 C hX hi3 hL hc1 hc2 hx hm kont)
  · exact g_tsw (v := 17) (off := 557) (tgt := 589) C dL_law_32 (Int32.toInt_inj.mp (q.trans (by decide))) (by decide) (by decide) (by decide) (by decide) (lc_pays h54 C hX hi3 hL hc1 hc2 hx hm kont)
  · exact g_tsw (v := 18) (off := 580) (tgt := 612) C dL_law_32 (Int32.toInt_inj.mp (q.trans (by decide))) (by decide) (by decide) (by decide) (by decide) (lc_mean h54 C hX hi3 hL hc1 hc2 hx hm kont)
  · exact g_tsw (v := 19) (off := 604) (tgt := 636) C dL_law_32 (Int32.toInt_inj.mp (q.trans (by decide))) (by decide) (by decide) (by decide) (by decide) (lc_likes h54 C hX hi3 hL hc1 hc2 hx hm kont)
  · exact g_tsw (v := 20) (off := 627) (tgt := 659) C dL_law_32 (Int32.toInt_inj.mp (q.trans (by decide))) (by decide) (by decide) (by decide) (by decide) (lc_whose h54 C hX hi3 hL hc1 hc2 hx hm kont)
  · exact g_tsw (v := 21) (off := 650) (tgt := 682) C dL_law_32 (Int32.toInt_inj.mp (q.trans (by decide))) (by decide) (by decide) (by decide) (by decide) (lc_share h54 C hX hi3 hL hc1 hc2 hx hm kont)
  · exact g_tsw (v := 22) (off := 663) (tgt := 695) C dL_law_32 (Int32.toInt_inj.mp (q.trans (by decide))) (by decide) (by decide) (by decide) (by decide) (lc_bottles h54 C hX hi3 hL hc1 hc2 hx hm kont)
  · exact g_tsw (v := 23) (off := 686) (tgt := 718) C dL_law_32 (Int32.toInt_inj.mp (q.trans (by decide))) (by decide) (by decide) (by decide) (by decide) (lc_row h54 C hX hi3 hL hc1 hc2 hx hm kont)
  · exact g_tsw (v := 24) (off := 709) (tgt := 741) C dL_law_32 (Int32.toInt_inj.mp (q.trans (by decide))) (by decide) (by decide) (by decide) (by decide) (lc_fits h54 C hX hi3 hL hc1 hc2 hx hm kont)
  · exact g_tsw (v := 25) (off := 722) (tgt := 754) C dL_law_32 (Int32.toInt_inj.mp (q.trans (by decide))) (by decide) (by decide) (by decide) (by decide) (lc_judge h54 C hX hi3 hL hc1 hc2 hx hm kont)
  · exact g_tsw (v := 26) (off := 735) (tgt := 767) C dL_law_32 (Int32.toInt_inj.mp (q.trans (by decide))) (by decide) (by decide) (by decide) (by decide) (lc_lots h54 C hX hi3 hL hc1 hc2 hx hm kont)
  · exact g_tsw (v := 27) (off := 768) (tgt := 800) C dL_law_32 (Int32.toInt_inj.mp (q.trans (by decide))) (by decide) (by decide) (by decide) (by decide) (lc_image h54 C hX hi3 hL hc1 hc2 hx hm kont)
  · exact g_tsw (v := 28) (off := 781) (tgt := 813) C dL_law_32 (Int32.toInt_inj.mp (q.trans (by decide))) (by decide) (by decide) (by decide) (by decide) (lc_on h54 C hX hi3 hL hc1 hc2 hx hm kont)
  · exact g_tsw (v := 29) (off := 794) (tgt := 826) C dL_law_32 (Int32.toInt_inj.mp (q.trans (by decide))) (by decide) (by decide) (by decide) (by decide) (lc_count h54 C hX hi3 hL hc1 hc2 hx hm kont)
def R_law : String := "AlwaysYesterdaysLaw"
def lw_P (b : Addr) (xs : List Int32) (args : Array Value) (s : State) : Prop := args = #[.ref b] ∧ s.IntsAt b xs ∧ xs.length ≤ 1536 ∧ (Jvm.Cond.and given_1 narrow_1).before args s = true
def lw_Q (_ : Array Value) (s : State) (o : Outcome) (t : State) : Prop := o = .returned (some (.int 1)) ∧ Framed s o t [] 600000 7302250
def lw_Z (below : List Frame) (a : Array Value) (s : State) : State → Prop := fun t => ∃ o, t.status = .running ∧ Ended t below o ∧ lw_Q a s o t
/-- the law's own end, with 1 on the stack, nothing written that was there before, its room as the claim has it -/
theorem lw_retR {p : Program} {l : Launch} {e : Env} {s : State} {m : MethodId} {below : List Frame} {meth : Method} {c : Code} {b : Nat} {R : Room} (hx : p.tables.exec = Jvm.exec) (hb : c.code = code) (hr : meth.sig.returnType = ret) (hlocks : meth.locks = false) {pc : Nat} {H : Heap} {ls : Array Slot} (hdg : decode code pc = .ok (.ireturn, 1)) : W p l e R s m #[Value.ref b] below meth c H [] 600000 7302250 (lw_Z below #[Value.ref b] s) (F0 m pc ls [.int 1]) := by
  intro T hT X
  obtain ⟨fs, hret, hrun, hended, hW, hframe⟩ := X.leave (v := some (.int 1)) (hlocks := hlocks) (fun h => by rw [hr] at h; cases h)
  have hmeth' : T.vm.method? m = some meth := X.method'
  refine ⟨T.setFrames fs, ?_, .returned (some (.int 1)), hrun, hended, rfl, ⟨_, rfl⟩, hW, hframe⟩
  jvm_step X.here [X.here.top, hx, hb, hdg, hmeth', hr, ret, narrow_b1]
  (try refine ⟨rfl, ?_⟩); (try refine ⟨rfl, ?_⟩)
  first | (intro acts; rw [hret _ acts rfl rfl rfl]) | rw [hret _ _ rfl rfl rfl]
  exact Steps.refl _
/-- what holds at the law's entry: the machine, the code, the tables' words (any of lw_tbl by 'hts w (by decide +kernel)'), the script of L ints xs at the cell b, what the Statement gives of the start (any of its parts by flat_of_before) -/
def lw_At (p : Program) (s : State) (m : MethodId) (meth : Method) (c : Code) (b L : Nat) (xs : Nat → Int32) : Prop :=
  p.tables.exec = Jvm.exec ∧ c.code = code ∧ meth.sig.returnType = ret ∧ c.maxLocals = 4 ∧ s.vm.findClass R_law = some m.cls ∧ (∀ w ∈ lw_tbl, w.before #[Value.ref b] s = true) ∧ va_X b L xs s s.heap ∧ b < s.heap.size ∧ meth.locks = false ∧ (Jvm.Cond.and given_1 narrow_1).before #[Value.ref b] s = true
theorem law_end {p : Program} {l : Launch} {e : Env} {s : State} {m : MethodId} {below : List Frame} {meth : Method} {c : Code} {b cells slots : Nat} {w : WD} {lv : List (Nat × Value)} {σ : SG} (C : OK l w ((p, e, rmv 1312 600000 7302250, s, m, #[Value.ref b], below, meth, c), (4, cells, slots), lw_Z below #[Value.ref b] s, aN s) code 4 RL 1312 600000 7302250) (hr : meth.sig.returnType = ret) : G l w ((p, e, rmv 1312 600000 7302250, s, m, #[Value.ref b], below, meth, c), (4, cells, slots), lw_Z below #[Value.ref b] s, aN s) 855 lv [] σ := by
  refine g_iconst C dL_law_855 ic_1 ?_
  obtain ⟨⟨hx, hb, hml, hown, hts⟩, hK, hj, hA, hST, hlk, hR, hn, hmc, hms⟩ := C
  intro H ls locs hl hP hS
  refine va_forget (fun q hq => hS.2.2 q hq) ?_
  refine W.widen (k := 600000) (n := 7302250) hmc hms ?_
  exact lw_retR hx hb hr hlk dL_law_856

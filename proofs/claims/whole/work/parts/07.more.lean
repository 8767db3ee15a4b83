/-- the index i of a row of n stands for the place j -/
def ix (i : Int32) (n j : Nat) : Prop := ¬ i < 0 ∧ i.toNatClampNeg = j ∧ j < n
theorem ix.vp {i : Int32} {n j : Nat} (h : ix i n j) : vp_in i n := fun q => q.elim h.1 (fun q => Nat.not_le.mpr h.2.2 (h.2.1 ▸ q))
theorem nj_nat {n : Nat} (h : n < 2 ^ 31) : (nI n).toNatClampNeg = n := by
  show (nI n).toInt.toNat = n
  rw [nI_toInt h]; rfl
theorem ix_n {n j : Nat} (h : j < n) (hn : n ≤ 1000000 := by decide) : ix (nI j) n j := by
  refine ⟨?_, nj_nat (by omega), h⟩
  rw [Int32.lt_iff_toInt_lt, nI_toInt (by omega), Int32.toInt_zero]; omega
theorem nj_lt {a b : Nat} (ha : a < 2 ^ 31) (hb : b < 2 ^ 31) : nI a < nI b ↔ a < b := by
  rw [Int32.lt_iff_toInt_lt, nI_toInt ha, nI_toInt hb]; omega
theorem nj_le {a b : Nat} (ha : a < 2 ^ 31) (hb : b < 2 ^ 31) : nI a ≤ nI b ↔ a ≤ b := by
  rw [Int32.le_iff_toInt_le, nI_toInt ha, nI_toInt hb]; omega
theorem nj_eq {a b : Nat} (ha : a < 2 ^ 31) (hb : b < 2 ^ 31) : nI a = nI b ↔ a = b := by
  rw [← Int32.toInt_inj, nI_toInt ha, nI_toInt hb]; omega
theorem nj_plus (a b : Nat) : nI a + nI b = nI (a + b) := (Int32.ofNat_add a b).symm
theorem nj_times (a b : Nat) : nI a * nI b = nI (a * b) := (Int32.ofNat_mul a b).symm
theorem nj_minus {a b : Nat} (h : b ≤ a) : nI a - nI b = nI (a - b) := by
  have h1 : nI (a - b) + nI b = nI a := by rw [nj_plus]; congr 1; omega
  rw [← h1]; exact Int32.add_sub_cancel ..
theorem nj_inc (a : Nat) : nI a + Int32.ofInt 1 = nI (a + 1) := nj_plus a 1
theorem nj_inc3 (a : Nat) : nI a + Int32.ofInt 3 = nI (a + 3) := nj_plus a 3
theorem nj_dec {a : Nat} (h : 0 < a) : nI a + Int32.ofInt (-1) = nI (a - 1) := by
  have h1 : nI a = nI (a - 1) + nI 1 := by rw [nj_plus]; congr 1; omega
  rw [h1, Int32.add_assoc, show nI 1 + Int32.ofInt (-1) = 0 by decide, Int32.add_zero]
theorem nj_decr (x : Int32) : x + Int32.ofInt (-1) = x - 1 := by rw [Int32.sub_eq_add_neg]; rfl
/-- an int between 0 and a number is that of a natural number -/
theorem nj_of {x : Int32} {n : Nat} (h0 : ¬ x < 0) (h : ¬ nI n < x) (hn : n < 2 ^ 31 := by decide) : ∃ k : Nat, k ≤ n ∧ x = nI k := by
  rw [Int32.lt_iff_toInt_lt, Int32.toInt_zero] at h0
  rw [Int32.lt_iff_toInt_lt, nI_toInt hn] at h
  refine ⟨x.toInt.toNat, by omega, ?_⟩
  rw [← Int32.toInt_inj, nI_toInt (by omega)]; omega
section GR
variable {l : Launch} {w : WD} {K : KT} {cc : ByteArray} {own : String} {nl d mc ms pc : Nat} {lv : List (Nat × Value)} {st : List Value} {σ : SG}
theorem g_lvp {lv' : List (Nat × Value)} (ks : List Nat) (h : lv_pick lv ks = lv') (k : G l w K pc lv' st σ) : G l w K pc lv st σ := by
  obtain ⟨⟨p, e, R, s, m, args, below, meth, c⟩, ⟨nL, cells, slots⟩, Q, A⟩ := K
  intro H ls locs hl hP hS
  exact k H ls locs (lv_sub hl ks h) hP hS
theorem g_top {x : Int32} (k : ∀ y : Int32, y = x → G l w K pc lv (.int y :: st) σ) : G l w K pc lv (.int x :: st) σ := k x rfl
theorem g_topl {x : Int64} (k : ∀ y : Int64, y = x → G l w K pc lv (.long y :: st) σ) : G l w K pc lv (.long x :: st) σ := k x rfl
theorem g_nat {t : Nat} (k : ∀ m : Nat, m = t → G l w K pc lv (.int (nI m) :: st) σ) : G l w K pc lv (.int (nI t) :: st) σ := k t rfl
theorem g_val {x y : Int32} (h : x = y) (k : G l w K pc lv (.int y :: st) σ) : G l w K pc lv (.int x :: st) σ := h ▸ k
theorem g_sg (k : ∀ τ : SG, τ = σ → G l w K pc lv st τ) : G l w K pc lv st σ := k σ rfl
theorem g_iaddv {x y v : Int32} (C : OK l w K cc nl own d mc ms) (hv : x + y = v) (hd : decode cc pc = .ok (.iadd, 1)) (k : G l w K (pc + 1) lv (.int v :: st) σ) : G l w K pc lv (.int y :: .int x :: st) σ := g_iadd C hd (hv ▸ k)
theorem g_isubv {x y v : Int32} (C : OK l w K cc nl own d mc ms) (hv : x - y = v) (hd : decode cc pc = .ok (.isub, 1)) (k : G l w K (pc + 1) lv (.int v :: st) σ) : G l w K pc lv (.int y :: .int x :: st) σ := g_isub C hd (hv ▸ k)
theorem g_imulv {x y v : Int32} (C : OK l w K cc nl own d mc ms) (hv : x * y = v) (hd : decode cc pc = .ok (.imul, 1)) (k : G l w K (pc + 1) lv (.int v :: st) σ) : G l w K pc lv (.int y :: .int x :: st) σ := g_imul C hd (hv ▸ k)
theorem g_idivv {x y v : Int32} (C : OK l w K cc nl own d mc ms) (hne : ¬ y = 0) (hv : x / y = v) (hd : decode cc pc = .ok (.idiv, 1)) (k : G l w K (pc + 1) lv (.int v :: st) σ) : G l w K pc lv (.int y :: .int x :: st) σ := g_idiv C hd hne (hv ▸ k)
theorem g_iremv {x y v : Int32} (C : OK l w K cc nl own d mc ms) (hne : ¬ y = 0) (hv : x - x / y * y = v) (hd : decode cc pc = .ok (.irem, 1)) (k : G l w K (pc + 1) lv (.int v :: st) σ) : G l w K pc lv (.int y :: .int x :: st) σ := g_irem C hd hne (hv ▸ k)
theorem g_ial {k0 n j : Nat} {i : Int32} (C : OK l w K cc nl own d mc ms) (hk : k0 < wN w) (he : shp w k0 = aI w n) (hin : ix i n j) (hd : decode cc pc = .ok (.iaload, 1)) (k : G l w K (pc + 1) lv (.int (σ k0 j) :: st) σ) : G l w K pc lv (.int i :: .ref (wA w k0) :: st) σ := g_iald C hk he hin.vp hd (by rw [hin.2.1]; exact k)
theorem g_ias {k0 n j : Nat} {i x : Int32} (C : OK l w K cc nl own d mc ms) (hk : k0 < wN w) (he : shp w k0 = aI w n) (hin : ix i n j) (hd : decode cc pc = .ok (.iastore, 1)) (k : ∀ τ : SG, τ = up σ k0 j x → G l w K (pc + 1) lv st τ) : G l w K pc lv (.int x :: .int i :: .ref (wA w k0) :: st) σ := g_iast C hk he hin.vp hd (by rw [hin.2.1]; exact k _ rfl)
theorem g_cal {k0 n j : Nat} {i : Int32} (C : OK l w K cc nl own d mc ms) (hk : k0 < wN w) (he : shp w k0 = aC w n) (hin : ix i n j) (hd : decode cc pc = .ok (.caload, 1)) (k : G l w K (pc + 1) lv (.int (σ k0 j) :: st) σ) : G l w K pc lv (.int i :: .ref (wA w k0) :: st) σ := g_cald C hk he hin.vp hd (by rw [hin.2.1]; exact k)
theorem g_cas {k0 n j : Nat} {i x : Int32} (C : OK l w K cc nl own d mc ms) (hk : k0 < wN w) (he : shp w k0 = aC w n) (hin : ix i n j) (hx : vp_nar .char x = x) (hd : decode cc pc = .ok (.castore, 1)) (k : ∀ τ : SG, τ = up σ k0 j x → G l w K (pc + 1) lv st τ) : G l w K pc lv (.int x :: .int i :: .ref (wA w k0) :: st) σ := g_cast C hk he hin.vp hd (by rw [hin.2.1, hx]; exact k _ rfl)
theorem g_aal {k0 b j : Nat} {i : Int32} (C : OK l w K cc nl own d mc ms) (hk : k0 < wN w) (he : shp w k0 = fun _ => aO w b) (hin : ix i 4 j) (hd : decode cc pc = .ok (.aaload, 1)) (k : G l w K (pc + 1) lv (.ref (wA w (b + 5 + j)) :: st) σ) : G l w K pc lv (.int i :: .ref (wA w k0) :: st) σ := g_aald C hk he hin.vp hd (by rw [hin.2.1]; exact k)
theorem g_alM {i : Int32} {j : Nat} (C : OK l w K cc nl own d mc ms) (hin : ix i 6 j) (hd : decode cc pc = .ok (.iaload, 1)) (k : G l w K (pc + 1) lv (.int (mosF j) :: st) σ) : G l w K pc lv (.int i :: .ref w.2.2.2.2.1.1 :: st) σ := g_aldM C hin.vp hd (by rw [hin.2.1]; exact k)
theorem g_alT {i : Int32} {j : Nat} (C : OK l w K cc nl own d mc ms) (hin : ix i 4 j) (hd : decode cc pc = .ok (.iaload, 1)) (k : G l w K (pc + 1) lv (.int (thrF j) :: st) σ) : G l w K pc lv (.int i :: .ref w.2.2.2.2.1.2 :: st) σ := g_aldT C hin.vp hd (by rw [hin.2.1]; exact k)
theorem g_putn {idx ci j k0 : Nat} {fs : List Value} {x : Int32} {ty : FieldType} (C : OK l w K cc nl own d mc ms) (hF : FP own idx ci j ty) (hk : k0 < wN w) (he : shp w k0 (σ k0) = .inr (ci, fs)) (hset : shp w k0 (upd (σ k0) j x) = .inr (ci, fs.set j (.int x))) (hlen : j < fs.length) (hnr : narrow ty (.int x) = .int x) (hfit : fits ty (.int x) = true) (hd : decode cc pc = .ok (.putfield idx, 3)) (k : ∀ τ : SG, τ = up σ k0 j x → G l w K (pc + 3) lv st τ) : G l w K pc lv (.int x :: .ref (wA w k0) :: st) σ := g_put C hF hk he hset hlen hnr hfit hd (k _ rfl)

theorem g_pVI {y : MethodName} {bytes : ByteArray} {maxL n idx ci d' k0 : Nat} {ret : Option FieldType} {As rest stk fs : List Value} {v : Int32} (C : OK l w K cc nl own d mc ms) (hm : MV own idx y bytes maxL ret n ci) (ct : CtI l w y bytes maxL ret d' 0 0 (.ref (wA w k0) :: As) σ (fun r τ => r = v ∧ τ = σ)) (hk : k0 < wN w) (he : shp w k0 (σ k0) = .inr (ci, fs)) (hAs : As.length = n) (hd' : d' + 1 ≤ d) (hst : stk = As.reverse ++ .ref (wA w k0) :: rest) (hcat : (rest.map fun v => v.category).sum ≤ 8) (hd : decode cc pc = .ok (.invokevirtual idx, 3)) (k : G l w K (pc + 3) lv (.int v :: rest) σ) : G l w K pc lv stk σ := g_callVI C hm ct hk he hAs hd' hst hcat hd (fun r τ h => by obtain ⟨h1, h2⟩ := h; subst h1; subst h2; exact k)
theorem g_pSI {y : MethodName} {bytes : ByteArray} {maxL n idx d' : Nat} {ret : Option FieldType} {As rest stk : List Value} {v : Int32} (C : OK l w K cc nl own d mc ms) (hm : MS own idx y bytes maxL ret n) (ct : CtI l w y bytes maxL ret d' 0 0 As σ (fun r τ => r = v ∧ τ = σ)) (hAs : As.length = n) (hd' : d' + 1 ≤ d) (hst : stk = As.reverse ++ rest) (hcat : (rest.map fun v => v.category).sum ≤ 8) (hd : decode cc pc = .ok (.invokestatic idx, 3)) (k : G l w K (pc + 3) lv (.int v :: rest) σ) : G l w K pc lv stk σ := g_callSI C hm ct hAs hd' hst hcat hd (fun r τ h => by obtain ⟨h1, h2⟩ := h; subst h1; subst h2; exact k)
theorem g_pNI {y : MethodName} {bytes : ByteArray} {maxL n idx d' : Nat} {host : String} {ret : Option FieldType} {As rest stk : List Value} {v : Int32} (C : OK l w K cc nl own d mc ms) (hm : MN y bytes maxL ret n) (hnest : ∀ (U : State) (A : Nat → Prop), ST w A U U.heap → va_Nw (.methodLinkNest own idx y host) U) (ct : CtI l w y bytes maxL ret d' 0 0 As σ (fun r τ => r = v ∧ τ = σ)) (hAs : As.length = n) (hd' : d' + 1 ≤ d) (hst : stk = As.reverse ++ rest) (hcat : (rest.map fun v => v.category).sum ≤ 8) (hd : decode cc pc = .ok (.invokestatic idx, 3)) (k : G l w K (pc + 3) lv (.int v :: rest) σ) : G l w K pc lv stk σ := g_callNI C hm hnest ct hAs hd' hst hcat hd (fun r τ h => by obtain ⟨h1, h2⟩ := h; subst h1; subst h2; exact k)
end GR
theorem nest1 {w : WD} (U : State) (A : Nat → Prop) (h : ST w A U U.heap) : va_Nw (.methodLinkNest RX1 42 yX4_within RX4) U := h.2.2.2.1
theorem nest2 {w : WD} (U : State) (A : Nat → Prop) (h : ST w A U U.heap) : va_Nw (.methodLinkNest RX1 46 yX4_isAge RX4) U := h.2.2.2.2.1
theorem upd_at (f : Nat → Int32) (k : Nat) (x : Int32) (j : Nat) : upd f k x j = if j = k then x else f j := rfl
theorem HB.ou {w : WD} {b : Nat} (h : HB b) (f : Nat → Int32) : shp w b f = .inr (1, [rA w (b + 1), rA w (b + 2), rA w (b + 3), rA w (b + 4), .int (f 4), .int (f 5), .int (f 6)]) := by rw [h.o]
theorem ic_m1 : Int32.ofInt (-1) = (-1) := by decide
theorem ic_0 : Int32.ofInt 0 = 0 := by decide
theorem ic_1 : Int32.ofInt 1 = 1 := by decide
theorem ic_2 : Int32.ofInt 2 = 2 := by decide
theorem ic_3 : Int32.ofInt 3 = 3 := by decide
theorem ic_4 : Int32.ofInt 4 = 4 := by decide
theorem ic_5 : Int32.ofInt 5 = 5 := by decide
theorem bp_m9 : (Int8.ofInt (-9)).toInt32 = (-9) := by decide +kernel
theorem bp_m6 : (Int8.ofInt (-6)).toInt32 = (-6) := by decide +kernel
theorem bp_m4 : (Int8.ofInt (-4)).toInt32 = (-4) := by decide +kernel
theorem bp_m3 : (Int8.ofInt (-3)).toInt32 = (-3) := by decide +kernel
theorem bp_m2 : (Int8.ofInt (-2)).toInt32 = (-2) := by decide +kernel
theorem bp_6 : (Int8.ofInt 6).toInt32 = 6 := by decide +kernel
theorem bp_7 : (Int8.ofInt 7).toInt32 = 7 := by decide +kernel
theorem bp_9 : (Int8.ofInt 9).toInt32 = 9 := by decide +kernel
theorem bp_10 : (Int8.ofInt 10).toInt32 = 10 := by decide +kernel
theorem bp_11 : (Int8.ofInt 11).toInt32 = 11 := by decide +kernel
theorem bp_14 : (Int8.ofInt 14).toInt32 = 14 := by decide +kernel
theorem bp_16 : (Int8.ofInt 16).toInt32 = 16 := by decide +kernel
theorem bp_18 : (Int8.ofInt 18).toInt32 = 18 := by decide +kernel
theorem bp_20 : (Int8.ofInt 20).toInt32 = 20 := by decide +kernel
theorem bp_28 : (Int8.ofInt 28).toInt32 = 28 := by decide +kernel
theorem bp_30 : (Int8.ofInt 30).toInt32 = 30 := by decide +kernel
theorem bp_31 : (Int8.ofInt 31).toInt32 = 31 := by decide +kernel
theorem bp_46 : (Int8.ofInt 46).toInt32 = 46 := by decide +kernel
theorem bp_48 : (Int8.ofInt 48).toInt32 = 48 := by decide +kernel
theorem bp_57 : (Int8.ofInt 57).toInt32 = 57 := by decide +kernel
theorem bp_59 : (Int8.ofInt 59).toInt32 = 59 := by decide +kernel
theorem bp_60 : (Int8.ofInt 60).toInt32 = 60 := by decide +kernel
theorem bp_63 : (Int8.ofInt 63).toInt32 = 63 := by decide +kernel
theorem bp_64 : (Int8.ofInt 64).toInt32 = 64 := by decide +kernel
theorem bp_80 : (Int8.ofInt 80).toInt32 = 80 := by decide +kernel
theorem bp_81 : (Int8.ofInt 81).toInt32 = 81 := by decide +kernel
theorem bp_96 : (Int8.ofInt 96).toInt32 = 96 := by decide +kernel
theorem bp_97 : (Int8.ofInt 97).toInt32 = 97 := by decide +kernel
theorem bp_98 : (Int8.ofInt 98).toInt32 = 98 := by decide +kernel
theorem bp_99 : (Int8.ofInt 99).toInt32 = 99 := by decide +kernel
theorem bp_100 : (Int8.ofInt 100).toInt32 = 100 := by decide +kernel
theorem bp_101 : (Int8.ofInt 101).toInt32 = 101 := by decide +kernel
theorem bp_102 : (Int8.ofInt 102).toInt32 = 102 := by decide +kernel
theorem bp_104 : (Int8.ofInt 104).toInt32 = 104 := by decide +kernel
theorem bp_109 : (Int8.ofInt 109).toInt32 = 109 := by decide +kernel
theorem bp_110 : (Int8.ofInt 110).toInt32 = 110 := by decide +kernel
theorem bp_111 : (Int8.ofInt 111).toInt32 = 111 := by decide +kernel
theorem bp_112 : (Int8.ofInt 112).toInt32 = 112 := by decide +kernel
theorem bp_115 : (Int8.ofInt 115).toInt32 = 115 := by decide +kernel
theorem bp_116 : (Int8.ofInt 116).toInt32 = 116 := by decide +kernel
theorem bp_119 : (Int8.ofInt 119).toInt32 = 119 := by decide +kernel
theorem bp_120 : (Int8.ofInt 120).toInt32 = 120 := by decide +kernel
theorem sp_m2000 : (Int16.ofInt (-2000)).toInt32 = (-2000) := by decide +kernel
theorem sp_m1000 : (Int16.ofInt (-1000)).toInt32 = (-1000) := by decide +kernel
theorem sp_255 : (Int16.ofInt 255).toInt32 = 255 := by decide +kernel
theorem sp_256 : (Int16.ofInt 256).toInt32 = 256 := by decide +kernel
theorem sp_1000 : (Int16.ofInt 1000).toInt32 = 1000 := by decide +kernel
theorem sp_9999 : (Int16.ofInt 9999).toInt32 = 9999 := by decide +kernel

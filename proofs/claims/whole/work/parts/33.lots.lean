/-! ===== rows that differ in HUNGER alone ===== -/
def HuE (a a' : Row) : Prop := ∀ j, (∀ e, e < 4 → j ≠ 30 + 4 * e + 1) → a' j = a j
theorem HuE.rf {a : Row} : HuE a a := fun _ _ => rfl
theorem HuE.sl {a a' : Row} (h : HuE a a') {j : Nat} (hj : j < 31 ∨ j % 4 ≠ 3) : a' j = a j := h j (fun e _ => by omega)
theorem HuE.u {a a' : Row} (h : HuE a a') (k v : Nat) : HuE (ua a k v) (ua a' k v) := fun j hj => by
  simp only [ua_at]
  split
  · rfl
  · exact h j hj
theorem HuE.hun {a a' : Row} (h : HuE a a') {e v : Nat} (he : e < 4) : HuE a (ua a' (30 + 4 * e + 1) v) := fun j hj => by rw [ua_at, if_neg (hj e he)]; exact h j hj
theorem hu_wNt {a a' : Row} (h : HuE a a') (e g : Nat) : wNt a' e g = wNt a e g := by
  unfold wNt
  rw [h.sl (j := 30 + 4 * e) (by omega), h.sl (j := 30 + 4 * e + 2) (by omega), h.sl (j := 1) (by omega)]
theorem hu_eats {a a' : Row} (h : HuE a a') (e g : Nat) : eats a' e g ↔ eats a e g := by
  show (_ ∨ _) ↔ (_ ∨ _)
  rw [h.sl (j := 30 + 4 * e) (by omega)]
theorem hu_way {a a' : Row} (h : HuE a a') : way a' = way a := by
  unfold way
  rw [h.sl (j := 7) (by omega), h.sl (j := 1) (by omega)]
theorem hu_pkC {a a' : Row} (h : HuE a a') (e : Nat) : ∀ m, pkC a' e m = pkC a e m := by
  intro m
  induction m with
  | zero => rfl
  | succ m ih =>
    have h1 : reachC a' (4 - m) ↔ reachC a (4 - m) := by
      unfold reachC
      rw [h.sl (j := 7) (by omega), h.sl (j := 10 + (4 - m)) (by omega)]
    have h2 := hu_eats h e (4 - m)
    by_cases q : reachC a (4 - m) ∧ eats a e (4 - m)
    · rw [pkC, pkC, if_pos q, if_pos ⟨h1.mpr q.1, h2.mpr q.2⟩, ih, hu_way h]
      cases pkC a e m with
      | none => rfl
      | some f => simp only [hu_wNt h]
    · rw [pkC, pkC, if_neg q, if_neg (fun z => q ⟨h1.mp z.1, h2.mp z.2⟩), ih]
theorem hu_eatS (e : Nat) : ∀ n (a a' : Row), HuE a a' → (eatS e n a').2 = (eatS e n a).2 ∧ HuE (eatS e n a).1 (eatS e n a').1 := by
  intro n
  induction n with
  | zero => intro a a' h; exact ⟨rfl, h⟩
  | succ n ih =>
    intro a a' h
    have hp : nxC a' e = nxC a e := hu_pkC h e 5
    rw [eatS, eatS, hp]
    cases hx : nxC a e with
    | none => exact ⟨rfl, h⟩
    | some g =>
      have hg := (nxC_spec hx).1
      have e1 : a' (10 + g) = a (10 + g) := h.sl (by omega)
      dsimp only
      rw [e1]
      obtain ⟨i1, i2⟩ := ih _ _ (h.u (10 + g) (a (10 + g) - 1))
      exact ⟨by rw [i1], i2⟩
theorem hu_wsum {a a' : Row} (h : HuE a a') (e : Nat) (l : List Nat) : wsum a' e l = wsum a e l := by
  induction l with
  | nil => rfl
  | cons g t ih => show nI (wNt a' e g) + _ = nI (wNt a e g) + _; rw [hu_wNt h, ih]
theorem hu_eaS {a a' : Row} (h : HuE a a') {hu hu' : Nat → Nat} : ∀ n, (∀ e, e < n → hu' e = hu e) → (eaS hu' a' n).2 = (eaS hu a n).2 ∧ HuE (eaS hu a n).1 (eaS hu' a' n).1 := by
  intro n
  induction n with
  | zero => intro _; exact ⟨rfl, h⟩
  | succ n ih =>
    intro he
    obtain ⟨i1, i2⟩ := ih (fun e q => he e (by omega))
    have hn := he n (by omega)
    have hw : wan (eaS hu' a' n).1 (hu' n) = wan (eaS hu a n).1 (hu n) := by
      unfold wan
      rw [i2.sl (j := 7) (by omega), hn]
    obtain ⟨j1, j2⟩ := hu_eatS n (wan (eaS hu a n).1 (hu n)) _ _ i2
    have h6 : a' 6 = a 6 := h.sl (by omega)
    constructor
    · show ((eaS hu' a' n).2.1 ++ (eatS n (wan (eaS hu' a' n).1 (hu' n)) (eaS hu' a' n).1).2, (eaS hu' a' n).2.2.1 + (hu' n - (eatS n (wan (eaS hu' a' n).1 (hu' n)) (eaS hu' a' n).1).2.length), (eaS hu' a' n).2.2.2 + wsum (eaS hu' a' n).1 n (eatS n (wan (eaS hu' a' n).1 (hu' n)) (eaS hu' a' n).1).2 - nI (hu' n - (eatS n (wan (eaS hu' a' n).1 (hu' n)) (eaS hu' a' n).1).2.length) * nI (a' 6)) = ((eaS hu a n).2.1 ++ (eatS n (wan (eaS hu a n).1 (hu n)) (eaS hu a n).1).2, (eaS hu a n).2.2.1 + (hu n - (eatS n (wan (eaS hu a n).1 (hu n)) (eaS hu a n).1).2.length), (eaS hu a n).2.2.2 + wsum (eaS hu a n).1 n (eatS n (wan (eaS hu a n).1 (hu n)) (eaS hu a n).1).2 - nI (hu n - (eatS n (wan (eaS hu a n).1 (hu n)) (eaS hu a n).1).2.length) * nI (a 6))
      rw [hw, j1, i1, hn, h6, hu_wsum i2]
    · show HuE (eatS n (wan (eaS hu a n).1 (hu n)) (eaS hu a n).1).1 (eatS n (wan (eaS hu' a' n).1 (hu' n)) (eaS hu' a' n).1).1
      rw [hw]
      exact j2
theorem hu_sc {a a' : Row} (h : HuE a a') (hB : a 1 = a 1) (fw : Nat) : sc1 a' fw = sc1 a fw ∧ sc2 a' fw = sc2 a fw ∧ sc3 a' = sc3 a := by
  have e1 : a' 1 = a 1 := h.sl (by omega)
  have e2 : a' 2 = a 2 := h.sl (by omega)
  have e3 : a' 3 = a 3 := h.sl (by omega)
  have e10 : a' 10 = a 10 := h.sl (by omega)
  have e11 : a' 11 = a 11 := h.sl (by omega)
  have eo : ∀ d, d < 7 → a' (20 + d) = a (20 + d) := fun d hd => h.sl (by omega)
  have q1 : a' (20 + a 1 % 7) = a (20 + a 1 % 7) := eo _ (by omega)
  have q2 : a' (20 + (a 1 + 1) % 7) = a (20 + (a 1 + 1) % 7) := eo _ (by omega)
  have s1 : sc1 a' fw = sc1 a fw := by unfold sc1; rw [e1, q1, e2, e10]
  refine ⟨s1, ?_, ?_⟩
  · unfold sc2; rw [s1, e1, q1, q2, e2, e10]
  · unfold sc3; rw [e1, q1, e3, e11]
theorem hu_dy {a a' : Row} (h : HuE a a') {hu hu' : Nat → Nat} (he : ∀ e, e < a 0 → hu' e = hu e) (fw : Nat) : dyL hu' a' fw = dyL hu a fw ∧ dyK hu' a' fw = dyK hu a fw ∧ dyT hu' a' fw = dyT hu a fw ∧ dyV hu' a' fw = dyV hu a fw ∧ HuE (dyR hu a fw) (dyR hu' a' fw) ∧ shB a' fw = shB a fw := by
  obtain ⟨s1, s2, s3⟩ := hu_sc h rfl fw
  have e0 : a' 0 = a 0 := h.sl (by omega)
  have e4 : a' 4 = a 4 := h.sl (by omega)
  have e5 : a' 5 = a 5 := h.sl (by omega)
  have e10 : a' 10 = a 10 := h.sl (by omega)
  have e11 : a' 11 = a 11 := h.sl (by omega)
  have hs : HuE (shR a fw) (shR a' fw) := by
    unfold shR
    rw [s1, s2, s3, e10, e11]
    exact (h.u _ _).u _ _
  obtain ⟨i1, i2⟩ := hu_eaS hs (hu := hu) (hu' := hu') (a 0) he
  have hE2 : (dyE hu' a' fw).2 = (dyE hu a fw).2 := by unfold dyE; rw [e0]; exact i1
  have hE1 : HuE (dyE hu a fw).1 (dyE hu' a' fw).1 := by unfold dyE; rw [e0]; exact i2
  have hT : dyT hu' a' fw = dyT hu a fw := hE1.sl (j := 14) (by omega)
  have hV : shV a' fw = shV a fw := by unfold shV; rw [s1, s2, s3, e4]
  refine ⟨by unfold dyL; rw [hE2], by unfold dyK; rw [hE2], hT, by unfold dyV; rw [hE2, hV, hT, e5], fun j hj => ?_, by unfold shB; rw [s1, s2, s3]⟩
  unfold dyR shiftR
  split
  · rfl
  · split
    · rw [hE1.sl (j := 1) (by omega)]
    · split
      · exact hE1.sl (by omega)
      · exact hE1 j hj
/-! LOTS -/
def sdS (z : Int32) : Nat → Int32
  | 0 => z
  | e + 1 => sdS z e * 1664525 + 1013904223
abbrev dX (z : Int32) : Int32 := (z &&& 2147483647) / 256
def dN (z : Int32) (m : Nat) : Nat := (dX z).toNatClampNeg % m
def huL (a : Row) (z : Int32) (e : Nat) : Nat := dN (sdS z (e + 1)) (a (30 + 4 * e + 1) + 3)
def ltS (a : Row) (z : Int32) : Nat → Row × Int32 × Nat
  | 0 => (a, z, 0)
  | m + 1 => let q := ltS a z m
    (dyR (huL a q.2.1) q.1 0, sdS q.2.1 (a 0), q.2.2 + dyT (huL a q.2.1) q.1 0)
def lyS (a : Row) (z : Int32) : Nat → Int32 × Nat
  | 0 => (z, 0)
  | y + 1 => let q := lyS a z y
    ((ltS a q.1 28).2.1, q.2 + (ltS a q.1 28).2.2)
def spLots (A : AS) (x z : Int32) : Int32 × AS := if x < 1 ∨ 20 < x then rz A (kO x 1) else (nI (lyS (Aa A) z (nn x)).2, A)
theorem and_nn (z : Int32) : ∃ k : Nat, k < 2 ^ 31 ∧ z &&& 2147483647 = nI k := by
  have h0 : 0 ≤ (z &&& 2147483647).toInt := by
    rw [← Int32.toInt_toBitVec, BitVec.toInt_eq_msb_cond]
    have : (z &&& 2147483647).toBitVec.msb = false := by
      rw [Int32.toBitVec_and, BitVec.msb_and]
      rw [show (2147483647 : Int32).toBitVec.msb = false by decide]
      simp
    rw [this]; simp
  have h1 := Int32.toInt_lt (z &&& 2147483647)
  refine ⟨(z &&& 2147483647).toInt.toNat, by omega, ?_⟩
  rw [← Int32.toInt_inj, nj_toInt (by omega)]; omega
theorem dX_nat (z : Int32) : dX z = nI (dX z).toNatClampNeg ∧ (dX z).toNatClampNeg < 2 ^ 31 := by
  obtain ⟨k, hk, e⟩ := and_nn z
  have e1 : dX z = nI (k / 256) := by unfold dX; rw [e]; exact nj_div hk (by decide)
  have hk2 : k / 256 < 2 ^ 31 := by omega
  rw [e1, nj_nat hk2]
  exact ⟨rfl, hk2⟩
theorem drw_eq (z : Int32) {m : Nat} (hm : m < 2 ^ 31) : dX z - dX z / nI m * nI m = nI (dN z m) := by
  obtain ⟨e, h⟩ := dX_nat z
  unfold dN
  generalize (dX z).toNatClampNeg = q at *
  rw [e]
  exact nj_rem h hm

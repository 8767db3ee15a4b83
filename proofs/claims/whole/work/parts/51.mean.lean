/-! ===== longs ===== -/
section GR
variable {l : Launch} {w : WD} {K : KT} {cc : ByteArray} {own : String} {nl d mc ms pc : Nat} {lv : List (Nat × Value)} {st : List Value} {σ : SG}
theorem g_vall {x y : Int64} (h : x = y) (k : G l w K pc lv (.long y :: st) σ) : G l w K pc lv (.long x :: st) σ := h ▸ k
theorem g_absl {idx : Nat} {x : Int64} (C : OK l w K cc nl own d mc ms) (h1 : Cond.methodLink own idx Lib.MathLoose.abs_long.x ∈ gt) (h2 : Cond.static Lib.MathLoose.abs_long.x ∈ gt) (h3 : Cond.initialized "java/lang/Math" ∈ gt) (h4 : Cond.code Lib.MathLoose.abs_long.x Lib.MathLoose.abs_long.code 2 (some .long) ∈ gt) (hd1 : 1 ≤ d) (hcat : (st.map fun v => v.category).sum ≤ 8) (hd : decode cc pc = .ok (.invokestatic idx, 3)) (k : G l w K (pc + 3) lv (.long (if 0 < x then x else -x) :: st) σ) : G l w K pc lv (.long x :: st) σ := by
  obtain ⟨⟨p, e, R, s, m, args, below, meth, c⟩, ⟨nL, cells, slots⟩, Q, A⟩ := K
  obtain ⟨⟨hx, hb, hml, hown, hts⟩, hK, hj, hA, hST, hlk, hR, hn, hmc, hms⟩ := C
  intro H ls locs hl hP hS
  refine va_mabs_long hx hb (by rw [hml]; exact hl.1.symm) hown (hts _ h1) (hts _ h2) (hts _ h3) (hts _ h4) ?_ ?_ ?_ ?_ hd (k H ls locs hl hP hS)
  · subst hR; exact hd1
  · subst hR; show _ ≤ 64 * d; omega
  · subst hR; exact hmc
  · subst hR; exact hms
theorem g_maxl {idx : Nat} {x y : Int64} (C : OK l w K cc nl own d mc ms) (h1 : Cond.methodLink own idx Lib.MathLoose.max_long.x ∈ gt) (h2 : Cond.static Lib.MathLoose.max_long.x ∈ gt) (h3 : Cond.initialized "java/lang/Math" ∈ gt) (h4 : Cond.code Lib.MathLoose.max_long.x Lib.MathLoose.max_long.code 4 (some .long) ∈ gt) (hd1 : 1 ≤ d) (hcat : (st.map fun v => v.category).sum ≤ 8) (hd : decode cc pc = .ok (.invokestatic idx, 3)) (k : G l w K (pc + 3) lv (.long (if y < x then x else y) :: st) σ) : G l w K pc lv (.long y :: .long x :: st) σ := by
  obtain ⟨⟨p, e, R, s, m, args, below, meth, c⟩, ⟨nL, cells, slots⟩, Q, A⟩ := K
  obtain ⟨⟨hx, hb, hml, hown, hts⟩, hK, hj, hA, hST, hlk, hR, hn, hmc, hms⟩ := C
  intro H ls locs hl hP hS
  refine va_mmax_long hx hb (by rw [hml]; exact hl.1.symm) hown (hts _ h1) (hts _ h2) (hts _ h3) (hts _ h4) ?_ ?_ ?_ ?_ hd (k H ls locs hl hP hS)
  · subst hR; exact hd1
  · subst hR; show _ ≤ 64 * d; omega
  · subst hR; exact hmc
  · subst hR; exact hms
end GR
def lI (z : Int) : Int64 := Int64.ofInt z
theorem lI_add (a b : Int) : lI a + lI b = lI (a + b) := by
  first
  | exact (Int64.ofInt_add a b).symm
  | (unfold lI; rw [← Int64.toInt_inj]; simp)
theorem lI_mul (a b : Int) : lI a * lI b = lI (a * b) := by
  first
  | exact (Int64.ofInt_mul a b).symm
  | (unfold lI; rw [← Int64.toInt_inj]; simp)
theorem lI_toInt {z : Int} (h1 : -4611686018427387904 ≤ z) (h2 : z ≤ 4611686018427387904) : (lI z).toInt = z := Int64.toInt_ofInt_of_le (by omega) (by omega)
theorem lI_neg {z : Int} (h1 : -4611686018427387904 ≤ z) (h2 : z ≤ 4611686018427387904) : -(lI z) = lI (-z) := by
  rw [← Int64.toInt_inj, Int64.toInt_neg, lI_toInt h1 h2, lI_toInt (by omega) (by omega), Int.bmod_eq_of_le (by omega) (by omega)]
theorem lI_of (x : Int32) : x.toInt64 = lI x.toInt := by
  have h1 := Int32.le_toInt x
  have h2 := Int32.toInt_lt x
  rw [← Int64.toInt_inj, Int32.toInt_toInt64, lI_toInt (by omega) (by omega)]
theorem lI_nI {n : Nat} (h : n < 2 ^ 31) : (nI n).toInt64 = lI (n : Int) := by rw [lI_of, nj_toInt h]
theorem lI_div {a b : Int} (ha1 : -4611686018427387904 ≤ a) (ha2 : a ≤ 4611686018427387904) (hb1 : 0 < b) (hb2 : b ≤ 4611686018427387904) : lI a / lI b = lI (a.tdiv b) := by
  have h0 := Int.natAbs_tdiv_le_natAbs a b
  have h1 : -4611686018427387904 ≤ a.tdiv b := by omega
  have h2 : a.tdiv b ≤ 4611686018427387904 := by omega
  rw [← Int64.toInt_inj, Int64.toInt_div, lI_toInt ha1 ha2, lI_toInt (by omega) hb2, lI_toInt h1 h2, Int.bmod_eq_of_le (by omega) (by omega)]
theorem lI_rem {a b : Nat} (ha : a ≤ 4611686018427387904) (hb : 0 < b) (hb2 : b ≤ 4611686018427387904) : lI (a : Int) - lI (a : Int) / lI (b : Int) * lI (b : Int) = lI ((a % b : Nat) : Int) := by
  have h1 : a / b ≤ a := Nat.div_le_self a b
  have h2 := Nat.div_add_mod a b
  have h3 : (a : Int).tdiv (b : Int) = ((a / b : Nat) : Int) := (Int.ofNat_tdiv a b).symm
  have h4 : b * (a / b) ≤ a := Nat.mul_div_le a b
  have h6 := Nat.mod_lt a hb
  rw [lI_div (by omega) (by omega) (by omega) (by omega), h3, lI_mul]
  have h5 : ((a / b : Nat) : Int) * (b : Int) = ((b * (a / b) : Nat) : Int) := by rw [Int.mul_comm]; exact (Int.natCast_mul b (a / b)).symm
  rw [h5, ← Int64.toInt_inj, Int64.toInt_sub]
  generalize b * (a / b) = q at *
  rw [lI_toInt (by omega) (by omega), lI_toInt (by omega) (by omega), lI_toInt (by omega) (by omega), Int.bmod_eq_of_le (by omega) (by omega)]
  omega
theorem lI_eq0 {z : Int} (h1 : -4611686018427387904 ≤ z) (h2 : z ≤ 4611686018427387904) : lg_cmp (lI z) 0 = 0 ↔ z = 0 := by
  have e0 : (0 : Int64) = lI 0 := rfl
  unfold lg_cmp
  by_cases h : lI z > 0
  · have h' : 0 < z := by
      have := Int64.lt_iff_toInt_lt.mp h
      rw [e0, lI_toInt h1 h2, lI_toInt (by omega) (by omega)] at this
      exact this
    rw [if_pos h]
    exact ⟨fun q => absurd q (by decide), fun q => by omega⟩
  · rw [if_neg h]
    by_cases h3 : lI z = 0
    · rw [if_pos h3]
      refine ⟨fun _ => ?_, fun _ => rfl⟩
      have := congrArg Int64.toInt h3
      rw [e0, lI_toInt h1 h2, lI_toInt (by omega) (by omega)] at this
      exact this
    · rw [if_neg h3]
      exact ⟨fun q => absurd q (by decide), fun q => absurd (by rw [q]; rfl) h3⟩
theorem lI_abs {z : Int} (h1 : -4611686018427387904 ≤ z) (h2 : z ≤ 4611686018427387904) : (if 0 < lI z then lI z else -(lI z)) = lI (z.natAbs : Int) := by
  have e0 : (0 : Int64) = lI 0 := rfl
  have key : 0 < lI z ↔ 0 < z := by
    rw [e0, Int64.lt_iff_toInt_lt, lI_toInt h1 h2, lI_toInt (by omega) (by omega)]
  by_cases h : 0 < z
  · rw [if_pos (key.mpr h), show ((z.natAbs : Nat) : Int) = z by omega]
  · rw [if_neg (fun q => h (key.mp q)), lI_neg h1 h2, show ((z.natAbs : Nat) : Int) = -z by omega]
theorem lI_max1 {g : Nat} (h : 0 < g) (h2 : g ≤ 4611686018427387904) : (if lI (g : Int) < (1 : Int64) then (1 : Int64) else lI (g : Int)) = lI (g : Int) := by
  have e1 : (1 : Int64) = lI 1 := rfl
  rw [if_neg]
  rw [e1, Int64.lt_iff_toInt_lt, lI_toInt (by omega) (by omega), lI_toInt (by omega) (by omega)]
  omega
/-! ===== MEAN ===== -/
def bW (w e : Nat) : Nat := w / 2 ^ e % 2
theorem bW_le (w e : Nat) : bW w e ≤ 1 := by unfold bW; omega
theorem bW_eq {w e : Nat} (hw : w < 16) (he : e < 4) : (nI w >>> (nI e &&& 31)) &&& 1 = nI (bW w e) := by
  have key : ∀ (i : Fin 16) (j : Fin 4), (nI i.val >>> (nI j.val &&& 31)) &&& 1 = nI (bW i.val j.val) := by decide +kernel
  exact key ⟨w, hw⟩ ⟨e, he⟩
theorem shl_eq {n : Nat} (h : n ≤ 4) : (1 : Int32) <<< (nI n &&& 31) = nI (2 ^ n) := by
  have key : ∀ i : Fin 5, (1 : Int32) <<< (nI i.val &&& 31) = nI (2 ^ i.val) := by decide +kernel
  exact key ⟨n, by omega⟩
theorem two4 {n : Nat} (h : n ≤ 4) : 2 ^ n ≤ 16 := Nat.pow_le_pow_right (n := 2) (by decide) h
theorem ten4 {n : Nat} (h : n ≤ 4) : 10 ^ n ≤ 10000 := Nat.pow_le_pow_right (n := 10) (by decide) h
def huW (a : Row) (w e : Nat) : Nat := if bW w e = 1 then hun a e else 0
def chZ (a : Row) (w : Nat) : Nat → Nat
  | 0 => 1
  | e + 1 => chZ a w e * (if bW w e = 1 then a (30 + 4 * e + 3) else 10 - a (30 + 4 * e + 3))
def abZ (a : Row) : Nat → Int
  | 0 => 0
  | w + 1 => abZ a w + (chZ a w (a 0) : Int) * (dyV (huW a w) a 0).toInt
def mnZ (above : Int) (below p : Nat) : Int := (if p = 0 then above else (below : Int)).tdiv (Nat.gcd below above.natAbs : Int)
def spMean (A : AS) (x : Int32) : Int64 × AS := if ¬ (0 ≤ x ∧ x ≤ 1) then (4000000000000000000 - (-2 : Int32).toInt64, sAf A 2) else (lI (mnZ (abZ (Aa A) (2 ^ Aa A 0)) (10 ^ Aa A 0) (nn x)), A)
theorem chZ_le {a : Row} (hB : ∀ e, e < 4 → a (30 + 4 * e + 3) ≤ 10) (w : Nat) : ∀ e, e ≤ 4 → chZ a w e ≤ 10 ^ e := by
  intro e
  induction e with
  | zero => intro _; exact Nat.le_refl 1
  | succ e ih =>
    intro he
    have h1 := ih (by omega)
    have h2 := hB e (by omega)
    rw [chZ, Nat.pow_succ]
    exact Nat.mul_le_mul h1 (by split <;> omega)
theorem chZ_1 {a : Row} {w e : Nat} (h : bW w e = 1) (h9 : a (30 + 4 * e + 3) ≤ 10) : lI (chZ a w e : Int) * (nI (a (30 + 4 * e + 3))).toInt64 = lI (chZ a w (e + 1) : Int) := by
  rw [lI_nI (by omega), lI_mul, chZ, if_pos h]
  rfl
theorem chZ_0 {a : Row} {w e : Nat} (h : ¬ bW w e = 1) (h9 : a (30 + 4 * e + 3) ≤ 10) : lI (chZ a w e : Int) * (nI (10 - a (30 + 4 * e + 3))).toInt64 = lI (chZ a w (e + 1) : Int) := by
  rw [lI_nI (by omega), lI_mul, chZ, if_neg h]
  rfl
theorem abZ_s (a : Row) (w : Nat) : lI (abZ a w) + lI (chZ a w (a 0) : Int) * (dyV (huW a w) a 0).toInt64 = lI (abZ a (w + 1)) := by
  rw [lI_of, lI_mul, lI_add]
  rfl
theorem abZ_le {a : Row} (hB : ∀ e, e < 4 → a (30 + 4 * e + 3) ≤ 10) (h0 : a 0 ≤ 4) : ∀ w, w ≤ 16 → (abZ a w).natAbs ≤ w * 21474836480000 := by
  intro w
  induction w with
  | zero => intro _; exact Nat.le_refl 0
  | succ w ih =>
    intro hw
    have h1 := ih (by omega)
    have h2 := chZ_le hB w (a 0) h0
    have h3 := ten4 h0
    have h4 := Int32.le_toInt (dyV (huW a w) a 0)
    have h5 := Int32.toInt_lt (dyV (huW a w) a 0)
    have h6 : ((chZ a w (a 0) : Int) * (dyV (huW a w) a 0).toInt).natAbs ≤ 10000 * 2147483648 := by
      rw [Int.natAbs_mul]
      exact Nat.mul_le_mul (by omega) (by omega)
    have h7 := Int.natAbs_add_le (abZ a w) ((chZ a w (a 0) : Int) * (dyV (huW a w) a 0).toInt)
    show (abZ a w + (chZ a w (a 0) : Int) * (dyV (huW a w) a 0).toInt).natAbs ≤ _
    omega
def lT (e : Nat) : Int64 := lI ((10 ^ e : Nat) : Int)
theorem lT_0 : (1 : Int64) = lT 0 := by decide
theorem lT_s (e : Nat) : lT e * 10 = lT (e + 1) := by
  have e10 : (10 : Int64) = lI 10 := rfl
  unfold lT
  rw [e10, lI_mul, Nat.pow_succ, Int.natCast_mul]
  rfl
theorem gcd_st {d r G : Nat} (hG : Nat.gcd d r = G) : Nat.gcd r (d % r) = G := by
  rw [← hG, Nat.gcd_comm d r, Nat.gcd_rec r d, Nat.gcd_comm]
theorem gcd_half {d r j : Nat} (hr : 0 < r) (hle : r ≤ d) (hj : d * r < 2 ^ (j + 1)) : r * (d % r) < 2 ^ j := by
  have h1 := Nat.mod_lt d hr
  have h2 := Nat.div_add_mod d r
  have h3 : 1 ≤ d / r := (Nat.one_le_div_iff hr).mpr hle
  have h4 : r * 1 ≤ r * (d / r) := Nat.mul_le_mul_left r h3
  have h5 : 2 * (d % r) ≤ d := by omega
  have h6 := Nat.mul_le_mul_left r h5
  rw [Nat.pow_succ] at hj
  have h7 : r * (2 * (d % r)) = 2 * (r * (d % r)) := by rw [Nat.mul_left_comm]
  rw [Nat.mul_comm d r] at hj
  omega
theorem mnZ_0 {B p : Nat} (hB : 0 < B) (hp : p ≤ 1) : mnZ 0 B p = (p : Int) := by
  unfold mnZ
  have h : Nat.gcd B (0 : Int).natAbs = B := Nat.gcd_zero_right B
  rw [h]
  by_cases z : p = 0
  · rw [if_pos z, z]; exact Int.zero_tdiv _
  · rw [if_neg z, show p = 1 by omega]; exact Int.tdiv_self (by omega)
theorem fin_rl {σ τ : SG} {A : AS} {k : Nat} {p : Int64 × AS} {r v : Int64} (hC : CX σ A) (hk : 1 ≤ k ∧ k ≤ 6) (ht : τ = up σ 35 k (σ 35 k + 1)) (hp : p = (v, sAf A k)) (hr : r = v) : r = p.1 ∧ CX τ p.2 ∧ Fr in37 σ τ := by
  subst hp
  exact ⟨hr, hC.ref hk ht, by rw [ht]; exact Fr.up (S := in37) (by decide)⟩
theorem fin_ql {σ τ : SG} {A : AS} {p : Int64 × AS} {r v : Int64} (hC : CX σ A) (hF : Fr inQ σ τ) (hp : p = (v, A)) (hr : r = v) : r = p.1 ∧ CX τ p.2 ∧ Fr in37 σ τ := by
  subst hp
  exact ⟨hr, hC.sc hF, hF.mono (fun k z => by rcases z with z | z | z <;> simp only [in37] <;> omega)⟩
theorem fm_rl {σ τ : SG} {A : AS} {k : Nat} {p : Int64 × AS} {r v : Int64} (hC : CM σ A) (hk : 1 ≤ k ∧ k ≤ 6) (ht : τ = up σ 39 k (σ 39 k + 1)) (hp : p = (v, sAf A k)) (hr : r = v) : r = p.1 ∧ CM τ p.2 ∧ Fr in38 σ τ := by
  subst hp
  exact ⟨hr, hC.ref hk ht, by rw [ht]; exact Fr.up (S := in38) (by decide)⟩
theorem fm_ql {σ τ : SG} {A : AS} {p : Int64 × AS} {r v : Int64} (hC : CM σ A) (hF : FrN σ τ) (hp : p = (v, A)) (hr : r = v) : r = p.1 ∧ CM τ p.2 ∧ Fr in38 σ τ := by
  subst hp
  exact ⟨hr, hC.n hF, hF.i⟩

/-! ===== the abstract state: here, the image, whether it is taken, the letters, the ROW, the REFUSALS ===== -/
abbrev AS : Type := Row × Row × Nat × (Nat × (Nat → Nat)) × (Nat × (Nat → Nat)) × (Nat → Int32)
abbrev Aa (A : AS) : Row := A.1
abbrev Ak (A : AS) : Row := A.2.1
abbrev At (A : AS) : Nat := A.2.2.1
abbrev Al (A : AS) : Nat := A.2.2.2.1.1
abbrev Ac (A : AS) : Nat → Nat := A.2.2.2.1.2
abbrev An (A : AS) : Nat := A.2.2.2.2.1.1
abbrev As' (A : AS) : Nat → Nat := A.2.2.2.2.1.2
abbrev Af (A : AS) : Nat → Int32 := A.2.2.2.2.2
abbrev sAa (A : AS) (a : Row) : AS := (a, A.2)
abbrev sAl (A : AS) (n : Nat) (f : Nat → Nat) : AS := (A.1, A.2.1, A.2.2.1, (n, f), A.2.2.2.2)
abbrev sAn (A : AS) (n : Nat) (f : Nat → Nat) : AS := (A.1, A.2.1, A.2.2.1, A.2.2.2.1, (n, f), A.2.2.2.2.2)
abbrev sAf (A : AS) (k : Nat) : AS := (A.1, A.2.1, A.2.2.1, A.2.2.2.1, A.2.2.2.2.1, fun j => if j = k then A.2.2.2.2.2 j + 1 else A.2.2.2.2.2 j)
abbrev sAk (A : AS) : AS := (A.1, A.1, 1, A.2.2.2)
/-- what the abstract state itself keeps -/
def Ai (A : AS) : Prop := (Bd (Aa A) ∧ D9 (Aa A)) ∧ (At A = 1 → Bd (Ak A) ∧ D9 (Ak A)) ∧ At A ≤ 1 ∧ Al A ≤ 96 ∧ (∀ j, j < Al A → Ac A j ≤ 255) ∧ An A ≤ 20 ∧ ∀ j, j < An A → As' A j ≤ 99
/-- the class holds it -/
def CX (σ : SG) (A : AS) : Prop := Ai A ∧ HR σ (Aa A) ∧ (At A = 1 → Hh σ 10 (Ak A) ∧ σ 10 6 = nI 0) ∧ σ 0 11 = nI (At A) ∧ (σ 32 1 = nI (Al A) ∧ ∀ j, j < Al A → σ 33 j = nI (Ac A j)) ∧ (σ 0 10 = nI (An A) ∧ ∀ j, j < An A → σ 34 j = nI (As' A j)) ∧ ∀ k, 1 ≤ k → k ≤ 6 → σ 35 k = Af A k
abbrev in37 : Nat → Prop := fun k => k ≤ 37
/-- scratch -/
abbrev inQ : Nat → Prop := fun k => (19 ≤ k ∧ k ≤ 31) ∨ k = 36 ∨ k = 37
theorem CX.sc {σ τ : SG} {A : AS} (h : CX σ A) (hf : Fr inQ σ τ) : CX τ A := by
  obtain ⟨h0, h1, h2, h3, h4, h5, h6⟩ := h
  have e : ∀ k, ¬ inQ k → τ k = σ k := hf
  refine ⟨h0, h1.fr (fun k z1 z2 => e k (by unfold inQ; omega)), fun ht => ⟨(h2 ht).1.fr (fun k z1 z2 => e k (by unfold inQ; omega)), by rw [e 10 (by unfold inQ; omega)]; exact (h2 ht).2⟩, ?_, ?_, ?_, ?_⟩
  · rw [e 0 (by unfold inQ; omega)]; exact h3
  · rw [e 32 (by unfold inQ; omega), e 33 (by unfold inQ; omega)]; exact h4
  · rw [e 0 (by unfold inQ; omega), e 34 (by unfold inQ; omega)]; exact h5
  · rw [e 35 (by unfold inQ; omega)]; exact h6
theorem CX.scM {σ τ : SG} {A : AS} (h : CX σ A) (hf : Fr inM σ τ) : CX τ A := h.sc (hf.mono (fun _ z => Or.inl z))
theorem CX.ref {σ τ : SG} {A : AS} (h : CX σ A) {k : Nat} (hk : 1 ≤ k ∧ k ≤ 6) (ht : τ = up σ 35 k (σ 35 k + 1)) : CX τ (sAf A k) := by
  obtain ⟨h0, h1, h2, h3, h4, h5, h6⟩ := h
  have e : ∀ q, q ≠ 35 → τ q = σ q := fun q hq => by rw [ht]; exact up_other hq
  refine ⟨h0, h1.fr (fun k z1 z2 => e k (by omega)), fun ht => ⟨(h2 ht).1.fr (fun k z1 z2 => e k (by omega)), by rw [e 10 (by omega)]; exact (h2 ht).2⟩, ?_, ?_, ?_, fun j j1 j6 => ?_⟩
  · rw [e 0 (by omega)]; exact h3
  · rw [e 32 (by omega), e 33 (by omega)]; exact h4
  · rw [e 0 (by omega), e 34 (by omega)]; exact h5
  · rw [ht, up_at]
    show _ = if j = k then Af A j + 1 else Af A j
    by_cases z : j = k
    · rw [if_pos ⟨rfl, z⟩, if_pos z, z, h6 k hk.1 hk.2]
    · rw [if_neg (fun y => z y.2), if_neg z]; exact h6 j j1 j6
/-- here has become another -/
theorem CX.her {σ τ : SG} {A : AS} (h : CX σ A) {a' : Row} (hf : ∀ k, ¬ (1 ≤ k ∧ k ≤ 9) → ¬ inQ k → τ k = σ k) (hR : HR τ a') : CX τ (sAa A a') := by
  obtain ⟨h0, h1, h2, h3, h4, h5, h6⟩ := h
  refine ⟨⟨⟨hR.2.1, hR.2.2.2⟩, h0.2⟩, hR, fun ht => ⟨(h2 ht).1.fr (fun k z1 z2 => hf k (by omega) (by unfold inQ; omega)), by rw [hf 10 (by omega) (by unfold inQ; omega)]; exact (h2 ht).2⟩, ?_, ?_, ?_, ?_⟩
  · rw [hf 0 (by omega) (by unfold inQ; omega)]; exact h3
  · rw [hf 32 (by omega) (by unfold inQ; omega), hf 33 (by omega) (by unfold inQ; omega)]; exact h4
  · rw [hf 0 (by omega) (by unfold inQ; omega), hf 34 (by omega) (by unfold inQ; omega)]; exact h5
  · rw [hf 35 (by omega) (by unfold inQ; omega)]; exact h6
abbrev rz (A : AS) (k : Nat) : Int32 × AS := (-nI k, sAf A k)
abbrev tlr (p : Int32 × AS) : Int32 × AS := (1000000000 - p.1, p.2)
abbrev kO (x lo : Int32) : Nat := if x < lo then 4 else 6
theorem kO_in (x lo : Int32) : 1 ≤ kO x lo ∧ kO x lo ≤ 6 := by unfold kO; split <;> decide
abbrev oU (x lo hi : Int32) : Int32 := if x < lo then -4 else if hi < x then -6 else 0
theorem outk {x lo hi : Int32} (h : ¬ oU x lo hi = 0) : -(oU x lo hi) = nI (kO x lo) := by
  unfold oU kO at *
  split
  · decide
  · rename_i h1
    rw [if_neg h1] at h
    split
    · decide
    · rename_i h2; rw [if_neg h2] at h; exact absurd rfl h
theorem outv {x lo hi : Int32} (h : ¬ oU x lo hi = 0) : oU x lo hi = -nI (kO x lo) := by rw [← outk h, Int32.neg_neg]
theorem outp {x lo hi : Int32} (h : ¬ oU x lo hi = 0) : x < lo ∨ hi < x := by
  unfold oU at h
  by_cases h1 : x < lo
  · exact Or.inl h1
  · rw [if_neg h1] at h
    by_cases h2 : hi < x
    · exact Or.inr h2
    · rw [if_neg h2] at h; exact absurd rfl h
theorem out0 {x lo hi : Int32} (h : oU x lo hi = 0) : ¬ (x < lo ∨ hi < x) := by
  unfold oU at h
  rintro (q | q)
  · rw [if_pos q] at h; exact absurd h (by decide)
  · by_cases h1 : x < lo
    · rw [if_pos h1] at h; exact absurd h (by decide)
    · rw [if_neg h1, if_pos q] at h; exact absurd h (by decide)
/-! ===== what each call answers, and what becomes of the state ===== -/
abbrev nn (x : Int32) : Nat := x.toNatClampNeg
def isE (A : AS) (e : Int32) : Prop := 0 ≤ e ∧ e < nI (Aa A 0)
def spLetter (A : AS) (c : Int32) : Int32 × AS := if c < 0 ∨ 255 < c then rz A (kO c 0) else if Al A = 96 then rz A 6 else (nI (Al A + 1), sAl A (Al A + 1) (fun j => if j = Al A then nn c else Ac A j))
def spEater (A : AS) (e v : Int32) : Int32 × AS := if ¬ (0 ≤ e ∧ e < nI (Aa A 0)) then rz A 1 else if ¬ (0 ≤ v ∧ v ≤ 3) then rz A 2 else (nI (Aa A (30 + 4 * nn e + nn v)), A)
def spStock (A : AS) (g v : Int32) : Int32 × AS := if ¬ (0 ≤ g ∧ g < 5) then rz A 1 else if v < 0 ∨ 60 < v then rz A (kO v 0) else (nI (Aa A (10 + nn g)), sAa A (ua (Aa A) (10 + nn g) (nn v)))
def spOpen (A : AS) (d v : Int32) : Int32 × AS := if ¬ (0 ≤ d ∧ d ≤ 6) then rz A 1 else if ¬ (0 ≤ v ∧ v ≤ 1) then rz A 2 else (nI (Aa A (20 + nn d)), sAa A (ua (Aa A) (20 + nn d) (nn v)))
def spSet (A : AS) (s v : Int32) : Int32 × AS := if ¬ (0 ≤ s ∧ s ≤ 5) then rz A 2 else if v < 0 ∨ mosF (nn s) < v then rz A (kO v 0) else (nI (Aa A (2 + nn s)), sAa A (ua (Aa A) (2 + nn s) (nn v)))
def spWorth (A : AS) (e g : Int32) : Int32 × AS := if ¬ ((0 ≤ e ∧ e < nI (Aa A 0)) ∧ (0 ≤ g ∧ g < 5)) then rz A 1 else (if wJ (Aa A) (nn e) (nn g) = -1 then -9 else wJ (Aa A) (nn e) (nn g), A)
def spDayOn (A : AS) : Int32 × AS := if Aa A 1 = 9999 then tlr (rz A 6) else (dyV (hun (Aa A)) (Aa A) 0, sAa A (dyR (hun (Aa A)) (Aa A) 0))
def totV (a : Row) (n w : Nat) : Int32 := if w = 0 then nV a 0 n else if w = 1 then nI (nD a 0 n).2.2.2.1.length else if w = 2 then nI ((nD a 0 n).2.2.2.1.count 0) else if w = 3 then nI (nD a 0 n).2.2.2.2.1 else if w = 4 then nI (nD a 0 n).2.2.2.2.2.1 else nI (nD a 0 n).2.2.2.2.2.2
def spTotal (A : AS) (x y : Int32) : Int32 × AS := if x < 0 ∨ 28 < x then tlr (rz A (kO x 0)) else if ¬ (0 ≤ y ∧ y ≤ 5) then tlr (rz A 2) else (totV (Aa A) (nn x) (nn y), A)
def spLeft (A : AS) (x g : Int32) : Int32 × AS := if x < 0 ∨ 28 < x then rz A (kO x 0) else if ¬ (0 ≤ g ∧ g < 5) then rz A 1 else (nI ((nD (Aa A) 0 (nn x)).1 (10 + nn g)), A)
/-- for how many days nothing fresh is eaten, m days left to look at -/
def nevS : Nat → Row → Nat
  | 0, _ => 0
  | m + 1, a => if 0 < (dyL (hun a) a 0).count 0 then 0 else nevS m (dyR (hun a) a 0) + 1
def spNever (A : AS) : Int32 × AS := (nI (nevS 28 (Aa A)), A)
def outV (a : Row) (n k : Nat) : Int32 := nV (losS a k 5).1 0 n - nI k * nI (a 5)
def spOut (A : AS) (x : Int32) : Int32 × AS := if x < 0 ∨ 28 < x then rz A (kO x 0) else ((chF (outV (Aa A) (nn x)) (fun _ => true) (min 20 (sumN (fun k => Aa A (10 + k)) 5) + 1)).1, A)
def spLess (A : AS) (x : Int32) : Int32 × AS := if x < 0 ∨ 28 < x then rz A (kO x 0) else if sumN (fun k => Aa A (20 + k)) 7 = 0 then (-9, A) else ((chF (fun k => nV (Aa A) k (nn x)) (fun _ => true) (Aa A 2 + 1)).1, A)
def spBos (s M : Nat) (A : AS) (x : Int32) : Int32 × AS := if x < 0 ∨ 28 < x then rz A (kO x 0) else ((chF (fun v => nV (ua (Aa A) (2 + s) v) 0 (nn x)) (fun _ => true) (M + 1)).1, A)
def spPays (A : AS) (x : Int32) : Int32 × AS := if x < 0 ∨ 28 < x then tlr (rz A (kO x 0)) else ((chF (fun v => nV (ua (Aa A) (2 + 1) v) 0 (nn x)) (fun _ => true) (9 + 1)).2 - nV (ua (Aa A) (2 + 1) 0) 0 (nn x), A)
def spClose (A : AS) : Int32 × AS := ((chF (fun d => nV (ua (Aa A) (20 + d) 0) 0 14) (fun d => decide (Aa A (20 + d) = 1)) 7).1, A)
def spLikes (A : AS) (e : Int32) : Int32 × AS := if ¬ (0 ≤ e ∧ e < nI (Aa A 0)) then rz A 1 else ((chF (fun g => nI (wNt (Aa A) (nn e) g)) (fun g => decide (eats (Aa A) (nn e) g)) 5).1, A)
def spWhose (A : AS) (g : Int32) : Int32 × AS := if ¬ (0 ≤ g ∧ g < 5) then rz A 1 else ((chF (fun e => nI (wNt (Aa A) e (nn g))) (fun e => decide (eats (Aa A) e (nn g))) (Aa A 0)).1, A)
def spRow (A : AS) (v : Int32) : Int32 × AS := if v < 0 ∨ 99 < v then rz A (kO v 0) else if An A = 20 then rz A 6 else (nI (An A + 1), sAn A (An A + 1) (fun j => if j = An A then nn v else As' A j))
def thOK (a : Row) (ns : Nat → Nat) : Nat → Bool
  | 0 => true
  | k + 1 => thOK a ns k && decide (dyT (hun (nD a 0 k).1) (nD a 0 k).1 (nD a 0 k).2.1 = ns k)
def fitS (A : AS) : Nat → Int32
  | 0 => 0
  | k + 1 => if thOK (ua (Aa A) (2 + 5) k) (As' A) (An A) = true then fitS A k ||| (1 <<< (nI k &&& 31)) else fitS A k
def spFits (A : AS) : Int32 × AS := (fitS A 6, A)
def jdS (L : List Nat) (ns : Nat → Nat) (n : Nat) : Int32 := oJ ((List.range n).find? (fun i => decide (L.length ≤ i ∨ L.getD i 0 ≠ ns i))) (-9)
def spJudge (A : AS) : Int32 × AS := (jdS (dyL (hun (Aa A)) (Aa A) 0) (As' A) (An A), sAn A 0 (As' A))
def spImage (A : AS) : Int32 × AS := (nI (Aa A 1), sAk A)
def spOn (A : AS) : Int32 × AS := if At A = 0 then rz A 3 else (nI (Ak A 1), sAa A (Ak A))
def spCount (A : AS) (x : Int32) : Int32 × AS := (if 11 ≤ x ∧ x ≤ 16 then Af A (nn x - 10) else if x = 0 then nI (Aa A 0) else if x = 1 then nI (Aa A 1) else if x = 2 then nI (sumN (fun k => Aa A (10 + k)) 5) else if x = 3 then nI (Aa A 2) else if x = 4 then nI (sumN (fun k => Aa A (20 + k)) 7) else if x = 5 then nI (Aa A 7) else if x = 6 then nI (sumN (fun e => Aa A (30 + 4 * e + 1)) (Aa A 0)) else if x = 7 then nI (An A) else if x = 8 then nI (Al A) else -9, A)

/-! ===== numbers of truth ===== -/
abbrev bI (p : Prop) [Decidable p] : Int32 := if p then 1 else 0
theorem bI_0 {p : Prop} [Decidable p] (h : bI p = 0) : ¬ p := fun q => by simp [bI, q] at h
theorem bI_1 {p : Prop} [Decidable p] (h : ¬ bI p = 0) : p := Decidable.byContradiction fun q => h (by simp [bI, q])
theorem bI_nr {p : Prop} [Decidable p] : narrow .boolean (.int (bI p)) = .int (bI p) := by
  by_cases h : p <;> simp [bI, h] <;> rfl
/-! ===== a household as a row of naturals: 0 EATERS, 1 DAY, 2 BUY, 3 YESTERDAY'S, 4 PRICE, 5 THROW, 6 LACK, 7 KIND, 10.. SLICES, 20.. OPEN, 30 + 4e.. KIND, HUNGER, BASE, CHANCE ===== -/
abbrev Row : Type := Nat → Nat
def ua (a : Row) (k v : Nat) : Row := fun j => if j = k then v else a j
theorem ua_at (a : Row) (k v j : Nat) : ua a k v j = if j = k then v else a j := rfl
def Hh (σ : SG) (b : Nat) (a : Row) : Prop := σ b 4 = nI (a 0) ∧ σ b 5 = nI (a 1) ∧ (∀ k, k < 6 → σ (b + 3) k = nI (a (2 + k))) ∧ (∀ k, k < 5 → σ (b + 1) k = nI (a (10 + k))) ∧ (∀ k, k < 7 → σ (b + 2) k = nI (a (20 + k))) ∧ ∀ e, e < 4 → ∀ k, k < 4 → σ (b + 5 + e) k = nI (a (30 + 4 * e + k))
theorem Hh.c {σ : SG} {b : Nat} {a : Row} (h : Hh σ b a) : σ b 4 = nI (a 0) := h.1
theorem Hh.d {σ : SG} {b : Nat} {a : Row} (h : Hh σ b a) : σ b 5 = nI (a 1) := h.2.1
theorem Hh.t {σ : SG} {b : Nat} {a : Row} (h : Hh σ b a) {k : Nat} (hk : k < 6) : σ (b + 3) k = nI (a (2 + k)) := h.2.2.1 k hk
theorem Hh.s {σ : SG} {b : Nat} {a : Row} (h : Hh σ b a) {k : Nat} (hk : k < 5) : σ (b + 1) k = nI (a (10 + k)) := h.2.2.2.1 k hk
theorem Hh.p {σ : SG} {b : Nat} {a : Row} (h : Hh σ b a) {k : Nat} (hk : k < 7) : σ (b + 2) k = nI (a (20 + k)) := h.2.2.2.2.1 k hk
theorem Hh.e {σ : SG} {b : Nat} {a : Row} (h : Hh σ b a) {e k : Nat} (he : e < 4) (hk : k < 4) : σ (b + 5 + e) k = nI (a (30 + 4 * e + k)) := h.2.2.2.2.2 e he k hk
/-- cells outside S stay -/
def Fr (S : Nat → Prop) (σ τ : SG) : Prop := ∀ k, ¬ S k → τ k = σ k
theorem Fr.rf {S : Nat → Prop} {σ : SG} : Fr S σ σ := fun _ _ => rfl
theorem Fr.tr {S S' : Nat → Prop} {σ τ ρ : SG} (h : Fr S σ τ) (h' : Fr S' τ ρ) (hs : ∀ k, S' k → S k) : Fr S σ ρ := fun k hk => (h' k (fun q => hk (hs k q))).trans (h k hk)
theorem Fr.up {S : Nat → Prop} {σ : SG} {k j : Nat} {v : Int32} (hk : S k) : Fr S σ (up σ k j v) := fun k' h => up_other (fun q => h (q ▸ hk))
theorem Fr.upc {S : Nat → Prop} {σ : SG} {k : Nat} {g : Nat → Int32} (hk : S k) : Fr S σ (upc σ k g) := fun k' h => upc_other (fun q => h (q ▸ hk))
theorem Fr.mono {S S' : Nat → Prop} {σ τ : SG} (h : Fr S σ τ) (hs : ∀ k, S k → S' k) : Fr S' σ τ := fun k hk => h k (fun q => hk (hs k q))
def inH (b : Nat) : Nat → Prop := fun k => b ≤ k ∧ k ≤ b + 8
theorem Hh.fr {σ τ : SG} {b : Nat} {a : Row} (h : Hh σ b a) (hf : ∀ k, b ≤ k → k ≤ b + 8 → τ k = σ k) : Hh τ b a :=
  ⟨by rw [hf b (by omega) (by omega)]; exact h.c, by rw [hf b (by omega) (by omega)]; exact h.d, fun k hk => by rw [hf _ (by omega) (by omega)]; exact h.t hk, fun k hk => by rw [hf _ (by omega) (by omega)]; exact h.s hk, fun k hk => by rw [hf _ (by omega) (by omega)]; exact h.p hk, fun e he k hk => by rw [hf _ (by omega) (by omega)]; exact h.e he hk⟩
theorem Hh.ext {σ : SG} {b : Nat} {a a' : Row} (h : Hh σ b a) (he : ∀ j, j < 46 → a' j = a j) : Hh σ b a' :=
  ⟨by rw [he 0 (by omega)]; exact h.c, by rw [he 1 (by omega)]; exact h.d, fun k hk => by rw [he _ (by omega)]; exact h.t hk, fun k hk => by rw [he _ (by omega)]; exact h.s hk, fun k hk => by rw [he _ (by omega)]; exact h.p hk, fun e he' k hk => by rw [he _ (by omega)]; exact h.e he' hk⟩
theorem Hh.us {σ : SG} {b : Nat} {a : Row} (h : Hh σ b a) {j v : Nat} (hj : j < 5) : Hh (up σ (b + 1) j (nI v)) b (ua a (10 + j) v) := by
  refine ⟨?_, ?_, fun k hk => ?_, fun k hk => ?_, fun k hk => ?_, fun e he k hk => ?_⟩ <;> simp only [up_at, ua_at]
  · rw [if_neg (by omega), if_neg (by omega)]; exact h.c
  · rw [if_neg (by omega), if_neg (by omega)]; exact h.d
  · rw [if_neg (by omega), if_neg (by omega)]; exact h.t hk
  · by_cases q : k = j
    · rw [if_pos ⟨trivial, q⟩, if_pos (by omega)]
    · rw [if_neg (fun z => q z.2), if_neg (by omega)]; exact h.s hk
  · rw [if_neg (by omega), if_neg (by omega)]; exact h.p hk
  · rw [if_neg (by omega), if_neg (by omega)]; exact h.e he hk
theorem Hh.ut {σ : SG} {b : Nat} {a : Row} (h : Hh σ b a) {j v : Nat} (hj : j < 6) : Hh (up σ (b + 3) j (nI v)) b (ua a (2 + j) v) := by
  refine ⟨?_, ?_, fun k hk => ?_, fun k hk => ?_, fun k hk => ?_, fun e he k hk => ?_⟩ <;> simp only [up_at, ua_at]
  · rw [if_neg (by omega), if_neg (by omega)]; exact h.c
  · rw [if_neg (by omega), if_neg (by omega)]; exact h.d
  · by_cases q : k = j
    · rw [if_pos ⟨trivial, q⟩, if_pos (by omega)]
    · rw [if_neg (fun z => q z.2), if_neg (by omega)]; exact h.t hk
  · rw [if_neg (by omega), if_neg (by omega)]; exact h.s hk
  · rw [if_neg (by omega), if_neg (by omega)]; exact h.p hk
  · rw [if_neg (by omega), if_neg (by omega)]; exact h.e he hk
theorem Hh.upp {σ : SG} {b : Nat} {a : Row} (h : Hh σ b a) {j v : Nat} (hj : j < 7) : Hh (up σ (b + 2) j (nI v)) b (ua a (20 + j) v) := by
  refine ⟨?_, ?_, fun k hk => ?_, fun k hk => ?_, fun k hk => ?_, fun e he k hk => ?_⟩ <;> simp only [up_at, ua_at]
  · rw [if_neg (by omega), if_neg (by omega)]; exact h.c
  · rw [if_neg (by omega), if_neg (by omega)]; exact h.d
  · rw [if_neg (by omega), if_neg (by omega)]; exact h.t hk
  · rw [if_neg (by omega), if_neg (by omega)]; exact h.s hk
  · by_cases q : k = j
    · rw [if_pos ⟨trivial, q⟩, if_pos (by omega)]
    · rw [if_neg (fun z => q z.2), if_neg (by omega)]; exact h.p hk
  · rw [if_neg (by omega), if_neg (by omega)]; exact h.e he hk
theorem Hh.ue {σ : SG} {b : Nat} {a : Row} (h : Hh σ b a) {e0 j v : Nat} (he0 : e0 < 4) (hj : j < 4) : Hh (up σ (b + 5 + e0) j (nI v)) b (ua a (30 + 4 * e0 + j) v) := by
  refine ⟨?_, ?_, fun k hk => ?_, fun k hk => ?_, fun k hk => ?_, fun e he k hk => ?_⟩ <;> simp only [up_at, ua_at]
  · rw [if_neg (by omega), if_neg (by omega)]; exact h.c
  · rw [if_neg (by omega), if_neg (by omega)]; exact h.d
  · rw [if_neg (by omega), if_neg (by omega)]; exact h.t hk
  · rw [if_neg (by omega), if_neg (by omega)]; exact h.s hk
  · rw [if_neg (by omega), if_neg (by omega)]; exact h.p hk
  · by_cases q : e = e0 ∧ k = j
    · rw [if_pos ⟨by omega, q.2⟩, if_pos (by omega)]
    · rw [if_neg (by omega), if_neg (by omega)]; exact h.e he hk
theorem Hh.uc {σ : SG} {b : Nat} {a : Row} (h : Hh σ b a) {v : Nat} : Hh (up σ b 4 (nI v)) b (ua a 0 v) := by
  refine ⟨?_, ?_, fun k hk => ?_, fun k hk => ?_, fun k hk => ?_, fun e he k hk => ?_⟩ <;> simp only [up_at, ua_at]
  · simp
  · rw [if_neg (by omega), if_neg (by omega)]; exact h.d
  · rw [if_neg (by omega), if_neg (by omega)]; exact h.t hk
  · rw [if_neg (by omega), if_neg (by omega)]; exact h.s hk
  · rw [if_neg (by omega), if_neg (by omega)]; exact h.p hk
  · rw [if_neg (by omega), if_neg (by omega)]; exact h.e he hk
theorem Hh.ud {σ : SG} {b : Nat} {a : Row} (h : Hh σ b a) {v : Nat} : Hh (up σ b 5 (nI v)) b (ua a 1 v) := by
  refine ⟨?_, ?_, fun k hk => ?_, fun k hk => ?_, fun k hk => ?_, fun e he k hk => ?_⟩ <;> simp only [up_at, ua_at]
  · rw [if_neg (by omega), if_neg (by omega)]; exact h.c
  · simp
  · rw [if_neg (by omega), if_neg (by omega)]; exact h.t hk
  · rw [if_neg (by omega), if_neg (by omega)]; exact h.s hk
  · rw [if_neg (by omega), if_neg (by omega)]; exact h.p hk
  · rw [if_neg (by omega), if_neg (by omega)]; exact h.e he hk
theorem Hh.uf {σ : SG} {b : Nat} {a : Row} (h : Hh σ b a) {v : Int32} : Hh (up σ b 6 v) b a := by
  refine ⟨?_, ?_, fun k hk => ?_, fun k hk => ?_, fun k hk => ?_, fun e he k hk => ?_⟩ <;> simp only [up_at]
  · rw [if_neg (by omega)]; exact h.c
  · rw [if_neg (by omega)]; exact h.d
  · rw [if_neg (by omega)]; exact h.t hk
  · rw [if_neg (by omega)]; exact h.s hk
  · rw [if_neg (by omega)]; exact h.p hk
  · rw [if_neg (by omega)]; exact h.e he hk
/-- the bounds of a household's numbers -/
def Bd (a : Row) : Prop := (∀ j, a j ≤ 30000) ∧ a 0 ≤ 4 ∧ a 1 ≤ 30000 ∧ a 2 ≤ 30 ∧ a 3 ≤ 9 ∧ a 4 ≤ 9 ∧ a 5 ≤ 9 ∧ a 6 ≤ 9 ∧ a 7 ≤ 5 ∧ (∀ k, k < 5 → a (10 + k) ≤ 60) ∧ (∀ k, k < 7 → a (20 + k) ≤ 1) ∧ ∀ e, e < 4 → a (30 + 4 * e) ≤ 5 ∧ a (30 + 4 * e + 1) ≤ 11 ∧ a (30 + 4 * e + 2) ≤ 9 ∧ a (30 + 4 * e + 3) ≤ 10
/-! ===== worth, and what is taken next ===== -/
abbrev eats (a : Row) (e g : Nat) : Prop := a (30 + 4 * e) = 0 ∨ a (30 + 4 * e) = 2 ∨ a (30 + 4 * e) = 4 ∨ g = 0 ∨ (g = 1 ∧ a (30 + 4 * e) ≠ 1)
def wNt (a : Row) (e g : Nat) : Nat :=
  if a (30 + 4 * e) = 0 then a (30 + 4 * e + 2) - g
  else if a (30 + 4 * e) = 2 then (if 2 < g then a (30 + 4 * e + 2) + 1 else a (30 + 4 * e + 2) - g)
  else if a (30 + 4 * e) = 4 then 1
  else if a (30 + 4 * e) = 5 ∧ 4 < a 1 % 7 then (if g = 0 then a (30 + 4 * e + 2) else a (30 + 4 * e + 2) / 2) - 1
  else (if g = 0 then a (30 + 4 * e + 2) else a (30 + 4 * e + 2) / 2)
def wJ (a : Row) (e g : Nat) : Int32 := if eats a e g then nI (wNt a e g) else -1
def sumN (f : Nat → Nat) : Nat → Nat
  | 0 => 0
  | n + 1 => sumN f n + f n
def inRj (a : Row) (g : Nat) : Int32 := if g = 0 ∧ (a 7 = 3 ∨ a 7 = 5) then nI (a (10 + g)) - 3 else nI (a (10 + g))
abbrev reachC (a : Row) (g : Nat) : Prop := if g = 0 ∧ (a 7 = 3 ∨ a 7 = 5) then 3 < a (10 + g) else 0 < a (10 + g)
def way (a : Row) : Nat := if a 7 = 4 then (if a 1 % 2 = 0 then 2 else 1) else a 7
/-- the AGES 4, 3 .. gone through, m of them -/
def pkC (a : Row) (e : Nat) : Nat → Option Nat
  | 0 => none
  | m + 1 => if reachC a (4 - m) ∧ eats a e (4 - m) then (match pkC a e m with
    | none => some (4 - m)
    | some f => if way a = 1 ∨ (way a = 2 ∧ wNt a e f < wNt a e (4 - m)) then some (4 - m) else some f) else pkC a e m
def nxC (a : Row) (e : Nat) : Option Nat := pkC a e 5
def oJ (o : Option Nat) (d : Int32) : Int32 := match o with
  | none => d
  | some g => nI g
/-- throwing k of the oldest: the AGES 4, 3 .., m of them gone through; the row, and how many are left to throw -/
def losS (a : Row) (k : Nat) : Nat → Row × Nat
  | 0 => (a, k)
  | m + 1 => (ua (losS a k m).1 (10 + (4 - m)) ((losS a k m).1 (10 + (4 - m)) - min (losS a k m).2 ((losS a k m).1 (10 + (4 - m)))), (losS a k m).2 - min (losS a k m).2 ((losS a k m).1 (10 + (4 - m))))
theorem cl_n {k : Nat} (h : k ≤ 20) : cl (nI k) = nI k := if_pos ⟨(nj_le (a := 0) (b := k) (by omega) (by omega)).mpr (by omega), (nj_le (a := k) (b := 20) (by omega) (by omega)).mpr h⟩
theorem cl_k (x : Int32) : ∃ k : Nat, k ≤ 20 ∧ cl x = nI k := by
  unfold cl
  by_cases h : 0 ≤ x ∧ x ≤ 20
  · rw [if_pos h]
    obtain ⟨h0, h1⟩ := h
    rw [Int32.le_iff_toInt_le, Int32.toInt_zero] at h0
    rw [Int32.le_iff_toInt_le, show (20 : Int32).toInt = 20 by decide] at h1
    refine ⟨x.toInt.toNat, by omega, ?_⟩
    rw [← Int32.toInt_inj, nI_toInt (by omega)]; omega
  · rw [if_neg h]; exact ⟨0, by omega, rfl⟩
theorem cl_set {w : WD} {σ : SG} {x : Int32} (h : cl x = x) : shp w 28 (upd (σ 28) 2 x) = .inr (3, [rA w 29, rA w 30, .int (cl (σ 28 2))].set 2 (.int x)) := by
  show Sum.inr (3, [rA w 29, rA w 30, .int (cl (upd (σ 28) 2 x 2))]) = _
  rw [upd_at, if_pos rfl, h]
  rfl

theorem HB.le {b : Nat} (h : HB b) : b + 8 ≤ 27 := by rcases h with rfl | rfl | rfl <;> omega
theorem Bd.us {a : Row} {g v : Nat} (h : Bd a) (hg : g < 5) (hv : v ≤ 60) : Bd (ua a (10 + g) v) := by
  obtain ⟨h0, b0, b1, b2, b3, b4, b5, b6, b7, bs, bp, be⟩ := h
  refine ⟨fun j => by have := h0 j; simp only [ua_at]; split <;> omega, ?_, ?_, ?_, ?_, ?_, ?_, ?_, ?_, fun k hk => ?_, fun k hk => ?_, fun e he => ?_⟩ <;> simp only [ua_at]
  all_goals first | (rw [if_neg (by omega)]; assumption) | skip
  · have := bs k hk; split <;> omega
  · rw [if_neg (by omega)]; exact bp k hk
  · rw [if_neg (by omega), if_neg (by omega), if_neg (by omega), if_neg (by omega)]; exact be e he
def sc1 (a : Row) (fw : Nat) : Nat := if a (20 + a 1 % 7) = 0 then 0 else min (a 2 - fw) (60 - a 10)
def sc2 (a : Row) (fw : Nat) : Nat := if a (20 + a 1 % 7) = 0 then 0 else if a (20 + (a 1 + 1) % 7) = 0 then min (a 2) (60 - (a 10 + sc1 a fw)) else 0
def sc3 (a : Row) : Nat := if a (20 + a 1 % 7) = 0 then 0 else min (a 3) (60 - a 11)
def shR (a : Row) (fw : Nat) : Row := ua (ua a 10 (a 10 + sc1 a fw + sc2 a fw)) 11 (a 11 + sc3 a)
def shF (a : Row) (fw : Nat) : Nat := if a (20 + a 1 % 7) = 0 then fw else 0
def shV (a : Row) (fw : Nat) : Int32 := nI (sc1 a fw) * nI (a 4) + nI (sc2 a fw) * nI (a 4) + nI (sc3 a) * nI (a 4 / 2)
def shB (a : Row) (fw : Nat) : Nat := sc1 a fw + sc2 a fw + sc3 a
/-- the first n EATERS have eaten: the row, the AGES in their order, LACKED, what it brought -/
def eaS (hu : Nat → Nat) (a : Row) : Nat → Row × List Nat × Nat × Int32
  | 0 => (a, [], 0, 0)
  | e + 1 => let p := eaS hu a e
    let q := eatS e (wan p.1 (hu e)) p.1
    (q.1, p.2.1 ++ q.2, p.2.2.1 + (hu e - q.2.length), p.2.2.2 + wsum p.1 e q.2 - nI (hu e - q.2.length) * nI (a 6))
def shiftR (a : Row) : Row := fun j => if j = 10 then 0 else if j = 1 then a 1 + 1 else if 11 ≤ j ∧ j ≤ 14 then a (j - 1) else a j
/-- a DAY by the HUNGERS hu, so many fewer bought at first -/
def dyE (hu : Nat → Nat) (a : Row) (fw : Nat) : Row × List Nat × Nat × Int32 := eaS hu (shR a fw) (a 0)
def dyR (hu : Nat → Nat) (a : Row) (fw : Nat) : Row := shiftR (dyE hu a fw).1
def dyL (hu : Nat → Nat) (a : Row) (fw : Nat) : List Nat := (dyE hu a fw).2.1
def dyK (hu : Nat → Nat) (a : Row) (fw : Nat) : Nat := (dyE hu a fw).2.2.1
def dyT (hu : Nat → Nat) (a : Row) (fw : Nat) : Nat := (dyE hu a fw).1 14
def dyV (hu : Nat → Nat) (a : Row) (fw : Nat) : Int32 := (dyE hu a fw).2.2.2 - shV a fw - nI (dyT hu a fw) * nI (a 5)
abbrev hun (a : Row) : Nat → Nat := fun e => a (30 + 4 * e + 1)
theorem eaS_sm (hu : Nat → Nat) (a : Row) : ∀ n, SmE a (eaS hu a n).1 ∧ ∀ j, (eaS hu a n).1 j ≤ a j := by
  intro n
  induction n with
  | zero => exact ⟨SmE.rf, fun _ => Nat.le_refl _⟩
  | succ n ih =>
    obtain ⟨h1, h2⟩ := eatS_sm n (wan (eaS hu a n).1 (hu n)) (eaS hu a n).1
    exact ⟨ih.1.tr h1, fun j => Nat.le_trans (h2 j) (ih.2 j)⟩
theorem eaS_len (hu : Nat → Nat) (a : Row) (M : Nat) (hM : ∀ e, hu e ≤ M) : ∀ n, (eaS hu a n).2.1.length ≤ n * M := by
  intro n
  induction n with
  | zero => simp [eaS]
  | succ n ih =>
    have h1 := eatS_len n (wan (eaS hu a n).1 (hu n)) (eaS hu a n).1
    have h2 : wan (eaS hu a n).1 (hu n) ≤ hu n := by unfold wan; split <;> omega
    have h3 := hM n
    have h4 : (n + 1) * M = n * M + M := by rw [Nat.add_mul]; omega
    show ((eaS hu a n).2.1 ++ (eatS n (wan (eaS hu a n).1 (hu n)) (eaS hu a n).1).2).length ≤ _
    rw [List.length_append]
    omega
theorem sc_le {a : Row} (h : Bd a) (fw : Nat) : a 10 + sc1 a fw + sc2 a fw ≤ 60 ∧ a 11 + sc3 a ≤ 60 := by
  have h10 : a 10 ≤ 60 := h.2.2.2.2.2.2.2.2.2.1 0 (by omega)
  have h11 : a 11 ≤ 60 := h.2.2.2.2.2.2.2.2.2.1 1 (by omega)
  unfold sc1 sc2 sc3 sc1
  repeat' split
  all_goals omega
theorem shR_bd {a : Row} (h : Bd a) (fw : Nat) : Bd (shR a fw) := by
  obtain ⟨h1, h2⟩ := sc_le h fw
  exact Bd.us (g := 1) (Bd.us (g := 0) h (by omega) h1) (by omega) h2
theorem shR_sm (a : Row) (fw : Nat) : SmE a (shR a fw) := fun j hj => by
  unfold shR
  simp only [ua_at]
  rw [if_neg (by omega), if_neg (by omega)]
theorem feed_fin {σ : SG} {b : Nat} {a a1 : Row} {e W hu k5 : Nat} {l1 : List Nat} {v : Int32} {ls : List Nat} {th la bo : Nat} (hb : HB b) (hX : eatS e W a = (a1, l1)) (hk5 : k5 = l1.length) (hH1 : Hh σ b a1) (hT1 : Tl σ (v + wsum a e l1) (ls ++ l1) th la bo) {σ0 : SG} (hF1 : Fr (fun k => k = b + 1 ∨ inT k) σ0 σ) {τ : SG} (hτ : τ = up (up σ 29 4 (σ 29 4 + nI (hu - k5))) 29 0 (σ 29 0 - nI (hu - k5) * nI (a1 6))) : Hh τ b (eatS e W a).1 ∧ Tl τ (v + wsum a e (eatS e W a).2 - nI (hu - (eatS e W a).2.length) * nI (a 6)) (ls ++ (eatS e W a).2) th (la + (hu - (eatS e W a).2.length)) bo ∧ Fr (fun k => k = b + 1 ∨ inT k) σ0 τ := by
  have h6 : a1 6 = a 6 := by have := (eatS_sm e W a).1 6 (by omega); rw [hX] at this; exact this
  have hl := hb.le
  rw [hX]
  subst hk5
  rw [← h6]
  have hf : Fr inT σ τ := by rw [hτ]; exact fr_tal
  refine ⟨hH1.fr (fun k q1 q2 => hf k (fun z => by obtain ⟨z1, z2⟩ := z; omega)), ?_, hF1.tr hf (fun _ z => Or.inr z)⟩
  rw [hτ]
  exact hT1.lack (hu - l1.length) (nI (a1 6))

def shN (a : Row) (q : Nat) : Row := fun j => if 10 + q < j ∧ j ≤ 14 then a (j - 1) else a j
theorem shN_4 (a : Row) : shN a 4 = a := by funext j; unfold shN; rw [if_neg (by omega)]
theorem shN_step {a : Row} {q : Nat} (h : 0 < q) (h4 : q ≤ 4) (j : Nat) : shN a (q - 1) j = ua (shN a q) (10 + q) (shN a q (10 + (q - 1))) j := by
  simp only [ua_at, shN]
  by_cases z : j = 10 + q
  · subst z
    rw [if_pos rfl, if_pos (by omega), if_neg (by omega)]
    exact congrArg a (by omega)
  · rw [if_neg z]
    by_cases y : 10 + q < j ∧ j ≤ 14
    · rw [if_pos y, if_pos (by omega)]
    · rw [if_neg y, if_neg (by omega)]
abbrev inD (b : Nat) : Nat → Prop := fun k => inH b k ∨ inT k
theorem day_step {σ σ' : SG} {b e : Nat} {a a1 : Row} {v x : Int32} {ls : List Nat} {th la bo : Nat} {hu : Nat → Nat}
    (hTf : Tl σ' (v - x + (eaS hu a1 e).2.2.2 + wsum (eaS hu a1 e).1 e (eatS e (wan (eaS hu a1 e).1 (hu e)) (eaS hu a1 e).1).2 - nI (hu e - (eatS e (wan (eaS hu a1 e).1 (hu e)) (eaS hu a1 e).1).2.length) * nI ((eaS hu a1 e).1 6)) (ls ++ (eaS hu a1 e).2.1 ++ (eatS e (wan (eaS hu a1 e).1 (hu e)) (eaS hu a1 e).1).2) th (la + (eaS hu a1 e).2.2.1 + (hu e - (eatS e (wan (eaS hu a1 e).1 (hu e)) (eaS hu a1 e).1).2.length)) bo) :
    Tl σ' (v - x + (eaS hu a1 (e + 1)).2.2.2) (ls ++ (eaS hu a1 (e + 1)).2.1) th (la + (eaS hu a1 (e + 1)).2.2.1) bo := by
  have h6 : (eaS hu a1 e).1 6 = a1 6 := (eaS_sm hu a1 e).1 6 (by omega)
  rw [h6] at hTf
  show Tl σ' (v - x + ((eaS hu a1 e).2.2.2 + wsum (eaS hu a1 e).1 e (eatS e (wan (eaS hu a1 e).1 (hu e)) (eaS hu a1 e).1).2 - nI (hu e - (eatS e (wan (eaS hu a1 e).1 (hu e)) (eaS hu a1 e).1).2.length) * nI (a1 6))) (ls ++ ((eaS hu a1 e).2.1 ++ (eatS e (wan (eaS hu a1 e).1 (hu e)) (eaS hu a1 e).1).2)) th (la + ((eaS hu a1 e).2.2.1 + (hu e - (eatS e (wan (eaS hu a1 e).1 (hu e)) (eaS hu a1 e).1).2.length))) bo
  rw [← List.append_assoc, ← Nat.add_assoc]
  generalize (eaS hu a1 e).2.2.2 = s1 at hTf ⊢
  generalize wsum (eaS hu a1 e).1 e (eatS e (wan (eaS hu a1 e).1 (hu e)) (eaS hu a1 e).1).2 = s2 at hTf ⊢
  generalize nI (hu e - (eatS e (wan (eaS hu a1 e).1 (hu e)) (eaS hu a1 e).1).2.length) * nI (a1 6) = s3 at hTf ⊢
  rw [show v - x + (s1 + s2 - s3) = v - x + s1 + s2 - s3 by grind]
  exact hTf
theorem day_fin {σ : SG} {b : Nat} {a : Row} {hu : Nat → Nat} {fw : Nat} {v : Int32} {ls : List Nat} {th la bo : Nat}
    (hT : Tl σ (v - shV a fw + (dyE hu a fw).2.2.2 - nI ((dyE hu a fw).1 14) * nI ((dyE hu a fw).1 5)) (ls ++ (dyE hu a fw).2.1) (th + (dyE hu a fw).1 14) (la + (dyE hu a fw).2.2.1) (bo + shB a fw)) :
    Tl σ (v + dyV hu a fw) (ls ++ dyL hu a fw) (th + dyT hu a fw) (la + dyK hu a fw) (bo + shB a fw) := by
  have h5 : (dyE hu a fw).1 5 = a 5 := ((eaS_sm hu (shR a fw) (a 0)).1 5 (by omega)).trans (shR_sm a fw 5 (by omega))
  rw [h5] at hT
  unfold dyV dyL dyK dyT
  rw [show v + ((dyE hu a fw).2.2.2 - shV a fw - nI ((dyE hu a fw).1 14) * nI (a 5)) = v - shV a fw + (dyE hu a fw).2.2.2 - nI ((dyE hu a fw).1 14) * nI (a 5) by grind]
  exact hT
theorem day_row {σ σ1 σ2 : SG} {b : Nat} {a : Row} (hH : Hh σ b (shN a 0)) (e1 : σ1 = up σ (b + 1) 0 0) (e2 : σ2 = up σ1 b 5 (nI (ua (shN a 0) 10 0 1 + 1))) : Hh σ2 b (shiftR a) := by
  have h1 : Hh σ1 b (ua (shN a 0) (10 + 0) 0) := by rw [e1]; exact hH.us (j := 0) (v := 0) (by omega)
  have h2 : Hh σ2 b (ua (ua (shN a 0) (10 + 0) 0) 1 (ua (shN a 0) 10 0 1 + 1)) := by rw [e2]; exact h1.ud
  refine h2.ext (fun j hj => ?_)
  simp only [ua_at, shN, shiftR]
  by_cases z : j = 10
  · rw [if_pos z, if_neg (by omega), if_pos (by omega)]
  · rw [if_neg z]
    by_cases y : j = 1
    · rw [if_pos y, if_pos y]; rfl
    · have z' : ¬ j = 10 + 0 := z
      rw [if_neg y, if_neg y, if_neg z']
      by_cases x : 11 ≤ j ∧ j ≤ 14
      · rw [if_pos x, if_pos (by omega)]
      · rw [if_neg x, if_neg (by omega)]
theorem eaS_len4 {a : Row} (hBe : ∀ e, e < 4 → a (30 + 4 * e) ≤ 5 ∧ a (30 + 4 * e + 1) ≤ 11 ∧ a (30 + 4 * e + 2) ≤ 9 ∧ a (30 + 4 * e + 3) ≤ 10) (h0 : a 0 ≤ 4) (a1 : Row) : ∀ e, e ≤ a 0 → (eaS (hun a) a1 e).2.1.length ≤ 11 * e := by
  intro e
  induction e with
  | zero => intro _; simp [eaS]
  | succ e ih =>
    intro he
    have h1 := ih (by omega)
    have h2 := eatS_len e (wan (eaS (hun a) a1 e).1 (hun a e)) (eaS (hun a) a1 e).1
    have h3 : wan (eaS (hun a) a1 e).1 (hun a e) ≤ hun a e := by unfold wan; split <;> omega
    have h4 : hun a e ≤ 11 := (hBe e (by omega)).2.1
    show ((eaS (hun a) a1 e).2.1 ++ (eatS e (wan (eaS (hun a) a1 e).1 (hun a e)) (eaS (hun a) a1 e).1).2).length ≤ _
    rw [List.length_append]
    omega

theorem ua_comm {a : Row} {k k' v v' : Nat} (h : k ≠ k') : ua (ua a k v) k' v' = ua (ua a k' v') k v := by
  funext j
  simp only [ua_at]
  by_cases z : j = k
  · have y : ¬ j = k' := fun y => h (z.symm.trans y)
    simp [z, h]
  · simp [z]
theorem rshop_fin {σ σ0 : SG} {c : Nat} {a b : Row} {fw c1 c2 c3 : Nat} {v : Int32} (hc : ¬ a (20 + a 1 % 7) = 0) (h1 : c1 = min (a 2 - fw) (60 - a 10)) (h2 : c2 = if a (20 + (a 1 + 1) % 7) = 0 then min (a 2) (60 - (a 10 + c1)) else 0) (h3 : c3 = min (a 3) (60 - a 11)) (hb : b = ua (ua a 10 (a 10 + c1 + c2)) 11 (a 11 + c3)) (hM : Mr σ c b) (hv : v = 0 - nI (a 4 * c1) - nI (a 4 / 2 * c3) - nI (a 4 * c2)) (hD : Dt σ v [] 0 (0 + c1 + c3 + c2)) (hF : FrY c σ0 σ) : Mr σ c (shR a fw) ∧ Dt σ (0 - shV a fw) [] 0 (shB a fw) ∧ FrY c σ0 σ := by
  have k1 : sc1 a fw = c1 := by unfold sc1; rw [if_neg hc, h1]
  have k2 : sc2 a fw = c2 := by unfold sc2; rw [if_neg hc, k1, h2]
  have k3 : sc3 a = c3 := by unfold sc3; rw [if_neg hc, h3]
  unfold shR shV shB
  rw [k1, k2, k3]
  refine ⟨by rw [← hb]; exact hM, ?_, hF⟩
  have e1 : 0 - (nI c1 * nI (a 4) + nI c2 * nI (a 4) + nI c3 * nI (a 4 / 2)) = v := by
    rw [hv, ← nj_times, ← nj_times, ← nj_times]; grind
  have e2 : c1 + c2 + c3 = 0 + c1 + c3 + c2 := by omega
  rw [e1, e2]
  exact hD
theorem rshop_cl {σ σ0 : SG} {c : Nat} {a : Row} {fw : Nat} (hc : a (20 + a 1 % 7) = 0) (hM : Mr σ c a) (hD : Dt σ 0 [] 0 0) (hF : FrY c σ0 σ) : Mr σ c (shR a fw) ∧ Dt σ (0 - shV a fw) [] 0 (shB a fw) ∧ FrY c σ0 σ := by
  have h1 : sc1 a fw = 0 := if_pos hc
  have h2 : sc2 a fw = 0 := if_pos hc
  have h3 : sc3 a = 0 := if_pos hc
  have h5 : shR a fw = a := by unfold shR; rw [h1, h2, h3]; show ua (ua a 10 (a 10)) 11 (a 11) = a; rw [ua_id (a := a) (k := 10) rfl, ua_id rfl]
  have h6 : shV a fw = 0 := by unfold shV; rw [h1, h2, h3, nI_0]; grind
  have h7 : shB a fw = 0 := by unfold shB; rw [h1, h2, h3]
  rw [h5, h6, h7, Int32.sub_zero]
  exact ⟨hM, hD, hF⟩
/-- the reference's VALUE while they eat: what lacks is not yet taken off -/
abbrev eV (hu : Nat → Nat) (b : Row) (e : Nat) (x : Int32) : Int32 := (eaS hu b e).2.2.2 + nI (eaS hu b e).2.2.1 * nI (b 6) - x
theorem eV_step {hu : Nat → Nat} {b p a2 : Row} {e W : Nat} {l2 : List Nat} {x : Int32} (hp : p = (eaS hu b e).1) (hW : W = wan p (hu e)) (hE : eatS e W p = (a2, l2)) : eV hu b (e + 1) x = eV hu b e x + wsum p e l2 ∧ (eaS hu b (e + 1)).1 = a2 ∧ (eaS hu b (e + 1)).2.1 = (eaS hu b e).2.1 ++ l2 ∧ (eaS hu b (e + 1)).2.2.1 = (eaS hu b e).2.2.1 + (hu e - l2.length) := by
  have key : eaS hu b (e + 1) = (a2, (eaS hu b e).2.1 ++ l2, (eaS hu b e).2.2.1 + (hu e - l2.length), (eaS hu b e).2.2.2 + wsum p e l2 - nI (hu e - l2.length) * nI (b 6)) := by
    show ((eatS e (wan (eaS hu b e).1 (hu e)) (eaS hu b e).1).1, (eaS hu b e).2.1 ++ (eatS e (wan (eaS hu b e).1 (hu e)) (eaS hu b e).1).2, (eaS hu b e).2.2.1 + (hu e - (eatS e (wan (eaS hu b e).1 (hu e)) (eaS hu b e).1).2.length), (eaS hu b e).2.2.2 + wsum (eaS hu b e).1 e (eatS e (wan (eaS hu b e).1 (hu e)) (eaS hu b e).1).2 - nI (hu e - (eatS e (wan (eaS hu b e).1 (hu e)) (eaS hu b e).1).2.length) * nI (b 6)) = _
    rw [← hp, ← hW, hE]
  refine ⟨?_, by rw [key], by rw [key], by rw [key]⟩
  unfold eV
  rw [key]
  show (eaS hu b e).2.2.2 + wsum p e l2 - nI (hu e - l2.length) * nI (b 6) + nI ((eaS hu b e).2.2.1 + (hu e - l2.length)) * nI (b 6) - x = _
  rw [← nj_plus]
  generalize (eaS hu b e).2.2.2 = s1
  generalize nI (eaS hu b e).2.2.1 = s2
  generalize nI (hu e - l2.length) = s3
  generalize wsum p e l2 = s4
  generalize nI (b 6) = s5
  grind
theorem rday_fin {σ σ1 : SG} {c fw : Nat} {a p : Row} {hu : Nat → Nat} (hp : p = (dyE hu a fw).1) (hD : Dt σ1 (eV hu (shR a fw) (a 0) (shV a fw) - nI (p 6 * (dyE hu a fw).2.2.1 + p 5 * p 14)) (dyE hu a fw).2.1 (dyE hu a fw).2.2.1 (shB a fw)) : Dt σ1 (dyV hu a fw) (dyL hu a fw) (dyK hu a fw) (shB a fw) := by
  have h5 : p 5 = a 5 := by rw [hp]; exact dyE_sm hu a fw 5 (by omega)
  have h6 : p 6 = (shR a fw) 6 := by rw [hp]; exact (eaS_sm hu (shR a fw) (a 0)).1 6 (by omega)
  have e1 : dyV hu a fw = eV hu (shR a fw) (a 0) (shV a fw) - nI (p 6 * (dyE hu a fw).2.2.1 + p 5 * p 14) := by
    unfold dyV dyT eV
    rw [← hp, ← nj_plus, ← nj_times, ← nj_times, h5, h6]
    show (dyE hu a fw).2.2.2 - _ - _ = (dyE hu a fw).2.2.2 + nI (dyE hu a fw).2.2.1 * _ - _ - _
    grind
  unfold dyL dyK
  rw [e1]
  exact hD
theorem sh_row (p : Row) (j : Nat) : shiftR p j = ua (ua (shN p 0) 10 0) 1 (ua (shN p 0) 10 0 1 + 1) j := by
  simp only [ua_at, shN, shiftR]
  by_cases z : j = 10
  · rw [if_pos z, if_neg (by omega), if_pos z]
  · rw [if_neg z]
    by_cases y : j = 1
    · rw [if_pos y, if_pos y]; rfl
    · rw [if_neg y, if_neg y, if_neg z]
      by_cases x : 11 ≤ j ∧ j ≤ 14
      · rw [if_pos x, if_pos (by omega)]
      · rw [if_neg x, if_neg (by omega)]
theorem eaS_lenh {hu : Nat → Nat} {N : Nat} (hu11 : ∀ e, e < N → hu e ≤ 11) (b : Row) : ∀ e, e ≤ N → (eaS hu b e).2.1.length ≤ 11 * e := by
  intro e
  induction e with
  | zero => intro _; simp [eaS]
  | succ e ih =>
    intro he
    have h1 := ih (by omega)
    have h2 := eatS_len e (wan (eaS hu b e).1 (hu e)) (eaS hu b e).1
    have h3 : wan (eaS hu b e).1 (hu e) ≤ hu e := by unfold wan; split <;> omega
    have h4 := hu11 e (by omega)
    show ((eaS hu b e).2.1 ++ (eatS e (wan (eaS hu b e).1 (hu e)) (eaS hu b e).1).2).length ≤ _
    rw [List.length_append]
    omega

theorem ua_ua (a : Row) (k v v' : Nat) : ua (ua a k v) k v' = ua a k v' := by funext j; simp only [ua_at]; split <;> rfl
theorem ua_id {a : Row} {k v : Nat} (h : v = a k) : ua a k v = a := by funext j; simp only [ua_at]; split <;> simp_all
abbrev inS (b : Nat) : Nat → Prop := fun k => k = b ∨ k = b + 1 ∨ inT k
theorem shop_closed {σ : SG} {b : Nat} {a : Row} {fw : Nat} {v : Int32} {ls : List Nat} {th la bo : Nat} (hH : Hh σ b a) (hfw : σ b 6 = nI fw) (hT : Tl σ v ls th la bo) (hc : a (20 + a 1 % 7) = 0) : Hh σ b (shR a fw) ∧ σ b 6 = nI (shF a fw) ∧ Tl σ (v - shV a fw) ls th la (bo + shB a fw) ∧ Fr (inS b) σ σ := by
  have h1 : sc1 a fw = 0 := if_pos hc
  have h2 : sc2 a fw = 0 := if_pos hc
  have h3 : sc3 a = 0 := if_pos hc
  have h4 : shF a fw = fw := if_pos hc
  have h5 : shR a fw = a := by unfold shR; rw [h1, h2, h3]; show ua (ua a 10 (a 10)) 11 (a 11) = a; rw [ua_id (a := a) (k := 10) rfl, ua_id rfl]
  have h6 : shV a fw = 0 := by unfold shV; rw [h1, h2, h3, nI_0]; grind
  have h7 : shB a fw = 0 := by unfold shB; rw [h1, h2, h3]
  rw [h5, h4, h6, h7, Int32.sub_zero]
  exact ⟨hH, hfw, hT, Fr.rf⟩
/-- one coming of bread: c of AGE g for the price p -/
theorem shop_in {σ σ1 σ2 σ0 : SG} {b : Nat} {a : Row} {c g : Nat} {p v : Int32} {ls : List Nat} {th la bo : Nat} (hb : HB b) (hH : Hh σ b a) (hB : Bd a) (hT : Tl σ v ls th la bo) (hF : Fr (inS b) σ0 σ) (hg : g < 5) (hc : a (10 + g) + c ≤ 60) (e1 : σ1 = up σ (b + 1) g (nI (a (10 + g) + c))) (e2 : σ2 = up (up σ1 29 5 (σ1 29 5 + nI c)) 29 0 (σ1 29 0 - nI c * p)) : Hh σ2 b (ua a (10 + g) (a (10 + g) + c)) ∧ Bd (ua a (10 + g) (a (10 + g) + c)) ∧ σ2 b 6 = σ b 6 ∧ Tl σ2 (v - nI c * p) ls th la (bo + c) ∧ Fr (inS b) σ0 σ2 := by
  have hl := hb.le
  have hT1 : Tl σ1 v ls th la bo := hT.fr (by rw [e1, up_other (by omega)]) (by rw [e1, up_other (by omega)]) (by rw [e1, up_other (by omega)])
  have hf : Fr inT σ1 σ2 := by rw [e2]; exact fr_tal
  have hn : ∀ k, b ≤ k → k ≤ b + 8 → ¬ inT k := fun k q1 q2 z => by obtain ⟨z1, z2⟩ := z; omega
  refine ⟨(show Hh σ1 b _ by rw [e1]; exact hH.us hg).fr (fun k q1 q2 => hf k (hn k q1 q2)), hB.us hg hc, ?_, by rw [e2]; exact hT1.bought c p, ?_⟩
  · rw [hf b (hn b (by omega) (by omega)), e1, up_other (by omega)]
  · exact (hF.tr (show Fr (inS b) σ σ1 by rw [e1]; exact Fr.up (Or.inr (Or.inl rfl))) (fun _ z => z)).tr hf (fun _ z => Or.inr (Or.inr z))
theorem shop_fin {σ σ0 : SG} {b : Nat} {a : Row} {fw c1 c2 c3 : Nat} {v : Int32} {ls : List Nat} {th la bo : Nat} (hc : ¬ a (20 + a 1 % 7) = 0) (h1 : c1 = min (a 2 - fw) (60 - a 10)) (h2 : c2 = if a (20 + (a 1 + 1) % 7) = 0 then min (a 2) (60 - (a 10 + c1)) else 0) (h3 : c3 = min (a 3) (60 - a 11)) (hH : Hh σ b (ua (ua a 10 (a 10 + c1 + c2)) 11 (a 11 + c3))) (h6 : σ b 6 = 0) (hT : Tl σ (v - nI c1 * nI (a 4) - nI c2 * nI (a 4) - nI c3 * nI (a 4 / 2)) ls th la (bo + c1 + c2 + c3)) (hF : Fr (inS b) σ0 σ) : Hh σ b (shR a fw) ∧ σ b 6 = nI (shF a fw) ∧ Tl σ (v - shV a fw) ls th la (bo + shB a fw) ∧ Fr (inS b) σ0 σ := by
  have k1 : sc1 a fw = c1 := by unfold sc1; rw [if_neg hc, h1]
  have k2 : sc2 a fw = c2 := by unfold sc2; rw [if_neg hc, k1, h2]
  have k3 : sc3 a = c3 := by unfold sc3; rw [if_neg hc, h3]
  have k4 : shF a fw = 0 := if_neg hc
  unfold shR shV shB
  rw [k1, k2, k3, k4]
  refine ⟨hH, h6, ?_, hF⟩
  have e1 : v - (nI c1 * nI (a 4) + nI c2 * nI (a 4) + nI c3 * nI (a 4 / 2)) = v - nI c1 * nI (a 4) - nI c2 * nI (a 4) - nI c3 * nI (a 4 / 2) := by grind
  have e2 : bo + (c1 + c2 + c3) = bo + c1 + c2 + c3 := by omega
  rw [e1, e2]
  exact hT

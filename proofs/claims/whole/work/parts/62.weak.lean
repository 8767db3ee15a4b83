/-! ===== a DAY whatever the tally holds ===== -/
theorem shop_closedW {σ : SG} {b : Nat} {a : Row} {fw : Nat} (hH : Hh σ b a) (hfw : σ b 6 = nI fw) (hc : a (20 + a 1 % 7) = 0) : Hh σ b (shR a fw) ∧ σ b 6 = nI (shF a fw) ∧ Fr (inS b) σ σ := by
  have h1 : sc1 a fw = 0 := if_pos hc
  have h2 : sc2 a fw = 0 := if_pos hc
  have h3 : sc3 a = 0 := if_pos hc
  have h4 : shF a fw = fw := if_pos hc
  have h5 : shR a fw = a := by unfold shR; rw [h1, h2, h3]; show ua (ua a 10 (a 10)) 11 (a 11) = a; rw [ua_id (a := a) (k := 10) rfl, ua_id rfl]
  rw [h5, h4]
  exact ⟨hH, hfw, Fr.rf⟩
theorem shop_inW {σ σ1 σ2 σ0 : SG} {b : Nat} {a : Row} {c g : Nat} {p : Int32} (hb : HB b) (hH : Hh σ b a) (hB : Bd a) (hF : Fr (inS b) σ0 σ) (hg : g < 5) (hc : a (10 + g) + c ≤ 60) (e1 : σ1 = up σ (b + 1) g (nI (a (10 + g) + c))) (e2 : σ2 = up (up σ1 29 5 (σ1 29 5 + nI c)) 29 0 (σ1 29 0 - nI c * p)) : Hh σ2 b (ua a (10 + g) (a (10 + g) + c)) ∧ Bd (ua a (10 + g) (a (10 + g) + c)) ∧ σ2 b 6 = σ b 6 ∧ Fr (inS b) σ0 σ2 := by
  have hl := hb.le
  have hf : Fr inT σ1 σ2 := by rw [e2]; exact fr_tal
  have hn : ∀ k, b ≤ k → k ≤ b + 8 → ¬ inT k := fun k q1 q2 z => by obtain ⟨z1, z2⟩ := z; omega
  refine ⟨(show Hh σ1 b _ by rw [e1]; exact hH.us hg).fr (fun k q1 q2 => hf k (hn k q1 q2)), hB.us hg hc, ?_, ?_⟩
  · rw [hf b (hn b (by omega) (by omega)), e1, up_other (by omega)]
  · exact (hF.tr (show Fr (inS b) σ σ1 by rw [e1]; exact Fr.up (Or.inr (Or.inl rfl))) (fun _ z => z)).tr hf (fun _ z => Or.inr (Or.inr z))
theorem shop_finW {σ σ0 : SG} {b : Nat} {a : Row} {fw c1 c2 c3 : Nat} (hc : ¬ a (20 + a 1 % 7) = 0) (h1 : c1 = min (a 2 - fw) (60 - a 10)) (h2 : c2 = if a (20 + (a 1 + 1) % 7) = 0 then min (a 2) (60 - (a 10 + c1)) else 0) (h3 : c3 = min (a 3) (60 - a 11)) (hH : Hh σ b (ua (ua a 10 (a 10 + c1 + c2)) 11 (a 11 + c3))) (h6 : σ b 6 = 0) (hF : Fr (inS b) σ0 σ) : Hh σ b (shR a fw) ∧ σ b 6 = nI (shF a fw) ∧ Fr (inS b) σ0 σ := by
  have k1 : sc1 a fw = c1 := by unfold sc1; rw [if_neg hc, h1]
  have k2 : sc2 a fw = c2 := by unfold sc2; rw [if_neg hc, k1, h2]
  have k3 : sc3 a = c3 := by unfold sc3; rw [if_neg hc, h3]
  have k4 : shF a fw = 0 := if_neg hc
  unfold shR
  rw [k1, k2, k3, k4]
  exact ⟨hH, h6, hF⟩
theorem feed_finW {σ : SG} {b : Nat} {a a1 : Row} {e W hu k5 : Nat} {l1 : List Nat} (hb : HB b) (hX : eatS e W a = (a1, l1)) (hH1 : Hh σ b a1) {σ0 : SG} (hF1 : Fr (fun k => k = b + 1 ∨ inT k) σ0 σ) {τ : SG} (hτ : τ = up (up σ 29 4 (σ 29 4 + nI (hu - k5))) 29 0 (σ 29 0 - nI (hu - k5) * nI (a1 6))) : Hh τ b (eatS e W a).1 ∧ Fr (fun k => k = b + 1 ∨ inT k) σ0 τ := by
  have hl := hb.le
  rw [hX]
  have hf : Fr inT σ τ := by rw [hτ]; exact fr_tal
  exact ⟨hH1.fr (fun k q1 q2 => hf k (fun z => by obtain ⟨z1, z2⟩ := z; omega)), hF1.tr hf (fun _ z => Or.inr z)⟩

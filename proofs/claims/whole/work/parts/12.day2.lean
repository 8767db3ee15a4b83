def obW (a : Row) (e : Nat) (o : Option Nat) : Int32 := match o with
  | none => -1
  | some f => nI (wNt a e f)
theorem pk_step {a : Row} {e g : Nat} (hg : g < 5) : pkC a e (5 - g) = if reachC a g ∧ eats a e g then (match pkC a e (5 - (g + 1)) with
    | none => some g
    | some f => if way a = 1 ∨ (way a = 2 ∧ wNt a e f < wNt a e g) then some g else some f) else pkC a e (5 - (g + 1)) := by
  have e1 : 5 - g = (5 - (g + 1)) + 1 := by omega
  have e2 : 4 - (5 - (g + 1)) = g := by omega
  rw [e1, pkC, e2]
  rfl
theorem pk_skip {a : Row} {e g : Nat} (hg : g < 5) (h : ¬ (reachC a g ∧ eats a e g)) : pkC a e (5 - g) = pkC a e (5 - (g + 1)) := by rw [pk_step hg, if_neg h]
theorem pk_take0 {a : Row} {e g : Nat} (hg : g < 5) (h : reachC a g) (h' : eats a e g) (ho : pkC a e (5 - (g + 1)) = none) : pkC a e (5 - g) = some g := by rw [pk_step hg, if_pos ⟨h, h'⟩, ho]
theorem pk_take {a : Row} {e g f : Nat} (hg : g < 5) (h : reachC a g) (h' : eats a e g) (ho : pkC a e (5 - (g + 1)) = some f) (hw : way a = 1 ∨ (way a = 2 ∧ wNt a e f < wNt a e g)) : pkC a e (5 - g) = some g := by rw [pk_step hg, if_pos ⟨h, h'⟩, ho]; exact if_pos hw
theorem pk_keep {a : Row} {e g f : Nat} (hg : g < 5) (h : reachC a g) (h' : eats a e g) (ho : pkC a e (5 - (g + 1)) = some f) (hw : ¬ (way a = 1 ∨ (way a = 2 ∧ wNt a e f < wNt a e g))) : pkC a e (5 - g) = some f := by rw [pk_step hg, if_pos ⟨h, h'⟩, ho]; exact if_neg hw
theorem inRj_pos {a : Row} {g : Nat} (hB : a (10 + g) ≤ 30000) : 0 < inRj a g ↔ reachC a g := by
  unfold inRj reachC
  split
  · rw [Int32.lt_iff_toInt_lt]
    by_cases h : 3 ≤ a (10 + g)
    · rw [show nI (a (10 + g)) - 3 = nI (a (10 + g) - 3) from nj_minus (a := a (10 + g)) (b := 3) h, nj_toInt (by omega), Int32.toInt_zero]; omega
    · have : a (10 + g) = 0 ∨ a (10 + g) = 1 ∨ a (10 + g) = 2 := by omega
      rcases this with h | h | h <;> rw [h] <;> decide
  · exact nj_lt (a := 0) (b := a (10 + g)) (by omega) (by omega)
theorem wNt_le {a : Row} (hB : ∀ j, a j ≤ 30000) (e g : Nat) : wNt a e g ≤ 30001 := by
  have := hB (30 + 4 * e + 2)
  unfold wNt
  repeat' split
  all_goals omega
theorem nj_ne_m1 {n : Nat} (h : n < 2 ^ 31) : ¬ nI n = -1 := fun q => by
  have h1 := congrArg Int32.toInt q
  rw [nj_toInt h, show (-1 : Int32).toInt = -1 by decide] at h1
  omega
theorem wJ_eats {a : Row} {e g : Nat} (h : ¬ wJ a e g = -1) : eats a e g := Decidable.byContradiction fun q => h (if_neg q)
theorem wJ_neats {a : Row} (hB : ∀ j, a j ≤ 30000) {e g : Nat} (h : wJ a e g = -1) : ¬ eats a e g := fun q => by
  rw [wJ, if_pos q] at h
  exact nj_ne_m1 (by have := wNt_le hB e g; omega) h
theorem nj_nn {n : Nat} (h : n < 2 ^ 31) : ¬ nI n < 0 := fun q => by
  have := (nj_lt (a := n) (b := 0) h (by omega)).mp q
  omega
theorem oJ_neg {o : Option Nat} {y : Int32} (hy : y = oJ o (-1)) (h : y < 0) (hb : ∀ g, o = some g → g < 5) : o = none := by
  cases o with
  | none => rfl
  | some g => exact absurd (hy ▸ h) (nj_nn (by have := hb g rfl; omega))
theorem oJ_pos {o : Option Nat} {y : Int32} (hy : y = oJ o (-1)) (h : ¬ y < 0) : ∃ g, o = some g ∧ y = nI g := by
  cases o with
  | none => exact absurd (by rw [hy]; decide) h
  | some g => exact ⟨g, rfl, hy⟩
/-! how much is wanted, as the class reckons it -/
def WX (x : Int32) (n : Nat) : Prop := (∀ k, k < 1000 → (x ≤ nI k ↔ n ≤ k)) ∧ ∀ k, k < n → x - nI k = nI (n - k)
theorem WX_n {n : Nat} (h : n < 1000) : WX (nI n) n := ⟨fun k hk => nj_le (by omega) (by omega), fun k hk => nj_minus (by omega)⟩
theorem WX_m {n : Nat} (h : n < 1000) : WX (nI n - 1) (n - 1) := by
  cases n with
  | zero =>
    refine ⟨fun k hk => ⟨fun _ => Nat.zero_le k, fun _ => ?_⟩, fun k hk => absurd hk (Nat.not_lt_zero k)⟩
    rw [Int32.le_iff_toInt_le, nj_toInt (by omega), show (nI 0 - 1).toInt = -1 by decide]; omega
  | succ n =>
    have e : nI (n + 1) - 1 = nI n := nj_minus (a := n + 1) (b := 1) (by omega)
    rw [e]
    exact WX_n (by omega)
theorem feed_exit {a a1 : Row} {e W : Nat} {l1 : List Nat} (hE : eatS e W a = ((eatS e (W - l1.length) a1).1, l1 ++ (eatS e (W - l1.length) a1).2)) (h : W ≤ l1.length ∨ nxC a1 e = none) : eatS e W a = (a1, l1) := by
  have h1 : eatS e (W - l1.length) a1 = (a1, []) := by
    rcases h with h | h
    · rw [show W - l1.length = 0 by omega]; rfl
    · exact eatS_none h _
  rw [hE, h1]; simp
theorem feed_step {a a1 : Row} {e W g m : Nat} {l1 : List Nat} (hE : eatS e W a = ((eatS e (W - l1.length) a1).1, l1 ++ (eatS e (W - l1.length) a1).2)) (hg : nxC a1 e = some g) (hm : m = min (W - l1.length) (inR a1 g)) : eatS e W a = ((eatS e (W - (l1 ++ List.replicate m g).length) (ua a1 (10 + g) (a1 (10 + g) - m))).1, (l1 ++ List.replicate m g) ++ (eatS e (W - (l1 ++ List.replicate m g).length) (ua a1 (10 + g) (a1 (10 + g) - m))).2) := by
  rw [hE, eatS_bulk m a1 (W - l1.length) hg (by omega) (by omega)]
  have e1 : W - (l1 ++ List.replicate m g).length = W - l1.length - m := by rw [List.length_append, List.length_replicate]; omega
  rw [e1, List.append_assoc]
theorem feed_av {a1 : Row} {e W g m t : Nat} {l1 : List Nat} (hg : nxC a1 e = some g) (hm : m = min (W - l1.length) (inR a1 g)) (hlt : l1.length < W) (hav : W ≤ l1.length ∨ avC a1 e 5 + t ≤ 5) : W ≤ (l1 ++ List.replicate m g).length ∨ avC (ua a1 (10 + g) (a1 (10 + g) - m)) e 5 + (t + 1) ≤ 5 := by
  obtain ⟨h5, hr, he⟩ := nxC_spec hg
  have hr' := (reachC_inR a1 g).mp hr
  rw [List.length_append, List.length_replicate]
  by_cases q : W - l1.length ≤ inR a1 g
  · exact Or.inl (by omega)
  · right
    have hi := inR_ua (a := a1) (m := m) h5 (by omega)
    have h := avC_less (e := e) (g := g) (SmE.ua (a := a1) (v := a1 (10 + g) - m) h5) ⟨hr, he⟩ (by rw [reachC_inR, hi g h5, if_pos rfl]; omega) (fun g' h' hne => by rw [reachC_inR, reachC_inR, hi g' h', if_neg hne]) 5 (Nat.le_refl 5)
    rw [if_pos h5] at h
    omega
/-! the tally's rows -/
theorem Tl.lack {σ : SG} {v : Int32} {ls : List Nat} {th la bo : Nat} (h : Tl σ v ls th la bo) (k : Nat) (p : Int32) : Tl (up (up σ 29 4 (σ 29 4 + nI k)) 29 0 (σ 29 0 - nI k * p)) (v - nI k * p) ls th (la + k) bo := by
  obtain ⟨h0, h1, h2, h3, h4, h5, h6, h7⟩ := h
  refine ⟨?_, ?_, ?_, ?_, ?_, ?_, ?_, fun i hi hl => ?_⟩ <;> simp only [up_at] <;> simp
  all_goals first | assumption | (rw [h0]) | (rw [h4, nj_plus]) | exact h7 i hi hl
theorem Tl.thrown {σ : SG} {v : Int32} {ls : List Nat} {th la bo : Nat} (h : Tl σ v ls th la bo) (k : Nat) (p : Int32) : Tl (up (up σ 29 3 (σ 29 3 + nI k)) 29 0 (σ 29 0 - nI k * p)) (v - nI k * p) ls (th + k) la bo := by
  obtain ⟨h0, h1, h2, h3, h4, h5, h6, h7⟩ := h
  refine ⟨?_, ?_, ?_, ?_, ?_, ?_, ?_, fun i hi hl => ?_⟩ <;> simp only [up_at] <;> simp
  all_goals first | assumption | (rw [h0]) | (rw [h3, nj_plus]) | exact h7 i hi hl
theorem Tl.bought {σ : SG} {v : Int32} {ls : List Nat} {th la bo : Nat} (h : Tl σ v ls th la bo) (k : Nat) (p : Int32) : Tl (up (up σ 29 5 (σ 29 5 + nI k)) 29 0 (σ 29 0 - nI k * p)) (v - nI k * p) ls th la (bo + k) := by
  obtain ⟨h0, h1, h2, h3, h4, h5, h6, h7⟩ := h
  refine ⟨?_, ?_, ?_, ?_, ?_, ?_, ?_, fun i hi hl => ?_⟩ <;> simp only [up_at] <;> simp
  all_goals first | assumption | (rw [h0]) | (rw [h5, nj_plus]) | exact h7 i hi hl
theorem fr_tal {σ : SG} {j : Nat} {x y : Int32} : Fr inT σ (up (up σ 29 j x) 29 0 y) := (Fr.up (S := inT) ⟨by decide, by decide⟩).tr (Fr.up (S := inT) ⟨by decide, by decide⟩) (fun _ h => h)
theorem getD_app_l {l l' : List Nat} {i : Nat} (h : i < l.length) : (l ++ l').getD i 0 = l.getD i 0 := by
  rw [List.getD_eq_getElem?_getD, List.getD_eq_getElem?_getD, List.getElem?_append_left h]
theorem getD_app_r {l l' : List Nat} {i : Nat} (h : l.length ≤ i) : (l ++ l').getD i 0 = l'.getD (i - l.length) 0 := by
  rw [List.getD_eq_getElem?_getD, List.getD_eq_getElem?_getD, List.getElem?_append_right h]
theorem addE_row {σ σ1 σ2 : SG} {ls : List Nat} {m g k : Nat} (h1 : σ1 = up σ 30 (min 20 (ls.length + k)) (nI g)) (h2 : σ2 = up σ1 28 2 (nI (min 20 (ls.length + k) + 1))) (hA : ∀ i, i < 20 → i < ls.length + k → σ 30 i = nI ((ls ++ List.replicate m g).getD i 0)) (hk : k < m) (hl : ls.length + k < 20) : ∀ i, i < 20 → i < ls.length + (k + 1) → σ2 30 i = nI ((ls ++ List.replicate m g).getD i 0) := by
  intro i hi h
  rw [h2, up_other (by decide), h1, up_at]
  by_cases q : i = ls.length + k
  · rw [if_pos ⟨rfl, by omega⟩]
    congr 1
    rw [getD_app_r (by omega), q, List.getD_eq_getElem?_getD, List.getElem?_replicate, if_pos (by omega)]
    rfl
  · rw [if_neg (by omega)]
    exact hA i hi (by omega)
theorem addE_fin {σ : SG} {v : Int32} {ls : List Nat} {th la bo m g k : Nat} (h : σ 29 0 = v ∧ σ 29 1 = nI (ls.length + m) ∧ σ 29 2 = nI ((ls ++ List.replicate m g).count 0) ∧ σ 29 3 = nI th ∧ σ 29 4 = nI la ∧ σ 29 5 = nI bo) (hC : σ 28 2 = nI (min 20 (ls.length + k))) (hA : ∀ i, i < 20 → i < ls.length + k → σ 30 i = nI ((ls ++ List.replicate m g).getD i 0)) (hk : k = m ∨ (20 ≤ ls.length + k ∧ k ≤ m)) : Tl σ v (ls ++ List.replicate m g) th la bo := by
  obtain ⟨h0, h1, h2, h3, h4, h5⟩ := h
  have hl : (ls ++ List.replicate m g).length = ls.length + m := by simp
  refine ⟨h0, by rw [hl]; exact h1, h2, h3, h4, h5, ?_, fun i hi h => ?_⟩
  · rw [hC, hl]; congr 1; omega
  · rw [hl] at h; exact hA i hi (by omega)

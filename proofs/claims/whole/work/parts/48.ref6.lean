/-! ===== the reference: what becomes of the letters, the ROW, the image ===== -/
theorem CM.let {σ τ : SG} {A : AS} (h : CM σ A) (hl : Al A < 96) {c : Nat} (hc : c ≤ 255) (ht : τ = up (up σ 46 (Al A) (nI c)) 38 15 (nI (Al A + 1))) : CM τ (sAl A (Al A + 1) (fun j => if j = Al A then c else Ac A j)) := by
  obtain ⟨⟨i1, i2, i3, i4, i5, i6, i7⟩, h1, h2, h3, h4, h5, h6, h7⟩ := h
  have e : ∀ q, q ≠ 38 → q ≠ 46 → τ q = σ q := fun q q1 q2 => by rw [ht, up_other q1, up_other q2]
  have e8 : ∀ j, j ≠ 15 → τ 38 j = σ 38 j := fun j hj => by rw [ht, up_elem hj, up_other (by decide)]
  refine ⟨⟨i1, i2, i3, by show Al A + 1 ≤ 96; omega, fun j hj => ?_, i6, i7⟩, h1.fr (e 40 (by decide) (by decide)), fun hk => (h2 hk).fr (e 42 (by decide) (by decide)), by rw [e8 4 (by decide)]; exact h3, ⟨by rw [ht, up_same], fun j hj => ?_⟩, by rw [e8 27 (by decide), e 53 (by decide) (by decide)]; exact h5, by rw [e 39 (by decide) (by decide)]; exact h6, ?_⟩
  · show (if j = Al A then c else Ac A j) ≤ 255
    have hj' : j < Al A + 1 := hj
    split
    · exact hc
    · exact i5 j (by omega)
  · have hj' : j < Al A + 1 := hj
    rw [ht, up_other (by decide), up_at]
    show _ = nI (if j = Al A then c else Ac A j)
    by_cases z : j = Al A
    · rw [if_pos ⟨rfl, z⟩, if_pos z]
    · rw [if_neg (fun y => z y.2), if_neg z]; exact h4.2 j (by omega)
  · unfold MT
    rw [e 47 (by decide) (by decide), e 48 (by decide) (by decide), e 49 (by decide) (by decide), e 50 (by decide) (by decide), e 52 (by decide) (by decide)]
    exact h7
theorem CM.rw1 {σ τ : SG} {A : AS} (h : CM σ A) (hl : An A < 20) {c : Nat} (hc : c ≤ 99) (ht : τ = up (up σ 53 (An A) (nI c)) 38 27 (nI (An A + 1))) : CM τ (sAn A (An A + 1) (fun j => if j = An A then c else As' A j)) := by
  obtain ⟨⟨i1, i2, i3, i4, i5, i6, i7⟩, h1, h2, h3, h4, h5, h6, h7⟩ := h
  have e : ∀ q, q ≠ 38 → q ≠ 53 → τ q = σ q := fun q q1 q2 => by rw [ht, up_other q1, up_other q2]
  have e8 : ∀ j, j ≠ 27 → τ 38 j = σ 38 j := fun j hj => by rw [ht, up_elem hj, up_other (by decide)]
  refine ⟨⟨i1, i2, i3, i4, i5, by show An A + 1 ≤ 20; omega, fun j hj => ?_⟩, h1.fr (e 40 (by decide) (by decide)), fun hk => (h2 hk).fr (e 42 (by decide) (by decide)), by rw [e8 4 (by decide)]; exact h3, by rw [e8 15 (by decide), e 46 (by decide) (by decide)]; exact h4, ⟨by rw [ht, up_same], fun j hj => ?_⟩, by rw [e 39 (by decide) (by decide)]; exact h6, ?_⟩
  · show (if j = An A then c else As' A j) ≤ 99
    have hj' : j < An A + 1 := hj
    split
    · exact hc
    · exact i7 j (by omega)
  · have hj' : j < An A + 1 := hj
    rw [ht, up_other (by decide), up_at]
    show _ = nI (if j = An A then c else As' A j)
    by_cases z : j = An A
    · rw [if_pos ⟨rfl, z⟩, if_pos z]
    · rw [if_neg (fun y => z y.2), if_neg z]; exact h5.2 j (by omega)
  · unfold MT
    rw [e 47 (by decide) (by decide), e 48 (by decide) (by decide), e 49 (by decide) (by decide), e 50 (by decide) (by decide), e 52 (by decide) (by decide)]
    exact h7
theorem CM.o38 {σ τ : SG} {A : AS} (h : CM σ A) (e : ∀ q, q ≠ 38 → τ q = σ q) : Mr τ 40 (Aa A) ∧ (At A = 1 → Mr τ 42 (Ak A)) ∧ (∀ j, j < Al A → τ 46 j = nI (Ac A j)) ∧ (∀ j, j < An A → τ 53 j = nI (As' A j)) ∧ (∀ k, 1 ≤ k → k ≤ 6 → τ 39 k = Af A k) ∧ MT τ := by
  obtain ⟨h0, h1, h2, h3, h4, h5, h6, h7⟩ := h
  refine ⟨h1.fr (e 40 (by decide)), fun hk => (h2 hk).fr (e 42 (by decide)), by rw [e 46 (by decide)]; exact h4.2, by rw [e 53 (by decide)]; exact h5.2, by rw [e 39 (by decide)]; exact h6, ?_⟩
  unfold MT
  rw [e 47 (by decide), e 48 (by decide), e 49 (by decide), e 50 (by decide), e 52 (by decide)]
  exact h7
theorem CM.rw0 {σ τ : SG} {A : AS} (h : CM σ A) (ht : τ = up σ 38 27 0) : CM τ (sAn A 0 (As' A)) := by
  obtain ⟨e1, e2, e3, e4, e5, e6⟩ := h.o38 (τ := τ) (fun q hq => by rw [ht]; exact up_other hq)
  obtain ⟨⟨i1, i2, i3, i4, i5, i6, i7⟩, h1, h2, h3, h4, h5, h6, h7⟩ := h
  exact ⟨⟨i1, i2, i3, i4, i5, Nat.zero_le _, fun j hj => absurd hj (Nat.not_lt_zero _)⟩, e1, e2, by rw [ht, up_elem (by decide)]; exact h3, ⟨by rw [ht, up_elem (by decide)]; exact h4.1, e3⟩, ⟨by rw [ht, up_same]; rfl, fun j hj => absurd hj (Nat.not_lt_zero _)⟩, e5, e6⟩
theorem CM.le0 {σ τ : SG} {A : AS} (h : CM σ A) (ht : τ = up σ 38 15 0) : CM τ (sAl A 0 (Ac A)) := by
  obtain ⟨e1, e2, e3, e4, e5, e6⟩ := h.o38 (τ := τ) (fun q hq => by rw [ht]; exact up_other hq)
  obtain ⟨⟨i1, i2, i3, i4, i5, i6, i7⟩, h1, h2, h3, h4, h5, h6, h7⟩ := h
  exact ⟨⟨i1, i2, i3, Nat.zero_le _, fun j hj => absurd hj (Nat.not_lt_zero _), i6, i7⟩, e1, e2, by rw [ht, up_elem (by decide)]; exact h3, ⟨by rw [ht, up_same]; rfl, fun j hj => absurd hj (Nat.not_lt_zero _)⟩, ⟨by rw [ht, up_elem (by decide)]; exact h5.1, e4⟩, e5, e6⟩
theorem CM.img {σ τ ρ : SG} {A : AS} (h : CM σ A) (ht : τ = up σ 38 4 1) (hM : Mr ρ 42 (Aa A)) (hF : Fr (fun k => k = 42) τ ρ) : CM ρ (sAk A) := by
  have f : ∀ q, q ≠ 42 → ρ q = τ q := fun q hq => hF q hq
  obtain ⟨e1, e2, e3, e4, e5, e6⟩ := h.o38 (τ := τ) (fun q hq => by rw [ht]; exact up_other hq)
  obtain ⟨⟨i1, i2, i3, i4, i5, i6, i7⟩, h1, h2, h3, h4, h5, h6, h7⟩ := h
  refine ⟨⟨i1, fun _ => i1, Nat.le_refl 1, i4, i5, i6, i7⟩, e1.fr (f 40 (by decide)), fun _ => hM, by rw [f 38 (by decide), ht, up_same]; rfl, ⟨by rw [f 38 (by decide), ht, up_elem (by decide)]; exact h4.1, by rw [f 46 (by decide)]; exact e3⟩, ⟨by rw [f 38 (by decide), ht, up_elem (by decide)]; exact h5.1, by rw [f 53 (by decide)]; exact e4⟩, by rw [f 39 (by decide)]; exact e5, ?_⟩
  unfold MT
  rw [f 47 (by decide), f 48 (by decide), f 49 (by decide), f 50 (by decide), f 52 (by decide)]
  exact e6
/-! JUDGED, looked for from behind -/
def JB (L : List Nat) (ns : Nat → Nat) (q n : Nat) (x : Int32) : Prop := (∃ i, q ≤ i ∧ i < n ∧ (L.length ≤ i ∨ L.getD i 0 ≠ ns i) ∧ (∀ j, q ≤ j → j < i → ¬ (L.length ≤ j ∨ L.getD j 0 ≠ ns j)) ∧ x = nI i) ∨ ((∀ j, q ≤ j → j < n → ¬ (L.length ≤ j ∨ L.getD j 0 ≠ ns j)) ∧ x = -9)
theorem JB.bad {L : List Nat} {ns : Nat → Nat} {g n : Nat} {y : Int32} (hg : g < n) (h : L.length ≤ g ∨ L.getD g 0 ≠ ns g) (hy : y = nI g) : JB L ns g n y := Or.inl ⟨g, Nat.le_refl g, hg, h, fun j h1 h2 => by omega, hy⟩
theorem JB.ok {L : List Nat} {ns : Nat → Nat} {g n : Nat} {x : Int32} (h : JB L ns (g + 1) n x) (hb : ¬ (L.length ≤ g ∨ L.getD g 0 ≠ ns g)) : JB L ns g n x := by
  have key : ∀ j m, g ≤ j → j < m → (∀ j, g + 1 ≤ j → j < m → ¬ (L.length ≤ j ∨ L.getD j 0 ≠ ns j)) → ¬ (L.length ≤ j ∨ L.getD j 0 ≠ ns j) := fun j m h1 h2 h3 => by
    by_cases z : j = g
    · rw [z]; exact hb
    · exact h3 j (by omega) h2
  rcases h with ⟨i, h1, h2, h3, h4, h5⟩ | ⟨h1, h2⟩
  · exact Or.inl ⟨i, by omega, h2, h3, fun j j1 j2 => key j i j1 j2 h4, h5⟩
  · exact Or.inr ⟨fun j j1 j2 => key j n j1 j2 h1, h2⟩
theorem JB.fin {L : List Nat} {ns : Nat → Nat} {n : Nat} {x : Int32} (h : JB L ns 0 n x) : x = jdS L ns n := by
  rcases h with ⟨i, h1, h2, h3, h4, h5⟩ | ⟨h1, h2⟩
  · rw [h5]; exact (jd_hit h2 h3 (fun j hj => h4 j (Nat.zero_le _) hj)).symm
  · rw [h2]; exact (jd_none (fun j hj => h1 j (Nat.zero_le _) hj)).symm
theorem i32_or0 (x : Int32) : x ||| 0 = x := by
  apply Int32.toBitVec_inj.mp
  simp
theorem huL_11 {a : Row} (hu9 : ∀ e, e < 4 → a (30 + 4 * e + 1) ≤ 9) (z : Int32) {e : Nat} (he : e < 4) : huL a z e ≤ 11 := by
  have := dN_lt (sdS z (e + 1)) (m := a (30 + 4 * e + 1) + 3) (by omega)
  have := hu9 e he
  unfold huL
  omega
theorem ltS_at (a : Row) (z : Int32) : ∀ d j, (j < 10 ∨ 15 ≤ j) → j ≠ 1 → (ltS a z d).1 j = a j := by
  intro d
  induction d with
  | zero => intro j _ _; rfl
  | succ d ih => intro j h1 h2; show dyR _ _ _ j = _; rw [dyR_at _ _ _ _ h1 h2]; exact ih j h1 h2
theorem ltS_bd {a : Row} (hB : Bd a) (h9 : a 1 ≤ 9999) (z : Int32) : ∀ d, d ≤ 900 → Bd (ltS a z d).1 ∧ (ltS a z d).1 1 = a 1 + d := by
  intro d
  induction d with
  | zero => intro _; exact ⟨hB, rfl⟩
  | succ d ih =>
    intro hd
    obtain ⟨i1, i2⟩ := ih (by omega)
    exact ⟨dyR_bd i1 (by omega), by show dyR _ _ _ 1 = _; rw [dyR_1, i2]; omega⟩

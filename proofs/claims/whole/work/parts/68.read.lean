/-! ===== the reference reads ===== -/
def FrP (σ τ : SG) : Prop := (∀ k, k ≠ 38 → k ≠ 51 → τ k = σ k) ∧ ∀ j, j ≠ 16 → j ≠ 17 → j ≠ 22 → τ 38 j = σ 38 j
theorem FrP.rf {σ : SG} : FrP σ σ := ⟨fun _ _ _ => rfl, fun _ _ _ _ => rfl⟩
theorem FrP.tr {σ τ ρ : SG} (h : FrP σ τ) (h' : FrP τ ρ) : FrP σ ρ := ⟨fun k a b => (h'.1 k a b).trans (h.1 k a b), fun j a b c => (h'.2 j a b c).trans (h.2 j a b c)⟩
theorem FrP.u51 {σ : SG} {j : Nat} {v : Int32} : FrP σ (up σ 51 j v) := ⟨fun k _ b => up_other b, fun j _ _ _ => by rw [up_other (by decide)]⟩
theorem FrP.u38 {σ : SG} {j : Nat} {v : Int32} (hj : j = 16 ∨ j = 17 ∨ j = 22) : FrP σ (up σ 38 j v) := ⟨fun k a _ => up_other a, fun j' a b c => up_elem (by omega)⟩
def Fr67 (σ τ : SG) : Prop := (∀ k, k ≠ 38 → τ k = σ k) ∧ ∀ j, j ≠ 16 → j ≠ 17 → τ 38 j = σ 38 j
theorem Fr67.P {σ τ : SG} (h : Fr67 σ τ) : FrP σ τ := ⟨fun k a _ => h.1 k a, fun j a b _ => h.2 j a b⟩
def fv (c : Nat → Nat) (q : Nat) : Nat → Nat
  | 0 => 0
  | d + 1 => 10 * fv c q d + c (q + d) - 48
/-- well so far, at a place and a state of the form of which P is said; or wrong -/
def PX (σ : SG) (c : Nat → Nat) (nl : Nat) (P : Nat → Nat → Nat → Prop) : Prop := (∃ q f t, P q f t ∧ σ 38 17 = nI 1 ∧ σ 38 16 = nI q ∧ RS c nl q f t) ∨ (σ 38 17 = nI 0 ∧ ∃ q, σ 38 16 = nI q ∧ Wrong c nl q)
theorem PX.st {σ : SG} {c : Nat → Nat} {nl : Nat} {P : Nat → Nat → Nat → Prop} (h : PX σ c nl P) : ∃ wl q, wl ≤ 1 ∧ σ 38 17 = nI wl ∧ q ≤ nl ∧ σ 38 16 = nI q := by
  rcases h with ⟨q, f, t, -, h1, h2, h3⟩ | ⟨h1, q, h2, h3⟩
  · exact ⟨1, q, Nat.le_refl 1, h1, h3.2, h2⟩
  · exact ⟨0, q, by omega, h1, h3.le, h2⟩
theorem PX.fr {σ τ : SG} {c : Nat → Nat} {nl : Nat} {P : Nat → Nat → Nat → Prop} (h : PX σ c nl P) (h6 : τ 38 16 = σ 38 16) (h7 : τ 38 17 = σ 38 17) : PX τ c nl P := by
  unfold PX
  rw [h6, h7]
  exact h
theorem PX.imp {σ : SG} {c : Nat → Nat} {nl : Nat} {P P' : Nat → Nat → Nat → Prop} (h : PX σ c nl P) (hi : ∀ q f t, RS c nl q f t → P q f t → P' q f t) : PX σ c nl P' := by
  rcases h with ⟨q, f, t, hp, h1, h2, h3⟩ | h
  · exact Or.inl ⟨q, f, t, hi q f t h3 hp, h1, h2, h3⟩
  · exact Or.inr h
/-- from a place that is known -/
theorem PX.at {σ : SG} {c : Nat → Nat} {nl : Nat} {P : Nat → Nat → Nat → Prop} (h : PX σ c nl P) {wl q : Nat} (hw9 : wl ≤ 1) (hw : σ 38 17 = nI wl) (hq9 : q ≤ nl) (hn : nl ≤ 96) (hq : σ 38 16 = nI q) : (wl = 1 ∧ ∃ f t, P q f t ∧ RS c nl q f t) ∨ (wl = 0 ∧ Wrong c nl q) := by
  rcases h with ⟨q', f, t, hp, h1, h2, h3⟩ | ⟨h1, q', h2, h3⟩
  · have e1 : wl = 1 := (nj_eq (by omega) (by omega)).mp (hw.symm.trans h1)
    have := h3.2
    have e2 : q = q' := (nj_eq (by omega) (by omega)).mp (hq.symm.trans h2)
    subst e2
    exact Or.inl ⟨e1, f, t, hp, h3⟩
  · have e1 : wl = 0 := (nj_eq (by omega) (by omega)).mp (hw.symm.trans h1)
    have := h3.le
    have e2 : q = q' := (nj_eq (by omega) (by omega)).mp (hq.symm.trans h2)
    subst e2
    exact Or.inr ⟨e1, h3⟩
/-- oneOf's answer -/
def OneP (c : Nat → Nat) (nl m : Nat) (g : Nat → Nat) (wl q : Nat) (r : Int32) (τ : SG) : Prop := (∃ k, k < m ∧ wl = 1 ∧ q < nl ∧ g k = c q ∧ r = nI k ∧ τ 38 16 = nI (q + 1) ∧ τ 38 17 = nI 1) ∨ ((wl = 0 ∨ ¬ q < nl ∨ ∀ k, k < m → ¬ g k = c q) ∧ r = nI 0 ∧ τ 38 16 = nI q ∧ τ 38 17 = nI 0)
/-- figures' answer -/
def FigP (c : Nat → Nat) (nl ls ms wl q : Nat) (r : Int32) (τ : SG) : Prop := ∃ d, d ≤ ms ∧ (wl = 0 → d = 0) ∧ (∀ j, j < d → q + j < nl ∧ dgt (c (q + j))) ∧ (wl = 1 → d = ms ∨ ¬ (q + d < nl ∧ dgt (c (q + d)))) ∧ r = nI (fv c q d) ∧ τ 38 16 = nI (q + d) ∧ τ 38 17 = nI (if wl = 1 ∧ ls ≤ d then 1 else 0)
theorem px_one {σ τ : SG} {c : Nat → Nat} {nl m wl q : Nat} {g : Nat → Nat} {P : Nat → Nat → Nat → Prop} {r : Int32} (h : PX σ c nl P) (hw9 : wl ≤ 1) (hw : σ 38 17 = nI wl) (hq9 : q ≤ nl) (hn : nl ≤ 96) (hq : σ 38 16 = nI q) (hO : OneP c nl m g wl q r τ)
    (hP : ∀ q f t, P q f t → t < txL f ∧ (∀ s, (∃ k, k < m ∧ g k = s) → stepF f t s = some (f, t + 1)) ∧ ∀ s, (∀ k, k < m → ¬ g k = s) → stepF f t s = none) :
    PX τ c nl (fun q f t => ∃ q0 t0, P q0 f t0 ∧ q = q0 + 1 ∧ t = t0 + 1 ∧ ∃ k, k < m ∧ g k = c q0 ∧ r = nI k) := by
  rcases h.at hw9 hw hq9 hn hq with ⟨e1, f, t, hp, hr⟩ | ⟨e1, hr⟩
  · obtain ⟨p1, p2, p3⟩ := hP q f t hp
    rcases hO with ⟨k, k1, k2, k3, k4, k5, k6, k7⟩ | ⟨k1, k2, k3, k4⟩
    · exact Or.inl ⟨q + 1, f, t + 1, ⟨q, t, hp, rfl, rfl, k, k1, k4, k5⟩, k7, k6, hr.ok k3 (p2 _ ⟨k, k1, k4⟩)⟩
    · refine Or.inr ⟨k4, q, k3, ?_⟩
      by_cases hql : q < nl
      · exact hr.bad hql (p3 _ ((k1.resolve_left (by omega)).resolve_left (fun z => z hql)))
      · exact hr.fin p1 hql
  · rcases hO with ⟨k, k1, k2, -⟩ | ⟨k1, k2, k3, k4⟩
    · omega
    · exact Or.inr ⟨k4, q, k3, hr⟩
theorem px_fig1 {σ τ : SG} {c : Nat → Nat} {nl wl q : Nat} {P : Nat → Nat → Nat → Prop} {r : Int32} (h : PX σ c nl P) (hw9 : wl ≤ 1) (hw : σ 38 17 = nI wl) (hq9 : q ≤ nl) (hn : nl ≤ 96) (hq : σ 38 16 = nI q) (hO : FigP c nl 1 1 wl q r τ)
    (hP : ∀ q f t, P q f t → t < txL f ∧ txN f t = 57) : PX τ c nl (fun q f t => ∃ q0 t0, P q0 f t0 ∧ q = q0 + 1 ∧ t = t0 + 1 ∧ dgt (c q0) ∧ r = nI (c q0 - 48)) := by
  obtain ⟨d, d1, d2, d3, d4, d5, d6, d7⟩ := hO
  rcases h.at hw9 hw hq9 hn hq with ⟨e1, f, t, hp, hr⟩ | ⟨e1, hr⟩
  · obtain ⟨p1, p2⟩ := hP q f t hp
    by_cases z : d = 1
    · subst z
      obtain ⟨g1, g2⟩ := d3 0 (by omega)
      have g1' : q < nl := g1
      have g2' : dgt (c q) := g2
      rw [if_pos ⟨e1, Nat.le_refl 1⟩] at d7
      have e5 : fv c q 1 = c q - 48 := by show 10 * 0 + c (q + 0) - 48 = c q - 48; rw [Nat.mul_zero, Nat.zero_add, Nat.add_zero]
      rw [e5] at d5
      exact Or.inl ⟨q + 1, f, t + 1, ⟨q, t, hp, rfl, rfl, g2', d5⟩, d7, d6, hr.ok g1' (by rw [st9 p1 p2, if_pos g2'])⟩
    · have z0 : d = 0 := by omega
      subst z0
      rw [if_neg (by omega)] at d7
      refine Or.inr ⟨d7, q, d6, ?_⟩
      have hno := (d4 e1).resolve_left (by omega)
      by_cases hql : q < nl
      · exact hr.bad hql (by rw [st9 p1 p2, if_neg (show ¬ dgt (c q) from fun y => hno ⟨hql, y⟩)])
      · exact hr.fin p1 hql
  · have z0 := d2 e1
    subst z0
    rw [if_neg (by omega)] at d7
    exact Or.inr ⟨d7, q, d6, hr⟩
theorem px_fig2 {σ τ : SG} {c : Nat → Nat} {nl wl q : Nat} {P : Nat → Nat → Nat → Prop} {r : Int32} (h : PX σ c nl P) (hw9 : wl ≤ 1) (hw : σ 38 17 = nI wl) (hq9 : q ≤ nl) (hn : nl ≤ 96) (hq : σ 38 16 = nI q) (hO : FigP c nl 2 2 wl q r τ)
    (hP : ∀ q f t, P q f t → t + 1 < txL f ∧ txN f t = 57 ∧ txN f (t + 1) = 57) : PX τ c nl (fun q f t => ∃ q0 t0, P q0 f t0 ∧ q = q0 + 2 ∧ t = t0 + 2 ∧ dgt (c q0) ∧ dgt (c (q0 + 1)) ∧ r = nI (two c q0)) := by
  obtain ⟨d, d1, d2, d3, d4, d5, d6, d7⟩ := hO
  rcases h.at hw9 hw hq9 hn hq with ⟨e1, f, t, hp, hr⟩ | ⟨e1, hr⟩
  · obtain ⟨p1, p2, p3⟩ := hP q f t hp
    have c3 : d = 0 ∨ d = 1 ∨ d = 2 := by omega
    rcases c3 with z | z | z
    · subst z
      rw [if_neg (by omega)] at d7
      refine Or.inr ⟨d7, q, d6, ?_⟩
      have hno := (d4 e1).resolve_left (by omega)
      by_cases hql : q < nl
      · exact hr.bad hql (by rw [st9 (by omega) p2, if_neg (show ¬ dgt (c q) from fun y => hno ⟨hql, y⟩)])
      · exact hr.fin (by omega) hql
    · subst z
      obtain ⟨g1, g2⟩ := d3 0 (by omega)
      have hr2 := hr.ok g1 (by rw [st9 (by omega) p2]; exact if_pos g2)
      rw [if_neg (by omega)] at d7
      refine Or.inr ⟨d7, q + 1, d6, ?_⟩
      have hno := (d4 e1).resolve_left (by omega)
      by_cases hql : q + 1 < nl
      · exact hr2.bad hql (by rw [st9 (by omega) p3, if_neg (fun y => hno ⟨hql, y⟩)])
      · exact hr2.fin (by omega) hql
    · subst z
      obtain ⟨g1, g2⟩ := d3 0 (by omega)
      obtain ⟨g3, g4⟩ := d3 1 (by omega)
      have g2' : dgt (c q) := g2
      have hr2 := hr.ok g1 (by rw [st9 (by omega) p2]; exact if_pos g2)
      have hr3 := hr2.ok g3 (by rw [st9 (by omega) p3]; exact if_pos g4)
      rw [if_pos ⟨e1, Nat.le_refl 2⟩] at d7
      have e5 : fv c q 2 = two c q := by
        show 10 * (10 * 0 + c (q + 0) - 48) + c (q + 1) - 48 = 10 * (c q - 48) + (c (q + 1) - 48)
        rw [Nat.add_zero]
        omega
      rw [e5] at d5
      exact Or.inl ⟨q + 2, f, t + 2, ⟨q, t, hp, rfl, rfl, g2', g4, d5⟩, d7, d6, hr3⟩
  · have z0 := d2 e1
    subst z0
    rw [if_neg (by omega)] at d7
    exact Or.inr ⟨d7, q, d6, hr⟩
theorem px_fig12 {σ τ : SG} {c : Nat → Nat} {nl wl q : Nat} {P : Nat → Nat → Nat → Prop} {r : Int32} (h : PX σ c nl P) (hw9 : wl ≤ 1) (hw : σ 38 17 = nI wl) (hq9 : q ≤ nl) (hn : nl ≤ 96) (hq : σ 38 16 = nI q) (hO : FigP c nl 1 2 wl q r τ)
    (hP : ∀ q f t, P q f t → f = 1 ∧ t = 3) : PX τ c nl (fun q f t => ∃ q0, P q0 1 3 ∧ f = 1 ∧ dgt (c q0) ∧ ((q = q0 + 1 ∧ t = 4 ∧ ¬ (q < nl ∧ dgt (c q)) ∧ r = nI (c q0 - 48)) ∨ (q = q0 + 2 ∧ t = 5 ∧ dgt (c (q0 + 1)) ∧ r = nI (two c q0)))) := by
  obtain ⟨d, d1, d2, d3, d4, d5, d6, d7⟩ := hO
  rcases h.at hw9 hw hq9 hn hq with ⟨e1, f, t, hp, hr⟩ | ⟨e1, hr⟩
  · obtain ⟨rfl, rfl⟩ := hP q f t hp
    have c3 : d = 0 ∨ d = 1 ∨ d = 2 := by omega
    rcases c3 with z | z | z
    · subst z
      rw [if_neg (by omega)] at d7
      refine Or.inr ⟨d7, q, d6, ?_⟩
      have hno := (d4 e1).resolve_left (by omega)
      by_cases hql : q < nl
      · exact hr.bad hql (by rw [st9 (by decide) (by decide), if_neg (show ¬ dgt (c q) from fun y => hno ⟨hql, y⟩)])
      · exact hr.fin (by decide) hql
    · subst z
      obtain ⟨g1, g2⟩ := d3 0 (by omega)
      have g2' : dgt (c q) := g2
      have hr2 := hr.ok g1 (by rw [st9 (by decide) (by decide)]; exact if_pos g2)
      rw [if_pos ⟨e1, Nat.le_refl 1⟩] at d7
      have e5 : fv c q 1 = c q - 48 := by show 10 * 0 + c (q + 0) - 48 = c q - 48; rw [Nat.mul_zero, Nat.zero_add, Nat.add_zero]
      rw [e5] at d5
      exact Or.inl ⟨q + 1, 1, 4, ⟨q, hp, rfl, g2', Or.inl ⟨rfl, rfl, (d4 e1).resolve_left (by omega), d5⟩⟩, d7, d6, hr2⟩
    · subst z
      obtain ⟨g1, g2⟩ := d3 0 (by omega)
      obtain ⟨g3, g4⟩ := d3 1 (by omega)
      have g2' : dgt (c q) := g2
      have hr2 := hr.ok g1 (by rw [st9 (by decide) (by decide)]; exact if_pos g2)
      have hr3 := hr2.ok g3 (by rw [st63, if_pos g4])
      rw [if_pos ⟨e1, by omega⟩] at d7
      have e5 : fv c q 2 = two c q := by
        show 10 * (10 * 0 + c (q + 0) - 48) + c (q + 1) - 48 = 10 * (c q - 48) + (c (q + 1) - 48)
        rw [Nat.add_zero]
        omega
      rw [e5] at d5
      exact Or.inl ⟨q + 2, 1, 5, ⟨q, hp, rfl, g2', Or.inr ⟨rfl, rfl, g4, d5⟩⟩, d7, d6, hr3⟩
  · have z0 := d2 e1
    subst z0
    rw [if_neg (by omega)] at d7
    exact Or.inr ⟨d7, q, d6, hr⟩
/-! the lists of signs -/
def gBeg (k : Nat) : Nat := [101, 115, 119, 98, 104, 99, 100].getD k 0
def gEat (k : Nat) : Nat := [101, 102, 99, 112, 104, 97].getD k 0
def gHou (k : Nat) : Nat := [111, 110, 109, 116, 98, 115].getD k 0
def gOpn (k : Nat) : Nat := [120, 111].getD k 0
theorem gEat_tx : ∀ k, k < 6 → gEat k = txN 6 k := by
  have key : ∀ i : Fin 6, gEat i.val = txN 6 i.val := by decide
  exact fun k hk => key ⟨k, hk⟩
theorem gHou_tx : ∀ k, k < 6 → gHou k = txN 7 k := by
  have key : ∀ i : Fin 6, gHou i.val = txN 7 i.val := by decide
  exact fun k hk => key ⟨k, hk⟩
theorem txF_of {i s : Nat} (h : ∃ k, k < txL i ∧ txN i k = s) : (txF i s).isSome = true := by
  obtain ⟨k, hk, he⟩ := h
  unfold txF
  rw [List.find?_isSome]
  exact ⟨k, List.mem_range.mpr hk, decide_eq_true he⟩
theorem txF_no {i s : Nat} (h : ∀ k, k < txL i → ¬ txN i k = s) : ¬ (txF i s).isSome = true := by
  intro z
  obtain ⟨k, hk⟩ := Option.isSome_iff_exists.mp z
  exact h k (txF_lt hk).1 (txF_lt hk).2
/-- the signs are all different -/
theorem gEat_uq {k s : Nat} (hk : k < 6) (h : gEat k = s) : txF 6 s = some k := by
  subst h
  have key : ∀ i : Fin 6, txF 6 (gEat i.val) = some i.val := by decide
  exact key ⟨k, hk⟩
theorem gHou_uq {k s : Nat} (hk : k < 6) (h : gHou k = s) : txF 7 s = some k := by
  subst h
  have key : ∀ i : Fin 6, txF 7 (gHou i.val) = some i.val := by decide
  exact key ⟨k, hk⟩
/-- what the reference has read -/
def FD (σ : SG) (c : Nat → Nat) (p : Nat) : Prop :=
  (c p = 101 → σ 38 22 = nI 0 ∧ σ 51 0 = nI (kiE c p) ∧ σ 51 1 = nI (c (p + 2) - 48) ∧ σ 51 2 = nI (c (p + 3) - 48) ∧ σ 51 3 = nI (chn c p))
  ∧ (c p = 115 → σ 38 22 = nI 1 ∧ σ 51 0 = nI (c (p + 1) - 48) ∧ σ 51 1 = nI (two c (p + 2)))
  ∧ (c p = 119 → σ 38 22 = nI 2 ∧ ∀ k, k < 7 → σ 51 k = nI (if c (p + 1 + k) = 111 then 1 else 0))
  ∧ (c p = 98 → σ 38 22 = nI 3 ∧ σ 51 0 = nI (two c (p + 1)) ∧ σ 51 1 = nI (c (p + 3) - 48))
  ∧ (c p = 104 → σ 38 22 = nI 4 ∧ σ 51 0 = nI (kiH c p))
  ∧ (c p = 99 → σ 38 22 = nI 5 ∧ ∀ k, k < 3 → σ 51 k = nI (c (p + 1 + k) - 48))
  ∧ (c p = 100 → σ 38 22 = nI 6)
theorem FD.fr {σ τ : SG} {c : Nat → Nat} {p : Nat} (h : FD σ c p) (h1 : τ 38 22 = σ 38 22) (h2 : τ 51 = σ 51) : FD τ c p := by
  unfold FD
  rw [h1, h2]
  exact h
/-! ===== an array made ===== -/

def wX (w : WD) (q : Nat) : WD := (w.1, w.2.1, 55, (fun k => if k = 54 then q else wA w k), w.2.2.2.2)
theorem wX_s (w : WD) (q : Nat) : ∀ k, k < 54 → k ≠ 5 → k ≠ 14 → k ≠ 23 → shp (wX w q) k = shp w k := by
  intro k hk h5 h14 h23
  match k, hk, h5, h14, h23 with
  | 0, _, _, _, _ => rfl
  | 1, _, _, _, _ => rfl
  | 2, _, _, _, _ => rfl
  | 3, _, _, _, _ => rfl
  | 4, _, _, _, _ => rfl
  | 5, _, _, _, _ => exact absurd rfl (by assumption)
  | 6, _, _, _, _ => rfl
  | 7, _, _, _, _ => rfl
  | 8, _, _, _, _ => rfl
  | 9, _, _, _, _ => rfl
  | 10, _, _, _, _ => rfl
  | 11, _, _, _, _ => rfl
  | 12, _, _, _, _ => rfl
  | 13, _, _, _, _ => rfl
  | 14, _, _, _, _ => exact absurd rfl (by assumption)
  | 15, _, _, _, _ => rfl
  | 16, _, _, _, _ => rfl
  | 17, _, _, _, _ => rfl
  | 18, _, _, _, _ => rfl
  | 19, _, _, _, _ => rfl
  | 20, _, _, _, _ => rfl
  | 21, _, _, _, _ => rfl
  | 22, _, _, _, _ => rfl
  | 23, _, _, _, _ => exact absurd rfl (by assumption)
  | 24, _, _, _, _ => rfl
  | 25, _, _, _, _ => rfl
  | 26, _, _, _, _ => rfl
  | 27, _, _, _, _ => rfl
  | 28, _, _, _, _ => rfl
  | 29, _, _, _, _ => rfl
  | 30, _, _, _, _ => rfl
  | 31, _, _, _, _ => rfl
  | 32, _, _, _, _ => rfl
  | 33, _, _, _, _ => rfl
  | 34, _, _, _, _ => rfl
  | 35, _, _, _, _ => rfl
  | 36, _, _, _, _ => rfl
  | 37, _, _, _, _ => rfl
  | 38, _, _, _, _ => rfl
  | 39, _, _, _, _ => rfl
  | 40, _, _, _, _ => rfl
  | 41, _, _, _, _ => rfl
  | 42, _, _, _, _ => rfl
  | 43, _, _, _, _ => rfl
  | 44, _, _, _, _ => rfl
  | 45, _, _, _, _ => rfl
  | 46, _, _, _, _ => rfl
  | 47, _, _, _, _ => rfl
  | 48, _, _, _, _ => rfl
  | 49, _, _, _, _ => rfl
  | 50, _, _, _, _ => rfl
  | 51, _, _, _, _ => rfl
  | 52, _, _, _, _ => rfl
  | 53, _, _, _, _ => rfl
  | k + 54, h, _, _, _ => exact absurd h (by omega)
theorem wX_a (w : WD) (q : Nat) {k : Nat} (hk : k < 54) : wA (wX w q) k = wA w k := if_neg (by omega)
theorem wX_54 (w : WD) (q : Nat) : wA (wX w q) 54 = q := by
  show (if (54 : Nat) = 54 then q else wA w 54) = q
  exact if_pos rfl
theorem pw_P {D : va_G} {cl : List vw_C} {w : WD} {σ : SG} {H : Heap} : va_P D cl (pw w σ) H ↔ ∀ k, k < wN w → va_at D cl (wA w k, shp w k (σ k)) H := by
  constructor
  · intro h k hk; exact h k _ (pw_at hk)
  · intro h k q hq
    obtain ⟨hk, rfl⟩ := pw_get hq
    exact h k hk
theorem vp_4 (cI : ClassId) {f g : Nat → Option Nat} (h : ∀ i, i < 4 → f i = g i) : vp_cell cI (4, .inr (.inr (.inr (.inr f)))) = vp_cell cI (4, .inr (.inr (.inr (.inr g)))) := by
  show arrV cI 4 (fun j => va_rf (f j)) = arrV cI 4 (fun j => va_rf (g j))
  unfold arrV
  congr 1
  congr 1
  funext j
  exact congrArg va_rf (h j.val j.isLt)
theorem wX_o (w : WD) (q : Nat) {D : va_G} {cl : List vw_C} {a b : Nat} {H : Heap} (hb : b + 8 < 54) : va_at D cl (a, aO (wX w q) b) H ↔ va_at D cl (a, aO w b) H := by
  have e : vp_cell (wO w) (4, .inr (.inr (.inr (.inr (fun i => some (wA (wX w q) (b + 5 + i))))))) = vp_cell (wO w) (4, .inr (.inr (.inr (.inr (fun i => some (wA w (b + 5 + i))))))) := vp_4 _ (fun i hi => by rw [wX_a w q (by omega)])
  show H[a]? = some (vp_cell (wO w) _) ↔ H[a]? = some (vp_cell (wO w) _)
  rw [e]
theorem wX_v (w : WD) (q : Nat) {D : va_G} {cl : List vw_C} {H : Heap} {k : Nat} (hk : k < 54) (g : Nat → Int32) : va_at D cl (wA (wX w q) k, shp (wX w q) k g) H ↔ va_at D cl (wA w k, shp w k g) H := by
  rw [wX_a w q hk]
  by_cases h5 : k = 5
  · subst h5; exact wX_o w q (by decide)
  · by_cases h14 : k = 14
    · subst h14; exact wX_o w q (by decide)
    · by_cases h23 : k = 23
      · subst h23; exact wX_o w q (by decide)
      · rw [wX_s w q k hk h5 h14 h23]
theorem wX_P (w : WD) (q : Nat) {D : va_G} {cl : List vw_C} {H : Heap} (σ : SG) (h54 : wN w = 54) : va_P D cl (pw (wX w q) σ) H ↔ va_P D cl (pw w σ) H ∧ H[q]? = some (vp_cell (wI w) (46, .inl (σ 54))) := by
  rw [pw_P, pw_P, h54]
  have ea : wA (wX w q) 54 = q := wX_54 w q
  constructor
  · intro h
    refine ⟨fun k hk => (wX_v w q hk _).mp (h k (by show k < 55; omega)), ?_⟩
    have h2 := h 54 (by show 54 < 55; decide)
    rw [ea] at h2
    exact h2
  · rintro ⟨h1, h2⟩ k hk
    have hk' : k < 55 := hk
    by_cases z : k < 54
    · exact (wX_v w q z _).mpr (h1 k z)
    · have z2 : k = 54 := by omega
      subst z2
      rw [ea]
      exact h2
section GR
variable {l : Launch} {w : WD} {K : KT} {cc : ByteArray} {own : String} {nl d mc ms pc : Nat} {lv : List (Nat × Value)} {st : List Value} {σ : SG}
theorem g_widen {K' : KT} (h1 : K'.1 = K.1) (h2 : K'.2.2 = K.2.2) (h3 : K'.2.1.1 = K.2.1.1) (h4 : K.2.1.2.1 ≤ K'.2.1.2.1) (h5 : K.2.1.2.2 ≤ K'.2.1.2.2) (k : G l w K' pc lv st σ) : G l w K pc lv st σ := by
  obtain ⟨⟨p, e, R, s, m, args, below, meth, c⟩, ⟨nL, cells, slots⟩, Q, A⟩ := K
  obtain ⟨⟨p', e', R', s', m', args', below', meth', c'⟩, ⟨nL', cells', slots'⟩, Q', A'⟩ := K'
  cases h1; cases h2; cases h3
  intro H ls locs hl hP hS
  exact W.widen h4 h5 (k H ls locs hl hP hS)
theorem OK.widen {K' : KT} (C : OK l w K cc nl own d mc ms) (h1 : K'.1 = K.1) (h2 : K'.2.2 = K.2.2) (h3 : K'.2.1 = (K.2.1.1, mc, ms)) : OK l w K' cc nl own d mc ms := by
  obtain ⟨⟨p, e, R, s, m, args, below, meth, c⟩, ⟨nL, cells, slots⟩, Q, A⟩ := K
  obtain ⟨⟨p', e', R', s', m', args', below', meth', c'⟩, ⟨nL', cells', slots'⟩, Q', A'⟩ := K'
  cases h1; cases h2; cases h3
  obtain ⟨a, b, c, dd, e, f, g, h, i, j⟩ := C
  exact ⟨a, b, c, dd, e, f, g, h, Nat.le_refl _, Nat.le_refl _⟩
theorem g_new54 {ty : FieldType} {post : Int32 → SG → Prop} {x : Int32} (C : OK l w K cc nl own d 1 46) (h0 : K.2.1.2 = (0, 0)) (h54 : wN w = 54) (hr : ∀ K' : KT, K'.1 = K.1 → K'.2.2 = K.2.2 → K'.2.1.2 = (1, 46) → RI w K' ty post) (harr : Cond.arrayClass .int ∈ gt) (hd : decode cc pc = .ok (.newarray .int, 2))
    (k : ∀ (w' : WD) (K' : KT), 54 ≤ wN w' → 54 < wN w' → OK l w' K' cc nl own d 1 46 → RI w' K' ty post → G l w' K' (pc + 2) [(0, .ref (wA w' 38)), (1, .int x)] [.ref (wA w' 54)] (upc σ 54 (fun _ => 0))) : G l w K pc [(0, .ref (wA w 38)), (1, .int x)] [.int 46] σ := by
  obtain ⟨⟨p, e, R, s, m, args, below, meth, c⟩, ⟨nL, cells, slots⟩, Q, A⟩ := K
  cases h0
  obtain ⟨hr1, hr2⟩ := hr ((p, e, R, s, m, args, below, meth, c), (nL, 1, 46), Q, A) rfl rfl rfl
  obtain ⟨⟨hx, hb, hml, hown, hts⟩, hK, hj, hA, hST, hlk, hR, hn, hmc, hms⟩ := C
  intro H ls locs hl hP hS
  refine va_newa (atype := .int) (a0 := (46, .inl (fun _ => 0))) (N' := 46) hx hb (hts _ harr) rfl hK hP hj.D hS hA (fun cA => rfl) (by decide) (by decide) (by decide) (by subst hR; show 0 + 1 ≤ 1; decide) (by subst hR; show 0 + 46 ≤ 46; decide) hd (fun q cA H1 hK1 hP1 hD1 hS1 => ?_)
  have hcA : cA = wI w := by
    have h1 : s.vm.findClass ("[" ++ (FieldType.int).toString) = some (wI w) := (hK1.2 0 (wI w, .int) rfl).2
    have h2 : s.vm.findClass ("[" ++ (FieldType.int).toString) = some cA := (hK1.2 3 (cA, .int) rfl).2
    exact Option.some.inj (h2.symm.trans h1)
  subst hcA
  have hPn : va_P (wD (wX w q)) vwCl (pw (wX w q) (upc σ 54 (fun _ => 0))) H1 := by
    refine (wX_P w q _ h54).mpr ⟨?_, ?_⟩
    · have e : pw w (upc σ 54 (fun _ => 0)) = pw w σ := by
        unfold pw
        apply List.map_congr_left
        intro k hk
        have hk' := List.mem_range.mp hk
        rw [upc_other (by omega)]
      rw [e]
      exact fun k x hx => hP1 k x (by rw [List.getElem?_append_left (List.getElem?_eq_some_iff.mp hx).1]; exact hx)
    · rw [upc_same]
      exact hP1 (pw w σ).length (q, .inl (wI w, (46, .inl (fun _ => 0)))) (by rw [List.getElem?_append_right (Nat.le_refl _), Nat.sub_self]; rfl)
  have hadd : ∀ k, k < 55 → ∃ e, (pw w σ ++ [(q, .inl (wI w, (46, .inl (fun _ => 0))))])[k]? = some (wA (wX w q) k, e) := by
    intro k hk
    by_cases z : k < 54
    · exact ⟨_, by rw [List.getElem?_append_left (by rw [pw_len, h54]; exact z), pw_at (by rw [h54]; exact z), wX_a w q z]⟩
    · have z2 : k = 54 := by omega
      subst z2
      exact ⟨_, by rw [List.getElem?_append_right (by rw [pw_len, h54]; exact Nat.le_refl _), pw_len, h54, wX_54]; rfl⟩
  have hjn : pj (wX w q) A := by
    refine ⟨fun i j hi hj h => ?_, fun k hk => ?_⟩
    · obtain ⟨e1, h1⟩ := hadd i hi
      obtain ⟨e2, h2⟩ := hadd j hj
      exact hD1.1 i j _ _ h1 h2 h
    · obtain ⟨e1, h1⟩ := hadd k hk
      exact hD1.2 k _ h1
  have hl2 : lv_has ls nL [(0, .ref (wA (wX w q) 38)), (1, .int x)] := by rw [wX_a w q (by decide)]; exact hl
  have hadr : q = wA (wX w q) 54 := (wX_54 w q).symm
  rw [hadr]
  have kk := k (wX w q) ((p, e, R, s, m, args, below, meth, c), (nL, 1, 46), MQ below (va_Qi post (Pout (wX w q)) A) args s 1 46 A, A) (by show 54 ≤ 55; decide) (by show 54 < 55; decide) ⟨⟨hx, hb, hml, hown, hts⟩, hK, hjn, hA, hST, hlk, hR, hn, Nat.le_refl _, Nat.le_refl _⟩ ⟨hr1, rfl⟩ H1 ls locs hl2 hPn hS1
  intro T hT X
  obtain ⟨t, a1, b1⟩ := kk T hT X
  refine ⟨t, a1, ?_⟩
  subst hr2
  obtain ⟨o, b2, b3, ⟨⟨r, u, c1, c2, c3⟩, b5⟩, b6⟩ := b1
  refine ⟨o, b2, b3, ⟨⟨r, u, c1, c2, ?_⟩, b5⟩, b6⟩
  exact ((wX_P w q u h54).mp c3).1
theorem g_callVI1 {y : MethodName} {bytes : ByteArray} {maxL n idx ci d' k0 mc' ms' : Nat} {ret : Option FieldType} {As rest stk fs : List Value} {post : Int32 → SG → Prop} (C : OK l w K cc nl own d mc ms) (h0 : K.2.1.2 = (0, 0)) (hm : MV own idx y bytes maxL ret n ci) (ct : CtI l w y bytes maxL ret d' mc' ms' (.ref (wA w k0) :: As) σ post) (h1 : mc' ≤ mc) (h2 : ms' ≤ ms) (hk : k0 < wN w) (he : shp w k0 (σ k0) = .inr (ci, fs)) (hAs : As.length = n) (hd' : d' + 1 ≤ d) (hst : stk = As.reverse ++ .ref (wA w k0) :: rest) (hcat : (rest.map fun v => v.category).sum ≤ 8) (hd : decode cc pc = .ok (.invokevirtual idx, 3)) (k : ∀ (K' : KT), K'.1 = K.1 → K'.2.2 = K.2.2 → K'.2.1 = (K.2.1.1, mc', ms') → ∀ (r : Int32) (τ : SG), post r τ → G l w K' (pc + 3) lv (.int r :: rest) τ) : G l w K pc lv stk σ := by
  obtain ⟨⟨p, e, R, s, m, args, below, meth, c⟩, ⟨nL, cells, slots⟩, Q, A⟩ := K
  cases h0
  obtain ⟨⟨hx, hb, hml, hown, hts⟩, hK, hj, hA, hST, hlk, hR, hn, hmc, hms⟩ := C
  subst hst
  intro H ls locs hl hP hS
  have hT := hm.2.2.2.2.2.2.2
  obtain ⟨T, Nf, hT⟩ := hT
  have hF := pA_sub hj hA hS
  refine va_calli (A1 := pA w H.size) (va_runV (As := As) (rest := rest) (C := y.cls) (b := wA w k0) ⟨hx, hb, hml, hown, hts⟩ (ct H.size) (mv_w hm hts hR hd') ⟨Pin.blind, va_recv hK hP hT (pw_a hk he), fun U hU hW => ⟨rfl, Pin.of hK hj hA hST hP hS hU hW⟩⟩ rfl hAs hl.1 rfl (lv_room hcat) hd ⟨?_, ?_⟩) hS (fun q _ h => hF q h) hF (fun r τ t H1 locs1 ht hvm hw hB hz1 hk1 hS1 => by subst ht; rw [Nat.zero_add, Nat.zero_add]; exact k ((p, e, R, s, m, args, below, meth, c), (nL, mc', ms'), Q, A) rfl rfl rfl r τ hw _ ls locs1 hl hB hS1)
  · subst hR; show 0 + mc' ≤ mc; omega
  · subst hR; show 0 + ms' ≤ ms; omega
end GR

theorem ar_int : Cond.arrayClass .int ∈ gt := gt_in (w := Cond.arrayClass .int) 100 (by decide +kernel) (by decide +kernel)

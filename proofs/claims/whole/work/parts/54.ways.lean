/-! ===== the most of all ways: told forward as the class does, told backward as the reference does. An edge: item, state before, state behind, worth ===== -/
abbrev ET : Type := Nat → Nat → Nat → Nat → Prop
def Rw (E : ET) : Nat → Nat → Nat → Prop
  | 0, s, v => s = 0 ∧ v = 0
  | i + 1, s, v => Rw E i s v ∨ ∃ s0 u w, E i s0 s w ∧ Rw E i s0 u ∧ v = u + w
def Tw (E : ET) : Nat → Nat → Nat → Nat → Prop
  | 0, _, _, v => v = 0
  | q + 1, i, s, v => Tw E q (i + 1) s v ∨ ∃ s1 u w, E i s s1 w ∧ Tw E q (i + 1) s1 u ∧ v = u + w
theorem way_dual (E : ET) : ∀ q i v, (∃ s u t, Rw E i s u ∧ Tw E q i s t ∧ v = u + t) ↔ ∃ s, Rw E (i + q) s v := by
  intro q
  induction q with
  | zero =>
    intro i v
    constructor
    · rintro ⟨s, u, t, h1, h2, h3⟩
      have h2' : t = 0 := h2
      subst h2'
      exact ⟨s, by rw [h3]; exact h1⟩
    · rintro ⟨s, h⟩
      exact ⟨s, v, 0, h, rfl, rfl⟩
  | succ q ih =>
    intro i v
    have e : i + (q + 1) = (i + 1) + q := by omega
    rw [e, ← ih (i + 1) v]
    constructor
    · rintro ⟨s, u, t, h1, h2, h3⟩
      rcases h2 with h2 | ⟨s1, u1, w, h4, h5, h6⟩
      · exact ⟨s, u, t, Or.inl h1, h2, h3⟩
      · exact ⟨s1, u + w, u1, Or.inr ⟨s, u, w, h4, h1, rfl⟩, h5, by omega⟩
    · rintro ⟨s, u, t, h1, h2, h3⟩
      rcases h1 with h1 | ⟨s0, u1, w, h4, h5, h6⟩
      · exact ⟨s, u, t, h1, Or.inl h2, h3⟩
      · exact ⟨s0, u1, t + w, h5, Or.inr ⟨s, t, w, h4, h2, rfl⟩, by omega⟩
theorem way_all (E : ET) (N v : Nat) : Tw E N 0 0 v ↔ ∃ s, Rw E N s v := by
  have h := way_dual E N 0 v
  rw [Nat.zero_add] at h
  rw [← h]
  constructor
  · intro k; exact ⟨0, 0, v, ⟨rfl, rfl⟩, k, by omega⟩
  · rintro ⟨s, u, t, ⟨h1, h2⟩, h3, h4⟩
    subst h1; subst h2
    rw [h4, Nat.zero_add]; exact h3
def Mx (P : Nat → Prop) (m : Nat) : Prop := P m ∧ ∀ v, P v → v ≤ m
theorem Mx.eq {P : Nat → Prop} {m n : Nat} (h : Mx P m) (h' : Mx P n) : m = n := Nat.le_antisymm (h'.2 m h.1) (h.2 n h'.1)
theorem Mx.iff {P Q : Nat → Prop} {m : Nat} (h : Mx P m) (he : ∀ v, Q v ↔ P v) : Mx Q m := ⟨(he m).mpr h.1, fun v hv => h.2 v ((he v).mp hv)⟩
theorem Mx.or {P Q : Nat → Prop} {m n : Nat} (h : Mx P m) (h' : Mx Q n) : Mx (fun v => P v ∨ Q v) (max m n) := by
  refine ⟨?_, fun v hv => ?_⟩
  · rcases Nat.le_total m n with z | z
    · rw [Nat.max_eq_right z]; exact Or.inr h'.1
    · rw [Nat.max_eq_left z]; exact Or.inl h.1
  · rcases hv with hv | hv
    · exact Nat.le_trans (h.2 v hv) (Nat.le_max_left _ _)
    · exact Nat.le_trans (h'.2 v hv) (Nat.le_max_right _ _)
noncomputable def mxOf (P : Nat → Prop) : Nat := @dite Nat (∃ m, Mx P m) (Classical.propDecidable _) (fun h => h.choose) (fun _ => 0)
theorem mxOf_eq {P : Nat → Prop} {m : Nat} (h : Mx P m) : mxOf P = m := by
  unfold mxOf
  have hx : ∃ m, Mx P m := ⟨m, h⟩
  rw [dif_pos hx]
  exact (Classical.choose_spec hx).eq h
/-- an int that holds the most, -1 if there is none -/
def MXI (P : Nat → Prop) (x : Int32) : Prop := (x = -1 ∧ ∀ v, ¬ P v) ∨ ∃ v, x = nI v ∧ Mx P v
theorem MXI.iff {P Q : Nat → Prop} {x : Int32} (h : MXI P x) (he : ∀ v, Q v ↔ P v) : MXI Q x := by
  rcases h with ⟨h1, h2⟩ | ⟨v, h1, h2⟩
  · exact Or.inl ⟨h1, fun v hv => h2 v ((he v).mp hv)⟩
  · exact Or.inr ⟨v, h1, h2.iff he⟩
theorem MXI.some {P : Nat → Prop} {x : Int32} (h : MXI P x) (hx : ¬ x = -1) : ∃ v, x = nI v ∧ Mx P v := h.resolve_left (fun z => hx z.1)
theorem MXI.none {P : Nat → Prop} {x : Int32} (h : MXI P x) (hb : ∀ v, P v → v ≤ 1000) (hx : x = -1) : ∀ v, ¬ P v := by
  rcases h with ⟨h1, h2⟩ | ⟨v, h1, h2⟩
  · exact h2
  · have h3 := hb v h2.1
    exact absurd (h1.symm.trans hx) (nj_ne_m1 (by omega))
theorem MXI.up {P Q R : Nat → Prop} {x : Int32} {c : Nat} (h : MXI P x) (hb : ∀ v, P v → v ≤ 1000) (hc9 : c ≤ 2000) (hQ : Mx Q c) (he : ∀ v, R v ↔ P v ∨ Q v) (hlt : ¬ nI c ≤ x) : MXI R (nI c) := by
  refine Or.inr ⟨c, rfl, (he c).mpr (Or.inr hQ.1), fun v hv => ?_⟩
  rcases (he v).mp hv with hv | hv
  · rcases h with ⟨h1, h2⟩ | ⟨u, h1, h2⟩
    · exact absurd hv (h2 v)
    · have h3 := h2.2 v hv
      have h4 := hb u h2.1
      rw [h1] at hlt
      have h5 : ¬ c ≤ u := fun z => hlt ((nj_le (by omega) (by omega)).mpr z)
      omega
  · exact hQ.2 v hv
theorem MXI.stay {P Q R : Nat → Prop} {x : Int32} {c : Nat} (h : MXI P x) (hb : ∀ v, P v → v ≤ 1000) (hc9 : c ≤ 2000) (hQ : Mx Q c) (he : ∀ v, R v ↔ P v ∨ Q v) (hle : nI c ≤ x) : MXI R x := by
  rcases h with ⟨h1, h2⟩ | ⟨u, h1, h2⟩
  · rw [h1] at hle
    exfalso
    rw [Int32.le_iff_toInt_le, nj_toInt (by omega), show (-1 : Int32).toInt = -1 by decide] at hle
    omega
  · have h4 := hb u h2.1
    rw [h1] at hle
    have h5 : c ≤ u := (nj_le (by omega) (by omega)).mp hle
    refine Or.inr ⟨u, h1, (he u).mpr (Or.inl h2.1), fun v hv => ?_⟩
    rcases (he v).mp hv with hv | hv
    · exact h2.2 v hv
    · exact Nat.le_trans (hQ.2 v hv) h5
theorem MXI.le {P : Nat → Prop} {x : Int32} {m : Nat} (h : MXI P x) (hb : ∀ v, P v → v ≤ 1000) (hm : m ≤ 1000) : ∃ m2, (if nI m < x then x else nI m) = nI m2 ∧ m2 ≤ 1000 ∧ (m2 = m ∨ P m2) ∧ m ≤ m2 ∧ ∀ v, P v → v ≤ m2 := by
  rcases h with ⟨h1, h2⟩ | ⟨u, h1, h2⟩
  · refine ⟨m, ?_, hm, Or.inl rfl, Nat.le_refl m, fun v hv => absurd hv (h2 v)⟩
    rw [h1, if_neg]
    intro z
    rw [Int32.lt_iff_toInt_lt, nj_toInt (by omega), show (-1 : Int32).toInt = -1 by decide] at z
    omega
  · have h4 := hb u h2.1
    rw [h1]
    by_cases z : m < u
    · exact ⟨u, if_pos ((nj_lt (by omega) (by omega)).mpr z), h4, Or.inr h2.1, by omega, h2.2⟩
    · exact ⟨m, if_neg (fun y => z ((nj_lt (by omega) (by omega)).mp y)), hm, Or.inl rfl, Nat.le_refl m, fun v hv => Nat.le_trans (h2.2 v hv) (by omega)⟩
theorem nj_max {a b : Nat} (ha : a < 2 ^ 31) (hb : b < 2 ^ 31) : (if nI a < nI b then nI b else nI a) = nI (max a b) := by
  by_cases h : a < b
  · rw [if_pos ((nj_lt ha hb).mpr h), Nat.max_eq_right (Nat.le_of_lt h)]
  · rw [if_neg (fun q => h ((nj_lt ha hb).mp q)), Nat.max_eq_left (by omega)]
/-! SHARE -/
def dg (s e : Nat) : Nat := s / 3 ^ e % 3
theorem dg_le (s e : Nat) : dg s e ≤ 2 := by unfold dg; omega
theorem thr_eq {e : Nat} (he : e < 4) : thrF e = nI (3 ^ e) := by
  have : e = 0 ∨ e = 1 ∨ e = 2 ∨ e = 3 := by omega
  rcases this with rfl | rfl | rfl | rfl <;> rfl
theorem thr_b {e : Nat} (he : e < 4) : 1 ≤ 3 ^ e ∧ 3 ^ e ≤ 27 := by
  have : e = 0 ∨ e = 1 ∨ e = 2 ∨ e = 3 := by omega
  rcases this with rfl | rfl | rfl | rfl <;> decide
theorem dg_sub {s e : Nat} (hs : s < 81) (he : e < 4) (h : 0 < dg s e) : 3 ^ e ≤ s ∧ dg (s - 3 ^ e) e < 2 := by
  have key : ∀ (i : Fin 81) (j : Fin 4), 0 < dg i.val j.val → 3 ^ j.val ≤ i.val ∧ dg (i.val - 3 ^ j.val) j.val < 2 := by decide +kernel
  exact key ⟨s, hs⟩ ⟨e, he⟩ h
theorem dg_add {s e : Nat} (hs : s < 81) (he : e < 4) (h : dg s e < 2) : s + 3 ^ e < 81 ∧ 0 < dg (s + 3 ^ e) e ∧ ∀ e', e' < 4 → dg (s + 3 ^ e) e' = if e' = e then dg s e + 1 else dg s e' := by
  have key : ∀ (i : Fin 81) (j : Fin 4), dg i.val j.val < 2 → i.val + 3 ^ j.val < 81 ∧ 0 < dg (i.val + 3 ^ j.val) j.val ∧ ∀ k : Fin 4, dg (i.val + 3 ^ j.val) k.val = if k.val = j.val then dg i.val j.val + 1 else dg i.val k.val := by decide +kernel
  obtain ⟨k1, k2, k3⟩ := key ⟨s, hs⟩ ⟨e, he⟩ h
  exact ⟨k1, k2, fun e' h' => k3 ⟨e', h'⟩⟩
theorem dg_0 (e : Nat) : dg 0 e = 0 := by unfold dg; rw [Nat.zero_div]
abbrev cum (a : Row) (g : Nat) : Nat := sumN (fun k => a (10 + k)) g
def ag (a : Row) (i : Nat) : Nat := if i < cum a 1 then 0 else if i < cum a 2 then 1 else if i < cum a 3 then 2 else if i < cum a 4 then 3 else 4
theorem ag_eq {a : Row} {i g : Nat} (hg : g < 5) (h1 : cum a g ≤ i) (h2 : i < cum a (g + 1)) : ag a i = g := by
  have e0 : cum a 1 = cum a 0 + a (10 + 0) := rfl
  have e1 : cum a 2 = cum a 1 + a (10 + 1) := rfl
  have e2 : cum a 3 = cum a 2 + a (10 + 2) := rfl
  have e3 : cum a 4 = cum a 3 + a (10 + 3) := rfl
  unfold ag
  have : g = 0 ∨ g = 1 ∨ g = 2 ∨ g = 3 ∨ g = 4 := by omega
  rcases this with rfl | rfl | rfl | rfl | rfl
  · have h2' : i < cum a 1 := h2
    rw [if_pos h2']
  · have h2' : i < cum a 2 := h2
    rw [if_neg (by omega), if_pos h2']
  · have h2' : i < cum a 3 := h2
    rw [if_neg (by omega), if_neg (by omega), if_pos h2']
  · have h2' : i < cum a 4 := h2
    rw [if_neg (by omega), if_neg (by omega), if_neg (by omega), if_pos h2']
  · rw [if_neg (by omega), if_neg (by omega), if_neg (by omega), if_neg (by omega)]
def ES (a : Row) : ET := fun i s s1 w => ∃ e, e < a 0 ∧ s < 81 ∧ dg s e < 2 ∧ s1 = s + 3 ^ e ∧ eats a e (ag a i) ∧ w = wNt a e (ag a i)
theorem wNt_10 {a : Row} (hB : Bd a) {e : Nat} (he : e < 4) (g : Nat) : wNt a e g ≤ 10 := by
  have h := (hB.2.2.2.2.2.2.2.2.2.2.2 e he).2.2.1
  unfold wNt
  repeat' split
  all_goals omega
theorem Rs_81 {a : Row} (h0 : a 0 ≤ 4) : ∀ i s v, Rw (ES a) i s v → s < 81 := by
  intro i
  induction i with
  | zero => rintro s v ⟨h1, -⟩; omega
  | succ i ih =>
    intro s v h
    rcases h with h | ⟨s0, u, w, ⟨e, e1, e2, e3, e4, -, -⟩, -, -⟩
    · exact ih s v h
    · rw [e4]; exact (dg_add e2 (by omega) e3).1
theorem Rs_le {a : Row} (hB : Bd a) : ∀ i s v, Rw (ES a) i s v → v ≤ 10 * i := by
  intro i
  induction i with
  | zero => rintro s v ⟨-, h1⟩; omega
  | succ i ih =>
    intro s v h
    rcases h with h | ⟨s0, u, w, ⟨e, e1, e2, e3, e4, e5, e6⟩, h2, h3⟩
    · have := ih s v h; omega
    · have := ih s0 u h2
      have h0 := hB.2.1
      have := wNt_10 hB (e := e) (by omega) (ag a i)
      omega
theorem Ts_le {a : Row} (hB : Bd a) : ∀ q i s v, Tw (ES a) q i s v → v ≤ 10 * q := by
  intro q
  induction q with
  | zero => intro i s v h; have h' : v = 0 := h; omega
  | succ q ih =>
    intro i s v h
    rcases h with h | ⟨s1, u, w, ⟨e, e1, e2, e3, e4, e5, e6⟩, h2, h3⟩
    · have := ih _ s v h; omega
    · have := ih _ s1 u h2
      have h0 := hB.2.1
      have := wNt_10 hB (e := e) (by omega) (ag a i)
      omega
/-- e eaters asked -/
def Rp (a : Row) (i s e v : Nat) : Prop := Rw (ES a) i s v ∨ ∃ e' u, e' < e ∧ 0 < dg s e' ∧ eats a e' (ag a i) ∧ Rw (ES a) i (s - 3 ^ e') u ∧ v = u + wNt a e' (ag a i)
theorem Rp_0 (a : Row) (i s v : Nat) : Rp a i s 0 v ↔ Rw (ES a) i s v := by
  constructor
  · rintro (h | ⟨e', u, h, -⟩)
    · exact h
    · exact absurd h (Nat.not_lt_zero _)
  · exact Or.inl
theorem Rp_n {a : Row} (h0 : a 0 ≤ 4) {s : Nat} (hs : s < 81) (i v : Nat) : Rp a i s (a 0) v ↔ Rw (ES a) (i + 1) s v := by
  constructor
  · rintro (h | ⟨e, u, h1, h2, h3, h4, h5⟩)
    · exact Or.inl h
    · obtain ⟨k1, k2⟩ := dg_sub hs (by omega) h2
      exact Or.inr ⟨s - 3 ^ e, u, _, ⟨e, h1, Nat.lt_of_le_of_lt (Nat.sub_le _ _) hs, k2, (Nat.sub_add_cancel k1).symm, h3, rfl⟩, h4, h5⟩
  · rintro (h | ⟨s0, u, w, ⟨e, e1, e2, e3, e4, e5, e6⟩, h2, h3⟩)
    · exact Or.inl h
    · obtain ⟨k1, k2, -⟩ := dg_add e2 (by omega) e3
      refine Or.inr ⟨e, u, e1, by rw [e4]; exact k2, e5, ?_, by rw [h3, e6]⟩
      rw [e4, Nat.add_sub_cancel]; exact h2
theorem Rp_s (a : Row) (i s e v : Nat) : Rp a i s (e + 1) v ↔ Rp a i s e v ∨ (0 < dg s e ∧ eats a e (ag a i) ∧ ∃ u, Rw (ES a) i (s - 3 ^ e) u ∧ v = u + wNt a e (ag a i)) := by
  constructor
  · rintro (h | ⟨e', u, h1, h2, h3, h4, h5⟩)
    · exact Or.inl (Or.inl h)
    · by_cases z : e' = e
      · subst z; exact Or.inr ⟨h2, h3, u, h4, h5⟩
      · exact Or.inl (Or.inr ⟨e', u, by omega, h2, h3, h4, h5⟩)
  · rintro ((h | ⟨e', u, h1, h2, h3, h4, h5⟩) | ⟨h2, h3, u, h4, h5⟩)
    · exact Or.inl h
    · exact Or.inr ⟨e', u, by omega, h2, h3, h4, h5⟩
    · exact Or.inr ⟨e, u, by omega, h2, h3, h4, h5⟩
theorem Rp_no {a : Row} {i s e v : Nat} (h : ¬ (0 < dg s e ∧ eats a e (ag a i) ∧ ∃ u, Rw (ES a) i (s - 3 ^ e) u)) : Rp a i s (e + 1) v ↔ Rp a i s e v := by
  rw [Rp_s]
  exact ⟨fun z => z.elim id (fun ⟨z1, z2, u, z3, _⟩ => absurd ⟨z1, z2, u, z3⟩ h), Or.inl⟩
theorem Rp_le {a : Row} (hB : Bd a) {i s e v : Nat} (hi : i ≤ 6) (he : e ≤ 4) (h : Rp a i s e v) : v ≤ 1000 := by
  rcases h with h | ⟨e', u, h1, h2, h3, h4, h5⟩
  · have := Rs_le hB _ _ _ h; omega
  · have := Rs_le hB _ _ _ h4
    have := wNt_10 hB (e := e') (by omega) (ag a i)
    omega
theorem Mx_add {P : Nat → Prop} {u c : Nat} (h : Mx P u) : Mx (fun v => ∃ t, P t ∧ v = t + c) (u + c) := ⟨⟨u, h.1, rfl⟩, fun v ⟨t, h1, h2⟩ => by have := h.2 t h1; omega⟩
theorem R1_0 (a : Row) (h0 : a 0 ≤ 4) (i v : Nat) : Rw (ES a) (i + 1) 0 v ↔ Rw (ES a) i 0 v := by
  constructor
  · rintro (h | ⟨s0, u, w, ⟨e, e1, e2, e3, e4, e5, e6⟩, h2, h3⟩)
    · exact h
    · have := thr_b (e := e) (by omega); omega
  · exact Or.inl
/-- the reference: e eaters asked -/
def Tp (a : Row) (q i s e v : Nat) : Prop := Tw (ES a) q (i + 1) s v ∨ ∃ e' u, e' < e ∧ dg s e' < 2 ∧ eats a e' (ag a i) ∧ Tw (ES a) q (i + 1) (s + 3 ^ e') u ∧ v = u + wNt a e' (ag a i)
theorem Tp_0 (a : Row) (q i s v : Nat) : Tp a q i s 0 v ↔ Tw (ES a) q (i + 1) s v := by
  constructor
  · rintro (h | ⟨e', u, h, -⟩)
    · exact h
    · exact absurd h (Nat.not_lt_zero _)
  · exact Or.inl
theorem Tp_n {a : Row} {s : Nat} (hs : s < 81) (q i v : Nat) : Tw (ES a) (q + 1) i s v ↔ Tp a q i s (a 0) v := by
  constructor
  · rintro (h | ⟨s1, u, w, ⟨e, e1, e2, e3, e4, e5, e6⟩, h2, h3⟩)
    · exact Or.inl h
    · exact Or.inr ⟨e, u, e1, e3, e5, by rw [← e4]; exact h2, by rw [h3, e6]⟩
  · rintro (h | ⟨e, u, h1, h2, h3, h4, h5⟩)
    · exact Or.inl h
    · exact Or.inr ⟨_, u, _, ⟨e, h1, hs, h2, rfl, h3, rfl⟩, h4, h5⟩
theorem Tp_s (a : Row) (q i s e v : Nat) : Tp a q i s (e + 1) v ↔ Tp a q i s e v ∨ (dg s e < 2 ∧ eats a e (ag a i) ∧ ∃ u, Tw (ES a) q (i + 1) (s + 3 ^ e) u ∧ v = u + wNt a e (ag a i)) := by
  constructor
  · rintro (h | ⟨e', u, h1, h2, h3, h4, h5⟩)
    · exact Or.inl (Or.inl h)
    · by_cases z : e' = e
      · subst z; exact Or.inr ⟨h2, h3, u, h4, h5⟩
      · exact Or.inl (Or.inr ⟨e', u, by omega, h2, h3, h4, h5⟩)
  · rintro ((h | ⟨e', u, h1, h2, h3, h4, h5⟩) | ⟨h2, h3, u, h4, h5⟩)
    · exact Or.inl h
    · exact Or.inr ⟨e', u, by omega, h2, h3, h4, h5⟩
    · exact Or.inr ⟨e, u, by omega, h2, h3, h4, h5⟩
theorem Tp_no {a : Row} {q i s e v : Nat} (h : ¬ (dg s e < 2 ∧ eats a e (ag a i))) : Tp a q i s (e + 1) v ↔ Tp a q i s e v := by
  rw [Tp_s]
  exact ⟨fun z => z.elim id (fun ⟨z1, z2, _⟩ => absurd ⟨z1, z2⟩ h), Or.inl⟩
theorem Tp_yes {a : Row} {q i s e v : Nat} (h1 : dg s e < 2) (h2 : eats a e (ag a i)) : Tp a q i s (e + 1) v ↔ Tp a q i s e v ∨ ∃ u, Tw (ES a) q (i + 1) (s + 3 ^ e) u ∧ v = u + wNt a e (ag a i) := by
  rw [Tp_s]
  exact or_congr Iff.rfl ⟨fun z => z.2.2, fun z => ⟨h1, h2, z⟩⟩
theorem Tp_le {a : Row} (hB : Bd a) {q i s e v : Nat} (hq : q ≤ 6) (he : e ≤ 4) (h : Tp a q i s e v) : v ≤ 1000 := by
  rcases h with h | ⟨e', u, h1, h2, h3, h4, h5⟩
  · have := Ts_le hB _ _ _ _ h; omega
  · have := Ts_le hB _ _ _ _ h4
    have := wNt_10 hB (e := e') (by omega) (ag a i)
    omega
noncomputable def spShare (A : AS) : Int32 × AS := (nI (mxOf (Tw (ES (Aa A)) (min 6 (cum (Aa A) 5)) 0 0)), A)
theorem sh_all {a : Row} (h0 : a 0 ≤ 4) {N m : Nat} (h : Mx (fun v => ∃ s, s < 81 ∧ Rw (ES a) N s v) m) : mxOf (Tw (ES a) N 0 0) = m :=
  mxOf_eq (h.iff (fun v => (way_all (ES a) N v).trans ⟨fun ⟨s, z⟩ => ⟨s, Rs_81 h0 _ _ _ z, z⟩, fun ⟨s, _, z⟩ => ⟨s, z⟩⟩))
theorem Rw_00 (E : ET) : ∀ i, Rw E i 0 0
  | 0 => ⟨rfl, rfl⟩
  | i + 1 => Or.inl (Rw_00 E i)

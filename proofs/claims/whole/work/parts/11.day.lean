/-! ===== a DAY ===== -/
def eatS (e : Nat) : Nat → Row → Row × List Nat
  | 0, a => (a, [])
  | n + 1, a => match nxC a e with
    | none => (a, [])
    | some g => ((eatS e n (ua a (10 + g) (a (10 + g) - 1))).1, g :: (eatS e n (ua a (10 + g) (a (10 + g) - 1))).2)
/-- rows that differ in SLICES alone -/
def SmE (a a' : Row) : Prop := ∀ j, (j < 10 ∨ 15 ≤ j) → a' j = a j
theorem SmE.rf {a : Row} : SmE a a := fun _ _ => rfl
theorem SmE.tr {a b c : Row} (h : SmE a b) (h' : SmE b c) : SmE a c := fun j hj => (h' j hj).trans (h j hj)
theorem SmE.ua {a : Row} {g v : Nat} (hg : g < 5) : SmE a (ua a (10 + g) v) := fun j hj => by simp only [ua_at]; rw [if_neg (by omega)]
theorem sm_wNt {a a' : Row} (h : SmE a a') (e g : Nat) : wNt a' e g = wNt a e g := by
  unfold wNt
  rw [h (30 + 4 * e) (by omega), h (30 + 4 * e + 2) (by omega), h 1 (by omega)]
theorem sm_eats {a a' : Row} (h : SmE a a') (e g : Nat) : eats a' e g ↔ eats a e g := by
  show (_ ∨ _) ↔ (_ ∨ _)
  rw [h (30 + 4 * e) (by omega)]
theorem sm_way {a a' : Row} (h : SmE a a') : way a' = way a := by
  unfold way
  rw [h 7 (by omega), h 1 (by omega)]
theorem pkC_congr {a a' : Row} (h : SmE a a') (e : Nat) (hr : ∀ g, g < 5 → (reachC a' g ↔ reachC a g)) : ∀ m, pkC a' e m = pkC a e m := by
  intro m
  induction m with
  | zero => rfl
  | succ m ih =>
    have h1 := hr (4 - m) (by omega)
    have h2 := sm_eats h e (4 - m)
    by_cases q : reachC a (4 - m) ∧ eats a e (4 - m)
    · rw [pkC, pkC, if_pos q, if_pos ⟨h1.mpr q.1, h2.mpr q.2⟩, ih, sm_way h]
      cases pkC a e m with
      | none => rfl
      | some f => simp only [sm_wNt h]
    · rw [pkC, pkC, if_neg q, if_neg (fun z => q ⟨h1.mp z.1, h2.mp z.2⟩), ih]
theorem pkC_spec {a : Row} {e : Nat} : ∀ m g, m ≤ 5 → pkC a e m = some g → 5 ≤ g + m ∧ g < 5 ∧ reachC a g ∧ eats a e g := by
  intro m
  induction m with
  | zero => intro g _ h; cases h
  | succ m ih =>
    intro g hm h
    rw [pkC] at h
    by_cases q : reachC a (4 - m) ∧ eats a e (4 - m)
    · rw [if_pos q] at h
      cases hp : pkC a e m with
      | none =>
        rw [hp] at h
        cases h
        exact ⟨by omega, by omega, q.1, q.2⟩
      | some f =>
        rw [hp] at h
        dsimp only at h
        by_cases z : way a = 1 ∨ (way a = 2 ∧ wNt a e f < wNt a e (4 - m))
        · rw [if_pos z] at h
          cases h
          exact ⟨by omega, by omega, q.1, q.2⟩
        · rw [if_neg z] at h
          have hfg := Option.some.inj h
          subst hfg
          have := ih f (by omega) hp
          exact ⟨by omega, this.2⟩
    · rw [if_neg q] at h
      have := ih g (by omega) h
      exact ⟨by omega, this.2⟩
theorem nxC_spec {a : Row} {e g : Nat} (h : nxC a e = some g) : g < 5 ∧ reachC a g ∧ eats a e g := (pkC_spec 5 g (Nat.le_refl 5) h).2
theorem pkC_none {a : Row} {e : Nat} : ∀ m, m ≤ 5 → pkC a e m = none → ∀ g, g < 5 → 5 ≤ g + m → ¬ (reachC a g ∧ eats a e g) := by
  intro m
  induction m with
  | zero => intro _ _ g h1 h2; omega
  | succ m ih =>
    intro hm h g h1 h2
    rw [pkC] at h
    by_cases q : reachC a (4 - m) ∧ eats a e (4 - m)
    · rw [if_pos q] at h
      cases hp : pkC a e m with
      | none => rw [hp] at h; cases h
      | some f =>
        rw [hp] at h
        dsimp only at h
        by_cases z : way a = 1 ∨ (way a = 2 ∧ wNt a e f < wNt a e (4 - m))
        · rw [if_pos z] at h; cases h
        · rw [if_neg z] at h; cases h
    · rw [if_neg q] at h
      by_cases z : g = 4 - m
      · rw [z]; exact q
      · exact ih (by omega) h g h1 (by omega)
theorem pkC_none' {a : Row} {e : Nat} (h : ∀ g, g < 5 → ¬ (reachC a g ∧ eats a e g)) : ∀ m, m ≤ 5 → pkC a e m = none := by
  intro m
  induction m with
  | zero => intro _; rfl
  | succ m ih => intro hm; rw [pkC, if_neg (h (4 - m) (by omega))]; exact ih (by omega)
/-- how many of an AGE may be taken -/
def inR (a : Row) (g : Nat) : Nat := if g = 0 ∧ (a 7 = 3 ∨ a 7 = 5) then a (10 + g) - 3 else a (10 + g)
theorem reachC_inR (a : Row) (g : Nat) : reachC a g ↔ 0 < inR a g := by
  unfold reachC inR
  split <;> omega
theorem inR_le (a : Row) (g : Nat) : inR a g ≤ a (10 + g) := by unfold inR; split <;> omega
theorem inR_ua {a : Row} {g m : Nat} (hg : g < 5) (hm : m ≤ inR a g) : ∀ g', g' < 5 → inR (ua a (10 + g) (a (10 + g) - m)) g' = if g' = g then inR a g - m else inR a g' := by
  intro g' h'
  have h7 : ua a (10 + g) (a (10 + g) - m) 7 = a 7 := by simp only [ua_at]; rw [if_neg (by omega)]
  have hx := inR_le a g
  unfold inR at *
  rw [h7]
  simp only [ua_at]
  by_cases q : g' = g
  · subst q
    rw [if_pos rfl, if_pos rfl]
    split <;> rename_i z
    · rw [if_pos z] at hm; omega
    · rfl
  · have e1 : ¬ (10 + g' = 10 + g) := by omega
    rw [if_neg e1, if_neg q]
theorem inR_Rj {a : Row} {g : Nat} (hB : a (10 + g) ≤ 30000) (h : reachC a g) : inRj a g = nI (inR a g) := by
  rw [reachC_inR] at h
  unfold inRj
  unfold inR at h ⊢
  split <;> rename_i z
  · rw [if_pos z] at h; exact nj_minus (a := a (10 + g)) (b := 3) (by omega)
  · rfl
/-- taking m of an AGE at once is taking them one by one -/
theorem eatS_bulk {e g : Nat} : ∀ (m : Nat) (a : Row) (n : Nat), nxC a e = some g → m ≤ inR a g → m ≤ n → eatS e n a = ((eatS e (n - m) (ua a (10 + g) (a (10 + g) - m))).1, List.replicate m g ++ (eatS e (n - m) (ua a (10 + g) (a (10 + g) - m))).2) := by
  intro m
  induction m with
  | zero =>
    intro a n _ _ _
    have h1 : ua a (10 + g) (a (10 + g) - 0) = a := by funext j; simp only [ua_at]; split <;> simp_all
    rw [h1]
    simp
  | succ m ih =>
    intro a n hn hm hmn
    obtain ⟨hg, hr, he⟩ := nxC_spec hn
    obtain ⟨n, rfl⟩ : ∃ k, n = k + 1 := ⟨n - 1, by omega⟩
    have hi := inR_ua (a := a) (m := 1) hg (by omega)
    rw [eatS, hn]
    dsimp only
    have hle := inR_le a g
    by_cases hm0 : m = 0
    · subst hm0
      simp
    · have hS : SmE a (ua a (10 + g) (a (10 + g) - 1)) := SmE.ua hg
      have hnx : nxC (ua a (10 + g) (a (10 + g) - 1)) e = some g := by
        unfold nxC at hn ⊢
        rw [pkC_congr hS e, hn]
        intro g' h'
        rw [reachC_inR, reachC_inR, hi g' h']
        split <;> rename_i z
        · subst z; omega
        · exact Iff.rfl
      have h2 := ih (ua a (10 + g) (a (10 + g) - 1)) n hnx (by rw [hi g hg, if_pos rfl]; omega) (by omega)
      have h3 : ua (ua a (10 + g) (a (10 + g) - 1)) (10 + g) ((ua a (10 + g) (a (10 + g) - 1)) (10 + g) - m) = ua a (10 + g) (a (10 + g) - (m + 1)) := by
        funext j
        simp only [ua_at]
        split
        · simp; omega
        · rfl
      rw [h3] at h2
      have h4 : n + 1 - (m + 1) = n - m := by omega
      rw [h2, h4, List.replicate_succ]
      rfl
/-- how many AGES are in reach and eaten -/
def avC (a : Row) (e : Nat) : Nat → Nat
  | 0 => 0
  | g + 1 => avC a e g + if reachC a g ∧ eats a e g then 1 else 0
theorem avC_le (a : Row) (e n : Nat) : avC a e n ≤ n := by
  induction n with
  | zero => exact Nat.le_refl 0
  | succ n ih => rw [avC]; split <;> omega
theorem avC_zero {a : Row} {e : Nat} : ∀ n, avC a e n = 0 → ∀ g, g < n → ¬ (reachC a g ∧ eats a e g) := by
  intro n
  induction n with
  | zero => intro _ g h; omega
  | succ n ih =>
    intro h g hg
    rw [avC] at h
    by_cases q : reachC a n ∧ eats a e n
    · rw [if_pos q] at h; omega
    · rw [if_neg q] at h
      by_cases z : g = n
      · rw [z]; exact q
      · exact ih (by omega) g (by omega)
theorem avC_less {a a' : Row} {e g : Nat} (hS : SmE a a') (hg : reachC a g ∧ eats a e g) (hg' : ¬ reachC a' g) (ho : ∀ g', g' < 5 → g' ≠ g → (reachC a' g' ↔ reachC a g')) : ∀ n, n ≤ 5 → avC a' e n + (if g < n then 1 else 0) = avC a e n := by
  intro n
  induction n with
  | zero => intro _; simp [avC]
  | succ n ih =>
    intro hn
    have h1 := ih (by omega)
    rw [avC, avC]
    by_cases q : g = n
    · subst q
      rw [if_neg (fun z : reachC a' g ∧ eats a' e g => hg' z.1), if_pos hg, if_pos (by omega)]
      rw [if_neg (by omega)] at h1
      omega
    · have h2 : (reachC a' n ∧ eats a' e n) ↔ (reachC a n ∧ eats a e n) := and_congr (ho n (by omega) (fun z => q z.symm)) (sm_eats hS e n)
      by_cases z : reachC a n ∧ eats a e n
      · rw [if_pos z, if_pos (h2.mpr z)]
        split at h1 <;> split <;> omega
      · rw [if_neg z, if_neg (fun y => z (h2.mp y))]
        split at h1 <;> split <;> omega
theorem eatS_none {a : Row} {e : Nat} (h : nxC a e = none) (n : Nat) : eatS e n a = (a, []) := by
  cases n with
  | zero => rfl
  | succ n => rw [eatS, h]
theorem nxC_av {a : Row} {e : Nat} (h : avC a e 5 = 0) : nxC a e = none := pkC_none' (avC_zero 5 h) 5 (Nat.le_refl 5)
def wsum (a : Row) (e : Nat) : List Nat → Int32
  | [] => 0
  | g :: t => nI (wNt a e g) + wsum a e t
theorem wsum_app (a : Row) (e : Nat) (l l' : List Nat) : wsum a e (l ++ l') = wsum a e l + wsum a e l' := by
  induction l with
  | nil => simp [wsum]
  | cons g t ih => simp only [List.cons_append, wsum, ih]; grind
theorem wsum_rep (a : Row) (e g m : Nat) : wsum a e (List.replicate m g) = nI m * nI (wNt a e g) := by
  induction m with
  | zero => show (0 : Int32) = nI 0 * _; rw [nI_0]; grind
  | succ m ih => rw [List.replicate_succ, wsum, ih, ← nj_plus m 1]; show _ = (nI m + 1) * _; grind
theorem sm_wsum {a a' : Row} (h : SmE a a') (e : Nat) (l : List Nat) : wsum a' e l = wsum a e l := by
  induction l with
  | nil => rfl
  | cons g t ih => show nI (wNt a' e g) + _ = nI (wNt a e g) + _; rw [sm_wNt h, ih]
def wan (a : Row) (hu : Nat) : Nat := if a 7 = 5 then hu - 1 else hu
theorem eatS_len (e : Nat) : ∀ n a, (eatS e n a).2.length ≤ n := by
  intro n
  induction n with
  | zero => intro a; simp [eatS]
  | succ n ih =>
    intro a
    rw [eatS]
    cases nxC a e with
    | none => simp
    | some g => simp only [List.length_cons]; have := ih (ua a (10 + g) (a (10 + g) - 1)); omega
theorem eatS_sm (e : Nat) : ∀ n a, SmE a (eatS e n a).1 ∧ ∀ j, (eatS e n a).1 j ≤ a j := by
  intro n
  induction n with
  | zero => intro a; exact ⟨SmE.rf, fun _ => Nat.le_refl _⟩
  | succ n ih =>
    intro a
    rw [eatS]
    cases h : nxC a e with
    | none => exact ⟨SmE.rf, fun _ => Nat.le_refl _⟩
    | some g =>
      have hg := (nxC_spec h).1
      obtain ⟨h1, h2⟩ := ih (ua a (10 + g) (a (10 + g) - 1))
      refine ⟨(SmE.ua hg).tr h1, fun j => Nat.le_trans (h2 j) ?_⟩
      simp only [ua_at]; split <;> rename_i z
      · rw [z]; omega
      · exact Nat.le_refl _
theorem Bd.sm {a a' : Row} (h : Bd a) (hs : SmE a a') (hl : ∀ j, a' j ≤ a j) : Bd a' := by
  obtain ⟨h0, h1⟩ := h
  refine ⟨fun j => Nat.le_trans (hl j) (h0 j), ?_⟩
  obtain ⟨b0, b1, b2, b3, b4, b5, b6, b7, bs, bp, be⟩ := h1
  refine ⟨by have := hl 0; omega, by have := hl 1; omega, by have := hl 2; omega, by have := hl 3; omega, by have := hl 4; omega, by have := hl 5; omega, by have := hl 6; omega, by have := hl 7; omega, fun k hk => Nat.le_trans (hl _) (bs k hk), fun k hk => Nat.le_trans (hl _) (bp k hk), fun e he => ?_⟩
  obtain ⟨e1, e2, e3, e4⟩ := be e he
  exact ⟨Nat.le_trans (hl _) e1, Nat.le_trans (hl _) e2, Nat.le_trans (hl _) e3, Nat.le_trans (hl _) e4⟩
/-! the tally: VALUE, the AGES eaten in their order, THROWN, LACKED, BOUGHT -/
def Tl (σ : SG) (v : Int32) (ls : List Nat) (th la bo : Nat) : Prop := σ 29 0 = v ∧ σ 29 1 = nI ls.length ∧ σ 29 2 = nI (ls.count 0) ∧ σ 29 3 = nI th ∧ σ 29 4 = nI la ∧ σ 29 5 = nI bo ∧ σ 28 2 = nI (min 20 ls.length) ∧ ∀ i, i < 20 → i < ls.length → σ 30 i = nI (ls.getD i 0)
abbrev inT : Nat → Prop := fun k => 28 ≤ k ∧ k ≤ 30
theorem Tl.fr {σ τ : SG} {v : Int32} {ls : List Nat} {th la bo : Nat} (h : Tl σ v ls th la bo) (h8 : τ 28 = σ 28) (h9 : τ 29 = σ 29) (h30 : τ 30 = σ 30) : Tl τ v ls th la bo := by
  unfold Tl
  rw [h8, h9, h30]
  exact h

section GR
variable {l : Launch} {w : WD} {K : KT} {cc : ByteArray} {own : String} {nl d mc ms pc : Nat} {lv : List (Nat × Value)} {st : List Value} {σ : SG}
theorem g_copy {idx k0 k1 n0 n : Nat} {nn : Int32} (C : OK l w K cc nl own d mc ms) (h1 : Cond.methodLink own idx arraycopyName ∈ gt) (hk0 : k0 < wN w) (hk1 : k1 < wN w) (he0 : shp w k0 = aI w n0) (he1 : shp w k1 = aI w n0) (hn : nn.toNatClampNeg = n) (hn0 : ¬ nn < 0) (hle : n ≤ n0) (hd1 : 2 ≤ d) (hd : decode cc pc = .ok (.invokestatic idx, 3)) (k : ∀ τ : SG, τ = upc σ k1 (fun j => if j < n then σ k0 j else σ k1 j) → G l w K (pc + 3) lv [] τ) : G l w K pc lv [.int nn, .int 0, .ref (wA w k1), .int 0, .ref (wA w k0)] σ := by
  obtain ⟨⟨p, e, R, s, m, args, below, meth, c⟩, ⟨nL, cells, slots⟩, Q, A⟩ := K
  obtain ⟨⟨hx, hb, hml, hown, hts⟩, hK, hj, hA, hST, hlk, hR, hnl, hmc, hms⟩ := C
  intro H ls locs hl hP hS
  have z0 : (0 : Int32).toNatClampNeg = 0 := by decide
  refine va_copyi (ty := .int) hx hb (by rw [hml]; exact hl.1.symm) hown (hts _ h1) (hts _ na_arraycopy) (hts _ st_arraycopy) (hts _ ini_System) hK hP hj.D hS k0 k1 0 0 (pw_a hk0 (by rw [he0])) (pw_a hk1 (by rw [he1])) rfl rfl rfl (by decide) (by decide) hn0 (by rw [z0, hn]; omega) (by rw [z0, hn]; omega) (fun i hi => rfl) ?_ ?_ hd (fun H1 locs1 hP1 hD1 hS1 => ?_)
  · subst hR; show 1 ≤ d; omega
  · subst hR; exact Nat.le_trans (by decide : _ ≤ 64 * 2) (Nat.mul_le_mul_left 64 hd1)
  · rw [z0, hn] at hP1
    have e1 : va_cpy (σ k0) (σ k1) 0 0 n = (fun j => if j < n then σ k0 j else σ k1 j) := by funext j; simp [va_cpy]
    rw [e1, pw_st (g := fun j => if j < n then σ k0 j else σ k1 j) (by rw [he1])] at hP1
    exact k _ rfl H1 ls locs1 hl hP1 hS1
end GR
theorem HB.dj {b c : Nat} (h : HB b) (h' : HB c) (hne : b ≠ c) {k : Nat} (hk : c ≤ k) (hk' : k ≤ c + 8) : ¬ inH b k := by
  rcases h with rfl | rfl | rfl <;> rcases h' with rfl | rfl | rfl <;> first | exact absurd rfl hne | (rintro ⟨z1, z2⟩; omega)

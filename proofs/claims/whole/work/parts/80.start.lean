/-! ===== the world at the start ===== -/
def s0 : SG
  | 3 => opI
  | 4 => seI
  | 12 => opI
  | 13 => seI
  | 21 => opI
  | 22 => seI
  | 40 => nowI
  | 47 => begI
  | 48 => eatI
  | 49 => houI
  | 50 => opnI
  | _ => fun _ => 0
def n0 : Row := fun j => if j = 2 then 6 else if j = 4 then 2 else if j = 5 then 1 else if j = 6 then 3 else if 20 ≤ j ∧ j ≤ 26 then 1 else 0
def A0 : AS := (n0, n0, 0, (0, fun _ => 0), (0, fun _ => 0), fun _ => 0)
theorem n0_le (j : Nat) : n0 j ≤ 6 := by
  unfold n0
  split
  · decide
  · split
    · decide
    · split
      · decide
      · split
        · decide
        · split <;> decide
theorem n0_bd : Bd n0 := by
  refine ⟨fun j => Nat.le_trans (n0_le j) (by decide +kernel), by decide +kernel, by decide +kernel, by decide +kernel, by decide +kernel, by decide +kernel, by decide +kernel, by decide +kernel, by decide +kernel, fun k hk => Nat.le_trans (n0_le _) (by decide +kernel), ?_, ?_⟩
  · intro k hk
    rcases (show k = 0 ∨ k = 1 ∨ k = 2 ∨ k = 3 ∨ k = 4 ∨ k = 5 ∨ k = 6 by omega) with rfl | rfl | rfl | rfl | rfl | rfl | rfl <;> decide +kernel
  · intro e he
    refine ⟨?_, Nat.le_trans (n0_le _) (by decide +kernel), Nat.le_trans (n0_le _) (by decide +kernel), Nat.le_trans (n0_le _) (by decide +kernel)⟩
    rcases (show e = 0 ∨ e = 1 ∨ e = 2 ∨ e = 3 by omega) with rfl | rfl | rfl | rfl <;> decide +kernel
theorem n0_d9 : D9 n0 := ⟨by decide +kernel, fun e he => Nat.le_trans (n0_le _) (by decide +kernel)⟩
theorem a0_i : Ai A0 := ⟨⟨n0_bd, n0_d9⟩, fun h => absurd h (by decide +kernel), by decide +kernel, by decide +kernel, fun j hj => absurd hj (Nat.not_lt_zero _), by decide +kernel, fun j hj => absurd hj (Nat.not_lt_zero _)⟩
theorem s0_h : Hh s0 1 n0 := by
  refine ⟨by decide +kernel, by decide +kernel, ?_, ?_, ?_, ?_⟩
  · decide +kernel
  · decide +kernel
  · decide +kernel
  · decide +kernel
theorem s0_x : CX s0 A0 := ⟨a0_i, ⟨s0_h, n0_bd, by decide +kernel, n0_d9⟩, fun h => absurd h (by decide +kernel), by decide +kernel, ⟨by decide +kernel, fun j hj => absurd hj (Nat.not_lt_zero _)⟩, ⟨by decide +kernel, fun j hj => absurd hj (Nat.not_lt_zero _)⟩, fun k _ h6 => by rcases (show k = 0 ∨ k = 1 ∨ k = 2 ∨ k = 3 ∨ k = 4 ∨ k = 5 ∨ k = 6 by omega) with rfl | rfl | rfl | rfl | rfl | rfl | rfl <;> rfl⟩
theorem s0_now : ∀ j, j < 46 → s0 40 j = nI (n0 j) := by decide +kernel
theorem s0_t : MT s0 := by
  refine ⟨?_, ?_, ?_, ?_, ?_⟩
  · decide +kernel
  · decide +kernel
  · decide +kernel
  · decide +kernel
  · decide +kernel
theorem s0_m : CM s0 A0 := ⟨a0_i, s0_now, fun h => absurd h (by decide +kernel), by decide +kernel, ⟨by decide +kernel, fun j hj => absurd hj (Nat.not_lt_zero _)⟩, ⟨by decide +kernel, fun j hj => absurd hj (Nat.not_lt_zero _)⟩, fun k _ h6 => by rcases (show k = 0 ∨ k = 1 ∨ k = 2 ∨ k = 3 ∨ k = 4 ∨ k = 5 ∨ k = 6 by omega) with rfl | rfl | rfl | rfl | rfl | rfl | rfl <;> rfl, s0_t⟩
/-- the two makings' addresses in one row -/
def adJ (a1 a2 : Nat → Nat) : Nat → Nat := fun k => if k < 38 then a1 k else a2 (k - 38)
abbrev w0J (D : va_G) (cI cC cO : ClassId) (stt : (Nat × Nat) × ((Nat → Nat) × (Nat → Nat))) : WD := (D, (cI, cC, cO), 0, (fun _ => 0), stt)
abbrev wJ' (D : va_G) (cI cC cO : ClassId) (stt : (Nat × Nat) × ((Nat → Nat) × (Nat → Nat))) (a1 a2 : Nat → Nat) : WD := (D, (cI, cC, cO), 54, adJ a1 a2, stt)
theorem cell4 (c : ClassId) (f g : Nat → Option Nat) (h : ∀ j, j < 4 → f j = g j) : vp_cell c (4, .inr (.inr (.inr (.inr f)))) = vp_cell c (4, .inr (.inr (.inr (.inr g)))) := by
  show arrV c 4 (fun j => va_rf (f j)) = arrV c 4 (fun j => va_rf (g j))
  exact arrV_cg c (fun j hj => by rw [h j hj])
set_option maxRecDepth 100000 in
set_option maxHeartbeats 4000000 in
theorem s0_at (D : va_G) (cI cC cO : ClassId) (stt : (Nat × Nat) × ((Nat → Nat) × (Nat → Nat))) (a1 a2 : Nat → Nat) : ∀ k : Nat, k < 54 → ∃ q : Nat × va_E, (FM4 (w0J D cI cC cO stt) a1 ++ FM5 (w0J D cI cC cO stt) a2)[k]? = some q ∧ q.1 = adJ a1 a2 k ∧ ∀ H : Heap, va_at D vwCl q H → va_at D vwCl (adJ a1 a2 k, shp (wJ' D cI cC cO stt a1 a2) k (s0 k)) H
  | 0, _ => ⟨_, rfl, rfl, fun _ h => h⟩
  | 1, _ => ⟨_, rfl, rfl, fun _ h => h⟩
  | 2, _ => ⟨_, rfl, rfl, fun _ h => h⟩
  | 3, _ => ⟨_, rfl, rfl, fun _ h => h⟩
  | 4, _ => ⟨_, rfl, rfl, fun _ h => h⟩
  | 5, _ => ⟨_, rfl, rfl, fun H h => (h : H[_]? = some (vp_cell cO (4, _))).trans (congrArg some (cell4 cO _ _ (fun j hj => by rcases (show j = 0 ∨ j = 1 ∨ j = 2 ∨ j = 3 by omega) with rfl | rfl | rfl | rfl <;> rfl)))⟩
  | 6, _ => ⟨_, rfl, rfl, fun _ h => h⟩
  | 7, _ => ⟨_, rfl, rfl, fun _ h => h⟩
  | 8, _ => ⟨_, rfl, rfl, fun _ h => h⟩
  | 9, _ => ⟨_, rfl, rfl, fun _ h => h⟩
  | 10, _ => ⟨_, rfl, rfl, fun _ h => h⟩
  | 11, _ => ⟨_, rfl, rfl, fun _ h => h⟩
  | 12, _ => ⟨_, rfl, rfl, fun _ h => h⟩
  | 13, _ => ⟨_, rfl, rfl, fun _ h => h⟩
  | 14, _ => ⟨_, rfl, rfl, fun H h => (h : H[_]? = some (vp_cell cO (4, _))).trans (congrArg some (cell4 cO _ _ (fun j hj => by rcases (show j = 0 ∨ j = 1 ∨ j = 2 ∨ j = 3 by omega) with rfl | rfl | rfl | rfl <;> rfl)))⟩
  | 15, _ => ⟨_, rfl, rfl, fun _ h => h⟩
  | 16, _ => ⟨_, rfl, rfl, fun _ h => h⟩
  | 17, _ => ⟨_, rfl, rfl, fun _ h => h⟩
  | 18, _ => ⟨_, rfl, rfl, fun _ h => h⟩
  | 19, _ => ⟨_, rfl, rfl, fun _ h => h⟩
  | 20, _ => ⟨_, rfl, rfl, fun _ h => h⟩
  | 21, _ => ⟨_, rfl, rfl, fun _ h => h⟩
  | 22, _ => ⟨_, rfl, rfl, fun _ h => h⟩
  | 23, _ => ⟨_, rfl, rfl, fun H h => (h : H[_]? = some (vp_cell cO (4, _))).trans (congrArg some (cell4 cO _ _ (fun j hj => by rcases (show j = 0 ∨ j = 1 ∨ j = 2 ∨ j = 3 by omega) with rfl | rfl | rfl | rfl <;> rfl)))⟩
  | 24, _ => ⟨_, rfl, rfl, fun _ h => h⟩
  | 25, _ => ⟨_, rfl, rfl, fun _ h => h⟩
  | 26, _ => ⟨_, rfl, rfl, fun _ h => h⟩
  | 27, _ => ⟨_, rfl, rfl, fun _ h => h⟩
  | 28, _ => ⟨_, rfl, rfl, fun _ h => h⟩
  | 29, _ => ⟨_, rfl, rfl, fun _ h => h⟩
  | 30, _ => ⟨_, rfl, rfl, fun _ h => h⟩
  | 31, _ => ⟨_, rfl, rfl, fun _ h => h⟩
  | 32, _ => ⟨_, rfl, rfl, fun _ h => h⟩
  | 33, _ => ⟨_, rfl, rfl, fun _ h => h⟩
  | 34, _ => ⟨_, rfl, rfl, fun _ h => h⟩
  | 35, _ => ⟨_, rfl, rfl, fun _ h => h⟩
  | 36, _ => ⟨_, rfl, rfl, fun _ h => h⟩
  | 37, _ => ⟨_, rfl, rfl, fun _ h => h⟩
  | 38, _ => ⟨_, rfl, rfl, fun _ h => h⟩
  | 39, _ => ⟨_, rfl, rfl, fun _ h => h⟩
  | 40, _ => ⟨_, rfl, rfl, fun _ h => h⟩
  | 41, _ => ⟨_, rfl, rfl, fun _ h => h⟩
  | 42, _ => ⟨_, rfl, rfl, fun _ h => h⟩
  | 43, _ => ⟨_, rfl, rfl, fun _ h => h⟩
  | 44, _ => ⟨_, rfl, rfl, fun _ h => h⟩
  | 45, _ => ⟨_, rfl, rfl, fun _ h => h⟩
  | 46, _ => ⟨_, rfl, rfl, fun _ h => h⟩
  | 47, _ => ⟨_, rfl, rfl, fun _ h => h⟩
  | 48, _ => ⟨_, rfl, rfl, fun _ h => h⟩
  | 49, _ => ⟨_, rfl, rfl, fun _ h => h⟩
  | 50, _ => ⟨_, rfl, rfl, fun _ h => h⟩
  | 51, _ => ⟨_, rfl, rfl, fun _ h => h⟩
  | 52, _ => ⟨_, rfl, rfl, fun _ h => h⟩
  | 53, _ => ⟨_, rfl, rfl, fun _ h => h⟩
  | k + 54, h => absurd h (by omega)
set_option maxRecDepth 100000 in
set_option maxHeartbeats 4000000 in
/-- the two objects -/
theorem law_make {l : Launch} {w : WD} {K : KB} {b : Nat} (C : OKB l w true K code 4 RL 1312 600000 7302250) (k : ∀ a1 a2 : Nat → Nat, BW l w K 54 839 18 [(3, .int 0), (2, .ref (a2 0)), (1, .ref (a1 0)), (0, .ref b)] [] (FM4 w a1 ++ FM5 w a2)) : BW l w K 0 0 0 [(0, .ref b)] [] [] := by
  refine b_new C nw_L_7 (by decide) (by decide) dL_law_0 (fun q1 => ?_)
  refine b_dup C dL_law_3 rfl ?_
  refine b_call (w0 := []) C mi_L_9 (ct_X4_init l w) rfl (fun _ => rfl) (by decide) (by decide) (by decide) (Nat.le_of_ble_eq_true rfl) dL_law_4 (fun a1 e1 => ?_)
  subst e1
  refine b_astore_n (lv' := [(1, .ref (a1 0)), (0, .ref b)]) C dL_law_7 rfl (by decide) rfl ?_
  refine b_new C nw_L_10 (by decide) (by decide) dL_law_8 (fun q2 => ?_)
  refine b_dup C dL_law_11 rfl ?_
  refine b_call (w0 := FM4 w a1) C mi_L_12 (ct_X5_init l w) rfl (fun h => by cases h) (by decide) (by decide) (by decide) (Nat.le_of_ble_eq_true rfl) dL_law_12 (fun a2 e2 => ?_)
  subst e2
  refine b_astore_n (lv' := [(2, .ref (a2 0)), (1, .ref (a1 0)), (0, .ref b)]) C dL_law_15 rfl (by decide) rfl ?_
  refine b_iconst C dL_law_16 ic_0 ?_
  refine b_istore_n (lv' := [(3, .int 0), (2, .ref (a2 0)), (1, .ref (a1 0)), (0, .ref b)]) C dL_law_17 rfl (by decide) rfl ?_
  exact k a1 a2
theorem rm_mono {s : State} {pl : Platform} {r r' : Room} (hf : r.frames ≤ r'.frames) (hl : r.locals ≤ r'.locals) (hc : r.cells ≤ r'.cells) (hs : r.slots ≤ r'.slots) (h : s.hasRoom pl r' = true) : s.hasRoom pl r = true := by
  simp only [State.hasRoom, Bool.and_eq_true, decide_eq_true_eq] at h ⊢
  obtain ⟨⟨⟨⟨y, a, b, c, d, e⟩, f⟩, g⟩, i⟩ := h
  exact ⟨⟨⟨⟨Nat.le_trans (Nat.add_le_add_right (Nat.add_le_add_left hl _) _) y, Nat.le_trans (Nat.add_le_add_left hf _) a, Nat.le_trans (Nat.add_le_add_left hf _) b, Nat.le_trans (Nat.add_le_add_left hl _) c, Nat.le_trans (Nat.add_le_add_left hl _) d, e⟩, Nat.le_trans (Nat.add_le_add_left hc _) f⟩, Nat.le_trans (Nat.add_le_add_left hs _) g⟩, i⟩
theorem w_room {p : Program} {l : Launch} {e : Env} {R R' : Room} {s : State} {m : MethodId} {args : Array Value} {below : List Frame} {meth : Method} {c : Code} {H : Heap} {locs : List Loc} {cells slots : Nat} {Q : State → Prop} {g : JFrame} (hf : R.frames ≤ R'.frames) (hl : R.locals ≤ R'.locals) (hc : R.cells ≤ R'.cells) (hs : R.slots ≤ R'.slots) (k : W p l e R s m args below meth c H locs cells slots Q g) : W p l e R' s m args below meth c H locs cells slots Q g :=
  fun T hT X => k T hT ⟨X.admits, X.cas, X.clock, X.frames, rm_mono hf hl hc hs X.room, X.hears, X.method, X.code, X.here, X.tail, X.warmed, X.limits, X.bytes, X.same⟩
set_option maxRecDepth 100000 in
set_option maxHeartbeats 4000000 in
theorem whole_start {p : Program} {e : Env} {s : State} {m : MethodId} {below : List Frame} {meth : Method} {c : Code} (l : Launch) (hflags : l.flags = flags0) {b L : Nat} {xs : Nat → Int32} (hL : L ≤ 1536) (C0 : lw_At p s m meth c b L xs) : W p l e room_1 s m #[Value.ref b] below meth c s.heap [] 0 0 (lw_Z below #[Value.ref b] s) (entryFrame m ([Value.ref b] : List Value).toArray 4) := by
  obtain ⟨hx, hb, hr, hml, hown, hts, hX, hbl, hlocks, hgv⟩ := C0
  have hAT : AT s b := ⟨hts, flat_of_before _ hgv⟩
  obtain ⟨D, cI, cC, cO, hK⟩ := st_K hAT
  obtain ⟨stt, hST⟩ := st_start hAT
  refine w_room (R := rmv 1312 600000 7302250) (Nat.le_of_ble_eq_true rfl) (Nat.le_of_ble_eq_true rfl) (Nat.le_refl _) (Nat.le_refl _) ?_
  have hl := lv_entry ([.ref b]) (n := 4) (Nat.le_of_ble_eq_true rfl)
  rw [lg_entry_eq]
  generalize (lg_sl ([.ref b]) ++ List.replicate (4 - (lg_sl ([.ref b])).length) Slot.unset).toArray = ls at hl ⊢
  have hl : lv_has ls 4 [(0, .ref b)] := hl
  have hCF : CallFix p m c code 4 s #[Value.ref b] gt RL := ⟨hx, hb, hml, hown, fun x h => hts x (gt_tbl h)⟩
  have CB : OKB l (w0J D cI cC cO stt) true ((p, e, rmv 1312 600000 7302250, s, m, #[Value.ref b], below, meth, c), 4, lw_Z below #[Value.ref b] s, aN s) code 4 RL 1312 600000 7302250 := ⟨hCF, hK (w0J D cI cC cO stt) rfl rfl rfl rfl, fun q h => h, hlocks, rfl, rfl, Or.inl rfl, st_NI hAT⟩
  have hBW := law_make (b := b) CB (fun a1 a2 => by
    intro H ls locs hl hP hD hS
    have hat := s0_at D cI cC cO stt a1 a2
    have hP : va_P D vwCl (pw (wJ' D cI cC cO stt a1 a2) s0) H := fun k q hq => by
      obtain ⟨hk, rfl⟩ := pw_get hq
      obtain ⟨q2, h1, h2, h3⟩ := hat k hk
      exact h3 H (hP k q2 h1)
    have hj : pj (wJ' D cI cC cO stt a1 a2) (aN s) := ⟨fun i j hi hj hij => by
      obtain ⟨q1, h1, h2, -⟩ := hat i hi
      obtain ⟨q2, h4, h5, -⟩ := hat j hj
      exact hD.1 i j _ _ h1 h4 (by rw [h2, h5]; exact hij), fun k hk => by
      obtain ⟨q1, h1, h2, -⟩ := hat k hk
      have h6 := hD.2 k _ h1
      rw [h2] at h6
      exact h6⟩
    have C : ∀ cells slots : Nat, cells ≤ 600000 → slots ≤ 7302250 → OK l (wJ' D cI cC cO stt a1 a2) ((p, e, rmv 1312 600000 7302250, s, m, #[Value.ref b], below, meth, c), (4, cells, slots), lw_Z below #[Value.ref b] s, aN s) code 4 RL 1312 600000 7302250 := fun cells slots h1 h2 => ⟨hCF, hK (wJ' D cI cC cO stt a1 a2) rfl rfl rfl rfl, hj, fun q h => h, hST (wJ' D cI cC cO stt a1 a2) rfl, hlocks, rfl, rfl, h1, h2⟩
    have hG := law_loop (l := l) (w := wJ' D cI cC cO stt a1 a2) rfl hL (K0 := ((p, e, rmv 1312 600000 7302250, s, m, #[Value.ref b], below, meth, c), (4, 54, 839), lw_Z below #[Value.ref b] s, aN s)) (C 54 839 (by decide) (by decide)) (b := b) (xs := xs) ⟨hX, hbl, Nat.not_le.mpr hbl⟩ (c0 := 54) (s0 := 839) (by decide) (by decide) (fun K e1 e2 e3 h1 h2 i σ => by
      obtain ⟨X, ⟨nL, c1, c2⟩, Q, A⟩ := K
      cases e1
      cases e2
      cases e3
      exact law_end (C c1 c2 h1 h2) hr) (L + 3) 0 rfl (Nat.zero_le _) ((p, e, rmv 1312 600000 7302250, s, m, #[Value.ref b], below, meth, c), (4, 54, 839), lw_Z below #[Value.ref b] s, aN s) rfl rfl rfl (Nat.le_refl _) (Nat.le_refl _) s0 A0 s0_x s0_m
    exact hG H ls locs hl hP hS)
  exact hBW s.heap ls [] hl (fun k q h => by simp at h) ⟨fun i j p q h => by simp at h, fun k q h => by simp at h⟩ va_S.rf

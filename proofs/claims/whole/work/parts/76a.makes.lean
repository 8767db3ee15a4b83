/-! ===== the makings ===== -/
def opI : Nat → Int32 := (upd (upd (upd (upd (upd (upd (upd (fun _ => 0) 0 1) 1 1) 2 1) 3 1) 4 1) 5 1) 6 1)
def seI : Nat → Int32 := (upd (upd (upd (upd (upd (upd (fun _ => 0) 0 6) 1 0) 2 2) 3 1) 4 3) 5 0)
def begI : Nat → Int32 := (upd (upd (upd (upd (upd (upd (upd (fun _ => 0) 0 101) 1 115) 2 119) 3 98) 4 104) 5 99) 6 100)
def eatI : Nat → Int32 := (upd (upd (upd (upd (upd (upd (fun _ => 0) 0 101) 1 102) 2 99) 3 112) 4 104) 5 97)
def houI : Nat → Int32 := (upd (upd (upd (upd (upd (upd (fun _ => 0) 0 111) 1 110) 2 109) 3 116) 4 98) 5 115)
def opnI : Nat → Int32 := (upd (upd (fun _ => 0) 0 120) 1 111)
def nowI : Nat → Int32 := (upd (upd (upd (upd (upd (upd (upd (upd (upd (upd (upd (fun _ => 0) 2 6) 4 2) 5 1) 6 3) 20 1) 21 1) 22 1) 23 1) 24 1) 25 1) 26 1)
def FM0 (_ : WD) (adr : Nat → Nat) : va_W := [(adr 0, .inr (0, [.int 0, .int 0]))]
def FM2 (w : WD) (adr : Nat → Nat) : va_W := [(adr 0, .inr (2, [.ref (adr 1), .int 0])), (adr 1, .inl (wC w, 96, .inl (fun _ => 0)))]
def FM3 (w : WD) (adr : Nat → Nat) : va_W := [(adr 0, .inr (3, [.ref (adr 1), .ref (adr 2), .int 0])), (adr 1, .inl (wI w, 6, .inl (fun _ => 0))), (adr 2, .inl (wI w, 20, .inl (fun _ => 0)))]
def FM1 (w : WD) (adr : Nat → Nat) : va_W := [(adr 0, .inr (1, [.ref (adr 1), .ref (adr 2), .ref (adr 3), .ref (adr 4), .int 0, .int 0, .int 0])), (adr 1, .inl (wI w, 5, .inl (fun _ => 0))), (adr 2, .inl (wI w, 7, .inl opI)), (adr 3, .inl (wI w, 6, .inl seI)), (adr 4, .inl (wO w, 4, .inr (.inr (.inr (.inr (rf4 (adr 5) (adr 6) (adr 7) (adr 8))))))), (adr 5, .inl (wI w, 4, .inl (fun _ => 0))), (adr 6, .inl (wI w, 4, .inl (fun _ => 0))), (adr 7, .inl (wI w, 4, .inl (fun _ => 0))), (adr 8, .inl (wI w, 4, .inl (fun _ => 0)))]
def FM4 (w : WD) (adr : Nat → Nat) : va_W := (adr 0, .inr (4, [.ref (adr 1), .ref (adr 10), .ref (adr 19), .ref (adr 28), .ref (adr 31), .ref (adr 32), .ref (adr 34), .ref (adr 35), .ref (adr 36), .ref (adr 37), .int 0, .int 0])) :: (FM1 w (fun k => adr (1 + k)) ++ (FM1 w (fun k => adr (10 + k)) ++ (FM1 w (fun k => adr (19 + k)) ++ (FM3 w (fun k => adr (28 + k)) ++ (FM0 w (fun k => adr (31 + k)) ++ (FM2 w (fun k => adr (32 + k)) ++ [(adr 34, .inl (wI w, 20, .inl (fun _ => 0))), (adr 35, .inl (wI w, 7, .inl (fun _ => 0))), (adr 36, .inl (wI w, 81, .inl (fun _ => 0))), (adr 37, .inl (wI w, 64, .inl (fun _ => 0)))]))))))
def FM5 (w : WD) (adr : Nat → Nat) : va_W := [(adr 0, .inr (5, [.ref (adr 1), .ref (adr 2), .ref (adr 3), .ref (adr 4), .int 0, .ref (adr 5), .ref (adr 6), .int 0, .int 0, .int 0, .int 0, .int 0, .int 0, .ref (adr 7), .ref (adr 8), .int 0, .int 0, .int 0, .ref (adr 9), .ref (adr 10), .ref (adr 11), .ref (adr 12), .int 0, .ref (adr 13), .int 0, .ref (adr 14), .ref (adr 15), .int 0])), (adr 1, .inl (wI w, 7, .inl (fun _ => 0))), (adr 2, .inl (wI w, 46, .inl nowI)), (adr 3, .inl (wI w, 46, .inl (fun _ => 0))), (adr 4, .inl (wI w, 46, .inl (fun _ => 0))), (adr 5, .inl (wI w, 4, .inl (fun _ => 0))), (adr 6, .inl (wI w, 60, .inl (fun _ => 0))), (adr 7, .inl (wI w, 6, .inl (fun _ => 0))), (adr 8, .inl (wI w, 96, .inl (fun _ => 0))), (adr 9, .inl (wC w, 7, .inl begI)), (adr 10, .inl (wC w, 6, .inl eatI)), (adr 11, .inl (wC w, 6, .inl houI)), (adr 12, .inl (wC w, 2, .inl opnI)), (adr 13, .inl (wI w, 7, .inl (fun _ => 0))), (adr 14, .inl (wI w, 4, .inl (fun _ => 0))), (adr 15, .inl (wI w, 20, .inl (fun _ => 0)))]
section BR
variable {l : Launch} {w : WD} {K : KB} {cells slots pc : Nat} {lv : List (Nat × Value)} {st : List Value} {ws : va_W}
theorem b_re {ws' : va_W} (h : ws = ws') (k : BW l w K cells slots pc lv st ws') : BW l w K cells slots pc lv st ws := h ▸ k
theorem b_val {x y : Int32} (h : x = y) (k : BW l w K cells slots pc lv (.int y :: st) ws) : BW l w K cells slots pc lv (.int x :: st) ws := h ▸ k
end BR
set_option maxRecDepth 100000 in
set_option maxHeartbeats 4000000 in
theorem ct_X0_init (l : Launch) (w : WD) : CtB l w false yX0_init cX0_init 1 1 0 0 (.inr (0, [.int 0, .int 0])) (FM0 w) := by
  refine CtB.mk (by decide) (by decide) rfl (fun h0 K C r => ?_)
  refine b_aload_n C dX0_init_0 rfl rfl ?_
  refine b_obj C oi_X0_3 oi_m oi_c (by decide) dX0_init_1 (Nat.le_of_ble_eq_true rfl) ?_
  exact b_vret (fun k => [h0].getD k 0) C r rfl rfl dX0_init_4
set_option maxRecDepth 100000 in
set_option maxHeartbeats 4000000 in
theorem ct_X2_init (l : Launch) (w : WD) : CtB l w false yX2_init cX2_init 1 1 1 96 (.inr (2, [.null, .int 0])) (FM2 w) := by
  refine CtB.mk (by decide) (by decide) rfl (fun h0 K C r => ?_)
  refine b_aload_n C dX2_init_0 rfl rfl ?_
  refine b_obj C oi_X2_3 oi_m oi_c (by decide) dX2_init_1 (Nat.le_of_ble_eq_true rfl) ?_
  refine b_aload_n C dX2_init_4 rfl rfl ?_
  refine b_bipush C dX2_init_5 bp_96 ?_
  refine b_newc (N := 96) C ac_char (by decide) (by decide) (by decide) (by decide) (by decide) dX2_init_7 (fun q1 => ?_)
  refine b_re (ws' := ((h0, .inr (2, [.null, .int 0])) :: ([] ++ [(q1, .inl (wC w, 96, .inl (fun _ => 0)))]))) rfl ?_
  refine b_putr (fs := [.null, .int 0]) (tl := ([] ++ [(q1, .inl (wC w, 96, .inl (fun _ => 0)))])) C (by decide) ff_X2_9 rfl (Nat.le_of_ble_eq_true rfl) dX2_init_9 ?_
  refine b_re (ws' := ((h0, .inr (2, [.ref q1, .int 0])) :: ([] ++ [(q1, .inl (wC w, 96, .inl (fun _ => 0)))]))) rfl ?_
  exact b_vret (fun k => [h0, q1].getD k 0) C r rfl rfl dX2_init_12
set_option maxRecDepth 100000 in
set_option maxHeartbeats 4000000 in
theorem ct_X3_init (l : Launch) (w : WD) : CtB l w false yX3_init cX3_init 1 1 2 26 (.inr (3, [.null, .null, .int 0])) (FM3 w) := by
  refine CtB.mk (by decide) (by decide) rfl (fun h0 K C r => ?_)
  refine b_aload_n C dX3_init_0 rfl rfl ?_
  refine b_obj C oi_X3_3 oi_m oi_c (by decide) dX3_init_1 (Nat.le_of_ble_eq_true rfl) ?_
  refine b_aload_n C dX3_init_4 rfl rfl ?_
  refine b_bipush C dX3_init_5 bp_6 ?_
  refine b_newi (N := 6) C ac_int (by decide) (by decide) (by decide) (by decide) (by decide) dX3_init_7 (fun q1 => ?_)
  refine b_re (ws' := ((h0, .inr (3, [.null, .null, .int 0])) :: ([] ++ [(q1, .inl (wI w, 6, .inl (fun _ => 0)))]))) rfl ?_
  refine b_putr (fs := [.null, .null, .int 0]) (tl := ([] ++ [(q1, .inl (wI w, 6, .inl (fun _ => 0)))])) C (by decide) ff_X3_9 rfl (Nat.le_of_ble_eq_true rfl) dX3_init_9 ?_
  refine b_re (ws' := ((h0, .inr (3, [.ref q1, .null, .int 0])) :: ([] ++ [(q1, .inl (wI w, 6, .inl (fun _ => 0)))]))) rfl ?_
  refine b_aload_n C dX3_init_12 rfl rfl ?_
  refine b_bipush C dX3_init_13 bp_20 ?_
  refine b_newi (N := 20) C ac_int (by decide) (by decide) (by decide) (by decide) (by decide) dX3_init_15 (fun q2 => ?_)
  refine b_re (ws' := ((h0, .inr (3, [.ref q1, .null, .int 0])) :: (([] ++ [(q1, .inl (wI w, 6, .inl (fun _ => 0)))]) ++ [(q2, .inl (wI w, 20, .inl (fun _ => 0)))]))) rfl ?_
  refine b_putr (fs := [.ref q1, .null, .int 0]) (tl := (([] ++ [(q1, .inl (wI w, 6, .inl (fun _ => 0)))]) ++ [(q2, .inl (wI w, 20, .inl (fun _ => 0)))])) C (by decide) ff_X3_15 rfl (Nat.le_of_ble_eq_true rfl) dX3_init_17 ?_
  refine b_re (ws' := ((h0, .inr (3, [.ref q1, .ref q2, .int 0])) :: (([] ++ [(q1, .inl (wI w, 6, .inl (fun _ => 0)))]) ++ [(q2, .inl (wI w, 20, .inl (fun _ => 0)))]))) rfl ?_
  exact b_vret (fun k => [h0, q1, q2].getD k 0) C r rfl rfl dX3_init_20

/-! ===== the makings ===== -/
def opI : Nat → Int32 := (upd (upd (upd (upd (upd (upd (upd (fun _ => 0) 0 1) 1 1) 2 1) 3 1) 4 1) 5 1) 6 1)
def seI : Nat → Int32 := (upd (upd (upd (upd (upd (upd (fun _ => 0) 0 6) 1 0) 2 2) 3 1) 4 3) 5 0)
def begI : Nat → Int32 := (upd (upd (upd (upd (upd (upd (upd (fun _ => 0) 0 101) 1 115) 2 119) 3 98) 4 104) 5 99) 6 100)
def eatI : Nat → Int32 := (upd (upd (upd (upd (upd (upd (fun _ => 0) 0 101) 1 102) 2 99) 3 112) 4 104) 5 97)
def houI : Nat → Int32 := (upd (upd (upd (upd (upd (upd (fun _ => 0) 0 111) 1 110) 2 109) 3 116) 4 98) 5 115)
def opnI : Nat → Int32 := (upd (upd (fun _ => 0) 0 120) 1 111)
def nowI : Nat → Int32 := (upd (upd (upd (upd (upd (upd (upd (upd (upd (upd (upd (fun _ => 0) 2 6) 4 2) 5 1) 6 3) 20 1) 21 1) 22 1) 23 1) 24 1) 25 1) 26 1)
def FM0 (_ : WD) (adr : Nat → Nat) : va_W := [(adr 0, .inr (0, [.int 0, .int 0]))]
def FM2 (w : WD) (adr : Nat → Nat) : va_W := [(adr 0, .inr (2, [.ref (adr 1), .int 0])), (adr 1, .inl (wC w, 96, .inl (fun _ => 0)))]
def FM3 (w : WD) (adr : Nat → Nat) : va_W := [(adr 0, .inr (3, [.ref (adr 1), .ref (adr 2), .int 0])), (adr 1, .inl (wI w, 6, .inl (fun _ => 0))), (adr 2, .inl (wI w, 20, .inl (fun _ => 0)))]
def FM1 (w : WD) (adr : Nat → Nat) : va_W := [(adr 0, .inr (1, [.ref (adr 1), .ref (adr 2), .ref (adr 3), .ref (adr 4), .int 0, .int 0, .int 0])), (adr 1, .inl (wI w, 5, .inl (fun _ => 0))), (adr 2, .inl (wI w, 7, .inl opI)), (adr 3, .inl (wI w, 6, .inl seI)), (adr 4, .inl (wO w, 4, .inr (.inr (.inr (.inr (rf4 (adr 5) (adr 6) (adr 7) (adr 8))))))), (adr 5, .inl (wI w, 4, .inl (fun _ => 0))), (adr 6, .inl (wI w, 4, .inl (fun _ => 0))), (adr 7, .inl (wI w, 4, .inl (fun _ => 0))), (adr 8, .inl (wI w, 4, .inl (fun _ => 0)))]
def FM4 (w : WD) (adr : Nat → Nat) : va_W := (adr 0, .inr (4, [.ref (adr 1), .ref (adr 10), .ref (adr 19), .ref (adr 28), .ref (adr 31), .ref (adr 32), .ref (adr 34), .ref (adr 35), .ref (adr 36), .ref (adr 37), .int 0, .int 0])) :: (FM1 w (fun k => adr (1 + k)) ++ (FM1 w (fun k => adr (10 + k)) ++ (FM1 w (fun k => adr (19 + k)) ++ (FM3 w (fun k => adr (28 + k)) ++ (FM0 w (fun k => adr (31 + k)) ++ (FM2 w (fun k => adr (32 + k)) ++ [(adr 34, .inl (wI w, 20, .inl (fun _ => 0))), (adr 35, .inl (wI w, 7, .inl (fun _ => 0))), (adr 36, .inl (wI w, 81, .inl (fun _ => 0))), (adr 37, .inl (wI w, 64, .inl (fun _ => 0)))]))))))
def FM5 (w : WD) (adr : Nat → Nat) : va_W := [(adr 0, .inr (5, [.ref (adr 1), .ref (adr 2), .ref (adr 3), .ref (adr 4), .int 0, .ref (adr 5), .ref (adr 6), .int 0, .int 0, .int 0, .int 0, .int 0, .int 0, .ref (adr 7), .ref (adr 8), .int 0, .int 0, .int 0, .ref (adr 9), .ref (adr 10), .ref (adr 11), .ref (adr 12), .int 0, .ref (adr 13), .int 0, .ref (adr 14), .ref (adr 15), .int 0])), (adr 1, .inl (wI w, 7, .inl (fun _ => 0))), (adr 2, .inl (wI w, 46, .inl nowI)), (adr 3, .inl (wI w, 46, .inl (fun _ => 0))), (adr 4, .inl (wI w, 46, .inl (fun _ => 0))), (adr 5, .inl (wI w, 4, .inl (fun _ => 0))), (adr 6, .inl (wI w, 60, .inl (fun _ => 0))), (adr 7, .inl (wI w, 6, .inl (fun _ => 0))), (adr 8, .inl (wI w, 96, .inl (fun _ => 0))), (adr 9, .inl (wC w, 7, .inl begI)), (adr 10, .inl (wC w, 6, .inl eatI)), (adr 11, .inl (wC w, 6, .inl houI)), (adr 12, .inl (wC w, 2, .inl opnI)), (adr 13, .inl (wI w, 7, .inl (fun _ => 0))), (adr 14, .inl (wI w, 4, .inl (fun _ => 0))), (adr 15, .inl (wI w, 20, .inl (fun _ => 0)))]
section BR
variable {l : Launch} {w : WD} {K : KB} {cells slots pc : Nat} {lv : List (Nat × Value)} {st : List Value} {ws : va_W}
theorem b_val {x y : Int32} (h : x = y) (k : BW l w K cells slots pc lv (.int y :: st) ws) : BW l w K cells slots pc lv (.int x :: st) ws := h ▸ k
end BR
set_option maxRecDepth 100000 in
set_option maxHeartbeats 4000000 in
theorem ct_X0_init (l : Launch) (w : WD) : CtB l w false yX0_init cX0_init 1 1 0 0 (.inr (0, [.int 0, .int 0])) (FM0 w) := by
  refine CtB.mk (by decide) (by decide) rfl (fun h0 K C r => ?_)
  refine b_aload_n C dX0_init_0 rfl rfl ?_
  refine b_obj C oi_X0_3 oi_m oi_c (by decide) dX0_init_1 (Nat.le_of_ble_eq_true rfl) ?_
  exact b_vret (fun k => [h0].getD k 0) C r rfl rfl dX0_init_4
set_option maxRecDepth 100000 in
set_option maxHeartbeats 4000000 in
theorem ct_X2_init (l : Launch) (w : WD) : CtB l w false yX2_init cX2_init 1 1 1 96 (.inr (2, [.null, .int 0])) (FM2 w) := by
  refine CtB.mk (by decide) (by decide) rfl (fun h0 K C r => ?_)
  refine b_aload_n C dX2_init_0 rfl rfl ?_
  refine b_obj C oi_X2_3 oi_m oi_c (by decide) dX2_init_1 (Nat.le_of_ble_eq_true rfl) ?_
  refine b_aload_n C dX2_init_4 rfl rfl ?_
  refine b_bipush C dX2_init_5 bp_96 ?_
  refine b_newc (N := 96) C ac_char (by decide) (by decide) (by decide) (by decide) (by decide) dX2_init_7 (fun q1 => ?_)
  refine b_putr C (by decide) ff_X2_9 rfl (Nat.le_of_ble_eq_true rfl) dX2_init_9 ?_
  exact b_vret (fun k => [h0, q1].getD k 0) C r rfl rfl dX2_init_12
set_option maxRecDepth 100000 in
set_option maxHeartbeats 4000000 in
theorem ct_X3_init (l : Launch) (w : WD) : CtB l w false yX3_init cX3_init 1 1 2 26 (.inr (3, [.null, .null, .int 0])) (FM3 w) := by
  refine CtB.mk (by decide) (by decide) rfl (fun h0 K C r => ?_)
  refine b_aload_n C dX3_init_0 rfl rfl ?_
  refine b_obj C oi_X3_3 oi_m oi_c (by decide) dX3_init_1 (Nat.le_of_ble_eq_true rfl) ?_
  refine b_aload_n C dX3_init_4 rfl rfl ?_
  refine b_bipush C dX3_init_5 bp_6 ?_
  refine b_newi (N := 6) C ac_int (by decide) (by decide) (by decide) (by decide) (by decide) dX3_init_7 (fun q1 => ?_)
  refine b_putr C (by decide) ff_X3_9 rfl (Nat.le_of_ble_eq_true rfl) dX3_init_9 ?_
  refine b_aload_n C dX3_init_12 rfl rfl ?_
  refine b_bipush C dX3_init_13 bp_20 ?_
  refine b_newi (N := 20) C ac_int (by decide) (by decide) (by decide) (by decide) (by decide) dX3_init_15 (fun q2 => ?_)
  refine b_putr C (by decide) ff_X3_15 rfl (Nat.le_of_ble_eq_true rfl) dX3_init_17 ?_
  exact b_vret (fun k => [h0, q1, q2].getD k 0) C r rfl rfl dX3_init_20
set_option maxRecDepth 100000 in
set_option maxHeartbeats 4000000 in
theorem ct_X1_init (l : Launch) (w : WD) : CtB l w true yX1_init cX1_init 1 1 8 38 (.inr (1, [.null, .null, .null, .null, .int 0, .int 0, .int 0])) (FM1 w) := by
  refine CtB.mk (by decide) (by decide) rfl (fun h0 K C r => ?_)
  refine b_aload_n C dX1_init_0 rfl rfl ?_
  refine b_obj C oi_X1_3 oi_m oi_c (by decide) dX1_init_1 (Nat.le_of_ble_eq_true rfl) ?_
  refine b_aload_n C dX1_init_4 rfl rfl ?_
  refine b_iconst C dX1_init_5 ic_5 ?_
  refine b_newi (N := 5) C ac_int (by decide) (by decide) (by decide) (by decide) (by decide) dX1_init_6 (fun q1 => ?_)
  refine b_putr C (by decide) ff_X1_9 rfl (Nat.le_of_ble_eq_true rfl) dX1_init_8 ?_
  refine b_aload_n C dX1_init_11 rfl rfl ?_
  refine b_bipush C dX1_init_12 bp_7 ?_
  refine b_newi (N := 7) C ac_int (by decide) (by decide) (by decide) (by decide) (by decide) dX1_init_14 (fun q2 => ?_)
  refine b_dup C dX1_init_16 rfl ?_
  refine b_iconst C dX1_init_17 ic_0 ?_
  refine b_iconst C dX1_init_18 ic_1 ?_
  refine b_iasl (j := 0) C rfl (by unfold ix; decide) dX1_init_19 ?_
  refine b_dup C dX1_init_20 rfl ?_
  refine b_iconst C dX1_init_21 ic_1 ?_
  refine b_iconst C dX1_init_22 ic_1 ?_
  refine b_iasl (j := 1) C rfl (by unfold ix; decide) dX1_init_23 ?_
  refine b_dup C dX1_init_24 rfl ?_
  refine b_iconst C dX1_init_25 ic_2 ?_
  refine b_iconst C dX1_init_26 ic_1 ?_
  refine b_iasl (j := 2) C rfl (by unfold ix; decide) dX1_init_27 ?_
  refine b_dup C dX1_init_28 rfl ?_
  refine b_iconst C dX1_init_29 ic_3 ?_
  refine b_iconst C dX1_init_30 ic_1 ?_
  refine b_iasl (j := 3) C rfl (by unfold ix; decide) dX1_init_31 ?_
  refine b_dup C dX1_init_32 rfl ?_
  refine b_iconst C dX1_init_33 ic_4 ?_
  refine b_iconst C dX1_init_34 ic_1 ?_
  refine b_iasl (j := 4) C rfl (by unfold ix; decide) dX1_init_35 ?_
  refine b_dup C dX1_init_36 rfl ?_
  refine b_iconst C dX1_init_37 ic_5 ?_
  refine b_iconst C dX1_init_38 ic_1 ?_
  refine b_iasl (j := 5) C rfl (by unfold ix; decide) dX1_init_39 ?_
  refine b_dup C dX1_init_40 rfl ?_
  refine b_bipush C dX1_init_41 bp_6 ?_
  refine b_iconst C dX1_init_43 ic_1 ?_
  refine b_iasl (j := 6) C rfl (by unfold ix; decide) dX1_init_44 ?_
  refine b_putr C (by decide) ff_X1_15 rfl (Nat.le_of_ble_eq_true rfl) dX1_init_45 ?_
  refine b_aload_n C dX1_init_48 rfl rfl ?_
  refine b_bipush C dX1_init_49 bp_6 ?_
  refine b_newi (N := 6) C ac_int (by decide) (by decide) (by decide) (by decide) (by decide) dX1_init_51 (fun q3 => ?_)
  refine b_dup C dX1_init_53 rfl ?_
  refine b_iconst C dX1_init_54 ic_0 ?_
  refine b_bipush C dX1_init_55 bp_6 ?_
  refine b_iasl (j := 0) C rfl (by unfold ix; decide) dX1_init_57 ?_
  refine b_dup C dX1_init_58 rfl ?_
  refine b_iconst C dX1_init_59 ic_1 ?_
  refine b_iconst C dX1_init_60 ic_0 ?_
  refine b_iasl (j := 1) C rfl (by unfold ix; decide) dX1_init_61 ?_
  refine b_dup C dX1_init_62 rfl ?_
  refine b_iconst C dX1_init_63 ic_2 ?_
  refine b_iconst C dX1_init_64 ic_2 ?_
  refine b_iasl (j := 2) C rfl (by unfold ix; decide) dX1_init_65 ?_
  refine b_dup C dX1_init_66 rfl ?_
  refine b_iconst C dX1_init_67 ic_3 ?_
  refine b_iconst C dX1_init_68 ic_1 ?_
  refine b_iasl (j := 3) C rfl (by unfold ix; decide) dX1_init_69 ?_
  refine b_dup C dX1_init_70 rfl ?_
  refine b_iconst C dX1_init_71 ic_4 ?_
  refine b_iconst C dX1_init_72 ic_3 ?_
  refine b_iasl (j := 4) C rfl (by unfold ix; decide) dX1_init_73 ?_
  refine b_dup C dX1_init_74 rfl ?_
  refine b_iconst C dX1_init_75 ic_5 ?_
  refine b_iconst C dX1_init_76 ic_0 ?_
  refine b_iasl (j := 5) C rfl (by unfold ix; decide) dX1_init_77 ?_
  refine b_putr C (by decide) ff_X1_18 rfl (Nat.le_of_ble_eq_true rfl) dX1_init_78 ?_
  refine b_aload_n C dX1_init_81 rfl rfl ?_
  refine b_iconst C dX1_init_82 ic_4 ?_
  refine b_iconst C dX1_init_83 ic_4 ?_
  refine b_mna C ck_X1_21 rfl ac_int (by decide) (by decide) dX1_init_84 (fun q4 => ?_)
  refine b_putr C (by decide) ff_X1_23 rfl (Nat.le_of_ble_eq_true rfl) dX1_init_88 ?_
  exact b_vret (fun k => [h0, q1, q2, q3, q4, q4 + 1, q4 + 2, q4 + 3, q4 + 4].getD k 0) C r rfl rfl dX1_init_91
set_option maxRecDepth 100000 in
set_option maxHeartbeats 4000000 in
theorem ct_X4_init (l : Launch) (w : WD) : CtB l w true yX4_init cX4_init 1 2 37 436 (.inr (4, [.null, .null, .null, .null, .null, .null, .null, .null, .null, .null, .int 0, .int 0])) (FM4 w) := by
  refine CtB.mk (by decide) (by decide) rfl (fun h0 K C r => ?_)
  refine b_aload_n C dX4_init_0 rfl rfl ?_
  refine b_obj C oi_X4_3 oi_m oi_c (by decide) dX4_init_1 (Nat.le_of_ble_eq_true rfl) ?_
  refine b_aload_n C dX4_init_4 rfl rfl ?_
  refine b_new C nw_X4_9 (by decide) (by decide) dX4_init_5 (fun q1 => ?_)
  refine b_dup C dX4_init_8 rfl ?_
  refine b_calN C mj_X4_11 (fun U h => (h rfl).1) (ct_X1_init l w) rfl (fun _ => rfl) (by decide) (by decide) (by decide) (Nat.le_of_ble_eq_true rfl) dX4_init_9 (fun a1 ea1 => ?_)
  subst ea1
  refine b_putr C (by decide) ff_X4_12 rfl (Nat.le_of_ble_eq_true rfl) dX4_init_12 ?_
  refine b_aload_n C dX4_init_15 rfl rfl ?_
  refine b_new C nw_X4_9 (by decide) (by decide) dX4_init_16 (fun q2 => ?_)
  refine b_dup C dX4_init_19 rfl ?_
  refine b_calN C mj_X4_11 (fun U h => (h rfl).1) (ct_X1_init l w) rfl (fun _ => rfl) (by decide) (by decide) (by decide) (Nat.le_of_ble_eq_true rfl) dX4_init_20 (fun a2 ea2 => ?_)
  subst ea2
  refine b_putr C (by decide) ff_X4_16 rfl (Nat.le_of_ble_eq_true rfl) dX4_init_23 ?_
  refine b_aload_n C dX4_init_26 rfl rfl ?_
  refine b_new C nw_X4_9 (by decide) (by decide) dX4_init_27 (fun q3 => ?_)
  refine b_dup C dX4_init_30 rfl ?_
  refine b_calN C mj_X4_11 (fun U h => (h rfl).1) (ct_X1_init l w) rfl (fun _ => rfl) (by decide) (by decide) (by decide) (Nat.le_of_ble_eq_true rfl) dX4_init_31 (fun a3 ea3 => ?_)
  subst ea3
  refine b_putr C (by decide) ff_X4_19 rfl (Nat.le_of_ble_eq_true rfl) dX4_init_34 ?_
  refine b_aload_n C dX4_init_37 rfl rfl ?_
  refine b_new C nw_X4_22 (by decide) (by decide) dX4_init_38 (fun q4 => ?_)
  refine b_dup C dX4_init_41 rfl ?_
  refine b_calN C mj_X4_24 (fun U h => (h rfl).2.1) (ct_X3_init l w) rfl (fun _ => rfl) (by decide) (by decide) (by decide) (Nat.le_of_ble_eq_true rfl) dX4_init_42 (fun a4 ea4 => ?_)
  subst ea4
  refine b_putr C (by decide) ff_X4_25 rfl (Nat.le_of_ble_eq_true rfl) dX4_init_45 ?_
  refine b_aload_n C dX4_init_48 rfl rfl ?_
  refine b_new C nw_X4_29 (by decide) (by decide) dX4_init_49 (fun q5 => ?_)
  refine b_dup C dX4_init_52 rfl ?_
  refine b_calN C mj_X4_31 (fun U h => (h rfl).2.2.1) (ct_X0_init l w) rfl (fun _ => rfl) (by decide) (by decide) (by decide) (Nat.le_of_ble_eq_true rfl) dX4_init_53 (fun a5 ea5 => ?_)
  subst ea5
  refine b_putr C (by decide) ff_X4_32 rfl (Nat.le_of_ble_eq_true rfl) dX4_init_56 ?_
  refine b_aload_n C dX4_init_59 rfl rfl ?_
  refine b_new C nw_X4_36 (by decide) (by decide) dX4_init_60 (fun q6 => ?_)
  refine b_dup C dX4_init_63 rfl ?_
  refine b_calN C mj_X4_38 (fun U h => (h rfl).2.2.2.1) (ct_X2_init l w) rfl (fun _ => rfl) (by decide) (by decide) (by decide) (Nat.le_of_ble_eq_true rfl) dX4_init_64 (fun a6 ea6 => ?_)
  subst ea6
  refine b_putr C (by decide) ff_X4_39 rfl (Nat.le_of_ble_eq_true rfl) dX4_init_67 ?_
  refine b_aload_n C dX4_init_70 rfl rfl ?_
  refine b_bipush C dX4_init_71 bp_20 ?_
  refine b_newi (N := 20) C ac_int (by decide) (by decide) (by decide) (by decide) (by decide) dX4_init_73 (fun q7 => ?_)
  refine b_putr C (by decide) ff_X4_43 rfl (Nat.le_of_ble_eq_true rfl) dX4_init_75 ?_
  refine b_aload_n C dX4_init_78 rfl rfl ?_
  refine b_bipush C dX4_init_79 bp_7 ?_
  refine b_newi (N := 7) C ac_int (by decide) (by decide) (by decide) (by decide) (by decide) dX4_init_81 (fun q8 => ?_)
  refine b_putr C (by decide) ff_X4_47 rfl (Nat.le_of_ble_eq_true rfl) dX4_init_83 ?_
  refine b_aload_n C dX4_init_86 rfl rfl ?_
  refine b_bipush C dX4_init_87 bp_81 ?_
  refine b_newi (N := 81) C ac_int (by decide) (by decide) (by decide) (by decide) (by decide) dX4_init_89 (fun q9 => ?_)
  refine b_putr C (by decide) ff_X4_50 rfl (Nat.le_of_ble_eq_true rfl) dX4_init_91 ?_
  refine b_aload_n C dX4_init_94 rfl rfl ?_
  refine b_bipush C dX4_init_95 bp_64 ?_
  refine b_newi (N := 64) C ac_int (by decide) (by decide) (by decide) (by decide) (by decide) dX4_init_97 (fun q10 => ?_)
  refine b_putr C (by decide) ff_X4_53 rfl (Nat.le_of_ble_eq_true rfl) dX4_init_99 ?_
  exact b_vret (fun k => [h0, a1 0, a1 1, a1 2, a1 3, a1 4, a1 5, a1 6, a1 7, a1 8, a2 0, a2 1, a2 2, a2 3, a2 4, a2 5, a2 6, a2 7, a2 8, a3 0, a3 1, a3 2, a3 3, a3 4, a3 5, a3 6, a3 7, a3 8, a4 0, a4 1, a4 2, a5 0, a6 0, a6 1, q7, q8, q9, q10].getD k 0) C r rfl rfl dX4_init_102
set_option maxRecDepth 100000 in
set_option maxHeartbeats 4000000 in
theorem ct_X5_init (l : Launch) (w : WD) : CtB l w false yX5_init cX5_init 2 1 15 363 (.inr (5, [.null, .null, .null, .null, .int 0, .null, .null, .int 0, .int 0, .int 0, .int 0, .int 0, .int 0, .null, .null, .int 0, .int 0, .int 0, .null, .null, .null, .null, .int 0, .null, .int 0, .null, .null, .int 0])) (FM5 w) := by
  refine CtB.mk (by decide) (by decide) rfl (fun h0 K C r => ?_)
  refine b_aload_n C dX5_init_0 rfl rfl ?_
  refine b_obj C oi_X5_7 oi_m oi_c (by decide) dX5_init_1 (Nat.le_of_ble_eq_true rfl) ?_
  refine b_aload_n C dX5_init_4 rfl rfl ?_
  refine b_bipush C dX5_init_5 bp_7 ?_
  refine b_newi (N := 7) C ac_int (by decide) (by decide) (by decide) (by decide) (by decide) dX5_init_7 (fun q1 => ?_)
  refine b_putr C (by decide) ff_X5_1 rfl (Nat.le_of_ble_eq_true rfl) dX5_init_9 ?_
  refine b_aload_n C dX5_init_12 rfl rfl ?_
  refine b_bipush C dX5_init_13 bp_46 ?_
  refine b_newi (N := 46) C ac_int (by decide) (by decide) (by decide) (by decide) (by decide) dX5_init_15 (fun q2 => ?_)
  refine b_putr C (by decide) ff_X5_13 rfl (Nat.le_of_ble_eq_true rfl) dX5_init_17 ?_
  refine b_aload_n C dX5_init_20 rfl rfl ?_
  refine b_bipush C dX5_init_21 bp_46 ?_
  refine b_newi (N := 46) C ac_int (by decide) (by decide) (by decide) (by decide) (by decide) dX5_init_23 (fun q3 => ?_)
  refine b_putr C (by decide) ff_X5_16 rfl (Nat.le_of_ble_eq_true rfl) dX5_init_25 ?_
  refine b_aload_n C dX5_init_28 rfl rfl ?_
  refine b_bipush C dX5_init_29 bp_46 ?_
  refine b_newi (N := 46) C ac_int (by decide) (by decide) (by decide) (by decide) (by decide) dX5_init_31 (fun q4 => ?_)
  refine b_putr C (by decide) ff_X5_19 rfl (Nat.le_of_ble_eq_true rfl) dX5_init_33 ?_
  refine b_aload_n C dX5_init_36 rfl rfl ?_
  refine b_iconst C dX5_init_37 ic_4 ?_
  refine b_newi (N := 4) C ac_int (by decide) (by decide) (by decide) (by decide) (by decide) dX5_init_38 (fun q5 => ?_)
  refine b_putr C (by decide) ff_X5_22 rfl (Nat.le_of_ble_eq_true rfl) dX5_init_40 ?_
  refine b_aload_n C dX5_init_43 rfl rfl ?_
  refine b_bipush C dX5_init_44 bp_60 ?_
  refine b_newi (N := 60) C ac_int (by decide) (by decide) (by decide) (by decide) (by decide) dX5_init_46 (fun q6 => ?_)
  refine b_putr C (by decide) ff_X5_25 rfl (Nat.le_of_ble_eq_true rfl) dX5_init_48 ?_
  refine b_aload_n C dX5_init_51 rfl rfl ?_
  refine b_bipush C dX5_init_52 bp_6 ?_
  refine b_newi (N := 6) C ac_int (by decide) (by decide) (by decide) (by decide) (by decide) dX5_init_54 (fun q7 => ?_)
  refine b_putr C (by decide) ff_X5_28 rfl (Nat.le_of_ble_eq_true rfl) dX5_init_56 ?_
  refine b_aload_n C dX5_init_59 rfl rfl ?_
  refine b_bipush C dX5_init_60 bp_96 ?_
  refine b_newi (N := 96) C ac_int (by decide) (by decide) (by decide) (by decide) (by decide) dX5_init_62 (fun q8 => ?_)
  refine b_putr C (by decide) ff_X5_31 rfl (Nat.le_of_ble_eq_true rfl) dX5_init_64 ?_
  refine b_aload_n C dX5_init_67 rfl rfl ?_
  refine b_bipush C dX5_init_68 bp_7 ?_
  refine b_newc (N := 7) C ac_char (by decide) (by decide) (by decide) (by decide) (by decide) dX5_init_70 (fun q9 => ?_)
  refine b_dup C dX5_init_72 rfl ?_
  refine b_iconst C dX5_init_73 ic_0 ?_
  refine b_bipush C dX5_init_74 bp_101 ?_
  refine b_casl (j := 0) C rfl (by unfold ix; decide) (by decide) dX5_init_76 ?_
  refine b_dup C dX5_init_77 rfl ?_
  refine b_iconst C dX5_init_78 ic_1 ?_
  refine b_bipush C dX5_init_79 bp_115 ?_
  refine b_casl (j := 1) C rfl (by unfold ix; decide) (by decide) dX5_init_81 ?_
  refine b_dup C dX5_init_82 rfl ?_
  refine b_iconst C dX5_init_83 ic_2 ?_
  refine b_bipush C dX5_init_84 bp_119 ?_
  refine b_casl (j := 2) C rfl (by unfold ix; decide) (by decide) dX5_init_86 ?_
  refine b_dup C dX5_init_87 rfl ?_
  refine b_iconst C dX5_init_88 ic_3 ?_
  refine b_bipush C dX5_init_89 bp_98 ?_
  refine b_casl (j := 3) C rfl (by unfold ix; decide) (by decide) dX5_init_91 ?_
  refine b_dup C dX5_init_92 rfl ?_
  refine b_iconst C dX5_init_93 ic_4 ?_
  refine b_bipush C dX5_init_94 bp_104 ?_
  refine b_casl (j := 4) C rfl (by unfold ix; decide) (by decide) dX5_init_96 ?_
  refine b_dup C dX5_init_97 rfl ?_
  refine b_iconst C dX5_init_98 ic_5 ?_
  refine b_bipush C dX5_init_99 bp_99 ?_
  refine b_casl (j := 5) C rfl (by unfold ix; decide) (by decide) dX5_init_101 ?_
  refine b_dup C dX5_init_102 rfl ?_
  refine b_bipush C dX5_init_103 bp_6 ?_
  refine b_bipush C dX5_init_105 bp_100 ?_
  refine b_casl (j := 6) C rfl (by unfold ix; decide) (by decide) dX5_init_107 ?_
  refine b_putr C (by decide) ff_X5_34 rfl (Nat.le_of_ble_eq_true rfl) dX5_init_108 ?_
  refine b_aload_n C dX5_init_111 rfl rfl ?_
  refine b_bipush C dX5_init_112 bp_6 ?_
  refine b_newc (N := 6) C ac_char (by decide) (by decide) (by decide) (by decide) (by decide) dX5_init_114 (fun q10 => ?_)
  refine b_dup C dX5_init_116 rfl ?_
  refine b_iconst C dX5_init_117 ic_0 ?_
  refine b_bipush C dX5_init_118 bp_101 ?_
  refine b_casl (j := 0) C rfl (by unfold ix; decide) (by decide) dX5_init_120 ?_
  refine b_dup C dX5_init_121 rfl ?_
  refine b_iconst C dX5_init_122 ic_1 ?_
  refine b_bipush C dX5_init_123 bp_102 ?_
  refine b_casl (j := 1) C rfl (by unfold ix; decide) (by decide) dX5_init_125 ?_
  refine b_dup C dX5_init_126 rfl ?_
  refine b_iconst C dX5_init_127 ic_2 ?_
  refine b_bipush C dX5_init_128 bp_99 ?_
  refine b_casl (j := 2) C rfl (by unfold ix; decide) (by decide) dX5_init_130 ?_
  refine b_dup C dX5_init_131 rfl ?_
  refine b_iconst C dX5_init_132 ic_3 ?_
  refine b_bipush C dX5_init_133 bp_112 ?_
  refine b_casl (j := 3) C rfl (by unfold ix; decide) (by decide) dX5_init_135 ?_
  refine b_dup C dX5_init_136 rfl ?_
  refine b_iconst C dX5_init_137 ic_4 ?_
  refine b_bipush C dX5_init_138 bp_104 ?_
  refine b_casl (j := 4) C rfl (by unfold ix; decide) (by decide) dX5_init_140 ?_
  refine b_dup C dX5_init_141 rfl ?_
  refine b_iconst C dX5_init_142 ic_5 ?_
  refine b_bipush C dX5_init_143 bp_97 ?_
  refine b_casl (j := 5) C rfl (by unfold ix; decide) (by decide) dX5_init_145 ?_
  refine b_putr C (by decide) ff_X5_38 rfl (Nat.le_of_ble_eq_true rfl) dX5_init_146 ?_
  refine b_aload_n C dX5_init_149 rfl rfl ?_
  refine b_bipush C dX5_init_150 bp_6 ?_
  refine b_newc (N := 6) C ac_char (by decide) (by decide) (by decide) (by decide) (by decide) dX5_init_152 (fun q11 => ?_)
  refine b_dup C dX5_init_154 rfl ?_
  refine b_iconst C dX5_init_155 ic_0 ?_
  refine b_bipush C dX5_init_156 bp_111 ?_
  refine b_casl (j := 0) C rfl (by unfold ix; decide) (by decide) dX5_init_158 ?_
  refine b_dup C dX5_init_159 rfl ?_
  refine b_iconst C dX5_init_160 ic_1 ?_
  refine b_bipush C dX5_init_161 bp_110 ?_
  refine b_casl (j := 1) C rfl (by unfold ix; decide) (by decide) dX5_init_163 ?_
  refine b_dup C dX5_init_164 rfl ?_
  refine b_iconst C dX5_init_165 ic_2 ?_
  refine b_bipush C dX5_init_166 bp_109 ?_
  refine b_casl (j := 2) C rfl (by unfold ix; decide) (by decide) dX5_init_168 ?_
  refine b_dup C dX5_init_169 rfl ?_
  refine b_iconst C dX5_init_170 ic_3 ?_
  refine b_bipush C dX5_init_171 bp_116 ?_
  refine b_casl (j := 3) C rfl (by unfold ix; decide) (by decide) dX5_init_173 ?_
  refine b_dup C dX5_init_174 rfl ?_
  refine b_iconst C dX5_init_175 ic_4 ?_
  refine b_bipush C dX5_init_176 bp_98 ?_
  refine b_casl (j := 4) C rfl (by unfold ix; decide) (by decide) dX5_init_178 ?_
  refine b_dup C dX5_init_179 rfl ?_
  refine b_iconst C dX5_init_180 ic_5 ?_
  refine b_bipush C dX5_init_181 bp_115 ?_
  refine b_casl (j := 5) C rfl (by unfold ix; decide) (by decide) dX5_init_183 ?_
  refine b_putr C (by decide) ff_X5_41 rfl (Nat.le_of_ble_eq_true rfl) dX5_init_184 ?_
  refine b_aload_n C dX5_init_187 rfl rfl ?_
  refine b_iconst C dX5_init_188 ic_2 ?_
  refine b_newc (N := 2) C ac_char (by decide) (by decide) (by decide) (by decide) (by decide) dX5_init_189 (fun q12 => ?_)
  refine b_dup C dX5_init_191 rfl ?_
  refine b_iconst C dX5_init_192 ic_0 ?_
  refine b_bipush C dX5_init_193 bp_120 ?_
  refine b_casl (j := 0) C rfl (by unfold ix; decide) (by decide) dX5_init_195 ?_
  refine b_dup C dX5_init_196 rfl ?_
  refine b_iconst C dX5_init_197 ic_1 ?_
  refine b_bipush C dX5_init_198 bp_111 ?_
  refine b_casl (j := 1) C rfl (by unfold ix; decide) (by decide) dX5_init_200 ?_
  refine b_putr C (by decide) ff_X5_44 rfl (Nat.le_of_ble_eq_true rfl) dX5_init_201 ?_
  refine b_aload_n C dX5_init_204 rfl rfl ?_
  refine b_bipush C dX5_init_205 bp_7 ?_
  refine b_newi (N := 7) C ac_int (by decide) (by decide) (by decide) (by decide) (by decide) dX5_init_207 (fun q13 => ?_)
  refine b_putr C (by decide) ff_X5_47 rfl (Nat.le_of_ble_eq_true rfl) dX5_init_209 ?_
  refine b_aload_n C dX5_init_212 rfl rfl ?_
  refine b_iconst C dX5_init_213 ic_4 ?_
  refine b_newi (N := 4) C ac_int (by decide) (by decide) (by decide) (by decide) (by decide) dX5_init_214 (fun q14 => ?_)
  refine b_putr C (by decide) ff_X5_50 rfl (Nat.le_of_ble_eq_true rfl) dX5_init_216 ?_
  refine b_aload_n C dX5_init_219 rfl rfl ?_
  refine b_bipush C dX5_init_220 bp_20 ?_
  refine b_newi (N := 20) C ac_int (by decide) (by decide) (by decide) (by decide) (by decide) dX5_init_222 (fun q15 => ?_)
  refine b_putr C (by decide) ff_X5_53 rfl (Nat.le_of_ble_eq_true rfl) dX5_init_224 ?_
  refine b_aload_n C dX5_init_227 rfl rfl ?_
  refine b_get (v := .ref q2) C fl_X5_13 fs_X5_13 rfl rfl dX5_init_228 ?_
  refine b_iconst C dX5_init_231 ic_2 ?_
  refine b_bipush C dX5_init_232 bp_6 ?_
  refine b_ias (p0 := 2) (j := 2) C rfl (by unfold ix; decide) dX5_init_234 ?_
  refine b_aload_n C dX5_init_235 rfl rfl ?_
  refine b_get (v := .ref q2) C fl_X5_13 fs_X5_13 rfl rfl dX5_init_236 ?_
  refine b_iconst C dX5_init_239 ic_4 ?_
  refine b_iconst C dX5_init_240 ic_2 ?_
  refine b_ias (p0 := 2) (j := 4) C rfl (by unfold ix; decide) dX5_init_241 ?_
  refine b_aload_n C dX5_init_242 rfl rfl ?_
  refine b_get (v := .ref q2) C fl_X5_13 fs_X5_13 rfl rfl dX5_init_243 ?_
  refine b_iconst C dX5_init_246 ic_5 ?_
  refine b_iconst C dX5_init_247 ic_1 ?_
  refine b_ias (p0 := 2) (j := 5) C rfl (by unfold ix; decide) dX5_init_248 ?_
  refine b_aload_n C dX5_init_249 rfl rfl ?_
  refine b_get (v := .ref q2) C fl_X5_13 fs_X5_13 rfl rfl dX5_init_250 ?_
  refine b_bipush C dX5_init_253 bp_6 ?_
  refine b_iconst C dX5_init_255 ic_3 ?_
  refine b_ias (p0 := 2) (j := 6) C rfl (by unfold ix; decide) dX5_init_256 ?_
  refine b_iconst C dX5_init_257 ic_0 ?_
  refine b_istore_n (lv' := [(1, .int 0), (0, .ref h0)]) C dX5_init_258 rfl (by decide) rfl ?_
  refine b_iload_n C dX5_init_259 rfl rfl ?_
  refine b_bipush C dX5_init_260 bp_7 ?_
  refine b_icmp_ge (tgt := 281) C dX5_init_262 rfl (fun c => absurd c (by decide)) (fun _ => ?_)
  refine b_aload_n C dX5_init_265 rfl rfl ?_
  refine b_get (v := .ref q2) C fl_X5_13 fs_X5_13 rfl rfl dX5_init_266 ?_
  refine b_bipush C dX5_init_269 bp_20 ?_
  refine b_iload_n C dX5_init_271 rfl rfl ?_
  refine b_iadd C dX5_init_272 ?_
  refine b_val (y := 20) (by decide) ?_
  refine b_iconst C dX5_init_273 ic_1 ?_
  refine b_ias (p0 := 2) (j := 20) C rfl (by unfold ix; decide) dX5_init_274 ?_
  refine b_iinc (v := 1) (lv' := [(1, .int 1), (0, .ref h0)]) C dX5_init_275 (by decide) rfl (by decide) rfl ?_
  refine b_goto (tgt := 259) C dX5_init_278 rfl ?_
  refine b_iload_n C dX5_init_259 rfl rfl ?_
  refine b_bipush C dX5_init_260 bp_7 ?_
  refine b_icmp_ge (tgt := 281) C dX5_init_262 rfl (fun c => absurd c (by decide)) (fun _ => ?_)
  refine b_aload_n C dX5_init_265 rfl rfl ?_
  refine b_get (v := .ref q2) C fl_X5_13 fs_X5_13 rfl rfl dX5_init_266 ?_
  refine b_bipush C dX5_init_269 bp_20 ?_
  refine b_iload_n C dX5_init_271 rfl rfl ?_
  refine b_iadd C dX5_init_272 ?_
  refine b_val (y := 21) (by decide) ?_
  refine b_iconst C dX5_init_273 ic_1 ?_
  refine b_ias (p0 := 2) (j := 21) C rfl (by unfold ix; decide) dX5_init_274 ?_
  refine b_iinc (v := 2) (lv' := [(1, .int 2), (0, .ref h0)]) C dX5_init_275 (by decide) rfl (by decide) rfl ?_
  refine b_goto (tgt := 259) C dX5_init_278 rfl ?_
  refine b_iload_n C dX5_init_259 rfl rfl ?_
  refine b_bipush C dX5_init_260 bp_7 ?_
  refine b_icmp_ge (tgt := 281) C dX5_init_262 rfl (fun c => absurd c (by decide)) (fun _ => ?_)
  refine b_aload_n C dX5_init_265 rfl rfl ?_
  refine b_get (v := .ref q2) C fl_X5_13 fs_X5_13 rfl rfl dX5_init_266 ?_
  refine b_bipush C dX5_init_269 bp_20 ?_
  refine b_iload_n C dX5_init_271 rfl rfl ?_
  refine b_iadd C dX5_init_272 ?_
  refine b_val (y := 22) (by decide) ?_
  refine b_iconst C dX5_init_273 ic_1 ?_
  refine b_ias (p0 := 2) (j := 22) C rfl (by unfold ix; decide) dX5_init_274 ?_
  refine b_iinc (v := 3) (lv' := [(1, .int 3), (0, .ref h0)]) C dX5_init_275 (by decide) rfl (by decide) rfl ?_
  refine b_goto (tgt := 259) C dX5_init_278 rfl ?_
  refine b_iload_n C dX5_init_259 rfl rfl ?_
  refine b_bipush C dX5_init_260 bp_7 ?_
  refine b_icmp_ge (tgt := 281) C dX5_init_262 rfl (fun c => absurd c (by decide)) (fun _ => ?_)
  refine b_aload_n C dX5_init_265 rfl rfl ?_
  refine b_get (v := .ref q2) C fl_X5_13 fs_X5_13 rfl rfl dX5_init_266 ?_
  refine b_bipush C dX5_init_269 bp_20 ?_
  refine b_iload_n C dX5_init_271 rfl rfl ?_
  refine b_iadd C dX5_init_272 ?_
  refine b_val (y := 23) (by decide) ?_
  refine b_iconst C dX5_init_273 ic_1 ?_
  refine b_ias (p0 := 2) (j := 23) C rfl (by unfold ix; decide) dX5_init_274 ?_
  refine b_iinc (v := 4) (lv' := [(1, .int 4), (0, .ref h0)]) C dX5_init_275 (by decide) rfl (by decide) rfl ?_
  refine b_goto (tgt := 259) C dX5_init_278 rfl ?_
  refine b_iload_n C dX5_init_259 rfl rfl ?_
  refine b_bipush C dX5_init_260 bp_7 ?_
  refine b_icmp_ge (tgt := 281) C dX5_init_262 rfl (fun c => absurd c (by decide)) (fun _ => ?_)
  refine b_aload_n C dX5_init_265 rfl rfl ?_
  refine b_get (v := .ref q2) C fl_X5_13 fs_X5_13 rfl rfl dX5_init_266 ?_
  refine b_bipush C dX5_init_269 bp_20 ?_
  refine b_iload_n C dX5_init_271 rfl rfl ?_
  refine b_iadd C dX5_init_272 ?_
  refine b_val (y := 24) (by decide) ?_
  refine b_iconst C dX5_init_273 ic_1 ?_
  refine b_ias (p0 := 2) (j := 24) C rfl (by unfold ix; decide) dX5_init_274 ?_
  refine b_iinc (v := 5) (lv' := [(1, .int 5), (0, .ref h0)]) C dX5_init_275 (by decide) rfl (by decide) rfl ?_
  refine b_goto (tgt := 259) C dX5_init_278 rfl ?_
  refine b_iload_n C dX5_init_259 rfl rfl ?_
  refine b_bipush C dX5_init_260 bp_7 ?_
  refine b_icmp_ge (tgt := 281) C dX5_init_262 rfl (fun c => absurd c (by decide)) (fun _ => ?_)
  refine b_aload_n C dX5_init_265 rfl rfl ?_
  refine b_get (v := .ref q2) C fl_X5_13 fs_X5_13 rfl rfl dX5_init_266 ?_
  refine b_bipush C dX5_init_269 bp_20 ?_
  refine b_iload_n C dX5_init_271 rfl rfl ?_
  refine b_iadd C dX5_init_272 ?_
  refine b_val (y := 25) (by decide) ?_
  refine b_iconst C dX5_init_273 ic_1 ?_
  refine b_ias (p0 := 2) (j := 25) C rfl (by unfold ix; decide) dX5_init_274 ?_
  refine b_iinc (v := 6) (lv' := [(1, .int 6), (0, .ref h0)]) C dX5_init_275 (by decide) rfl (by decide) rfl ?_
  refine b_goto (tgt := 259) C dX5_init_278 rfl ?_
  refine b_iload_n C dX5_init_259 rfl rfl ?_
  refine b_bipush C dX5_init_260 bp_7 ?_
  refine b_icmp_ge (tgt := 281) C dX5_init_262 rfl (fun c => absurd c (by decide)) (fun _ => ?_)
  refine b_aload_n C dX5_init_265 rfl rfl ?_
  refine b_get (v := .ref q2) C fl_X5_13 fs_X5_13 rfl rfl dX5_init_266 ?_
  refine b_bipush C dX5_init_269 bp_20 ?_
  refine b_iload_n C dX5_init_271 rfl rfl ?_
  refine b_iadd C dX5_init_272 ?_
  refine b_val (y := 26) (by decide) ?_
  refine b_iconst C dX5_init_273 ic_1 ?_
  refine b_ias (p0 := 2) (j := 26) C rfl (by unfold ix; decide) dX5_init_274 ?_
  refine b_iinc (v := 7) (lv' := [(1, .int 7), (0, .ref h0)]) C dX5_init_275 (by decide) rfl (by decide) rfl ?_
  refine b_goto (tgt := 259) C dX5_init_278 rfl ?_
  refine b_iload_n C dX5_init_259 rfl rfl ?_
  refine b_bipush C dX5_init_260 bp_7 ?_
  refine b_icmp_ge (tgt := 281) C dX5_init_262 rfl (fun _ => ?_) (fun c => absurd (by decide) c)
  exact b_vret (fun k => [h0, q1, q2, q3, q4, q5, q6, q7, q8, q9, q10, q11, q12, q13, q14, q15].getD k 0) C r rfl rfl dX5_init_281

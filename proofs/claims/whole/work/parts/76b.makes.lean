set_option maxRecDepth 100000 in
set_option maxHeartbeats 4000000 in
theorem ct_X1_init (l : Launch) (w : WD) : CtB l w true yX1_init cX1_init 1 1 8 38 (.inr (1, [.null, .null, .null, .null, .int 0, .int 0, .int 0])) (FM1 w) := by
  refine CtB.mk (by decide) (by decide) rfl (fun h0 K C r => ?_)
  refine b_aload_n C dX1_init_0 rfl rfl ?_
  refine b_obj C oi_X1_3 oi_m oi_c (by decide) dX1_init_1 (Nat.le_of_ble_eq_true rfl) ?_
  refine b_aload_n C dX1_init_4 rfl rfl ?_
  refine b_iconst C dX1_init_5 ic_5 ?_
  refine b_newi (N := 5) C ac_int (by decide) (by decide) (by decide) (by decide) (by decide) dX1_init_6 (fun q1 => ?_)
  refine b_re (ws' := ((h0, .inr (1, [.null, .null, .null, .null, .int 0, .int 0, .int 0])) :: ([] ++ [(q1, .inl (wI w, 5, .inl (fun _ => 0)))]))) rfl ?_
  refine b_putr (fs := [.null, .null, .null, .null, .int 0, .int 0, .int 0]) (tl := ([] ++ [(q1, .inl (wI w, 5, .inl (fun _ => 0)))])) C (by decide) ff_X1_9 rfl (Nat.le_of_ble_eq_true rfl) dX1_init_8 ?_
  refine b_re (ws' := ((h0, .inr (1, [.ref q1, .null, .null, .null, .int 0, .int 0, .int 0])) :: ([] ++ [(q1, .inl (wI w, 5, .inl (fun _ => 0)))]))) rfl ?_
  refine b_aload_n C dX1_init_11 rfl rfl ?_
  refine b_bipush C dX1_init_12 bp_7 ?_
  refine b_newi (N := 7) C ac_int (by decide) (by decide) (by decide) (by decide) (by decide) dX1_init_14 (fun q2 => ?_)
  refine b_re (ws' := ((h0, .inr (1, [.ref q1, .null, .null, .null, .int 0, .int 0, .int 0])) :: (([] ++ [(q1, .inl (wI w, 5, .inl (fun _ => 0)))]) ++ [(q2, .inl (wI w, 7, .inl (fun _ => 0)))]))) rfl ?_
  refine b_dup C dX1_init_16 rfl ?_
  refine b_iconst C dX1_init_17 ic_0 ?_
  refine b_iconst C dX1_init_18 ic_1 ?_
  refine b_iasl (w0 := ((h0, .inr (1, [.ref q1, .null, .null, .null, .int 0, .int 0, .int 0])) :: ([] ++ [(q1, .inl (wI w, 5, .inl (fun _ => 0)))]))) (j := 0) C rfl (by unfold ix; decide) dX1_init_19 ?_
  refine b_re (ws' := ((h0, .inr (1, [.ref q1, .null, .null, .null, .int 0, .int 0, .int 0])) :: (([] ++ [(q1, .inl (wI w, 5, .inl (fun _ => 0)))]) ++ [(q2, .inl (wI w, 7, .inl (upd (fun _ => 0) 0 1)))]))) rfl ?_
  refine b_dup C dX1_init_20 rfl ?_
  refine b_iconst C dX1_init_21 ic_1 ?_
  refine b_iconst C dX1_init_22 ic_1 ?_
  refine b_iasl (w0 := ((h0, .inr (1, [.ref q1, .null, .null, .null, .int 0, .int 0, .int 0])) :: ([] ++ [(q1, .inl (wI w, 5, .inl (fun _ => 0)))]))) (j := 1) C rfl (by unfold ix; decide) dX1_init_23 ?_
  refine b_re (ws' := ((h0, .inr (1, [.ref q1, .null, .null, .null, .int 0, .int 0, .int 0])) :: (([] ++ [(q1, .inl (wI w, 5, .inl (fun _ => 0)))]) ++ [(q2, .inl (wI w, 7, .inl (upd (upd (fun _ => 0) 0 1) 1 1)))]))) rfl ?_
  refine b_dup C dX1_init_24 rfl ?_
  refine b_iconst C dX1_init_25 ic_2 ?_
  refine b_iconst C dX1_init_26 ic_1 ?_
  refine b_iasl (w0 := ((h0, .inr (1, [.ref q1, .null, .null, .null, .int 0, .int 0, .int 0])) :: ([] ++ [(q1, .inl (wI w, 5, .inl (fun _ => 0)))]))) (j := 2) C rfl (by unfold ix; decide) dX1_init_27 ?_
  refine b_re (ws' := ((h0, .inr (1, [.ref q1, .null, .null, .null, .int 0, .int 0, .int 0])) :: (([] ++ [(q1, .inl (wI w, 5, .inl (fun _ => 0)))]) ++ [(q2, .inl (wI w, 7, .inl (upd (upd (upd (fun _ => 0) 0 1) 1 1) 2 1)))]))) rfl ?_
  refine b_dup C dX1_init_28 rfl ?_
  refine b_iconst C dX1_init_29 ic_3 ?_
  refine b_iconst C dX1_init_30 ic_1 ?_
  refine b_iasl (w0 := ((h0, .inr (1, [.ref q1, .null, .null, .null, .int 0, .int 0, .int 0])) :: ([] ++ [(q1, .inl (wI w, 5, .inl (fun _ => 0)))]))) (j := 3) C rfl (by unfold ix; decide) dX1_init_31 ?_
  refine b_re (ws' := ((h0, .inr (1, [.ref q1, .null, .null, .null, .int 0, .int 0, .int 0])) :: (([] ++ [(q1, .inl (wI w, 5, .inl (fun _ => 0)))]) ++ [(q2, .inl (wI w, 7, .inl (upd (upd (upd (upd (fun _ => 0) 0 1) 1 1) 2 1) 3 1)))]))) rfl ?_
  refine b_dup C dX1_init_32 rfl ?_
  refine b_iconst C dX1_init_33 ic_4 ?_
  refine b_iconst C dX1_init_34 ic_1 ?_
  refine b_iasl (w0 := ((h0, .inr (1, [.ref q1, .null, .null, .null, .int 0, .int 0, .int 0])) :: ([] ++ [(q1, .inl (wI w, 5, .inl (fun _ => 0)))]))) (j := 4) C rfl (by unfold ix; decide) dX1_init_35 ?_
  refine b_re (ws' := ((h0, .inr (1, [.ref q1, .null, .null, .null, .int 0, .int 0, .int 0])) :: (([] ++ [(q1, .inl (wI w, 5, .inl (fun _ => 0)))]) ++ [(q2, .inl (wI w, 7, .inl (upd (upd (upd (upd (upd (fun _ => 0) 0 1) 1 1) 2 1) 3 1) 4 1)))]))) rfl ?_
  refine b_dup C dX1_init_36 rfl ?_
  refine b_iconst C dX1_init_37 ic_5 ?_
  refine b_iconst C dX1_init_38 ic_1 ?_
  refine b_iasl (w0 := ((h0, .inr (1, [.ref q1, .null, .null, .null, .int 0, .int 0, .int 0])) :: ([] ++ [(q1, .inl (wI w, 5, .inl (fun _ => 0)))]))) (j := 5) C rfl (by unfold ix; decide) dX1_init_39 ?_
  refine b_re (ws' := ((h0, .inr (1, [.ref q1, .null, .null, .null, .int 0, .int 0, .int 0])) :: (([] ++ [(q1, .inl (wI w, 5, .inl (fun _ => 0)))]) ++ [(q2, .inl (wI w, 7, .inl (upd (upd (upd (upd (upd (upd (fun _ => 0) 0 1) 1 1) 2 1) 3 1) 4 1) 5 1)))]))) rfl ?_
  refine b_dup C dX1_init_40 rfl ?_
  refine b_bipush C dX1_init_41 bp_6 ?_
  refine b_iconst C dX1_init_43 ic_1 ?_
  refine b_iasl (w0 := ((h0, .inr (1, [.ref q1, .null, .null, .null, .int 0, .int 0, .int 0])) :: ([] ++ [(q1, .inl (wI w, 5, .inl (fun _ => 0)))]))) (j := 6) C rfl (by unfold ix; decide) dX1_init_44 ?_
  refine b_re (ws' := ((h0, .inr (1, [.ref q1, .null, .null, .null, .int 0, .int 0, .int 0])) :: (([] ++ [(q1, .inl (wI w, 5, .inl (fun _ => 0)))]) ++ [(q2, .inl (wI w, 7, .inl (upd (upd (upd (upd (upd (upd (upd (fun _ => 0) 0 1) 1 1) 2 1) 3 1) 4 1) 5 1) 6 1)))]))) rfl ?_
  refine b_putr (fs := [.ref q1, .null, .null, .null, .int 0, .int 0, .int 0]) (tl := (([] ++ [(q1, .inl (wI w, 5, .inl (fun _ => 0)))]) ++ [(q2, .inl (wI w, 7, .inl (upd (upd (upd (upd (upd (upd (upd (fun _ => 0) 0 1) 1 1) 2 1) 3 1) 4 1) 5 1) 6 1)))])) C (by decide) ff_X1_15 rfl (Nat.le_of_ble_eq_true rfl) dX1_init_45 ?_
  refine b_re (ws' := ((h0, .inr (1, [.ref q1, .ref q2, .null, .null, .int 0, .int 0, .int 0])) :: (([] ++ [(q1, .inl (wI w, 5, .inl (fun _ => 0)))]) ++ [(q2, .inl (wI w, 7, .inl (upd (upd (upd (upd (upd (upd (upd (fun _ => 0) 0 1) 1 1) 2 1) 3 1) 4 1) 5 1) 6 1)))]))) rfl ?_
  refine b_aload_n C dX1_init_48 rfl rfl ?_
  refine b_bipush C dX1_init_49 bp_6 ?_
  refine b_newi (N := 6) C ac_int (by decide) (by decide) (by decide) (by decide) (by decide) dX1_init_51 (fun q3 => ?_)
  refine b_re (ws' := ((h0, .inr (1, [.ref q1, .ref q2, .null, .null, .int 0, .int 0, .int 0])) :: ((([] ++ [(q1, .inl (wI w, 5, .inl (fun _ => 0)))]) ++ [(q2, .inl (wI w, 7, .inl (upd (upd (upd (upd (upd (upd (upd (fun _ => 0) 0 1) 1 1) 2 1) 3 1) 4 1) 5 1) 6 1)))]) ++ [(q3, .inl (wI w, 6, .inl (fun _ => 0)))]))) rfl ?_
  refine b_dup C dX1_init_53 rfl ?_
  refine b_iconst C dX1_init_54 ic_0 ?_
  refine b_bipush C dX1_init_55 bp_6 ?_
  refine b_iasl (w0 := ((h0, .inr (1, [.ref q1, .ref q2, .null, .null, .int 0, .int 0, .int 0])) :: (([] ++ [(q1, .inl (wI w, 5, .inl (fun _ => 0)))]) ++ [(q2, .inl (wI w, 7, .inl (upd (upd (upd (upd (upd (upd (upd (fun _ => 0) 0 1) 1 1) 2 1) 3 1) 4 1) 5 1) 6 1)))]))) (j := 0) C rfl (by unfold ix; decide) dX1_init_57 ?_
  refine b_re (ws' := ((h0, .inr (1, [.ref q1, .ref q2, .null, .null, .int 0, .int 0, .int 0])) :: ((([] ++ [(q1, .inl (wI w, 5, .inl (fun _ => 0)))]) ++ [(q2, .inl (wI w, 7, .inl (upd (upd (upd (upd (upd (upd (upd (fun _ => 0) 0 1) 1 1) 2 1) 3 1) 4 1) 5 1) 6 1)))]) ++ [(q3, .inl (wI w, 6, .inl (upd (fun _ => 0) 0 6)))]))) rfl ?_
  refine b_dup C dX1_init_58 rfl ?_
  refine b_iconst C dX1_init_59 ic_1 ?_
  refine b_iconst C dX1_init_60 ic_0 ?_
  refine b_iasl (w0 := ((h0, .inr (1, [.ref q1, .ref q2, .null, .null, .int 0, .int 0, .int 0])) :: (([] ++ [(q1, .inl (wI w, 5, .inl (fun _ => 0)))]) ++ [(q2, .inl (wI w, 7, .inl (upd (upd (upd (upd (upd (upd (upd (fun _ => 0) 0 1) 1 1) 2 1) 3 1) 4 1) 5 1) 6 1)))]))) (j := 1) C rfl (by unfold ix; decide) dX1_init_61 ?_
  refine b_re (ws' := ((h0, .inr (1, [.ref q1, .ref q2, .null, .null, .int 0, .int 0, .int 0])) :: ((([] ++ [(q1, .inl (wI w, 5, .inl (fun _ => 0)))]) ++ [(q2, .inl (wI w, 7, .inl (upd (upd (upd (upd (upd (upd (upd (fun _ => 0) 0 1) 1 1) 2 1) 3 1) 4 1) 5 1) 6 1)))]) ++ [(q3, .inl (wI w, 6, .inl (upd (upd (fun _ => 0) 0 6) 1 0)))]))) rfl ?_
  refine b_dup C dX1_init_62 rfl ?_
  refine b_iconst C dX1_init_63 ic_2 ?_
  refine b_iconst C dX1_init_64 ic_2 ?_
  refine b_iasl (w0 := ((h0, .inr (1, [.ref q1, .ref q2, .null, .null, .int 0, .int 0, .int 0])) :: (([] ++ [(q1, .inl (wI w, 5, .inl (fun _ => 0)))]) ++ [(q2, .inl (wI w, 7, .inl (upd (upd (upd (upd (upd (upd (upd (fun _ => 0) 0 1) 1 1) 2 1) 3 1) 4 1) 5 1) 6 1)))]))) (j := 2) C rfl (by unfold ix; decide) dX1_init_65 ?_
  refine b_re (ws' := ((h0, .inr (1, [.ref q1, .ref q2, .null, .null, .int 0, .int 0, .int 0])) :: ((([] ++ [(q1, .inl (wI w, 5, .inl (fun _ => 0)))]) ++ [(q2, .inl (wI w, 7, .inl (upd (upd (upd (upd (upd (upd (upd (fun _ => 0) 0 1) 1 1) 2 1) 3 1) 4 1) 5 1) 6 1)))]) ++ [(q3, .inl (wI w, 6, .inl (upd (upd (upd (fun _ => 0) 0 6) 1 0) 2 2)))]))) rfl ?_
  refine b_dup C dX1_init_66 rfl ?_
  refine b_iconst C dX1_init_67 ic_3 ?_
  refine b_iconst C dX1_init_68 ic_1 ?_
  refine b_iasl (w0 := ((h0, .inr (1, [.ref q1, .ref q2, .null, .null, .int 0, .int 0, .int 0])) :: (([] ++ [(q1, .inl (wI w, 5, .inl (fun _ => 0)))]) ++ [(q2, .inl (wI w, 7, .inl (upd (upd (upd (upd (upd (upd (upd (fun _ => 0) 0 1) 1 1) 2 1) 3 1) 4 1) 5 1) 6 1)))]))) (j := 3) C rfl (by unfold ix; decide) dX1_init_69 ?_
  refine b_re (ws' := ((h0, .inr (1, [.ref q1, .ref q2, .null, .null, .int 0, .int 0, .int 0])) :: ((([] ++ [(q1, .inl (wI w, 5, .inl (fun _ => 0)))]) ++ [(q2, .inl (wI w, 7, .inl (upd (upd (upd (upd (upd (upd (upd (fun _ => 0) 0 1) 1 1) 2 1) 3 1) 4 1) 5 1) 6 1)))]) ++ [(q3, .inl (wI w, 6, .inl (upd (upd (upd (upd (fun _ => 0) 0 6) 1 0) 2 2) 3 1)))]))) rfl ?_
  refine b_dup C dX1_init_70 rfl ?_
  refine b_iconst C dX1_init_71 ic_4 ?_
  refine b_iconst C dX1_init_72 ic_3 ?_
  refine b_iasl (w0 := ((h0, .inr (1, [.ref q1, .ref q2, .null, .null, .int 0, .int 0, .int 0])) :: (([] ++ [(q1, .inl (wI w, 5, .inl (fun _ => 0)))]) ++ [(q2, .inl (wI w, 7, .inl (upd (upd (upd (upd (upd (upd (upd (fun _ => 0) 0 1) 1 1) 2 1) 3 1) 4 1) 5 1) 6 1)))]))) (j := 4) C rfl (by unfold ix; decide) dX1_init_73 ?_
  refine b_re (ws' := ((h0, .inr (1, [.ref q1, .ref q2, .null, .null, .int 0, .int 0, .int 0])) :: ((([] ++ [(q1, .inl (wI w, 5, .inl (fun _ => 0)))]) ++ [(q2, .inl (wI w, 7, .inl (upd (upd (upd (upd (upd (upd (upd (fun _ => 0) 0 1) 1 1) 2 1) 3 1) 4 1) 5 1) 6 1)))]) ++ [(q3, .inl (wI w, 6, .inl (upd (upd (upd (upd (upd (fun _ => 0) 0 6) 1 0) 2 2) 3 1) 4 3)))]))) rfl ?_
  refine b_dup C dX1_init_74 rfl ?_
  refine b_iconst C dX1_init_75 ic_5 ?_
  refine b_iconst C dX1_init_76 ic_0 ?_
  refine b_iasl (w0 := ((h0, .inr (1, [.ref q1, .ref q2, .null, .null, .int 0, .int 0, .int 0])) :: (([] ++ [(q1, .inl (wI w, 5, .inl (fun _ => 0)))]) ++ [(q2, .inl (wI w, 7, .inl (upd (upd (upd (upd (upd (upd (upd (fun _ => 0) 0 1) 1 1) 2 1) 3 1) 4 1) 5 1) 6 1)))]))) (j := 5) C rfl (by unfold ix; decide) dX1_init_77 ?_
  refine b_re (ws' := ((h0, .inr (1, [.ref q1, .ref q2, .null, .null, .int 0, .int 0, .int 0])) :: ((([] ++ [(q1, .inl (wI w, 5, .inl (fun _ => 0)))]) ++ [(q2, .inl (wI w, 7, .inl (upd (upd (upd (upd (upd (upd (upd (fun _ => 0) 0 1) 1 1) 2 1) 3 1) 4 1) 5 1) 6 1)))]) ++ [(q3, .inl (wI w, 6, .inl (upd (upd (upd (upd (upd (upd (fun _ => 0) 0 6) 1 0) 2 2) 3 1) 4 3) 5 0)))]))) rfl ?_
  refine b_putr (fs := [.ref q1, .ref q2, .null, .null, .int 0, .int 0, .int 0]) (tl := ((([] ++ [(q1, .inl (wI w, 5, .inl (fun _ => 0)))]) ++ [(q2, .inl (wI w, 7, .inl (upd (upd (upd (upd (upd (upd (upd (fun _ => 0) 0 1) 1 1) 2 1) 3 1) 4 1) 5 1) 6 1)))]) ++ [(q3, .inl (wI w, 6, .inl (upd (upd (upd (upd (upd (upd (fun _ => 0) 0 6) 1 0) 2 2) 3 1) 4 3) 5 0)))])) C (by decide) ff_X1_18 rfl (Nat.le_of_ble_eq_true rfl) dX1_init_78 ?_
  refine b_re (ws' := ((h0, .inr (1, [.ref q1, .ref q2, .ref q3, .null, .int 0, .int 0, .int 0])) :: ((([] ++ [(q1, .inl (wI w, 5, .inl (fun _ => 0)))]) ++ [(q2, .inl (wI w, 7, .inl (upd (upd (upd (upd (upd (upd (upd (fun _ => 0) 0 1) 1 1) 2 1) 3 1) 4 1) 5 1) 6 1)))]) ++ [(q3, .inl (wI w, 6, .inl (upd (upd (upd (upd (upd (upd (fun _ => 0) 0 6) 1 0) 2 2) 3 1) 4 3) 5 0)))]))) rfl ?_
  refine b_aload_n C dX1_init_81 rfl rfl ?_
  refine b_iconst C dX1_init_82 ic_4 ?_
  refine b_iconst C dX1_init_83 ic_4 ?_
  refine b_mna C ck_X1_21 rfl ac_int (by decide) (by decide) dX1_init_84 (fun q4 => ?_)
  refine b_re (ws' := ((h0, .inr (1, [.ref q1, .ref q2, .ref q3, .null, .int 0, .int 0, .int 0])) :: (((([] ++ [(q1, .inl (wI w, 5, .inl (fun _ => 0)))]) ++ [(q2, .inl (wI w, 7, .inl (upd (upd (upd (upd (upd (upd (upd (fun _ => 0) 0 1) 1 1) 2 1) 3 1) 4 1) 5 1) 6 1)))]) ++ [(q3, .inl (wI w, 6, .inl (upd (upd (upd (upd (upd (upd (fun _ => 0) 0 6) 1 0) 2 2) 3 1) 4 3) 5 0)))]) ++ mnL w q4))) rfl ?_
  refine b_putr (fs := [.ref q1, .ref q2, .ref q3, .null, .int 0, .int 0, .int 0]) (tl := (((([] ++ [(q1, .inl (wI w, 5, .inl (fun _ => 0)))]) ++ [(q2, .inl (wI w, 7, .inl (upd (upd (upd (upd (upd (upd (upd (fun _ => 0) 0 1) 1 1) 2 1) 3 1) 4 1) 5 1) 6 1)))]) ++ [(q3, .inl (wI w, 6, .inl (upd (upd (upd (upd (upd (upd (fun _ => 0) 0 6) 1 0) 2 2) 3 1) 4 3) 5 0)))]) ++ mnL w q4)) C (by decide) ff_X1_23 rfl (Nat.le_of_ble_eq_true rfl) dX1_init_88 ?_
  refine b_re (ws' := ((h0, .inr (1, [.ref q1, .ref q2, .ref q3, .ref q4, .int 0, .int 0, .int 0])) :: (((([] ++ [(q1, .inl (wI w, 5, .inl (fun _ => 0)))]) ++ [(q2, .inl (wI w, 7, .inl (upd (upd (upd (upd (upd (upd (upd (fun _ => 0) 0 1) 1 1) 2 1) 3 1) 4 1) 5 1) 6 1)))]) ++ [(q3, .inl (wI w, 6, .inl (upd (upd (upd (upd (upd (upd (fun _ => 0) 0 6) 1 0) 2 2) 3 1) 4 3) 5 0)))]) ++ mnL w q4))) rfl ?_
  exact b_vret (fun k => [h0, q1, q2, q3, q4, q4 + 1, q4 + 2, q4 + 3, q4 + 4].getD k 0) C r rfl rfl dX1_init_91

set_option maxRecDepth 100000 in
set_option maxHeartbeats 4000000 in
theorem ct_X4_init (l : Launch) (w : WD) : CtB l w true yX4_init cX4_init 1 2 37 436 (.inr (4, [.null, .null, .null, .null, .null, .null, .null, .null, .null, .null, .int 0, .int 0])) (FM4 w) := by
  refine CtB.mk (by decide) (by decide) rfl (fun h0 K C r => ?_)
  refine b_aload_n C dX4_init_0 rfl rfl ?_
  refine b_obj C oi_X4_3 oi_m oi_c (by decide) dX4_init_1 (Nat.le_of_ble_eq_true rfl) ?_
  refine b_aload_n C dX4_init_4 rfl rfl ?_
  refine b_new C nw_X4_9 (by decide) (by decide) dX4_init_5 (fun q1 => ?_)
  refine b_re (ws' := ((h0, .inr (4, [.null, .null, .null, .null, .null, .null, .null, .null, .null, .null, .int 0, .int 0])) :: ([] ++ [(q1, .inr (1, [.null, .null, .null, .null, .int 0, .int 0, .int 0]))]))) rfl ?_
  refine b_dup C dX4_init_8 rfl ?_
  refine b_calN (w0 := ((h0, .inr (4, [.null, .null, .null, .null, .null, .null, .null, .null, .null, .null, .int 0, .int 0])) :: [])) C mj_X4_11 (fun U h => (h rfl).1) (ct_X1_init l w) rfl (fun _ => rfl) (by decide) (by decide) (by decide) (Nat.le_of_ble_eq_true rfl) dX4_init_9 (fun a1 ea1 => ?_)
  subst ea1
  refine b_re (ws' := ((h0, .inr (4, [.null, .null, .null, .null, .null, .null, .null, .null, .null, .null, .int 0, .int 0])) :: ([] ++ FM1 w a1))) rfl ?_
  refine b_putr (fs := [.null, .null, .null, .null, .null, .null, .null, .null, .null, .null, .int 0, .int 0]) (tl := ([] ++ FM1 w a1)) C (by decide) ff_X4_12 rfl (Nat.le_of_ble_eq_true rfl) dX4_init_12 ?_
  refine b_re (ws' := ((h0, .inr (4, [.ref ((a1 0)), .null, .null, .null, .null, .null, .null, .null, .null, .null, .int 0, .int 0])) :: ([] ++ FM1 w a1))) rfl ?_
  refine b_aload_n C dX4_init_15 rfl rfl ?_
  refine b_new C nw_X4_9 (by decide) (by decide) dX4_init_16 (fun q2 => ?_)
  refine b_re (ws' := ((h0, .inr (4, [.ref ((a1 0)), .null, .null, .null, .null, .null, .null, .null, .null, .null, .int 0, .int 0])) :: (([] ++ FM1 w a1) ++ [(q2, .inr (1, [.null, .null, .null, .null, .int 0, .int 0, .int 0]))]))) rfl ?_
  refine b_dup C dX4_init_19 rfl ?_
  refine b_calN (w0 := ((h0, .inr (4, [.ref ((a1 0)), .null, .null, .null, .null, .null, .null, .null, .null, .null, .int 0, .int 0])) :: ([] ++ FM1 w a1))) C mj_X4_11 (fun U h => (h rfl).1) (ct_X1_init l w) rfl (fun _ => rfl) (by decide) (by decide) (by decide) (Nat.le_of_ble_eq_true rfl) dX4_init_20 (fun a2 ea2 => ?_)
  subst ea2
  refine b_re (ws' := ((h0, .inr (4, [.ref ((a1 0)), .null, .null, .null, .null, .null, .null, .null, .null, .null, .int 0, .int 0])) :: (([] ++ FM1 w a1) ++ FM1 w a2))) rfl ?_
  refine b_putr (fs := [.ref ((a1 0)), .null, .null, .null, .null, .null, .null, .null, .null, .null, .int 0, .int 0]) (tl := (([] ++ FM1 w a1) ++ FM1 w a2)) C (by decide) ff_X4_16 rfl (Nat.le_of_ble_eq_true rfl) dX4_init_23 ?_
  refine b_re (ws' := ((h0, .inr (4, [.ref ((a1 0)), .ref ((a2 0)), .null, .null, .null, .null, .null, .null, .null, .null, .int 0, .int 0])) :: (([] ++ FM1 w a1) ++ FM1 w a2))) rfl ?_
  refine b_aload_n C dX4_init_26 rfl rfl ?_
  refine b_new C nw_X4_9 (by decide) (by decide) dX4_init_27 (fun q3 => ?_)
  refine b_re (ws' := ((h0, .inr (4, [.ref ((a1 0)), .ref ((a2 0)), .null, .null, .null, .null, .null, .null, .null, .null, .int 0, .int 0])) :: ((([] ++ FM1 w a1) ++ FM1 w a2) ++ [(q3, .inr (1, [.null, .null, .null, .null, .int 0, .int 0, .int 0]))]))) rfl ?_
  refine b_dup C dX4_init_30 rfl ?_
  refine b_calN (w0 := ((h0, .inr (4, [.ref ((a1 0)), .ref ((a2 0)), .null, .null, .null, .null, .null, .null, .null, .null, .int 0, .int 0])) :: (([] ++ FM1 w a1) ++ FM1 w a2))) C mj_X4_11 (fun U h => (h rfl).1) (ct_X1_init l w) rfl (fun _ => rfl) (by decide) (by decide) (by decide) (Nat.le_of_ble_eq_true rfl) dX4_init_31 (fun a3 ea3 => ?_)
  subst ea3
  refine b_re (ws' := ((h0, .inr (4, [.ref ((a1 0)), .ref ((a2 0)), .null, .null, .null, .null, .null, .null, .null, .null, .int 0, .int 0])) :: ((([] ++ FM1 w a1) ++ FM1 w a2) ++ FM1 w a3))) rfl ?_
  refine b_putr (fs := [.ref ((a1 0)), .ref ((a2 0)), .null, .null, .null, .null, .null, .null, .null, .null, .int 0, .int 0]) (tl := ((([] ++ FM1 w a1) ++ FM1 w a2) ++ FM1 w a3)) C (by decide) ff_X4_19 rfl (Nat.le_of_ble_eq_true rfl) dX4_init_34 ?_
  refine b_re (ws' := ((h0, .inr (4, [.ref ((a1 0)), .ref ((a2 0)), .ref ((a3 0)), .null, .null, .null, .null, .null, .null, .null, .int 0, .int 0])) :: ((([] ++ FM1 w a1) ++ FM1 w a2) ++ FM1 w a3))) rfl ?_
  refine b_aload_n C dX4_init_37 rfl rfl ?_
  refine b_new C nw_X4_22 (by decide) (by decide) dX4_init_38 (fun q4 => ?_)
  refine b_re (ws' := ((h0, .inr (4, [.ref ((a1 0)), .ref ((a2 0)), .ref ((a3 0)), .null, .null, .null, .null, .null, .null, .null, .int 0, .int 0])) :: (((([] ++ FM1 w a1) ++ FM1 w a2) ++ FM1 w a3) ++ [(q4, .inr (3, [.null, .null, .int 0]))]))) rfl ?_
  refine b_dup C dX4_init_41 rfl ?_
  refine b_calN (w0 := ((h0, .inr (4, [.ref ((a1 0)), .ref ((a2 0)), .ref ((a3 0)), .null, .null, .null, .null, .null, .null, .null, .int 0, .int 0])) :: ((([] ++ FM1 w a1) ++ FM1 w a2) ++ FM1 w a3))) C mj_X4_24 (fun U h => (h rfl).2.1) (ct_X3_init l w) rfl (fun _ => rfl) (by decide) (by decide) (by decide) (Nat.le_of_ble_eq_true rfl) dX4_init_42 (fun a4 ea4 => ?_)
  subst ea4
  refine b_re (ws' := ((h0, .inr (4, [.ref ((a1 0)), .ref ((a2 0)), .ref ((a3 0)), .null, .null, .null, .null, .null, .null, .null, .int 0, .int 0])) :: (((([] ++ FM1 w a1) ++ FM1 w a2) ++ FM1 w a3) ++ FM3 w a4))) rfl ?_
  refine b_putr (fs := [.ref ((a1 0)), .ref ((a2 0)), .ref ((a3 0)), .null, .null, .null, .null, .null, .null, .null, .int 0, .int 0]) (tl := (((([] ++ FM1 w a1) ++ FM1 w a2) ++ FM1 w a3) ++ FM3 w a4)) C (by decide) ff_X4_25 rfl (Nat.le_of_ble_eq_true rfl) dX4_init_45 ?_
  refine b_re (ws' := ((h0, .inr (4, [.ref ((a1 0)), .ref ((a2 0)), .ref ((a3 0)), .ref ((a4 0)), .null, .null, .null, .null, .null, .null, .int 0, .int 0])) :: (((([] ++ FM1 w a1) ++ FM1 w a2) ++ FM1 w a3) ++ FM3 w a4))) rfl ?_
  refine b_aload_n C dX4_init_48 rfl rfl ?_
  refine b_new C nw_X4_29 (by decide) (by decide) dX4_init_49 (fun q5 => ?_)
  refine b_re (ws' := ((h0, .inr (4, [.ref ((a1 0)), .ref ((a2 0)), .ref ((a3 0)), .ref ((a4 0)), .null, .null, .null, .null, .null, .null, .int 0, .int 0])) :: ((((([] ++ FM1 w a1) ++ FM1 w a2) ++ FM1 w a3) ++ FM3 w a4) ++ [(q5, .inr (0, [.int 0, .int 0]))]))) rfl ?_
  refine b_dup C dX4_init_52 rfl ?_
  refine b_calN (w0 := ((h0, .inr (4, [.ref ((a1 0)), .ref ((a2 0)), .ref ((a3 0)), .ref ((a4 0)), .null, .null, .null, .null, .null, .null, .int 0, .int 0])) :: (((([] ++ FM1 w a1) ++ FM1 w a2) ++ FM1 w a3) ++ FM3 w a4))) C mj_X4_31 (fun U h => (h rfl).2.2.1) (ct_X0_init l w) rfl (fun _ => rfl) (by decide) (by decide) (by decide) (Nat.le_of_ble_eq_true rfl) dX4_init_53 (fun a5 ea5 => ?_)
  subst ea5
  refine b_re (ws' := ((h0, .inr (4, [.ref ((a1 0)), .ref ((a2 0)), .ref ((a3 0)), .ref ((a4 0)), .null, .null, .null, .null, .null, .null, .int 0, .int 0])) :: ((((([] ++ FM1 w a1) ++ FM1 w a2) ++ FM1 w a3) ++ FM3 w a4) ++ FM0 w a5))) rfl ?_
  refine b_putr (fs := [.ref ((a1 0)), .ref ((a2 0)), .ref ((a3 0)), .ref ((a4 0)), .null, .null, .null, .null, .null, .null, .int 0, .int 0]) (tl := ((((([] ++ FM1 w a1) ++ FM1 w a2) ++ FM1 w a3) ++ FM3 w a4) ++ FM0 w a5)) C (by decide) ff_X4_32 rfl (Nat.le_of_ble_eq_true rfl) dX4_init_56 ?_
  refine b_re (ws' := ((h0, .inr (4, [.ref ((a1 0)), .ref ((a2 0)), .ref ((a3 0)), .ref ((a4 0)), .ref ((a5 0)), .null, .null, .null, .null, .null, .int 0, .int 0])) :: ((((([] ++ FM1 w a1) ++ FM1 w a2) ++ FM1 w a3) ++ FM3 w a4) ++ FM0 w a5))) rfl ?_
  refine b_aload_n C dX4_init_59 rfl rfl ?_
  refine b_new C nw_X4_36 (by decide) (by decide) dX4_init_60 (fun q6 => ?_)
  refine b_re (ws' := ((h0, .inr (4, [.ref ((a1 0)), .ref ((a2 0)), .ref ((a3 0)), .ref ((a4 0)), .ref ((a5 0)), .null, .null, .null, .null, .null, .int 0, .int 0])) :: (((((([] ++ FM1 w a1) ++ FM1 w a2) ++ FM1 w a3) ++ FM3 w a4) ++ FM0 w a5) ++ [(q6, .inr (2, [.null, .int 0]))]))) rfl ?_
  refine b_dup C dX4_init_63 rfl ?_
  refine b_calN (w0 := ((h0, .inr (4, [.ref ((a1 0)), .ref ((a2 0)), .ref ((a3 0)), .ref ((a4 0)), .ref ((a5 0)), .null, .null, .null, .null, .null, .int 0, .int 0])) :: ((((([] ++ FM1 w a1) ++ FM1 w a2) ++ FM1 w a3) ++ FM3 w a4) ++ FM0 w a5))) C mj_X4_38 (fun U h => (h rfl).2.2.2.1) (ct_X2_init l w) rfl (fun _ => rfl) (by decide) (by decide) (by decide) (Nat.le_of_ble_eq_true rfl) dX4_init_64 (fun a6 ea6 => ?_)
  subst ea6
  refine b_re (ws' := ((h0, .inr (4, [.ref ((a1 0)), .ref ((a2 0)), .ref ((a3 0)), .ref ((a4 0)), .ref ((a5 0)), .null, .null, .null, .null, .null, .int 0, .int 0])) :: (((((([] ++ FM1 w a1) ++ FM1 w a2) ++ FM1 w a3) ++ FM3 w a4) ++ FM0 w a5) ++ FM2 w a6))) rfl ?_
  refine b_putr (fs := [.ref ((a1 0)), .ref ((a2 0)), .ref ((a3 0)), .ref ((a4 0)), .ref ((a5 0)), .null, .null, .null, .null, .null, .int 0, .int 0]) (tl := (((((([] ++ FM1 w a1) ++ FM1 w a2) ++ FM1 w a3) ++ FM3 w a4) ++ FM0 w a5) ++ FM2 w a6)) C (by decide) ff_X4_39 rfl (Nat.le_of_ble_eq_true rfl) dX4_init_67 ?_
  refine b_re (ws' := ((h0, .inr (4, [.ref ((a1 0)), .ref ((a2 0)), .ref ((a3 0)), .ref ((a4 0)), .ref ((a5 0)), .ref ((a6 0)), .null, .null, .null, .null, .int 0, .int 0])) :: (((((([] ++ FM1 w a1) ++ FM1 w a2) ++ FM1 w a3) ++ FM3 w a4) ++ FM0 w a5) ++ FM2 w a6))) rfl ?_
  refine b_aload_n C dX4_init_70 rfl rfl ?_
  refine b_bipush C dX4_init_71 bp_20 ?_
  refine b_newi (N := 20) C ac_int (by decide) (by decide) (by decide) (by decide) (by decide) dX4_init_73 (fun q7 => ?_)
  refine b_re (ws' := ((h0, .inr (4, [.ref ((a1 0)), .ref ((a2 0)), .ref ((a3 0)), .ref ((a4 0)), .ref ((a5 0)), .ref ((a6 0)), .null, .null, .null, .null, .int 0, .int 0])) :: ((((((([] ++ FM1 w a1) ++ FM1 w a2) ++ FM1 w a3) ++ FM3 w a4) ++ FM0 w a5) ++ FM2 w a6) ++ [(q7, .inl (wI w, 20, .inl (fun _ => 0)))]))) rfl ?_
  refine b_putr (fs := [.ref ((a1 0)), .ref ((a2 0)), .ref ((a3 0)), .ref ((a4 0)), .ref ((a5 0)), .ref ((a6 0)), .null, .null, .null, .null, .int 0, .int 0]) (tl := ((((((([] ++ FM1 w a1) ++ FM1 w a2) ++ FM1 w a3) ++ FM3 w a4) ++ FM0 w a5) ++ FM2 w a6) ++ [(q7, .inl (wI w, 20, .inl (fun _ => 0)))])) C (by decide) ff_X4_43 rfl (Nat.le_of_ble_eq_true rfl) dX4_init_75 ?_
  refine b_re (ws' := ((h0, .inr (4, [.ref ((a1 0)), .ref ((a2 0)), .ref ((a3 0)), .ref ((a4 0)), .ref ((a5 0)), .ref ((a6 0)), .ref q7, .null, .null, .null, .int 0, .int 0])) :: ((((((([] ++ FM1 w a1) ++ FM1 w a2) ++ FM1 w a3) ++ FM3 w a4) ++ FM0 w a5) ++ FM2 w a6) ++ [(q7, .inl (wI w, 20, .inl (fun _ => 0)))]))) rfl ?_
  refine b_aload_n C dX4_init_78 rfl rfl ?_
  refine b_bipush C dX4_init_79 bp_7 ?_
  refine b_newi (N := 7) C ac_int (by decide) (by decide) (by decide) (by decide) (by decide) dX4_init_81 (fun q8 => ?_)
  refine b_re (ws' := ((h0, .inr (4, [.ref ((a1 0)), .ref ((a2 0)), .ref ((a3 0)), .ref ((a4 0)), .ref ((a5 0)), .ref ((a6 0)), .ref q7, .null, .null, .null, .int 0, .int 0])) :: (((((((([] ++ FM1 w a1) ++ FM1 w a2) ++ FM1 w a3) ++ FM3 w a4) ++ FM0 w a5) ++ FM2 w a6) ++ [(q7, .inl (wI w, 20, .inl (fun _ => 0)))]) ++ [(q8, .inl (wI w, 7, .inl (fun _ => 0)))]))) rfl ?_
  refine b_putr (fs := [.ref ((a1 0)), .ref ((a2 0)), .ref ((a3 0)), .ref ((a4 0)), .ref ((a5 0)), .ref ((a6 0)), .ref q7, .null, .null, .null, .int 0, .int 0]) (tl := (((((((([] ++ FM1 w a1) ++ FM1 w a2) ++ FM1 w a3) ++ FM3 w a4) ++ FM0 w a5) ++ FM2 w a6) ++ [(q7, .inl (wI w, 20, .inl (fun _ => 0)))]) ++ [(q8, .inl (wI w, 7, .inl (fun _ => 0)))])) C (by decide) ff_X4_47 rfl (Nat.le_of_ble_eq_true rfl) dX4_init_83 ?_
  refine b_re (ws' := ((h0, .inr (4, [.ref ((a1 0)), .ref ((a2 0)), .ref ((a3 0)), .ref ((a4 0)), .ref ((a5 0)), .ref ((a6 0)), .ref q7, .ref q8, .null, .null, .int 0, .int 0])) :: (((((((([] ++ FM1 w a1) ++ FM1 w a2) ++ FM1 w a3) ++ FM3 w a4) ++ FM0 w a5) ++ FM2 w a6) ++ [(q7, .inl (wI w, 20, .inl (fun _ => 0)))]) ++ [(q8, .inl (wI w, 7, .inl (fun _ => 0)))]))) rfl ?_
  refine b_aload_n C dX4_init_86 rfl rfl ?_
  refine b_bipush C dX4_init_87 bp_81 ?_
  refine b_newi (N := 81) C ac_int (by decide) (by decide) (by decide) (by decide) (by decide) dX4_init_89 (fun q9 => ?_)
  refine b_re (ws' := ((h0, .inr (4, [.ref ((a1 0)), .ref ((a2 0)), .ref ((a3 0)), .ref ((a4 0)), .ref ((a5 0)), .ref ((a6 0)), .ref q7, .ref q8, .null, .null, .int 0, .int 0])) :: ((((((((([] ++ FM1 w a1) ++ FM1 w a2) ++ FM1 w a3) ++ FM3 w a4) ++ FM0 w a5) ++ FM2 w a6) ++ [(q7, .inl (wI w, 20, .inl (fun _ => 0)))]) ++ [(q8, .inl (wI w, 7, .inl (fun _ => 0)))]) ++ [(q9, .inl (wI w, 81, .inl (fun _ => 0)))]))) rfl ?_
  refine b_putr (fs := [.ref ((a1 0)), .ref ((a2 0)), .ref ((a3 0)), .ref ((a4 0)), .ref ((a5 0)), .ref ((a6 0)), .ref q7, .ref q8, .null, .null, .int 0, .int 0]) (tl := ((((((((([] ++ FM1 w a1) ++ FM1 w a2) ++ FM1 w a3) ++ FM3 w a4) ++ FM0 w a5) ++ FM2 w a6) ++ [(q7, .inl (wI w, 20, .inl (fun _ => 0)))]) ++ [(q8, .inl (wI w, 7, .inl (fun _ => 0)))]) ++ [(q9, .inl (wI w, 81, .inl (fun _ => 0)))])) C (by decide) ff_X4_50 rfl (Nat.le_of_ble_eq_true rfl) dX4_init_91 ?_
  refine b_re (ws' := ((h0, .inr (4, [.ref ((a1 0)), .ref ((a2 0)), .ref ((a3 0)), .ref ((a4 0)), .ref ((a5 0)), .ref ((a6 0)), .ref q7, .ref q8, .ref q9, .null, .int 0, .int 0])) :: ((((((((([] ++ FM1 w a1) ++ FM1 w a2) ++ FM1 w a3) ++ FM3 w a4) ++ FM0 w a5) ++ FM2 w a6) ++ [(q7, .inl (wI w, 20, .inl (fun _ => 0)))]) ++ [(q8, .inl (wI w, 7, .inl (fun _ => 0)))]) ++ [(q9, .inl (wI w, 81, .inl (fun _ => 0)))]))) rfl ?_
  refine b_aload_n C dX4_init_94 rfl rfl ?_
  refine b_bipush C dX4_init_95 bp_64 ?_
  refine b_newi (N := 64) C ac_int (by decide) (by decide) (by decide) (by decide) (by decide) dX4_init_97 (fun q10 => ?_)
  refine b_re (ws' := ((h0, .inr (4, [.ref ((a1 0)), .ref ((a2 0)), .ref ((a3 0)), .ref ((a4 0)), .ref ((a5 0)), .ref ((a6 0)), .ref q7, .ref q8, .ref q9, .null, .int 0, .int 0])) :: (((((((((([] ++ FM1 w a1) ++ FM1 w a2) ++ FM1 w a3) ++ FM3 w a4) ++ FM0 w a5) ++ FM2 w a6) ++ [(q7, .inl (wI w, 20, .inl (fun _ => 0)))]) ++ [(q8, .inl (wI w, 7, .inl (fun _ => 0)))]) ++ [(q9, .inl (wI w, 81, .inl (fun _ => 0)))]) ++ [(q10, .inl (wI w, 64, .inl (fun _ => 0)))]))) rfl ?_
  refine b_putr (fs := [.ref ((a1 0)), .ref ((a2 0)), .ref ((a3 0)), .ref ((a4 0)), .ref ((a5 0)), .ref ((a6 0)), .ref q7, .ref q8, .ref q9, .null, .int 0, .int 0]) (tl := (((((((((([] ++ FM1 w a1) ++ FM1 w a2) ++ FM1 w a3) ++ FM3 w a4) ++ FM0 w a5) ++ FM2 w a6) ++ [(q7, .inl (wI w, 20, .inl (fun _ => 0)))]) ++ [(q8, .inl (wI w, 7, .inl (fun _ => 0)))]) ++ [(q9, .inl (wI w, 81, .inl (fun _ => 0)))]) ++ [(q10, .inl (wI w, 64, .inl (fun _ => 0)))])) C (by decide) ff_X4_53 rfl (Nat.le_of_ble_eq_true rfl) dX4_init_99 ?_
  refine b_re (ws' := ((h0, .inr (4, [.ref ((a1 0)), .ref ((a2 0)), .ref ((a3 0)), .ref ((a4 0)), .ref ((a5 0)), .ref ((a6 0)), .ref q7, .ref q8, .ref q9, .ref q10, .int 0, .int 0])) :: (((((((((([] ++ FM1 w a1) ++ FM1 w a2) ++ FM1 w a3) ++ FM3 w a4) ++ FM0 w a5) ++ FM2 w a6) ++ [(q7, .inl (wI w, 20, .inl (fun _ => 0)))]) ++ [(q8, .inl (wI w, 7, .inl (fun _ => 0)))]) ++ [(q9, .inl (wI w, 81, .inl (fun _ => 0)))]) ++ [(q10, .inl (wI w, 64, .inl (fun _ => 0)))]))) rfl ?_
  exact b_vret (fun k => [h0, a1 0, a1 1, a1 2, a1 3, a1 4, a1 5, a1 6, a1 7, a1 8, a2 0, a2 1, a2 2, a2 3, a2 4, a2 5, a2 6, a2 7, a2 8, a3 0, a3 1, a3 2, a3 3, a3 4, a3 5, a3 6, a3 7, a3 8, a4 0, a4 1, a4 2, a5 0, a6 0, a6 1, q7, q8, q9, q10].getD k 0) C r rfl rfl dX4_init_102

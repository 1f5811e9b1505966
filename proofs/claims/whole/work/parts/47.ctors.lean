theorem wA_c {y : MethodName} {b : ByteArray} {k : Nat} {r : Option FieldType} (h : Cond.code y b k r ∈ wA) : GoodIn wA (Cond.code y b k r :: wA) := fun w hw => by
  rcases List.mem_cons.mp hw with rfl | h2
  · exact wA_good _ h
  · exact wA_good _ h2

-- CanonMaker$Subject.<init>
theorem d_Subject_init_0 : decode prog_6_method_1_code 0 = .ok (.aload_n 0, 1) := by decide +kernel
theorem d_Subject_init_1 : decode prog_6_method_1_code 1 = .ok (.invokespecial 3, 3) := by decide +kernel
theorem d_Subject_init_4 : decode prog_6_method_1_code 4 = .ok (.aload_n 0, 1) := by decide +kernel
theorem d_Subject_init_5 : decode prog_6_method_1_code 5 = .ok (.bipush 24, 2) := by decide +kernel
theorem d_Subject_init_7 : decode prog_6_method_1_code 7 = .ok (.newarray .int, 2) := by decide +kernel
theorem d_Subject_init_9 : decode prog_6_method_1_code 9 = .ok (.putfield 9, 3) := by decide +kernel
theorem d_Subject_init_12 : decode prog_6_method_1_code 12 = .ok (.aload_n 0, 1) := by decide +kernel
theorem d_Subject_init_13 : decode prog_6_method_1_code 13 = .ok (.bipush 24, 2) := by decide +kernel
theorem d_Subject_init_15 : decode prog_6_method_1_code 15 = .ok (.newarray .int, 2) := by decide +kernel
theorem d_Subject_init_17 : decode prog_6_method_1_code 17 = .ok (.putfield 15, 3) := by decide +kernel
theorem d_Subject_init_20 : decode prog_6_method_1_code 20 = .ok (.return_, 1) := by decide +kernel
abbrev rm_Subject_init : Room := { frames := 1, cells := 2, slots := 48, locals := 12 }
abbrev ws_Subject_init : List Cond := Cond.code y_Subject_init prog_6_method_1_code 1 none :: wA
set_option maxHeartbeats 4000000 in
set_option maxRecDepth 100000 in
theorem c_Subject_init (l : Launch) (D : va_G) (cs : Nat → ClassId) (h0 : Nat) : mb_C l y_Subject_init ws_Subject_init rm_Subject_init D cmcl [(cs 0, .int)] [] [.ref h0] [(h0, .inr (0, [.null, .null, .int 0]))] (fun u => [(h0, .inr (0, [.ref (u 0), .ref (u 1), .int 0])), ((u 0), .inl (cs 0, 24, .inl (fun _ => 0))), ((u 1), .inl (cs 0, 24, .inl (fun _ => 0)))]) 2 48 := by
  refine mb_met (own := "CanonMaker$Subject") (Ts := wA) (by decide) rfl rfl (fun w h => List.mem_cons_of_mem _ h) rfl (Nat.le_of_ble_eq_true rfl) [(0, .ref h0)] rfl ?_
  intro p_ e_ s_ m_ as_ bl_ me_ co_ A_ Q_ X hini hret
  refine mb_aloadn (nx := 1) X 0 d_Subject_init_0 rfl rfl ?_
  refine mb_obj (nx := 4) X wd_63 wd_56 wd_57 d_Subject_init_1 rfl (Nat.le_of_ble_eq_true rfl) (Nat.le_of_ble_eq_true rfl) ?_
  refine mb_aloadn (nx := 5) X 0 d_Subject_init_4 rfl rfl ?_
  refine mb_bipush (nx := 7) X d_Subject_init_5 (by decide) rfl ?_
  refine mb_newi (nx := 9) (N := 24) X 0 wd_80 rfl (by decide) rfl (by decide) (Nat.le_of_ble_eq_true rfl) (Nat.le_of_ble_eq_true rfl) d_Subject_init_7 rfl (fun q1 => ?_)
  refine mb_putF (nx := 12) (ws' := [(h0, .inr (0, [.ref q1, .null, .int 0])), (q1, .inl (cs 0, 24, .inl (fun _ => 0)))]) (ty := .array .int) X hini t_Subject t_Subject_ok n_Subject 0 rfl rfl in_Subject 0 (by decide) wd_64 rfl rfl (by decide +kernel) rfl rfl (Nat.le_of_ble_eq_true rfl) rfl d_Subject_init_9 rfl ?_
  refine mb_aloadn (nx := 13) X 0 d_Subject_init_12 rfl rfl ?_
  refine mb_bipush (nx := 15) X d_Subject_init_13 (by decide) rfl ?_
  refine mb_newi (nx := 17) (N := 24) X 0 wd_80 rfl (by decide) rfl (by decide) (Nat.le_of_ble_eq_true rfl) (Nat.le_of_ble_eq_true rfl) d_Subject_init_15 rfl (fun q2 => ?_)
  refine mb_putF (nx := 20) (ws' := [(h0, .inr (0, [.ref q1, .ref q2, .int 0])), (q1, .inl (cs 0, 24, .inl (fun _ => 0))), (q2, .inl (cs 0, 24, .inl (fun _ => 0)))]) (ty := .array .int) X hini t_Subject t_Subject_ok n_Subject 0 rfl rfl in_Subject 1 (by decide) wd_67 rfl rfl (by decide +kernel) rfl rfl (Nat.le_of_ble_eq_true rfl) rfl d_Subject_init_17 rfl ?_
  exact hret (fun i => ([q1, q2] : List Nat).getD i 0) _ _ d_Subject_init_20

-- CanonMaker$Voice.<init>
theorem d_Voice_init_0 : decode prog_7_method_1_code 0 = .ok (.aload_n 0, 1) := by decide +kernel
theorem d_Voice_init_1 : decode prog_7_method_1_code 1 = .ok (.invokespecial 1, 3) := by decide +kernel
theorem d_Voice_init_4 : decode prog_7_method_1_code 4 = .ok (.aload_n 0, 1) := by decide +kernel
theorem d_Voice_init_5 : decode prog_7_method_1_code 5 = .ok (.iconst 1, 1) := by decide +kernel
theorem d_Voice_init_6 : decode prog_7_method_1_code 6 = .ok (.putfield 7, 3) := by decide +kernel
theorem d_Voice_init_9 : decode prog_7_method_1_code 9 = .ok (.return_, 1) := by decide +kernel
abbrev rm_Voice_init : Room := { frames := 1, cells := 0, slots := 0, locals := 12 }
abbrev ws_Voice_init : List Cond := Cond.code y_Voice_init prog_7_method_1_code 1 none :: wA
set_option maxHeartbeats 4000000 in
set_option maxRecDepth 100000 in
theorem c_Voice_init (l : Launch) (D : va_G) (cs : Nat → ClassId) (h0 : Nat) : mb_C l y_Voice_init ws_Voice_init rm_Voice_init D cmcl [] [] [.ref h0] [(h0, .inr (1, [.int 0, .int 0, .int 0, .int 0, .int 0]))] (fun u => [(h0, .inr (1, [.int 0, .int 0, .int 0, .int 0, .int (zi 1)]))]) 0 0 := by
  refine mb_met (own := "CanonMaker$Voice") (Ts := wA) (by decide) rfl rfl (fun w h => List.mem_cons_of_mem _ h) rfl (Nat.le_of_ble_eq_true rfl) [(0, .ref h0)] rfl ?_
  intro p_ e_ s_ m_ as_ bl_ me_ co_ A_ Q_ X hini hret
  refine mb_aloadn (nx := 1) X 0 d_Voice_init_0 rfl rfl ?_
  refine mb_obj (nx := 4) X wd_264 wd_56 wd_57 d_Voice_init_1 rfl (Nat.le_of_ble_eq_true rfl) (Nat.le_of_ble_eq_true rfl) ?_
  refine mb_aloadn (nx := 5) X 0 d_Voice_init_4 rfl rfl ?_
  refine mb_iconst (nx := 6) X d_Voice_init_5 rfl ?_
  refine mb_put (nx := 9) (ws' := [(h0, .inr (1, [.int 0, .int 0, .int 0, .int 0, .int (zi 1)]))]) (ty := .int) X t_Voice t_Voice_ok n_Voice 0 rfl rfl in_Voice 4 (by decide) wd_273 rfl rfl (by decide +kernel) rfl rfl (Nat.le_of_ble_eq_true rfl) rfl d_Voice_init_6 rfl ?_
  exact hret (fun i => ([] : List Nat).getD i 0) _ _ d_Voice_init_9

-- CanonMaker$Bounds.<init>
theorem d_Bounds_init_0 : decode prog_2_method_1_code 0 = .ok (.aload_n 0, 1) := by decide +kernel
theorem d_Bounds_init_1 : decode prog_2_method_1_code 1 = .ok (.invokespecial 3, 3) := by decide +kernel
theorem d_Bounds_init_4 : decode prog_2_method_1_code 4 = .ok (.aload_n 0, 1) := by decide +kernel
theorem d_Bounds_init_5 : decode prog_2_method_1_code 5 = .ok (.bipush 127, 2) := by decide +kernel
theorem d_Bounds_init_7 : decode prog_2_method_1_code 7 = .ok (.putfield 9, 3) := by decide +kernel
theorem d_Bounds_init_10 : decode prog_2_method_1_code 10 = .ok (.aload_n 0, 1) := by decide +kernel
theorem d_Bounds_init_11 : decode prog_2_method_1_code 11 = .ok (.sipush 4095, 3) := by decide +kernel
theorem d_Bounds_init_14 : decode prog_2_method_1_code 14 = .ok (.putfield 15, 3) := by decide +kernel
theorem d_Bounds_init_17 : decode prog_2_method_1_code 17 = .ok (.aload_n 0, 1) := by decide +kernel
theorem d_Bounds_init_18 : decode prog_2_method_1_code 18 = .ok (.iconst 4, 1) := by decide +kernel
theorem d_Bounds_init_19 : decode prog_2_method_1_code 19 = .ok (.putfield 18, 3) := by decide +kernel
theorem d_Bounds_init_22 : decode prog_2_method_1_code 22 = .ok (.return_, 1) := by decide +kernel
abbrev rm_Bounds_init : Room := { frames := 1, cells := 0, slots := 0, locals := 12 }
abbrev ws_Bounds_init : List Cond := Cond.code y_Bounds_init prog_2_method_1_code 1 none :: wA
set_option maxHeartbeats 4000000 in
set_option maxRecDepth 100000 in
theorem c_Bounds_init (l : Launch) (D : va_G) (cs : Nat → ClassId) (h0 : Nat) : mb_C l y_Bounds_init ws_Bounds_init rm_Bounds_init D cmcl [] [] [.ref h0] [(h0, .inr (2, [.int 0, .int 0, .int 0, .int 0, .int 0]))] (fun u => [(h0, .inr (2, [.int 0, .int (zi 127), .int (zi 4095), .int (zi 4), .int 0]))]) 0 0 := by
  refine mb_met (own := "CanonMaker$Bounds") (Ts := wA) (by decide) rfl rfl (fun w h => List.mem_cons_of_mem _ h) rfl (Nat.le_of_ble_eq_true rfl) [(0, .ref h0)] rfl ?_
  intro p_ e_ s_ m_ as_ bl_ me_ co_ A_ Q_ X hini hret
  refine mb_aloadn (nx := 1) X 0 d_Bounds_init_0 rfl rfl ?_
  refine mb_obj (nx := 4) X wd_88 wd_56 wd_57 d_Bounds_init_1 rfl (Nat.le_of_ble_eq_true rfl) (Nat.le_of_ble_eq_true rfl) ?_
  refine mb_aloadn (nx := 5) X 0 d_Bounds_init_4 rfl rfl ?_
  refine mb_bipush (nx := 7) X d_Bounds_init_5 (by decide) rfl ?_
  refine mb_put (nx := 10) (ws' := [(h0, .inr (2, [.int 0, .int (zi 127), .int 0, .int 0, .int 0]))]) (ty := .int) X t_Bounds t_Bounds_ok n_Bounds 0 rfl rfl in_Bounds 1 (by decide) wd_91 rfl rfl (by decide +kernel) rfl rfl (Nat.le_of_ble_eq_true rfl) rfl d_Bounds_init_7 rfl ?_
  refine mb_aloadn (nx := 11) X 0 d_Bounds_init_10 rfl rfl ?_
  refine mb_sipush (nx := 14) X d_Bounds_init_11 (by decide) rfl ?_
  refine mb_put (nx := 17) (ws' := [(h0, .inr (2, [.int 0, .int (zi 127), .int (zi 4095), .int 0, .int 0]))]) (ty := .int) X t_Bounds t_Bounds_ok n_Bounds 0 rfl rfl in_Bounds 2 (by decide) wd_94 rfl rfl (by decide +kernel) rfl rfl (Nat.le_of_ble_eq_true rfl) rfl d_Bounds_init_14 rfl ?_
  refine mb_aloadn (nx := 18) X 0 d_Bounds_init_17 rfl rfl ?_
  refine mb_iconst (nx := 19) X d_Bounds_init_18 rfl ?_
  refine mb_put (nx := 22) (ws' := [(h0, .inr (2, [.int 0, .int (zi 127), .int (zi 4095), .int (zi 4), .int 0]))]) (ty := .int) X t_Bounds t_Bounds_ok n_Bounds 0 rfl rfl in_Bounds 3 (by decide) wd_97 rfl rfl (by decide +kernel) rfl rfl (Nat.le_of_ble_eq_true rfl) rfl d_Bounds_init_19 rfl ?_
  exact hret (fun i => ([] : List Nat).getD i 0) _ _ d_Bounds_init_22

-- CanonMaker$Line.<init>
theorem d_Line_init_0 : decode prog_4_method_1_code 0 = .ok (.aload_n 0, 1) := by decide +kernel
theorem d_Line_init_1 : decode prog_4_method_1_code 1 = .ok (.invokespecial 3, 3) := by decide +kernel
theorem d_Line_init_4 : decode prog_4_method_1_code 4 = .ok (.aload_n 0, 1) := by decide +kernel
theorem d_Line_init_5 : decode prog_4_method_1_code 5 = .ok (.bipush 24, 2) := by decide +kernel
theorem d_Line_init_7 : decode prog_4_method_1_code 7 = .ok (.newarray .int, 2) := by decide +kernel
theorem d_Line_init_9 : decode prog_4_method_1_code 9 = .ok (.putfield 9, 3) := by decide +kernel
theorem d_Line_init_12 : decode prog_4_method_1_code 12 = .ok (.aload_n 0, 1) := by decide +kernel
theorem d_Line_init_13 : decode prog_4_method_1_code 13 = .ok (.bipush 24, 2) := by decide +kernel
theorem d_Line_init_15 : decode prog_4_method_1_code 15 = .ok (.newarray .int, 2) := by decide +kernel
theorem d_Line_init_17 : decode prog_4_method_1_code 17 = .ok (.putfield 15, 3) := by decide +kernel
theorem d_Line_init_20 : decode prog_4_method_1_code 20 = .ok (.aload_n 0, 1) := by decide +kernel
theorem d_Line_init_21 : decode prog_4_method_1_code 21 = .ok (.bipush 24, 2) := by decide +kernel
theorem d_Line_init_23 : decode prog_4_method_1_code 23 = .ok (.newarray .int, 2) := by decide +kernel
theorem d_Line_init_25 : decode prog_4_method_1_code 25 = .ok (.putfield 18, 3) := by decide +kernel
theorem d_Line_init_28 : decode prog_4_method_1_code 28 = .ok (.aload_n 0, 1) := by decide +kernel
theorem d_Line_init_29 : decode prog_4_method_1_code 29 = .ok (.bipush 24, 2) := by decide +kernel
theorem d_Line_init_31 : decode prog_4_method_1_code 31 = .ok (.newarray .int, 2) := by decide +kernel
theorem d_Line_init_33 : decode prog_4_method_1_code 33 = .ok (.putfield 21, 3) := by decide +kernel
theorem d_Line_init_36 : decode prog_4_method_1_code 36 = .ok (.aload_n 0, 1) := by decide +kernel
theorem d_Line_init_37 : decode prog_4_method_1_code 37 = .ok (.bipush 24, 2) := by decide +kernel
theorem d_Line_init_39 : decode prog_4_method_1_code 39 = .ok (.newarray .int, 2) := by decide +kernel
theorem d_Line_init_41 : decode prog_4_method_1_code 41 = .ok (.putfield 24, 3) := by decide +kernel
theorem d_Line_init_44 : decode prog_4_method_1_code 44 = .ok (.return_, 1) := by decide +kernel
abbrev rm_Line_init : Room := { frames := 1, cells := 5, slots := 120, locals := 12 }
abbrev ws_Line_init : List Cond := Cond.code y_Line_init prog_4_method_1_code 1 none :: wA
set_option maxHeartbeats 4000000 in
set_option maxRecDepth 100000 in
theorem c_Line_init (l : Launch) (D : va_G) (cs : Nat → ClassId) (h0 : Nat) : mb_C l y_Line_init ws_Line_init rm_Line_init D cmcl [(cs 0, .int)] [] [.ref h0] [(h0, .inr (3, [.null, .null, .null, .null, .null, .int 0, .int 0, .int 0, .int 0, .int 0, .int 0, .int 0]))] (fun u => [(h0, .inr (3, [.ref (u 0), .ref (u 1), .ref (u 2), .ref (u 3), .ref (u 4), .int 0, .int 0, .int 0, .int 0, .int 0, .int 0, .int 0])), ((u 0), .inl (cs 0, 24, .inl (fun _ => 0))), ((u 1), .inl (cs 0, 24, .inl (fun _ => 0))), ((u 2), .inl (cs 0, 24, .inl (fun _ => 0))), ((u 3), .inl (cs 0, 24, .inl (fun _ => 0))), ((u 4), .inl (cs 0, 24, .inl (fun _ => 0)))]) 5 120 := by
  refine mb_met (own := "CanonMaker$Line") (Ts := wA) (by decide) rfl rfl (fun w h => List.mem_cons_of_mem _ h) rfl (Nat.le_of_ble_eq_true rfl) [(0, .ref h0)] rfl ?_
  intro p_ e_ s_ m_ as_ bl_ me_ co_ A_ Q_ X hini hret
  refine mb_aloadn (nx := 1) X 0 d_Line_init_0 rfl rfl ?_
  refine mb_obj (nx := 4) X wd_125 wd_56 wd_57 d_Line_init_1 rfl (Nat.le_of_ble_eq_true rfl) (Nat.le_of_ble_eq_true rfl) ?_
  refine mb_aloadn (nx := 5) X 0 d_Line_init_4 rfl rfl ?_
  refine mb_bipush (nx := 7) X d_Line_init_5 (by decide) rfl ?_
  refine mb_newi (nx := 9) (N := 24) X 0 wd_80 rfl (by decide) rfl (by decide) (Nat.le_of_ble_eq_true rfl) (Nat.le_of_ble_eq_true rfl) d_Line_init_7 rfl (fun q1 => ?_)
  refine mb_putF (nx := 12) (ws' := [(h0, .inr (3, [.ref q1, .null, .null, .null, .null, .int 0, .int 0, .int 0, .int 0, .int 0, .int 0, .int 0])), (q1, .inl (cs 0, 24, .inl (fun _ => 0)))]) (ty := .array .int) X hini t_Line t_Line_ok n_Line 0 rfl rfl in_Line 0 (by decide) wd_126 rfl rfl (by decide +kernel) rfl rfl (Nat.le_of_ble_eq_true rfl) rfl d_Line_init_9 rfl ?_
  refine mb_aloadn (nx := 13) X 0 d_Line_init_12 rfl rfl ?_
  refine mb_bipush (nx := 15) X d_Line_init_13 (by decide) rfl ?_
  refine mb_newi (nx := 17) (N := 24) X 0 wd_80 rfl (by decide) rfl (by decide) (Nat.le_of_ble_eq_true rfl) (Nat.le_of_ble_eq_true rfl) d_Line_init_15 rfl (fun q2 => ?_)
  refine mb_putF (nx := 20) (ws' := [(h0, .inr (3, [.ref q1, .ref q2, .null, .null, .null, .int 0, .int 0, .int 0, .int 0, .int 0, .int 0, .int 0])), (q1, .inl (cs 0, 24, .inl (fun _ => 0))), (q2, .inl (cs 0, 24, .inl (fun _ => 0)))]) (ty := .array .int) X hini t_Line t_Line_ok n_Line 0 rfl rfl in_Line 1 (by decide) wd_128 rfl rfl (by decide +kernel) rfl rfl (Nat.le_of_ble_eq_true rfl) rfl d_Line_init_17 rfl ?_
  refine mb_aloadn (nx := 21) X 0 d_Line_init_20 rfl rfl ?_
  refine mb_bipush (nx := 23) X d_Line_init_21 (by decide) rfl ?_
  refine mb_newi (nx := 25) (N := 24) X 0 wd_80 rfl (by decide) rfl (by decide) (Nat.le_of_ble_eq_true rfl) (Nat.le_of_ble_eq_true rfl) d_Line_init_23 rfl (fun q3 => ?_)
  refine mb_putF (nx := 28) (ws' := [(h0, .inr (3, [.ref q1, .ref q2, .ref q3, .null, .null, .int 0, .int 0, .int 0, .int 0, .int 0, .int 0, .int 0])), (q1, .inl (cs 0, 24, .inl (fun _ => 0))), (q2, .inl (cs 0, 24, .inl (fun _ => 0))), (q3, .inl (cs 0, 24, .inl (fun _ => 0)))]) (ty := .array .int) X hini t_Line t_Line_ok n_Line 0 rfl rfl in_Line 2 (by decide) wd_129 rfl rfl (by decide +kernel) rfl rfl (Nat.le_of_ble_eq_true rfl) rfl d_Line_init_25 rfl ?_
  refine mb_aloadn (nx := 29) X 0 d_Line_init_28 rfl rfl ?_
  refine mb_bipush (nx := 31) X d_Line_init_29 (by decide) rfl ?_
  refine mb_newi (nx := 33) (N := 24) X 0 wd_80 rfl (by decide) rfl (by decide) (Nat.le_of_ble_eq_true rfl) (Nat.le_of_ble_eq_true rfl) d_Line_init_31 rfl (fun q4 => ?_)
  refine mb_putF (nx := 36) (ws' := [(h0, .inr (3, [.ref q1, .ref q2, .ref q3, .ref q4, .null, .int 0, .int 0, .int 0, .int 0, .int 0, .int 0, .int 0])), (q1, .inl (cs 0, 24, .inl (fun _ => 0))), (q2, .inl (cs 0, 24, .inl (fun _ => 0))), (q3, .inl (cs 0, 24, .inl (fun _ => 0))), (q4, .inl (cs 0, 24, .inl (fun _ => 0)))]) (ty := .array .int) X hini t_Line t_Line_ok n_Line 0 rfl rfl in_Line 3 (by decide) wd_133 rfl rfl (by decide +kernel) rfl rfl (Nat.le_of_ble_eq_true rfl) rfl d_Line_init_33 rfl ?_
  refine mb_aloadn (nx := 37) X 0 d_Line_init_36 rfl rfl ?_
  refine mb_bipush (nx := 39) X d_Line_init_37 (by decide) rfl ?_
  refine mb_newi (nx := 41) (N := 24) X 0 wd_80 rfl (by decide) rfl (by decide) (Nat.le_of_ble_eq_true rfl) (Nat.le_of_ble_eq_true rfl) d_Line_init_39 rfl (fun q5 => ?_)
  refine mb_putF (nx := 44) (ws' := [(h0, .inr (3, [.ref q1, .ref q2, .ref q3, .ref q4, .ref q5, .int 0, .int 0, .int 0, .int 0, .int 0, .int 0, .int 0])), (q1, .inl (cs 0, 24, .inl (fun _ => 0))), (q2, .inl (cs 0, 24, .inl (fun _ => 0))), (q3, .inl (cs 0, 24, .inl (fun _ => 0))), (q4, .inl (cs 0, 24, .inl (fun _ => 0))), (q5, .inl (cs 0, 24, .inl (fun _ => 0)))]) (ty := .array .int) X hini t_Line t_Line_ok n_Line 0 rfl rfl in_Line 4 (by decide) wd_136 rfl rfl (by decide +kernel) rfl rfl (Nat.le_of_ble_eq_true rfl) rfl d_Line_init_41 rfl ?_
  exact hret (fun i => ([q1, q2, q3, q4, q5] : List Nat).getD i 0) _ _ d_Line_init_44

-- CanonMaker$Score.<init>
theorem d_Score_init_0 : decode prog_5_method_1_code 0 = .ok (.aload_n 0, 1) := by decide +kernel
theorem d_Score_init_1 : decode prog_5_method_1_code 1 = .ok (.invokespecial 3, 3) := by decide +kernel
theorem d_Score_init_4 : decode prog_5_method_1_code 4 = .ok (.aload_n 0, 1) := by decide +kernel
theorem d_Score_init_5 : decode prog_5_method_1_code 5 = .ok (.iconst 4, 1) := by decide +kernel
theorem d_Score_init_6 : decode prog_5_method_1_code 6 = .ok (.anewarray 9, 3) := by decide +kernel
theorem d_Score_init_9 : decode prog_5_method_1_code 9 = .ok (.putfield 11, 3) := by decide +kernel
theorem d_Score_init_12 : decode prog_5_method_1_code 12 = .ok (.aload_n 0, 1) := by decide +kernel
theorem d_Score_init_13 : decode prog_5_method_1_code 13 = .ok (.bipush 96, 2) := by decide +kernel
theorem d_Score_init_15 : decode prog_5_method_1_code 15 = .ok (.newarray .int, 2) := by decide +kernel
theorem d_Score_init_17 : decode prog_5_method_1_code 17 = .ok (.putfield 17, 3) := by decide +kernel
theorem d_Score_init_20 : decode prog_5_method_1_code 20 = .ok (.aload_n 0, 1) := by decide +kernel
theorem d_Score_init_21 : decode prog_5_method_1_code 21 = .ok (.bipush 96, 2) := by decide +kernel
theorem d_Score_init_23 : decode prog_5_method_1_code 23 = .ok (.newarray .int, 2) := by decide +kernel
theorem d_Score_init_25 : decode prog_5_method_1_code 25 = .ok (.putfield 21, 3) := by decide +kernel
theorem d_Score_init_28 : decode prog_5_method_1_code 28 = .ok (.aload_n 0, 1) := by decide +kernel
theorem d_Score_init_29 : decode prog_5_method_1_code 29 = .ok (.sipush 384, 3) := by decide +kernel
theorem d_Score_init_32 : decode prog_5_method_1_code 32 = .ok (.newarray .int, 2) := by decide +kernel
theorem d_Score_init_34 : decode prog_5_method_1_code 34 = .ok (.putfield 24, 3) := by decide +kernel
theorem d_Score_init_37 : decode prog_5_method_1_code 37 = .ok (.aload_n 0, 1) := by decide +kernel
theorem d_Score_init_38 : decode prog_5_method_1_code 38 = .ok (.bipush 96, 2) := by decide +kernel
theorem d_Score_init_40 : decode prog_5_method_1_code 40 = .ok (.newarray .int, 2) := by decide +kernel
theorem d_Score_init_42 : decode prog_5_method_1_code 42 = .ok (.putfield 27, 3) := by decide +kernel
theorem d_Score_init_45 : decode prog_5_method_1_code 45 = .ok (.iconst 0, 1) := by decide +kernel
theorem d_Score_init_46 : decode prog_5_method_1_code 46 = .ok (.istore_n 1, 1) := by decide +kernel
theorem d_Score_init_47 : decode prog_5_method_1_code 47 = .ok (.iload_n 1, 1) := by decide +kernel
theorem d_Score_init_48 : decode prog_5_method_1_code 48 = .ok (.iconst 4, 1) := by decide +kernel
theorem d_Score_init_49 : decode prog_5_method_1_code 49 = .ok (.if_icmp .ge 22, 3) := by decide +kernel
theorem d_Score_init_52 : decode prog_5_method_1_code 52 = .ok (.aload_n 0, 1) := by decide +kernel
theorem d_Score_init_53 : decode prog_5_method_1_code 53 = .ok (.getfield 11, 3) := by decide +kernel
theorem d_Score_init_56 : decode prog_5_method_1_code 56 = .ok (.iload_n 1, 1) := by decide +kernel
theorem d_Score_init_57 : decode prog_5_method_1_code 57 = .ok (.new 9, 3) := by decide +kernel
theorem d_Score_init_60 : decode prog_5_method_1_code 60 = .ok (.dup, 1) := by decide +kernel
theorem d_Score_init_61 : decode prog_5_method_1_code 61 = .ok (.invokespecial 30, 3) := by decide +kernel
theorem d_Score_init_64 : decode prog_5_method_1_code 64 = .ok (.aastore, 1) := by decide +kernel
theorem d_Score_init_65 : decode prog_5_method_1_code 65 = .ok (.iinc 1 1, 3) := by decide +kernel
theorem d_Score_init_68 : decode prog_5_method_1_code 68 = .ok (.goto (-21), 3) := by decide +kernel
theorem d_Score_init_71 : decode prog_5_method_1_code 71 = .ok (.return_, 1) := by decide +kernel
abbrev rm_Score_init : Room := { frames := 2, cells := 29, slots := 1204, locals := 32 }
abbrev ws_Score_init : List Cond := Cond.code y_Score_init prog_5_method_1_code 2 none :: wA
set_option maxHeartbeats 4000000 in
set_option maxRecDepth 100000 in
theorem c_Score_init (l : Launch) (D : va_G) (cs : Nat → ClassId) (h0 : Nat) : mb_C l y_Score_init ws_Score_init rm_Score_init D cmcl [(cs 0, .int), (cs 3, .object "CanonMaker$Line")] [Cond.arrayOver (.object "CanonMaker$Line"), Cond.methodLinkNest "CanonMaker$Score" 30 y_Line_init "CanonMaker"] [.ref h0] [(h0, .inr (4, [.null, .null, .null, .null, .null, .int 0]))] (fun u => [(h0, .inr (4, [.ref (u 0), .ref (u 1), .ref (u 2), .ref (u 3), .ref (u 4), .int 0])), ((u 0), .inl (cs 3, 4, .inr (.inr (.inr (.inr (fun j => some (([(u 5), (u 11), (u 17), (u 23)] : List Nat).getD j 0))))))), ((u 1), .inl (cs 0, 96, .inl (fun _ => 0))), ((u 2), .inl (cs 0, 96, .inl (fun _ => 0))), ((u 3), .inl (cs 0, 384, .inl (fun _ => 0))), ((u 4), .inl (cs 0, 96, .inl (fun _ => 0))), ((u 5), .inr (3, [.ref (u 6), .ref (u 7), .ref (u 8), .ref (u 9), .ref (u 10), .int 0, .int 0, .int 0, .int 0, .int 0, .int 0, .int 0])), ((u 6), .inl (cs 0, 24, .inl (fun _ => 0))), ((u 7), .inl (cs 0, 24, .inl (fun _ => 0))), ((u 8), .inl (cs 0, 24, .inl (fun _ => 0))), ((u 9), .inl (cs 0, 24, .inl (fun _ => 0))), ((u 10), .inl (cs 0, 24, .inl (fun _ => 0))), ((u 11), .inr (3, [.ref (u 12), .ref (u 13), .ref (u 14), .ref (u 15), .ref (u 16), .int 0, .int 0, .int 0, .int 0, .int 0, .int 0, .int 0])), ((u 12), .inl (cs 0, 24, .inl (fun _ => 0))), ((u 13), .inl (cs 0, 24, .inl (fun _ => 0))), ((u 14), .inl (cs 0, 24, .inl (fun _ => 0))), ((u 15), .inl (cs 0, 24, .inl (fun _ => 0))), ((u 16), .inl (cs 0, 24, .inl (fun _ => 0))), ((u 17), .inr (3, [.ref (u 18), .ref (u 19), .ref (u 20), .ref (u 21), .ref (u 22), .int 0, .int 0, .int 0, .int 0, .int 0, .int 0, .int 0])), ((u 18), .inl (cs 0, 24, .inl (fun _ => 0))), ((u 19), .inl (cs 0, 24, .inl (fun _ => 0))), ((u 20), .inl (cs 0, 24, .inl (fun _ => 0))), ((u 21), .inl (cs 0, 24, .inl (fun _ => 0))), ((u 22), .inl (cs 0, 24, .inl (fun _ => 0))), ((u 23), .inr (3, [.ref (u 24), .ref (u 25), .ref (u 26), .ref (u 27), .ref (u 28), .int 0, .int 0, .int 0, .int 0, .int 0, .int 0, .int 0])), ((u 24), .inl (cs 0, 24, .inl (fun _ => 0))), ((u 25), .inl (cs 0, 24, .inl (fun _ => 0))), ((u 26), .inl (cs 0, 24, .inl (fun _ => 0))), ((u 27), .inl (cs 0, 24, .inl (fun _ => 0))), ((u 28), .inl (cs 0, 24, .inl (fun _ => 0)))]) 29 1204 := by
  refine mb_met (own := "CanonMaker$Score") (Ts := wA) (by decide) rfl rfl (fun w h => List.mem_cons_of_mem _ h) rfl (Nat.le_of_ble_eq_true rfl) [(0, .ref h0)] rfl ?_
  intro p_ e_ s_ m_ as_ bl_ me_ co_ A_ Q_ X hini hret
  refine mb_aloadn (nx := 1) X 0 d_Score_init_0 rfl rfl ?_
  refine mb_obj (nx := 4) X wd_118 wd_56 wd_57 d_Score_init_1 rfl (Nat.le_of_ble_eq_true rfl) (Nat.le_of_ble_eq_true rfl) ?_
  refine mb_aloadn (nx := 5) X 0 d_Score_init_4 rfl rfl ?_
  refine mb_iconst (nx := 6) X d_Score_init_5 rfl ?_
  refine mb_newq (nx := 9) (C := "CanonMaker$Line") (N := 4) X 1 wd_119 (by decide +kernel) rfl (by decide) rfl (by decide) (Nat.le_of_ble_eq_true rfl) (Nat.le_of_ble_eq_true rfl) d_Score_init_6 rfl (fun q1 => ?_)
  refine mb_putF (nx := 12) (ws' := [(h0, .inr (4, [.ref q1, .null, .null, .null, .null, .int 0])), (q1, .inl (cs 3, 4, .inr (.inr (.inr (.inr (fun _ => none))))))]) (ty := .array (.object "CanonMaker$Line")) X hini t_Score t_Score_ok n_Score 0 rfl rfl in_Score 0 (by decide) wd_177 rfl rfl (by decide +kernel) rfl rfl (Nat.le_of_ble_eq_true rfl) rfl d_Score_init_9 rfl ?_
  refine mb_aloadn (nx := 13) X 0 d_Score_init_12 rfl rfl ?_
  refine mb_bipush (nx := 15) X d_Score_init_13 (by decide) rfl ?_
  refine mb_newi (nx := 17) (N := 96) X 0 wd_80 rfl (by decide) rfl (by decide) (Nat.le_of_ble_eq_true rfl) (Nat.le_of_ble_eq_true rfl) d_Score_init_15 rfl (fun q2 => ?_)
  refine mb_putF (nx := 20) (ws' := [(h0, .inr (4, [.ref q1, .ref q2, .null, .null, .null, .int 0])), (q1, .inl (cs 3, 4, .inr (.inr (.inr (.inr (fun _ => none)))))), (q2, .inl (cs 0, 96, .inl (fun _ => 0)))]) (ty := .array .int) X hini t_Score t_Score_ok n_Score 0 rfl rfl in_Score 1 (by decide) wd_180 rfl rfl (by decide +kernel) rfl rfl (Nat.le_of_ble_eq_true rfl) rfl d_Score_init_17 rfl ?_
  refine mb_aloadn (nx := 21) X 0 d_Score_init_20 rfl rfl ?_
  refine mb_bipush (nx := 23) X d_Score_init_21 (by decide) rfl ?_
  refine mb_newi (nx := 25) (N := 96) X 0 wd_80 rfl (by decide) rfl (by decide) (Nat.le_of_ble_eq_true rfl) (Nat.le_of_ble_eq_true rfl) d_Score_init_23 rfl (fun q3 => ?_)
  refine mb_putF (nx := 28) (ws' := [(h0, .inr (4, [.ref q1, .ref q2, .ref q3, .null, .null, .int 0])), (q1, .inl (cs 3, 4, .inr (.inr (.inr (.inr (fun _ => none)))))), (q2, .inl (cs 0, 96, .inl (fun _ => 0))), (q3, .inl (cs 0, 96, .inl (fun _ => 0)))]) (ty := .array .int) X hini t_Score t_Score_ok n_Score 0 rfl rfl in_Score 2 (by decide) wd_182 rfl rfl (by decide +kernel) rfl rfl (Nat.le_of_ble_eq_true rfl) rfl d_Score_init_25 rfl ?_
  refine mb_aloadn (nx := 29) X 0 d_Score_init_28 rfl rfl ?_
  refine mb_sipush (nx := 32) X d_Score_init_29 (by decide) rfl ?_
  refine mb_newi (nx := 34) (N := 384) X 0 wd_80 rfl (by decide) rfl (by decide) (Nat.le_of_ble_eq_true rfl) (Nat.le_of_ble_eq_true rfl) d_Score_init_32 rfl (fun q4 => ?_)
  refine mb_putF (nx := 37) (ws' := [(h0, .inr (4, [.ref q1, .ref q2, .ref q3, .ref q4, .null, .int 0])), (q1, .inl (cs 3, 4, .inr (.inr (.inr (.inr (fun _ => none)))))), (q2, .inl (cs 0, 96, .inl (fun _ => 0))), (q3, .inl (cs 0, 96, .inl (fun _ => 0))), (q4, .inl (cs 0, 384, .inl (fun _ => 0)))]) (ty := .array .int) X hini t_Score t_Score_ok n_Score 0 rfl rfl in_Score 3 (by decide) wd_184 rfl rfl (by decide +kernel) rfl rfl (Nat.le_of_ble_eq_true rfl) rfl d_Score_init_34 rfl ?_
  refine mb_aloadn (nx := 38) X 0 d_Score_init_37 rfl rfl ?_
  refine mb_bipush (nx := 40) X d_Score_init_38 (by decide) rfl ?_
  refine mb_newi (nx := 42) (N := 96) X 0 wd_80 rfl (by decide) rfl (by decide) (Nat.le_of_ble_eq_true rfl) (Nat.le_of_ble_eq_true rfl) d_Score_init_40 rfl (fun q5 => ?_)
  refine mb_putF (nx := 45) (ws' := [(h0, .inr (4, [.ref q1, .ref q2, .ref q3, .ref q4, .ref q5, .int 0])), (q1, .inl (cs 3, 4, .inr (.inr (.inr (.inr (fun _ => none)))))), (q2, .inl (cs 0, 96, .inl (fun _ => 0))), (q3, .inl (cs 0, 96, .inl (fun _ => 0))), (q4, .inl (cs 0, 384, .inl (fun _ => 0))), (q5, .inl (cs 0, 96, .inl (fun _ => 0)))]) (ty := .array .int) X hini t_Score t_Score_ok n_Score 0 rfl rfl in_Score 4 (by decide) wd_186 rfl rfl (by decide +kernel) rfl rfl (Nat.le_of_ble_eq_true rfl) rfl d_Score_init_42 rfl ?_
  refine mb_iconst (nx := 46) X d_Score_init_45 rfl ?_
  refine mb_istoren (nx := 47) X [(1, .int (zi 0)), (0, .ref h0)] d_Score_init_46 (by decide) rfl rfl ?_
  refine mb_iloadn (nx := 48) X 0 d_Score_init_47 rfl rfl ?_
  refine mb_iconst (nx := 49) X d_Score_init_48 rfl ?_
  refine mb_geF (x := 0) (y := 4) (tgt := 71) (nx := 52) X d_Score_init_49 (by decide) (by decide) rfl ?_
  refine mb_aloadn (nx := 53) X 1 d_Score_init_52 rfl rfl ?_
  refine mb_get (nx := 56) (v := .ref q1) X 0 rfl rfl in_Score 0 (by decide) wd_177 rfl rfl d_Score_init_53 rfl ?_
  refine mb_iloadn (nx := 57) X 0 d_Score_init_56 rfl rfl ?_
  refine mb_new (nx := 60) (ci := 3) X in_Line t_Line t_Line_ok wd_119 wd_121 wd_44 rfl [.null, .null, .null, .null, .null, .int 0, .int 0, .int 0, .int 0, .int 0, .int 0, .int 0] (fun j hj => by rcases (show j = 0 ∨ j = 1 ∨ j = 2 ∨ j = 3 ∨ j = 4 ∨ j = 5 ∨ j = 6 ∨ j = 7 ∨ j = 8 ∨ j = 9 ∨ j = 10 ∨ j = 11 by omega) with rfl | rfl | rfl | rfl | rfl | rfl | rfl | rfl | rfl | rfl | rfl | rfl <;> rfl) (Nat.le_of_ble_eq_true rfl) (Nat.le_of_ble_eq_true rfl) d_Score_init_57 rfl (fun q6 => ?_)
  refine mb_dup (nx := 61) X d_Score_init_60 rfl rfl ?_
  refine mb_init (nx := 64) (j := 0) (As := []) (rest := [.ref q6, .int (zi 0), .ref q1]) (wr := [(h0, .inr (4, [.ref q1, .ref q2, .ref q3, .ref q4, .ref q5, .int 0])), (q1, .inl (cs 3, 4, .inr (.inr (.inr (.inr (fun _ => none)))))), (q2, .inl (cs 0, 96, .inl (fun _ => 0))), (q3, .inl (cs 0, 96, .inl (fun _ => 0))), (q4, .inl (cs 0, 384, .inl (fun _ => 0))), (q5, .inl (cs 0, 96, .inl (fun _ => 0)))]) X [6] [0, 1, 2, 3, 4, 5] [0] (c_Line_init l D cs q6) (wA_c wd_124) rfl ⟨rfl, rfl⟩ wd_44 rfl (by decide +kernel) (Or.inl ⟨"CanonMaker", by decide +kernel⟩) wd_123 rfl (by decide +kernel) ⟨by decide, by decide⟩ rfl (Nat.le_of_ble_eq_true rfl) rfl ⟨Nat.le_of_ble_eq_true rfl, Nat.le_of_ble_eq_true rfl⟩ rfl rfl rfl rfl rfl (by decide) (by decide) (by decide) d_Score_init_61 rfl (fun u7 => ?_)
  refine mb_astq (nx := 65) (ws' := [(h0, .inr (4, [.ref q1, .ref q2, .ref q3, .ref q4, .ref q5, .int 0])), (q1, .inl (cs 3, 4, .inr (.inr (.inr (.inr (va_up (fun _ => none) (zi 0).toNatClampNeg (some q6))))))), (q2, .inl (cs 0, 96, .inl (fun _ => 0))), (q3, .inl (cs 0, 96, .inl (fun _ => 0))), (q4, .inl (cs 0, 384, .inl (fun _ => 0))), (q5, .inl (cs 0, 96, .inl (fun _ => 0))), (q6, .inr (3, [.ref (u7 0), .ref (u7 1), .ref (u7 2), .ref (u7 3), .ref (u7 4), .int 0, .int 0, .int 0, .int 0, .int 0, .int 0, .int 0])), ((u7 0), .inl (cs 0, 24, .inl (fun _ => 0))), ((u7 1), .inl (cs 0, 24, .inl (fun _ => 0))), ((u7 2), .inl (cs 0, 24, .inl (fun _ => 0))), ((u7 3), .inl (cs 0, 24, .inl (fun _ => 0))), ((u7 4), .inl (cs 0, 24, .inl (fun _ => 0)))]) X 1 1 6 3 rfl rfl rfl rfl (zi_in (by decide) (by decide) (by decide)) rfl d_Score_init_64 rfl ?_
  refine mb_iinc (nx := 68) (y := 0) X 0 [(1, .int (zi 1)), (0, .ref h0)] d_Score_init_65 rfl (by decide) rfl rfl ?_
  refine mb_goto (tgt := 47) X d_Score_init_68 (by decide) ?_
  refine mb_iloadn (nx := 48) X 0 d_Score_init_47 rfl rfl ?_
  refine mb_iconst (nx := 49) X d_Score_init_48 rfl ?_
  refine mb_geF (x := 1) (y := 4) (tgt := 71) (nx := 52) X d_Score_init_49 (by decide) (by decide) rfl ?_
  refine mb_aloadn (nx := 53) X 1 d_Score_init_52 rfl rfl ?_
  refine mb_get (nx := 56) (v := .ref q1) X 0 rfl rfl in_Score 0 (by decide) wd_177 rfl rfl d_Score_init_53 rfl ?_
  refine mb_iloadn (nx := 57) X 0 d_Score_init_56 rfl rfl ?_
  refine mb_new (nx := 60) (ci := 3) X in_Line t_Line t_Line_ok wd_119 wd_121 wd_44 rfl [.null, .null, .null, .null, .null, .int 0, .int 0, .int 0, .int 0, .int 0, .int 0, .int 0] (fun j hj => by rcases (show j = 0 ∨ j = 1 ∨ j = 2 ∨ j = 3 ∨ j = 4 ∨ j = 5 ∨ j = 6 ∨ j = 7 ∨ j = 8 ∨ j = 9 ∨ j = 10 ∨ j = 11 by omega) with rfl | rfl | rfl | rfl | rfl | rfl | rfl | rfl | rfl | rfl | rfl | rfl <;> rfl) (Nat.le_of_ble_eq_true rfl) (Nat.le_of_ble_eq_true rfl) d_Score_init_57 rfl (fun q8 => ?_)
  refine mb_dup (nx := 61) X d_Score_init_60 rfl rfl ?_
  refine mb_init (nx := 64) (j := 0) (As := []) (rest := [.ref q8, .int (zi 1), .ref q1]) (wr := [(h0, .inr (4, [.ref q1, .ref q2, .ref q3, .ref q4, .ref q5, .int 0])), (q1, .inl (cs 3, 4, .inr (.inr (.inr (.inr (va_up (fun _ => none) (zi 0).toNatClampNeg (some q6))))))), (q2, .inl (cs 0, 96, .inl (fun _ => 0))), (q3, .inl (cs 0, 96, .inl (fun _ => 0))), (q4, .inl (cs 0, 384, .inl (fun _ => 0))), (q5, .inl (cs 0, 96, .inl (fun _ => 0))), (q6, .inr (3, [.ref (u7 0), .ref (u7 1), .ref (u7 2), .ref (u7 3), .ref (u7 4), .int 0, .int 0, .int 0, .int 0, .int 0, .int 0, .int 0])), ((u7 0), .inl (cs 0, 24, .inl (fun _ => 0))), ((u7 1), .inl (cs 0, 24, .inl (fun _ => 0))), ((u7 2), .inl (cs 0, 24, .inl (fun _ => 0))), ((u7 3), .inl (cs 0, 24, .inl (fun _ => 0))), ((u7 4), .inl (cs 0, 24, .inl (fun _ => 0)))]) X [12] [0, 1, 2, 3, 4, 5, 6, 7, 8, 9, 10, 11] [0] (c_Line_init l D cs q8) (wA_c wd_124) rfl ⟨rfl, rfl⟩ wd_44 rfl (by decide +kernel) (Or.inl ⟨"CanonMaker", by decide +kernel⟩) wd_123 rfl (by decide +kernel) ⟨by decide, by decide⟩ rfl (Nat.le_of_ble_eq_true rfl) rfl ⟨Nat.le_of_ble_eq_true rfl, Nat.le_of_ble_eq_true rfl⟩ rfl rfl rfl rfl rfl (by decide) (by decide) (by decide) d_Score_init_61 rfl (fun u9 => ?_)
  refine mb_astq (nx := 65) (ws' := [(h0, .inr (4, [.ref q1, .ref q2, .ref q3, .ref q4, .ref q5, .int 0])), (q1, .inl (cs 3, 4, .inr (.inr (.inr (.inr (va_up (va_up (fun _ => none) (zi 0).toNatClampNeg (some q6)) (zi 1).toNatClampNeg (some q8))))))), (q2, .inl (cs 0, 96, .inl (fun _ => 0))), (q3, .inl (cs 0, 96, .inl (fun _ => 0))), (q4, .inl (cs 0, 384, .inl (fun _ => 0))), (q5, .inl (cs 0, 96, .inl (fun _ => 0))), (q6, .inr (3, [.ref (u7 0), .ref (u7 1), .ref (u7 2), .ref (u7 3), .ref (u7 4), .int 0, .int 0, .int 0, .int 0, .int 0, .int 0, .int 0])), ((u7 0), .inl (cs 0, 24, .inl (fun _ => 0))), ((u7 1), .inl (cs 0, 24, .inl (fun _ => 0))), ((u7 2), .inl (cs 0, 24, .inl (fun _ => 0))), ((u7 3), .inl (cs 0, 24, .inl (fun _ => 0))), ((u7 4), .inl (cs 0, 24, .inl (fun _ => 0))), (q8, .inr (3, [.ref (u9 0), .ref (u9 1), .ref (u9 2), .ref (u9 3), .ref (u9 4), .int 0, .int 0, .int 0, .int 0, .int 0, .int 0, .int 0])), ((u9 0), .inl (cs 0, 24, .inl (fun _ => 0))), ((u9 1), .inl (cs 0, 24, .inl (fun _ => 0))), ((u9 2), .inl (cs 0, 24, .inl (fun _ => 0))), ((u9 3), .inl (cs 0, 24, .inl (fun _ => 0))), ((u9 4), .inl (cs 0, 24, .inl (fun _ => 0)))]) X 1 1 12 3 rfl rfl rfl rfl (zi_in (by decide) (by decide) (by decide)) rfl d_Score_init_64 rfl ?_
  refine mb_iinc (nx := 68) (y := 1) X 0 [(1, .int (zi 2)), (0, .ref h0)] d_Score_init_65 rfl (by decide) rfl rfl ?_
  refine mb_goto (tgt := 47) X d_Score_init_68 (by decide) ?_
  refine mb_iloadn (nx := 48) X 0 d_Score_init_47 rfl rfl ?_
  refine mb_iconst (nx := 49) X d_Score_init_48 rfl ?_
  refine mb_geF (x := 2) (y := 4) (tgt := 71) (nx := 52) X d_Score_init_49 (by decide) (by decide) rfl ?_
  refine mb_aloadn (nx := 53) X 1 d_Score_init_52 rfl rfl ?_
  refine mb_get (nx := 56) (v := .ref q1) X 0 rfl rfl in_Score 0 (by decide) wd_177 rfl rfl d_Score_init_53 rfl ?_
  refine mb_iloadn (nx := 57) X 0 d_Score_init_56 rfl rfl ?_
  refine mb_new (nx := 60) (ci := 3) X in_Line t_Line t_Line_ok wd_119 wd_121 wd_44 rfl [.null, .null, .null, .null, .null, .int 0, .int 0, .int 0, .int 0, .int 0, .int 0, .int 0] (fun j hj => by rcases (show j = 0 ∨ j = 1 ∨ j = 2 ∨ j = 3 ∨ j = 4 ∨ j = 5 ∨ j = 6 ∨ j = 7 ∨ j = 8 ∨ j = 9 ∨ j = 10 ∨ j = 11 by omega) with rfl | rfl | rfl | rfl | rfl | rfl | rfl | rfl | rfl | rfl | rfl | rfl <;> rfl) (Nat.le_of_ble_eq_true rfl) (Nat.le_of_ble_eq_true rfl) d_Score_init_57 rfl (fun q10 => ?_)
  refine mb_dup (nx := 61) X d_Score_init_60 rfl rfl ?_
  refine mb_init (nx := 64) (j := 0) (As := []) (rest := [.ref q10, .int (zi 2), .ref q1]) (wr := [(h0, .inr (4, [.ref q1, .ref q2, .ref q3, .ref q4, .ref q5, .int 0])), (q1, .inl (cs 3, 4, .inr (.inr (.inr (.inr (va_up (va_up (fun _ => none) (zi 0).toNatClampNeg (some q6)) (zi 1).toNatClampNeg (some q8))))))), (q2, .inl (cs 0, 96, .inl (fun _ => 0))), (q3, .inl (cs 0, 96, .inl (fun _ => 0))), (q4, .inl (cs 0, 384, .inl (fun _ => 0))), (q5, .inl (cs 0, 96, .inl (fun _ => 0))), (q6, .inr (3, [.ref (u7 0), .ref (u7 1), .ref (u7 2), .ref (u7 3), .ref (u7 4), .int 0, .int 0, .int 0, .int 0, .int 0, .int 0, .int 0])), ((u7 0), .inl (cs 0, 24, .inl (fun _ => 0))), ((u7 1), .inl (cs 0, 24, .inl (fun _ => 0))), ((u7 2), .inl (cs 0, 24, .inl (fun _ => 0))), ((u7 3), .inl (cs 0, 24, .inl (fun _ => 0))), ((u7 4), .inl (cs 0, 24, .inl (fun _ => 0))), (q8, .inr (3, [.ref (u9 0), .ref (u9 1), .ref (u9 2), .ref (u9 3), .ref (u9 4), .int 0, .int 0, .int 0, .int 0, .int 0, .int 0, .int 0])), ((u9 0), .inl (cs 0, 24, .inl (fun _ => 0))), ((u9 1), .inl (cs 0, 24, .inl (fun _ => 0))), ((u9 2), .inl (cs 0, 24, .inl (fun _ => 0))), ((u9 3), .inl (cs 0, 24, .inl (fun _ => 0))), ((u9 4), .inl (cs 0, 24, .inl (fun _ => 0)))]) X [18] [0, 1, 2, 3, 4, 5, 6, 7, 8, 9, 10, 11, 12, 13, 14, 15, 16, 17] [0] (c_Line_init l D cs q10) (wA_c wd_124) rfl ⟨rfl, rfl⟩ wd_44 rfl (by decide +kernel) (Or.inl ⟨"CanonMaker", by decide +kernel⟩) wd_123 rfl (by decide +kernel) ⟨by decide, by decide⟩ rfl (Nat.le_of_ble_eq_true rfl) rfl ⟨Nat.le_of_ble_eq_true rfl, Nat.le_of_ble_eq_true rfl⟩ rfl rfl rfl rfl rfl (by decide) (by decide) (by decide) d_Score_init_61 rfl (fun u11 => ?_)
  refine mb_astq (nx := 65) (ws' := [(h0, .inr (4, [.ref q1, .ref q2, .ref q3, .ref q4, .ref q5, .int 0])), (q1, .inl (cs 3, 4, .inr (.inr (.inr (.inr (va_up (va_up (va_up (fun _ => none) (zi 0).toNatClampNeg (some q6)) (zi 1).toNatClampNeg (some q8)) (zi 2).toNatClampNeg (some q10))))))), (q2, .inl (cs 0, 96, .inl (fun _ => 0))), (q3, .inl (cs 0, 96, .inl (fun _ => 0))), (q4, .inl (cs 0, 384, .inl (fun _ => 0))), (q5, .inl (cs 0, 96, .inl (fun _ => 0))), (q6, .inr (3, [.ref (u7 0), .ref (u7 1), .ref (u7 2), .ref (u7 3), .ref (u7 4), .int 0, .int 0, .int 0, .int 0, .int 0, .int 0, .int 0])), ((u7 0), .inl (cs 0, 24, .inl (fun _ => 0))), ((u7 1), .inl (cs 0, 24, .inl (fun _ => 0))), ((u7 2), .inl (cs 0, 24, .inl (fun _ => 0))), ((u7 3), .inl (cs 0, 24, .inl (fun _ => 0))), ((u7 4), .inl (cs 0, 24, .inl (fun _ => 0))), (q8, .inr (3, [.ref (u9 0), .ref (u9 1), .ref (u9 2), .ref (u9 3), .ref (u9 4), .int 0, .int 0, .int 0, .int 0, .int 0, .int 0, .int 0])), ((u9 0), .inl (cs 0, 24, .inl (fun _ => 0))), ((u9 1), .inl (cs 0, 24, .inl (fun _ => 0))), ((u9 2), .inl (cs 0, 24, .inl (fun _ => 0))), ((u9 3), .inl (cs 0, 24, .inl (fun _ => 0))), ((u9 4), .inl (cs 0, 24, .inl (fun _ => 0))), (q10, .inr (3, [.ref (u11 0), .ref (u11 1), .ref (u11 2), .ref (u11 3), .ref (u11 4), .int 0, .int 0, .int 0, .int 0, .int 0, .int 0, .int 0])), ((u11 0), .inl (cs 0, 24, .inl (fun _ => 0))), ((u11 1), .inl (cs 0, 24, .inl (fun _ => 0))), ((u11 2), .inl (cs 0, 24, .inl (fun _ => 0))), ((u11 3), .inl (cs 0, 24, .inl (fun _ => 0))), ((u11 4), .inl (cs 0, 24, .inl (fun _ => 0)))]) X 1 1 18 3 rfl rfl rfl rfl (zi_in (by decide) (by decide) (by decide)) rfl d_Score_init_64 rfl ?_
  refine mb_iinc (nx := 68) (y := 2) X 0 [(1, .int (zi 3)), (0, .ref h0)] d_Score_init_65 rfl (by decide) rfl rfl ?_
  refine mb_goto (tgt := 47) X d_Score_init_68 (by decide) ?_
  refine mb_iloadn (nx := 48) X 0 d_Score_init_47 rfl rfl ?_
  refine mb_iconst (nx := 49) X d_Score_init_48 rfl ?_
  refine mb_geF (x := 3) (y := 4) (tgt := 71) (nx := 52) X d_Score_init_49 (by decide) (by decide) rfl ?_
  refine mb_aloadn (nx := 53) X 1 d_Score_init_52 rfl rfl ?_
  refine mb_get (nx := 56) (v := .ref q1) X 0 rfl rfl in_Score 0 (by decide) wd_177 rfl rfl d_Score_init_53 rfl ?_
  refine mb_iloadn (nx := 57) X 0 d_Score_init_56 rfl rfl ?_
  refine mb_new (nx := 60) (ci := 3) X in_Line t_Line t_Line_ok wd_119 wd_121 wd_44 rfl [.null, .null, .null, .null, .null, .int 0, .int 0, .int 0, .int 0, .int 0, .int 0, .int 0] (fun j hj => by rcases (show j = 0 ∨ j = 1 ∨ j = 2 ∨ j = 3 ∨ j = 4 ∨ j = 5 ∨ j = 6 ∨ j = 7 ∨ j = 8 ∨ j = 9 ∨ j = 10 ∨ j = 11 by omega) with rfl | rfl | rfl | rfl | rfl | rfl | rfl | rfl | rfl | rfl | rfl | rfl <;> rfl) (Nat.le_of_ble_eq_true rfl) (Nat.le_of_ble_eq_true rfl) d_Score_init_57 rfl (fun q12 => ?_)
  refine mb_dup (nx := 61) X d_Score_init_60 rfl rfl ?_
  refine mb_init (nx := 64) (j := 0) (As := []) (rest := [.ref q12, .int (zi 3), .ref q1]) (wr := [(h0, .inr (4, [.ref q1, .ref q2, .ref q3, .ref q4, .ref q5, .int 0])), (q1, .inl (cs 3, 4, .inr (.inr (.inr (.inr (va_up (va_up (va_up (fun _ => none) (zi 0).toNatClampNeg (some q6)) (zi 1).toNatClampNeg (some q8)) (zi 2).toNatClampNeg (some q10))))))), (q2, .inl (cs 0, 96, .inl (fun _ => 0))), (q3, .inl (cs 0, 96, .inl (fun _ => 0))), (q4, .inl (cs 0, 384, .inl (fun _ => 0))), (q5, .inl (cs 0, 96, .inl (fun _ => 0))), (q6, .inr (3, [.ref (u7 0), .ref (u7 1), .ref (u7 2), .ref (u7 3), .ref (u7 4), .int 0, .int 0, .int 0, .int 0, .int 0, .int 0, .int 0])), ((u7 0), .inl (cs 0, 24, .inl (fun _ => 0))), ((u7 1), .inl (cs 0, 24, .inl (fun _ => 0))), ((u7 2), .inl (cs 0, 24, .inl (fun _ => 0))), ((u7 3), .inl (cs 0, 24, .inl (fun _ => 0))), ((u7 4), .inl (cs 0, 24, .inl (fun _ => 0))), (q8, .inr (3, [.ref (u9 0), .ref (u9 1), .ref (u9 2), .ref (u9 3), .ref (u9 4), .int 0, .int 0, .int 0, .int 0, .int 0, .int 0, .int 0])), ((u9 0), .inl (cs 0, 24, .inl (fun _ => 0))), ((u9 1), .inl (cs 0, 24, .inl (fun _ => 0))), ((u9 2), .inl (cs 0, 24, .inl (fun _ => 0))), ((u9 3), .inl (cs 0, 24, .inl (fun _ => 0))), ((u9 4), .inl (cs 0, 24, .inl (fun _ => 0))), (q10, .inr (3, [.ref (u11 0), .ref (u11 1), .ref (u11 2), .ref (u11 3), .ref (u11 4), .int 0, .int 0, .int 0, .int 0, .int 0, .int 0, .int 0])), ((u11 0), .inl (cs 0, 24, .inl (fun _ => 0))), ((u11 1), .inl (cs 0, 24, .inl (fun _ => 0))), ((u11 2), .inl (cs 0, 24, .inl (fun _ => 0))), ((u11 3), .inl (cs 0, 24, .inl (fun _ => 0))), ((u11 4), .inl (cs 0, 24, .inl (fun _ => 0)))]) X [24] [0, 1, 2, 3, 4, 5, 6, 7, 8, 9, 10, 11, 12, 13, 14, 15, 16, 17, 18, 19, 20, 21, 22, 23] [0] (c_Line_init l D cs q12) (wA_c wd_124) rfl ⟨rfl, rfl⟩ wd_44 rfl (by decide +kernel) (Or.inl ⟨"CanonMaker", by decide +kernel⟩) wd_123 rfl (by decide +kernel) ⟨by decide, by decide⟩ rfl (Nat.le_of_ble_eq_true rfl) rfl ⟨Nat.le_of_ble_eq_true rfl, Nat.le_of_ble_eq_true rfl⟩ rfl rfl rfl rfl rfl (by decide) (by decide) (by decide) d_Score_init_61 rfl (fun u13 => ?_)
  refine mb_astq (nx := 65) (ws' := [(h0, .inr (4, [.ref q1, .ref q2, .ref q3, .ref q4, .ref q5, .int 0])), (q1, .inl (cs 3, 4, .inr (.inr (.inr (.inr (va_up (va_up (va_up (va_up (fun _ => none) (zi 0).toNatClampNeg (some q6)) (zi 1).toNatClampNeg (some q8)) (zi 2).toNatClampNeg (some q10)) (zi 3).toNatClampNeg (some q12))))))), (q2, .inl (cs 0, 96, .inl (fun _ => 0))), (q3, .inl (cs 0, 96, .inl (fun _ => 0))), (q4, .inl (cs 0, 384, .inl (fun _ => 0))), (q5, .inl (cs 0, 96, .inl (fun _ => 0))), (q6, .inr (3, [.ref (u7 0), .ref (u7 1), .ref (u7 2), .ref (u7 3), .ref (u7 4), .int 0, .int 0, .int 0, .int 0, .int 0, .int 0, .int 0])), ((u7 0), .inl (cs 0, 24, .inl (fun _ => 0))), ((u7 1), .inl (cs 0, 24, .inl (fun _ => 0))), ((u7 2), .inl (cs 0, 24, .inl (fun _ => 0))), ((u7 3), .inl (cs 0, 24, .inl (fun _ => 0))), ((u7 4), .inl (cs 0, 24, .inl (fun _ => 0))), (q8, .inr (3, [.ref (u9 0), .ref (u9 1), .ref (u9 2), .ref (u9 3), .ref (u9 4), .int 0, .int 0, .int 0, .int 0, .int 0, .int 0, .int 0])), ((u9 0), .inl (cs 0, 24, .inl (fun _ => 0))), ((u9 1), .inl (cs 0, 24, .inl (fun _ => 0))), ((u9 2), .inl (cs 0, 24, .inl (fun _ => 0))), ((u9 3), .inl (cs 0, 24, .inl (fun _ => 0))), ((u9 4), .inl (cs 0, 24, .inl (fun _ => 0))), (q10, .inr (3, [.ref (u11 0), .ref (u11 1), .ref (u11 2), .ref (u11 3), .ref (u11 4), .int 0, .int 0, .int 0, .int 0, .int 0, .int 0, .int 0])), ((u11 0), .inl (cs 0, 24, .inl (fun _ => 0))), ((u11 1), .inl (cs 0, 24, .inl (fun _ => 0))), ((u11 2), .inl (cs 0, 24, .inl (fun _ => 0))), ((u11 3), .inl (cs 0, 24, .inl (fun _ => 0))), ((u11 4), .inl (cs 0, 24, .inl (fun _ => 0))), (q12, .inr (3, [.ref (u13 0), .ref (u13 1), .ref (u13 2), .ref (u13 3), .ref (u13 4), .int 0, .int 0, .int 0, .int 0, .int 0, .int 0, .int 0])), ((u13 0), .inl (cs 0, 24, .inl (fun _ => 0))), ((u13 1), .inl (cs 0, 24, .inl (fun _ => 0))), ((u13 2), .inl (cs 0, 24, .inl (fun _ => 0))), ((u13 3), .inl (cs 0, 24, .inl (fun _ => 0))), ((u13 4), .inl (cs 0, 24, .inl (fun _ => 0)))]) X 1 1 24 3 rfl rfl rfl rfl (zi_in (by decide) (by decide) (by decide)) rfl d_Score_init_64 rfl ?_
  refine mb_iinc (nx := 68) (y := 3) X 0 [(1, .int (zi 4)), (0, .ref h0)] d_Score_init_65 rfl (by decide) rfl rfl ?_
  refine mb_goto (tgt := 47) X d_Score_init_68 (by decide) ?_
  refine mb_iloadn (nx := 48) X 0 d_Score_init_47 rfl rfl ?_
  refine mb_iconst (nx := 49) X d_Score_init_48 rfl ?_
  refine mb_geT (x := 4) (y := 4) (tgt := 71) X d_Score_init_49 (by decide) (by decide) ?_
  refine mb_refs (ws' := [(h0, .inr (4, [.ref q1, .ref q2, .ref q3, .ref q4, .ref q5, .int 0])), (q1, .inl (cs 3, 4, .inr (.inr (.inr (.inr (fun j => some (([q6, q8, q10, q12] : List Nat).getD j 0))))))), (q2, .inl (cs 0, 96, .inl (fun _ => 0))), (q3, .inl (cs 0, 96, .inl (fun _ => 0))), (q4, .inl (cs 0, 384, .inl (fun _ => 0))), (q5, .inl (cs 0, 96, .inl (fun _ => 0))), (q6, .inr (3, [.ref (u7 0), .ref (u7 1), .ref (u7 2), .ref (u7 3), .ref (u7 4), .int 0, .int 0, .int 0, .int 0, .int 0, .int 0, .int 0])), ((u7 0), .inl (cs 0, 24, .inl (fun _ => 0))), ((u7 1), .inl (cs 0, 24, .inl (fun _ => 0))), ((u7 2), .inl (cs 0, 24, .inl (fun _ => 0))), ((u7 3), .inl (cs 0, 24, .inl (fun _ => 0))), ((u7 4), .inl (cs 0, 24, .inl (fun _ => 0))), (q8, .inr (3, [.ref (u9 0), .ref (u9 1), .ref (u9 2), .ref (u9 3), .ref (u9 4), .int 0, .int 0, .int 0, .int 0, .int 0, .int 0, .int 0])), ((u9 0), .inl (cs 0, 24, .inl (fun _ => 0))), ((u9 1), .inl (cs 0, 24, .inl (fun _ => 0))), ((u9 2), .inl (cs 0, 24, .inl (fun _ => 0))), ((u9 3), .inl (cs 0, 24, .inl (fun _ => 0))), ((u9 4), .inl (cs 0, 24, .inl (fun _ => 0))), (q10, .inr (3, [.ref (u11 0), .ref (u11 1), .ref (u11 2), .ref (u11 3), .ref (u11 4), .int 0, .int 0, .int 0, .int 0, .int 0, .int 0, .int 0])), ((u11 0), .inl (cs 0, 24, .inl (fun _ => 0))), ((u11 1), .inl (cs 0, 24, .inl (fun _ => 0))), ((u11 2), .inl (cs 0, 24, .inl (fun _ => 0))), ((u11 3), .inl (cs 0, 24, .inl (fun _ => 0))), ((u11 4), .inl (cs 0, 24, .inl (fun _ => 0))), (q12, .inr (3, [.ref (u13 0), .ref (u13 1), .ref (u13 2), .ref (u13 3), .ref (u13 4), .int 0, .int 0, .int 0, .int 0, .int 0, .int 0, .int 0])), ((u13 0), .inl (cs 0, 24, .inl (fun _ => 0))), ((u13 1), .inl (cs 0, 24, .inl (fun _ => 0))), ((u13 2), .inl (cs 0, 24, .inl (fun _ => 0))), ((u13 3), .inl (cs 0, 24, .inl (fun _ => 0))), ((u13 4), .inl (cs 0, 24, .inl (fun _ => 0)))]) 1 rfl (by intro j hj; rcases (show j = 0 ∨ j = 1 ∨ j = 2 ∨ j = 3 by omega) with rfl | rfl | rfl | rfl <;> rfl) rfl ?_
  exact hret (fun i => ([q1, q2, q3, q4, q5, q6, (u7 0), (u7 1), (u7 2), (u7 3), (u7 4), q8, (u9 0), (u9 1), (u9 2), (u9 3), (u9 4), q10, (u11 0), (u11 1), (u11 2), (u11 3), (u11 4), q12, (u13 0), (u13 1), (u13 2), (u13 3), (u13 4)] : List Nat).getD i 0) _ _ d_Score_init_71

-- CanonMaker$Judge.<init>
theorem d_Judge_init_0 : decode prog_3_method_1_code 0 = .ok (.aload_n 0, 1) := by decide +kernel
theorem d_Judge_init_1 : decode prog_3_method_1_code 1 = .ok (.invokespecial 3, 3) := by decide +kernel
theorem d_Judge_init_4 : decode prog_3_method_1_code 4 = .ok (.aload_n 0, 1) := by decide +kernel
theorem d_Judge_init_5 : decode prog_3_method_1_code 5 = .ok (.iconst 4, 1) := by decide +kernel
theorem d_Judge_init_6 : decode prog_3_method_1_code 6 = .ok (.newarray .int, 2) := by decide +kernel
theorem d_Judge_init_8 : decode prog_3_method_1_code 8 = .ok (.putfield 9, 3) := by decide +kernel
theorem d_Judge_init_11 : decode prog_3_method_1_code 11 = .ok (.aload_n 0, 1) := by decide +kernel
theorem d_Judge_init_12 : decode prog_3_method_1_code 12 = .ok (.iconst 4, 1) := by decide +kernel
theorem d_Judge_init_13 : decode prog_3_method_1_code 13 = .ok (.newarray .boolean, 2) := by decide +kernel
theorem d_Judge_init_15 : decode prog_3_method_1_code 15 = .ok (.putfield 15, 3) := by decide +kernel
theorem d_Judge_init_18 : decode prog_3_method_1_code 18 = .ok (.aload_n 0, 1) := by decide +kernel
theorem d_Judge_init_19 : decode prog_3_method_1_code 19 = .ok (.iconst 4, 1) := by decide +kernel
theorem d_Judge_init_20 : decode prog_3_method_1_code 20 = .ok (.newarray .int, 2) := by decide +kernel
theorem d_Judge_init_22 : decode prog_3_method_1_code 22 = .ok (.putfield 19, 3) := by decide +kernel
theorem d_Judge_init_25 : decode prog_3_method_1_code 25 = .ok (.aload_n 0, 1) := by decide +kernel
theorem d_Judge_init_26 : decode prog_3_method_1_code 26 = .ok (.iconst 4, 1) := by decide +kernel
theorem d_Judge_init_27 : decode prog_3_method_1_code 27 = .ok (.newarray .int, 2) := by decide +kernel
theorem d_Judge_init_29 : decode prog_3_method_1_code 29 = .ok (.putfield 22, 3) := by decide +kernel
theorem d_Judge_init_32 : decode prog_3_method_1_code 32 = .ok (.aload_n 0, 1) := by decide +kernel
theorem d_Judge_init_33 : decode prog_3_method_1_code 33 = .ok (.iconst 4, 1) := by decide +kernel
theorem d_Judge_init_34 : decode prog_3_method_1_code 34 = .ok (.newarray .int, 2) := by decide +kernel
theorem d_Judge_init_36 : decode prog_3_method_1_code 36 = .ok (.putfield 25, 3) := by decide +kernel
theorem d_Judge_init_39 : decode prog_3_method_1_code 39 = .ok (.aload_n 0, 1) := by decide +kernel
theorem d_Judge_init_40 : decode prog_3_method_1_code 40 = .ok (.aload_n 1, 1) := by decide +kernel
theorem d_Judge_init_41 : decode prog_3_method_1_code 41 = .ok (.putfield 28, 3) := by decide +kernel
theorem d_Judge_init_44 : decode prog_3_method_1_code 44 = .ok (.aload_n 0, 1) := by decide +kernel
theorem d_Judge_init_45 : decode prog_3_method_1_code 45 = .ok (.aload_n 2, 1) := by decide +kernel
theorem d_Judge_init_46 : decode prog_3_method_1_code 46 = .ok (.putfield 32, 3) := by decide +kernel
theorem d_Judge_init_49 : decode prog_3_method_1_code 49 = .ok (.return_, 1) := by decide +kernel
abbrev rm_Judge_init : Room := { frames := 1, cells := 5, slots := 20, locals := 12 }
abbrev ws_Judge_init : List Cond := Cond.code y_Judge_init prog_3_method_1_code 3 none :: wA
set_option maxHeartbeats 4000000 in
set_option maxRecDepth 100000 in
theorem c_Judge_init (l : Launch) (D : va_G) (cs : Nat → ClassId) (h0 sc bo : Nat) : mb_C l y_Judge_init ws_Judge_init rm_Judge_init D cmcl [(cs 0, .int), (cs 1, .boolean)] [] [.ref h0, .ref sc, .ref bo] [(h0, .inr (5, [.null, .null, .null, .null, .null, .null, .null, .int 0, .int 0, .int 0, .int 0, .int 0, .int 0, .int 0, .int 0]))] (fun u => [(h0, .inr (5, [.ref sc, .ref bo, .ref (u 0), .ref (u 1), .ref (u 2), .ref (u 3), .ref (u 4), .int 0, .int 0, .int 0, .int 0, .int 0, .int 0, .int 0, .int 0])), ((u 0), .inl (cs 0, 4, .inl (fun _ => 0))), ((u 1), .inl (cs 1, 4, .inl (fun _ => 0))), ((u 2), .inl (cs 0, 4, .inl (fun _ => 0))), ((u 3), .inl (cs 0, 4, .inl (fun _ => 0))), ((u 4), .inl (cs 0, 4, .inl (fun _ => 0)))]) 5 20 := by
  refine mb_met (own := "CanonMaker$Judge") (Ts := wA) (by decide) rfl rfl (fun w h => List.mem_cons_of_mem _ h) rfl (Nat.le_of_ble_eq_true rfl) [(0, .ref h0), (1, .ref sc), (2, .ref bo)] rfl ?_
  intro p_ e_ s_ m_ as_ bl_ me_ co_ A_ Q_ X hini hret
  refine mb_aloadn (nx := 1) X 0 d_Judge_init_0 rfl rfl ?_
  refine mb_obj (nx := 4) X wd_208 wd_56 wd_57 d_Judge_init_1 rfl (Nat.le_of_ble_eq_true rfl) (Nat.le_of_ble_eq_true rfl) ?_
  refine mb_aloadn (nx := 5) X 0 d_Judge_init_4 rfl rfl ?_
  refine mb_iconst (nx := 6) X d_Judge_init_5 rfl ?_
  refine mb_newi (nx := 8) (N := 4) X 0 wd_80 rfl (by decide) rfl (by decide) (Nat.le_of_ble_eq_true rfl) (Nat.le_of_ble_eq_true rfl) d_Judge_init_6 rfl (fun q1 => ?_)
  refine mb_putF (nx := 11) (ws' := [(h0, .inr (5, [.null, .null, .ref q1, .null, .null, .null, .null, .int 0, .int 0, .int 0, .int 0, .int 0, .int 0, .int 0, .int 0])), (q1, .inl (cs 0, 4, .inl (fun _ => 0)))]) (ty := .array .int) X hini t_Judge t_Judge_ok n_Judge 0 rfl rfl in_Judge 2 (by decide) wd_211 rfl rfl (by decide +kernel) rfl rfl (Nat.le_of_ble_eq_true rfl) rfl d_Judge_init_8 rfl ?_
  refine mb_aloadn (nx := 12) X 0 d_Judge_init_11 rfl rfl ?_
  refine mb_iconst (nx := 13) X d_Judge_init_12 rfl ?_
  refine mb_newz (nx := 15) (N := 4) X 1 wd_259 rfl (by decide) rfl (by decide) (Nat.le_of_ble_eq_true rfl) (Nat.le_of_ble_eq_true rfl) d_Judge_init_13 rfl (fun q2 => ?_)
  refine mb_putF (nx := 18) (ws' := [(h0, .inr (5, [.null, .null, .ref q1, .ref q2, .null, .null, .null, .int 0, .int 0, .int 0, .int 0, .int 0, .int 0, .int 0, .int 0])), (q1, .inl (cs 0, 4, .inl (fun _ => 0))), (q2, .inl (cs 1, 4, .inl (fun _ => 0)))]) (ty := .array .boolean) X hini t_Judge t_Judge_ok n_Judge 0 rfl rfl in_Judge 3 (by decide) wd_212 rfl rfl (by decide +kernel) rfl rfl (Nat.le_of_ble_eq_true rfl) rfl d_Judge_init_15 rfl ?_
  refine mb_aloadn (nx := 19) X 0 d_Judge_init_18 rfl rfl ?_
  refine mb_iconst (nx := 20) X d_Judge_init_19 rfl ?_
  refine mb_newi (nx := 22) (N := 4) X 0 wd_80 rfl (by decide) rfl (by decide) (Nat.le_of_ble_eq_true rfl) (Nat.le_of_ble_eq_true rfl) d_Judge_init_20 rfl (fun q3 => ?_)
  refine mb_putF (nx := 25) (ws' := [(h0, .inr (5, [.null, .null, .ref q1, .ref q2, .ref q3, .null, .null, .int 0, .int 0, .int 0, .int 0, .int 0, .int 0, .int 0, .int 0])), (q1, .inl (cs 0, 4, .inl (fun _ => 0))), (q2, .inl (cs 1, 4, .inl (fun _ => 0))), (q3, .inl (cs 0, 4, .inl (fun _ => 0)))]) (ty := .array .int) X hini t_Judge t_Judge_ok n_Judge 0 rfl rfl in_Judge 4 (by decide) wd_213 rfl rfl (by decide +kernel) rfl rfl (Nat.le_of_ble_eq_true rfl) rfl d_Judge_init_22 rfl ?_
  refine mb_aloadn (nx := 26) X 0 d_Judge_init_25 rfl rfl ?_
  refine mb_iconst (nx := 27) X d_Judge_init_26 rfl ?_
  refine mb_newi (nx := 29) (N := 4) X 0 wd_80 rfl (by decide) rfl (by decide) (Nat.le_of_ble_eq_true rfl) (Nat.le_of_ble_eq_true rfl) d_Judge_init_27 rfl (fun q4 => ?_)
  refine mb_putF (nx := 32) (ws' := [(h0, .inr (5, [.null, .null, .ref q1, .ref q2, .ref q3, .ref q4, .null, .int 0, .int 0, .int 0, .int 0, .int 0, .int 0, .int 0, .int 0])), (q1, .inl (cs 0, 4, .inl (fun _ => 0))), (q2, .inl (cs 1, 4, .inl (fun _ => 0))), (q3, .inl (cs 0, 4, .inl (fun _ => 0))), (q4, .inl (cs 0, 4, .inl (fun _ => 0)))]) (ty := .array .int) X hini t_Judge t_Judge_ok n_Judge 0 rfl rfl in_Judge 5 (by decide) wd_214 rfl rfl (by decide +kernel) rfl rfl (Nat.le_of_ble_eq_true rfl) rfl d_Judge_init_29 rfl ?_
  refine mb_aloadn (nx := 33) X 0 d_Judge_init_32 rfl rfl ?_
  refine mb_iconst (nx := 34) X d_Judge_init_33 rfl ?_
  refine mb_newi (nx := 36) (N := 4) X 0 wd_80 rfl (by decide) rfl (by decide) (Nat.le_of_ble_eq_true rfl) (Nat.le_of_ble_eq_true rfl) d_Judge_init_34 rfl (fun q5 => ?_)
  refine mb_putF (nx := 39) (ws' := [(h0, .inr (5, [.null, .null, .ref q1, .ref q2, .ref q3, .ref q4, .ref q5, .int 0, .int 0, .int 0, .int 0, .int 0, .int 0, .int 0, .int 0])), (q1, .inl (cs 0, 4, .inl (fun _ => 0))), (q2, .inl (cs 1, 4, .inl (fun _ => 0))), (q3, .inl (cs 0, 4, .inl (fun _ => 0))), (q4, .inl (cs 0, 4, .inl (fun _ => 0))), (q5, .inl (cs 0, 4, .inl (fun _ => 0)))]) (ty := .array .int) X hini t_Judge t_Judge_ok n_Judge 0 rfl rfl in_Judge 6 (by decide) wd_215 rfl rfl (by decide +kernel) rfl rfl (Nat.le_of_ble_eq_true rfl) rfl d_Judge_init_36 rfl ?_
  refine mb_aloadn (nx := 40) X 0 d_Judge_init_39 rfl rfl ?_
  refine mb_aloadn (nx := 41) X 1 d_Judge_init_40 rfl rfl ?_
  refine mb_putF (nx := 44) (ws' := [(h0, .inr (5, [.ref sc, .null, .ref q1, .ref q2, .ref q3, .ref q4, .ref q5, .int 0, .int 0, .int 0, .int 0, .int 0, .int 0, .int 0, .int 0])), (q1, .inl (cs 0, 4, .inl (fun _ => 0))), (q2, .inl (cs 1, 4, .inl (fun _ => 0))), (q3, .inl (cs 0, 4, .inl (fun _ => 0))), (q4, .inl (cs 0, 4, .inl (fun _ => 0))), (q5, .inl (cs 0, 4, .inl (fun _ => 0)))]) (ty := .object "CanonMaker$Score") X hini t_Judge t_Judge_ok n_Judge 0 rfl rfl in_Judge 0 (by decide) wd_209 rfl rfl (by decide +kernel) rfl rfl (Nat.le_of_ble_eq_true rfl) rfl d_Judge_init_41 rfl ?_
  refine mb_aloadn (nx := 45) X 0 d_Judge_init_44 rfl rfl ?_
  refine mb_aloadn (nx := 46) X 2 d_Judge_init_45 rfl rfl ?_
  refine mb_putF (nx := 49) (ws' := [(h0, .inr (5, [.ref sc, .ref bo, .ref q1, .ref q2, .ref q3, .ref q4, .ref q5, .int 0, .int 0, .int 0, .int 0, .int 0, .int 0, .int 0, .int 0])), (q1, .inl (cs 0, 4, .inl (fun _ => 0))), (q2, .inl (cs 1, 4, .inl (fun _ => 0))), (q3, .inl (cs 0, 4, .inl (fun _ => 0))), (q4, .inl (cs 0, 4, .inl (fun _ => 0))), (q5, .inl (cs 0, 4, .inl (fun _ => 0)))]) (ty := .object "CanonMaker$Bounds") X hini t_Judge t_Judge_ok n_Judge 0 rfl rfl in_Judge 1 (by decide) wd_210 rfl rfl (by decide +kernel) rfl rfl (Nat.le_of_ble_eq_true rfl) rfl d_Judge_init_46 rfl ?_
  exact hret (fun i => ([q1, q2, q3, q4, q5] : List Nat).getD i 0) _ _ d_Judge_init_49

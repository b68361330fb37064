/-! the constructors -/
set_option maxRecDepth 100000 in
theorem mk_reader : yM yRE_init cRE_init 1 1 12 5 160 [.ref 2] [(2, .inr (6, [.null, .null, .null, .int 0, .int 0, .null, .int 0, .null, .int 0, .int 0, .int 0]))]
    [(2, .inr (6, [.ref 3, .ref 4, .ref 5, .int 0, .int 0, .ref 6, .int 0, .ref 7, .int 0, .int 0, .int 0])), (3, .inl (1, 32)), (4, .inl (0, 32)), (5, .inl (0, 32)), (6, .inl (1, 32)), (7, .inl (0, 32))] := by
  refine yM.of [some (.ref 2)] (by decide) rfl 0 rfl (fun _ => Nat.le_of_ble_eq_true rfl) (fun Y hR => ?_)
  refine y_aload hR dRE_init_0 rfl ?_
  refine y_objInit hR dRE_init_1 oi_RE oi_2 oi_3 rfl (by decide) ?_
  refine y_aload hR dRE_init_4 rfl ?_
  refine y_bipush hR dRE_init_5 (v := 32) rfl ?_
  refine y_newa hR (kd := 1) (N := 32) 3 dRE_init_7 (by decide) ac_char rfl (by decide) rfl rfl (by decide) (by decide) ?_
  refine y_putF hR (q := 0) dRE_init_9 ypRE_9 rfl (by decide) (fun _ => rfl) (fun _ => rfl) ?_
  refine y_aload hR dRE_init_12 rfl ?_
  refine y_bipush hR dRE_init_13 (v := 32) rfl ?_
  refine y_newa hR (kd := 0) (N := 32) 4 dRE_init_15 (by decide) ac_int rfl (by decide) rfl rfl (by decide) (by decide) ?_
  refine y_putF hR (q := 0) dRE_init_17 ypRE_15 rfl (by decide) (fun _ => rfl) (fun _ => rfl) ?_
  refine y_aload hR dRE_init_20 rfl ?_
  refine y_bipush hR dRE_init_21 (v := 32) rfl ?_
  refine y_newa hR (kd := 0) (N := 32) 5 dRE_init_23 (by decide) ac_int rfl (by decide) rfl rfl (by decide) (by decide) ?_
  refine y_putF hR (q := 0) dRE_init_25 ypRE_19 rfl (by decide) (fun _ => rfl) (fun _ => rfl) ?_
  refine y_aload hR dRE_init_28 rfl ?_
  refine y_bipush hR dRE_init_29 (v := 32) rfl ?_
  refine y_newa hR (kd := 1) (N := 32) 6 dRE_init_31 (by decide) ac_char rfl (by decide) rfl rfl (by decide) (by decide) ?_
  refine y_putF hR (q := 0) dRE_init_33 ypRE_22 rfl (by decide) (fun _ => rfl) (fun _ => rfl) ?_
  refine y_aload hR dRE_init_36 rfl ?_
  refine y_bipush hR dRE_init_37 (v := 32) rfl ?_
  refine y_newa hR (kd := 0) (N := 32) 7 dRE_init_39 (by decide) ac_int rfl (by decide) rfl rfl (by decide) (by decide) ?_
  refine y_putF hR (q := 0) dRE_init_41 ypRE_25 rfl (by decide) (fun _ => rfl) (fun _ => rfl) ?_
  exact y_ret hR dRE_init_44 (by decide) (by decide) rfl
set_option maxRecDepth 100000 in
theorem mk_row : yM yPA_init cPA_init 2 1 12 2 45 [.ref 8, .int 8] [(8, .inr (5, [.null, .int 0, .null]))]
    [(8, .inr (5, [.ref 9, .int 0, .ref 10])), (10, .inl (0, 37)), (9, .inl (0, 8))] := by
  refine yM.of [some (.ref 8), some (.int 8)] (by decide) rfl 0 rfl (fun _ => Nat.le_of_ble_eq_true rfl) (fun Y hR => ?_)
  refine y_aload hR dPA_init_0 rfl ?_
  refine y_objInit hR dPA_init_1 oi_PA oi_2 oi_3 rfl (by decide) ?_
  refine y_aload hR dPA_init_4 rfl ?_
  refine y_bipush hR dPA_init_5 (v := 37) rfl ?_
  refine y_newa hR (kd := 0) (N := 37) 10 dPA_init_7 (by decide) ac_int rfl (by decide) rfl rfl (by decide) (by decide) ?_
  refine y_putF hR (q := 0) dPA_init_9 ypPA_9 rfl (by decide) (fun _ => rfl) (fun _ => rfl) ?_
  refine y_aload hR dPA_init_12 rfl ?_
  refine y_iload hR dPA_init_13 rfl ?_
  refine y_newa hR (kd := 0) (N := 8) 9 dPA_init_14 (by decide) ac_int rfl (by decide) rfl rfl (by decide) (by decide) ?_
  refine y_putF hR (q := 0) dPA_init_16 ypPA_15 rfl (by decide) (fun _ => rfl) (fun _ => rfl) ?_
  exact y_ret hR dPA_init_19 (by decide) (by decide) rfl
set_option maxRecDepth 100000 in
theorem mk_form : yM yNF_init cNF_init 1 1 12 7 217 [.ref 34] [(34, .inr (4, [.null, .int 0, .null, .null, .int 0, .null, .null, .null, .null, .int 0]))]
    [(34, .inr (4, [.ref 35, .int 0, .ref 36, .ref 37, .int 0, .ref 38, .ref 39, .ref 40, .ref 41, .int 0])), (35, .inl (1, 37)), (36, .inl (0, 37)), (37, .inl (0, 37)), (38, .inl (0, 5)), (39, .inl (0, 37)), (40, .inl (0, 32)), (41, .inl (2, 32))] := by
  refine yM.of [some (.ref 34)] (by decide) rfl 0 rfl (fun _ => Nat.le_of_ble_eq_true rfl) (fun Y hR => ?_)
  refine y_aload hR dNF_init_0 rfl ?_
  refine y_objInit hR dNF_init_1 oi_NF oi_2 oi_3 rfl (by decide) ?_
  refine y_aload hR dNF_init_4 rfl ?_
  refine y_bipush hR dNF_init_5 (v := 37) rfl ?_
  refine y_newa hR (kd := 1) (N := 37) 35 dNF_init_7 (by decide) ac_char rfl (by decide) rfl rfl (by decide) (by decide) ?_
  refine y_putF hR (q := 0) dNF_init_9 ypNF_9 rfl (by decide) (fun _ => rfl) (fun _ => rfl) ?_
  refine y_aload hR dNF_init_12 rfl ?_
  refine y_bipush hR dNF_init_13 (v := 37) rfl ?_
  refine y_newa hR (kd := 0) (N := 37) 36 dNF_init_15 (by decide) ac_int rfl (by decide) rfl rfl (by decide) (by decide) ?_
  refine y_putF hR (q := 0) dNF_init_17 ypNF_15 rfl (by decide) (fun _ => rfl) (fun _ => rfl) ?_
  refine y_aload hR dNF_init_20 rfl ?_
  refine y_bipush hR dNF_init_21 (v := 37) rfl ?_
  refine y_newa hR (kd := 0) (N := 37) 37 dNF_init_23 (by decide) ac_int rfl (by decide) rfl rfl (by decide) (by decide) ?_
  refine y_putF hR (q := 0) dNF_init_25 ypNF_19 rfl (by decide) (fun _ => rfl) (fun _ => rfl) ?_
  refine y_aload hR dNF_init_28 rfl ?_
  refine y_iconst hR dNF_init_29 (v := 5) rfl ?_
  refine y_newa hR (kd := 0) (N := 5) 38 dNF_init_30 (by decide) ac_int rfl (by decide) rfl rfl (by decide) (by decide) ?_
  refine y_putF hR (q := 0) dNF_init_32 ypNF_22 rfl (by decide) (fun _ => rfl) (fun _ => rfl) ?_
  refine y_aload hR dNF_init_35 rfl ?_
  refine y_bipush hR dNF_init_36 (v := 37) rfl ?_
  refine y_newa hR (kd := 0) (N := 37) 39 dNF_init_38 (by decide) ac_int rfl (by decide) rfl rfl (by decide) (by decide) ?_
  refine y_putF hR (q := 0) dNF_init_40 ypNF_25 rfl (by decide) (fun _ => rfl) (fun _ => rfl) ?_
  refine y_aload hR dNF_init_43 rfl ?_
  refine y_bipush hR dNF_init_44 (v := 32) rfl ?_
  refine y_newa hR (kd := 0) (N := 32) 40 dNF_init_46 (by decide) ac_int rfl (by decide) rfl rfl (by decide) (by decide) ?_
  refine y_putF hR (q := 0) dNF_init_48 ypNF_28 rfl (by decide) (fun _ => rfl) (fun _ => rfl) ?_
  refine y_aload hR dNF_init_51 rfl ?_
  refine y_bipush hR dNF_init_52 (v := 32) rfl ?_
  refine y_newa hR (kd := 2) (N := 32) 41 dNF_init_54 (by decide) ac_boolean rfl (by decide) rfl rfl (by decide) (by decide) ?_
  refine y_putF hR (q := 0) dNF_init_56 ypNF_31 rfl (by decide) (fun _ => rfl) (fun _ => rfl) ?_
  exact y_ret hR dNF_init_59 (by decide) (by decide) rfl
set_option maxRecDepth 100000 in
theorem mk_structure : yM yST_init cST_init 1 1 12 2 12 [.ref 42] [(42, .inr (8, [.null, .null]))]
    [(42, .inr (8, [.ref 43, .ref 44])), (43, .inl (0, 6)), (44, .inl (0, 6))] := by
  refine yM.of [some (.ref 42)] (by decide) rfl 0 rfl (fun _ => Nat.le_of_ble_eq_true rfl) (fun Y hR => ?_)
  refine y_aload hR dST_init_0 rfl ?_
  refine y_objInit hR dST_init_1 oi_ST oi_2 oi_3 rfl (by decide) ?_
  refine y_aload hR dST_init_4 rfl ?_
  refine y_bipush hR dST_init_5 (v := 6) rfl ?_
  refine y_newa hR (kd := 0) (N := 6) 43 dST_init_7 (by decide) ac_int rfl (by decide) rfl rfl (by decide) (by decide) ?_
  refine y_putF hR (q := 0) dST_init_9 ypST_9 rfl (by decide) (fun _ => rfl) (fun _ => rfl) ?_
  refine y_aload hR dST_init_12 rfl ?_
  refine y_bipush hR dST_init_13 (v := 6) rfl ?_
  refine y_newa hR (kd := 0) (N := 6) 44 dST_init_15 (by decide) ac_int rfl (by decide) rfl rfl (by decide) (by decide) ?_
  refine y_putF hR (q := 0) dST_init_17 ypST_15 rfl (by decide) (fun _ => rfl) (fun _ => rfl) ?_
  exact y_ret hR dST_init_20 (by decide) (by decide) rfl
set_option maxRecDepth 100000 in
theorem mk_graph : yM yGR_init cGR_init 1 2 32 16 1503 [.ref 28] [(28, .inr (1, [.null, .null, .int 0, .null, .null, .null, .null, .null]))]
    [(28, .inr (1, [.ref 34, .ref 42, .int 0, .ref 29, .ref 30, .ref 31, .ref 32, .ref 33])), (34, .inr (4, [.ref 35, .int 0, .ref 36, .ref 37, .int 0, .ref 38, .ref 39, .ref 40, .ref 41, .int 0])), (35, .inl (1, 37)), (36, .inl (0, 37)), (37, .inl (0, 37)), (38, .inl (0, 5)), (39, .inl (0, 37)), (40, .inl (0, 32)), (41, .inl (2, 32)), (42, .inr (8, [.ref 43, .ref 44])), (43, .inl (0, 6)), (44, .inl (0, 6)), (29, .inl (0, 37)), (30, .inl (0, 37)), (31, .inl (0, 1152)), (32, .inl (0, 6)), (33, .inl (0, 30))] := by
  refine yM.of [some (.ref 28)] (by decide) rfl 0 rfl (fun _ => Nat.le_of_ble_eq_true rfl) (fun Y hR => ?_)
  refine y_aload hR dGR_init_0 rfl ?_
  refine y_objInit hR dGR_init_1 oi_GR oi_2 oi_3 rfl (by decide) ?_
  refine y_aload hR dGR_init_4 rfl ?_
  refine y_new hR 34 dGR_init_5 ynGR_9 rfl rfl (by decide) (by decide) ?_
  refine y_dup hR dGR_init_8 ?_
  refine y_call hR (q := 1) (av := []) (wr := [(28, .inr (1, [.null, .null, .int 0, .null, .null, .null, .null, .null]))]) [0] dGR_init_9 ycGR_11 zkNF_init mk_form (by decide) (by decide) rfl rfl rfl (by decide) rfl rfl rfl (by decide) (by decide) ?_
  refine y_putF hR (q := 0) dGR_init_12 ypGR_12 rfl (by decide) (fun _ => rfl) (fun _ => rfl) ?_
  refine y_aload hR dGR_init_15 rfl ?_
  refine y_new hR 42 dGR_init_16 ynGR_18 rfl rfl (by decide) (by decide) ?_
  refine y_dup hR dGR_init_19 ?_
  refine y_call hR (q := 9) (av := []) (wr := [(28, .inr (1, [.ref 34, .null, .int 0, .null, .null, .null, .null, .null])), (34, .inr (4, [.ref 35, .int 0, .ref 36, .ref 37, .int 0, .ref 38, .ref 39, .ref 40, .ref 41, .int 0])), (35, .inl (1, 37)), (36, .inl (0, 37)), (37, .inl (0, 37)), (38, .inl (0, 5)), (39, .inl (0, 37)), (40, .inl (0, 32)), (41, .inl (2, 32))]) [0, 1, 2, 3, 4, 5, 6, 7, 8] dGR_init_20 ycGR_20 zkST_init mk_structure (by decide) (by decide) rfl rfl rfl (by decide) rfl rfl rfl (by decide) (by decide) ?_
  refine y_putF hR (q := 0) dGR_init_23 ypGR_21 rfl (by decide) (fun _ => rfl) (fun _ => rfl) ?_
  refine y_aload hR dGR_init_26 rfl ?_
  refine y_bipush hR dGR_init_27 (v := 37) rfl ?_
  refine y_newa hR (kd := 0) (N := 37) 29 dGR_init_29 (by decide) ac_int rfl (by decide) rfl rfl (by decide) (by decide) ?_
  refine y_putF hR (q := 0) dGR_init_31 ypGR_25 rfl (by decide) (fun _ => rfl) (fun _ => rfl) ?_
  refine y_aload hR dGR_init_34 rfl ?_
  refine y_bipush hR dGR_init_35 (v := 37) rfl ?_
  refine y_newa hR (kd := 0) (N := 37) 30 dGR_init_37 (by decide) ac_int rfl (by decide) rfl rfl (by decide) (by decide) ?_
  refine y_putF hR (q := 0) dGR_init_39 ypGR_29 rfl (by decide) (fun _ => rfl) (fun _ => rfl) ?_
  refine y_aload hR dGR_init_42 rfl ?_
  refine y_sipush hR dGR_init_43 (v := 1152) rfl ?_
  refine y_newa hR (kd := 0) (N := 1152) 31 dGR_init_46 (by decide) ac_int rfl (by decide) rfl rfl (by decide) (by decide) ?_
  refine y_putF hR (q := 0) dGR_init_48 ypGR_32 rfl (by decide) (fun _ => rfl) (fun _ => rfl) ?_
  refine y_aload hR dGR_init_51 rfl ?_
  refine y_bipush hR dGR_init_52 (v := 6) rfl ?_
  refine y_newa hR (kd := 0) (N := 6) 32 dGR_init_54 (by decide) ac_int rfl (by decide) rfl rfl (by decide) (by decide) ?_
  refine y_putF hR (q := 0) dGR_init_56 ypGR_35 rfl (by decide) (fun _ => rfl) (fun _ => rfl) ?_
  refine y_aload hR dGR_init_59 rfl ?_
  refine y_bipush hR dGR_init_60 (v := 30) rfl ?_
  refine y_newa hR (kd := 0) (N := 30) 33 dGR_init_62 (by decide) ac_int rfl (by decide) rfl rfl (by decide) (by decide) ?_
  refine y_putF hR (q := 0) dGR_init_64 ypGR_38 rfl (by decide) (fun _ => rfl) (fun _ => rfl) ?_
  exact y_ret hR dGR_init_67 (by decide) (by decide) rfl
set_option maxRecDepth 100000 in
theorem mk_knots : yM yKN_init cKN_init 1 3 52 25 2675 [.ref 19] [(19, .inr (2, [.null, .null, .null, .int 0, .null, .null, .null, .int 0, .null, .int 0, .null, .null]))]
    [(19, .inr (2, [.ref 28, .ref 20, .ref 21, .int 0, .ref 22, .ref 23, .ref 24, .int 0, .ref 25, .int 0, .ref 26, .ref 27])), (28, .inr (1, [.ref 34, .ref 42, .int 0, .ref 29, .ref 30, .ref 31, .ref 32, .ref 33])), (34, .inr (4, [.ref 35, .int 0, .ref 36, .ref 37, .int 0, .ref 38, .ref 39, .ref 40, .ref 41, .int 0])), (35, .inl (1, 37)), (36, .inl (0, 37)), (37, .inl (0, 37)), (38, .inl (0, 5)), (39, .inl (0, 37)), (40, .inl (0, 32)), (41, .inl (2, 32)), (42, .inr (8, [.ref 43, .ref 44])), (43, .inl (0, 6)), (44, .inl (0, 6)), (29, .inl (0, 37)), (30, .inl (0, 37)), (31, .inl (0, 1152)), (32, .inl (0, 6)), (33, .inl (0, 30)), (20, .inl (0, 6)), (21, .inl (0, 192)), (22, .inl (0, 192)), (23, .inl (0, 192)), (24, .inl (0, 192)), (25, .inl (0, 192)), (26, .inl (2, 192)), (27, .inl (0, 6))] := by
  refine yM.of [some (.ref 19)] (by decide) rfl 0 rfl (fun _ => Nat.le_of_ble_eq_true rfl) (fun Y hR => ?_)
  refine y_aload hR dKN_init_0 rfl ?_
  refine y_objInit hR dKN_init_1 oi_KN oi_2 oi_3 rfl (by decide) ?_
  refine y_aload hR dKN_init_4 rfl ?_
  refine y_new hR 28 dKN_init_5 ynKN_9 rfl rfl (by decide) (by decide) ?_
  refine y_dup hR dKN_init_8 ?_
  refine y_call hR (q := 1) (av := []) (wr := [(19, .inr (2, [.null, .null, .null, .int 0, .null, .null, .null, .int 0, .null, .int 0, .null, .null]))]) [0] dKN_init_9 ycKN_11 zkGR_init mk_graph (by decide) (by decide) rfl rfl rfl (by decide) rfl rfl rfl (by decide) (by decide) ?_
  refine y_putF hR (q := 0) dKN_init_12 ypKN_12 rfl (by decide) (fun _ => rfl) (fun _ => rfl) ?_
  refine y_aload hR dKN_init_15 rfl ?_
  refine y_bipush hR dKN_init_16 (v := 6) rfl ?_
  refine y_newa hR (kd := 0) (N := 6) 20 dKN_init_18 (by decide) ac_int rfl (by decide) rfl rfl (by decide) (by decide) ?_
  refine y_putF hR (q := 0) dKN_init_20 ypKN_18 rfl (by decide) (fun _ => rfl) (fun _ => rfl) ?_
  refine y_aload hR dKN_init_23 rfl ?_
  refine y_sipush hR dKN_init_24 (v := 192) rfl ?_
  refine y_newa hR (kd := 0) (N := 192) 21 dKN_init_27 (by decide) ac_int rfl (by decide) rfl rfl (by decide) (by decide) ?_
  refine y_putF hR (q := 0) dKN_init_29 ypKN_22 rfl (by decide) (fun _ => rfl) (fun _ => rfl) ?_
  refine y_aload hR dKN_init_32 rfl ?_
  refine y_sipush hR dKN_init_33 (v := 192) rfl ?_
  refine y_newa hR (kd := 0) (N := 192) 22 dKN_init_36 (by decide) ac_int rfl (by decide) rfl rfl (by decide) (by decide) ?_
  refine y_putF hR (q := 0) dKN_init_38 ypKN_25 rfl (by decide) (fun _ => rfl) (fun _ => rfl) ?_
  refine y_aload hR dKN_init_41 rfl ?_
  refine y_sipush hR dKN_init_42 (v := 192) rfl ?_
  refine y_newa hR (kd := 0) (N := 192) 23 dKN_init_45 (by decide) ac_int rfl (by decide) rfl rfl (by decide) (by decide) ?_
  refine y_putF hR (q := 0) dKN_init_47 ypKN_28 rfl (by decide) (fun _ => rfl) (fun _ => rfl) ?_
  refine y_aload hR dKN_init_50 rfl ?_
  refine y_sipush hR dKN_init_51 (v := 192) rfl ?_
  refine y_newa hR (kd := 0) (N := 192) 24 dKN_init_54 (by decide) ac_int rfl (by decide) rfl rfl (by decide) (by decide) ?_
  refine y_putF hR (q := 0) dKN_init_56 ypKN_31 rfl (by decide) (fun _ => rfl) (fun _ => rfl) ?_
  refine y_aload hR dKN_init_59 rfl ?_
  refine y_sipush hR dKN_init_60 (v := 192) rfl ?_
  refine y_newa hR (kd := 0) (N := 192) 25 dKN_init_63 (by decide) ac_int rfl (by decide) rfl rfl (by decide) (by decide) ?_
  refine y_putF hR (q := 0) dKN_init_65 ypKN_34 rfl (by decide) (fun _ => rfl) (fun _ => rfl) ?_
  refine y_aload hR dKN_init_68 rfl ?_
  refine y_sipush hR dKN_init_69 (v := 192) rfl ?_
  refine y_newa hR (kd := 2) (N := 192) 26 dKN_init_72 (by decide) ac_boolean rfl (by decide) rfl rfl (by decide) (by decide) ?_
  refine y_putF hR (q := 0) dKN_init_74 ypKN_37 rfl (by decide) (fun _ => rfl) (fun _ => rfl) ?_
  refine y_aload hR dKN_init_77 rfl ?_
  refine y_bipush hR dKN_init_78 (v := 6) rfl ?_
  refine y_newa hR (kd := 0) (N := 6) 27 dKN_init_80 (by decide) ac_int rfl (by decide) rfl rfl (by decide) (by decide) ?_
  refine y_putF hR (q := 0) dKN_init_82 ypKN_41 rfl (by decide) (fun _ => rfl) (fun _ => rfl) ?_
  exact y_ret hR dKN_init_85 (by decide) (by decide) rfl
set_option maxRecDepth 100000 in
theorem mk_nearness : yM yNE_init cNE_init 1 4 72 28 2729 [.ref 16] [(16, .inr (3, [.null, .null, .null, .null]))]
    [(16, .inr (3, [.ref 19, .ref 28, .ref 17, .ref 18])), (19, .inr (2, [.ref 28, .ref 20, .ref 21, .int 0, .ref 22, .ref 23, .ref 24, .int 0, .ref 25, .int 0, .ref 26, .ref 27])), (28, .inr (1, [.ref 34, .ref 42, .int 0, .ref 29, .ref 30, .ref 31, .ref 32, .ref 33])), (34, .inr (4, [.ref 35, .int 0, .ref 36, .ref 37, .int 0, .ref 38, .ref 39, .ref 40, .ref 41, .int 0])), (35, .inl (1, 37)), (36, .inl (0, 37)), (37, .inl (0, 37)), (38, .inl (0, 5)), (39, .inl (0, 37)), (40, .inl (0, 32)), (41, .inl (2, 32)), (42, .inr (8, [.ref 43, .ref 44])), (43, .inl (0, 6)), (44, .inl (0, 6)), (29, .inl (0, 37)), (30, .inl (0, 37)), (31, .inl (0, 1152)), (32, .inl (0, 6)), (33, .inl (0, 30)), (20, .inl (0, 6)), (21, .inl (0, 192)), (22, .inl (0, 192)), (23, .inl (0, 192)), (24, .inl (0, 192)), (25, .inl (0, 192)), (26, .inl (2, 192)), (27, .inl (0, 6)), (17, .inl (0, 36)), (18, .inl (0, 6))] := by
  refine yM.of [some (.ref 16)] (by decide) rfl 0 rfl (fun _ => Nat.le_of_ble_eq_true rfl) (fun Y hR => ?_)
  refine y_aload hR dNE_init_0 rfl ?_
  refine y_objInit hR dNE_init_1 oi_NE oi_2 oi_3 rfl (by decide) ?_
  refine y_aload hR dNE_init_4 rfl ?_
  refine y_new hR 19 dNE_init_5 ynNE_9 rfl rfl (by decide) (by decide) ?_
  refine y_dup hR dNE_init_8 ?_
  refine y_call hR (q := 1) (av := []) (wr := [(16, .inr (3, [.null, .null, .null, .null]))]) [0] dNE_init_9 ycNE_11 zkKN_init mk_knots (by decide) (by decide) rfl rfl rfl (by decide) rfl rfl rfl (by decide) (by decide) ?_
  refine y_putF hR (q := 0) dNE_init_12 ypNE_12 rfl (by decide) (fun _ => rfl) (fun _ => rfl) ?_
  refine y_aload hR dNE_init_15 rfl ?_
  refine y_aload hR dNE_init_16 rfl ?_
  refine y_getR hR (q := 0) dNE_init_17 zgNE_12 rfl rfl ?_
  refine y_getR hR (q := 1) dNE_init_20 zgNE_18 rfl rfl ?_
  refine y_putF hR (q := 0) dNE_init_23 ypNE_22 rfl (by decide) (fun _ => rfl) (fun _ => rfl) ?_
  refine y_aload hR dNE_init_26 rfl ?_
  refine y_bipush hR dNE_init_27 (v := 36) rfl ?_
  refine y_newa hR (kd := 0) (N := 36) 17 dNE_init_29 (by decide) ac_int rfl (by decide) rfl rfl (by decide) (by decide) ?_
  refine y_putF hR (q := 0) dNE_init_31 ypNE_23 rfl (by decide) (fun _ => rfl) (fun _ => rfl) ?_
  refine y_aload hR dNE_init_34 rfl ?_
  refine y_bipush hR dNE_init_35 (v := 6) rfl ?_
  refine y_newa hR (kd := 0) (N := 6) 18 dNE_init_37 (by decide) ac_int rfl (by decide) rfl rfl (by decide) (by decide) ?_
  refine y_putF hR (q := 0) dNE_init_39 ypNE_27 rfl (by decide) (fun _ => rfl) (fun _ => rfl) ?_
  exact y_ret hR dNE_init_42 (by decide) (by decide) rfl
set_option maxRecDepth 100000 in
theorem mk_lasso : yM yPA_init cPA_init 2 1 12 2 43 [.ref 13, .int 6] [(13, .inr (5, [.null, .int 0, .null]))]
    [(13, .inr (5, [.ref 14, .int 0, .ref 15])), (15, .inl (0, 37)), (14, .inl (0, 6))] := by
  refine yM.of [some (.ref 13), some (.int 6)] (by decide) rfl 0 rfl (fun _ => Nat.le_of_ble_eq_true rfl) (fun Y hR => ?_)
  refine y_aload hR dPA_init_0 rfl ?_
  refine y_objInit hR dPA_init_1 oi_PA oi_2 oi_3 rfl (by decide) ?_
  refine y_aload hR dPA_init_4 rfl ?_
  refine y_bipush hR dPA_init_5 (v := 37) rfl ?_
  refine y_newa hR (kd := 0) (N := 37) 15 dPA_init_7 (by decide) ac_int rfl (by decide) rfl rfl (by decide) (by decide) ?_
  refine y_putF hR (q := 0) dPA_init_9 ypPA_9 rfl (by decide) (fun _ => rfl) (fun _ => rfl) ?_
  refine y_aload hR dPA_init_12 rfl ?_
  refine y_iload hR dPA_init_13 rfl ?_
  refine y_newa hR (kd := 0) (N := 6) 14 dPA_init_14 (by decide) ac_int rfl (by decide) rfl rfl (by decide) (by decide) ?_
  refine y_putF hR (q := 0) dPA_init_16 ypPA_15 rfl (by decide) (fun _ => rfl) (fun _ => rfl) ?_
  exact y_ret hR dPA_init_19 (by decide) (by decide) rfl
set_option maxRecDepth 100000 in
theorem mk_search : yM ySE_init cSE_init 1 5 92 33 2785 [.ref 11] [(11, .inr (7, [.null, .null, .null, .null, .int 0, .int 0]))]
    [(11, .inr (7, [.ref 16, .ref 28, .ref 13, .ref 12, .int (-1), .int (-1)])), (16, .inr (3, [.ref 19, .ref 28, .ref 17, .ref 18])), (19, .inr (2, [.ref 28, .ref 20, .ref 21, .int 0, .ref 22, .ref 23, .ref 24, .int 0, .ref 25, .int 0, .ref 26, .ref 27])), (28, .inr (1, [.ref 34, .ref 42, .int 0, .ref 29, .ref 30, .ref 31, .ref 32, .ref 33])), (34, .inr (4, [.ref 35, .int 0, .ref 36, .ref 37, .int 0, .ref 38, .ref 39, .ref 40, .ref 41, .int 0])), (35, .inl (1, 37)), (36, .inl (0, 37)), (37, .inl (0, 37)), (38, .inl (0, 5)), (39, .inl (0, 37)), (40, .inl (0, 32)), (41, .inl (2, 32)), (42, .inr (8, [.ref 43, .ref 44])), (43, .inl (0, 6)), (44, .inl (0, 6)), (29, .inl (0, 37)), (30, .inl (0, 37)), (31, .inl (0, 1152)), (32, .inl (0, 6)), (33, .inl (0, 30)), (20, .inl (0, 6)), (21, .inl (0, 192)), (22, .inl (0, 192)), (23, .inl (0, 192)), (24, .inl (0, 192)), (25, .inl (0, 192)), (26, .inl (2, 192)), (27, .inl (0, 6)), (17, .inl (0, 36)), (18, .inl (0, 6)), (13, .inr (5, [.ref 14, .int 0, .ref 15])), (15, .inl (0, 37)), (14, .inl (0, 6)), (12, .inl (0, 6))] := by
  refine yM.of [some (.ref 11)] (by decide) rfl 0 rfl (fun _ => Nat.le_of_ble_eq_true rfl) (fun Y hR => ?_)
  refine y_aload hR dSE_init_0 rfl ?_
  refine y_objInit hR dSE_init_1 oi_SE oi_2 oi_3 rfl (by decide) ?_
  refine y_aload hR dSE_init_4 rfl ?_
  refine y_new hR 16 dSE_init_5 ynSE_9 rfl rfl (by decide) (by decide) ?_
  refine y_dup hR dSE_init_8 ?_
  refine y_call hR (q := 1) (av := []) (wr := [(11, .inr (7, [.null, .null, .null, .null, .int 0, .int 0]))]) [0] dSE_init_9 ycSE_11 zkNE_init mk_nearness (by decide) (by decide) rfl rfl rfl (by decide) rfl rfl rfl (by decide) (by decide) ?_
  refine y_putF hR (q := 0) dSE_init_12 ypSE_12 rfl (by decide) (fun _ => rfl) (fun _ => rfl) ?_
  refine y_aload hR dSE_init_15 rfl ?_
  refine y_aload hR dSE_init_16 rfl ?_
  refine y_getR hR (q := 0) dSE_init_17 zgSE_12 rfl rfl ?_
  refine y_getR hR (q := 1) dSE_init_20 zgSE_18 rfl rfl ?_
  refine y_putF hR (q := 0) dSE_init_23 ypSE_22 rfl (by decide) (fun _ => rfl) (fun _ => rfl) ?_
  refine y_aload hR dSE_init_26 rfl ?_
  refine y_new hR 13 dSE_init_27 ynSE_23 rfl rfl (by decide) (by decide) ?_
  refine y_dup hR dSE_init_30 ?_
  refine y_bipush hR dSE_init_31 (v := 6) rfl ?_
  refine y_call hR (q := 30) (av := [.int 6]) (wr := [(11, .inr (7, [.ref 16, .ref 28, .null, .null, .int 0, .int 0])), (16, .inr (3, [.ref 19, .ref 28, .ref 17, .ref 18])), (19, .inr (2, [.ref 28, .ref 20, .ref 21, .int 0, .ref 22, .ref 23, .ref 24, .int 0, .ref 25, .int 0, .ref 26, .ref 27])), (28, .inr (1, [.ref 34, .ref 42, .int 0, .ref 29, .ref 30, .ref 31, .ref 32, .ref 33])), (34, .inr (4, [.ref 35, .int 0, .ref 36, .ref 37, .int 0, .ref 38, .ref 39, .ref 40, .ref 41, .int 0])), (35, .inl (1, 37)), (36, .inl (0, 37)), (37, .inl (0, 37)), (38, .inl (0, 5)), (39, .inl (0, 37)), (40, .inl (0, 32)), (41, .inl (2, 32)), (42, .inr (8, [.ref 43, .ref 44])), (43, .inl (0, 6)), (44, .inl (0, 6)), (29, .inl (0, 37)), (30, .inl (0, 37)), (31, .inl (0, 1152)), (32, .inl (0, 6)), (33, .inl (0, 30)), (20, .inl (0, 6)), (21, .inl (0, 192)), (22, .inl (0, 192)), (23, .inl (0, 192)), (24, .inl (0, 192)), (25, .inl (0, 192)), (26, .inl (2, 192)), (27, .inl (0, 6)), (17, .inl (0, 36)), (18, .inl (0, 6))]) [0, 1, 2, 3, 4, 5, 6, 7, 8, 9, 10, 11, 12, 13, 14, 15, 16, 17, 18, 19, 20, 21, 22, 23, 24, 25, 26, 27, 28, 29] dSE_init_33 ycSE_25 zkPA_init mk_lasso (by decide) (by decide) rfl rfl rfl (by decide) rfl rfl rfl (by decide) (by decide) ?_
  refine y_putF hR (q := 0) dSE_init_36 ypSE_28 rfl (by decide) (fun _ => rfl) (fun _ => rfl) ?_
  refine y_aload hR dSE_init_39 rfl ?_
  refine y_bipush hR dSE_init_40 (v := 6) rfl ?_
  refine y_newa hR (kd := 0) (N := 6) 12 dSE_init_42 (by decide) ac_int rfl (by decide) rfl rfl (by decide) (by decide) ?_
  refine y_putF hR (q := 0) dSE_init_44 ypSE_32 rfl (by decide) (fun _ => rfl) (fun _ => rfl) ?_
  refine y_aload hR dSE_init_47 rfl ?_
  refine y_iconst hR dSE_init_48 (v := (-1)) rfl ?_
  refine y_put hR (q := 0) dSE_init_49 ypSE_36 rfl (by decide) (fun _ => rfl) (fun _ => rfl) ?_
  refine y_aload hR dSE_init_52 rfl ?_
  refine y_iconst hR dSE_init_53 (v := (-1)) rfl ?_
  refine y_put hR (q := 0) dSE_init_54 ypSE_40 rfl (by decide) (fun _ => rfl) (fun _ => rfl) ?_
  exact y_ret hR dSE_init_57 (by decide) (by decide) rfl
set_option maxRecDepth 100000 in
theorem mk_pc : yM yPC_init cPC_init 1 6 112 44 3042 [.ref 0] [(0, .inr (0, [.null, .int 0, .null, .null, .null, .null, .null, .null, .null, .null, .int 0]))]
    [(0, .inr (0, [.ref 1, .int 0, .ref 2, .ref 8, .ref 11, .ref 16, .ref 19, .ref 28, .ref 34, .ref 42, .int 0])), (1, .inl (1, 32)), (2, .inr (6, [.ref 3, .ref 4, .ref 5, .int 0, .int 0, .ref 6, .int 0, .ref 7, .int 0, .int 0, .int 0])), (3, .inl (1, 32)), (4, .inl (0, 32)), (5, .inl (0, 32)), (6, .inl (1, 32)), (7, .inl (0, 32)), (8, .inr (5, [.ref 9, .int 0, .ref 10])), (10, .inl (0, 37)), (9, .inl (0, 8)), (11, .inr (7, [.ref 16, .ref 28, .ref 13, .ref 12, .int (-1), .int (-1)])), (16, .inr (3, [.ref 19, .ref 28, .ref 17, .ref 18])), (19, .inr (2, [.ref 28, .ref 20, .ref 21, .int 0, .ref 22, .ref 23, .ref 24, .int 0, .ref 25, .int 0, .ref 26, .ref 27])), (28, .inr (1, [.ref 34, .ref 42, .int 0, .ref 29, .ref 30, .ref 31, .ref 32, .ref 33])), (34, .inr (4, [.ref 35, .int 0, .ref 36, .ref 37, .int 0, .ref 38, .ref 39, .ref 40, .ref 41, .int 0])), (35, .inl (1, 37)), (36, .inl (0, 37)), (37, .inl (0, 37)), (38, .inl (0, 5)), (39, .inl (0, 37)), (40, .inl (0, 32)), (41, .inl (2, 32)), (42, .inr (8, [.ref 43, .ref 44])), (43, .inl (0, 6)), (44, .inl (0, 6)), (29, .inl (0, 37)), (30, .inl (0, 37)), (31, .inl (0, 1152)), (32, .inl (0, 6)), (33, .inl (0, 30)), (20, .inl (0, 6)), (21, .inl (0, 192)), (22, .inl (0, 192)), (23, .inl (0, 192)), (24, .inl (0, 192)), (25, .inl (0, 192)), (26, .inl (2, 192)), (27, .inl (0, 6)), (17, .inl (0, 36)), (18, .inl (0, 6)), (13, .inr (5, [.ref 14, .int 0, .ref 15])), (15, .inl (0, 37)), (14, .inl (0, 6)), (12, .inl (0, 6))] := by
  refine yM.of [some (.ref 0)] (by decide) rfl 0 rfl (fun _ => Nat.le_of_ble_eq_true rfl) (fun Y hR => ?_)
  refine y_aload hR dPC_init_0 rfl ?_
  refine y_objInit hR dPC_init_1 oi_PC oi_2 oi_3 rfl (by decide) ?_
  refine y_aload hR dPC_init_4 rfl ?_
  refine y_bipush hR dPC_init_5 (v := 32) rfl ?_
  refine y_newa hR (kd := 1) (N := 32) 1 dPC_init_7 (by decide) ac_char rfl (by decide) rfl rfl (by decide) (by decide) ?_
  refine y_putF hR (q := 0) dPC_init_9 ypPC_9 rfl (by decide) (fun _ => rfl) (fun _ => rfl) ?_
  refine y_aload hR dPC_init_12 rfl ?_
  refine y_new hR 2 dPC_init_13 ynPC_13 rfl rfl (by decide) (by decide) ?_
  refine y_dup hR dPC_init_16 ?_
  refine y_call hR (q := 2) (av := []) (wr := [(0, .inr (0, [.ref 1, .int 0, .null, .null, .null, .null, .null, .null, .null, .null, .int 0])), (1, .inl (1, 32))]) [0, 1] dPC_init_17 ycPC_15 zkRE_init mk_reader (by decide) (by decide) rfl rfl rfl (by decide) rfl rfl rfl (by decide) (by decide) ?_
  refine y_putF hR (q := 0) dPC_init_20 ypPC_16 rfl (by decide) (fun _ => rfl) (fun _ => rfl) ?_
  refine y_aload hR dPC_init_23 rfl ?_
  refine y_new hR 8 dPC_init_24 ynPC_20 rfl rfl (by decide) (by decide) ?_
  refine y_dup hR dPC_init_27 ?_
  refine y_bipush hR dPC_init_28 (v := 8) rfl ?_
  refine y_call hR (q := 8) (av := [.int 8]) (wr := [(0, .inr (0, [.ref 1, .int 0, .ref 2, .null, .null, .null, .null, .null, .null, .null, .int 0])), (1, .inl (1, 32)), (2, .inr (6, [.ref 3, .ref 4, .ref 5, .int 0, .int 0, .ref 6, .int 0, .ref 7, .int 0, .int 0, .int 0])), (3, .inl (1, 32)), (4, .inl (0, 32)), (5, .inl (0, 32)), (6, .inl (1, 32)), (7, .inl (0, 32))]) [0, 1, 2, 3, 4, 5, 6, 7] dPC_init_30 ycPC_22 zkPA_init mk_row (by decide) (by decide) rfl rfl rfl (by decide) rfl rfl rfl (by decide) (by decide) ?_
  refine y_putF hR (q := 0) dPC_init_33 ypPC_25 rfl (by decide) (fun _ => rfl) (fun _ => rfl) ?_
  refine y_aload hR dPC_init_36 rfl ?_
  refine y_new hR 11 dPC_init_37 ynPC_29 rfl rfl (by decide) (by decide) ?_
  refine y_dup hR dPC_init_40 ?_
  refine y_call hR (q := 11) (av := []) (wr := [(0, .inr (0, [.ref 1, .int 0, .ref 2, .ref 8, .null, .null, .null, .null, .null, .null, .int 0])), (1, .inl (1, 32)), (2, .inr (6, [.ref 3, .ref 4, .ref 5, .int 0, .int 0, .ref 6, .int 0, .ref 7, .int 0, .int 0, .int 0])), (3, .inl (1, 32)), (4, .inl (0, 32)), (5, .inl (0, 32)), (6, .inl (1, 32)), (7, .inl (0, 32)), (8, .inr (5, [.ref 9, .int 0, .ref 10])), (10, .inl (0, 37)), (9, .inl (0, 8))]) [0, 1, 2, 3, 4, 5, 6, 7, 8, 9, 10] dPC_init_41 ycPC_31 zkSE_init mk_search (by decide) (by decide) rfl rfl rfl (by decide) rfl rfl rfl (by decide) (by decide) ?_
  refine y_putF hR (q := 0) dPC_init_44 ypPC_32 rfl (by decide) (fun _ => rfl) (fun _ => rfl) ?_
  refine y_aload hR dPC_init_47 rfl ?_
  refine y_aload hR dPC_init_48 rfl ?_
  refine y_getR hR (q := 0) dPC_init_49 zgPC_32 rfl rfl ?_
  refine y_getR hR (q := 11) dPC_init_52 zgPC_36 rfl rfl ?_
  refine y_putF hR (q := 0) dPC_init_55 ypPC_40 rfl (by decide) (fun _ => rfl) (fun _ => rfl) ?_
  refine y_aload hR dPC_init_58 rfl ?_
  refine y_aload hR dPC_init_59 rfl ?_
  refine y_getR hR (q := 0) dPC_init_60 zgPC_40 rfl rfl ?_
  refine y_getR hR (q := 12) dPC_init_63 zgPC_41 rfl rfl ?_
  refine y_putF hR (q := 0) dPC_init_66 ypPC_47 rfl (by decide) (fun _ => rfl) (fun _ => rfl) ?_
  refine y_aload hR dPC_init_69 rfl ?_
  refine y_aload hR dPC_init_70 rfl ?_
  refine y_getR hR (q := 0) dPC_init_71 zgPC_47 rfl rfl ?_
  refine y_getR hR (q := 13) dPC_init_74 zgPC_48 rfl rfl ?_
  refine y_putF hR (q := 0) dPC_init_77 ypPC_54 rfl (by decide) (fun _ => rfl) (fun _ => rfl) ?_
  refine y_aload hR dPC_init_80 rfl ?_
  refine y_aload hR dPC_init_81 rfl ?_
  refine y_getR hR (q := 0) dPC_init_82 zgPC_54 rfl rfl ?_
  refine y_getR hR (q := 14) dPC_init_85 zgPC_55 rfl rfl ?_
  refine y_putF hR (q := 0) dPC_init_88 ypPC_61 rfl (by decide) (fun _ => rfl) (fun _ => rfl) ?_
  refine y_aload hR dPC_init_91 rfl ?_
  refine y_aload hR dPC_init_92 rfl ?_
  refine y_getR hR (q := 0) dPC_init_93 zgPC_54 rfl rfl ?_
  refine y_getR hR (q := 14) dPC_init_96 zgPC_62 rfl rfl ?_
  refine y_putF hR (q := 0) dPC_init_99 ypPC_66 rfl (by decide) (fun _ => rfl) (fun _ => rfl) ?_
  exact y_ret hR dPC_init_102 (by decide) (by decide) rfl
set_option maxRecDepth 100000 in
theorem mk_mo : yM yMO_init cMO_init 1 1 12 27 3706 [.ref 45] [(45, .inr (9, [.int 0, .int 0, .null, .int 0, .int 0, .null, .null, .null, .null, .int 0, .int 0, .null, .null, .null, .int 0, .null, .int 0, .null, .int 0, .int 0, .null, .null, .null, .int 0, .null, .int 0, .null, .null, .null, .null, .null, .null, .null, .null, .int 0, .int 0, .null, .null, .null, .null, .null]))]
    [(45, .inr (9, [.int 0, .int 0, .ref 46, .int 0, .int 0, .ref 47, .ref 48, .ref 49, .ref 50, .int 0, .int 0, .ref 51, .ref 52, .ref 53, .int 0, .ref 54, .int 0, .ref 55, .int 0, .int 0, .ref 56, .ref 57, .ref 58, .int 0, .ref 59, .int 0, .ref 60, .ref 61, .ref 62, .ref 63, .ref 64, .ref 65, .ref 66, .ref 67, .int 0, .int 0, .ref 68, .ref 69, .ref 70, .ref 71, .ref 72])), (46, .inl (0, 32)), (47, .inl (0, 40)), (48, .inl (0, 40)), (49, .inl (0, 40)), (50, .inl (0, 40)), (51, .inl (0, 40)), (52, .inl (0, 40)), (53, .inl (0, 40)), (54, .inl (0, 40)), (55, .inl (0, 40)), (56, .inl (0, 100)), (57, .inl (0, 6)), (58, .inl (2, 36)), (59, .inl (0, 8)), (60, .inl (0, 2304)), (61, .inl (2, 384)), (62, .inl (2, 40)), (63, .inl (3, 6)), (64, .inl (3, 6)), (65, .inl (3, 6)), (66, .inl (3, 6)), (67, .inl (3, 36)), (68, .inl (0, 8)), (69, .inl (2, 320)), (70, .inl (0, 6)), (71, .inl (0, 6)), (72, .inl (0, 36))] := by
  refine yM.of [some (.ref 45)] (by decide) rfl 0 rfl (fun _ => Nat.le_of_ble_eq_true rfl) (fun Y hR => ?_)
  refine y_aload hR dMO_init_0 rfl ?_
  refine y_objInit hR dMO_init_1 oi_MO oi_2 oi_3 rfl (by decide) ?_
  refine y_aload hR dMO_init_4 rfl ?_
  refine y_bipush hR dMO_init_5 (v := 32) rfl ?_
  refine y_newa hR (kd := 0) (N := 32) 46 dMO_init_7 (by decide) ac_int rfl (by decide) rfl rfl (by decide) (by decide) ?_
  refine y_put hR (q := 0) dMO_init_9 ypMO_7 rfl (by decide) (fun _ => rfl) (fun _ => rfl) ?_
  refine y_aload hR dMO_init_12 rfl ?_
  refine y_bipush hR dMO_init_13 (v := 40) rfl ?_
  refine y_newa hR (kd := 0) (N := 40) 47 dMO_init_15 (by decide) ac_int rfl (by decide) rfl rfl (by decide) (by decide) ?_
  refine y_put hR (q := 0) dMO_init_17 ypMO_13 rfl (by decide) (fun _ => rfl) (fun _ => rfl) ?_
  refine y_aload hR dMO_init_20 rfl ?_
  refine y_bipush hR dMO_init_21 (v := 40) rfl ?_
  refine y_newa hR (kd := 0) (N := 40) 48 dMO_init_23 (by decide) ac_int rfl (by decide) rfl rfl (by decide) (by decide) ?_
  refine y_put hR (q := 0) dMO_init_25 ypMO_16 rfl (by decide) (fun _ => rfl) (fun _ => rfl) ?_
  refine y_aload hR dMO_init_28 rfl ?_
  refine y_bipush hR dMO_init_29 (v := 40) rfl ?_
  refine y_newa hR (kd := 0) (N := 40) 49 dMO_init_31 (by decide) ac_int rfl (by decide) rfl rfl (by decide) (by decide) ?_
  refine y_put hR (q := 0) dMO_init_33 ypMO_19 rfl (by decide) (fun _ => rfl) (fun _ => rfl) ?_
  refine y_aload hR dMO_init_36 rfl ?_
  refine y_bipush hR dMO_init_37 (v := 40) rfl ?_
  refine y_newa hR (kd := 0) (N := 40) 50 dMO_init_39 (by decide) ac_int rfl (by decide) rfl rfl (by decide) (by decide) ?_
  refine y_put hR (q := 0) dMO_init_41 ypMO_22 rfl (by decide) (fun _ => rfl) (fun _ => rfl) ?_
  refine y_aload hR dMO_init_44 rfl ?_
  refine y_bipush hR dMO_init_45 (v := 40) rfl ?_
  refine y_newa hR (kd := 0) (N := 40) 51 dMO_init_47 (by decide) ac_int rfl (by decide) rfl rfl (by decide) (by decide) ?_
  refine y_put hR (q := 0) dMO_init_49 ypMO_25 rfl (by decide) (fun _ => rfl) (fun _ => rfl) ?_
  refine y_aload hR dMO_init_52 rfl ?_
  refine y_bipush hR dMO_init_53 (v := 40) rfl ?_
  refine y_newa hR (kd := 0) (N := 40) 52 dMO_init_55 (by decide) ac_int rfl (by decide) rfl rfl (by decide) (by decide) ?_
  refine y_put hR (q := 0) dMO_init_57 ypMO_28 rfl (by decide) (fun _ => rfl) (fun _ => rfl) ?_
  refine y_aload hR dMO_init_60 rfl ?_
  refine y_bipush hR dMO_init_61 (v := 40) rfl ?_
  refine y_newa hR (kd := 0) (N := 40) 53 dMO_init_63 (by decide) ac_int rfl (by decide) rfl rfl (by decide) (by decide) ?_
  refine y_put hR (q := 0) dMO_init_65 ypMO_31 rfl (by decide) (fun _ => rfl) (fun _ => rfl) ?_
  refine y_aload hR dMO_init_68 rfl ?_
  refine y_bipush hR dMO_init_69 (v := 40) rfl ?_
  refine y_newa hR (kd := 0) (N := 40) 54 dMO_init_71 (by decide) ac_int rfl (by decide) rfl rfl (by decide) (by decide) ?_
  refine y_put hR (q := 0) dMO_init_73 ypMO_34 rfl (by decide) (fun _ => rfl) (fun _ => rfl) ?_
  refine y_aload hR dMO_init_76 rfl ?_
  refine y_bipush hR dMO_init_77 (v := 40) rfl ?_
  refine y_newa hR (kd := 0) (N := 40) 55 dMO_init_79 (by decide) ac_int rfl (by decide) rfl rfl (by decide) (by decide) ?_
  refine y_put hR (q := 0) dMO_init_81 ypMO_37 rfl (by decide) (fun _ => rfl) (fun _ => rfl) ?_
  refine y_aload hR dMO_init_84 rfl ?_
  refine y_bipush hR dMO_init_85 (v := 100) rfl ?_
  refine y_newa hR (kd := 0) (N := 100) 56 dMO_init_87 (by decide) ac_int rfl (by decide) rfl rfl (by decide) (by decide) ?_
  refine y_put hR (q := 0) dMO_init_89 ypMO_40 rfl (by decide) (fun _ => rfl) (fun _ => rfl) ?_
  refine y_aload hR dMO_init_92 rfl ?_
  refine y_bipush hR dMO_init_93 (v := 6) rfl ?_
  refine y_newa hR (kd := 0) (N := 6) 57 dMO_init_95 (by decide) ac_int rfl (by decide) rfl rfl (by decide) (by decide) ?_
  refine y_put hR (q := 0) dMO_init_97 ypMO_43 rfl (by decide) (fun _ => rfl) (fun _ => rfl) ?_
  refine y_aload hR dMO_init_100 rfl ?_
  refine y_bipush hR dMO_init_101 (v := 36) rfl ?_
  refine y_newa hR (kd := 2) (N := 36) 58 dMO_init_103 (by decide) ac_boolean rfl (by decide) rfl rfl (by decide) (by decide) ?_
  refine y_put hR (q := 0) dMO_init_105 ypMO_46 rfl (by decide) (fun _ => rfl) (fun _ => rfl) ?_
  refine y_aload hR dMO_init_108 rfl ?_
  refine y_bipush hR dMO_init_109 (v := 8) rfl ?_
  refine y_newa hR (kd := 0) (N := 8) 59 dMO_init_111 (by decide) ac_int rfl (by decide) rfl rfl (by decide) (by decide) ?_
  refine y_put hR (q := 0) dMO_init_113 ypMO_50 rfl (by decide) (fun _ => rfl) (fun _ => rfl) ?_
  refine y_aload hR dMO_init_116 rfl ?_
  refine y_sipush hR dMO_init_117 (v := 2304) rfl ?_
  refine y_newa hR (kd := 0) (N := 2304) 60 dMO_init_120 (by decide) ac_int rfl (by decide) rfl rfl (by decide) (by decide) ?_
  refine y_put hR (q := 0) dMO_init_122 ypMO_53 rfl (by decide) (fun _ => rfl) (fun _ => rfl) ?_
  refine y_aload hR dMO_init_125 rfl ?_
  refine y_sipush hR dMO_init_126 (v := 384) rfl ?_
  refine y_newa hR (kd := 2) (N := 384) 61 dMO_init_129 (by decide) ac_boolean rfl (by decide) rfl rfl (by decide) (by decide) ?_
  refine y_put hR (q := 0) dMO_init_131 ypMO_56 rfl (by decide) (fun _ => rfl) (fun _ => rfl) ?_
  refine y_aload hR dMO_init_134 rfl ?_
  refine y_bipush hR dMO_init_135 (v := 40) rfl ?_
  refine y_newa hR (kd := 2) (N := 40) 62 dMO_init_137 (by decide) ac_boolean rfl (by decide) rfl rfl (by decide) (by decide) ?_
  refine y_put hR (q := 0) dMO_init_139 ypMO_59 rfl (by decide) (fun _ => rfl) (fun _ => rfl) ?_
  refine y_aload hR dMO_init_142 rfl ?_
  refine y_bipush hR dMO_init_143 (v := 6) rfl ?_
  refine y_newa hR (kd := 3) (N := 6) 63 dMO_init_145 (by decide) ac_long rfl (by decide) rfl rfl (by decide) (by decide) ?_
  refine y_put hR (q := 0) dMO_init_147 ypMO_62 rfl (by decide) (fun _ => rfl) (fun _ => rfl) ?_
  refine y_aload hR dMO_init_150 rfl ?_
  refine y_bipush hR dMO_init_151 (v := 6) rfl ?_
  refine y_newa hR (kd := 3) (N := 6) 64 dMO_init_153 (by decide) ac_long rfl (by decide) rfl rfl (by decide) (by decide) ?_
  refine y_put hR (q := 0) dMO_init_155 ypMO_66 rfl (by decide) (fun _ => rfl) (fun _ => rfl) ?_
  refine y_aload hR dMO_init_158 rfl ?_
  refine y_bipush hR dMO_init_159 (v := 6) rfl ?_
  refine y_newa hR (kd := 3) (N := 6) 65 dMO_init_161 (by decide) ac_long rfl (by decide) rfl rfl (by decide) (by decide) ?_
  refine y_put hR (q := 0) dMO_init_163 ypMO_69 rfl (by decide) (fun _ => rfl) (fun _ => rfl) ?_
  refine y_aload hR dMO_init_166 rfl ?_
  refine y_bipush hR dMO_init_167 (v := 6) rfl ?_
  refine y_newa hR (kd := 3) (N := 6) 66 dMO_init_169 (by decide) ac_long rfl (by decide) rfl rfl (by decide) (by decide) ?_
  refine y_put hR (q := 0) dMO_init_171 ypMO_72 rfl (by decide) (fun _ => rfl) (fun _ => rfl) ?_
  refine y_aload hR dMO_init_174 rfl ?_
  refine y_bipush hR dMO_init_175 (v := 36) rfl ?_
  refine y_newa hR (kd := 3) (N := 36) 67 dMO_init_177 (by decide) ac_long rfl (by decide) rfl rfl (by decide) (by decide) ?_
  refine y_put hR (q := 0) dMO_init_179 ypMO_75 rfl (by decide) (fun _ => rfl) (fun _ => rfl) ?_
  refine y_aload hR dMO_init_182 rfl ?_
  refine y_bipush hR dMO_init_183 (v := 8) rfl ?_
  refine y_newa hR (kd := 0) (N := 8) 68 dMO_init_185 (by decide) ac_int rfl (by decide) rfl rfl (by decide) (by decide) ?_
  refine y_put hR (q := 0) dMO_init_187 ypMO_78 rfl (by decide) (fun _ => rfl) (fun _ => rfl) ?_
  refine y_aload hR dMO_init_190 rfl ?_
  refine y_sipush hR dMO_init_191 (v := 320) rfl ?_
  refine y_newa hR (kd := 2) (N := 320) 69 dMO_init_194 (by decide) ac_boolean rfl (by decide) rfl rfl (by decide) (by decide) ?_
  refine y_put hR (q := 0) dMO_init_196 ypMO_81 rfl (by decide) (fun _ => rfl) (fun _ => rfl) ?_
  refine y_aload hR dMO_init_199 rfl ?_
  refine y_bipush hR dMO_init_200 (v := 6) rfl ?_
  refine y_newa hR (kd := 0) (N := 6) 70 dMO_init_202 (by decide) ac_int rfl (by decide) rfl rfl (by decide) (by decide) ?_
  refine y_put hR (q := 0) dMO_init_204 ypMO_84 rfl (by decide) (fun _ => rfl) (fun _ => rfl) ?_
  refine y_aload hR dMO_init_207 rfl ?_
  refine y_bipush hR dMO_init_208 (v := 6) rfl ?_
  refine y_newa hR (kd := 0) (N := 6) 71 dMO_init_210 (by decide) ac_int rfl (by decide) rfl rfl (by decide) (by decide) ?_
  refine y_put hR (q := 0) dMO_init_212 ypMO_87 rfl (by decide) (fun _ => rfl) (fun _ => rfl) ?_
  refine y_aload hR dMO_init_215 rfl ?_
  refine y_bipush hR dMO_init_216 (v := 36) rfl ?_
  refine y_newa hR (kd := 0) (N := 36) 72 dMO_init_218 (by decide) ac_int rfl (by decide) rfl rfl (by decide) (by decide) ?_
  refine y_put hR (q := 0) dMO_init_220 ypMO_90 rfl (by decide) (fun _ => rfl) (fun _ => rfl) ?_
  exact y_ret hR dMO_init_223 (by decide) (by decide) rfl

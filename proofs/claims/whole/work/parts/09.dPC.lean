theorem dPC_init_0 : decode cPC_init 0 = .ok (.aload_n 0, 1) := by decide +kernel
theorem dPC_init_1 : decode cPC_init 1 = .ok (.invokespecial 3, 3) := by decide +kernel
theorem dPC_init_4 : decode cPC_init 4 = .ok (.aload_n 0, 1) := by decide +kernel
theorem dPC_init_5 : decode cPC_init 5 = .ok (.bipush 32, 2) := by decide +kernel
theorem dPC_init_7 : decode cPC_init 7 = .ok (.newarray .char, 2) := by decide +kernel
theorem dPC_init_9 : decode cPC_init 9 = .ok (.putfield 9, 3) := by decide +kernel
theorem dPC_init_12 : decode cPC_init 12 = .ok (.aload_n 0, 1) := by decide +kernel
theorem dPC_init_13 : decode cPC_init 13 = .ok (.new 13, 3) := by decide +kernel
theorem dPC_init_16 : decode cPC_init 16 = .ok (.dup, 1) := by decide +kernel
theorem dPC_init_17 : decode cPC_init 17 = .ok (.invokespecial 15, 3) := by decide +kernel
theorem dPC_init_20 : decode cPC_init 20 = .ok (.putfield 16, 3) := by decide +kernel
theorem dPC_init_23 : decode cPC_init 23 = .ok (.aload_n 0, 1) := by decide +kernel
theorem dPC_init_24 : decode cPC_init 24 = .ok (.new 20, 3) := by decide +kernel
theorem dPC_init_27 : decode cPC_init 27 = .ok (.dup, 1) := by decide +kernel
theorem dPC_init_28 : decode cPC_init 28 = .ok (.bipush 8, 2) := by decide +kernel
theorem dPC_init_30 : decode cPC_init 30 = .ok (.invokespecial 22, 3) := by decide +kernel
theorem dPC_init_33 : decode cPC_init 33 = .ok (.putfield 25, 3) := by decide +kernel
theorem dPC_init_36 : decode cPC_init 36 = .ok (.aload_n 0, 1) := by decide +kernel
theorem dPC_init_37 : decode cPC_init 37 = .ok (.new 29, 3) := by decide +kernel
theorem dPC_init_40 : decode cPC_init 40 = .ok (.dup, 1) := by decide +kernel
theorem dPC_init_41 : decode cPC_init 41 = .ok (.invokespecial 31, 3) := by decide +kernel
theorem dPC_init_44 : decode cPC_init 44 = .ok (.putfield 32, 3) := by decide +kernel
theorem dPC_init_47 : decode cPC_init 47 = .ok (.aload_n 0, 1) := by decide +kernel
theorem dPC_init_48 : decode cPC_init 48 = .ok (.aload_n 0, 1) := by decide +kernel
theorem dPC_init_49 : decode cPC_init 49 = .ok (.getfield 32, 3) := by decide +kernel
theorem dPC_init_52 : decode cPC_init 52 = .ok (.getfield 36, 3) := by decide +kernel
theorem dPC_init_55 : decode cPC_init 55 = .ok (.putfield 40, 3) := by decide +kernel
theorem dPC_init_58 : decode cPC_init 58 = .ok (.aload_n 0, 1) := by decide +kernel
theorem dPC_init_59 : decode cPC_init 59 = .ok (.aload_n 0, 1) := by decide +kernel
theorem dPC_init_60 : decode cPC_init 60 = .ok (.getfield 40, 3) := by decide +kernel
theorem dPC_init_63 : decode cPC_init 63 = .ok (.getfield 41, 3) := by decide +kernel
theorem dPC_init_66 : decode cPC_init 66 = .ok (.putfield 47, 3) := by decide +kernel
theorem dPC_init_69 : decode cPC_init 69 = .ok (.aload_n 0, 1) := by decide +kernel
theorem dPC_init_70 : decode cPC_init 70 = .ok (.aload_n 0, 1) := by decide +kernel
theorem dPC_init_71 : decode cPC_init 71 = .ok (.getfield 47, 3) := by decide +kernel
theorem dPC_init_74 : decode cPC_init 74 = .ok (.getfield 48, 3) := by decide +kernel
theorem dPC_init_77 : decode cPC_init 77 = .ok (.putfield 54, 3) := by decide +kernel
theorem dPC_init_80 : decode cPC_init 80 = .ok (.aload_n 0, 1) := by decide +kernel
theorem dPC_init_81 : decode cPC_init 81 = .ok (.aload_n 0, 1) := by decide +kernel
theorem dPC_init_82 : decode cPC_init 82 = .ok (.getfield 54, 3) := by decide +kernel
theorem dPC_init_85 : decode cPC_init 85 = .ok (.getfield 55, 3) := by decide +kernel
theorem dPC_init_88 : decode cPC_init 88 = .ok (.putfield 61, 3) := by decide +kernel
theorem dPC_init_91 : decode cPC_init 91 = .ok (.aload_n 0, 1) := by decide +kernel
theorem dPC_init_92 : decode cPC_init 92 = .ok (.aload_n 0, 1) := by decide +kernel
theorem dPC_init_93 : decode cPC_init 93 = .ok (.getfield 54, 3) := by decide +kernel
theorem dPC_init_96 : decode cPC_init 96 = .ok (.getfield 62, 3) := by decide +kernel
theorem dPC_init_99 : decode cPC_init 99 = .ok (.putfield 66, 3) := by decide +kernel
theorem dPC_init_102 : decode cPC_init 102 = .ok (.return_, 1) := by decide +kernel
theorem dPC_type_0 : decode cPC_type 0 = .ok (.aload_n 0, 1) := by decide +kernel
theorem dPC_type_1 : decode cPC_type 1 = .ok (.getfield 67, 3) := by decide +kernel
theorem dPC_type_4 : decode cPC_type 4 = .ok (.istore_n 3, 1) := by decide +kernel
theorem dPC_type_5 : decode cPC_type 5 = .ok (.bipush 56, 2) := by decide +kernel
theorem dPC_type_7 : decode cPC_type 7 = .ok (.istore 4, 2) := by decide +kernel
theorem dPC_type_9 : decode cPC_type 9 = .ok (.iload 4, 2) := by decide +kernel
theorem dPC_type_11 : decode cPC_type 11 = .ok (.ifCond .lt 62, 3) := by decide +kernel
theorem dPC_type_14 : decode cPC_type 14 = .ok (.lload_n 1, 1) := by decide +kernel
theorem dPC_type_15 : decode cPC_type 15 = .ok (.iload 4, 2) := by decide +kernel
theorem dPC_type_17 : decode cPC_type 17 = .ok (.lushr, 1) := by decide +kernel
theorem dPC_type_18 : decode cPC_type 18 = .ok (.l2i, 1) := by decide +kernel
theorem dPC_type_19 : decode cPC_type 19 = .ok (.sipush 255, 3) := by decide +kernel
theorem dPC_type_22 : decode cPC_type 22 = .ok (.iand, 1) := by decide +kernel
theorem dPC_type_23 : decode cPC_type 23 = .ok (.istore 5, 2) := by decide +kernel
theorem dPC_type_25 : decode cPC_type 25 = .ok (.iload 5, 2) := by decide +kernel
theorem dPC_type_27 : decode cPC_type 27 = .ok (.ifCond .ne 6, 3) := by decide +kernel
theorem dPC_type_30 : decode cPC_type 30 = .ok (.goto 37, 3) := by decide +kernel
theorem dPC_type_33 : decode cPC_type 33 = .ok (.iload 5, 2) := by decide +kernel
theorem dPC_type_35 : decode cPC_type 35 = .ok (.bipush 33, 2) := by decide +kernel
theorem dPC_type_37 : decode cPC_type 37 = .ok (.if_icmp .lt 16, 3) := by decide +kernel
theorem dPC_type_40 : decode cPC_type 40 = .ok (.iload 5, 2) := by decide +kernel
theorem dPC_type_42 : decode cPC_type 42 = .ok (.bipush 126, 2) := by decide +kernel
theorem dPC_type_44 : decode cPC_type 44 = .ok (.if_icmp .gt 9, 3) := by decide +kernel
theorem dPC_type_47 : decode cPC_type 47 = .ok (.iload_n 3, 1) := by decide +kernel
theorem dPC_type_48 : decode cPC_type 48 = .ok (.bipush 32, 2) := by decide +kernel
theorem dPC_type_50 : decode cPC_type 50 = .ok (.if_icmp .lt 5, 3) := by decide +kernel
theorem dPC_type_53 : decode cPC_type 53 = .ok (.iconst 0, 1) := by decide +kernel
theorem dPC_type_54 : decode cPC_type 54 = .ok (.ireturn, 1) := by decide +kernel
theorem dPC_type_55 : decode cPC_type 55 = .ok (.aload_n 0, 1) := by decide +kernel
theorem dPC_type_56 : decode cPC_type 56 = .ok (.getfield 9, 3) := by decide +kernel
theorem dPC_type_59 : decode cPC_type 59 = .ok (.iload_n 3, 1) := by decide +kernel
theorem dPC_type_60 : decode cPC_type 60 = .ok (.iload 5, 2) := by decide +kernel
theorem dPC_type_62 : decode cPC_type 62 = .ok (.i2c, 1) := by decide +kernel
theorem dPC_type_63 : decode cPC_type 63 = .ok (.castore, 1) := by decide +kernel
theorem dPC_type_64 : decode cPC_type 64 = .ok (.iinc 3 1, 3) := by decide +kernel
theorem dPC_type_67 : decode cPC_type 67 = .ok (.iinc 4 (-8), 3) := by decide +kernel
theorem dPC_type_70 : decode cPC_type 70 = .ok (.goto (-61), 3) := by decide +kernel
theorem dPC_type_73 : decode cPC_type 73 = .ok (.aload_n 0, 1) := by decide +kernel
theorem dPC_type_74 : decode cPC_type 74 = .ok (.iload_n 3, 1) := by decide +kernel
theorem dPC_type_75 : decode cPC_type 75 = .ok (.putfield 67, 3) := by decide +kernel
theorem dPC_type_78 : decode cPC_type 78 = .ok (.iconst 1, 1) := by decide +kernel
theorem dPC_type_79 : decode cPC_type 79 = .ok (.ireturn, 1) := by decide +kernel
theorem dPC_wipe_0 : decode cPC_wipe 0 = .ok (.aload_n 0, 1) := by decide +kernel
theorem dPC_wipe_1 : decode cPC_wipe 1 = .ok (.iconst 0, 1) := by decide +kernel
theorem dPC_wipe_2 : decode cPC_wipe 2 = .ok (.putfield 67, 3) := by decide +kernel
theorem dPC_wipe_5 : decode cPC_wipe 5 = .ok (.return_, 1) := by decide +kernel
theorem dPC_length_0 : decode cPC_length 0 = .ok (.aload_n 0, 1) := by decide +kernel
theorem dPC_length_1 : decode cPC_length 1 = .ok (.getfield 67, 3) := by decide +kernel
theorem dPC_length_4 : decode cPC_length 4 = .ok (.ireturn, 1) := by decide +kernel
theorem dPC_formula_0 : decode cPC_formula 0 = .ok (.aload_n 0, 1) := by decide +kernel
theorem dPC_formula_1 : decode cPC_formula 1 = .ok (.getfield 16, 3) := by decide +kernel
theorem dPC_formula_4 : decode cPC_formula 4 = .ok (.aload_n 0, 1) := by decide +kernel
theorem dPC_formula_5 : decode cPC_formula 5 = .ok (.getfield 9, 3) := by decide +kernel
theorem dPC_formula_8 : decode cPC_formula 8 = .ok (.aload_n 0, 1) := by decide +kernel
theorem dPC_formula_9 : decode cPC_formula 9 = .ok (.getfield 67, 3) := by decide +kernel
theorem dPC_formula_12 : decode cPC_formula 12 = .ok (.invokevirtual 71, 3) := by decide +kernel
theorem dPC_formula_15 : decode cPC_formula 15 = .ok (.ifCond .ne 11, 3) := by decide +kernel
theorem dPC_formula_18 : decode cPC_formula 18 = .ok (.new 75, 3) := by decide +kernel
theorem dPC_formula_21 : decode cPC_formula 21 = .ok (.dup, 1) := by decide +kernel
theorem dPC_formula_22 : decode cPC_formula 22 = .ok (.invokespecial 77, 3) := by decide +kernel
theorem dPC_formula_25 : decode cPC_formula 25 = .ok (.athrow, 1) := by decide +kernel
theorem dPC_formula_26 : decode cPC_formula 26 = .ok (.aload_n 0, 1) := by decide +kernel
theorem dPC_formula_27 : decode cPC_formula 27 = .ok (.getfield 16, 3) := by decide +kernel
theorem dPC_formula_30 : decode cPC_formula 30 = .ok (.getfield 78, 3) := by decide +kernel
theorem dPC_formula_33 : decode cPC_formula 33 = .ok (.iconst 5, 1) := by decide +kernel
theorem dPC_formula_34 : decode cPC_formula 34 = .ok (.if_icmp .le 11, 3) := by decide +kernel
theorem dPC_formula_37 : decode cPC_formula 37 = .ok (.new 81, 3) := by decide +kernel
theorem dPC_formula_40 : decode cPC_formula 40 = .ok (.dup, 1) := by decide +kernel
theorem dPC_formula_41 : decode cPC_formula 41 = .ok (.invokespecial 83, 3) := by decide +kernel
theorem dPC_formula_44 : decode cPC_formula 44 = .ok (.athrow, 1) := by decide +kernel
theorem dPC_formula_45 : decode cPC_formula 45 = .ok (.aload_n 0, 1) := by decide +kernel
theorem dPC_formula_46 : decode cPC_formula 46 = .ok (.getfield 61, 3) := by decide +kernel
theorem dPC_formula_49 : decode cPC_formula 49 = .ok (.aload_n 0, 1) := by decide +kernel
theorem dPC_formula_50 : decode cPC_formula 50 = .ok (.getfield 16, 3) := by decide +kernel
theorem dPC_formula_53 : decode cPC_formula 53 = .ok (.invokevirtual 84, 3) := by decide +kernel
theorem dPC_formula_56 : decode cPC_formula 56 = .ok (.aload_n 0, 1) := by decide +kernel
theorem dPC_formula_57 : decode cPC_formula 57 = .ok (.iconst 0, 1) := by decide +kernel
theorem dPC_formula_58 : decode cPC_formula 58 = .ok (.putfield 67, 3) := by decide +kernel
theorem dPC_formula_61 : decode cPC_formula 61 = .ok (.aload_n 0, 1) := by decide +kernel
theorem dPC_formula_62 : decode cPC_formula 62 = .ok (.iconst 0, 1) := by decide +kernel
theorem dPC_formula_63 : decode cPC_formula 63 = .ok (.putfield 90, 3) := by decide +kernel
theorem dPC_formula_66 : decode cPC_formula 66 = .ok (.aload_n 0, 1) := by decide +kernel
theorem dPC_formula_67 : decode cPC_formula 67 = .ok (.getfield 61, 3) := by decide +kernel
theorem dPC_formula_70 : decode cPC_formula 70 = .ok (.getfield 94, 3) := by decide +kernel
theorem dPC_formula_73 : decode cPC_formula 73 = .ok (.ireturn, 1) := by decide +kernel
theorem dPC_normal_0 : decode cPC_normal 0 = .ok (.aload_n 0, 1) := by decide +kernel
theorem dPC_normal_1 : decode cPC_normal 1 = .ok (.getfield 61, 3) := by decide +kernel
theorem dPC_normal_4 : decode cPC_normal 4 = .ok (.invokevirtual 95, 3) := by decide +kernel
theorem dPC_normal_7 : decode cPC_normal 7 = .ok (.ifCond .eq 11, 3) := by decide +kernel
theorem dPC_normal_10 : decode cPC_normal 10 = .ok (.new 99, 3) := by decide +kernel
theorem dPC_normal_13 : decode cPC_normal 13 = .ok (.dup, 1) := by decide +kernel
theorem dPC_normal_14 : decode cPC_normal 14 = .ok (.invokespecial 101, 3) := by decide +kernel
theorem dPC_normal_17 : decode cPC_normal 17 = .ok (.athrow, 1) := by decide +kernel
theorem dPC_normal_18 : decode cPC_normal 18 = .ok (.iload_n 1, 1) := by decide +kernel
theorem dPC_normal_19 : decode cPC_normal 19 = .ok (.iconst (-1), 1) := by decide +kernel
theorem dPC_normal_20 : decode cPC_normal 20 = .ok (.if_icmp .ne 11, 3) := by decide +kernel
theorem dPC_normal_23 : decode cPC_normal 23 = .ok (.aload_n 0, 1) := by decide +kernel
theorem dPC_normal_24 : decode cPC_normal 24 = .ok (.getfield 61, 3) := by decide +kernel
theorem dPC_normal_27 : decode cPC_normal 27 = .ok (.getfield 102, 3) := by decide +kernel
theorem dPC_normal_30 : decode cPC_normal 30 = .ok (.ireturn, 1) := by decide +kernel
theorem dPC_normal_31 : decode cPC_normal 31 = .ok (.iload_n 1, 1) := by decide +kernel
theorem dPC_normal_32 : decode cPC_normal 32 = .ok (.ifCond .lt 26, 3) := by decide +kernel
theorem dPC_normal_35 : decode cPC_normal 35 = .ok (.iload_n 1, 1) := by decide +kernel
theorem dPC_normal_36 : decode cPC_normal 36 = .ok (.aload_n 0, 1) := by decide +kernel
theorem dPC_normal_37 : decode cPC_normal 37 = .ok (.getfield 61, 3) := by decide +kernel
theorem dPC_normal_40 : decode cPC_normal 40 = .ok (.getfield 102, 3) := by decide +kernel
theorem dPC_normal_43 : decode cPC_normal 43 = .ok (.if_icmp .ge 15, 3) := by decide +kernel
theorem dPC_normal_46 : decode cPC_normal 46 = .ok (.aload_n 0, 1) := by decide +kernel
theorem dPC_normal_47 : decode cPC_normal 47 = .ok (.getfield 61, 3) := by decide +kernel
theorem dPC_normal_50 : decode cPC_normal 50 = .ok (.getfield 105, 3) := by decide +kernel
theorem dPC_normal_53 : decode cPC_normal 53 = .ok (.iload_n 1, 1) := by decide +kernel
theorem dPC_normal_54 : decode cPC_normal 54 = .ok (.caload, 1) := by decide +kernel
theorem dPC_normal_55 : decode cPC_normal 55 = .ok (.goto 4, 3) := by decide +kernel
theorem dPC_normal_58 : decode cPC_normal 58 = .ok (.iconst (-1), 1) := by decide +kernel
theorem dPC_normal_59 : decode cPC_normal 59 = .ok (.ireturn, 1) := by decide +kernel
theorem dPC_mark_0 : decode cPC_mark 0 = .ok (.iload_n 1, 1) := by decide +kernel
theorem dPC_mark_1 : decode cPC_mark 1 = .ok (.invokestatic 108, 3) := by decide +kernel
theorem dPC_mark_4 : decode cPC_mark 4 = .ok (.ifCond .eq 13, 3) := by decide +kernel
theorem dPC_mark_7 : decode cPC_mark 7 = .ok (.iload_n 2, 1) := by decide +kernel
theorem dPC_mark_8 : decode cPC_mark 8 = .ok (.ifCond .lt 9, 3) := by decide +kernel
theorem dPC_mark_11 : decode cPC_mark 11 = .ok (.iload_n 2, 1) := by decide +kernel
theorem dPC_mark_12 : decode cPC_mark 12 = .ok (.bipush 15, 2) := by decide +kernel
theorem dPC_mark_14 : decode cPC_mark 14 = .ok (.if_icmp .le 5, 3) := by decide +kernel
theorem dPC_mark_17 : decode cPC_mark 17 = .ok (.iconst 0, 1) := by decide +kernel
theorem dPC_mark_18 : decode cPC_mark 18 = .ok (.ireturn, 1) := by decide +kernel
theorem dPC_mark_19 : decode cPC_mark 19 = .ok (.aload_n 0, 1) := by decide +kernel
theorem dPC_mark_20 : decode cPC_mark 20 = .ok (.getfield 66, 3) := by decide +kernel
theorem dPC_mark_23 : decode cPC_mark 23 = .ok (.getfield 112, 3) := by decide +kernel
theorem dPC_mark_26 : decode cPC_mark 26 = .ok (.iload_n 1, 1) := by decide +kernel
theorem dPC_mark_27 : decode cPC_mark 27 = .ok (.iload_n 2, 1) := by decide +kernel
theorem dPC_mark_28 : decode cPC_mark 28 = .ok (.iastore, 1) := by decide +kernel
theorem dPC_mark_29 : decode cPC_mark 29 = .ok (.aload_n 0, 1) := by decide +kernel
theorem dPC_mark_30 : decode cPC_mark 30 = .ok (.iconst 0, 1) := by decide +kernel
theorem dPC_mark_31 : decode cPC_mark 31 = .ok (.putfield 90, 3) := by decide +kernel
theorem dPC_mark_34 : decode cPC_mark 34 = .ok (.iconst 1, 1) := by decide +kernel
theorem dPC_mark_35 : decode cPC_mark 35 = .ok (.ireturn, 1) := by decide +kernel
theorem dPC_link_0 : decode cPC_link 0 = .ok (.iload_n 1, 1) := by decide +kernel
theorem dPC_link_1 : decode cPC_link 1 = .ok (.invokestatic 108, 3) := by decide +kernel
theorem dPC_link_4 : decode cPC_link 4 = .ok (.ifCond .eq 23, 3) := by decide +kernel
theorem dPC_link_7 : decode cPC_link 7 = .ok (.iload_n 2, 1) := by decide +kernel
theorem dPC_link_8 : decode cPC_link 8 = .ok (.invokestatic 108, 3) := by decide +kernel
theorem dPC_link_11 : decode cPC_link 11 = .ok (.ifCond .eq 16, 3) := by decide +kernel
theorem dPC_link_14 : decode cPC_link 14 = .ok (.aload_n 0, 1) := by decide +kernel
theorem dPC_link_15 : decode cPC_link 15 = .ok (.getfield 66, 3) := by decide +kernel
theorem dPC_link_18 : decode cPC_link 18 = .ok (.iload_n 1, 1) := by decide +kernel
theorem dPC_link_19 : decode cPC_link 19 = .ok (.iload_n 2, 1) := by decide +kernel
theorem dPC_link_20 : decode cPC_link 20 = .ok (.invokevirtual 118, 3) := by decide +kernel
theorem dPC_link_23 : decode cPC_link 23 = .ok (.iload_n 3, 1) := by decide +kernel
theorem dPC_link_24 : decode cPC_link 24 = .ok (.if_icmp .ne 5, 3) := by decide +kernel
theorem dPC_link_27 : decode cPC_link 27 = .ok (.iconst 0, 1) := by decide +kernel
theorem dPC_link_28 : decode cPC_link 28 = .ok (.ireturn, 1) := by decide +kernel
theorem dPC_link_29 : decode cPC_link 29 = .ok (.aload_n 0, 1) := by decide +kernel
theorem dPC_link_30 : decode cPC_link 30 = .ok (.getfield 66, 3) := by decide +kernel
theorem dPC_link_33 : decode cPC_link 33 = .ok (.getfield 122, 3) := by decide +kernel
theorem dPC_link_36 : decode cPC_link 36 = .ok (.iload_n 1, 1) := by decide +kernel
theorem dPC_link_37 : decode cPC_link 37 = .ok (.dup2, 1) := by decide +kernel
theorem dPC_link_38 : decode cPC_link 38 = .ok (.iaload, 1) := by decide +kernel
theorem dPC_link_39 : decode cPC_link 39 = .ok (.iconst 1, 1) := by decide +kernel
theorem dPC_link_40 : decode cPC_link 40 = .ok (.iload_n 2, 1) := by decide +kernel
theorem dPC_link_41 : decode cPC_link 41 = .ok (.ishl, 1) := by decide +kernel
theorem dPC_link_42 : decode cPC_link 42 = .ok (.ixor, 1) := by decide +kernel
theorem dPC_link_43 : decode cPC_link 43 = .ok (.iastore, 1) := by decide +kernel
theorem dPC_link_44 : decode cPC_link 44 = .ok (.aload_n 0, 1) := by decide +kernel
theorem dPC_link_45 : decode cPC_link 45 = .ok (.iconst 0, 1) := by decide +kernel
theorem dPC_link_46 : decode cPC_link 46 = .ok (.putfield 90, 3) := by decide +kernel
theorem dPC_link_49 : decode cPC_link 49 = .ok (.iconst 1, 1) := by decide +kernel
theorem dPC_link_50 : decode cPC_link 50 = .ok (.ireturn, 1) := by decide +kernel
theorem dPC_state_0 : decode cPC_state 0 = .ok (.iload_n 1, 1) := by decide +kernel
theorem dPC_state_1 : decode cPC_state 1 = .ok (.invokestatic 108, 3) := by decide +kernel
theorem dPC_state_4 : decode cPC_state 4 = .ok (.ifCond .ne 5, 3) := by decide +kernel
theorem dPC_state_7 : decode cPC_state 7 = .ok (.iconst (-1), 1) := by decide +kernel
theorem dPC_state_8 : decode cPC_state 8 = .ok (.ireturn, 1) := by decide +kernel
theorem dPC_state_9 : decode cPC_state 9 = .ok (.iload_n 2, 1) := by decide +kernel
theorem dPC_state_10 : decode cPC_state 10 = .ok (.iconst (-1), 1) := by decide +kernel
theorem dPC_state_11 : decode cPC_state 11 = .ok (.if_icmp .ne 13, 3) := by decide +kernel
theorem dPC_state_14 : decode cPC_state 14 = .ok (.aload_n 0, 1) := by decide +kernel
theorem dPC_state_15 : decode cPC_state 15 = .ok (.getfield 66, 3) := by decide +kernel
theorem dPC_state_18 : decode cPC_state 18 = .ok (.getfield 112, 3) := by decide +kernel
theorem dPC_state_21 : decode cPC_state 21 = .ok (.iload_n 1, 1) := by decide +kernel
theorem dPC_state_22 : decode cPC_state 22 = .ok (.iaload, 1) := by decide +kernel
theorem dPC_state_23 : decode cPC_state 23 = .ok (.ireturn, 1) := by decide +kernel
theorem dPC_state_24 : decode cPC_state 24 = .ok (.iload_n 2, 1) := by decide +kernel
theorem dPC_state_25 : decode cPC_state 25 = .ok (.invokestatic 108, 3) := by decide +kernel
theorem dPC_state_28 : decode cPC_state 28 = .ok (.ifCond .ne 5, 3) := by decide +kernel
theorem dPC_state_31 : decode cPC_state 31 = .ok (.iconst (-1), 1) := by decide +kernel
theorem dPC_state_32 : decode cPC_state 32 = .ok (.ireturn, 1) := by decide +kernel
theorem dPC_state_33 : decode cPC_state 33 = .ok (.aload_n 0, 1) := by decide +kernel
theorem dPC_state_34 : decode cPC_state 34 = .ok (.getfield 66, 3) := by decide +kernel
theorem dPC_state_37 : decode cPC_state 37 = .ok (.iload_n 1, 1) := by decide +kernel
theorem dPC_state_38 : decode cPC_state 38 = .ok (.iload_n 2, 1) := by decide +kernel
theorem dPC_state_39 : decode cPC_state 39 = .ok (.invokevirtual 118, 3) := by decide +kernel
theorem dPC_state_42 : decode cPC_state 42 = .ok (.ifCond .eq 7, 3) := by decide +kernel
theorem dPC_state_45 : decode cPC_state 45 = .ok (.iconst 1, 1) := by decide +kernel
theorem dPC_state_46 : decode cPC_state 46 = .ok (.goto 4, 3) := by decide +kernel
theorem dPC_state_49 : decode cPC_state 49 = .ok (.iconst 0, 1) := by decide +kernel
theorem dPC_state_50 : decode cPC_state 50 = .ok (.ireturn, 1) := by decide +kernel
theorem dPC_endless_0 : decode cPC_endless 0 = .ok (.iload_n 1, 1) := by decide +kernel
theorem dPC_endless_1 : decode cPC_endless 1 = .ok (.invokestatic 108, 3) := by decide +kernel
theorem dPC_endless_4 : decode cPC_endless 4 = .ok (.ifCond .eq 22, 3) := by decide +kernel
theorem dPC_endless_7 : decode cPC_endless 7 = .ok (.aload_n 0, 1) := by decide +kernel
theorem dPC_endless_8 : decode cPC_endless 8 = .ok (.getfield 66, 3) := by decide +kernel
theorem dPC_endless_11 : decode cPC_endless 11 = .ok (.invokevirtual 125, 3) := by decide +kernel
theorem dPC_endless_14 : decode cPC_endless 14 = .ok (.iload_n 1, 1) := by decide +kernel
theorem dPC_endless_15 : decode cPC_endless 15 = .ok (.iushr, 1) := by decide +kernel
theorem dPC_endless_16 : decode cPC_endless 16 = .ok (.iconst 1, 1) := by decide +kernel
theorem dPC_endless_17 : decode cPC_endless 17 = .ok (.iand, 1) := by decide +kernel
theorem dPC_endless_18 : decode cPC_endless 18 = .ok (.iconst 1, 1) := by decide +kernel
theorem dPC_endless_19 : decode cPC_endless 19 = .ok (.if_icmp .ne 7, 3) := by decide +kernel
theorem dPC_endless_22 : decode cPC_endless 22 = .ok (.iconst 1, 1) := by decide +kernel
theorem dPC_endless_23 : decode cPC_endless 23 = .ok (.goto 4, 3) := by decide +kernel
theorem dPC_endless_26 : decode cPC_endless 26 = .ok (.iconst 0, 1) := by decide +kernel
theorem dPC_endless_27 : decode cPC_endless 27 = .ok (.ireturn, 1) := by decide +kernel
theorem dPC_keeps_0 : decode cPC_keeps 0 = .ok (.aload_n 0, 1) := by decide +kernel
theorem dPC_keeps_1 : decode cPC_keeps 1 = .ok (.getfield 61, 3) := by decide +kernel
theorem dPC_keeps_4 : decode cPC_keeps 4 = .ok (.invokevirtual 95, 3) := by decide +kernel
theorem dPC_keeps_7 : decode cPC_keeps 7 = .ok (.ifCond .eq 11, 3) := by decide +kernel
theorem dPC_keeps_10 : decode cPC_keeps 10 = .ok (.new 99, 3) := by decide +kernel
theorem dPC_keeps_13 : decode cPC_keeps 13 = .ok (.dup, 1) := by decide +kernel
theorem dPC_keeps_14 : decode cPC_keeps 14 = .ok (.invokespecial 101, 3) := by decide +kernel
theorem dPC_keeps_17 : decode cPC_keeps 17 = .ok (.athrow, 1) := by decide +kernel
theorem dPC_keeps_18 : decode cPC_keeps 18 = .ok (.iload_n 1, 1) := by decide +kernel
theorem dPC_keeps_19 : decode cPC_keeps 19 = .ok (.invokestatic 108, 3) := by decide +kernel
theorem dPC_keeps_22 : decode cPC_keeps 22 = .ok (.ifCond .ne 11, 3) := by decide +kernel
theorem dPC_keeps_25 : decode cPC_keeps 25 = .ok (.new 129, 3) := by decide +kernel
theorem dPC_keeps_28 : decode cPC_keeps 28 = .ok (.dup, 1) := by decide +kernel
theorem dPC_keeps_29 : decode cPC_keeps 29 = .ok (.invokespecial 131, 3) := by decide +kernel
theorem dPC_keeps_32 : decode cPC_keeps 32 = .ok (.athrow, 1) := by decide +kernel
theorem dPC_keeps_33 : decode cPC_keeps 33 = .ok (.aload_n 0, 1) := by decide +kernel
theorem dPC_keeps_34 : decode cPC_keeps 34 = .ok (.invokevirtual 132, 3) := by decide +kernel
theorem dPC_keeps_37 : decode cPC_keeps 37 = .ok (.aload_n 0, 1) := by decide +kernel
theorem dPC_keeps_38 : decode cPC_keeps 38 = .ok (.getfield 40, 3) := by decide +kernel
theorem dPC_keeps_41 : decode cPC_keeps 41 = .ok (.iconst 0, 1) := by decide +kernel
theorem dPC_keeps_42 : decode cPC_keeps 42 = .ok (.invokevirtual 135, 3) := by decide +kernel
theorem dPC_keeps_45 : decode cPC_keeps 45 = .ok (.iload_n 1, 1) := by decide +kernel
theorem dPC_keeps_46 : decode cPC_keeps 46 = .ok (.iushr, 1) := by decide +kernel
theorem dPC_keeps_47 : decode cPC_keeps 47 = .ok (.iconst 1, 1) := by decide +kernel
theorem dPC_keeps_48 : decode cPC_keeps 48 = .ok (.iand, 1) := by decide +kernel
theorem dPC_keeps_49 : decode cPC_keeps 49 = .ok (.ifCond .ne 7, 3) := by decide +kernel
theorem dPC_keeps_52 : decode cPC_keeps 52 = .ok (.iconst 1, 1) := by decide +kernel
theorem dPC_keeps_53 : decode cPC_keeps 53 = .ok (.goto 4, 3) := by decide +kernel
theorem dPC_keeps_56 : decode cPC_keeps 56 = .ok (.iconst 0, 1) := by decide +kernel
theorem dPC_keeps_57 : decode cPC_keeps 57 = .ok (.ireturn, 1) := by decide +kernel
theorem dPC_breaking_0 : decode cPC_breaking 0 = .ok (.aload_n 0, 1) := by decide +kernel
theorem dPC_breaking_1 : decode cPC_breaking 1 = .ok (.getfield 61, 3) := by decide +kernel
theorem dPC_breaking_4 : decode cPC_breaking 4 = .ok (.invokevirtual 95, 3) := by decide +kernel
theorem dPC_breaking_7 : decode cPC_breaking 7 = .ok (.ifCond .eq 11, 3) := by decide +kernel
theorem dPC_breaking_10 : decode cPC_breaking 10 = .ok (.new 99, 3) := by decide +kernel
theorem dPC_breaking_13 : decode cPC_breaking 13 = .ok (.dup, 1) := by decide +kernel
theorem dPC_breaking_14 : decode cPC_breaking 14 = .ok (.invokespecial 101, 3) := by decide +kernel
theorem dPC_breaking_17 : decode cPC_breaking 17 = .ok (.athrow, 1) := by decide +kernel
theorem dPC_breaking_18 : decode cPC_breaking 18 = .ok (.aload_n 0, 1) := by decide +kernel
theorem dPC_breaking_19 : decode cPC_breaking 19 = .ok (.invokevirtual 132, 3) := by decide +kernel
theorem dPC_breaking_22 : decode cPC_breaking 22 = .ok (.aload_n 0, 1) := by decide +kernel
theorem dPC_breaking_23 : decode cPC_breaking 23 = .ok (.getfield 40, 3) := by decide +kernel
theorem dPC_breaking_26 : decode cPC_breaking 26 = .ok (.iconst 0, 1) := by decide +kernel
theorem dPC_breaking_27 : decode cPC_breaking 27 = .ok (.invokevirtual 135, 3) := by decide +kernel
theorem dPC_breaking_30 : decode cPC_breaking 30 = .ok (.ireturn, 1) := by decide +kernel
theorem dPC_keeping_0 : decode cPC_keeping 0 = .ok (.aload_n 0, 1) := by decide +kernel
theorem dPC_keeping_1 : decode cPC_keeping 1 = .ok (.getfield 61, 3) := by decide +kernel
theorem dPC_keeping_4 : decode cPC_keeping 4 = .ok (.invokevirtual 95, 3) := by decide +kernel
theorem dPC_keeping_7 : decode cPC_keeping 7 = .ok (.ifCond .eq 11, 3) := by decide +kernel
theorem dPC_keeping_10 : decode cPC_keeping 10 = .ok (.new 99, 3) := by decide +kernel
theorem dPC_keeping_13 : decode cPC_keeping 13 = .ok (.dup, 1) := by decide +kernel
theorem dPC_keeping_14 : decode cPC_keeping 14 = .ok (.invokespecial 101, 3) := by decide +kernel
theorem dPC_keeping_17 : decode cPC_keeping 17 = .ok (.athrow, 1) := by decide +kernel
theorem dPC_keeping_18 : decode cPC_keeping 18 = .ok (.aload_n 0, 1) := by decide +kernel
theorem dPC_keeping_19 : decode cPC_keeping 19 = .ok (.invokevirtual 132, 3) := by decide +kernel
theorem dPC_keeping_22 : decode cPC_keeping 22 = .ok (.aload_n 0, 1) := by decide +kernel
theorem dPC_keeping_23 : decode cPC_keeping 23 = .ok (.getfield 40, 3) := by decide +kernel
theorem dPC_keeping_26 : decode cPC_keeping 26 = .ok (.iconst 1, 1) := by decide +kernel
theorem dPC_keeping_27 : decode cPC_keeping 27 = .ok (.invokevirtual 135, 3) := by decide +kernel
theorem dPC_keeping_30 : decode cPC_keeping 30 = .ok (.ireturn, 1) := by decide +kernel
theorem dPC_witness_0 : decode cPC_witness 0 = .ok (.aload_n 0, 1) := by decide +kernel
theorem dPC_witness_1 : decode cPC_witness 1 = .ok (.getfield 61, 3) := by decide +kernel
theorem dPC_witness_4 : decode cPC_witness 4 = .ok (.invokevirtual 95, 3) := by decide +kernel
theorem dPC_witness_7 : decode cPC_witness 7 = .ok (.ifCond .eq 11, 3) := by decide +kernel
theorem dPC_witness_10 : decode cPC_witness 10 = .ok (.new 99, 3) := by decide +kernel
theorem dPC_witness_13 : decode cPC_witness 13 = .ok (.dup, 1) := by decide +kernel
theorem dPC_witness_14 : decode cPC_witness 14 = .ok (.invokespecial 101, 3) := by decide +kernel
theorem dPC_witness_17 : decode cPC_witness 17 = .ok (.athrow, 1) := by decide +kernel
theorem dPC_witness_18 : decode cPC_witness 18 = .ok (.iload_n 1, 1) := by decide +kernel
theorem dPC_witness_19 : decode cPC_witness 19 = .ok (.invokestatic 108, 3) := by decide +kernel
theorem dPC_witness_22 : decode cPC_witness 22 = .ok (.ifCond .ne 5, 3) := by decide +kernel
theorem dPC_witness_25 : decode cPC_witness 25 = .ok (.iconst (-1), 1) := by decide +kernel
theorem dPC_witness_26 : decode cPC_witness 26 = .ok (.ireturn, 1) := by decide +kernel
theorem dPC_witness_27 : decode cPC_witness 27 = .ok (.aload_n 0, 1) := by decide +kernel
theorem dPC_witness_28 : decode cPC_witness 28 = .ok (.invokevirtual 132, 3) := by decide +kernel
theorem dPC_witness_31 : decode cPC_witness 31 = .ok (.aload_n 0, 1) := by decide +kernel
theorem dPC_witness_32 : decode cPC_witness 32 = .ok (.getfield 32, 3) := by decide +kernel
theorem dPC_witness_35 : decode cPC_witness 35 = .ok (.iload_n 1, 1) := by decide +kernel
theorem dPC_witness_36 : decode cPC_witness 36 = .ok (.invokevirtual 138, 3) := by decide +kernel
theorem dPC_witness_39 : decode cPC_witness 39 = .ok (.aload_n 0, 1) := by decide +kernel
theorem dPC_witness_40 : decode cPC_witness 40 = .ok (.getfield 32, 3) := by decide +kernel
theorem dPC_witness_43 : decode cPC_witness 43 = .ok (.getfield 141, 3) := by decide +kernel
theorem dPC_witness_46 : decode cPC_witness 46 = .ok (.iconst (-1), 1) := by decide +kernel
theorem dPC_witness_47 : decode cPC_witness 47 = .ok (.if_icmp .ne 5, 3) := by decide +kernel
theorem dPC_witness_50 : decode cPC_witness 50 = .ok (.iconst (-1), 1) := by decide +kernel
theorem dPC_witness_51 : decode cPC_witness 51 = .ok (.ireturn, 1) := by decide +kernel
theorem dPC_witness_52 : decode cPC_witness 52 = .ok (.iload_n 2, 1) := by decide +kernel
theorem dPC_witness_53 : decode cPC_witness 53 = .ok (.iconst (-1), 1) := by decide +kernel
theorem dPC_witness_54 : decode cPC_witness 54 = .ok (.if_icmp .ne 14, 3) := by decide +kernel
theorem dPC_witness_57 : decode cPC_witness 57 = .ok (.aload_n 0, 1) := by decide +kernel
theorem dPC_witness_58 : decode cPC_witness 58 = .ok (.getfield 32, 3) := by decide +kernel
theorem dPC_witness_61 : decode cPC_witness 61 = .ok (.getfield 144, 3) := by decide +kernel
theorem dPC_witness_64 : decode cPC_witness 64 = .ok (.getfield 147, 3) := by decide +kernel
theorem dPC_witness_67 : decode cPC_witness 67 = .ok (.ireturn, 1) := by decide +kernel
theorem dPC_witness_68 : decode cPC_witness 68 = .ok (.iload_n 2, 1) := by decide +kernel
theorem dPC_witness_69 : decode cPC_witness 69 = .ok (.bipush (-2), 2) := by decide +kernel
theorem dPC_witness_71 : decode cPC_witness 71 = .ok (.if_icmp .ne 11, 3) := by decide +kernel
theorem dPC_witness_74 : decode cPC_witness 74 = .ok (.aload_n 0, 1) := by decide +kernel
theorem dPC_witness_75 : decode cPC_witness 75 = .ok (.getfield 32, 3) := by decide +kernel
theorem dPC_witness_78 : decode cPC_witness 78 = .ok (.getfield 141, 3) := by decide +kernel
theorem dPC_witness_81 : decode cPC_witness 81 = .ok (.ireturn, 1) := by decide +kernel
theorem dPC_witness_82 : decode cPC_witness 82 = .ok (.aload_n 0, 1) := by decide +kernel
theorem dPC_witness_83 : decode cPC_witness 83 = .ok (.getfield 32, 3) := by decide +kernel
theorem dPC_witness_86 : decode cPC_witness 86 = .ok (.getfield 144, 3) := by decide +kernel
theorem dPC_witness_89 : decode cPC_witness 89 = .ok (.iload_n 2, 1) := by decide +kernel
theorem dPC_witness_90 : decode cPC_witness 90 = .ok (.invokevirtual 150, 3) := by decide +kernel
theorem dPC_witness_93 : decode cPC_witness 93 = .ok (.ifCond .eq 18, 3) := by decide +kernel
theorem dPC_witness_96 : decode cPC_witness 96 = .ok (.aload_n 0, 1) := by decide +kernel
theorem dPC_witness_97 : decode cPC_witness 97 = .ok (.getfield 32, 3) := by decide +kernel
theorem dPC_witness_100 : decode cPC_witness 100 = .ok (.getfield 144, 3) := by decide +kernel
theorem dPC_witness_103 : decode cPC_witness 103 = .ok (.getfield 153, 3) := by decide +kernel
theorem dPC_witness_106 : decode cPC_witness 106 = .ok (.iload_n 2, 1) := by decide +kernel
theorem dPC_witness_107 : decode cPC_witness 107 = .ok (.iaload, 1) := by decide +kernel
theorem dPC_witness_108 : decode cPC_witness 108 = .ok (.goto 4, 3) := by decide +kernel
theorem dPC_witness_111 : decode cPC_witness 111 = .ok (.iconst (-1), 1) := by decide +kernel
theorem dPC_witness_112 : decode cPC_witness 112 = .ok (.ireturn, 1) := by decide +kernel
theorem dPC_go_0 : decode cPC_go 0 = .ok (.iload_n 1, 1) := by decide +kernel
theorem dPC_go_1 : decode cPC_go 1 = .ok (.invokestatic 108, 3) := by decide +kernel
theorem dPC_go_4 : decode cPC_go 4 = .ok (.ifCond .eq 15, 3) := by decide +kernel
theorem dPC_go_7 : decode cPC_go 7 = .ok (.aload_n 0, 1) := by decide +kernel
theorem dPC_go_8 : decode cPC_go 8 = .ok (.getfield 25, 3) := by decide +kernel
theorem dPC_go_11 : decode cPC_go 11 = .ok (.getfield 147, 3) := by decide +kernel
theorem dPC_go_14 : decode cPC_go 14 = .ok (.bipush 8, 2) := by decide +kernel
theorem dPC_go_16 : decode cPC_go 16 = .ok (.if_icmp .lt 5, 3) := by decide +kernel
theorem dPC_go_19 : decode cPC_go 19 = .ok (.iconst (-1), 1) := by decide +kernel
theorem dPC_go_20 : decode cPC_go 20 = .ok (.ireturn, 1) := by decide +kernel
theorem dPC_go_21 : decode cPC_go 21 = .ok (.aload_n 0, 1) := by decide +kernel
theorem dPC_go_22 : decode cPC_go 22 = .ok (.getfield 25, 3) := by decide +kernel
theorem dPC_go_25 : decode cPC_go 25 = .ok (.getfield 153, 3) := by decide +kernel
theorem dPC_go_28 : decode cPC_go 28 = .ok (.aload_n 0, 1) := by decide +kernel
theorem dPC_go_29 : decode cPC_go 29 = .ok (.getfield 25, 3) := by decide +kernel
theorem dPC_go_32 : decode cPC_go 32 = .ok (.getfield 147, 3) := by decide +kernel
theorem dPC_go_35 : decode cPC_go 35 = .ok (.iload_n 1, 1) := by decide +kernel
theorem dPC_go_36 : decode cPC_go 36 = .ok (.iastore, 1) := by decide +kernel
theorem dPC_go_37 : decode cPC_go 37 = .ok (.aload_n 0, 1) := by decide +kernel
theorem dPC_go_38 : decode cPC_go 38 = .ok (.getfield 25, 3) := by decide +kernel
theorem dPC_go_41 : decode cPC_go 41 = .ok (.dup, 1) := by decide +kernel
theorem dPC_go_42 : decode cPC_go 42 = .ok (.getfield 147, 3) := by decide +kernel
theorem dPC_go_45 : decode cPC_go 45 = .ok (.iconst 1, 1) := by decide +kernel
theorem dPC_go_46 : decode cPC_go 46 = .ok (.iadd, 1) := by decide +kernel
theorem dPC_go_47 : decode cPC_go 47 = .ok (.putfield 147, 3) := by decide +kernel
theorem dPC_go_50 : decode cPC_go 50 = .ok (.aload_n 0, 1) := by decide +kernel
theorem dPC_go_51 : decode cPC_go 51 = .ok (.getfield 25, 3) := by decide +kernel
theorem dPC_go_54 : decode cPC_go 54 = .ok (.getfield 147, 3) := by decide +kernel
theorem dPC_go_57 : decode cPC_go 57 = .ok (.ireturn, 1) := by decide +kernel
theorem dPC_clear_0 : decode cPC_clear 0 = .ok (.aload_n 0, 1) := by decide +kernel
theorem dPC_clear_1 : decode cPC_clear 1 = .ok (.getfield 25, 3) := by decide +kernel
theorem dPC_clear_4 : decode cPC_clear 4 = .ok (.iconst 0, 1) := by decide +kernel
theorem dPC_clear_5 : decode cPC_clear 5 = .ok (.putfield 147, 3) := by decide +kernel
theorem dPC_clear_8 : decode cPC_clear 8 = .ok (.return_, 1) := by decide +kernel
theorem dPC_judge_0 : decode cPC_judge 0 = .ok (.aload_n 0, 1) := by decide +kernel
theorem dPC_judge_1 : decode cPC_judge 1 = .ok (.getfield 61, 3) := by decide +kernel
theorem dPC_judge_4 : decode cPC_judge 4 = .ok (.invokevirtual 95, 3) := by decide +kernel
theorem dPC_judge_7 : decode cPC_judge 7 = .ok (.ifCond .ne 13, 3) := by decide +kernel
theorem dPC_judge_10 : decode cPC_judge 10 = .ok (.aload_n 0, 1) := by decide +kernel
theorem dPC_judge_11 : decode cPC_judge 11 = .ok (.getfield 25, 3) := by decide +kernel
theorem dPC_judge_14 : decode cPC_judge 14 = .ok (.getfield 147, 3) := by decide +kernel
theorem dPC_judge_17 : decode cPC_judge 17 = .ok (.ifCond .ne 11, 3) := by decide +kernel
theorem dPC_judge_20 : decode cPC_judge 20 = .ok (.new 99, 3) := by decide +kernel
theorem dPC_judge_23 : decode cPC_judge 23 = .ok (.dup, 1) := by decide +kernel
theorem dPC_judge_24 : decode cPC_judge 24 = .ok (.invokespecial 101, 3) := by decide +kernel
theorem dPC_judge_27 : decode cPC_judge 27 = .ok (.athrow, 1) := by decide +kernel
theorem dPC_judge_28 : decode cPC_judge 28 = .ok (.aload_n 0, 1) := by decide +kernel
theorem dPC_judge_29 : decode cPC_judge 29 = .ok (.getfield 25, 3) := by decide +kernel
theorem dPC_judge_32 : decode cPC_judge 32 = .ok (.iload_n 2, 1) := by decide +kernel
theorem dPC_judge_33 : decode cPC_judge 33 = .ok (.invokevirtual 150, 3) := by decide +kernel
theorem dPC_judge_36 : decode cPC_judge 36 = .ok (.ifCond .eq 14, 3) := by decide +kernel
theorem dPC_judge_39 : decode cPC_judge 39 = .ok (.aload_n 0, 1) := by decide +kernel
theorem dPC_judge_40 : decode cPC_judge 40 = .ok (.getfield 25, 3) := by decide +kernel
theorem dPC_judge_43 : decode cPC_judge 43 = .ok (.iload_n 1, 1) := by decide +kernel
theorem dPC_judge_44 : decode cPC_judge 44 = .ok (.invokevirtual 150, 3) := by decide +kernel
theorem dPC_judge_47 : decode cPC_judge 47 = .ok (.ifCond .ne 11, 3) := by decide +kernel
theorem dPC_judge_50 : decode cPC_judge 50 = .ok (.new 129, 3) := by decide +kernel
theorem dPC_judge_53 : decode cPC_judge 53 = .ok (.dup, 1) := by decide +kernel
theorem dPC_judge_54 : decode cPC_judge 54 = .ok (.invokespecial 131, 3) := by decide +kernel
theorem dPC_judge_57 : decode cPC_judge 57 = .ok (.athrow, 1) := by decide +kernel
theorem dPC_judge_58 : decode cPC_judge 58 = .ok (.aload_n 0, 1) := by decide +kernel
theorem dPC_judge_59 : decode cPC_judge 59 = .ok (.getfield 25, 3) := by decide +kernel
theorem dPC_judge_62 : decode cPC_judge 62 = .ok (.aload_n 0, 1) := by decide +kernel
theorem dPC_judge_63 : decode cPC_judge 63 = .ok (.getfield 66, 3) := by decide +kernel
theorem dPC_judge_66 : decode cPC_judge 66 = .ok (.iload_n 1, 1) := by decide +kernel
theorem dPC_judge_67 : decode cPC_judge 67 = .ok (.invokevirtual 156, 3) := by decide +kernel
theorem dPC_judge_70 : decode cPC_judge 70 = .ok (.ifCond .ne 11, 3) := by decide +kernel
theorem dPC_judge_73 : decode cPC_judge 73 = .ok (.new 81, 3) := by decide +kernel
theorem dPC_judge_76 : decode cPC_judge 76 = .ok (.dup, 1) := by decide +kernel
theorem dPC_judge_77 : decode cPC_judge 77 = .ok (.invokespecial 83, 3) := by decide +kernel
theorem dPC_judge_80 : decode cPC_judge 80 = .ok (.athrow, 1) := by decide +kernel
theorem dPC_judge_81 : decode cPC_judge 81 = .ok (.aload_n 0, 1) := by decide +kernel
theorem dPC_judge_82 : decode cPC_judge 82 = .ok (.getfield 25, 3) := by decide +kernel
theorem dPC_judge_85 : decode cPC_judge 85 = .ok (.aload_n 0, 1) := by decide +kernel
theorem dPC_judge_86 : decode cPC_judge 86 = .ok (.getfield 61, 3) := by decide +kernel
theorem dPC_judge_89 : decode cPC_judge 89 = .ok (.aload_n 0, 1) := by decide +kernel
theorem dPC_judge_90 : decode cPC_judge 90 = .ok (.getfield 66, 3) := by decide +kernel
theorem dPC_judge_93 : decode cPC_judge 93 = .ok (.iload_n 1, 1) := by decide +kernel
theorem dPC_judge_94 : decode cPC_judge 94 = .ok (.invokevirtual 160, 3) := by decide +kernel
theorem dPC_judge_97 : decode cPC_judge 97 = .ok (.iload_n 2, 1) := by decide +kernel
theorem dPC_judge_98 : decode cPC_judge 98 = .ok (.iushr, 1) := by decide +kernel
theorem dPC_judge_99 : decode cPC_judge 99 = .ok (.iconst 1, 1) := by decide +kernel
theorem dPC_judge_100 : decode cPC_judge 100 = .ok (.iand, 1) := by decide +kernel
theorem dPC_judge_101 : decode cPC_judge 101 = .ok (.iconst 1, 1) := by decide +kernel
theorem dPC_judge_102 : decode cPC_judge 102 = .ok (.if_icmp .ne 7, 3) := by decide +kernel
theorem dPC_judge_105 : decode cPC_judge 105 = .ok (.iconst 1, 1) := by decide +kernel
theorem dPC_judge_106 : decode cPC_judge 106 = .ok (.goto 4, 3) := by decide +kernel
theorem dPC_judge_109 : decode cPC_judge 109 = .ok (.iconst 0, 1) := by decide +kernel
theorem dPC_judge_110 : decode cPC_judge 110 = .ok (.ireturn, 1) := by decide +kernel
theorem dPC_isState_0 : decode cPC_isState 0 = .ok (.iload_n 0, 1) := by decide +kernel
theorem dPC_isState_1 : decode cPC_isState 1 = .ok (.ifCond .lt 13, 3) := by decide +kernel
theorem dPC_isState_4 : decode cPC_isState 4 = .ok (.iload_n 0, 1) := by decide +kernel
theorem dPC_isState_5 : decode cPC_isState 5 = .ok (.bipush 6, 2) := by decide +kernel
theorem dPC_isState_7 : decode cPC_isState 7 = .ok (.if_icmp .ge 7, 3) := by decide +kernel
theorem dPC_isState_10 : decode cPC_isState 10 = .ok (.iconst 1, 1) := by decide +kernel
theorem dPC_isState_11 : decode cPC_isState 11 = .ok (.goto 4, 3) := by decide +kernel
theorem dPC_isState_14 : decode cPC_isState 14 = .ok (.iconst 0, 1) := by decide +kernel
theorem dPC_isState_15 : decode cPC_isState 15 = .ok (.ireturn, 1) := by decide +kernel
theorem dPC_bringUpToDate_0 : decode cPC_bringUpToDate 0 = .ok (.aload_n 0, 1) := by decide +kernel
theorem dPC_bringUpToDate_1 : decode cPC_bringUpToDate 1 = .ok (.getfield 90, 3) := by decide +kernel
theorem dPC_bringUpToDate_4 : decode cPC_bringUpToDate 4 = .ok (.ifCond .ne 36, 3) := by decide +kernel
theorem dPC_bringUpToDate_7 : decode cPC_bringUpToDate 7 = .ok (.aload_n 0, 1) := by decide +kernel
theorem dPC_bringUpToDate_8 : decode cPC_bringUpToDate 8 = .ok (.getfield 54, 3) := by decide +kernel
theorem dPC_bringUpToDate_11 : decode cPC_bringUpToDate 11 = .ok (.invokevirtual 164, 3) := by decide +kernel
theorem dPC_bringUpToDate_14 : decode cPC_bringUpToDate 14 = .ok (.aload_n 0, 1) := by decide +kernel
theorem dPC_bringUpToDate_15 : decode cPC_bringUpToDate 15 = .ok (.getfield 47, 3) := by decide +kernel
theorem dPC_bringUpToDate_18 : decode cPC_bringUpToDate 18 = .ok (.invokevirtual 167, 3) := by decide +kernel
theorem dPC_bringUpToDate_21 : decode cPC_bringUpToDate 21 = .ok (.aload_n 0, 1) := by decide +kernel
theorem dPC_bringUpToDate_22 : decode cPC_bringUpToDate 22 = .ok (.getfield 40, 3) := by decide +kernel
theorem dPC_bringUpToDate_25 : decode cPC_bringUpToDate 25 = .ok (.invokevirtual 170, 3) := by decide +kernel
theorem dPC_bringUpToDate_28 : decode cPC_bringUpToDate 28 = .ok (.aload_n 0, 1) := by decide +kernel
theorem dPC_bringUpToDate_29 : decode cPC_bringUpToDate 29 = .ok (.getfield 32, 3) := by decide +kernel
theorem dPC_bringUpToDate_32 : decode cPC_bringUpToDate 32 = .ok (.invokevirtual 173, 3) := by decide +kernel
theorem dPC_bringUpToDate_35 : decode cPC_bringUpToDate 35 = .ok (.aload_n 0, 1) := by decide +kernel
theorem dPC_bringUpToDate_36 : decode cPC_bringUpToDate 36 = .ok (.iconst 1, 1) := by decide +kernel
theorem dPC_bringUpToDate_37 : decode cPC_bringUpToDate 37 = .ok (.putfield 90, 3) := by decide +kernel
theorem dPC_bringUpToDate_40 : decode cPC_bringUpToDate 40 = .ok (.return_, 1) := by decide +kernel

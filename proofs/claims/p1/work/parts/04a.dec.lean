theorem dL_infer_0 : decode cL_infer 0 = .ok (.aload_n 1, 1) := by decide +kernel
theorem dL_infer_1 : decode cL_infer 1 = .ok (.iconst 0, 1) := by decide +kernel
theorem dL_infer_2 : decode cL_infer 2 = .ok (.aload_n 0, 1) := by decide +kernel
theorem dL_infer_3 : decode cL_infer 3 = .ok (.invokevirtual 19, 3) := by decide +kernel
theorem dL_infer_11 : decode cL_infer 11 = .ok (.astore_n 2, 1) := by decide +kernel
theorem dL_infer_12 : decode cL_infer 12 = .ok (.iconst 1, 1) := by decide +kernel
theorem dL_infer_13 : decode cL_infer 13 = .ok (.ireturn, 1) := by decide +kernel
theorem dL_outAt_0 : decode cL_outAt 0 = .ok (.aload_n 2, 1) := by decide +kernel
theorem dL_outAt_1 : decode cL_outAt 1 = .ok (.iconst 0, 1) := by decide +kernel
theorem dL_outAt_2 : decode cL_outAt 2 = .ok (.aload_n 0, 1) := by decide +kernel
theorem dL_outAt_3 : decode cL_outAt 3 = .ok (.iload_n 1, 1) := by decide +kernel
theorem dL_outAt_4 : decode cL_outAt 4 = .ok (.invokevirtual 31, 3) := by decide +kernel
theorem dL_outAt_12 : decode cL_outAt 12 = .ok (.astore_n 3, 1) := by decide +kernel
theorem dL_outAt_13 : decode cL_outAt 13 = .ok (.iconst 1, 1) := by decide +kernel
theorem dL_outAt_14 : decode cL_outAt 14 = .ok (.ireturn, 1) := by decide +kernel
theorem dL_parse_0 : decode cL_parse 0 = .ok (.aload_n 1, 1) := by decide +kernel
theorem dL_parse_1 : decode cL_parse 1 = .ok (.iconst 0, 1) := by decide +kernel
theorem dL_parse_2 : decode cL_parse 2 = .ok (.aload_n 0, 1) := by decide +kernel
theorem dL_parse_3 : decode cL_parse 3 = .ok (.invokevirtual 15, 3) := by decide +kernel
theorem dL_parse_6 : decode cL_parse 6 = .ok (.i2l, 1) := by decide +kernel
theorem dL_parse_7 : decode cL_parse 7 = .ok (.lastore, 1) := by decide +kernel
theorem dL_parse_8 : decode cL_parse 8 = .ok (.goto 6, 3) := by decide +kernel
theorem dL_parse_14 : decode cL_parse 14 = .ok (.iconst 0, 1) := by decide +kernel
theorem dL_parse_15 : decode cL_parse 15 = .ok (.ireturn, 1) := by decide +kernel
theorem dL_run_0 : decode cL_run 0 = .ok (.aload_n 2, 1) := by decide +kernel
theorem dL_run_1 : decode cL_run 1 = .ok (.iconst 0, 1) := by decide +kernel
theorem dL_run_2 : decode cL_run 2 = .ok (.aload_n 0, 1) := by decide +kernel
theorem dL_run_3 : decode cL_run 3 = .ok (.iload_n 1, 1) := by decide +kernel
theorem dL_run_4 : decode cL_run 4 = .ok (.invokevirtual 22, 3) := by decide +kernel
theorem dL_run_12 : decode cL_run 12 = .ok (.astore_n 3, 1) := by decide +kernel
theorem dL_run_13 : decode cL_run 13 = .ok (.iconst 1, 1) := by decide +kernel
theorem dL_run_14 : decode cL_run 14 = .ok (.ireturn, 1) := by decide +kernel
theorem dL_token_0 : decode cL_token 0 = .ok (.aload_n 2, 1) := by decide +kernel
theorem dL_token_1 : decode cL_token 1 = .ok (.iconst 0, 1) := by decide +kernel
theorem dL_token_2 : decode cL_token 2 = .ok (.aload_n 0, 1) := by decide +kernel
theorem dL_token_3 : decode cL_token 3 = .ok (.iload_n 1, 1) := by decide +kernel
theorem dL_token_4 : decode cL_token 4 = .ok (.invokevirtual 7, 3) := by decide +kernel
theorem dL_token_7 : decode cL_token 7 = .ok (.ifCond .eq 7, 3) := by decide +kernel
theorem dL_token_10 : decode cL_token 10 = .ok (.lconst 1, 1) := by decide +kernel
theorem dL_token_11 : decode cL_token 11 = .ok (.goto 4, 3) := by decide +kernel
theorem dL_token_14 : decode cL_token 14 = .ok (.lconst 0, 1) := by decide +kernel
theorem dL_token_15 : decode cL_token 15 = .ok (.lastore, 1) := by decide +kernel
theorem dL_token_16 : decode cL_token 16 = .ok (.goto 6, 3) := by decide +kernel
theorem dL_token_22 : decode cL_token 22 = .ok (.iconst 0, 1) := by decide +kernel
theorem dL_token_23 : decode cL_token 23 = .ok (.ireturn, 1) := by decide +kernel
theorem dL_typeAt_0 : decode cL_typeAt 0 = .ok (.aload_n 2, 1) := by decide +kernel
theorem dL_typeAt_1 : decode cL_typeAt 1 = .ok (.iconst 0, 1) := by decide +kernel
theorem dL_typeAt_2 : decode cL_typeAt 2 = .ok (.aload_n 0, 1) := by decide +kernel
theorem dL_typeAt_3 : decode cL_typeAt 3 = .ok (.iload_n 1, 1) := by decide +kernel
theorem dL_typeAt_4 : decode cL_typeAt 4 = .ok (.invokevirtual 26, 3) := by decide +kernel
theorem dL_typeAt_12 : decode cL_typeAt 12 = .ok (.astore_n 3, 1) := by decide +kernel
theorem dL_typeAt_13 : decode cL_typeAt 13 = .ok (.iconst 1, 1) := by decide +kernel
theorem dL_typeAt_14 : decode cL_typeAt 14 = .ok (.ireturn, 1) := by decide +kernel
theorem dX0_cellsUsed_0 : decode cX0_cellsUsed 0 = .ok (.aload_n 0, 1) := by decide +kernel
theorem dX0_cellsUsed_1 : decode cX0_cellsUsed 1 = .ok (.getfield 41, 3) := by decide +kernel
theorem dX0_cellsUsed_4 : decode cX0_cellsUsed 4 = .ok (.ireturn, 1) := by decide +kernel
theorem dX0_clear_0 : decode cX0_clear 0 = .ok (.aload_n 0, 1) := by decide +kernel
theorem dX0_clear_1 : decode cX0_clear 1 = .ok (.iconst 0, 1) := by decide +kernel
theorem dX0_clear_2 : decode cX0_clear 2 = .ok (.putfield 37, 3) := by decide +kernel
theorem dX0_clear_5 : decode cX0_clear 5 = .ok (.aload_n 0, 1) := by decide +kernel
theorem dX0_clear_6 : decode cX0_clear 6 = .ok (.iconst 0, 1) := by decide +kernel
theorem dX0_clear_7 : decode cX0_clear 7 = .ok (.putfield 41, 3) := by decide +kernel
theorem dX0_clear_10 : decode cX0_clear 10 = .ok (.aload_n 0, 1) := by decide +kernel
theorem dX0_clear_11 : decode cX0_clear 11 = .ok (.iconst 0, 1) := by decide +kernel
theorem dX0_clear_12 : decode cX0_clear 12 = .ok (.putfield 44, 3) := by decide +kernel
theorem dX0_clear_15 : decode cX0_clear 15 = .ok (.return_, 1) := by decide +kernel
theorem dX0_fuelUsed_0 : decode cX0_fuelUsed 0 = .ok (.aload_n 0, 1) := by decide +kernel
theorem dX0_fuelUsed_1 : decode cX0_fuelUsed 1 = .ok (.getfield 37, 3) := by decide +kernel
theorem dX0_fuelUsed_4 : decode cX0_fuelUsed 4 = .ok (.ireturn, 1) := by decide +kernel
theorem dX0_init_0 : decode cX0_init 0 = .ok (.aload_n 0, 1) := by decide +kernel
theorem dX0_init_1 : decode cX0_init 1 = .ok (.invokespecial 5, 3) := by decide +kernel
theorem dX0_init_4 : decode cX0_init 4 = .ok (.aload_n 0, 1) := by decide +kernel
theorem dX0_init_5 : decode cX0_init 5 = .ok (.sipush 416, 3) := by decide +kernel
theorem dX0_init_8 : decode cX0_init 8 = .ok (.newarray .int, 2) := by decide +kernel
theorem dX0_init_10 : decode cX0_init 10 = .ok (.putfield 11, 3) := by decide +kernel
theorem dX0_init_13 : decode cX0_init 13 = .ok (.aload_n 0, 1) := by decide +kernel
theorem dX0_init_14 : decode cX0_init 14 = .ok (.sipush 416, 3) := by decide +kernel
theorem dX0_init_17 : decode cX0_init 17 = .ok (.newarray .int, 2) := by decide +kernel
theorem dX0_init_19 : decode cX0_init 19 = .ok (.putfield 15, 3) := by decide +kernel
theorem dX0_init_22 : decode cX0_init 22 = .ok (.aload_n 0, 1) := by decide +kernel
theorem dX0_init_23 : decode cX0_init 23 = .ok (.sipush 416, 3) := by decide +kernel
theorem dX0_init_26 : decode cX0_init 26 = .ok (.newarray .int, 2) := by decide +kernel
theorem dX0_init_28 : decode cX0_init 28 = .ok (.putfield 18, 3) := by decide +kernel
theorem dX0_init_31 : decode cX0_init 31 = .ok (.aload_n 0, 1) := by decide +kernel
theorem dX0_init_32 : decode cX0_init 32 = .ok (.sipush 416, 3) := by decide +kernel
theorem dX0_init_35 : decode cX0_init 35 = .ok (.newarray .int, 2) := by decide +kernel
theorem dX0_init_37 : decode cX0_init 37 = .ok (.putfield 21, 3) := by decide +kernel
theorem dX0_init_40 : decode cX0_init 40 = .ok (.aload_n 0, 1) := by decide +kernel
theorem dX0_init_41 : decode cX0_init 41 = .ok (.sipush 416, 3) := by decide +kernel
theorem dX0_init_44 : decode cX0_init 44 = .ok (.newarray .int, 2) := by decide +kernel
theorem dX0_init_46 : decode cX0_init 46 = .ok (.putfield 24, 3) := by decide +kernel
theorem dX0_init_49 : decode cX0_init 49 = .ok (.aload_n 0, 1) := by decide +kernel
theorem dX0_init_50 : decode cX0_init 50 = .ok (.sipush 416, 3) := by decide +kernel
theorem dX0_init_53 : decode cX0_init 53 = .ok (.newarray .int, 2) := by decide +kernel
theorem dX0_init_55 : decode cX0_init 55 = .ok (.putfield 27, 3) := by decide +kernel
theorem dX0_init_58 : decode cX0_init 58 = .ok (.aload_n 0, 1) := by decide +kernel
theorem dX0_init_59 : decode cX0_init 59 = .ok (.sipush 200, 3) := by decide +kernel
theorem dX0_init_62 : decode cX0_init 62 = .ok (.newarray .int, 2) := by decide +kernel
theorem dX0_init_64 : decode cX0_init 64 = .ok (.putfield 30, 3) := by decide +kernel
theorem dX0_init_67 : decode cX0_init 67 = .ok (.aload_n 0, 1) := by decide +kernel
theorem dX0_init_68 : decode cX0_init 68 = .ok (.aload_n 1, 1) := by decide +kernel
theorem dX0_init_69 : decode cX0_init 69 = .ok (.putfield 33, 3) := by decide +kernel
theorem dX0_init_72 : decode cX0_init 72 = .ok (.return_, 1) := by decide +kernel
theorem dX0_mostNested_0 : decode cX0_mostNested 0 = .ok (.aload_n 0, 1) := by decide +kernel
theorem dX0_mostNested_1 : decode cX0_mostNested 1 = .ok (.getfield 44, 3) := by decide +kernel
theorem dX0_mostNested_4 : decode cX0_mostNested 4 = .ok (.ireturn, 1) := by decide +kernel
theorem dX1_atom_0 : decode cX1_atom 0 = .ok (.aload_n 0, 1) := by decide +kernel
theorem dX1_atom_1 : decode cX1_atom 1 = .ok (.iload_n 1, 1) := by decide +kernel
theorem dX1_atom_2 : decode cX1_atom 2 = .ok (.invokevirtual 51, 3) := by decide +kernel
theorem dX1_atom_5 : decode cX1_atom 5 = .ok (.ifCond .eq 5, 3) := by decide +kernel
theorem dX1_atom_10 : decode cX1_atom 10 = .ok (.aload_n 0, 1) := by decide +kernel
theorem dX1_atom_11 : decode cX1_atom 11 = .ok (.invokevirtual 55, 3) := by decide +kernel
theorem dX1_atom_14 : decode cX1_atom 14 = .ok (.istore_n 2, 1) := by decide +kernel
theorem dX1_atom_15 : decode cX1_atom 15 = .ok (.iload_n 2, 1) := by decide +kernel
theorem dX1_atom_16 : decode cX1_atom 16 = .ok (.invokestatic 106, 3) := by decide +kernel
theorem dX1_atom_19 : decode cX1_atom 19 = .ok (.ifCond .ne 9, 3) := by decide +kernel
theorem dX1_atom_22 : decode cX1_atom 22 = .ok (.aload_n 0, 1) := by decide +kernel
theorem dX1_atom_23 : decode cX1_atom 23 = .ok (.invokevirtual 41, 3) := by decide +kernel
theorem dX1_atom_26 : decode cX1_atom 26 = .ok (.iconst (-1), 1) := by decide +kernel
theorem dX1_atom_27 : decode cX1_atom 27 = .ok (.ireturn, 1) := by decide +kernel
theorem dX1_beginsAtom_0 : decode cX1_beginsAtom 0 = .ok (.iload_n 0, 1) := by decide +kernel
theorem dX1_beginsAtom_1 : decode cX1_beginsAtom 1 = .ok (.ifCond .eq 28, 3) := by decide +kernel
theorem dX1_beginsAtom_4 : decode cX1_beginsAtom 4 = .ok (.iload_n 0, 1) := by decide +kernel
theorem dX1_beginsAtom_5 : decode cX1_beginsAtom 5 = .ok (.bipush 9, 2) := by decide +kernel
theorem dX1_beginsAtom_7 : decode cX1_beginsAtom 7 = .ok (.if_icmp .lt 9, 3) := by decide +kernel
theorem dX1_beginsAtom_16 : decode cX1_beginsAtom 16 = .ok (.iload_n 0, 1) := by decide +kernel
theorem dX1_beginsAtom_17 : decode cX1_beginsAtom 17 = .ok (.invokestatic 109, 3) := by decide +kernel
theorem dX1_beginsAtom_20 : decode cX1_beginsAtom 20 = .ok (.ifCond .ne 9, 3) := by decide +kernel
theorem dX1_beginsAtom_23 : decode cX1_beginsAtom 23 = .ok (.iload_n 0, 1) := by decide +kernel
theorem dX1_beginsAtom_24 : decode cX1_beginsAtom 24 = .ok (.bipush 100, 2) := by decide +kernel
theorem dX1_beginsAtom_26 : decode cX1_beginsAtom 26 = .ok (.if_icmp .lt 7, 3) := by decide +kernel
theorem dX1_beginsAtom_33 : decode cX1_beginsAtom 33 = .ok (.iconst 0, 1) := by decide +kernel
theorem dX1_beginsAtom_34 : decode cX1_beginsAtom 34 = .ok (.ireturn, 1) := by decide +kernel
theorem dX1_call_0 : decode cX1_call 0 = .ok (.aload_n 0, 1) := by decide +kernel
theorem dX1_call_1 : decode cX1_call 1 = .ok (.iload_n 1, 1) := by decide +kernel
theorem dX1_call_2 : decode cX1_call 2 = .ok (.invokevirtual 103, 3) := by decide +kernel
theorem dX1_call_5 : decode cX1_call 5 = .ok (.istore_n 2, 1) := by decide +kernel
theorem dX1_call_6 : decode cX1_call 6 = .ok (.iconst 0, 1) := by decide +kernel
theorem dX1_call_7 : decode cX1_call 7 = .ok (.istore_n 3, 1) := by decide +kernel
theorem dX1_call_8 : decode cX1_call 8 = .ok (.iload_n 3, 1) := by decide +kernel
theorem dX1_call_9 : decode cX1_call 9 = .ok (.aload_n 0, 1) := by decide +kernel
theorem dX1_call_10 : decode cX1_call 10 = .ok (.getfield 28, 3) := by decide +kernel
theorem dX1_call_13 : decode cX1_call 13 = .ok (.if_icmp .ge 40, 3) := by decide +kernel
theorem dX1_call_53 : decode cX1_call 53 = .ok (.iload_n 2, 1) := by decide +kernel
theorem dX1_call_54 : decode cX1_call 54 = .ok (.ireturn, 1) := by decide +kernel
theorem dX1_fail_0 : decode cX1_fail 0 = .ok (.aload_n 0, 1) := by decide +kernel
theorem dX1_fail_1 : decode cX1_fail 1 = .ok (.getfield 34, 3) := by decide +kernel
theorem dX1_fail_4 : decode cX1_fail 4 = .ok (.ifCond .ne 8, 3) := by decide +kernel
theorem dX1_fail_7 : decode cX1_fail 7 = .ok (.aload_n 0, 1) := by decide +kernel
theorem dX1_fail_8 : decode cX1_fail 8 = .ok (.iload_n 1, 1) := by decide +kernel
theorem dX1_fail_9 : decode cX1_fail 9 = .ok (.putfield 34, 3) := by decide +kernel
theorem dX1_fail_12 : decode cX1_fail 12 = .ok (.return_, 1) := by decide +kernel
theorem dX1_init_0 : decode cX1_init 0 = .ok (.aload_n 0, 1) := by decide +kernel
theorem dX1_init_1 : decode cX1_init 1 = .ok (.invokespecial 3, 3) := by decide +kernel
theorem dX1_init_4 : decode cX1_init 4 = .ok (.aload_n 0, 1) := by decide +kernel
theorem dX1_init_5 : decode cX1_init 5 = .ok (.iconst (-1), 1) := by decide +kernel
theorem dX1_init_6 : decode cX1_init 6 = .ok (.putfield 9, 3) := by decide +kernel
theorem dX1_init_9 : decode cX1_init 9 = .ok (.aload_n 0, 1) := by decide +kernel
theorem dX1_init_10 : decode cX1_init 10 = .ok (.aload_n 1, 1) := by decide +kernel
theorem dX1_init_11 : decode cX1_init 11 = .ok (.putfield 15, 3) := by decide +kernel
theorem dX1_init_14 : decode cX1_init 14 = .ok (.aload_n 0, 1) := by decide +kernel
theorem dX1_init_15 : decode cX1_init 15 = .ok (.aload_n 2, 1) := by decide +kernel
theorem dX1_init_16 : decode cX1_init 16 = .ok (.putfield 19, 3) := by decide +kernel
theorem dX1_init_19 : decode cX1_init 19 = .ok (.return_, 1) := by decide +kernel
theorem dX1_list_0 : decode cX1_list 0 = .ok (.aload_n 0, 1) := by decide +kernel
theorem dX1_list_1 : decode cX1_list 1 = .ok (.iload_n 1, 1) := by decide +kernel
theorem dX1_list_2 : decode cX1_list 2 = .ok (.invokevirtual 51, 3) := by decide +kernel
theorem dX1_list_5 : decode cX1_list 5 = .ok (.ifCond .eq 5, 3) := by decide +kernel
theorem dX1_list_10 : decode cX1_list 10 = .ok (.aload_n 0, 1) := by decide +kernel
theorem dX1_list_11 : decode cX1_list 11 = .ok (.iload_n 1, 1) := by decide +kernel
theorem dX1_list_12 : decode cX1_list 12 = .ok (.invokevirtual 91, 3) := by decide +kernel
theorem dX1_list_15 : decode cX1_list 15 = .ok (.istore_n 2, 1) := by decide +kernel
theorem dX1_list_16 : decode cX1_list 16 = .ok (.aload_n 0, 1) := by decide +kernel
theorem dX1_list_17 : decode cX1_list 17 = .ok (.invokevirtual 55, 3) := by decide +kernel
theorem dX1_list_20 : decode cX1_list 20 = .ok (.bipush 19, 2) := by decide +kernel
theorem dX1_list_22 : decode cX1_list 22 = .ok (.if_icmp .eq 5, 3) := by decide +kernel
theorem dX1_list_25 : decode cX1_list 25 = .ok (.iload_n 2, 1) := by decide +kernel
theorem dX1_list_26 : decode cX1_list 26 = .ok (.ireturn, 1) := by decide +kernel
theorem dX1_look_0 : decode cX1_look 0 = .ok (.aload_n 0, 1) := by decide +kernel
theorem dX1_look_1 : decode cX1_look 1 = .ok (.getfield 34, 3) := by decide +kernel
theorem dX1_look_4 : decode cX1_look 4 = .ok (.ifCond .ne 28, 3) := by decide +kernel
theorem dX1_look_7 : decode cX1_look 7 = .ok (.aload_n 0, 1) := by decide +kernel
theorem dX1_look_8 : decode cX1_look 8 = .ok (.getfield 31, 3) := by decide +kernel
theorem dX1_look_11 : decode cX1_look 11 = .ok (.aload_n 0, 1) := by decide +kernel
theorem dX1_look_12 : decode cX1_look 12 = .ok (.getfield 28, 3) := by decide +kernel
theorem dX1_look_15 : decode cX1_look 15 = .ok (.if_icmp .ge 17, 3) := by decide +kernel
theorem dX1_look_32 : decode cX1_look 32 = .ok (.iconst (-1), 1) := by decide +kernel
theorem dX1_look_33 : decode cX1_look 33 = .ok (.ireturn, 1) := by decide +kernel
theorem dX1_product_0 : decode cX1_product 0 = .ok (.aload_n 0, 1) := by decide +kernel
theorem dX1_product_1 : decode cX1_product 1 = .ok (.iload_n 1, 1) := by decide +kernel
theorem dX1_product_2 : decode cX1_product 2 = .ok (.invokevirtual 100, 3) := by decide +kernel
theorem dX1_product_5 : decode cX1_product 5 = .ok (.istore_n 2, 1) := by decide +kernel
theorem dX1_product_6 : decode cX1_product 6 = .ok (.iconst 0, 1) := by decide +kernel
theorem dX1_product_7 : decode cX1_product 7 = .ok (.istore_n 3, 1) := by decide +kernel
theorem dX1_product_8 : decode cX1_product 8 = .ok (.iload_n 3, 1) := by decide +kernel
theorem dX1_product_9 : decode cX1_product 9 = .ok (.aload_n 0, 1) := by decide +kernel
theorem dX1_product_10 : decode cX1_product 10 = .ok (.getfield 28, 3) := by decide +kernel
theorem dX1_product_13 : decode cX1_product 13 = .ok (.if_icmp .ge 49, 3) := by decide +kernel
theorem dX1_product_62 : decode cX1_product 62 = .ok (.iload_n 2, 1) := by decide +kernel
theorem dX1_product_63 : decode cX1_product 63 = .ok (.ireturn, 1) := by decide +kernel
theorem dX1_readAll_0 : decode cX1_readAll 0 = .ok (.aload_n 0, 1) := by decide +kernel
theorem dX1_readAll_1 : decode cX1_readAll 1 = .ok (.getfield 19, 3) := by decide +kernel
theorem dX1_readAll_4 : decode cX1_readAll 4 = .ok (.invokevirtual 23, 3) := by decide +kernel
theorem dX1_readAll_7 : decode cX1_readAll 7 = .ok (.aload_n 0, 1) := by decide +kernel
theorem dX1_readAll_8 : decode cX1_readAll 8 = .ok (.iload_n 1, 1) := by decide +kernel
theorem dX1_readAll_9 : decode cX1_readAll 9 = .ok (.putfield 28, 3) := by decide +kernel
theorem dX1_readAll_12 : decode cX1_readAll 12 = .ok (.aload_n 0, 1) := by decide +kernel
theorem dX1_readAll_13 : decode cX1_readAll 13 = .ok (.iconst 0, 1) := by decide +kernel
theorem dX1_readAll_14 : decode cX1_readAll 14 = .ok (.putfield 31, 3) := by decide +kernel
theorem dX1_readAll_17 : decode cX1_readAll 17 = .ok (.aload_n 0, 1) := by decide +kernel
theorem dX1_readAll_18 : decode cX1_readAll 18 = .ok (.iconst 0, 1) := by decide +kernel
theorem dX1_readAll_19 : decode cX1_readAll 19 = .ok (.putfield 34, 3) := by decide +kernel
theorem dX1_readAll_22 : decode cX1_readAll 22 = .ok (.aload_n 0, 1) := by decide +kernel
theorem dX1_readAll_23 : decode cX1_readAll 23 = .ok (.aload_n 0, 1) := by decide +kernel
theorem dX1_readAll_24 : decode cX1_readAll 24 = .ok (.iconst 0, 1) := by decide +kernel
theorem dX1_readAll_25 : decode cX1_readAll 25 = .ok (.invokevirtual 37, 3) := by decide +kernel
theorem dX1_readAll_28 : decode cX1_readAll 28 = .ok (.putfield 9, 3) := by decide +kernel
theorem dX1_readAll_31 : decode cX1_readAll 31 = .ok (.aload_n 0, 1) := by decide +kernel
theorem dX1_readAll_32 : decode cX1_readAll 32 = .ok (.getfield 31, 3) := by decide +kernel
theorem dX1_readAll_35 : decode cX1_readAll 35 = .ok (.aload_n 0, 1) := by decide +kernel
theorem dX1_readAll_36 : decode cX1_readAll 36 = .ok (.getfield 28, 3) := by decide +kernel
theorem dX1_readAll_39 : decode cX1_readAll 39 = .ok (.if_icmp .ge 7, 3) := by decide +kernel
theorem dX1_readAll_46 : decode cX1_readAll 46 = .ok (.aload_n 0, 1) := by decide +kernel
theorem dX1_readAll_47 : decode cX1_readAll 47 = .ok (.getfield 19, 3) := by decide +kernel
theorem dX1_readAll_50 : decode cX1_readAll 50 = .ok (.aload_n 0, 1) := by decide +kernel
theorem dX1_readAll_51 : decode cX1_readAll 51 = .ok (.getfield 9, 3) := by decide +kernel
theorem dX1_readAll_54 : decode cX1_readAll 54 = .ok (.invokevirtual 44, 3) := by decide +kernel
theorem dX1_readAll_57 : decode cX1_readAll 57 = .ok (.bipush 16, 2) := by decide +kernel
theorem dX1_readAll_59 : decode cX1_readAll 59 = .ok (.if_icmp .le 8, 3) := by decide +kernel
theorem dX1_readAll_67 : decode cX1_readAll 67 = .ok (.aload_n 0, 1) := by decide +kernel
theorem dX1_readAll_68 : decode cX1_readAll 68 = .ok (.getfield 34, 3) := by decide +kernel
theorem dX1_readAll_71 : decode cX1_readAll 71 = .ok (.ireturn, 1) := by decide +kernel
theorem dX1_refuse_0 : decode cX1_refuse 0 = .ok (.aload_n 0, 1) := by decide +kernel
theorem dX1_refuse_1 : decode cX1_refuse 1 = .ok (.iconst 1, 1) := by decide +kernel
theorem dX1_refuse_2 : decode cX1_refuse 2 = .ok (.aload_n 0, 1) := by decide +kernel
theorem dX1_refuse_3 : decode cX1_refuse 3 = .ok (.getfield 31, 3) := by decide +kernel
theorem dX1_refuse_6 : decode cX1_refuse 6 = .ok (.iadd, 1) := by decide +kernel
theorem dX1_refuse_7 : decode cX1_refuse 7 = .ok (.invokevirtual 47, 3) := by decide +kernel
theorem dX1_refuse_10 : decode cX1_refuse 10 = .ok (.return_, 1) := by decide +kernel
theorem dX1_stopped_0 : decode cX1_stopped 0 = .ok (.iload_n 1, 1) := by decide +kernel
theorem dX1_stopped_1 : decode cX1_stopped 1 = .ok (.bipush 7, 2) := by decide +kernel
theorem dX1_stopped_3 : decode cX1_stopped 3 = .ok (.if_icmp .le 8, 3) := by decide +kernel
theorem dX1_stopped_11 : decode cX1_stopped 11 = .ok (.aload_n 0, 1) := by decide +kernel
theorem dX1_stopped_12 : decode cX1_stopped 12 = .ok (.getfield 34, 3) := by decide +kernel
theorem dX1_stopped_15 : decode cX1_stopped 15 = .ok (.ifCond .eq 7, 3) := by decide +kernel
theorem dX1_stopped_22 : decode cX1_stopped 22 = .ok (.iconst 0, 1) := by decide +kernel
theorem dX1_stopped_23 : decode cX1_stopped 23 = .ok (.ireturn, 1) := by decide +kernel
theorem dX1_sum_0 : decode cX1_sum 0 = .ok (.aload_n 0, 1) := by decide +kernel
theorem dX1_sum_1 : decode cX1_sum 1 = .ok (.iload_n 1, 1) := by decide +kernel
theorem dX1_sum_2 : decode cX1_sum 2 = .ok (.invokevirtual 97, 3) := by decide +kernel

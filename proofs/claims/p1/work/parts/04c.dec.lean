theorem dX6_put_0 : decode cX6_put 0 = .ok (.iload_n 1, 1) := by decide +kernel
theorem dX6_put_1 : decode cX6_put 1 = .ok (.ifCond .lt 13, 3) := by decide +kernel
theorem dX6_put_4 : decode cX6_put 4 = .ok (.iload_n 1, 1) := by decide +kernel
theorem dX6_put_5 : decode cX6_put 5 = .ok (.aload_n 0, 1) := by decide +kernel
theorem dX6_put_6 : decode cX6_put 6 = .ok (.arraylength, 1) := by decide +kernel
theorem dX6_put_7 : decode cX6_put 7 = .ok (.if_icmp .ge 7, 3) := by decide +kernel
theorem dX6_put_10 : decode cX6_put 10 = .ok (.aload_n 0, 1) := by decide +kernel
theorem dX6_put_11 : decode cX6_put 11 = .ok (.iload_n 1, 1) := by decide +kernel
theorem dX6_put_12 : decode cX6_put 12 = .ok (.iload_n 2, 1) := by decide +kernel
theorem dX6_put_13 : decode cX6_put 13 = .ok (.iastore, 1) := by decide +kernel
theorem dX6_put_14 : decode cX6_put 14 = .ok (.return_, 1) := by decide +kernel
theorem dX6_reset_0 : decode cX6_reset 0 = .ok (.aload_n 0, 1) := by decide +kernel
theorem dX6_reset_1 : decode cX6_reset 1 = .ok (.iconst 0, 1) := by decide +kernel
theorem dX6_reset_2 : decode cX6_reset 2 = .ok (.putfield 72, 3) := by decide +kernel
theorem dX6_reset_5 : decode cX6_reset 5 = .ok (.aload_n 0, 1) := by decide +kernel
theorem dX6_reset_6 : decode cX6_reset 6 = .ok (.getfield 41, 3) := by decide +kernel
theorem dX6_reset_9 : decode cX6_reset 9 = .ok (.invokevirtual 119, 3) := by decide +kernel
theorem dX6_reset_12 : decode cX6_reset 12 = .ok (.aload_n 0, 1) := by decide +kernel
theorem dX6_reset_13 : decode cX6_reset 13 = .ok (.iconst 0, 1) := by decide +kernel
theorem dX6_reset_14 : decode cX6_reset 14 = .ok (.putfield 115, 3) := by decide +kernel
theorem dX6_reset_17 : decode cX6_reset 17 = .ok (.aload_n 0, 1) := by decide +kernel
theorem dX6_reset_18 : decode cX6_reset 18 = .ok (.iconst 0, 1) := by decide +kernel
theorem dX6_reset_19 : decode cX6_reset 19 = .ok (.putfield 57, 3) := by decide +kernel
theorem dX6_reset_22 : decode cX6_reset 22 = .ok (.return_, 1) := by decide +kernel
theorem dX6_run_0 : decode cX6_run 0 = .ok (.aload_n 0, 1) := by decide +kernel
theorem dX6_run_1 : decode cX6_run 1 = .ok (.getfield 57, 3) := by decide +kernel
theorem dX6_run_4 : decode cX6_run 4 = .ok (.iconst 2, 1) := by decide +kernel
theorem dX6_run_5 : decode cX6_run 5 = .ok (.if_icmp .eq 13, 3) := by decide +kernel
theorem dX6_run_8 : decode cX6_run 8 = .ok (.new 61, 3) := by decide +kernel
theorem dX6_run_11 : decode cX6_run 11 = .ok (.dup, 1) := by decide +kernel
theorem dX6_run_12 : decode cX6_run 12 = .ok (.ldc 109, 2) := by decide +kernel
theorem dX6_run_14 : decode cX6_run 14 = .ok (.invokespecial 65, 3) := by decide +kernel
theorem dX6_run_17 : decode cX6_run 17 = .ok (.athrow, 1) := by decide +kernel
theorem dX6_token_0 : decode cX6_token 0 = .ok (.aload_n 0, 1) := by decide +kernel
theorem dX6_token_1 : decode cX6_token 1 = .ok (.getfield 57, 3) := by decide +kernel
theorem dX6_token_4 : decode cX6_token 4 = .ok (.ifCond .eq 13, 3) := by decide +kernel
theorem dX6_token_17 : decode cX6_token 17 = .ok (.iload_n 1, 1) := by decide +kernel
theorem dX6_token_18 : decode cX6_token 18 = .ok (.invokestatic 68, 3) := by decide +kernel
theorem dX6_token_21 : decode cX6_token 21 = .ok (.ifCond .eq 12, 3) := by decide +kernel
theorem dX6_token_24 : decode cX6_token 24 = .ok (.aload_n 0, 1) := by decide +kernel
theorem dX6_token_25 : decode cX6_token 25 = .ok (.getfield 72, 3) := by decide +kernel
theorem dX6_token_28 : decode cX6_token 28 = .ok (.bipush 60, 2) := by decide +kernel
theorem dX6_token_30 : decode cX6_token 30 = .ok (.if_icmp .lt 5, 3) := by decide +kernel
theorem dX6_token_33 : decode cX6_token 33 = .ok (.iconst 0, 1) := by decide +kernel
theorem dX6_token_34 : decode cX6_token 34 = .ok (.ireturn, 1) := by decide +kernel
theorem dX6_token_35 : decode cX6_token 35 = .ok (.aload_n 0, 1) := by decide +kernel
theorem dX6_token_36 : decode cX6_token 36 = .ok (.getfield 9, 3) := by decide +kernel
theorem dX6_token_39 : decode cX6_token 39 = .ok (.aload_n 0, 1) := by decide +kernel
theorem dX6_token_40 : decode cX6_token 40 = .ok (.getfield 72, 3) := by decide +kernel
theorem dX6_token_43 : decode cX6_token 43 = .ok (.iload_n 1, 1) := by decide +kernel
theorem dX6_token_44 : decode cX6_token 44 = .ok (.invokestatic 75, 3) := by decide +kernel
theorem dX6_token_47 : decode cX6_token 47 = .ok (.aload_n 0, 1) := by decide +kernel
theorem dX6_token_48 : decode cX6_token 48 = .ok (.dup, 1) := by decide +kernel
theorem dX6_token_49 : decode cX6_token 49 = .ok (.getfield 72, 3) := by decide +kernel
theorem dX6_token_52 : decode cX6_token 52 = .ok (.iconst 1, 1) := by decide +kernel
theorem dX6_token_53 : decode cX6_token 53 = .ok (.iadd, 1) := by decide +kernel
theorem dX6_token_54 : decode cX6_token 54 = .ok (.putfield 72, 3) := by decide +kernel
theorem dX6_token_57 : decode cX6_token 57 = .ok (.iconst 1, 1) := by decide +kernel
theorem dX6_token_58 : decode cX6_token 58 = .ok (.ireturn, 1) := by decide +kernel
theorem dX6_typeAt_0 : decode cX6_typeAt 0 = .ok (.aload_n 0, 1) := by decide +kernel
theorem dX6_typeAt_1 : decode cX6_typeAt 1 = .ok (.getfield 57, 3) := by decide +kernel
theorem dX6_typeAt_4 : decode cX6_typeAt 4 = .ok (.iconst 2, 1) := by decide +kernel
theorem dX6_typeAt_5 : decode cX6_typeAt 5 = .ok (.if_icmp .ne 14, 3) := by decide +kernel
theorem dX6_typeAt_19 : decode cX6_typeAt 19 = .ok (.new 126, 3) := by decide +kernel
theorem dX6_typeAt_22 : decode cX6_typeAt 22 = .ok (.dup, 1) := by decide +kernel
theorem dX6_typeAt_23 : decode cX6_typeAt 23 = .ok (.ldc 128, 2) := by decide +kernel
theorem dX6_typeAt_25 : decode cX6_typeAt 25 = .ok (.invokespecial 130, 3) := by decide +kernel
theorem dX6_typeAt_28 : decode cX6_typeAt 28 = .ok (.athrow, 1) := by decide +kernel
theorem dX6_typeSize_0 : decode cX6_typeSize 0 = .ok (.aload_n 0, 1) := by decide +kernel
theorem dX6_typeSize_1 : decode cX6_typeSize 1 = .ok (.getfield 57, 3) := by decide +kernel
theorem dX6_typeSize_4 : decode cX6_typeSize 4 = .ok (.iconst 2, 1) := by decide +kernel
theorem dX6_typeSize_5 : decode cX6_typeSize 5 = .ok (.if_icmp .ne 13, 3) := by decide +kernel
theorem dX6_typeSize_18 : decode cX6_typeSize 18 = .ok (.iconst (-1), 1) := by decide +kernel
theorem dX6_typeSize_19 : decode cX6_typeSize 19 = .ok (.ireturn, 1) := by decide +kernel
theorem dX6_used_0 : decode cX6_used 0 = .ok (.iload_n 1, 1) := by decide +kernel
theorem dX6_used_1 : decode cX6_used 1 = .ok (.tableswitch 51 0 2 #[27, 35, 43], 27) := by decide +kernel
theorem dX6_used_28 : decode cX6_used 28 = .ok (.aload_n 0, 1) := by decide +kernel
theorem dX6_used_29 : decode cX6_used 29 = .ok (.getfield 41, 3) := by decide +kernel
theorem dX6_used_32 : decode cX6_used 32 = .ok (.invokevirtual 136, 3) := by decide +kernel
theorem dX6_used_35 : decode cX6_used 35 = .ok (.ireturn, 1) := by decide +kernel
theorem dX6_used_36 : decode cX6_used 36 = .ok (.aload_n 0, 1) := by decide +kernel
theorem dX6_used_37 : decode cX6_used 37 = .ok (.getfield 41, 3) := by decide +kernel
theorem dX6_used_40 : decode cX6_used 40 = .ok (.invokevirtual 139, 3) := by decide +kernel
theorem dX6_used_43 : decode cX6_used 43 = .ok (.ireturn, 1) := by decide +kernel
theorem dX6_used_44 : decode cX6_used 44 = .ok (.aload_n 0, 1) := by decide +kernel
theorem dX6_used_45 : decode cX6_used 45 = .ok (.getfield 41, 3) := by decide +kernel
theorem dX6_used_48 : decode cX6_used 48 = .ok (.invokevirtual 142, 3) := by decide +kernel
theorem dX6_used_51 : decode cX6_used 51 = .ok (.ireturn, 1) := by decide +kernel
theorem dX6_used_52 : decode cX6_used 52 = .ok (.iconst (-1), 1) := by decide +kernel
theorem dX6_used_53 : decode cX6_used 53 = .ok (.ireturn, 1) := by decide +kernel
theorem dX7_atom_0 : decode cX7_atom 0 = .ok (.aload_n 0, 1) := by decide +kernel
theorem dX7_atom_1 : decode cX7_atom 1 = .ok (.invokevirtual 167, 3) := by decide +kernel
theorem dX7_atom_4 : decode cX7_atom 4 = .ok (.istore_n 2, 1) := by decide +kernel
theorem dX7_atom_5 : decode cX7_atom 5 = .ok (.iload_n 2, 1) := by decide +kernel
theorem dX7_atom_6 : decode cX7_atom 6 = .ok (.invokestatic 171, 3) := by decide +kernel
theorem dX7_atom_9 : decode cX7_atom 9 = .ok (.ifCond .ne 8, 3) := by decide +kernel
theorem dX7_atom_12 : decode cX7_atom 12 = .ok (.aload_n 0, 1) := by decide +kernel
theorem dX7_atom_13 : decode cX7_atom 13 = .ok (.invokevirtual 174, 3) := by decide +kernel
theorem dX7_atom_16 : decode cX7_atom 16 = .ok (.ireturn, 1) := by decide +kernel
theorem dX7_beginsAtom_0 : decode cX7_beginsAtom 0 = .ok (.iload_n 0, 1) := by decide +kernel
theorem dX7_beginsAtom_1 : decode cX7_beginsAtom 1 = .ok (.bipush 100, 2) := by decide +kernel
theorem dX7_beginsAtom_3 : decode cX7_beginsAtom 3 = .ok (.if_icmp .ge 26, 3) := by decide +kernel
theorem dX7_beginsAtom_6 : decode cX7_beginsAtom 6 = .ok (.iload_n 0, 1) := by decide +kernel
theorem dX7_beginsAtom_7 : decode cX7_beginsAtom 7 = .ok (.invokestatic 143, 3) := by decide +kernel
theorem dX7_beginsAtom_10 : decode cX7_beginsAtom 10 = .ok (.ifCond .ne 19, 3) := by decide +kernel
theorem dX7_beginsAtom_13 : decode cX7_beginsAtom 13 = .ok (.iload_n 0, 1) := by decide +kernel
theorem dX7_beginsAtom_14 : decode cX7_beginsAtom 14 = .ok (.ifCond .eq 15, 3) := by decide +kernel
theorem dX7_beginsAtom_17 : decode cX7_beginsAtom 17 = .ok (.iload_n 0, 1) := by decide +kernel
theorem dX7_beginsAtom_18 : decode cX7_beginsAtom 18 = .ok (.bipush 9, 2) := by decide +kernel
theorem dX7_beginsAtom_20 : decode cX7_beginsAtom 20 = .ok (.if_icmp .lt 13, 3) := by decide +kernel
theorem dX7_beginsAtom_33 : decode cX7_beginsAtom 33 = .ok (.iconst 0, 1) := by decide +kernel
theorem dX7_beginsAtom_34 : decode cX7_beginsAtom 34 = .ok (.ireturn, 1) := by decide +kernel
theorem dX7_fails_0 : decode cX7_fails 0 = .ok (.aload_n 0, 1) := by decide +kernel
theorem dX7_fails_1 : decode cX7_fails 1 = .ok (.iload_n 1, 1) := by decide +kernel
theorem dX7_fails_2 : decode cX7_fails 2 = .ok (.ifCond .eq 7, 3) := by decide +kernel
theorem dX7_fails_5 : decode cX7_fails 5 = .ok (.iconst 1, 1) := by decide +kernel
theorem dX7_fails_6 : decode cX7_fails 6 = .ok (.goto 4, 3) := by decide +kernel
theorem dX7_fails_9 : decode cX7_fails 9 = .ok (.iconst 0, 1) := by decide +kernel
theorem dX7_fails_10 : decode cX7_fails 10 = .ok (.putfield 117, 3) := by decide +kernel
theorem dX7_fails_13 : decode cX7_fails 13 = .ok (.iload_n 1, 1) := by decide +kernel
theorem dX7_fails_14 : decode cX7_fails 14 = .ok (.ireturn, 1) := by decide +kernel
theorem dX7_forget_0 : decode cX7_forget 0 = .ok (.aload_n 0, 1) := by decide +kernel
theorem dX7_forget_1 : decode cX7_forget 1 = .ok (.iconst (-1), 1) := by decide +kernel
theorem dX7_forget_2 : decode cX7_forget 2 = .ok (.putfield 113, 3) := by decide +kernel
theorem dX7_forget_5 : decode cX7_forget 5 = .ok (.aload_n 0, 1) := by decide +kernel
theorem dX7_forget_6 : decode cX7_forget 6 = .ok (.iconst 0, 1) := by decide +kernel
theorem dX7_forget_7 : decode cX7_forget 7 = .ok (.putfield 286, 3) := by decide +kernel
theorem dX7_forget_10 : decode cX7_forget 10 = .ok (.aload_n 0, 1) := by decide +kernel
theorem dX7_forget_11 : decode cX7_forget 11 = .ok (.iconst 0, 1) := by decide +kernel
theorem dX7_forget_12 : decode cX7_forget 12 = .ok (.putfield 289, 3) := by decide +kernel
theorem dX7_forget_15 : decode cX7_forget 15 = .ok (.aload_n 0, 1) := by decide +kernel
theorem dX7_forget_16 : decode cX7_forget 16 = .ok (.iconst 0, 1) := by decide +kernel
theorem dX7_forget_17 : decode cX7_forget 17 = .ok (.putfield 292, 3) := by decide +kernel
theorem dX7_forget_20 : decode cX7_forget 20 = .ok (.return_, 1) := by decide +kernel
theorem dX7_infer_0 : decode cX7_infer 0 = .ok (.aload_n 0, 1) := by decide +kernel
theorem dX7_infer_1 : decode cX7_infer 1 = .ok (.aload_n 0, 1) := by decide +kernel
theorem dX7_infer_2 : decode cX7_infer 2 = .ok (.getfield 126, 3) := by decide +kernel
theorem dX7_infer_5 : decode cX7_infer 5 = .ok (.iconst 1, 1) := by decide +kernel
theorem dX7_infer_6 : decode cX7_infer 6 = .ok (.if_icmp .eq 7, 3) := by decide +kernel
theorem dX7_infer_9 : decode cX7_infer 9 = .ok (.iconst 1, 1) := by decide +kernel
theorem dX7_infer_10 : decode cX7_infer 10 = .ok (.goto 4, 3) := by decide +kernel
theorem dX7_infer_14 : decode cX7_infer 14 = .ok (.invokevirtual 129, 3) := by decide +kernel
theorem dX7_infer_17 : decode cX7_infer 17 = .ok (.ifCond .eq 5, 3) := by decide +kernel
theorem dX7_infer_20 : decode cX7_infer 20 = .ok (.iconst 0, 1) := by decide +kernel
theorem dX7_infer_21 : decode cX7_infer 21 = .ok (.ireturn, 1) := by decide +kernel
theorem dX7_init_0 : decode cX7_init 0 = .ok (.aload_n 0, 1) := by decide +kernel
theorem dX7_init_1 : decode cX7_init 1 = .ok (.invokespecial 1, 3) := by decide +kernel
theorem dX7_init_4 : decode cX7_init 4 = .ok (.aload_n 0, 1) := by decide +kernel
theorem dX7_init_5 : decode cX7_init 5 = .ok (.bipush 60, 2) := by decide +kernel
theorem dX7_init_7 : decode cX7_init 7 = .ok (.newarray .int, 2) := by decide +kernel
theorem dX7_init_9 : decode cX7_init 9 = .ok (.putfield 7, 3) := by decide +kernel
theorem dX7_init_12 : decode cX7_init 12 = .ok (.aload_n 0, 1) := by decide +kernel
theorem dX7_init_13 : decode cX7_init 13 = .ok (.sipush 160, 3) := by decide +kernel
theorem dX7_init_16 : decode cX7_init 16 = .ok (.newarray .int, 2) := by decide +kernel
theorem dX7_init_18 : decode cX7_init 18 = .ok (.putfield 13, 3) := by decide +kernel
theorem dX7_init_21 : decode cX7_init 21 = .ok (.aload_n 0, 1) := by decide +kernel
theorem dX7_init_22 : decode cX7_init 22 = .ok (.sipush 160, 3) := by decide +kernel
theorem dX7_init_25 : decode cX7_init 25 = .ok (.newarray .int, 2) := by decide +kernel
theorem dX7_init_27 : decode cX7_init 27 = .ok (.putfield 16, 3) := by decide +kernel
theorem dX7_init_30 : decode cX7_init 30 = .ok (.aload_n 0, 1) := by decide +kernel
theorem dX7_init_31 : decode cX7_init 31 = .ok (.sipush 160, 3) := by decide +kernel
theorem dX7_init_34 : decode cX7_init 34 = .ok (.newarray .int, 2) := by decide +kernel
theorem dX7_init_36 : decode cX7_init 36 = .ok (.putfield 19, 3) := by decide +kernel
theorem dX7_init_39 : decode cX7_init 39 = .ok (.aload_n 0, 1) := by decide +kernel
theorem dX7_init_40 : decode cX7_init 40 = .ok (.sipush 160, 3) := by decide +kernel
theorem dX7_init_43 : decode cX7_init 43 = .ok (.newarray .int, 2) := by decide +kernel
theorem dX7_init_45 : decode cX7_init 45 = .ok (.putfield 22, 3) := by decide +kernel
theorem dX7_init_48 : decode cX7_init 48 = .ok (.aload_n 0, 1) := by decide +kernel
theorem dX7_init_49 : decode cX7_init 49 = .ok (.sipush 160, 3) := by decide +kernel
theorem dX7_init_52 : decode cX7_init 52 = .ok (.newarray .int, 2) := by decide +kernel
theorem dX7_init_54 : decode cX7_init 54 = .ok (.putfield 25, 3) := by decide +kernel
theorem dX7_init_57 : decode cX7_init 57 = .ok (.aload_n 0, 1) := by decide +kernel
theorem dX7_init_58 : decode cX7_init 58 = .ok (.sipush 160, 3) := by decide +kernel
theorem dX7_init_61 : decode cX7_init 61 = .ok (.newarray .int, 2) := by decide +kernel
theorem dX7_init_63 : decode cX7_init 63 = .ok (.putfield 28, 3) := by decide +kernel
theorem dX7_init_66 : decode cX7_init 66 = .ok (.aload_n 0, 1) := by decide +kernel
theorem dX7_init_67 : decode cX7_init 67 = .ok (.sipush 160, 3) := by decide +kernel
theorem dX7_init_70 : decode cX7_init 70 = .ok (.newarray .int, 2) := by decide +kernel
theorem dX7_init_72 : decode cX7_init 72 = .ok (.putfield 31, 3) := by decide +kernel
theorem dX7_init_75 : decode cX7_init 75 = .ok (.aload_n 0, 1) := by decide +kernel
theorem dX7_init_76 : decode cX7_init 76 = .ok (.sipush 160, 3) := by decide +kernel
theorem dX7_init_79 : decode cX7_init 79 = .ok (.newarray .int, 2) := by decide +kernel
theorem dX7_init_81 : decode cX7_init 81 = .ok (.putfield 34, 3) := by decide +kernel
theorem dX7_init_84 : decode cX7_init 84 = .ok (.aload_n 0, 1) := by decide +kernel
theorem dX7_init_85 : decode cX7_init 85 = .ok (.sipush 400, 3) := by decide +kernel
theorem dX7_init_88 : decode cX7_init 88 = .ok (.newarray .int, 2) := by decide +kernel
theorem dX7_init_90 : decode cX7_init 90 = .ok (.putfield 37, 3) := by decide +kernel
theorem dX7_init_93 : decode cX7_init 93 = .ok (.aload_n 0, 1) := by decide +kernel
theorem dX7_init_94 : decode cX7_init 94 = .ok (.sipush 400, 3) := by decide +kernel
theorem dX7_init_97 : decode cX7_init 97 = .ok (.newarray .int, 2) := by decide +kernel
theorem dX7_init_99 : decode cX7_init 99 = .ok (.putfield 40, 3) := by decide +kernel
theorem dX7_init_102 : decode cX7_init 102 = .ok (.aload_n 0, 1) := by decide +kernel
theorem dX7_init_103 : decode cX7_init 103 = .ok (.sipush 400, 3) := by decide +kernel
theorem dX7_init_106 : decode cX7_init 106 = .ok (.newarray .int, 2) := by decide +kernel
theorem dX7_init_108 : decode cX7_init 108 = .ok (.putfield 43, 3) := by decide +kernel
theorem dX7_init_111 : decode cX7_init 111 = .ok (.aload_n 0, 1) := by decide +kernel
theorem dX7_init_112 : decode cX7_init 112 = .ok (.sipush 400, 3) := by decide +kernel
theorem dX7_init_115 : decode cX7_init 115 = .ok (.newarray .int, 2) := by decide +kernel
theorem dX7_init_117 : decode cX7_init 117 = .ok (.putfield 46, 3) := by decide +kernel
theorem dX7_init_120 : decode cX7_init 120 = .ok (.aload_n 0, 1) := by decide +kernel
theorem dX7_init_121 : decode cX7_init 121 = .ok (.sipush 400, 3) := by decide +kernel
theorem dX7_init_124 : decode cX7_init 124 = .ok (.newarray .int, 2) := by decide +kernel
theorem dX7_init_126 : decode cX7_init 126 = .ok (.putfield 49, 3) := by decide +kernel
theorem dX7_init_129 : decode cX7_init 129 = .ok (.aload_n 0, 1) := by decide +kernel
theorem dX7_init_130 : decode cX7_init 130 = .ok (.sipush 3000, 3) := by decide +kernel
theorem dX7_init_133 : decode cX7_init 133 = .ok (.newarray .int, 2) := by decide +kernel
theorem dX7_init_135 : decode cX7_init 135 = .ok (.putfield 52, 3) := by decide +kernel
theorem dX7_init_138 : decode cX7_init 138 = .ok (.aload_n 0, 1) := by decide +kernel
theorem dX7_init_139 : decode cX7_init 139 = .ok (.sipush 3000, 3) := by decide +kernel
theorem dX7_init_142 : decode cX7_init 142 = .ok (.newarray .int, 2) := by decide +kernel
theorem dX7_init_144 : decode cX7_init 144 = .ok (.putfield 55, 3) := by decide +kernel
theorem dX7_init_147 : decode cX7_init 147 = .ok (.aload_n 0, 1) := by decide +kernel
theorem dX7_init_148 : decode cX7_init 148 = .ok (.sipush 3000, 3) := by decide +kernel
theorem dX7_init_151 : decode cX7_init 151 = .ok (.newarray .int, 2) := by decide +kernel
theorem dX7_init_153 : decode cX7_init 153 = .ok (.putfield 58, 3) := by decide +kernel
theorem dX7_init_156 : decode cX7_init 156 = .ok (.aload_n 0, 1) := by decide +kernel
theorem dX7_init_157 : decode cX7_init 157 = .ok (.sipush 3000, 3) := by decide +kernel
theorem dX7_init_160 : decode cX7_init 160 = .ok (.newarray .boolean, 2) := by decide +kernel
theorem dX7_init_162 : decode cX7_init 162 = .ok (.putfield 61, 3) := by decide +kernel
theorem dX7_init_165 : decode cX7_init 165 = .ok (.aload_n 0, 1) := by decide +kernel
theorem dX7_init_166 : decode cX7_init 166 = .ok (.bipush 64, 2) := by decide +kernel
theorem dX7_init_168 : decode cX7_init 168 = .ok (.newarray .int, 2) := by decide +kernel
theorem dX7_init_170 : decode cX7_init 170 = .ok (.putfield 65, 3) := by decide +kernel
theorem dX7_init_173 : decode cX7_init 173 = .ok (.aload_n 0, 1) := by decide +kernel
theorem dX7_init_174 : decode cX7_init 174 = .ok (.bipush 64, 2) := by decide +kernel
theorem dX7_init_176 : decode cX7_init 176 = .ok (.newarray .int, 2) := by decide +kernel
theorem dX7_init_178 : decode cX7_init 178 = .ok (.putfield 68, 3) := by decide +kernel
theorem dX7_init_181 : decode cX7_init 181 = .ok (.aload_n 0, 1) := by decide +kernel
theorem dX7_init_182 : decode cX7_init 182 = .ok (.bipush 64, 2) := by decide +kernel
theorem dX7_init_184 : decode cX7_init 184 = .ok (.newarray .boolean, 2) := by decide +kernel
theorem dX7_init_186 : decode cX7_init 186 = .ok (.putfield 71, 3) := by decide +kernel
theorem dX7_init_189 : decode cX7_init 189 = .ok (.aload_n 0, 1) := by decide +kernel
theorem dX7_init_190 : decode cX7_init 190 = .ok (.sipush 600, 3) := by decide +kernel
theorem dX7_init_193 : decode cX7_init 193 = .ok (.newarray .int, 2) := by decide +kernel
theorem dX7_init_195 : decode cX7_init 195 = .ok (.putfield 74, 3) := by decide +kernel
theorem dX7_init_198 : decode cX7_init 198 = .ok (.aload_n 0, 1) := by decide +kernel
theorem dX7_init_199 : decode cX7_init 199 = .ok (.sipush 600, 3) := by decide +kernel
theorem dX7_init_202 : decode cX7_init 202 = .ok (.newarray .int, 2) := by decide +kernel
theorem dX7_init_204 : decode cX7_init 204 = .ok (.putfield 77, 3) := by decide +kernel
theorem dX7_init_207 : decode cX7_init 207 = .ok (.aload_n 0, 1) := by decide +kernel
theorem dX7_init_208 : decode cX7_init 208 = .ok (.sipush 600, 3) := by decide +kernel
theorem dX7_init_211 : decode cX7_init 211 = .ok (.newarray .int, 2) := by decide +kernel
theorem dX7_init_213 : decode cX7_init 213 = .ok (.putfield 80, 3) := by decide +kernel
theorem dX7_init_216 : decode cX7_init 216 = .ok (.aload_n 0, 1) := by decide +kernel
theorem dX7_init_217 : decode cX7_init 217 = .ok (.sipush 900, 3) := by decide +kernel
theorem dX7_init_220 : decode cX7_init 220 = .ok (.newarray .int, 2) := by decide +kernel
theorem dX7_init_222 : decode cX7_init 222 = .ok (.putfield 83, 3) := by decide +kernel
theorem dX7_init_225 : decode cX7_init 225 = .ok (.aload_n 0, 1) := by decide +kernel
theorem dX7_init_226 : decode cX7_init 226 = .ok (.sipush 900, 3) := by decide +kernel
theorem dX7_init_229 : decode cX7_init 229 = .ok (.newarray .int, 2) := by decide +kernel

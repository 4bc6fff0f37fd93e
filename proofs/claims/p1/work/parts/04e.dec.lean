theorem dX7_refuse_2 : decode cX7_refuse 2 = .ok (.aload_n 0, 1) := by decide +kernel
theorem dX7_refuse_3 : decode cX7_refuse 3 = .ok (.getfield 140, 3) := by decide +kernel
theorem dX7_refuse_6 : decode cX7_refuse 6 = .ok (.iadd, 1) := by decide +kernel
theorem dX7_refuse_7 : decode cX7_refuse 7 = .ok (.putfield 160, 3) := by decide +kernel
theorem dX7_refuse_10 : decode cX7_refuse 10 = .ok (.iconst 0, 1) := by decide +kernel
theorem dX7_refuse_11 : decode cX7_refuse 11 = .ok (.ireturn, 1) := by decide +kernel
theorem dX7_reset_0 : decode cX7_reset 0 = .ok (.aload_n 0, 1) := by decide +kernel
theorem dX7_reset_1 : decode cX7_reset 1 = .ok (.iconst 0, 1) := by decide +kernel
theorem dX7_reset_2 : decode cX7_reset 2 = .ok (.putfield 117, 3) := by decide +kernel
theorem dX7_reset_5 : decode cX7_reset 5 = .ok (.aload_n 0, 1) := by decide +kernel
theorem dX7_reset_6 : decode cX7_reset 6 = .ok (.iconst 0, 1) := by decide +kernel
theorem dX7_reset_7 : decode cX7_reset 7 = .ok (.putfield 126, 3) := by decide +kernel
theorem dX7_reset_10 : decode cX7_reset 10 = .ok (.aload_n 0, 1) := by decide +kernel
theorem dX7_reset_11 : decode cX7_reset 11 = .ok (.iconst 0, 1) := by decide +kernel
theorem dX7_reset_12 : decode cX7_reset 12 = .ok (.putfield 137, 3) := by decide +kernel
theorem dX7_reset_15 : decode cX7_reset 15 = .ok (.aload_n 0, 1) := by decide +kernel
theorem dX7_reset_16 : decode cX7_reset 16 = .ok (.invokevirtual 283, 3) := by decide +kernel
theorem dX7_reset_19 : decode cX7_reset 19 = .ok (.return_, 1) := by decide +kernel
theorem dX7_run_0 : decode cX7_run 0 = .ok (.aload_n 0, 1) := by decide +kernel
theorem dX7_run_1 : decode cX7_run 1 = .ok (.aload_n 0, 1) := by decide +kernel
theorem dX7_run_2 : decode cX7_run 2 = .ok (.getfield 126, 3) := by decide +kernel
theorem dX7_run_5 : decode cX7_run 5 = .ok (.iconst 2, 1) := by decide +kernel
theorem dX7_run_6 : decode cX7_run 6 = .ok (.if_icmp .eq 7, 3) := by decide +kernel
theorem dX7_run_9 : decode cX7_run 9 = .ok (.iconst 1, 1) := by decide +kernel
theorem dX7_run_10 : decode cX7_run 10 = .ok (.goto 4, 3) := by decide +kernel
theorem dX7_run_14 : decode cX7_run 14 = .ok (.invokevirtual 129, 3) := by decide +kernel
theorem dX7_run_17 : decode cX7_run 17 = .ok (.ifCond .eq 5, 3) := by decide +kernel
theorem dX7_run_20 : decode cX7_run 20 = .ok (.iconst 0, 1) := by decide +kernel
theorem dX7_run_21 : decode cX7_run 21 = .ok (.ireturn, 1) := by decide +kernel
theorem dX7_thrown_0 : decode cX7_thrown 0 = .ok (.aload_n 0, 1) := by decide +kernel
theorem dX7_thrown_1 : decode cX7_thrown 1 = .ok (.getfield 117, 3) := by decide +kernel
theorem dX7_thrown_4 : decode cX7_thrown 4 = .ok (.ireturn, 1) := by decide +kernel
theorem dX7_token_0 : decode cX7_token 0 = .ok (.aload_n 0, 1) := by decide +kernel
theorem dX7_token_1 : decode cX7_token 1 = .ok (.aload_n 0, 1) := by decide +kernel
theorem dX7_token_2 : decode cX7_token 2 = .ok (.getfield 126, 3) := by decide +kernel
theorem dX7_token_5 : decode cX7_token 5 = .ok (.ifCond .eq 7, 3) := by decide +kernel
theorem dX7_token_12 : decode cX7_token 12 = .ok (.iconst 0, 1) := by decide +kernel
theorem dX7_token_13 : decode cX7_token 13 = .ok (.invokevirtual 129, 3) := by decide +kernel
theorem dX7_token_16 : decode cX7_token 16 = .ok (.ifCond .ne 19, 3) := by decide +kernel
theorem dX7_token_19 : decode cX7_token 19 = .ok (.iload_n 1, 1) := by decide +kernel
theorem dX7_token_20 : decode cX7_token 20 = .ok (.invokestatic 133, 3) := by decide +kernel
theorem dX7_token_23 : decode cX7_token 23 = .ok (.ifCond .eq 12, 3) := by decide +kernel
theorem dX7_token_26 : decode cX7_token 26 = .ok (.aload_n 0, 1) := by decide +kernel
theorem dX7_token_27 : decode cX7_token 27 = .ok (.getfield 137, 3) := by decide +kernel
theorem dX7_token_30 : decode cX7_token 30 = .ok (.bipush 60, 2) := by decide +kernel
theorem dX7_token_32 : decode cX7_token 32 = .ok (.if_icmp .ne 5, 3) := by decide +kernel
theorem dX7_token_35 : decode cX7_token 35 = .ok (.iconst 0, 1) := by decide +kernel
theorem dX7_token_36 : decode cX7_token 36 = .ok (.ireturn, 1) := by decide +kernel
theorem dX7_token_37 : decode cX7_token 37 = .ok (.aload_n 0, 1) := by decide +kernel
theorem dX7_token_38 : decode cX7_token 38 = .ok (.getfield 7, 3) := by decide +kernel
theorem dX7_token_41 : decode cX7_token 41 = .ok (.aload_n 0, 1) := by decide +kernel
theorem dX7_token_42 : decode cX7_token 42 = .ok (.getfield 137, 3) := by decide +kernel
theorem dX7_token_45 : decode cX7_token 45 = .ok (.iload_n 1, 1) := by decide +kernel
theorem dX7_token_46 : decode cX7_token 46 = .ok (.iastore, 1) := by decide +kernel
theorem dX7_token_47 : decode cX7_token 47 = .ok (.aload_n 0, 1) := by decide +kernel
theorem dX7_token_48 : decode cX7_token 48 = .ok (.dup, 1) := by decide +kernel
theorem dX7_token_49 : decode cX7_token 49 = .ok (.getfield 137, 3) := by decide +kernel
theorem dX7_token_52 : decode cX7_token 52 = .ok (.iconst 1, 1) := by decide +kernel
theorem dX7_token_53 : decode cX7_token 53 = .ok (.iadd, 1) := by decide +kernel
theorem dX7_token_54 : decode cX7_token 54 = .ok (.putfield 137, 3) := by decide +kernel
theorem dX7_token_57 : decode cX7_token 57 = .ok (.iconst 1, 1) := by decide +kernel
theorem dX7_token_58 : decode cX7_token 58 = .ok (.ireturn, 1) := by decide +kernel
theorem dX7_typeAt_0 : decode cX7_typeAt 0 = .ok (.aload_n 0, 1) := by decide +kernel
theorem dX7_typeAt_1 : decode cX7_typeAt 1 = .ok (.aload_n 0, 1) := by decide +kernel
theorem dX7_typeAt_2 : decode cX7_typeAt 2 = .ok (.getfield 126, 3) := by decide +kernel
theorem dX7_typeAt_5 : decode cX7_typeAt 5 = .ok (.iconst 2, 1) := by decide +kernel
theorem dX7_typeAt_6 : decode cX7_typeAt 6 = .ok (.if_icmp .ne 15, 3) := by decide +kernel
theorem dX7_typeAt_21 : decode cX7_typeAt 21 = .ok (.iconst 1, 1) := by decide +kernel
theorem dX7_typeAt_22 : decode cX7_typeAt 22 = .ok (.goto 4, 3) := by decide +kernel
theorem dX7_typeAt_26 : decode cX7_typeAt 26 = .ok (.invokevirtual 129, 3) := by decide +kernel
theorem dX7_typeAt_29 : decode cX7_typeAt 29 = .ok (.ifCond .eq 7, 3) := by decide +kernel
theorem dX7_typeAt_32 : decode cX7_typeAt 32 = .ok (.iconst 0, 1) := by decide +kernel
theorem dX7_typeAt_33 : decode cX7_typeAt 33 = .ok (.goto 9, 3) := by decide +kernel
theorem dX7_typeAt_42 : decode cX7_typeAt 42 = .ok (.ireturn, 1) := by decide +kernel
theorem dX7_typeSize_0 : decode cX7_typeSize 0 = .ok (.aload_n 0, 1) := by decide +kernel
theorem dX7_typeSize_1 : decode cX7_typeSize 1 = .ok (.iconst 0, 1) := by decide +kernel
theorem dX7_typeSize_2 : decode cX7_typeSize 2 = .ok (.putfield 117, 3) := by decide +kernel
theorem dX7_typeSize_5 : decode cX7_typeSize 5 = .ok (.aload_n 0, 1) := by decide +kernel
theorem dX7_typeSize_6 : decode cX7_typeSize 6 = .ok (.getfield 126, 3) := by decide +kernel
theorem dX7_typeSize_9 : decode cX7_typeSize 9 = .ok (.iconst 2, 1) := by decide +kernel
theorem dX7_typeSize_10 : decode cX7_typeSize 10 = .ok (.if_icmp .ne 10, 3) := by decide +kernel
theorem dX7_typeSize_20 : decode cX7_typeSize 20 = .ok (.iconst (-1), 1) := by decide +kernel
theorem dX7_typeSize_21 : decode cX7_typeSize 21 = .ok (.ireturn, 1) := by decide +kernel
theorem dX7_used_0 : decode cX7_used 0 = .ok (.aload_n 0, 1) := by decide +kernel
theorem dX7_used_1 : decode cX7_used 1 = .ok (.iconst 0, 1) := by decide +kernel
theorem dX7_used_2 : decode cX7_used 2 = .ok (.putfield 117, 3) := by decide +kernel
theorem dX7_used_5 : decode cX7_used 5 = .ok (.iload_n 1, 1) := by decide +kernel
theorem dX7_used_6 : decode cX7_used 6 = .ok (.ifCond .ne 10, 3) := by decide +kernel
theorem dX7_used_9 : decode cX7_used 9 = .ok (.aload_n 0, 1) := by decide +kernel
theorem dX7_used_10 : decode cX7_used 10 = .ok (.getfield 286, 3) := by decide +kernel
theorem dX7_used_13 : decode cX7_used 13 = .ok (.goto 28, 3) := by decide +kernel
theorem dX7_used_16 : decode cX7_used 16 = .ok (.iload_n 1, 1) := by decide +kernel
theorem dX7_used_17 : decode cX7_used 17 = .ok (.iconst 1, 1) := by decide +kernel
theorem dX7_used_18 : decode cX7_used 18 = .ok (.if_icmp .ne 10, 3) := by decide +kernel
theorem dX7_used_21 : decode cX7_used 21 = .ok (.aload_n 0, 1) := by decide +kernel
theorem dX7_used_22 : decode cX7_used 22 = .ok (.getfield 289, 3) := by decide +kernel
theorem dX7_used_25 : decode cX7_used 25 = .ok (.goto 16, 3) := by decide +kernel
theorem dX7_used_28 : decode cX7_used 28 = .ok (.iload_n 1, 1) := by decide +kernel
theorem dX7_used_29 : decode cX7_used 29 = .ok (.iconst 2, 1) := by decide +kernel
theorem dX7_used_30 : decode cX7_used 30 = .ok (.if_icmp .ne 10, 3) := by decide +kernel
theorem dX7_used_33 : decode cX7_used 33 = .ok (.aload_n 0, 1) := by decide +kernel
theorem dX7_used_34 : decode cX7_used 34 = .ok (.getfield 292, 3) := by decide +kernel
theorem dX7_used_37 : decode cX7_used 37 = .ok (.goto 4, 3) := by decide +kernel
theorem dX7_used_40 : decode cX7_used 40 = .ok (.iconst (-1), 1) := by decide +kernel
theorem dX7_used_41 : decode cX7_used 41 = .ok (.ireturn, 1) := by decide +kernel

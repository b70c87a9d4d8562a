theorem d_Mdl_put_56 : decode b_Mdl_put 56 = .ok (.getfield 30, 3) := by decide +kernel
theorem d_Mdl_put_59 : decode b_Mdl_put 59 = .ok (.ireturn, 1) := by decide +kernel
theorem d_Mdl_at_0 : decode b_Mdl_at 0 = .ok (.aload_n 0, 1) := by decide +kernel
theorem d_Mdl_at_1 : decode b_Mdl_at 1 = .ok (.iload_n 1, 1) := by decide +kernel
theorem d_Mdl_at_2 : decode b_Mdl_at 2 = .ok (.iconst (-1), 1) := by decide +kernel
theorem d_Mdl_at_3 : decode b_Mdl_at 3 = .ok (.aload_n 0, 1) := by decide +kernel
theorem d_Mdl_at_4 : decode b_Mdl_at 4 = .ok (.getfield 30, 3) := by decide +kernel
theorem d_Mdl_at_7 : decode b_Mdl_at 7 = .ok (.iconst 1, 1) := by decide +kernel
theorem d_Mdl_at_8 : decode b_Mdl_at 8 = .ok (.isub, 1) := by decide +kernel
theorem d_Mdl_at_9 : decode b_Mdl_at 9 = .ok (.invokestatic 40, 3) := by decide +kernel
theorem d_Mdl_at_12 : decode b_Mdl_at 12 = .ok (.iconst 0, 1) := by decide +kernel
theorem d_Mdl_at_13 : decode b_Mdl_at 13 = .ok (.iconst 0, 1) := by decide +kernel
theorem d_Mdl_at_14 : decode b_Mdl_at 14 = .ok (.invokevirtual 44, 3) := by decide +kernel
theorem d_Mdl_at_17 : decode b_Mdl_at 17 = .ok (.ifCond .eq 5, 3) := by decide +kernel
theorem d_Mdl_at_20 : decode b_Mdl_at 20 = .ok (.iconst 0, 1) := by decide +kernel
theorem d_Mdl_at_21 : decode b_Mdl_at 21 = .ok (.ireturn, 1) := by decide +kernel
theorem d_Mdl_at_22 : decode b_Mdl_at 22 = .ok (.iload_n 1, 1) := by decide +kernel
theorem d_Mdl_at_23 : decode b_Mdl_at 23 = .ok (.ifCond .ge 10, 3) := by decide +kernel
theorem d_Mdl_at_26 : decode b_Mdl_at 26 = .ok (.aload_n 0, 1) := by decide +kernel
theorem d_Mdl_at_27 : decode b_Mdl_at 27 = .ok (.getfield 30, 3) := by decide +kernel
theorem d_Mdl_at_30 : decode b_Mdl_at 30 = .ok (.goto 9, 3) := by decide +kernel
theorem d_Mdl_at_33 : decode b_Mdl_at 33 = .ok (.aload_n 0, 1) := by decide +kernel
theorem d_Mdl_at_34 : decode b_Mdl_at 34 = .ok (.getfield 17, 3) := by decide +kernel
theorem d_Mdl_at_37 : decode b_Mdl_at 37 = .ok (.iload_n 1, 1) := by decide +kernel
theorem d_Mdl_at_38 : decode b_Mdl_at 38 = .ok (.iaload, 1) := by decide +kernel
theorem d_Mdl_at_39 : decode b_Mdl_at 39 = .ok (.ireturn, 1) := by decide +kernel
theorem d_Mdl_context_0 : decode b_Mdl_context 0 = .ok (.aload_n 0, 1) := by decide +kernel
theorem d_Mdl_context_1 : decode b_Mdl_context 1 = .ok (.iload_n 2, 1) := by decide +kernel
theorem d_Mdl_context_2 : decode b_Mdl_context 2 = .ok (.iconst 0, 1) := by decide +kernel
theorem d_Mdl_context_3 : decode b_Mdl_context 3 = .ok (.bipush 18, 2) := by decide +kernel
theorem d_Mdl_context_5 : decode b_Mdl_context 5 = .ok (.invokestatic 40, 3) := by decide +kernel
theorem d_Mdl_context_8 : decode b_Mdl_context 8 = .ok (.ifCond .ne 23, 3) := by decide +kernel
theorem d_Mdl_context_11 : decode b_Mdl_context 11 = .ok (.iload_n 3, 1) := by decide +kernel
theorem d_Mdl_context_12 : decode b_Mdl_context 12 = .ok (.iconst 0, 1) := by decide +kernel
theorem d_Mdl_context_13 : decode b_Mdl_context 13 = .ok (.bipush 46, 2) := by decide +kernel
theorem d_Mdl_context_15 : decode b_Mdl_context 15 = .ok (.invokestatic 40, 3) := by decide +kernel
theorem d_Mdl_context_18 : decode b_Mdl_context 18 = .ok (.ifCond .ne 13, 3) := by decide +kernel
theorem d_Mdl_context_21 : decode b_Mdl_context 21 = .ok (.iload 4, 2) := by decide +kernel
theorem d_Mdl_context_23 : decode b_Mdl_context 23 = .ok (.iconst 0, 1) := by decide +kernel
theorem d_Mdl_context_24 : decode b_Mdl_context 24 = .ok (.iconst 1, 1) := by decide +kernel
theorem d_Mdl_context_25 : decode b_Mdl_context 25 = .ok (.invokestatic 40, 3) := by decide +kernel
theorem d_Mdl_context_28 : decode b_Mdl_context 28 = .ok (.ifCond .eq 7, 3) := by decide +kernel
theorem d_Mdl_context_31 : decode b_Mdl_context 31 = .ok (.iconst 1, 1) := by decide +kernel
theorem d_Mdl_context_32 : decode b_Mdl_context 32 = .ok (.goto 4, 3) := by decide +kernel
theorem d_Mdl_context_35 : decode b_Mdl_context 35 = .ok (.iconst 0, 1) := by decide +kernel
theorem d_Mdl_context_36 : decode b_Mdl_context 36 = .ok (.iconst 0, 1) := by decide +kernel
theorem d_Mdl_context_37 : decode b_Mdl_context 37 = .ok (.iconst 0, 1) := by decide +kernel
theorem d_Mdl_context_38 : decode b_Mdl_context 38 = .ok (.invokevirtual 44, 3) := by decide +kernel
theorem d_Mdl_context_41 : decode b_Mdl_context 41 = .ok (.ifCond .eq 4, 3) := by decide +kernel
theorem d_Mdl_context_44 : decode b_Mdl_context 44 = .ok (.return_, 1) := by decide +kernel
theorem d_Mdl_context_45 : decode b_Mdl_context 45 = .ok (.iload_n 1, 1) := by decide +kernel
theorem d_Mdl_context_46 : decode b_Mdl_context 46 = .ok (.ifCond .eq 10, 3) := by decide +kernel
theorem d_Mdl_context_49 : decode b_Mdl_context 49 = .ok (.bipush 19, 2) := by decide +kernel
theorem d_Mdl_context_51 : decode b_Mdl_context 51 = .ok (.iload_n 2, 1) := by decide +kernel
theorem d_Mdl_context_52 : decode b_Mdl_context 52 = .ok (.iadd, 1) := by decide +kernel
theorem d_Mdl_context_53 : decode b_Mdl_context 53 = .ok (.goto 4, 3) := by decide +kernel
theorem d_Mdl_context_56 : decode b_Mdl_context 56 = .ok (.iload_n 2, 1) := by decide +kernel
theorem d_Mdl_context_57 : decode b_Mdl_context 57 = .ok (.istore 5, 2) := by decide +kernel
theorem d_Mdl_context_59 : decode b_Mdl_context 59 = .ok (.aload_n 0, 1) := by decide +kernel
theorem d_Mdl_context_60 : decode b_Mdl_context 60 = .ok (.getfield 20, 3) := by decide +kernel
theorem d_Mdl_context_63 : decode b_Mdl_context 63 = .ok (.iload 5, 2) := by decide +kernel
theorem d_Mdl_context_65 : decode b_Mdl_context 65 = .ok (.iload_n 3, 1) := by decide +kernel
theorem d_Mdl_context_66 : decode b_Mdl_context 66 = .ok (.iastore, 1) := by decide +kernel
theorem d_Mdl_context_67 : decode b_Mdl_context 67 = .ok (.aload_n 0, 1) := by decide +kernel
theorem d_Mdl_context_68 : decode b_Mdl_context 68 = .ok (.getfield 23, 3) := by decide +kernel
theorem d_Mdl_context_71 : decode b_Mdl_context 71 = .ok (.iload 5, 2) := by decide +kernel
theorem d_Mdl_context_73 : decode b_Mdl_context 73 = .ok (.iload 4, 2) := by decide +kernel
theorem d_Mdl_context_75 : decode b_Mdl_context 75 = .ok (.iastore, 1) := by decide +kernel
theorem d_Mdl_context_76 : decode b_Mdl_context 76 = .ok (.return_, 1) := by decide +kernel
theorem d_Mdl_state_0 : decode b_Mdl_state 0 = .ok (.aload_n 0, 1) := by decide +kernel
theorem d_Mdl_state_1 : decode b_Mdl_state 1 = .ok (.iload_n 2, 1) := by decide +kernel
theorem d_Mdl_state_2 : decode b_Mdl_state 2 = .ok (.iconst 0, 1) := by decide +kernel
theorem d_Mdl_state_3 : decode b_Mdl_state 3 = .ok (.bipush 18, 2) := by decide +kernel
theorem d_Mdl_state_5 : decode b_Mdl_state 5 = .ok (.invokestatic 40, 3) := by decide +kernel
theorem d_Mdl_state_8 : decode b_Mdl_state 8 = .ok (.iconst 0, 1) := by decide +kernel
theorem d_Mdl_state_9 : decode b_Mdl_state 9 = .ok (.iconst 0, 1) := by decide +kernel
theorem d_Mdl_state_10 : decode b_Mdl_state 10 = .ok (.invokevirtual 44, 3) := by decide +kernel
theorem d_Mdl_state_13 : decode b_Mdl_state 13 = .ok (.ifCond .eq 5, 3) := by decide +kernel
theorem d_Mdl_state_16 : decode b_Mdl_state 16 = .ok (.iconst 0, 1) := by decide +kernel
theorem d_Mdl_state_17 : decode b_Mdl_state 17 = .ok (.ireturn, 1) := by decide +kernel
theorem d_Mdl_state_18 : decode b_Mdl_state 18 = .ok (.iload_n 1, 1) := by decide +kernel
theorem d_Mdl_state_19 : decode b_Mdl_state 19 = .ok (.ifCond .eq 10, 3) := by decide +kernel
theorem d_Mdl_state_22 : decode b_Mdl_state 22 = .ok (.bipush 19, 2) := by decide +kernel
theorem d_Mdl_state_24 : decode b_Mdl_state 24 = .ok (.iload_n 2, 1) := by decide +kernel
theorem d_Mdl_state_25 : decode b_Mdl_state 25 = .ok (.iadd, 1) := by decide +kernel
theorem d_Mdl_state_26 : decode b_Mdl_state 26 = .ok (.goto 4, 3) := by decide +kernel
theorem d_Mdl_state_29 : decode b_Mdl_state 29 = .ok (.iload_n 2, 1) := by decide +kernel
theorem d_Mdl_state_30 : decode b_Mdl_state 30 = .ok (.istore_n 3, 1) := by decide +kernel
theorem d_Mdl_state_31 : decode b_Mdl_state 31 = .ok (.iconst 2, 1) := by decide +kernel
theorem d_Mdl_state_32 : decode b_Mdl_state 32 = .ok (.aload_n 0, 1) := by decide +kernel
theorem d_Mdl_state_33 : decode b_Mdl_state 33 = .ok (.getfield 20, 3) := by decide +kernel
theorem d_Mdl_state_36 : decode b_Mdl_state 36 = .ok (.iload_n 3, 1) := by decide +kernel
theorem d_Mdl_state_37 : decode b_Mdl_state 37 = .ok (.iaload, 1) := by decide +kernel
theorem d_Mdl_state_38 : decode b_Mdl_state 38 = .ok (.imul, 1) := by decide +kernel
theorem d_Mdl_state_39 : decode b_Mdl_state 39 = .ok (.aload_n 0, 1) := by decide +kernel
theorem d_Mdl_state_40 : decode b_Mdl_state 40 = .ok (.getfield 23, 3) := by decide +kernel
theorem d_Mdl_state_43 : decode b_Mdl_state 43 = .ok (.iload_n 3, 1) := by decide +kernel
theorem d_Mdl_state_44 : decode b_Mdl_state 44 = .ok (.iaload, 1) := by decide +kernel
theorem d_Mdl_state_45 : decode b_Mdl_state 45 = .ok (.iadd, 1) := by decide +kernel
theorem d_Mdl_state_46 : decode b_Mdl_state 46 = .ok (.ireturn, 1) := by decide +kernel
theorem d_Mdl_nextOf_0 : decode b_Mdl_nextOf 0 = .ok (.iload_n 0, 1) := by decide +kernel
theorem d_Mdl_nextOf_1 : decode b_Mdl_nextOf 1 = .ok (.iconst 5, 1) := by decide +kernel
theorem d_Mdl_nextOf_2 : decode b_Mdl_nextOf 2 = .ok (.if_icmp .ne 8, 3) := by decide +kernel
theorem d_Mdl_nextOf_5 : decode b_Mdl_nextOf 5 = .ok (.bipush 38, 2) := by decide +kernel
theorem d_Mdl_nextOf_7 : decode b_Mdl_nextOf 7 = .ok (.goto 33, 3) := by decide +kernel
theorem d_Mdl_nextOf_10 : decode b_Mdl_nextOf 10 = .ok (.iload_n 0, 1) := by decide +kernel
theorem d_Mdl_nextOf_11 : decode b_Mdl_nextOf 11 = .ok (.bipush 13, 2) := by decide +kernel
theorem d_Mdl_nextOf_13 : decode b_Mdl_nextOf 13 = .ok (.if_icmp .ne 8, 3) := by decide +kernel
theorem d_Mdl_nextOf_16 : decode b_Mdl_nextOf 16 = .ok (.bipush 29, 2) := by decide +kernel
theorem d_Mdl_nextOf_18 : decode b_Mdl_nextOf 18 = .ok (.goto 22, 3) := by decide +kernel
theorem d_Mdl_nextOf_21 : decode b_Mdl_nextOf 21 = .ok (.iload_n 0, 1) := by decide +kernel
theorem d_Mdl_nextOf_22 : decode b_Mdl_nextOf 22 = .ok (.bipush 45, 2) := by decide +kernel
theorem d_Mdl_nextOf_24 : decode b_Mdl_nextOf 24 = .ok (.if_icmp .eq 9, 3) := by decide +kernel
theorem d_Mdl_nextOf_27 : decode b_Mdl_nextOf 27 = .ok (.iload_n 0, 1) := by decide +kernel
theorem d_Mdl_nextOf_28 : decode b_Mdl_nextOf 28 = .ok (.bipush 46, 2) := by decide +kernel
theorem d_Mdl_nextOf_30 : decode b_Mdl_nextOf 30 = .ok (.if_icmp .ne 7, 3) := by decide +kernel
theorem d_Mdl_nextOf_33 : decode b_Mdl_nextOf 33 = .ok (.iload_n 0, 1) := by decide +kernel
theorem d_Mdl_nextOf_34 : decode b_Mdl_nextOf 34 = .ok (.goto 6, 3) := by decide +kernel
theorem d_Mdl_nextOf_37 : decode b_Mdl_nextOf 37 = .ok (.iload_n 0, 1) := by decide +kernel
theorem d_Mdl_nextOf_38 : decode b_Mdl_nextOf 38 = .ok (.iconst 1, 1) := by decide +kernel
theorem d_Mdl_nextOf_39 : decode b_Mdl_nextOf 39 = .ok (.iadd, 1) := by decide +kernel
theorem d_Mdl_nextOf_40 : decode b_Mdl_nextOf 40 = .ok (.ireturn, 1) := by decide +kernel
theorem d_Mdl_change_0 : decode b_Mdl_change 0 = .ok (.aload_n 0, 1) := by decide +kernel
theorem d_Mdl_change_1 : decode b_Mdl_change 1 = .ok (.getfield 20, 3) := by decide +kernel
theorem d_Mdl_change_4 : decode b_Mdl_change 4 = .ok (.iload_n 1, 1) := by decide +kernel
theorem d_Mdl_change_5 : decode b_Mdl_change 5 = .ok (.iaload, 1) := by decide +kernel
theorem d_Mdl_change_6 : decode b_Mdl_change 6 = .ok (.istore_n 3, 1) := by decide +kernel
theorem d_Mdl_change_7 : decode b_Mdl_change 7 = .ok (.iload_n 2, 1) := by decide +kernel
theorem d_Mdl_change_8 : decode b_Mdl_change 8 = .ok (.ifCond .ne 33, 3) := by decide +kernel
theorem d_Mdl_change_11 : decode b_Mdl_change 11 = .ok (.iload_n 3, 1) := by decide +kernel
theorem d_Mdl_change_12 : decode b_Mdl_change 12 = .ok (.ifCond .eq 15, 3) := by decide +kernel
theorem d_Mdl_change_15 : decode b_Mdl_change 15 = .ok (.iload_n 3, 1) := by decide +kernel
theorem d_Mdl_change_16 : decode b_Mdl_change 16 = .ok (.bipush 6, 2) := by decide +kernel
theorem d_Mdl_change_18 : decode b_Mdl_change 18 = .ok (.if_icmp .eq 9, 3) := by decide +kernel
theorem d_Mdl_change_21 : decode b_Mdl_change 21 = .ok (.iload_n 3, 1) := by decide +kernel
theorem d_Mdl_change_22 : decode b_Mdl_change 22 = .ok (.bipush 14, 2) := by decide +kernel
theorem d_Mdl_change_24 : decode b_Mdl_change 24 = .ok (.if_icmp .ne 17, 3) := by decide +kernel
theorem d_Mdl_change_27 : decode b_Mdl_change 27 = .ok (.aload_n 0, 1) := by decide +kernel
theorem d_Mdl_change_28 : decode b_Mdl_change 28 = .ok (.getfield 23, 3) := by decide +kernel
theorem d_Mdl_change_31 : decode b_Mdl_change 31 = .ok (.iload_n 1, 1) := by decide +kernel
theorem d_Mdl_change_32 : decode b_Mdl_change 32 = .ok (.iconst 1, 1) := by decide +kernel
theorem d_Mdl_change_33 : decode b_Mdl_change 33 = .ok (.aload_n 0, 1) := by decide +kernel
theorem d_Mdl_change_34 : decode b_Mdl_change 34 = .ok (.getfield 23, 3) := by decide +kernel
theorem d_Mdl_change_37 : decode b_Mdl_change 37 = .ok (.iload_n 1, 1) := by decide +kernel
theorem d_Mdl_change_38 : decode b_Mdl_change 38 = .ok (.iaload, 1) := by decide +kernel
theorem d_Mdl_change_39 : decode b_Mdl_change 39 = .ok (.isub, 1) := by decide +kernel
theorem d_Mdl_change_40 : decode b_Mdl_change 40 = .ok (.iastore, 1) := by decide +kernel
theorem d_Mdl_change_41 : decode b_Mdl_change 41 = .ok (.aload_n 0, 1) := by decide +kernel
theorem d_Mdl_change_42 : decode b_Mdl_change 42 = .ok (.getfield 20, 3) := by decide +kernel
theorem d_Mdl_change_45 : decode b_Mdl_change 45 = .ok (.iload_n 1, 1) := by decide +kernel
theorem d_Mdl_change_46 : decode b_Mdl_change 46 = .ok (.iload_n 2, 1) := by decide +kernel
theorem d_Mdl_change_47 : decode b_Mdl_change 47 = .ok (.ifCond .eq 10, 3) := by decide +kernel
theorem d_Mdl_change_50 : decode b_Mdl_change 50 = .ok (.iload_n 3, 1) := by decide +kernel
theorem d_Mdl_change_51 : decode b_Mdl_change 51 = .ok (.invokestatic 48, 3) := by decide +kernel
theorem d_Mdl_change_54 : decode b_Mdl_change 54 = .ok (.goto 9, 3) := by decide +kernel
theorem d_Mdl_change_57 : decode b_Mdl_change 57 = .ok (.aload_n 0, 1) := by decide +kernel
theorem d_Mdl_change_58 : decode b_Mdl_change 58 = .ok (.getfield 13, 3) := by decide +kernel
theorem d_Mdl_change_61 : decode b_Mdl_change 61 = .ok (.iload_n 3, 1) := by decide +kernel
theorem d_Mdl_change_62 : decode b_Mdl_change 62 = .ok (.iaload, 1) := by decide +kernel
theorem d_Mdl_change_63 : decode b_Mdl_change 63 = .ok (.iastore, 1) := by decide +kernel
theorem d_Mdl_change_64 : decode b_Mdl_change 64 = .ok (.return_, 1) := by decide +kernel
theorem d_Mdl_doublings_0 : decode b_Mdl_doublings 0 = .ok (.iconst 0, 1) := by decide +kernel
theorem d_Mdl_doublings_1 : decode b_Mdl_doublings 1 = .ok (.istore_n 1, 1) := by decide +kernel
theorem d_Mdl_doublings_2 : decode b_Mdl_doublings 2 = .ok (.iload_n 0, 1) := by decide +kernel
theorem d_Mdl_doublings_3 : decode b_Mdl_doublings 3 = .ok (.istore_n 2, 1) := by decide +kernel
theorem d_Mdl_doublings_4 : decode b_Mdl_doublings 4 = .ok (.iload_n 2, 1) := by decide +kernel
theorem d_Mdl_doublings_5 : decode b_Mdl_doublings 5 = .ok (.ldc 52, 2) := by decide +kernel
theorem d_Mdl_doublings_7 : decode b_Mdl_doublings 7 = .ok (.if_icmp .ge 13, 3) := by decide +kernel
theorem d_Mdl_doublings_10 : decode b_Mdl_doublings 10 = .ok (.iload_n 2, 1) := by decide +kernel
theorem d_Mdl_doublings_11 : decode b_Mdl_doublings 11 = .ok (.iload_n 2, 1) := by decide +kernel
theorem d_Mdl_doublings_12 : decode b_Mdl_doublings 12 = .ok (.iadd, 1) := by decide +kernel
theorem d_Mdl_doublings_13 : decode b_Mdl_doublings 13 = .ok (.istore_n 2, 1) := by decide +kernel
theorem d_Mdl_doublings_14 : decode b_Mdl_doublings 14 = .ok (.iinc 1 1, 3) := by decide +kernel
theorem d_Mdl_doublings_17 : decode b_Mdl_doublings 17 = .ok (.goto (-13), 3) := by decide +kernel
theorem d_Mdl_doublings_20 : decode b_Mdl_doublings 20 = .ok (.iload_n 1, 1) := by decide +kernel
theorem d_Mdl_doublings_21 : decode b_Mdl_doublings 21 = .ok (.ireturn, 1) := by decide +kernel
theorem d_Mdl_hasLast_0 : decode b_Mdl_hasLast 0 = .ok (.aload_n 0, 1) := by decide +kernel
theorem d_Mdl_hasLast_1 : decode b_Mdl_hasLast 1 = .ok (.getfield 30, 3) := by decide +kernel
theorem d_Mdl_hasLast_4 : decode b_Mdl_hasLast 4 = .ok (.aload_n 0, 1) := by decide +kernel
theorem d_Mdl_hasLast_5 : decode b_Mdl_hasLast 5 = .ok (.getfield 53, 3) := by decide +kernel
theorem d_Mdl_hasLast_8 : decode b_Mdl_hasLast 8 = .ok (.if_icmp .le 7, 3) := by decide +kernel
theorem d_Mdl_hasLast_11 : decode b_Mdl_hasLast 11 = .ok (.iconst 1, 1) := by decide +kernel
theorem d_Mdl_hasLast_12 : decode b_Mdl_hasLast 12 = .ok (.goto 4, 3) := by decide +kernel
theorem d_Mdl_hasLast_15 : decode b_Mdl_hasLast 15 = .ok (.iconst 0, 1) := by decide +kernel
theorem d_Mdl_hasLast_16 : decode b_Mdl_hasLast 16 = .ok (.ireturn, 1) := by decide +kernel
theorem d_Mdl_takes_0 : decode b_Mdl_takes 0 = .ok (.aload_n 0, 1) := by decide +kernel
theorem d_Mdl_takes_1 : decode b_Mdl_takes 1 = .ok (.invokevirtual 56, 3) := by decide +kernel
theorem d_Mdl_takes_4 : decode b_Mdl_takes 4 = .ok (.ifCond .eq 24, 3) := by decide +kernel
theorem d_Mdl_takes_7 : decode b_Mdl_takes 7 = .ok (.aload_n 0, 1) := by decide +kernel
theorem d_Mdl_takes_8 : decode b_Mdl_takes 8 = .ok (.getfield 17, 3) := by decide +kernel
theorem d_Mdl_takes_11 : decode b_Mdl_takes 11 = .ok (.aload_n 0, 1) := by decide +kernel
theorem d_Mdl_takes_12 : decode b_Mdl_takes 12 = .ok (.getfield 30, 3) := by decide +kernel
theorem d_Mdl_takes_15 : decode b_Mdl_takes 15 = .ok (.iconst 1, 1) := by decide +kernel
theorem d_Mdl_takes_16 : decode b_Mdl_takes 16 = .ok (.isub, 1) := by decide +kernel
theorem d_Mdl_takes_17 : decode b_Mdl_takes 17 = .ok (.iaload, 1) := by decide +kernel
theorem d_Mdl_takes_18 : decode b_Mdl_takes 18 = .ok (.sipush 255, 3) := by decide +kernel
theorem d_Mdl_takes_21 : decode b_Mdl_takes 21 = .ok (.if_icmp .ge 7, 3) := by decide +kernel
theorem d_Mdl_takes_24 : decode b_Mdl_takes 24 = .ok (.iconst 1, 1) := by decide +kernel
theorem d_Mdl_takes_25 : decode b_Mdl_takes 25 = .ok (.goto 4, 3) := by decide +kernel
theorem d_Mdl_takes_28 : decode b_Mdl_takes 28 = .ok (.iconst 0, 1) := by decide +kernel
theorem d_Mdl_takes_29 : decode b_Mdl_takes 29 = .ok (.ireturn, 1) := by decide +kernel
theorem d_Mdl_carry_0 : decode b_Mdl_carry 0 = .ok (.aload_n 0, 1) := by decide +kernel
theorem d_Mdl_carry_1 : decode b_Mdl_carry 1 = .ok (.getfield 60, 3) := by decide +kernel
theorem d_Mdl_carry_4 : decode b_Mdl_carry 4 = .ok (.ifCond .eq 15, 3) := by decide +kernel
theorem d_Mdl_carry_7 : decode b_Mdl_carry 7 = .ok (.iconst 1, 1) := by decide +kernel
theorem d_Mdl_carry_8 : decode b_Mdl_carry 8 = .ok (.bipush 27, 2) := by decide +kernel
theorem d_Mdl_carry_10 : decode b_Mdl_carry 10 = .ok (.aload_n 0, 1) := by decide +kernel
theorem d_Mdl_carry_11 : decode b_Mdl_carry 11 = .ok (.getfield 63, 3) := by decide +kernel
theorem d_Mdl_carry_14 : decode b_Mdl_carry 14 = .ok (.isub, 1) := by decide +kernel
theorem d_Mdl_carry_15 : decode b_Mdl_carry 15 = .ok (.ishl, 1) := by decide +kernel
theorem d_Mdl_carry_16 : decode b_Mdl_carry 16 = .ok (.goto 4, 3) := by decide +kernel
theorem d_Mdl_carry_19 : decode b_Mdl_carry 19 = .ok (.iconst 0, 1) := by decide +kernel
theorem d_Mdl_carry_20 : decode b_Mdl_carry 20 = .ok (.ireturn, 1) := by decide +kernel
theorem d_Mdl_keep_0 : decode b_Mdl_keep 0 = .ok (.aload_n 0, 1) := by decide +kernel
theorem d_Mdl_keep_1 : decode b_Mdl_keep 1 = .ok (.aload_n 0, 1) := by decide +kernel
theorem d_Mdl_keep_2 : decode b_Mdl_keep 2 = .ok (.invokevirtual 66, 3) := by decide +kernel
theorem d_Mdl_keep_5 : decode b_Mdl_keep 5 = .ok (.ifCond .eq 20, 3) := by decide +kernel
theorem d_Mdl_keep_8 : decode b_Mdl_keep 8 = .ok (.iload_n 1, 1) := by decide +kernel
theorem d_Mdl_keep_9 : decode b_Mdl_keep 9 = .ok (.iconst 1, 1) := by decide +kernel
theorem d_Mdl_keep_10 : decode b_Mdl_keep 10 = .ok (.bipush 27, 2) := by decide +kernel
theorem d_Mdl_keep_12 : decode b_Mdl_keep 12 = .ok (.aload_n 0, 1) := by decide +kernel
theorem d_Mdl_keep_13 : decode b_Mdl_keep 13 = .ok (.getfield 63, 3) := by decide +kernel
theorem d_Mdl_keep_16 : decode b_Mdl_keep 16 = .ok (.isub, 1) := by decide +kernel
theorem d_Mdl_keep_17 : decode b_Mdl_keep 17 = .ok (.ishl, 1) := by decide +kernel
theorem d_Mdl_keep_18 : decode b_Mdl_keep 18 = .ok (.if_icmp .lt 7, 3) := by decide +kernel
theorem d_Mdl_keep_21 : decode b_Mdl_keep 21 = .ok (.iconst 1, 1) := by decide +kernel
theorem d_Mdl_keep_22 : decode b_Mdl_keep 22 = .ok (.goto 4, 3) := by decide +kernel
theorem d_Mdl_keep_25 : decode b_Mdl_keep 25 = .ok (.iconst 0, 1) := by decide +kernel
theorem d_Mdl_keep_26 : decode b_Mdl_keep 26 = .ok (.putfield 60, 3) := by decide +kernel
theorem d_Mdl_keep_29 : decode b_Mdl_keep 29 = .ok (.aload_n 0, 1) := by decide +kernel
theorem d_Mdl_keep_30 : decode b_Mdl_keep 30 = .ok (.iload_n 1, 1) := by decide +kernel
theorem d_Mdl_keep_31 : decode b_Mdl_keep 31 = .ok (.aload_n 0, 1) := by decide +kernel
theorem d_Mdl_keep_32 : decode b_Mdl_keep 32 = .ok (.invokevirtual 69, 3) := by decide +kernel
theorem d_Mdl_keep_35 : decode b_Mdl_keep 35 = .ok (.isub, 1) := by decide +kernel
theorem d_Mdl_keep_36 : decode b_Mdl_keep 36 = .ok (.putfield 73, 3) := by decide +kernel
theorem d_Mdl_keep_39 : decode b_Mdl_keep 39 = .ok (.return_, 1) := by decide +kernel
theorem d_Mdl_byteOut_0 : decode b_Mdl_byteOut 0 = .ok (.aload_n 0, 1) := by decide +kernel
theorem d_Mdl_byteOut_1 : decode b_Mdl_byteOut 1 = .ok (.getfield 60, 3) := by decide +kernel
theorem d_Mdl_byteOut_4 : decode b_Mdl_byteOut 4 = .ok (.ifCond .eq 18, 3) := by decide +kernel
theorem d_Mdl_byteOut_7 : decode b_Mdl_byteOut 7 = .ok (.aload_n 0, 1) := by decide +kernel
theorem d_Mdl_byteOut_8 : decode b_Mdl_byteOut 8 = .ok (.getfield 17, 3) := by decide +kernel
theorem d_Mdl_byteOut_11 : decode b_Mdl_byteOut 11 = .ok (.aload_n 0, 1) := by decide +kernel
theorem d_Mdl_byteOut_12 : decode b_Mdl_byteOut 12 = .ok (.getfield 30, 3) := by decide +kernel
theorem d_Mdl_byteOut_15 : decode b_Mdl_byteOut 15 = .ok (.iconst 1, 1) := by decide +kernel
theorem d_Mdl_byteOut_16 : decode b_Mdl_byteOut 16 = .ok (.isub, 1) := by decide +kernel
theorem d_Mdl_byteOut_17 : decode b_Mdl_byteOut 17 = .ok (.dup2, 1) := by decide +kernel
theorem d_Mdl_byteOut_18 : decode b_Mdl_byteOut 18 = .ok (.iaload, 1) := by decide +kernel
theorem d_Mdl_byteOut_19 : decode b_Mdl_byteOut 19 = .ok (.iconst 1, 1) := by decide +kernel
theorem d_Mdl_byteOut_20 : decode b_Mdl_byteOut 20 = .ok (.iadd, 1) := by decide +kernel
theorem d_Mdl_byteOut_21 : decode b_Mdl_byteOut 21 = .ok (.iastore, 1) := by decide +kernel
theorem d_Mdl_byteOut_22 : decode b_Mdl_byteOut 22 = .ok (.aload_n 0, 1) := by decide +kernel
theorem d_Mdl_byteOut_23 : decode b_Mdl_byteOut 23 = .ok (.iconst 0, 1) := by decide +kernel
theorem d_Mdl_byteOut_24 : decode b_Mdl_byteOut 24 = .ok (.putfield 60, 3) := by decide +kernel
theorem d_Mdl_byteOut_27 : decode b_Mdl_byteOut 27 = .ok (.aload_n 0, 1) := by decide +kernel
theorem d_Mdl_byteOut_28 : decode b_Mdl_byteOut 28 = .ok (.aload_n 0, 1) := by decide +kernel
theorem d_Mdl_byteOut_29 : decode b_Mdl_byteOut 29 = .ok (.invokevirtual 56, 3) := by decide +kernel
theorem d_Mdl_byteOut_32 : decode b_Mdl_byteOut 32 = .ok (.ifCond .eq 25, 3) := by decide +kernel
theorem d_Mdl_byteOut_35 : decode b_Mdl_byteOut 35 = .ok (.aload_n 0, 1) := by decide +kernel
theorem d_Mdl_byteOut_36 : decode b_Mdl_byteOut 36 = .ok (.getfield 17, 3) := by decide +kernel
theorem d_Mdl_byteOut_39 : decode b_Mdl_byteOut 39 = .ok (.aload_n 0, 1) := by decide +kernel
theorem d_Mdl_byteOut_40 : decode b_Mdl_byteOut 40 = .ok (.getfield 30, 3) := by decide +kernel
theorem d_Mdl_byteOut_43 : decode b_Mdl_byteOut 43 = .ok (.iconst 1, 1) := by decide +kernel
theorem d_Mdl_byteOut_44 : decode b_Mdl_byteOut 44 = .ok (.isub, 1) := by decide +kernel
theorem d_Mdl_byteOut_45 : decode b_Mdl_byteOut 45 = .ok (.iaload, 1) := by decide +kernel
theorem d_Mdl_byteOut_46 : decode b_Mdl_byteOut 46 = .ok (.sipush 255, 3) := by decide +kernel
theorem d_Mdl_byteOut_49 : decode b_Mdl_byteOut 49 = .ok (.if_icmp .ne 8, 3) := by decide +kernel
theorem d_Mdl_byteOut_52 : decode b_Mdl_byteOut 52 = .ok (.bipush 7, 2) := by decide +kernel
theorem d_Mdl_byteOut_54 : decode b_Mdl_byteOut 54 = .ok (.goto 5, 3) := by decide +kernel
theorem d_Mdl_byteOut_57 : decode b_Mdl_byteOut 57 = .ok (.bipush 8, 2) := by decide +kernel
theorem d_Mdl_byteOut_59 : decode b_Mdl_byteOut 59 = .ok (.putfield 63, 3) := by decide +kernel
theorem d_Mdl_byteOut_62 : decode b_Mdl_byteOut 62 = .ok (.bipush 27, 2) := by decide +kernel
theorem d_Mdl_byteOut_64 : decode b_Mdl_byteOut 64 = .ok (.aload_n 0, 1) := by decide +kernel
theorem d_Mdl_byteOut_65 : decode b_Mdl_byteOut 65 = .ok (.getfield 63, 3) := by decide +kernel
theorem d_Mdl_byteOut_68 : decode b_Mdl_byteOut 68 = .ok (.isub, 1) := by decide +kernel
theorem d_Mdl_byteOut_69 : decode b_Mdl_byteOut 69 = .ok (.istore_n 1, 1) := by decide +kernel
theorem d_Mdl_byteOut_70 : decode b_Mdl_byteOut 70 = .ok (.aload_n 0, 1) := by decide +kernel
theorem d_Mdl_byteOut_71 : decode b_Mdl_byteOut 71 = .ok (.getfield 17, 3) := by decide +kernel
theorem d_Mdl_byteOut_74 : decode b_Mdl_byteOut 74 = .ok (.aload_n 0, 1) := by decide +kernel
theorem d_Mdl_byteOut_75 : decode b_Mdl_byteOut 75 = .ok (.getfield 30, 3) := by decide +kernel
theorem d_Mdl_byteOut_78 : decode b_Mdl_byteOut 78 = .ok (.aload_n 0, 1) := by decide +kernel
theorem d_Mdl_byteOut_79 : decode b_Mdl_byteOut 79 = .ok (.getfield 73, 3) := by decide +kernel
theorem d_Mdl_byteOut_82 : decode b_Mdl_byteOut 82 = .ok (.iload_n 1, 1) := by decide +kernel
theorem d_Mdl_byteOut_83 : decode b_Mdl_byteOut 83 = .ok (.ishr, 1) := by decide +kernel
theorem d_Mdl_byteOut_84 : decode b_Mdl_byteOut 84 = .ok (.sipush 255, 3) := by decide +kernel
theorem d_Mdl_byteOut_87 : decode b_Mdl_byteOut 87 = .ok (.iand, 1) := by decide +kernel
theorem d_Mdl_byteOut_88 : decode b_Mdl_byteOut 88 = .ok (.iastore, 1) := by decide +kernel
theorem d_Mdl_byteOut_89 : decode b_Mdl_byteOut 89 = .ok (.aload_n 0, 1) := by decide +kernel
theorem d_Mdl_byteOut_90 : decode b_Mdl_byteOut 90 = .ok (.aload_n 0, 1) := by decide +kernel
theorem d_Mdl_byteOut_91 : decode b_Mdl_byteOut 91 = .ok (.getfield 73, 3) := by decide +kernel
theorem d_Mdl_byteOut_94 : decode b_Mdl_byteOut 94 = .ok (.iconst 1, 1) := by decide +kernel
theorem d_Mdl_byteOut_95 : decode b_Mdl_byteOut 95 = .ok (.iload_n 1, 1) := by decide +kernel
theorem d_Mdl_byteOut_96 : decode b_Mdl_byteOut 96 = .ok (.ishl, 1) := by decide +kernel
theorem d_Mdl_byteOut_97 : decode b_Mdl_byteOut 97 = .ok (.iconst 1, 1) := by decide +kernel
theorem d_Mdl_byteOut_98 : decode b_Mdl_byteOut 98 = .ok (.isub, 1) := by decide +kernel
theorem d_Mdl_byteOut_99 : decode b_Mdl_byteOut 99 = .ok (.iand, 1) := by decide +kernel
theorem d_Mdl_byteOut_100 : decode b_Mdl_byteOut 100 = .ok (.putfield 73, 3) := by decide +kernel
theorem d_Mdl_byteOut_103 : decode b_Mdl_byteOut 103 = .ok (.aload_n 0, 1) := by decide +kernel
theorem d_Mdl_byteOut_104 : decode b_Mdl_byteOut 104 = .ok (.dup, 1) := by decide +kernel
theorem d_Mdl_byteOut_105 : decode b_Mdl_byteOut 105 = .ok (.getfield 30, 3) := by decide +kernel
theorem d_Mdl_byteOut_108 : decode b_Mdl_byteOut 108 = .ok (.iconst 1, 1) := by decide +kernel
theorem d_Mdl_byteOut_109 : decode b_Mdl_byteOut 109 = .ok (.iadd, 1) := by decide +kernel
theorem d_Mdl_byteOut_110 : decode b_Mdl_byteOut 110 = .ok (.putfield 30, 3) := by decide +kernel
theorem d_Mdl_byteOut_113 : decode b_Mdl_byteOut 113 = .ok (.return_, 1) := by decide +kernel
theorem d_Mdl_push_0 : decode b_Mdl_push 0 = .ok (.aload_n 0, 1) := by decide +kernel
theorem d_Mdl_push_1 : decode b_Mdl_push 1 = .ok (.aload_n 0, 1) := by decide +kernel
theorem d_Mdl_push_2 : decode b_Mdl_push 2 = .ok (.getfield 73, 3) := by decide +kernel
theorem d_Mdl_push_5 : decode b_Mdl_push 5 = .ok (.aload_n 0, 1) := by decide +kernel
theorem d_Mdl_push_6 : decode b_Mdl_push 6 = .ok (.getfield 63, 3) := by decide +kernel
theorem d_Mdl_push_9 : decode b_Mdl_push 9 = .ok (.ishl, 1) := by decide +kernel
theorem d_Mdl_push_10 : decode b_Mdl_push 10 = .ok (.putfield 73, 3) := by decide +kernel
theorem d_Mdl_push_13 : decode b_Mdl_push 13 = .ok (.aload_n 0, 1) := by decide +kernel
theorem d_Mdl_push_14 : decode b_Mdl_push 14 = .ok (.invokevirtual 76, 3) := by decide +kernel
theorem d_Mdl_push_17 : decode b_Mdl_push 17 = .ok (.return_, 1) := by decide +kernel
theorem d_Mdl_writeCoded_0 : decode b_Mdl_writeCoded 0 = .ok (.aload_n 0, 1) := by decide +kernel
theorem d_Mdl_writeCoded_1 : decode b_Mdl_writeCoded 1 = .ok (.getfield 7, 3) := by decide +kernel
theorem d_Mdl_writeCoded_4 : decode b_Mdl_writeCoded 4 = .ok (.aload_n 0, 1) := by decide +kernel
theorem d_Mdl_writeCoded_5 : decode b_Mdl_writeCoded 5 = .ok (.getfield 20, 3) := by decide +kernel
theorem d_Mdl_writeCoded_8 : decode b_Mdl_writeCoded 8 = .ok (.iload_n 1, 1) := by decide +kernel
theorem d_Mdl_writeCoded_9 : decode b_Mdl_writeCoded 9 = .ok (.iaload, 1) := by decide +kernel
theorem d_Mdl_writeCoded_10 : decode b_Mdl_writeCoded 10 = .ok (.iaload, 1) := by decide +kernel
theorem d_Mdl_writeCoded_11 : decode b_Mdl_writeCoded 11 = .ok (.istore_n 3, 1) := by decide +kernel
theorem d_Mdl_writeCoded_12 : decode b_Mdl_writeCoded 12 = .ok (.iload_n 2, 1) := by decide +kernel
theorem d_Mdl_writeCoded_13 : decode b_Mdl_writeCoded 13 = .ok (.aload_n 0, 1) := by decide +kernel
theorem d_Mdl_writeCoded_14 : decode b_Mdl_writeCoded 14 = .ok (.getfield 23, 3) := by decide +kernel
theorem d_Mdl_writeCoded_17 : decode b_Mdl_writeCoded 17 = .ok (.iload_n 1, 1) := by decide +kernel
theorem d_Mdl_writeCoded_18 : decode b_Mdl_writeCoded 18 = .ok (.iaload, 1) := by decide +kernel
theorem d_Mdl_writeCoded_19 : decode b_Mdl_writeCoded 19 = .ok (.if_icmp .ne 7, 3) := by decide +kernel
theorem d_Mdl_writeCoded_22 : decode b_Mdl_writeCoded 22 = .ok (.iconst 1, 1) := by decide +kernel
theorem d_Mdl_writeCoded_23 : decode b_Mdl_writeCoded 23 = .ok (.goto 4, 3) := by decide +kernel
theorem d_Mdl_writeCoded_26 : decode b_Mdl_writeCoded 26 = .ok (.iconst 0, 1) := by decide +kernel
theorem d_Mdl_writeCoded_27 : decode b_Mdl_writeCoded 27 = .ok (.istore 4, 2) := by decide +kernel
theorem d_Mdl_writeCoded_29 : decode b_Mdl_writeCoded 29 = .ok (.aload_n 0, 1) := by decide +kernel
theorem d_Mdl_writeCoded_30 : decode b_Mdl_writeCoded 30 = .ok (.aload_n 0, 1) := by decide +kernel
theorem d_Mdl_writeCoded_31 : decode b_Mdl_writeCoded 31 = .ok (.getfield 79, 3) := by decide +kernel
theorem d_Mdl_writeCoded_34 : decode b_Mdl_writeCoded 34 = .ok (.iload_n 3, 1) := by decide +kernel
theorem d_Mdl_writeCoded_35 : decode b_Mdl_writeCoded 35 = .ok (.isub, 1) := by decide +kernel
theorem d_Mdl_writeCoded_36 : decode b_Mdl_writeCoded 36 = .ok (.putfield 79, 3) := by decide +kernel
theorem d_Mdl_writeCoded_39 : decode b_Mdl_writeCoded 39 = .ok (.aload_n 0, 1) := by decide +kernel
theorem d_Mdl_writeCoded_40 : decode b_Mdl_writeCoded 40 = .ok (.getfield 79, 3) := by decide +kernel
theorem d_Mdl_writeCoded_43 : decode b_Mdl_writeCoded 43 = .ok (.iload_n 3, 1) := by decide +kernel
theorem d_Mdl_writeCoded_44 : decode b_Mdl_writeCoded 44 = .ok (.if_icmp .ge 7, 3) := by decide +kernel
theorem d_Mdl_writeCoded_47 : decode b_Mdl_writeCoded 47 = .ok (.iconst 1, 1) := by decide +kernel
theorem d_Mdl_writeCoded_48 : decode b_Mdl_writeCoded 48 = .ok (.goto 4, 3) := by decide +kernel
theorem d_Mdl_writeCoded_51 : decode b_Mdl_writeCoded 51 = .ok (.iconst 0, 1) := by decide +kernel
theorem d_Mdl_writeCoded_52 : decode b_Mdl_writeCoded 52 = .ok (.istore 5, 2) := by decide +kernel
theorem d_Mdl_writeCoded_54 : decode b_Mdl_writeCoded 54 = .ok (.iload 4, 2) := by decide +kernel
theorem d_Mdl_writeCoded_56 : decode b_Mdl_writeCoded 56 = .ok (.ifCond .eq 16, 3) := by decide +kernel
theorem d_Mdl_writeCoded_59 : decode b_Mdl_writeCoded 59 = .ok (.aload_n 0, 1) := by decide +kernel
theorem d_Mdl_writeCoded_60 : decode b_Mdl_writeCoded 60 = .ok (.getfield 79, 3) := by decide +kernel
theorem d_Mdl_writeCoded_63 : decode b_Mdl_writeCoded 63 = .ok (.ldc 52, 2) := by decide +kernel
theorem d_Mdl_writeCoded_65 : decode b_Mdl_writeCoded 65 = .ok (.if_icmp .lt 7, 3) := by decide +kernel
theorem d_Mdl_writeCoded_68 : decode b_Mdl_writeCoded 68 = .ok (.iconst 1, 1) := by decide +kernel
theorem d_Mdl_writeCoded_69 : decode b_Mdl_writeCoded 69 = .ok (.goto 4, 3) := by decide +kernel
theorem d_Mdl_writeCoded_72 : decode b_Mdl_writeCoded 72 = .ok (.iconst 0, 1) := by decide +kernel
theorem d_Mdl_writeCoded_73 : decode b_Mdl_writeCoded 73 = .ok (.istore 6, 2) := by decide +kernel
theorem d_Mdl_writeCoded_75 : decode b_Mdl_writeCoded 75 = .ok (.iload 6, 2) := by decide +kernel
theorem d_Mdl_writeCoded_77 : decode b_Mdl_writeCoded 77 = .ok (.ifCond .ne 10, 3) := by decide +kernel
theorem d_Mdl_writeCoded_80 : decode b_Mdl_writeCoded 80 = .ok (.iload 4, 2) := by decide +kernel
theorem d_Mdl_writeCoded_82 : decode b_Mdl_writeCoded 82 = .ok (.iload 5, 2) := by decide +kernel
theorem d_Mdl_writeCoded_84 : decode b_Mdl_writeCoded 84 = .ok (.if_icmp .eq 21, 3) := by decide +kernel
theorem d_Mdl_writeCoded_87 : decode b_Mdl_writeCoded 87 = .ok (.aload_n 0, 1) := by decide +kernel
theorem d_Mdl_writeCoded_88 : decode b_Mdl_writeCoded 88 = .ok (.aload_n 0, 1) := by decide +kernel
theorem d_Mdl_writeCoded_89 : decode b_Mdl_writeCoded 89 = .ok (.getfield 73, 3) := by decide +kernel
theorem d_Mdl_writeCoded_92 : decode b_Mdl_writeCoded 92 = .ok (.aload_n 0, 1) := by decide +kernel
theorem d_Mdl_writeCoded_93 : decode b_Mdl_writeCoded 93 = .ok (.invokevirtual 69, 3) := by decide +kernel
theorem d_Mdl_writeCoded_96 : decode b_Mdl_writeCoded 96 = .ok (.iadd, 1) := by decide +kernel
theorem d_Mdl_writeCoded_97 : decode b_Mdl_writeCoded 97 = .ok (.iload_n 3, 1) := by decide +kernel
theorem d_Mdl_writeCoded_98 : decode b_Mdl_writeCoded 98 = .ok (.iadd, 1) := by decide +kernel
theorem d_Mdl_writeCoded_99 : decode b_Mdl_writeCoded 99 = .ok (.invokevirtual 82, 3) := by decide +kernel
theorem d_Mdl_writeCoded_102 : decode b_Mdl_writeCoded 102 = .ok (.goto 8, 3) := by decide +kernel
theorem d_Mdl_writeCoded_105 : decode b_Mdl_writeCoded 105 = .ok (.aload_n 0, 1) := by decide +kernel
theorem d_Mdl_writeCoded_106 : decode b_Mdl_writeCoded 106 = .ok (.iload_n 3, 1) := by decide +kernel
theorem d_Mdl_writeCoded_107 : decode b_Mdl_writeCoded 107 = .ok (.putfield 79, 3) := by decide +kernel
theorem d_Mdl_writeCoded_110 : decode b_Mdl_writeCoded 110 = .ok (.iload 6, 2) := by decide +kernel
theorem d_Mdl_writeCoded_112 : decode b_Mdl_writeCoded 112 = .ok (.ifCond .eq 4, 3) := by decide +kernel
theorem d_Mdl_writeCoded_115 : decode b_Mdl_writeCoded 115 = .ok (.return_, 1) := by decide +kernel
theorem d_Mdl_writeCoded_116 : decode b_Mdl_writeCoded 116 = .ok (.aload_n 0, 1) := by decide +kernel
theorem d_Mdl_writeCoded_117 : decode b_Mdl_writeCoded 117 = .ok (.iload_n 1, 1) := by decide +kernel
theorem d_Mdl_writeCoded_118 : decode b_Mdl_writeCoded 118 = .ok (.iload 4, 2) := by decide +kernel
theorem d_Mdl_writeCoded_120 : decode b_Mdl_writeCoded 120 = .ok (.invokevirtual 86, 3) := by decide +kernel
theorem d_Mdl_writeCoded_123 : decode b_Mdl_writeCoded 123 = .ok (.aload_n 0, 1) := by decide +kernel
theorem d_Mdl_writeCoded_124 : decode b_Mdl_writeCoded 124 = .ok (.getfield 79, 3) := by decide +kernel
theorem d_Mdl_writeCoded_127 : decode b_Mdl_writeCoded 127 = .ok (.invokestatic 90, 3) := by decide +kernel
theorem d_Mdl_writeCoded_130 : decode b_Mdl_writeCoded 130 = .ok (.istore 7, 2) := by decide +kernel
theorem d_Mdl_writeCoded_132 : decode b_Mdl_writeCoded 132 = .ok (.aload_n 0, 1) := by decide +kernel
theorem d_Mdl_writeCoded_133 : decode b_Mdl_writeCoded 133 = .ok (.aload_n 0, 1) := by decide +kernel
theorem d_Mdl_writeCoded_134 : decode b_Mdl_writeCoded 134 = .ok (.getfield 79, 3) := by decide +kernel
theorem d_Mdl_writeCoded_137 : decode b_Mdl_writeCoded 137 = .ok (.iload 7, 2) := by decide +kernel
theorem d_Mdl_writeCoded_139 : decode b_Mdl_writeCoded 139 = .ok (.ishl, 1) := by decide +kernel
theorem d_Mdl_writeCoded_140 : decode b_Mdl_writeCoded 140 = .ok (.putfield 79, 3) := by decide +kernel
theorem d_Mdl_writeCoded_143 : decode b_Mdl_writeCoded 143 = .ok (.iload 7, 2) := by decide +kernel
theorem d_Mdl_writeCoded_145 : decode b_Mdl_writeCoded 145 = .ok (.ifCond .le 66, 3) := by decide +kernel
theorem d_Mdl_writeCoded_148 : decode b_Mdl_writeCoded 148 = .ok (.iload 7, 2) := by decide +kernel
theorem d_Mdl_writeCoded_150 : decode b_Mdl_writeCoded 150 = .ok (.aload_n 0, 1) := by decide +kernel
theorem d_Mdl_writeCoded_151 : decode b_Mdl_writeCoded 151 = .ok (.getfield 63, 3) := by decide +kernel
theorem d_Mdl_writeCoded_154 : decode b_Mdl_writeCoded 154 = .ok (.if_icmp .ge 8, 3) := by decide +kernel
theorem d_Mdl_writeCoded_157 : decode b_Mdl_writeCoded 157 = .ok (.iload 7, 2) := by decide +kernel
theorem d_Mdl_writeCoded_159 : decode b_Mdl_writeCoded 159 = .ok (.goto 7, 3) := by decide +kernel
theorem d_Mdl_writeCoded_162 : decode b_Mdl_writeCoded 162 = .ok (.aload_n 0, 1) := by decide +kernel
theorem d_Mdl_writeCoded_163 : decode b_Mdl_writeCoded 163 = .ok (.getfield 63, 3) := by decide +kernel
theorem d_Mdl_writeCoded_166 : decode b_Mdl_writeCoded 166 = .ok (.istore 8, 2) := by decide +kernel
theorem d_Mdl_writeCoded_168 : decode b_Mdl_writeCoded 168 = .ok (.aload_n 0, 1) := by decide +kernel
theorem d_Mdl_writeCoded_169 : decode b_Mdl_writeCoded 169 = .ok (.aload_n 0, 1) := by decide +kernel
theorem d_Mdl_writeCoded_170 : decode b_Mdl_writeCoded 170 = .ok (.getfield 73, 3) := by decide +kernel
theorem d_Mdl_writeCoded_173 : decode b_Mdl_writeCoded 173 = .ok (.iload 8, 2) := by decide +kernel
theorem d_Mdl_writeCoded_175 : decode b_Mdl_writeCoded 175 = .ok (.ishl, 1) := by decide +kernel
theorem d_Mdl_writeCoded_176 : decode b_Mdl_writeCoded 176 = .ok (.putfield 73, 3) := by decide +kernel
theorem d_Mdl_writeCoded_179 : decode b_Mdl_writeCoded 179 = .ok (.iload 7, 2) := by decide +kernel
theorem d_Mdl_writeCoded_181 : decode b_Mdl_writeCoded 181 = .ok (.iload 8, 2) := by decide +kernel
theorem d_Mdl_writeCoded_183 : decode b_Mdl_writeCoded 183 = .ok (.isub, 1) := by decide +kernel
theorem d_Mdl_writeCoded_184 : decode b_Mdl_writeCoded 184 = .ok (.istore 7, 2) := by decide +kernel
theorem d_Mdl_writeCoded_186 : decode b_Mdl_writeCoded 186 = .ok (.aload_n 0, 1) := by decide +kernel
theorem d_Mdl_writeCoded_187 : decode b_Mdl_writeCoded 187 = .ok (.aload_n 0, 1) := by decide +kernel
theorem d_Mdl_writeCoded_188 : decode b_Mdl_writeCoded 188 = .ok (.getfield 63, 3) := by decide +kernel
theorem d_Mdl_writeCoded_191 : decode b_Mdl_writeCoded 191 = .ok (.iload 8, 2) := by decide +kernel
theorem d_Mdl_writeCoded_193 : decode b_Mdl_writeCoded 193 = .ok (.isub, 1) := by decide +kernel
theorem d_Mdl_writeCoded_194 : decode b_Mdl_writeCoded 194 = .ok (.putfield 63, 3) := by decide +kernel
theorem d_Mdl_writeCoded_197 : decode b_Mdl_writeCoded 197 = .ok (.aload_n 0, 1) := by decide +kernel
theorem d_Mdl_writeCoded_198 : decode b_Mdl_writeCoded 198 = .ok (.getfield 63, 3) := by decide +kernel
theorem d_Mdl_writeCoded_201 : decode b_Mdl_writeCoded 201 = .ok (.ifCond .ne 7, 3) := by decide +kernel
theorem d_Mdl_writeCoded_204 : decode b_Mdl_writeCoded 204 = .ok (.aload_n 0, 1) := by decide +kernel
theorem d_Mdl_writeCoded_205 : decode b_Mdl_writeCoded 205 = .ok (.invokevirtual 76, 3) := by decide +kernel
theorem d_Mdl_writeCoded_208 : decode b_Mdl_writeCoded 208 = .ok (.goto (-65), 3) := by decide +kernel
theorem d_Mdl_writeCoded_211 : decode b_Mdl_writeCoded 211 = .ok (.return_, 1) := by decide +kernel
theorem d_Mdl_writeRaw_0 : decode b_Mdl_writeRaw 0 = .ok (.aload_n 0, 1) := by decide +kernel
theorem d_Mdl_writeRaw_1 : decode b_Mdl_writeRaw 1 = .ok (.getfield 63, 3) := by decide +kernel
theorem d_Mdl_writeRaw_4 : decode b_Mdl_writeRaw 4 = .ok (.ifCond .ne 58, 3) := by decide +kernel
theorem d_Mdl_writeRaw_7 : decode b_Mdl_writeRaw 7 = .ok (.aload_n 0, 1) := by decide +kernel
theorem d_Mdl_writeRaw_8 : decode b_Mdl_writeRaw 8 = .ok (.aload_n 0, 1) := by decide +kernel
theorem d_Mdl_writeRaw_9 : decode b_Mdl_writeRaw 9 = .ok (.invokevirtual 56, 3) := by decide +kernel
theorem d_Mdl_writeRaw_12 : decode b_Mdl_writeRaw 12 = .ok (.ifCond .eq 25, 3) := by decide +kernel
theorem d_Mdl_writeRaw_15 : decode b_Mdl_writeRaw 15 = .ok (.aload_n 0, 1) := by decide +kernel
theorem d_Mdl_writeRaw_16 : decode b_Mdl_writeRaw 16 = .ok (.getfield 17, 3) := by decide +kernel
theorem d_Mdl_writeRaw_19 : decode b_Mdl_writeRaw 19 = .ok (.aload_n 0, 1) := by decide +kernel
theorem d_Mdl_writeRaw_20 : decode b_Mdl_writeRaw 20 = .ok (.getfield 30, 3) := by decide +kernel
theorem d_Mdl_writeRaw_23 : decode b_Mdl_writeRaw 23 = .ok (.iconst 1, 1) := by decide +kernel
theorem d_Mdl_writeRaw_24 : decode b_Mdl_writeRaw 24 = .ok (.isub, 1) := by decide +kernel
theorem d_Mdl_writeRaw_25 : decode b_Mdl_writeRaw 25 = .ok (.iaload, 1) := by decide +kernel
theorem d_Mdl_writeRaw_26 : decode b_Mdl_writeRaw 26 = .ok (.sipush 255, 3) := by decide +kernel
theorem d_Mdl_writeRaw_29 : decode b_Mdl_writeRaw 29 = .ok (.if_icmp .ne 8, 3) := by decide +kernel
theorem d_Mdl_writeRaw_32 : decode b_Mdl_writeRaw 32 = .ok (.bipush 7, 2) := by decide +kernel
theorem d_Mdl_writeRaw_34 : decode b_Mdl_writeRaw 34 = .ok (.goto 5, 3) := by decide +kernel
theorem d_Mdl_writeRaw_37 : decode b_Mdl_writeRaw 37 = .ok (.bipush 8, 2) := by decide +kernel
theorem d_Mdl_writeRaw_39 : decode b_Mdl_writeRaw 39 = .ok (.putfield 63, 3) := by decide +kernel
theorem d_Mdl_writeRaw_42 : decode b_Mdl_writeRaw 42 = .ok (.aload_n 0, 1) := by decide +kernel
theorem d_Mdl_writeRaw_43 : decode b_Mdl_writeRaw 43 = .ok (.getfield 17, 3) := by decide +kernel
theorem d_Mdl_writeRaw_46 : decode b_Mdl_writeRaw 46 = .ok (.aload_n 0, 1) := by decide +kernel
theorem d_Mdl_writeRaw_47 : decode b_Mdl_writeRaw 47 = .ok (.getfield 30, 3) := by decide +kernel
theorem d_Mdl_writeRaw_50 : decode b_Mdl_writeRaw 50 = .ok (.iconst 0, 1) := by decide +kernel
theorem d_Mdl_writeRaw_51 : decode b_Mdl_writeRaw 51 = .ok (.iastore, 1) := by decide +kernel
theorem d_Mdl_writeRaw_52 : decode b_Mdl_writeRaw 52 = .ok (.aload_n 0, 1) := by decide +kernel
theorem d_Mdl_writeRaw_53 : decode b_Mdl_writeRaw 53 = .ok (.dup, 1) := by decide +kernel
theorem d_Mdl_writeRaw_54 : decode b_Mdl_writeRaw 54 = .ok (.getfield 30, 3) := by decide +kernel
theorem d_Mdl_writeRaw_57 : decode b_Mdl_writeRaw 57 = .ok (.iconst 1, 1) := by decide +kernel
theorem d_Mdl_writeRaw_58 : decode b_Mdl_writeRaw 58 = .ok (.iadd, 1) := by decide +kernel
theorem d_Mdl_writeRaw_59 : decode b_Mdl_writeRaw 59 = .ok (.putfield 30, 3) := by decide +kernel
theorem d_Mdl_writeRaw_62 : decode b_Mdl_writeRaw 62 = .ok (.aload_n 0, 1) := by decide +kernel
theorem d_Mdl_writeRaw_63 : decode b_Mdl_writeRaw 63 = .ok (.dup, 1) := by decide +kernel
theorem d_Mdl_writeRaw_64 : decode b_Mdl_writeRaw 64 = .ok (.getfield 63, 3) := by decide +kernel
theorem d_Mdl_writeRaw_67 : decode b_Mdl_writeRaw 67 = .ok (.iconst 1, 1) := by decide +kernel
theorem d_Mdl_writeRaw_68 : decode b_Mdl_writeRaw 68 = .ok (.isub, 1) := by decide +kernel
theorem d_Mdl_writeRaw_69 : decode b_Mdl_writeRaw 69 = .ok (.putfield 63, 3) := by decide +kernel
theorem d_Mdl_writeRaw_72 : decode b_Mdl_writeRaw 72 = .ok (.aload_n 0, 1) := by decide +kernel
theorem d_Mdl_writeRaw_73 : decode b_Mdl_writeRaw 73 = .ok (.getfield 17, 3) := by decide +kernel
theorem d_Mdl_writeRaw_76 : decode b_Mdl_writeRaw 76 = .ok (.aload_n 0, 1) := by decide +kernel
theorem d_Mdl_writeRaw_77 : decode b_Mdl_writeRaw 77 = .ok (.getfield 30, 3) := by decide +kernel
theorem d_Mdl_writeRaw_80 : decode b_Mdl_writeRaw 80 = .ok (.iconst 1, 1) := by decide +kernel
theorem d_Mdl_writeRaw_81 : decode b_Mdl_writeRaw 81 = .ok (.isub, 1) := by decide +kernel
theorem d_Mdl_writeRaw_82 : decode b_Mdl_writeRaw 82 = .ok (.aload_n 0, 1) := by decide +kernel
theorem d_Mdl_writeRaw_83 : decode b_Mdl_writeRaw 83 = .ok (.getfield 17, 3) := by decide +kernel
theorem d_Mdl_writeRaw_86 : decode b_Mdl_writeRaw 86 = .ok (.aload_n 0, 1) := by decide +kernel
theorem d_Mdl_writeRaw_87 : decode b_Mdl_writeRaw 87 = .ok (.getfield 30, 3) := by decide +kernel
theorem d_Mdl_writeRaw_90 : decode b_Mdl_writeRaw 90 = .ok (.iconst 1, 1) := by decide +kernel
theorem d_Mdl_writeRaw_91 : decode b_Mdl_writeRaw 91 = .ok (.isub, 1) := by decide +kernel
theorem d_Mdl_writeRaw_92 : decode b_Mdl_writeRaw 92 = .ok (.iaload, 1) := by decide +kernel
theorem d_Mdl_writeRaw_93 : decode b_Mdl_writeRaw 93 = .ok (.iload_n 1, 1) := by decide +kernel
theorem d_Mdl_writeRaw_94 : decode b_Mdl_writeRaw 94 = .ok (.aload_n 0, 1) := by decide +kernel
theorem d_Mdl_writeRaw_95 : decode b_Mdl_writeRaw 95 = .ok (.getfield 63, 3) := by decide +kernel
theorem d_Mdl_writeRaw_98 : decode b_Mdl_writeRaw 98 = .ok (.ishl, 1) := by decide +kernel
theorem d_Mdl_writeRaw_99 : decode b_Mdl_writeRaw 99 = .ok (.ior, 1) := by decide +kernel

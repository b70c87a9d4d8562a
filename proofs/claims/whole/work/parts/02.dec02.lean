theorem d_LB_put_17 : decode b_LB_put 17 = .ok (.invokespecial 92, 3) := by decide +kernel
theorem d_LB_put_20 : decode b_LB_put 20 = .ok (.athrow, 1) := by decide +kernel
theorem d_LB_put_21 : decode b_LB_put 21 = .ok (.aload_n 0, 1) := by decide +kernel
theorem d_LB_put_22 : decode b_LB_put 22 = .ok (.getfield 81, 3) := by decide +kernel
theorem d_LB_put_25 : decode b_LB_put 25 = .ok (.ifCond .eq 13, 3) := by decide +kernel
theorem d_LB_put_28 : decode b_LB_put 28 = .ok (.new 95, 3) := by decide +kernel
theorem d_LB_put_31 : decode b_LB_put 31 = .ok (.dup, 1) := by decide +kernel
theorem d_LB_put_32 : decode b_LB_put 32 = .ok (.ldc 97, 2) := by decide +kernel
theorem d_LB_put_34 : decode b_LB_put 34 = .ok (.invokespecial 99, 3) := by decide +kernel
theorem d_LB_put_37 : decode b_LB_put 37 = .ok (.athrow, 1) := by decide +kernel
theorem d_LB_put_38 : decode b_LB_put 38 = .ok (.aload_n 0, 1) := by decide +kernel
theorem d_LB_put_39 : decode b_LB_put 39 = .ok (.getfield 10, 3) := by decide +kernel
theorem d_LB_put_42 : decode b_LB_put 42 = .ok (.invokevirtual 100, 3) := by decide +kernel
theorem d_LB_put_45 : decode b_LB_put 45 = .ok (.ldc 104, 2) := by decide +kernel
theorem d_LB_put_47 : decode b_LB_put 47 = .ok (.if_icmp .lt 13, 3) := by decide +kernel
theorem d_LB_put_50 : decode b_LB_put 50 = .ok (.new 105, 3) := by decide +kernel
theorem d_LB_put_53 : decode b_LB_put 53 = .ok (.dup, 1) := by decide +kernel
theorem d_LB_put_54 : decode b_LB_put 54 = .ok (.ldc 107, 2) := by decide +kernel
theorem d_LB_put_56 : decode b_LB_put 56 = .ok (.invokespecial 109, 3) := by decide +kernel
theorem d_LB_put_59 : decode b_LB_put 59 = .ok (.athrow, 1) := by decide +kernel
theorem d_LB_put_60 : decode b_LB_put 60 = .ok (.aload_n 0, 1) := by decide +kernel
theorem d_LB_put_61 : decode b_LB_put 61 = .ok (.getfield 10, 3) := by decide +kernel
theorem d_LB_put_64 : decode b_LB_put 64 = .ok (.iload_n 1, 1) := by decide +kernel
theorem d_LB_put_65 : decode b_LB_put 65 = .ok (.invokevirtual 110, 3) := by decide +kernel
theorem d_LB_put_68 : decode b_LB_put 68 = .ok (.aload_n 0, 1) := by decide +kernel
theorem d_LB_put_69 : decode b_LB_put 69 = .ok (.getfield 10, 3) := by decide +kernel
theorem d_LB_put_72 : decode b_LB_put 72 = .ok (.invokevirtual 100, 3) := by decide +kernel
theorem d_LB_put_75 : decode b_LB_put 75 = .ok (.ireturn, 1) := by decide +kernel
theorem d_LB_at_0 : decode b_LB_at 0 = .ok (.iload_n 1, 1) := by decide +kernel
theorem d_LB_at_1 : decode b_LB_at 1 = .ok (.iconst (-1), 1) := by decide +kernel
theorem d_LB_at_2 : decode b_LB_at 2 = .ok (.if_icmp .ne 11, 3) := by decide +kernel
theorem d_LB_at_5 : decode b_LB_at 5 = .ok (.aload_n 0, 1) := by decide +kernel
theorem d_LB_at_6 : decode b_LB_at 6 = .ok (.getfield 10, 3) := by decide +kernel
theorem d_LB_at_9 : decode b_LB_at 9 = .ok (.invokevirtual 100, 3) := by decide +kernel
theorem d_LB_at_12 : decode b_LB_at 12 = .ok (.ireturn, 1) := by decide +kernel
theorem d_LB_at_13 : decode b_LB_at 13 = .ok (.iload_n 1, 1) := by decide +kernel
theorem d_LB_at_14 : decode b_LB_at 14 = .ok (.ifCond .lt 14, 3) := by decide +kernel
theorem d_LB_at_17 : decode b_LB_at 17 = .ok (.iload_n 1, 1) := by decide +kernel
theorem d_LB_at_18 : decode b_LB_at 18 = .ok (.aload_n 0, 1) := by decide +kernel
theorem d_LB_at_19 : decode b_LB_at 19 = .ok (.getfield 10, 3) := by decide +kernel
theorem d_LB_at_22 : decode b_LB_at 22 = .ok (.invokevirtual 100, 3) := by decide +kernel
theorem d_LB_at_25 : decode b_LB_at 25 = .ok (.if_icmp .lt 13, 3) := by decide +kernel
theorem d_LB_at_28 : decode b_LB_at 28 = .ok (.new 114, 3) := by decide +kernel
theorem d_LB_at_31 : decode b_LB_at 31 = .ok (.dup, 1) := by decide +kernel
theorem d_LB_at_32 : decode b_LB_at 32 = .ok (.ldc 116, 2) := by decide +kernel
theorem d_LB_at_34 : decode b_LB_at 34 = .ok (.invokespecial 118, 3) := by decide +kernel
theorem d_LB_at_37 : decode b_LB_at 37 = .ok (.athrow, 1) := by decide +kernel
theorem d_LB_at_38 : decode b_LB_at 38 = .ok (.aload_n 0, 1) := by decide +kernel
theorem d_LB_at_39 : decode b_LB_at 39 = .ok (.getfield 10, 3) := by decide +kernel
theorem d_LB_at_42 : decode b_LB_at 42 = .ok (.iload_n 1, 1) := by decide +kernel
theorem d_LB_at_43 : decode b_LB_at 43 = .ok (.invokevirtual 119, 3) := by decide +kernel
theorem d_LB_at_46 : decode b_LB_at 46 = .ok (.ireturn, 1) := by decide +kernel
theorem d_LB_context_0 : decode b_LB_context 0 = .ok (.iload_n 2, 1) := by decide +kernel
theorem d_LB_context_1 : decode b_LB_context 1 = .ok (.invokestatic 123, 3) := by decide +kernel
theorem d_LB_context_4 : decode b_LB_context 4 = .ok (.ifCond .ne 13, 3) := by decide +kernel
theorem d_LB_context_7 : decode b_LB_context 7 = .ok (.new 88, 3) := by decide +kernel
theorem d_LB_context_10 : decode b_LB_context 10 = .ok (.dup, 1) := by decide +kernel
theorem d_LB_context_11 : decode b_LB_context 11 = .ok (.ldc 127, 2) := by decide +kernel
theorem d_LB_context_13 : decode b_LB_context 13 = .ok (.invokespecial 92, 3) := by decide +kernel
theorem d_LB_context_16 : decode b_LB_context 16 = .ok (.athrow, 1) := by decide +kernel
theorem d_LB_context_17 : decode b_LB_context 17 = .ok (.iload_n 3, 1) := by decide +kernel
theorem d_LB_context_18 : decode b_LB_context 18 = .ok (.ifCond .lt 9, 3) := by decide +kernel
theorem d_LB_context_21 : decode b_LB_context 21 = .ok (.iload_n 3, 1) := by decide +kernel
theorem d_LB_context_22 : decode b_LB_context 22 = .ok (.bipush 47, 2) := by decide +kernel
theorem d_LB_context_24 : decode b_LB_context 24 = .ok (.if_icmp .lt 13, 3) := by decide +kernel
theorem d_LB_context_27 : decode b_LB_context 27 = .ok (.new 88, 3) := by decide +kernel
theorem d_LB_context_30 : decode b_LB_context 30 = .ok (.dup, 1) := by decide +kernel
theorem d_LB_context_31 : decode b_LB_context 31 = .ok (.ldc 129, 2) := by decide +kernel
theorem d_LB_context_33 : decode b_LB_context 33 = .ok (.invokespecial 92, 3) := by decide +kernel
theorem d_LB_context_36 : decode b_LB_context 36 = .ok (.athrow, 1) := by decide +kernel
theorem d_LB_context_37 : decode b_LB_context 37 = .ok (.iload 4, 2) := by decide +kernel
theorem d_LB_context_39 : decode b_LB_context 39 = .ok (.ifCond .eq 19, 3) := by decide +kernel
theorem d_LB_context_42 : decode b_LB_context 42 = .ok (.iload 4, 2) := by decide +kernel
theorem d_LB_context_44 : decode b_LB_context 44 = .ok (.iconst 1, 1) := by decide +kernel
theorem d_LB_context_45 : decode b_LB_context 45 = .ok (.if_icmp .eq 13, 3) := by decide +kernel
theorem d_LB_context_48 : decode b_LB_context 48 = .ok (.new 88, 3) := by decide +kernel
theorem d_LB_context_51 : decode b_LB_context 51 = .ok (.dup, 1) := by decide +kernel
theorem d_LB_context_52 : decode b_LB_context 52 = .ok (.ldc 131, 2) := by decide +kernel
theorem d_LB_context_54 : decode b_LB_context 54 = .ok (.invokespecial 92, 3) := by decide +kernel
theorem d_LB_context_57 : decode b_LB_context 57 = .ok (.athrow, 1) := by decide +kernel
theorem d_LB_context_58 : decode b_LB_context 58 = .ok (.aload_n 0, 1) := by decide +kernel
theorem d_LB_context_59 : decode b_LB_context 59 = .ok (.iload_n 1, 1) := by decide +kernel
theorem d_LB_context_60 : decode b_LB_context 60 = .ok (.invokevirtual 133, 3) := by decide +kernel
theorem d_LB_context_63 : decode b_LB_context 63 = .ok (.iload_n 2, 1) := by decide +kernel
theorem d_LB_context_64 : decode b_LB_context 64 = .ok (.iload_n 3, 1) := by decide +kernel
theorem d_LB_context_65 : decode b_LB_context 65 = .ok (.iload 4, 2) := by decide +kernel
theorem d_LB_context_67 : decode b_LB_context 67 = .ok (.invokevirtual 137, 3) := by decide +kernel
theorem d_LB_context_70 : decode b_LB_context 70 = .ok (.return_, 1) := by decide +kernel
theorem d_LB_state_0 : decode b_LB_state 0 = .ok (.iload_n 2, 1) := by decide +kernel
theorem d_LB_state_1 : decode b_LB_state 1 = .ok (.invokestatic 123, 3) := by decide +kernel
theorem d_LB_state_4 : decode b_LB_state 4 = .ok (.ifCond .ne 13, 3) := by decide +kernel
theorem d_LB_state_7 : decode b_LB_state 7 = .ok (.new 88, 3) := by decide +kernel
theorem d_LB_state_10 : decode b_LB_state 10 = .ok (.dup, 1) := by decide +kernel
theorem d_LB_state_11 : decode b_LB_state 11 = .ok (.ldc 127, 2) := by decide +kernel
theorem d_LB_state_13 : decode b_LB_state 13 = .ok (.invokespecial 92, 3) := by decide +kernel
theorem d_LB_state_16 : decode b_LB_state 16 = .ok (.athrow, 1) := by decide +kernel
theorem d_LB_state_17 : decode b_LB_state 17 = .ok (.aload_n 0, 1) := by decide +kernel
theorem d_LB_state_18 : decode b_LB_state 18 = .ok (.iload_n 1, 1) := by decide +kernel
theorem d_LB_state_19 : decode b_LB_state 19 = .ok (.invokevirtual 133, 3) := by decide +kernel
theorem d_LB_state_22 : decode b_LB_state 22 = .ok (.astore_n 3, 1) := by decide +kernel
theorem d_LB_state_23 : decode b_LB_state 23 = .ok (.iconst 2, 1) := by decide +kernel
theorem d_LB_state_24 : decode b_LB_state 24 = .ok (.aload_n 3, 1) := by decide +kernel
theorem d_LB_state_25 : decode b_LB_state 25 = .ok (.iload_n 2, 1) := by decide +kernel
theorem d_LB_state_26 : decode b_LB_state 26 = .ok (.invokevirtual 141, 3) := by decide +kernel
theorem d_LB_state_29 : decode b_LB_state 29 = .ok (.imul, 1) := by decide +kernel
theorem d_LB_state_30 : decode b_LB_state 30 = .ok (.aload_n 3, 1) := by decide +kernel
theorem d_LB_state_31 : decode b_LB_state 31 = .ok (.iload_n 2, 1) := by decide +kernel
theorem d_LB_state_32 : decode b_LB_state 32 = .ok (.invokevirtual 144, 3) := by decide +kernel
theorem d_LB_state_35 : decode b_LB_state 35 = .ok (.iadd, 1) := by decide +kernel
theorem d_LB_state_36 : decode b_LB_state 36 = .ok (.ireturn, 1) := by decide +kernel
theorem d_LB_open_0 : decode b_LB_open 0 = .ok (.aload_n 0, 1) := by decide +kernel
theorem d_LB_open_1 : decode b_LB_open 1 = .ok (.getfield 81, 3) := by decide +kernel
theorem d_LB_open_4 : decode b_LB_open 4 = .ok (.ifCond .eq 13, 3) := by decide +kernel
theorem d_LB_open_7 : decode b_LB_open 7 = .ok (.new 95, 3) := by decide +kernel
theorem d_LB_open_10 : decode b_LB_open 10 = .ok (.dup, 1) := by decide +kernel
theorem d_LB_open_11 : decode b_LB_open 11 = .ok (.ldc 97, 2) := by decide +kernel
theorem d_LB_open_13 : decode b_LB_open 13 = .ok (.invokespecial 99, 3) := by decide +kernel
theorem d_LB_open_16 : decode b_LB_open 16 = .ok (.athrow, 1) := by decide +kernel
theorem d_LB_open_17 : decode b_LB_open 17 = .ok (.aload_n 0, 1) := by decide +kernel
theorem d_LB_open_18 : decode b_LB_open 18 = .ok (.iconst 0, 1) := by decide +kernel
theorem d_LB_open_19 : decode b_LB_open 19 = .ok (.putfield 85, 3) := by decide +kernel
theorem d_LB_open_22 : decode b_LB_open 22 = .ok (.aload_n 0, 1) := by decide +kernel
theorem d_LB_open_23 : decode b_LB_open 23 = .ok (.iconst 1, 1) := by decide +kernel
theorem d_LB_open_24 : decode b_LB_open 24 = .ok (.putfield 81, 3) := by decide +kernel
theorem d_LB_open_27 : decode b_LB_open 27 = .ok (.aload_n 0, 1) := by decide +kernel
theorem d_LB_open_28 : decode b_LB_open 28 = .ok (.iload_n 1, 1) := by decide +kernel
theorem d_LB_open_29 : decode b_LB_open 29 = .ok (.putfield 147, 3) := by decide +kernel
theorem d_LB_open_32 : decode b_LB_open 32 = .ok (.aload_n 0, 1) := by decide +kernel
theorem d_LB_open_33 : decode b_LB_open 33 = .ok (.getfield 31, 3) := by decide +kernel
theorem d_LB_open_36 : decode b_LB_open 36 = .ok (.invokevirtual 150, 3) := by decide +kernel
theorem d_LB_open_39 : decode b_LB_open 39 = .ok (.iload_n 1, 1) := by decide +kernel
theorem d_LB_open_40 : decode b_LB_open 40 = .ok (.ifCond .eq 13, 3) := by decide +kernel
theorem d_LB_open_43 : decode b_LB_open 43 = .ok (.aload_n 0, 1) := by decide +kernel
theorem d_LB_open_44 : decode b_LB_open 44 = .ok (.getfield 49, 3) := by decide +kernel
theorem d_LB_open_47 : decode b_LB_open 47 = .ok (.invokevirtual 153, 3) := by decide +kernel
theorem d_LB_open_50 : decode b_LB_open 50 = .ok (.goto 10, 3) := by decide +kernel
theorem d_LB_open_53 : decode b_LB_open 53 = .ok (.aload_n 0, 1) := by decide +kernel
theorem d_LB_open_54 : decode b_LB_open 54 = .ok (.getfield 40, 3) := by decide +kernel
theorem d_LB_open_57 : decode b_LB_open 57 = .ok (.invokevirtual 154, 3) := by decide +kernel
theorem d_LB_open_60 : decode b_LB_open 60 = .ok (.return_, 1) := by decide +kernel
theorem d_LB_write_0 : decode b_LB_write 0 = .ok (.aload_n 0, 1) := by decide +kernel
theorem d_LB_write_1 : decode b_LB_write 1 = .ok (.getfield 81, 3) := by decide +kernel
theorem d_LB_write_4 : decode b_LB_write 4 = .ok (.ifCond .ne 13, 3) := by decide +kernel
theorem d_LB_write_7 : decode b_LB_write 7 = .ok (.new 95, 3) := by decide +kernel
theorem d_LB_write_10 : decode b_LB_write 10 = .ok (.dup, 1) := by decide +kernel
theorem d_LB_write_11 : decode b_LB_write 11 = .ok (.ldc 155, 2) := by decide +kernel
theorem d_LB_write_13 : decode b_LB_write 13 = .ok (.invokespecial 99, 3) := by decide +kernel
theorem d_LB_write_16 : decode b_LB_write 16 = .ok (.athrow, 1) := by decide +kernel
theorem d_LB_write_17 : decode b_LB_write 17 = .ok (.iload_n 1, 1) := by decide +kernel
theorem d_LB_write_18 : decode b_LB_write 18 = .ok (.aload_n 0, 1) := by decide +kernel
theorem d_LB_write_19 : decode b_LB_write 19 = .ok (.getfield 147, 3) := by decide +kernel
theorem d_LB_write_22 : decode b_LB_write 22 = .ok (.invokestatic 157, 3) := by decide +kernel
theorem d_LB_write_25 : decode b_LB_write 25 = .ok (.ifCond .ne 13, 3) := by decide +kernel
theorem d_LB_write_28 : decode b_LB_write 28 = .ok (.new 88, 3) := by decide +kernel
theorem d_LB_write_31 : decode b_LB_write 31 = .ok (.dup, 1) := by decide +kernel
theorem d_LB_write_32 : decode b_LB_write 32 = .ok (.ldc 161, 2) := by decide +kernel
theorem d_LB_write_34 : decode b_LB_write 34 = .ok (.invokespecial 92, 3) := by decide +kernel
theorem d_LB_write_37 : decode b_LB_write 37 = .ok (.athrow, 1) := by decide +kernel
theorem d_LB_write_38 : decode b_LB_write 38 = .ok (.iload 4, 2) := by decide +kernel
theorem d_LB_write_40 : decode b_LB_write 40 = .ok (.iconst 1, 1) := by decide +kernel
theorem d_LB_write_41 : decode b_LB_write 41 = .ok (.if_icmp .lt 10, 3) := by decide +kernel
theorem d_LB_write_44 : decode b_LB_write 44 = .ok (.iload 4, 2) := by decide +kernel
theorem d_LB_write_46 : decode b_LB_write 46 = .ok (.bipush 64, 2) := by decide +kernel
theorem d_LB_write_48 : decode b_LB_write 48 = .ok (.if_icmp .le 13, 3) := by decide +kernel
theorem d_LB_write_51 : decode b_LB_write 51 = .ok (.new 88, 3) := by decide +kernel
theorem d_LB_write_54 : decode b_LB_write 54 = .ok (.dup, 1) := by decide +kernel
theorem d_LB_write_55 : decode b_LB_write 55 = .ok (.ldc 163, 2) := by decide +kernel
theorem d_LB_write_57 : decode b_LB_write 57 = .ok (.invokespecial 92, 3) := by decide +kernel
theorem d_LB_write_60 : decode b_LB_write 60 = .ok (.athrow, 1) := by decide +kernel
theorem d_LB_write_61 : decode b_LB_write 61 = .ok (.aload_n 0, 1) := by decide +kernel
theorem d_LB_write_62 : decode b_LB_write 62 = .ok (.getfield 10, 3) := by decide +kernel
theorem d_LB_write_65 : decode b_LB_write 65 = .ok (.invokevirtual 100, 3) := by decide +kernel
theorem d_LB_write_68 : decode b_LB_write 68 = .ok (.ldc 165, 2) := by decide +kernel
theorem d_LB_write_70 : decode b_LB_write 70 = .ok (.if_icmp .le 13, 3) := by decide +kernel
theorem d_LB_write_73 : decode b_LB_write 73 = .ok (.new 105, 3) := by decide +kernel
theorem d_LB_write_76 : decode b_LB_write 76 = .ok (.dup, 1) := by decide +kernel
theorem d_LB_write_77 : decode b_LB_write 77 = .ok (.ldc 166, 2) := by decide +kernel
theorem d_LB_write_79 : decode b_LB_write 79 = .ok (.invokespecial 109, 3) := by decide +kernel
theorem d_LB_write_82 : decode b_LB_write 82 = .ok (.athrow, 1) := by decide +kernel
theorem d_LB_write_83 : decode b_LB_write 83 = .ok (.iload 4, 2) := by decide +kernel
theorem d_LB_write_85 : decode b_LB_write 85 = .ok (.iconst 1, 1) := by decide +kernel
theorem d_LB_write_86 : decode b_LB_write 86 = .ok (.isub, 1) := by decide +kernel
theorem d_LB_write_87 : decode b_LB_write 87 = .ok (.istore 5, 2) := by decide +kernel
theorem d_LB_write_89 : decode b_LB_write 89 = .ok (.iload 5, 2) := by decide +kernel
theorem d_LB_write_91 : decode b_LB_write 91 = .ok (.ifCond .lt 47, 3) := by decide +kernel
theorem d_LB_write_94 : decode b_LB_write 94 = .ok (.lload_n 2, 1) := by decide +kernel
theorem d_LB_write_95 : decode b_LB_write 95 = .ok (.iload 5, 2) := by decide +kernel
theorem d_LB_write_97 : decode b_LB_write 97 = .ok (.lushr, 1) := by decide +kernel
theorem d_LB_write_98 : decode b_LB_write 98 = .ok (.l2i, 1) := by decide +kernel
theorem d_LB_write_99 : decode b_LB_write 99 = .ok (.iconst 1, 1) := by decide +kernel
theorem d_LB_write_100 : decode b_LB_write 100 = .ok (.iand, 1) := by decide +kernel
theorem d_LB_write_101 : decode b_LB_write 101 = .ok (.istore 6, 2) := by decide +kernel
theorem d_LB_write_103 : decode b_LB_write 103 = .ok (.aload_n 0, 1) := by decide +kernel
theorem d_LB_write_104 : decode b_LB_write 104 = .ok (.getfield 147, 3) := by decide +kernel
theorem d_LB_write_107 : decode b_LB_write 107 = .ok (.ifCond .eq 15, 3) := by decide +kernel
theorem d_LB_write_110 : decode b_LB_write 110 = .ok (.aload_n 0, 1) := by decide +kernel
theorem d_LB_write_111 : decode b_LB_write 111 = .ok (.getfield 49, 3) := by decide +kernel
theorem d_LB_write_114 : decode b_LB_write 114 = .ok (.iload 6, 2) := by decide +kernel
theorem d_LB_write_116 : decode b_LB_write 116 = .ok (.invokevirtual 168, 3) := by decide +kernel
theorem d_LB_write_119 : decode b_LB_write 119 = .ok (.goto 13, 3) := by decide +kernel
theorem d_LB_write_122 : decode b_LB_write 122 = .ok (.aload_n 0, 1) := by decide +kernel
theorem d_LB_write_123 : decode b_LB_write 123 = .ok (.getfield 40, 3) := by decide +kernel
theorem d_LB_write_126 : decode b_LB_write 126 = .ok (.iload_n 1, 1) := by decide +kernel
theorem d_LB_write_127 : decode b_LB_write 127 = .ok (.iload 6, 2) := by decide +kernel
theorem d_LB_write_129 : decode b_LB_write 129 = .ok (.invokevirtual 171, 3) := by decide +kernel
theorem d_LB_write_132 : decode b_LB_write 132 = .ok (.iinc 5 (-1), 3) := by decide +kernel
theorem d_LB_write_135 : decode b_LB_write 135 = .ok (.goto (-46), 3) := by decide +kernel
theorem d_LB_write_138 : decode b_LB_write 138 = .ok (.aload_n 0, 1) := by decide +kernel
theorem d_LB_write_139 : decode b_LB_write 139 = .ok (.getfield 31, 3) := by decide +kernel
theorem d_LB_write_142 : decode b_LB_write 142 = .ok (.invokevirtual 174, 3) := by decide +kernel
theorem d_LB_write_145 : decode b_LB_write 145 = .ok (.ireturn, 1) := by decide +kernel
theorem d_LB_enough_0 : decode b_LB_enough 0 = .ok (.aload_n 0, 1) := by decide +kernel
theorem d_LB_enough_1 : decode b_LB_enough 1 = .ok (.getfield 81, 3) := by decide +kernel
theorem d_LB_enough_4 : decode b_LB_enough 4 = .ok (.ifCond .ne 13, 3) := by decide +kernel
theorem d_LB_enough_7 : decode b_LB_enough 7 = .ok (.new 95, 3) := by decide +kernel
theorem d_LB_enough_10 : decode b_LB_enough 10 = .ok (.dup, 1) := by decide +kernel
theorem d_LB_enough_11 : decode b_LB_enough 11 = .ok (.ldc 155, 2) := by decide +kernel
theorem d_LB_enough_13 : decode b_LB_enough 13 = .ok (.invokespecial 99, 3) := by decide +kernel
theorem d_LB_enough_16 : decode b_LB_enough 16 = .ok (.athrow, 1) := by decide +kernel
theorem d_LB_enough_17 : decode b_LB_enough 17 = .ok (.aload_n 0, 1) := by decide +kernel
theorem d_LB_enough_18 : decode b_LB_enough 18 = .ok (.getfield 147, 3) := by decide +kernel
theorem d_LB_enough_21 : decode b_LB_enough 21 = .ok (.ifCond .eq 13, 3) := by decide +kernel
theorem d_LB_enough_24 : decode b_LB_enough 24 = .ok (.aload_n 0, 1) := by decide +kernel
theorem d_LB_enough_25 : decode b_LB_enough 25 = .ok (.getfield 31, 3) := by decide +kernel
theorem d_LB_enough_28 : decode b_LB_enough 28 = .ok (.invokevirtual 174, 3) := by decide +kernel
theorem d_LB_enough_31 : decode b_LB_enough 31 = .ok (.goto 12, 3) := by decide +kernel
theorem d_LB_enough_34 : decode b_LB_enough 34 = .ok (.aload_n 0, 1) := by decide +kernel
theorem d_LB_enough_35 : decode b_LB_enough 35 = .ok (.getfield 31, 3) := by decide +kernel
theorem d_LB_enough_38 : decode b_LB_enough 38 = .ok (.invokevirtual 174, 3) := by decide +kernel
theorem d_LB_enough_41 : decode b_LB_enough 41 = .ok (.iconst 5, 1) := by decide +kernel
theorem d_LB_enough_42 : decode b_LB_enough 42 = .ok (.iadd, 1) := by decide +kernel
theorem d_LB_enough_43 : decode b_LB_enough 43 = .ok (.ireturn, 1) := by decide +kernel
theorem d_LB_close_0 : decode b_LB_close 0 = .ok (.aload_n 0, 1) := by decide +kernel
theorem d_LB_close_1 : decode b_LB_close 1 = .ok (.getfield 81, 3) := by decide +kernel
theorem d_LB_close_4 : decode b_LB_close 4 = .ok (.ifCond .ne 13, 3) := by decide +kernel
theorem d_LB_close_7 : decode b_LB_close 7 = .ok (.new 95, 3) := by decide +kernel
theorem d_LB_close_10 : decode b_LB_close 10 = .ok (.dup, 1) := by decide +kernel
theorem d_LB_close_11 : decode b_LB_close 11 = .ok (.ldc 155, 2) := by decide +kernel
theorem d_LB_close_13 : decode b_LB_close 13 = .ok (.invokespecial 99, 3) := by decide +kernel
theorem d_LB_close_16 : decode b_LB_close 16 = .ok (.athrow, 1) := by decide +kernel
theorem d_LB_close_17 : decode b_LB_close 17 = .ok (.iload_n 1, 1) := by decide +kernel
theorem d_LB_close_18 : decode b_LB_close 18 = .ok (.ifCond .eq 18, 3) := by decide +kernel
theorem d_LB_close_21 : decode b_LB_close 21 = .ok (.iload_n 1, 1) := by decide +kernel
theorem d_LB_close_22 : decode b_LB_close 22 = .ok (.iconst 1, 1) := by decide +kernel
theorem d_LB_close_23 : decode b_LB_close 23 = .ok (.if_icmp .eq 13, 3) := by decide +kernel
theorem d_LB_close_26 : decode b_LB_close 26 = .ok (.new 88, 3) := by decide +kernel
theorem d_LB_close_29 : decode b_LB_close 29 = .ok (.dup, 1) := by decide +kernel
theorem d_LB_close_30 : decode b_LB_close 30 = .ok (.ldc 177, 2) := by decide +kernel
theorem d_LB_close_32 : decode b_LB_close 32 = .ok (.invokespecial 92, 3) := by decide +kernel
theorem d_LB_close_35 : decode b_LB_close 35 = .ok (.athrow, 1) := by decide +kernel
theorem d_LB_close_36 : decode b_LB_close 36 = .ok (.aload_n 0, 1) := by decide +kernel
theorem d_LB_close_37 : decode b_LB_close 37 = .ok (.getfield 147, 3) := by decide +kernel
theorem d_LB_close_40 : decode b_LB_close 40 = .ok (.ifCond .eq 13, 3) := by decide +kernel
theorem d_LB_close_43 : decode b_LB_close 43 = .ok (.aload_n 0, 1) := by decide +kernel
theorem d_LB_close_44 : decode b_LB_close 44 = .ok (.getfield 49, 3) := by decide +kernel
theorem d_LB_close_47 : decode b_LB_close 47 = .ok (.invokevirtual 179, 3) := by decide +kernel
theorem d_LB_close_50 : decode b_LB_close 50 = .ok (.goto 24, 3) := by decide +kernel
theorem d_LB_close_53 : decode b_LB_close 53 = .ok (.iload_n 1, 1) := by decide +kernel
theorem d_LB_close_54 : decode b_LB_close 54 = .ok (.ifCond .ne 13, 3) := by decide +kernel
theorem d_LB_close_57 : decode b_LB_close 57 = .ok (.aload_n 0, 1) := by decide +kernel
theorem d_LB_close_58 : decode b_LB_close 58 = .ok (.getfield 40, 3) := by decide +kernel
theorem d_LB_close_61 : decode b_LB_close 61 = .ok (.invokevirtual 182, 3) := by decide +kernel
theorem d_LB_close_64 : decode b_LB_close 64 = .ok (.goto 10, 3) := by decide +kernel
theorem d_LB_close_67 : decode b_LB_close 67 = .ok (.aload_n 0, 1) := by decide +kernel
theorem d_LB_close_68 : decode b_LB_close 68 = .ok (.getfield 40, 3) := by decide +kernel
theorem d_LB_close_71 : decode b_LB_close 71 = .ok (.invokevirtual 185, 3) := by decide +kernel
theorem d_LB_close_74 : decode b_LB_close 74 = .ok (.aload_n 0, 1) := by decide +kernel
theorem d_LB_close_75 : decode b_LB_close 75 = .ok (.getfield 31, 3) := by decide +kernel
theorem d_LB_close_78 : decode b_LB_close 78 = .ok (.invokevirtual 188, 3) := by decide +kernel
theorem d_LB_close_81 : decode b_LB_close 81 = .ok (.aload_n 0, 1) := by decide +kernel
theorem d_LB_close_82 : decode b_LB_close 82 = .ok (.iconst 0, 1) := by decide +kernel
theorem d_LB_close_83 : decode b_LB_close 83 = .ok (.putfield 81, 3) := by decide +kernel
theorem d_LB_close_86 : decode b_LB_close 86 = .ok (.aload_n 0, 1) := by decide +kernel
theorem d_LB_close_87 : decode b_LB_close 87 = .ok (.getfield 31, 3) := by decide +kernel
theorem d_LB_close_90 : decode b_LB_close 90 = .ok (.invokevirtual 174, 3) := by decide +kernel
theorem d_LB_close_93 : decode b_LB_close 93 = .ok (.ireturn, 1) := by decide +kernel
theorem d_LB_read_0 : decode b_LB_read 0 = .ok (.aload_n 0, 1) := by decide +kernel
theorem d_LB_read_1 : decode b_LB_read 1 = .ok (.getfield 81, 3) := by decide +kernel
theorem d_LB_read_4 : decode b_LB_read 4 = .ok (.ifCond .eq 13, 3) := by decide +kernel
theorem d_LB_read_7 : decode b_LB_read 7 = .ok (.new 95, 3) := by decide +kernel
theorem d_LB_read_10 : decode b_LB_read 10 = .ok (.dup, 1) := by decide +kernel
theorem d_LB_read_11 : decode b_LB_read 11 = .ok (.ldc 97, 2) := by decide +kernel
theorem d_LB_read_13 : decode b_LB_read 13 = .ok (.invokespecial 99, 3) := by decide +kernel
theorem d_LB_read_16 : decode b_LB_read 16 = .ok (.athrow, 1) := by decide +kernel
theorem d_LB_read_17 : decode b_LB_read 17 = .ok (.iload_n 2, 1) := by decide +kernel
theorem d_LB_read_18 : decode b_LB_read 18 = .ok (.ifCond .lt 31, 3) := by decide +kernel
theorem d_LB_read_21 : decode b_LB_read 21 = .ok (.iload_n 2, 1) := by decide +kernel
theorem d_LB_read_22 : decode b_LB_read 22 = .ok (.aload_n 0, 1) := by decide +kernel
theorem d_LB_read_23 : decode b_LB_read 23 = .ok (.getfield 10, 3) := by decide +kernel
theorem d_LB_read_26 : decode b_LB_read 26 = .ok (.invokevirtual 100, 3) := by decide +kernel
theorem d_LB_read_29 : decode b_LB_read 29 = .ok (.if_icmp .gt 20, 3) := by decide +kernel
theorem d_LB_read_32 : decode b_LB_read 32 = .ok (.iload_n 3, 1) := by decide +kernel
theorem d_LB_read_33 : decode b_LB_read 33 = .ok (.ifCond .lt 16, 3) := by decide +kernel
theorem d_LB_read_36 : decode b_LB_read 36 = .ok (.iload_n 3, 1) := by decide +kernel
theorem d_LB_read_37 : decode b_LB_read 37 = .ok (.aload_n 0, 1) := by decide +kernel
theorem d_LB_read_38 : decode b_LB_read 38 = .ok (.getfield 10, 3) := by decide +kernel
theorem d_LB_read_41 : decode b_LB_read 41 = .ok (.invokevirtual 100, 3) := by decide +kernel
theorem d_LB_read_44 : decode b_LB_read 44 = .ok (.iload_n 2, 1) := by decide +kernel
theorem d_LB_read_45 : decode b_LB_read 45 = .ok (.isub, 1) := by decide +kernel
theorem d_LB_read_46 : decode b_LB_read 46 = .ok (.if_icmp .le 13, 3) := by decide +kernel
theorem d_LB_read_49 : decode b_LB_read 49 = .ok (.new 88, 3) := by decide +kernel
theorem d_LB_read_52 : decode b_LB_read 52 = .ok (.dup, 1) := by decide +kernel
theorem d_LB_read_53 : decode b_LB_read 53 = .ok (.ldc 191, 2) := by decide +kernel
theorem d_LB_read_55 : decode b_LB_read 55 = .ok (.invokespecial 92, 3) := by decide +kernel
theorem d_LB_read_58 : decode b_LB_read 58 = .ok (.athrow, 1) := by decide +kernel
theorem d_LB_read_59 : decode b_LB_read 59 = .ok (.aload_n 0, 1) := by decide +kernel
theorem d_LB_read_60 : decode b_LB_read 60 = .ok (.iconst 1, 1) := by decide +kernel
theorem d_LB_read_61 : decode b_LB_read 61 = .ok (.putfield 85, 3) := by decide +kernel
theorem d_LB_read_64 : decode b_LB_read 64 = .ok (.aload_n 0, 1) := by decide +kernel
theorem d_LB_read_65 : decode b_LB_read 65 = .ok (.iload_n 1, 1) := by decide +kernel
theorem d_LB_read_66 : decode b_LB_read 66 = .ok (.putfield 193, 3) := by decide +kernel
theorem d_LB_read_69 : decode b_LB_read 69 = .ok (.aload_n 0, 1) := by decide +kernel
theorem d_LB_read_70 : decode b_LB_read 70 = .ok (.getfield 56, 3) := by decide +kernel
theorem d_LB_read_73 : decode b_LB_read 73 = .ok (.iload_n 2, 1) := by decide +kernel
theorem d_LB_read_74 : decode b_LB_read 74 = .ok (.iload_n 3, 1) := by decide +kernel
theorem d_LB_read_75 : decode b_LB_read 75 = .ok (.invokevirtual 196, 3) := by decide +kernel
theorem d_LB_read_78 : decode b_LB_read 78 = .ok (.iload_n 1, 1) := by decide +kernel
theorem d_LB_read_79 : decode b_LB_read 79 = .ok (.ifCond .eq 13, 3) := by decide +kernel
theorem d_LB_read_82 : decode b_LB_read 82 = .ok (.aload_n 0, 1) := by decide +kernel
theorem d_LB_read_83 : decode b_LB_read 83 = .ok (.getfield 74, 3) := by decide +kernel
theorem d_LB_read_86 : decode b_LB_read 86 = .ok (.invokevirtual 198, 3) := by decide +kernel
theorem d_LB_read_89 : decode b_LB_read 89 = .ok (.goto 10, 3) := by decide +kernel
theorem d_LB_read_92 : decode b_LB_read 92 = .ok (.aload_n 0, 1) := by decide +kernel
theorem d_LB_read_93 : decode b_LB_read 93 = .ok (.getfield 65, 3) := by decide +kernel
theorem d_LB_read_96 : decode b_LB_read 96 = .ok (.invokevirtual 199, 3) := by decide +kernel
theorem d_LB_read_99 : decode b_LB_read 99 = .ok (.return_, 1) := by decide +kernel
theorem d_LB_bits_0 : decode b_LB_bits 0 = .ok (.aload_n 0, 1) := by decide +kernel
theorem d_LB_bits_1 : decode b_LB_bits 1 = .ok (.getfield 85, 3) := by decide +kernel
theorem d_LB_bits_4 : decode b_LB_bits 4 = .ok (.ifCond .ne 13, 3) := by decide +kernel
theorem d_LB_bits_7 : decode b_LB_bits 7 = .ok (.new 95, 3) := by decide +kernel
theorem d_LB_bits_10 : decode b_LB_bits 10 = .ok (.dup, 1) := by decide +kernel
theorem d_LB_bits_11 : decode b_LB_bits 11 = .ok (.ldc 200, 2) := by decide +kernel
theorem d_LB_bits_13 : decode b_LB_bits 13 = .ok (.invokespecial 99, 3) := by decide +kernel
theorem d_LB_bits_16 : decode b_LB_bits 16 = .ok (.athrow, 1) := by decide +kernel
theorem d_LB_bits_17 : decode b_LB_bits 17 = .ok (.iload_n 1, 1) := by decide +kernel
theorem d_LB_bits_18 : decode b_LB_bits 18 = .ok (.aload_n 0, 1) := by decide +kernel
theorem d_LB_bits_19 : decode b_LB_bits 19 = .ok (.getfield 193, 3) := by decide +kernel
theorem d_LB_bits_22 : decode b_LB_bits 22 = .ok (.invokestatic 157, 3) := by decide +kernel
theorem d_LB_bits_25 : decode b_LB_bits 25 = .ok (.ifCond .ne 13, 3) := by decide +kernel
theorem d_LB_bits_28 : decode b_LB_bits 28 = .ok (.new 88, 3) := by decide +kernel
theorem d_LB_bits_31 : decode b_LB_bits 31 = .ok (.dup, 1) := by decide +kernel
theorem d_LB_bits_32 : decode b_LB_bits 32 = .ok (.ldc 161, 2) := by decide +kernel
theorem d_LB_bits_34 : decode b_LB_bits 34 = .ok (.invokespecial 92, 3) := by decide +kernel
theorem d_LB_bits_37 : decode b_LB_bits 37 = .ok (.athrow, 1) := by decide +kernel
theorem d_LB_bits_38 : decode b_LB_bits 38 = .ok (.iload_n 2, 1) := by decide +kernel
theorem d_LB_bits_39 : decode b_LB_bits 39 = .ok (.iconst 1, 1) := by decide +kernel
theorem d_LB_bits_40 : decode b_LB_bits 40 = .ok (.if_icmp .lt 9, 3) := by decide +kernel
theorem d_LB_bits_43 : decode b_LB_bits 43 = .ok (.iload_n 2, 1) := by decide +kernel
theorem d_LB_bits_44 : decode b_LB_bits 44 = .ok (.bipush 64, 2) := by decide +kernel
theorem d_LB_bits_46 : decode b_LB_bits 46 = .ok (.if_icmp .le 13, 3) := by decide +kernel
theorem d_LB_bits_49 : decode b_LB_bits 49 = .ok (.new 88, 3) := by decide +kernel
theorem d_LB_bits_52 : decode b_LB_bits 52 = .ok (.dup, 1) := by decide +kernel
theorem d_LB_bits_53 : decode b_LB_bits 53 = .ok (.ldc 163, 2) := by decide +kernel
theorem d_LB_bits_55 : decode b_LB_bits 55 = .ok (.invokespecial 92, 3) := by decide +kernel
theorem d_LB_bits_58 : decode b_LB_bits 58 = .ok (.athrow, 1) := by decide +kernel
theorem d_LB_bits_59 : decode b_LB_bits 59 = .ok (.lconst 0, 1) := by decide +kernel
theorem d_LB_bits_60 : decode b_LB_bits 60 = .ok (.lstore_n 3, 1) := by decide +kernel
theorem d_LB_bits_61 : decode b_LB_bits 61 = .ok (.iconst 0, 1) := by decide +kernel
theorem d_LB_bits_62 : decode b_LB_bits 62 = .ok (.istore 5, 2) := by decide +kernel
theorem d_LB_bits_64 : decode b_LB_bits 64 = .ok (.iload 5, 2) := by decide +kernel
theorem d_LB_bits_66 : decode b_LB_bits 66 = .ok (.iload_n 2, 1) := by decide +kernel
theorem d_LB_bits_67 : decode b_LB_bits 67 = .ok (.if_icmp .ge 44, 3) := by decide +kernel
theorem d_LB_bits_70 : decode b_LB_bits 70 = .ok (.aload_n 0, 1) := by decide +kernel
theorem d_LB_bits_71 : decode b_LB_bits 71 = .ok (.getfield 193, 3) := by decide +kernel
theorem d_LB_bits_74 : decode b_LB_bits 74 = .ok (.ifCond .eq 13, 3) := by decide +kernel
theorem d_LB_bits_77 : decode b_LB_bits 77 = .ok (.aload_n 0, 1) := by decide +kernel
theorem d_LB_bits_78 : decode b_LB_bits 78 = .ok (.getfield 74, 3) := by decide +kernel
theorem d_LB_bits_81 : decode b_LB_bits 81 = .ok (.invokevirtual 202, 3) := by decide +kernel
theorem d_LB_bits_84 : decode b_LB_bits 84 = .ok (.goto 11, 3) := by decide +kernel
theorem d_LB_bits_87 : decode b_LB_bits 87 = .ok (.aload_n 0, 1) := by decide +kernel
theorem d_LB_bits_88 : decode b_LB_bits 88 = .ok (.getfield 65, 3) := by decide +kernel
theorem d_LB_bits_91 : decode b_LB_bits 91 = .ok (.iload_n 1, 1) := by decide +kernel
theorem d_LB_bits_92 : decode b_LB_bits 92 = .ok (.invokevirtual 205, 3) := by decide +kernel
theorem d_LB_bits_95 : decode b_LB_bits 95 = .ok (.istore 6, 2) := by decide +kernel
theorem d_LB_bits_97 : decode b_LB_bits 97 = .ok (.lload_n 3, 1) := by decide +kernel
theorem d_LB_bits_98 : decode b_LB_bits 98 = .ok (.iconst 1, 1) := by decide +kernel
theorem d_LB_bits_99 : decode b_LB_bits 99 = .ok (.lshl, 1) := by decide +kernel
theorem d_LB_bits_100 : decode b_LB_bits 100 = .ok (.iload 6, 2) := by decide +kernel
theorem d_LB_bits_102 : decode b_LB_bits 102 = .ok (.i2l, 1) := by decide +kernel
theorem d_LB_bits_103 : decode b_LB_bits 103 = .ok (.lor, 1) := by decide +kernel
theorem d_LB_bits_104 : decode b_LB_bits 104 = .ok (.lstore_n 3, 1) := by decide +kernel
theorem d_LB_bits_105 : decode b_LB_bits 105 = .ok (.iinc 5 1, 3) := by decide +kernel
theorem d_LB_bits_108 : decode b_LB_bits 108 = .ok (.goto (-44), 3) := by decide +kernel
theorem d_LB_bits_111 : decode b_LB_bits 111 = .ok (.lload_n 3, 1) := by decide +kernel
theorem d_LB_bits_112 : decode b_LB_bits 112 = .ok (.lreturn, 1) := by decide +kernel
theorem d_LB_register_0 : decode b_LB_register 0 = .ok (.iload_n 1, 1) := by decide +kernel
theorem d_LB_register_1 : decode b_LB_register 1 = .ok (.tableswitch 148 0 4 #[35, 61, 87, 103, 122], 35) := by decide +kernel
theorem d_LB_register_36 : decode b_LB_register 36 = .ok (.aload_n 0, 1) := by decide +kernel
theorem d_LB_register_37 : decode b_LB_register 37 = .ok (.getfield 81, 3) := by decide +kernel
theorem d_LB_register_40 : decode b_LB_register 40 = .ok (.ifCond .eq 20, 3) := by decide +kernel
theorem d_LB_register_43 : decode b_LB_register 43 = .ok (.aload_n 0, 1) := by decide +kernel
theorem d_LB_register_44 : decode b_LB_register 44 = .ok (.getfield 147, 3) := by decide +kernel
theorem d_LB_register_47 : decode b_LB_register 47 = .ok (.ifCond .ne 13, 3) := by decide +kernel
theorem d_LB_register_50 : decode b_LB_register 50 = .ok (.aload_n 0, 1) := by decide +kernel
theorem d_LB_register_51 : decode b_LB_register 51 = .ok (.getfield 40, 3) := by decide +kernel
theorem d_LB_register_54 : decode b_LB_register 54 = .ok (.getfield 207, 3) := by decide +kernel
theorem d_LB_register_57 : decode b_LB_register 57 = .ok (.goto 4, 3) := by decide +kernel
theorem d_LB_register_60 : decode b_LB_register 60 = .ok (.iconst (-1), 1) := by decide +kernel
theorem d_LB_register_61 : decode b_LB_register 61 = .ok (.ireturn, 1) := by decide +kernel
theorem d_LB_register_62 : decode b_LB_register 62 = .ok (.aload_n 0, 1) := by decide +kernel
theorem d_LB_register_63 : decode b_LB_register 63 = .ok (.getfield 81, 3) := by decide +kernel
theorem d_LB_register_66 : decode b_LB_register 66 = .ok (.ifCond .eq 20, 3) := by decide +kernel
theorem d_LB_register_69 : decode b_LB_register 69 = .ok (.aload_n 0, 1) := by decide +kernel
theorem d_LB_register_70 : decode b_LB_register 70 = .ok (.getfield 147, 3) := by decide +kernel
theorem d_LB_register_73 : decode b_LB_register 73 = .ok (.ifCond .ne 13, 3) := by decide +kernel
theorem d_LB_register_76 : decode b_LB_register 76 = .ok (.aload_n 0, 1) := by decide +kernel
theorem d_LB_register_77 : decode b_LB_register 77 = .ok (.getfield 40, 3) := by decide +kernel
theorem d_LB_register_80 : decode b_LB_register 80 = .ok (.getfield 211, 3) := by decide +kernel
theorem d_LB_register_83 : decode b_LB_register 83 = .ok (.goto 4, 3) := by decide +kernel
theorem d_LB_register_86 : decode b_LB_register 86 = .ok (.iconst (-1), 1) := by decide +kernel
theorem d_LB_register_87 : decode b_LB_register 87 = .ok (.ireturn, 1) := by decide +kernel
theorem d_LB_register_88 : decode b_LB_register 88 = .ok (.aload_n 0, 1) := by decide +kernel
theorem d_LB_register_89 : decode b_LB_register 89 = .ok (.getfield 81, 3) := by decide +kernel
theorem d_LB_register_92 : decode b_LB_register 92 = .ok (.ifCond .eq 10, 3) := by decide +kernel
theorem d_LB_register_95 : decode b_LB_register 95 = .ok (.aload_n 0, 1) := by decide +kernel
theorem d_LB_register_96 : decode b_LB_register 96 = .ok (.invokevirtual 214, 3) := by decide +kernel
theorem d_LB_register_99 : decode b_LB_register 99 = .ok (.goto 4, 3) := by decide +kernel
theorem d_LB_register_102 : decode b_LB_register 102 = .ok (.iconst (-1), 1) := by decide +kernel
theorem d_LB_register_103 : decode b_LB_register 103 = .ok (.ireturn, 1) := by decide +kernel
theorem d_LB_register_104 : decode b_LB_register 104 = .ok (.aload_n 0, 1) := by decide +kernel
theorem d_LB_register_105 : decode b_LB_register 105 = .ok (.getfield 85, 3) := by decide +kernel
theorem d_LB_register_108 : decode b_LB_register 108 = .ok (.ifCond .eq 13, 3) := by decide +kernel
theorem d_LB_register_111 : decode b_LB_register 111 = .ok (.aload_n 0, 1) := by decide +kernel
theorem d_LB_register_112 : decode b_LB_register 112 = .ok (.getfield 56, 3) := by decide +kernel
theorem d_LB_register_115 : decode b_LB_register 115 = .ok (.getfield 217, 3) := by decide +kernel
theorem d_LB_register_118 : decode b_LB_register 118 = .ok (.goto 4, 3) := by decide +kernel
theorem d_LB_register_121 : decode b_LB_register 121 = .ok (.iconst (-1), 1) := by decide +kernel
theorem d_LB_register_122 : decode b_LB_register 122 = .ok (.ireturn, 1) := by decide +kernel
theorem d_LB_register_123 : decode b_LB_register 123 = .ok (.aload_n 0, 1) := by decide +kernel
theorem d_LB_register_124 : decode b_LB_register 124 = .ok (.getfield 85, 3) := by decide +kernel
theorem d_LB_register_127 : decode b_LB_register 127 = .ok (.ifCond .eq 20, 3) := by decide +kernel
theorem d_LB_register_130 : decode b_LB_register 130 = .ok (.aload_n 0, 1) := by decide +kernel
theorem d_LB_register_131 : decode b_LB_register 131 = .ok (.getfield 193, 3) := by decide +kernel
theorem d_LB_register_134 : decode b_LB_register 134 = .ok (.ifCond .ne 13, 3) := by decide +kernel
theorem d_LB_register_137 : decode b_LB_register 137 = .ok (.aload_n 0, 1) := by decide +kernel
theorem d_LB_register_138 : decode b_LB_register 138 = .ok (.getfield 65, 3) := by decide +kernel
theorem d_LB_register_141 : decode b_LB_register 141 = .ok (.getfield 220, 3) := by decide +kernel
theorem d_LB_register_144 : decode b_LB_register 144 = .ok (.goto 4, 3) := by decide +kernel
theorem d_LB_register_147 : decode b_LB_register 147 = .ok (.iconst (-1), 1) := by decide +kernel
theorem d_LB_register_148 : decode b_LB_register 148 = .ok (.ireturn, 1) := by decide +kernel
theorem d_LB_register_149 : decode b_LB_register 149 = .ok (.iconst (-1), 1) := by decide +kernel
theorem d_LB_register_150 : decode b_LB_register 150 = .ok (.ireturn, 1) := by decide +kernel
theorem d_LB_roomOfSegment_0 : decode b_LB_roomOfSegment 0 = .ok (.aload_n 0, 1) := by decide +kernel
theorem d_LB_roomOfSegment_1 : decode b_LB_roomOfSegment 1 = .ok (.getfield 147, 3) := by decide +kernel
theorem d_LB_roomOfSegment_4 : decode b_LB_roomOfSegment 4 = .ok (.ifCond .eq 13, 3) := by decide +kernel
theorem d_LB_roomOfSegment_7 : decode b_LB_roomOfSegment 7 = .ok (.aload_n 0, 1) := by decide +kernel
theorem d_LB_roomOfSegment_8 : decode b_LB_roomOfSegment 8 = .ok (.getfield 49, 3) := by decide +kernel
theorem d_LB_roomOfSegment_11 : decode b_LB_roomOfSegment 11 = .ok (.getfield 221, 3) := by decide +kernel
theorem d_LB_roomOfSegment_14 : decode b_LB_roomOfSegment 14 = .ok (.goto 10, 3) := by decide +kernel
theorem d_LB_roomOfSegment_17 : decode b_LB_roomOfSegment 17 = .ok (.aload_n 0, 1) := by decide +kernel
theorem d_LB_roomOfSegment_18 : decode b_LB_roomOfSegment 18 = .ok (.getfield 40, 3) := by decide +kernel
theorem d_LB_roomOfSegment_21 : decode b_LB_roomOfSegment 21 = .ok (.getfield 224, 3) := by decide +kernel
theorem d_LB_roomOfSegment_24 : decode b_LB_roomOfSegment 24 = .ok (.ireturn, 1) := by decide +kernel
theorem d_LB_contextsOf_0 : decode b_LB_contextsOf 0 = .ok (.iload_n 1, 1) := by decide +kernel
theorem d_LB_contextsOf_1 : decode b_LB_contextsOf 1 = .ok (.ifCond .eq 10, 3) := by decide +kernel
theorem d_LB_contextsOf_4 : decode b_LB_contextsOf 4 = .ok (.aload_n 0, 1) := by decide +kernel
theorem d_LB_contextsOf_5 : decode b_LB_contextsOf 5 = .ok (.getfield 23, 3) := by decide +kernel
theorem d_LB_contextsOf_8 : decode b_LB_contextsOf 8 = .ok (.goto 7, 3) := by decide +kernel
theorem d_LB_contextsOf_11 : decode b_LB_contextsOf 11 = .ok (.aload_n 0, 1) := by decide +kernel
theorem d_LB_contextsOf_12 : decode b_LB_contextsOf 12 = .ok (.getfield 19, 3) := by decide +kernel
theorem d_LB_contextsOf_15 : decode b_LB_contextsOf 15 = .ok (.areturn, 1) := by decide +kernel
theorem d_LB_isContext_0 : decode b_LB_isContext 0 = .ok (.iload_n 0, 1) := by decide +kernel
theorem d_LB_isContext_1 : decode b_LB_isContext 1 = .ok (.ifCond .lt 13, 3) := by decide +kernel
theorem d_LB_isContext_4 : decode b_LB_isContext 4 = .ok (.iload_n 0, 1) := by decide +kernel
theorem d_LB_isContext_5 : decode b_LB_isContext 5 = .ok (.bipush 19, 2) := by decide +kernel
theorem d_LB_isContext_7 : decode b_LB_isContext 7 = .ok (.if_icmp .ge 7, 3) := by decide +kernel
theorem d_LB_isContext_10 : decode b_LB_isContext 10 = .ok (.iconst 1, 1) := by decide +kernel
theorem d_LB_isContext_11 : decode b_LB_isContext 11 = .ok (.goto 4, 3) := by decide +kernel
theorem d_LB_isContext_14 : decode b_LB_isContext 14 = .ok (.iconst 0, 1) := by decide +kernel
theorem d_LB_isContext_15 : decode b_LB_isContext 15 = .ok (.ireturn, 1) := by decide +kernel
theorem d_LB_fits_0 : decode b_LB_fits 0 = .ok (.iload_n 1, 1) := by decide +kernel
theorem d_LB_fits_1 : decode b_LB_fits 1 = .ok (.ifCond .eq 16, 3) := by decide +kernel
theorem d_LB_fits_4 : decode b_LB_fits 4 = .ok (.iload_n 0, 1) := by decide +kernel
theorem d_LB_fits_5 : decode b_LB_fits 5 = .ok (.iconst (-1), 1) := by decide +kernel
theorem d_LB_fits_6 : decode b_LB_fits 6 = .ok (.if_icmp .ne 7, 3) := by decide +kernel
theorem d_LB_fits_9 : decode b_LB_fits 9 = .ok (.iconst 1, 1) := by decide +kernel
theorem d_LB_fits_10 : decode b_LB_fits 10 = .ok (.goto 11, 3) := by decide +kernel
theorem d_LB_fits_13 : decode b_LB_fits 13 = .ok (.iconst 0, 1) := by decide +kernel
theorem d_LB_fits_14 : decode b_LB_fits 14 = .ok (.goto 7, 3) := by decide +kernel
theorem d_LB_fits_17 : decode b_LB_fits 17 = .ok (.iload_n 0, 1) := by decide +kernel

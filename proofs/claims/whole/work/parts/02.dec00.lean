theorem d_Row_init_0 : decode b_Row_init 0 = .ok (.aload_n 0, 1) := by decide +kernel
theorem d_Row_init_1 : decode b_Row_init 1 = .ok (.invokespecial 3, 3) := by decide +kernel
theorem d_Row_init_4 : decode b_Row_init 4 = .ok (.aload_n 0, 1) := by decide +kernel
theorem d_Row_init_5 : decode b_Row_init 5 = .ok (.sipush 256, 3) := by decide +kernel
theorem d_Row_init_8 : decode b_Row_init 8 = .ok (.newarray .int, 2) := by decide +kernel
theorem d_Row_init_10 : decode b_Row_init 10 = .ok (.putfield 11, 3) := by decide +kernel
theorem d_Row_init_13 : decode b_Row_init 13 = .ok (.return_, 1) := by decide +kernel
theorem d_Row_count_0 : decode b_Row_count 0 = .ok (.aload_n 0, 1) := by decide +kernel
theorem d_Row_count_1 : decode b_Row_count 1 = .ok (.getfield 15, 3) := by decide +kernel
theorem d_Row_count_4 : decode b_Row_count 4 = .ok (.ireturn, 1) := by decide +kernel
theorem d_Row_empty_0 : decode b_Row_empty 0 = .ok (.aload_n 0, 1) := by decide +kernel
theorem d_Row_empty_1 : decode b_Row_empty 1 = .ok (.iconst 0, 1) := by decide +kernel
theorem d_Row_empty_2 : decode b_Row_empty 2 = .ok (.putfield 15, 3) := by decide +kernel
theorem d_Row_empty_5 : decode b_Row_empty 5 = .ok (.return_, 1) := by decide +kernel
theorem d_Row_byteAt_0 : decode b_Row_byteAt 0 = .ok (.iload_n 1, 1) := by decide +kernel
theorem d_Row_byteAt_1 : decode b_Row_byteAt 1 = .ok (.ifCond .lt 29, 3) := by decide +kernel
theorem d_Row_byteAt_4 : decode b_Row_byteAt 4 = .ok (.iload_n 1, 1) := by decide +kernel
theorem d_Row_byteAt_5 : decode b_Row_byteAt 5 = .ok (.aload_n 0, 1) := by decide +kernel
theorem d_Row_byteAt_6 : decode b_Row_byteAt 6 = .ok (.getfield 15, 3) := by decide +kernel
theorem d_Row_byteAt_9 : decode b_Row_byteAt 9 = .ok (.if_icmp .ge 21, 3) := by decide +kernel
theorem d_Row_byteAt_12 : decode b_Row_byteAt 12 = .ok (.iload_n 1, 1) := by decide +kernel
theorem d_Row_byteAt_13 : decode b_Row_byteAt 13 = .ok (.aload_n 0, 1) := by decide +kernel
theorem d_Row_byteAt_14 : decode b_Row_byteAt 14 = .ok (.getfield 11, 3) := by decide +kernel
theorem d_Row_byteAt_17 : decode b_Row_byteAt 17 = .ok (.arraylength, 1) := by decide +kernel
theorem d_Row_byteAt_18 : decode b_Row_byteAt 18 = .ok (.if_icmp .ge 12, 3) := by decide +kernel
theorem d_Row_byteAt_21 : decode b_Row_byteAt 21 = .ok (.aload_n 0, 1) := by decide +kernel
theorem d_Row_byteAt_22 : decode b_Row_byteAt 22 = .ok (.getfield 11, 3) := by decide +kernel
theorem d_Row_byteAt_25 : decode b_Row_byteAt 25 = .ok (.iload_n 1, 1) := by decide +kernel
theorem d_Row_byteAt_26 : decode b_Row_byteAt 26 = .ok (.iaload, 1) := by decide +kernel
theorem d_Row_byteAt_27 : decode b_Row_byteAt 27 = .ok (.goto 6, 3) := by decide +kernel
theorem d_Row_byteAt_30 : decode b_Row_byteAt 30 = .ok (.sipush 255, 3) := by decide +kernel
theorem d_Row_byteAt_33 : decode b_Row_byteAt 33 = .ok (.ireturn, 1) := by decide +kernel
theorem d_Row_change_0 : decode b_Row_change 0 = .ok (.iload_n 1, 1) := by decide +kernel
theorem d_Row_change_1 : decode b_Row_change 1 = .ok (.ifCond .lt 27, 3) := by decide +kernel
theorem d_Row_change_4 : decode b_Row_change 4 = .ok (.iload_n 1, 1) := by decide +kernel
theorem d_Row_change_5 : decode b_Row_change 5 = .ok (.aload_n 0, 1) := by decide +kernel
theorem d_Row_change_6 : decode b_Row_change 6 = .ok (.getfield 15, 3) := by decide +kernel
theorem d_Row_change_9 : decode b_Row_change 9 = .ok (.if_icmp .ge 19, 3) := by decide +kernel
theorem d_Row_change_12 : decode b_Row_change 12 = .ok (.iload_n 1, 1) := by decide +kernel
theorem d_Row_change_13 : decode b_Row_change 13 = .ok (.aload_n 0, 1) := by decide +kernel
theorem d_Row_change_14 : decode b_Row_change 14 = .ok (.getfield 11, 3) := by decide +kernel
theorem d_Row_change_17 : decode b_Row_change 17 = .ok (.arraylength, 1) := by decide +kernel
theorem d_Row_change_18 : decode b_Row_change 18 = .ok (.if_icmp .ge 10, 3) := by decide +kernel
theorem d_Row_change_21 : decode b_Row_change 21 = .ok (.aload_n 0, 1) := by decide +kernel
theorem d_Row_change_22 : decode b_Row_change 22 = .ok (.getfield 11, 3) := by decide +kernel
theorem d_Row_change_25 : decode b_Row_change 25 = .ok (.iload_n 1, 1) := by decide +kernel
theorem d_Row_change_26 : decode b_Row_change 26 = .ok (.iload_n 2, 1) := by decide +kernel
theorem d_Row_change_27 : decode b_Row_change 27 = .ok (.iastore, 1) := by decide +kernel
theorem d_Row_change_28 : decode b_Row_change 28 = .ok (.return_, 1) := by decide +kernel
theorem d_Row_append_0 : decode b_Row_append 0 = .ok (.aload_n 0, 1) := by decide +kernel
theorem d_Row_append_1 : decode b_Row_append 1 = .ok (.getfield 15, 3) := by decide +kernel
theorem d_Row_append_4 : decode b_Row_append 4 = .ok (.aload_n 0, 1) := by decide +kernel
theorem d_Row_append_5 : decode b_Row_append 5 = .ok (.getfield 11, 3) := by decide +kernel
theorem d_Row_append_8 : decode b_Row_append 8 = .ok (.arraylength, 1) := by decide +kernel
theorem d_Row_append_9 : decode b_Row_append 9 = .ok (.if_icmp .lt 36, 3) := by decide +kernel
theorem d_Row_append_12 : decode b_Row_append 12 = .ok (.aload_n 0, 1) := by decide +kernel
theorem d_Row_append_13 : decode b_Row_append 13 = .ok (.getfield 11, 3) := by decide +kernel
theorem d_Row_append_16 : decode b_Row_append 16 = .ok (.arraylength, 1) := by decide +kernel
theorem d_Row_append_17 : decode b_Row_append 17 = .ok (.ldc 19, 2) := by decide +kernel
theorem d_Row_append_19 : decode b_Row_append 19 = .ok (.if_icmp .ge 26, 3) := by decide +kernel
theorem d_Row_append_22 : decode b_Row_append 22 = .ok (.aload_n 0, 1) := by decide +kernel
theorem d_Row_append_23 : decode b_Row_append 23 = .ok (.aload_n 0, 1) := by decide +kernel
theorem d_Row_append_24 : decode b_Row_append 24 = .ok (.getfield 11, 3) := by decide +kernel
theorem d_Row_append_27 : decode b_Row_append 27 = .ok (.ldc 19, 2) := by decide +kernel
theorem d_Row_append_29 : decode b_Row_append 29 = .ok (.iconst 2, 1) := by decide +kernel
theorem d_Row_append_30 : decode b_Row_append 30 = .ok (.aload_n 0, 1) := by decide +kernel
theorem d_Row_append_31 : decode b_Row_append 31 = .ok (.getfield 11, 3) := by decide +kernel
theorem d_Row_append_34 : decode b_Row_append 34 = .ok (.arraylength, 1) := by decide +kernel
theorem d_Row_append_35 : decode b_Row_append 35 = .ok (.imul, 1) := by decide +kernel
theorem d_Row_append_36 : decode b_Row_append 36 = .ok (.invokestatic 20, 3) := by decide +kernel
theorem d_Row_append_39 : decode b_Row_append 39 = .ok (.invokestatic 26, 3) := by decide +kernel
theorem d_Row_append_42 : decode b_Row_append 42 = .ok (.putfield 11, 3) := by decide +kernel
theorem d_Row_append_45 : decode b_Row_append 45 = .ok (.aload_n 0, 1) := by decide +kernel
theorem d_Row_append_46 : decode b_Row_append 46 = .ok (.getfield 15, 3) := by decide +kernel
theorem d_Row_append_49 : decode b_Row_append 49 = .ok (.ifCond .lt 35, 3) := by decide +kernel
theorem d_Row_append_52 : decode b_Row_append 52 = .ok (.aload_n 0, 1) := by decide +kernel
theorem d_Row_append_53 : decode b_Row_append 53 = .ok (.getfield 15, 3) := by decide +kernel
theorem d_Row_append_56 : decode b_Row_append 56 = .ok (.aload_n 0, 1) := by decide +kernel
theorem d_Row_append_57 : decode b_Row_append 57 = .ok (.getfield 11, 3) := by decide +kernel
theorem d_Row_append_60 : decode b_Row_append 60 = .ok (.arraylength, 1) := by decide +kernel
theorem d_Row_append_61 : decode b_Row_append 61 = .ok (.if_icmp .ge 23, 3) := by decide +kernel
theorem d_Row_append_64 : decode b_Row_append 64 = .ok (.aload_n 0, 1) := by decide +kernel
theorem d_Row_append_65 : decode b_Row_append 65 = .ok (.getfield 11, 3) := by decide +kernel
theorem d_Row_append_68 : decode b_Row_append 68 = .ok (.aload_n 0, 1) := by decide +kernel
theorem d_Row_append_69 : decode b_Row_append 69 = .ok (.getfield 15, 3) := by decide +kernel
theorem d_Row_append_72 : decode b_Row_append 72 = .ok (.iload_n 1, 1) := by decide +kernel
theorem d_Row_append_73 : decode b_Row_append 73 = .ok (.iastore, 1) := by decide +kernel
theorem d_Row_append_74 : decode b_Row_append 74 = .ok (.aload_n 0, 1) := by decide +kernel
theorem d_Row_append_75 : decode b_Row_append 75 = .ok (.dup, 1) := by decide +kernel
theorem d_Row_append_76 : decode b_Row_append 76 = .ok (.getfield 15, 3) := by decide +kernel
theorem d_Row_append_79 : decode b_Row_append 79 = .ok (.iconst 1, 1) := by decide +kernel
theorem d_Row_append_80 : decode b_Row_append 80 = .ok (.iadd, 1) := by decide +kernel
theorem d_Row_append_81 : decode b_Row_append 81 = .ok (.putfield 15, 3) := by decide +kernel
theorem d_Row_append_84 : decode b_Row_append 84 = .ok (.return_, 1) := by decide +kernel
theorem d_Row_dropLast_0 : decode b_Row_dropLast 0 = .ok (.aload_n 0, 1) := by decide +kernel
theorem d_Row_dropLast_1 : decode b_Row_dropLast 1 = .ok (.getfield 15, 3) := by decide +kernel
theorem d_Row_dropLast_4 : decode b_Row_dropLast 4 = .ok (.ifCond .le 13, 3) := by decide +kernel
theorem d_Row_dropLast_7 : decode b_Row_dropLast 7 = .ok (.aload_n 0, 1) := by decide +kernel
theorem d_Row_dropLast_8 : decode b_Row_dropLast 8 = .ok (.dup, 1) := by decide +kernel
theorem d_Row_dropLast_9 : decode b_Row_dropLast 9 = .ok (.getfield 15, 3) := by decide +kernel
theorem d_Row_dropLast_12 : decode b_Row_dropLast 12 = .ok (.iconst 1, 1) := by decide +kernel
theorem d_Row_dropLast_13 : decode b_Row_dropLast 13 = .ok (.isub, 1) := by decide +kernel
theorem d_Row_dropLast_14 : decode b_Row_dropLast 14 = .ok (.putfield 15, 3) := by decide +kernel
theorem d_Row_dropLast_17 : decode b_Row_dropLast 17 = .ok (.return_, 1) := by decide +kernel
theorem d_Cxt_init_0 : decode b_Cxt_init 0 = .ok (.aload_n 0, 1) := by decide +kernel
theorem d_Cxt_init_1 : decode b_Cxt_init 1 = .ok (.invokespecial 3, 3) := by decide +kernel
theorem d_Cxt_init_4 : decode b_Cxt_init 4 = .ok (.aload_n 0, 1) := by decide +kernel
theorem d_Cxt_init_5 : decode b_Cxt_init 5 = .ok (.bipush 19, 2) := by decide +kernel
theorem d_Cxt_init_7 : decode b_Cxt_init 7 = .ok (.newarray .int, 2) := by decide +kernel
theorem d_Cxt_init_9 : decode b_Cxt_init 9 = .ok (.putfield 9, 3) := by decide +kernel
theorem d_Cxt_init_12 : decode b_Cxt_init 12 = .ok (.aload_n 0, 1) := by decide +kernel
theorem d_Cxt_init_13 : decode b_Cxt_init 13 = .ok (.bipush 19, 2) := by decide +kernel
theorem d_Cxt_init_15 : decode b_Cxt_init 15 = .ok (.newarray .int, 2) := by decide +kernel
theorem d_Cxt_init_17 : decode b_Cxt_init 17 = .ok (.putfield 15, 3) := by decide +kernel
theorem d_Cxt_init_20 : decode b_Cxt_init 20 = .ok (.return_, 1) := by decide +kernel
theorem d_Cxt_set_0 : decode b_Cxt_set 0 = .ok (.iload_n 1, 1) := by decide +kernel
theorem d_Cxt_set_1 : decode b_Cxt_set 1 = .ok (.ifCond .lt 35, 3) := by decide +kernel
theorem d_Cxt_set_4 : decode b_Cxt_set 4 = .ok (.iload_n 1, 1) := by decide +kernel
theorem d_Cxt_set_5 : decode b_Cxt_set 5 = .ok (.aload_n 0, 1) := by decide +kernel
theorem d_Cxt_set_6 : decode b_Cxt_set 6 = .ok (.getfield 9, 3) := by decide +kernel
theorem d_Cxt_set_9 : decode b_Cxt_set 9 = .ok (.arraylength, 1) := by decide +kernel
theorem d_Cxt_set_10 : decode b_Cxt_set 10 = .ok (.if_icmp .ge 26, 3) := by decide +kernel
theorem d_Cxt_set_13 : decode b_Cxt_set 13 = .ok (.iload_n 1, 1) := by decide +kernel
theorem d_Cxt_set_14 : decode b_Cxt_set 14 = .ok (.aload_n 0, 1) := by decide +kernel
theorem d_Cxt_set_15 : decode b_Cxt_set 15 = .ok (.getfield 15, 3) := by decide +kernel
theorem d_Cxt_set_18 : decode b_Cxt_set 18 = .ok (.arraylength, 1) := by decide +kernel
theorem d_Cxt_set_19 : decode b_Cxt_set 19 = .ok (.if_icmp .ge 17, 3) := by decide +kernel
theorem d_Cxt_set_22 : decode b_Cxt_set 22 = .ok (.aload_n 0, 1) := by decide +kernel
theorem d_Cxt_set_23 : decode b_Cxt_set 23 = .ok (.getfield 9, 3) := by decide +kernel
theorem d_Cxt_set_26 : decode b_Cxt_set 26 = .ok (.iload_n 1, 1) := by decide +kernel
theorem d_Cxt_set_27 : decode b_Cxt_set 27 = .ok (.iload_n 2, 1) := by decide +kernel
theorem d_Cxt_set_28 : decode b_Cxt_set 28 = .ok (.iastore, 1) := by decide +kernel
theorem d_Cxt_set_29 : decode b_Cxt_set 29 = .ok (.aload_n 0, 1) := by decide +kernel
theorem d_Cxt_set_30 : decode b_Cxt_set 30 = .ok (.getfield 15, 3) := by decide +kernel
theorem d_Cxt_set_33 : decode b_Cxt_set 33 = .ok (.iload_n 1, 1) := by decide +kernel
theorem d_Cxt_set_34 : decode b_Cxt_set 34 = .ok (.iload_n 3, 1) := by decide +kernel
theorem d_Cxt_set_35 : decode b_Cxt_set 35 = .ok (.iastore, 1) := by decide +kernel
theorem d_Cxt_set_36 : decode b_Cxt_set 36 = .ok (.return_, 1) := by decide +kernel
theorem d_Cxt_stateOf_0 : decode b_Cxt_stateOf 0 = .ok (.aload_n 0, 1) := by decide +kernel
theorem d_Cxt_stateOf_1 : decode b_Cxt_stateOf 1 = .ok (.getfield 9, 3) := by decide +kernel
theorem d_Cxt_stateOf_4 : decode b_Cxt_stateOf 4 = .ok (.iload_n 1, 1) := by decide +kernel
theorem d_Cxt_stateOf_5 : decode b_Cxt_stateOf 5 = .ok (.invokestatic 18, 3) := by decide +kernel
theorem d_Cxt_stateOf_8 : decode b_Cxt_stateOf 8 = .ok (.ireturn, 1) := by decide +kernel
theorem d_Cxt_likelyBitOf_0 : decode b_Cxt_likelyBitOf 0 = .ok (.aload_n 0, 1) := by decide +kernel
theorem d_Cxt_likelyBitOf_1 : decode b_Cxt_likelyBitOf 1 = .ok (.getfield 15, 3) := by decide +kernel
theorem d_Cxt_likelyBitOf_4 : decode b_Cxt_likelyBitOf 4 = .ok (.iload_n 1, 1) := by decide +kernel
theorem d_Cxt_likelyBitOf_5 : decode b_Cxt_likelyBitOf 5 = .ok (.invokestatic 18, 3) := by decide +kernel
theorem d_Cxt_likelyBitOf_8 : decode b_Cxt_likelyBitOf 8 = .ok (.ireturn, 1) := by decide +kernel
theorem d_Cxt_partOf_0 : decode b_Cxt_partOf 0 = .ok (.getstatic 22, 3) := by decide +kernel
theorem d_Cxt_partOf_3 : decode b_Cxt_partOf 3 = .ok (.aload_n 0, 1) := by decide +kernel
theorem d_Cxt_partOf_4 : decode b_Cxt_partOf 4 = .ok (.iload_n 1, 1) := by decide +kernel
theorem d_Cxt_partOf_5 : decode b_Cxt_partOf 5 = .ok (.invokevirtual 25, 3) := by decide +kernel
theorem d_Cxt_partOf_8 : decode b_Cxt_partOf 8 = .ok (.invokestatic 18, 3) := by decide +kernel
theorem d_Cxt_partOf_11 : decode b_Cxt_partOf 11 = .ok (.ireturn, 1) := by decide +kernel
theorem d_Cxt_afterLikely_0 : decode b_Cxt_afterLikely 0 = .ok (.aload_n 0, 1) := by decide +kernel
theorem d_Cxt_afterLikely_1 : decode b_Cxt_afterLikely 1 = .ok (.iload_n 1, 1) := by decide +kernel
theorem d_Cxt_afterLikely_2 : decode b_Cxt_afterLikely 2 = .ok (.getstatic 29, 3) := by decide +kernel
theorem d_Cxt_afterLikely_5 : decode b_Cxt_afterLikely 5 = .ok (.aload_n 0, 1) := by decide +kernel
theorem d_Cxt_afterLikely_6 : decode b_Cxt_afterLikely 6 = .ok (.iload_n 1, 1) := by decide +kernel
theorem d_Cxt_afterLikely_7 : decode b_Cxt_afterLikely 7 = .ok (.invokevirtual 25, 3) := by decide +kernel
theorem d_Cxt_afterLikely_10 : decode b_Cxt_afterLikely 10 = .ok (.invokestatic 18, 3) := by decide +kernel
theorem d_Cxt_afterLikely_13 : decode b_Cxt_afterLikely 13 = .ok (.aload_n 0, 1) := by decide +kernel
theorem d_Cxt_afterLikely_14 : decode b_Cxt_afterLikely 14 = .ok (.iload_n 1, 1) := by decide +kernel
theorem d_Cxt_afterLikely_15 : decode b_Cxt_afterLikely 15 = .ok (.invokevirtual 32, 3) := by decide +kernel
theorem d_Cxt_afterLikely_18 : decode b_Cxt_afterLikely 18 = .ok (.invokevirtual 35, 3) := by decide +kernel
theorem d_Cxt_afterLikely_21 : decode b_Cxt_afterLikely 21 = .ok (.return_, 1) := by decide +kernel
theorem d_Cxt_afterOther_0 : decode b_Cxt_afterOther 0 = .ok (.aload_n 0, 1) := by decide +kernel
theorem d_Cxt_afterOther_1 : decode b_Cxt_afterOther 1 = .ok (.iload_n 1, 1) := by decide +kernel
theorem d_Cxt_afterOther_2 : decode b_Cxt_afterOther 2 = .ok (.invokevirtual 25, 3) := by decide +kernel
theorem d_Cxt_afterOther_5 : decode b_Cxt_afterOther 5 = .ok (.istore_n 2, 1) := by decide +kernel
theorem d_Cxt_afterOther_6 : decode b_Cxt_afterOther 6 = .ok (.iload_n 2, 1) := by decide +kernel
theorem d_Cxt_afterOther_7 : decode b_Cxt_afterOther 7 = .ok (.invokestatic 39, 3) := by decide +kernel
theorem d_Cxt_afterOther_10 : decode b_Cxt_afterOther 10 = .ok (.ifCond .eq 13, 3) := by decide +kernel
theorem d_Cxt_afterOther_13 : decode b_Cxt_afterOther 13 = .ok (.iconst 1, 1) := by decide +kernel
theorem d_Cxt_afterOther_14 : decode b_Cxt_afterOther 14 = .ok (.aload_n 0, 1) := by decide +kernel
theorem d_Cxt_afterOther_15 : decode b_Cxt_afterOther 15 = .ok (.iload_n 1, 1) := by decide +kernel
theorem d_Cxt_afterOther_16 : decode b_Cxt_afterOther 16 = .ok (.invokevirtual 32, 3) := by decide +kernel
theorem d_Cxt_afterOther_19 : decode b_Cxt_afterOther 19 = .ok (.isub, 1) := by decide +kernel
theorem d_Cxt_afterOther_20 : decode b_Cxt_afterOther 20 = .ok (.goto 8, 3) := by decide +kernel
theorem d_Cxt_afterOther_23 : decode b_Cxt_afterOther 23 = .ok (.aload_n 0, 1) := by decide +kernel
theorem d_Cxt_afterOther_24 : decode b_Cxt_afterOther 24 = .ok (.iload_n 1, 1) := by decide +kernel
theorem d_Cxt_afterOther_25 : decode b_Cxt_afterOther 25 = .ok (.invokevirtual 32, 3) := by decide +kernel
theorem d_Cxt_afterOther_28 : decode b_Cxt_afterOther 28 = .ok (.istore_n 3, 1) := by decide +kernel
theorem d_Cxt_afterOther_29 : decode b_Cxt_afterOther 29 = .ok (.aload_n 0, 1) := by decide +kernel
theorem d_Cxt_afterOther_30 : decode b_Cxt_afterOther 30 = .ok (.iload_n 1, 1) := by decide +kernel
theorem d_Cxt_afterOther_31 : decode b_Cxt_afterOther 31 = .ok (.getstatic 43, 3) := by decide +kernel
theorem d_Cxt_afterOther_34 : decode b_Cxt_afterOther 34 = .ok (.iload_n 2, 1) := by decide +kernel
theorem d_Cxt_afterOther_35 : decode b_Cxt_afterOther 35 = .ok (.invokestatic 18, 3) := by decide +kernel
theorem d_Cxt_afterOther_38 : decode b_Cxt_afterOther 38 = .ok (.iload_n 3, 1) := by decide +kernel
theorem d_Cxt_afterOther_39 : decode b_Cxt_afterOther 39 = .ok (.invokevirtual 35, 3) := by decide +kernel
theorem d_Cxt_afterOther_42 : decode b_Cxt_afterOther 42 = .ok (.return_, 1) := by decide +kernel
theorem d_Cxt_turns_0 : decode b_Cxt_turns 0 = .ok (.iload_n 0, 1) := by decide +kernel
theorem d_Cxt_turns_1 : decode b_Cxt_turns 1 = .ok (.ifCond .eq 15, 3) := by decide +kernel
theorem d_Cxt_turns_4 : decode b_Cxt_turns 4 = .ok (.iload_n 0, 1) := by decide +kernel
theorem d_Cxt_turns_5 : decode b_Cxt_turns 5 = .ok (.bipush 6, 2) := by decide +kernel
theorem d_Cxt_turns_7 : decode b_Cxt_turns 7 = .ok (.if_icmp .eq 9, 3) := by decide +kernel
theorem d_Cxt_turns_10 : decode b_Cxt_turns 10 = .ok (.iload_n 0, 1) := by decide +kernel
theorem d_Cxt_turns_11 : decode b_Cxt_turns 11 = .ok (.bipush 14, 2) := by decide +kernel
theorem d_Cxt_turns_13 : decode b_Cxt_turns 13 = .ok (.if_icmp .ne 7, 3) := by decide +kernel
theorem d_Cxt_turns_16 : decode b_Cxt_turns 16 = .ok (.iconst 1, 1) := by decide +kernel
theorem d_Cxt_turns_17 : decode b_Cxt_turns 17 = .ok (.goto 4, 3) := by decide +kernel
theorem d_Cxt_turns_20 : decode b_Cxt_turns 20 = .ok (.iconst 0, 1) := by decide +kernel
theorem d_Cxt_turns_21 : decode b_Cxt_turns 21 = .ok (.ireturn, 1) := by decide +kernel
theorem d_Cxt_entry_0 : decode b_Cxt_entry 0 = .ok (.iload_n 1, 1) := by decide +kernel
theorem d_Cxt_entry_1 : decode b_Cxt_entry 1 = .ok (.ifCond .lt 15, 3) := by decide +kernel
theorem d_Cxt_entry_4 : decode b_Cxt_entry 4 = .ok (.iload_n 1, 1) := by decide +kernel
theorem d_Cxt_entry_5 : decode b_Cxt_entry 5 = .ok (.aload_n 0, 1) := by decide +kernel
theorem d_Cxt_entry_6 : decode b_Cxt_entry 6 = .ok (.arraylength, 1) := by decide +kernel
theorem d_Cxt_entry_7 : decode b_Cxt_entry 7 = .ok (.if_icmp .ge 9, 3) := by decide +kernel
theorem d_Cxt_entry_10 : decode b_Cxt_entry 10 = .ok (.aload_n 0, 1) := by decide +kernel
theorem d_Cxt_entry_11 : decode b_Cxt_entry 11 = .ok (.iload_n 1, 1) := by decide +kernel
theorem d_Cxt_entry_12 : decode b_Cxt_entry 12 = .ok (.iaload, 1) := by decide +kernel
theorem d_Cxt_entry_13 : decode b_Cxt_entry 13 = .ok (.goto 4, 3) := by decide +kernel
theorem d_Cxt_entry_16 : decode b_Cxt_entry 16 = .ok (.iconst 0, 1) := by decide +kernel
theorem d_Cxt_entry_17 : decode b_Cxt_entry 17 = .ok (.ireturn, 1) := by decide +kernel
theorem d_Seg_init_0 : decode b_Seg_init 0 = .ok (.aload_n 0, 1) := by decide +kernel
theorem d_Seg_init_1 : decode b_Seg_init 1 = .ok (.invokespecial 3, 3) := by decide +kernel
theorem d_Seg_init_4 : decode b_Seg_init 4 = .ok (.aload_n 0, 1) := by decide +kernel
theorem d_Seg_init_5 : decode b_Seg_init 5 = .ok (.aload_n 1, 1) := by decide +kernel
theorem d_Seg_init_6 : decode b_Seg_init 6 = .ok (.putfield 9, 3) := by decide +kernel
theorem d_Seg_init_9 : decode b_Seg_init 9 = .ok (.return_, 1) := by decide +kernel
theorem d_Seg_begin_0 : decode b_Seg_begin 0 = .ok (.aload_n 0, 1) := by decide +kernel
theorem d_Seg_begin_1 : decode b_Seg_begin 1 = .ok (.aload_n 0, 1) := by decide +kernel
theorem d_Seg_begin_2 : decode b_Seg_begin 2 = .ok (.getfield 9, 3) := by decide +kernel
theorem d_Seg_begin_5 : decode b_Seg_begin 5 = .ok (.invokevirtual 15, 3) := by decide +kernel
theorem d_Seg_begin_8 : decode b_Seg_begin 8 = .ok (.putfield 21, 3) := by decide +kernel
theorem d_Seg_begin_11 : decode b_Seg_begin 11 = .ok (.return_, 1) := by decide +kernel
theorem d_Seg_length_0 : decode b_Seg_length 0 = .ok (.aload_n 0, 1) := by decide +kernel
theorem d_Seg_length_1 : decode b_Seg_length 1 = .ok (.getfield 9, 3) := by decide +kernel
theorem d_Seg_length_4 : decode b_Seg_length 4 = .ok (.invokevirtual 15, 3) := by decide +kernel
theorem d_Seg_length_7 : decode b_Seg_length 7 = .ok (.aload_n 0, 1) := by decide +kernel
theorem d_Seg_length_8 : decode b_Seg_length 8 = .ok (.getfield 21, 3) := by decide +kernel
theorem d_Seg_length_11 : decode b_Seg_length 11 = .ok (.isub, 1) := by decide +kernel
theorem d_Seg_length_12 : decode b_Seg_length 12 = .ok (.ireturn, 1) := by decide +kernel
theorem d_Seg_last_0 : decode b_Seg_last 0 = .ok (.aload_n 0, 1) := by decide +kernel
theorem d_Seg_last_1 : decode b_Seg_last 1 = .ok (.invokevirtual 25, 3) := by decide +kernel
theorem d_Seg_last_4 : decode b_Seg_last 4 = .ok (.ifCond .le 22, 3) := by decide +kernel
theorem d_Seg_last_7 : decode b_Seg_last 7 = .ok (.aload_n 0, 1) := by decide +kernel
theorem d_Seg_last_8 : decode b_Seg_last 8 = .ok (.getfield 9, 3) := by decide +kernel
theorem d_Seg_last_11 : decode b_Seg_last 11 = .ok (.aload_n 0, 1) := by decide +kernel
theorem d_Seg_last_12 : decode b_Seg_last 12 = .ok (.getfield 9, 3) := by decide +kernel
theorem d_Seg_last_15 : decode b_Seg_last 15 = .ok (.invokevirtual 15, 3) := by decide +kernel
theorem d_Seg_last_18 : decode b_Seg_last 18 = .ok (.iconst 1, 1) := by decide +kernel
theorem d_Seg_last_19 : decode b_Seg_last 19 = .ok (.isub, 1) := by decide +kernel
theorem d_Seg_last_20 : decode b_Seg_last 20 = .ok (.invokevirtual 28, 3) := by decide +kernel
theorem d_Seg_last_23 : decode b_Seg_last 23 = .ok (.goto 4, 3) := by decide +kernel
theorem d_Seg_last_26 : decode b_Seg_last 26 = .ok (.iconst (-1), 1) := by decide +kernel
theorem d_Seg_last_27 : decode b_Seg_last 27 = .ok (.ireturn, 1) := by decide +kernel
theorem d_Seg_changeLast_0 : decode b_Seg_changeLast 0 = .ok (.aload_n 0, 1) := by decide +kernel
theorem d_Seg_changeLast_1 : decode b_Seg_changeLast 1 = .ok (.invokevirtual 25, 3) := by decide +kernel
theorem d_Seg_changeLast_4 : decode b_Seg_changeLast 4 = .ok (.ifCond .le 20, 3) := by decide +kernel
theorem d_Seg_changeLast_7 : decode b_Seg_changeLast 7 = .ok (.aload_n 0, 1) := by decide +kernel
theorem d_Seg_changeLast_8 : decode b_Seg_changeLast 8 = .ok (.getfield 9, 3) := by decide +kernel
theorem d_Seg_changeLast_11 : decode b_Seg_changeLast 11 = .ok (.aload_n 0, 1) := by decide +kernel
theorem d_Seg_changeLast_12 : decode b_Seg_changeLast 12 = .ok (.getfield 9, 3) := by decide +kernel
theorem d_Seg_changeLast_15 : decode b_Seg_changeLast 15 = .ok (.invokevirtual 15, 3) := by decide +kernel
theorem d_Seg_changeLast_18 : decode b_Seg_changeLast 18 = .ok (.iconst 1, 1) := by decide +kernel
theorem d_Seg_changeLast_19 : decode b_Seg_changeLast 19 = .ok (.isub, 1) := by decide +kernel
theorem d_Seg_changeLast_20 : decode b_Seg_changeLast 20 = .ok (.iload_n 1, 1) := by decide +kernel
theorem d_Seg_changeLast_21 : decode b_Seg_changeLast 21 = .ok (.invokevirtual 32, 3) := by decide +kernel
theorem d_Seg_changeLast_24 : decode b_Seg_changeLast 24 = .ok (.return_, 1) := by decide +kernel
theorem d_Seg_append_0 : decode b_Seg_append 0 = .ok (.aload_n 0, 1) := by decide +kernel
theorem d_Seg_append_1 : decode b_Seg_append 1 = .ok (.getfield 9, 3) := by decide +kernel
theorem d_Seg_append_4 : decode b_Seg_append 4 = .ok (.iload_n 1, 1) := by decide +kernel
theorem d_Seg_append_5 : decode b_Seg_append 5 = .ok (.invokevirtual 36, 3) := by decide +kernel
theorem d_Seg_append_8 : decode b_Seg_append 8 = .ok (.return_, 1) := by decide +kernel
theorem d_Seg_dropLastIfAllOnes_0 : decode b_Seg_dropLastIfAllOnes 0 = .ok (.aload_n 0, 1) := by decide +kernel
theorem d_Seg_dropLastIfAllOnes_1 : decode b_Seg_dropLastIfAllOnes 1 = .ok (.invokevirtual 40, 3) := by decide +kernel
theorem d_Seg_dropLastIfAllOnes_4 : decode b_Seg_dropLastIfAllOnes 4 = .ok (.sipush 255, 3) := by decide +kernel
theorem d_Seg_dropLastIfAllOnes_7 : decode b_Seg_dropLastIfAllOnes 7 = .ok (.if_icmp .ne 10, 3) := by decide +kernel
theorem d_Seg_dropLastIfAllOnes_10 : decode b_Seg_dropLastIfAllOnes 10 = .ok (.aload_n 0, 1) := by decide +kernel
theorem d_Seg_dropLastIfAllOnes_11 : decode b_Seg_dropLastIfAllOnes 11 = .ok (.getfield 9, 3) := by decide +kernel
theorem d_Seg_dropLastIfAllOnes_14 : decode b_Seg_dropLastIfAllOnes 14 = .ok (.invokevirtual 43, 3) := by decide +kernel
theorem d_Seg_dropLastIfAllOnes_17 : decode b_Seg_dropLastIfAllOnes 17 = .ok (.return_, 1) := by decide +kernel
theorem d_Src_init_0 : decode b_Src_init 0 = .ok (.aload_n 0, 1) := by decide +kernel
theorem d_Src_init_1 : decode b_Src_init 1 = .ok (.invokespecial 3, 3) := by decide +kernel
theorem d_Src_init_4 : decode b_Src_init 4 = .ok (.aload_n 0, 1) := by decide +kernel
theorem d_Src_init_5 : decode b_Src_init 5 = .ok (.aload_n 1, 1) := by decide +kernel
theorem d_Src_init_6 : decode b_Src_init 6 = .ok (.putfield 9, 3) := by decide +kernel
theorem d_Src_init_9 : decode b_Src_init 9 = .ok (.return_, 1) := by decide +kernel
theorem d_Src_begin_0 : decode b_Src_begin 0 = .ok (.aload_n 0, 1) := by decide +kernel
theorem d_Src_begin_1 : decode b_Src_begin 1 = .ok (.iload_n 1, 1) := by decide +kernel
theorem d_Src_begin_2 : decode b_Src_begin 2 = .ok (.putfield 15, 3) := by decide +kernel
theorem d_Src_begin_5 : decode b_Src_begin 5 = .ok (.aload_n 0, 1) := by decide +kernel
theorem d_Src_begin_6 : decode b_Src_begin 6 = .ok (.iload_n 2, 1) := by decide +kernel
theorem d_Src_begin_7 : decode b_Src_begin 7 = .ok (.putfield 19, 3) := by decide +kernel
theorem d_Src_begin_10 : decode b_Src_begin 10 = .ok (.aload_n 0, 1) := by decide +kernel
theorem d_Src_begin_11 : decode b_Src_begin 11 = .ok (.iconst 0, 1) := by decide +kernel
theorem d_Src_begin_12 : decode b_Src_begin 12 = .ok (.putfield 22, 3) := by decide +kernel
theorem d_Src_begin_15 : decode b_Src_begin 15 = .ok (.return_, 1) := by decide +kernel
theorem d_Src_peek_0 : decode b_Src_peek 0 = .ok (.aload_n 0, 1) := by decide +kernel
theorem d_Src_peek_1 : decode b_Src_peek 1 = .ok (.getfield 22, 3) := by decide +kernel
theorem d_Src_peek_4 : decode b_Src_peek 4 = .ok (.aload_n 0, 1) := by decide +kernel
theorem d_Src_peek_5 : decode b_Src_peek 5 = .ok (.getfield 19, 3) := by decide +kernel
theorem d_Src_peek_8 : decode b_Src_peek 8 = .ok (.if_icmp .ge 22, 3) := by decide +kernel
theorem d_Src_peek_11 : decode b_Src_peek 11 = .ok (.aload_n 0, 1) := by decide +kernel
theorem d_Src_peek_12 : decode b_Src_peek 12 = .ok (.getfield 9, 3) := by decide +kernel
theorem d_Src_peek_15 : decode b_Src_peek 15 = .ok (.aload_n 0, 1) := by decide +kernel
theorem d_Src_peek_16 : decode b_Src_peek 16 = .ok (.getfield 15, 3) := by decide +kernel
theorem d_Src_peek_19 : decode b_Src_peek 19 = .ok (.aload_n 0, 1) := by decide +kernel
theorem d_Src_peek_20 : decode b_Src_peek 20 = .ok (.getfield 22, 3) := by decide +kernel
theorem d_Src_peek_23 : decode b_Src_peek 23 = .ok (.iadd, 1) := by decide +kernel
theorem d_Src_peek_24 : decode b_Src_peek 24 = .ok (.invokevirtual 25, 3) := by decide +kernel
theorem d_Src_peek_27 : decode b_Src_peek 27 = .ok (.goto 6, 3) := by decide +kernel
theorem d_Src_peek_30 : decode b_Src_peek 30 = .ok (.sipush 255, 3) := by decide +kernel
theorem d_Src_peek_33 : decode b_Src_peek 33 = .ok (.ireturn, 1) := by decide +kernel
theorem d_Src_take_0 : decode b_Src_take 0 = .ok (.aload_n 0, 1) := by decide +kernel
theorem d_Src_take_1 : decode b_Src_take 1 = .ok (.invokevirtual 31, 3) := by decide +kernel
theorem d_Src_take_4 : decode b_Src_take 4 = .ok (.istore_n 1, 1) := by decide +kernel
theorem d_Src_take_5 : decode b_Src_take 5 = .ok (.aload_n 0, 1) := by decide +kernel
theorem d_Src_take_6 : decode b_Src_take 6 = .ok (.getfield 22, 3) := by decide +kernel
theorem d_Src_take_9 : decode b_Src_take 9 = .ok (.aload_n 0, 1) := by decide +kernel
theorem d_Src_take_10 : decode b_Src_take 10 = .ok (.getfield 19, 3) := by decide +kernel
theorem d_Src_take_13 : decode b_Src_take 13 = .ok (.if_icmp .ge 13, 3) := by decide +kernel
theorem d_Src_take_16 : decode b_Src_take 16 = .ok (.aload_n 0, 1) := by decide +kernel
theorem d_Src_take_17 : decode b_Src_take 17 = .ok (.dup, 1) := by decide +kernel
theorem d_Src_take_18 : decode b_Src_take 18 = .ok (.getfield 22, 3) := by decide +kernel
theorem d_Src_take_21 : decode b_Src_take 21 = .ok (.iconst 1, 1) := by decide +kernel
theorem d_Src_take_22 : decode b_Src_take 22 = .ok (.iadd, 1) := by decide +kernel
theorem d_Src_take_23 : decode b_Src_take 23 = .ok (.putfield 22, 3) := by decide +kernel
theorem d_Src_take_26 : decode b_Src_take 26 = .ok (.iload_n 1, 1) := by decide +kernel
theorem d_Src_take_27 : decode b_Src_take 27 = .ok (.ireturn, 1) := by decide +kernel
theorem d_CWr_init_0 : decode b_CWr_init 0 = .ok (.aload_n 0, 1) := by decide +kernel
theorem d_CWr_init_1 : decode b_CWr_init 1 = .ok (.invokespecial 3, 3) := by decide +kernel
theorem d_CWr_init_4 : decode b_CWr_init 4 = .ok (.aload_n 0, 1) := by decide +kernel
theorem d_CWr_init_5 : decode b_CWr_init 5 = .ok (.aload_n 1, 1) := by decide +kernel
theorem d_CWr_init_6 : decode b_CWr_init 6 = .ok (.putfield 9, 3) := by decide +kernel
theorem d_CWr_init_9 : decode b_CWr_init 9 = .ok (.aload_n 0, 1) := by decide +kernel
theorem d_CWr_init_10 : decode b_CWr_init 10 = .ok (.aload_n 2, 1) := by decide +kernel
theorem d_CWr_init_11 : decode b_CWr_init 11 = .ok (.putfield 15, 3) := by decide +kernel
theorem d_CWr_init_14 : decode b_CWr_init 14 = .ok (.return_, 1) := by decide +kernel
theorem d_CWr_begin_0 : decode b_CWr_begin 0 = .ok (.aload_n 0, 1) := by decide +kernel
theorem d_CWr_begin_1 : decode b_CWr_begin 1 = .ok (.iconst 0, 1) := by decide +kernel
theorem d_CWr_begin_2 : decode b_CWr_begin 2 = .ok (.putfield 19, 3) := by decide +kernel
theorem d_CWr_begin_5 : decode b_CWr_begin 5 = .ok (.aload_n 0, 1) := by decide +kernel
theorem d_CWr_begin_6 : decode b_CWr_begin 6 = .ok (.ldc 23, 2) := by decide +kernel
theorem d_CWr_begin_8 : decode b_CWr_begin 8 = .ok (.putfield 24, 3) := by decide +kernel
theorem d_CWr_begin_11 : decode b_CWr_begin 11 = .ok (.aload_n 0, 1) := by decide +kernel
theorem d_CWr_begin_12 : decode b_CWr_begin 12 = .ok (.bipush 12, 2) := by decide +kernel
theorem d_CWr_begin_14 : decode b_CWr_begin 14 = .ok (.putfield 27, 3) := by decide +kernel
theorem d_CWr_begin_17 : decode b_CWr_begin 17 = .ok (.return_, 1) := by decide +kernel
theorem d_CWr_add_0 : decode b_CWr_add 0 = .ok (.aload_n 0, 1) := by decide +kernel
theorem d_CWr_add_1 : decode b_CWr_add 1 = .ok (.getfield 15, 3) := by decide +kernel
theorem d_CWr_add_4 : decode b_CWr_add 4 = .ok (.iload_n 1, 1) := by decide +kernel
theorem d_CWr_add_5 : decode b_CWr_add 5 = .ok (.invokevirtual 30, 3) := by decide +kernel
theorem d_CWr_add_8 : decode b_CWr_add 8 = .ok (.istore_n 3, 1) := by decide +kernel
theorem d_CWr_add_9 : decode b_CWr_add 9 = .ok (.aload_n 0, 1) := by decide +kernel
theorem d_CWr_add_10 : decode b_CWr_add 10 = .ok (.dup, 1) := by decide +kernel
theorem d_CWr_add_11 : decode b_CWr_add 11 = .ok (.getfield 24, 3) := by decide +kernel
theorem d_CWr_add_14 : decode b_CWr_add 14 = .ok (.iload_n 3, 1) := by decide +kernel
theorem d_CWr_add_15 : decode b_CWr_add 15 = .ok (.isub, 1) := by decide +kernel
theorem d_CWr_add_16 : decode b_CWr_add 16 = .ok (.putfield 24, 3) := by decide +kernel
theorem d_CWr_add_19 : decode b_CWr_add 19 = .ok (.iload_n 2, 1) := by decide +kernel
theorem d_CWr_add_20 : decode b_CWr_add 20 = .ok (.aload_n 0, 1) := by decide +kernel
theorem d_CWr_add_21 : decode b_CWr_add 21 = .ok (.getfield 15, 3) := by decide +kernel
theorem d_CWr_add_24 : decode b_CWr_add 24 = .ok (.iload_n 1, 1) := by decide +kernel
theorem d_CWr_add_25 : decode b_CWr_add 25 = .ok (.invokevirtual 36, 3) := by decide +kernel
theorem d_CWr_add_28 : decode b_CWr_add 28 = .ok (.if_icmp .ne 12, 3) := by decide +kernel
theorem d_CWr_add_31 : decode b_CWr_add 31 = .ok (.aload_n 0, 1) := by decide +kernel
theorem d_CWr_add_32 : decode b_CWr_add 32 = .ok (.iload_n 1, 1) := by decide +kernel
theorem d_CWr_add_33 : decode b_CWr_add 33 = .ok (.iload_n 3, 1) := by decide +kernel
theorem d_CWr_add_34 : decode b_CWr_add 34 = .ok (.invokevirtual 39, 3) := by decide +kernel
theorem d_CWr_add_37 : decode b_CWr_add 37 = .ok (.goto 9, 3) := by decide +kernel
theorem d_CWr_add_40 : decode b_CWr_add 40 = .ok (.aload_n 0, 1) := by decide +kernel
theorem d_CWr_add_41 : decode b_CWr_add 41 = .ok (.iload_n 1, 1) := by decide +kernel
theorem d_CWr_add_42 : decode b_CWr_add 42 = .ok (.iload_n 3, 1) := by decide +kernel
theorem d_CWr_add_43 : decode b_CWr_add 43 = .ok (.invokevirtual 43, 3) := by decide +kernel
theorem d_CWr_add_46 : decode b_CWr_add 46 = .ok (.aload_n 0, 1) := by decide +kernel
theorem d_CWr_add_47 : decode b_CWr_add 47 = .ok (.invokevirtual 46, 3) := by decide +kernel
theorem d_CWr_add_50 : decode b_CWr_add 50 = .ok (.return_, 1) := by decide +kernel
theorem d_CWr_addLikely_0 : decode b_CWr_addLikely 0 = .ok (.aload_n 0, 1) := by decide +kernel
theorem d_CWr_addLikely_1 : decode b_CWr_addLikely 1 = .ok (.getfield 24, 3) := by decide +kernel
theorem d_CWr_addLikely_4 : decode b_CWr_addLikely 4 = .ok (.ldc 23, 2) := by decide +kernel
theorem d_CWr_addLikely_6 : decode b_CWr_addLikely 6 = .ok (.if_icmp .lt 14, 3) := by decide +kernel
theorem d_CWr_addLikely_9 : decode b_CWr_addLikely 9 = .ok (.aload_n 0, 1) := by decide +kernel
theorem d_CWr_addLikely_10 : decode b_CWr_addLikely 10 = .ok (.dup, 1) := by decide +kernel
theorem d_CWr_addLikely_11 : decode b_CWr_addLikely 11 = .ok (.getfield 19, 3) := by decide +kernel
theorem d_CWr_addLikely_14 : decode b_CWr_addLikely 14 = .ok (.iload_n 2, 1) := by decide +kernel
theorem d_CWr_addLikely_15 : decode b_CWr_addLikely 15 = .ok (.iadd, 1) := by decide +kernel
theorem d_CWr_addLikely_16 : decode b_CWr_addLikely 16 = .ok (.putfield 19, 3) := by decide +kernel
theorem d_CWr_addLikely_19 : decode b_CWr_addLikely 19 = .ok (.return_, 1) := by decide +kernel
theorem d_CWr_addLikely_20 : decode b_CWr_addLikely 20 = .ok (.aload_n 0, 1) := by decide +kernel
theorem d_CWr_addLikely_21 : decode b_CWr_addLikely 21 = .ok (.getfield 24, 3) := by decide +kernel
theorem d_CWr_addLikely_24 : decode b_CWr_addLikely 24 = .ok (.iload_n 2, 1) := by decide +kernel
theorem d_CWr_addLikely_25 : decode b_CWr_addLikely 25 = .ok (.if_icmp .ge 11, 3) := by decide +kernel
theorem d_CWr_addLikely_28 : decode b_CWr_addLikely 28 = .ok (.aload_n 0, 1) := by decide +kernel
theorem d_CWr_addLikely_29 : decode b_CWr_addLikely 29 = .ok (.iload_n 2, 1) := by decide +kernel
theorem d_CWr_addLikely_30 : decode b_CWr_addLikely 30 = .ok (.putfield 24, 3) := by decide +kernel
theorem d_CWr_addLikely_33 : decode b_CWr_addLikely 33 = .ok (.goto 13, 3) := by decide +kernel
theorem d_CWr_addLikely_36 : decode b_CWr_addLikely 36 = .ok (.aload_n 0, 1) := by decide +kernel
theorem d_CWr_addLikely_37 : decode b_CWr_addLikely 37 = .ok (.dup, 1) := by decide +kernel
theorem d_CWr_addLikely_38 : decode b_CWr_addLikely 38 = .ok (.getfield 19, 3) := by decide +kernel
theorem d_CWr_addLikely_41 : decode b_CWr_addLikely 41 = .ok (.iload_n 2, 1) := by decide +kernel
theorem d_CWr_addLikely_42 : decode b_CWr_addLikely 42 = .ok (.iadd, 1) := by decide +kernel
theorem d_CWr_addLikely_43 : decode b_CWr_addLikely 43 = .ok (.putfield 19, 3) := by decide +kernel
theorem d_CWr_addLikely_46 : decode b_CWr_addLikely 46 = .ok (.aload_n 0, 1) := by decide +kernel
theorem d_CWr_addLikely_47 : decode b_CWr_addLikely 47 = .ok (.getfield 15, 3) := by decide +kernel
theorem d_CWr_addLikely_50 : decode b_CWr_addLikely 50 = .ok (.iload_n 1, 1) := by decide +kernel
theorem d_CWr_addLikely_51 : decode b_CWr_addLikely 51 = .ok (.invokevirtual 49, 3) := by decide +kernel
theorem d_CWr_addLikely_54 : decode b_CWr_addLikely 54 = .ok (.return_, 1) := by decide +kernel
theorem d_CWr_addOther_0 : decode b_CWr_addOther 0 = .ok (.aload_n 0, 1) := by decide +kernel
theorem d_CWr_addOther_1 : decode b_CWr_addOther 1 = .ok (.getfield 24, 3) := by decide +kernel
theorem d_CWr_addOther_4 : decode b_CWr_addOther 4 = .ok (.iload_n 2, 1) := by decide +kernel
theorem d_CWr_addOther_5 : decode b_CWr_addOther 5 = .ok (.if_icmp .ge 16, 3) := by decide +kernel
theorem d_CWr_addOther_8 : decode b_CWr_addOther 8 = .ok (.aload_n 0, 1) := by decide +kernel
theorem d_CWr_addOther_9 : decode b_CWr_addOther 9 = .ok (.dup, 1) := by decide +kernel
theorem d_CWr_addOther_10 : decode b_CWr_addOther 10 = .ok (.getfield 19, 3) := by decide +kernel
theorem d_CWr_addOther_13 : decode b_CWr_addOther 13 = .ok (.iload_n 2, 1) := by decide +kernel
theorem d_CWr_addOther_14 : decode b_CWr_addOther 14 = .ok (.iadd, 1) := by decide +kernel
theorem d_CWr_addOther_15 : decode b_CWr_addOther 15 = .ok (.putfield 19, 3) := by decide +kernel
theorem d_CWr_addOther_18 : decode b_CWr_addOther 18 = .ok (.goto 8, 3) := by decide +kernel
theorem d_CWr_addOther_21 : decode b_CWr_addOther 21 = .ok (.aload_n 0, 1) := by decide +kernel
theorem d_CWr_addOther_22 : decode b_CWr_addOther 22 = .ok (.iload_n 2, 1) := by decide +kernel
theorem d_CWr_addOther_23 : decode b_CWr_addOther 23 = .ok (.putfield 24, 3) := by decide +kernel
theorem d_CWr_addOther_26 : decode b_CWr_addOther 26 = .ok (.aload_n 0, 1) := by decide +kernel
theorem d_CWr_addOther_27 : decode b_CWr_addOther 27 = .ok (.getfield 15, 3) := by decide +kernel
theorem d_CWr_addOther_30 : decode b_CWr_addOther 30 = .ok (.iload_n 1, 1) := by decide +kernel
theorem d_CWr_addOther_31 : decode b_CWr_addOther 31 = .ok (.invokevirtual 53, 3) := by decide +kernel
theorem d_CWr_addOther_34 : decode b_CWr_addOther 34 = .ok (.return_, 1) := by decide +kernel
theorem d_CWr_enlarge_0 : decode b_CWr_enlarge 0 = .ok (.iconst 0, 1) := by decide +kernel
theorem d_CWr_enlarge_1 : decode b_CWr_enlarge 1 = .ok (.istore_n 1, 1) := by decide +kernel
theorem d_CWr_enlarge_2 : decode b_CWr_enlarge 2 = .ok (.iload_n 1, 1) := by decide +kernel
theorem d_CWr_enlarge_3 : decode b_CWr_enlarge 3 = .ok (.bipush 15, 2) := by decide +kernel
theorem d_CWr_enlarge_5 : decode b_CWr_enlarge 5 = .ok (.if_icmp .ge 59, 3) := by decide +kernel
theorem d_CWr_enlarge_8 : decode b_CWr_enlarge 8 = .ok (.aload_n 0, 1) := by decide +kernel
theorem d_CWr_enlarge_9 : decode b_CWr_enlarge 9 = .ok (.getfield 24, 3) := by decide +kernel
theorem d_CWr_enlarge_12 : decode b_CWr_enlarge 12 = .ok (.ldc 23, 2) := by decide +kernel
theorem d_CWr_enlarge_14 : decode b_CWr_enlarge 14 = .ok (.if_icmp .ge 50, 3) := by decide +kernel
theorem d_CWr_enlarge_17 : decode b_CWr_enlarge 17 = .ok (.aload_n 0, 1) := by decide +kernel
theorem d_CWr_enlarge_18 : decode b_CWr_enlarge 18 = .ok (.dup, 1) := by decide +kernel
theorem d_CWr_enlarge_19 : decode b_CWr_enlarge 19 = .ok (.getfield 24, 3) := by decide +kernel
theorem d_CWr_enlarge_22 : decode b_CWr_enlarge 22 = .ok (.iconst 2, 1) := by decide +kernel
theorem d_CWr_enlarge_23 : decode b_CWr_enlarge 23 = .ok (.imul, 1) := by decide +kernel
theorem d_CWr_enlarge_24 : decode b_CWr_enlarge 24 = .ok (.putfield 24, 3) := by decide +kernel
theorem d_CWr_enlarge_27 : decode b_CWr_enlarge 27 = .ok (.aload_n 0, 1) := by decide +kernel
theorem d_CWr_enlarge_28 : decode b_CWr_enlarge 28 = .ok (.dup, 1) := by decide +kernel
theorem d_CWr_enlarge_29 : decode b_CWr_enlarge 29 = .ok (.getfield 19, 3) := by decide +kernel
theorem d_CWr_enlarge_32 : decode b_CWr_enlarge 32 = .ok (.iconst 2, 1) := by decide +kernel
theorem d_CWr_enlarge_33 : decode b_CWr_enlarge 33 = .ok (.imul, 1) := by decide +kernel
theorem d_CWr_enlarge_34 : decode b_CWr_enlarge 34 = .ok (.putfield 19, 3) := by decide +kernel
theorem d_CWr_enlarge_37 : decode b_CWr_enlarge 37 = .ok (.aload_n 0, 1) := by decide +kernel
theorem d_CWr_enlarge_38 : decode b_CWr_enlarge 38 = .ok (.dup, 1) := by decide +kernel
theorem d_CWr_enlarge_39 : decode b_CWr_enlarge 39 = .ok (.getfield 27, 3) := by decide +kernel
theorem d_CWr_enlarge_42 : decode b_CWr_enlarge 42 = .ok (.iconst 1, 1) := by decide +kernel
theorem d_CWr_enlarge_43 : decode b_CWr_enlarge 43 = .ok (.isub, 1) := by decide +kernel
theorem d_CWr_enlarge_44 : decode b_CWr_enlarge 44 = .ok (.putfield 27, 3) := by decide +kernel
theorem d_CWr_enlarge_47 : decode b_CWr_enlarge 47 = .ok (.aload_n 0, 1) := by decide +kernel
theorem d_CWr_enlarge_48 : decode b_CWr_enlarge 48 = .ok (.getfield 27, 3) := by decide +kernel
theorem d_CWr_enlarge_51 : decode b_CWr_enlarge 51 = .ok (.ifCond .ne 7, 3) := by decide +kernel
theorem d_CWr_enlarge_54 : decode b_CWr_enlarge 54 = .ok (.aload_n 0, 1) := by decide +kernel
theorem d_CWr_enlarge_55 : decode b_CWr_enlarge 55 = .ok (.invokevirtual 56, 3) := by decide +kernel
theorem d_CWr_enlarge_58 : decode b_CWr_enlarge 58 = .ok (.iinc 1 1, 3) := by decide +kernel
theorem d_CWr_enlarge_61 : decode b_CWr_enlarge 61 = .ok (.goto (-59), 3) := by decide +kernel
theorem d_CWr_enlarge_64 : decode b_CWr_enlarge 64 = .ok (.return_, 1) := by decide +kernel
theorem d_CWr_byteOut_0 : decode b_CWr_byteOut 0 = .ok (.aload_n 0, 1) := by decide +kernel
theorem d_CWr_byteOut_1 : decode b_CWr_byteOut 1 = .ok (.getfield 9, 3) := by decide +kernel
theorem d_CWr_byteOut_4 : decode b_CWr_byteOut 4 = .ok (.invokevirtual 59, 3) := by decide +kernel
theorem d_CWr_byteOut_7 : decode b_CWr_byteOut 7 = .ok (.istore_n 1, 1) := by decide +kernel
theorem d_CWr_byteOut_8 : decode b_CWr_byteOut 8 = .ok (.iload_n 1, 1) := by decide +kernel
theorem d_CWr_byteOut_9 : decode b_CWr_byteOut 9 = .ok (.iconst (-1), 1) := by decide +kernel
theorem d_CWr_byteOut_10 : decode b_CWr_byteOut 10 = .ok (.if_icmp .eq 41, 3) := by decide +kernel
theorem d_CWr_byteOut_13 : decode b_CWr_byteOut 13 = .ok (.iload_n 1, 1) := by decide +kernel
theorem d_CWr_byteOut_14 : decode b_CWr_byteOut 14 = .ok (.sipush 255, 3) := by decide +kernel
theorem d_CWr_byteOut_17 : decode b_CWr_byteOut 17 = .ok (.if_icmp .eq 34, 3) := by decide +kernel
theorem d_CWr_byteOut_20 : decode b_CWr_byteOut 20 = .ok (.aload_n 0, 1) := by decide +kernel
theorem d_CWr_byteOut_21 : decode b_CWr_byteOut 21 = .ok (.getfield 19, 3) := by decide +kernel
theorem d_CWr_byteOut_24 : decode b_CWr_byteOut 24 = .ok (.ldc 65, 2) := by decide +kernel
theorem d_CWr_byteOut_26 : decode b_CWr_byteOut 26 = .ok (.if_icmp .lt 25, 3) := by decide +kernel
theorem d_CWr_byteOut_29 : decode b_CWr_byteOut 29 = .ok (.aload_n 0, 1) := by decide +kernel
theorem d_CWr_byteOut_30 : decode b_CWr_byteOut 30 = .ok (.dup, 1) := by decide +kernel
theorem d_CWr_byteOut_31 : decode b_CWr_byteOut 31 = .ok (.getfield 19, 3) := by decide +kernel
theorem d_CWr_byteOut_34 : decode b_CWr_byteOut 34 = .ok (.ldc 65, 2) := by decide +kernel
theorem d_CWr_byteOut_36 : decode b_CWr_byteOut 36 = .ok (.isub, 1) := by decide +kernel
theorem d_CWr_byteOut_37 : decode b_CWr_byteOut 37 = .ok (.putfield 19, 3) := by decide +kernel
theorem d_CWr_byteOut_40 : decode b_CWr_byteOut 40 = .ok (.iinc 1 1, 3) := by decide +kernel
theorem d_CWr_byteOut_43 : decode b_CWr_byteOut 43 = .ok (.aload_n 0, 1) := by decide +kernel
theorem d_CWr_byteOut_44 : decode b_CWr_byteOut 44 = .ok (.getfield 9, 3) := by decide +kernel
theorem d_CWr_byteOut_47 : decode b_CWr_byteOut 47 = .ok (.iload_n 1, 1) := by decide +kernel
theorem d_CWr_byteOut_48 : decode b_CWr_byteOut 48 = .ok (.invokevirtual 66, 3) := by decide +kernel
theorem d_CWr_byteOut_51 : decode b_CWr_byteOut 51 = .ok (.aload_n 0, 1) := by decide +kernel

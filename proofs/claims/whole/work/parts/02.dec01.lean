theorem d_CWr_byteOut_52 : decode b_CWr_byteOut 52 = .ok (.iload_n 1, 1) := by decide +kernel
theorem d_CWr_byteOut_53 : decode b_CWr_byteOut 53 = .ok (.sipush 255, 3) := by decide +kernel
theorem d_CWr_byteOut_56 : decode b_CWr_byteOut 56 = .ok (.if_icmp .ne 8, 3) := by decide +kernel
theorem d_CWr_byteOut_59 : decode b_CWr_byteOut 59 = .ok (.bipush 7, 2) := by decide +kernel
theorem d_CWr_byteOut_61 : decode b_CWr_byteOut 61 = .ok (.goto 5, 3) := by decide +kernel
theorem d_CWr_byteOut_64 : decode b_CWr_byteOut 64 = .ok (.bipush 8, 2) := by decide +kernel
theorem d_CWr_byteOut_66 : decode b_CWr_byteOut 66 = .ok (.putfield 27, 3) := by decide +kernel
theorem d_CWr_byteOut_69 : decode b_CWr_byteOut 69 = .ok (.bipush 27, 2) := by decide +kernel
theorem d_CWr_byteOut_71 : decode b_CWr_byteOut 71 = .ok (.aload_n 0, 1) := by decide +kernel
theorem d_CWr_byteOut_72 : decode b_CWr_byteOut 72 = .ok (.getfield 27, 3) := by decide +kernel
theorem d_CWr_byteOut_75 : decode b_CWr_byteOut 75 = .ok (.isub, 1) := by decide +kernel
theorem d_CWr_byteOut_76 : decode b_CWr_byteOut 76 = .ok (.istore_n 2, 1) := by decide +kernel
theorem d_CWr_byteOut_77 : decode b_CWr_byteOut 77 = .ok (.aload_n 0, 1) := by decide +kernel
theorem d_CWr_byteOut_78 : decode b_CWr_byteOut 78 = .ok (.getfield 9, 3) := by decide +kernel
theorem d_CWr_byteOut_81 : decode b_CWr_byteOut 81 = .ok (.aload_n 0, 1) := by decide +kernel
theorem d_CWr_byteOut_82 : decode b_CWr_byteOut 82 = .ok (.getfield 19, 3) := by decide +kernel
theorem d_CWr_byteOut_85 : decode b_CWr_byteOut 85 = .ok (.iload_n 2, 1) := by decide +kernel
theorem d_CWr_byteOut_86 : decode b_CWr_byteOut 86 = .ok (.iushr, 1) := by decide +kernel
theorem d_CWr_byteOut_87 : decode b_CWr_byteOut 87 = .ok (.sipush 255, 3) := by decide +kernel
theorem d_CWr_byteOut_90 : decode b_CWr_byteOut 90 = .ok (.iand, 1) := by decide +kernel
theorem d_CWr_byteOut_91 : decode b_CWr_byteOut 91 = .ok (.invokevirtual 69, 3) := by decide +kernel
theorem d_CWr_byteOut_94 : decode b_CWr_byteOut 94 = .ok (.aload_n 0, 1) := by decide +kernel
theorem d_CWr_byteOut_95 : decode b_CWr_byteOut 95 = .ok (.dup, 1) := by decide +kernel
theorem d_CWr_byteOut_96 : decode b_CWr_byteOut 96 = .ok (.getfield 19, 3) := by decide +kernel
theorem d_CWr_byteOut_99 : decode b_CWr_byteOut 99 = .ok (.iconst 1, 1) := by decide +kernel
theorem d_CWr_byteOut_100 : decode b_CWr_byteOut 100 = .ok (.iload_n 2, 1) := by decide +kernel
theorem d_CWr_byteOut_101 : decode b_CWr_byteOut 101 = .ok (.ishl, 1) := by decide +kernel
theorem d_CWr_byteOut_102 : decode b_CWr_byteOut 102 = .ok (.iconst 1, 1) := by decide +kernel
theorem d_CWr_byteOut_103 : decode b_CWr_byteOut 103 = .ok (.isub, 1) := by decide +kernel
theorem d_CWr_byteOut_104 : decode b_CWr_byteOut 104 = .ok (.iand, 1) := by decide +kernel
theorem d_CWr_byteOut_105 : decode b_CWr_byteOut 105 = .ok (.putfield 19, 3) := by decide +kernel
theorem d_CWr_byteOut_108 : decode b_CWr_byteOut 108 = .ok (.return_, 1) := by decide +kernel
theorem d_CWr_fillByteOut_0 : decode b_CWr_fillByteOut 0 = .ok (.aload_n 0, 1) := by decide +kernel
theorem d_CWr_fillByteOut_1 : decode b_CWr_fillByteOut 1 = .ok (.dup, 1) := by decide +kernel
theorem d_CWr_fillByteOut_2 : decode b_CWr_fillByteOut 2 = .ok (.getfield 19, 3) := by decide +kernel
theorem d_CWr_fillByteOut_5 : decode b_CWr_fillByteOut 5 = .ok (.aload_n 0, 1) := by decide +kernel
theorem d_CWr_fillByteOut_6 : decode b_CWr_fillByteOut 6 = .ok (.getfield 27, 3) := by decide +kernel
theorem d_CWr_fillByteOut_9 : decode b_CWr_fillByteOut 9 = .ok (.ishl, 1) := by decide +kernel
theorem d_CWr_fillByteOut_10 : decode b_CWr_fillByteOut 10 = .ok (.putfield 19, 3) := by decide +kernel
theorem d_CWr_fillByteOut_13 : decode b_CWr_fillByteOut 13 = .ok (.aload_n 0, 1) := by decide +kernel
theorem d_CWr_fillByteOut_14 : decode b_CWr_fillByteOut 14 = .ok (.invokevirtual 56, 3) := by decide +kernel
theorem d_CWr_fillByteOut_17 : decode b_CWr_fillByteOut 17 = .ok (.return_, 1) := by decide +kernel
theorem d_CWr_endInWay0_0 : decode b_CWr_endInWay0 0 = .ok (.aload_n 0, 1) := by decide +kernel
theorem d_CWr_endInWay0_1 : decode b_CWr_endInWay0 1 = .ok (.getfield 19, 3) := by decide +kernel
theorem d_CWr_endInWay0_4 : decode b_CWr_endInWay0 4 = .ok (.ldc 72, 2) := by decide +kernel
theorem d_CWr_endInWay0_6 : decode b_CWr_endInWay0 6 = .ok (.ior, 1) := by decide +kernel
theorem d_CWr_endInWay0_7 : decode b_CWr_endInWay0 7 = .ok (.istore_n 1, 1) := by decide +kernel
theorem d_CWr_endInWay0_8 : decode b_CWr_endInWay0 8 = .ok (.aload_n 0, 1) := by decide +kernel
theorem d_CWr_endInWay0_9 : decode b_CWr_endInWay0 9 = .ok (.iload_n 1, 1) := by decide +kernel
theorem d_CWr_endInWay0_10 : decode b_CWr_endInWay0 10 = .ok (.aload_n 0, 1) := by decide +kernel
theorem d_CWr_endInWay0_11 : decode b_CWr_endInWay0 11 = .ok (.getfield 19, 3) := by decide +kernel
theorem d_CWr_endInWay0_14 : decode b_CWr_endInWay0 14 = .ok (.aload_n 0, 1) := by decide +kernel
theorem d_CWr_endInWay0_15 : decode b_CWr_endInWay0 15 = .ok (.getfield 24, 3) := by decide +kernel
theorem d_CWr_endInWay0_18 : decode b_CWr_endInWay0 18 = .ok (.iadd, 1) := by decide +kernel
theorem d_CWr_endInWay0_19 : decode b_CWr_endInWay0 19 = .ok (.if_icmp .ge 7, 3) := by decide +kernel
theorem d_CWr_endInWay0_22 : decode b_CWr_endInWay0 22 = .ok (.iload_n 1, 1) := by decide +kernel
theorem d_CWr_endInWay0_23 : decode b_CWr_endInWay0 23 = .ok (.goto 7, 3) := by decide +kernel
theorem d_CWr_endInWay0_26 : decode b_CWr_endInWay0 26 = .ok (.iload_n 1, 1) := by decide +kernel
theorem d_CWr_endInWay0_27 : decode b_CWr_endInWay0 27 = .ok (.ldc 23, 2) := by decide +kernel
theorem d_CWr_endInWay0_29 : decode b_CWr_endInWay0 29 = .ok (.isub, 1) := by decide +kernel
theorem d_CWr_endInWay0_30 : decode b_CWr_endInWay0 30 = .ok (.putfield 19, 3) := by decide +kernel
theorem d_CWr_endInWay0_33 : decode b_CWr_endInWay0 33 = .ok (.aload_n 0, 1) := by decide +kernel
theorem d_CWr_endInWay0_34 : decode b_CWr_endInWay0 34 = .ok (.invokevirtual 73, 3) := by decide +kernel
theorem d_CWr_endInWay0_37 : decode b_CWr_endInWay0 37 = .ok (.aload_n 0, 1) := by decide +kernel
theorem d_CWr_endInWay0_38 : decode b_CWr_endInWay0 38 = .ok (.invokevirtual 73, 3) := by decide +kernel
theorem d_CWr_endInWay0_41 : decode b_CWr_endInWay0 41 = .ok (.return_, 1) := by decide +kernel
theorem d_CWr_endInWay1_0 : decode b_CWr_endInWay1 0 = .ok (.bipush 12, 2) := by decide +kernel
theorem d_CWr_endInWay1_2 : decode b_CWr_endInWay1 2 = .ok (.aload_n 0, 1) := by decide +kernel
theorem d_CWr_endInWay1_3 : decode b_CWr_endInWay1 3 = .ok (.getfield 27, 3) := by decide +kernel
theorem d_CWr_endInWay1_6 : decode b_CWr_endInWay1 6 = .ok (.isub, 1) := by decide +kernel
theorem d_CWr_endInWay1_7 : decode b_CWr_endInWay1 7 = .ok (.istore_n 1, 1) := by decide +kernel
theorem d_CWr_endInWay1_8 : decode b_CWr_endInWay1 8 = .ok (.iconst 0, 1) := by decide +kernel
theorem d_CWr_endInWay1_9 : decode b_CWr_endInWay1 9 = .ok (.istore_n 2, 1) := by decide +kernel
theorem d_CWr_endInWay1_10 : decode b_CWr_endInWay1 10 = .ok (.iload_n 2, 1) := by decide +kernel
theorem d_CWr_endInWay1_11 : decode b_CWr_endInWay1 11 = .ok (.bipush 12, 2) := by decide +kernel
theorem d_CWr_endInWay1_13 : decode b_CWr_endInWay1 13 = .ok (.if_icmp .ge 24, 3) := by decide +kernel
theorem d_CWr_endInWay1_16 : decode b_CWr_endInWay1 16 = .ok (.iload_n 1, 1) := by decide +kernel
theorem d_CWr_endInWay1_17 : decode b_CWr_endInWay1 17 = .ok (.ifCond .le 20, 3) := by decide +kernel
theorem d_CWr_endInWay1_20 : decode b_CWr_endInWay1 20 = .ok (.aload_n 0, 1) := by decide +kernel
theorem d_CWr_endInWay1_21 : decode b_CWr_endInWay1 21 = .ok (.invokevirtual 73, 3) := by decide +kernel
theorem d_CWr_endInWay1_24 : decode b_CWr_endInWay1 24 = .ok (.iload_n 1, 1) := by decide +kernel
theorem d_CWr_endInWay1_25 : decode b_CWr_endInWay1 25 = .ok (.aload_n 0, 1) := by decide +kernel
theorem d_CWr_endInWay1_26 : decode b_CWr_endInWay1 26 = .ok (.getfield 27, 3) := by decide +kernel
theorem d_CWr_endInWay1_29 : decode b_CWr_endInWay1 29 = .ok (.isub, 1) := by decide +kernel
theorem d_CWr_endInWay1_30 : decode b_CWr_endInWay1 30 = .ok (.istore_n 1, 1) := by decide +kernel
theorem d_CWr_endInWay1_31 : decode b_CWr_endInWay1 31 = .ok (.iinc 2 1, 3) := by decide +kernel
theorem d_CWr_endInWay1_34 : decode b_CWr_endInWay1 34 = .ok (.goto (-24), 3) := by decide +kernel
theorem d_CWr_endInWay1_37 : decode b_CWr_endInWay1 37 = .ok (.return_, 1) := by decide +kernel
theorem d_CRd_init_0 : decode b_CRd_init 0 = .ok (.aload_n 0, 1) := by decide +kernel
theorem d_CRd_init_1 : decode b_CRd_init 1 = .ok (.invokespecial 3, 3) := by decide +kernel
theorem d_CRd_init_4 : decode b_CRd_init 4 = .ok (.aload_n 0, 1) := by decide +kernel
theorem d_CRd_init_5 : decode b_CRd_init 5 = .ok (.aload_n 1, 1) := by decide +kernel
theorem d_CRd_init_6 : decode b_CRd_init 6 = .ok (.putfield 9, 3) := by decide +kernel
theorem d_CRd_init_9 : decode b_CRd_init 9 = .ok (.aload_n 0, 1) := by decide +kernel
theorem d_CRd_init_10 : decode b_CRd_init 10 = .ok (.aload_n 2, 1) := by decide +kernel
theorem d_CRd_init_11 : decode b_CRd_init 11 = .ok (.putfield 15, 3) := by decide +kernel
theorem d_CRd_init_14 : decode b_CRd_init 14 = .ok (.return_, 1) := by decide +kernel
theorem d_CRd_begin_0 : decode b_CRd_begin 0 = .ok (.aload_n 0, 1) := by decide +kernel
theorem d_CRd_begin_1 : decode b_CRd_begin 1 = .ok (.aload_n 0, 1) := by decide +kernel
theorem d_CRd_begin_2 : decode b_CRd_begin 2 = .ok (.getfield 9, 3) := by decide +kernel
theorem d_CRd_begin_5 : decode b_CRd_begin 5 = .ok (.invokevirtual 19, 3) := by decide +kernel
theorem d_CRd_begin_8 : decode b_CRd_begin 8 = .ok (.putfield 25, 3) := by decide +kernel
theorem d_CRd_begin_11 : decode b_CRd_begin 11 = .ok (.aload_n 0, 1) := by decide +kernel
theorem d_CRd_begin_12 : decode b_CRd_begin 12 = .ok (.aload_n 0, 1) := by decide +kernel
theorem d_CRd_begin_13 : decode b_CRd_begin 13 = .ok (.getfield 25, 3) := by decide +kernel
theorem d_CRd_begin_16 : decode b_CRd_begin 16 = .ok (.bipush 16, 2) := by decide +kernel
theorem d_CRd_begin_18 : decode b_CRd_begin 18 = .ok (.ishl, 1) := by decide +kernel
theorem d_CRd_begin_19 : decode b_CRd_begin 19 = .ok (.putfield 29, 3) := by decide +kernel
theorem d_CRd_begin_22 : decode b_CRd_begin 22 = .ok (.aload_n 0, 1) := by decide +kernel
theorem d_CRd_begin_23 : decode b_CRd_begin 23 = .ok (.ldc 32, 2) := by decide +kernel
theorem d_CRd_begin_25 : decode b_CRd_begin 25 = .ok (.putfield 33, 3) := by decide +kernel
theorem d_CRd_begin_28 : decode b_CRd_begin 28 = .ok (.aload_n 0, 1) := by decide +kernel
theorem d_CRd_begin_29 : decode b_CRd_begin 29 = .ok (.invokevirtual 36, 3) := by decide +kernel
theorem d_CRd_begin_32 : decode b_CRd_begin 32 = .ok (.aload_n 0, 1) := by decide +kernel
theorem d_CRd_begin_33 : decode b_CRd_begin 33 = .ok (.dup, 1) := by decide +kernel
theorem d_CRd_begin_34 : decode b_CRd_begin 34 = .ok (.getfield 29, 3) := by decide +kernel
theorem d_CRd_begin_37 : decode b_CRd_begin 37 = .ok (.bipush 7, 2) := by decide +kernel
theorem d_CRd_begin_39 : decode b_CRd_begin 39 = .ok (.ishl, 1) := by decide +kernel
theorem d_CRd_begin_40 : decode b_CRd_begin 40 = .ok (.putfield 29, 3) := by decide +kernel
theorem d_CRd_begin_43 : decode b_CRd_begin 43 = .ok (.aload_n 0, 1) := by decide +kernel
theorem d_CRd_begin_44 : decode b_CRd_begin 44 = .ok (.dup, 1) := by decide +kernel
theorem d_CRd_begin_45 : decode b_CRd_begin 45 = .ok (.getfield 39, 3) := by decide +kernel
theorem d_CRd_begin_48 : decode b_CRd_begin 48 = .ok (.bipush 7, 2) := by decide +kernel
theorem d_CRd_begin_50 : decode b_CRd_begin 50 = .ok (.isub, 1) := by decide +kernel
theorem d_CRd_begin_51 : decode b_CRd_begin 51 = .ok (.putfield 39, 3) := by decide +kernel
theorem d_CRd_begin_54 : decode b_CRd_begin 54 = .ok (.return_, 1) := by decide +kernel
theorem d_CRd_byteIn_0 : decode b_CRd_byteIn 0 = .ok (.aload_n 0, 1) := by decide +kernel
theorem d_CRd_byteIn_1 : decode b_CRd_byteIn 1 = .ok (.getfield 25, 3) := by decide +kernel
theorem d_CRd_byteIn_4 : decode b_CRd_byteIn 4 = .ok (.sipush 255, 3) := by decide +kernel
theorem d_CRd_byteIn_7 : decode b_CRd_byteIn 7 = .ok (.if_icmp .eq 39, 3) := by decide +kernel
theorem d_CRd_byteIn_10 : decode b_CRd_byteIn 10 = .ok (.aload_n 0, 1) := by decide +kernel
theorem d_CRd_byteIn_11 : decode b_CRd_byteIn 11 = .ok (.aload_n 0, 1) := by decide +kernel
theorem d_CRd_byteIn_12 : decode b_CRd_byteIn 12 = .ok (.getfield 9, 3) := by decide +kernel
theorem d_CRd_byteIn_15 : decode b_CRd_byteIn 15 = .ok (.invokevirtual 19, 3) := by decide +kernel
theorem d_CRd_byteIn_18 : decode b_CRd_byteIn 18 = .ok (.putfield 25, 3) := by decide +kernel
theorem d_CRd_byteIn_21 : decode b_CRd_byteIn 21 = .ok (.aload_n 0, 1) := by decide +kernel
theorem d_CRd_byteIn_22 : decode b_CRd_byteIn 22 = .ok (.dup, 1) := by decide +kernel
theorem d_CRd_byteIn_23 : decode b_CRd_byteIn 23 = .ok (.getfield 29, 3) := by decide +kernel
theorem d_CRd_byteIn_26 : decode b_CRd_byteIn 26 = .ok (.aload_n 0, 1) := by decide +kernel
theorem d_CRd_byteIn_27 : decode b_CRd_byteIn 27 = .ok (.getfield 25, 3) := by decide +kernel
theorem d_CRd_byteIn_30 : decode b_CRd_byteIn 30 = .ok (.bipush 8, 2) := by decide +kernel
theorem d_CRd_byteIn_32 : decode b_CRd_byteIn 32 = .ok (.ishl, 1) := by decide +kernel
theorem d_CRd_byteIn_33 : decode b_CRd_byteIn 33 = .ok (.iadd, 1) := by decide +kernel
theorem d_CRd_byteIn_34 : decode b_CRd_byteIn 34 = .ok (.putfield 29, 3) := by decide +kernel
theorem d_CRd_byteIn_37 : decode b_CRd_byteIn 37 = .ok (.aload_n 0, 1) := by decide +kernel
theorem d_CRd_byteIn_38 : decode b_CRd_byteIn 38 = .ok (.bipush 8, 2) := by decide +kernel
theorem d_CRd_byteIn_40 : decode b_CRd_byteIn 40 = .ok (.putfield 39, 3) := by decide +kernel
theorem d_CRd_byteIn_43 : decode b_CRd_byteIn 43 = .ok (.goto 69, 3) := by decide +kernel
theorem d_CRd_byteIn_46 : decode b_CRd_byteIn 46 = .ok (.aload_n 0, 1) := by decide +kernel
theorem d_CRd_byteIn_47 : decode b_CRd_byteIn 47 = .ok (.getfield 9, 3) := by decide +kernel
theorem d_CRd_byteIn_50 : decode b_CRd_byteIn 50 = .ok (.invokevirtual 42, 3) := by decide +kernel
theorem d_CRd_byteIn_53 : decode b_CRd_byteIn 53 = .ok (.sipush 143, 3) := by decide +kernel
theorem d_CRd_byteIn_56 : decode b_CRd_byteIn 56 = .ok (.if_icmp .le 23, 3) := by decide +kernel
theorem d_CRd_byteIn_59 : decode b_CRd_byteIn 59 = .ok (.aload_n 0, 1) := by decide +kernel
theorem d_CRd_byteIn_60 : decode b_CRd_byteIn 60 = .ok (.dup, 1) := by decide +kernel
theorem d_CRd_byteIn_61 : decode b_CRd_byteIn 61 = .ok (.getfield 29, 3) := by decide +kernel
theorem d_CRd_byteIn_64 : decode b_CRd_byteIn 64 = .ok (.ldc 45, 2) := by decide +kernel
theorem d_CRd_byteIn_66 : decode b_CRd_byteIn 66 = .ok (.iadd, 1) := by decide +kernel
theorem d_CRd_byteIn_67 : decode b_CRd_byteIn 67 = .ok (.putfield 29, 3) := by decide +kernel
theorem d_CRd_byteIn_70 : decode b_CRd_byteIn 70 = .ok (.aload_n 0, 1) := by decide +kernel
theorem d_CRd_byteIn_71 : decode b_CRd_byteIn 71 = .ok (.bipush 8, 2) := by decide +kernel
theorem d_CRd_byteIn_73 : decode b_CRd_byteIn 73 = .ok (.putfield 39, 3) := by decide +kernel
theorem d_CRd_byteIn_76 : decode b_CRd_byteIn 76 = .ok (.goto 36, 3) := by decide +kernel
theorem d_CRd_byteIn_79 : decode b_CRd_byteIn 79 = .ok (.aload_n 0, 1) := by decide +kernel
theorem d_CRd_byteIn_80 : decode b_CRd_byteIn 80 = .ok (.aload_n 0, 1) := by decide +kernel
theorem d_CRd_byteIn_81 : decode b_CRd_byteIn 81 = .ok (.getfield 9, 3) := by decide +kernel
theorem d_CRd_byteIn_84 : decode b_CRd_byteIn 84 = .ok (.invokevirtual 19, 3) := by decide +kernel
theorem d_CRd_byteIn_87 : decode b_CRd_byteIn 87 = .ok (.putfield 25, 3) := by decide +kernel
theorem d_CRd_byteIn_90 : decode b_CRd_byteIn 90 = .ok (.aload_n 0, 1) := by decide +kernel
theorem d_CRd_byteIn_91 : decode b_CRd_byteIn 91 = .ok (.dup, 1) := by decide +kernel
theorem d_CRd_byteIn_92 : decode b_CRd_byteIn 92 = .ok (.getfield 29, 3) := by decide +kernel
theorem d_CRd_byteIn_95 : decode b_CRd_byteIn 95 = .ok (.aload_n 0, 1) := by decide +kernel
theorem d_CRd_byteIn_96 : decode b_CRd_byteIn 96 = .ok (.getfield 25, 3) := by decide +kernel
theorem d_CRd_byteIn_99 : decode b_CRd_byteIn 99 = .ok (.bipush 9, 2) := by decide +kernel
theorem d_CRd_byteIn_101 : decode b_CRd_byteIn 101 = .ok (.ishl, 1) := by decide +kernel
theorem d_CRd_byteIn_102 : decode b_CRd_byteIn 102 = .ok (.iadd, 1) := by decide +kernel
theorem d_CRd_byteIn_103 : decode b_CRd_byteIn 103 = .ok (.putfield 29, 3) := by decide +kernel
theorem d_CRd_byteIn_106 : decode b_CRd_byteIn 106 = .ok (.aload_n 0, 1) := by decide +kernel
theorem d_CRd_byteIn_107 : decode b_CRd_byteIn 107 = .ok (.bipush 7, 2) := by decide +kernel
theorem d_CRd_byteIn_109 : decode b_CRd_byteIn 109 = .ok (.putfield 39, 3) := by decide +kernel
theorem d_CRd_byteIn_112 : decode b_CRd_byteIn 112 = .ok (.return_, 1) := by decide +kernel
theorem d_CRd_nextBit_0 : decode b_CRd_nextBit 0 = .ok (.aload_n 0, 1) := by decide +kernel
theorem d_CRd_nextBit_1 : decode b_CRd_nextBit 1 = .ok (.getfield 15, 3) := by decide +kernel
theorem d_CRd_nextBit_4 : decode b_CRd_nextBit 4 = .ok (.iload_n 1, 1) := by decide +kernel
theorem d_CRd_nextBit_5 : decode b_CRd_nextBit 5 = .ok (.invokevirtual 46, 3) := by decide +kernel
theorem d_CRd_nextBit_8 : decode b_CRd_nextBit 8 = .ok (.istore_n 2, 1) := by decide +kernel
theorem d_CRd_nextBit_9 : decode b_CRd_nextBit 9 = .ok (.aload_n 0, 1) := by decide +kernel
theorem d_CRd_nextBit_10 : decode b_CRd_nextBit 10 = .ok (.getfield 15, 3) := by decide +kernel
theorem d_CRd_nextBit_13 : decode b_CRd_nextBit 13 = .ok (.iload_n 1, 1) := by decide +kernel
theorem d_CRd_nextBit_14 : decode b_CRd_nextBit 14 = .ok (.invokevirtual 52, 3) := by decide +kernel
theorem d_CRd_nextBit_17 : decode b_CRd_nextBit 17 = .ok (.istore_n 3, 1) := by decide +kernel
theorem d_CRd_nextBit_18 : decode b_CRd_nextBit 18 = .ok (.aload_n 0, 1) := by decide +kernel
theorem d_CRd_nextBit_19 : decode b_CRd_nextBit 19 = .ok (.dup, 1) := by decide +kernel
theorem d_CRd_nextBit_20 : decode b_CRd_nextBit 20 = .ok (.getfield 33, 3) := by decide +kernel
theorem d_CRd_nextBit_23 : decode b_CRd_nextBit 23 = .ok (.iload_n 2, 1) := by decide +kernel
theorem d_CRd_nextBit_24 : decode b_CRd_nextBit 24 = .ok (.isub, 1) := by decide +kernel
theorem d_CRd_nextBit_25 : decode b_CRd_nextBit 25 = .ok (.putfield 33, 3) := by decide +kernel
theorem d_CRd_nextBit_28 : decode b_CRd_nextBit 28 = .ok (.aload_n 0, 1) := by decide +kernel
theorem d_CRd_nextBit_29 : decode b_CRd_nextBit 29 = .ok (.getfield 29, 3) := by decide +kernel
theorem d_CRd_nextBit_32 : decode b_CRd_nextBit 32 = .ok (.bipush 16, 2) := by decide +kernel
theorem d_CRd_nextBit_34 : decode b_CRd_nextBit 34 = .ok (.iushr, 1) := by decide +kernel
theorem d_CRd_nextBit_35 : decode b_CRd_nextBit 35 = .ok (.iload_n 2, 1) := by decide +kernel
theorem d_CRd_nextBit_36 : decode b_CRd_nextBit 36 = .ok (.if_icmp .ge 26, 3) := by decide +kernel
theorem d_CRd_nextBit_39 : decode b_CRd_nextBit 39 = .ok (.aload_n 0, 1) := by decide +kernel
theorem d_CRd_nextBit_40 : decode b_CRd_nextBit 40 = .ok (.getfield 33, 3) := by decide +kernel
theorem d_CRd_nextBit_43 : decode b_CRd_nextBit 43 = .ok (.iload_n 2, 1) := by decide +kernel
theorem d_CRd_nextBit_44 : decode b_CRd_nextBit 44 = .ok (.if_icmp .ge 7, 3) := by decide +kernel
theorem d_CRd_nextBit_47 : decode b_CRd_nextBit 47 = .ok (.iconst 1, 1) := by decide +kernel
theorem d_CRd_nextBit_48 : decode b_CRd_nextBit 48 = .ok (.goto 4, 3) := by decide +kernel
theorem d_CRd_nextBit_51 : decode b_CRd_nextBit 51 = .ok (.iconst 0, 1) := by decide +kernel
theorem d_CRd_nextBit_52 : decode b_CRd_nextBit 52 = .ok (.istore 4, 2) := by decide +kernel
theorem d_CRd_nextBit_54 : decode b_CRd_nextBit 54 = .ok (.aload_n 0, 1) := by decide +kernel
theorem d_CRd_nextBit_55 : decode b_CRd_nextBit 55 = .ok (.iload_n 2, 1) := by decide +kernel
theorem d_CRd_nextBit_56 : decode b_CRd_nextBit 56 = .ok (.putfield 33, 3) := by decide +kernel
theorem d_CRd_nextBit_59 : decode b_CRd_nextBit 59 = .ok (.goto 42, 3) := by decide +kernel
theorem d_CRd_nextBit_62 : decode b_CRd_nextBit 62 = .ok (.aload_n 0, 1) := by decide +kernel
theorem d_CRd_nextBit_63 : decode b_CRd_nextBit 63 = .ok (.dup, 1) := by decide +kernel
theorem d_CRd_nextBit_64 : decode b_CRd_nextBit 64 = .ok (.getfield 29, 3) := by decide +kernel
theorem d_CRd_nextBit_67 : decode b_CRd_nextBit 67 = .ok (.iload_n 2, 1) := by decide +kernel
theorem d_CRd_nextBit_68 : decode b_CRd_nextBit 68 = .ok (.bipush 16, 2) := by decide +kernel
theorem d_CRd_nextBit_70 : decode b_CRd_nextBit 70 = .ok (.ishl, 1) := by decide +kernel
theorem d_CRd_nextBit_71 : decode b_CRd_nextBit 71 = .ok (.isub, 1) := by decide +kernel
theorem d_CRd_nextBit_72 : decode b_CRd_nextBit 72 = .ok (.putfield 29, 3) := by decide +kernel
theorem d_CRd_nextBit_75 : decode b_CRd_nextBit 75 = .ok (.aload_n 0, 1) := by decide +kernel
theorem d_CRd_nextBit_76 : decode b_CRd_nextBit 76 = .ok (.getfield 33, 3) := by decide +kernel
theorem d_CRd_nextBit_79 : decode b_CRd_nextBit 79 = .ok (.ldc 32, 2) := by decide +kernel
theorem d_CRd_nextBit_81 : decode b_CRd_nextBit 81 = .ok (.if_icmp .lt 5, 3) := by decide +kernel
theorem d_CRd_nextBit_84 : decode b_CRd_nextBit 84 = .ok (.iload_n 3, 1) := by decide +kernel
theorem d_CRd_nextBit_85 : decode b_CRd_nextBit 85 = .ok (.ireturn, 1) := by decide +kernel
theorem d_CRd_nextBit_86 : decode b_CRd_nextBit 86 = .ok (.aload_n 0, 1) := by decide +kernel
theorem d_CRd_nextBit_87 : decode b_CRd_nextBit 87 = .ok (.getfield 33, 3) := by decide +kernel
theorem d_CRd_nextBit_90 : decode b_CRd_nextBit 90 = .ok (.iload_n 2, 1) := by decide +kernel
theorem d_CRd_nextBit_91 : decode b_CRd_nextBit 91 = .ok (.if_icmp .lt 7, 3) := by decide +kernel
theorem d_CRd_nextBit_94 : decode b_CRd_nextBit 94 = .ok (.iconst 1, 1) := by decide +kernel
theorem d_CRd_nextBit_95 : decode b_CRd_nextBit 95 = .ok (.goto 4, 3) := by decide +kernel
theorem d_CRd_nextBit_98 : decode b_CRd_nextBit 98 = .ok (.iconst 0, 1) := by decide +kernel
theorem d_CRd_nextBit_99 : decode b_CRd_nextBit 99 = .ok (.istore 4, 2) := by decide +kernel
theorem d_CRd_nextBit_101 : decode b_CRd_nextBit 101 = .ok (.iload 4, 2) := by decide +kernel
theorem d_CRd_nextBit_103 : decode b_CRd_nextBit 103 = .ok (.ifCond .eq 14, 3) := by decide +kernel
theorem d_CRd_nextBit_106 : decode b_CRd_nextBit 106 = .ok (.aload_n 0, 1) := by decide +kernel
theorem d_CRd_nextBit_107 : decode b_CRd_nextBit 107 = .ok (.getfield 15, 3) := by decide +kernel
theorem d_CRd_nextBit_110 : decode b_CRd_nextBit 110 = .ok (.iload_n 1, 1) := by decide +kernel
theorem d_CRd_nextBit_111 : decode b_CRd_nextBit 111 = .ok (.invokevirtual 55, 3) := by decide +kernel
theorem d_CRd_nextBit_114 : decode b_CRd_nextBit 114 = .ok (.goto 11, 3) := by decide +kernel
theorem d_CRd_nextBit_117 : decode b_CRd_nextBit 117 = .ok (.aload_n 0, 1) := by decide +kernel
theorem d_CRd_nextBit_118 : decode b_CRd_nextBit 118 = .ok (.getfield 15, 3) := by decide +kernel
theorem d_CRd_nextBit_121 : decode b_CRd_nextBit 121 = .ok (.iload_n 1, 1) := by decide +kernel
theorem d_CRd_nextBit_122 : decode b_CRd_nextBit 122 = .ok (.invokevirtual 59, 3) := by decide +kernel
theorem d_CRd_nextBit_125 : decode b_CRd_nextBit 125 = .ok (.aload_n 0, 1) := by decide +kernel
theorem d_CRd_nextBit_126 : decode b_CRd_nextBit 126 = .ok (.invokevirtual 62, 3) := by decide +kernel
theorem d_CRd_nextBit_129 : decode b_CRd_nextBit 129 = .ok (.iload 4, 2) := by decide +kernel
theorem d_CRd_nextBit_131 : decode b_CRd_nextBit 131 = .ok (.ifCond .eq 7, 3) := by decide +kernel
theorem d_CRd_nextBit_134 : decode b_CRd_nextBit 134 = .ok (.iload_n 3, 1) := by decide +kernel
theorem d_CRd_nextBit_135 : decode b_CRd_nextBit 135 = .ok (.goto 6, 3) := by decide +kernel
theorem d_CRd_nextBit_138 : decode b_CRd_nextBit 138 = .ok (.iconst 1, 1) := by decide +kernel
theorem d_CRd_nextBit_139 : decode b_CRd_nextBit 139 = .ok (.iload_n 3, 1) := by decide +kernel
theorem d_CRd_nextBit_140 : decode b_CRd_nextBit 140 = .ok (.isub, 1) := by decide +kernel
theorem d_CRd_nextBit_141 : decode b_CRd_nextBit 141 = .ok (.ireturn, 1) := by decide +kernel
theorem d_CRd_enlarge_0 : decode b_CRd_enlarge 0 = .ok (.iconst 0, 1) := by decide +kernel
theorem d_CRd_enlarge_1 : decode b_CRd_enlarge 1 = .ok (.istore_n 1, 1) := by decide +kernel
theorem d_CRd_enlarge_2 : decode b_CRd_enlarge 2 = .ok (.iload_n 1, 1) := by decide +kernel
theorem d_CRd_enlarge_3 : decode b_CRd_enlarge 3 = .ok (.bipush 15, 2) := by decide +kernel
theorem d_CRd_enlarge_5 : decode b_CRd_enlarge 5 = .ok (.if_icmp .ge 59, 3) := by decide +kernel
theorem d_CRd_enlarge_8 : decode b_CRd_enlarge 8 = .ok (.aload_n 0, 1) := by decide +kernel
theorem d_CRd_enlarge_9 : decode b_CRd_enlarge 9 = .ok (.getfield 33, 3) := by decide +kernel
theorem d_CRd_enlarge_12 : decode b_CRd_enlarge 12 = .ok (.ldc 32, 2) := by decide +kernel
theorem d_CRd_enlarge_14 : decode b_CRd_enlarge 14 = .ok (.if_icmp .ge 50, 3) := by decide +kernel
theorem d_CRd_enlarge_17 : decode b_CRd_enlarge 17 = .ok (.aload_n 0, 1) := by decide +kernel
theorem d_CRd_enlarge_18 : decode b_CRd_enlarge 18 = .ok (.getfield 39, 3) := by decide +kernel
theorem d_CRd_enlarge_21 : decode b_CRd_enlarge 21 = .ok (.ifCond .ne 7, 3) := by decide +kernel
theorem d_CRd_enlarge_24 : decode b_CRd_enlarge 24 = .ok (.aload_n 0, 1) := by decide +kernel
theorem d_CRd_enlarge_25 : decode b_CRd_enlarge 25 = .ok (.invokevirtual 36, 3) := by decide +kernel
theorem d_CRd_enlarge_28 : decode b_CRd_enlarge 28 = .ok (.aload_n 0, 1) := by decide +kernel
theorem d_CRd_enlarge_29 : decode b_CRd_enlarge 29 = .ok (.dup, 1) := by decide +kernel
theorem d_CRd_enlarge_30 : decode b_CRd_enlarge 30 = .ok (.getfield 33, 3) := by decide +kernel
theorem d_CRd_enlarge_33 : decode b_CRd_enlarge 33 = .ok (.iconst 2, 1) := by decide +kernel
theorem d_CRd_enlarge_34 : decode b_CRd_enlarge 34 = .ok (.imul, 1) := by decide +kernel
theorem d_CRd_enlarge_35 : decode b_CRd_enlarge 35 = .ok (.putfield 33, 3) := by decide +kernel
theorem d_CRd_enlarge_38 : decode b_CRd_enlarge 38 = .ok (.aload_n 0, 1) := by decide +kernel
theorem d_CRd_enlarge_39 : decode b_CRd_enlarge 39 = .ok (.dup, 1) := by decide +kernel
theorem d_CRd_enlarge_40 : decode b_CRd_enlarge 40 = .ok (.getfield 29, 3) := by decide +kernel
theorem d_CRd_enlarge_43 : decode b_CRd_enlarge 43 = .ok (.iconst 2, 1) := by decide +kernel
theorem d_CRd_enlarge_44 : decode b_CRd_enlarge 44 = .ok (.imul, 1) := by decide +kernel
theorem d_CRd_enlarge_45 : decode b_CRd_enlarge 45 = .ok (.putfield 29, 3) := by decide +kernel
theorem d_CRd_enlarge_48 : decode b_CRd_enlarge 48 = .ok (.aload_n 0, 1) := by decide +kernel
theorem d_CRd_enlarge_49 : decode b_CRd_enlarge 49 = .ok (.dup, 1) := by decide +kernel
theorem d_CRd_enlarge_50 : decode b_CRd_enlarge 50 = .ok (.getfield 39, 3) := by decide +kernel
theorem d_CRd_enlarge_53 : decode b_CRd_enlarge 53 = .ok (.iconst 1, 1) := by decide +kernel
theorem d_CRd_enlarge_54 : decode b_CRd_enlarge 54 = .ok (.isub, 1) := by decide +kernel
theorem d_CRd_enlarge_55 : decode b_CRd_enlarge 55 = .ok (.putfield 39, 3) := by decide +kernel
theorem d_CRd_enlarge_58 : decode b_CRd_enlarge 58 = .ok (.iinc 1 1, 3) := by decide +kernel
theorem d_CRd_enlarge_61 : decode b_CRd_enlarge 61 = .ok (.goto (-59), 3) := by decide +kernel
theorem d_CRd_enlarge_64 : decode b_CRd_enlarge 64 = .ok (.return_, 1) := by decide +kernel
theorem d_RWr_init_0 : decode b_RWr_init 0 = .ok (.aload_n 0, 1) := by decide +kernel
theorem d_RWr_init_1 : decode b_RWr_init 1 = .ok (.invokespecial 3, 3) := by decide +kernel
theorem d_RWr_init_4 : decode b_RWr_init 4 = .ok (.aload_n 0, 1) := by decide +kernel
theorem d_RWr_init_5 : decode b_RWr_init 5 = .ok (.aload_n 1, 1) := by decide +kernel
theorem d_RWr_init_6 : decode b_RWr_init 6 = .ok (.putfield 9, 3) := by decide +kernel
theorem d_RWr_init_9 : decode b_RWr_init 9 = .ok (.return_, 1) := by decide +kernel
theorem d_RWr_begin_0 : decode b_RWr_begin 0 = .ok (.aload_n 0, 1) := by decide +kernel
theorem d_RWr_begin_1 : decode b_RWr_begin 1 = .ok (.iconst 0, 1) := by decide +kernel
theorem d_RWr_begin_2 : decode b_RWr_begin 2 = .ok (.putfield 15, 3) := by decide +kernel
theorem d_RWr_begin_5 : decode b_RWr_begin 5 = .ok (.return_, 1) := by decide +kernel
theorem d_RWr_add_0 : decode b_RWr_add 0 = .ok (.aload_n 0, 1) := by decide +kernel
theorem d_RWr_add_1 : decode b_RWr_add 1 = .ok (.getfield 15, 3) := by decide +kernel
theorem d_RWr_add_4 : decode b_RWr_add 4 = .ok (.ifCond .ne 35, 3) := by decide +kernel
theorem d_RWr_add_7 : decode b_RWr_add 7 = .ok (.aload_n 0, 1) := by decide +kernel
theorem d_RWr_add_8 : decode b_RWr_add 8 = .ok (.aload_n 0, 1) := by decide +kernel
theorem d_RWr_add_9 : decode b_RWr_add 9 = .ok (.getfield 9, 3) := by decide +kernel
theorem d_RWr_add_12 : decode b_RWr_add 12 = .ok (.invokevirtual 19, 3) := by decide +kernel
theorem d_RWr_add_15 : decode b_RWr_add 15 = .ok (.sipush 255, 3) := by decide +kernel
theorem d_RWr_add_18 : decode b_RWr_add 18 = .ok (.if_icmp .ne 8, 3) := by decide +kernel
theorem d_RWr_add_21 : decode b_RWr_add 21 = .ok (.bipush 7, 2) := by decide +kernel
theorem d_RWr_add_23 : decode b_RWr_add 23 = .ok (.goto 5, 3) := by decide +kernel
theorem d_RWr_add_26 : decode b_RWr_add 26 = .ok (.bipush 8, 2) := by decide +kernel
theorem d_RWr_add_28 : decode b_RWr_add 28 = .ok (.putfield 15, 3) := by decide +kernel
theorem d_RWr_add_31 : decode b_RWr_add 31 = .ok (.aload_n 0, 1) := by decide +kernel
theorem d_RWr_add_32 : decode b_RWr_add 32 = .ok (.getfield 9, 3) := by decide +kernel
theorem d_RWr_add_35 : decode b_RWr_add 35 = .ok (.iconst 0, 1) := by decide +kernel
theorem d_RWr_add_36 : decode b_RWr_add 36 = .ok (.invokevirtual 25, 3) := by decide +kernel
theorem d_RWr_add_39 : decode b_RWr_add 39 = .ok (.aload_n 0, 1) := by decide +kernel
theorem d_RWr_add_40 : decode b_RWr_add 40 = .ok (.dup, 1) := by decide +kernel
theorem d_RWr_add_41 : decode b_RWr_add 41 = .ok (.getfield 15, 3) := by decide +kernel
theorem d_RWr_add_44 : decode b_RWr_add 44 = .ok (.iconst 1, 1) := by decide +kernel
theorem d_RWr_add_45 : decode b_RWr_add 45 = .ok (.isub, 1) := by decide +kernel
theorem d_RWr_add_46 : decode b_RWr_add 46 = .ok (.putfield 15, 3) := by decide +kernel
theorem d_RWr_add_49 : decode b_RWr_add 49 = .ok (.aload_n 0, 1) := by decide +kernel
theorem d_RWr_add_50 : decode b_RWr_add 50 = .ok (.getfield 9, 3) := by decide +kernel
theorem d_RWr_add_53 : decode b_RWr_add 53 = .ok (.aload_n 0, 1) := by decide +kernel
theorem d_RWr_add_54 : decode b_RWr_add 54 = .ok (.getfield 9, 3) := by decide +kernel
theorem d_RWr_add_57 : decode b_RWr_add 57 = .ok (.invokevirtual 19, 3) := by decide +kernel
theorem d_RWr_add_60 : decode b_RWr_add 60 = .ok (.iload_n 1, 1) := by decide +kernel
theorem d_RWr_add_61 : decode b_RWr_add 61 = .ok (.aload_n 0, 1) := by decide +kernel
theorem d_RWr_add_62 : decode b_RWr_add 62 = .ok (.getfield 15, 3) := by decide +kernel
theorem d_RWr_add_65 : decode b_RWr_add 65 = .ok (.ishl, 1) := by decide +kernel
theorem d_RWr_add_66 : decode b_RWr_add 66 = .ok (.ior, 1) := by decide +kernel
theorem d_RWr_add_67 : decode b_RWr_add 67 = .ok (.invokevirtual 29, 3) := by decide +kernel
theorem d_RWr_add_70 : decode b_RWr_add 70 = .ok (.return_, 1) := by decide +kernel
theorem d_RWr_end_0 : decode b_RWr_end 0 = .ok (.aload_n 0, 1) := by decide +kernel
theorem d_RWr_end_1 : decode b_RWr_end 1 = .ok (.getfield 15, 3) := by decide +kernel
theorem d_RWr_end_4 : decode b_RWr_end 4 = .ok (.istore_n 1, 1) := by decide +kernel
theorem d_RWr_end_5 : decode b_RWr_end 5 = .ok (.iconst 0, 1) := by decide +kernel
theorem d_RWr_end_6 : decode b_RWr_end 6 = .ok (.istore_n 2, 1) := by decide +kernel
theorem d_RWr_end_7 : decode b_RWr_end 7 = .ok (.iload_n 2, 1) := by decide +kernel
theorem d_RWr_end_8 : decode b_RWr_end 8 = .ok (.iload_n 1, 1) := by decide +kernel
theorem d_RWr_end_9 : decode b_RWr_end 9 = .ok (.if_icmp .ge 16, 3) := by decide +kernel
theorem d_RWr_end_12 : decode b_RWr_end 12 = .ok (.aload_n 0, 1) := by decide +kernel
theorem d_RWr_end_13 : decode b_RWr_end 13 = .ok (.iload_n 2, 1) := by decide +kernel
theorem d_RWr_end_14 : decode b_RWr_end 14 = .ok (.iconst 1, 1) := by decide +kernel
theorem d_RWr_end_15 : decode b_RWr_end 15 = .ok (.iand, 1) := by decide +kernel
theorem d_RWr_end_16 : decode b_RWr_end 16 = .ok (.invokevirtual 32, 3) := by decide +kernel
theorem d_RWr_end_19 : decode b_RWr_end 19 = .ok (.iinc 2 1, 3) := by decide +kernel
theorem d_RWr_end_22 : decode b_RWr_end 22 = .ok (.goto (-15), 3) := by decide +kernel
theorem d_RWr_end_25 : decode b_RWr_end 25 = .ok (.return_, 1) := by decide +kernel
theorem d_RRd_init_0 : decode b_RRd_init 0 = .ok (.aload_n 0, 1) := by decide +kernel
theorem d_RRd_init_1 : decode b_RRd_init 1 = .ok (.invokespecial 3, 3) := by decide +kernel
theorem d_RRd_init_4 : decode b_RRd_init 4 = .ok (.aload_n 0, 1) := by decide +kernel
theorem d_RRd_init_5 : decode b_RRd_init 5 = .ok (.aload_n 1, 1) := by decide +kernel
theorem d_RRd_init_6 : decode b_RRd_init 6 = .ok (.putfield 9, 3) := by decide +kernel
theorem d_RRd_init_9 : decode b_RRd_init 9 = .ok (.return_, 1) := by decide +kernel
theorem d_RRd_begin_0 : decode b_RRd_begin 0 = .ok (.aload_n 0, 1) := by decide +kernel
theorem d_RRd_begin_1 : decode b_RRd_begin 1 = .ok (.iconst 0, 1) := by decide +kernel
theorem d_RRd_begin_2 : decode b_RRd_begin 2 = .ok (.putfield 15, 3) := by decide +kernel
theorem d_RRd_begin_5 : decode b_RRd_begin 5 = .ok (.aload_n 0, 1) := by decide +kernel
theorem d_RRd_begin_6 : decode b_RRd_begin 6 = .ok (.iconst 0, 1) := by decide +kernel
theorem d_RRd_begin_7 : decode b_RRd_begin 7 = .ok (.putfield 19, 3) := by decide +kernel
theorem d_RRd_begin_10 : decode b_RRd_begin 10 = .ok (.return_, 1) := by decide +kernel
theorem d_RRd_nextBit_0 : decode b_RRd_nextBit 0 = .ok (.aload_n 0, 1) := by decide +kernel
theorem d_RRd_nextBit_1 : decode b_RRd_nextBit 1 = .ok (.getfield 19, 3) := by decide +kernel
theorem d_RRd_nextBit_4 : decode b_RRd_nextBit 4 = .ok (.ifCond .ne 35, 3) := by decide +kernel
theorem d_RRd_nextBit_7 : decode b_RRd_nextBit 7 = .ok (.aload_n 0, 1) := by decide +kernel
theorem d_RRd_nextBit_8 : decode b_RRd_nextBit 8 = .ok (.aload_n 0, 1) := by decide +kernel
theorem d_RRd_nextBit_9 : decode b_RRd_nextBit 9 = .ok (.getfield 15, 3) := by decide +kernel
theorem d_RRd_nextBit_12 : decode b_RRd_nextBit 12 = .ok (.sipush 255, 3) := by decide +kernel
theorem d_RRd_nextBit_15 : decode b_RRd_nextBit 15 = .ok (.if_icmp .ne 8, 3) := by decide +kernel
theorem d_RRd_nextBit_18 : decode b_RRd_nextBit 18 = .ok (.bipush 7, 2) := by decide +kernel
theorem d_RRd_nextBit_20 : decode b_RRd_nextBit 20 = .ok (.goto 5, 3) := by decide +kernel
theorem d_RRd_nextBit_23 : decode b_RRd_nextBit 23 = .ok (.bipush 8, 2) := by decide +kernel
theorem d_RRd_nextBit_25 : decode b_RRd_nextBit 25 = .ok (.putfield 19, 3) := by decide +kernel
theorem d_RRd_nextBit_28 : decode b_RRd_nextBit 28 = .ok (.aload_n 0, 1) := by decide +kernel
theorem d_RRd_nextBit_29 : decode b_RRd_nextBit 29 = .ok (.aload_n 0, 1) := by decide +kernel
theorem d_RRd_nextBit_30 : decode b_RRd_nextBit 30 = .ok (.getfield 9, 3) := by decide +kernel
theorem d_RRd_nextBit_33 : decode b_RRd_nextBit 33 = .ok (.invokevirtual 22, 3) := by decide +kernel
theorem d_RRd_nextBit_36 : decode b_RRd_nextBit 36 = .ok (.putfield 15, 3) := by decide +kernel
theorem d_RRd_nextBit_39 : decode b_RRd_nextBit 39 = .ok (.aload_n 0, 1) := by decide +kernel
theorem d_RRd_nextBit_40 : decode b_RRd_nextBit 40 = .ok (.dup, 1) := by decide +kernel
theorem d_RRd_nextBit_41 : decode b_RRd_nextBit 41 = .ok (.getfield 19, 3) := by decide +kernel
theorem d_RRd_nextBit_44 : decode b_RRd_nextBit 44 = .ok (.iconst 1, 1) := by decide +kernel
theorem d_RRd_nextBit_45 : decode b_RRd_nextBit 45 = .ok (.isub, 1) := by decide +kernel
theorem d_RRd_nextBit_46 : decode b_RRd_nextBit 46 = .ok (.putfield 19, 3) := by decide +kernel
theorem d_RRd_nextBit_49 : decode b_RRd_nextBit 49 = .ok (.aload_n 0, 1) := by decide +kernel
theorem d_RRd_nextBit_50 : decode b_RRd_nextBit 50 = .ok (.getfield 15, 3) := by decide +kernel
theorem d_RRd_nextBit_53 : decode b_RRd_nextBit 53 = .ok (.aload_n 0, 1) := by decide +kernel
theorem d_RRd_nextBit_54 : decode b_RRd_nextBit 54 = .ok (.getfield 19, 3) := by decide +kernel
theorem d_RRd_nextBit_57 : decode b_RRd_nextBit 57 = .ok (.iushr, 1) := by decide +kernel
theorem d_RRd_nextBit_58 : decode b_RRd_nextBit 58 = .ok (.iconst 1, 1) := by decide +kernel
theorem d_RRd_nextBit_59 : decode b_RRd_nextBit 59 = .ok (.iand, 1) := by decide +kernel
theorem d_RRd_nextBit_60 : decode b_RRd_nextBit 60 = .ok (.ireturn, 1) := by decide +kernel
theorem d_LB_init_0 : decode b_LB_init 0 = .ok (.aload_n 0, 1) := by decide +kernel
theorem d_LB_init_1 : decode b_LB_init 1 = .ok (.invokespecial 1, 3) := by decide +kernel
theorem d_LB_init_4 : decode b_LB_init 4 = .ok (.aload_n 0, 1) := by decide +kernel
theorem d_LB_init_5 : decode b_LB_init 5 = .ok (.new 7, 3) := by decide +kernel
theorem d_LB_init_8 : decode b_LB_init 8 = .ok (.dup, 1) := by decide +kernel
theorem d_LB_init_9 : decode b_LB_init 9 = .ok (.invokespecial 9, 3) := by decide +kernel
theorem d_LB_init_12 : decode b_LB_init 12 = .ok (.putfield 10, 3) := by decide +kernel
theorem d_LB_init_15 : decode b_LB_init 15 = .ok (.aload_n 0, 1) := by decide +kernel
theorem d_LB_init_16 : decode b_LB_init 16 = .ok (.new 16, 3) := by decide +kernel
theorem d_LB_init_19 : decode b_LB_init 19 = .ok (.dup, 1) := by decide +kernel
theorem d_LB_init_20 : decode b_LB_init 20 = .ok (.invokespecial 18, 3) := by decide +kernel
theorem d_LB_init_23 : decode b_LB_init 23 = .ok (.putfield 19, 3) := by decide +kernel
theorem d_LB_init_26 : decode b_LB_init 26 = .ok (.aload_n 0, 1) := by decide +kernel
theorem d_LB_init_27 : decode b_LB_init 27 = .ok (.new 16, 3) := by decide +kernel
theorem d_LB_init_30 : decode b_LB_init 30 = .ok (.dup, 1) := by decide +kernel
theorem d_LB_init_31 : decode b_LB_init 31 = .ok (.invokespecial 18, 3) := by decide +kernel
theorem d_LB_init_34 : decode b_LB_init 34 = .ok (.putfield 23, 3) := by decide +kernel
theorem d_LB_init_37 : decode b_LB_init 37 = .ok (.aload_n 0, 1) := by decide +kernel
theorem d_LB_init_38 : decode b_LB_init 38 = .ok (.new 26, 3) := by decide +kernel
theorem d_LB_init_41 : decode b_LB_init 41 = .ok (.dup, 1) := by decide +kernel
theorem d_LB_init_42 : decode b_LB_init 42 = .ok (.aload_n 0, 1) := by decide +kernel
theorem d_LB_init_43 : decode b_LB_init 43 = .ok (.getfield 10, 3) := by decide +kernel
theorem d_LB_init_46 : decode b_LB_init 46 = .ok (.invokespecial 28, 3) := by decide +kernel
theorem d_LB_init_49 : decode b_LB_init 49 = .ok (.putfield 31, 3) := by decide +kernel
theorem d_LB_init_52 : decode b_LB_init 52 = .ok (.aload_n 0, 1) := by decide +kernel
theorem d_LB_init_53 : decode b_LB_init 53 = .ok (.new 35, 3) := by decide +kernel
theorem d_LB_init_56 : decode b_LB_init 56 = .ok (.dup, 1) := by decide +kernel
theorem d_LB_init_57 : decode b_LB_init 57 = .ok (.aload_n 0, 1) := by decide +kernel
theorem d_LB_init_58 : decode b_LB_init 58 = .ok (.getfield 31, 3) := by decide +kernel
theorem d_LB_init_61 : decode b_LB_init 61 = .ok (.aload_n 0, 1) := by decide +kernel
theorem d_LB_init_62 : decode b_LB_init 62 = .ok (.getfield 19, 3) := by decide +kernel
theorem d_LB_init_65 : decode b_LB_init 65 = .ok (.invokespecial 37, 3) := by decide +kernel
theorem d_LB_init_68 : decode b_LB_init 68 = .ok (.putfield 40, 3) := by decide +kernel
theorem d_LB_init_71 : decode b_LB_init 71 = .ok (.aload_n 0, 1) := by decide +kernel
theorem d_LB_init_72 : decode b_LB_init 72 = .ok (.new 44, 3) := by decide +kernel
theorem d_LB_init_75 : decode b_LB_init 75 = .ok (.dup, 1) := by decide +kernel
theorem d_LB_init_76 : decode b_LB_init 76 = .ok (.aload_n 0, 1) := by decide +kernel
theorem d_LB_init_77 : decode b_LB_init 77 = .ok (.getfield 31, 3) := by decide +kernel
theorem d_LB_init_80 : decode b_LB_init 80 = .ok (.invokespecial 46, 3) := by decide +kernel
theorem d_LB_init_83 : decode b_LB_init 83 = .ok (.putfield 49, 3) := by decide +kernel
theorem d_LB_init_86 : decode b_LB_init 86 = .ok (.aload_n 0, 1) := by decide +kernel
theorem d_LB_init_87 : decode b_LB_init 87 = .ok (.new 53, 3) := by decide +kernel
theorem d_LB_init_90 : decode b_LB_init 90 = .ok (.dup, 1) := by decide +kernel
theorem d_LB_init_91 : decode b_LB_init 91 = .ok (.aload_n 0, 1) := by decide +kernel
theorem d_LB_init_92 : decode b_LB_init 92 = .ok (.getfield 10, 3) := by decide +kernel
theorem d_LB_init_95 : decode b_LB_init 95 = .ok (.invokespecial 55, 3) := by decide +kernel
theorem d_LB_init_98 : decode b_LB_init 98 = .ok (.putfield 56, 3) := by decide +kernel
theorem d_LB_init_101 : decode b_LB_init 101 = .ok (.aload_n 0, 1) := by decide +kernel
theorem d_LB_init_102 : decode b_LB_init 102 = .ok (.new 60, 3) := by decide +kernel
theorem d_LB_init_105 : decode b_LB_init 105 = .ok (.dup, 1) := by decide +kernel
theorem d_LB_init_106 : decode b_LB_init 106 = .ok (.aload_n 0, 1) := by decide +kernel
theorem d_LB_init_107 : decode b_LB_init 107 = .ok (.getfield 56, 3) := by decide +kernel
theorem d_LB_init_110 : decode b_LB_init 110 = .ok (.aload_n 0, 1) := by decide +kernel
theorem d_LB_init_111 : decode b_LB_init 111 = .ok (.getfield 23, 3) := by decide +kernel
theorem d_LB_init_114 : decode b_LB_init 114 = .ok (.invokespecial 62, 3) := by decide +kernel
theorem d_LB_init_117 : decode b_LB_init 117 = .ok (.putfield 65, 3) := by decide +kernel
theorem d_LB_init_120 : decode b_LB_init 120 = .ok (.aload_n 0, 1) := by decide +kernel
theorem d_LB_init_121 : decode b_LB_init 121 = .ok (.new 69, 3) := by decide +kernel
theorem d_LB_init_124 : decode b_LB_init 124 = .ok (.dup, 1) := by decide +kernel
theorem d_LB_init_125 : decode b_LB_init 125 = .ok (.aload_n 0, 1) := by decide +kernel
theorem d_LB_init_126 : decode b_LB_init 126 = .ok (.getfield 56, 3) := by decide +kernel
theorem d_LB_init_129 : decode b_LB_init 129 = .ok (.invokespecial 71, 3) := by decide +kernel
theorem d_LB_init_132 : decode b_LB_init 132 = .ok (.putfield 74, 3) := by decide +kernel
theorem d_LB_init_135 : decode b_LB_init 135 = .ok (.return_, 1) := by decide +kernel
theorem d_LB_clear_0 : decode b_LB_clear 0 = .ok (.aload_n 0, 1) := by decide +kernel
theorem d_LB_clear_1 : decode b_LB_clear 1 = .ok (.getfield 10, 3) := by decide +kernel
theorem d_LB_clear_4 : decode b_LB_clear 4 = .ok (.invokevirtual 78, 3) := by decide +kernel
theorem d_LB_clear_7 : decode b_LB_clear 7 = .ok (.aload_n 0, 1) := by decide +kernel
theorem d_LB_clear_8 : decode b_LB_clear 8 = .ok (.iconst 0, 1) := by decide +kernel
theorem d_LB_clear_9 : decode b_LB_clear 9 = .ok (.putfield 81, 3) := by decide +kernel
theorem d_LB_clear_12 : decode b_LB_clear 12 = .ok (.aload_n 0, 1) := by decide +kernel
theorem d_LB_clear_13 : decode b_LB_clear 13 = .ok (.iconst 0, 1) := by decide +kernel
theorem d_LB_clear_14 : decode b_LB_clear 14 = .ok (.putfield 85, 3) := by decide +kernel
theorem d_LB_clear_17 : decode b_LB_clear 17 = .ok (.return_, 1) := by decide +kernel
theorem d_LB_put_0 : decode b_LB_put 0 = .ok (.iload_n 1, 1) := by decide +kernel
theorem d_LB_put_1 : decode b_LB_put 1 = .ok (.ifCond .lt 10, 3) := by decide +kernel
theorem d_LB_put_4 : decode b_LB_put 4 = .ok (.iload_n 1, 1) := by decide +kernel
theorem d_LB_put_5 : decode b_LB_put 5 = .ok (.sipush 255, 3) := by decide +kernel
theorem d_LB_put_8 : decode b_LB_put 8 = .ok (.if_icmp .le 13, 3) := by decide +kernel
theorem d_LB_put_11 : decode b_LB_put 11 = .ok (.new 88, 3) := by decide +kernel
theorem d_LB_put_14 : decode b_LB_put 14 = .ok (.dup, 1) := by decide +kernel
theorem d_LB_put_15 : decode b_LB_put 15 = .ok (.ldc 90, 2) := by decide +kernel

theorem d_Mdl_writeRaw_100 : decode b_Mdl_writeRaw 100 = .ok (.iastore, 1) := by decide +kernel
theorem d_Mdl_writeRaw_101 : decode b_Mdl_writeRaw 101 = .ok (.return_, 1) := by decide +kernel
theorem d_Mdl_open_0 : decode b_Mdl_open 0 = .ok (.aload_n 0, 1) := by decide +kernel
theorem d_Mdl_open_1 : decode b_Mdl_open 1 = .ok (.aload_n 0, 1) := by decide +kernel
theorem d_Mdl_open_2 : decode b_Mdl_open 2 = .ok (.getfield 33, 3) := by decide +kernel
theorem d_Mdl_open_5 : decode b_Mdl_open 5 = .ok (.iconst 0, 1) := by decide +kernel
theorem d_Mdl_open_6 : decode b_Mdl_open 6 = .ok (.iconst 0, 1) := by decide +kernel
theorem d_Mdl_open_7 : decode b_Mdl_open 7 = .ok (.invokevirtual 44, 3) := by decide +kernel
theorem d_Mdl_open_10 : decode b_Mdl_open 10 = .ok (.ifCond .eq 4, 3) := by decide +kernel
theorem d_Mdl_open_13 : decode b_Mdl_open 13 = .ok (.return_, 1) := by decide +kernel
theorem d_Mdl_open_14 : decode b_Mdl_open 14 = .ok (.aload_n 0, 1) := by decide +kernel
theorem d_Mdl_open_15 : decode b_Mdl_open 15 = .ok (.iconst 1, 1) := by decide +kernel
theorem d_Mdl_open_16 : decode b_Mdl_open 16 = .ok (.putfield 33, 3) := by decide +kernel
theorem d_Mdl_open_19 : decode b_Mdl_open 19 = .ok (.aload_n 0, 1) := by decide +kernel
theorem d_Mdl_open_20 : decode b_Mdl_open 20 = .ok (.iconst 0, 1) := by decide +kernel
theorem d_Mdl_open_21 : decode b_Mdl_open 21 = .ok (.putfield 37, 3) := by decide +kernel
theorem d_Mdl_open_24 : decode b_Mdl_open 24 = .ok (.aload_n 0, 1) := by decide +kernel
theorem d_Mdl_open_25 : decode b_Mdl_open 25 = .ok (.iload_n 1, 1) := by decide +kernel
theorem d_Mdl_open_26 : decode b_Mdl_open 26 = .ok (.putfield 93, 3) := by decide +kernel
theorem d_Mdl_open_29 : decode b_Mdl_open 29 = .ok (.aload_n 0, 1) := by decide +kernel
theorem d_Mdl_open_30 : decode b_Mdl_open 30 = .ok (.aload_n 0, 1) := by decide +kernel
theorem d_Mdl_open_31 : decode b_Mdl_open 31 = .ok (.getfield 30, 3) := by decide +kernel
theorem d_Mdl_open_34 : decode b_Mdl_open 34 = .ok (.putfield 53, 3) := by decide +kernel
theorem d_Mdl_open_37 : decode b_Mdl_open 37 = .ok (.aload_n 0, 1) := by decide +kernel
theorem d_Mdl_open_38 : decode b_Mdl_open 38 = .ok (.iconst 0, 1) := by decide +kernel
theorem d_Mdl_open_39 : decode b_Mdl_open 39 = .ok (.putfield 73, 3) := by decide +kernel
theorem d_Mdl_open_42 : decode b_Mdl_open 42 = .ok (.aload_n 0, 1) := by decide +kernel
theorem d_Mdl_open_43 : decode b_Mdl_open 43 = .ok (.iconst 0, 1) := by decide +kernel
theorem d_Mdl_open_44 : decode b_Mdl_open 44 = .ok (.putfield 60, 3) := by decide +kernel
theorem d_Mdl_open_47 : decode b_Mdl_open 47 = .ok (.aload_n 0, 1) := by decide +kernel
theorem d_Mdl_open_48 : decode b_Mdl_open 48 = .ok (.ldc 52, 2) := by decide +kernel
theorem d_Mdl_open_50 : decode b_Mdl_open 50 = .ok (.putfield 79, 3) := by decide +kernel
theorem d_Mdl_open_53 : decode b_Mdl_open 53 = .ok (.aload_n 0, 1) := by decide +kernel
theorem d_Mdl_open_54 : decode b_Mdl_open 54 = .ok (.aload_n 0, 1) := by decide +kernel
theorem d_Mdl_open_55 : decode b_Mdl_open 55 = .ok (.getfield 93, 3) := by decide +kernel
theorem d_Mdl_open_58 : decode b_Mdl_open 58 = .ok (.ifCond .eq 7, 3) := by decide +kernel
theorem d_Mdl_open_61 : decode b_Mdl_open 61 = .ok (.iconst 0, 1) := by decide +kernel
theorem d_Mdl_open_62 : decode b_Mdl_open 62 = .ok (.goto 5, 3) := by decide +kernel
theorem d_Mdl_open_65 : decode b_Mdl_open 65 = .ok (.bipush 12, 2) := by decide +kernel
theorem d_Mdl_open_67 : decode b_Mdl_open 67 = .ok (.putfield 63, 3) := by decide +kernel
theorem d_Mdl_open_70 : decode b_Mdl_open 70 = .ok (.return_, 1) := by decide +kernel
theorem d_Mdl_write_0 : decode b_Mdl_write 0 = .ok (.aload_n 0, 1) := by decide +kernel
theorem d_Mdl_write_1 : decode b_Mdl_write 1 = .ok (.getfield 93, 3) := by decide +kernel
theorem d_Mdl_write_4 : decode b_Mdl_write 4 = .ok (.ifCond .eq 16, 3) := by decide +kernel
theorem d_Mdl_write_7 : decode b_Mdl_write 7 = .ok (.iload_n 1, 1) := by decide +kernel
theorem d_Mdl_write_8 : decode b_Mdl_write 8 = .ok (.iconst (-1), 1) := by decide +kernel
theorem d_Mdl_write_9 : decode b_Mdl_write 9 = .ok (.if_icmp .eq 7, 3) := by decide +kernel
theorem d_Mdl_write_12 : decode b_Mdl_write 12 = .ok (.iconst 1, 1) := by decide +kernel
theorem d_Mdl_write_13 : decode b_Mdl_write 13 = .ok (.goto 14, 3) := by decide +kernel
theorem d_Mdl_write_16 : decode b_Mdl_write 16 = .ok (.iconst 0, 1) := by decide +kernel
theorem d_Mdl_write_17 : decode b_Mdl_write 17 = .ok (.goto 10, 3) := by decide +kernel
theorem d_Mdl_write_20 : decode b_Mdl_write 20 = .ok (.iload_n 1, 1) := by decide +kernel
theorem d_Mdl_write_21 : decode b_Mdl_write 21 = .ok (.iconst 0, 1) := by decide +kernel
theorem d_Mdl_write_22 : decode b_Mdl_write 22 = .ok (.bipush 18, 2) := by decide +kernel
theorem d_Mdl_write_24 : decode b_Mdl_write 24 = .ok (.invokestatic 40, 3) := by decide +kernel
theorem d_Mdl_write_27 : decode b_Mdl_write 27 = .ok (.istore 5, 2) := by decide +kernel
theorem d_Mdl_write_29 : decode b_Mdl_write 29 = .ok (.aload_n 0, 1) := by decide +kernel
theorem d_Mdl_write_30 : decode b_Mdl_write 30 = .ok (.aload_n 0, 1) := by decide +kernel
theorem d_Mdl_write_31 : decode b_Mdl_write 31 = .ok (.getfield 33, 3) := by decide +kernel
theorem d_Mdl_write_34 : decode b_Mdl_write 34 = .ok (.ifCond .ne 7, 3) := by decide +kernel
theorem d_Mdl_write_37 : decode b_Mdl_write 37 = .ok (.iconst 1, 1) := by decide +kernel
theorem d_Mdl_write_38 : decode b_Mdl_write 38 = .ok (.goto 4, 3) := by decide +kernel
theorem d_Mdl_write_41 : decode b_Mdl_write 41 = .ok (.iconst 0, 1) := by decide +kernel
theorem d_Mdl_write_42 : decode b_Mdl_write 42 = .ok (.iload 5, 2) := by decide +kernel
theorem d_Mdl_write_44 : decode b_Mdl_write 44 = .ok (.ifCond .ne 14, 3) := by decide +kernel
theorem d_Mdl_write_47 : decode b_Mdl_write 47 = .ok (.iload 4, 2) := by decide +kernel
theorem d_Mdl_write_49 : decode b_Mdl_write 49 = .ok (.iconst 1, 1) := by decide +kernel
theorem d_Mdl_write_50 : decode b_Mdl_write 50 = .ok (.bipush 64, 2) := by decide +kernel
theorem d_Mdl_write_52 : decode b_Mdl_write 52 = .ok (.invokestatic 40, 3) := by decide +kernel
theorem d_Mdl_write_55 : decode b_Mdl_write 55 = .ok (.ifCond .eq 7, 3) := by decide +kernel
theorem d_Mdl_write_58 : decode b_Mdl_write 58 = .ok (.iconst 1, 1) := by decide +kernel
theorem d_Mdl_write_59 : decode b_Mdl_write 59 = .ok (.goto 4, 3) := by decide +kernel
theorem d_Mdl_write_62 : decode b_Mdl_write 62 = .ok (.iconst 0, 1) := by decide +kernel
theorem d_Mdl_write_63 : decode b_Mdl_write 63 = .ok (.aload_n 0, 1) := by decide +kernel
theorem d_Mdl_write_64 : decode b_Mdl_write 64 = .ok (.getfield 30, 3) := by decide +kernel
theorem d_Mdl_write_67 : decode b_Mdl_write 67 = .ok (.ldc 96, 2) := by decide +kernel
theorem d_Mdl_write_69 : decode b_Mdl_write 69 = .ok (.if_icmp .le 7, 3) := by decide +kernel
theorem d_Mdl_write_72 : decode b_Mdl_write 72 = .ok (.iconst 1, 1) := by decide +kernel
theorem d_Mdl_write_73 : decode b_Mdl_write 73 = .ok (.goto 4, 3) := by decide +kernel
theorem d_Mdl_write_76 : decode b_Mdl_write 76 = .ok (.iconst 0, 1) := by decide +kernel
theorem d_Mdl_write_77 : decode b_Mdl_write 77 = .ok (.invokevirtual 44, 3) := by decide +kernel
theorem d_Mdl_write_80 : decode b_Mdl_write 80 = .ok (.ifCond .eq 5, 3) := by decide +kernel
theorem d_Mdl_write_83 : decode b_Mdl_write 83 = .ok (.iconst 0, 1) := by decide +kernel
theorem d_Mdl_write_84 : decode b_Mdl_write 84 = .ok (.ireturn, 1) := by decide +kernel
theorem d_Mdl_write_85 : decode b_Mdl_write 85 = .ok (.iload 4, 2) := by decide +kernel
theorem d_Mdl_write_87 : decode b_Mdl_write 87 = .ok (.iconst 1, 1) := by decide +kernel
theorem d_Mdl_write_88 : decode b_Mdl_write 88 = .ok (.isub, 1) := by decide +kernel
theorem d_Mdl_write_89 : decode b_Mdl_write 89 = .ok (.istore 6, 2) := by decide +kernel
theorem d_Mdl_write_91 : decode b_Mdl_write 91 = .ok (.iload 6, 2) := by decide +kernel
theorem d_Mdl_write_93 : decode b_Mdl_write 93 = .ok (.ifCond .lt 41, 3) := by decide +kernel
theorem d_Mdl_write_96 : decode b_Mdl_write 96 = .ok (.lload_n 2, 1) := by decide +kernel
theorem d_Mdl_write_97 : decode b_Mdl_write 97 = .ok (.iload 6, 2) := by decide +kernel
theorem d_Mdl_write_99 : decode b_Mdl_write 99 = .ok (.lshr, 1) := by decide +kernel
theorem d_Mdl_write_100 : decode b_Mdl_write 100 = .ok (.lconst 1, 1) := by decide +kernel
theorem d_Mdl_write_101 : decode b_Mdl_write 101 = .ok (.land, 1) := by decide +kernel
theorem d_Mdl_write_102 : decode b_Mdl_write 102 = .ok (.l2i, 1) := by decide +kernel
theorem d_Mdl_write_103 : decode b_Mdl_write 103 = .ok (.istore 7, 2) := by decide +kernel
theorem d_Mdl_write_105 : decode b_Mdl_write 105 = .ok (.aload_n 0, 1) := by decide +kernel
theorem d_Mdl_write_106 : decode b_Mdl_write 106 = .ok (.getfield 93, 3) := by decide +kernel
theorem d_Mdl_write_109 : decode b_Mdl_write 109 = .ok (.ifCond .eq 12, 3) := by decide +kernel
theorem d_Mdl_write_112 : decode b_Mdl_write 112 = .ok (.aload_n 0, 1) := by decide +kernel
theorem d_Mdl_write_113 : decode b_Mdl_write 113 = .ok (.iload 7, 2) := by decide +kernel
theorem d_Mdl_write_115 : decode b_Mdl_write 115 = .ok (.invokevirtual 97, 3) := by decide +kernel
theorem d_Mdl_write_118 : decode b_Mdl_write 118 = .ok (.goto 10, 3) := by decide +kernel
theorem d_Mdl_write_121 : decode b_Mdl_write 121 = .ok (.aload_n 0, 1) := by decide +kernel
theorem d_Mdl_write_122 : decode b_Mdl_write 122 = .ok (.iload_n 1, 1) := by decide +kernel
theorem d_Mdl_write_123 : decode b_Mdl_write 123 = .ok (.iload 7, 2) := by decide +kernel
theorem d_Mdl_write_125 : decode b_Mdl_write 125 = .ok (.invokevirtual 100, 3) := by decide +kernel
theorem d_Mdl_write_128 : decode b_Mdl_write 128 = .ok (.iinc 6 (-1), 3) := by decide +kernel
theorem d_Mdl_write_131 : decode b_Mdl_write 131 = .ok (.goto (-40), 3) := by decide +kernel
theorem d_Mdl_write_134 : decode b_Mdl_write 134 = .ok (.aload_n 0, 1) := by decide +kernel
theorem d_Mdl_write_135 : decode b_Mdl_write 135 = .ok (.getfield 30, 3) := by decide +kernel
theorem d_Mdl_write_138 : decode b_Mdl_write 138 = .ok (.aload_n 0, 1) := by decide +kernel
theorem d_Mdl_write_139 : decode b_Mdl_write 139 = .ok (.getfield 53, 3) := by decide +kernel
theorem d_Mdl_write_142 : decode b_Mdl_write 142 = .ok (.isub, 1) := by decide +kernel
theorem d_Mdl_write_143 : decode b_Mdl_write 143 = .ok (.ireturn, 1) := by decide +kernel
theorem d_Mdl_enough_0 : decode b_Mdl_enough 0 = .ok (.aload_n 0, 1) := by decide +kernel
theorem d_Mdl_enough_1 : decode b_Mdl_enough 1 = .ok (.aload_n 0, 1) := by decide +kernel
theorem d_Mdl_enough_2 : decode b_Mdl_enough 2 = .ok (.getfield 33, 3) := by decide +kernel
theorem d_Mdl_enough_5 : decode b_Mdl_enough 5 = .ok (.ifCond .ne 7, 3) := by decide +kernel
theorem d_Mdl_enough_8 : decode b_Mdl_enough 8 = .ok (.iconst 1, 1) := by decide +kernel
theorem d_Mdl_enough_9 : decode b_Mdl_enough 9 = .ok (.goto 4, 3) := by decide +kernel
theorem d_Mdl_enough_12 : decode b_Mdl_enough 12 = .ok (.iconst 0, 1) := by decide +kernel
theorem d_Mdl_enough_13 : decode b_Mdl_enough 13 = .ok (.iconst 0, 1) := by decide +kernel
theorem d_Mdl_enough_14 : decode b_Mdl_enough 14 = .ok (.iconst 0, 1) := by decide +kernel
theorem d_Mdl_enough_15 : decode b_Mdl_enough 15 = .ok (.invokevirtual 44, 3) := by decide +kernel
theorem d_Mdl_enough_18 : decode b_Mdl_enough 18 = .ok (.ifCond .eq 5, 3) := by decide +kernel
theorem d_Mdl_enough_21 : decode b_Mdl_enough 21 = .ok (.iconst 0, 1) := by decide +kernel
theorem d_Mdl_enough_22 : decode b_Mdl_enough 22 = .ok (.ireturn, 1) := by decide +kernel
theorem d_Mdl_enough_23 : decode b_Mdl_enough 23 = .ok (.aload_n 0, 1) := by decide +kernel
theorem d_Mdl_enough_24 : decode b_Mdl_enough 24 = .ok (.getfield 30, 3) := by decide +kernel
theorem d_Mdl_enough_27 : decode b_Mdl_enough 27 = .ok (.aload_n 0, 1) := by decide +kernel
theorem d_Mdl_enough_28 : decode b_Mdl_enough 28 = .ok (.getfield 53, 3) := by decide +kernel
theorem d_Mdl_enough_31 : decode b_Mdl_enough 31 = .ok (.isub, 1) := by decide +kernel
theorem d_Mdl_enough_32 : decode b_Mdl_enough 32 = .ok (.aload_n 0, 1) := by decide +kernel
theorem d_Mdl_enough_33 : decode b_Mdl_enough 33 = .ok (.getfield 93, 3) := by decide +kernel
theorem d_Mdl_enough_36 : decode b_Mdl_enough 36 = .ok (.ifCond .eq 7, 3) := by decide +kernel
theorem d_Mdl_enough_39 : decode b_Mdl_enough 39 = .ok (.iconst 0, 1) := by decide +kernel
theorem d_Mdl_enough_40 : decode b_Mdl_enough 40 = .ok (.goto 4, 3) := by decide +kernel
theorem d_Mdl_enough_43 : decode b_Mdl_enough 43 = .ok (.iconst 5, 1) := by decide +kernel
theorem d_Mdl_enough_44 : decode b_Mdl_enough 44 = .ok (.iadd, 1) := by decide +kernel
theorem d_Mdl_enough_45 : decode b_Mdl_enough 45 = .ok (.ireturn, 1) := by decide +kernel
theorem d_Mdl_close_0 : decode b_Mdl_close 0 = .ok (.aload_n 0, 1) := by decide +kernel
theorem d_Mdl_close_1 : decode b_Mdl_close 1 = .ok (.aload_n 0, 1) := by decide +kernel
theorem d_Mdl_close_2 : decode b_Mdl_close 2 = .ok (.getfield 33, 3) := by decide +kernel
theorem d_Mdl_close_5 : decode b_Mdl_close 5 = .ok (.ifCond .ne 7, 3) := by decide +kernel
theorem d_Mdl_close_8 : decode b_Mdl_close 8 = .ok (.iconst 1, 1) := by decide +kernel
theorem d_Mdl_close_9 : decode b_Mdl_close 9 = .ok (.goto 4, 3) := by decide +kernel
theorem d_Mdl_close_12 : decode b_Mdl_close 12 = .ok (.iconst 0, 1) := by decide +kernel
theorem d_Mdl_close_13 : decode b_Mdl_close 13 = .ok (.iload_n 1, 1) := by decide +kernel
theorem d_Mdl_close_14 : decode b_Mdl_close 14 = .ok (.iconst 0, 1) := by decide +kernel
theorem d_Mdl_close_15 : decode b_Mdl_close 15 = .ok (.iconst 1, 1) := by decide +kernel
theorem d_Mdl_close_16 : decode b_Mdl_close 16 = .ok (.invokestatic 40, 3) := by decide +kernel
theorem d_Mdl_close_19 : decode b_Mdl_close 19 = .ok (.iconst 0, 1) := by decide +kernel
theorem d_Mdl_close_20 : decode b_Mdl_close 20 = .ok (.invokevirtual 44, 3) := by decide +kernel
theorem d_Mdl_close_23 : decode b_Mdl_close 23 = .ok (.ifCond .eq 5, 3) := by decide +kernel
theorem d_Mdl_close_26 : decode b_Mdl_close 26 = .ok (.iconst 0, 1) := by decide +kernel
theorem d_Mdl_close_27 : decode b_Mdl_close 27 = .ok (.ireturn, 1) := by decide +kernel
theorem d_Mdl_close_28 : decode b_Mdl_close 28 = .ok (.aload_n 0, 1) := by decide +kernel
theorem d_Mdl_close_29 : decode b_Mdl_close 29 = .ok (.getfield 93, 3) := by decide +kernel
theorem d_Mdl_close_32 : decode b_Mdl_close 32 = .ok (.ifCond .eq 27, 3) := by decide +kernel
theorem d_Mdl_close_35 : decode b_Mdl_close 35 = .ok (.iconst 0, 1) := by decide +kernel
theorem d_Mdl_close_36 : decode b_Mdl_close 36 = .ok (.istore_n 2, 1) := by decide +kernel
theorem d_Mdl_close_37 : decode b_Mdl_close 37 = .ok (.aload_n 0, 1) := by decide +kernel
theorem d_Mdl_close_38 : decode b_Mdl_close 38 = .ok (.getfield 63, 3) := by decide +kernel
theorem d_Mdl_close_41 : decode b_Mdl_close 41 = .ok (.ifCond .le 15, 3) := by decide +kernel
theorem d_Mdl_close_44 : decode b_Mdl_close 44 = .ok (.aload_n 0, 1) := by decide +kernel
theorem d_Mdl_close_45 : decode b_Mdl_close 45 = .ok (.iload_n 2, 1) := by decide +kernel
theorem d_Mdl_close_46 : decode b_Mdl_close 46 = .ok (.invokevirtual 97, 3) := by decide +kernel
theorem d_Mdl_close_49 : decode b_Mdl_close 49 = .ok (.iconst 1, 1) := by decide +kernel
theorem d_Mdl_close_50 : decode b_Mdl_close 50 = .ok (.iload_n 2, 1) := by decide +kernel
theorem d_Mdl_close_51 : decode b_Mdl_close 51 = .ok (.isub, 1) := by decide +kernel
theorem d_Mdl_close_52 : decode b_Mdl_close 52 = .ok (.istore_n 2, 1) := by decide +kernel
theorem d_Mdl_close_53 : decode b_Mdl_close 53 = .ok (.goto (-16), 3) := by decide +kernel
theorem d_Mdl_close_56 : decode b_Mdl_close 56 = .ok (.goto 81, 3) := by decide +kernel
theorem d_Mdl_close_59 : decode b_Mdl_close 59 = .ok (.iload_n 1, 1) := by decide +kernel
theorem d_Mdl_close_60 : decode b_Mdl_close 60 = .ok (.ifCond .ne 51, 3) := by decide +kernel
theorem d_Mdl_close_63 : decode b_Mdl_close 63 = .ok (.aload_n 0, 1) := by decide +kernel
theorem d_Mdl_close_64 : decode b_Mdl_close 64 = .ok (.getfield 73, 3) := by decide +kernel
theorem d_Mdl_close_67 : decode b_Mdl_close 67 = .ok (.aload_n 0, 1) := by decide +kernel
theorem d_Mdl_close_68 : decode b_Mdl_close 68 = .ok (.invokevirtual 69, 3) := by decide +kernel
theorem d_Mdl_close_71 : decode b_Mdl_close 71 = .ok (.iadd, 1) := by decide +kernel
theorem d_Mdl_close_72 : decode b_Mdl_close 72 = .ok (.istore_n 2, 1) := by decide +kernel
theorem d_Mdl_close_73 : decode b_Mdl_close 73 = .ok (.iload_n 2, 1) := by decide +kernel
theorem d_Mdl_close_74 : decode b_Mdl_close 74 = .ok (.ldc 104, 2) := by decide +kernel
theorem d_Mdl_close_76 : decode b_Mdl_close 76 = .ok (.ior, 1) := by decide +kernel
theorem d_Mdl_close_77 : decode b_Mdl_close 77 = .ok (.istore_n 3, 1) := by decide +kernel
theorem d_Mdl_close_78 : decode b_Mdl_close 78 = .ok (.aload_n 0, 1) := by decide +kernel
theorem d_Mdl_close_79 : decode b_Mdl_close 79 = .ok (.iload_n 3, 1) := by decide +kernel
theorem d_Mdl_close_80 : decode b_Mdl_close 80 = .ok (.iload_n 2, 1) := by decide +kernel
theorem d_Mdl_close_81 : decode b_Mdl_close 81 = .ok (.aload_n 0, 1) := by decide +kernel
theorem d_Mdl_close_82 : decode b_Mdl_close 82 = .ok (.getfield 79, 3) := by decide +kernel
theorem d_Mdl_close_85 : decode b_Mdl_close 85 = .ok (.iadd, 1) := by decide +kernel
theorem d_Mdl_close_86 : decode b_Mdl_close 86 = .ok (.if_icmp .lt 10, 3) := by decide +kernel
theorem d_Mdl_close_89 : decode b_Mdl_close 89 = .ok (.iload_n 3, 1) := by decide +kernel
theorem d_Mdl_close_90 : decode b_Mdl_close 90 = .ok (.ldc 52, 2) := by decide +kernel
theorem d_Mdl_close_92 : decode b_Mdl_close 92 = .ok (.isub, 1) := by decide +kernel
theorem d_Mdl_close_93 : decode b_Mdl_close 93 = .ok (.goto 4, 3) := by decide +kernel
theorem d_Mdl_close_96 : decode b_Mdl_close 96 = .ok (.iload_n 3, 1) := by decide +kernel
theorem d_Mdl_close_97 : decode b_Mdl_close 97 = .ok (.invokevirtual 82, 3) := by decide +kernel
theorem d_Mdl_close_100 : decode b_Mdl_close 100 = .ok (.aload_n 0, 1) := by decide +kernel
theorem d_Mdl_close_101 : decode b_Mdl_close 101 = .ok (.invokevirtual 105, 3) := by decide +kernel
theorem d_Mdl_close_104 : decode b_Mdl_close 104 = .ok (.aload_n 0, 1) := by decide +kernel
theorem d_Mdl_close_105 : decode b_Mdl_close 105 = .ok (.invokevirtual 105, 3) := by decide +kernel
theorem d_Mdl_close_108 : decode b_Mdl_close 108 = .ok (.goto 29, 3) := by decide +kernel
theorem d_Mdl_close_111 : decode b_Mdl_close 111 = .ok (.bipush 12, 2) := by decide +kernel
theorem d_Mdl_close_113 : decode b_Mdl_close 113 = .ok (.aload_n 0, 1) := by decide +kernel
theorem d_Mdl_close_114 : decode b_Mdl_close 114 = .ok (.getfield 63, 3) := by decide +kernel
theorem d_Mdl_close_117 : decode b_Mdl_close 117 = .ok (.isub, 1) := by decide +kernel
theorem d_Mdl_close_118 : decode b_Mdl_close 118 = .ok (.istore_n 2, 1) := by decide +kernel
theorem d_Mdl_close_119 : decode b_Mdl_close 119 = .ok (.iload_n 2, 1) := by decide +kernel
theorem d_Mdl_close_120 : decode b_Mdl_close 120 = .ok (.ifCond .le 17, 3) := by decide +kernel
theorem d_Mdl_close_123 : decode b_Mdl_close 123 = .ok (.aload_n 0, 1) := by decide +kernel
theorem d_Mdl_close_124 : decode b_Mdl_close 124 = .ok (.invokevirtual 105, 3) := by decide +kernel
theorem d_Mdl_close_127 : decode b_Mdl_close 127 = .ok (.iload_n 2, 1) := by decide +kernel
theorem d_Mdl_close_128 : decode b_Mdl_close 128 = .ok (.aload_n 0, 1) := by decide +kernel
theorem d_Mdl_close_129 : decode b_Mdl_close 129 = .ok (.getfield 63, 3) := by decide +kernel
theorem d_Mdl_close_132 : decode b_Mdl_close 132 = .ok (.isub, 1) := by decide +kernel
theorem d_Mdl_close_133 : decode b_Mdl_close 133 = .ok (.istore_n 2, 1) := by decide +kernel
theorem d_Mdl_close_134 : decode b_Mdl_close 134 = .ok (.goto (-15), 3) := by decide +kernel
theorem d_Mdl_close_137 : decode b_Mdl_close 137 = .ok (.aload_n 0, 1) := by decide +kernel
theorem d_Mdl_close_138 : decode b_Mdl_close 138 = .ok (.invokevirtual 56, 3) := by decide +kernel
theorem d_Mdl_close_141 : decode b_Mdl_close 141 = .ok (.ifCond .eq 30, 3) := by decide +kernel
theorem d_Mdl_close_144 : decode b_Mdl_close 144 = .ok (.aload_n 0, 1) := by decide +kernel
theorem d_Mdl_close_145 : decode b_Mdl_close 145 = .ok (.getfield 17, 3) := by decide +kernel
theorem d_Mdl_close_148 : decode b_Mdl_close 148 = .ok (.aload_n 0, 1) := by decide +kernel
theorem d_Mdl_close_149 : decode b_Mdl_close 149 = .ok (.getfield 30, 3) := by decide +kernel
theorem d_Mdl_close_152 : decode b_Mdl_close 152 = .ok (.iconst 1, 1) := by decide +kernel
theorem d_Mdl_close_153 : decode b_Mdl_close 153 = .ok (.isub, 1) := by decide +kernel
theorem d_Mdl_close_154 : decode b_Mdl_close 154 = .ok (.iaload, 1) := by decide +kernel
theorem d_Mdl_close_155 : decode b_Mdl_close 155 = .ok (.sipush 255, 3) := by decide +kernel
theorem d_Mdl_close_158 : decode b_Mdl_close 158 = .ok (.if_icmp .ne 13, 3) := by decide +kernel
theorem d_Mdl_close_161 : decode b_Mdl_close 161 = .ok (.aload_n 0, 1) := by decide +kernel
theorem d_Mdl_close_162 : decode b_Mdl_close 162 = .ok (.dup, 1) := by decide +kernel
theorem d_Mdl_close_163 : decode b_Mdl_close 163 = .ok (.getfield 30, 3) := by decide +kernel
theorem d_Mdl_close_166 : decode b_Mdl_close 166 = .ok (.iconst 1, 1) := by decide +kernel
theorem d_Mdl_close_167 : decode b_Mdl_close 167 = .ok (.isub, 1) := by decide +kernel
theorem d_Mdl_close_168 : decode b_Mdl_close 168 = .ok (.putfield 30, 3) := by decide +kernel
theorem d_Mdl_close_171 : decode b_Mdl_close 171 = .ok (.aload_n 0, 1) := by decide +kernel
theorem d_Mdl_close_172 : decode b_Mdl_close 172 = .ok (.iconst 0, 1) := by decide +kernel
theorem d_Mdl_close_173 : decode b_Mdl_close 173 = .ok (.putfield 33, 3) := by decide +kernel
theorem d_Mdl_close_176 : decode b_Mdl_close 176 = .ok (.aload_n 0, 1) := by decide +kernel
theorem d_Mdl_close_177 : decode b_Mdl_close 177 = .ok (.getfield 30, 3) := by decide +kernel
theorem d_Mdl_close_180 : decode b_Mdl_close 180 = .ok (.aload_n 0, 1) := by decide +kernel
theorem d_Mdl_close_181 : decode b_Mdl_close 181 = .ok (.getfield 53, 3) := by decide +kernel
theorem d_Mdl_close_184 : decode b_Mdl_close 184 = .ok (.isub, 1) := by decide +kernel
theorem d_Mdl_close_185 : decode b_Mdl_close 185 = .ok (.ireturn, 1) := by decide +kernel
theorem d_Mdl_byteAt_0 : decode b_Mdl_byteAt 0 = .ok (.iload_n 1, 1) := by decide +kernel
theorem d_Mdl_byteAt_1 : decode b_Mdl_byteAt 1 = .ok (.aload_n 0, 1) := by decide +kernel
theorem d_Mdl_byteAt_2 : decode b_Mdl_byteAt 2 = .ok (.getfield 108, 3) := by decide +kernel
theorem d_Mdl_byteAt_5 : decode b_Mdl_byteAt 5 = .ok (.if_icmp .ge 17, 3) := by decide +kernel
theorem d_Mdl_byteAt_8 : decode b_Mdl_byteAt 8 = .ok (.aload_n 0, 1) := by decide +kernel
theorem d_Mdl_byteAt_9 : decode b_Mdl_byteAt 9 = .ok (.getfield 17, 3) := by decide +kernel
theorem d_Mdl_byteAt_12 : decode b_Mdl_byteAt 12 = .ok (.aload_n 0, 1) := by decide +kernel
theorem d_Mdl_byteAt_13 : decode b_Mdl_byteAt 13 = .ok (.getfield 111, 3) := by decide +kernel
theorem d_Mdl_byteAt_16 : decode b_Mdl_byteAt 16 = .ok (.iload_n 1, 1) := by decide +kernel
theorem d_Mdl_byteAt_17 : decode b_Mdl_byteAt 17 = .ok (.iadd, 1) := by decide +kernel
theorem d_Mdl_byteAt_18 : decode b_Mdl_byteAt 18 = .ok (.iaload, 1) := by decide +kernel
theorem d_Mdl_byteAt_19 : decode b_Mdl_byteAt 19 = .ok (.goto 6, 3) := by decide +kernel
theorem d_Mdl_byteAt_22 : decode b_Mdl_byteAt 22 = .ok (.sipush 255, 3) := by decide +kernel
theorem d_Mdl_byteAt_25 : decode b_Mdl_byteAt 25 = .ok (.ireturn, 1) := by decide +kernel
theorem d_Mdl_read_0 : decode b_Mdl_read 0 = .ok (.iload_n 2, 1) := by decide +kernel
theorem d_Mdl_read_1 : decode b_Mdl_read 1 = .ok (.ifCond .lt 29, 3) := by decide +kernel
theorem d_Mdl_read_4 : decode b_Mdl_read 4 = .ok (.iload_n 3, 1) := by decide +kernel
theorem d_Mdl_read_5 : decode b_Mdl_read 5 = .ok (.ifCond .lt 25, 3) := by decide +kernel
theorem d_Mdl_read_8 : decode b_Mdl_read 8 = .ok (.iload_n 2, 1) := by decide +kernel
theorem d_Mdl_read_9 : decode b_Mdl_read 9 = .ok (.aload_n 0, 1) := by decide +kernel
theorem d_Mdl_read_10 : decode b_Mdl_read 10 = .ok (.getfield 30, 3) := by decide +kernel
theorem d_Mdl_read_13 : decode b_Mdl_read 13 = .ok (.if_icmp .gt 17, 3) := by decide +kernel
theorem d_Mdl_read_16 : decode b_Mdl_read 16 = .ok (.iload_n 3, 1) := by decide +kernel
theorem d_Mdl_read_17 : decode b_Mdl_read 17 = .ok (.aload_n 0, 1) := by decide +kernel
theorem d_Mdl_read_18 : decode b_Mdl_read 18 = .ok (.getfield 30, 3) := by decide +kernel
theorem d_Mdl_read_21 : decode b_Mdl_read 21 = .ok (.iload_n 2, 1) := by decide +kernel
theorem d_Mdl_read_22 : decode b_Mdl_read 22 = .ok (.isub, 1) := by decide +kernel
theorem d_Mdl_read_23 : decode b_Mdl_read 23 = .ok (.if_icmp .gt 7, 3) := by decide +kernel
theorem d_Mdl_read_26 : decode b_Mdl_read 26 = .ok (.iconst 1, 1) := by decide +kernel
theorem d_Mdl_read_27 : decode b_Mdl_read 27 = .ok (.goto 4, 3) := by decide +kernel
theorem d_Mdl_read_30 : decode b_Mdl_read 30 = .ok (.iconst 0, 1) := by decide +kernel
theorem d_Mdl_read_31 : decode b_Mdl_read 31 = .ok (.istore 4, 2) := by decide +kernel
theorem d_Mdl_read_33 : decode b_Mdl_read 33 = .ok (.aload_n 0, 1) := by decide +kernel
theorem d_Mdl_read_34 : decode b_Mdl_read 34 = .ok (.aload_n 0, 1) := by decide +kernel
theorem d_Mdl_read_35 : decode b_Mdl_read 35 = .ok (.getfield 33, 3) := by decide +kernel
theorem d_Mdl_read_38 : decode b_Mdl_read 38 = .ok (.iload 4, 2) := by decide +kernel
theorem d_Mdl_read_40 : decode b_Mdl_read 40 = .ok (.ifCond .ne 7, 3) := by decide +kernel
theorem d_Mdl_read_43 : decode b_Mdl_read 43 = .ok (.iconst 1, 1) := by decide +kernel
theorem d_Mdl_read_44 : decode b_Mdl_read 44 = .ok (.goto 4, 3) := by decide +kernel
theorem d_Mdl_read_47 : decode b_Mdl_read 47 = .ok (.iconst 0, 1) := by decide +kernel
theorem d_Mdl_read_48 : decode b_Mdl_read 48 = .ok (.iconst 0, 1) := by decide +kernel
theorem d_Mdl_read_49 : decode b_Mdl_read 49 = .ok (.invokevirtual 44, 3) := by decide +kernel
theorem d_Mdl_read_52 : decode b_Mdl_read 52 = .ok (.ifCond .eq 4, 3) := by decide +kernel
theorem d_Mdl_read_55 : decode b_Mdl_read 55 = .ok (.return_, 1) := by decide +kernel
theorem d_Mdl_read_56 : decode b_Mdl_read 56 = .ok (.aload_n 0, 1) := by decide +kernel
theorem d_Mdl_read_57 : decode b_Mdl_read 57 = .ok (.iconst 1, 1) := by decide +kernel
theorem d_Mdl_read_58 : decode b_Mdl_read 58 = .ok (.putfield 37, 3) := by decide +kernel
theorem d_Mdl_read_61 : decode b_Mdl_read 61 = .ok (.aload_n 0, 1) := by decide +kernel
theorem d_Mdl_read_62 : decode b_Mdl_read 62 = .ok (.iload_n 1, 1) := by decide +kernel
theorem d_Mdl_read_63 : decode b_Mdl_read 63 = .ok (.putfield 114, 3) := by decide +kernel
theorem d_Mdl_read_66 : decode b_Mdl_read 66 = .ok (.aload_n 0, 1) := by decide +kernel
theorem d_Mdl_read_67 : decode b_Mdl_read 67 = .ok (.iload_n 2, 1) := by decide +kernel
theorem d_Mdl_read_68 : decode b_Mdl_read 68 = .ok (.putfield 111, 3) := by decide +kernel
theorem d_Mdl_read_71 : decode b_Mdl_read 71 = .ok (.aload_n 0, 1) := by decide +kernel
theorem d_Mdl_read_72 : decode b_Mdl_read 72 = .ok (.iload_n 3, 1) := by decide +kernel
theorem d_Mdl_read_73 : decode b_Mdl_read 73 = .ok (.putfield 108, 3) := by decide +kernel
theorem d_Mdl_read_76 : decode b_Mdl_read 76 = .ok (.aload_n 0, 1) := by decide +kernel
theorem d_Mdl_read_77 : decode b_Mdl_read 77 = .ok (.iconst 0, 1) := by decide +kernel
theorem d_Mdl_read_78 : decode b_Mdl_read 78 = .ok (.putfield 117, 3) := by decide +kernel
theorem d_Mdl_read_81 : decode b_Mdl_read 81 = .ok (.aload_n 0, 1) := by decide +kernel
theorem d_Mdl_read_82 : decode b_Mdl_read 82 = .ok (.iconst 0, 1) := by decide +kernel
theorem d_Mdl_read_83 : decode b_Mdl_read 83 = .ok (.putfield 120, 3) := by decide +kernel
theorem d_Mdl_read_86 : decode b_Mdl_read 86 = .ok (.aload_n 0, 1) := by decide +kernel
theorem d_Mdl_read_87 : decode b_Mdl_read 87 = .ok (.iconst 0, 1) := by decide +kernel
theorem d_Mdl_read_88 : decode b_Mdl_read 88 = .ok (.putfield 123, 3) := by decide +kernel
theorem d_Mdl_read_91 : decode b_Mdl_read 91 = .ok (.aload_n 0, 1) := by decide +kernel
theorem d_Mdl_read_92 : decode b_Mdl_read 92 = .ok (.getfield 114, 3) := by decide +kernel
theorem d_Mdl_read_95 : decode b_Mdl_read 95 = .ok (.ifCond .eq 4, 3) := by decide +kernel
theorem d_Mdl_read_98 : decode b_Mdl_read 98 = .ok (.return_, 1) := by decide +kernel
theorem d_Mdl_read_99 : decode b_Mdl_read 99 = .ok (.aload_n 0, 1) := by decide +kernel
theorem d_Mdl_read_100 : decode b_Mdl_read 100 = .ok (.ldc 52, 2) := by decide +kernel
theorem d_Mdl_read_102 : decode b_Mdl_read 102 = .ok (.putfield 126, 3) := by decide +kernel
theorem d_Mdl_read_105 : decode b_Mdl_read 105 = .ok (.aload_n 0, 1) := by decide +kernel
theorem d_Mdl_read_106 : decode b_Mdl_read 106 = .ok (.aload_n 0, 1) := by decide +kernel
theorem d_Mdl_read_107 : decode b_Mdl_read 107 = .ok (.iconst 0, 1) := by decide +kernel
theorem d_Mdl_read_108 : decode b_Mdl_read 108 = .ok (.invokevirtual 129, 3) := by decide +kernel
theorem d_Mdl_read_111 : decode b_Mdl_read 111 = .ok (.putfield 123, 3) := by decide +kernel
theorem d_Mdl_read_114 : decode b_Mdl_read 114 = .ok (.aload_n 0, 1) := by decide +kernel
theorem d_Mdl_read_115 : decode b_Mdl_read 115 = .ok (.iconst 1, 1) := by decide +kernel
theorem d_Mdl_read_116 : decode b_Mdl_read 116 = .ok (.putfield 117, 3) := by decide +kernel
theorem d_Mdl_read_119 : decode b_Mdl_read 119 = .ok (.aload_n 0, 1) := by decide +kernel
theorem d_Mdl_read_120 : decode b_Mdl_read 120 = .ok (.ldc2_w 132, 3) := by decide +kernel
theorem d_Mdl_read_123 : decode b_Mdl_read 123 = .ok (.putfield 134, 3) := by decide +kernel
theorem d_Mdl_read_126 : decode b_Mdl_read 126 = .ok (.aload_n 0, 1) := by decide +kernel
theorem d_Mdl_read_127 : decode b_Mdl_read 127 = .ok (.getfield 123, 3) := by decide +kernel
theorem d_Mdl_read_130 : decode b_Mdl_read 130 = .ok (.i2l, 1) := by decide +kernel
theorem d_Mdl_read_131 : decode b_Mdl_read 131 = .ok (.bipush 16, 2) := by decide +kernel
theorem d_Mdl_read_133 : decode b_Mdl_read 133 = .ok (.lshl, 1) := by decide +kernel
theorem d_Mdl_read_134 : decode b_Mdl_read 134 = .ok (.lstore 5, 2) := by decide +kernel
theorem d_Mdl_read_136 : decode b_Mdl_read 136 = .ok (.lload 5, 2) := by decide +kernel
theorem d_Mdl_read_138 : decode b_Mdl_read 138 = .ok (.aload_n 0, 1) := by decide +kernel
theorem d_Mdl_read_139 : decode b_Mdl_read 139 = .ok (.invokevirtual 138, 3) := by decide +kernel
theorem d_Mdl_read_142 : decode b_Mdl_read 142 = .ok (.i2l, 1) := by decide +kernel
theorem d_Mdl_read_143 : decode b_Mdl_read 143 = .ok (.ladd, 1) := by decide +kernel
theorem d_Mdl_read_144 : decode b_Mdl_read 144 = .ok (.lstore 5, 2) := by decide +kernel
theorem d_Mdl_read_146 : decode b_Mdl_read 146 = .ok (.aload_n 0, 1) := by decide +kernel
theorem d_Mdl_read_147 : decode b_Mdl_read 147 = .ok (.aload_n 0, 1) := by decide +kernel
theorem d_Mdl_read_148 : decode b_Mdl_read 148 = .ok (.getfield 134, 3) := by decide +kernel
theorem d_Mdl_read_151 : decode b_Mdl_read 151 = .ok (.lload 5, 2) := by decide +kernel
theorem d_Mdl_read_153 : decode b_Mdl_read 153 = .ok (.bipush 7, 2) := by decide +kernel
theorem d_Mdl_read_155 : decode b_Mdl_read 155 = .ok (.lshl, 1) := by decide +kernel
theorem d_Mdl_read_156 : decode b_Mdl_read 156 = .ok (.lsub, 1) := by decide +kernel
theorem d_Mdl_read_157 : decode b_Mdl_read 157 = .ok (.putfield 134, 3) := by decide +kernel
theorem d_Mdl_read_160 : decode b_Mdl_read 160 = .ok (.aload_n 0, 1) := by decide +kernel
theorem d_Mdl_read_161 : decode b_Mdl_read 161 = .ok (.aload_n 0, 1) := by decide +kernel
theorem d_Mdl_read_162 : decode b_Mdl_read 162 = .ok (.getfield 120, 3) := by decide +kernel
theorem d_Mdl_read_165 : decode b_Mdl_read 165 = .ok (.bipush 7, 2) := by decide +kernel
theorem d_Mdl_read_167 : decode b_Mdl_read 167 = .ok (.isub, 1) := by decide +kernel
theorem d_Mdl_read_168 : decode b_Mdl_read 168 = .ok (.putfield 120, 3) := by decide +kernel
theorem d_Mdl_read_171 : decode b_Mdl_read 171 = .ok (.return_, 1) := by decide +kernel
theorem d_Mdl_comesIn_0 : decode b_Mdl_comesIn 0 = .ok (.aload_n 0, 1) := by decide +kernel
theorem d_Mdl_comesIn_1 : decode b_Mdl_comesIn 1 = .ok (.bipush 8, 2) := by decide +kernel
theorem d_Mdl_comesIn_3 : decode b_Mdl_comesIn 3 = .ok (.putfield 120, 3) := by decide +kernel
theorem d_Mdl_comesIn_6 : decode b_Mdl_comesIn 6 = .ok (.aload_n 0, 1) := by decide +kernel
theorem d_Mdl_comesIn_7 : decode b_Mdl_comesIn 7 = .ok (.getfield 123, 3) := by decide +kernel
theorem d_Mdl_comesIn_10 : decode b_Mdl_comesIn 10 = .ok (.sipush 255, 3) := by decide +kernel
theorem d_Mdl_comesIn_13 : decode b_Mdl_comesIn 13 = .ok (.if_icmp .eq 33, 3) := by decide +kernel
theorem d_Mdl_comesIn_16 : decode b_Mdl_comesIn 16 = .ok (.aload_n 0, 1) := by decide +kernel
theorem d_Mdl_comesIn_17 : decode b_Mdl_comesIn 17 = .ok (.aload_n 0, 1) := by decide +kernel
theorem d_Mdl_comesIn_18 : decode b_Mdl_comesIn 18 = .ok (.aload_n 0, 1) := by decide +kernel
theorem d_Mdl_comesIn_19 : decode b_Mdl_comesIn 19 = .ok (.getfield 117, 3) := by decide +kernel
theorem d_Mdl_comesIn_22 : decode b_Mdl_comesIn 22 = .ok (.invokevirtual 129, 3) := by decide +kernel
theorem d_Mdl_comesIn_25 : decode b_Mdl_comesIn 25 = .ok (.putfield 123, 3) := by decide +kernel
theorem d_Mdl_comesIn_28 : decode b_Mdl_comesIn 28 = .ok (.aload_n 0, 1) := by decide +kernel
theorem d_Mdl_comesIn_29 : decode b_Mdl_comesIn 29 = .ok (.dup, 1) := by decide +kernel
theorem d_Mdl_comesIn_30 : decode b_Mdl_comesIn 30 = .ok (.getfield 117, 3) := by decide +kernel
theorem d_Mdl_comesIn_33 : decode b_Mdl_comesIn 33 = .ok (.iconst 1, 1) := by decide +kernel
theorem d_Mdl_comesIn_34 : decode b_Mdl_comesIn 34 = .ok (.iadd, 1) := by decide +kernel
theorem d_Mdl_comesIn_35 : decode b_Mdl_comesIn 35 = .ok (.putfield 117, 3) := by decide +kernel
theorem d_Mdl_comesIn_38 : decode b_Mdl_comesIn 38 = .ok (.aload_n 0, 1) := by decide +kernel
theorem d_Mdl_comesIn_39 : decode b_Mdl_comesIn 39 = .ok (.getfield 123, 3) := by decide +kernel
theorem d_Mdl_comesIn_42 : decode b_Mdl_comesIn 42 = .ok (.bipush 8, 2) := by decide +kernel
theorem d_Mdl_comesIn_44 : decode b_Mdl_comesIn 44 = .ok (.ishl, 1) := by decide +kernel
theorem d_Mdl_comesIn_45 : decode b_Mdl_comesIn 45 = .ok (.ireturn, 1) := by decide +kernel
theorem d_Mdl_comesIn_46 : decode b_Mdl_comesIn 46 = .ok (.aload_n 0, 1) := by decide +kernel
theorem d_Mdl_comesIn_47 : decode b_Mdl_comesIn 47 = .ok (.aload_n 0, 1) := by decide +kernel
theorem d_Mdl_comesIn_48 : decode b_Mdl_comesIn 48 = .ok (.getfield 117, 3) := by decide +kernel
theorem d_Mdl_comesIn_51 : decode b_Mdl_comesIn 51 = .ok (.invokevirtual 129, 3) := by decide +kernel
theorem d_Mdl_comesIn_54 : decode b_Mdl_comesIn 54 = .ok (.sipush 143, 3) := by decide +kernel
theorem d_Mdl_comesIn_57 : decode b_Mdl_comesIn 57 = .ok (.if_icmp .le 6, 3) := by decide +kernel
theorem d_Mdl_comesIn_60 : decode b_Mdl_comesIn 60 = .ok (.ldc 141, 2) := by decide +kernel
theorem d_Mdl_comesIn_62 : decode b_Mdl_comesIn 62 = .ok (.ireturn, 1) := by decide +kernel
theorem d_Mdl_comesIn_63 : decode b_Mdl_comesIn 63 = .ok (.aload_n 0, 1) := by decide +kernel
theorem d_Mdl_comesIn_64 : decode b_Mdl_comesIn 64 = .ok (.aload_n 0, 1) := by decide +kernel
theorem d_Mdl_comesIn_65 : decode b_Mdl_comesIn 65 = .ok (.aload_n 0, 1) := by decide +kernel
theorem d_Mdl_comesIn_66 : decode b_Mdl_comesIn 66 = .ok (.getfield 117, 3) := by decide +kernel
theorem d_Mdl_comesIn_69 : decode b_Mdl_comesIn 69 = .ok (.invokevirtual 129, 3) := by decide +kernel
theorem d_Mdl_comesIn_72 : decode b_Mdl_comesIn 72 = .ok (.putfield 123, 3) := by decide +kernel
theorem d_Mdl_comesIn_75 : decode b_Mdl_comesIn 75 = .ok (.aload_n 0, 1) := by decide +kernel
theorem d_Mdl_comesIn_76 : decode b_Mdl_comesIn 76 = .ok (.dup, 1) := by decide +kernel
theorem d_Mdl_comesIn_77 : decode b_Mdl_comesIn 77 = .ok (.getfield 117, 3) := by decide +kernel
theorem d_Mdl_comesIn_80 : decode b_Mdl_comesIn 80 = .ok (.iconst 1, 1) := by decide +kernel
theorem d_Mdl_comesIn_81 : decode b_Mdl_comesIn 81 = .ok (.iadd, 1) := by decide +kernel
theorem d_Mdl_comesIn_82 : decode b_Mdl_comesIn 82 = .ok (.putfield 117, 3) := by decide +kernel
theorem d_Mdl_comesIn_85 : decode b_Mdl_comesIn 85 = .ok (.aload_n 0, 1) := by decide +kernel
theorem d_Mdl_comesIn_86 : decode b_Mdl_comesIn 86 = .ok (.bipush 7, 2) := by decide +kernel
theorem d_Mdl_comesIn_88 : decode b_Mdl_comesIn 88 = .ok (.putfield 120, 3) := by decide +kernel
theorem d_Mdl_comesIn_91 : decode b_Mdl_comesIn 91 = .ok (.aload_n 0, 1) := by decide +kernel
theorem d_Mdl_comesIn_92 : decode b_Mdl_comesIn 92 = .ok (.getfield 123, 3) := by decide +kernel
theorem d_Mdl_comesIn_95 : decode b_Mdl_comesIn 95 = .ok (.bipush 9, 2) := by decide +kernel
theorem d_Mdl_comesIn_97 : decode b_Mdl_comesIn 97 = .ok (.ishl, 1) := by decide +kernel
theorem d_Mdl_comesIn_98 : decode b_Mdl_comesIn 98 = .ok (.ireturn, 1) := by decide +kernel
theorem d_Mdl_round_0 : decode b_Mdl_round 0 = .ok (.aload_n 0, 1) := by decide +kernel
theorem d_Mdl_round_1 : decode b_Mdl_round 1 = .ok (.getfield 126, 3) := by decide +kernel
theorem d_Mdl_round_4 : decode b_Mdl_round 4 = .ok (.i2l, 1) := by decide +kernel
theorem d_Mdl_round_5 : decode b_Mdl_round 5 = .ok (.bipush 16, 2) := by decide +kernel
theorem d_Mdl_round_7 : decode b_Mdl_round 7 = .ok (.lshl, 1) := by decide +kernel
theorem d_Mdl_round_8 : decode b_Mdl_round 8 = .ok (.lconst 1, 1) := by decide +kernel
theorem d_Mdl_round_9 : decode b_Mdl_round 9 = .ok (.lsub, 1) := by decide +kernel
theorem d_Mdl_round_10 : decode b_Mdl_round 10 = .ok (.aload_n 0, 1) := by decide +kernel
theorem d_Mdl_round_11 : decode b_Mdl_round 11 = .ok (.getfield 134, 3) := by decide +kernel
theorem d_Mdl_round_14 : decode b_Mdl_round 14 = .ok (.lsub, 1) := by decide +kernel
theorem d_Mdl_round_15 : decode b_Mdl_round 15 = .ok (.lstore_n 1, 1) := by decide +kernel
theorem d_Mdl_round_16 : decode b_Mdl_round 16 = .ok (.lload_n 1, 1) := by decide +kernel
theorem d_Mdl_round_17 : decode b_Mdl_round 17 = .ok (.bipush 32, 2) := by decide +kernel
theorem d_Mdl_round_19 : decode b_Mdl_round 19 = .ok (.lshr, 1) := by decide +kernel
theorem d_Mdl_round_20 : decode b_Mdl_round 20 = .ok (.lconst 0, 1) := by decide +kernel
theorem d_Mdl_round_21 : decode b_Mdl_round 21 = .ok (.lcmp, 1) := by decide +kernel
theorem d_Mdl_round_22 : decode b_Mdl_round 22 = .ok (.ifCond .eq 15, 3) := by decide +kernel
theorem d_Mdl_round_25 : decode b_Mdl_round 25 = .ok (.aload_n 0, 1) := by decide +kernel
theorem d_Mdl_round_26 : decode b_Mdl_round 26 = .ok (.aload_n 0, 1) := by decide +kernel
theorem d_Mdl_round_27 : decode b_Mdl_round 27 = .ok (.getfield 134, 3) := by decide +kernel
theorem d_Mdl_round_30 : decode b_Mdl_round 30 = .ok (.ldc2_w 142, 3) := by decide +kernel
theorem d_Mdl_round_33 : decode b_Mdl_round 33 = .ok (.ladd, 1) := by decide +kernel
theorem d_Mdl_round_34 : decode b_Mdl_round 34 = .ok (.putfield 134, 3) := by decide +kernel
theorem d_Mdl_round_37 : decode b_Mdl_round 37 = .ok (.return_, 1) := by decide +kernel
theorem d_Mdl_readCoded_0 : decode b_Mdl_readCoded 0 = .ok (.aload_n 0, 1) := by decide +kernel
theorem d_Mdl_readCoded_1 : decode b_Mdl_readCoded 1 = .ok (.getfield 7, 3) := by decide +kernel
theorem d_Mdl_readCoded_4 : decode b_Mdl_readCoded 4 = .ok (.aload_n 0, 1) := by decide +kernel
theorem d_Mdl_readCoded_5 : decode b_Mdl_readCoded 5 = .ok (.getfield 20, 3) := by decide +kernel
theorem d_Mdl_readCoded_8 : decode b_Mdl_readCoded 8 = .ok (.iload_n 1, 1) := by decide +kernel
theorem d_Mdl_readCoded_9 : decode b_Mdl_readCoded 9 = .ok (.iaload, 1) := by decide +kernel
theorem d_Mdl_readCoded_10 : decode b_Mdl_readCoded 10 = .ok (.iaload, 1) := by decide +kernel
theorem d_Mdl_readCoded_11 : decode b_Mdl_readCoded 11 = .ok (.istore_n 2, 1) := by decide +kernel
theorem d_Mdl_readCoded_12 : decode b_Mdl_readCoded 12 = .ok (.aload_n 0, 1) := by decide +kernel
theorem d_Mdl_readCoded_13 : decode b_Mdl_readCoded 13 = .ok (.getfield 23, 3) := by decide +kernel
theorem d_Mdl_readCoded_16 : decode b_Mdl_readCoded 16 = .ok (.iload_n 1, 1) := by decide +kernel
theorem d_Mdl_readCoded_17 : decode b_Mdl_readCoded 17 = .ok (.iaload, 1) := by decide +kernel
theorem d_Mdl_readCoded_18 : decode b_Mdl_readCoded 18 = .ok (.istore_n 3, 1) := by decide +kernel
theorem d_Mdl_readCoded_19 : decode b_Mdl_readCoded 19 = .ok (.aload_n 0, 1) := by decide +kernel
theorem d_Mdl_readCoded_20 : decode b_Mdl_readCoded 20 = .ok (.aload_n 0, 1) := by decide +kernel
theorem d_Mdl_readCoded_21 : decode b_Mdl_readCoded 21 = .ok (.getfield 126, 3) := by decide +kernel
theorem d_Mdl_readCoded_24 : decode b_Mdl_readCoded 24 = .ok (.iload_n 2, 1) := by decide +kernel
theorem d_Mdl_readCoded_25 : decode b_Mdl_readCoded 25 = .ok (.isub, 1) := by decide +kernel
theorem d_Mdl_readCoded_26 : decode b_Mdl_readCoded 26 = .ok (.putfield 126, 3) := by decide +kernel
theorem d_Mdl_readCoded_29 : decode b_Mdl_readCoded 29 = .ok (.aload_n 0, 1) := by decide +kernel
theorem d_Mdl_readCoded_30 : decode b_Mdl_readCoded 30 = .ok (.getfield 134, 3) := by decide +kernel
theorem d_Mdl_readCoded_33 : decode b_Mdl_readCoded 33 = .ok (.aload_n 0, 1) := by decide +kernel
theorem d_Mdl_readCoded_34 : decode b_Mdl_readCoded 34 = .ok (.getfield 126, 3) := by decide +kernel
theorem d_Mdl_readCoded_37 : decode b_Mdl_readCoded 37 = .ok (.i2l, 1) := by decide +kernel
theorem d_Mdl_readCoded_38 : decode b_Mdl_readCoded 38 = .ok (.bipush 16, 2) := by decide +kernel
theorem d_Mdl_readCoded_40 : decode b_Mdl_readCoded 40 = .ok (.lshl, 1) := by decide +kernel
theorem d_Mdl_readCoded_41 : decode b_Mdl_readCoded 41 = .ok (.lcmp, 1) := by decide +kernel
theorem d_Mdl_readCoded_42 : decode b_Mdl_readCoded 42 = .ok (.ifCond .lt 7, 3) := by decide +kernel
theorem d_Mdl_readCoded_45 : decode b_Mdl_readCoded 45 = .ok (.iconst 1, 1) := by decide +kernel
theorem d_Mdl_readCoded_46 : decode b_Mdl_readCoded 46 = .ok (.goto 4, 3) := by decide +kernel
theorem d_Mdl_readCoded_49 : decode b_Mdl_readCoded 49 = .ok (.iconst 0, 1) := by decide +kernel
theorem d_Mdl_readCoded_50 : decode b_Mdl_readCoded 50 = .ok (.istore 4, 2) := by decide +kernel
theorem d_Mdl_readCoded_52 : decode b_Mdl_readCoded 52 = .ok (.iload 4, 2) := by decide +kernel
theorem d_Mdl_readCoded_54 : decode b_Mdl_readCoded 54 = .ok (.ifCond .ne 14, 3) := by decide +kernel
theorem d_Mdl_readCoded_57 : decode b_Mdl_readCoded 57 = .ok (.aload_n 0, 1) := by decide +kernel
theorem d_Mdl_readCoded_58 : decode b_Mdl_readCoded 58 = .ok (.getfield 126, 3) := by decide +kernel
theorem d_Mdl_readCoded_61 : decode b_Mdl_readCoded 61 = .ok (.ldc 52, 2) := by decide +kernel
theorem d_Mdl_readCoded_63 : decode b_Mdl_readCoded 63 = .ok (.if_icmp .lt 5, 3) := by decide +kernel
theorem d_Mdl_readCoded_66 : decode b_Mdl_readCoded 66 = .ok (.iload_n 3, 1) := by decide +kernel
theorem d_Mdl_readCoded_67 : decode b_Mdl_readCoded 67 = .ok (.ireturn, 1) := by decide +kernel
theorem d_Mdl_readCoded_68 : decode b_Mdl_readCoded 68 = .ok (.iload 4, 2) := by decide +kernel
theorem d_Mdl_readCoded_70 : decode b_Mdl_readCoded 70 = .ok (.aload_n 0, 1) := by decide +kernel
theorem d_Mdl_readCoded_71 : decode b_Mdl_readCoded 71 = .ok (.getfield 126, 3) := by decide +kernel
theorem d_Mdl_readCoded_74 : decode b_Mdl_readCoded 74 = .ok (.iload_n 2, 1) := by decide +kernel
theorem d_Mdl_readCoded_75 : decode b_Mdl_readCoded 75 = .ok (.if_icmp .ge 7, 3) := by decide +kernel
theorem d_Mdl_readCoded_78 : decode b_Mdl_readCoded 78 = .ok (.iconst 1, 1) := by decide +kernel
theorem d_Mdl_readCoded_79 : decode b_Mdl_readCoded 79 = .ok (.goto 4, 3) := by decide +kernel

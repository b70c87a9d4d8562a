theorem d_Mdl_readCoded_82 : decode b_Mdl_readCoded 82 = .ok (.iconst 0, 1) := by decide +kernel
theorem d_Mdl_readCoded_83 : decode b_Mdl_readCoded 83 = .ok (.if_icmp .ne 7, 3) := by decide +kernel
theorem d_Mdl_readCoded_86 : decode b_Mdl_readCoded 86 = .ok (.iconst 1, 1) := by decide +kernel
theorem d_Mdl_readCoded_87 : decode b_Mdl_readCoded 87 = .ok (.goto 4, 3) := by decide +kernel
theorem d_Mdl_readCoded_90 : decode b_Mdl_readCoded 90 = .ok (.iconst 0, 1) := by decide +kernel
theorem d_Mdl_readCoded_91 : decode b_Mdl_readCoded 91 = .ok (.istore 5, 2) := by decide +kernel
theorem d_Mdl_readCoded_93 : decode b_Mdl_readCoded 93 = .ok (.iload 4, 2) := by decide +kernel
theorem d_Mdl_readCoded_95 : decode b_Mdl_readCoded 95 = .ok (.ifCond .eq 25, 3) := by decide +kernel
theorem d_Mdl_readCoded_98 : decode b_Mdl_readCoded 98 = .ok (.aload_n 0, 1) := by decide +kernel
theorem d_Mdl_readCoded_99 : decode b_Mdl_readCoded 99 = .ok (.aload_n 0, 1) := by decide +kernel
theorem d_Mdl_readCoded_100 : decode b_Mdl_readCoded 100 = .ok (.getfield 134, 3) := by decide +kernel
theorem d_Mdl_readCoded_103 : decode b_Mdl_readCoded 103 = .ok (.aload_n 0, 1) := by decide +kernel
theorem d_Mdl_readCoded_104 : decode b_Mdl_readCoded 104 = .ok (.getfield 126, 3) := by decide +kernel
theorem d_Mdl_readCoded_107 : decode b_Mdl_readCoded 107 = .ok (.i2l, 1) := by decide +kernel
theorem d_Mdl_readCoded_108 : decode b_Mdl_readCoded 108 = .ok (.bipush 16, 2) := by decide +kernel
theorem d_Mdl_readCoded_110 : decode b_Mdl_readCoded 110 = .ok (.lshl, 1) := by decide +kernel
theorem d_Mdl_readCoded_111 : decode b_Mdl_readCoded 111 = .ok (.lsub, 1) := by decide +kernel
theorem d_Mdl_readCoded_112 : decode b_Mdl_readCoded 112 = .ok (.putfield 134, 3) := by decide +kernel
theorem d_Mdl_readCoded_115 : decode b_Mdl_readCoded 115 = .ok (.aload_n 0, 1) := by decide +kernel
theorem d_Mdl_readCoded_116 : decode b_Mdl_readCoded 116 = .ok (.iload_n 2, 1) := by decide +kernel
theorem d_Mdl_readCoded_117 : decode b_Mdl_readCoded 117 = .ok (.putfield 126, 3) := by decide +kernel
theorem d_Mdl_readCoded_120 : decode b_Mdl_readCoded 120 = .ok (.aload_n 0, 1) := by decide +kernel
theorem d_Mdl_readCoded_121 : decode b_Mdl_readCoded 121 = .ok (.iload_n 1, 1) := by decide +kernel
theorem d_Mdl_readCoded_122 : decode b_Mdl_readCoded 122 = .ok (.iload 5, 2) := by decide +kernel
theorem d_Mdl_readCoded_124 : decode b_Mdl_readCoded 124 = .ok (.invokevirtual 86, 3) := by decide +kernel
theorem d_Mdl_readCoded_127 : decode b_Mdl_readCoded 127 = .ok (.aload_n 0, 1) := by decide +kernel
theorem d_Mdl_readCoded_128 : decode b_Mdl_readCoded 128 = .ok (.getfield 126, 3) := by decide +kernel
theorem d_Mdl_readCoded_131 : decode b_Mdl_readCoded 131 = .ok (.ldc 52, 2) := by decide +kernel
theorem d_Mdl_readCoded_133 : decode b_Mdl_readCoded 133 = .ok (.if_icmp .ge 72, 3) := by decide +kernel
theorem d_Mdl_readCoded_136 : decode b_Mdl_readCoded 136 = .ok (.aload_n 0, 1) := by decide +kernel
theorem d_Mdl_readCoded_137 : decode b_Mdl_readCoded 137 = .ok (.getfield 120, 3) := by decide +kernel
theorem d_Mdl_readCoded_140 : decode b_Mdl_readCoded 140 = .ok (.ifCond .ne 21, 3) := by decide +kernel
theorem d_Mdl_readCoded_143 : decode b_Mdl_readCoded 143 = .ok (.aload_n 0, 1) := by decide +kernel
theorem d_Mdl_readCoded_144 : decode b_Mdl_readCoded 144 = .ok (.aload_n 0, 1) := by decide +kernel
theorem d_Mdl_readCoded_145 : decode b_Mdl_readCoded 145 = .ok (.getfield 134, 3) := by decide +kernel
theorem d_Mdl_readCoded_148 : decode b_Mdl_readCoded 148 = .ok (.aload_n 0, 1) := by decide +kernel
theorem d_Mdl_readCoded_149 : decode b_Mdl_readCoded 149 = .ok (.invokevirtual 138, 3) := by decide +kernel
theorem d_Mdl_readCoded_152 : decode b_Mdl_readCoded 152 = .ok (.i2l, 1) := by decide +kernel
theorem d_Mdl_readCoded_153 : decode b_Mdl_readCoded 153 = .ok (.lsub, 1) := by decide +kernel
theorem d_Mdl_readCoded_154 : decode b_Mdl_readCoded 154 = .ok (.putfield 134, 3) := by decide +kernel
theorem d_Mdl_readCoded_157 : decode b_Mdl_readCoded 157 = .ok (.aload_n 0, 1) := by decide +kernel
theorem d_Mdl_readCoded_158 : decode b_Mdl_readCoded 158 = .ok (.invokevirtual 144, 3) := by decide +kernel
theorem d_Mdl_readCoded_161 : decode b_Mdl_readCoded 161 = .ok (.aload_n 0, 1) := by decide +kernel
theorem d_Mdl_readCoded_162 : decode b_Mdl_readCoded 162 = .ok (.aload_n 0, 1) := by decide +kernel
theorem d_Mdl_readCoded_163 : decode b_Mdl_readCoded 163 = .ok (.getfield 126, 3) := by decide +kernel
theorem d_Mdl_readCoded_166 : decode b_Mdl_readCoded 166 = .ok (.aload_n 0, 1) := by decide +kernel
theorem d_Mdl_readCoded_167 : decode b_Mdl_readCoded 167 = .ok (.getfield 126, 3) := by decide +kernel
theorem d_Mdl_readCoded_170 : decode b_Mdl_readCoded 170 = .ok (.iadd, 1) := by decide +kernel
theorem d_Mdl_readCoded_171 : decode b_Mdl_readCoded 171 = .ok (.putfield 126, 3) := by decide +kernel
theorem d_Mdl_readCoded_174 : decode b_Mdl_readCoded 174 = .ok (.aload_n 0, 1) := by decide +kernel
theorem d_Mdl_readCoded_175 : decode b_Mdl_readCoded 175 = .ok (.ldc2_w 147, 3) := by decide +kernel
theorem d_Mdl_readCoded_178 : decode b_Mdl_readCoded 178 = .ok (.aload_n 0, 1) := by decide +kernel
theorem d_Mdl_readCoded_179 : decode b_Mdl_readCoded 179 = .ok (.getfield 134, 3) := by decide +kernel
theorem d_Mdl_readCoded_182 : decode b_Mdl_readCoded 182 = .ok (.lmul, 1) := by decide +kernel
theorem d_Mdl_readCoded_183 : decode b_Mdl_readCoded 183 = .ok (.lconst 1, 1) := by decide +kernel
theorem d_Mdl_readCoded_184 : decode b_Mdl_readCoded 184 = .ok (.ladd, 1) := by decide +kernel
theorem d_Mdl_readCoded_185 : decode b_Mdl_readCoded 185 = .ok (.putfield 134, 3) := by decide +kernel
theorem d_Mdl_readCoded_188 : decode b_Mdl_readCoded 188 = .ok (.aload_n 0, 1) := by decide +kernel
theorem d_Mdl_readCoded_189 : decode b_Mdl_readCoded 189 = .ok (.invokevirtual 144, 3) := by decide +kernel
theorem d_Mdl_readCoded_192 : decode b_Mdl_readCoded 192 = .ok (.aload_n 0, 1) := by decide +kernel
theorem d_Mdl_readCoded_193 : decode b_Mdl_readCoded 193 = .ok (.dup, 1) := by decide +kernel
theorem d_Mdl_readCoded_194 : decode b_Mdl_readCoded 194 = .ok (.getfield 120, 3) := by decide +kernel
theorem d_Mdl_readCoded_197 : decode b_Mdl_readCoded 197 = .ok (.iconst 1, 1) := by decide +kernel
theorem d_Mdl_readCoded_198 : decode b_Mdl_readCoded 198 = .ok (.isub, 1) := by decide +kernel
theorem d_Mdl_readCoded_199 : decode b_Mdl_readCoded 199 = .ok (.putfield 120, 3) := by decide +kernel
theorem d_Mdl_readCoded_202 : decode b_Mdl_readCoded 202 = .ok (.goto (-75), 3) := by decide +kernel
theorem d_Mdl_readCoded_205 : decode b_Mdl_readCoded 205 = .ok (.iload 5, 2) := by decide +kernel
theorem d_Mdl_readCoded_207 : decode b_Mdl_readCoded 207 = .ok (.ifCond .eq 7, 3) := by decide +kernel
theorem d_Mdl_readCoded_210 : decode b_Mdl_readCoded 210 = .ok (.iload_n 3, 1) := by decide +kernel
theorem d_Mdl_readCoded_211 : decode b_Mdl_readCoded 211 = .ok (.goto 6, 3) := by decide +kernel
theorem d_Mdl_readCoded_214 : decode b_Mdl_readCoded 214 = .ok (.iconst 1, 1) := by decide +kernel
theorem d_Mdl_readCoded_215 : decode b_Mdl_readCoded 215 = .ok (.iload_n 3, 1) := by decide +kernel
theorem d_Mdl_readCoded_216 : decode b_Mdl_readCoded 216 = .ok (.isub, 1) := by decide +kernel
theorem d_Mdl_readCoded_217 : decode b_Mdl_readCoded 217 = .ok (.ireturn, 1) := by decide +kernel
theorem d_Mdl_readRaw_0 : decode b_Mdl_readRaw 0 = .ok (.aload_n 0, 1) := by decide +kernel
theorem d_Mdl_readRaw_1 : decode b_Mdl_readRaw 1 = .ok (.getfield 120, 3) := by decide +kernel
theorem d_Mdl_readRaw_4 : decode b_Mdl_readRaw 4 = .ok (.ifCond .ne 53, 3) := by decide +kernel
theorem d_Mdl_readRaw_7 : decode b_Mdl_readRaw 7 = .ok (.aload_n 0, 1) := by decide +kernel
theorem d_Mdl_readRaw_8 : decode b_Mdl_readRaw 8 = .ok (.aload_n 0, 1) := by decide +kernel
theorem d_Mdl_readRaw_9 : decode b_Mdl_readRaw 9 = .ok (.getfield 117, 3) := by decide +kernel
theorem d_Mdl_readRaw_12 : decode b_Mdl_readRaw 12 = .ok (.ifCond .le 18, 3) := by decide +kernel
theorem d_Mdl_readRaw_15 : decode b_Mdl_readRaw 15 = .ok (.aload_n 0, 1) := by decide +kernel
theorem d_Mdl_readRaw_16 : decode b_Mdl_readRaw 16 = .ok (.getfield 123, 3) := by decide +kernel
theorem d_Mdl_readRaw_19 : decode b_Mdl_readRaw 19 = .ok (.sipush 255, 3) := by decide +kernel
theorem d_Mdl_readRaw_22 : decode b_Mdl_readRaw 22 = .ok (.if_icmp .ne 8, 3) := by decide +kernel
theorem d_Mdl_readRaw_25 : decode b_Mdl_readRaw 25 = .ok (.bipush 7, 2) := by decide +kernel
theorem d_Mdl_readRaw_27 : decode b_Mdl_readRaw 27 = .ok (.goto 5, 3) := by decide +kernel
theorem d_Mdl_readRaw_30 : decode b_Mdl_readRaw 30 = .ok (.bipush 8, 2) := by decide +kernel
theorem d_Mdl_readRaw_32 : decode b_Mdl_readRaw 32 = .ok (.putfield 120, 3) := by decide +kernel
theorem d_Mdl_readRaw_35 : decode b_Mdl_readRaw 35 = .ok (.aload_n 0, 1) := by decide +kernel
theorem d_Mdl_readRaw_36 : decode b_Mdl_readRaw 36 = .ok (.aload_n 0, 1) := by decide +kernel
theorem d_Mdl_readRaw_37 : decode b_Mdl_readRaw 37 = .ok (.aload_n 0, 1) := by decide +kernel
theorem d_Mdl_readRaw_38 : decode b_Mdl_readRaw 38 = .ok (.getfield 117, 3) := by decide +kernel
theorem d_Mdl_readRaw_41 : decode b_Mdl_readRaw 41 = .ok (.invokevirtual 129, 3) := by decide +kernel
theorem d_Mdl_readRaw_44 : decode b_Mdl_readRaw 44 = .ok (.putfield 123, 3) := by decide +kernel
theorem d_Mdl_readRaw_47 : decode b_Mdl_readRaw 47 = .ok (.aload_n 0, 1) := by decide +kernel
theorem d_Mdl_readRaw_48 : decode b_Mdl_readRaw 48 = .ok (.dup, 1) := by decide +kernel
theorem d_Mdl_readRaw_49 : decode b_Mdl_readRaw 49 = .ok (.getfield 117, 3) := by decide +kernel
theorem d_Mdl_readRaw_52 : decode b_Mdl_readRaw 52 = .ok (.iconst 1, 1) := by decide +kernel
theorem d_Mdl_readRaw_53 : decode b_Mdl_readRaw 53 = .ok (.iadd, 1) := by decide +kernel
theorem d_Mdl_readRaw_54 : decode b_Mdl_readRaw 54 = .ok (.putfield 117, 3) := by decide +kernel
theorem d_Mdl_readRaw_57 : decode b_Mdl_readRaw 57 = .ok (.aload_n 0, 1) := by decide +kernel
theorem d_Mdl_readRaw_58 : decode b_Mdl_readRaw 58 = .ok (.dup, 1) := by decide +kernel
theorem d_Mdl_readRaw_59 : decode b_Mdl_readRaw 59 = .ok (.getfield 120, 3) := by decide +kernel
theorem d_Mdl_readRaw_62 : decode b_Mdl_readRaw 62 = .ok (.iconst 1, 1) := by decide +kernel
theorem d_Mdl_readRaw_63 : decode b_Mdl_readRaw 63 = .ok (.isub, 1) := by decide +kernel
theorem d_Mdl_readRaw_64 : decode b_Mdl_readRaw 64 = .ok (.putfield 120, 3) := by decide +kernel
theorem d_Mdl_readRaw_67 : decode b_Mdl_readRaw 67 = .ok (.aload_n 0, 1) := by decide +kernel
theorem d_Mdl_readRaw_68 : decode b_Mdl_readRaw 68 = .ok (.getfield 123, 3) := by decide +kernel
theorem d_Mdl_readRaw_71 : decode b_Mdl_readRaw 71 = .ok (.aload_n 0, 1) := by decide +kernel
theorem d_Mdl_readRaw_72 : decode b_Mdl_readRaw 72 = .ok (.getfield 120, 3) := by decide +kernel
theorem d_Mdl_readRaw_75 : decode b_Mdl_readRaw 75 = .ok (.ishr, 1) := by decide +kernel
theorem d_Mdl_readRaw_76 : decode b_Mdl_readRaw 76 = .ok (.iconst 1, 1) := by decide +kernel
theorem d_Mdl_readRaw_77 : decode b_Mdl_readRaw 77 = .ok (.iand, 1) := by decide +kernel
theorem d_Mdl_readRaw_78 : decode b_Mdl_readRaw 78 = .ok (.ireturn, 1) := by decide +kernel
theorem d_Mdl_bits_0 : decode b_Mdl_bits 0 = .ok (.aload_n 0, 1) := by decide +kernel
theorem d_Mdl_bits_1 : decode b_Mdl_bits 1 = .ok (.getfield 114, 3) := by decide +kernel
theorem d_Mdl_bits_4 : decode b_Mdl_bits 4 = .ok (.ifCond .eq 16, 3) := by decide +kernel
theorem d_Mdl_bits_7 : decode b_Mdl_bits 7 = .ok (.iload_n 1, 1) := by decide +kernel
theorem d_Mdl_bits_8 : decode b_Mdl_bits 8 = .ok (.iconst (-1), 1) := by decide +kernel
theorem d_Mdl_bits_9 : decode b_Mdl_bits 9 = .ok (.if_icmp .eq 7, 3) := by decide +kernel
theorem d_Mdl_bits_12 : decode b_Mdl_bits 12 = .ok (.iconst 1, 1) := by decide +kernel
theorem d_Mdl_bits_13 : decode b_Mdl_bits 13 = .ok (.goto 14, 3) := by decide +kernel
theorem d_Mdl_bits_16 : decode b_Mdl_bits 16 = .ok (.iconst 0, 1) := by decide +kernel
theorem d_Mdl_bits_17 : decode b_Mdl_bits 17 = .ok (.goto 10, 3) := by decide +kernel
theorem d_Mdl_bits_20 : decode b_Mdl_bits 20 = .ok (.iload_n 1, 1) := by decide +kernel
theorem d_Mdl_bits_21 : decode b_Mdl_bits 21 = .ok (.iconst 0, 1) := by decide +kernel
theorem d_Mdl_bits_22 : decode b_Mdl_bits 22 = .ok (.bipush 18, 2) := by decide +kernel
theorem d_Mdl_bits_24 : decode b_Mdl_bits 24 = .ok (.invokestatic 40, 3) := by decide +kernel
theorem d_Mdl_bits_27 : decode b_Mdl_bits 27 = .ok (.istore_n 3, 1) := by decide +kernel
theorem d_Mdl_bits_28 : decode b_Mdl_bits 28 = .ok (.aload_n 0, 1) := by decide +kernel
theorem d_Mdl_bits_29 : decode b_Mdl_bits 29 = .ok (.aload_n 0, 1) := by decide +kernel
theorem d_Mdl_bits_30 : decode b_Mdl_bits 30 = .ok (.getfield 37, 3) := by decide +kernel
theorem d_Mdl_bits_33 : decode b_Mdl_bits 33 = .ok (.ifCond .ne 7, 3) := by decide +kernel
theorem d_Mdl_bits_36 : decode b_Mdl_bits 36 = .ok (.iconst 1, 1) := by decide +kernel
theorem d_Mdl_bits_37 : decode b_Mdl_bits 37 = .ok (.goto 4, 3) := by decide +kernel
theorem d_Mdl_bits_40 : decode b_Mdl_bits 40 = .ok (.iconst 0, 1) := by decide +kernel
theorem d_Mdl_bits_41 : decode b_Mdl_bits 41 = .ok (.iload_n 3, 1) := by decide +kernel
theorem d_Mdl_bits_42 : decode b_Mdl_bits 42 = .ok (.ifCond .ne 13, 3) := by decide +kernel
theorem d_Mdl_bits_45 : decode b_Mdl_bits 45 = .ok (.iload_n 2, 1) := by decide +kernel
theorem d_Mdl_bits_46 : decode b_Mdl_bits 46 = .ok (.iconst 1, 1) := by decide +kernel
theorem d_Mdl_bits_47 : decode b_Mdl_bits 47 = .ok (.bipush 64, 2) := by decide +kernel
theorem d_Mdl_bits_49 : decode b_Mdl_bits 49 = .ok (.invokestatic 40, 3) := by decide +kernel
theorem d_Mdl_bits_52 : decode b_Mdl_bits 52 = .ok (.ifCond .eq 7, 3) := by decide +kernel
theorem d_Mdl_bits_55 : decode b_Mdl_bits 55 = .ok (.iconst 1, 1) := by decide +kernel
theorem d_Mdl_bits_56 : decode b_Mdl_bits 56 = .ok (.goto 4, 3) := by decide +kernel
theorem d_Mdl_bits_59 : decode b_Mdl_bits 59 = .ok (.iconst 0, 1) := by decide +kernel
theorem d_Mdl_bits_60 : decode b_Mdl_bits 60 = .ok (.iconst 0, 1) := by decide +kernel
theorem d_Mdl_bits_61 : decode b_Mdl_bits 61 = .ok (.invokevirtual 44, 3) := by decide +kernel
theorem d_Mdl_bits_64 : decode b_Mdl_bits 64 = .ok (.ifCond .eq 5, 3) := by decide +kernel
theorem d_Mdl_bits_67 : decode b_Mdl_bits 67 = .ok (.lconst 0, 1) := by decide +kernel
theorem d_Mdl_bits_68 : decode b_Mdl_bits 68 = .ok (.lreturn, 1) := by decide +kernel
theorem d_Mdl_bits_69 : decode b_Mdl_bits 69 = .ok (.lconst 0, 1) := by decide +kernel
theorem d_Mdl_bits_70 : decode b_Mdl_bits 70 = .ok (.lstore 4, 2) := by decide +kernel
theorem d_Mdl_bits_72 : decode b_Mdl_bits 72 = .ok (.iconst 0, 1) := by decide +kernel
theorem d_Mdl_bits_73 : decode b_Mdl_bits 73 = .ok (.istore 6, 2) := by decide +kernel
theorem d_Mdl_bits_75 : decode b_Mdl_bits 75 = .ok (.iload 6, 2) := by decide +kernel
theorem d_Mdl_bits_77 : decode b_Mdl_bits 77 = .ok (.iload_n 2, 1) := by decide +kernel
theorem d_Mdl_bits_78 : decode b_Mdl_bits 78 = .ok (.if_icmp .ge 39, 3) := by decide +kernel
theorem d_Mdl_bits_81 : decode b_Mdl_bits 81 = .ok (.lload 4, 2) := by decide +kernel
theorem d_Mdl_bits_83 : decode b_Mdl_bits 83 = .ok (.iconst 1, 1) := by decide +kernel
theorem d_Mdl_bits_84 : decode b_Mdl_bits 84 = .ok (.lshl, 1) := by decide +kernel
theorem d_Mdl_bits_85 : decode b_Mdl_bits 85 = .ok (.aload_n 0, 1) := by decide +kernel
theorem d_Mdl_bits_86 : decode b_Mdl_bits 86 = .ok (.getfield 114, 3) := by decide +kernel
theorem d_Mdl_bits_89 : decode b_Mdl_bits 89 = .ok (.ifCond .eq 10, 3) := by decide +kernel
theorem d_Mdl_bits_92 : decode b_Mdl_bits 92 = .ok (.aload_n 0, 1) := by decide +kernel
theorem d_Mdl_bits_93 : decode b_Mdl_bits 93 = .ok (.invokevirtual 149, 3) := by decide +kernel
theorem d_Mdl_bits_96 : decode b_Mdl_bits 96 = .ok (.goto 11, 3) := by decide +kernel
theorem d_Mdl_bits_99 : decode b_Mdl_bits 99 = .ok (.aload_n 0, 1) := by decide +kernel
theorem d_Mdl_bits_100 : decode b_Mdl_bits 100 = .ok (.bipush 19, 2) := by decide +kernel
theorem d_Mdl_bits_102 : decode b_Mdl_bits 102 = .ok (.iload_n 1, 1) := by decide +kernel
theorem d_Mdl_bits_103 : decode b_Mdl_bits 103 = .ok (.iadd, 1) := by decide +kernel
theorem d_Mdl_bits_104 : decode b_Mdl_bits 104 = .ok (.invokevirtual 152, 3) := by decide +kernel
theorem d_Mdl_bits_107 : decode b_Mdl_bits 107 = .ok (.i2l, 1) := by decide +kernel
theorem d_Mdl_bits_108 : decode b_Mdl_bits 108 = .ok (.lor, 1) := by decide +kernel
theorem d_Mdl_bits_109 : decode b_Mdl_bits 109 = .ok (.lstore 4, 2) := by decide +kernel
theorem d_Mdl_bits_111 : decode b_Mdl_bits 111 = .ok (.iinc 6 1, 3) := by decide +kernel
theorem d_Mdl_bits_114 : decode b_Mdl_bits 114 = .ok (.goto (-39), 3) := by decide +kernel
theorem d_Mdl_bits_117 : decode b_Mdl_bits 117 = .ok (.lload 4, 2) := by decide +kernel
theorem d_Mdl_bits_119 : decode b_Mdl_bits 119 = .ok (.lreturn, 1) := by decide +kernel
theorem d_Mdl_register_0 : decode b_Mdl_register 0 = .ok (.aload_n 0, 1) := by decide +kernel
theorem d_Mdl_register_1 : decode b_Mdl_register 1 = .ok (.iconst 0, 1) := by decide +kernel
theorem d_Mdl_register_2 : decode b_Mdl_register 2 = .ok (.putfield 26, 3) := by decide +kernel
theorem d_Mdl_register_5 : decode b_Mdl_register 5 = .ok (.aload_n 0, 1) := by decide +kernel
theorem d_Mdl_register_6 : decode b_Mdl_register 6 = .ok (.getfield 33, 3) := by decide +kernel
theorem d_Mdl_register_9 : decode b_Mdl_register 9 = .ok (.ifCond .eq 56, 3) := by decide +kernel
theorem d_Mdl_register_12 : decode b_Mdl_register 12 = .ok (.iload_n 1, 1) := by decide +kernel
theorem d_Mdl_register_13 : decode b_Mdl_register 13 = .ok (.ifCond .lt 52, 3) := by decide +kernel
theorem d_Mdl_register_16 : decode b_Mdl_register 16 = .ok (.iload_n 1, 1) := by decide +kernel
theorem d_Mdl_register_17 : decode b_Mdl_register 17 = .ok (.iconst 2, 1) := by decide +kernel
theorem d_Mdl_register_18 : decode b_Mdl_register 18 = .ok (.if_icmp .gt 47, 3) := by decide +kernel
theorem d_Mdl_register_21 : decode b_Mdl_register 21 = .ok (.iload_n 1, 1) := by decide +kernel
theorem d_Mdl_register_22 : decode b_Mdl_register 22 = .ok (.iconst 2, 1) := by decide +kernel
theorem d_Mdl_register_23 : decode b_Mdl_register 23 = .ok (.if_icmp .ne 10, 3) := by decide +kernel
theorem d_Mdl_register_26 : decode b_Mdl_register 26 = .ok (.aload_n 0, 1) := by decide +kernel
theorem d_Mdl_register_27 : decode b_Mdl_register 27 = .ok (.getfield 63, 3) := by decide +kernel
theorem d_Mdl_register_30 : decode b_Mdl_register 30 = .ok (.goto 34, 3) := by decide +kernel
theorem d_Mdl_register_33 : decode b_Mdl_register 33 = .ok (.aload_n 0, 1) := by decide +kernel
theorem d_Mdl_register_34 : decode b_Mdl_register 34 = .ok (.getfield 93, 3) := by decide +kernel
theorem d_Mdl_register_37 : decode b_Mdl_register 37 = .ok (.ifCond .eq 7, 3) := by decide +kernel
theorem d_Mdl_register_40 : decode b_Mdl_register 40 = .ok (.iconst (-1), 1) := by decide +kernel
theorem d_Mdl_register_41 : decode b_Mdl_register 41 = .ok (.goto 23, 3) := by decide +kernel
theorem d_Mdl_register_44 : decode b_Mdl_register 44 = .ok (.iload_n 1, 1) := by decide +kernel
theorem d_Mdl_register_45 : decode b_Mdl_register 45 = .ok (.ifCond .ne 15, 3) := by decide +kernel
theorem d_Mdl_register_48 : decode b_Mdl_register 48 = .ok (.aload_n 0, 1) := by decide +kernel
theorem d_Mdl_register_49 : decode b_Mdl_register 49 = .ok (.getfield 73, 3) := by decide +kernel
theorem d_Mdl_register_52 : decode b_Mdl_register 52 = .ok (.aload_n 0, 1) := by decide +kernel
theorem d_Mdl_register_53 : decode b_Mdl_register 53 = .ok (.invokevirtual 69, 3) := by decide +kernel
theorem d_Mdl_register_56 : decode b_Mdl_register 56 = .ok (.iadd, 1) := by decide +kernel
theorem d_Mdl_register_57 : decode b_Mdl_register 57 = .ok (.goto 7, 3) := by decide +kernel
theorem d_Mdl_register_60 : decode b_Mdl_register 60 = .ok (.aload_n 0, 1) := by decide +kernel
theorem d_Mdl_register_61 : decode b_Mdl_register 61 = .ok (.getfield 79, 3) := by decide +kernel
theorem d_Mdl_register_64 : decode b_Mdl_register 64 = .ok (.ireturn, 1) := by decide +kernel
theorem d_Mdl_register_65 : decode b_Mdl_register 65 = .ok (.aload_n 0, 1) := by decide +kernel
theorem d_Mdl_register_66 : decode b_Mdl_register 66 = .ok (.getfield 37, 3) := by decide +kernel
theorem d_Mdl_register_69 : decode b_Mdl_register 69 = .ok (.ifCond .eq 31, 3) := by decide +kernel
theorem d_Mdl_register_72 : decode b_Mdl_register 72 = .ok (.iload_n 1, 1) := by decide +kernel
theorem d_Mdl_register_73 : decode b_Mdl_register 73 = .ok (.iconst 3, 1) := by decide +kernel
theorem d_Mdl_register_74 : decode b_Mdl_register 74 = .ok (.if_icmp .ne 26, 3) := by decide +kernel
theorem d_Mdl_register_77 : decode b_Mdl_register 77 = .ok (.aload_n 0, 1) := by decide +kernel
theorem d_Mdl_register_78 : decode b_Mdl_register 78 = .ok (.getfield 117, 3) := by decide +kernel
theorem d_Mdl_register_81 : decode b_Mdl_register 81 = .ok (.aload_n 0, 1) := by decide +kernel
theorem d_Mdl_register_82 : decode b_Mdl_register 82 = .ok (.getfield 108, 3) := by decide +kernel
theorem d_Mdl_register_85 : decode b_Mdl_register 85 = .ok (.if_icmp .ge 10, 3) := by decide +kernel
theorem d_Mdl_register_88 : decode b_Mdl_register 88 = .ok (.aload_n 0, 1) := by decide +kernel
theorem d_Mdl_register_89 : decode b_Mdl_register 89 = .ok (.getfield 117, 3) := by decide +kernel
theorem d_Mdl_register_92 : decode b_Mdl_register 92 = .ok (.goto 7, 3) := by decide +kernel
theorem d_Mdl_register_95 : decode b_Mdl_register 95 = .ok (.aload_n 0, 1) := by decide +kernel
theorem d_Mdl_register_96 : decode b_Mdl_register 96 = .ok (.getfield 108, 3) := by decide +kernel
theorem d_Mdl_register_99 : decode b_Mdl_register 99 = .ok (.ireturn, 1) := by decide +kernel
theorem d_Mdl_register_100 : decode b_Mdl_register 100 = .ok (.aload_n 0, 1) := by decide +kernel
theorem d_Mdl_register_101 : decode b_Mdl_register 101 = .ok (.getfield 37, 3) := by decide +kernel
theorem d_Mdl_register_104 : decode b_Mdl_register 104 = .ok (.ifCond .eq 26, 3) := by decide +kernel
theorem d_Mdl_register_107 : decode b_Mdl_register 107 = .ok (.iload_n 1, 1) := by decide +kernel
theorem d_Mdl_register_108 : decode b_Mdl_register 108 = .ok (.iconst 4, 1) := by decide +kernel
theorem d_Mdl_register_109 : decode b_Mdl_register 109 = .ok (.if_icmp .ne 21, 3) := by decide +kernel
theorem d_Mdl_register_112 : decode b_Mdl_register 112 = .ok (.aload_n 0, 1) := by decide +kernel
theorem d_Mdl_register_113 : decode b_Mdl_register 113 = .ok (.getfield 114, 3) := by decide +kernel
theorem d_Mdl_register_116 : decode b_Mdl_register 116 = .ok (.ifCond .eq 7, 3) := by decide +kernel
theorem d_Mdl_register_119 : decode b_Mdl_register 119 = .ok (.iconst (-1), 1) := by decide +kernel
theorem d_Mdl_register_120 : decode b_Mdl_register 120 = .ok (.goto 11, 3) := by decide +kernel
theorem d_Mdl_register_123 : decode b_Mdl_register 123 = .ok (.aload_n 0, 1) := by decide +kernel
theorem d_Mdl_register_124 : decode b_Mdl_register 124 = .ok (.getfield 126, 3) := by decide +kernel
theorem d_Mdl_register_127 : decode b_Mdl_register 127 = .ok (.goto 4, 3) := by decide +kernel
theorem d_Mdl_register_130 : decode b_Mdl_register 130 = .ok (.iconst (-1), 1) := by decide +kernel
theorem d_Mdl_register_131 : decode b_Mdl_register 131 = .ok (.ireturn, 1) := by decide +kernel
theorem d_Law_put_0 : decode b_Law_put 0 = .ok (.aload_n 2, 1) := by decide +kernel
theorem d_Law_put_1 : decode b_Law_put 1 = .ok (.iconst 0, 1) := by decide +kernel
theorem d_Law_put_2 : decode b_Law_put 2 = .ok (.aload_n 0, 1) := by decide +kernel
theorem d_Law_put_3 : decode b_Law_put 3 = .ok (.iload_n 1, 1) := by decide +kernel
theorem d_Law_put_4 : decode b_Law_put 4 = .ok (.invokevirtual 7, 3) := by decide +kernel
theorem d_Law_put_7 : decode b_Law_put 7 = .ok (.i2l, 1) := by decide +kernel
theorem d_Law_put_8 : decode b_Law_put 8 = .ok (.lastore, 1) := by decide +kernel
theorem d_Law_put_9 : decode b_Law_put 9 = .ok (.goto 12, 3) := by decide +kernel
theorem d_Law_put_12 : decode b_Law_put 12 = .ok (.astore_n 3, 1) := by decide +kernel
theorem d_Law_put_13 : decode b_Law_put 13 = .ok (.iconst 1, 1) := by decide +kernel
theorem d_Law_put_14 : decode b_Law_put 14 = .ok (.ireturn, 1) := by decide +kernel
theorem d_Law_put_15 : decode b_Law_put 15 = .ok (.astore_n 3, 1) := by decide +kernel
theorem d_Law_put_16 : decode b_Law_put 16 = .ok (.iconst 2, 1) := by decide +kernel
theorem d_Law_put_17 : decode b_Law_put 17 = .ok (.ireturn, 1) := by decide +kernel
theorem d_Law_put_18 : decode b_Law_put 18 = .ok (.astore_n 3, 1) := by decide +kernel
theorem d_Law_put_19 : decode b_Law_put 19 = .ok (.iconst 3, 1) := by decide +kernel
theorem d_Law_put_20 : decode b_Law_put 20 = .ok (.ireturn, 1) := by decide +kernel
theorem d_Law_put_21 : decode b_Law_put 21 = .ok (.iconst 0, 1) := by decide +kernel
theorem d_Law_put_22 : decode b_Law_put 22 = .ok (.ireturn, 1) := by decide +kernel
theorem d_Law_at_0 : decode b_Law_at 0 = .ok (.aload_n 2, 1) := by decide +kernel
theorem d_Law_at_1 : decode b_Law_at 1 = .ok (.iconst 0, 1) := by decide +kernel
theorem d_Law_at_2 : decode b_Law_at 2 = .ok (.aload_n 0, 1) := by decide +kernel
theorem d_Law_at_3 : decode b_Law_at 3 = .ok (.iload_n 1, 1) := by decide +kernel
theorem d_Law_at_4 : decode b_Law_at 4 = .ok (.invokevirtual 19, 3) := by decide +kernel
theorem d_Law_at_7 : decode b_Law_at 7 = .ok (.i2l, 1) := by decide +kernel
theorem d_Law_at_8 : decode b_Law_at 8 = .ok (.lastore, 1) := by decide +kernel
theorem d_Law_at_9 : decode b_Law_at 9 = .ok (.goto 6, 3) := by decide +kernel
theorem d_Law_at_12 : decode b_Law_at 12 = .ok (.astore_n 3, 1) := by decide +kernel
theorem d_Law_at_13 : decode b_Law_at 13 = .ok (.iconst 1, 1) := by decide +kernel
theorem d_Law_at_14 : decode b_Law_at 14 = .ok (.ireturn, 1) := by decide +kernel
theorem d_Law_at_15 : decode b_Law_at 15 = .ok (.iconst 0, 1) := by decide +kernel
theorem d_Law_at_16 : decode b_Law_at 16 = .ok (.ireturn, 1) := by decide +kernel
theorem d_Law_context_0 : decode b_Law_context 0 = .ok (.aload_n 0, 1) := by decide +kernel
theorem d_Law_context_1 : decode b_Law_context 1 = .ok (.iload_n 1, 1) := by decide +kernel
theorem d_Law_context_2 : decode b_Law_context 2 = .ok (.iload_n 2, 1) := by decide +kernel
theorem d_Law_context_3 : decode b_Law_context 3 = .ok (.iload_n 3, 1) := by decide +kernel
theorem d_Law_context_4 : decode b_Law_context 4 = .ok (.iload 4, 2) := by decide +kernel
theorem d_Law_context_6 : decode b_Law_context 6 = .ok (.invokevirtual 24, 3) := by decide +kernel
theorem d_Law_context_9 : decode b_Law_context 9 = .ok (.goto 7, 3) := by decide +kernel
theorem d_Law_context_12 : decode b_Law_context 12 = .ok (.astore 5, 2) := by decide +kernel
theorem d_Law_context_14 : decode b_Law_context 14 = .ok (.iconst 1, 1) := by decide +kernel
theorem d_Law_context_15 : decode b_Law_context 15 = .ok (.ireturn, 1) := by decide +kernel
theorem d_Law_context_16 : decode b_Law_context 16 = .ok (.iconst 0, 1) := by decide +kernel
theorem d_Law_context_17 : decode b_Law_context 17 = .ok (.ireturn, 1) := by decide +kernel
theorem d_Law_state_0 : decode b_Law_state 0 = .ok (.aload_n 3, 1) := by decide +kernel
theorem d_Law_state_1 : decode b_Law_state 1 = .ok (.iconst 0, 1) := by decide +kernel
theorem d_Law_state_2 : decode b_Law_state 2 = .ok (.aload_n 0, 1) := by decide +kernel
theorem d_Law_state_3 : decode b_Law_state 3 = .ok (.iload_n 1, 1) := by decide +kernel
theorem d_Law_state_4 : decode b_Law_state 4 = .ok (.iload_n 2, 1) := by decide +kernel
theorem d_Law_state_5 : decode b_Law_state 5 = .ok (.invokevirtual 28, 3) := by decide +kernel
theorem d_Law_state_8 : decode b_Law_state 8 = .ok (.i2l, 1) := by decide +kernel
theorem d_Law_state_9 : decode b_Law_state 9 = .ok (.lastore, 1) := by decide +kernel
theorem d_Law_state_10 : decode b_Law_state 10 = .ok (.goto 7, 3) := by decide +kernel
theorem d_Law_state_13 : decode b_Law_state 13 = .ok (.astore 4, 2) := by decide +kernel
theorem d_Law_state_15 : decode b_Law_state 15 = .ok (.iconst 1, 1) := by decide +kernel
theorem d_Law_state_16 : decode b_Law_state 16 = .ok (.ireturn, 1) := by decide +kernel
theorem d_Law_state_17 : decode b_Law_state 17 = .ok (.iconst 0, 1) := by decide +kernel
theorem d_Law_state_18 : decode b_Law_state 18 = .ok (.ireturn, 1) := by decide +kernel
theorem d_Law_open_0 : decode b_Law_open 0 = .ok (.aload_n 0, 1) := by decide +kernel
theorem d_Law_open_1 : decode b_Law_open 1 = .ok (.iload_n 1, 1) := by decide +kernel
theorem d_Law_open_2 : decode b_Law_open 2 = .ok (.invokevirtual 32, 3) := by decide +kernel
theorem d_Law_open_5 : decode b_Law_open 5 = .ok (.goto 6, 3) := by decide +kernel
theorem d_Law_open_8 : decode b_Law_open 8 = .ok (.astore_n 2, 1) := by decide +kernel
theorem d_Law_open_9 : decode b_Law_open 9 = .ok (.iconst 1, 1) := by decide +kernel
theorem d_Law_open_10 : decode b_Law_open 10 = .ok (.ireturn, 1) := by decide +kernel
theorem d_Law_open_11 : decode b_Law_open 11 = .ok (.iconst 0, 1) := by decide +kernel
theorem d_Law_open_12 : decode b_Law_open 12 = .ok (.ireturn, 1) := by decide +kernel
theorem d_Law_write_0 : decode b_Law_write 0 = .ok (.aload 5, 2) := by decide +kernel
theorem d_Law_write_2 : decode b_Law_write 2 = .ok (.iconst 0, 1) := by decide +kernel
theorem d_Law_write_3 : decode b_Law_write 3 = .ok (.aload_n 0, 1) := by decide +kernel
theorem d_Law_write_4 : decode b_Law_write 4 = .ok (.iload_n 1, 1) := by decide +kernel
theorem d_Law_write_5 : decode b_Law_write 5 = .ok (.lload_n 2, 1) := by decide +kernel
theorem d_Law_write_6 : decode b_Law_write 6 = .ok (.iload 4, 2) := by decide +kernel
theorem d_Law_write_8 : decode b_Law_write 8 = .ok (.invokevirtual 36, 3) := by decide +kernel
theorem d_Law_write_11 : decode b_Law_write 11 = .ok (.i2l, 1) := by decide +kernel
theorem d_Law_write_12 : decode b_Law_write 12 = .ok (.lastore, 1) := by decide +kernel
theorem d_Law_write_13 : decode b_Law_write 13 = .ok (.goto 15, 3) := by decide +kernel
theorem d_Law_write_16 : decode b_Law_write 16 = .ok (.astore 6, 2) := by decide +kernel
theorem d_Law_write_18 : decode b_Law_write 18 = .ok (.iconst 1, 1) := by decide +kernel
theorem d_Law_write_19 : decode b_Law_write 19 = .ok (.ireturn, 1) := by decide +kernel
theorem d_Law_write_20 : decode b_Law_write 20 = .ok (.astore 6, 2) := by decide +kernel
theorem d_Law_write_22 : decode b_Law_write 22 = .ok (.iconst 2, 1) := by decide +kernel
theorem d_Law_write_23 : decode b_Law_write 23 = .ok (.ireturn, 1) := by decide +kernel
theorem d_Law_write_24 : decode b_Law_write 24 = .ok (.astore 6, 2) := by decide +kernel
theorem d_Law_write_26 : decode b_Law_write 26 = .ok (.iconst 3, 1) := by decide +kernel
theorem d_Law_write_27 : decode b_Law_write 27 = .ok (.ireturn, 1) := by decide +kernel
theorem d_Law_write_28 : decode b_Law_write 28 = .ok (.iconst 0, 1) := by decide +kernel
theorem d_Law_write_29 : decode b_Law_write 29 = .ok (.ireturn, 1) := by decide +kernel
theorem d_Law_enough_0 : decode b_Law_enough 0 = .ok (.aload_n 1, 1) := by decide +kernel
theorem d_Law_enough_1 : decode b_Law_enough 1 = .ok (.iconst 0, 1) := by decide +kernel
theorem d_Law_enough_2 : decode b_Law_enough 2 = .ok (.aload_n 0, 1) := by decide +kernel
theorem d_Law_enough_3 : decode b_Law_enough 3 = .ok (.invokevirtual 40, 3) := by decide +kernel
theorem d_Law_enough_6 : decode b_Law_enough 6 = .ok (.i2l, 1) := by decide +kernel
theorem d_Law_enough_7 : decode b_Law_enough 7 = .ok (.lastore, 1) := by decide +kernel
theorem d_Law_enough_8 : decode b_Law_enough 8 = .ok (.goto 6, 3) := by decide +kernel
theorem d_Law_enough_11 : decode b_Law_enough 11 = .ok (.astore_n 2, 1) := by decide +kernel
theorem d_Law_enough_12 : decode b_Law_enough 12 = .ok (.iconst 1, 1) := by decide +kernel
theorem d_Law_enough_13 : decode b_Law_enough 13 = .ok (.ireturn, 1) := by decide +kernel
theorem d_Law_enough_14 : decode b_Law_enough 14 = .ok (.iconst 0, 1) := by decide +kernel
theorem d_Law_enough_15 : decode b_Law_enough 15 = .ok (.ireturn, 1) := by decide +kernel
theorem d_Law_close_0 : decode b_Law_close 0 = .ok (.aload_n 2, 1) := by decide +kernel
theorem d_Law_close_1 : decode b_Law_close 1 = .ok (.iconst 0, 1) := by decide +kernel
theorem d_Law_close_2 : decode b_Law_close 2 = .ok (.aload_n 0, 1) := by decide +kernel
theorem d_Law_close_3 : decode b_Law_close 3 = .ok (.iload_n 1, 1) := by decide +kernel
theorem d_Law_close_4 : decode b_Law_close 4 = .ok (.invokevirtual 44, 3) := by decide +kernel
theorem d_Law_close_7 : decode b_Law_close 7 = .ok (.i2l, 1) := by decide +kernel
theorem d_Law_close_8 : decode b_Law_close 8 = .ok (.lastore, 1) := by decide +kernel
theorem d_Law_close_9 : decode b_Law_close 9 = .ok (.goto 9, 3) := by decide +kernel
theorem d_Law_close_12 : decode b_Law_close 12 = .ok (.astore_n 3, 1) := by decide +kernel
theorem d_Law_close_13 : decode b_Law_close 13 = .ok (.iconst 1, 1) := by decide +kernel
theorem d_Law_close_14 : decode b_Law_close 14 = .ok (.ireturn, 1) := by decide +kernel
theorem d_Law_close_15 : decode b_Law_close 15 = .ok (.astore_n 3, 1) := by decide +kernel
theorem d_Law_close_16 : decode b_Law_close 16 = .ok (.iconst 2, 1) := by decide +kernel
theorem d_Law_close_17 : decode b_Law_close 17 = .ok (.ireturn, 1) := by decide +kernel
theorem d_Law_close_18 : decode b_Law_close 18 = .ok (.iconst 0, 1) := by decide +kernel
theorem d_Law_close_19 : decode b_Law_close 19 = .ok (.ireturn, 1) := by decide +kernel
theorem d_Law_read_0 : decode b_Law_read 0 = .ok (.aload_n 0, 1) := by decide +kernel
theorem d_Law_read_1 : decode b_Law_read 1 = .ok (.iload_n 1, 1) := by decide +kernel
theorem d_Law_read_2 : decode b_Law_read 2 = .ok (.iload_n 2, 1) := by decide +kernel
theorem d_Law_read_3 : decode b_Law_read 3 = .ok (.iload_n 3, 1) := by decide +kernel
theorem d_Law_read_4 : decode b_Law_read 4 = .ok (.invokevirtual 47, 3) := by decide +kernel
theorem d_Law_read_7 : decode b_Law_read 7 = .ok (.goto 11, 3) := by decide +kernel
theorem d_Law_read_10 : decode b_Law_read 10 = .ok (.astore 4, 2) := by decide +kernel
theorem d_Law_read_12 : decode b_Law_read 12 = .ok (.iconst 1, 1) := by decide +kernel
theorem d_Law_read_13 : decode b_Law_read 13 = .ok (.ireturn, 1) := by decide +kernel
theorem d_Law_read_14 : decode b_Law_read 14 = .ok (.astore 4, 2) := by decide +kernel
theorem d_Law_read_16 : decode b_Law_read 16 = .ok (.iconst 2, 1) := by decide +kernel
theorem d_Law_read_17 : decode b_Law_read 17 = .ok (.ireturn, 1) := by decide +kernel
theorem d_Law_read_18 : decode b_Law_read 18 = .ok (.iconst 0, 1) := by decide +kernel
theorem d_Law_read_19 : decode b_Law_read 19 = .ok (.ireturn, 1) := by decide +kernel
theorem d_Law_bits_0 : decode b_Law_bits 0 = .ok (.aload_n 3, 1) := by decide +kernel
theorem d_Law_bits_1 : decode b_Law_bits 1 = .ok (.iconst 0, 1) := by decide +kernel
theorem d_Law_bits_2 : decode b_Law_bits 2 = .ok (.aload_n 0, 1) := by decide +kernel
theorem d_Law_bits_3 : decode b_Law_bits 3 = .ok (.iload_n 1, 1) := by decide +kernel
theorem d_Law_bits_4 : decode b_Law_bits 4 = .ok (.iload_n 2, 1) := by decide +kernel
theorem d_Law_bits_5 : decode b_Law_bits 5 = .ok (.invokevirtual 51, 3) := by decide +kernel
theorem d_Law_bits_8 : decode b_Law_bits 8 = .ok (.lastore, 1) := by decide +kernel
theorem d_Law_bits_9 : decode b_Law_bits 9 = .ok (.goto 11, 3) := by decide +kernel
theorem d_Law_bits_12 : decode b_Law_bits 12 = .ok (.astore 4, 2) := by decide +kernel
theorem d_Law_bits_14 : decode b_Law_bits 14 = .ok (.iconst 1, 1) := by decide +kernel
theorem d_Law_bits_15 : decode b_Law_bits 15 = .ok (.ireturn, 1) := by decide +kernel
theorem d_Law_bits_16 : decode b_Law_bits 16 = .ok (.astore 4, 2) := by decide +kernel
theorem d_Law_bits_18 : decode b_Law_bits 18 = .ok (.iconst 2, 1) := by decide +kernel
theorem d_Law_bits_19 : decode b_Law_bits 19 = .ok (.ireturn, 1) := by decide +kernel
theorem d_Law_bits_20 : decode b_Law_bits 20 = .ok (.iconst 0, 1) := by decide +kernel
theorem d_Law_bits_21 : decode b_Law_bits 21 = .ok (.ireturn, 1) := by decide +kernel
theorem d_Law_law_0 : decode b_Law_law 0 = .ok (.new 8, 3) := by decide +kernel
theorem d_Law_law_3 : decode b_Law_law 3 = .ok (.dup, 1) := by decide +kernel
theorem d_Law_law_4 : decode b_Law_law 4 = .ok (.invokespecial 55, 3) := by decide +kernel
theorem d_Law_law_7 : decode b_Law_law 7 = .ok (.astore_n 1, 1) := by decide +kernel
theorem d_Law_law_8 : decode b_Law_law 8 = .ok (.new 56, 3) := by decide +kernel
theorem d_Law_law_11 : decode b_Law_law 11 = .ok (.dup, 1) := by decide +kernel
theorem d_Law_law_12 : decode b_Law_law 12 = .ok (.invokespecial 58, 3) := by decide +kernel
theorem d_Law_law_15 : decode b_Law_law 15 = .ok (.astore_n 2, 1) := by decide +kernel
theorem d_Law_law_16 : decode b_Law_law 16 = .ok (.iconst 1, 1) := by decide +kernel
theorem d_Law_law_17 : decode b_Law_law 17 = .ok (.newarray .long, 2) := by decide +kernel
theorem d_Law_law_19 : decode b_Law_law 19 = .ok (.astore_n 3, 1) := by decide +kernel
theorem d_Law_law_20 : decode b_Law_law 20 = .ok (.iconst 0, 1) := by decide +kernel
theorem d_Law_law_21 : decode b_Law_law 21 = .ok (.istore 4, 2) := by decide +kernel
theorem d_Law_law_23 : decode b_Law_law 23 = .ok (.iload 4, 2) := by decide +kernel
theorem d_Law_law_25 : decode b_Law_law 25 = .ok (.aload_n 0, 1) := by decide +kernel
theorem d_Law_law_26 : decode b_Law_law 26 = .ok (.arraylength, 1) := by decide +kernel
theorem d_Law_law_27 : decode b_Law_law 27 = .ok (.iconst 5, 1) := by decide +kernel
theorem d_Law_law_28 : decode b_Law_law 28 = .ok (.isub, 1) := by decide +kernel
theorem d_Law_law_29 : decode b_Law_law 29 = .ok (.if_icmp .gt 804, 3) := by decide +kernel
theorem d_Law_law_32 : decode b_Law_law 32 = .ok (.aload_n 0, 1) := by decide +kernel
theorem d_Law_law_33 : decode b_Law_law 33 = .ok (.iload 4, 2) := by decide +kernel
theorem d_Law_law_35 : decode b_Law_law 35 = .ok (.iaload, 1) := by decide +kernel
theorem d_Law_law_36 : decode b_Law_law 36 = .ok (.bipush 15, 2) := by decide +kernel
theorem d_Law_law_38 : decode b_Law_law 38 = .ok (.iand, 1) := by decide +kernel
theorem d_Law_law_39 : decode b_Law_law 39 = .ok (.tableswitch 788 0 11 #[61, 72, 128, 184, 272, 356, 408, 520, 564, 620, 696, 763], 61) := by decide +kernel
theorem d_Law_law_100 : decode b_Law_law 100 = .ok (.aload_n 1, 1) := by decide +kernel
theorem d_Law_law_101 : decode b_Law_law 101 = .ok (.invokevirtual 59, 3) := by decide +kernel
theorem d_Law_law_104 : decode b_Law_law 104 = .ok (.aload_n 2, 1) := by decide +kernel
theorem d_Law_law_105 : decode b_Law_law 105 = .ok (.invokevirtual 62, 3) := by decide +kernel
theorem d_Law_law_108 : decode b_Law_law 108 = .ok (.goto 719, 3) := by decide +kernel
theorem d_Law_law_111 : decode b_Law_law 111 = .ok (.aload_n 1, 1) := by decide +kernel
theorem d_Law_law_112 : decode b_Law_law 112 = .ok (.aload_n 0, 1) := by decide +kernel
theorem d_Law_law_113 : decode b_Law_law 113 = .ok (.iload 4, 2) := by decide +kernel
theorem d_Law_law_115 : decode b_Law_law 115 = .ok (.iconst 1, 1) := by decide +kernel
theorem d_Law_law_116 : decode b_Law_law 116 = .ok (.iadd, 1) := by decide +kernel
theorem d_Law_law_117 : decode b_Law_law 117 = .ok (.iaload, 1) := by decide +kernel
theorem d_Law_law_118 : decode b_Law_law 118 = .ok (.aload_n 3, 1) := by decide +kernel
theorem d_Law_law_119 : decode b_Law_law 119 = .ok (.invokestatic 63, 3) := by decide +kernel
theorem d_Law_law_122 : decode b_Law_law 122 = .ok (.istore 5, 2) := by decide +kernel
theorem d_Law_law_124 : decode b_Law_law 124 = .ok (.aload_n 2, 1) := by decide +kernel
theorem d_Law_law_125 : decode b_Law_law 125 = .ok (.aload_n 0, 1) := by decide +kernel
theorem d_Law_law_126 : decode b_Law_law 126 = .ok (.iload 4, 2) := by decide +kernel
theorem d_Law_law_128 : decode b_Law_law 128 = .ok (.iconst 1, 1) := by decide +kernel
theorem d_Law_law_129 : decode b_Law_law 129 = .ok (.iadd, 1) := by decide +kernel
theorem d_Law_law_130 : decode b_Law_law 130 = .ok (.iaload, 1) := by decide +kernel
theorem d_Law_law_131 : decode b_Law_law 131 = .ok (.invokevirtual 68, 3) := by decide +kernel
theorem d_Law_law_134 : decode b_Law_law 134 = .ok (.istore 6, 2) := by decide +kernel
theorem d_Law_law_136 : decode b_Law_law 136 = .ok (.aload_n 2, 1) := by decide +kernel
theorem d_Law_law_137 : decode b_Law_law 137 = .ok (.invokevirtual 69, 3) := by decide +kernel
theorem d_Law_law_140 : decode b_Law_law 140 = .ok (.iload 5, 2) := by decide +kernel
theorem d_Law_law_142 : decode b_Law_law 142 = .ok (.if_icmp .eq 5, 3) := by decide +kernel
theorem d_Law_law_145 : decode b_Law_law 145 = .ok (.iconst 0, 1) := by decide +kernel
theorem d_Law_law_146 : decode b_Law_law 146 = .ok (.ireturn, 1) := by decide +kernel
theorem d_Law_law_147 : decode b_Law_law 147 = .ok (.iload 5, 2) := by decide +kernel
theorem d_Law_law_149 : decode b_Law_law 149 = .ok (.ifCond .ne 15, 3) := by decide +kernel
theorem d_Law_law_152 : decode b_Law_law 152 = .ok (.aload_n 3, 1) := by decide +kernel
theorem d_Law_law_153 : decode b_Law_law 153 = .ok (.iconst 0, 1) := by decide +kernel
theorem d_Law_law_154 : decode b_Law_law 154 = .ok (.laload, 1) := by decide +kernel
theorem d_Law_law_155 : decode b_Law_law 155 = .ok (.iload 6, 2) := by decide +kernel
theorem d_Law_law_157 : decode b_Law_law 157 = .ok (.i2l, 1) := by decide +kernel
theorem d_Law_law_158 : decode b_Law_law 158 = .ok (.lcmp, 1) := by decide +kernel
theorem d_Law_law_159 : decode b_Law_law 159 = .ok (.ifCond .eq 5, 3) := by decide +kernel
theorem d_Law_law_162 : decode b_Law_law 162 = .ok (.iconst 0, 1) := by decide +kernel
theorem d_Law_law_163 : decode b_Law_law 163 = .ok (.ireturn, 1) := by decide +kernel
theorem d_Law_law_164 : decode b_Law_law 164 = .ok (.goto 663, 3) := by decide +kernel
theorem d_Law_law_167 : decode b_Law_law 167 = .ok (.aload_n 1, 1) := by decide +kernel
theorem d_Law_law_168 : decode b_Law_law 168 = .ok (.aload_n 0, 1) := by decide +kernel
theorem d_Law_law_169 : decode b_Law_law 169 = .ok (.iload 4, 2) := by decide +kernel
theorem d_Law_law_171 : decode b_Law_law 171 = .ok (.iconst 1, 1) := by decide +kernel
theorem d_Law_law_172 : decode b_Law_law 172 = .ok (.iadd, 1) := by decide +kernel
theorem d_Law_law_173 : decode b_Law_law 173 = .ok (.iaload, 1) := by decide +kernel
theorem d_Law_law_174 : decode b_Law_law 174 = .ok (.aload_n 3, 1) := by decide +kernel
theorem d_Law_law_175 : decode b_Law_law 175 = .ok (.invokestatic 72, 3) := by decide +kernel
theorem d_Law_law_178 : decode b_Law_law 178 = .ok (.istore 5, 2) := by decide +kernel
theorem d_Law_law_180 : decode b_Law_law 180 = .ok (.aload_n 2, 1) := by decide +kernel
theorem d_Law_law_181 : decode b_Law_law 181 = .ok (.aload_n 0, 1) := by decide +kernel
theorem d_Law_law_182 : decode b_Law_law 182 = .ok (.iload 4, 2) := by decide +kernel
theorem d_Law_law_184 : decode b_Law_law 184 = .ok (.iconst 1, 1) := by decide +kernel
theorem d_Law_law_185 : decode b_Law_law 185 = .ok (.iadd, 1) := by decide +kernel
theorem d_Law_law_186 : decode b_Law_law 186 = .ok (.iaload, 1) := by decide +kernel
theorem d_Law_law_187 : decode b_Law_law 187 = .ok (.invokevirtual 74, 3) := by decide +kernel
theorem d_Law_law_190 : decode b_Law_law 190 = .ok (.istore 6, 2) := by decide +kernel
theorem d_Law_law_192 : decode b_Law_law 192 = .ok (.aload_n 2, 1) := by decide +kernel
theorem d_Law_law_193 : decode b_Law_law 193 = .ok (.invokevirtual 69, 3) := by decide +kernel
theorem d_Law_law_196 : decode b_Law_law 196 = .ok (.iload 5, 2) := by decide +kernel
theorem d_Law_law_198 : decode b_Law_law 198 = .ok (.if_icmp .eq 5, 3) := by decide +kernel
theorem d_Law_law_201 : decode b_Law_law 201 = .ok (.iconst 0, 1) := by decide +kernel
theorem d_Law_law_202 : decode b_Law_law 202 = .ok (.ireturn, 1) := by decide +kernel

theorem d118_0 : decode (zbyt 118) 0 = .ok (.aload_n 0, 1) := by decide +kernel
theorem d118_1 : decode (zbyt 118) 1 = .ok (.invokespecial 1, 3) := by decide +kernel
theorem d118_4 : decode (zbyt 118) 4 = .ok (.aload_n 0, 1) := by decide +kernel
theorem d118_5 : decode (zbyt 118) 5 = .ok (.iconst 5, 1) := by decide +kernel
theorem d118_6 : decode (zbyt 118) 6 = .ok (.newarray .int, 2) := by decide +kernel
theorem d118_8 : decode (zbyt 118) 8 = .ok (.putfield 7, 3) := by decide +kernel
theorem d118_11 : decode (zbyt 118) 11 = .ok (.aload_n 0, 1) := by decide +kernel
theorem d118_12 : decode (zbyt 118) 12 = .ok (.iconst 5, 1) := by decide +kernel
theorem d118_13 : decode (zbyt 118) 13 = .ok (.newarray .int, 2) := by decide +kernel
theorem d118_15 : decode (zbyt 118) 15 = .ok (.putfield 13, 3) := by decide +kernel
theorem d118_18 : decode (zbyt 118) 18 = .ok (.aload_n 0, 1) := by decide +kernel
theorem d118_19 : decode (zbyt 118) 19 = .ok (.iconst 5, 1) := by decide +kernel
theorem d118_20 : decode (zbyt 118) 20 = .ok (.newarray .int, 2) := by decide +kernel
theorem d118_22 : decode (zbyt 118) 22 = .ok (.putfield 16, 3) := by decide +kernel
theorem d118_25 : decode (zbyt 118) 25 = .ok (.aload_n 0, 1) := by decide +kernel
theorem d118_26 : decode (zbyt 118) 26 = .ok (.iconst 5, 1) := by decide +kernel
theorem d118_27 : decode (zbyt 118) 27 = .ok (.newarray .int, 2) := by decide +kernel
theorem d118_29 : decode (zbyt 118) 29 = .ok (.putfield 19, 3) := by decide +kernel
theorem d118_32 : decode (zbyt 118) 32 = .ok (.aload_n 0, 1) := by decide +kernel
theorem d118_33 : decode (zbyt 118) 33 = .ok (.iconst 5, 1) := by decide +kernel
theorem d118_34 : decode (zbyt 118) 34 = .ok (.newarray .int, 2) := by decide +kernel
theorem d118_36 : decode (zbyt 118) 36 = .ok (.putfield 22, 3) := by decide +kernel
theorem d118_39 : decode (zbyt 118) 39 = .ok (.aload_n 0, 1) := by decide +kernel
theorem d118_40 : decode (zbyt 118) 40 = .ok (.iconst 5, 1) := by decide +kernel
theorem d118_41 : decode (zbyt 118) 41 = .ok (.newarray .int, 2) := by decide +kernel
theorem d118_43 : decode (zbyt 118) 43 = .ok (.putfield 25, 3) := by decide +kernel
theorem d118_46 : decode (zbyt 118) 46 = .ok (.aload_n 0, 1) := by decide +kernel
theorem d118_47 : decode (zbyt 118) 47 = .ok (.iconst 5, 1) := by decide +kernel
theorem d118_48 : decode (zbyt 118) 48 = .ok (.newarray .int, 2) := by decide +kernel
theorem d118_50 : decode (zbyt 118) 50 = .ok (.putfield 28, 3) := by decide +kernel
theorem d118_53 : decode (zbyt 118) 53 = .ok (.aload_n 0, 1) := by decide +kernel
theorem d118_54 : decode (zbyt 118) 54 = .ok (.iconst 5, 1) := by decide +kernel
theorem d118_55 : decode (zbyt 118) 55 = .ok (.newarray .int, 2) := by decide +kernel
theorem d118_57 : decode (zbyt 118) 57 = .ok (.putfield 31, 3) := by decide +kernel
theorem d118_60 : decode (zbyt 118) 60 = .ok (.aload_n 0, 1) := by decide +kernel
theorem d118_61 : decode (zbyt 118) 61 = .ok (.iconst 5, 1) := by decide +kernel
theorem d118_62 : decode (zbyt 118) 62 = .ok (.newarray .int, 2) := by decide +kernel
theorem d118_64 : decode (zbyt 118) 64 = .ok (.putfield 34, 3) := by decide +kernel
theorem d118_67 : decode (zbyt 118) 67 = .ok (.aload_n 0, 1) := by decide +kernel
theorem d118_68 : decode (zbyt 118) 68 = .ok (.iconst 5, 1) := by decide +kernel
theorem d118_69 : decode (zbyt 118) 69 = .ok (.newarray .int, 2) := by decide +kernel
theorem d118_71 : decode (zbyt 118) 71 = .ok (.putfield 37, 3) := by decide +kernel
theorem d118_74 : decode (zbyt 118) 74 = .ok (.aload_n 0, 1) := by decide +kernel
theorem d118_75 : decode (zbyt 118) 75 = .ok (.iconst 5, 1) := by decide +kernel
theorem d118_76 : decode (zbyt 118) 76 = .ok (.newarray .int, 2) := by decide +kernel
theorem d118_78 : decode (zbyt 118) 78 = .ok (.putfield 40, 3) := by decide +kernel
theorem d118_81 : decode (zbyt 118) 81 = .ok (.aload_n 0, 1) := by decide +kernel
theorem d118_82 : decode (zbyt 118) 82 = .ok (.iconst 5, 1) := by decide +kernel
theorem d118_83 : decode (zbyt 118) 83 = .ok (.newarray .int, 2) := by decide +kernel
theorem d118_85 : decode (zbyt 118) 85 = .ok (.putfield 43, 3) := by decide +kernel
theorem d118_88 : decode (zbyt 118) 88 = .ok (.aload_n 0, 1) := by decide +kernel
theorem d118_89 : decode (zbyt 118) 89 = .ok (.iconst 5, 1) := by decide +kernel
theorem d118_90 : decode (zbyt 118) 90 = .ok (.newarray .int, 2) := by decide +kernel
theorem d118_92 : decode (zbyt 118) 92 = .ok (.putfield 46, 3) := by decide +kernel
theorem d118_95 : decode (zbyt 118) 95 = .ok (.aload_n 0, 1) := by decide +kernel
theorem d118_96 : decode (zbyt 118) 96 = .ok (.iconst 5, 1) := by decide +kernel
theorem d118_97 : decode (zbyt 118) 97 = .ok (.newarray .int, 2) := by decide +kernel
theorem d118_99 : decode (zbyt 118) 99 = .ok (.putfield 49, 3) := by decide +kernel
theorem d118_102 : decode (zbyt 118) 102 = .ok (.aload_n 0, 1) := by decide +kernel
theorem d118_103 : decode (zbyt 118) 103 = .ok (.bipush 8, 2) := by decide +kernel
theorem d118_105 : decode (zbyt 118) 105 = .ok (.newarray .int, 2) := by decide +kernel
theorem d118_107 : decode (zbyt 118) 107 = .ok (.putfield 52, 3) := by decide +kernel
theorem d118_110 : decode (zbyt 118) 110 = .ok (.aload_n 0, 1) := by decide +kernel
theorem d118_111 : decode (zbyt 118) 111 = .ok (.bipush 8, 2) := by decide +kernel
theorem d118_113 : decode (zbyt 118) 113 = .ok (.newarray .int, 2) := by decide +kernel
theorem d118_115 : decode (zbyt 118) 115 = .ok (.putfield 55, 3) := by decide +kernel
theorem d118_118 : decode (zbyt 118) 118 = .ok (.aload_n 0, 1) := by decide +kernel
theorem d118_119 : decode (zbyt 118) 119 = .ok (.bipush 8, 2) := by decide +kernel
theorem d118_121 : decode (zbyt 118) 121 = .ok (.newarray .int, 2) := by decide +kernel
theorem d118_123 : decode (zbyt 118) 123 = .ok (.putfield 58, 3) := by decide +kernel
theorem d118_126 : decode (zbyt 118) 126 = .ok (.aload_n 0, 1) := by decide +kernel
theorem d118_127 : decode (zbyt 118) 127 = .ok (.iconst 4, 1) := by decide +kernel
theorem d118_128 : decode (zbyt 118) 128 = .ok (.newarray .int, 2) := by decide +kernel
theorem d118_130 : decode (zbyt 118) 130 = .ok (.putfield 61, 3) := by decide +kernel
theorem d118_133 : decode (zbyt 118) 133 = .ok (.aload_n 0, 1) := by decide +kernel
theorem d118_134 : decode (zbyt 118) 134 = .ok (.iconst 4, 1) := by decide +kernel
theorem d118_135 : decode (zbyt 118) 135 = .ok (.newarray .int, 2) := by decide +kernel
theorem d118_137 : decode (zbyt 118) 137 = .ok (.putfield 64, 3) := by decide +kernel
theorem d118_140 : decode (zbyt 118) 140 = .ok (.aload_n 0, 1) := by decide +kernel
theorem d118_141 : decode (zbyt 118) 141 = .ok (.sipush 240, 3) := by decide +kernel
theorem d118_144 : decode (zbyt 118) 144 = .ok (.newarray .int, 2) := by decide +kernel
theorem d118_146 : decode (zbyt 118) 146 = .ok (.putfield 67, 3) := by decide +kernel
theorem d118_149 : decode (zbyt 118) 149 = .ok (.aload_n 0, 1) := by decide +kernel
theorem d118_150 : decode (zbyt 118) 150 = .ok (.bipush 60, 2) := by decide +kernel
theorem d118_152 : decode (zbyt 118) 152 = .ok (.newarray .int, 2) := by decide +kernel
theorem d118_154 : decode (zbyt 118) 154 = .ok (.putfield 70, 3) := by decide +kernel
theorem d118_157 : decode (zbyt 118) 157 = .ok (.iconst 0, 1) := by decide +kernel
theorem d118_158 : decode (zbyt 118) 158 = .ok (.istore_n 1, 1) := by decide +kernel
theorem d118_159 : decode (zbyt 118) 159 = .ok (.iload_n 1, 1) := by decide +kernel
theorem d118_160 : decode (zbyt 118) 160 = .ok (.iconst 4, 1) := by decide +kernel
theorem d118_161 : decode (zbyt 118) 161 = .ok (.if_icmp .ge 16, 3) := by decide +kernel
theorem d118_164 : decode (zbyt 118) 164 = .ok (.aload_n 0, 1) := by decide +kernel
theorem d118_165 : decode (zbyt 118) 165 = .ok (.getfield 61, 3) := by decide +kernel
theorem d118_168 : decode (zbyt 118) 168 = .ok (.iload_n 1, 1) := by decide +kernel
theorem d118_169 : decode (zbyt 118) 169 = .ok (.iconst (-1), 1) := by decide +kernel
theorem d118_170 : decode (zbyt 118) 170 = .ok (.iastore, 1) := by decide +kernel
theorem d118_171 : decode (zbyt 118) 171 = .ok (.iinc 1 1, 3) := by decide +kernel
theorem d118_174 : decode (zbyt 118) 174 = .ok (.goto (-15), 3) := by decide +kernel
theorem d118_177 : decode (zbyt 118) 177 = .ok (.return_, 1) := by decide +kernel
theorem d119_0 : decode (zbyt 119) 0 = .ok (.lload_n 0, 1) := by decide +kernel
theorem d119_1 : decode (zbyt 119) 1 = .ok (.lload_n 2, 1) := by decide +kernel
theorem d119_2 : decode (zbyt 119) 2 = .ok (.lcmp, 1) := by decide +kernel
theorem d119_3 : decode (zbyt 119) 3 = .ok (.ifCond .lt 14, 3) := by decide +kernel
theorem d119_6 : decode (zbyt 119) 6 = .ok (.lload_n 0, 1) := by decide +kernel
theorem d119_7 : decode (zbyt 119) 7 = .ok (.lload 4, 2) := by decide +kernel
theorem d119_9 : decode (zbyt 119) 9 = .ok (.lcmp, 1) := by decide +kernel
theorem d119_10 : decode (zbyt 119) 10 = .ok (.ifCond .gt 7, 3) := by decide +kernel
theorem d119_13 : decode (zbyt 119) 13 = .ok (.iconst 1, 1) := by decide +kernel
theorem d119_14 : decode (zbyt 119) 14 = .ok (.goto 4, 3) := by decide +kernel
theorem d119_17 : decode (zbyt 119) 17 = .ok (.iconst 0, 1) := by decide +kernel
theorem d119_18 : decode (zbyt 119) 18 = .ok (.ireturn, 1) := by decide +kernel
theorem d120_0 : decode (zbyt 120) 0 = .ok (.ldc2_w 73, 3) := by decide +kernel
theorem d120_3 : decode (zbyt 120) 3 = .ok (.lreturn, 1) := by decide +kernel
theorem d121_0 : decode (zbyt 121) 0 = .ok (.iload_n 0, 1) := by decide +kernel
theorem d121_1 : decode (zbyt 121) 1 = .ok (.iload_n 1, 1) := by decide +kernel
theorem d121_2 : decode (zbyt 121) 2 = .ok (.ishr, 1) := by decide +kernel
theorem d121_3 : decode (zbyt 121) 3 = .ok (.iconst 1, 1) := by decide +kernel
theorem d121_4 : decode (zbyt 121) 4 = .ok (.iand, 1) := by decide +kernel
theorem d121_5 : decode (zbyt 121) 5 = .ok (.iconst 1, 1) := by decide +kernel
theorem d121_6 : decode (zbyt 121) 6 = .ok (.if_icmp .ne 7, 3) := by decide +kernel
theorem d121_9 : decode (zbyt 121) 9 = .ok (.iconst 1, 1) := by decide +kernel
theorem d121_10 : decode (zbyt 121) 10 = .ok (.goto 4, 3) := by decide +kernel
theorem d121_13 : decode (zbyt 121) 13 = .ok (.iconst 0, 1) := by decide +kernel
theorem d121_14 : decode (zbyt 121) 14 = .ok (.ireturn, 1) := by decide +kernel
theorem d122_0 : decode (zbyt 122) 0 = .ok (.iconst 0, 1) := by decide +kernel
theorem d122_1 : decode (zbyt 122) 1 = .ok (.istore_n 1, 1) := by decide +kernel
theorem d122_2 : decode (zbyt 122) 2 = .ok (.iload_n 0, 1) := by decide +kernel
theorem d122_3 : decode (zbyt 122) 3 = .ok (.istore_n 2, 1) := by decide +kernel
theorem d122_4 : decode (zbyt 122) 4 = .ok (.iload_n 2, 1) := by decide +kernel
theorem d122_5 : decode (zbyt 122) 5 = .ok (.ifCond .le 16, 3) := by decide +kernel
theorem d122_8 : decode (zbyt 122) 8 = .ok (.iload_n 1, 1) := by decide +kernel
theorem d122_9 : decode (zbyt 122) 9 = .ok (.iload_n 2, 1) := by decide +kernel
theorem d122_10 : decode (zbyt 122) 10 = .ok (.iconst 1, 1) := by decide +kernel
theorem d122_11 : decode (zbyt 122) 11 = .ok (.iand, 1) := by decide +kernel
theorem d122_12 : decode (zbyt 122) 12 = .ok (.iadd, 1) := by decide +kernel
theorem d122_13 : decode (zbyt 122) 13 = .ok (.istore_n 1, 1) := by decide +kernel
theorem d122_14 : decode (zbyt 122) 14 = .ok (.iload_n 2, 1) := by decide +kernel
theorem d122_15 : decode (zbyt 122) 15 = .ok (.iconst 1, 1) := by decide +kernel
theorem d122_16 : decode (zbyt 122) 16 = .ok (.ishr, 1) := by decide +kernel
theorem d122_17 : decode (zbyt 122) 17 = .ok (.istore_n 2, 1) := by decide +kernel
theorem d122_18 : decode (zbyt 122) 18 = .ok (.goto (-14), 3) := by decide +kernel
theorem d122_21 : decode (zbyt 122) 21 = .ok (.iload_n 1, 1) := by decide +kernel
theorem d122_22 : decode (zbyt 122) 22 = .ok (.ireturn, 1) := by decide +kernel
theorem d123_0 : decode (zbyt 123) 0 = .ok (.lload_n 0, 1) := by decide +kernel
theorem d123_1 : decode (zbyt 123) 1 = .ok (.lstore 5, 2) := by decide +kernel
theorem d123_3 : decode (zbyt 123) 3 = .ok (.lload_n 2, 1) := by decide +kernel
theorem d123_4 : decode (zbyt 123) 4 = .ok (.lstore 7, 2) := by decide +kernel
theorem d123_6 : decode (zbyt 123) 6 = .ok (.lload 7, 2) := by decide +kernel
theorem d123_8 : decode (zbyt 123) 8 = .ok (.lconst 0, 1) := by decide +kernel
theorem d123_9 : decode (zbyt 123) 9 = .ok (.lcmp, 1) := by decide +kernel
theorem d123_10 : decode (zbyt 123) 10 = .ok (.ifCond .eq 21, 3) := by decide +kernel
theorem d123_13 : decode (zbyt 123) 13 = .ok (.lload 5, 2) := by decide +kernel
theorem d123_15 : decode (zbyt 123) 15 = .ok (.lload 7, 2) := by decide +kernel
theorem d123_17 : decode (zbyt 123) 17 = .ok (.lrem, 1) := by decide +kernel
theorem d123_18 : decode (zbyt 123) 18 = .ok (.lstore 9, 2) := by decide +kernel
theorem d123_20 : decode (zbyt 123) 20 = .ok (.lload 7, 2) := by decide +kernel
theorem d123_22 : decode (zbyt 123) 22 = .ok (.lstore 5, 2) := by decide +kernel
theorem d123_24 : decode (zbyt 123) 24 = .ok (.lload 9, 2) := by decide +kernel
theorem d123_26 : decode (zbyt 123) 26 = .ok (.lstore 7, 2) := by decide +kernel
theorem d123_28 : decode (zbyt 123) 28 = .ok (.goto (-22), 3) := by decide +kernel
theorem d123_31 : decode (zbyt 123) 31 = .ok (.iload 4, 2) := by decide +kernel
theorem d123_33 : decode (zbyt 123) 33 = .ok (.ifCond .ne 7, 3) := by decide +kernel
theorem d123_36 : decode (zbyt 123) 36 = .ok (.lload_n 0, 1) := by decide +kernel
theorem d123_37 : decode (zbyt 123) 37 = .ok (.goto 4, 3) := by decide +kernel
theorem d123_40 : decode (zbyt 123) 40 = .ok (.lload_n 2, 1) := by decide +kernel
theorem d123_41 : decode (zbyt 123) 41 = .ok (.lload 5, 2) := by decide +kernel
theorem d123_43 : decode (zbyt 123) 43 = .ok (.ldiv, 1) := by decide +kernel
theorem d123_44 : decode (zbyt 123) 44 = .ok (.lreturn, 1) := by decide +kernel
theorem d124_0 : decode (zbyt 124) 0 = .ok (.aload_n 0, 1) := by decide +kernel
theorem d124_1 : decode (zbyt 124) 1 = .ok (.iconst 0, 1) := by decide +kernel
theorem d124_2 : decode (zbyt 124) 2 = .ok (.putfield 75, 3) := by decide +kernel
theorem d124_5 : decode (zbyt 124) 5 = .ok (.iload_n 1, 1) := by decide +kernel
theorem d124_6 : decode (zbyt 124) 6 = .ok (.ireturn, 1) := by decide +kernel
theorem d125_0 : decode (zbyt 125) 0 = .ok (.aload_n 0, 1) := by decide +kernel
theorem d125_1 : decode (zbyt 125) 1 = .ok (.iload_n 1, 1) := by decide +kernel
theorem d125_2 : decode (zbyt 125) 2 = .ok (.putfield 75, 3) := by decide +kernel
theorem d125_5 : decode (zbyt 125) 5 = .ok (.bipush (-10), 2) := by decide +kernel
theorem d125_7 : decode (zbyt 125) 7 = .ok (.iload_n 1, 1) := by decide +kernel
theorem d125_8 : decode (zbyt 125) 8 = .ok (.isub, 1) := by decide +kernel
theorem d125_9 : decode (zbyt 125) 9 = .ok (.ireturn, 1) := by decide +kernel
theorem d126_0 : decode (zbyt 126) 0 = .ok (.aload_n 0, 1) := by decide +kernel
theorem d126_1 : decode (zbyt 126) 1 = .ok (.iload_n 1, 1) := by decide +kernel
theorem d126_2 : decode (zbyt 126) 2 = .ok (.putfield 75, 3) := by decide +kernel
theorem d126_5 : decode (zbyt 126) 5 = .ok (.invokestatic 79, 3) := by decide +kernel
theorem d126_8 : decode (zbyt 126) 8 = .ok (.lreturn, 1) := by decide +kernel
theorem d127_0 : decode (zbyt 127) 0 = .ok (.iload_n 1, 1) := by decide +kernel
theorem d127_1 : decode (zbyt 127) 1 = .ok (.i2l, 1) := by decide +kernel
theorem d127_2 : decode (zbyt 127) 2 = .ok (.lconst 0, 1) := by decide +kernel
theorem d127_3 : decode (zbyt 127) 3 = .ok (.aload_n 0, 1) := by decide +kernel
theorem d127_4 : decode (zbyt 127) 4 = .ok (.getfield 83, 3) := by decide +kernel
theorem d127_7 : decode (zbyt 127) 7 = .ok (.i2l, 1) := by decide +kernel
theorem d127_8 : decode (zbyt 127) 8 = .ok (.lconst 1, 1) := by decide +kernel
theorem d127_9 : decode (zbyt 127) 9 = .ok (.lsub, 1) := by decide +kernel
theorem d127_10 : decode (zbyt 127) 10 = .ok (.invokestatic 86, 3) := by decide +kernel
theorem d127_13 : decode (zbyt 127) 13 = .ok (.ifCond .ne 7, 3) := by decide +kernel
theorem d127_16 : decode (zbyt 127) 16 = .ok (.iconst 1, 1) := by decide +kernel
theorem d127_17 : decode (zbyt 127) 17 = .ok (.goto 4, 3) := by decide +kernel
theorem d127_20 : decode (zbyt 127) 20 = .ok (.iconst 0, 1) := by decide +kernel
theorem d127_21 : decode (zbyt 127) 21 = .ok (.ireturn, 1) := by decide +kernel
theorem d128_0 : decode (zbyt 128) 0 = .ok (.iload_n 1, 1) := by decide +kernel
theorem d128_1 : decode (zbyt 128) 1 = .ok (.i2l, 1) := by decide +kernel
theorem d128_2 : decode (zbyt 128) 2 = .ok (.lconst 0, 1) := by decide +kernel
theorem d128_3 : decode (zbyt 128) 3 = .ok (.aload_n 0, 1) := by decide +kernel
theorem d128_4 : decode (zbyt 128) 4 = .ok (.getfield 90, 3) := by decide +kernel
theorem d128_7 : decode (zbyt 128) 7 = .ok (.i2l, 1) := by decide +kernel
theorem d128_8 : decode (zbyt 128) 8 = .ok (.lconst 1, 1) := by decide +kernel
theorem d128_9 : decode (zbyt 128) 9 = .ok (.lsub, 1) := by decide +kernel
theorem d128_10 : decode (zbyt 128) 10 = .ok (.invokestatic 86, 3) := by decide +kernel
theorem d128_13 : decode (zbyt 128) 13 = .ok (.ifCond .ne 7, 3) := by decide +kernel
theorem d128_16 : decode (zbyt 128) 16 = .ok (.iconst 1, 1) := by decide +kernel
theorem d128_17 : decode (zbyt 128) 17 = .ok (.goto 4, 3) := by decide +kernel
theorem d128_20 : decode (zbyt 128) 20 = .ok (.iconst 0, 1) := by decide +kernel
theorem d128_21 : decode (zbyt 128) 21 = .ok (.ireturn, 1) := by decide +kernel
theorem d129_0 : decode (zbyt 129) 0 = .ok (.aload_n 0, 1) := by decide +kernel
theorem d129_1 : decode (zbyt 129) 1 = .ok (.getfield 93, 3) := by decide +kernel
theorem d129_4 : decode (zbyt 129) 4 = .ok (.iload_n 2, 1) := by decide +kernel
theorem d129_5 : decode (zbyt 129) 5 = .ok (.if_icmp .ge 17, 3) := by decide +kernel
theorem d129_8 : decode (zbyt 129) 8 = .ok (.aload_n 0, 1) := by decide +kernel
theorem d129_9 : decode (zbyt 129) 9 = .ok (.getfield 67, 3) := by decide +kernel
theorem d129_12 : decode (zbyt 129) 12 = .ok (.iload_n 1, 1) := by decide +kernel
theorem d129_13 : decode (zbyt 129) 13 = .ok (.aload_n 0, 1) := by decide +kernel
theorem d129_14 : decode (zbyt 129) 14 = .ok (.getfield 93, 3) := by decide +kernel
theorem d129_17 : decode (zbyt 129) 17 = .ok (.iadd, 1) := by decide +kernel
theorem d129_18 : decode (zbyt 129) 18 = .ok (.iaload, 1) := by decide +kernel
theorem d129_19 : decode (zbyt 129) 19 = .ok (.goto 5, 3) := by decide +kernel
theorem d129_22 : decode (zbyt 129) 22 = .ok (.bipush (-9), 2) := by decide +kernel
theorem d129_24 : decode (zbyt 129) 24 = .ok (.ireturn, 1) := by decide +kernel
theorem d130_0 : decode (zbyt 130) 0 = .ok (.iload_n 3, 1) := by decide +kernel
theorem d130_1 : decode (zbyt 130) 1 = .ok (.ifCond .ge 8, 3) := by decide +kernel
theorem d130_4 : decode (zbyt 130) 4 = .ok (.bipush (-9), 2) := by decide +kernel
theorem d130_6 : decode (zbyt 130) 6 = .ok (.goto 12, 3) := by decide +kernel
theorem d130_9 : decode (zbyt 130) 9 = .ok (.aload_n 0, 1) := by decide +kernel
theorem d130_10 : decode (zbyt 130) 10 = .ok (.iload_n 1, 1) := by decide +kernel
theorem d130_11 : decode (zbyt 130) 11 = .ok (.iload_n 2, 1) := by decide +kernel
theorem d130_12 : decode (zbyt 130) 12 = .ok (.invokevirtual 96, 3) := by decide +kernel
theorem d130_15 : decode (zbyt 130) 15 = .ok (.bipush 48, 2) := by decide +kernel
theorem d130_17 : decode (zbyt 130) 17 = .ok (.isub, 1) := by decide +kernel
theorem d130_18 : decode (zbyt 130) 18 = .ok (.istore 5, 2) := by decide +kernel
theorem d130_20 : decode (zbyt 130) 20 = .ok (.iload 5, 2) := by decide +kernel
theorem d130_22 : decode (zbyt 130) 22 = .ok (.i2l, 1) := by decide +kernel
theorem d130_23 : decode (zbyt 130) 23 = .ok (.iload 4, 2) := by decide +kernel
theorem d130_25 : decode (zbyt 130) 25 = .ok (.i2l, 1) := by decide +kernel
theorem d130_26 : decode (zbyt 130) 26 = .ok (.ldc2_w 100, 3) := by decide +kernel
theorem d130_29 : decode (zbyt 130) 29 = .ok (.invokestatic 86, 3) := by decide +kernel
theorem d130_32 : decode (zbyt 130) 32 = .ok (.istore 6, 2) := by decide +kernel
theorem d130_34 : decode (zbyt 130) 34 = .ok (.aload_n 0, 1) := by decide +kernel
theorem d130_35 : decode (zbyt 130) 35 = .ok (.dup, 1) := by decide +kernel
theorem d130_36 : decode (zbyt 130) 36 = .ok (.getfield 93, 3) := by decide +kernel
theorem d130_39 : decode (zbyt 130) 39 = .ok (.iload 6, 2) := by decide +kernel
theorem d130_41 : decode (zbyt 130) 41 = .ok (.ifCond .eq 7, 3) := by decide +kernel
theorem d130_44 : decode (zbyt 130) 44 = .ok (.iconst 1, 1) := by decide +kernel
theorem d130_45 : decode (zbyt 130) 45 = .ok (.goto 4, 3) := by decide +kernel
theorem d130_48 : decode (zbyt 130) 48 = .ok (.iconst 0, 1) := by decide +kernel
theorem d130_49 : decode (zbyt 130) 49 = .ok (.iadd, 1) := by decide +kernel
theorem d130_50 : decode (zbyt 130) 50 = .ok (.putfield 93, 3) := by decide +kernel
theorem d130_53 : decode (zbyt 130) 53 = .ok (.iload 6, 2) := by decide +kernel
theorem d130_55 : decode (zbyt 130) 55 = .ok (.ifCond .eq 8, 3) := by decide +kernel
theorem d130_58 : decode (zbyt 130) 58 = .ok (.iload 5, 2) := by decide +kernel
theorem d130_60 : decode (zbyt 130) 60 = .ok (.goto 5, 3) := by decide +kernel
theorem d130_63 : decode (zbyt 130) 63 = .ok (.bipush (-9), 2) := by decide +kernel
theorem d130_65 : decode (zbyt 130) 65 = .ok (.ireturn, 1) := by decide +kernel
theorem d131_0 : decode (zbyt 131) 0 = .ok (.aload_n 0, 1) := by decide +kernel
theorem d131_1 : decode (zbyt 131) 1 = .ok (.iload_n 1, 1) := by decide +kernel
theorem d131_2 : decode (zbyt 131) 2 = .ok (.iload_n 2, 1) := by decide +kernel
theorem d131_3 : decode (zbyt 131) 3 = .ok (.invokevirtual 96, 3) := by decide +kernel
theorem d131_6 : decode (zbyt 131) 6 = .ok (.bipush 44, 2) := by decide +kernel
theorem d131_8 : decode (zbyt 131) 8 = .ok (.if_icmp .ne 7, 3) := by decide +kernel
theorem d131_11 : decode (zbyt 131) 11 = .ok (.iconst 1, 1) := by decide +kernel
theorem d131_12 : decode (zbyt 131) 12 = .ok (.goto 4, 3) := by decide +kernel
theorem d131_15 : decode (zbyt 131) 15 = .ok (.iconst 0, 1) := by decide +kernel
theorem d131_16 : decode (zbyt 131) 16 = .ok (.istore_n 3, 1) := by decide +kernel
theorem d131_17 : decode (zbyt 131) 17 = .ok (.iload_n 3, 1) := by decide +kernel
theorem d131_18 : decode (zbyt 131) 18 = .ok (.ifCond .eq 103, 3) := by decide +kernel
theorem d131_21 : decode (zbyt 131) 21 = .ok (.aload_n 0, 1) := by decide +kernel
theorem d131_22 : decode (zbyt 131) 22 = .ok (.getfield 102, 3) := by decide +kernel
theorem d131_25 : decode (zbyt 131) 25 = .ok (.iconst 5, 1) := by decide +kernel
theorem d131_26 : decode (zbyt 131) 26 = .ok (.if_icmp .ge 95, 3) := by decide +kernel
theorem d131_29 : decode (zbyt 131) 29 = .ok (.aload_n 0, 1) := by decide +kernel
theorem d131_30 : decode (zbyt 131) 30 = .ok (.iload_n 1, 1) := by decide +kernel
theorem d131_31 : decode (zbyt 131) 31 = .ok (.iload_n 2, 1) := by decide +kernel
theorem d131_32 : decode (zbyt 131) 32 = .ok (.invokevirtual 96, 3) := by decide +kernel
theorem d131_35 : decode (zbyt 131) 35 = .ok (.bipush 44, 2) := by decide +kernel
theorem d131_37 : decode (zbyt 131) 37 = .ok (.if_icmp .ne 84, 3) := by decide +kernel
theorem d131_40 : decode (zbyt 131) 40 = .ok (.aload_n 0, 1) := by decide +kernel
theorem d131_41 : decode (zbyt 131) 41 = .ok (.dup, 1) := by decide +kernel
theorem d131_42 : decode (zbyt 131) 42 = .ok (.getfield 93, 3) := by decide +kernel
theorem d131_45 : decode (zbyt 131) 45 = .ok (.iconst 1, 1) := by decide +kernel
theorem d131_46 : decode (zbyt 131) 46 = .ok (.iadd, 1) := by decide +kernel
theorem d131_47 : decode (zbyt 131) 47 = .ok (.putfield 93, 3) := by decide +kernel
theorem d131_50 : decode (zbyt 131) 50 = .ok (.aload_n 0, 1) := by decide +kernel
theorem d131_51 : decode (zbyt 131) 51 = .ok (.iload_n 1, 1) := by decide +kernel
theorem d131_52 : decode (zbyt 131) 52 = .ok (.iload_n 2, 1) := by decide +kernel
theorem d131_53 : decode (zbyt 131) 53 = .ok (.iconst 0, 1) := by decide +kernel
theorem d131_54 : decode (zbyt 131) 54 = .ok (.iconst 0, 1) := by decide +kernel
theorem d131_55 : decode (zbyt 131) 55 = .ok (.invokevirtual 105, 3) := by decide +kernel
theorem d131_58 : decode (zbyt 131) 58 = .ok (.istore 4, 2) := by decide +kernel
theorem d131_60 : decode (zbyt 131) 60 = .ok (.aload_n 0, 1) := by decide +kernel
theorem d131_61 : decode (zbyt 131) 61 = .ok (.iload_n 1, 1) := by decide +kernel
theorem d131_62 : decode (zbyt 131) 62 = .ok (.iload_n 2, 1) := by decide +kernel
theorem d131_63 : decode (zbyt 131) 63 = .ok (.iload 4, 2) := by decide +kernel
theorem d131_65 : decode (zbyt 131) 65 = .ok (.iload 4, 2) := by decide +kernel
theorem d131_67 : decode (zbyt 131) 67 = .ok (.ifCond .ne 7, 3) := by decide +kernel
theorem d131_70 : decode (zbyt 131) 70 = .ok (.iconst 1, 1) := by decide +kernel
theorem d131_71 : decode (zbyt 131) 71 = .ok (.goto 4, 3) := by decide +kernel
theorem d131_74 : decode (zbyt 131) 74 = .ok (.iconst 0, 1) := by decide +kernel
theorem d131_75 : decode (zbyt 131) 75 = .ok (.invokevirtual 105, 3) := by decide +kernel
theorem d131_78 : decode (zbyt 131) 78 = .ok (.istore 5, 2) := by decide +kernel
theorem d131_80 : decode (zbyt 131) 80 = .ok (.aload_n 0, 1) := by decide +kernel
theorem d131_81 : decode (zbyt 131) 81 = .ok (.getfield 28, 3) := by decide +kernel
theorem d131_84 : decode (zbyt 131) 84 = .ok (.aload_n 0, 1) := by decide +kernel
theorem d131_85 : decode (zbyt 131) 85 = .ok (.getfield 102, 3) := by decide +kernel
theorem d131_88 : decode (zbyt 131) 88 = .ok (.bipush 10, 2) := by decide +kernel
theorem d131_90 : decode (zbyt 131) 90 = .ok (.iload 4, 2) := by decide +kernel
theorem d131_92 : decode (zbyt 131) 92 = .ok (.imul, 1) := by decide +kernel
theorem d131_93 : decode (zbyt 131) 93 = .ok (.iload 5, 2) := by decide +kernel
theorem d131_95 : decode (zbyt 131) 95 = .ok (.iadd, 1) := by decide +kernel
theorem d131_96 : decode (zbyt 131) 96 = .ok (.iastore, 1) := by decide +kernel
theorem d131_97 : decode (zbyt 131) 97 = .ok (.aload_n 0, 1) := by decide +kernel
theorem d131_98 : decode (zbyt 131) 98 = .ok (.dup, 1) := by decide +kernel
theorem d131_99 : decode (zbyt 131) 99 = .ok (.getfield 102, 3) := by decide +kernel
theorem d131_102 : decode (zbyt 131) 102 = .ok (.iconst 1, 1) := by decide +kernel
theorem d131_103 : decode (zbyt 131) 103 = .ok (.iadd, 1) := by decide +kernel
theorem d131_104 : decode (zbyt 131) 104 = .ok (.putfield 102, 3) := by decide +kernel
theorem d131_107 : decode (zbyt 131) 107 = .ok (.iload 5, 2) := by decide +kernel
theorem d131_109 : decode (zbyt 131) 109 = .ok (.ifCond .lt 7, 3) := by decide +kernel
theorem d131_112 : decode (zbyt 131) 112 = .ok (.iconst 1, 1) := by decide +kernel
theorem d131_113 : decode (zbyt 131) 113 = .ok (.goto 4, 3) := by decide +kernel
theorem d131_116 : decode (zbyt 131) 116 = .ok (.iconst 0, 1) := by decide +kernel
theorem d131_117 : decode (zbyt 131) 117 = .ok (.istore_n 3, 1) := by decide +kernel
theorem d131_118 : decode (zbyt 131) 118 = .ok (.goto (-101), 3) := by decide +kernel
theorem d131_121 : decode (zbyt 131) 121 = .ok (.iload_n 3, 1) := by decide +kernel
theorem d131_122 : decode (zbyt 131) 122 = .ok (.ireturn, 1) := by decide +kernel
theorem d132_0 : decode (zbyt 132) 0 = .ok (.aload_n 0, 1) := by decide +kernel
theorem d132_1 : decode (zbyt 132) 1 = .ok (.getfield 109, 3) := by decide +kernel
theorem d132_4 : decode (zbyt 132) 4 = .ok (.iconst 5, 1) := by decide +kernel
theorem d132_5 : decode (zbyt 132) 5 = .ok (.if_icmp .eq 14, 3) := by decide +kernel
theorem d132_8 : decode (zbyt 132) 8 = .ok (.aload_n 0, 1) := by decide +kernel
theorem d132_9 : decode (zbyt 132) 9 = .ok (.iload_n 1, 1) := by decide +kernel
theorem d132_10 : decode (zbyt 132) 10 = .ok (.iload_n 2, 1) := by decide +kernel
theorem d132_11 : decode (zbyt 132) 11 = .ok (.invokevirtual 96, 3) := by decide +kernel
theorem d132_14 : decode (zbyt 132) 14 = .ok (.bipush 59, 2) := by decide +kernel
theorem d132_16 : decode (zbyt 132) 16 = .ok (.if_icmp .eq 5, 3) := by decide +kernel
theorem d132_19 : decode (zbyt 132) 19 = .ok (.iconst 0, 1) := by decide +kernel
theorem d132_20 : decode (zbyt 132) 20 = .ok (.ireturn, 1) := by decide +kernel
theorem d132_21 : decode (zbyt 132) 21 = .ok (.aload_n 0, 1) := by decide +kernel
theorem d132_22 : decode (zbyt 132) 22 = .ok (.dup, 1) := by decide +kernel
theorem d132_23 : decode (zbyt 132) 23 = .ok (.getfield 93, 3) := by decide +kernel
theorem d132_26 : decode (zbyt 132) 26 = .ok (.iconst 1, 1) := by decide +kernel
theorem d132_27 : decode (zbyt 132) 27 = .ok (.iadd, 1) := by decide +kernel
theorem d132_28 : decode (zbyt 132) 28 = .ok (.putfield 93, 3) := by decide +kernel
theorem d132_31 : decode (zbyt 132) 31 = .ok (.aload_n 0, 1) := by decide +kernel
theorem d132_32 : decode (zbyt 132) 32 = .ok (.iload_n 1, 1) := by decide +kernel
theorem d132_33 : decode (zbyt 132) 33 = .ok (.iload_n 2, 1) := by decide +kernel
theorem d132_34 : decode (zbyt 132) 34 = .ok (.invokevirtual 96, 3) := by decide +kernel
theorem d132_37 : decode (zbyt 132) 37 = .ok (.istore_n 3, 1) := by decide +kernel
theorem d132_38 : decode (zbyt 132) 38 = .ok (.iload_n 3, 1) := by decide +kernel
theorem d132_39 : decode (zbyt 132) 39 = .ok (.bipush 99, 2) := by decide +kernel
theorem d132_41 : decode (zbyt 132) 41 = .ok (.if_icmp .eq 17, 3) := by decide +kernel
theorem d132_44 : decode (zbyt 132) 44 = .ok (.iload_n 3, 1) := by decide +kernel
theorem d132_45 : decode (zbyt 132) 45 = .ok (.bipush 109, 2) := by decide +kernel
theorem d132_47 : decode (zbyt 132) 47 = .ok (.if_icmp .eq 11, 3) := by decide +kernel
theorem d132_50 : decode (zbyt 132) 50 = .ok (.iload_n 3, 1) := by decide +kernel
theorem d132_51 : decode (zbyt 132) 51 = .ok (.bipush 117, 2) := by decide +kernel
theorem d132_53 : decode (zbyt 132) 53 = .ok (.if_icmp .eq 5, 3) := by decide +kernel
theorem d132_56 : decode (zbyt 132) 56 = .ok (.iconst 0, 1) := by decide +kernel
theorem d132_57 : decode (zbyt 132) 57 = .ok (.ireturn, 1) := by decide +kernel
theorem d132_58 : decode (zbyt 132) 58 = .ok (.aload_n 0, 1) := by decide +kernel
theorem d132_59 : decode (zbyt 132) 59 = .ok (.dup, 1) := by decide +kernel
theorem d132_60 : decode (zbyt 132) 60 = .ok (.getfield 93, 3) := by decide +kernel
theorem d132_63 : decode (zbyt 132) 63 = .ok (.iconst 1, 1) := by decide +kernel
theorem d132_64 : decode (zbyt 132) 64 = .ok (.iadd, 1) := by decide +kernel
theorem d132_65 : decode (zbyt 132) 65 = .ok (.putfield 93, 3) := by decide +kernel
theorem d132_68 : decode (zbyt 132) 68 = .ok (.aload_n 0, 1) := by decide +kernel
theorem d132_69 : decode (zbyt 132) 69 = .ok (.iload_n 1, 1) := by decide +kernel
theorem d132_70 : decode (zbyt 132) 70 = .ok (.iload_n 2, 1) := by decide +kernel
theorem d132_71 : decode (zbyt 132) 71 = .ok (.iconst 0, 1) := by decide +kernel
theorem d132_72 : decode (zbyt 132) 72 = .ok (.iconst 1, 1) := by decide +kernel
theorem d132_73 : decode (zbyt 132) 73 = .ok (.invokevirtual 105, 3) := by decide +kernel
theorem d132_76 : decode (zbyt 132) 76 = .ok (.istore 4, 2) := by decide +kernel
theorem d132_78 : decode (zbyt 132) 78 = .ok (.aload_n 0, 1) := by decide +kernel
theorem d132_79 : decode (zbyt 132) 79 = .ok (.iload_n 1, 1) := by decide +kernel
theorem d132_80 : decode (zbyt 132) 80 = .ok (.iload_n 2, 1) := by decide +kernel
theorem d132_81 : decode (zbyt 132) 81 = .ok (.iload 4, 2) := by decide +kernel
theorem d132_83 : decode (zbyt 132) 83 = .ok (.iconst 1, 1) := by decide +kernel
theorem d132_84 : decode (zbyt 132) 84 = .ok (.invokevirtual 105, 3) := by decide +kernel
theorem d132_87 : decode (zbyt 132) 87 = .ok (.istore 5, 2) := by decide +kernel
theorem d132_89 : decode (zbyt 132) 89 = .ok (.aload_n 0, 1) := by decide +kernel
theorem d132_90 : decode (zbyt 132) 90 = .ok (.getfield 31, 3) := by decide +kernel
theorem d132_93 : decode (zbyt 132) 93 = .ok (.aload_n 0, 1) := by decide +kernel
theorem d132_94 : decode (zbyt 132) 94 = .ok (.getfield 109, 3) := by decide +kernel
theorem d132_97 : decode (zbyt 132) 97 = .ok (.iload_n 3, 1) := by decide +kernel
theorem d132_98 : decode (zbyt 132) 98 = .ok (.bipush 99, 2) := by decide +kernel
theorem d132_100 : decode (zbyt 132) 100 = .ok (.if_icmp .ne 7, 3) := by decide +kernel
theorem d132_103 : decode (zbyt 132) 103 = .ok (.iconst 0, 1) := by decide +kernel
theorem d132_104 : decode (zbyt 132) 104 = .ok (.goto 14, 3) := by decide +kernel
theorem d132_107 : decode (zbyt 132) 107 = .ok (.iload_n 3, 1) := by decide +kernel
theorem d132_108 : decode (zbyt 132) 108 = .ok (.bipush 109, 2) := by decide +kernel
theorem d132_110 : decode (zbyt 132) 110 = .ok (.if_icmp .ne 7, 3) := by decide +kernel
theorem d132_113 : decode (zbyt 132) 113 = .ok (.iconst 1, 1) := by decide +kernel
theorem d132_114 : decode (zbyt 132) 114 = .ok (.goto 4, 3) := by decide +kernel
theorem d132_117 : decode (zbyt 132) 117 = .ok (.iconst 2, 1) := by decide +kernel
theorem d132_118 : decode (zbyt 132) 118 = .ok (.iastore, 1) := by decide +kernel
theorem d132_119 : decode (zbyt 132) 119 = .ok (.aload_n 0, 1) := by decide +kernel
theorem d132_120 : decode (zbyt 132) 120 = .ok (.getfield 34, 3) := by decide +kernel
theorem d132_123 : decode (zbyt 132) 123 = .ok (.aload_n 0, 1) := by decide +kernel
theorem d132_124 : decode (zbyt 132) 124 = .ok (.getfield 109, 3) := by decide +kernel
theorem d132_127 : decode (zbyt 132) 127 = .ok (.iload 4, 2) := by decide +kernel
theorem d132_129 : decode (zbyt 132) 129 = .ok (.iastore, 1) := by decide +kernel
theorem d132_130 : decode (zbyt 132) 130 = .ok (.aload_n 0, 1) := by decide +kernel
theorem d132_131 : decode (zbyt 132) 131 = .ok (.getfield 37, 3) := by decide +kernel
theorem d132_134 : decode (zbyt 132) 134 = .ok (.aload_n 0, 1) := by decide +kernel
theorem d132_135 : decode (zbyt 132) 135 = .ok (.getfield 109, 3) := by decide +kernel
theorem d132_138 : decode (zbyt 132) 138 = .ok (.iload 5, 2) := by decide +kernel
theorem d132_140 : decode (zbyt 132) 140 = .ok (.iastore, 1) := by decide +kernel
theorem d132_141 : decode (zbyt 132) 141 = .ok (.aload_n 0, 1) := by decide +kernel
theorem d132_142 : decode (zbyt 132) 142 = .ok (.dup, 1) := by decide +kernel
theorem d132_143 : decode (zbyt 132) 143 = .ok (.getfield 109, 3) := by decide +kernel
theorem d132_146 : decode (zbyt 132) 146 = .ok (.iconst 1, 1) := by decide +kernel
theorem d132_147 : decode (zbyt 132) 147 = .ok (.iadd, 1) := by decide +kernel
theorem d132_148 : decode (zbyt 132) 148 = .ok (.putfield 109, 3) := by decide +kernel
theorem d132_151 : decode (zbyt 132) 151 = .ok (.iload 5, 2) := by decide +kernel
theorem d132_153 : decode (zbyt 132) 153 = .ok (.ifCond .lt 7, 3) := by decide +kernel
theorem d132_156 : decode (zbyt 132) 156 = .ok (.iconst 1, 1) := by decide +kernel
theorem d132_157 : decode (zbyt 132) 157 = .ok (.goto 4, 3) := by decide +kernel
theorem d132_160 : decode (zbyt 132) 160 = .ok (.iconst 0, 1) := by decide +kernel
theorem d132_161 : decode (zbyt 132) 161 = .ok (.ireturn, 1) := by decide +kernel
theorem d133_0 : decode (zbyt 133) 0 = .ok (.aload_n 0, 1) := by decide +kernel
theorem d133_1 : decode (zbyt 133) 1 = .ok (.iconst 0, 1) := by decide +kernel
theorem d133_2 : decode (zbyt 133) 2 = .ok (.putfield 93, 3) := by decide +kernel
theorem d133_5 : decode (zbyt 133) 5 = .ok (.aload_n 0, 1) := by decide +kernel
theorem d133_6 : decode (zbyt 133) 6 = .ok (.iconst 0, 1) := by decide +kernel
theorem d133_7 : decode (zbyt 133) 7 = .ok (.putfield 102, 3) := by decide +kernel
theorem d133_10 : decode (zbyt 133) 10 = .ok (.aload_n 0, 1) := by decide +kernel
theorem d133_11 : decode (zbyt 133) 11 = .ok (.iconst 0, 1) := by decide +kernel
theorem d133_12 : decode (zbyt 133) 12 = .ok (.putfield 109, 3) := by decide +kernel
theorem d133_15 : decode (zbyt 133) 15 = .ok (.aload_n 0, 1) := by decide +kernel
theorem d133_16 : decode (zbyt 133) 16 = .ok (.iload_n 1, 1) := by decide +kernel
theorem d133_17 : decode (zbyt 133) 17 = .ok (.iload_n 2, 1) := by decide +kernel
theorem d133_18 : decode (zbyt 133) 18 = .ok (.invokevirtual 96, 3) := by decide +kernel
theorem d133_21 : decode (zbyt 133) 21 = .ok (.bipush 114, 2) := by decide +kernel
theorem d133_23 : decode (zbyt 133) 23 = .ok (.if_icmp .eq 5, 3) := by decide +kernel
theorem d133_26 : decode (zbyt 133) 26 = .ok (.iconst 0, 1) := by decide +kernel
theorem d133_27 : decode (zbyt 133) 27 = .ok (.ireturn, 1) := by decide +kernel
theorem d133_28 : decode (zbyt 133) 28 = .ok (.aload_n 0, 1) := by decide +kernel
theorem d133_29 : decode (zbyt 133) 29 = .ok (.dup, 1) := by decide +kernel
theorem d133_30 : decode (zbyt 133) 30 = .ok (.getfield 93, 3) := by decide +kernel
theorem d133_33 : decode (zbyt 133) 33 = .ok (.iconst 1, 1) := by decide +kernel
theorem d133_34 : decode (zbyt 133) 34 = .ok (.iadd, 1) := by decide +kernel
theorem d133_35 : decode (zbyt 133) 35 = .ok (.putfield 93, 3) := by decide +kernel
theorem d133_38 : decode (zbyt 133) 38 = .ok (.aload_n 0, 1) := by decide +kernel
theorem d133_39 : decode (zbyt 133) 39 = .ok (.aload_n 0, 1) := by decide +kernel
theorem d133_40 : decode (zbyt 133) 40 = .ok (.iload_n 1, 1) := by decide +kernel
theorem d133_41 : decode (zbyt 133) 41 = .ok (.iload_n 2, 1) := by decide +kernel
theorem d133_42 : decode (zbyt 133) 42 = .ok (.iconst 0, 1) := by decide +kernel
theorem d133_43 : decode (zbyt 133) 43 = .ok (.iconst 1, 1) := by decide +kernel
theorem d133_44 : decode (zbyt 133) 44 = .ok (.invokevirtual 105, 3) := by decide +kernel
theorem d133_47 : decode (zbyt 133) 47 = .ok (.putfield 112, 3) := by decide +kernel
theorem d133_50 : decode (zbyt 133) 50 = .ok (.aload_n 0, 1) := by decide +kernel
theorem d133_51 : decode (zbyt 133) 51 = .ok (.getfield 112, 3) := by decide +kernel
theorem d133_54 : decode (zbyt 133) 54 = .ok (.ifCond .lt 16, 3) := by decide +kernel
theorem d133_57 : decode (zbyt 133) 57 = .ok (.aload_n 0, 1) := by decide +kernel
theorem d133_58 : decode (zbyt 133) 58 = .ok (.iload_n 1, 1) := by decide +kernel
theorem d133_59 : decode (zbyt 133) 59 = .ok (.iload_n 2, 1) := by decide +kernel
theorem d133_60 : decode (zbyt 133) 60 = .ok (.invokevirtual 115, 3) := by decide +kernel
theorem d133_63 : decode (zbyt 133) 63 = .ok (.ifCond .eq 7, 3) := by decide +kernel
theorem d133_66 : decode (zbyt 133) 66 = .ok (.iconst 1, 1) := by decide +kernel
theorem d133_67 : decode (zbyt 133) 67 = .ok (.goto 4, 3) := by decide +kernel
theorem d133_70 : decode (zbyt 133) 70 = .ok (.iconst 0, 1) := by decide +kernel
theorem d133_71 : decode (zbyt 133) 71 = .ok (.istore_n 3, 1) := by decide +kernel
theorem d133_72 : decode (zbyt 133) 72 = .ok (.iload_n 3, 1) := by decide +kernel
theorem d133_73 : decode (zbyt 133) 73 = .ok (.ifCond .eq 29, 3) := by decide +kernel
theorem d133_76 : decode (zbyt 133) 76 = .ok (.aload_n 0, 1) := by decide +kernel
theorem d133_77 : decode (zbyt 133) 77 = .ok (.getfield 109, 3) := by decide +kernel
theorem d133_80 : decode (zbyt 133) 80 = .ok (.iconst 1, 1) := by decide +kernel
theorem d133_81 : decode (zbyt 133) 81 = .ok (.if_icmp .lt 11, 3) := by decide +kernel
theorem d133_84 : decode (zbyt 133) 84 = .ok (.aload_n 0, 1) := by decide +kernel
theorem d133_85 : decode (zbyt 133) 85 = .ok (.getfield 93, 3) := by decide +kernel
theorem d133_88 : decode (zbyt 133) 88 = .ok (.iload_n 2, 1) := by decide +kernel
theorem d133_89 : decode (zbyt 133) 89 = .ok (.if_icmp .ge 13, 3) := by decide +kernel
theorem d133_92 : decode (zbyt 133) 92 = .ok (.aload_n 0, 1) := by decide +kernel
theorem d133_93 : decode (zbyt 133) 93 = .ok (.iload_n 1, 1) := by decide +kernel
theorem d133_94 : decode (zbyt 133) 94 = .ok (.iload_n 2, 1) := by decide +kernel
theorem d133_95 : decode (zbyt 133) 95 = .ok (.invokevirtual 119, 3) := by decide +kernel
theorem d133_98 : decode (zbyt 133) 98 = .ok (.istore_n 3, 1) := by decide +kernel
theorem d133_99 : decode (zbyt 133) 99 = .ok (.goto (-27), 3) := by decide +kernel
theorem d133_102 : decode (zbyt 133) 102 = .ok (.iload_n 3, 1) := by decide +kernel
theorem d133_103 : decode (zbyt 133) 103 = .ok (.ireturn, 1) := by decide +kernel
theorem d134_0 : decode (zbyt 134) 0 = .ok (.aload_n 0, 1) := by decide +kernel
theorem d134_1 : decode (zbyt 134) 1 = .ok (.getfield 61, 3) := by decide +kernel
theorem d134_4 : decode (zbyt 134) 4 = .ok (.iload_n 1, 1) := by decide +kernel
theorem d134_5 : decode (zbyt 134) 5 = .ok (.iaload, 1) := by decide +kernel
theorem d134_6 : decode (zbyt 134) 6 = .ok (.ifCond .lt 19, 3) := by decide +kernel
theorem d134_9 : decode (zbyt 134) 9 = .ok (.aload_n 0, 1) := by decide +kernel
theorem d134_10 : decode (zbyt 134) 10 = .ok (.getfield 64, 3) := by decide +kernel
theorem d134_13 : decode (zbyt 134) 13 = .ok (.iload_n 1, 1) := by decide +kernel
theorem d134_14 : decode (zbyt 134) 14 = .ok (.iaload, 1) := by decide +kernel
theorem d134_15 : decode (zbyt 134) 15 = .ok (.iload_n 2, 1) := by decide +kernel
theorem d134_16 : decode (zbyt 134) 16 = .ok (.if_icmp .eq 9, 3) := by decide +kernel
theorem d134_19 : decode (zbyt 134) 19 = .ok (.aload_n 0, 1) := by decide +kernel
theorem d134_20 : decode (zbyt 134) 20 = .ok (.iconst 2, 1) := by decide +kernel
theorem d134_21 : decode (zbyt 134) 21 = .ok (.invokevirtual 122, 3) := by decide +kernel
theorem d134_24 : decode (zbyt 134) 24 = .ok (.ireturn, 1) := by decide +kernel
theorem d134_25 : decode (zbyt 134) 25 = .ok (.aload_n 0, 1) := by decide +kernel
theorem d134_26 : decode (zbyt 134) 26 = .ok (.getfield 61, 3) := by decide +kernel
theorem d134_29 : decode (zbyt 134) 29 = .ok (.iload_n 1, 1) := by decide +kernel
theorem d134_30 : decode (zbyt 134) 30 = .ok (.iaload, 1) := by decide +kernel
theorem d134_31 : decode (zbyt 134) 31 = .ok (.ifCond .ge 9, 3) := by decide +kernel
theorem d134_34 : decode (zbyt 134) 34 = .ok (.aload_n 0, 1) := by decide +kernel
theorem d134_35 : decode (zbyt 134) 35 = .ok (.iconst 1, 1) := by decide +kernel
theorem d134_36 : decode (zbyt 134) 36 = .ok (.invokevirtual 122, 3) := by decide +kernel
theorem d134_39 : decode (zbyt 134) 39 = .ok (.ireturn, 1) := by decide +kernel
theorem d134_40 : decode (zbyt 134) 40 = .ok (.lload 4, 2) := by decide +kernel
theorem d134_42 : decode (zbyt 134) 42 = .ok (.lconst 0, 1) := by decide +kernel
theorem d134_43 : decode (zbyt 134) 43 = .ok (.lcmp, 1) := by decide +kernel
theorem d134_44 : decode (zbyt 134) 44 = .ok (.ifCond .ge 9, 3) := by decide +kernel
theorem d134_47 : decode (zbyt 134) 47 = .ok (.aload_n 0, 1) := by decide +kernel
theorem d134_48 : decode (zbyt 134) 48 = .ok (.iconst 4, 1) := by decide +kernel
theorem d134_49 : decode (zbyt 134) 49 = .ok (.invokevirtual 122, 3) := by decide +kernel
theorem d134_52 : decode (zbyt 134) 52 = .ok (.ireturn, 1) := by decide +kernel
theorem d134_53 : decode (zbyt 134) 53 = .ok (.iload_n 3, 1) := by decide +kernel
theorem d134_54 : decode (zbyt 134) 54 = .ok (.lload 4, 2) := by decide +kernel
theorem d134_56 : decode (zbyt 134) 56 = .ok (.aload_n 0, 1) := by decide +kernel
theorem d134_57 : decode (zbyt 134) 57 = .ok (.getfield 61, 3) := by decide +kernel
theorem d134_60 : decode (zbyt 134) 60 = .ok (.iload_n 1, 1) := by decide +kernel
theorem d134_61 : decode (zbyt 134) 61 = .ok (.iaload, 1) := by decide +kernel
theorem d134_62 : decode (zbyt 134) 62 = .ok (.invokestatic 126, 3) := by decide +kernel
theorem d134_65 : decode (zbyt 134) 65 = .ok (.ifCond .eq 11, 3) := by decide +kernel
theorem d134_68 : decode (zbyt 134) 68 = .ok (.aload_n 0, 1) := by decide +kernel
theorem d134_69 : decode (zbyt 134) 69 = .ok (.iconst 3, 1) := by decide +kernel
theorem d134_70 : decode (zbyt 134) 70 = .ok (.invokevirtual 122, 3) := by decide +kernel
theorem d134_73 : decode (zbyt 134) 73 = .ok (.goto 4, 3) := by decide +kernel
theorem d134_76 : decode (zbyt 134) 76 = .ok (.iconst 0, 1) := by decide +kernel
theorem d134_77 : decode (zbyt 134) 77 = .ok (.ireturn, 1) := by decide +kernel
theorem d135_0 : decode (zbyt 135) 0 = .ok (.iload_n 1, 1) := by decide +kernel
theorem d135_1 : decode (zbyt 135) 1 = .ok (.invokestatic 130, 3) := by decide +kernel
theorem d135_4 : decode (zbyt 135) 4 = .ok (.ifCond .eq 9, 3) := by decide +kernel
theorem d135_7 : decode (zbyt 135) 7 = .ok (.aload_n 0, 1) := by decide +kernel
theorem d135_8 : decode (zbyt 135) 8 = .ok (.iconst (-1), 1) := by decide +kernel
theorem d135_9 : decode (zbyt 135) 9 = .ok (.invokevirtual 134, 3) := by decide +kernel
theorem d135_12 : decode (zbyt 135) 12 = .ok (.ireturn, 1) := by decide +kernel
theorem d135_13 : decode (zbyt 135) 13 = .ok (.iload_n 2, 1) := by decide +kernel
theorem d135_14 : decode (zbyt 135) 14 = .ok (.i2l, 1) := by decide +kernel
theorem d135_15 : decode (zbyt 135) 15 = .ok (.lconst 0, 1) := by decide +kernel
theorem d135_16 : decode (zbyt 135) 16 = .ok (.ldc2_w 137, 3) := by decide +kernel
theorem d135_19 : decode (zbyt 135) 19 = .ok (.invokestatic 86, 3) := by decide +kernel
theorem d135_22 : decode (zbyt 135) 22 = .ok (.ifCond .ne 10, 3) := by decide +kernel
theorem d135_25 : decode (zbyt 135) 25 = .ok (.aload_n 0, 1) := by decide +kernel
theorem d135_26 : decode (zbyt 135) 26 = .ok (.bipush (-2), 2) := by decide +kernel
theorem d135_28 : decode (zbyt 135) 28 = .ok (.invokevirtual 134, 3) := by decide +kernel
theorem d135_31 : decode (zbyt 135) 31 = .ok (.ireturn, 1) := by decide +kernel
theorem d135_32 : decode (zbyt 135) 32 = .ok (.aload_n 0, 1) := by decide +kernel
theorem d135_33 : decode (zbyt 135) 33 = .ok (.iload_n 1, 1) := by decide +kernel
theorem d135_34 : decode (zbyt 135) 34 = .ok (.iload_n 2, 1) := by decide +kernel
theorem d135_35 : decode (zbyt 135) 35 = .ok (.iload_n 3, 1) := by decide +kernel
theorem d135_36 : decode (zbyt 135) 36 = .ok (.iload 4, 2) := by decide +kernel
theorem d135_38 : decode (zbyt 135) 38 = .ok (.i2l, 1) := by decide +kernel
theorem d135_39 : decode (zbyt 135) 39 = .ok (.invokevirtual 139, 3) := by decide +kernel
theorem d135_42 : decode (zbyt 135) 42 = .ok (.istore 5, 2) := by decide +kernel
theorem d135_44 : decode (zbyt 135) 44 = .ok (.iload 5, 2) := by decide +kernel
theorem d135_46 : decode (zbyt 135) 46 = .ok (.ifCond .ge 6, 3) := by decide +kernel
theorem d135_49 : decode (zbyt 135) 49 = .ok (.iload 5, 2) := by decide +kernel
theorem d135_51 : decode (zbyt 135) 51 = .ok (.ireturn, 1) := by decide +kernel
theorem d135_52 : decode (zbyt 135) 52 = .ok (.aload_n 0, 1) := by decide +kernel
theorem d135_53 : decode (zbyt 135) 53 = .ok (.bipush 60, 2) := by decide +kernel
theorem d135_55 : decode (zbyt 135) 55 = .ok (.iload_n 1, 1) := by decide +kernel
theorem d135_56 : decode (zbyt 135) 56 = .ok (.imul, 1) := by decide +kernel
theorem d135_57 : decode (zbyt 135) 57 = .ok (.iload_n 3, 1) := by decide +kernel
theorem d135_58 : decode (zbyt 135) 58 = .ok (.iadd, 1) := by decide +kernel
theorem d135_59 : decode (zbyt 135) 59 = .ok (.iload 4, 2) := by decide +kernel
theorem d135_61 : decode (zbyt 135) 61 = .ok (.invokevirtual 143, 3) := by decide +kernel
theorem d135_64 : decode (zbyt 135) 64 = .ok (.ifCond .ne 15, 3) := by decide +kernel
theorem d135_67 : decode (zbyt 135) 67 = .ok (.aload_n 0, 1) := by decide +kernel
theorem d135_68 : decode (zbyt 135) 68 = .ok (.bipush (-100), 2) := by decide +kernel
theorem d135_70 : decode (zbyt 135) 70 = .ok (.aload_n 0, 1) := by decide +kernel
theorem d135_71 : decode (zbyt 135) 71 = .ok (.getfield 93, 3) := by decide +kernel
theorem d135_74 : decode (zbyt 135) 74 = .ok (.isub, 1) := by decide +kernel
theorem d135_75 : decode (zbyt 135) 75 = .ok (.invokevirtual 134, 3) := by decide +kernel
theorem d135_78 : decode (zbyt 135) 78 = .ok (.ireturn, 1) := by decide +kernel
theorem d135_79 : decode (zbyt 135) 79 = .ok (.aload_n 0, 1) := by decide +kernel
theorem d135_80 : decode (zbyt 135) 80 = .ok (.aload_n 0, 1) := by decide +kernel
theorem d135_81 : decode (zbyt 135) 81 = .ok (.getfield 102, 3) := by decide +kernel
theorem d135_84 : decode (zbyt 135) 84 = .ok (.putfield 90, 3) := by decide +kernel
theorem d135_87 : decode (zbyt 135) 87 = .ok (.aload_n 0, 1) := by decide +kernel
theorem d135_88 : decode (zbyt 135) 88 = .ok (.aload_n 0, 1) := by decide +kernel
theorem d135_89 : decode (zbyt 135) 89 = .ok (.getfield 109, 3) := by decide +kernel
theorem d135_92 : decode (zbyt 135) 92 = .ok (.putfield 83, 3) := by decide +kernel
theorem d135_95 : decode (zbyt 135) 95 = .ok (.aload_n 0, 1) := by decide +kernel
theorem d135_96 : decode (zbyt 135) 96 = .ok (.aload_n 0, 1) := by decide +kernel
theorem d135_97 : decode (zbyt 135) 97 = .ok (.getfield 112, 3) := by decide +kernel
theorem d135_100 : decode (zbyt 135) 100 = .ok (.putfield 146, 3) := by decide +kernel
theorem d135_103 : decode (zbyt 135) 103 = .ok (.aload_n 0, 1) := by decide +kernel
theorem d135_104 : decode (zbyt 135) 104 = .ok (.iconst 0, 1) := by decide +kernel
theorem d135_105 : decode (zbyt 135) 105 = .ok (.putfield 149, 3) := by decide +kernel
theorem d135_108 : decode (zbyt 135) 108 = .ok (.aload_n 0, 1) := by decide +kernel
theorem d135_109 : decode (zbyt 135) 109 = .ok (.iconst 0, 1) := by decide +kernel
theorem d135_110 : decode (zbyt 135) 110 = .ok (.putfield 152, 3) := by decide +kernel
theorem d135_113 : decode (zbyt 135) 113 = .ok (.iconst 0, 1) := by decide +kernel
theorem d135_114 : decode (zbyt 135) 114 = .ok (.istore 6, 2) := by decide +kernel
theorem d135_116 : decode (zbyt 135) 116 = .ok (.iload 6, 2) := by decide +kernel
theorem d135_118 : decode (zbyt 135) 118 = .ok (.aload_n 0, 1) := by decide +kernel
theorem d135_119 : decode (zbyt 135) 119 = .ok (.getfield 90, 3) := by decide +kernel
theorem d135_122 : decode (zbyt 135) 122 = .ok (.if_icmp .ge 23, 3) := by decide +kernel
theorem d135_125 : decode (zbyt 135) 125 = .ok (.aload_n 0, 1) := by decide +kernel
theorem d135_126 : decode (zbyt 135) 126 = .ok (.getfield 7, 3) := by decide +kernel
theorem d135_129 : decode (zbyt 135) 129 = .ok (.iload 6, 2) := by decide +kernel
theorem d135_131 : decode (zbyt 135) 131 = .ok (.aload_n 0, 1) := by decide +kernel
theorem d135_132 : decode (zbyt 135) 132 = .ok (.getfield 28, 3) := by decide +kernel
theorem d135_135 : decode (zbyt 135) 135 = .ok (.iload 6, 2) := by decide +kernel
theorem d135_137 : decode (zbyt 135) 137 = .ok (.iaload, 1) := by decide +kernel
theorem d135_138 : decode (zbyt 135) 138 = .ok (.iastore, 1) := by decide +kernel
theorem d135_139 : decode (zbyt 135) 139 = .ok (.iinc 6 1, 3) := by decide +kernel
theorem d135_142 : decode (zbyt 135) 142 = .ok (.goto (-26), 3) := by decide +kernel
theorem d135_145 : decode (zbyt 135) 145 = .ok (.iconst 0, 1) := by decide +kernel
theorem d135_146 : decode (zbyt 135) 146 = .ok (.istore 6, 2) := by decide +kernel
theorem d135_148 : decode (zbyt 135) 148 = .ok (.iload 6, 2) := by decide +kernel
theorem d135_150 : decode (zbyt 135) 150 = .ok (.aload_n 0, 1) := by decide +kernel
theorem d135_151 : decode (zbyt 135) 151 = .ok (.getfield 83, 3) := by decide +kernel
theorem d135_154 : decode (zbyt 135) 154 = .ok (.if_icmp .ge 67, 3) := by decide +kernel
theorem d135_157 : decode (zbyt 135) 157 = .ok (.aload_n 0, 1) := by decide +kernel
theorem d135_158 : decode (zbyt 135) 158 = .ok (.getfield 13, 3) := by decide +kernel
theorem d135_161 : decode (zbyt 135) 161 = .ok (.iload 6, 2) := by decide +kernel
theorem d135_163 : decode (zbyt 135) 163 = .ok (.aload_n 0, 1) := by decide +kernel
theorem d135_164 : decode (zbyt 135) 164 = .ok (.getfield 31, 3) := by decide +kernel
theorem d135_167 : decode (zbyt 135) 167 = .ok (.iload 6, 2) := by decide +kernel
theorem d135_169 : decode (zbyt 135) 169 = .ok (.iaload, 1) := by decide +kernel
theorem d135_170 : decode (zbyt 135) 170 = .ok (.iastore, 1) := by decide +kernel
theorem d135_171 : decode (zbyt 135) 171 = .ok (.aload_n 0, 1) := by decide +kernel
theorem d135_172 : decode (zbyt 135) 172 = .ok (.getfield 16, 3) := by decide +kernel
theorem d135_175 : decode (zbyt 135) 175 = .ok (.iload 6, 2) := by decide +kernel
theorem d135_177 : decode (zbyt 135) 177 = .ok (.aload_n 0, 1) := by decide +kernel
theorem d135_178 : decode (zbyt 135) 178 = .ok (.getfield 34, 3) := by decide +kernel
theorem d135_181 : decode (zbyt 135) 181 = .ok (.iload 6, 2) := by decide +kernel
theorem d135_183 : decode (zbyt 135) 183 = .ok (.iaload, 1) := by decide +kernel
theorem d135_184 : decode (zbyt 135) 184 = .ok (.iastore, 1) := by decide +kernel
theorem d135_185 : decode (zbyt 135) 185 = .ok (.aload_n 0, 1) := by decide +kernel
theorem d135_186 : decode (zbyt 135) 186 = .ok (.getfield 19, 3) := by decide +kernel
theorem d135_189 : decode (zbyt 135) 189 = .ok (.iload 6, 2) := by decide +kernel
theorem d135_191 : decode (zbyt 135) 191 = .ok (.aload_n 0, 1) := by decide +kernel
theorem d135_192 : decode (zbyt 135) 192 = .ok (.getfield 37, 3) := by decide +kernel
theorem d135_195 : decode (zbyt 135) 195 = .ok (.iload 6, 2) := by decide +kernel
theorem d135_197 : decode (zbyt 135) 197 = .ok (.iaload, 1) := by decide +kernel
theorem d135_198 : decode (zbyt 135) 198 = .ok (.iastore, 1) := by decide +kernel
theorem d135_199 : decode (zbyt 135) 199 = .ok (.aload_n 0, 1) := by decide +kernel
theorem d135_200 : decode (zbyt 135) 200 = .ok (.getfield 22, 3) := by decide +kernel
theorem d135_203 : decode (zbyt 135) 203 = .ok (.iload 6, 2) := by decide +kernel
theorem d135_205 : decode (zbyt 135) 205 = .ok (.iconst 0, 1) := by decide +kernel
theorem d135_206 : decode (zbyt 135) 206 = .ok (.iastore, 1) := by decide +kernel
theorem d135_207 : decode (zbyt 135) 207 = .ok (.aload_n 0, 1) := by decide +kernel
theorem d135_208 : decode (zbyt 135) 208 = .ok (.getfield 25, 3) := by decide +kernel
theorem d135_211 : decode (zbyt 135) 211 = .ok (.iload 6, 2) := by decide +kernel
theorem d135_213 : decode (zbyt 135) 213 = .ok (.iconst 0, 1) := by decide +kernel
theorem d135_214 : decode (zbyt 135) 214 = .ok (.iastore, 1) := by decide +kernel
theorem d135_215 : decode (zbyt 135) 215 = .ok (.iinc 6 1, 3) := by decide +kernel
theorem d135_218 : decode (zbyt 135) 218 = .ok (.goto (-70), 3) := by decide +kernel
theorem d135_221 : decode (zbyt 135) 221 = .ok (.aload_n 0, 1) := by decide +kernel
theorem d135_222 : decode (zbyt 135) 222 = .ok (.iconst 0, 1) := by decide +kernel
theorem d135_223 : decode (zbyt 135) 223 = .ok (.putfield 155, 3) := by decide +kernel
theorem d135_226 : decode (zbyt 135) 226 = .ok (.aload_n 0, 1) := by decide +kernel
theorem d135_227 : decode (zbyt 135) 227 = .ok (.aload_n 0, 1) := by decide +kernel
theorem d135_228 : decode (zbyt 135) 228 = .ok (.getfield 83, 3) := by decide +kernel
theorem d135_231 : decode (zbyt 135) 231 = .ok (.invokevirtual 134, 3) := by decide +kernel
theorem d135_234 : decode (zbyt 135) 234 = .ok (.ireturn, 1) := by decide +kernel
theorem d136_0 : decode (zbyt 136) 0 = .ok (.aload_n 0, 1) := by decide +kernel
theorem d136_1 : decode (zbyt 136) 1 = .ok (.getfield 16, 3) := by decide +kernel
theorem d136_4 : decode (zbyt 136) 4 = .ok (.iload_n 1, 1) := by decide +kernel
theorem d136_5 : decode (zbyt 136) 5 = .ok (.iaload, 1) := by decide +kernel
theorem d136_6 : decode (zbyt 136) 6 = .ok (.iconst 1, 1) := by decide +kernel
theorem d136_7 : decode (zbyt 136) 7 = .ok (.iadd, 1) := by decide +kernel
theorem d136_8 : decode (zbyt 136) 8 = .ok (.istore_n 2, 1) := by decide +kernel
theorem d136_9 : decode (zbyt 136) 9 = .ok (.aload_n 0, 1) := by decide +kernel
theorem d136_10 : decode (zbyt 136) 10 = .ok (.getfield 13, 3) := by decide +kernel
theorem d136_13 : decode (zbyt 136) 13 = .ok (.iload_n 1, 1) := by decide +kernel
theorem d136_14 : decode (zbyt 136) 14 = .ok (.iaload, 1) := by decide +kernel
theorem d136_15 : decode (zbyt 136) 15 = .ok (.ifCond .ne 12, 3) := by decide +kernel
theorem d136_18 : decode (zbyt 136) 18 = .ok (.aload_n 0, 1) := by decide +kernel
theorem d136_19 : decode (zbyt 136) 19 = .ok (.getfield 16, 3) := by decide +kernel
theorem d136_22 : decode (zbyt 136) 22 = .ok (.iload_n 1, 1) := by decide +kernel
theorem d136_23 : decode (zbyt 136) 23 = .ok (.iaload, 1) := by decide +kernel
theorem d136_24 : decode (zbyt 136) 24 = .ok (.goto 20, 3) := by decide +kernel
theorem d136_27 : decode (zbyt 136) 27 = .ok (.aload_n 0, 1) := by decide +kernel
theorem d136_28 : decode (zbyt 136) 28 = .ok (.getfield 13, 3) := by decide +kernel
theorem d136_31 : decode (zbyt 136) 31 = .ok (.iload_n 1, 1) := by decide +kernel
theorem d136_32 : decode (zbyt 136) 32 = .ok (.iaload, 1) := by decide +kernel
theorem d136_33 : decode (zbyt 136) 33 = .ok (.iconst 1, 1) := by decide +kernel
theorem d136_34 : decode (zbyt 136) 34 = .ok (.if_icmp .ne 7, 3) := by decide +kernel
theorem d136_37 : decode (zbyt 136) 37 = .ok (.iload_n 2, 1) := by decide +kernel
theorem d136_38 : decode (zbyt 136) 38 = .ok (.goto 6, 3) := by decide +kernel
theorem d136_41 : decode (zbyt 136) 41 = .ok (.iconst 2, 1) := by decide +kernel
theorem d136_42 : decode (zbyt 136) 42 = .ok (.iload_n 2, 1) := by decide +kernel
theorem d136_43 : decode (zbyt 136) 43 = .ok (.imul, 1) := by decide +kernel
theorem d136_44 : decode (zbyt 136) 44 = .ok (.ireturn, 1) := by decide +kernel
theorem d137_0 : decode (zbyt 137) 0 = .ok (.bipush (-9), 2) := by decide +kernel
theorem d137_2 : decode (zbyt 137) 2 = .ok (.istore_n 2, 1) := by decide +kernel
theorem d137_3 : decode (zbyt 137) 3 = .ok (.iconst 0, 1) := by decide +kernel
theorem d137_4 : decode (zbyt 137) 4 = .ok (.istore_n 3, 1) := by decide +kernel
theorem d137_5 : decode (zbyt 137) 5 = .ok (.iload_n 3, 1) := by decide +kernel
theorem d137_6 : decode (zbyt 137) 6 = .ok (.aload_n 0, 1) := by decide +kernel
theorem d137_7 : decode (zbyt 137) 7 = .ok (.getfield 90, 3) := by decide +kernel
theorem d137_10 : decode (zbyt 137) 10 = .ok (.if_icmp .ge 61, 3) := by decide +kernel
theorem d137_13 : decode (zbyt 137) 13 = .ok (.aload_n 0, 1) := by decide +kernel
theorem d137_14 : decode (zbyt 137) 14 = .ok (.getfield 7, 3) := by decide +kernel
theorem d137_17 : decode (zbyt 137) 17 = .ok (.iload_n 3, 1) := by decide +kernel
theorem d137_18 : decode (zbyt 137) 18 = .ok (.iaload, 1) := by decide +kernel
theorem d137_19 : decode (zbyt 137) 19 = .ok (.iload_n 1, 1) := by decide +kernel
theorem d137_20 : decode (zbyt 137) 20 = .ok (.aload_n 0, 1) := by decide +kernel
theorem d137_21 : decode (zbyt 137) 21 = .ok (.getfield 146, 3) := by decide +kernel
theorem d137_24 : decode (zbyt 137) 24 = .ok (.idiv, 1) := by decide +kernel
theorem d137_25 : decode (zbyt 137) 25 = .ok (.if_icmp .gt 26, 3) := by decide +kernel
theorem d137_28 : decode (zbyt 137) 28 = .ok (.iload_n 2, 1) := by decide +kernel
theorem d137_29 : decode (zbyt 137) 29 = .ok (.ifCond .lt 18, 3) := by decide +kernel
theorem d137_32 : decode (zbyt 137) 32 = .ok (.aload_n 0, 1) := by decide +kernel
theorem d137_33 : decode (zbyt 137) 33 = .ok (.getfield 7, 3) := by decide +kernel
theorem d137_36 : decode (zbyt 137) 36 = .ok (.iload_n 3, 1) := by decide +kernel
theorem d137_37 : decode (zbyt 137) 37 = .ok (.iaload, 1) := by decide +kernel
theorem d137_38 : decode (zbyt 137) 38 = .ok (.aload_n 0, 1) := by decide +kernel
theorem d137_39 : decode (zbyt 137) 39 = .ok (.getfield 7, 3) := by decide +kernel
theorem d137_42 : decode (zbyt 137) 42 = .ok (.iload_n 2, 1) := by decide +kernel
theorem d137_43 : decode (zbyt 137) 43 = .ok (.iaload, 1) := by decide +kernel
theorem d137_44 : decode (zbyt 137) 44 = .ok (.if_icmp .le 7, 3) := by decide +kernel
theorem d137_47 : decode (zbyt 137) 47 = .ok (.iconst 1, 1) := by decide +kernel
theorem d137_48 : decode (zbyt 137) 48 = .ok (.goto 4, 3) := by decide +kernel
theorem d137_51 : decode (zbyt 137) 51 = .ok (.iconst 0, 1) := by decide +kernel
theorem d137_52 : decode (zbyt 137) 52 = .ok (.istore 4, 2) := by decide +kernel
theorem d137_54 : decode (zbyt 137) 54 = .ok (.iload 4, 2) := by decide +kernel
theorem d137_56 : decode (zbyt 137) 56 = .ok (.ifCond .eq 7, 3) := by decide +kernel
theorem d137_59 : decode (zbyt 137) 59 = .ok (.iload_n 3, 1) := by decide +kernel
theorem d137_60 : decode (zbyt 137) 60 = .ok (.goto 4, 3) := by decide +kernel
theorem d137_63 : decode (zbyt 137) 63 = .ok (.iload_n 2, 1) := by decide +kernel
theorem d137_64 : decode (zbyt 137) 64 = .ok (.istore_n 2, 1) := by decide +kernel
theorem d137_65 : decode (zbyt 137) 65 = .ok (.iinc 3 1, 3) := by decide +kernel
theorem d137_68 : decode (zbyt 137) 68 = .ok (.goto (-63), 3) := by decide +kernel
theorem d137_71 : decode (zbyt 137) 71 = .ok (.iload_n 2, 1) := by decide +kernel
theorem d137_72 : decode (zbyt 137) 72 = .ok (.ireturn, 1) := by decide +kernel
theorem d138_0 : decode (zbyt 138) 0 = .ok (.aload_n 0, 1) := by decide +kernel
theorem d138_1 : decode (zbyt 138) 1 = .ok (.iload_n 1, 1) := by decide +kernel
theorem d138_2 : decode (zbyt 138) 2 = .ok (.invokevirtual 158, 3) := by decide +kernel
theorem d138_5 : decode (zbyt 138) 5 = .ok (.ifCond .eq 5, 3) := by decide +kernel
theorem d138_8 : decode (zbyt 138) 8 = .ok (.iconst (-1), 1) := by decide +kernel
theorem d138_9 : decode (zbyt 138) 9 = .ok (.ireturn, 1) := by decide +kernel
theorem d138_10 : decode (zbyt 138) 10 = .ok (.iload_n 2, 1) := by decide +kernel
theorem d138_11 : decode (zbyt 138) 11 = .ok (.tableswitch 122 0 8 #[49, 56, 63, 70, 76, 83, 95, 106, 115], 49) := by decide +kernel
theorem d138_60 : decode (zbyt 138) 60 = .ok (.aload_n 0, 1) := by decide +kernel
theorem d138_61 : decode (zbyt 138) 61 = .ok (.getfield 13, 3) := by decide +kernel
theorem d138_64 : decode (zbyt 138) 64 = .ok (.iload_n 1, 1) := by decide +kernel
theorem d138_65 : decode (zbyt 138) 65 = .ok (.iaload, 1) := by decide +kernel
theorem d138_66 : decode (zbyt 138) 66 = .ok (.ireturn, 1) := by decide +kernel
theorem d138_67 : decode (zbyt 138) 67 = .ok (.aload_n 0, 1) := by decide +kernel
theorem d138_68 : decode (zbyt 138) 68 = .ok (.getfield 16, 3) := by decide +kernel
theorem d138_71 : decode (zbyt 138) 71 = .ok (.iload_n 1, 1) := by decide +kernel
theorem d138_72 : decode (zbyt 138) 72 = .ok (.iaload, 1) := by decide +kernel
theorem d138_73 : decode (zbyt 138) 73 = .ok (.ireturn, 1) := by decide +kernel
theorem d138_74 : decode (zbyt 138) 74 = .ok (.aload_n 0, 1) := by decide +kernel
theorem d138_75 : decode (zbyt 138) 75 = .ok (.getfield 19, 3) := by decide +kernel
theorem d138_78 : decode (zbyt 138) 78 = .ok (.iload_n 1, 1) := by decide +kernel
theorem d138_79 : decode (zbyt 138) 79 = .ok (.iaload, 1) := by decide +kernel
theorem d138_80 : decode (zbyt 138) 80 = .ok (.ireturn, 1) := by decide +kernel
theorem d138_81 : decode (zbyt 138) 81 = .ok (.aload_n 0, 1) := by decide +kernel
theorem d138_82 : decode (zbyt 138) 82 = .ok (.iload_n 1, 1) := by decide +kernel
theorem d138_83 : decode (zbyt 138) 83 = .ok (.invokevirtual 161, 3) := by decide +kernel
theorem d138_86 : decode (zbyt 138) 86 = .ok (.ireturn, 1) := by decide +kernel
theorem d138_87 : decode (zbyt 138) 87 = .ok (.aload_n 0, 1) := by decide +kernel
theorem d138_88 : decode (zbyt 138) 88 = .ok (.getfield 22, 3) := by decide +kernel
theorem d138_91 : decode (zbyt 138) 91 = .ok (.iload_n 1, 1) := by decide +kernel
theorem d138_92 : decode (zbyt 138) 92 = .ok (.iaload, 1) := by decide +kernel
theorem d138_93 : decode (zbyt 138) 93 = .ok (.ireturn, 1) := by decide +kernel
theorem d138_94 : decode (zbyt 138) 94 = .ok (.aload_n 0, 1) := by decide +kernel
theorem d138_95 : decode (zbyt 138) 95 = .ok (.getfield 22, 3) := by decide +kernel
theorem d138_98 : decode (zbyt 138) 98 = .ok (.iload_n 1, 1) := by decide +kernel
theorem d138_99 : decode (zbyt 138) 99 = .ok (.iaload, 1) := by decide +kernel
theorem d138_100 : decode (zbyt 138) 100 = .ok (.aload_n 0, 1) := by decide +kernel
theorem d138_101 : decode (zbyt 138) 101 = .ok (.getfield 146, 3) := by decide +kernel
theorem d138_104 : decode (zbyt 138) 104 = .ok (.idiv, 1) := by decide +kernel
theorem d138_105 : decode (zbyt 138) 105 = .ok (.ireturn, 1) := by decide +kernel
theorem d138_106 : decode (zbyt 138) 106 = .ok (.aload_n 0, 1) := by decide +kernel
theorem d138_107 : decode (zbyt 138) 107 = .ok (.aload_n 0, 1) := by decide +kernel
theorem d138_108 : decode (zbyt 138) 108 = .ok (.getfield 22, 3) := by decide +kernel
theorem d138_111 : decode (zbyt 138) 111 = .ok (.iload_n 1, 1) := by decide +kernel
theorem d138_112 : decode (zbyt 138) 112 = .ok (.iaload, 1) := by decide +kernel
theorem d138_113 : decode (zbyt 138) 113 = .ok (.invokevirtual 164, 3) := by decide +kernel
theorem d138_116 : decode (zbyt 138) 116 = .ok (.ireturn, 1) := by decide +kernel
theorem d138_117 : decode (zbyt 138) 117 = .ok (.aload_n 0, 1) := by decide +kernel
theorem d138_118 : decode (zbyt 138) 118 = .ok (.getfield 152, 3) := by decide +kernel
theorem d138_121 : decode (zbyt 138) 121 = .ok (.iload_n 1, 1) := by decide +kernel
theorem d138_122 : decode (zbyt 138) 122 = .ok (.ishr, 1) := by decide +kernel
theorem d138_123 : decode (zbyt 138) 123 = .ok (.iconst 1, 1) := by decide +kernel
theorem d138_124 : decode (zbyt 138) 124 = .ok (.iand, 1) := by decide +kernel
theorem d138_125 : decode (zbyt 138) 125 = .ok (.ireturn, 1) := by decide +kernel
theorem d138_126 : decode (zbyt 138) 126 = .ok (.aload_n 0, 1) := by decide +kernel
theorem d138_127 : decode (zbyt 138) 127 = .ok (.getfield 25, 3) := by decide +kernel
theorem d138_130 : decode (zbyt 138) 130 = .ok (.iload_n 1, 1) := by decide +kernel
theorem d138_131 : decode (zbyt 138) 131 = .ok (.iaload, 1) := by decide +kernel
theorem d138_132 : decode (zbyt 138) 132 = .ok (.ireturn, 1) := by decide +kernel
theorem d138_133 : decode (zbyt 138) 133 = .ok (.bipush (-2), 2) := by decide +kernel
theorem d138_135 : decode (zbyt 138) 135 = .ok (.ireturn, 1) := by decide +kernel
theorem d139_0 : decode (zbyt 139) 0 = .ok (.aload_n 0, 1) := by decide +kernel
theorem d139_1 : decode (zbyt 139) 1 = .ok (.iload_n 1, 1) := by decide +kernel
theorem d139_2 : decode (zbyt 139) 2 = .ok (.invokevirtual 167, 3) := by decide +kernel
theorem d139_5 : decode (zbyt 139) 5 = .ok (.ifCond .eq 7, 3) := by decide +kernel
theorem d139_8 : decode (zbyt 139) 8 = .ok (.iconst (-1), 1) := by decide +kernel
theorem d139_9 : decode (zbyt 139) 9 = .ok (.goto 9, 3) := by decide +kernel
theorem d139_12 : decode (zbyt 139) 12 = .ok (.aload_n 0, 1) := by decide +kernel
theorem d139_13 : decode (zbyt 139) 13 = .ok (.getfield 7, 3) := by decide +kernel
theorem d139_16 : decode (zbyt 139) 16 = .ok (.iload_n 1, 1) := by decide +kernel
theorem d139_17 : decode (zbyt 139) 17 = .ok (.iaload, 1) := by decide +kernel
theorem d139_18 : decode (zbyt 139) 18 = .ok (.ireturn, 1) := by decide +kernel
theorem d140_0 : decode (zbyt 140) 0 = .ok (.aload_n 0, 1) := by decide +kernel
theorem d140_1 : decode (zbyt 140) 1 = .ok (.getfield 83, 3) := by decide +kernel
theorem d140_4 : decode (zbyt 140) 4 = .ok (.ifCond .ne 6, 3) := by decide +kernel
theorem d140_7 : decode (zbyt 140) 7 = .ok (.bipush (-3), 2) := by decide +kernel
theorem d140_9 : decode (zbyt 140) 9 = .ok (.ireturn, 1) := by decide +kernel
theorem d140_10 : decode (zbyt 140) 10 = .ok (.iload_n 1, 1) := by decide +kernel
theorem d140_11 : decode (zbyt 140) 11 = .ok (.i2l, 1) := by decide +kernel
theorem d140_12 : decode (zbyt 140) 12 = .ok (.lconst 1, 1) := by decide +kernel
theorem d140_13 : decode (zbyt 140) 13 = .ok (.ldc2_w 100, 3) := by decide +kernel
theorem d140_16 : decode (zbyt 140) 16 = .ok (.invokestatic 86, 3) := by decide +kernel
theorem d140_19 : decode (zbyt 140) 19 = .ok (.ifCond .ne 6, 3) := by decide +kernel
theorem d140_22 : decode (zbyt 140) 22 = .ok (.bipush (-2), 2) := by decide +kernel
theorem d140_24 : decode (zbyt 140) 24 = .ok (.ireturn, 1) := by decide +kernel
theorem d140_25 : decode (zbyt 140) 25 = .ok (.aload_n 0, 1) := by decide +kernel
theorem d140_26 : decode (zbyt 140) 26 = .ok (.getfield 146, 3) := by decide +kernel
theorem d140_29 : decode (zbyt 140) 29 = .ok (.istore_n 2, 1) := by decide +kernel
theorem d140_30 : decode (zbyt 140) 30 = .ok (.aload_n 0, 1) := by decide +kernel
theorem d140_31 : decode (zbyt 140) 31 = .ok (.iload_n 1, 1) := by decide +kernel
theorem d140_32 : decode (zbyt 140) 32 = .ok (.putfield 146, 3) := by decide +kernel
theorem d140_35 : decode (zbyt 140) 35 = .ok (.iload_n 2, 1) := by decide +kernel
theorem d140_36 : decode (zbyt 140) 36 = .ok (.ireturn, 1) := by decide +kernel
theorem d141_0 : decode (zbyt 141) 0 = .ok (.aload_n 0, 1) := by decide +kernel
theorem d141_1 : decode (zbyt 141) 1 = .ok (.iload_n 1, 1) := by decide +kernel
theorem d141_2 : decode (zbyt 141) 2 = .ok (.invokevirtual 158, 3) := by decide +kernel
theorem d141_5 : decode (zbyt 141) 5 = .ok (.ifCond .eq 5, 3) := by decide +kernel
theorem d141_8 : decode (zbyt 141) 8 = .ok (.iconst (-1), 1) := by decide +kernel
theorem d141_9 : decode (zbyt 141) 9 = .ok (.ireturn, 1) := by decide +kernel
theorem d141_10 : decode (zbyt 141) 10 = .ok (.iload_n 2, 1) := by decide +kernel
theorem d141_11 : decode (zbyt 141) 11 = .ok (.i2l, 1) := by decide +kernel
theorem d141_12 : decode (zbyt 141) 12 = .ok (.lconst 1, 1) := by decide +kernel
theorem d141_13 : decode (zbyt 141) 13 = .ok (.ldc2_w 100, 3) := by decide +kernel
theorem d141_16 : decode (zbyt 141) 16 = .ok (.invokestatic 86, 3) := by decide +kernel
theorem d141_19 : decode (zbyt 141) 19 = .ok (.ifCond .ne 6, 3) := by decide +kernel
theorem d141_22 : decode (zbyt 141) 22 = .ok (.bipush (-2), 2) := by decide +kernel
theorem d141_24 : decode (zbyt 141) 24 = .ok (.ireturn, 1) := by decide +kernel
theorem d141_25 : decode (zbyt 141) 25 = .ok (.aload_n 0, 1) := by decide +kernel
theorem d141_26 : decode (zbyt 141) 26 = .ok (.getfield 16, 3) := by decide +kernel
theorem d141_29 : decode (zbyt 141) 29 = .ok (.iload_n 1, 1) := by decide +kernel
theorem d141_30 : decode (zbyt 141) 30 = .ok (.iaload, 1) := by decide +kernel
theorem d141_31 : decode (zbyt 141) 31 = .ok (.istore_n 3, 1) := by decide +kernel
theorem d141_32 : decode (zbyt 141) 32 = .ok (.aload_n 0, 1) := by decide +kernel
theorem d141_33 : decode (zbyt 141) 33 = .ok (.getfield 16, 3) := by decide +kernel
theorem d141_36 : decode (zbyt 141) 36 = .ok (.iload_n 1, 1) := by decide +kernel
theorem d141_37 : decode (zbyt 141) 37 = .ok (.iload_n 2, 1) := by decide +kernel
theorem d141_38 : decode (zbyt 141) 38 = .ok (.iastore, 1) := by decide +kernel
theorem d141_39 : decode (zbyt 141) 39 = .ok (.iload_n 3, 1) := by decide +kernel
theorem d141_40 : decode (zbyt 141) 40 = .ok (.ireturn, 1) := by decide +kernel
theorem d142_0 : decode (zbyt 142) 0 = .ok (.aload_n 0, 1) := by decide +kernel
theorem d142_1 : decode (zbyt 142) 1 = .ok (.dup, 1) := by decide +kernel
theorem d142_2 : decode (zbyt 142) 2 = .ok (.getfield 152, 3) := by decide +kernel
theorem d142_5 : decode (zbyt 142) 5 = .ok (.iconst 1, 1) := by decide +kernel
theorem d142_6 : decode (zbyt 142) 6 = .ok (.iload_n 1, 1) := by decide +kernel
theorem d142_7 : decode (zbyt 142) 7 = .ok (.ishl, 1) := by decide +kernel
theorem d142_8 : decode (zbyt 142) 8 = .ok (.iconst (-1), 1) := by decide +kernel
theorem d142_9 : decode (zbyt 142) 9 = .ok (.ixor, 1) := by decide +kernel
theorem d142_10 : decode (zbyt 142) 10 = .ok (.iand, 1) := by decide +kernel
theorem d142_11 : decode (zbyt 142) 11 = .ok (.putfield 152, 3) := by decide +kernel
theorem d142_14 : decode (zbyt 142) 14 = .ok (.aload_n 0, 1) := by decide +kernel
theorem d142_15 : decode (zbyt 142) 15 = .ok (.getfield 22, 3) := by decide +kernel
theorem d142_18 : decode (zbyt 142) 18 = .ok (.iload_n 1, 1) := by decide +kernel
theorem d142_19 : decode (zbyt 142) 19 = .ok (.iconst 0, 1) := by decide +kernel
theorem d142_20 : decode (zbyt 142) 20 = .ok (.iastore, 1) := by decide +kernel
theorem d142_21 : decode (zbyt 142) 21 = .ok (.aload_n 0, 1) := by decide +kernel
theorem d142_22 : decode (zbyt 142) 22 = .ok (.getfield 25, 3) := by decide +kernel
theorem d142_25 : decode (zbyt 142) 25 = .ok (.iload_n 1, 1) := by decide +kernel
theorem d142_26 : decode (zbyt 142) 26 = .ok (.iconst 0, 1) := by decide +kernel
theorem d142_27 : decode (zbyt 142) 27 = .ok (.iastore, 1) := by decide +kernel
theorem d142_28 : decode (zbyt 142) 28 = .ok (.aload_n 0, 1) := by decide +kernel
theorem d142_29 : decode (zbyt 142) 29 = .ok (.dup, 1) := by decide +kernel
theorem d142_30 : decode (zbyt 142) 30 = .ok (.getfield 170, 3) := by decide +kernel
theorem d142_33 : decode (zbyt 142) 33 = .ok (.iconst 1, 1) := by decide +kernel
theorem d142_34 : decode (zbyt 142) 34 = .ok (.iadd, 1) := by decide +kernel
theorem d142_35 : decode (zbyt 142) 35 = .ok (.putfield 170, 3) := by decide +kernel
theorem d142_38 : decode (zbyt 142) 38 = .ok (.return_, 1) := by decide +kernel
theorem d143_0 : decode (zbyt 143) 0 = .ok (.iconst 0, 1) := by decide +kernel
theorem d143_1 : decode (zbyt 143) 1 = .ok (.istore_n 1, 1) := by decide +kernel
theorem d143_2 : decode (zbyt 143) 2 = .ok (.iload_n 1, 1) := by decide +kernel
theorem d143_3 : decode (zbyt 143) 3 = .ok (.aload_n 0, 1) := by decide +kernel
theorem d143_4 : decode (zbyt 143) 4 = .ok (.getfield 83, 3) := by decide +kernel
theorem d143_7 : decode (zbyt 143) 7 = .ok (.if_icmp .ge 78, 3) := by decide +kernel
theorem d143_10 : decode (zbyt 143) 10 = .ok (.aload_n 0, 1) := by decide +kernel
theorem d143_11 : decode (zbyt 143) 11 = .ok (.getfield 152, 3) := by decide +kernel
theorem d143_14 : decode (zbyt 143) 14 = .ok (.iload_n 1, 1) := by decide +kernel
theorem d143_15 : decode (zbyt 143) 15 = .ok (.invokestatic 173, 3) := by decide +kernel
theorem d143_18 : decode (zbyt 143) 18 = .ok (.ifCond .eq 26, 3) := by decide +kernel
theorem d143_21 : decode (zbyt 143) 21 = .ok (.aload_n 0, 1) := by decide +kernel
theorem d143_22 : decode (zbyt 143) 22 = .ok (.getfield 25, 3) := by decide +kernel
theorem d143_25 : decode (zbyt 143) 25 = .ok (.iload_n 1, 1) := by decide +kernel
theorem d143_26 : decode (zbyt 143) 26 = .ok (.iaload, 1) := by decide +kernel
theorem d143_27 : decode (zbyt 143) 27 = .ok (.aload_n 0, 1) := by decide +kernel
theorem d143_28 : decode (zbyt 143) 28 = .ok (.getfield 19, 3) := by decide +kernel
theorem d143_31 : decode (zbyt 143) 31 = .ok (.iload_n 1, 1) := by decide +kernel
theorem d143_32 : decode (zbyt 143) 32 = .ok (.iaload, 1) := by decide +kernel
theorem d143_33 : decode (zbyt 143) 33 = .ok (.if_icmp .ne 11, 3) := by decide +kernel
theorem d143_36 : decode (zbyt 143) 36 = .ok (.aload_n 0, 1) := by decide +kernel
theorem d143_37 : decode (zbyt 143) 37 = .ok (.iload_n 1, 1) := by decide +kernel
theorem d143_38 : decode (zbyt 143) 38 = .ok (.invokevirtual 176, 3) := by decide +kernel
theorem d143_41 : decode (zbyt 143) 41 = .ok (.goto 38, 3) := by decide +kernel
theorem d143_44 : decode (zbyt 143) 44 = .ok (.aload_n 0, 1) := by decide +kernel
theorem d143_45 : decode (zbyt 143) 45 = .ok (.getfield 152, 3) := by decide +kernel
theorem d143_48 : decode (zbyt 143) 48 = .ok (.iload_n 1, 1) := by decide +kernel
theorem d143_49 : decode (zbyt 143) 49 = .ok (.invokestatic 173, 3) := by decide +kernel
theorem d143_52 : decode (zbyt 143) 52 = .ok (.ifCond .eq 27, 3) := by decide +kernel
theorem d143_55 : decode (zbyt 143) 55 = .ok (.aload_n 0, 1) := by decide +kernel
theorem d143_56 : decode (zbyt 143) 56 = .ok (.getfield 22, 3) := by decide +kernel
theorem d143_59 : decode (zbyt 143) 59 = .ok (.iload_n 1, 1) := by decide +kernel
theorem d143_60 : decode (zbyt 143) 60 = .ok (.dup2, 1) := by decide +kernel
theorem d143_61 : decode (zbyt 143) 61 = .ok (.iaload, 1) := by decide +kernel
theorem d143_62 : decode (zbyt 143) 62 = .ok (.aload_n 0, 1) := by decide +kernel
theorem d143_63 : decode (zbyt 143) 63 = .ok (.iload_n 1, 1) := by decide +kernel
theorem d143_64 : decode (zbyt 143) 64 = .ok (.invokevirtual 161, 3) := by decide +kernel
theorem d143_67 : decode (zbyt 143) 67 = .ok (.iadd, 1) := by decide +kernel
theorem d143_68 : decode (zbyt 143) 68 = .ok (.iastore, 1) := by decide +kernel
theorem d143_69 : decode (zbyt 143) 69 = .ok (.aload_n 0, 1) := by decide +kernel
theorem d143_70 : decode (zbyt 143) 70 = .ok (.getfield 25, 3) := by decide +kernel
theorem d143_73 : decode (zbyt 143) 73 = .ok (.iload_n 1, 1) := by decide +kernel
theorem d143_74 : decode (zbyt 143) 74 = .ok (.dup2, 1) := by decide +kernel
theorem d143_75 : decode (zbyt 143) 75 = .ok (.iaload, 1) := by decide +kernel
theorem d143_76 : decode (zbyt 143) 76 = .ok (.iconst 1, 1) := by decide +kernel
theorem d143_77 : decode (zbyt 143) 77 = .ok (.iadd, 1) := by decide +kernel
theorem d143_78 : decode (zbyt 143) 78 = .ok (.iastore, 1) := by decide +kernel
theorem d143_79 : decode (zbyt 143) 79 = .ok (.iinc 1 1, 3) := by decide +kernel
theorem d143_82 : decode (zbyt 143) 82 = .ok (.goto (-80), 3) := by decide +kernel
theorem d143_85 : decode (zbyt 143) 85 = .ok (.iconst 0, 1) := by decide +kernel
theorem d143_86 : decode (zbyt 143) 86 = .ok (.istore_n 1, 1) := by decide +kernel
theorem d143_87 : decode (zbyt 143) 87 = .ok (.iload_n 1, 1) := by decide +kernel
theorem d143_88 : decode (zbyt 143) 88 = .ok (.aload_n 0, 1) := by decide +kernel
theorem d143_89 : decode (zbyt 143) 89 = .ok (.getfield 83, 3) := by decide +kernel
theorem d143_92 : decode (zbyt 143) 92 = .ok (.if_icmp .ge 40, 3) := by decide +kernel
theorem d143_95 : decode (zbyt 143) 95 = .ok (.aload_n 0, 1) := by decide +kernel
theorem d143_96 : decode (zbyt 143) 96 = .ok (.aload_n 0, 1) := by decide +kernel
theorem d143_97 : decode (zbyt 143) 97 = .ok (.getfield 22, 3) := by decide +kernel
theorem d143_100 : decode (zbyt 143) 100 = .ok (.iload_n 1, 1) := by decide +kernel
theorem d143_101 : decode (zbyt 143) 101 = .ok (.iaload, 1) := by decide +kernel
theorem d143_102 : decode (zbyt 143) 102 = .ok (.invokevirtual 164, 3) := by decide +kernel
theorem d143_105 : decode (zbyt 143) 105 = .ok (.istore_n 2, 1) := by decide +kernel
theorem d143_106 : decode (zbyt 143) 106 = .ok (.aload_n 0, 1) := by decide +kernel
theorem d143_107 : decode (zbyt 143) 107 = .ok (.dup, 1) := by decide +kernel
theorem d143_108 : decode (zbyt 143) 108 = .ok (.getfield 180, 3) := by decide +kernel
theorem d143_111 : decode (zbyt 143) 111 = .ok (.iload_n 2, 1) := by decide +kernel
theorem d143_112 : decode (zbyt 143) 112 = .ok (.ifCond .ge 7, 3) := by decide +kernel
theorem d143_115 : decode (zbyt 143) 115 = .ok (.iconst 0, 1) := by decide +kernel
theorem d143_116 : decode (zbyt 143) 116 = .ok (.goto 6, 3) := by decide +kernel
theorem d143_119 : decode (zbyt 143) 119 = .ok (.iconst 1, 1) := by decide +kernel
theorem d143_120 : decode (zbyt 143) 120 = .ok (.iload_n 2, 1) := by decide +kernel
theorem d143_121 : decode (zbyt 143) 121 = .ok (.ishl, 1) := by decide +kernel
theorem d143_122 : decode (zbyt 143) 122 = .ok (.ior, 1) := by decide +kernel
theorem d143_123 : decode (zbyt 143) 123 = .ok (.putfield 180, 3) := by decide +kernel
theorem d143_126 : decode (zbyt 143) 126 = .ok (.iinc 1 1, 3) := by decide +kernel
theorem d143_129 : decode (zbyt 143) 129 = .ok (.goto (-42), 3) := by decide +kernel
theorem d143_132 : decode (zbyt 143) 132 = .ok (.aload_n 0, 1) := by decide +kernel
theorem d143_133 : decode (zbyt 143) 133 = .ok (.dup, 1) := by decide +kernel
theorem d143_134 : decode (zbyt 143) 134 = .ok (.getfield 149, 3) := by decide +kernel
theorem d143_137 : decode (zbyt 143) 137 = .ok (.iconst 1, 1) := by decide +kernel
theorem d143_138 : decode (zbyt 143) 138 = .ok (.iadd, 1) := by decide +kernel
theorem d143_139 : decode (zbyt 143) 139 = .ok (.putfield 149, 3) := by decide +kernel
theorem d143_142 : decode (zbyt 143) 142 = .ok (.return_, 1) := by decide +kernel
theorem d144_0 : decode (zbyt 144) 0 = .ok (.iload_n 1, 1) := by decide +kernel
theorem d144_1 : decode (zbyt 144) 1 = .ok (.i2l, 1) := by decide +kernel
theorem d144_2 : decode (zbyt 144) 2 = .ok (.lconst 1, 1) := by decide +kernel
theorem d144_3 : decode (zbyt 144) 3 = .ok (.ldc2_w 183, 3) := by decide +kernel
theorem d144_6 : decode (zbyt 144) 6 = .ok (.invokestatic 86, 3) := by decide +kernel
theorem d144_9 : decode (zbyt 144) 9 = .ok (.ifCond .ne 6, 3) := by decide +kernel
theorem d144_12 : decode (zbyt 144) 12 = .ok (.bipush (-2), 2) := by decide +kernel
theorem d144_14 : decode (zbyt 144) 14 = .ok (.ireturn, 1) := by decide +kernel
theorem d144_15 : decode (zbyt 144) 15 = .ok (.aload_n 0, 1) := by decide +kernel
theorem d144_16 : decode (zbyt 144) 16 = .ok (.getfield 83, 3) := by decide +kernel
theorem d144_19 : decode (zbyt 144) 19 = .ok (.ifCond .ne 6, 3) := by decide +kernel
theorem d144_22 : decode (zbyt 144) 22 = .ok (.bipush (-3), 2) := by decide +kernel
theorem d144_24 : decode (zbyt 144) 24 = .ok (.ireturn, 1) := by decide +kernel
theorem d144_25 : decode (zbyt 144) 25 = .ok (.aload_n 0, 1) := by decide +kernel
theorem d144_26 : decode (zbyt 144) 26 = .ok (.iconst 0, 1) := by decide +kernel
theorem d144_27 : decode (zbyt 144) 27 = .ok (.putfield 170, 3) := by decide +kernel
theorem d144_30 : decode (zbyt 144) 30 = .ok (.iconst 0, 1) := by decide +kernel
theorem d144_31 : decode (zbyt 144) 31 = .ok (.istore_n 2, 1) := by decide +kernel
theorem d144_32 : decode (zbyt 144) 32 = .ok (.iload_n 2, 1) := by decide +kernel
theorem d144_33 : decode (zbyt 144) 33 = .ok (.iload_n 1, 1) := by decide +kernel
theorem d144_34 : decode (zbyt 144) 34 = .ok (.if_icmp .ge 13, 3) := by decide +kernel
theorem d144_37 : decode (zbyt 144) 37 = .ok (.aload_n 0, 1) := by decide +kernel
theorem d144_38 : decode (zbyt 144) 38 = .ok (.invokevirtual 185, 3) := by decide +kernel
theorem d144_41 : decode (zbyt 144) 41 = .ok (.iinc 2 1, 3) := by decide +kernel
theorem d144_44 : decode (zbyt 144) 44 = .ok (.goto (-12), 3) := by decide +kernel
theorem d144_47 : decode (zbyt 144) 47 = .ok (.aload_n 0, 1) := by decide +kernel
theorem d144_48 : decode (zbyt 144) 48 = .ok (.getfield 170, 3) := by decide +kernel
theorem d144_51 : decode (zbyt 144) 51 = .ok (.ireturn, 1) := by decide +kernel
theorem d145_0 : decode (zbyt 145) 0 = .ok (.aload_n 0, 1) := by decide +kernel
theorem d145_1 : decode (zbyt 145) 1 = .ok (.getfield 152, 3) := by decide +kernel
theorem d145_4 : decode (zbyt 145) 4 = .ok (.iload_n 1, 1) := by decide +kernel
theorem d145_5 : decode (zbyt 145) 5 = .ok (.invokestatic 173, 3) := by decide +kernel
theorem d145_8 : decode (zbyt 145) 8 = .ok (.ifCond .ne 7, 3) := by decide +kernel
theorem d145_11 : decode (zbyt 145) 11 = .ok (.iconst 1, 1) := by decide +kernel
theorem d145_12 : decode (zbyt 145) 12 = .ok (.goto 4, 3) := by decide +kernel
theorem d145_15 : decode (zbyt 145) 15 = .ok (.iconst 0, 1) := by decide +kernel
theorem d145_16 : decode (zbyt 145) 16 = .ok (.istore_n 2, 1) := by decide +kernel
theorem d145_17 : decode (zbyt 145) 17 = .ok (.aload_n 0, 1) := by decide +kernel
theorem d145_18 : decode (zbyt 145) 18 = .ok (.dup, 1) := by decide +kernel
theorem d145_19 : decode (zbyt 145) 19 = .ok (.getfield 152, 3) := by decide +kernel
theorem d145_22 : decode (zbyt 145) 22 = .ok (.iconst 1, 1) := by decide +kernel
theorem d145_23 : decode (zbyt 145) 23 = .ok (.iload_n 1, 1) := by decide +kernel
theorem d145_24 : decode (zbyt 145) 24 = .ok (.ishl, 1) := by decide +kernel
theorem d145_25 : decode (zbyt 145) 25 = .ok (.ior, 1) := by decide +kernel
theorem d145_26 : decode (zbyt 145) 26 = .ok (.putfield 152, 3) := by decide +kernel
theorem d145_29 : decode (zbyt 145) 29 = .ok (.iload_n 2, 1) := by decide +kernel
theorem d145_30 : decode (zbyt 145) 30 = .ok (.ireturn, 1) := by decide +kernel
theorem d146_0 : decode (zbyt 146) 0 = .ok (.aload_n 0, 1) := by decide +kernel
theorem d146_1 : decode (zbyt 146) 1 = .ok (.iload_n 1, 1) := by decide +kernel
theorem d146_2 : decode (zbyt 146) 2 = .ok (.invokevirtual 158, 3) := by decide +kernel
theorem d146_5 : decode (zbyt 146) 5 = .ok (.ifCond .eq 5, 3) := by decide +kernel
theorem d146_8 : decode (zbyt 146) 8 = .ok (.iconst (-1), 1) := by decide +kernel
theorem d146_9 : decode (zbyt 146) 9 = .ok (.ireturn, 1) := by decide +kernel
theorem d146_10 : decode (zbyt 146) 10 = .ok (.aload_n 0, 1) := by decide +kernel
theorem d146_11 : decode (zbyt 146) 11 = .ok (.iload_n 1, 1) := by decide +kernel
theorem d146_12 : decode (zbyt 146) 12 = .ok (.invokevirtual 188, 3) := by decide +kernel
theorem d146_15 : decode (zbyt 146) 15 = .ok (.ifCond .eq 13, 3) := by decide +kernel
theorem d146_18 : decode (zbyt 146) 18 = .ok (.aload_n 0, 1) := by decide +kernel
theorem d146_19 : decode (zbyt 146) 19 = .ok (.getfield 152, 3) := by decide +kernel
theorem d146_22 : decode (zbyt 146) 22 = .ok (.invokestatic 191, 3) := by decide +kernel
theorem d146_25 : decode (zbyt 146) 25 = .ok (.goto 5, 3) := by decide +kernel
theorem d146_28 : decode (zbyt 146) 28 = .ok (.bipush (-3), 2) := by decide +kernel
theorem d146_30 : decode (zbyt 146) 30 = .ok (.ireturn, 1) := by decide +kernel
theorem d147_0 : decode (zbyt 147) 0 = .ok (.aload_n 0, 1) := by decide +kernel
theorem d147_1 : decode (zbyt 147) 1 = .ok (.iload_n 1, 1) := by decide +kernel
theorem d147_2 : decode (zbyt 147) 2 = .ok (.invokevirtual 158, 3) := by decide +kernel
theorem d147_5 : decode (zbyt 147) 5 = .ok (.ifCond .eq 5, 3) := by decide +kernel
theorem d147_8 : decode (zbyt 147) 8 = .ok (.iconst (-1), 1) := by decide +kernel
theorem d147_9 : decode (zbyt 147) 9 = .ok (.ireturn, 1) := by decide +kernel
theorem d147_10 : decode (zbyt 147) 10 = .ok (.aload_n 0, 1) := by decide +kernel
theorem d147_11 : decode (zbyt 147) 11 = .ok (.getfield 152, 3) := by decide +kernel
theorem d147_14 : decode (zbyt 147) 14 = .ok (.iload_n 1, 1) := by decide +kernel
theorem d147_15 : decode (zbyt 147) 15 = .ok (.invokestatic 173, 3) := by decide +kernel
theorem d147_18 : decode (zbyt 147) 18 = .ok (.ifCond .ne 6, 3) := by decide +kernel
theorem d147_21 : decode (zbyt 147) 21 = .ok (.bipush (-3), 2) := by decide +kernel
theorem d147_23 : decode (zbyt 147) 23 = .ok (.ireturn, 1) := by decide +kernel
theorem d147_24 : decode (zbyt 147) 24 = .ok (.aload_n 0, 1) := by decide +kernel
theorem d147_25 : decode (zbyt 147) 25 = .ok (.aload_n 0, 1) := by decide +kernel
theorem d147_26 : decode (zbyt 147) 26 = .ok (.getfield 22, 3) := by decide +kernel
theorem d147_29 : decode (zbyt 147) 29 = .ok (.iload_n 1, 1) := by decide +kernel
theorem d147_30 : decode (zbyt 147) 30 = .ok (.iaload, 1) := by decide +kernel
theorem d147_31 : decode (zbyt 147) 31 = .ok (.invokevirtual 164, 3) := by decide +kernel
theorem d147_34 : decode (zbyt 147) 34 = .ok (.istore_n 2, 1) := by decide +kernel
theorem d147_35 : decode (zbyt 147) 35 = .ok (.aload_n 0, 1) := by decide +kernel
theorem d147_36 : decode (zbyt 147) 36 = .ok (.iload_n 1, 1) := by decide +kernel
theorem d147_37 : decode (zbyt 147) 37 = .ok (.invokevirtual 176, 3) := by decide +kernel
theorem d147_40 : decode (zbyt 147) 40 = .ok (.iload_n 2, 1) := by decide +kernel
theorem d147_41 : decode (zbyt 147) 41 = .ok (.ireturn, 1) := by decide +kernel
theorem d148_0 : decode (zbyt 148) 0 = .ok (.aload_n 0, 1) := by decide +kernel
theorem d148_1 : decode (zbyt 148) 1 = .ok (.aload_n 0, 1) := by decide +kernel
theorem d148_2 : decode (zbyt 148) 2 = .ok (.getfield 149, 3) := by decide +kernel
theorem d148_5 : decode (zbyt 148) 5 = .ok (.putfield 194, 3) := by decide +kernel
theorem d148_8 : decode (zbyt 148) 8 = .ok (.aload_n 0, 1) := by decide +kernel
theorem d148_9 : decode (zbyt 148) 9 = .ok (.aload_n 0, 1) := by decide +kernel
theorem d148_10 : decode (zbyt 148) 10 = .ok (.getfield 152, 3) := by decide +kernel
theorem d148_13 : decode (zbyt 148) 13 = .ok (.putfield 197, 3) := by decide +kernel
theorem d148_16 : decode (zbyt 148) 16 = .ok (.iconst 0, 1) := by decide +kernel
theorem d148_17 : decode (zbyt 148) 17 = .ok (.istore_n 1, 1) := by decide +kernel
theorem d148_18 : decode (zbyt 148) 18 = .ok (.iload_n 1, 1) := by decide +kernel
theorem d148_19 : decode (zbyt 148) 19 = .ok (.aload_n 0, 1) := by decide +kernel
theorem d148_20 : decode (zbyt 148) 20 = .ok (.getfield 83, 3) := by decide +kernel
theorem d148_23 : decode (zbyt 148) 23 = .ok (.if_icmp .ge 33, 3) := by decide +kernel
theorem d148_26 : decode (zbyt 148) 26 = .ok (.aload_n 0, 1) := by decide +kernel
theorem d148_27 : decode (zbyt 148) 27 = .ok (.getfield 40, 3) := by decide +kernel
theorem d148_30 : decode (zbyt 148) 30 = .ok (.iload_n 1, 1) := by decide +kernel
theorem d148_31 : decode (zbyt 148) 31 = .ok (.aload_n 0, 1) := by decide +kernel
theorem d148_32 : decode (zbyt 148) 32 = .ok (.getfield 22, 3) := by decide +kernel
theorem d148_35 : decode (zbyt 148) 35 = .ok (.iload_n 1, 1) := by decide +kernel
theorem d148_36 : decode (zbyt 148) 36 = .ok (.iaload, 1) := by decide +kernel
theorem d148_37 : decode (zbyt 148) 37 = .ok (.iastore, 1) := by decide +kernel
theorem d148_38 : decode (zbyt 148) 38 = .ok (.aload_n 0, 1) := by decide +kernel
theorem d148_39 : decode (zbyt 148) 39 = .ok (.getfield 43, 3) := by decide +kernel
theorem d148_42 : decode (zbyt 148) 42 = .ok (.iload_n 1, 1) := by decide +kernel
theorem d148_43 : decode (zbyt 148) 43 = .ok (.aload_n 0, 1) := by decide +kernel
theorem d148_44 : decode (zbyt 148) 44 = .ok (.getfield 25, 3) := by decide +kernel
theorem d148_47 : decode (zbyt 148) 47 = .ok (.iload_n 1, 1) := by decide +kernel
theorem d148_48 : decode (zbyt 148) 48 = .ok (.iaload, 1) := by decide +kernel
theorem d148_49 : decode (zbyt 148) 49 = .ok (.iastore, 1) := by decide +kernel
theorem d148_50 : decode (zbyt 148) 50 = .ok (.iinc 1 1, 3) := by decide +kernel
theorem d148_53 : decode (zbyt 148) 53 = .ok (.goto (-35), 3) := by decide +kernel
theorem d148_56 : decode (zbyt 148) 56 = .ok (.return_, 1) := by decide +kernel
theorem d149_0 : decode (zbyt 149) 0 = .ok (.aload_n 0, 1) := by decide +kernel
theorem d149_1 : decode (zbyt 149) 1 = .ok (.aload_n 0, 1) := by decide +kernel
theorem d149_2 : decode (zbyt 149) 2 = .ok (.getfield 194, 3) := by decide +kernel
theorem d149_5 : decode (zbyt 149) 5 = .ok (.putfield 149, 3) := by decide +kernel
theorem d149_8 : decode (zbyt 149) 8 = .ok (.aload_n 0, 1) := by decide +kernel
theorem d149_9 : decode (zbyt 149) 9 = .ok (.aload_n 0, 1) := by decide +kernel
theorem d149_10 : decode (zbyt 149) 10 = .ok (.getfield 197, 3) := by decide +kernel
theorem d149_13 : decode (zbyt 149) 13 = .ok (.putfield 152, 3) := by decide +kernel
theorem d149_16 : decode (zbyt 149) 16 = .ok (.iconst 0, 1) := by decide +kernel
theorem d149_17 : decode (zbyt 149) 17 = .ok (.istore_n 1, 1) := by decide +kernel
theorem d149_18 : decode (zbyt 149) 18 = .ok (.iload_n 1, 1) := by decide +kernel
theorem d149_19 : decode (zbyt 149) 19 = .ok (.aload_n 0, 1) := by decide +kernel
theorem d149_20 : decode (zbyt 149) 20 = .ok (.getfield 83, 3) := by decide +kernel
theorem d149_23 : decode (zbyt 149) 23 = .ok (.if_icmp .ge 33, 3) := by decide +kernel
theorem d149_26 : decode (zbyt 149) 26 = .ok (.aload_n 0, 1) := by decide +kernel
theorem d149_27 : decode (zbyt 149) 27 = .ok (.getfield 22, 3) := by decide +kernel
theorem d149_30 : decode (zbyt 149) 30 = .ok (.iload_n 1, 1) := by decide +kernel
theorem d149_31 : decode (zbyt 149) 31 = .ok (.aload_n 0, 1) := by decide +kernel
theorem d149_32 : decode (zbyt 149) 32 = .ok (.getfield 40, 3) := by decide +kernel
theorem d149_35 : decode (zbyt 149) 35 = .ok (.iload_n 1, 1) := by decide +kernel
theorem d149_36 : decode (zbyt 149) 36 = .ok (.iaload, 1) := by decide +kernel
theorem d149_37 : decode (zbyt 149) 37 = .ok (.iastore, 1) := by decide +kernel
theorem d149_38 : decode (zbyt 149) 38 = .ok (.aload_n 0, 1) := by decide +kernel
theorem d149_39 : decode (zbyt 149) 39 = .ok (.getfield 25, 3) := by decide +kernel
theorem d149_42 : decode (zbyt 149) 42 = .ok (.iload_n 1, 1) := by decide +kernel
theorem d149_43 : decode (zbyt 149) 43 = .ok (.aload_n 0, 1) := by decide +kernel
theorem d149_44 : decode (zbyt 149) 44 = .ok (.getfield 43, 3) := by decide +kernel
theorem d149_47 : decode (zbyt 149) 47 = .ok (.iload_n 1, 1) := by decide +kernel
theorem d149_48 : decode (zbyt 149) 48 = .ok (.iaload, 1) := by decide +kernel
theorem d149_49 : decode (zbyt 149) 49 = .ok (.iastore, 1) := by decide +kernel
theorem d149_50 : decode (zbyt 149) 50 = .ok (.iinc 1 1, 3) := by decide +kernel
theorem d149_53 : decode (zbyt 149) 53 = .ok (.goto (-35), 3) := by decide +kernel
theorem d149_56 : decode (zbyt 149) 56 = .ok (.return_, 1) := by decide +kernel
theorem d150_0 : decode (zbyt 150) 0 = .ok (.iconst 0, 1) := by decide +kernel
theorem d150_1 : decode (zbyt 150) 1 = .ok (.istore_n 3, 1) := by decide +kernel
theorem d150_2 : decode (zbyt 150) 2 = .ok (.iload_n 3, 1) := by decide +kernel
theorem d150_3 : decode (zbyt 150) 3 = .ok (.iload_n 2, 1) := by decide +kernel
theorem d150_4 : decode (zbyt 150) 4 = .ok (.if_icmp .ge 87, 3) := by decide +kernel
theorem d150_7 : decode (zbyt 150) 7 = .ok (.aload_n 0, 1) := by decide +kernel
theorem d150_8 : decode (zbyt 150) 8 = .ok (.getfield 67, 3) := by decide +kernel
theorem d150_11 : decode (zbyt 150) 11 = .ok (.iload_n 1, 1) := by decide +kernel
theorem d150_12 : decode (zbyt 150) 12 = .ok (.iconst 2, 1) := by decide +kernel
theorem d150_13 : decode (zbyt 150) 13 = .ok (.iload_n 3, 1) := by decide +kernel
theorem d150_14 : decode (zbyt 150) 14 = .ok (.imul, 1) := by decide +kernel
theorem d150_15 : decode (zbyt 150) 15 = .ok (.iadd, 1) := by decide +kernel
theorem d150_16 : decode (zbyt 150) 16 = .ok (.iaload, 1) := by decide +kernel
theorem d150_17 : decode (zbyt 150) 17 = .ok (.istore 4, 2) := by decide +kernel
theorem d150_19 : decode (zbyt 150) 19 = .ok (.aload_n 0, 1) := by decide +kernel
theorem d150_20 : decode (zbyt 150) 20 = .ok (.getfield 67, 3) := by decide +kernel
theorem d150_23 : decode (zbyt 150) 23 = .ok (.iload_n 1, 1) := by decide +kernel
theorem d150_24 : decode (zbyt 150) 24 = .ok (.iconst 2, 1) := by decide +kernel
theorem d150_25 : decode (zbyt 150) 25 = .ok (.iload_n 3, 1) := by decide +kernel
theorem d150_26 : decode (zbyt 150) 26 = .ok (.imul, 1) := by decide +kernel
theorem d150_27 : decode (zbyt 150) 27 = .ok (.iadd, 1) := by decide +kernel
theorem d150_28 : decode (zbyt 150) 28 = .ok (.iconst 1, 1) := by decide +kernel
theorem d150_29 : decode (zbyt 150) 29 = .ok (.iadd, 1) := by decide +kernel
theorem d150_30 : decode (zbyt 150) 30 = .ok (.iaload, 1) := by decide +kernel
theorem d150_31 : decode (zbyt 150) 31 = .ok (.istore 5, 2) := by decide +kernel
theorem d150_33 : decode (zbyt 150) 33 = .ok (.iload 5, 2) := by decide +kernel
theorem d150_35 : decode (zbyt 150) 35 = .ok (.i2l, 1) := by decide +kernel
theorem d150_36 : decode (zbyt 150) 36 = .ok (.lconst 0, 1) := by decide +kernel
theorem d150_37 : decode (zbyt 150) 37 = .ok (.ldc2_w 137, 3) := by decide +kernel
theorem d150_40 : decode (zbyt 150) 40 = .ok (.invokestatic 86, 3) := by decide +kernel
theorem d150_43 : decode (zbyt 150) 43 = .ok (.ifCond .eq 22, 3) := by decide +kernel
theorem d150_46 : decode (zbyt 150) 46 = .ok (.iload 5, 2) := by decide +kernel
theorem d150_48 : decode (zbyt 150) 48 = .ok (.iconst 2, 1) := by decide +kernel
theorem d150_49 : decode (zbyt 150) 49 = .ok (.if_icmp .ne 19, 3) := by decide +kernel
theorem d150_52 : decode (zbyt 150) 52 = .ok (.iload 4, 2) := by decide +kernel
theorem d150_54 : decode (zbyt 150) 54 = .ok (.i2l, 1) := by decide +kernel
theorem d150_55 : decode (zbyt 150) 55 = .ok (.lconst 0, 1) := by decide +kernel
theorem d150_56 : decode (zbyt 150) 56 = .ok (.ldc2_w 200, 3) := by decide +kernel
theorem d150_59 : decode (zbyt 150) 59 = .ok (.invokestatic 86, 3) := by decide +kernel
theorem d150_62 : decode (zbyt 150) 62 = .ok (.ifCond .ne 6, 3) := by decide +kernel
theorem d150_65 : decode (zbyt 150) 65 = .ok (.bipush (-2), 2) := by decide +kernel
theorem d150_67 : decode (zbyt 150) 67 = .ok (.ireturn, 1) := by decide +kernel
theorem d150_68 : decode (zbyt 150) 68 = .ok (.iload 5, 2) := by decide +kernel
theorem d150_70 : decode (zbyt 150) 70 = .ok (.iconst 2, 1) := by decide +kernel
theorem d150_71 : decode (zbyt 150) 71 = .ok (.if_icmp .ge 14, 3) := by decide +kernel
theorem d150_74 : decode (zbyt 150) 74 = .ok (.aload_n 0, 1) := by decide +kernel
theorem d150_75 : decode (zbyt 150) 75 = .ok (.iload 4, 2) := by decide +kernel
theorem d150_77 : decode (zbyt 150) 77 = .ok (.invokevirtual 158, 3) := by decide +kernel
theorem d150_80 : decode (zbyt 150) 80 = .ok (.ifCond .eq 5, 3) := by decide +kernel
theorem d150_83 : decode (zbyt 150) 83 = .ok (.iconst (-1), 1) := by decide +kernel
theorem d150_84 : decode (zbyt 150) 84 = .ok (.ireturn, 1) := by decide +kernel
theorem d150_85 : decode (zbyt 150) 85 = .ok (.iinc 3 1, 3) := by decide +kernel
theorem d150_88 : decode (zbyt 150) 88 = .ok (.goto (-86), 3) := by decide +kernel
theorem d150_91 : decode (zbyt 150) 91 = .ok (.iconst 0, 1) := by decide +kernel
theorem d150_92 : decode (zbyt 150) 92 = .ok (.ireturn, 1) := by decide +kernel
theorem d151_0 : decode (zbyt 151) 0 = .ok (.iload_n 2, 1) := by decide +kernel
theorem d151_1 : decode (zbyt 151) 1 = .ok (.ifCond .ne 9, 3) := by decide +kernel
theorem d151_4 : decode (zbyt 151) 4 = .ok (.aload_n 0, 1) := by decide +kernel
theorem d151_5 : decode (zbyt 151) 5 = .ok (.iload_n 1, 1) := by decide +kernel
theorem d151_6 : decode (zbyt 151) 6 = .ok (.invokevirtual 188, 3) := by decide +kernel
theorem d151_9 : decode (zbyt 151) 9 = .ok (.ireturn, 1) := by decide +kernel
theorem d151_10 : decode (zbyt 151) 10 = .ok (.iload_n 2, 1) := by decide +kernel
theorem d151_11 : decode (zbyt 151) 11 = .ok (.iconst 1, 1) := by decide +kernel
theorem d151_12 : decode (zbyt 151) 12 = .ok (.if_icmp .ne 23, 3) := by decide +kernel
theorem d151_15 : decode (zbyt 151) 15 = .ok (.aload_n 0, 1) := by decide +kernel
theorem d151_16 : decode (zbyt 151) 16 = .ok (.getfield 152, 3) := by decide +kernel
theorem d151_19 : decode (zbyt 151) 19 = .ok (.iload_n 1, 1) := by decide +kernel
theorem d151_20 : decode (zbyt 151) 20 = .ok (.invokestatic 173, 3) := by decide +kernel
theorem d151_23 : decode (zbyt 151) 23 = .ok (.istore_n 3, 1) := by decide +kernel
theorem d151_24 : decode (zbyt 151) 24 = .ok (.iload_n 3, 1) := by decide +kernel
theorem d151_25 : decode (zbyt 151) 25 = .ok (.ifCond .eq 8, 3) := by decide +kernel
theorem d151_28 : decode (zbyt 151) 28 = .ok (.aload_n 0, 1) := by decide +kernel
theorem d151_29 : decode (zbyt 151) 29 = .ok (.iload_n 1, 1) := by decide +kernel
theorem d151_30 : decode (zbyt 151) 30 = .ok (.invokevirtual 176, 3) := by decide +kernel
theorem d151_33 : decode (zbyt 151) 33 = .ok (.iload_n 3, 1) := by decide +kernel
theorem d151_34 : decode (zbyt 151) 34 = .ok (.ireturn, 1) := by decide +kernel
theorem d151_35 : decode (zbyt 151) 35 = .ok (.iconst 0, 1) := by decide +kernel
theorem d151_36 : decode (zbyt 151) 36 = .ok (.istore_n 3, 1) := by decide +kernel
theorem d151_37 : decode (zbyt 151) 37 = .ok (.iload_n 3, 1) := by decide +kernel
theorem d151_38 : decode (zbyt 151) 38 = .ok (.iload_n 1, 1) := by decide +kernel
theorem d151_39 : decode (zbyt 151) 39 = .ok (.if_icmp .ge 13, 3) := by decide +kernel
theorem d151_42 : decode (zbyt 151) 42 = .ok (.aload_n 0, 1) := by decide +kernel
theorem d151_43 : decode (zbyt 151) 43 = .ok (.invokevirtual 185, 3) := by decide +kernel
theorem d151_46 : decode (zbyt 151) 46 = .ok (.iinc 3 1, 3) := by decide +kernel
theorem d151_49 : decode (zbyt 151) 49 = .ok (.goto (-12), 3) := by decide +kernel
theorem d151_52 : decode (zbyt 151) 52 = .ok (.iconst 1, 1) := by decide +kernel
theorem d151_53 : decode (zbyt 151) 53 = .ok (.ireturn, 1) := by decide +kernel
theorem d152_0 : decode (zbyt 152) 0 = .ok (.bipush (-9), 2) := by decide +kernel
theorem d152_2 : decode (zbyt 152) 2 = .ok (.istore 4, 2) := by decide +kernel
theorem d152_4 : decode (zbyt 152) 4 = .ok (.aload_n 0, 1) := by decide +kernel
theorem d152_5 : decode (zbyt 152) 5 = .ok (.iconst 0, 1) := by decide +kernel
theorem d152_6 : decode (zbyt 152) 6 = .ok (.putfield 170, 3) := by decide +kernel
theorem d152_9 : decode (zbyt 152) 9 = .ok (.aload_n 0, 1) := by decide +kernel
theorem d152_10 : decode (zbyt 152) 10 = .ok (.iconst 0, 1) := by decide +kernel
theorem d152_11 : decode (zbyt 152) 11 = .ok (.putfield 180, 3) := by decide +kernel
theorem d152_14 : decode (zbyt 152) 14 = .ok (.iconst 0, 1) := by decide +kernel
theorem d152_15 : decode (zbyt 152) 15 = .ok (.istore 5, 2) := by decide +kernel
theorem d152_17 : decode (zbyt 152) 17 = .ok (.iload 5, 2) := by decide +kernel
theorem d152_19 : decode (zbyt 152) 19 = .ok (.iload_n 2, 1) := by decide +kernel
theorem d152_20 : decode (zbyt 152) 20 = .ok (.if_icmp .ge 54, 3) := by decide +kernel
theorem d152_23 : decode (zbyt 152) 23 = .ok (.iload 4, 2) := by decide +kernel
theorem d152_25 : decode (zbyt 152) 25 = .ok (.ifCond .ge 49, 3) := by decide +kernel
theorem d152_28 : decode (zbyt 152) 28 = .ok (.aload_n 0, 1) := by decide +kernel
theorem d152_29 : decode (zbyt 152) 29 = .ok (.aload_n 0, 1) := by decide +kernel
theorem d152_30 : decode (zbyt 152) 30 = .ok (.getfield 67, 3) := by decide +kernel
theorem d152_33 : decode (zbyt 152) 33 = .ok (.iload_n 1, 1) := by decide +kernel
theorem d152_34 : decode (zbyt 152) 34 = .ok (.iconst 2, 1) := by decide +kernel
theorem d152_35 : decode (zbyt 152) 35 = .ok (.iload 5, 2) := by decide +kernel
theorem d152_37 : decode (zbyt 152) 37 = .ok (.imul, 1) := by decide +kernel
theorem d152_38 : decode (zbyt 152) 38 = .ok (.iadd, 1) := by decide +kernel
theorem d152_39 : decode (zbyt 152) 39 = .ok (.iaload, 1) := by decide +kernel
theorem d152_40 : decode (zbyt 152) 40 = .ok (.aload_n 0, 1) := by decide +kernel
theorem d152_41 : decode (zbyt 152) 41 = .ok (.getfield 67, 3) := by decide +kernel
theorem d152_44 : decode (zbyt 152) 44 = .ok (.iload_n 1, 1) := by decide +kernel
theorem d152_45 : decode (zbyt 152) 45 = .ok (.iconst 2, 1) := by decide +kernel
theorem d152_46 : decode (zbyt 152) 46 = .ok (.iload 5, 2) := by decide +kernel
theorem d152_48 : decode (zbyt 152) 48 = .ok (.imul, 1) := by decide +kernel
theorem d152_49 : decode (zbyt 152) 49 = .ok (.iadd, 1) := by decide +kernel
theorem d152_50 : decode (zbyt 152) 50 = .ok (.iconst 1, 1) := by decide +kernel
theorem d152_51 : decode (zbyt 152) 51 = .ok (.iadd, 1) := by decide +kernel
theorem d152_52 : decode (zbyt 152) 52 = .ok (.iaload, 1) := by decide +kernel
theorem d152_53 : decode (zbyt 152) 53 = .ok (.invokevirtual 202, 3) := by decide +kernel
theorem d152_56 : decode (zbyt 152) 56 = .ok (.ifCond .eq 8, 3) := by decide +kernel
theorem d152_59 : decode (zbyt 152) 59 = .ok (.bipush (-9), 2) := by decide +kernel
theorem d152_61 : decode (zbyt 152) 61 = .ok (.goto 5, 3) := by decide +kernel
theorem d152_64 : decode (zbyt 152) 64 = .ok (.iload 5, 2) := by decide +kernel
theorem d152_66 : decode (zbyt 152) 66 = .ok (.istore 4, 2) := by decide +kernel
theorem d152_68 : decode (zbyt 152) 68 = .ok (.iinc 5 1, 3) := by decide +kernel
theorem d152_71 : decode (zbyt 152) 71 = .ok (.goto (-54), 3) := by decide +kernel
theorem d152_74 : decode (zbyt 152) 74 = .ok (.iload_n 3, 1) := by decide +kernel
theorem d152_75 : decode (zbyt 152) 75 = .ok (.iconst 1, 1) := by decide +kernel
theorem d152_76 : decode (zbyt 152) 76 = .ok (.if_icmp .ne 6, 3) := by decide +kernel
theorem d152_79 : decode (zbyt 152) 79 = .ok (.iload 4, 2) := by decide +kernel
theorem d152_81 : decode (zbyt 152) 81 = .ok (.ireturn, 1) := by decide +kernel
theorem d152_82 : decode (zbyt 152) 82 = .ok (.iload 4, 2) := by decide +kernel
theorem d152_84 : decode (zbyt 152) 84 = .ok (.ifCond .lt 9, 3) := by decide +kernel
theorem d152_87 : decode (zbyt 152) 87 = .ok (.bipush (-100), 2) := by decide +kernel
theorem d152_89 : decode (zbyt 152) 89 = .ok (.iload 4, 2) := by decide +kernel
theorem d152_91 : decode (zbyt 152) 91 = .ok (.isub, 1) := by decide +kernel
theorem d152_92 : decode (zbyt 152) 92 = .ok (.ireturn, 1) := by decide +kernel
theorem d152_93 : decode (zbyt 152) 93 = .ok (.iload_n 3, 1) := by decide +kernel
theorem d152_94 : decode (zbyt 152) 94 = .ok (.bipush 10, 2) := by decide +kernel
theorem d152_96 : decode (zbyt 152) 96 = .ok (.if_icmp .lt 34, 3) := by decide +kernel
theorem d152_99 : decode (zbyt 152) 99 = .ok (.aload_n 0, 1) := by decide +kernel
theorem d152_100 : decode (zbyt 152) 100 = .ok (.iload_n 3, 1) := by decide +kernel
theorem d152_101 : decode (zbyt 152) 101 = .ok (.bipush 10, 2) := by decide +kernel
theorem d152_103 : decode (zbyt 152) 103 = .ok (.isub, 1) := by decide +kernel
theorem d152_104 : decode (zbyt 152) 104 = .ok (.invokevirtual 158, 3) := by decide +kernel
theorem d152_107 : decode (zbyt 152) 107 = .ok (.ifCond .eq 8, 3) := by decide +kernel
theorem d152_110 : decode (zbyt 152) 110 = .ok (.bipush (-9), 2) := by decide +kernel
theorem d152_112 : decode (zbyt 152) 112 = .ok (.goto 17, 3) := by decide +kernel
theorem d152_115 : decode (zbyt 152) 115 = .ok (.aload_n 0, 1) := by decide +kernel
theorem d152_116 : decode (zbyt 152) 116 = .ok (.getfield 22, 3) := by decide +kernel
theorem d152_119 : decode (zbyt 152) 119 = .ok (.iload_n 3, 1) := by decide +kernel
theorem d152_120 : decode (zbyt 152) 120 = .ok (.bipush 10, 2) := by decide +kernel
theorem d152_122 : decode (zbyt 152) 122 = .ok (.isub, 1) := by decide +kernel
theorem d152_123 : decode (zbyt 152) 123 = .ok (.iaload, 1) := by decide +kernel
theorem d152_124 : decode (zbyt 152) 124 = .ok (.aload_n 0, 1) := by decide +kernel
theorem d152_125 : decode (zbyt 152) 125 = .ok (.getfield 146, 3) := by decide +kernel
theorem d152_128 : decode (zbyt 152) 128 = .ok (.idiv, 1) := by decide +kernel
theorem d152_129 : decode (zbyt 152) 129 = .ok (.ireturn, 1) := by decide +kernel
theorem d152_130 : decode (zbyt 152) 130 = .ok (.iconst 0, 1) := by decide +kernel
theorem d152_131 : decode (zbyt 152) 131 = .ok (.istore 5, 2) := by decide +kernel
theorem d152_133 : decode (zbyt 152) 133 = .ok (.iconst 0, 1) := by decide +kernel
theorem d152_134 : decode (zbyt 152) 134 = .ok (.istore 6, 2) := by decide +kernel
theorem d152_136 : decode (zbyt 152) 136 = .ok (.iload 6, 2) := by decide +kernel
theorem d152_138 : decode (zbyt 152) 138 = .ok (.aload_n 0, 1) := by decide +kernel
theorem d152_139 : decode (zbyt 152) 139 = .ok (.getfield 83, 3) := by decide +kernel
theorem d152_142 : decode (zbyt 152) 142 = .ok (.if_icmp .ge 33, 3) := by decide +kernel
theorem d152_145 : decode (zbyt 152) 145 = .ok (.iload 5, 2) := by decide +kernel
theorem d152_147 : decode (zbyt 152) 147 = .ok (.aload_n 0, 1) := by decide +kernel
theorem d152_148 : decode (zbyt 152) 148 = .ok (.aload_n 0, 1) := by decide +kernel
theorem d152_149 : decode (zbyt 152) 149 = .ok (.getfield 22, 3) := by decide +kernel
theorem d152_152 : decode (zbyt 152) 152 = .ok (.iload 6, 2) := by decide +kernel
theorem d152_154 : decode (zbyt 152) 154 = .ok (.iaload, 1) := by decide +kernel
theorem d152_155 : decode (zbyt 152) 155 = .ok (.invokevirtual 164, 3) := by decide +kernel
theorem d152_158 : decode (zbyt 152) 158 = .ok (.ifCond .ge 7, 3) := by decide +kernel
theorem d152_161 : decode (zbyt 152) 161 = .ok (.iconst 0, 1) := by decide +kernel
theorem d152_162 : decode (zbyt 152) 162 = .ok (.goto 4, 3) := by decide +kernel
theorem d152_165 : decode (zbyt 152) 165 = .ok (.iconst 1, 1) := by decide +kernel
theorem d152_166 : decode (zbyt 152) 166 = .ok (.iadd, 1) := by decide +kernel
theorem d152_167 : decode (zbyt 152) 167 = .ok (.istore 5, 2) := by decide +kernel
theorem d152_169 : decode (zbyt 152) 169 = .ok (.iinc 6 1, 3) := by decide +kernel
theorem d152_172 : decode (zbyt 152) 172 = .ok (.goto (-36), 3) := by decide +kernel
theorem d152_175 : decode (zbyt 152) 175 = .ok (.iload_n 3, 1) := by decide +kernel
theorem d152_176 : decode (zbyt 152) 176 = .ok (.ifCond .ne 8, 3) := by decide +kernel
theorem d152_179 : decode (zbyt 152) 179 = .ok (.iload 5, 2) := by decide +kernel
theorem d152_181 : decode (zbyt 152) 181 = .ok (.goto 31, 3) := by decide +kernel
theorem d152_184 : decode (zbyt 152) 184 = .ok (.iload_n 3, 1) := by decide +kernel
theorem d152_185 : decode (zbyt 152) 185 = .ok (.iconst 2, 1) := by decide +kernel
theorem d152_186 : decode (zbyt 152) 186 = .ok (.if_icmp .ne 10, 3) := by decide +kernel
theorem d152_189 : decode (zbyt 152) 189 = .ok (.aload_n 0, 1) := by decide +kernel
theorem d152_190 : decode (zbyt 152) 190 = .ok (.getfield 152, 3) := by decide +kernel
theorem d152_193 : decode (zbyt 152) 193 = .ok (.goto 19, 3) := by decide +kernel
theorem d152_196 : decode (zbyt 152) 196 = .ok (.iload_n 3, 1) := by decide +kernel
theorem d152_197 : decode (zbyt 152) 197 = .ok (.iconst 3, 1) := by decide +kernel
theorem d152_198 : decode (zbyt 152) 198 = .ok (.if_icmp .ne 10, 3) := by decide +kernel
theorem d152_201 : decode (zbyt 152) 201 = .ok (.aload_n 0, 1) := by decide +kernel
theorem d152_202 : decode (zbyt 152) 202 = .ok (.getfield 180, 3) := by decide +kernel
theorem d152_205 : decode (zbyt 152) 205 = .ok (.goto 7, 3) := by decide +kernel
theorem d152_208 : decode (zbyt 152) 208 = .ok (.aload_n 0, 1) := by decide +kernel
theorem d152_209 : decode (zbyt 152) 209 = .ok (.getfield 170, 3) := by decide +kernel
theorem d152_212 : decode (zbyt 152) 212 = .ok (.ireturn, 1) := by decide +kernel
theorem d153_0 : decode (zbyt 153) 0 = .ok (.iload_n 1, 1) := by decide +kernel
theorem d153_1 : decode (zbyt 153) 1 = .ok (.invokestatic 130, 3) := by decide +kernel
theorem d153_4 : decode (zbyt 153) 4 = .ok (.ifCond .eq 9, 3) := by decide +kernel
theorem d153_7 : decode (zbyt 153) 7 = .ok (.aload_n 0, 1) := by decide +kernel
theorem d153_8 : decode (zbyt 153) 8 = .ok (.iconst (-1), 1) := by decide +kernel
theorem d153_9 : decode (zbyt 153) 9 = .ok (.invokevirtual 134, 3) := by decide +kernel
theorem d153_12 : decode (zbyt 153) 12 = .ok (.ireturn, 1) := by decide +kernel
theorem d153_13 : decode (zbyt 153) 13 = .ok (.iload_n 2, 1) := by decide +kernel
theorem d153_14 : decode (zbyt 153) 14 = .ok (.i2l, 1) := by decide +kernel
theorem d153_15 : decode (zbyt 153) 15 = .ok (.lconst 0, 1) := by decide +kernel
theorem d153_16 : decode (zbyt 153) 16 = .ok (.ldc2_w 137, 3) := by decide +kernel
theorem d153_19 : decode (zbyt 153) 19 = .ok (.invokestatic 86, 3) := by decide +kernel
theorem d153_22 : decode (zbyt 153) 22 = .ok (.ifCond .eq 44, 3) := by decide +kernel
theorem d153_25 : decode (zbyt 153) 25 = .ok (.iload 4, 2) := by decide +kernel
theorem d153_27 : decode (zbyt 153) 27 = .ok (.i2l, 1) := by decide +kernel
theorem d153_28 : decode (zbyt 153) 28 = .ok (.lconst 0, 1) := by decide +kernel
theorem d153_29 : decode (zbyt 153) 29 = .ok (.ldc2_w 200, 3) := by decide +kernel
theorem d153_32 : decode (zbyt 153) 32 = .ok (.invokestatic 86, 3) := by decide +kernel
theorem d153_35 : decode (zbyt 153) 35 = .ok (.ifCond .eq 31, 3) := by decide +kernel
theorem d153_38 : decode (zbyt 153) 38 = .ok (.iload 5, 2) := by decide +kernel
theorem d153_40 : decode (zbyt 153) 40 = .ok (.i2l, 1) := by decide +kernel
theorem d153_41 : decode (zbyt 153) 41 = .ok (.lconst 0, 1) := by decide +kernel
theorem d153_42 : decode (zbyt 153) 42 = .ok (.ldc2_w 205, 3) := by decide +kernel
theorem d153_45 : decode (zbyt 153) 45 = .ok (.invokestatic 86, 3) := by decide +kernel
theorem d153_48 : decode (zbyt 153) 48 = .ok (.ifCond .ne 25, 3) := by decide +kernel
theorem d153_51 : decode (zbyt 153) 51 = .ok (.iload 5, 2) := by decide +kernel
theorem d153_53 : decode (zbyt 153) 53 = .ok (.i2l, 1) := by decide +kernel
theorem d153_54 : decode (zbyt 153) 54 = .ok (.ldc2_w 207, 3) := by decide +kernel
theorem d153_57 : decode (zbyt 153) 57 = .ok (.ldc2_w 209, 3) := by decide +kernel
theorem d153_60 : decode (zbyt 153) 60 = .ok (.invokestatic 86, 3) := by decide +kernel
theorem d153_63 : decode (zbyt 153) 63 = .ok (.ifCond .ne 10, 3) := by decide +kernel
theorem d153_66 : decode (zbyt 153) 66 = .ok (.aload_n 0, 1) := by decide +kernel
theorem d153_67 : decode (zbyt 153) 67 = .ok (.bipush (-2), 2) := by decide +kernel
theorem d153_69 : decode (zbyt 153) 69 = .ok (.invokevirtual 134, 3) := by decide +kernel
theorem d153_72 : decode (zbyt 153) 72 = .ok (.ireturn, 1) := by decide +kernel
theorem d153_73 : decode (zbyt 153) 73 = .ok (.aload_n 0, 1) := by decide +kernel
theorem d153_74 : decode (zbyt 153) 74 = .ok (.getfield 83, 3) := by decide +kernel
theorem d153_77 : decode (zbyt 153) 77 = .ok (.ifCond .ne 10, 3) := by decide +kernel
theorem d153_80 : decode (zbyt 153) 80 = .ok (.aload_n 0, 1) := by decide +kernel
theorem d153_81 : decode (zbyt 153) 81 = .ok (.bipush (-3), 2) := by decide +kernel
theorem d153_83 : decode (zbyt 153) 83 = .ok (.invokevirtual 134, 3) := by decide +kernel
theorem d153_86 : decode (zbyt 153) 86 = .ok (.ireturn, 1) := by decide +kernel
theorem d153_87 : decode (zbyt 153) 87 = .ok (.aload_n 0, 1) := by decide +kernel
theorem d153_88 : decode (zbyt 153) 88 = .ok (.iload_n 1, 1) := by decide +kernel
theorem d153_89 : decode (zbyt 153) 89 = .ok (.iload_n 2, 1) := by decide +kernel
theorem d153_90 : decode (zbyt 153) 90 = .ok (.iload_n 3, 1) := by decide +kernel
theorem d153_91 : decode (zbyt 153) 91 = .ok (.ldc2_w 137, 3) := by decide +kernel
theorem d153_94 : decode (zbyt 153) 94 = .ok (.iload 4, 2) := by decide +kernel
theorem d153_96 : decode (zbyt 153) 96 = .ok (.i2l, 1) := by decide +kernel
theorem d153_97 : decode (zbyt 153) 97 = .ok (.lmul, 1) := by decide +kernel
theorem d153_98 : decode (zbyt 153) 98 = .ok (.invokevirtual 139, 3) := by decide +kernel
theorem d153_101 : decode (zbyt 153) 101 = .ok (.istore 6, 2) := by decide +kernel
theorem d153_103 : decode (zbyt 153) 103 = .ok (.iload 6, 2) := by decide +kernel
theorem d153_105 : decode (zbyt 153) 105 = .ok (.ifCond .ge 6, 3) := by decide +kernel
theorem d153_108 : decode (zbyt 153) 108 = .ok (.iload 6, 2) := by decide +kernel
theorem d153_110 : decode (zbyt 153) 110 = .ok (.ireturn, 1) := by decide +kernel
theorem d153_111 : decode (zbyt 153) 111 = .ok (.aload_n 0, 1) := by decide +kernel
theorem d153_112 : decode (zbyt 153) 112 = .ok (.bipush 60, 2) := by decide +kernel
theorem d153_114 : decode (zbyt 153) 114 = .ok (.iload_n 1, 1) := by decide +kernel
theorem d153_115 : decode (zbyt 153) 115 = .ok (.imul, 1) := by decide +kernel
theorem d153_116 : decode (zbyt 153) 116 = .ok (.iload_n 3, 1) := by decide +kernel
theorem d153_117 : decode (zbyt 153) 117 = .ok (.iadd, 1) := by decide +kernel
theorem d153_118 : decode (zbyt 153) 118 = .ok (.iload 4, 2) := by decide +kernel
theorem d153_120 : decode (zbyt 153) 120 = .ok (.invokevirtual 211, 3) := by decide +kernel
theorem d153_123 : decode (zbyt 153) 123 = .ok (.istore 6, 2) := by decide +kernel
theorem d153_125 : decode (zbyt 153) 125 = .ok (.iload 6, 2) := by decide +kernel
theorem d153_127 : decode (zbyt 153) 127 = .ok (.ifCond .ge 10, 3) := by decide +kernel
theorem d153_130 : decode (zbyt 153) 130 = .ok (.aload_n 0, 1) := by decide +kernel
theorem d153_131 : decode (zbyt 153) 131 = .ok (.iload 6, 2) := by decide +kernel
theorem d153_133 : decode (zbyt 153) 133 = .ok (.invokevirtual 134, 3) := by decide +kernel
theorem d153_136 : decode (zbyt 153) 136 = .ok (.ireturn, 1) := by decide +kernel
theorem d153_137 : decode (zbyt 153) 137 = .ok (.aload_n 0, 1) := by decide +kernel
theorem d153_138 : decode (zbyt 153) 138 = .ok (.invokevirtual 214, 3) := by decide +kernel
theorem d153_141 : decode (zbyt 153) 141 = .ok (.aload_n 0, 1) := by decide +kernel
theorem d153_142 : decode (zbyt 153) 142 = .ok (.bipush 60, 2) := by decide +kernel
theorem d153_144 : decode (zbyt 153) 144 = .ok (.iload_n 1, 1) := by decide +kernel
theorem d153_145 : decode (zbyt 153) 145 = .ok (.imul, 1) := by decide +kernel
theorem d153_146 : decode (zbyt 153) 146 = .ok (.iload_n 3, 1) := by decide +kernel
theorem d153_147 : decode (zbyt 153) 147 = .ok (.iadd, 1) := by decide +kernel
theorem d153_148 : decode (zbyt 153) 148 = .ok (.iload 4, 2) := by decide +kernel
theorem d153_150 : decode (zbyt 153) 150 = .ok (.iload 5, 2) := by decide +kernel
theorem d153_152 : decode (zbyt 153) 152 = .ok (.invokevirtual 217, 3) := by decide +kernel
theorem d153_155 : decode (zbyt 153) 155 = .ok (.istore 7, 2) := by decide +kernel
theorem d153_157 : decode (zbyt 153) 157 = .ok (.aload_n 0, 1) := by decide +kernel
theorem d153_158 : decode (zbyt 153) 158 = .ok (.invokevirtual 221, 3) := by decide +kernel
theorem d153_161 : decode (zbyt 153) 161 = .ok (.aload_n 0, 1) := by decide +kernel
theorem d153_162 : decode (zbyt 153) 162 = .ok (.iload 7, 2) := by decide +kernel
theorem d153_164 : decode (zbyt 153) 164 = .ok (.invokevirtual 134, 3) := by decide +kernel
theorem d153_167 : decode (zbyt 153) 167 = .ok (.ireturn, 1) := by decide +kernel
theorem d154_0 : decode (zbyt 154) 0 = .ok (.bipush (-9), 2) := by decide +kernel
theorem d154_2 : decode (zbyt 154) 2 = .ok (.istore_n 3, 1) := by decide +kernel
theorem d154_3 : decode (zbyt 154) 3 = .ok (.aload_n 0, 1) := by decide +kernel
theorem d154_4 : decode (zbyt 154) 4 = .ok (.getfield 19, 3) := by decide +kernel
theorem d154_7 : decode (zbyt 154) 7 = .ok (.iload_n 1, 1) := by decide +kernel
theorem d154_8 : decode (zbyt 154) 8 = .ok (.iaload, 1) := by decide +kernel
theorem d154_9 : decode (zbyt 154) 9 = .ok (.istore 4, 2) := by decide +kernel
theorem d154_11 : decode (zbyt 154) 11 = .ok (.iload 4, 2) := by decide +kernel
theorem d154_13 : decode (zbyt 154) 13 = .ok (.ifCond .le 38, 3) := by decide +kernel
theorem d154_16 : decode (zbyt 154) 16 = .ok (.iload 4, 2) := by decide +kernel
theorem d154_18 : decode (zbyt 154) 18 = .ok (.aload_n 0, 1) := by decide +kernel
theorem d154_19 : decode (zbyt 154) 19 = .ok (.iload_n 1, 1) := by decide +kernel
theorem d154_20 : decode (zbyt 154) 20 = .ok (.invokevirtual 161, 3) := by decide +kernel
theorem d154_23 : decode (zbyt 154) 23 = .ok (.imul, 1) := by decide +kernel
theorem d154_24 : decode (zbyt 154) 24 = .ok (.aload_n 0, 1) := by decide +kernel
theorem d154_25 : decode (zbyt 154) 25 = .ok (.getfield 146, 3) := by decide +kernel
theorem d154_28 : decode (zbyt 154) 28 = .ok (.idiv, 1) := by decide +kernel
theorem d154_29 : decode (zbyt 154) 29 = .ok (.aload_n 0, 1) := by decide +kernel
theorem d154_30 : decode (zbyt 154) 30 = .ok (.getfield 7, 3) := by decide +kernel
theorem d154_33 : decode (zbyt 154) 33 = .ok (.iload_n 2, 1) := by decide +kernel
theorem d154_34 : decode (zbyt 154) 34 = .ok (.iaload, 1) := by decide +kernel
theorem d154_35 : decode (zbyt 154) 35 = .ok (.if_icmp .lt 8, 3) := by decide +kernel
theorem d154_38 : decode (zbyt 154) 38 = .ok (.iload 4, 2) := by decide +kernel
theorem d154_40 : decode (zbyt 154) 40 = .ok (.goto 4, 3) := by decide +kernel
theorem d154_43 : decode (zbyt 154) 43 = .ok (.iload_n 3, 1) := by decide +kernel
theorem d154_44 : decode (zbyt 154) 44 = .ok (.istore_n 3, 1) := by decide +kernel
theorem d154_45 : decode (zbyt 154) 45 = .ok (.iinc 4 (-1), 3) := by decide +kernel
theorem d154_48 : decode (zbyt 154) 48 = .ok (.goto (-37), 3) := by decide +kernel
theorem d154_51 : decode (zbyt 154) 51 = .ok (.iload_n 3, 1) := by decide +kernel
theorem d154_52 : decode (zbyt 154) 52 = .ok (.ireturn, 1) := by decide +kernel
theorem d155_0 : decode (zbyt 155) 0 = .ok (.aload_n 0, 1) := by decide +kernel
theorem d155_1 : decode (zbyt 155) 1 = .ok (.iload_n 1, 1) := by decide +kernel
theorem d155_2 : decode (zbyt 155) 2 = .ok (.invokevirtual 158, 3) := by decide +kernel
theorem d155_5 : decode (zbyt 155) 5 = .ok (.ifCond .ne 11, 3) := by decide +kernel
theorem d155_8 : decode (zbyt 155) 8 = .ok (.aload_n 0, 1) := by decide +kernel
theorem d155_9 : decode (zbyt 155) 9 = .ok (.iload_n 2, 1) := by decide +kernel
theorem d155_10 : decode (zbyt 155) 10 = .ok (.invokevirtual 167, 3) := by decide +kernel
theorem d155_13 : decode (zbyt 155) 13 = .ok (.ifCond .eq 7, 3) := by decide +kernel
theorem d155_16 : decode (zbyt 155) 16 = .ok (.iconst (-1), 1) := by decide +kernel
theorem d155_17 : decode (zbyt 155) 17 = .ok (.goto 9, 3) := by decide +kernel
theorem d155_20 : decode (zbyt 155) 20 = .ok (.aload_n 0, 1) := by decide +kernel
theorem d155_21 : decode (zbyt 155) 21 = .ok (.iload_n 1, 1) := by decide +kernel
theorem d155_22 : decode (zbyt 155) 22 = .ok (.iload_n 2, 1) := by decide +kernel
theorem d155_23 : decode (zbyt 155) 23 = .ok (.invokevirtual 224, 3) := by decide +kernel
theorem d155_26 : decode (zbyt 155) 26 = .ok (.ireturn, 1) := by decide +kernel
theorem d156_0 : decode (zbyt 156) 0 = .ok (.aload_n 0, 1) := by decide +kernel
theorem d156_1 : decode (zbyt 156) 1 = .ok (.iload_n 1, 1) := by decide +kernel
theorem d156_2 : decode (zbyt 156) 2 = .ok (.invokevirtual 158, 3) := by decide +kernel
theorem d156_5 : decode (zbyt 156) 5 = .ok (.ifCond .ne 16, 3) := by decide +kernel
theorem d156_8 : decode (zbyt 156) 8 = .ok (.aload_n 0, 1) := by decide +kernel
theorem d156_9 : decode (zbyt 156) 9 = .ok (.iload_n 2, 1) := by decide +kernel
theorem d156_10 : decode (zbyt 156) 10 = .ok (.invokevirtual 158, 3) := by decide +kernel
theorem d156_13 : decode (zbyt 156) 13 = .ok (.ifCond .ne 8, 3) := by decide +kernel
theorem d156_16 : decode (zbyt 156) 16 = .ok (.iload_n 1, 1) := by decide +kernel
theorem d156_17 : decode (zbyt 156) 17 = .ok (.iload_n 2, 1) := by decide +kernel
theorem d156_18 : decode (zbyt 156) 18 = .ok (.if_icmp .ne 5, 3) := by decide +kernel
theorem d156_21 : decode (zbyt 156) 21 = .ok (.iconst (-1), 1) := by decide +kernel
theorem d156_22 : decode (zbyt 156) 22 = .ok (.ireturn, 1) := by decide +kernel
theorem d156_23 : decode (zbyt 156) 23 = .ok (.aload_n 0, 1) := by decide +kernel
theorem d156_24 : decode (zbyt 156) 24 = .ok (.invokevirtual 214, 3) := by decide +kernel
theorem d156_27 : decode (zbyt 156) 27 = .ok (.bipush (-9), 2) := by decide +kernel
theorem d156_29 : decode (zbyt 156) 29 = .ok (.istore_n 3, 1) := by decide +kernel
theorem d156_30 : decode (zbyt 156) 30 = .ok (.iconst 0, 1) := by decide +kernel
theorem d156_31 : decode (zbyt 156) 31 = .ok (.istore 4, 2) := by decide +kernel
theorem d156_33 : decode (zbyt 156) 33 = .ok (.iload 4, 2) := by decide +kernel
theorem d156_35 : decode (zbyt 156) 35 = .ok (.bipush 99, 2) := by decide +kernel
theorem d156_37 : decode (zbyt 156) 37 = .ok (.if_icmp .gt 57, 3) := by decide +kernel
theorem d156_40 : decode (zbyt 156) 40 = .ok (.iload_n 3, 1) := by decide +kernel
theorem d156_41 : decode (zbyt 156) 41 = .ok (.ifCond .ge 53, 3) := by decide +kernel
theorem d156_44 : decode (zbyt 156) 44 = .ok (.aload_n 0, 1) := by decide +kernel
theorem d156_45 : decode (zbyt 156) 45 = .ok (.aload_n 0, 1) := by decide +kernel
theorem d156_46 : decode (zbyt 156) 46 = .ok (.getfield 22, 3) := by decide +kernel
theorem d156_49 : decode (zbyt 156) 49 = .ok (.iload_n 1, 1) := by decide +kernel
theorem d156_50 : decode (zbyt 156) 50 = .ok (.iaload, 1) := by decide +kernel
theorem d156_51 : decode (zbyt 156) 51 = .ok (.invokevirtual 164, 3) := by decide +kernel
theorem d156_54 : decode (zbyt 156) 54 = .ok (.istore 5, 2) := by decide +kernel
theorem d156_56 : decode (zbyt 156) 56 = .ok (.iload 5, 2) := by decide +kernel
theorem d156_58 : decode (zbyt 156) 58 = .ok (.ifCond .lt 23, 3) := by decide +kernel
theorem d156_61 : decode (zbyt 156) 61 = .ok (.iload 5, 2) := by decide +kernel
theorem d156_63 : decode (zbyt 156) 63 = .ok (.aload_n 0, 1) := by decide +kernel
theorem d156_64 : decode (zbyt 156) 64 = .ok (.aload_n 0, 1) := by decide +kernel
theorem d156_65 : decode (zbyt 156) 65 = .ok (.getfield 22, 3) := by decide +kernel
theorem d156_68 : decode (zbyt 156) 68 = .ok (.iload_n 2, 1) := by decide +kernel
theorem d156_69 : decode (zbyt 156) 69 = .ok (.iaload, 1) := by decide +kernel
theorem d156_70 : decode (zbyt 156) 70 = .ok (.invokevirtual 164, 3) := by decide +kernel
theorem d156_73 : decode (zbyt 156) 73 = .ok (.if_icmp .ne 8, 3) := by decide +kernel
theorem d156_76 : decode (zbyt 156) 76 = .ok (.iload 4, 2) := by decide +kernel
theorem d156_78 : decode (zbyt 156) 78 = .ok (.goto 5, 3) := by decide +kernel
theorem d156_81 : decode (zbyt 156) 81 = .ok (.bipush (-9), 2) := by decide +kernel
theorem d156_83 : decode (zbyt 156) 83 = .ok (.istore_n 3, 1) := by decide +kernel
theorem d156_84 : decode (zbyt 156) 84 = .ok (.aload_n 0, 1) := by decide +kernel
theorem d156_85 : decode (zbyt 156) 85 = .ok (.invokevirtual 185, 3) := by decide +kernel
theorem d156_88 : decode (zbyt 156) 88 = .ok (.iinc 4 1, 3) := by decide +kernel
theorem d156_91 : decode (zbyt 156) 91 = .ok (.goto (-58), 3) := by decide +kernel
theorem d156_94 : decode (zbyt 156) 94 = .ok (.aload_n 0, 1) := by decide +kernel
theorem d156_95 : decode (zbyt 156) 95 = .ok (.invokevirtual 221, 3) := by decide +kernel
theorem d156_98 : decode (zbyt 156) 98 = .ok (.iload_n 3, 1) := by decide +kernel
theorem d156_99 : decode (zbyt 156) 99 = .ok (.ireturn, 1) := by decide +kernel
theorem d157_0 : decode (zbyt 157) 0 = .ok (.aload_n 0, 1) := by decide +kernel
theorem d157_1 : decode (zbyt 157) 1 = .ok (.iload_n 1, 1) := by decide +kernel
theorem d157_2 : decode (zbyt 157) 2 = .ok (.invokevirtual 167, 3) := by decide +kernel
theorem d157_5 : decode (zbyt 157) 5 = .ok (.ifCond .ne 11, 3) := by decide +kernel
theorem d157_8 : decode (zbyt 157) 8 = .ok (.aload_n 0, 1) := by decide +kernel
theorem d157_9 : decode (zbyt 157) 9 = .ok (.iload_n 2, 1) := by decide +kernel
theorem d157_10 : decode (zbyt 157) 10 = .ok (.invokevirtual 158, 3) := by decide +kernel
theorem d157_13 : decode (zbyt 157) 13 = .ok (.ifCond .eq 5, 3) := by decide +kernel
theorem d157_16 : decode (zbyt 157) 16 = .ok (.iconst (-1), 1) := by decide +kernel
theorem d157_17 : decode (zbyt 157) 17 = .ok (.ireturn, 1) := by decide +kernel
theorem d157_18 : decode (zbyt 157) 18 = .ok (.iconst 0, 1) := by decide +kernel
theorem d157_19 : decode (zbyt 157) 19 = .ok (.istore_n 3, 1) := by decide +kernel
theorem d157_20 : decode (zbyt 157) 20 = .ok (.iconst 0, 1) := by decide +kernel
theorem d157_21 : decode (zbyt 157) 21 = .ok (.istore 4, 2) := by decide +kernel
theorem d157_23 : decode (zbyt 157) 23 = .ok (.iload 4, 2) := by decide +kernel
theorem d157_25 : decode (zbyt 157) 25 = .ok (.aload_n 0, 1) := by decide +kernel
theorem d157_26 : decode (zbyt 157) 26 = .ok (.getfield 83, 3) := by decide +kernel
theorem d157_29 : decode (zbyt 157) 29 = .ok (.if_icmp .ge 45, 3) := by decide +kernel
theorem d157_32 : decode (zbyt 157) 32 = .ok (.aload_n 0, 1) := by decide +kernel
theorem d157_33 : decode (zbyt 157) 33 = .ok (.iload 4, 2) := by decide +kernel
theorem d157_35 : decode (zbyt 157) 35 = .ok (.iload_n 1, 1) := by decide +kernel
theorem d157_36 : decode (zbyt 157) 36 = .ok (.invokevirtual 224, 3) := by decide +kernel
theorem d157_39 : decode (zbyt 157) 39 = .ok (.istore 5, 2) := by decide +kernel
theorem d157_41 : decode (zbyt 157) 41 = .ok (.iload_n 3, 1) := by decide +kernel
theorem d157_42 : decode (zbyt 157) 42 = .ok (.ifCond .lt 8, 3) := by decide +kernel
theorem d157_45 : decode (zbyt 157) 45 = .ok (.iload 5, 2) := by decide +kernel
theorem d157_47 : decode (zbyt 157) 47 = .ok (.ifCond .ge 8, 3) := by decide +kernel
theorem d157_50 : decode (zbyt 157) 50 = .ok (.bipush (-9), 2) := by decide +kernel
theorem d157_52 : decode (zbyt 157) 52 = .ok (.goto 15, 3) := by decide +kernel
theorem d157_55 : decode (zbyt 157) 55 = .ok (.iload 5, 2) := by decide +kernel
theorem d157_57 : decode (zbyt 157) 57 = .ok (.iload_n 3, 1) := by decide +kernel
theorem d157_58 : decode (zbyt 157) 58 = .ok (.if_icmp .le 8, 3) := by decide +kernel
theorem d157_61 : decode (zbyt 157) 61 = .ok (.iload 5, 2) := by decide +kernel
theorem d157_63 : decode (zbyt 157) 63 = .ok (.goto 4, 3) := by decide +kernel
theorem d157_66 : decode (zbyt 157) 66 = .ok (.iload_n 3, 1) := by decide +kernel
theorem d157_67 : decode (zbyt 157) 67 = .ok (.istore_n 3, 1) := by decide +kernel
theorem d157_68 : decode (zbyt 157) 68 = .ok (.iinc 4 1, 3) := by decide +kernel
theorem d157_71 : decode (zbyt 157) 71 = .ok (.goto (-48), 3) := by decide +kernel
theorem d157_74 : decode (zbyt 157) 74 = .ok (.iload_n 3, 1) := by decide +kernel
theorem d157_75 : decode (zbyt 157) 75 = .ok (.ifCond .ge 8, 3) := by decide +kernel
theorem d157_78 : decode (zbyt 157) 78 = .ok (.bipush (-9), 2) := by decide +kernel
theorem d157_80 : decode (zbyt 157) 80 = .ok (.goto 11, 3) := by decide +kernel
theorem d157_83 : decode (zbyt 157) 83 = .ok (.iload_n 3, 1) := by decide +kernel
theorem d157_84 : decode (zbyt 157) 84 = .ok (.aload_n 0, 1) := by decide +kernel
theorem d157_85 : decode (zbyt 157) 85 = .ok (.iload_n 2, 1) := by decide +kernel
theorem d157_86 : decode (zbyt 157) 86 = .ok (.iload_n 1, 1) := by decide +kernel
theorem d157_87 : decode (zbyt 157) 87 = .ok (.invokevirtual 224, 3) := by decide +kernel
theorem d157_90 : decode (zbyt 157) 90 = .ok (.isub, 1) := by decide +kernel
theorem d157_91 : decode (zbyt 157) 91 = .ok (.ireturn, 1) := by decide +kernel
theorem d158_0 : decode (zbyt 158) 0 = .ok (.iconst 0, 1) := by decide +kernel
theorem d158_1 : decode (zbyt 158) 1 = .ok (.istore_n 2, 1) := by decide +kernel
theorem d158_2 : decode (zbyt 158) 2 = .ok (.iconst 0, 1) := by decide +kernel
theorem d158_3 : decode (zbyt 158) 3 = .ok (.istore_n 3, 1) := by decide +kernel
theorem d158_4 : decode (zbyt 158) 4 = .ok (.iload_n 3, 1) := by decide +kernel
theorem d158_5 : decode (zbyt 158) 5 = .ok (.aload_n 0, 1) := by decide +kernel
theorem d158_6 : decode (zbyt 158) 6 = .ok (.getfield 83, 3) := by decide +kernel
theorem d158_9 : decode (zbyt 158) 9 = .ok (.if_icmp .ge 56, 3) := by decide +kernel
theorem d158_12 : decode (zbyt 158) 12 = .ok (.iconst 0, 1) := by decide +kernel
theorem d158_13 : decode (zbyt 158) 13 = .ok (.istore 4, 2) := by decide +kernel
theorem d158_15 : decode (zbyt 158) 15 = .ok (.iload 4, 2) := by decide +kernel
theorem d158_17 : decode (zbyt 158) 17 = .ok (.aload_n 0, 1) := by decide +kernel
theorem d158_18 : decode (zbyt 158) 18 = .ok (.getfield 90, 3) := by decide +kernel
theorem d158_21 : decode (zbyt 158) 21 = .ok (.if_icmp .ge 38, 3) := by decide +kernel
theorem d158_24 : decode (zbyt 158) 24 = .ok (.iload_n 2, 1) := by decide +kernel
theorem d158_25 : decode (zbyt 158) 25 = .ok (.iload_n 1, 1) := by decide +kernel
theorem d158_26 : decode (zbyt 158) 26 = .ok (.iload_n 3, 1) := by decide +kernel
theorem d158_27 : decode (zbyt 158) 27 = .ok (.invokestatic 173, 3) := by decide +kernel
theorem d158_30 : decode (zbyt 158) 30 = .ok (.ifCond .eq 20, 3) := by decide +kernel
theorem d158_33 : decode (zbyt 158) 33 = .ok (.aload_n 0, 1) := by decide +kernel
theorem d158_34 : decode (zbyt 158) 34 = .ok (.iload_n 3, 1) := by decide +kernel
theorem d158_35 : decode (zbyt 158) 35 = .ok (.iload 4, 2) := by decide +kernel
theorem d158_37 : decode (zbyt 158) 37 = .ok (.invokevirtual 224, 3) := by decide +kernel
theorem d158_40 : decode (zbyt 158) 40 = .ok (.ifCond .lt 10, 3) := by decide +kernel
theorem d158_43 : decode (zbyt 158) 43 = .ok (.iconst 1, 1) := by decide +kernel
theorem d158_44 : decode (zbyt 158) 44 = .ok (.iload 4, 2) := by decide +kernel
theorem d158_46 : decode (zbyt 158) 46 = .ok (.ishl, 1) := by decide +kernel
theorem d158_47 : decode (zbyt 158) 47 = .ok (.goto 4, 3) := by decide +kernel
theorem d158_50 : decode (zbyt 158) 50 = .ok (.iconst 0, 1) := by decide +kernel
theorem d158_51 : decode (zbyt 158) 51 = .ok (.ior, 1) := by decide +kernel
theorem d158_52 : decode (zbyt 158) 52 = .ok (.istore_n 2, 1) := by decide +kernel
theorem d158_53 : decode (zbyt 158) 53 = .ok (.iinc 4 1, 3) := by decide +kernel
theorem d158_56 : decode (zbyt 158) 56 = .ok (.goto (-41), 3) := by decide +kernel
theorem d158_59 : decode (zbyt 158) 59 = .ok (.iinc 3 1, 3) := by decide +kernel
theorem d158_62 : decode (zbyt 158) 62 = .ok (.goto (-58), 3) := by decide +kernel
theorem d158_65 : decode (zbyt 158) 65 = .ok (.iload_n 2, 1) := by decide +kernel
theorem d158_66 : decode (zbyt 158) 66 = .ok (.ireturn, 1) := by decide +kernel
theorem d159_0 : decode (zbyt 159) 0 = .ok (.aload_n 0, 1) := by decide +kernel
theorem d159_1 : decode (zbyt 159) 1 = .ok (.getfield 83, 3) := by decide +kernel
theorem d159_4 : decode (zbyt 159) 4 = .ok (.ifCond .ne 6, 3) := by decide +kernel
theorem d159_7 : decode (zbyt 159) 7 = .ok (.bipush (-3), 2) := by decide +kernel
theorem d159_9 : decode (zbyt 159) 9 = .ok (.ireturn, 1) := by decide +kernel
theorem d159_10 : decode (zbyt 159) 10 = .ok (.iconst 1, 1) := by decide +kernel
theorem d159_11 : decode (zbyt 159) 11 = .ok (.aload_n 0, 1) := by decide +kernel
theorem d159_12 : decode (zbyt 159) 12 = .ok (.getfield 83, 3) := by decide +kernel
theorem d159_15 : decode (zbyt 159) 15 = .ok (.ishl, 1) := by decide +kernel
theorem d159_16 : decode (zbyt 159) 16 = .ok (.iconst 1, 1) := by decide +kernel
theorem d159_17 : decode (zbyt 159) 17 = .ok (.isub, 1) := by decide +kernel
theorem d159_18 : decode (zbyt 159) 18 = .ok (.istore_n 1, 1) := by decide +kernel
theorem d159_19 : decode (zbyt 159) 19 = .ok (.aload_n 0, 1) := by decide +kernel
theorem d159_20 : decode (zbyt 159) 20 = .ok (.iload_n 1, 1) := by decide +kernel
theorem d159_21 : decode (zbyt 159) 21 = .ok (.invokevirtual 227, 3) := by decide +kernel
theorem d159_24 : decode (zbyt 159) 24 = .ok (.istore_n 2, 1) := by decide +kernel
theorem d159_25 : decode (zbyt 159) 25 = .ok (.iload_n 1, 1) := by decide +kernel
theorem d159_26 : decode (zbyt 159) 26 = .ok (.istore_n 3, 1) := by decide +kernel
theorem d159_27 : decode (zbyt 159) 27 = .ok (.iload_n 1, 1) := by decide +kernel
theorem d159_28 : decode (zbyt 159) 28 = .ok (.istore 4, 2) := by decide +kernel
theorem d159_30 : decode (zbyt 159) 30 = .ok (.iload 4, 2) := by decide +kernel
theorem d159_32 : decode (zbyt 159) 32 = .ok (.ifCond .lt 38, 3) := by decide +kernel
theorem d159_35 : decode (zbyt 159) 35 = .ok (.aload_n 0, 1) := by decide +kernel
theorem d159_36 : decode (zbyt 159) 36 = .ok (.iload 4, 2) := by decide +kernel
theorem d159_38 : decode (zbyt 159) 38 = .ok (.invokevirtual 227, 3) := by decide +kernel
theorem d159_41 : decode (zbyt 159) 41 = .ok (.iload_n 2, 1) := by decide +kernel
theorem d159_42 : decode (zbyt 159) 42 = .ok (.if_icmp .ne 20, 3) := by decide +kernel
theorem d159_45 : decode (zbyt 159) 45 = .ok (.iload 4, 2) := by decide +kernel
theorem d159_47 : decode (zbyt 159) 47 = .ok (.invokestatic 191, 3) := by decide +kernel
theorem d159_50 : decode (zbyt 159) 50 = .ok (.iload_n 3, 1) := by decide +kernel
theorem d159_51 : decode (zbyt 159) 51 = .ok (.invokestatic 191, 3) := by decide +kernel
theorem d159_54 : decode (zbyt 159) 54 = .ok (.if_icmp .gt 8, 3) := by decide +kernel
theorem d159_57 : decode (zbyt 159) 57 = .ok (.iload 4, 2) := by decide +kernel
theorem d159_59 : decode (zbyt 159) 59 = .ok (.goto 4, 3) := by decide +kernel
theorem d159_62 : decode (zbyt 159) 62 = .ok (.iload_n 3, 1) := by decide +kernel
theorem d159_63 : decode (zbyt 159) 63 = .ok (.istore_n 3, 1) := by decide +kernel
theorem d159_64 : decode (zbyt 159) 64 = .ok (.iinc 4 (-1), 3) := by decide +kernel
theorem d159_67 : decode (zbyt 159) 67 = .ok (.goto (-37), 3) := by decide +kernel
theorem d159_70 : decode (zbyt 159) 70 = .ok (.iload_n 3, 1) := by decide +kernel
theorem d159_71 : decode (zbyt 159) 71 = .ok (.ireturn, 1) := by decide +kernel
theorem d160_0 : decode (zbyt 160) 0 = .ok (.iload_n 1, 1) := by decide +kernel
theorem d160_1 : decode (zbyt 160) 1 = .ok (.istore_n 2, 1) := by decide +kernel
theorem d160_2 : decode (zbyt 160) 2 = .ok (.aload_n 0, 1) := by decide +kernel
theorem d160_3 : decode (zbyt 160) 3 = .ok (.getfield 83, 3) := by decide +kernel
theorem d160_6 : decode (zbyt 160) 6 = .ok (.iconst 1, 1) := by decide +kernel
theorem d160_7 : decode (zbyt 160) 7 = .ok (.isub, 1) := by decide +kernel
theorem d160_8 : decode (zbyt 160) 8 = .ok (.istore_n 3, 1) := by decide +kernel
theorem d160_9 : decode (zbyt 160) 9 = .ok (.iload_n 3, 1) := by decide +kernel
theorem d160_10 : decode (zbyt 160) 10 = .ok (.ifCond .lt 32, 3) := by decide +kernel
theorem d160_13 : decode (zbyt 160) 13 = .ok (.aload_n 0, 1) := by decide +kernel
theorem d160_14 : decode (zbyt 160) 14 = .ok (.getfield 46, 3) := by decide +kernel
theorem d160_17 : decode (zbyt 160) 17 = .ok (.iload_n 3, 1) := by decide +kernel
theorem d160_18 : decode (zbyt 160) 18 = .ok (.iload_n 2, 1) := by decide +kernel
theorem d160_19 : decode (zbyt 160) 19 = .ok (.aload_n 0, 1) := by decide +kernel
theorem d160_20 : decode (zbyt 160) 20 = .ok (.getfield 90, 3) := by decide +kernel
theorem d160_23 : decode (zbyt 160) 23 = .ok (.iconst 1, 1) := by decide +kernel
theorem d160_24 : decode (zbyt 160) 24 = .ok (.iadd, 1) := by decide +kernel
theorem d160_25 : decode (zbyt 160) 25 = .ok (.irem, 1) := by decide +kernel
theorem d160_26 : decode (zbyt 160) 26 = .ok (.iastore, 1) := by decide +kernel
theorem d160_27 : decode (zbyt 160) 27 = .ok (.iload_n 2, 1) := by decide +kernel
theorem d160_28 : decode (zbyt 160) 28 = .ok (.aload_n 0, 1) := by decide +kernel
theorem d160_29 : decode (zbyt 160) 29 = .ok (.getfield 90, 3) := by decide +kernel
theorem d160_32 : decode (zbyt 160) 32 = .ok (.iconst 1, 1) := by decide +kernel
theorem d160_33 : decode (zbyt 160) 33 = .ok (.iadd, 1) := by decide +kernel
theorem d160_34 : decode (zbyt 160) 34 = .ok (.idiv, 1) := by decide +kernel
theorem d160_35 : decode (zbyt 160) 35 = .ok (.istore_n 2, 1) := by decide +kernel
theorem d160_36 : decode (zbyt 160) 36 = .ok (.iinc 3 (-1), 3) := by decide +kernel
theorem d160_39 : decode (zbyt 160) 39 = .ok (.goto (-30), 3) := by decide +kernel
theorem d160_42 : decode (zbyt 160) 42 = .ok (.return_, 1) := by decide +kernel
theorem d161_0 : decode (zbyt 161) 0 = .ok (.iconst 0, 1) := by decide +kernel
theorem d161_1 : decode (zbyt 161) 1 = .ok (.istore_n 1, 1) := by decide +kernel
theorem d161_2 : decode (zbyt 161) 2 = .ok (.iconst 0, 1) := by decide +kernel
theorem d161_3 : decode (zbyt 161) 3 = .ok (.istore_n 2, 1) := by decide +kernel
theorem d161_4 : decode (zbyt 161) 4 = .ok (.iconst 0, 1) := by decide +kernel
theorem d161_5 : decode (zbyt 161) 5 = .ok (.istore_n 3, 1) := by decide +kernel
theorem d161_6 : decode (zbyt 161) 6 = .ok (.iconst 1, 1) := by decide +kernel
theorem d161_7 : decode (zbyt 161) 7 = .ok (.istore 4, 2) := by decide +kernel
theorem d161_9 : decode (zbyt 161) 9 = .ok (.iconst 0, 1) := by decide +kernel
theorem d161_10 : decode (zbyt 161) 10 = .ok (.istore 5, 2) := by decide +kernel
theorem d161_12 : decode (zbyt 161) 12 = .ok (.iload 5, 2) := by decide +kernel
theorem d161_14 : decode (zbyt 161) 14 = .ok (.aload_n 0, 1) := by decide +kernel
theorem d161_15 : decode (zbyt 161) 15 = .ok (.getfield 83, 3) := by decide +kernel
theorem d161_18 : decode (zbyt 161) 18 = .ok (.if_icmp .ge 129, 3) := by decide +kernel
theorem d161_21 : decode (zbyt 161) 21 = .ok (.aload_n 0, 1) := by decide +kernel
theorem d161_22 : decode (zbyt 161) 22 = .ok (.getfield 46, 3) := by decide +kernel
theorem d161_25 : decode (zbyt 161) 25 = .ok (.iload 5, 2) := by decide +kernel
theorem d161_27 : decode (zbyt 161) 27 = .ok (.iaload, 1) := by decide +kernel
theorem d161_28 : decode (zbyt 161) 28 = .ok (.aload_n 0, 1) := by decide +kernel
theorem d161_29 : decode (zbyt 161) 29 = .ok (.getfield 90, 3) := by decide +kernel
theorem d161_32 : decode (zbyt 161) 32 = .ok (.if_icmp .ge 7, 3) := by decide +kernel
theorem d161_35 : decode (zbyt 161) 35 = .ok (.iconst 1, 1) := by decide +kernel
theorem d161_36 : decode (zbyt 161) 36 = .ok (.goto 4, 3) := by decide +kernel
theorem d161_39 : decode (zbyt 161) 39 = .ok (.iconst 0, 1) := by decide +kernel
theorem d161_40 : decode (zbyt 161) 40 = .ok (.istore 6, 2) := by decide +kernel
theorem d161_42 : decode (zbyt 161) 42 = .ok (.iload 6, 2) := by decide +kernel
theorem d161_44 : decode (zbyt 161) 44 = .ok (.ifCond .eq 19, 3) := by decide +kernel
theorem d161_47 : decode (zbyt 161) 47 = .ok (.aload_n 0, 1) := by decide +kernel
theorem d161_48 : decode (zbyt 161) 48 = .ok (.iload 5, 2) := by decide +kernel
theorem d161_50 : decode (zbyt 161) 50 = .ok (.aload_n 0, 1) := by decide +kernel
theorem d161_51 : decode (zbyt 161) 51 = .ok (.getfield 46, 3) := by decide +kernel
theorem d161_54 : decode (zbyt 161) 54 = .ok (.iload 5, 2) := by decide +kernel
theorem d161_56 : decode (zbyt 161) 56 = .ok (.iaload, 1) := by decide +kernel
theorem d161_57 : decode (zbyt 161) 57 = .ok (.invokevirtual 224, 3) := by decide +kernel
theorem d161_60 : decode (zbyt 161) 60 = .ok (.goto 4, 3) := by decide +kernel
theorem d161_63 : decode (zbyt 161) 63 = .ok (.iconst 0, 1) := by decide +kernel
theorem d161_64 : decode (zbyt 161) 64 = .ok (.istore 7, 2) := by decide +kernel
theorem d161_66 : decode (zbyt 161) 66 = .ok (.iload 4, 2) := by decide +kernel
theorem d161_68 : decode (zbyt 161) 68 = .ok (.ifCond .eq 31, 3) := by decide +kernel
theorem d161_71 : decode (zbyt 161) 71 = .ok (.iload 7, 2) := by decide +kernel
theorem d161_73 : decode (zbyt 161) 73 = .ok (.ifCond .lt 26, 3) := by decide +kernel
theorem d161_76 : decode (zbyt 161) 76 = .ok (.iload 6, 2) := by decide +kernel
theorem d161_78 : decode (zbyt 161) 78 = .ok (.ifCond .eq 17, 3) := by decide +kernel
theorem d161_81 : decode (zbyt 161) 81 = .ok (.iload_n 1, 1) := by decide +kernel
theorem d161_82 : decode (zbyt 161) 82 = .ok (.aload_n 0, 1) := by decide +kernel
theorem d161_83 : decode (zbyt 161) 83 = .ok (.getfield 46, 3) := by decide +kernel
theorem d161_86 : decode (zbyt 161) 86 = .ok (.iload 5, 2) := by decide +kernel
theorem d161_88 : decode (zbyt 161) 88 = .ok (.iaload, 1) := by decide +kernel
theorem d161_89 : decode (zbyt 161) 89 = .ok (.invokestatic 173, 3) := by decide +kernel
theorem d161_92 : decode (zbyt 161) 92 = .ok (.ifCond .ne 7, 3) := by decide +kernel
theorem d161_95 : decode (zbyt 161) 95 = .ok (.iconst 1, 1) := by decide +kernel
theorem d161_96 : decode (zbyt 161) 96 = .ok (.goto 4, 3) := by decide +kernel
theorem d161_99 : decode (zbyt 161) 99 = .ok (.iconst 0, 1) := by decide +kernel
theorem d161_100 : decode (zbyt 161) 100 = .ok (.istore 4, 2) := by decide +kernel
theorem d161_102 : decode (zbyt 161) 102 = .ok (.iload_n 1, 1) := by decide +kernel
theorem d161_103 : decode (zbyt 161) 103 = .ok (.iload 6, 2) := by decide +kernel
theorem d161_105 : decode (zbyt 161) 105 = .ok (.ifCond .eq 15, 3) := by decide +kernel
theorem d161_108 : decode (zbyt 161) 108 = .ok (.iconst 1, 1) := by decide +kernel
theorem d161_109 : decode (zbyt 161) 109 = .ok (.aload_n 0, 1) := by decide +kernel
theorem d161_110 : decode (zbyt 161) 110 = .ok (.getfield 46, 3) := by decide +kernel
theorem d161_113 : decode (zbyt 161) 113 = .ok (.iload 5, 2) := by decide +kernel
theorem d161_115 : decode (zbyt 161) 115 = .ok (.iaload, 1) := by decide +kernel
theorem d161_116 : decode (zbyt 161) 116 = .ok (.ishl, 1) := by decide +kernel
theorem d161_117 : decode (zbyt 161) 117 = .ok (.goto 4, 3) := by decide +kernel
theorem d161_120 : decode (zbyt 161) 120 = .ok (.iconst 0, 1) := by decide +kernel
theorem d161_121 : decode (zbyt 161) 121 = .ok (.ior, 1) := by decide +kernel
theorem d161_122 : decode (zbyt 161) 122 = .ok (.istore_n 1, 1) := by decide +kernel
theorem d161_123 : decode (zbyt 161) 123 = .ok (.iload_n 2, 1) := by decide +kernel
theorem d161_124 : decode (zbyt 161) 124 = .ok (.iload 6, 2) := by decide +kernel
theorem d161_126 : decode (zbyt 161) 126 = .ok (.ifCond .eq 7, 3) := by decide +kernel
theorem d161_129 : decode (zbyt 161) 129 = .ok (.iconst 1, 1) := by decide +kernel
theorem d161_130 : decode (zbyt 161) 130 = .ok (.goto 4, 3) := by decide +kernel
theorem d161_133 : decode (zbyt 161) 133 = .ok (.iconst 0, 1) := by decide +kernel
theorem d161_134 : decode (zbyt 161) 134 = .ok (.iadd, 1) := by decide +kernel
theorem d161_135 : decode (zbyt 161) 135 = .ok (.istore_n 2, 1) := by decide +kernel
theorem d161_136 : decode (zbyt 161) 136 = .ok (.iload_n 3, 1) := by decide +kernel
theorem d161_137 : decode (zbyt 161) 137 = .ok (.iload 7, 2) := by decide +kernel
theorem d161_139 : decode (zbyt 161) 139 = .ok (.iadd, 1) := by decide +kernel
theorem d161_140 : decode (zbyt 161) 140 = .ok (.istore_n 3, 1) := by decide +kernel
theorem d161_141 : decode (zbyt 161) 141 = .ok (.iinc 5 1, 3) := by decide +kernel
theorem d161_144 : decode (zbyt 161) 144 = .ok (.goto (-132), 3) := by decide +kernel
theorem d161_147 : decode (zbyt 161) 147 = .ok (.iload 4, 2) := by decide +kernel
theorem d161_149 : decode (zbyt 161) 149 = .ok (.ifCond .eq 31, 3) := by decide +kernel
theorem d161_152 : decode (zbyt 161) 152 = .ok (.iload_n 2, 1) := by decide +kernel
theorem d161_153 : decode (zbyt 161) 153 = .ok (.aload_n 0, 1) := by decide +kernel
theorem d161_154 : decode (zbyt 161) 154 = .ok (.getfield 230, 3) := by decide +kernel
theorem d161_157 : decode (zbyt 161) 157 = .ok (.if_icmp .gt 19, 3) := by decide +kernel
theorem d161_160 : decode (zbyt 161) 160 = .ok (.iload_n 2, 1) := by decide +kernel
theorem d161_161 : decode (zbyt 161) 161 = .ok (.aload_n 0, 1) := by decide +kernel
theorem d161_162 : decode (zbyt 161) 162 = .ok (.getfield 230, 3) := by decide +kernel
theorem d161_165 : decode (zbyt 161) 165 = .ok (.if_icmp .ne 15, 3) := by decide +kernel
theorem d161_168 : decode (zbyt 161) 168 = .ok (.iload_n 3, 1) := by decide +kernel
theorem d161_169 : decode (zbyt 161) 169 = .ok (.aload_n 0, 1) := by decide +kernel
theorem d161_170 : decode (zbyt 161) 170 = .ok (.getfield 233, 3) := by decide +kernel
theorem d161_173 : decode (zbyt 161) 173 = .ok (.if_icmp .ge 7, 3) := by decide +kernel
theorem d161_176 : decode (zbyt 161) 176 = .ok (.iconst 1, 1) := by decide +kernel
theorem d161_177 : decode (zbyt 161) 177 = .ok (.goto 4, 3) := by decide +kernel
theorem d161_180 : decode (zbyt 161) 180 = .ok (.iconst 0, 1) := by decide +kernel
theorem d161_181 : decode (zbyt 161) 181 = .ok (.istore 5, 2) := by decide +kernel
theorem d161_183 : decode (zbyt 161) 183 = .ok (.iconst 0, 1) := by decide +kernel
theorem d161_184 : decode (zbyt 161) 184 = .ok (.istore 6, 2) := by decide +kernel
theorem d161_186 : decode (zbyt 161) 186 = .ok (.iload 6, 2) := by decide +kernel
theorem d161_188 : decode (zbyt 161) 188 = .ok (.aload_n 0, 1) := by decide +kernel
theorem d161_189 : decode (zbyt 161) 189 = .ok (.getfield 83, 3) := by decide +kernel
theorem d161_192 : decode (zbyt 161) 192 = .ok (.if_icmp .ge 38, 3) := by decide +kernel
theorem d161_195 : decode (zbyt 161) 195 = .ok (.aload_n 0, 1) := by decide +kernel
theorem d161_196 : decode (zbyt 161) 196 = .ok (.getfield 49, 3) := by decide +kernel
theorem d161_199 : decode (zbyt 161) 199 = .ok (.iload 6, 2) := by decide +kernel
theorem d161_201 : decode (zbyt 161) 201 = .ok (.iload 5, 2) := by decide +kernel
theorem d161_203 : decode (zbyt 161) 203 = .ok (.ifCond .eq 13, 3) := by decide +kernel
theorem d161_206 : decode (zbyt 161) 206 = .ok (.aload_n 0, 1) := by decide +kernel
theorem d161_207 : decode (zbyt 161) 207 = .ok (.getfield 46, 3) := by decide +kernel
theorem d161_210 : decode (zbyt 161) 210 = .ok (.iload 6, 2) := by decide +kernel
theorem d161_212 : decode (zbyt 161) 212 = .ok (.iaload, 1) := by decide +kernel
theorem d161_213 : decode (zbyt 161) 213 = .ok (.goto 10, 3) := by decide +kernel
theorem d161_216 : decode (zbyt 161) 216 = .ok (.aload_n 0, 1) := by decide +kernel
theorem d161_217 : decode (zbyt 161) 217 = .ok (.getfield 49, 3) := by decide +kernel
theorem d161_220 : decode (zbyt 161) 220 = .ok (.iload 6, 2) := by decide +kernel
theorem d161_222 : decode (zbyt 161) 222 = .ok (.iaload, 1) := by decide +kernel
theorem d161_223 : decode (zbyt 161) 223 = .ok (.iastore, 1) := by decide +kernel
theorem d161_224 : decode (zbyt 161) 224 = .ok (.iinc 6 1, 3) := by decide +kernel
theorem d161_227 : decode (zbyt 161) 227 = .ok (.goto (-41), 3) := by decide +kernel
theorem d161_230 : decode (zbyt 161) 230 = .ok (.aload_n 0, 1) := by decide +kernel
theorem d161_231 : decode (zbyt 161) 231 = .ok (.iload 5, 2) := by decide +kernel
theorem d161_233 : decode (zbyt 161) 233 = .ok (.ifCond .eq 7, 3) := by decide +kernel
theorem d161_236 : decode (zbyt 161) 236 = .ok (.iload_n 3, 1) := by decide +kernel
theorem d161_237 : decode (zbyt 161) 237 = .ok (.goto 7, 3) := by decide +kernel
theorem d161_240 : decode (zbyt 161) 240 = .ok (.aload_n 0, 1) := by decide +kernel
theorem d161_241 : decode (zbyt 161) 241 = .ok (.getfield 233, 3) := by decide +kernel
theorem d161_244 : decode (zbyt 161) 244 = .ok (.putfield 233, 3) := by decide +kernel
theorem d161_247 : decode (zbyt 161) 247 = .ok (.aload_n 0, 1) := by decide +kernel
theorem d161_248 : decode (zbyt 161) 248 = .ok (.iload 5, 2) := by decide +kernel
theorem d161_250 : decode (zbyt 161) 250 = .ok (.ifCond .eq 7, 3) := by decide +kernel
theorem d161_253 : decode (zbyt 161) 253 = .ok (.iload_n 2, 1) := by decide +kernel
theorem d161_254 : decode (zbyt 161) 254 = .ok (.goto 7, 3) := by decide +kernel
theorem d161_257 : decode (zbyt 161) 257 = .ok (.aload_n 0, 1) := by decide +kernel
theorem d161_258 : decode (zbyt 161) 258 = .ok (.getfield 230, 3) := by decide +kernel
theorem d161_261 : decode (zbyt 161) 261 = .ok (.putfield 230, 3) := by decide +kernel
theorem d161_264 : decode (zbyt 161) 264 = .ok (.return_, 1) := by decide +kernel
theorem d162_0 : decode (zbyt 162) 0 = .ok (.aload_n 0, 1) := by decide +kernel
theorem d162_1 : decode (zbyt 162) 1 = .ok (.getfield 83, 3) := by decide +kernel
theorem d162_4 : decode (zbyt 162) 4 = .ok (.ifCond .ne 6, 3) := by decide +kernel
theorem d162_7 : decode (zbyt 162) 7 = .ok (.bipush (-3), 2) := by decide +kernel
theorem d162_9 : decode (zbyt 162) 9 = .ok (.ireturn, 1) := by decide +kernel
theorem d162_10 : decode (zbyt 162) 10 = .ok (.iload_n 1, 1) := by decide +kernel
theorem d162_11 : decode (zbyt 162) 11 = .ok (.i2l, 1) := by decide +kernel
theorem d162_12 : decode (zbyt 162) 12 = .ok (.ldc2_w 236, 3) := by decide +kernel
theorem d162_15 : decode (zbyt 162) 15 = .ok (.ldc2_w 205, 3) := by decide +kernel
theorem d162_18 : decode (zbyt 162) 18 = .ok (.invokestatic 86, 3) := by decide +kernel
theorem d162_21 : decode (zbyt 162) 21 = .ok (.ifCond .ne 6, 3) := by decide +kernel
theorem d162_24 : decode (zbyt 162) 24 = .ok (.bipush (-2), 2) := by decide +kernel
theorem d162_26 : decode (zbyt 162) 26 = .ok (.ireturn, 1) := by decide +kernel
theorem d162_27 : decode (zbyt 162) 27 = .ok (.iconst 1, 1) := by decide +kernel
theorem d162_28 : decode (zbyt 162) 28 = .ok (.istore_n 2, 1) := by decide +kernel
theorem d162_29 : decode (zbyt 162) 29 = .ok (.iconst 0, 1) := by decide +kernel
theorem d162_30 : decode (zbyt 162) 30 = .ok (.istore_n 3, 1) := by decide +kernel
theorem d162_31 : decode (zbyt 162) 31 = .ok (.iload_n 3, 1) := by decide +kernel
theorem d162_32 : decode (zbyt 162) 32 = .ok (.aload_n 0, 1) := by decide +kernel
theorem d162_33 : decode (zbyt 162) 33 = .ok (.getfield 83, 3) := by decide +kernel
theorem d162_36 : decode (zbyt 162) 36 = .ok (.if_icmp .ge 18, 3) := by decide +kernel
theorem d162_39 : decode (zbyt 162) 39 = .ok (.iload_n 2, 1) := by decide +kernel
theorem d162_40 : decode (zbyt 162) 40 = .ok (.aload_n 0, 1) := by decide +kernel
theorem d162_41 : decode (zbyt 162) 41 = .ok (.getfield 90, 3) := by decide +kernel
theorem d162_44 : decode (zbyt 162) 44 = .ok (.iconst 1, 1) := by decide +kernel
theorem d162_45 : decode (zbyt 162) 45 = .ok (.iadd, 1) := by decide +kernel
theorem d162_46 : decode (zbyt 162) 46 = .ok (.imul, 1) := by decide +kernel
theorem d162_47 : decode (zbyt 162) 47 = .ok (.istore_n 2, 1) := by decide +kernel
theorem d162_48 : decode (zbyt 162) 48 = .ok (.iinc 3 1, 3) := by decide +kernel
theorem d162_51 : decode (zbyt 162) 51 = .ok (.goto (-20), 3) := by decide +kernel
theorem d162_54 : decode (zbyt 162) 54 = .ok (.aload_n 0, 1) := by decide +kernel
theorem d162_55 : decode (zbyt 162) 55 = .ok (.bipush (-9), 2) := by decide +kernel
theorem d162_57 : decode (zbyt 162) 57 = .ok (.putfield 230, 3) := by decide +kernel
theorem d162_60 : decode (zbyt 162) 60 = .ok (.iconst 0, 1) := by decide +kernel
theorem d162_61 : decode (zbyt 162) 61 = .ok (.istore_n 3, 1) := by decide +kernel
theorem d162_62 : decode (zbyt 162) 62 = .ok (.iload_n 3, 1) := by decide +kernel
theorem d162_63 : decode (zbyt 162) 63 = .ok (.iload_n 2, 1) := by decide +kernel
theorem d162_64 : decode (zbyt 162) 64 = .ok (.if_icmp .ge 18, 3) := by decide +kernel
theorem d162_67 : decode (zbyt 162) 67 = .ok (.aload_n 0, 1) := by decide +kernel
theorem d162_68 : decode (zbyt 162) 68 = .ok (.iload_n 3, 1) := by decide +kernel
theorem d162_69 : decode (zbyt 162) 69 = .ok (.invokevirtual 238, 3) := by decide +kernel
theorem d162_72 : decode (zbyt 162) 72 = .ok (.aload_n 0, 1) := by decide +kernel
theorem d162_73 : decode (zbyt 162) 73 = .ok (.invokevirtual 241, 3) := by decide +kernel
theorem d162_76 : decode (zbyt 162) 76 = .ok (.iinc 3 1, 3) := by decide +kernel
theorem d162_79 : decode (zbyt 162) 79 = .ok (.goto (-17), 3) := by decide +kernel
theorem d162_82 : decode (zbyt 162) 82 = .ok (.iload_n 1, 1) := by decide +kernel
theorem d162_83 : decode (zbyt 162) 83 = .ok (.bipush (-2), 2) := by decide +kernel
theorem d162_85 : decode (zbyt 162) 85 = .ok (.if_icmp .ne 10, 3) := by decide +kernel
theorem d162_88 : decode (zbyt 162) 88 = .ok (.aload_n 0, 1) := by decide +kernel
theorem d162_89 : decode (zbyt 162) 89 = .ok (.getfield 230, 3) := by decide +kernel
theorem d162_92 : decode (zbyt 162) 92 = .ok (.goto 47, 3) := by decide +kernel
theorem d162_95 : decode (zbyt 162) 95 = .ok (.iload_n 1, 1) := by decide +kernel
theorem d162_96 : decode (zbyt 162) 96 = .ok (.iconst (-1), 1) := by decide +kernel
theorem d162_97 : decode (zbyt 162) 97 = .ok (.if_icmp .ne 10, 3) := by decide +kernel
theorem d162_100 : decode (zbyt 162) 100 = .ok (.aload_n 0, 1) := by decide +kernel
theorem d162_101 : decode (zbyt 162) 101 = .ok (.getfield 233, 3) := by decide +kernel
theorem d162_104 : decode (zbyt 162) 104 = .ok (.goto 35, 3) := by decide +kernel
theorem d162_107 : decode (zbyt 162) 107 = .ok (.aload_n 0, 1) := by decide +kernel
theorem d162_108 : decode (zbyt 162) 108 = .ok (.iload_n 1, 1) := by decide +kernel
theorem d162_109 : decode (zbyt 162) 109 = .ok (.invokevirtual 158, 3) := by decide +kernel
theorem d162_112 : decode (zbyt 162) 112 = .ok (.ifCond .ne 16, 3) := by decide +kernel
theorem d162_115 : decode (zbyt 162) 115 = .ok (.aload_n 0, 1) := by decide +kernel
theorem d162_116 : decode (zbyt 162) 116 = .ok (.getfield 49, 3) := by decide +kernel
theorem d162_119 : decode (zbyt 162) 119 = .ok (.iload_n 1, 1) := by decide +kernel
theorem d162_120 : decode (zbyt 162) 120 = .ok (.iaload, 1) := by decide +kernel
theorem d162_121 : decode (zbyt 162) 121 = .ok (.aload_n 0, 1) := by decide +kernel
theorem d162_122 : decode (zbyt 162) 122 = .ok (.getfield 90, 3) := by decide +kernel
theorem d162_125 : decode (zbyt 162) 125 = .ok (.if_icmp .ne 8, 3) := by decide +kernel
theorem d162_128 : decode (zbyt 162) 128 = .ok (.bipush (-9), 2) := by decide +kernel
theorem d162_130 : decode (zbyt 162) 130 = .ok (.goto 9, 3) := by decide +kernel
theorem d162_133 : decode (zbyt 162) 133 = .ok (.aload_n 0, 1) := by decide +kernel
theorem d162_134 : decode (zbyt 162) 134 = .ok (.getfield 49, 3) := by decide +kernel
theorem d162_137 : decode (zbyt 162) 137 = .ok (.iload_n 1, 1) := by decide +kernel
theorem d162_138 : decode (zbyt 162) 138 = .ok (.iaload, 1) := by decide +kernel
theorem d162_139 : decode (zbyt 162) 139 = .ok (.ireturn, 1) := by decide +kernel
theorem d163_0 : decode (zbyt 163) 0 = .ok (.aload_n 0, 1) := by decide +kernel
theorem d163_1 : decode (zbyt 163) 1 = .ok (.iload_n 1, 1) := by decide +kernel
theorem d163_2 : decode (zbyt 163) 2 = .ok (.invokevirtual 158, 3) := by decide +kernel
theorem d163_5 : decode (zbyt 163) 5 = .ok (.ifCond .eq 5, 3) := by decide +kernel
theorem d163_8 : decode (zbyt 163) 8 = .ok (.iconst (-1), 1) := by decide +kernel
theorem d163_9 : decode (zbyt 163) 9 = .ok (.ireturn, 1) := by decide +kernel
theorem d163_10 : decode (zbyt 163) 10 = .ok (.iload_n 2, 1) := by decide +kernel
theorem d163_11 : decode (zbyt 163) 11 = .ok (.i2l, 1) := by decide +kernel
theorem d163_12 : decode (zbyt 163) 12 = .ok (.lconst 0, 1) := by decide +kernel
theorem d163_13 : decode (zbyt 163) 13 = .ok (.ldc2_w 200, 3) := by decide +kernel
theorem d163_16 : decode (zbyt 163) 16 = .ok (.invokestatic 86, 3) := by decide +kernel
theorem d163_19 : decode (zbyt 163) 19 = .ok (.ifCond .eq 15, 3) := by decide +kernel
theorem d163_22 : decode (zbyt 163) 22 = .ok (.iload_n 3, 1) := by decide +kernel
theorem d163_23 : decode (zbyt 163) 23 = .ok (.i2l, 1) := by decide +kernel
theorem d163_24 : decode (zbyt 163) 24 = .ok (.lconst 0, 1) := by decide +kernel
theorem d163_25 : decode (zbyt 163) 25 = .ok (.ldc2_w 244, 3) := by decide +kernel
theorem d163_28 : decode (zbyt 163) 28 = .ok (.invokestatic 86, 3) := by decide +kernel
theorem d163_31 : decode (zbyt 163) 31 = .ok (.ifCond .ne 6, 3) := by decide +kernel
theorem d163_34 : decode (zbyt 163) 34 = .ok (.bipush (-2), 2) := by decide +kernel
theorem d163_36 : decode (zbyt 163) 36 = .ok (.ireturn, 1) := by decide +kernel
theorem d163_37 : decode (zbyt 163) 37 = .ok (.aload_n 0, 1) := by decide +kernel
theorem d163_38 : decode (zbyt 163) 38 = .ok (.getfield 155, 3) := by decide +kernel
theorem d163_41 : decode (zbyt 163) 41 = .ok (.bipush 8, 2) := by decide +kernel
theorem d163_43 : decode (zbyt 163) 43 = .ok (.if_icmp .ne 6, 3) := by decide +kernel
theorem d163_46 : decode (zbyt 163) 46 = .ok (.bipush (-4), 2) := by decide +kernel
theorem d163_48 : decode (zbyt 163) 48 = .ok (.ireturn, 1) := by decide +kernel
theorem d163_49 : decode (zbyt 163) 49 = .ok (.aload_n 0, 1) := by decide +kernel
theorem d163_50 : decode (zbyt 163) 50 = .ok (.getfield 52, 3) := by decide +kernel
theorem d163_53 : decode (zbyt 163) 53 = .ok (.aload_n 0, 1) := by decide +kernel
theorem d163_54 : decode (zbyt 163) 54 = .ok (.getfield 155, 3) := by decide +kernel
theorem d163_57 : decode (zbyt 163) 57 = .ok (.iload_n 1, 1) := by decide +kernel
theorem d163_58 : decode (zbyt 163) 58 = .ok (.iastore, 1) := by decide +kernel
theorem d163_59 : decode (zbyt 163) 59 = .ok (.aload_n 0, 1) := by decide +kernel
theorem d163_60 : decode (zbyt 163) 60 = .ok (.getfield 55, 3) := by decide +kernel
theorem d163_63 : decode (zbyt 163) 63 = .ok (.aload_n 0, 1) := by decide +kernel
theorem d163_64 : decode (zbyt 163) 64 = .ok (.getfield 155, 3) := by decide +kernel
theorem d163_67 : decode (zbyt 163) 67 = .ok (.iload_n 2, 1) := by decide +kernel
theorem d163_68 : decode (zbyt 163) 68 = .ok (.iastore, 1) := by decide +kernel
theorem d163_69 : decode (zbyt 163) 69 = .ok (.aload_n 0, 1) := by decide +kernel
theorem d163_70 : decode (zbyt 163) 70 = .ok (.getfield 58, 3) := by decide +kernel
theorem d163_73 : decode (zbyt 163) 73 = .ok (.aload_n 0, 1) := by decide +kernel
theorem d163_74 : decode (zbyt 163) 74 = .ok (.getfield 155, 3) := by decide +kernel
theorem d163_77 : decode (zbyt 163) 77 = .ok (.iload_n 3, 1) := by decide +kernel
theorem d163_78 : decode (zbyt 163) 78 = .ok (.iastore, 1) := by decide +kernel
theorem d163_79 : decode (zbyt 163) 79 = .ok (.aload_n 0, 1) := by decide +kernel
theorem d163_80 : decode (zbyt 163) 80 = .ok (.dup, 1) := by decide +kernel
theorem d163_81 : decode (zbyt 163) 81 = .ok (.getfield 155, 3) := by decide +kernel
theorem d163_84 : decode (zbyt 163) 84 = .ok (.iconst 1, 1) := by decide +kernel
theorem d163_85 : decode (zbyt 163) 85 = .ok (.iadd, 1) := by decide +kernel
theorem d163_86 : decode (zbyt 163) 86 = .ok (.putfield 155, 3) := by decide +kernel
theorem d163_89 : decode (zbyt 163) 89 = .ok (.aload_n 0, 1) := by decide +kernel
theorem d163_90 : decode (zbyt 163) 90 = .ok (.getfield 155, 3) := by decide +kernel
theorem d163_93 : decode (zbyt 163) 93 = .ok (.iconst 1, 1) := by decide +kernel
theorem d163_94 : decode (zbyt 163) 94 = .ok (.isub, 1) := by decide +kernel
theorem d163_95 : decode (zbyt 163) 95 = .ok (.ireturn, 1) := by decide +kernel
theorem d164_0 : decode (zbyt 164) 0 = .ok (.iload_n 1, 1) := by decide +kernel
theorem d164_1 : decode (zbyt 164) 1 = .ok (.i2l, 1) := by decide +kernel
theorem d164_2 : decode (zbyt 164) 2 = .ok (.lconst 0, 1) := by decide +kernel
theorem d164_3 : decode (zbyt 164) 3 = .ok (.aload_n 0, 1) := by decide +kernel
theorem d164_4 : decode (zbyt 164) 4 = .ok (.getfield 155, 3) := by decide +kernel
theorem d164_7 : decode (zbyt 164) 7 = .ok (.i2l, 1) := by decide +kernel
theorem d164_8 : decode (zbyt 164) 8 = .ok (.invokestatic 86, 3) := by decide +kernel
theorem d164_11 : decode (zbyt 164) 11 = .ok (.ifCond .ne 6, 3) := by decide +kernel
theorem d164_14 : decode (zbyt 164) 14 = .ok (.bipush (-2), 2) := by decide +kernel
theorem d164_16 : decode (zbyt 164) 16 = .ok (.ireturn, 1) := by decide +kernel
theorem d164_17 : decode (zbyt 164) 17 = .ok (.aload_n 0, 1) := by decide +kernel
theorem d164_18 : decode (zbyt 164) 18 = .ok (.dup, 1) := by decide +kernel
theorem d164_19 : decode (zbyt 164) 19 = .ok (.getfield 155, 3) := by decide +kernel
theorem d164_22 : decode (zbyt 164) 22 = .ok (.iload_n 1, 1) := by decide +kernel
theorem d164_23 : decode (zbyt 164) 23 = .ok (.isub, 1) := by decide +kernel
theorem d164_24 : decode (zbyt 164) 24 = .ok (.putfield 155, 3) := by decide +kernel
theorem d164_27 : decode (zbyt 164) 27 = .ok (.aload_n 0, 1) := by decide +kernel
theorem d164_28 : decode (zbyt 164) 28 = .ok (.getfield 155, 3) := by decide +kernel
theorem d164_31 : decode (zbyt 164) 31 = .ok (.ireturn, 1) := by decide +kernel
theorem d165_0 : decode (zbyt 165) 0 = .ok (.iconst 1, 1) := by decide +kernel
theorem d165_1 : decode (zbyt 165) 1 = .ok (.istore_n 1, 1) := by decide +kernel
theorem d165_2 : decode (zbyt 165) 2 = .ok (.iconst 0, 1) := by decide +kernel
theorem d165_3 : decode (zbyt 165) 3 = .ok (.istore_n 2, 1) := by decide +kernel
theorem d165_4 : decode (zbyt 165) 4 = .ok (.iload_n 2, 1) := by decide +kernel
theorem d165_5 : decode (zbyt 165) 5 = .ok (.aload_n 0, 1) := by decide +kernel
theorem d165_6 : decode (zbyt 165) 6 = .ok (.getfield 155, 3) := by decide +kernel
theorem d165_9 : decode (zbyt 165) 9 = .ok (.if_icmp .ge 50, 3) := by decide +kernel
theorem d165_12 : decode (zbyt 165) 12 = .ok (.iload_n 1, 1) := by decide +kernel
theorem d165_13 : decode (zbyt 165) 13 = .ok (.ifCond .eq 38, 3) := by decide +kernel
theorem d165_16 : decode (zbyt 165) 16 = .ok (.aload_n 0, 1) := by decide +kernel
theorem d165_17 : decode (zbyt 165) 17 = .ok (.getfield 55, 3) := by decide +kernel
theorem d165_20 : decode (zbyt 165) 20 = .ok (.iload_n 2, 1) := by decide +kernel
theorem d165_21 : decode (zbyt 165) 21 = .ok (.iaload, 1) := by decide +kernel
theorem d165_22 : decode (zbyt 165) 22 = .ok (.aload_n 0, 1) := by decide +kernel
theorem d165_23 : decode (zbyt 165) 23 = .ok (.aload_n 0, 1) := by decide +kernel
theorem d165_24 : decode (zbyt 165) 24 = .ok (.getfield 52, 3) := by decide +kernel
theorem d165_27 : decode (zbyt 165) 27 = .ok (.iload_n 2, 1) := by decide +kernel
theorem d165_28 : decode (zbyt 165) 28 = .ok (.iaload, 1) := by decide +kernel
theorem d165_29 : decode (zbyt 165) 29 = .ok (.invokevirtual 161, 3) := by decide +kernel
theorem d165_32 : decode (zbyt 165) 32 = .ok (.imul, 1) := by decide +kernel
theorem d165_33 : decode (zbyt 165) 33 = .ok (.aload_n 0, 1) := by decide +kernel
theorem d165_34 : decode (zbyt 165) 34 = .ok (.getfield 146, 3) := by decide +kernel
theorem d165_37 : decode (zbyt 165) 37 = .ok (.idiv, 1) := by decide +kernel
theorem d165_38 : decode (zbyt 165) 38 = .ok (.aload_n 0, 1) := by decide +kernel
theorem d165_39 : decode (zbyt 165) 39 = .ok (.getfield 58, 3) := by decide +kernel
theorem d165_42 : decode (zbyt 165) 42 = .ok (.iload_n 2, 1) := by decide +kernel
theorem d165_43 : decode (zbyt 165) 43 = .ok (.iaload, 1) := by decide +kernel
theorem d165_44 : decode (zbyt 165) 44 = .ok (.if_icmp .ne 7, 3) := by decide +kernel
theorem d165_47 : decode (zbyt 165) 47 = .ok (.iconst 1, 1) := by decide +kernel
theorem d165_48 : decode (zbyt 165) 48 = .ok (.goto 4, 3) := by decide +kernel
theorem d165_51 : decode (zbyt 165) 51 = .ok (.iconst 0, 1) := by decide +kernel
theorem d165_52 : decode (zbyt 165) 52 = .ok (.istore_n 1, 1) := by decide +kernel
theorem d165_53 : decode (zbyt 165) 53 = .ok (.iinc 2 1, 3) := by decide +kernel
theorem d165_56 : decode (zbyt 165) 56 = .ok (.goto (-52), 3) := by decide +kernel
theorem d165_59 : decode (zbyt 165) 59 = .ok (.iload_n 1, 1) := by decide +kernel
theorem d165_60 : decode (zbyt 165) 60 = .ok (.ireturn, 1) := by decide +kernel
theorem d166_0 : decode (zbyt 166) 0 = .ok (.aload_n 0, 1) := by decide +kernel
theorem d166_1 : decode (zbyt 166) 1 = .ok (.iload_n 1, 1) := by decide +kernel
theorem d166_2 : decode (zbyt 166) 2 = .ok (.invokevirtual 158, 3) := by decide +kernel
theorem d166_5 : decode (zbyt 166) 5 = .ok (.ifCond .eq 5, 3) := by decide +kernel
theorem d166_8 : decode (zbyt 166) 8 = .ok (.iconst (-1), 1) := by decide +kernel
theorem d166_9 : decode (zbyt 166) 9 = .ok (.ireturn, 1) := by decide +kernel
theorem d166_10 : decode (zbyt 166) 10 = .ok (.aload_n 0, 1) := by decide +kernel
theorem d166_11 : decode (zbyt 166) 11 = .ok (.getfield 16, 3) := by decide +kernel
theorem d166_14 : decode (zbyt 166) 14 = .ok (.iload_n 1, 1) := by decide +kernel
theorem d166_15 : decode (zbyt 166) 15 = .ok (.iaload, 1) := by decide +kernel
theorem d166_16 : decode (zbyt 166) 16 = .ok (.istore_n 2, 1) := by decide +kernel
theorem d166_17 : decode (zbyt 166) 17 = .ok (.iconst 0, 1) := by decide +kernel
theorem d166_18 : decode (zbyt 166) 18 = .ok (.istore_n 3, 1) := by decide +kernel
theorem d166_19 : decode (zbyt 166) 19 = .ok (.iconst 1, 1) := by decide +kernel
theorem d166_20 : decode (zbyt 166) 20 = .ok (.istore 4, 2) := by decide +kernel
theorem d166_22 : decode (zbyt 166) 22 = .ok (.iload 4, 2) := by decide +kernel
theorem d166_24 : decode (zbyt 166) 24 = .ok (.bipush 10, 2) := by decide +kernel
theorem d166_26 : decode (zbyt 166) 26 = .ok (.if_icmp .ge 35, 3) := by decide +kernel
theorem d166_29 : decode (zbyt 166) 29 = .ok (.aload_n 0, 1) := by decide +kernel
theorem d166_30 : decode (zbyt 166) 30 = .ok (.getfield 16, 3) := by decide +kernel
theorem d166_33 : decode (zbyt 166) 33 = .ok (.iload_n 1, 1) := by decide +kernel
theorem d166_34 : decode (zbyt 166) 34 = .ok (.iload 4, 2) := by decide +kernel
theorem d166_36 : decode (zbyt 166) 36 = .ok (.iastore, 1) := by decide +kernel
theorem d166_37 : decode (zbyt 166) 37 = .ok (.iload_n 3, 1) := by decide +kernel
theorem d166_38 : decode (zbyt 166) 38 = .ok (.aload_n 0, 1) := by decide +kernel
theorem d166_39 : decode (zbyt 166) 39 = .ok (.invokevirtual 246, 3) := by decide +kernel
theorem d166_42 : decode (zbyt 166) 42 = .ok (.ifCond .eq 10, 3) := by decide +kernel
theorem d166_45 : decode (zbyt 166) 45 = .ok (.iconst 1, 1) := by decide +kernel
theorem d166_46 : decode (zbyt 166) 46 = .ok (.iload 4, 2) := by decide +kernel
theorem d166_48 : decode (zbyt 166) 48 = .ok (.ishl, 1) := by decide +kernel
theorem d166_49 : decode (zbyt 166) 49 = .ok (.goto 4, 3) := by decide +kernel
theorem d166_52 : decode (zbyt 166) 52 = .ok (.iconst 0, 1) := by decide +kernel
theorem d166_53 : decode (zbyt 166) 53 = .ok (.ior, 1) := by decide +kernel
theorem d166_54 : decode (zbyt 166) 54 = .ok (.istore_n 3, 1) := by decide +kernel
theorem d166_55 : decode (zbyt 166) 55 = .ok (.iinc 4 1, 3) := by decide +kernel
theorem d166_58 : decode (zbyt 166) 58 = .ok (.goto (-36), 3) := by decide +kernel
theorem d166_61 : decode (zbyt 166) 61 = .ok (.aload_n 0, 1) := by decide +kernel
theorem d166_62 : decode (zbyt 166) 62 = .ok (.getfield 16, 3) := by decide +kernel
theorem d166_65 : decode (zbyt 166) 65 = .ok (.iload_n 1, 1) := by decide +kernel
theorem d166_66 : decode (zbyt 166) 66 = .ok (.iload_n 2, 1) := by decide +kernel
theorem d166_67 : decode (zbyt 166) 67 = .ok (.iastore, 1) := by decide +kernel
theorem d166_68 : decode (zbyt 166) 68 = .ok (.iload_n 3, 1) := by decide +kernel
theorem d166_69 : decode (zbyt 166) 69 = .ok (.ireturn, 1) := by decide +kernel
theorem d167_0 : decode (zbyt 167) 0 = .ok (.aload_n 0, 1) := by decide +kernel
theorem d167_1 : decode (zbyt 167) 1 = .ok (.iload_n 1, 1) := by decide +kernel
theorem d167_2 : decode (zbyt 167) 2 = .ok (.invokevirtual 158, 3) := by decide +kernel
theorem d167_5 : decode (zbyt 167) 5 = .ok (.ifCond .eq 5, 3) := by decide +kernel
theorem d167_8 : decode (zbyt 167) 8 = .ok (.iconst (-1), 1) := by decide +kernel
theorem d167_9 : decode (zbyt 167) 9 = .ok (.ireturn, 1) := by decide +kernel
theorem d167_10 : decode (zbyt 167) 10 = .ok (.aload_n 0, 1) := by decide +kernel
theorem d167_11 : decode (zbyt 167) 11 = .ok (.getfield 13, 3) := by decide +kernel
theorem d167_14 : decode (zbyt 167) 14 = .ok (.iload_n 1, 1) := by decide +kernel
theorem d167_15 : decode (zbyt 167) 15 = .ok (.iaload, 1) := by decide +kernel
theorem d167_16 : decode (zbyt 167) 16 = .ok (.istore_n 2, 1) := by decide +kernel
theorem d167_17 : decode (zbyt 167) 17 = .ok (.iconst 0, 1) := by decide +kernel
theorem d167_18 : decode (zbyt 167) 18 = .ok (.istore_n 3, 1) := by decide +kernel
theorem d167_19 : decode (zbyt 167) 19 = .ok (.iconst 0, 1) := by decide +kernel
theorem d167_20 : decode (zbyt 167) 20 = .ok (.istore 4, 2) := by decide +kernel
theorem d167_22 : decode (zbyt 167) 22 = .ok (.iload 4, 2) := by decide +kernel
theorem d167_24 : decode (zbyt 167) 24 = .ok (.iconst 3, 1) := by decide +kernel
theorem d167_25 : decode (zbyt 167) 25 = .ok (.if_icmp .ge 35, 3) := by decide +kernel
theorem d167_28 : decode (zbyt 167) 28 = .ok (.aload_n 0, 1) := by decide +kernel
theorem d167_29 : decode (zbyt 167) 29 = .ok (.getfield 13, 3) := by decide +kernel
theorem d167_32 : decode (zbyt 167) 32 = .ok (.iload_n 1, 1) := by decide +kernel
theorem d167_33 : decode (zbyt 167) 33 = .ok (.iload 4, 2) := by decide +kernel
theorem d167_35 : decode (zbyt 167) 35 = .ok (.iastore, 1) := by decide +kernel
theorem d167_36 : decode (zbyt 167) 36 = .ok (.iload_n 3, 1) := by decide +kernel
theorem d167_37 : decode (zbyt 167) 37 = .ok (.aload_n 0, 1) := by decide +kernel
theorem d167_38 : decode (zbyt 167) 38 = .ok (.invokevirtual 246, 3) := by decide +kernel
theorem d167_41 : decode (zbyt 167) 41 = .ok (.ifCond .eq 10, 3) := by decide +kernel
theorem d167_44 : decode (zbyt 167) 44 = .ok (.iconst 1, 1) := by decide +kernel
theorem d167_45 : decode (zbyt 167) 45 = .ok (.iload 4, 2) := by decide +kernel
theorem d167_47 : decode (zbyt 167) 47 = .ok (.ishl, 1) := by decide +kernel
theorem d167_48 : decode (zbyt 167) 48 = .ok (.goto 4, 3) := by decide +kernel
theorem d167_51 : decode (zbyt 167) 51 = .ok (.iconst 0, 1) := by decide +kernel
theorem d167_52 : decode (zbyt 167) 52 = .ok (.ior, 1) := by decide +kernel
theorem d167_53 : decode (zbyt 167) 53 = .ok (.istore_n 3, 1) := by decide +kernel
theorem d167_54 : decode (zbyt 167) 54 = .ok (.iinc 4 1, 3) := by decide +kernel
theorem d167_57 : decode (zbyt 167) 57 = .ok (.goto (-35), 3) := by decide +kernel
theorem d167_60 : decode (zbyt 167) 60 = .ok (.aload_n 0, 1) := by decide +kernel
theorem d167_61 : decode (zbyt 167) 61 = .ok (.getfield 13, 3) := by decide +kernel
theorem d167_64 : decode (zbyt 167) 64 = .ok (.iload_n 1, 1) := by decide +kernel
theorem d167_65 : decode (zbyt 167) 65 = .ok (.iload_n 2, 1) := by decide +kernel
theorem d167_66 : decode (zbyt 167) 66 = .ok (.iastore, 1) := by decide +kernel
theorem d167_67 : decode (zbyt 167) 67 = .ok (.iload_n 3, 1) := by decide +kernel
theorem d167_68 : decode (zbyt 167) 68 = .ok (.ireturn, 1) := by decide +kernel
theorem d168_0 : decode (zbyt 168) 0 = .ok (.aload_n 0, 1) := by decide +kernel
theorem d168_1 : decode (zbyt 168) 1 = .ok (.getfield 83, 3) := by decide +kernel
theorem d168_4 : decode (zbyt 168) 4 = .ok (.ifCond .ne 6, 3) := by decide +kernel
theorem d168_7 : decode (zbyt 168) 7 = .ok (.bipush (-3), 2) := by decide +kernel
theorem d168_9 : decode (zbyt 168) 9 = .ok (.ireturn, 1) := by decide +kernel
theorem d168_10 : decode (zbyt 168) 10 = .ok (.aload_n 0, 1) := by decide +kernel
theorem d168_11 : decode (zbyt 168) 11 = .ok (.getfield 146, 3) := by decide +kernel
theorem d168_14 : decode (zbyt 168) 14 = .ok (.istore_n 1, 1) := by decide +kernel
theorem d168_15 : decode (zbyt 168) 15 = .ok (.iconst 0, 1) := by decide +kernel
theorem d168_16 : decode (zbyt 168) 16 = .ok (.istore_n 2, 1) := by decide +kernel
theorem d168_17 : decode (zbyt 168) 17 = .ok (.iconst 1, 1) := by decide +kernel
theorem d168_18 : decode (zbyt 168) 18 = .ok (.istore_n 3, 1) := by decide +kernel
theorem d168_19 : decode (zbyt 168) 19 = .ok (.iload_n 3, 1) := by decide +kernel
theorem d168_20 : decode (zbyt 168) 20 = .ok (.bipush 10, 2) := by decide +kernel
theorem d168_22 : decode (zbyt 168) 22 = .ok (.if_icmp .ge 31, 3) := by decide +kernel
theorem d168_25 : decode (zbyt 168) 25 = .ok (.aload_n 0, 1) := by decide +kernel
theorem d168_26 : decode (zbyt 168) 26 = .ok (.iload_n 3, 1) := by decide +kernel
theorem d168_27 : decode (zbyt 168) 27 = .ok (.putfield 146, 3) := by decide +kernel
theorem d168_30 : decode (zbyt 168) 30 = .ok (.iload_n 2, 1) := by decide +kernel
theorem d168_31 : decode (zbyt 168) 31 = .ok (.aload_n 0, 1) := by decide +kernel
theorem d168_32 : decode (zbyt 168) 32 = .ok (.invokevirtual 246, 3) := by decide +kernel
theorem d168_35 : decode (zbyt 168) 35 = .ok (.ifCond .eq 9, 3) := by decide +kernel
theorem d168_38 : decode (zbyt 168) 38 = .ok (.iconst 1, 1) := by decide +kernel
theorem d168_39 : decode (zbyt 168) 39 = .ok (.iload_n 3, 1) := by decide +kernel
theorem d168_40 : decode (zbyt 168) 40 = .ok (.ishl, 1) := by decide +kernel
theorem d168_41 : decode (zbyt 168) 41 = .ok (.goto 4, 3) := by decide +kernel
theorem d168_44 : decode (zbyt 168) 44 = .ok (.iconst 0, 1) := by decide +kernel
theorem d168_45 : decode (zbyt 168) 45 = .ok (.ior, 1) := by decide +kernel
theorem d168_46 : decode (zbyt 168) 46 = .ok (.istore_n 2, 1) := by decide +kernel
theorem d168_47 : decode (zbyt 168) 47 = .ok (.iinc 3 1, 3) := by decide +kernel
theorem d168_50 : decode (zbyt 168) 50 = .ok (.goto (-31), 3) := by decide +kernel
theorem d168_53 : decode (zbyt 168) 53 = .ok (.aload_n 0, 1) := by decide +kernel
theorem d168_54 : decode (zbyt 168) 54 = .ok (.iload_n 1, 1) := by decide +kernel
theorem d168_55 : decode (zbyt 168) 55 = .ok (.putfield 146, 3) := by decide +kernel
theorem d168_58 : decode (zbyt 168) 58 = .ok (.iload_n 2, 1) := by decide +kernel
theorem d168_59 : decode (zbyt 168) 59 = .ok (.ireturn, 1) := by decide +kernel
theorem d169_0 : decode (zbyt 169) 0 = .ok (.aload_n 0, 1) := by decide +kernel
theorem d169_1 : decode (zbyt 169) 1 = .ok (.iload_n 1, 1) := by decide +kernel
theorem d169_2 : decode (zbyt 169) 2 = .ok (.invokevirtual 158, 3) := by decide +kernel
theorem d169_5 : decode (zbyt 169) 5 = .ok (.ifCond .ne 21, 3) := by decide +kernel
theorem d169_8 : decode (zbyt 169) 8 = .ok (.aload_n 0, 1) := by decide +kernel
theorem d169_9 : decode (zbyt 169) 9 = .ok (.iload_n 2, 1) := by decide +kernel
theorem d169_10 : decode (zbyt 169) 10 = .ok (.invokevirtual 167, 3) := by decide +kernel
theorem d169_13 : decode (zbyt 169) 13 = .ok (.ifCond .ne 13, 3) := by decide +kernel
theorem d169_16 : decode (zbyt 169) 16 = .ok (.iload_n 3, 1) := by decide +kernel
theorem d169_17 : decode (zbyt 169) 17 = .ok (.i2l, 1) := by decide +kernel
theorem d169_18 : decode (zbyt 169) 18 = .ok (.lconst 0, 1) := by decide +kernel
theorem d169_19 : decode (zbyt 169) 19 = .ok (.lconst 1, 1) := by decide +kernel
theorem d169_20 : decode (zbyt 169) 20 = .ok (.invokestatic 86, 3) := by decide +kernel
theorem d169_23 : decode (zbyt 169) 23 = .ok (.ifCond .ne 7, 3) := by decide +kernel
theorem d169_26 : decode (zbyt 169) 26 = .ok (.invokestatic 79, 3) := by decide +kernel
theorem d169_29 : decode (zbyt 169) 29 = .ok (.lreturn, 1) := by decide +kernel
theorem d169_30 : decode (zbyt 169) 30 = .ok (.lconst 0, 1) := by decide +kernel
theorem d169_31 : decode (zbyt 169) 31 = .ok (.lstore 4, 2) := by decide +kernel
theorem d169_33 : decode (zbyt 169) 33 = .ok (.iconst 1, 1) := by decide +kernel
theorem d169_34 : decode (zbyt 169) 34 = .ok (.istore 6, 2) := by decide +kernel
theorem d169_36 : decode (zbyt 169) 36 = .ok (.iload 6, 2) := by decide +kernel
theorem d169_38 : decode (zbyt 169) 38 = .ok (.aload_n 0, 1) := by decide +kernel
theorem d169_39 : decode (zbyt 169) 39 = .ok (.getfield 19, 3) := by decide +kernel
theorem d169_42 : decode (zbyt 169) 42 = .ok (.iload_n 1, 1) := by decide +kernel
theorem d169_43 : decode (zbyt 169) 43 = .ok (.iaload, 1) := by decide +kernel
theorem d169_44 : decode (zbyt 169) 44 = .ok (.if_icmp .gt 35, 3) := by decide +kernel
theorem d169_47 : decode (zbyt 169) 47 = .ok (.lload 4, 2) := by decide +kernel
theorem d169_49 : decode (zbyt 169) 49 = .ok (.aload_n 0, 1) := by decide +kernel
theorem d169_50 : decode (zbyt 169) 50 = .ok (.iload 6, 2) := by decide +kernel
theorem d169_52 : decode (zbyt 169) 52 = .ok (.aload_n 0, 1) := by decide +kernel
theorem d169_53 : decode (zbyt 169) 53 = .ok (.iload_n 1, 1) := by decide +kernel
theorem d169_54 : decode (zbyt 169) 54 = .ok (.invokevirtual 161, 3) := by decide +kernel
theorem d169_57 : decode (zbyt 169) 57 = .ok (.imul, 1) := by decide +kernel
theorem d169_58 : decode (zbyt 169) 58 = .ok (.invokevirtual 164, 3) := by decide +kernel
theorem d169_61 : decode (zbyt 169) 61 = .ok (.iload_n 2, 1) := by decide +kernel
theorem d169_62 : decode (zbyt 169) 62 = .ok (.if_icmp .ne 7, 3) := by decide +kernel
theorem d169_65 : decode (zbyt 169) 65 = .ok (.lconst 1, 1) := by decide +kernel
theorem d169_66 : decode (zbyt 169) 66 = .ok (.goto 4, 3) := by decide +kernel
theorem d169_69 : decode (zbyt 169) 69 = .ok (.lconst 0, 1) := by decide +kernel
theorem d169_70 : decode (zbyt 169) 70 = .ok (.ladd, 1) := by decide +kernel
theorem d169_71 : decode (zbyt 169) 71 = .ok (.lstore 4, 2) := by decide +kernel
theorem d169_73 : decode (zbyt 169) 73 = .ok (.iinc 6 1, 3) := by decide +kernel
theorem d169_76 : decode (zbyt 169) 76 = .ok (.goto (-40), 3) := by decide +kernel
theorem d169_79 : decode (zbyt 169) 79 = .ok (.lload 4, 2) := by decide +kernel
theorem d169_81 : decode (zbyt 169) 81 = .ok (.aload_n 0, 1) := by decide +kernel
theorem d169_82 : decode (zbyt 169) 82 = .ok (.getfield 19, 3) := by decide +kernel
theorem d169_85 : decode (zbyt 169) 85 = .ok (.iload_n 1, 1) := by decide +kernel
theorem d169_86 : decode (zbyt 169) 86 = .ok (.iaload, 1) := by decide +kernel
theorem d169_87 : decode (zbyt 169) 87 = .ok (.i2l, 1) := by decide +kernel
theorem d169_88 : decode (zbyt 169) 88 = .ok (.iload_n 3, 1) := by decide +kernel
theorem d169_89 : decode (zbyt 169) 89 = .ok (.invokestatic 250, 3) := by decide +kernel
theorem d169_92 : decode (zbyt 169) 92 = .ok (.lreturn, 1) := by decide +kernel
theorem d170_0 : decode (zbyt 170) 0 = .ok (.iload_n 0, 1) := by decide +kernel
theorem d170_1 : decode (zbyt 170) 1 = .ok (.i2l, 1) := by decide +kernel
theorem d170_2 : decode (zbyt 170) 2 = .ok (.lconst 0, 1) := by decide +kernel
theorem d170_3 : decode (zbyt 170) 3 = .ok (.ldc2_w 254, 3) := by decide +kernel
theorem d170_6 : decode (zbyt 170) 6 = .ok (.invokestatic 86, 3) := by decide +kernel
theorem d170_9 : decode (zbyt 170) 9 = .ok (.ifCond .ne 7, 3) := by decide +kernel
theorem d170_12 : decode (zbyt 170) 12 = .ok (.iconst 1, 1) := by decide +kernel
theorem d170_13 : decode (zbyt 170) 13 = .ok (.goto 4, 3) := by decide +kernel
theorem d170_16 : decode (zbyt 170) 16 = .ok (.iconst 0, 1) := by decide +kernel
theorem d170_17 : decode (zbyt 170) 17 = .ok (.ireturn, 1) := by decide +kernel
theorem d171_0 : decode (zbyt 171) 0 = .ok (.iload_n 1, 1) := by decide +kernel
theorem d171_1 : decode (zbyt 171) 1 = .ok (.invokestatic 130, 3) := by decide +kernel
theorem d171_4 : decode (zbyt 171) 4 = .ok (.ifCond .eq 9, 3) := by decide +kernel
theorem d171_7 : decode (zbyt 171) 7 = .ok (.aload_n 0, 1) := by decide +kernel
theorem d171_8 : decode (zbyt 171) 8 = .ok (.iconst (-1), 1) := by decide +kernel
theorem d171_9 : decode (zbyt 171) 9 = .ok (.invokevirtual 134, 3) := by decide +kernel
theorem d171_12 : decode (zbyt 171) 12 = .ok (.ireturn, 1) := by decide +kernel
theorem d171_13 : decode (zbyt 171) 13 = .ok (.iload_n 2, 1) := by decide +kernel
theorem d171_14 : decode (zbyt 171) 14 = .ok (.i2l, 1) := by decide +kernel
theorem d171_15 : decode (zbyt 171) 15 = .ok (.lconst 0, 1) := by decide +kernel
theorem d171_16 : decode (zbyt 171) 16 = .ok (.ldc2_w 137, 3) := by decide +kernel
theorem d171_19 : decode (zbyt 171) 19 = .ok (.invokestatic 86, 3) := by decide +kernel
theorem d171_22 : decode (zbyt 171) 22 = .ok (.ifCond .eq 9, 3) := by decide +kernel
theorem d171_25 : decode (zbyt 171) 25 = .ok (.iload_n 3, 1) := by decide +kernel
theorem d171_26 : decode (zbyt 171) 26 = .ok (.bipush 60, 2) := by decide +kernel
theorem d171_28 : decode (zbyt 171) 28 = .ok (.if_icmp .le 10, 3) := by decide +kernel
theorem d171_31 : decode (zbyt 171) 31 = .ok (.aload_n 0, 1) := by decide +kernel
theorem d171_32 : decode (zbyt 171) 32 = .ok (.bipush (-2), 2) := by decide +kernel
theorem d171_34 : decode (zbyt 171) 34 = .ok (.invokevirtual 134, 3) := by decide +kernel
theorem d171_37 : decode (zbyt 171) 37 = .ok (.ireturn, 1) := by decide +kernel
theorem d171_38 : decode (zbyt 171) 38 = .ok (.iload_n 3, 1) := by decide +kernel
theorem d171_39 : decode (zbyt 171) 39 = .ok (.ifCond .ge 9, 3) := by decide +kernel
theorem d171_42 : decode (zbyt 171) 42 = .ok (.aload_n 0, 1) := by decide +kernel
theorem d171_43 : decode (zbyt 171) 43 = .ok (.iconst 4, 1) := by decide +kernel
theorem d171_44 : decode (zbyt 171) 44 = .ok (.invokevirtual 122, 3) := by decide +kernel
theorem d171_47 : decode (zbyt 171) 47 = .ok (.ireturn, 1) := by decide +kernel
theorem d171_48 : decode (zbyt 171) 48 = .ok (.aload_n 0, 1) := by decide +kernel
theorem d171_49 : decode (zbyt 171) 49 = .ok (.getfield 61, 3) := by decide +kernel
theorem d171_52 : decode (zbyt 171) 52 = .ok (.iload_n 1, 1) := by decide +kernel
theorem d171_53 : decode (zbyt 171) 53 = .ok (.iload_n 3, 1) := by decide +kernel
theorem d171_54 : decode (zbyt 171) 54 = .ok (.iastore, 1) := by decide +kernel
theorem d171_55 : decode (zbyt 171) 55 = .ok (.aload_n 0, 1) := by decide +kernel
theorem d171_56 : decode (zbyt 171) 56 = .ok (.getfield 64, 3) := by decide +kernel
theorem d171_59 : decode (zbyt 171) 59 = .ok (.iload_n 1, 1) := by decide +kernel
theorem d171_60 : decode (zbyt 171) 60 = .ok (.iload_n 2, 1) := by decide +kernel
theorem d171_61 : decode (zbyt 171) 61 = .ok (.iastore, 1) := by decide +kernel
theorem d171_62 : decode (zbyt 171) 62 = .ok (.iconst 0, 1) := by decide +kernel
theorem d171_63 : decode (zbyt 171) 63 = .ok (.istore 4, 2) := by decide +kernel
theorem d171_65 : decode (zbyt 171) 65 = .ok (.iload 4, 2) := by decide +kernel
theorem d171_67 : decode (zbyt 171) 67 = .ok (.iload_n 3, 1) := by decide +kernel
theorem d171_68 : decode (zbyt 171) 68 = .ok (.if_icmp .ge 22, 3) := by decide +kernel
theorem d171_71 : decode (zbyt 171) 71 = .ok (.aload_n 0, 1) := by decide +kernel
theorem d171_72 : decode (zbyt 171) 72 = .ok (.getfield 67, 3) := by decide +kernel
theorem d171_75 : decode (zbyt 171) 75 = .ok (.bipush 60, 2) := by decide +kernel
theorem d171_77 : decode (zbyt 171) 77 = .ok (.iload_n 1, 1) := by decide +kernel
theorem d171_78 : decode (zbyt 171) 78 = .ok (.imul, 1) := by decide +kernel
theorem d171_79 : decode (zbyt 171) 79 = .ok (.iload 4, 2) := by decide +kernel
theorem d171_81 : decode (zbyt 171) 81 = .ok (.iadd, 1) := by decide +kernel
theorem d171_82 : decode (zbyt 171) 82 = .ok (.iconst 0, 1) := by decide +kernel
theorem d171_83 : decode (zbyt 171) 83 = .ok (.iastore, 1) := by decide +kernel
theorem d171_84 : decode (zbyt 171) 84 = .ok (.iinc 4 1, 3) := by decide +kernel
theorem d171_87 : decode (zbyt 171) 87 = .ok (.goto (-22), 3) := by decide +kernel
theorem d171_90 : decode (zbyt 171) 90 = .ok (.aload_n 0, 1) := by decide +kernel
theorem d171_91 : decode (zbyt 171) 91 = .ok (.iconst 1, 1) := by decide +kernel
theorem d171_92 : decode (zbyt 171) 92 = .ok (.invokevirtual 134, 3) := by decide +kernel
theorem d171_95 : decode (zbyt 171) 95 = .ok (.ireturn, 1) := by decide +kernel
theorem d172_0 : decode (zbyt 172) 0 = .ok (.iload_n 1, 1) := by decide +kernel
theorem d172_1 : decode (zbyt 172) 1 = .ok (.invokestatic 130, 3) := by decide +kernel
theorem d172_4 : decode (zbyt 172) 4 = .ok (.ifCond .eq 5, 3) := by decide +kernel
theorem d172_7 : decode (zbyt 172) 7 = .ok (.iconst (-1), 1) := by decide +kernel
theorem d172_8 : decode (zbyt 172) 8 = .ok (.ireturn, 1) := by decide +kernel
theorem d172_9 : decode (zbyt 172) 9 = .ok (.aload_n 0, 1) := by decide +kernel
theorem d172_10 : decode (zbyt 172) 10 = .ok (.getfield 61, 3) := by decide +kernel
theorem d172_13 : decode (zbyt 172) 13 = .ok (.iload_n 1, 1) := by decide +kernel
theorem d172_14 : decode (zbyt 172) 14 = .ok (.iaload, 1) := by decide +kernel
theorem d172_15 : decode (zbyt 172) 15 = .ok (.ifCond .ge 7, 3) := by decide +kernel
theorem d172_18 : decode (zbyt 172) 18 = .ok (.iconst 0, 1) := by decide +kernel
theorem d172_19 : decode (zbyt 172) 19 = .ok (.goto 4, 3) := by decide +kernel
theorem d172_22 : decode (zbyt 172) 22 = .ok (.iconst 1, 1) := by decide +kernel
theorem d172_23 : decode (zbyt 172) 23 = .ok (.istore_n 2, 1) := by decide +kernel
theorem d172_24 : decode (zbyt 172) 24 = .ok (.aload_n 0, 1) := by decide +kernel
theorem d172_25 : decode (zbyt 172) 25 = .ok (.getfield 61, 3) := by decide +kernel
theorem d172_28 : decode (zbyt 172) 28 = .ok (.iload_n 1, 1) := by decide +kernel
theorem d172_29 : decode (zbyt 172) 29 = .ok (.iconst (-1), 1) := by decide +kernel
theorem d172_30 : decode (zbyt 172) 30 = .ok (.iastore, 1) := by decide +kernel
theorem d172_31 : decode (zbyt 172) 31 = .ok (.iload_n 2, 1) := by decide +kernel
theorem d172_32 : decode (zbyt 172) 32 = .ok (.ireturn, 1) := by decide +kernel
theorem d173_0 : decode (zbyt 173) 0 = .ok (.aload_n 0, 1) := by decide +kernel
theorem d173_1 : decode (zbyt 173) 1 = .ok (.getfield 61, 3) := by decide +kernel
theorem d173_4 : decode (zbyt 173) 4 = .ok (.iload_n 1, 1) := by decide +kernel
theorem d173_5 : decode (zbyt 173) 5 = .ok (.iaload, 1) := by decide +kernel
theorem d173_6 : decode (zbyt 173) 6 = .ok (.ifCond .ge 7, 3) := by decide +kernel
theorem d173_9 : decode (zbyt 173) 9 = .ok (.iconst 1, 1) := by decide +kernel
theorem d173_10 : decode (zbyt 173) 10 = .ok (.goto 26, 3) := by decide +kernel
theorem d173_13 : decode (zbyt 173) 13 = .ok (.iload_n 2, 1) := by decide +kernel
theorem d173_14 : decode (zbyt 173) 14 = .ok (.i2l, 1) := by decide +kernel
theorem d173_15 : decode (zbyt 173) 15 = .ok (.lconst 0, 1) := by decide +kernel
theorem d173_16 : decode (zbyt 173) 16 = .ok (.aload_n 0, 1) := by decide +kernel
theorem d173_17 : decode (zbyt 173) 17 = .ok (.getfield 61, 3) := by decide +kernel
theorem d173_20 : decode (zbyt 173) 20 = .ok (.iload_n 1, 1) := by decide +kernel
theorem d173_21 : decode (zbyt 173) 21 = .ok (.iaload, 1) := by decide +kernel
theorem d173_22 : decode (zbyt 173) 22 = .ok (.i2l, 1) := by decide +kernel
theorem d173_23 : decode (zbyt 173) 23 = .ok (.lconst 1, 1) := by decide +kernel
theorem d173_24 : decode (zbyt 173) 24 = .ok (.lsub, 1) := by decide +kernel
theorem d173_25 : decode (zbyt 173) 25 = .ok (.invokestatic 86, 3) := by decide +kernel
theorem d173_28 : decode (zbyt 173) 28 = .ok (.ifCond .eq 7, 3) := by decide +kernel
theorem d173_31 : decode (zbyt 173) 31 = .ok (.iconst 0, 1) := by decide +kernel
theorem d173_32 : decode (zbyt 173) 32 = .ok (.goto 4, 3) := by decide +kernel
theorem d173_35 : decode (zbyt 173) 35 = .ok (.iconst 3, 1) := by decide +kernel
theorem d173_36 : decode (zbyt 173) 36 = .ok (.ireturn, 1) := by decide +kernel
theorem d174_0 : decode (zbyt 174) 0 = .ok (.iload_n 1, 1) := by decide +kernel
theorem d174_1 : decode (zbyt 174) 1 = .ok (.invokestatic 130, 3) := by decide +kernel
theorem d174_4 : decode (zbyt 174) 4 = .ok (.ifCond .eq 9, 3) := by decide +kernel
theorem d174_7 : decode (zbyt 174) 7 = .ok (.aload_n 0, 1) := by decide +kernel
theorem d174_8 : decode (zbyt 174) 8 = .ok (.iconst (-1), 1) := by decide +kernel
theorem d174_9 : decode (zbyt 174) 9 = .ok (.invokevirtual 134, 3) := by decide +kernel
theorem d174_12 : decode (zbyt 174) 12 = .ok (.ireturn, 1) := by decide +kernel
theorem d174_13 : decode (zbyt 174) 13 = .ok (.aload_n 0, 1) := by decide +kernel
theorem d174_14 : decode (zbyt 174) 14 = .ok (.iload_n 1, 1) := by decide +kernel
theorem d174_15 : decode (zbyt 174) 15 = .ok (.iload_n 2, 1) := by decide +kernel
theorem d174_16 : decode (zbyt 174) 16 = .ok (.invokevirtual 256, 3) := by decide +kernel
theorem d174_19 : decode (zbyt 174) 19 = .ok (.ifCond .le 14, 3) := by decide +kernel
theorem d174_22 : decode (zbyt 174) 22 = .ok (.aload_n 0, 1) := by decide +kernel
theorem d174_23 : decode (zbyt 174) 23 = .ok (.aload_n 0, 1) := by decide +kernel
theorem d174_24 : decode (zbyt 174) 24 = .ok (.iload_n 1, 1) := by decide +kernel
theorem d174_25 : decode (zbyt 174) 25 = .ok (.iload_n 2, 1) := by decide +kernel
theorem d174_26 : decode (zbyt 174) 26 = .ok (.invokevirtual 256, 3) := by decide +kernel
theorem d174_29 : decode (zbyt 174) 29 = .ok (.invokevirtual 122, 3) := by decide +kernel
theorem d174_32 : decode (zbyt 174) 32 = .ok (.ireturn, 1) := by decide +kernel
theorem d174_33 : decode (zbyt 174) 33 = .ok (.aload_n 0, 1) := by decide +kernel
theorem d174_34 : decode (zbyt 174) 34 = .ok (.getfield 67, 3) := by decide +kernel
theorem d174_37 : decode (zbyt 174) 37 = .ok (.bipush 60, 2) := by decide +kernel
theorem d174_39 : decode (zbyt 174) 39 = .ok (.iload_n 1, 1) := by decide +kernel
theorem d174_40 : decode (zbyt 174) 40 = .ok (.imul, 1) := by decide +kernel
theorem d174_41 : decode (zbyt 174) 41 = .ok (.iload_n 2, 1) := by decide +kernel
theorem d174_42 : decode (zbyt 174) 42 = .ok (.iadd, 1) := by decide +kernel
theorem d174_43 : decode (zbyt 174) 43 = .ok (.aload_n 0, 1) := by decide +kernel
theorem d174_44 : decode (zbyt 174) 44 = .ok (.getfield 64, 3) := by decide +kernel
theorem d174_47 : decode (zbyt 174) 47 = .ok (.iload_n 1, 1) := by decide +kernel
theorem d174_48 : decode (zbyt 174) 48 = .ok (.iaload, 1) := by decide +kernel
theorem d174_49 : decode (zbyt 174) 49 = .ok (.ifCond .ne 8, 3) := by decide +kernel
theorem d174_52 : decode (zbyt 174) 52 = .ok (.iload_n 3, 1) := by decide +kernel
theorem d174_53 : decode (zbyt 174) 53 = .ok (.i2b, 1) := by decide +kernel
theorem d174_54 : decode (zbyt 174) 54 = .ok (.goto 19, 3) := by decide +kernel
theorem d174_57 : decode (zbyt 174) 57 = .ok (.aload_n 0, 1) := by decide +kernel
theorem d174_58 : decode (zbyt 174) 58 = .ok (.getfield 64, 3) := by decide +kernel
theorem d174_61 : decode (zbyt 174) 61 = .ok (.iload_n 1, 1) := by decide +kernel
theorem d174_62 : decode (zbyt 174) 62 = .ok (.iaload, 1) := by decide +kernel
theorem d174_63 : decode (zbyt 174) 63 = .ok (.iconst 1, 1) := by decide +kernel
theorem d174_64 : decode (zbyt 174) 64 = .ok (.if_icmp .ne 8, 3) := by decide +kernel
theorem d174_67 : decode (zbyt 174) 67 = .ok (.iload_n 3, 1) := by decide +kernel
theorem d174_68 : decode (zbyt 174) 68 = .ok (.i2s, 1) := by decide +kernel
theorem d174_69 : decode (zbyt 174) 69 = .ok (.goto 4, 3) := by decide +kernel
theorem d174_72 : decode (zbyt 174) 72 = .ok (.iload_n 3, 1) := by decide +kernel
theorem d174_73 : decode (zbyt 174) 73 = .ok (.iastore, 1) := by decide +kernel
theorem d174_74 : decode (zbyt 174) 74 = .ok (.aload_n 0, 1) := by decide +kernel
theorem d174_75 : decode (zbyt 174) 75 = .ok (.iconst 1, 1) := by decide +kernel
theorem d174_76 : decode (zbyt 174) 76 = .ok (.invokevirtual 134, 3) := by decide +kernel
theorem d174_79 : decode (zbyt 174) 79 = .ok (.ireturn, 1) := by decide +kernel
theorem d175_0 : decode (zbyt 175) 0 = .ok (.aload_n 0, 1) := by decide +kernel
theorem d175_1 : decode (zbyt 175) 1 = .ok (.iconst 0, 1) := by decide +kernel
theorem d175_2 : decode (zbyt 175) 2 = .ok (.putfield 75, 3) := by decide +kernel
theorem d175_5 : decode (zbyt 175) 5 = .ok (.iload_n 1, 1) := by decide +kernel
theorem d175_6 : decode (zbyt 175) 6 = .ok (.invokestatic 130, 3) := by decide +kernel
theorem d175_9 : decode (zbyt 175) 9 = .ok (.ifCond .ne 15, 3) := by decide +kernel
theorem d175_12 : decode (zbyt 175) 12 = .ok (.iload_n 3, 1) := by decide +kernel
theorem d175_13 : decode (zbyt 175) 13 = .ok (.i2l, 1) := by decide +kernel
theorem d175_14 : decode (zbyt 175) 14 = .ok (.lconst 0, 1) := by decide +kernel
theorem d175_15 : decode (zbyt 175) 15 = .ok (.ldc2_w 137, 3) := by decide +kernel
theorem d175_18 : decode (zbyt 175) 18 = .ok (.invokestatic 86, 3) := by decide +kernel
theorem d175_21 : decode (zbyt 175) 21 = .ok (.ifCond .ne 7, 3) := by decide +kernel
theorem d175_24 : decode (zbyt 175) 24 = .ok (.invokestatic 79, 3) := by decide +kernel
theorem d175_27 : decode (zbyt 175) 27 = .ok (.lreturn, 1) := by decide +kernel
theorem d175_28 : decode (zbyt 175) 28 = .ok (.aload_n 0, 1) := by decide +kernel
theorem d175_29 : decode (zbyt 175) 29 = .ok (.getfield 61, 3) := by decide +kernel
theorem d175_32 : decode (zbyt 175) 32 = .ok (.iload_n 1, 1) := by decide +kernel
theorem d175_33 : decode (zbyt 175) 33 = .ok (.iaload, 1) := by decide +kernel
theorem d175_34 : decode (zbyt 175) 34 = .ok (.ifCond .lt 19, 3) := by decide +kernel
theorem d175_37 : decode (zbyt 175) 37 = .ok (.aload_n 0, 1) := by decide +kernel
theorem d175_38 : decode (zbyt 175) 38 = .ok (.getfield 64, 3) := by decide +kernel
theorem d175_41 : decode (zbyt 175) 41 = .ok (.iload_n 1, 1) := by decide +kernel
theorem d175_42 : decode (zbyt 175) 42 = .ok (.iaload, 1) := by decide +kernel
theorem d175_43 : decode (zbyt 175) 43 = .ok (.iload_n 3, 1) := by decide +kernel
theorem d175_44 : decode (zbyt 175) 44 = .ok (.if_icmp .eq 9, 3) := by decide +kernel
theorem d175_47 : decode (zbyt 175) 47 = .ok (.aload_n 0, 1) := by decide +kernel
theorem d175_48 : decode (zbyt 175) 48 = .ok (.iconst 2, 1) := by decide +kernel
theorem d175_49 : decode (zbyt 175) 49 = .ok (.invokevirtual 259, 3) := by decide +kernel
theorem d175_52 : decode (zbyt 175) 52 = .ok (.lreturn, 1) := by decide +kernel
theorem d175_53 : decode (zbyt 175) 53 = .ok (.aload_n 0, 1) := by decide +kernel
theorem d175_54 : decode (zbyt 175) 54 = .ok (.iload_n 1, 1) := by decide +kernel
theorem d175_55 : decode (zbyt 175) 55 = .ok (.iload_n 2, 1) := by decide +kernel
theorem d175_56 : decode (zbyt 175) 56 = .ok (.invokevirtual 256, 3) := by decide +kernel
theorem d175_59 : decode (zbyt 175) 59 = .ok (.ifCond .le 16, 3) := by decide +kernel
theorem d175_62 : decode (zbyt 175) 62 = .ok (.aload_n 0, 1) := by decide +kernel
theorem d175_63 : decode (zbyt 175) 63 = .ok (.aload_n 0, 1) := by decide +kernel
theorem d175_64 : decode (zbyt 175) 64 = .ok (.iload_n 1, 1) := by decide +kernel
theorem d175_65 : decode (zbyt 175) 65 = .ok (.iload_n 2, 1) := by decide +kernel
theorem d175_66 : decode (zbyt 175) 66 = .ok (.invokevirtual 256, 3) := by decide +kernel
theorem d175_69 : decode (zbyt 175) 69 = .ok (.invokevirtual 259, 3) := by decide +kernel
theorem d175_72 : decode (zbyt 175) 72 = .ok (.goto 15, 3) := by decide +kernel
theorem d175_75 : decode (zbyt 175) 75 = .ok (.aload_n 0, 1) := by decide +kernel
theorem d175_76 : decode (zbyt 175) 76 = .ok (.getfield 67, 3) := by decide +kernel
theorem d175_79 : decode (zbyt 175) 79 = .ok (.bipush 60, 2) := by decide +kernel
theorem d175_81 : decode (zbyt 175) 81 = .ok (.iload_n 1, 1) := by decide +kernel
theorem d175_82 : decode (zbyt 175) 82 = .ok (.imul, 1) := by decide +kernel
theorem d175_83 : decode (zbyt 175) 83 = .ok (.iload_n 2, 1) := by decide +kernel
theorem d175_84 : decode (zbyt 175) 84 = .ok (.iadd, 1) := by decide +kernel
theorem d175_85 : decode (zbyt 175) 85 = .ok (.iaload, 1) := by decide +kernel
theorem d175_86 : decode (zbyt 175) 86 = .ok (.i2l, 1) := by decide +kernel
theorem d175_87 : decode (zbyt 175) 87 = .ok (.lreturn, 1) := by decide +kernel
theorem d176_0 : decode (zbyt 176) 0 = .ok (.iload_n 0, 1) := by decide +kernel
theorem d176_1 : decode (zbyt 176) 1 = .ok (.ifCond .lt 19, 3) := by decide +kernel
theorem d176_4 : decode (zbyt 176) 4 = .ok (.lload_n 1, 1) := by decide +kernel
theorem d176_5 : decode (zbyt 176) 5 = .ok (.lconst 0, 1) := by decide +kernel
theorem d176_6 : decode (zbyt 176) 6 = .ok (.lcmp, 1) := by decide +kernel
theorem d176_7 : decode (zbyt 176) 7 = .ok (.ifCond .lt 13, 3) := by decide +kernel
theorem d176_10 : decode (zbyt 176) 10 = .ok (.iload_n 0, 1) := by decide +kernel
theorem d176_11 : decode (zbyt 176) 11 = .ok (.i2l, 1) := by decide +kernel
theorem d176_12 : decode (zbyt 176) 12 = .ok (.lload_n 1, 1) := by decide +kernel
theorem d176_13 : decode (zbyt 176) 13 = .ok (.ladd, 1) := by decide +kernel
theorem d176_14 : decode (zbyt 176) 14 = .ok (.iload_n 3, 1) := by decide +kernel
theorem d176_15 : decode (zbyt 176) 15 = .ok (.i2l, 1) := by decide +kernel
theorem d176_16 : decode (zbyt 176) 16 = .ok (.lcmp, 1) := by decide +kernel
theorem d176_17 : decode (zbyt 176) 17 = .ok (.ifCond .le 7, 3) := by decide +kernel
theorem d176_20 : decode (zbyt 176) 20 = .ok (.iconst 1, 1) := by decide +kernel
theorem d176_21 : decode (zbyt 176) 21 = .ok (.goto 4, 3) := by decide +kernel
theorem d176_24 : decode (zbyt 176) 24 = .ok (.iconst 0, 1) := by decide +kernel
theorem d176_25 : decode (zbyt 176) 25 = .ok (.ireturn, 1) := by decide +kernel
theorem d177_0 : decode (zbyt 177) 0 = .ok (.iload_n 1, 1) := by decide +kernel
theorem d177_1 : decode (zbyt 177) 1 = .ok (.invokestatic 130, 3) := by decide +kernel
theorem d177_4 : decode (zbyt 177) 4 = .ok (.ifCond .ne 10, 3) := by decide +kernel
theorem d177_7 : decode (zbyt 177) 7 = .ok (.iload_n 3, 1) := by decide +kernel
theorem d177_8 : decode (zbyt 177) 8 = .ok (.invokestatic 130, 3) := by decide +kernel
theorem d177_11 : decode (zbyt 177) 11 = .ok (.ifCond .eq 9, 3) := by decide +kernel
theorem d177_14 : decode (zbyt 177) 14 = .ok (.aload_n 0, 1) := by decide +kernel
theorem d177_15 : decode (zbyt 177) 15 = .ok (.iconst (-1), 1) := by decide +kernel
theorem d177_16 : decode (zbyt 177) 16 = .ok (.invokevirtual 134, 3) := by decide +kernel
theorem d177_19 : decode (zbyt 177) 19 = .ok (.ireturn, 1) := by decide +kernel
theorem d177_20 : decode (zbyt 177) 20 = .ok (.aload_n 0, 1) := by decide +kernel
theorem d177_21 : decode (zbyt 177) 21 = .ok (.getfield 61, 3) := by decide +kernel
theorem d177_24 : decode (zbyt 177) 24 = .ok (.iload_n 1, 1) := by decide +kernel
theorem d177_25 : decode (zbyt 177) 25 = .ok (.iaload, 1) := by decide +kernel
theorem d177_26 : decode (zbyt 177) 26 = .ok (.ifCond .lt 12, 3) := by decide +kernel
theorem d177_29 : decode (zbyt 177) 29 = .ok (.aload_n 0, 1) := by decide +kernel
theorem d177_30 : decode (zbyt 177) 30 = .ok (.getfield 61, 3) := by decide +kernel
theorem d177_33 : decode (zbyt 177) 33 = .ok (.iload_n 3, 1) := by decide +kernel
theorem d177_34 : decode (zbyt 177) 34 = .ok (.iaload, 1) := by decide +kernel
theorem d177_35 : decode (zbyt 177) 35 = .ok (.ifCond .ge 9, 3) := by decide +kernel
theorem d177_38 : decode (zbyt 177) 38 = .ok (.aload_n 0, 1) := by decide +kernel
theorem d177_39 : decode (zbyt 177) 39 = .ok (.iconst 1, 1) := by decide +kernel
theorem d177_40 : decode (zbyt 177) 40 = .ok (.invokevirtual 122, 3) := by decide +kernel
theorem d177_43 : decode (zbyt 177) 43 = .ok (.ireturn, 1) := by decide +kernel
theorem d177_44 : decode (zbyt 177) 44 = .ok (.aload_n 0, 1) := by decide +kernel
theorem d177_45 : decode (zbyt 177) 45 = .ok (.getfield 64, 3) := by decide +kernel
theorem d177_48 : decode (zbyt 177) 48 = .ok (.iload_n 1, 1) := by decide +kernel
theorem d177_49 : decode (zbyt 177) 49 = .ok (.iaload, 1) := by decide +kernel
theorem d177_50 : decode (zbyt 177) 50 = .ok (.aload_n 0, 1) := by decide +kernel
theorem d177_51 : decode (zbyt 177) 51 = .ok (.getfield 64, 3) := by decide +kernel
theorem d177_54 : decode (zbyt 177) 54 = .ok (.iload_n 3, 1) := by decide +kernel
theorem d177_55 : decode (zbyt 177) 55 = .ok (.iaload, 1) := by decide +kernel
theorem d177_56 : decode (zbyt 177) 56 = .ok (.if_icmp .eq 9, 3) := by decide +kernel
theorem d177_59 : decode (zbyt 177) 59 = .ok (.aload_n 0, 1) := by decide +kernel
theorem d177_60 : decode (zbyt 177) 60 = .ok (.iconst 2, 1) := by decide +kernel
theorem d177_61 : decode (zbyt 177) 61 = .ok (.invokevirtual 122, 3) := by decide +kernel
theorem d177_64 : decode (zbyt 177) 64 = .ok (.ireturn, 1) := by decide +kernel
theorem d177_65 : decode (zbyt 177) 65 = .ok (.iload_n 2, 1) := by decide +kernel
theorem d177_66 : decode (zbyt 177) 66 = .ok (.iload 5, 2) := by decide +kernel
theorem d177_68 : decode (zbyt 177) 68 = .ok (.i2l, 1) := by decide +kernel
theorem d177_69 : decode (zbyt 177) 69 = .ok (.aload_n 0, 1) := by decide +kernel
theorem d177_70 : decode (zbyt 177) 70 = .ok (.getfield 61, 3) := by decide +kernel
theorem d177_73 : decode (zbyt 177) 73 = .ok (.iload_n 1, 1) := by decide +kernel
theorem d177_74 : decode (zbyt 177) 74 = .ok (.iaload, 1) := by decide +kernel
theorem d177_75 : decode (zbyt 177) 75 = .ok (.invokestatic 126, 3) := by decide +kernel
theorem d177_78 : decode (zbyt 177) 78 = .ok (.ifCond .ne 20, 3) := by decide +kernel
theorem d177_81 : decode (zbyt 177) 81 = .ok (.iload 4, 2) := by decide +kernel
theorem d177_83 : decode (zbyt 177) 83 = .ok (.iload 5, 2) := by decide +kernel
theorem d177_85 : decode (zbyt 177) 85 = .ok (.i2l, 1) := by decide +kernel
theorem d177_86 : decode (zbyt 177) 86 = .ok (.aload_n 0, 1) := by decide +kernel
theorem d177_87 : decode (zbyt 177) 87 = .ok (.getfield 61, 3) := by decide +kernel
theorem d177_90 : decode (zbyt 177) 90 = .ok (.iload_n 3, 1) := by decide +kernel
theorem d177_91 : decode (zbyt 177) 91 = .ok (.iaload, 1) := by decide +kernel
theorem d177_92 : decode (zbyt 177) 92 = .ok (.invokestatic 126, 3) := by decide +kernel
theorem d177_95 : decode (zbyt 177) 95 = .ok (.ifCond .eq 9, 3) := by decide +kernel
theorem d177_98 : decode (zbyt 177) 98 = .ok (.aload_n 0, 1) := by decide +kernel
theorem d177_99 : decode (zbyt 177) 99 = .ok (.iconst 3, 1) := by decide +kernel
theorem d177_100 : decode (zbyt 177) 100 = .ok (.invokevirtual 122, 3) := by decide +kernel
theorem d177_103 : decode (zbyt 177) 103 = .ok (.ireturn, 1) := by decide +kernel
theorem d177_104 : decode (zbyt 177) 104 = .ok (.iconst 0, 1) := by decide +kernel
theorem d177_105 : decode (zbyt 177) 105 = .ok (.istore 6, 2) := by decide +kernel
theorem d177_107 : decode (zbyt 177) 107 = .ok (.iload 6, 2) := by decide +kernel
theorem d177_109 : decode (zbyt 177) 109 = .ok (.iload 5, 2) := by decide +kernel
theorem d177_111 : decode (zbyt 177) 111 = .ok (.if_icmp .ge 30, 3) := by decide +kernel
theorem d177_114 : decode (zbyt 177) 114 = .ok (.aload_n 0, 1) := by decide +kernel
theorem d177_115 : decode (zbyt 177) 115 = .ok (.getfield 70, 3) := by decide +kernel
theorem d177_118 : decode (zbyt 177) 118 = .ok (.iload 6, 2) := by decide +kernel
theorem d177_120 : decode (zbyt 177) 120 = .ok (.aload_n 0, 1) := by decide +kernel
theorem d177_121 : decode (zbyt 177) 121 = .ok (.getfield 67, 3) := by decide +kernel
theorem d177_124 : decode (zbyt 177) 124 = .ok (.bipush 60, 2) := by decide +kernel
theorem d177_126 : decode (zbyt 177) 126 = .ok (.iload_n 1, 1) := by decide +kernel
theorem d177_127 : decode (zbyt 177) 127 = .ok (.imul, 1) := by decide +kernel
theorem d177_128 : decode (zbyt 177) 128 = .ok (.iload_n 2, 1) := by decide +kernel
theorem d177_129 : decode (zbyt 177) 129 = .ok (.iadd, 1) := by decide +kernel
theorem d177_130 : decode (zbyt 177) 130 = .ok (.iload 6, 2) := by decide +kernel
theorem d177_132 : decode (zbyt 177) 132 = .ok (.iadd, 1) := by decide +kernel
theorem d177_133 : decode (zbyt 177) 133 = .ok (.iaload, 1) := by decide +kernel
theorem d177_134 : decode (zbyt 177) 134 = .ok (.iastore, 1) := by decide +kernel
theorem d177_135 : decode (zbyt 177) 135 = .ok (.iinc 6 1, 3) := by decide +kernel
theorem d177_138 : decode (zbyt 177) 138 = .ok (.goto (-31), 3) := by decide +kernel
theorem d177_141 : decode (zbyt 177) 141 = .ok (.iconst 0, 1) := by decide +kernel
theorem d177_142 : decode (zbyt 177) 142 = .ok (.istore 6, 2) := by decide +kernel
theorem d177_144 : decode (zbyt 177) 144 = .ok (.iload 6, 2) := by decide +kernel
theorem d177_146 : decode (zbyt 177) 146 = .ok (.iload 5, 2) := by decide +kernel
theorem d177_148 : decode (zbyt 177) 148 = .ok (.if_icmp .ge 31, 3) := by decide +kernel
theorem d177_151 : decode (zbyt 177) 151 = .ok (.aload_n 0, 1) := by decide +kernel
theorem d177_152 : decode (zbyt 177) 152 = .ok (.getfield 67, 3) := by decide +kernel
theorem d177_155 : decode (zbyt 177) 155 = .ok (.bipush 60, 2) := by decide +kernel
theorem d177_157 : decode (zbyt 177) 157 = .ok (.iload_n 3, 1) := by decide +kernel
theorem d177_158 : decode (zbyt 177) 158 = .ok (.imul, 1) := by decide +kernel
theorem d177_159 : decode (zbyt 177) 159 = .ok (.iload 4, 2) := by decide +kernel
theorem d177_161 : decode (zbyt 177) 161 = .ok (.iadd, 1) := by decide +kernel
theorem d177_162 : decode (zbyt 177) 162 = .ok (.iload 6, 2) := by decide +kernel
theorem d177_164 : decode (zbyt 177) 164 = .ok (.iadd, 1) := by decide +kernel
theorem d177_165 : decode (zbyt 177) 165 = .ok (.aload_n 0, 1) := by decide +kernel
theorem d177_166 : decode (zbyt 177) 166 = .ok (.getfield 70, 3) := by decide +kernel
theorem d177_169 : decode (zbyt 177) 169 = .ok (.iload 6, 2) := by decide +kernel
theorem d177_171 : decode (zbyt 177) 171 = .ok (.iaload, 1) := by decide +kernel
theorem d177_172 : decode (zbyt 177) 172 = .ok (.iastore, 1) := by decide +kernel
theorem d177_173 : decode (zbyt 177) 173 = .ok (.iinc 6 1, 3) := by decide +kernel
theorem d177_176 : decode (zbyt 177) 176 = .ok (.goto (-32), 3) := by decide +kernel
theorem d177_179 : decode (zbyt 177) 179 = .ok (.aload_n 0, 1) := by decide +kernel
theorem d177_180 : decode (zbyt 177) 180 = .ok (.iload 5, 2) := by decide +kernel
theorem d177_182 : decode (zbyt 177) 182 = .ok (.invokevirtual 134, 3) := by decide +kernel
theorem d177_185 : decode (zbyt 177) 185 = .ok (.ireturn, 1) := by decide +kernel
theorem d178_0 : decode (zbyt 178) 0 = .ok (.aload_n 0, 1) := by decide +kernel
theorem d178_1 : decode (zbyt 178) 1 = .ok (.bipush 31, 2) := by decide +kernel
theorem d178_3 : decode (zbyt 178) 3 = .ok (.aload_n 0, 1) := by decide +kernel
theorem d178_4 : decode (zbyt 178) 4 = .ok (.getfield 263, 3) := by decide +kernel
theorem d178_7 : decode (zbyt 178) 7 = .ok (.imul, 1) := by decide +kernel
theorem d178_8 : decode (zbyt 178) 8 = .ok (.iload_n 1, 1) := by decide +kernel
theorem d178_9 : decode (zbyt 178) 9 = .ok (.iadd, 1) := by decide +kernel
theorem d178_10 : decode (zbyt 178) 10 = .ok (.putfield 263, 3) := by decide +kernel
theorem d178_13 : decode (zbyt 178) 13 = .ok (.return_, 1) := by decide +kernel
theorem d179_0 : decode (zbyt 179) 0 = .ok (.aload_n 0, 1) := by decide +kernel
theorem d179_1 : decode (zbyt 179) 1 = .ok (.iload_n 1, 1) := by decide +kernel
theorem d179_2 : decode (zbyt 179) 2 = .ok (.invokevirtual 158, 3) := by decide +kernel
theorem d179_5 : decode (zbyt 179) 5 = .ok (.ifCond .eq 5, 3) := by decide +kernel
theorem d179_8 : decode (zbyt 179) 8 = .ok (.iconst (-1), 1) := by decide +kernel
theorem d179_9 : decode (zbyt 179) 9 = .ok (.ireturn, 1) := by decide +kernel
theorem d179_10 : decode (zbyt 179) 10 = .ok (.aload_n 0, 1) := by decide +kernel
theorem d179_11 : decode (zbyt 179) 11 = .ok (.getfield 13, 3) := by decide +kernel
theorem d179_14 : decode (zbyt 179) 14 = .ok (.iload_n 1, 1) := by decide +kernel
theorem d179_15 : decode (zbyt 179) 15 = .ok (.iaload, 1) := by decide +kernel
theorem d179_16 : decode (zbyt 179) 16 = .ok (.istore_n 2, 1) := by decide +kernel
theorem d179_17 : decode (zbyt 179) 17 = .ok (.iload_n 2, 1) := by decide +kernel
theorem d179_18 : decode (zbyt 179) 18 = .ok (.iconst 2, 1) := by decide +kernel
theorem d179_19 : decode (zbyt 179) 19 = .ok (.if_icmp .ne 8, 3) := by decide +kernel
theorem d179_22 : decode (zbyt 179) 22 = .ok (.aload_n 0, 1) := by decide +kernel
theorem d179_23 : decode (zbyt 179) 23 = .ok (.iconst 3, 1) := by decide +kernel
theorem d179_24 : decode (zbyt 179) 24 = .ok (.invokevirtual 266, 3) := by decide +kernel
theorem d179_27 : decode (zbyt 179) 27 = .ok (.iload_n 2, 1) := by decide +kernel
theorem d179_28 : decode (zbyt 179) 28 = .ok (.ifCond .le 8, 3) := by decide +kernel
theorem d179_31 : decode (zbyt 179) 31 = .ok (.aload_n 0, 1) := by decide +kernel
theorem d179_32 : decode (zbyt 179) 32 = .ok (.iconst 2, 1) := by decide +kernel
theorem d179_33 : decode (zbyt 179) 33 = .ok (.invokevirtual 266, 3) := by decide +kernel
theorem d179_36 : decode (zbyt 179) 36 = .ok (.aload_n 0, 1) := by decide +kernel
theorem d179_37 : decode (zbyt 179) 37 = .ok (.iconst 1, 1) := by decide +kernel
theorem d179_38 : decode (zbyt 179) 38 = .ok (.invokevirtual 266, 3) := by decide +kernel
theorem d179_41 : decode (zbyt 179) 41 = .ok (.iload_n 2, 1) := by decide +kernel
theorem d179_42 : decode (zbyt 179) 42 = .ok (.iconst 2, 1) := by decide +kernel
theorem d179_43 : decode (zbyt 179) 43 = .ok (.if_icmp .ne 8, 3) := by decide +kernel
theorem d179_46 : decode (zbyt 179) 46 = .ok (.aload_n 0, 1) := by decide +kernel
theorem d179_47 : decode (zbyt 179) 47 = .ok (.iconst 1, 1) := by decide +kernel
theorem d179_48 : decode (zbyt 179) 48 = .ok (.invokevirtual 266, 3) := by decide +kernel
theorem d179_51 : decode (zbyt 179) 51 = .ok (.aload_n 0, 1) := by decide +kernel
theorem d179_52 : decode (zbyt 179) 52 = .ok (.getfield 16, 3) := by decide +kernel
theorem d179_55 : decode (zbyt 179) 55 = .ok (.iload_n 1, 1) := by decide +kernel
theorem d179_56 : decode (zbyt 179) 56 = .ok (.iaload, 1) := by decide +kernel
theorem d179_57 : decode (zbyt 179) 57 = .ok (.istore_n 3, 1) := by decide +kernel
theorem d179_58 : decode (zbyt 179) 58 = .ok (.iload_n 2, 1) := by decide +kernel
theorem d179_59 : decode (zbyt 179) 59 = .ok (.ifCond .ne 7, 3) := by decide +kernel
theorem d179_62 : decode (zbyt 179) 62 = .ok (.iload_n 3, 1) := by decide +kernel
theorem d179_63 : decode (zbyt 179) 63 = .ok (.goto 21, 3) := by decide +kernel
theorem d179_66 : decode (zbyt 179) 66 = .ok (.iload_n 2, 1) := by decide +kernel
theorem d179_67 : decode (zbyt 179) 67 = .ok (.iconst 1, 1) := by decide +kernel
theorem d179_68 : decode (zbyt 179) 68 = .ok (.if_icmp .ne 10, 3) := by decide +kernel
theorem d179_71 : decode (zbyt 179) 71 = .ok (.iload_n 3, 1) := by decide +kernel
theorem d179_72 : decode (zbyt 179) 72 = .ok (.bipush 100, 2) := by decide +kernel
theorem d179_74 : decode (zbyt 179) 74 = .ok (.iadd, 1) := by decide +kernel
theorem d179_75 : decode (zbyt 179) 75 = .ok (.goto 9, 3) := by decide +kernel
theorem d179_78 : decode (zbyt 179) 78 = .ok (.iconst 2, 1) := by decide +kernel
theorem d179_79 : decode (zbyt 179) 79 = .ok (.iload_n 3, 1) := by decide +kernel
theorem d179_80 : decode (zbyt 179) 80 = .ok (.imul, 1) := by decide +kernel
theorem d179_81 : decode (zbyt 179) 81 = .ok (.bipush 100, 2) := by decide +kernel
theorem d179_83 : decode (zbyt 179) 83 = .ok (.iadd, 1) := by decide +kernel
theorem d179_84 : decode (zbyt 179) 84 = .ok (.ireturn, 1) := by decide +kernel
theorem d180_0 : decode (zbyt 180) 0 = .ok (.aload_n 0, 1) := by decide +kernel
theorem d180_1 : decode (zbyt 180) 1 = .ok (.iload_n 1, 1) := by decide +kernel
theorem d180_2 : decode (zbyt 180) 2 = .ok (.invokevirtual 158, 3) := by decide +kernel
theorem d180_5 : decode (zbyt 180) 5 = .ok (.ifCond .eq 5, 3) := by decide +kernel
theorem d180_8 : decode (zbyt 180) 8 = .ok (.iconst (-1), 1) := by decide +kernel
theorem d180_9 : decode (zbyt 180) 9 = .ok (.ireturn, 1) := by decide +kernel
theorem d180_10 : decode (zbyt 180) 10 = .ok (.aload_n 0, 1) := by decide +kernel
theorem d180_11 : decode (zbyt 180) 11 = .ok (.aload_n 0, 1) := by decide +kernel
theorem d180_12 : decode (zbyt 180) 12 = .ok (.getfield 13, 3) := by decide +kernel
theorem d180_15 : decode (zbyt 180) 15 = .ok (.iload_n 1, 1) := by decide +kernel
theorem d180_16 : decode (zbyt 180) 16 = .ok (.iaload, 1) := by decide +kernel
theorem d180_17 : decode (zbyt 180) 17 = .ok (.iconst 2, 1) := by decide +kernel
theorem d180_18 : decode (zbyt 180) 18 = .ok (.if_icmp .ne 7, 3) := by decide +kernel
theorem d180_21 : decode (zbyt 180) 21 = .ok (.iconst 5, 1) := by decide +kernel
theorem d180_22 : decode (zbyt 180) 22 = .ok (.goto 4, 3) := by decide +kernel
theorem d180_25 : decode (zbyt 180) 25 = .ok (.iconst 4, 1) := by decide +kernel
theorem d180_26 : decode (zbyt 180) 26 = .ok (.invokevirtual 266, 3) := by decide +kernel
theorem d180_29 : decode (zbyt 180) 29 = .ok (.aload_n 0, 1) := by decide +kernel
theorem d180_30 : decode (zbyt 180) 30 = .ok (.getfield 13, 3) := by decide +kernel
theorem d180_33 : decode (zbyt 180) 33 = .ok (.iload_n 1, 1) := by decide +kernel
theorem d180_34 : decode (zbyt 180) 34 = .ok (.iaload, 1) := by decide +kernel
theorem d180_35 : decode (zbyt 180) 35 = .ok (.iconst 2, 1) := by decide +kernel
theorem d180_36 : decode (zbyt 180) 36 = .ok (.if_icmp .ne 8, 3) := by decide +kernel
theorem d180_39 : decode (zbyt 180) 39 = .ok (.bipush 80, 2) := by decide +kernel
theorem d180_41 : decode (zbyt 180) 41 = .ok (.goto 4, 3) := by decide +kernel
theorem d180_44 : decode (zbyt 180) 44 = .ok (.iload_n 1, 1) := by decide +kernel
theorem d180_45 : decode (zbyt 180) 45 = .ok (.ireturn, 1) := by decide +kernel
theorem d181_0 : decode (zbyt 181) 0 = .ok (.aload_n 0, 1) := by decide +kernel
theorem d181_1 : decode (zbyt 181) 1 = .ok (.iload_n 1, 1) := by decide +kernel
theorem d181_2 : decode (zbyt 181) 2 = .ok (.invokevirtual 158, 3) := by decide +kernel
theorem d181_5 : decode (zbyt 181) 5 = .ok (.ifCond .eq 9, 3) := by decide +kernel
theorem d181_8 : decode (zbyt 181) 8 = .ok (.aload_n 0, 1) := by decide +kernel
theorem d181_9 : decode (zbyt 181) 9 = .ok (.iconst (-1), 1) := by decide +kernel
theorem d181_10 : decode (zbyt 181) 10 = .ok (.invokevirtual 134, 3) := by decide +kernel
theorem d181_13 : decode (zbyt 181) 13 = .ok (.ireturn, 1) := by decide +kernel
theorem d181_14 : decode (zbyt 181) 14 = .ok (.iload_n 2, 1) := by decide +kernel
theorem d181_15 : decode (zbyt 181) 15 = .ok (.i2l, 1) := by decide +kernel
theorem d181_16 : decode (zbyt 181) 16 = .ok (.lconst 0, 1) := by decide +kernel
theorem d181_17 : decode (zbyt 181) 17 = .ok (.ldc2_w 137, 3) := by decide +kernel
theorem d181_20 : decode (zbyt 181) 20 = .ok (.invokestatic 86, 3) := by decide +kernel
theorem d181_23 : decode (zbyt 181) 23 = .ok (.ifCond .ne 10, 3) := by decide +kernel
theorem d181_26 : decode (zbyt 181) 26 = .ok (.aload_n 0, 1) := by decide +kernel
theorem d181_27 : decode (zbyt 181) 27 = .ok (.bipush (-2), 2) := by decide +kernel
theorem d181_29 : decode (zbyt 181) 29 = .ok (.invokevirtual 134, 3) := by decide +kernel
theorem d181_32 : decode (zbyt 181) 32 = .ok (.ireturn, 1) := by decide +kernel
theorem d181_33 : decode (zbyt 181) 33 = .ok (.aload_n 0, 1) := by decide +kernel
theorem d181_34 : decode (zbyt 181) 34 = .ok (.getfield 13, 3) := by decide +kernel
theorem d181_37 : decode (zbyt 181) 37 = .ok (.iload_n 1, 1) := by decide +kernel
theorem d181_38 : decode (zbyt 181) 38 = .ok (.iaload, 1) := by decide +kernel
theorem d181_39 : decode (zbyt 181) 39 = .ok (.iload_n 2, 1) := by decide +kernel
theorem d181_40 : decode (zbyt 181) 40 = .ok (.if_icmp .lt 11, 3) := by decide +kernel
theorem d181_43 : decode (zbyt 181) 43 = .ok (.aload_n 0, 1) := by decide +kernel
theorem d181_44 : decode (zbyt 181) 44 = .ok (.iconst 1, 1) := by decide +kernel
theorem d181_45 : decode (zbyt 181) 45 = .ok (.invokevirtual 134, 3) := by decide +kernel
theorem d181_48 : decode (zbyt 181) 48 = .ok (.goto 8, 3) := by decide +kernel
theorem d181_51 : decode (zbyt 181) 51 = .ok (.aload_n 0, 1) := by decide +kernel
theorem d181_52 : decode (zbyt 181) 52 = .ok (.iconst 2, 1) := by decide +kernel
theorem d181_53 : decode (zbyt 181) 53 = .ok (.invokevirtual 122, 3) := by decide +kernel
theorem d181_56 : decode (zbyt 181) 56 = .ok (.ireturn, 1) := by decide +kernel
theorem d182_0 : decode (zbyt 182) 0 = .ok (.aload_n 0, 1) := by decide +kernel
theorem d182_1 : decode (zbyt 182) 1 = .ok (.getfield 263, 3) := by decide +kernel
theorem d182_4 : decode (zbyt 182) 4 = .ok (.ireturn, 1) := by decide +kernel
theorem d183_0 : decode (zbyt 183) 0 = .ok (.aload_n 0, 1) := by decide +kernel
theorem d183_1 : decode (zbyt 183) 1 = .ok (.getfield 75, 3) := by decide +kernel
theorem d183_4 : decode (zbyt 183) 4 = .ok (.ireturn, 1) := by decide +kernel
theorem d184_0 : decode (zbyt 184) 0 = .ok (.iload_n 1, 1) := by decide +kernel
theorem d184_1 : decode (zbyt 184) 1 = .ok (.tableswitch 72 0 5 #[39, 44, 49, 54, 59, 67], 39) := by decide +kernel
theorem d184_40 : decode (zbyt 184) 40 = .ok (.aload_n 0, 1) := by decide +kernel
theorem d184_41 : decode (zbyt 184) 41 = .ok (.getfield 90, 3) := by decide +kernel
theorem d184_44 : decode (zbyt 184) 44 = .ok (.ireturn, 1) := by decide +kernel
theorem d184_45 : decode (zbyt 184) 45 = .ok (.aload_n 0, 1) := by decide +kernel
theorem d184_46 : decode (zbyt 184) 46 = .ok (.getfield 83, 3) := by decide +kernel
theorem d184_49 : decode (zbyt 184) 49 = .ok (.ireturn, 1) := by decide +kernel
theorem d184_50 : decode (zbyt 184) 50 = .ok (.aload_n 0, 1) := by decide +kernel
theorem d184_51 : decode (zbyt 184) 51 = .ok (.getfield 146, 3) := by decide +kernel
theorem d184_54 : decode (zbyt 184) 54 = .ok (.ireturn, 1) := by decide +kernel
theorem d184_55 : decode (zbyt 184) 55 = .ok (.aload_n 0, 1) := by decide +kernel
theorem d184_56 : decode (zbyt 184) 56 = .ok (.getfield 149, 3) := by decide +kernel
theorem d184_59 : decode (zbyt 184) 59 = .ok (.ireturn, 1) := by decide +kernel
theorem d184_60 : decode (zbyt 184) 60 = .ok (.aload_n 0, 1) := by decide +kernel
theorem d184_61 : decode (zbyt 184) 61 = .ok (.getfield 152, 3) := by decide +kernel
theorem d184_64 : decode (zbyt 184) 64 = .ok (.invokestatic 191, 3) := by decide +kernel
theorem d184_67 : decode (zbyt 184) 67 = .ok (.ireturn, 1) := by decide +kernel
theorem d184_68 : decode (zbyt 184) 68 = .ok (.aload_n 0, 1) := by decide +kernel
theorem d184_69 : decode (zbyt 184) 69 = .ok (.getfield 155, 3) := by decide +kernel
theorem d184_72 : decode (zbyt 184) 72 = .ok (.ireturn, 1) := by decide +kernel
theorem d184_73 : decode (zbyt 184) 73 = .ok (.bipush (-2), 2) := by decide +kernel
theorem d184_75 : decode (zbyt 184) 75 = .ok (.ireturn, 1) := by decide +kernel
theorem d185_0 : decode (zbyt 185) 0 = .ok (.iload_n 0, 1) := by decide +kernel
theorem d185_1 : decode (zbyt 185) 1 = .ok (.iload_n 0, 1) := by decide +kernel
theorem d185_2 : decode (zbyt 185) 2 = .ok (.iconst 1, 1) := by decide +kernel
theorem d185_3 : decode (zbyt 185) 3 = .ok (.iushr, 1) := by decide +kernel
theorem d185_4 : decode (zbyt 185) 4 = .ok (.ldc_w 265, 3) := by decide +kernel
theorem d185_7 : decode (zbyt 185) 7 = .ok (.iand, 1) := by decide +kernel
theorem d185_8 : decode (zbyt 185) 8 = .ok (.isub, 1) := by decide +kernel
theorem d185_9 : decode (zbyt 185) 9 = .ok (.istore_n 0, 1) := by decide +kernel
theorem d185_10 : decode (zbyt 185) 10 = .ok (.iload_n 0, 1) := by decide +kernel
theorem d185_11 : decode (zbyt 185) 11 = .ok (.ldc_w 266, 3) := by decide +kernel
theorem d185_14 : decode (zbyt 185) 14 = .ok (.iand, 1) := by decide +kernel
theorem d185_15 : decode (zbyt 185) 15 = .ok (.iload_n 0, 1) := by decide +kernel
theorem d185_16 : decode (zbyt 185) 16 = .ok (.iconst 2, 1) := by decide +kernel
theorem d185_17 : decode (zbyt 185) 17 = .ok (.iushr, 1) := by decide +kernel
theorem d185_18 : decode (zbyt 185) 18 = .ok (.ldc_w 266, 3) := by decide +kernel
theorem d185_21 : decode (zbyt 185) 21 = .ok (.iand, 1) := by decide +kernel
theorem d185_22 : decode (zbyt 185) 22 = .ok (.iadd, 1) := by decide +kernel
theorem d185_23 : decode (zbyt 185) 23 = .ok (.istore_n 0, 1) := by decide +kernel
theorem d185_24 : decode (zbyt 185) 24 = .ok (.iload_n 0, 1) := by decide +kernel
theorem d185_25 : decode (zbyt 185) 25 = .ok (.iload_n 0, 1) := by decide +kernel
theorem d185_26 : decode (zbyt 185) 26 = .ok (.iconst 4, 1) := by decide +kernel
theorem d185_27 : decode (zbyt 185) 27 = .ok (.iushr, 1) := by decide +kernel
theorem d185_28 : decode (zbyt 185) 28 = .ok (.iadd, 1) := by decide +kernel
theorem d185_29 : decode (zbyt 185) 29 = .ok (.ldc_w 267, 3) := by decide +kernel
theorem d185_32 : decode (zbyt 185) 32 = .ok (.iand, 1) := by decide +kernel
theorem d185_33 : decode (zbyt 185) 33 = .ok (.istore_n 0, 1) := by decide +kernel
theorem d185_34 : decode (zbyt 185) 34 = .ok (.iload_n 0, 1) := by decide +kernel
theorem d185_35 : decode (zbyt 185) 35 = .ok (.iload_n 0, 1) := by decide +kernel
theorem d185_36 : decode (zbyt 185) 36 = .ok (.bipush 8, 2) := by decide +kernel
theorem d185_38 : decode (zbyt 185) 38 = .ok (.iushr, 1) := by decide +kernel
theorem d185_39 : decode (zbyt 185) 39 = .ok (.iadd, 1) := by decide +kernel
theorem d185_40 : decode (zbyt 185) 40 = .ok (.istore_n 0, 1) := by decide +kernel
theorem d185_41 : decode (zbyt 185) 41 = .ok (.iload_n 0, 1) := by decide +kernel
theorem d185_42 : decode (zbyt 185) 42 = .ok (.iload_n 0, 1) := by decide +kernel
theorem d185_43 : decode (zbyt 185) 43 = .ok (.bipush 16, 2) := by decide +kernel
theorem d185_45 : decode (zbyt 185) 45 = .ok (.iushr, 1) := by decide +kernel
theorem d185_46 : decode (zbyt 185) 46 = .ok (.iadd, 1) := by decide +kernel
theorem d185_47 : decode (zbyt 185) 47 = .ok (.istore_n 0, 1) := by decide +kernel
theorem d185_48 : decode (zbyt 185) 48 = .ok (.iload_n 0, 1) := by decide +kernel
theorem d185_49 : decode (zbyt 185) 49 = .ok (.bipush 63, 2) := by decide +kernel
theorem d185_51 : decode (zbyt 185) 51 = .ok (.iand, 1) := by decide +kernel
theorem d185_52 : decode (zbyt 185) 52 = .ok (.ireturn, 1) := by decide +kernel
theorem d186_0 : decode (zbyt 186) 0 = .ok (.new 7, 3) := by decide +kernel
theorem d186_3 : decode (zbyt 186) 3 = .ok (.dup, 1) := by decide +kernel
theorem d186_4 : decode (zbyt 186) 4 = .ok (.invokespecial 9, 3) := by decide +kernel
theorem d186_7 : decode (zbyt 186) 7 = .ok (.astore_n 1, 1) := by decide +kernel
theorem d186_8 : decode (zbyt 186) 8 = .ok (.new 10, 3) := by decide +kernel
theorem d186_11 : decode (zbyt 186) 11 = .ok (.dup, 1) := by decide +kernel
theorem d186_12 : decode (zbyt 186) 12 = .ok (.invokespecial 12, 3) := by decide +kernel
theorem d186_15 : decode (zbyt 186) 15 = .ok (.astore_n 2, 1) := by decide +kernel
theorem d186_16 : decode (zbyt 186) 16 = .ok (.iconst 0, 1) := by decide +kernel
theorem d186_17 : decode (zbyt 186) 17 = .ok (.istore_n 3, 1) := by decide +kernel
theorem d186_18 : decode (zbyt 186) 18 = .ok (.iload_n 3, 1) := by decide +kernel
theorem d186_19 : decode (zbyt 186) 19 = .ok (.aload_n 0, 1) := by decide +kernel
theorem d186_20 : decode (zbyt 186) 20 = .ok (.arraylength, 1) := by decide +kernel
theorem d186_21 : decode (zbyt 186) 21 = .ok (.bipush 6, 2) := by decide +kernel
theorem d186_23 : decode (zbyt 186) 23 = .ok (.isub, 1) := by decide +kernel
theorem d186_24 : decode (zbyt 186) 24 = .ok (.if_icmp .gt 1099, 3) := by decide +kernel
theorem d186_27 : decode (zbyt 186) 27 = .ok (.aload_n 0, 1) := by decide +kernel
theorem d186_28 : decode (zbyt 186) 28 = .ok (.iload_n 3, 1) := by decide +kernel
theorem d186_29 : decode (zbyt 186) 29 = .ok (.iaload, 1) := by decide +kernel
theorem d186_30 : decode (zbyt 186) 30 = .ok (.bipush 31, 2) := by decide +kernel
theorem d186_32 : decode (zbyt 186) 32 = .ok (.iand, 1) := by decide +kernel
theorem d186_33 : decode (zbyt 186) 33 = .ok (.tableswitch 1084 0 30 #[139, 192, 225, 248, 271, 304, 327, 350, 373, 436, 469, 502, 535, 548, 571, 614, 637, 660, 683, 696, 740, 783, 806, 849, 893, 956, 979, 1002, 1035, 1048, 1061], 139) := by decide +kernel
theorem d186_172 : decode (zbyt 186) 172 = .ok (.aload_n 1, 1) := by decide +kernel
theorem d186_173 : decode (zbyt 186) 173 = .ok (.aload_n 0, 1) := by decide +kernel
theorem d186_174 : decode (zbyt 186) 174 = .ok (.iload_n 3, 1) := by decide +kernel
theorem d186_175 : decode (zbyt 186) 175 = .ok (.iconst 1, 1) := by decide +kernel
theorem d186_176 : decode (zbyt 186) 176 = .ok (.iadd, 1) := by decide +kernel
theorem d186_177 : decode (zbyt 186) 177 = .ok (.iaload, 1) := by decide +kernel
theorem d186_178 : decode (zbyt 186) 178 = .ok (.aload_n 0, 1) := by decide +kernel
theorem d186_179 : decode (zbyt 186) 179 = .ok (.iload_n 3, 1) := by decide +kernel
theorem d186_180 : decode (zbyt 186) 180 = .ok (.iconst 2, 1) := by decide +kernel
theorem d186_181 : decode (zbyt 186) 181 = .ok (.iadd, 1) := by decide +kernel
theorem d186_182 : decode (zbyt 186) 182 = .ok (.iaload, 1) := by decide +kernel
theorem d186_183 : decode (zbyt 186) 183 = .ok (.aload_n 0, 1) := by decide +kernel
theorem d186_184 : decode (zbyt 186) 184 = .ok (.iload_n 3, 1) := by decide +kernel
theorem d186_185 : decode (zbyt 186) 185 = .ok (.iconst 3, 1) := by decide +kernel
theorem d186_186 : decode (zbyt 186) 186 = .ok (.iadd, 1) := by decide +kernel
theorem d186_187 : decode (zbyt 186) 187 = .ok (.iaload, 1) := by decide +kernel
theorem d186_188 : decode (zbyt 186) 188 = .ok (.aload_n 0, 1) := by decide +kernel
theorem d186_189 : decode (zbyt 186) 189 = .ok (.iload_n 3, 1) := by decide +kernel
theorem d186_190 : decode (zbyt 186) 190 = .ok (.iconst 4, 1) := by decide +kernel
theorem d186_191 : decode (zbyt 186) 191 = .ok (.iadd, 1) := by decide +kernel
theorem d186_192 : decode (zbyt 186) 192 = .ok (.iaload, 1) := by decide +kernel
theorem d186_193 : decode (zbyt 186) 193 = .ok (.invokevirtual 13, 3) := by decide +kernel
theorem d186_196 : decode (zbyt 186) 196 = .ok (.aload_n 2, 1) := by decide +kernel
theorem d186_197 : decode (zbyt 186) 197 = .ok (.aload_n 0, 1) := by decide +kernel
theorem d186_198 : decode (zbyt 186) 198 = .ok (.iload_n 3, 1) := by decide +kernel
theorem d186_199 : decode (zbyt 186) 199 = .ok (.iconst 1, 1) := by decide +kernel
theorem d186_200 : decode (zbyt 186) 200 = .ok (.iadd, 1) := by decide +kernel
theorem d186_201 : decode (zbyt 186) 201 = .ok (.iaload, 1) := by decide +kernel
theorem d186_202 : decode (zbyt 186) 202 = .ok (.aload_n 0, 1) := by decide +kernel
theorem d186_203 : decode (zbyt 186) 203 = .ok (.iload_n 3, 1) := by decide +kernel
theorem d186_204 : decode (zbyt 186) 204 = .ok (.iconst 2, 1) := by decide +kernel
theorem d186_205 : decode (zbyt 186) 205 = .ok (.iadd, 1) := by decide +kernel
theorem d186_206 : decode (zbyt 186) 206 = .ok (.iaload, 1) := by decide +kernel
theorem d186_207 : decode (zbyt 186) 207 = .ok (.aload_n 0, 1) := by decide +kernel
theorem d186_208 : decode (zbyt 186) 208 = .ok (.iload_n 3, 1) := by decide +kernel
theorem d186_209 : decode (zbyt 186) 209 = .ok (.iconst 3, 1) := by decide +kernel
theorem d186_210 : decode (zbyt 186) 210 = .ok (.iadd, 1) := by decide +kernel
theorem d186_211 : decode (zbyt 186) 211 = .ok (.iaload, 1) := by decide +kernel
theorem d186_212 : decode (zbyt 186) 212 = .ok (.aload_n 0, 1) := by decide +kernel
theorem d186_213 : decode (zbyt 186) 213 = .ok (.iload_n 3, 1) := by decide +kernel
theorem d186_214 : decode (zbyt 186) 214 = .ok (.iconst 4, 1) := by decide +kernel
theorem d186_215 : decode (zbyt 186) 215 = .ok (.iadd, 1) := by decide +kernel
theorem d186_216 : decode (zbyt 186) 216 = .ok (.iaload, 1) := by decide +kernel
theorem d186_217 : decode (zbyt 186) 217 = .ok (.invokevirtual 17, 3) := by decide +kernel
theorem d186_220 : decode (zbyt 186) 220 = .ok (.if_icmp .eq 897, 3) := by decide +kernel
theorem d186_223 : decode (zbyt 186) 223 = .ok (.iconst 0, 1) := by decide +kernel
theorem d186_224 : decode (zbyt 186) 224 = .ok (.ireturn, 1) := by decide +kernel
theorem d186_225 : decode (zbyt 186) 225 = .ok (.aload_n 1, 1) := by decide +kernel
theorem d186_226 : decode (zbyt 186) 226 = .ok (.aload_n 0, 1) := by decide +kernel
theorem d186_227 : decode (zbyt 186) 227 = .ok (.iload_n 3, 1) := by decide +kernel
theorem d186_228 : decode (zbyt 186) 228 = .ok (.iconst 1, 1) := by decide +kernel
theorem d186_229 : decode (zbyt 186) 229 = .ok (.iadd, 1) := by decide +kernel
theorem d186_230 : decode (zbyt 186) 230 = .ok (.iaload, 1) := by decide +kernel
theorem d186_231 : decode (zbyt 186) 231 = .ok (.aload_n 0, 1) := by decide +kernel
theorem d186_232 : decode (zbyt 186) 232 = .ok (.iload_n 3, 1) := by decide +kernel
theorem d186_233 : decode (zbyt 186) 233 = .ok (.iconst 2, 1) := by decide +kernel
theorem d186_234 : decode (zbyt 186) 234 = .ok (.iadd, 1) := by decide +kernel
theorem d186_235 : decode (zbyt 186) 235 = .ok (.iaload, 1) := by decide +kernel
theorem d186_236 : decode (zbyt 186) 236 = .ok (.invokevirtual 18, 3) := by decide +kernel
theorem d186_239 : decode (zbyt 186) 239 = .ok (.aload_n 2, 1) := by decide +kernel
theorem d186_240 : decode (zbyt 186) 240 = .ok (.aload_n 0, 1) := by decide +kernel
theorem d186_241 : decode (zbyt 186) 241 = .ok (.iload_n 3, 1) := by decide +kernel
theorem d186_242 : decode (zbyt 186) 242 = .ok (.iconst 1, 1) := by decide +kernel
theorem d186_243 : decode (zbyt 186) 243 = .ok (.iadd, 1) := by decide +kernel
theorem d186_244 : decode (zbyt 186) 244 = .ok (.iaload, 1) := by decide +kernel
theorem d186_245 : decode (zbyt 186) 245 = .ok (.aload_n 0, 1) := by decide +kernel
theorem d186_246 : decode (zbyt 186) 246 = .ok (.iload_n 3, 1) := by decide +kernel
theorem d186_247 : decode (zbyt 186) 247 = .ok (.iconst 2, 1) := by decide +kernel
theorem d186_248 : decode (zbyt 186) 248 = .ok (.iadd, 1) := by decide +kernel
theorem d186_249 : decode (zbyt 186) 249 = .ok (.iaload, 1) := by decide +kernel
theorem d186_250 : decode (zbyt 186) 250 = .ok (.invokevirtual 22, 3) := by decide +kernel
theorem d186_253 : decode (zbyt 186) 253 = .ok (.if_icmp .eq 864, 3) := by decide +kernel
theorem d186_256 : decode (zbyt 186) 256 = .ok (.iconst 0, 1) := by decide +kernel
theorem d186_257 : decode (zbyt 186) 257 = .ok (.ireturn, 1) := by decide +kernel
theorem d186_258 : decode (zbyt 186) 258 = .ok (.aload_n 1, 1) := by decide +kernel
theorem d186_259 : decode (zbyt 186) 259 = .ok (.aload_n 0, 1) := by decide +kernel
theorem d186_260 : decode (zbyt 186) 260 = .ok (.iload_n 3, 1) := by decide +kernel
theorem d186_261 : decode (zbyt 186) 261 = .ok (.iconst 1, 1) := by decide +kernel
theorem d186_262 : decode (zbyt 186) 262 = .ok (.iadd, 1) := by decide +kernel
theorem d186_263 : decode (zbyt 186) 263 = .ok (.iaload, 1) := by decide +kernel
theorem d186_264 : decode (zbyt 186) 264 = .ok (.invokevirtual 23, 3) := by decide +kernel
theorem d186_267 : decode (zbyt 186) 267 = .ok (.aload_n 2, 1) := by decide +kernel
theorem d186_268 : decode (zbyt 186) 268 = .ok (.aload_n 0, 1) := by decide +kernel
theorem d186_269 : decode (zbyt 186) 269 = .ok (.iload_n 3, 1) := by decide +kernel
theorem d186_270 : decode (zbyt 186) 270 = .ok (.iconst 1, 1) := by decide +kernel
theorem d186_271 : decode (zbyt 186) 271 = .ok (.iadd, 1) := by decide +kernel
theorem d186_272 : decode (zbyt 186) 272 = .ok (.iaload, 1) := by decide +kernel
theorem d186_273 : decode (zbyt 186) 273 = .ok (.invokevirtual 27, 3) := by decide +kernel
theorem d186_276 : decode (zbyt 186) 276 = .ok (.if_icmp .eq 841, 3) := by decide +kernel
theorem d186_279 : decode (zbyt 186) 279 = .ok (.iconst 0, 1) := by decide +kernel
theorem d186_280 : decode (zbyt 186) 280 = .ok (.ireturn, 1) := by decide +kernel
theorem d186_281 : decode (zbyt 186) 281 = .ok (.aload_n 1, 1) := by decide +kernel
theorem d186_282 : decode (zbyt 186) 282 = .ok (.aload_n 0, 1) := by decide +kernel
theorem d186_283 : decode (zbyt 186) 283 = .ok (.iload_n 3, 1) := by decide +kernel
theorem d186_284 : decode (zbyt 186) 284 = .ok (.iconst 1, 1) := by decide +kernel
theorem d186_285 : decode (zbyt 186) 285 = .ok (.iadd, 1) := by decide +kernel
theorem d186_286 : decode (zbyt 186) 286 = .ok (.iaload, 1) := by decide +kernel
theorem d186_287 : decode (zbyt 186) 287 = .ok (.invokevirtual 28, 3) := by decide +kernel
theorem d186_290 : decode (zbyt 186) 290 = .ok (.aload_n 2, 1) := by decide +kernel
theorem d186_291 : decode (zbyt 186) 291 = .ok (.aload_n 0, 1) := by decide +kernel
theorem d186_292 : decode (zbyt 186) 292 = .ok (.iload_n 3, 1) := by decide +kernel
theorem d186_293 : decode (zbyt 186) 293 = .ok (.iconst 1, 1) := by decide +kernel
theorem d186_294 : decode (zbyt 186) 294 = .ok (.iadd, 1) := by decide +kernel
theorem d186_295 : decode (zbyt 186) 295 = .ok (.iaload, 1) := by decide +kernel
theorem d186_296 : decode (zbyt 186) 296 = .ok (.invokevirtual 31, 3) := by decide +kernel
theorem d186_299 : decode (zbyt 186) 299 = .ok (.if_icmp .eq 818, 3) := by decide +kernel
theorem d186_302 : decode (zbyt 186) 302 = .ok (.iconst 0, 1) := by decide +kernel
theorem d186_303 : decode (zbyt 186) 303 = .ok (.ireturn, 1) := by decide +kernel
theorem d186_304 : decode (zbyt 186) 304 = .ok (.aload_n 1, 1) := by decide +kernel
theorem d186_305 : decode (zbyt 186) 305 = .ok (.aload_n 0, 1) := by decide +kernel
theorem d186_306 : decode (zbyt 186) 306 = .ok (.iload_n 3, 1) := by decide +kernel
theorem d186_307 : decode (zbyt 186) 307 = .ok (.iconst 1, 1) := by decide +kernel
theorem d186_308 : decode (zbyt 186) 308 = .ok (.iadd, 1) := by decide +kernel
theorem d186_309 : decode (zbyt 186) 309 = .ok (.iaload, 1) := by decide +kernel
theorem d186_310 : decode (zbyt 186) 310 = .ok (.aload_n 0, 1) := by decide +kernel
theorem d186_311 : decode (zbyt 186) 311 = .ok (.iload_n 3, 1) := by decide +kernel
theorem d186_312 : decode (zbyt 186) 312 = .ok (.iconst 2, 1) := by decide +kernel
theorem d186_313 : decode (zbyt 186) 313 = .ok (.iadd, 1) := by decide +kernel
theorem d186_314 : decode (zbyt 186) 314 = .ok (.iaload, 1) := by decide +kernel
theorem d186_315 : decode (zbyt 186) 315 = .ok (.invokevirtual 32, 3) := by decide +kernel
theorem d186_318 : decode (zbyt 186) 318 = .ok (.aload_n 2, 1) := by decide +kernel
theorem d186_319 : decode (zbyt 186) 319 = .ok (.aload_n 0, 1) := by decide +kernel
theorem d186_320 : decode (zbyt 186) 320 = .ok (.iload_n 3, 1) := by decide +kernel
theorem d186_321 : decode (zbyt 186) 321 = .ok (.iconst 1, 1) := by decide +kernel
theorem d186_322 : decode (zbyt 186) 322 = .ok (.iadd, 1) := by decide +kernel
theorem d186_323 : decode (zbyt 186) 323 = .ok (.iaload, 1) := by decide +kernel
theorem d186_324 : decode (zbyt 186) 324 = .ok (.aload_n 0, 1) := by decide +kernel
theorem d186_325 : decode (zbyt 186) 325 = .ok (.iload_n 3, 1) := by decide +kernel
theorem d186_326 : decode (zbyt 186) 326 = .ok (.iconst 2, 1) := by decide +kernel
theorem d186_327 : decode (zbyt 186) 327 = .ok (.iadd, 1) := by decide +kernel
theorem d186_328 : decode (zbyt 186) 328 = .ok (.iaload, 1) := by decide +kernel
theorem d186_329 : decode (zbyt 186) 329 = .ok (.invokevirtual 35, 3) := by decide +kernel
theorem d186_332 : decode (zbyt 186) 332 = .ok (.if_icmp .eq 785, 3) := by decide +kernel
theorem d186_335 : decode (zbyt 186) 335 = .ok (.iconst 0, 1) := by decide +kernel
theorem d186_336 : decode (zbyt 186) 336 = .ok (.ireturn, 1) := by decide +kernel
theorem d186_337 : decode (zbyt 186) 337 = .ok (.aload_n 1, 1) := by decide +kernel
theorem d186_338 : decode (zbyt 186) 338 = .ok (.aload_n 0, 1) := by decide +kernel
theorem d186_339 : decode (zbyt 186) 339 = .ok (.iload_n 3, 1) := by decide +kernel
theorem d186_340 : decode (zbyt 186) 340 = .ok (.iconst 1, 1) := by decide +kernel
theorem d186_341 : decode (zbyt 186) 341 = .ok (.iadd, 1) := by decide +kernel
theorem d186_342 : decode (zbyt 186) 342 = .ok (.iaload, 1) := by decide +kernel
theorem d186_343 : decode (zbyt 186) 343 = .ok (.invokevirtual 36, 3) := by decide +kernel
theorem d186_346 : decode (zbyt 186) 346 = .ok (.aload_n 2, 1) := by decide +kernel
theorem d186_347 : decode (zbyt 186) 347 = .ok (.aload_n 0, 1) := by decide +kernel
theorem d186_348 : decode (zbyt 186) 348 = .ok (.iload_n 3, 1) := by decide +kernel
theorem d186_349 : decode (zbyt 186) 349 = .ok (.iconst 1, 1) := by decide +kernel
theorem d186_350 : decode (zbyt 186) 350 = .ok (.iadd, 1) := by decide +kernel
theorem d186_351 : decode (zbyt 186) 351 = .ok (.iaload, 1) := by decide +kernel
theorem d186_352 : decode (zbyt 186) 352 = .ok (.invokevirtual 39, 3) := by decide +kernel
theorem d186_355 : decode (zbyt 186) 355 = .ok (.if_icmp .eq 762, 3) := by decide +kernel
theorem d186_358 : decode (zbyt 186) 358 = .ok (.iconst 0, 1) := by decide +kernel
theorem d186_359 : decode (zbyt 186) 359 = .ok (.ireturn, 1) := by decide +kernel
theorem d186_360 : decode (zbyt 186) 360 = .ok (.aload_n 1, 1) := by decide +kernel
theorem d186_361 : decode (zbyt 186) 361 = .ok (.aload_n 0, 1) := by decide +kernel
theorem d186_362 : decode (zbyt 186) 362 = .ok (.iload_n 3, 1) := by decide +kernel
theorem d186_363 : decode (zbyt 186) 363 = .ok (.iconst 1, 1) := by decide +kernel
theorem d186_364 : decode (zbyt 186) 364 = .ok (.iadd, 1) := by decide +kernel
theorem d186_365 : decode (zbyt 186) 365 = .ok (.iaload, 1) := by decide +kernel
theorem d186_366 : decode (zbyt 186) 366 = .ok (.invokevirtual 40, 3) := by decide +kernel
theorem d186_369 : decode (zbyt 186) 369 = .ok (.aload_n 2, 1) := by decide +kernel
theorem d186_370 : decode (zbyt 186) 370 = .ok (.aload_n 0, 1) := by decide +kernel
theorem d186_371 : decode (zbyt 186) 371 = .ok (.iload_n 3, 1) := by decide +kernel
theorem d186_372 : decode (zbyt 186) 372 = .ok (.iconst 1, 1) := by decide +kernel
theorem d186_373 : decode (zbyt 186) 373 = .ok (.iadd, 1) := by decide +kernel
theorem d186_374 : decode (zbyt 186) 374 = .ok (.iaload, 1) := by decide +kernel
theorem d186_375 : decode (zbyt 186) 375 = .ok (.invokevirtual 43, 3) := by decide +kernel
theorem d186_378 : decode (zbyt 186) 378 = .ok (.if_icmp .eq 739, 3) := by decide +kernel
theorem d186_381 : decode (zbyt 186) 381 = .ok (.iconst 0, 1) := by decide +kernel
theorem d186_382 : decode (zbyt 186) 382 = .ok (.ireturn, 1) := by decide +kernel
theorem d186_383 : decode (zbyt 186) 383 = .ok (.aload_n 1, 1) := by decide +kernel
theorem d186_384 : decode (zbyt 186) 384 = .ok (.aload_n 0, 1) := by decide +kernel
theorem d186_385 : decode (zbyt 186) 385 = .ok (.iload_n 3, 1) := by decide +kernel
theorem d186_386 : decode (zbyt 186) 386 = .ok (.iconst 1, 1) := by decide +kernel
theorem d186_387 : decode (zbyt 186) 387 = .ok (.iadd, 1) := by decide +kernel
theorem d186_388 : decode (zbyt 186) 388 = .ok (.iaload, 1) := by decide +kernel
theorem d186_389 : decode (zbyt 186) 389 = .ok (.invokevirtual 44, 3) := by decide +kernel
theorem d186_392 : decode (zbyt 186) 392 = .ok (.aload_n 2, 1) := by decide +kernel
theorem d186_393 : decode (zbyt 186) 393 = .ok (.aload_n 0, 1) := by decide +kernel
theorem d186_394 : decode (zbyt 186) 394 = .ok (.iload_n 3, 1) := by decide +kernel
theorem d186_395 : decode (zbyt 186) 395 = .ok (.iconst 1, 1) := by decide +kernel
theorem d186_396 : decode (zbyt 186) 396 = .ok (.iadd, 1) := by decide +kernel
theorem d186_397 : decode (zbyt 186) 397 = .ok (.iaload, 1) := by decide +kernel
theorem d186_398 : decode (zbyt 186) 398 = .ok (.invokevirtual 47, 3) := by decide +kernel
theorem d186_401 : decode (zbyt 186) 401 = .ok (.if_icmp .eq 716, 3) := by decide +kernel
theorem d186_404 : decode (zbyt 186) 404 = .ok (.iconst 0, 1) := by decide +kernel
theorem d186_405 : decode (zbyt 186) 405 = .ok (.ireturn, 1) := by decide +kernel
theorem d186_406 : decode (zbyt 186) 406 = .ok (.aload_n 1, 1) := by decide +kernel
theorem d186_407 : decode (zbyt 186) 407 = .ok (.aload_n 0, 1) := by decide +kernel
theorem d186_408 : decode (zbyt 186) 408 = .ok (.iload_n 3, 1) := by decide +kernel
theorem d186_409 : decode (zbyt 186) 409 = .ok (.iconst 1, 1) := by decide +kernel
theorem d186_410 : decode (zbyt 186) 410 = .ok (.iadd, 1) := by decide +kernel
theorem d186_411 : decode (zbyt 186) 411 = .ok (.iaload, 1) := by decide +kernel
theorem d186_412 : decode (zbyt 186) 412 = .ok (.aload_n 0, 1) := by decide +kernel
theorem d186_413 : decode (zbyt 186) 413 = .ok (.iload_n 3, 1) := by decide +kernel
theorem d186_414 : decode (zbyt 186) 414 = .ok (.iconst 2, 1) := by decide +kernel
theorem d186_415 : decode (zbyt 186) 415 = .ok (.iadd, 1) := by decide +kernel
theorem d186_416 : decode (zbyt 186) 416 = .ok (.iaload, 1) := by decide +kernel
theorem d186_417 : decode (zbyt 186) 417 = .ok (.aload_n 0, 1) := by decide +kernel
theorem d186_418 : decode (zbyt 186) 418 = .ok (.iload_n 3, 1) := by decide +kernel
theorem d186_419 : decode (zbyt 186) 419 = .ok (.iconst 3, 1) := by decide +kernel
theorem d186_420 : decode (zbyt 186) 420 = .ok (.iadd, 1) := by decide +kernel
theorem d186_421 : decode (zbyt 186) 421 = .ok (.iaload, 1) := by decide +kernel
theorem d186_422 : decode (zbyt 186) 422 = .ok (.aload_n 0, 1) := by decide +kernel
theorem d186_423 : decode (zbyt 186) 423 = .ok (.iload_n 3, 1) := by decide +kernel
theorem d186_424 : decode (zbyt 186) 424 = .ok (.iconst 4, 1) := by decide +kernel
theorem d186_425 : decode (zbyt 186) 425 = .ok (.iadd, 1) := by decide +kernel
theorem d186_426 : decode (zbyt 186) 426 = .ok (.iaload, 1) := by decide +kernel
theorem d186_427 : decode (zbyt 186) 427 = .ok (.aload_n 0, 1) := by decide +kernel
theorem d186_428 : decode (zbyt 186) 428 = .ok (.iload_n 3, 1) := by decide +kernel
theorem d186_429 : decode (zbyt 186) 429 = .ok (.iconst 5, 1) := by decide +kernel
theorem d186_430 : decode (zbyt 186) 430 = .ok (.iadd, 1) := by decide +kernel
theorem d186_431 : decode (zbyt 186) 431 = .ok (.iaload, 1) := by decide +kernel
theorem d186_432 : decode (zbyt 186) 432 = .ok (.invokevirtual 48, 3) := by decide +kernel
theorem d186_435 : decode (zbyt 186) 435 = .ok (.aload_n 2, 1) := by decide +kernel
theorem d186_436 : decode (zbyt 186) 436 = .ok (.aload_n 0, 1) := by decide +kernel
theorem d186_437 : decode (zbyt 186) 437 = .ok (.iload_n 3, 1) := by decide +kernel
theorem d186_438 : decode (zbyt 186) 438 = .ok (.iconst 1, 1) := by decide +kernel
theorem d186_439 : decode (zbyt 186) 439 = .ok (.iadd, 1) := by decide +kernel
theorem d186_440 : decode (zbyt 186) 440 = .ok (.iaload, 1) := by decide +kernel
theorem d186_441 : decode (zbyt 186) 441 = .ok (.aload_n 0, 1) := by decide +kernel
theorem d186_442 : decode (zbyt 186) 442 = .ok (.iload_n 3, 1) := by decide +kernel
theorem d186_443 : decode (zbyt 186) 443 = .ok (.iconst 2, 1) := by decide +kernel
theorem d186_444 : decode (zbyt 186) 444 = .ok (.iadd, 1) := by decide +kernel
theorem d186_445 : decode (zbyt 186) 445 = .ok (.iaload, 1) := by decide +kernel
theorem d186_446 : decode (zbyt 186) 446 = .ok (.aload_n 0, 1) := by decide +kernel
theorem d186_447 : decode (zbyt 186) 447 = .ok (.iload_n 3, 1) := by decide +kernel
theorem d186_448 : decode (zbyt 186) 448 = .ok (.iconst 3, 1) := by decide +kernel
theorem d186_449 : decode (zbyt 186) 449 = .ok (.iadd, 1) := by decide +kernel
theorem d186_450 : decode (zbyt 186) 450 = .ok (.iaload, 1) := by decide +kernel
theorem d186_451 : decode (zbyt 186) 451 = .ok (.aload_n 0, 1) := by decide +kernel
theorem d186_452 : decode (zbyt 186) 452 = .ok (.iload_n 3, 1) := by decide +kernel
theorem d186_453 : decode (zbyt 186) 453 = .ok (.iconst 4, 1) := by decide +kernel
theorem d186_454 : decode (zbyt 186) 454 = .ok (.iadd, 1) := by decide +kernel
theorem d186_455 : decode (zbyt 186) 455 = .ok (.iaload, 1) := by decide +kernel
theorem d186_456 : decode (zbyt 186) 456 = .ok (.aload_n 0, 1) := by decide +kernel
theorem d186_457 : decode (zbyt 186) 457 = .ok (.iload_n 3, 1) := by decide +kernel
theorem d186_458 : decode (zbyt 186) 458 = .ok (.iconst 5, 1) := by decide +kernel
theorem d186_459 : decode (zbyt 186) 459 = .ok (.iadd, 1) := by decide +kernel
theorem d186_460 : decode (zbyt 186) 460 = .ok (.iaload, 1) := by decide +kernel
theorem d186_461 : decode (zbyt 186) 461 = .ok (.invokevirtual 52, 3) := by decide +kernel
theorem d186_464 : decode (zbyt 186) 464 = .ok (.if_icmp .eq 653, 3) := by decide +kernel
theorem d186_467 : decode (zbyt 186) 467 = .ok (.iconst 0, 1) := by decide +kernel
theorem d186_468 : decode (zbyt 186) 468 = .ok (.ireturn, 1) := by decide +kernel
theorem d186_469 : decode (zbyt 186) 469 = .ok (.aload_n 1, 1) := by decide +kernel
theorem d186_470 : decode (zbyt 186) 470 = .ok (.aload_n 0, 1) := by decide +kernel
theorem d186_471 : decode (zbyt 186) 471 = .ok (.iload_n 3, 1) := by decide +kernel
theorem d186_472 : decode (zbyt 186) 472 = .ok (.iconst 1, 1) := by decide +kernel
theorem d186_473 : decode (zbyt 186) 473 = .ok (.iadd, 1) := by decide +kernel
theorem d186_474 : decode (zbyt 186) 474 = .ok (.iaload, 1) := by decide +kernel
theorem d186_475 : decode (zbyt 186) 475 = .ok (.aload_n 0, 1) := by decide +kernel
theorem d186_476 : decode (zbyt 186) 476 = .ok (.iload_n 3, 1) := by decide +kernel
theorem d186_477 : decode (zbyt 186) 477 = .ok (.iconst 2, 1) := by decide +kernel
theorem d186_478 : decode (zbyt 186) 478 = .ok (.iadd, 1) := by decide +kernel
theorem d186_479 : decode (zbyt 186) 479 = .ok (.iaload, 1) := by decide +kernel
theorem d186_480 : decode (zbyt 186) 480 = .ok (.invokevirtual 53, 3) := by decide +kernel
theorem d186_483 : decode (zbyt 186) 483 = .ok (.aload_n 2, 1) := by decide +kernel
theorem d186_484 : decode (zbyt 186) 484 = .ok (.aload_n 0, 1) := by decide +kernel
theorem d186_485 : decode (zbyt 186) 485 = .ok (.iload_n 3, 1) := by decide +kernel
theorem d186_486 : decode (zbyt 186) 486 = .ok (.iconst 1, 1) := by decide +kernel
theorem d186_487 : decode (zbyt 186) 487 = .ok (.iadd, 1) := by decide +kernel
theorem d186_488 : decode (zbyt 186) 488 = .ok (.iaload, 1) := by decide +kernel
theorem d186_489 : decode (zbyt 186) 489 = .ok (.aload_n 0, 1) := by decide +kernel
theorem d186_490 : decode (zbyt 186) 490 = .ok (.iload_n 3, 1) := by decide +kernel
theorem d186_491 : decode (zbyt 186) 491 = .ok (.iconst 2, 1) := by decide +kernel
theorem d186_492 : decode (zbyt 186) 492 = .ok (.iadd, 1) := by decide +kernel
theorem d186_493 : decode (zbyt 186) 493 = .ok (.iaload, 1) := by decide +kernel
theorem d186_494 : decode (zbyt 186) 494 = .ok (.invokevirtual 56, 3) := by decide +kernel
theorem d186_497 : decode (zbyt 186) 497 = .ok (.if_icmp .eq 620, 3) := by decide +kernel
theorem d186_500 : decode (zbyt 186) 500 = .ok (.iconst 0, 1) := by decide +kernel
theorem d186_501 : decode (zbyt 186) 501 = .ok (.ireturn, 1) := by decide +kernel
theorem d186_502 : decode (zbyt 186) 502 = .ok (.aload_n 1, 1) := by decide +kernel
theorem d186_503 : decode (zbyt 186) 503 = .ok (.aload_n 0, 1) := by decide +kernel
theorem d186_504 : decode (zbyt 186) 504 = .ok (.iload_n 3, 1) := by decide +kernel
theorem d186_505 : decode (zbyt 186) 505 = .ok (.iconst 1, 1) := by decide +kernel
theorem d186_506 : decode (zbyt 186) 506 = .ok (.iadd, 1) := by decide +kernel
theorem d186_507 : decode (zbyt 186) 507 = .ok (.iaload, 1) := by decide +kernel
theorem d186_508 : decode (zbyt 186) 508 = .ok (.aload_n 0, 1) := by decide +kernel
theorem d186_509 : decode (zbyt 186) 509 = .ok (.iload_n 3, 1) := by decide +kernel
theorem d186_510 : decode (zbyt 186) 510 = .ok (.iconst 2, 1) := by decide +kernel
theorem d186_511 : decode (zbyt 186) 511 = .ok (.iadd, 1) := by decide +kernel
theorem d186_512 : decode (zbyt 186) 512 = .ok (.iaload, 1) := by decide +kernel
theorem d186_513 : decode (zbyt 186) 513 = .ok (.invokevirtual 57, 3) := by decide +kernel
theorem d186_516 : decode (zbyt 186) 516 = .ok (.aload_n 2, 1) := by decide +kernel
theorem d186_517 : decode (zbyt 186) 517 = .ok (.aload_n 0, 1) := by decide +kernel
theorem d186_518 : decode (zbyt 186) 518 = .ok (.iload_n 3, 1) := by decide +kernel
theorem d186_519 : decode (zbyt 186) 519 = .ok (.iconst 1, 1) := by decide +kernel
theorem d186_520 : decode (zbyt 186) 520 = .ok (.iadd, 1) := by decide +kernel
theorem d186_521 : decode (zbyt 186) 521 = .ok (.iaload, 1) := by decide +kernel
theorem d186_522 : decode (zbyt 186) 522 = .ok (.aload_n 0, 1) := by decide +kernel
theorem d186_523 : decode (zbyt 186) 523 = .ok (.iload_n 3, 1) := by decide +kernel
theorem d186_524 : decode (zbyt 186) 524 = .ok (.iconst 2, 1) := by decide +kernel
theorem d186_525 : decode (zbyt 186) 525 = .ok (.iadd, 1) := by decide +kernel
theorem d186_526 : decode (zbyt 186) 526 = .ok (.iaload, 1) := by decide +kernel
theorem d186_527 : decode (zbyt 186) 527 = .ok (.invokevirtual 60, 3) := by decide +kernel
theorem d186_530 : decode (zbyt 186) 530 = .ok (.if_icmp .eq 587, 3) := by decide +kernel
theorem d186_533 : decode (zbyt 186) 533 = .ok (.iconst 0, 1) := by decide +kernel
theorem d186_534 : decode (zbyt 186) 534 = .ok (.ireturn, 1) := by decide +kernel
theorem d186_535 : decode (zbyt 186) 535 = .ok (.aload_n 1, 1) := by decide +kernel
theorem d186_536 : decode (zbyt 186) 536 = .ok (.aload_n 0, 1) := by decide +kernel
theorem d186_537 : decode (zbyt 186) 537 = .ok (.iload_n 3, 1) := by decide +kernel
theorem d186_538 : decode (zbyt 186) 538 = .ok (.iconst 1, 1) := by decide +kernel
theorem d186_539 : decode (zbyt 186) 539 = .ok (.iadd, 1) := by decide +kernel
theorem d186_540 : decode (zbyt 186) 540 = .ok (.iaload, 1) := by decide +kernel
theorem d186_541 : decode (zbyt 186) 541 = .ok (.aload_n 0, 1) := by decide +kernel
theorem d186_542 : decode (zbyt 186) 542 = .ok (.iload_n 3, 1) := by decide +kernel
theorem d186_543 : decode (zbyt 186) 543 = .ok (.iconst 2, 1) := by decide +kernel
theorem d186_544 : decode (zbyt 186) 544 = .ok (.iadd, 1) := by decide +kernel
theorem d186_545 : decode (zbyt 186) 545 = .ok (.iaload, 1) := by decide +kernel
theorem d186_546 : decode (zbyt 186) 546 = .ok (.invokevirtual 61, 3) := by decide +kernel
theorem d186_549 : decode (zbyt 186) 549 = .ok (.aload_n 2, 1) := by decide +kernel
theorem d186_550 : decode (zbyt 186) 550 = .ok (.aload_n 0, 1) := by decide +kernel
theorem d186_551 : decode (zbyt 186) 551 = .ok (.iload_n 3, 1) := by decide +kernel
theorem d186_552 : decode (zbyt 186) 552 = .ok (.iconst 1, 1) := by decide +kernel
theorem d186_553 : decode (zbyt 186) 553 = .ok (.iadd, 1) := by decide +kernel
theorem d186_554 : decode (zbyt 186) 554 = .ok (.iaload, 1) := by decide +kernel
theorem d186_555 : decode (zbyt 186) 555 = .ok (.aload_n 0, 1) := by decide +kernel
theorem d186_556 : decode (zbyt 186) 556 = .ok (.iload_n 3, 1) := by decide +kernel
theorem d186_557 : decode (zbyt 186) 557 = .ok (.iconst 2, 1) := by decide +kernel
theorem d186_558 : decode (zbyt 186) 558 = .ok (.iadd, 1) := by decide +kernel
theorem d186_559 : decode (zbyt 186) 559 = .ok (.iaload, 1) := by decide +kernel
theorem d186_560 : decode (zbyt 186) 560 = .ok (.invokevirtual 64, 3) := by decide +kernel
theorem d186_563 : decode (zbyt 186) 563 = .ok (.if_icmp .eq 554, 3) := by decide +kernel
theorem d186_566 : decode (zbyt 186) 566 = .ok (.iconst 0, 1) := by decide +kernel
theorem d186_567 : decode (zbyt 186) 567 = .ok (.ireturn, 1) := by decide +kernel
theorem d186_568 : decode (zbyt 186) 568 = .ok (.aload_n 1, 1) := by decide +kernel
theorem d186_569 : decode (zbyt 186) 569 = .ok (.invokevirtual 65, 3) := by decide +kernel
theorem d186_572 : decode (zbyt 186) 572 = .ok (.aload_n 2, 1) := by decide +kernel
theorem d186_573 : decode (zbyt 186) 573 = .ok (.invokevirtual 69, 3) := by decide +kernel
theorem d186_576 : decode (zbyt 186) 576 = .ok (.if_icmp .eq 541, 3) := by decide +kernel
theorem d186_579 : decode (zbyt 186) 579 = .ok (.iconst 0, 1) := by decide +kernel
theorem d186_580 : decode (zbyt 186) 580 = .ok (.ireturn, 1) := by decide +kernel
theorem d186_581 : decode (zbyt 186) 581 = .ok (.aload_n 1, 1) := by decide +kernel
theorem d186_582 : decode (zbyt 186) 582 = .ok (.aload_n 0, 1) := by decide +kernel
theorem d186_583 : decode (zbyt 186) 583 = .ok (.iload_n 3, 1) := by decide +kernel
theorem d186_584 : decode (zbyt 186) 584 = .ok (.iconst 1, 1) := by decide +kernel
theorem d186_585 : decode (zbyt 186) 585 = .ok (.iadd, 1) := by decide +kernel
theorem d186_586 : decode (zbyt 186) 586 = .ok (.iaload, 1) := by decide +kernel
theorem d186_587 : decode (zbyt 186) 587 = .ok (.invokevirtual 70, 3) := by decide +kernel
theorem d186_590 : decode (zbyt 186) 590 = .ok (.aload_n 2, 1) := by decide +kernel
theorem d186_591 : decode (zbyt 186) 591 = .ok (.aload_n 0, 1) := by decide +kernel
theorem d186_592 : decode (zbyt 186) 592 = .ok (.iload_n 3, 1) := by decide +kernel
theorem d186_593 : decode (zbyt 186) 593 = .ok (.iconst 1, 1) := by decide +kernel
theorem d186_594 : decode (zbyt 186) 594 = .ok (.iadd, 1) := by decide +kernel
theorem d186_595 : decode (zbyt 186) 595 = .ok (.iaload, 1) := by decide +kernel
theorem d186_596 : decode (zbyt 186) 596 = .ok (.invokevirtual 73, 3) := by decide +kernel
theorem d186_599 : decode (zbyt 186) 599 = .ok (.if_icmp .eq 518, 3) := by decide +kernel
theorem d186_602 : decode (zbyt 186) 602 = .ok (.iconst 0, 1) := by decide +kernel
theorem d186_603 : decode (zbyt 186) 603 = .ok (.ireturn, 1) := by decide +kernel
theorem d186_604 : decode (zbyt 186) 604 = .ok (.aload_n 1, 1) := by decide +kernel
theorem d186_605 : decode (zbyt 186) 605 = .ok (.aload_n 0, 1) := by decide +kernel
theorem d186_606 : decode (zbyt 186) 606 = .ok (.iload_n 3, 1) := by decide +kernel
theorem d186_607 : decode (zbyt 186) 607 = .ok (.iconst 1, 1) := by decide +kernel
theorem d186_608 : decode (zbyt 186) 608 = .ok (.iadd, 1) := by decide +kernel
theorem d186_609 : decode (zbyt 186) 609 = .ok (.iaload, 1) := by decide +kernel
theorem d186_610 : decode (zbyt 186) 610 = .ok (.aload_n 0, 1) := by decide +kernel
theorem d186_611 : decode (zbyt 186) 611 = .ok (.iload_n 3, 1) := by decide +kernel
theorem d186_612 : decode (zbyt 186) 612 = .ok (.iconst 2, 1) := by decide +kernel
theorem d186_613 : decode (zbyt 186) 613 = .ok (.iadd, 1) := by decide +kernel
theorem d186_614 : decode (zbyt 186) 614 = .ok (.iaload, 1) := by decide +kernel
theorem d186_615 : decode (zbyt 186) 615 = .ok (.aload_n 0, 1) := by decide +kernel
theorem d186_616 : decode (zbyt 186) 616 = .ok (.iload_n 3, 1) := by decide +kernel
theorem d186_617 : decode (zbyt 186) 617 = .ok (.iconst 3, 1) := by decide +kernel
theorem d186_618 : decode (zbyt 186) 618 = .ok (.iadd, 1) := by decide +kernel
theorem d186_619 : decode (zbyt 186) 619 = .ok (.iaload, 1) := by decide +kernel
theorem d186_620 : decode (zbyt 186) 620 = .ok (.invokevirtual 74, 3) := by decide +kernel
theorem d186_623 : decode (zbyt 186) 623 = .ok (.aload_n 2, 1) := by decide +kernel
theorem d186_624 : decode (zbyt 186) 624 = .ok (.aload_n 0, 1) := by decide +kernel
theorem d186_625 : decode (zbyt 186) 625 = .ok (.iload_n 3, 1) := by decide +kernel
theorem d186_626 : decode (zbyt 186) 626 = .ok (.iconst 1, 1) := by decide +kernel
theorem d186_627 : decode (zbyt 186) 627 = .ok (.iadd, 1) := by decide +kernel
theorem d186_628 : decode (zbyt 186) 628 = .ok (.iaload, 1) := by decide +kernel
theorem d186_629 : decode (zbyt 186) 629 = .ok (.aload_n 0, 1) := by decide +kernel
theorem d186_630 : decode (zbyt 186) 630 = .ok (.iload_n 3, 1) := by decide +kernel
theorem d186_631 : decode (zbyt 186) 631 = .ok (.iconst 2, 1) := by decide +kernel
theorem d186_632 : decode (zbyt 186) 632 = .ok (.iadd, 1) := by decide +kernel
theorem d186_633 : decode (zbyt 186) 633 = .ok (.iaload, 1) := by decide +kernel
theorem d186_634 : decode (zbyt 186) 634 = .ok (.aload_n 0, 1) := by decide +kernel
theorem d186_635 : decode (zbyt 186) 635 = .ok (.iload_n 3, 1) := by decide +kernel
theorem d186_636 : decode (zbyt 186) 636 = .ok (.iconst 3, 1) := by decide +kernel
theorem d186_637 : decode (zbyt 186) 637 = .ok (.iadd, 1) := by decide +kernel
theorem d186_638 : decode (zbyt 186) 638 = .ok (.iaload, 1) := by decide +kernel
theorem d186_639 : decode (zbyt 186) 639 = .ok (.invokevirtual 78, 3) := by decide +kernel
theorem d186_642 : decode (zbyt 186) 642 = .ok (.if_icmp .eq 475, 3) := by decide +kernel
theorem d186_645 : decode (zbyt 186) 645 = .ok (.iconst 0, 1) := by decide +kernel
theorem d186_646 : decode (zbyt 186) 646 = .ok (.ireturn, 1) := by decide +kernel
theorem d186_647 : decode (zbyt 186) 647 = .ok (.aload_n 1, 1) := by decide +kernel
theorem d186_648 : decode (zbyt 186) 648 = .ok (.aload_n 0, 1) := by decide +kernel
theorem d186_649 : decode (zbyt 186) 649 = .ok (.iload_n 3, 1) := by decide +kernel
theorem d186_650 : decode (zbyt 186) 650 = .ok (.iconst 1, 1) := by decide +kernel
theorem d186_651 : decode (zbyt 186) 651 = .ok (.iadd, 1) := by decide +kernel
theorem d186_652 : decode (zbyt 186) 652 = .ok (.iaload, 1) := by decide +kernel
theorem d186_653 : decode (zbyt 186) 653 = .ok (.invokevirtual 79, 3) := by decide +kernel
theorem d186_656 : decode (zbyt 186) 656 = .ok (.aload_n 2, 1) := by decide +kernel
theorem d186_657 : decode (zbyt 186) 657 = .ok (.aload_n 0, 1) := by decide +kernel
theorem d186_658 : decode (zbyt 186) 658 = .ok (.iload_n 3, 1) := by decide +kernel
theorem d186_659 : decode (zbyt 186) 659 = .ok (.iconst 1, 1) := by decide +kernel
theorem d186_660 : decode (zbyt 186) 660 = .ok (.iadd, 1) := by decide +kernel
theorem d186_661 : decode (zbyt 186) 661 = .ok (.iaload, 1) := by decide +kernel
theorem d186_662 : decode (zbyt 186) 662 = .ok (.invokevirtual 82, 3) := by decide +kernel
theorem d186_665 : decode (zbyt 186) 665 = .ok (.if_icmp .eq 452, 3) := by decide +kernel
theorem d186_668 : decode (zbyt 186) 668 = .ok (.iconst 0, 1) := by decide +kernel
theorem d186_669 : decode (zbyt 186) 669 = .ok (.ireturn, 1) := by decide +kernel
theorem d186_670 : decode (zbyt 186) 670 = .ok (.aload_n 1, 1) := by decide +kernel
theorem d186_671 : decode (zbyt 186) 671 = .ok (.aload_n 0, 1) := by decide +kernel
theorem d186_672 : decode (zbyt 186) 672 = .ok (.iload_n 3, 1) := by decide +kernel
theorem d186_673 : decode (zbyt 186) 673 = .ok (.iconst 1, 1) := by decide +kernel
theorem d186_674 : decode (zbyt 186) 674 = .ok (.iadd, 1) := by decide +kernel
theorem d186_675 : decode (zbyt 186) 675 = .ok (.iaload, 1) := by decide +kernel
theorem d186_676 : decode (zbyt 186) 676 = .ok (.invokevirtual 83, 3) := by decide +kernel
theorem d186_679 : decode (zbyt 186) 679 = .ok (.aload_n 2, 1) := by decide +kernel
theorem d186_680 : decode (zbyt 186) 680 = .ok (.aload_n 0, 1) := by decide +kernel
theorem d186_681 : decode (zbyt 186) 681 = .ok (.iload_n 3, 1) := by decide +kernel
theorem d186_682 : decode (zbyt 186) 682 = .ok (.iconst 1, 1) := by decide +kernel
theorem d186_683 : decode (zbyt 186) 683 = .ok (.iadd, 1) := by decide +kernel
theorem d186_684 : decode (zbyt 186) 684 = .ok (.iaload, 1) := by decide +kernel
theorem d186_685 : decode (zbyt 186) 685 = .ok (.invokevirtual 86, 3) := by decide +kernel
theorem d186_688 : decode (zbyt 186) 688 = .ok (.if_icmp .eq 429, 3) := by decide +kernel
theorem d186_691 : decode (zbyt 186) 691 = .ok (.iconst 0, 1) := by decide +kernel
theorem d186_692 : decode (zbyt 186) 692 = .ok (.ireturn, 1) := by decide +kernel
theorem d186_693 : decode (zbyt 186) 693 = .ok (.aload_n 1, 1) := by decide +kernel
theorem d186_694 : decode (zbyt 186) 694 = .ok (.aload_n 0, 1) := by decide +kernel
theorem d186_695 : decode (zbyt 186) 695 = .ok (.iload_n 3, 1) := by decide +kernel
theorem d186_696 : decode (zbyt 186) 696 = .ok (.iconst 1, 1) := by decide +kernel
theorem d186_697 : decode (zbyt 186) 697 = .ok (.iadd, 1) := by decide +kernel
theorem d186_698 : decode (zbyt 186) 698 = .ok (.iaload, 1) := by decide +kernel
theorem d186_699 : decode (zbyt 186) 699 = .ok (.invokevirtual 87, 3) := by decide +kernel
theorem d186_702 : decode (zbyt 186) 702 = .ok (.aload_n 2, 1) := by decide +kernel
theorem d186_703 : decode (zbyt 186) 703 = .ok (.aload_n 0, 1) := by decide +kernel
theorem d186_704 : decode (zbyt 186) 704 = .ok (.iload_n 3, 1) := by decide +kernel
theorem d186_705 : decode (zbyt 186) 705 = .ok (.iconst 1, 1) := by decide +kernel
theorem d186_706 : decode (zbyt 186) 706 = .ok (.iadd, 1) := by decide +kernel
theorem d186_707 : decode (zbyt 186) 707 = .ok (.iaload, 1) := by decide +kernel
theorem d186_708 : decode (zbyt 186) 708 = .ok (.invokevirtual 90, 3) := by decide +kernel
theorem d186_711 : decode (zbyt 186) 711 = .ok (.if_icmp .eq 406, 3) := by decide +kernel
theorem d186_714 : decode (zbyt 186) 714 = .ok (.iconst 0, 1) := by decide +kernel
theorem d186_715 : decode (zbyt 186) 715 = .ok (.ireturn, 1) := by decide +kernel
theorem d186_716 : decode (zbyt 186) 716 = .ok (.aload_n 1, 1) := by decide +kernel
theorem d186_717 : decode (zbyt 186) 717 = .ok (.invokevirtual 91, 3) := by decide +kernel
theorem d186_720 : decode (zbyt 186) 720 = .ok (.aload_n 2, 1) := by decide +kernel
theorem d186_721 : decode (zbyt 186) 721 = .ok (.invokevirtual 94, 3) := by decide +kernel
theorem d186_724 : decode (zbyt 186) 724 = .ok (.if_icmp .eq 393, 3) := by decide +kernel
theorem d186_727 : decode (zbyt 186) 727 = .ok (.iconst 0, 1) := by decide +kernel
theorem d186_728 : decode (zbyt 186) 728 = .ok (.ireturn, 1) := by decide +kernel
theorem d186_729 : decode (zbyt 186) 729 = .ok (.aload_n 1, 1) := by decide +kernel
theorem d186_730 : decode (zbyt 186) 730 = .ok (.aload_n 0, 1) := by decide +kernel
theorem d186_731 : decode (zbyt 186) 731 = .ok (.iload_n 3, 1) := by decide +kernel
theorem d186_732 : decode (zbyt 186) 732 = .ok (.iconst 1, 1) := by decide +kernel
theorem d186_733 : decode (zbyt 186) 733 = .ok (.iadd, 1) := by decide +kernel
theorem d186_734 : decode (zbyt 186) 734 = .ok (.iaload, 1) := by decide +kernel
theorem d186_735 : decode (zbyt 186) 735 = .ok (.aload_n 0, 1) := by decide +kernel
theorem d186_736 : decode (zbyt 186) 736 = .ok (.iload_n 3, 1) := by decide +kernel
theorem d186_737 : decode (zbyt 186) 737 = .ok (.iconst 2, 1) := by decide +kernel
theorem d186_738 : decode (zbyt 186) 738 = .ok (.iadd, 1) := by decide +kernel
theorem d186_739 : decode (zbyt 186) 739 = .ok (.iaload, 1) := by decide +kernel
theorem d186_740 : decode (zbyt 186) 740 = .ok (.aload_n 0, 1) := by decide +kernel
theorem d186_741 : decode (zbyt 186) 741 = .ok (.iload_n 3, 1) := by decide +kernel
theorem d186_742 : decode (zbyt 186) 742 = .ok (.iconst 3, 1) := by decide +kernel
theorem d186_743 : decode (zbyt 186) 743 = .ok (.iadd, 1) := by decide +kernel
theorem d186_744 : decode (zbyt 186) 744 = .ok (.iaload, 1) := by decide +kernel
theorem d186_745 : decode (zbyt 186) 745 = .ok (.invokevirtual 95, 3) := by decide +kernel
theorem d186_748 : decode (zbyt 186) 748 = .ok (.aload_n 2, 1) := by decide +kernel
theorem d186_749 : decode (zbyt 186) 749 = .ok (.aload_n 0, 1) := by decide +kernel
theorem d186_750 : decode (zbyt 186) 750 = .ok (.iload_n 3, 1) := by decide +kernel
theorem d186_751 : decode (zbyt 186) 751 = .ok (.iconst 1, 1) := by decide +kernel
theorem d186_752 : decode (zbyt 186) 752 = .ok (.iadd, 1) := by decide +kernel
theorem d186_753 : decode (zbyt 186) 753 = .ok (.iaload, 1) := by decide +kernel
theorem d186_754 : decode (zbyt 186) 754 = .ok (.aload_n 0, 1) := by decide +kernel
theorem d186_755 : decode (zbyt 186) 755 = .ok (.iload_n 3, 1) := by decide +kernel
theorem d186_756 : decode (zbyt 186) 756 = .ok (.iconst 2, 1) := by decide +kernel
theorem d186_757 : decode (zbyt 186) 757 = .ok (.iadd, 1) := by decide +kernel
theorem d186_758 : decode (zbyt 186) 758 = .ok (.iaload, 1) := by decide +kernel
theorem d186_759 : decode (zbyt 186) 759 = .ok (.aload_n 0, 1) := by decide +kernel
theorem d186_760 : decode (zbyt 186) 760 = .ok (.iload_n 3, 1) := by decide +kernel
theorem d186_761 : decode (zbyt 186) 761 = .ok (.iconst 3, 1) := by decide +kernel
theorem d186_762 : decode (zbyt 186) 762 = .ok (.iadd, 1) := by decide +kernel
theorem d186_763 : decode (zbyt 186) 763 = .ok (.iaload, 1) := by decide +kernel
theorem d186_764 : decode (zbyt 186) 764 = .ok (.invokevirtual 99, 3) := by decide +kernel
theorem d186_767 : decode (zbyt 186) 767 = .ok (.lcmp, 1) := by decide +kernel
theorem d186_768 : decode (zbyt 186) 768 = .ok (.ifCond .eq 349, 3) := by decide +kernel
theorem d186_771 : decode (zbyt 186) 771 = .ok (.iconst 0, 1) := by decide +kernel
theorem d186_772 : decode (zbyt 186) 772 = .ok (.ireturn, 1) := by decide +kernel
theorem d186_773 : decode (zbyt 186) 773 = .ok (.aload_n 1, 1) := by decide +kernel
theorem d186_774 : decode (zbyt 186) 774 = .ok (.aload_n 0, 1) := by decide +kernel
theorem d186_775 : decode (zbyt 186) 775 = .ok (.iload_n 3, 1) := by decide +kernel
theorem d186_776 : decode (zbyt 186) 776 = .ok (.iconst 1, 1) := by decide +kernel
theorem d186_777 : decode (zbyt 186) 777 = .ok (.iadd, 1) := by decide +kernel
theorem d186_778 : decode (zbyt 186) 778 = .ok (.iaload, 1) := by decide +kernel
theorem d186_779 : decode (zbyt 186) 779 = .ok (.aload_n 0, 1) := by decide +kernel
theorem d186_780 : decode (zbyt 186) 780 = .ok (.iload_n 3, 1) := by decide +kernel
theorem d186_781 : decode (zbyt 186) 781 = .ok (.iconst 2, 1) := by decide +kernel
theorem d186_782 : decode (zbyt 186) 782 = .ok (.iadd, 1) := by decide +kernel
theorem d186_783 : decode (zbyt 186) 783 = .ok (.iaload, 1) := by decide +kernel
theorem d186_784 : decode (zbyt 186) 784 = .ok (.aload_n 0, 1) := by decide +kernel
theorem d186_785 : decode (zbyt 186) 785 = .ok (.iload_n 3, 1) := by decide +kernel
theorem d186_786 : decode (zbyt 186) 786 = .ok (.iconst 3, 1) := by decide +kernel
theorem d186_787 : decode (zbyt 186) 787 = .ok (.iadd, 1) := by decide +kernel
theorem d186_788 : decode (zbyt 186) 788 = .ok (.iaload, 1) := by decide +kernel
theorem d186_789 : decode (zbyt 186) 789 = .ok (.invokevirtual 100, 3) := by decide +kernel
theorem d186_792 : decode (zbyt 186) 792 = .ok (.aload_n 2, 1) := by decide +kernel
theorem d186_793 : decode (zbyt 186) 793 = .ok (.aload_n 0, 1) := by decide +kernel
theorem d186_794 : decode (zbyt 186) 794 = .ok (.iload_n 3, 1) := by decide +kernel
theorem d186_795 : decode (zbyt 186) 795 = .ok (.iconst 1, 1) := by decide +kernel
theorem d186_796 : decode (zbyt 186) 796 = .ok (.iadd, 1) := by decide +kernel
theorem d186_797 : decode (zbyt 186) 797 = .ok (.iaload, 1) := by decide +kernel
theorem d186_798 : decode (zbyt 186) 798 = .ok (.aload_n 0, 1) := by decide +kernel
theorem d186_799 : decode (zbyt 186) 799 = .ok (.iload_n 3, 1) := by decide +kernel
theorem d186_800 : decode (zbyt 186) 800 = .ok (.iconst 2, 1) := by decide +kernel
theorem d186_801 : decode (zbyt 186) 801 = .ok (.iadd, 1) := by decide +kernel
theorem d186_802 : decode (zbyt 186) 802 = .ok (.iaload, 1) := by decide +kernel
theorem d186_803 : decode (zbyt 186) 803 = .ok (.aload_n 0, 1) := by decide +kernel
theorem d186_804 : decode (zbyt 186) 804 = .ok (.iload_n 3, 1) := by decide +kernel
theorem d186_805 : decode (zbyt 186) 805 = .ok (.iconst 3, 1) := by decide +kernel
theorem d186_806 : decode (zbyt 186) 806 = .ok (.iadd, 1) := by decide +kernel
theorem d186_807 : decode (zbyt 186) 807 = .ok (.iaload, 1) := by decide +kernel
theorem d186_808 : decode (zbyt 186) 808 = .ok (.invokevirtual 103, 3) := by decide +kernel
theorem d186_811 : decode (zbyt 186) 811 = .ok (.if_icmp .eq 306, 3) := by decide +kernel
theorem d186_814 : decode (zbyt 186) 814 = .ok (.iconst 0, 1) := by decide +kernel
theorem d186_815 : decode (zbyt 186) 815 = .ok (.ireturn, 1) := by decide +kernel
theorem d186_816 : decode (zbyt 186) 816 = .ok (.aload_n 1, 1) := by decide +kernel
theorem d186_817 : decode (zbyt 186) 817 = .ok (.aload_n 0, 1) := by decide +kernel
theorem d186_818 : decode (zbyt 186) 818 = .ok (.iload_n 3, 1) := by decide +kernel
theorem d186_819 : decode (zbyt 186) 819 = .ok (.iconst 1, 1) := by decide +kernel
theorem d186_820 : decode (zbyt 186) 820 = .ok (.iadd, 1) := by decide +kernel
theorem d186_821 : decode (zbyt 186) 821 = .ok (.iaload, 1) := by decide +kernel
theorem d186_822 : decode (zbyt 186) 822 = .ok (.invokevirtual 104, 3) := by decide +kernel
theorem d186_825 : decode (zbyt 186) 825 = .ok (.aload_n 2, 1) := by decide +kernel
theorem d186_826 : decode (zbyt 186) 826 = .ok (.aload_n 0, 1) := by decide +kernel
theorem d186_827 : decode (zbyt 186) 827 = .ok (.iload_n 3, 1) := by decide +kernel
theorem d186_828 : decode (zbyt 186) 828 = .ok (.iconst 1, 1) := by decide +kernel
theorem d186_829 : decode (zbyt 186) 829 = .ok (.iadd, 1) := by decide +kernel
theorem d186_830 : decode (zbyt 186) 830 = .ok (.iaload, 1) := by decide +kernel
theorem d186_831 : decode (zbyt 186) 831 = .ok (.invokevirtual 107, 3) := by decide +kernel
theorem d186_834 : decode (zbyt 186) 834 = .ok (.if_icmp .eq 283, 3) := by decide +kernel
theorem d186_837 : decode (zbyt 186) 837 = .ok (.iconst 0, 1) := by decide +kernel
theorem d186_838 : decode (zbyt 186) 838 = .ok (.ireturn, 1) := by decide +kernel
theorem d186_839 : decode (zbyt 186) 839 = .ok (.aload_n 1, 1) := by decide +kernel
theorem d186_840 : decode (zbyt 186) 840 = .ok (.aload_n 0, 1) := by decide +kernel
theorem d186_841 : decode (zbyt 186) 841 = .ok (.iload_n 3, 1) := by decide +kernel
theorem d186_842 : decode (zbyt 186) 842 = .ok (.iconst 1, 1) := by decide +kernel
theorem d186_843 : decode (zbyt 186) 843 = .ok (.iadd, 1) := by decide +kernel
theorem d186_844 : decode (zbyt 186) 844 = .ok (.iaload, 1) := by decide +kernel
theorem d186_845 : decode (zbyt 186) 845 = .ok (.aload_n 0, 1) := by decide +kernel
theorem d186_846 : decode (zbyt 186) 846 = .ok (.iload_n 3, 1) := by decide +kernel
theorem d186_847 : decode (zbyt 186) 847 = .ok (.iconst 2, 1) := by decide +kernel
theorem d186_848 : decode (zbyt 186) 848 = .ok (.iadd, 1) := by decide +kernel
theorem d186_849 : decode (zbyt 186) 849 = .ok (.iaload, 1) := by decide +kernel
theorem d186_850 : decode (zbyt 186) 850 = .ok (.aload_n 0, 1) := by decide +kernel
theorem d186_851 : decode (zbyt 186) 851 = .ok (.iload_n 3, 1) := by decide +kernel
theorem d186_852 : decode (zbyt 186) 852 = .ok (.iconst 3, 1) := by decide +kernel
theorem d186_853 : decode (zbyt 186) 853 = .ok (.iadd, 1) := by decide +kernel
theorem d186_854 : decode (zbyt 186) 854 = .ok (.iaload, 1) := by decide +kernel
theorem d186_855 : decode (zbyt 186) 855 = .ok (.invokevirtual 108, 3) := by decide +kernel
theorem d186_858 : decode (zbyt 186) 858 = .ok (.aload_n 2, 1) := by decide +kernel
theorem d186_859 : decode (zbyt 186) 859 = .ok (.aload_n 0, 1) := by decide +kernel
theorem d186_860 : decode (zbyt 186) 860 = .ok (.iload_n 3, 1) := by decide +kernel
theorem d186_861 : decode (zbyt 186) 861 = .ok (.iconst 1, 1) := by decide +kernel
theorem d186_862 : decode (zbyt 186) 862 = .ok (.iadd, 1) := by decide +kernel
theorem d186_863 : decode (zbyt 186) 863 = .ok (.iaload, 1) := by decide +kernel
theorem d186_864 : decode (zbyt 186) 864 = .ok (.aload_n 0, 1) := by decide +kernel
theorem d186_865 : decode (zbyt 186) 865 = .ok (.iload_n 3, 1) := by decide +kernel
theorem d186_866 : decode (zbyt 186) 866 = .ok (.iconst 2, 1) := by decide +kernel
theorem d186_867 : decode (zbyt 186) 867 = .ok (.iadd, 1) := by decide +kernel
theorem d186_868 : decode (zbyt 186) 868 = .ok (.iaload, 1) := by decide +kernel
theorem d186_869 : decode (zbyt 186) 869 = .ok (.aload_n 0, 1) := by decide +kernel
theorem d186_870 : decode (zbyt 186) 870 = .ok (.iload_n 3, 1) := by decide +kernel
theorem d186_871 : decode (zbyt 186) 871 = .ok (.iconst 3, 1) := by decide +kernel
theorem d186_872 : decode (zbyt 186) 872 = .ok (.iadd, 1) := by decide +kernel
theorem d186_873 : decode (zbyt 186) 873 = .ok (.iaload, 1) := by decide +kernel
theorem d186_874 : decode (zbyt 186) 874 = .ok (.invokevirtual 111, 3) := by decide +kernel
theorem d186_877 : decode (zbyt 186) 877 = .ok (.if_icmp .eq 240, 3) := by decide +kernel
theorem d186_880 : decode (zbyt 186) 880 = .ok (.iconst 0, 1) := by decide +kernel
theorem d186_881 : decode (zbyt 186) 881 = .ok (.ireturn, 1) := by decide +kernel
theorem d186_882 : decode (zbyt 186) 882 = .ok (.aload_n 1, 1) := by decide +kernel
theorem d186_883 : decode (zbyt 186) 883 = .ok (.aload_n 0, 1) := by decide +kernel
theorem d186_884 : decode (zbyt 186) 884 = .ok (.iload_n 3, 1) := by decide +kernel
theorem d186_885 : decode (zbyt 186) 885 = .ok (.iconst 1, 1) := by decide +kernel
theorem d186_886 : decode (zbyt 186) 886 = .ok (.iadd, 1) := by decide +kernel
theorem d186_887 : decode (zbyt 186) 887 = .ok (.iaload, 1) := by decide +kernel
theorem d186_888 : decode (zbyt 186) 888 = .ok (.aload_n 0, 1) := by decide +kernel
theorem d186_889 : decode (zbyt 186) 889 = .ok (.iload_n 3, 1) := by decide +kernel
theorem d186_890 : decode (zbyt 186) 890 = .ok (.iconst 2, 1) := by decide +kernel
theorem d186_891 : decode (zbyt 186) 891 = .ok (.iadd, 1) := by decide +kernel
theorem d186_892 : decode (zbyt 186) 892 = .ok (.iaload, 1) := by decide +kernel
theorem d186_893 : decode (zbyt 186) 893 = .ok (.aload_n 0, 1) := by decide +kernel
theorem d186_894 : decode (zbyt 186) 894 = .ok (.iload_n 3, 1) := by decide +kernel
theorem d186_895 : decode (zbyt 186) 895 = .ok (.iconst 3, 1) := by decide +kernel
theorem d186_896 : decode (zbyt 186) 896 = .ok (.iadd, 1) := by decide +kernel
theorem d186_897 : decode (zbyt 186) 897 = .ok (.iaload, 1) := by decide +kernel
theorem d186_898 : decode (zbyt 186) 898 = .ok (.invokevirtual 112, 3) := by decide +kernel
theorem d186_901 : decode (zbyt 186) 901 = .ok (.aload_n 2, 1) := by decide +kernel
theorem d186_902 : decode (zbyt 186) 902 = .ok (.aload_n 0, 1) := by decide +kernel
theorem d186_903 : decode (zbyt 186) 903 = .ok (.iload_n 3, 1) := by decide +kernel
theorem d186_904 : decode (zbyt 186) 904 = .ok (.iconst 1, 1) := by decide +kernel
theorem d186_905 : decode (zbyt 186) 905 = .ok (.iadd, 1) := by decide +kernel
theorem d186_906 : decode (zbyt 186) 906 = .ok (.iaload, 1) := by decide +kernel
theorem d186_907 : decode (zbyt 186) 907 = .ok (.aload_n 0, 1) := by decide +kernel
theorem d186_908 : decode (zbyt 186) 908 = .ok (.iload_n 3, 1) := by decide +kernel
theorem d186_909 : decode (zbyt 186) 909 = .ok (.iconst 2, 1) := by decide +kernel
theorem d186_910 : decode (zbyt 186) 910 = .ok (.iadd, 1) := by decide +kernel
theorem d186_911 : decode (zbyt 186) 911 = .ok (.iaload, 1) := by decide +kernel
theorem d186_912 : decode (zbyt 186) 912 = .ok (.aload_n 0, 1) := by decide +kernel
theorem d186_913 : decode (zbyt 186) 913 = .ok (.iload_n 3, 1) := by decide +kernel
theorem d186_914 : decode (zbyt 186) 914 = .ok (.iconst 3, 1) := by decide +kernel
theorem d186_915 : decode (zbyt 186) 915 = .ok (.iadd, 1) := by decide +kernel
theorem d186_916 : decode (zbyt 186) 916 = .ok (.iaload, 1) := by decide +kernel
theorem d186_917 : decode (zbyt 186) 917 = .ok (.invokevirtual 115, 3) := by decide +kernel
theorem d186_920 : decode (zbyt 186) 920 = .ok (.lcmp, 1) := by decide +kernel
theorem d186_921 : decode (zbyt 186) 921 = .ok (.ifCond .eq 196, 3) := by decide +kernel
theorem d186_924 : decode (zbyt 186) 924 = .ok (.iconst 0, 1) := by decide +kernel
theorem d186_925 : decode (zbyt 186) 925 = .ok (.ireturn, 1) := by decide +kernel
theorem d186_926 : decode (zbyt 186) 926 = .ok (.aload_n 1, 1) := by decide +kernel
theorem d186_927 : decode (zbyt 186) 927 = .ok (.aload_n 0, 1) := by decide +kernel
theorem d186_928 : decode (zbyt 186) 928 = .ok (.iload_n 3, 1) := by decide +kernel
theorem d186_929 : decode (zbyt 186) 929 = .ok (.iconst 1, 1) := by decide +kernel
theorem d186_930 : decode (zbyt 186) 930 = .ok (.iadd, 1) := by decide +kernel
theorem d186_931 : decode (zbyt 186) 931 = .ok (.iaload, 1) := by decide +kernel
theorem d186_932 : decode (zbyt 186) 932 = .ok (.aload_n 0, 1) := by decide +kernel
theorem d186_933 : decode (zbyt 186) 933 = .ok (.iload_n 3, 1) := by decide +kernel
theorem d186_934 : decode (zbyt 186) 934 = .ok (.iconst 2, 1) := by decide +kernel
theorem d186_935 : decode (zbyt 186) 935 = .ok (.iadd, 1) := by decide +kernel
theorem d186_936 : decode (zbyt 186) 936 = .ok (.iaload, 1) := by decide +kernel
theorem d186_937 : decode (zbyt 186) 937 = .ok (.aload_n 0, 1) := by decide +kernel
theorem d186_938 : decode (zbyt 186) 938 = .ok (.iload_n 3, 1) := by decide +kernel
theorem d186_939 : decode (zbyt 186) 939 = .ok (.iconst 3, 1) := by decide +kernel
theorem d186_940 : decode (zbyt 186) 940 = .ok (.iadd, 1) := by decide +kernel
theorem d186_941 : decode (zbyt 186) 941 = .ok (.iaload, 1) := by decide +kernel
theorem d186_942 : decode (zbyt 186) 942 = .ok (.aload_n 0, 1) := by decide +kernel
theorem d186_943 : decode (zbyt 186) 943 = .ok (.iload_n 3, 1) := by decide +kernel
theorem d186_944 : decode (zbyt 186) 944 = .ok (.iconst 4, 1) := by decide +kernel
theorem d186_945 : decode (zbyt 186) 945 = .ok (.iadd, 1) := by decide +kernel
theorem d186_946 : decode (zbyt 186) 946 = .ok (.iaload, 1) := by decide +kernel
theorem d186_947 : decode (zbyt 186) 947 = .ok (.aload_n 0, 1) := by decide +kernel
theorem d186_948 : decode (zbyt 186) 948 = .ok (.iload_n 3, 1) := by decide +kernel
theorem d186_949 : decode (zbyt 186) 949 = .ok (.iconst 5, 1) := by decide +kernel
theorem d186_950 : decode (zbyt 186) 950 = .ok (.iadd, 1) := by decide +kernel
theorem d186_951 : decode (zbyt 186) 951 = .ok (.iaload, 1) := by decide +kernel
theorem d186_952 : decode (zbyt 186) 952 = .ok (.invokevirtual 116, 3) := by decide +kernel
theorem d186_955 : decode (zbyt 186) 955 = .ok (.aload_n 2, 1) := by decide +kernel
theorem d186_956 : decode (zbyt 186) 956 = .ok (.aload_n 0, 1) := by decide +kernel
theorem d186_957 : decode (zbyt 186) 957 = .ok (.iload_n 3, 1) := by decide +kernel
theorem d186_958 : decode (zbyt 186) 958 = .ok (.iconst 1, 1) := by decide +kernel
theorem d186_959 : decode (zbyt 186) 959 = .ok (.iadd, 1) := by decide +kernel
theorem d186_960 : decode (zbyt 186) 960 = .ok (.iaload, 1) := by decide +kernel
theorem d186_961 : decode (zbyt 186) 961 = .ok (.aload_n 0, 1) := by decide +kernel
theorem d186_962 : decode (zbyt 186) 962 = .ok (.iload_n 3, 1) := by decide +kernel
theorem d186_963 : decode (zbyt 186) 963 = .ok (.iconst 2, 1) := by decide +kernel
theorem d186_964 : decode (zbyt 186) 964 = .ok (.iadd, 1) := by decide +kernel
theorem d186_965 : decode (zbyt 186) 965 = .ok (.iaload, 1) := by decide +kernel
theorem d186_966 : decode (zbyt 186) 966 = .ok (.aload_n 0, 1) := by decide +kernel
theorem d186_967 : decode (zbyt 186) 967 = .ok (.iload_n 3, 1) := by decide +kernel
theorem d186_968 : decode (zbyt 186) 968 = .ok (.iconst 3, 1) := by decide +kernel
theorem d186_969 : decode (zbyt 186) 969 = .ok (.iadd, 1) := by decide +kernel
theorem d186_970 : decode (zbyt 186) 970 = .ok (.iaload, 1) := by decide +kernel
theorem d186_971 : decode (zbyt 186) 971 = .ok (.aload_n 0, 1) := by decide +kernel
theorem d186_972 : decode (zbyt 186) 972 = .ok (.iload_n 3, 1) := by decide +kernel
theorem d186_973 : decode (zbyt 186) 973 = .ok (.iconst 4, 1) := by decide +kernel
theorem d186_974 : decode (zbyt 186) 974 = .ok (.iadd, 1) := by decide +kernel
theorem d186_975 : decode (zbyt 186) 975 = .ok (.iaload, 1) := by decide +kernel
theorem d186_976 : decode (zbyt 186) 976 = .ok (.aload_n 0, 1) := by decide +kernel
theorem d186_977 : decode (zbyt 186) 977 = .ok (.iload_n 3, 1) := by decide +kernel
theorem d186_978 : decode (zbyt 186) 978 = .ok (.iconst 5, 1) := by decide +kernel
theorem d186_979 : decode (zbyt 186) 979 = .ok (.iadd, 1) := by decide +kernel
theorem d186_980 : decode (zbyt 186) 980 = .ok (.iaload, 1) := by decide +kernel
theorem d186_981 : decode (zbyt 186) 981 = .ok (.invokevirtual 119, 3) := by decide +kernel
theorem d186_984 : decode (zbyt 186) 984 = .ok (.if_icmp .eq 133, 3) := by decide +kernel
theorem d186_987 : decode (zbyt 186) 987 = .ok (.iconst 0, 1) := by decide +kernel
theorem d186_988 : decode (zbyt 186) 988 = .ok (.ireturn, 1) := by decide +kernel
theorem d186_989 : decode (zbyt 186) 989 = .ok (.aload_n 1, 1) := by decide +kernel
theorem d186_990 : decode (zbyt 186) 990 = .ok (.aload_n 0, 1) := by decide +kernel
theorem d186_991 : decode (zbyt 186) 991 = .ok (.iload_n 3, 1) := by decide +kernel
theorem d186_992 : decode (zbyt 186) 992 = .ok (.iconst 1, 1) := by decide +kernel
theorem d186_993 : decode (zbyt 186) 993 = .ok (.iadd, 1) := by decide +kernel
theorem d186_994 : decode (zbyt 186) 994 = .ok (.iaload, 1) := by decide +kernel
theorem d186_995 : decode (zbyt 186) 995 = .ok (.invokevirtual 120, 3) := by decide +kernel
theorem d186_998 : decode (zbyt 186) 998 = .ok (.aload_n 2, 1) := by decide +kernel
theorem d186_999 : decode (zbyt 186) 999 = .ok (.aload_n 0, 1) := by decide +kernel
theorem d186_1000 : decode (zbyt 186) 1000 = .ok (.iload_n 3, 1) := by decide +kernel
theorem d186_1001 : decode (zbyt 186) 1001 = .ok (.iconst 1, 1) := by decide +kernel
theorem d186_1002 : decode (zbyt 186) 1002 = .ok (.iadd, 1) := by decide +kernel
theorem d186_1003 : decode (zbyt 186) 1003 = .ok (.iaload, 1) := by decide +kernel
theorem d186_1004 : decode (zbyt 186) 1004 = .ok (.invokevirtual 123, 3) := by decide +kernel
theorem d186_1007 : decode (zbyt 186) 1007 = .ok (.if_icmp .eq 110, 3) := by decide +kernel
theorem d186_1010 : decode (zbyt 186) 1010 = .ok (.iconst 0, 1) := by decide +kernel
theorem d186_1011 : decode (zbyt 186) 1011 = .ok (.ireturn, 1) := by decide +kernel
theorem d186_1012 : decode (zbyt 186) 1012 = .ok (.aload_n 1, 1) := by decide +kernel
theorem d186_1013 : decode (zbyt 186) 1013 = .ok (.aload_n 0, 1) := by decide +kernel
theorem d186_1014 : decode (zbyt 186) 1014 = .ok (.iload_n 3, 1) := by decide +kernel
theorem d186_1015 : decode (zbyt 186) 1015 = .ok (.iconst 1, 1) := by decide +kernel
theorem d186_1016 : decode (zbyt 186) 1016 = .ok (.iadd, 1) := by decide +kernel
theorem d186_1017 : decode (zbyt 186) 1017 = .ok (.iaload, 1) := by decide +kernel
theorem d186_1018 : decode (zbyt 186) 1018 = .ok (.invokevirtual 124, 3) := by decide +kernel
theorem d186_1021 : decode (zbyt 186) 1021 = .ok (.aload_n 2, 1) := by decide +kernel
theorem d186_1022 : decode (zbyt 186) 1022 = .ok (.aload_n 0, 1) := by decide +kernel
theorem d186_1023 : decode (zbyt 186) 1023 = .ok (.iload_n 3, 1) := by decide +kernel
theorem d186_1024 : decode (zbyt 186) 1024 = .ok (.iconst 1, 1) := by decide +kernel
theorem d186_1025 : decode (zbyt 186) 1025 = .ok (.iadd, 1) := by decide +kernel
theorem d186_1026 : decode (zbyt 186) 1026 = .ok (.iaload, 1) := by decide +kernel
theorem d186_1027 : decode (zbyt 186) 1027 = .ok (.invokevirtual 127, 3) := by decide +kernel
theorem d186_1030 : decode (zbyt 186) 1030 = .ok (.if_icmp .eq 87, 3) := by decide +kernel
theorem d186_1033 : decode (zbyt 186) 1033 = .ok (.iconst 0, 1) := by decide +kernel
theorem d186_1034 : decode (zbyt 186) 1034 = .ok (.ireturn, 1) := by decide +kernel
theorem d186_1035 : decode (zbyt 186) 1035 = .ok (.aload_n 1, 1) := by decide +kernel
theorem d186_1036 : decode (zbyt 186) 1036 = .ok (.aload_n 0, 1) := by decide +kernel
theorem d186_1037 : decode (zbyt 186) 1037 = .ok (.iload_n 3, 1) := by decide +kernel
theorem d186_1038 : decode (zbyt 186) 1038 = .ok (.iconst 1, 1) := by decide +kernel
theorem d186_1039 : decode (zbyt 186) 1039 = .ok (.iadd, 1) := by decide +kernel
theorem d186_1040 : decode (zbyt 186) 1040 = .ok (.iaload, 1) := by decide +kernel
theorem d186_1041 : decode (zbyt 186) 1041 = .ok (.aload_n 0, 1) := by decide +kernel
theorem d186_1042 : decode (zbyt 186) 1042 = .ok (.iload_n 3, 1) := by decide +kernel
theorem d186_1043 : decode (zbyt 186) 1043 = .ok (.iconst 2, 1) := by decide +kernel
theorem d186_1044 : decode (zbyt 186) 1044 = .ok (.iadd, 1) := by decide +kernel
theorem d186_1045 : decode (zbyt 186) 1045 = .ok (.iaload, 1) := by decide +kernel
theorem d186_1046 : decode (zbyt 186) 1046 = .ok (.invokevirtual 128, 3) := by decide +kernel
theorem d186_1049 : decode (zbyt 186) 1049 = .ok (.aload_n 2, 1) := by decide +kernel
theorem d186_1050 : decode (zbyt 186) 1050 = .ok (.aload_n 0, 1) := by decide +kernel
theorem d186_1051 : decode (zbyt 186) 1051 = .ok (.iload_n 3, 1) := by decide +kernel
theorem d186_1052 : decode (zbyt 186) 1052 = .ok (.iconst 1, 1) := by decide +kernel
theorem d186_1053 : decode (zbyt 186) 1053 = .ok (.iadd, 1) := by decide +kernel
theorem d186_1054 : decode (zbyt 186) 1054 = .ok (.iaload, 1) := by decide +kernel
theorem d186_1055 : decode (zbyt 186) 1055 = .ok (.aload_n 0, 1) := by decide +kernel
theorem d186_1056 : decode (zbyt 186) 1056 = .ok (.iload_n 3, 1) := by decide +kernel
theorem d186_1057 : decode (zbyt 186) 1057 = .ok (.iconst 2, 1) := by decide +kernel
theorem d186_1058 : decode (zbyt 186) 1058 = .ok (.iadd, 1) := by decide +kernel
theorem d186_1059 : decode (zbyt 186) 1059 = .ok (.iaload, 1) := by decide +kernel
theorem d186_1060 : decode (zbyt 186) 1060 = .ok (.invokevirtual 131, 3) := by decide +kernel
theorem d186_1063 : decode (zbyt 186) 1063 = .ok (.if_icmp .eq 54, 3) := by decide +kernel
theorem d186_1066 : decode (zbyt 186) 1066 = .ok (.iconst 0, 1) := by decide +kernel
theorem d186_1067 : decode (zbyt 186) 1067 = .ok (.ireturn, 1) := by decide +kernel
theorem d186_1068 : decode (zbyt 186) 1068 = .ok (.aload_n 1, 1) := by decide +kernel
theorem d186_1069 : decode (zbyt 186) 1069 = .ok (.invokevirtual 132, 3) := by decide +kernel
theorem d186_1072 : decode (zbyt 186) 1072 = .ok (.aload_n 2, 1) := by decide +kernel
theorem d186_1073 : decode (zbyt 186) 1073 = .ok (.invokevirtual 135, 3) := by decide +kernel
theorem d186_1076 : decode (zbyt 186) 1076 = .ok (.if_icmp .eq 41, 3) := by decide +kernel
theorem d186_1079 : decode (zbyt 186) 1079 = .ok (.iconst 0, 1) := by decide +kernel
theorem d186_1080 : decode (zbyt 186) 1080 = .ok (.ireturn, 1) := by decide +kernel
theorem d186_1081 : decode (zbyt 186) 1081 = .ok (.aload_n 1, 1) := by decide +kernel
theorem d186_1082 : decode (zbyt 186) 1082 = .ok (.invokevirtual 136, 3) := by decide +kernel
theorem d186_1085 : decode (zbyt 186) 1085 = .ok (.aload_n 2, 1) := by decide +kernel
theorem d186_1086 : decode (zbyt 186) 1086 = .ok (.invokevirtual 139, 3) := by decide +kernel
theorem d186_1089 : decode (zbyt 186) 1089 = .ok (.if_icmp .eq 28, 3) := by decide +kernel
theorem d186_1092 : decode (zbyt 186) 1092 = .ok (.iconst 0, 1) := by decide +kernel
theorem d186_1093 : decode (zbyt 186) 1093 = .ok (.ireturn, 1) := by decide +kernel
theorem d186_1094 : decode (zbyt 186) 1094 = .ok (.aload_n 1, 1) := by decide +kernel
theorem d186_1095 : decode (zbyt 186) 1095 = .ok (.aload_n 0, 1) := by decide +kernel
theorem d186_1096 : decode (zbyt 186) 1096 = .ok (.iload_n 3, 1) := by decide +kernel
theorem d186_1097 : decode (zbyt 186) 1097 = .ok (.iconst 1, 1) := by decide +kernel
theorem d186_1098 : decode (zbyt 186) 1098 = .ok (.iadd, 1) := by decide +kernel
theorem d186_1099 : decode (zbyt 186) 1099 = .ok (.iaload, 1) := by decide +kernel
theorem d186_1100 : decode (zbyt 186) 1100 = .ok (.invokevirtual 140, 3) := by decide +kernel
theorem d186_1103 : decode (zbyt 186) 1103 = .ok (.aload_n 2, 1) := by decide +kernel
theorem d186_1104 : decode (zbyt 186) 1104 = .ok (.aload_n 0, 1) := by decide +kernel
theorem d186_1105 : decode (zbyt 186) 1105 = .ok (.iload_n 3, 1) := by decide +kernel
theorem d186_1106 : decode (zbyt 186) 1106 = .ok (.iconst 1, 1) := by decide +kernel
theorem d186_1107 : decode (zbyt 186) 1107 = .ok (.iadd, 1) := by decide +kernel
theorem d186_1108 : decode (zbyt 186) 1108 = .ok (.iaload, 1) := by decide +kernel
theorem d186_1109 : decode (zbyt 186) 1109 = .ok (.invokevirtual 143, 3) := by decide +kernel
theorem d186_1112 : decode (zbyt 186) 1112 = .ok (.if_icmp .eq 5, 3) := by decide +kernel
theorem d186_1115 : decode (zbyt 186) 1115 = .ok (.iconst 0, 1) := by decide +kernel
theorem d186_1116 : decode (zbyt 186) 1116 = .ok (.ireturn, 1) := by decide +kernel
theorem d186_1117 : decode (zbyt 186) 1117 = .ok (.iinc 3 6, 3) := by decide +kernel
theorem d186_1120 : decode (zbyt 186) 1120 = .ok (.goto (-1102), 3) := by decide +kernel
theorem d186_1123 : decode (zbyt 186) 1123 = .ok (.iconst 1, 1) := by decide +kernel
theorem d186_1124 : decode (zbyt 186) 1124 = .ok (.ireturn, 1) := by decide +kernel

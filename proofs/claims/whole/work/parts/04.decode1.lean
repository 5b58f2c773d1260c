theorem dX0_init_0 : decode cX0_init 0 = .ok (.aload_n 0, 1) := by decide +kernel
theorem dX0_init_1 : decode cX0_init 1 = .ok (.invokespecial 1, 3) := by decide +kernel
theorem dX0_init_4 : decode cX0_init 4 = .ok (.aload_n 0, 1) := by decide +kernel
theorem dX0_init_5 : decode cX0_init 5 = .ok (.iconst 0, 1) := by decide +kernel
theorem dX0_init_6 : decode cX0_init 6 = .ok (.putfield 7, 3) := by decide +kernel
theorem dX0_init_9 : decode cX0_init 9 = .ok (.aload_n 0, 1) := by decide +kernel
theorem dX0_init_10 : decode cX0_init 10 = .ok (.iconst 0, 1) := by decide +kernel
theorem dX0_init_11 : decode cX0_init 11 = .ok (.putfield 13, 3) := by decide +kernel
theorem dX0_init_14 : decode cX0_init 14 = .ok (.aload_n 0, 1) := by decide +kernel
theorem dX0_init_15 : decode cX0_init 15 = .ok (.new 17, 3) := by decide +kernel
theorem dX0_init_18 : decode cX0_init 18 = .ok (.dup, 1) := by decide +kernel
theorem dX0_init_19 : decode cX0_init 19 = .ok (.invokespecial 19, 3) := by decide +kernel
theorem dX0_init_22 : decode cX0_init 22 = .ok (.putfield 20, 3) := by decide +kernel
theorem dX0_init_25 : decode cX0_init 25 = .ok (.aload_n 0, 1) := by decide +kernel
theorem dX0_init_26 : decode cX0_init 26 = .ok (.new 24, 3) := by decide +kernel
theorem dX0_init_29 : decode cX0_init 29 = .ok (.dup, 1) := by decide +kernel
theorem dX0_init_30 : decode cX0_init 30 = .ok (.invokespecial 26, 3) := by decide +kernel
theorem dX0_init_33 : decode cX0_init 33 = .ok (.putfield 27, 3) := by decide +kernel
theorem dX0_init_36 : decode cX0_init 36 = .ok (.return_, 1) := by decide +kernel
theorem dX1_init_0 : decode cX1_init 0 = .ok (.aload_n 0, 1) := by decide +kernel
theorem dX1_init_1 : decode cX1_init 1 = .ok (.invokespecial 3, 3) := by decide +kernel
theorem dX1_init_4 : decode cX1_init 4 = .ok (.aload_n 0, 1) := by decide +kernel
theorem dX1_init_5 : decode cX1_init 5 = .ok (.iconst 4, 1) := by decide +kernel
theorem dX1_init_6 : decode cX1_init 6 = .ok (.anewarray 9, 3) := by decide +kernel
theorem dX1_init_9 : decode cX1_init 9 = .ok (.putfield 11, 3) := by decide +kernel
theorem dX1_init_12 : decode cX1_init 12 = .ok (.aload_n 0, 1) := by decide +kernel
theorem dX1_init_13 : decode cX1_init 13 = .ok (.bipush 9, 2) := by decide +kernel
theorem dX1_init_15 : decode cX1_init 15 = .ok (.newarray .int, 2) := by decide +kernel
theorem dX1_init_17 : decode cX1_init 17 = .ok (.putfield 17, 3) := by decide +kernel
theorem dX1_init_20 : decode cX1_init 20 = .ok (.iconst 0, 1) := by decide +kernel
theorem dX1_init_21 : decode cX1_init 21 = .ok (.istore_n 1, 1) := by decide +kernel
theorem dX1_init_22 : decode cX1_init 22 = .ok (.iload_n 1, 1) := by decide +kernel
theorem dX1_init_23 : decode cX1_init 23 = .ok (.iconst 4, 1) := by decide +kernel
theorem dX1_init_24 : decode cX1_init 24 = .ok (.if_icmp .ge 22, 3) := by decide +kernel
theorem dX1_init_27 : decode cX1_init 27 = .ok (.aload_n 0, 1) := by decide +kernel
theorem dX1_init_28 : decode cX1_init 28 = .ok (.getfield 11, 3) := by decide +kernel
theorem dX1_init_31 : decode cX1_init 31 = .ok (.iload_n 1, 1) := by decide +kernel
theorem dX1_init_32 : decode cX1_init 32 = .ok (.new 9, 3) := by decide +kernel
theorem dX1_init_35 : decode cX1_init 35 = .ok (.dup, 1) := by decide +kernel
theorem dX1_init_36 : decode cX1_init 36 = .ok (.invokespecial 21, 3) := by decide +kernel
theorem dX1_init_39 : decode cX1_init 39 = .ok (.aastore, 1) := by decide +kernel
theorem dX1_init_40 : decode cX1_init 40 = .ok (.iinc 1 1, 3) := by decide +kernel
theorem dX1_init_43 : decode cX1_init 43 = .ok (.goto (-21), 3) := by decide +kernel
theorem dX1_init_46 : decode cX1_init 46 = .ok (.return_, 1) := by decide +kernel
theorem dX1_develop_0 : decode cX1_develop 0 = .ok (.aload_n 1, 1) := by decide +kernel
theorem dX1_develop_1 : decode cX1_develop 1 = .ok (.ifnull 14, 3) := by decide +kernel
theorem dX1_develop_4 : decode cX1_develop 4 = .ok (.iload 6, 2) := by decide +kernel
theorem dX1_develop_6 : decode cX1_develop 6 = .ok (.ifCond .lt 9, 3) := by decide +kernel
theorem dX1_develop_9 : decode cX1_develop 9 = .ok (.iload 6, 2) := by decide +kernel
theorem dX1_develop_11 : decode cX1_develop 11 = .ok (.iconst 4, 1) := by decide +kernel
theorem dX1_develop_12 : decode cX1_develop 12 = .ok (.if_icmp .lt 4, 3) := by decide +kernel
theorem dX1_develop_15 : decode cX1_develop 15 = .ok (.return_, 1) := by decide +kernel
theorem dX1_develop_16 : decode cX1_develop 16 = .ok (.aload_n 0, 1) := by decide +kernel
theorem dX1_develop_17 : decode cX1_develop 17 = .ok (.getfield 11, 3) := by decide +kernel
theorem dX1_develop_20 : decode cX1_develop 20 = .ok (.iload 6, 2) := by decide +kernel
theorem dX1_develop_22 : decode cX1_develop 22 = .ok (.aaload, 1) := by decide +kernel
theorem dX1_develop_23 : decode cX1_develop 23 = .ok (.astore 7, 2) := by decide +kernel
theorem dX1_develop_25 : decode cX1_develop 25 = .ok (.aload_n 3, 1) := by decide +kernel
theorem dX1_develop_26 : decode cX1_develop 26 = .ok (.aload_n 2, 1) := by decide +kernel
theorem dX1_develop_27 : decode cX1_develop 27 = .ok (.getfield 22, 3) := by decide +kernel
theorem dX1_develop_30 : decode cX1_develop 30 = .ok (.aload_n 2, 1) := by decide +kernel
theorem dX1_develop_31 : decode cX1_develop 31 = .ok (.getfield 26, 3) := by decide +kernel
theorem dX1_develop_34 : decode cX1_develop 34 = .ok (.aload_n 2, 1) := by decide +kernel
theorem dX1_develop_35 : decode cX1_develop 35 = .ok (.getfield 29, 3) := by decide +kernel
theorem dX1_develop_38 : decode cX1_develop 38 = .ok (.invokevirtual 32, 3) := by decide +kernel
theorem dX1_develop_41 : decode cX1_develop 41 = .ok (.aload_n 1, 1) := by decide +kernel
theorem dX1_develop_42 : decode cX1_develop 42 = .ok (.getfield 36, 3) := by decide +kernel
theorem dX1_develop_45 : decode cX1_develop 45 = .ok (.tableswitch 177 4 8 #[35, 35, 47, 88, 131], 35) := by decide +kernel
theorem dX1_develop_80 : decode cX1_develop 80 = .ok (.aload_n 0, 1) := by decide +kernel
theorem dX1_develop_81 : decode cX1_develop 81 = .ok (.aload_n 1, 1) := by decide +kernel
theorem dX1_develop_82 : decode cX1_develop 82 = .ok (.aload_n 2, 1) := by decide +kernel
theorem dX1_develop_83 : decode cX1_develop 83 = .ok (.aload_n 3, 1) := by decide +kernel
theorem dX1_develop_84 : decode cX1_develop 84 = .ok (.iload 5, 2) := by decide +kernel
theorem dX1_develop_86 : decode cX1_develop 86 = .ok (.invokevirtual 39, 3) := by decide +kernel
theorem dX1_develop_89 : decode cX1_develop 89 = .ok (.goto 139, 3) := by decide +kernel
theorem dX1_develop_92 : decode cX1_develop 92 = .ok (.aload_n 0, 1) := by decide +kernel
theorem dX1_develop_93 : decode cX1_develop 93 = .ok (.aload_n 1, 1) := by decide +kernel
theorem dX1_develop_94 : decode cX1_develop 94 = .ok (.getfield 43, 3) := by decide +kernel
theorem dX1_develop_97 : decode cX1_develop 97 = .ok (.aload_n 2, 1) := by decide +kernel
theorem dX1_develop_98 : decode cX1_develop 98 = .ok (.aload 7, 2) := by decide +kernel
theorem dX1_develop_100 : decode cX1_develop 100 = .ok (.aload 4, 2) := by decide +kernel
theorem dX1_develop_102 : decode cX1_develop 102 = .ok (.iload 5, 2) := by decide +kernel
theorem dX1_develop_104 : decode cX1_develop 104 = .ok (.iload 6, 2) := by decide +kernel
theorem dX1_develop_106 : decode cX1_develop 106 = .ok (.iconst 1, 1) := by decide +kernel
theorem dX1_develop_107 : decode cX1_develop 107 = .ok (.iadd, 1) := by decide +kernel
theorem dX1_develop_108 : decode cX1_develop 108 = .ok (.invokestatic 47, 3) := by decide +kernel
theorem dX1_develop_111 : decode cX1_develop 111 = .ok (.aload_n 0, 1) := by decide +kernel
theorem dX1_develop_112 : decode cX1_develop 112 = .ok (.aload_n 1, 1) := by decide +kernel
theorem dX1_develop_113 : decode cX1_develop 113 = .ok (.getfield 51, 3) := by decide +kernel
theorem dX1_develop_116 : decode cX1_develop 116 = .ok (.aload 7, 2) := by decide +kernel
theorem dX1_develop_118 : decode cX1_develop 118 = .ok (.aload_n 3, 1) := by decide +kernel
theorem dX1_develop_119 : decode cX1_develop 119 = .ok (.aload 4, 2) := by decide +kernel
theorem dX1_develop_121 : decode cX1_develop 121 = .ok (.iload 5, 2) := by decide +kernel
theorem dX1_develop_123 : decode cX1_develop 123 = .ok (.iload 6, 2) := by decide +kernel
theorem dX1_develop_125 : decode cX1_develop 125 = .ok (.iconst 1, 1) := by decide +kernel
theorem dX1_develop_126 : decode cX1_develop 126 = .ok (.iadd, 1) := by decide +kernel
theorem dX1_develop_127 : decode cX1_develop 127 = .ok (.invokestatic 47, 3) := by decide +kernel
theorem dX1_develop_130 : decode cX1_develop 130 = .ok (.goto 98, 3) := by decide +kernel
theorem dX1_develop_133 : decode cX1_develop 133 = .ok (.aload_n 0, 1) := by decide +kernel
theorem dX1_develop_134 : decode cX1_develop 134 = .ok (.aload_n 1, 1) := by decide +kernel
theorem dX1_develop_135 : decode cX1_develop 135 = .ok (.getfield 43, 3) := by decide +kernel
theorem dX1_develop_138 : decode cX1_develop 138 = .ok (.aload_n 2, 1) := by decide +kernel
theorem dX1_develop_139 : decode cX1_develop 139 = .ok (.aload_n 3, 1) := by decide +kernel
theorem dX1_develop_140 : decode cX1_develop 140 = .ok (.aload 4, 2) := by decide +kernel
theorem dX1_develop_142 : decode cX1_develop 142 = .ok (.iload 5, 2) := by decide +kernel
theorem dX1_develop_144 : decode cX1_develop 144 = .ok (.iload 6, 2) := by decide +kernel
theorem dX1_develop_146 : decode cX1_develop 146 = .ok (.iconst 1, 1) := by decide +kernel
theorem dX1_develop_147 : decode cX1_develop 147 = .ok (.iadd, 1) := by decide +kernel
theorem dX1_develop_148 : decode cX1_develop 148 = .ok (.invokestatic 47, 3) := by decide +kernel
theorem dX1_develop_151 : decode cX1_develop 151 = .ok (.aload_n 1, 1) := by decide +kernel
theorem dX1_develop_152 : decode cX1_develop 152 = .ok (.getfield 54, 3) := by decide +kernel
theorem dX1_develop_155 : decode cX1_develop 155 = .ok (.invokestatic 57, 3) := by decide +kernel
theorem dX1_develop_158 : decode cX1_develop 158 = .ok (.ifCond .eq 70, 3) := by decide +kernel
theorem dX1_develop_161 : decode cX1_develop 161 = .ok (.aload 4, 2) := by decide +kernel
theorem dX1_develop_163 : decode cX1_develop 163 = .ok (.aload_n 1, 1) := by decide +kernel
theorem dX1_develop_164 : decode cX1_develop 164 = .ok (.getfield 54, 3) := by decide +kernel
theorem dX1_develop_167 : decode cX1_develop 167 = .ok (.aaload, 1) := by decide +kernel
theorem dX1_develop_168 : decode cX1_develop 168 = .ok (.aload_n 2, 1) := by decide +kernel
theorem dX1_develop_169 : decode cX1_develop 169 = .ok (.aload_n 3, 1) := by decide +kernel
theorem dX1_develop_170 : decode cX1_develop 170 = .ok (.invokestatic 61, 3) := by decide +kernel
theorem dX1_develop_173 : decode cX1_develop 173 = .ok (.goto 55, 3) := by decide +kernel
theorem dX1_develop_176 : decode cX1_develop 176 = .ok (.aload_n 0, 1) := by decide +kernel
theorem dX1_develop_177 : decode cX1_develop 177 = .ok (.aload_n 1, 1) := by decide +kernel
theorem dX1_develop_178 : decode cX1_develop 178 = .ok (.getfield 43, 3) := by decide +kernel
theorem dX1_develop_181 : decode cX1_develop 181 = .ok (.aload_n 2, 1) := by decide +kernel
theorem dX1_develop_182 : decode cX1_develop 182 = .ok (.aload_n 3, 1) := by decide +kernel
theorem dX1_develop_183 : decode cX1_develop 183 = .ok (.aload 4, 2) := by decide +kernel
theorem dX1_develop_185 : decode cX1_develop 185 = .ok (.iload 5, 2) := by decide +kernel
theorem dX1_develop_187 : decode cX1_develop 187 = .ok (.iload 6, 2) := by decide +kernel
theorem dX1_develop_189 : decode cX1_develop 189 = .ok (.iconst 1, 1) := by decide +kernel
theorem dX1_develop_190 : decode cX1_develop 190 = .ok (.iadd, 1) := by decide +kernel
theorem dX1_develop_191 : decode cX1_develop 191 = .ok (.invokestatic 47, 3) := by decide +kernel
theorem dX1_develop_194 : decode cX1_develop 194 = .ok (.aload_n 0, 1) := by decide +kernel
theorem dX1_develop_195 : decode cX1_develop 195 = .ok (.aload_n 1, 1) := by decide +kernel
theorem dX1_develop_196 : decode cX1_develop 196 = .ok (.getfield 51, 3) := by decide +kernel
theorem dX1_develop_199 : decode cX1_develop 199 = .ok (.aload_n 2, 1) := by decide +kernel
theorem dX1_develop_200 : decode cX1_develop 200 = .ok (.aload 7, 2) := by decide +kernel
theorem dX1_develop_202 : decode cX1_develop 202 = .ok (.aload 4, 2) := by decide +kernel
theorem dX1_develop_204 : decode cX1_develop 204 = .ok (.iload 5, 2) := by decide +kernel
theorem dX1_develop_206 : decode cX1_develop 206 = .ok (.iload 6, 2) := by decide +kernel
theorem dX1_develop_208 : decode cX1_develop 208 = .ok (.iconst 1, 1) := by decide +kernel
theorem dX1_develop_209 : decode cX1_develop 209 = .ok (.iadd, 1) := by decide +kernel
theorem dX1_develop_210 : decode cX1_develop 210 = .ok (.invokestatic 47, 3) := by decide +kernel
theorem dX1_develop_213 : decode cX1_develop 213 = .ok (.aload 7, 2) := by decide +kernel
theorem dX1_develop_215 : decode cX1_develop 215 = .ok (.aload_n 3, 1) := by decide +kernel
theorem dX1_develop_216 : decode cX1_develop 216 = .ok (.invokestatic 65, 3) := by decide +kernel
theorem dX1_develop_219 : decode cX1_develop 219 = .ok (.goto 9, 3) := by decide +kernel
theorem dX1_develop_222 : decode cX1_develop 222 = .ok (.aload_n 1, 1) := by decide +kernel
theorem dX1_develop_223 : decode cX1_develop 223 = .ok (.aload_n 2, 1) := by decide +kernel
theorem dX1_develop_224 : decode cX1_develop 224 = .ok (.aload_n 3, 1) := by decide +kernel
theorem dX1_develop_225 : decode cX1_develop 225 = .ok (.invokestatic 69, 3) := by decide +kernel
theorem dX1_develop_228 : decode cX1_develop 228 = .ok (.return_, 1) := by decide +kernel
theorem dX1_developEach_0 : decode cX1_developEach 0 = .ok (.iconst 0, 1) := by decide +kernel
theorem dX1_developEach_1 : decode cX1_developEach 1 = .ok (.istore_n 3, 1) := by decide +kernel
theorem dX1_developEach_2 : decode cX1_developEach 2 = .ok (.iload_n 3, 1) := by decide +kernel
theorem dX1_developEach_3 : decode cX1_developEach 3 = .ok (.aload_n 1, 1) := by decide +kernel
theorem dX1_developEach_4 : decode cX1_developEach 4 = .ok (.invokevirtual 73, 3) := by decide +kernel
theorem dX1_developEach_7 : decode cX1_developEach 7 = .ok (.if_icmp .ge 24, 3) := by decide +kernel
theorem dX1_developEach_10 : decode cX1_developEach 10 = .ok (.aload_n 2, 1) := by decide +kernel
theorem dX1_developEach_11 : decode cX1_developEach 11 = .ok (.iload_n 3, 1) := by decide +kernel
theorem dX1_developEach_12 : decode cX1_developEach 12 = .ok (.aload_n 0, 1) := by decide +kernel
theorem dX1_developEach_13 : decode cX1_developEach 13 = .ok (.aload_n 1, 1) := by decide +kernel
theorem dX1_developEach_14 : decode cX1_developEach 14 = .ok (.aload_n 1, 1) := by decide +kernel
theorem dX1_developEach_15 : decode cX1_developEach 15 = .ok (.iload_n 3, 1) := by decide +kernel
theorem dX1_developEach_16 : decode cX1_developEach 16 = .ok (.invokevirtual 77, 3) := by decide +kernel
theorem dX1_developEach_19 : decode cX1_developEach 19 = .ok (.invokestatic 81, 3) := by decide +kernel
theorem dX1_developEach_22 : decode cX1_developEach 22 = .ok (.invokevirtual 85, 3) := by decide +kernel
theorem dX1_developEach_25 : decode cX1_developEach 25 = .ok (.iinc 3 1, 3) := by decide +kernel
theorem dX1_developEach_28 : decode cX1_developEach 28 = .ok (.goto (-26), 3) := by decide +kernel
theorem dX1_developEach_31 : decode cX1_developEach 31 = .ok (.return_, 1) := by decide +kernel
theorem dX1_madeOf_0 : decode cX1_madeOf 0 = .ok (.aload_n 0, 1) := by decide +kernel
theorem dX1_madeOf_1 : decode cX1_madeOf 1 = .ok (.getfield 36, 3) := by decide +kernel
theorem dX1_madeOf_4 : decode cX1_madeOf 4 = .ok (.tableswitch 98 0 3 #[32, 45, 57, 77], 32) := by decide +kernel
theorem dX1_madeOf_36 : decode cX1_madeOf 36 = .ok (.aload_n 1, 1) := by decide +kernel
theorem dX1_madeOf_37 : decode cX1_madeOf 37 = .ok (.iload_n 2, 1) := by decide +kernel
theorem dX1_madeOf_38 : decode cX1_madeOf 38 = .ok (.i2l, 1) := by decide +kernel
theorem dX1_madeOf_39 : decode cX1_madeOf 39 = .ok (.aload_n 0, 1) := by decide +kernel
theorem dX1_madeOf_40 : decode cX1_madeOf 40 = .ok (.getfield 54, 3) := by decide +kernel
theorem dX1_madeOf_43 : decode cX1_madeOf 43 = .ok (.i2l, 1) := by decide +kernel
theorem dX1_madeOf_44 : decode cX1_madeOf 44 = .ok (.ladd, 1) := by decide +kernel
theorem dX1_madeOf_45 : decode cX1_madeOf 45 = .ok (.invokevirtual 89, 3) := by decide +kernel
theorem dX1_madeOf_48 : decode cX1_madeOf 48 = .ok (.ireturn, 1) := by decide +kernel
theorem dX1_madeOf_49 : decode cX1_madeOf 49 = .ok (.aload_n 1, 1) := by decide +kernel
theorem dX1_madeOf_50 : decode cX1_madeOf 50 = .ok (.invokevirtual 93, 3) := by decide +kernel
theorem dX1_madeOf_53 : decode cX1_madeOf 53 = .ok (.aload_n 1, 1) := by decide +kernel
theorem dX1_madeOf_54 : decode cX1_madeOf 54 = .ok (.invokevirtual 96, 3) := by decide +kernel
theorem dX1_madeOf_57 : decode cX1_madeOf 57 = .ok (.iadd, 1) := by decide +kernel
theorem dX1_madeOf_58 : decode cX1_madeOf 58 = .ok (.iload_n 2, 1) := by decide +kernel
theorem dX1_madeOf_59 : decode cX1_madeOf 59 = .ok (.isub, 1) := by decide +kernel
theorem dX1_madeOf_60 : decode cX1_madeOf 60 = .ok (.ireturn, 1) := by decide +kernel
theorem dX1_madeOf_61 : decode cX1_madeOf 61 = .ok (.iload_n 2, 1) := by decide +kernel
theorem dX1_madeOf_62 : decode cX1_madeOf 62 = .ok (.aload_n 0, 1) := by decide +kernel
theorem dX1_madeOf_63 : decode cX1_madeOf 63 = .ok (.getfield 54, 3) := by decide +kernel
theorem dX1_madeOf_66 : decode cX1_madeOf 66 = .ok (.if_icmp .lt 10, 3) := by decide +kernel
theorem dX1_madeOf_69 : decode cX1_madeOf 69 = .ok (.aload_n 1, 1) := by decide +kernel
theorem dX1_madeOf_70 : decode cX1_madeOf 70 = .ok (.invokevirtual 96, 3) := by decide +kernel
theorem dX1_madeOf_73 : decode cX1_madeOf 73 = .ok (.goto 7, 3) := by decide +kernel
theorem dX1_madeOf_76 : decode cX1_madeOf 76 = .ok (.aload_n 1, 1) := by decide +kernel
theorem dX1_madeOf_77 : decode cX1_madeOf 77 = .ok (.invokevirtual 93, 3) := by decide +kernel
theorem dX1_madeOf_80 : decode cX1_madeOf 80 = .ok (.ireturn, 1) := by decide +kernel
theorem dX1_madeOf_81 : decode cX1_madeOf 81 = .ok (.aload_n 1, 1) := by decide +kernel
theorem dX1_madeOf_82 : decode cX1_madeOf 82 = .ok (.iload_n 2, 1) := by decide +kernel
theorem dX1_madeOf_83 : decode cX1_madeOf 83 = .ok (.i2l, 1) := by decide +kernel
theorem dX1_madeOf_84 : decode cX1_madeOf 84 = .ok (.aload_n 0, 1) := by decide +kernel
theorem dX1_madeOf_85 : decode cX1_madeOf 85 = .ok (.getfield 54, 3) := by decide +kernel
theorem dX1_madeOf_88 : decode cX1_madeOf 88 = .ok (.i2l, 1) := by decide +kernel
theorem dX1_madeOf_89 : decode cX1_madeOf 89 = .ok (.lmul, 1) := by decide +kernel
theorem dX1_madeOf_90 : decode cX1_madeOf 90 = .ok (.aload_n 0, 1) := by decide +kernel
theorem dX1_madeOf_91 : decode cX1_madeOf 91 = .ok (.getfield 99, 3) := by decide +kernel
theorem dX1_madeOf_94 : decode cX1_madeOf 94 = .ok (.i2l, 1) := by decide +kernel
theorem dX1_madeOf_95 : decode cX1_madeOf 95 = .ok (.invokestatic 102, 3) := by decide +kernel
theorem dX1_madeOf_98 : decode cX1_madeOf 98 = .ok (.invokevirtual 89, 3) := by decide +kernel
theorem dX1_madeOf_101 : decode cX1_madeOf 101 = .ok (.ireturn, 1) := by decide +kernel
theorem dX1_madeOf_102 : decode cX1_madeOf 102 = .ok (.iload_n 2, 1) := by decide +kernel
theorem dX1_madeOf_103 : decode cX1_madeOf 103 = .ok (.ireturn, 1) := by decide +kernel
theorem dX1_developAround_0 : decode cX1_developAround 0 = .ok (.iconst 0, 1) := by decide +kernel
theorem dX1_developAround_1 : decode cX1_developAround 1 = .ok (.istore 5, 2) := by decide +kernel
theorem dX1_developAround_3 : decode cX1_developAround 3 = .ok (.iload 5, 2) := by decide +kernel
theorem dX1_developAround_5 : decode cX1_developAround 5 = .ok (.aload_n 2, 1) := by decide +kernel
theorem dX1_developAround_6 : decode cX1_developAround 6 = .ok (.getfield 29, 3) := by decide +kernel
theorem dX1_developAround_9 : decode cX1_developAround 9 = .ok (.if_icmp .ge 90, 3) := by decide +kernel
theorem dX1_developAround_12 : decode cX1_developAround 12 = .ok (.iconst 0, 1) := by decide +kernel
theorem dX1_developAround_13 : decode cX1_developAround 13 = .ok (.istore 6, 2) := by decide +kernel
theorem dX1_developAround_15 : decode cX1_developAround 15 = .ok (.iload 6, 2) := by decide +kernel
theorem dX1_developAround_17 : decode cX1_developAround 17 = .ok (.aload_n 2, 1) := by decide +kernel
theorem dX1_developAround_18 : decode cX1_developAround 18 = .ok (.getfield 26, 3) := by decide +kernel
theorem dX1_developAround_21 : decode cX1_developAround 21 = .ok (.if_icmp .ge 72, 3) := by decide +kernel
theorem dX1_developAround_24 : decode cX1_developAround 24 = .ok (.aload_n 0, 1) := by decide +kernel
theorem dX1_developAround_25 : decode cX1_developAround 25 = .ok (.aload_n 2, 1) := by decide +kernel
theorem dX1_developAround_26 : decode cX1_developAround 26 = .ok (.iload 6, 2) := by decide +kernel
theorem dX1_developAround_28 : decode cX1_developAround 28 = .ok (.iload 5, 2) := by decide +kernel
theorem dX1_developAround_30 : decode cX1_developAround 30 = .ok (.iload 4, 2) := by decide +kernel
theorem dX1_developAround_32 : decode cX1_developAround 32 = .ok (.invokevirtual 106, 3) := by decide +kernel
theorem dX1_developAround_35 : decode cX1_developAround 35 = .ok (.aload_n 1, 1) := by decide +kernel
theorem dX1_developAround_36 : decode cX1_developAround 36 = .ok (.getfield 36, 3) := by decide +kernel
theorem dX1_developAround_39 : decode cX1_developAround 39 = .ok (.iconst 4, 1) := by decide +kernel
theorem dX1_developAround_40 : decode cX1_developAround 40 = .ok (.if_icmp .ne 23, 3) := by decide +kernel
theorem dX1_developAround_43 : decode cX1_developAround 43 = .ok (.aload_n 2, 1) := by decide +kernel
theorem dX1_developAround_44 : decode cX1_developAround 44 = .ok (.aload_n 0, 1) := by decide +kernel
theorem dX1_developAround_45 : decode cX1_developAround 45 = .ok (.aload_n 1, 1) := by decide +kernel
theorem dX1_developAround_46 : decode cX1_developAround 46 = .ok (.invokevirtual 110, 3) := by decide +kernel
theorem dX1_developAround_49 : decode cX1_developAround 49 = .ok (.aload_n 1, 1) := by decide +kernel
theorem dX1_developAround_50 : decode cX1_developAround 50 = .ok (.getfield 54, 3) := by decide +kernel
theorem dX1_developAround_53 : decode cX1_developAround 53 = .ok (.i2l, 1) := by decide +kernel
theorem dX1_developAround_54 : decode cX1_developAround 54 = .ok (.invokestatic 102, 3) := by decide +kernel
theorem dX1_developAround_57 : decode cX1_developAround 57 = .ok (.invokevirtual 89, 3) := by decide +kernel
theorem dX1_developAround_60 : decode cX1_developAround 60 = .ok (.goto 11, 3) := by decide +kernel
theorem dX1_developAround_63 : decode cX1_developAround 63 = .ok (.aload_n 0, 1) := by decide +kernel
theorem dX1_developAround_64 : decode cX1_developAround 64 = .ok (.aload_n 1, 1) := by decide +kernel
theorem dX1_developAround_65 : decode cX1_developAround 65 = .ok (.getfield 54, 3) := by decide +kernel
theorem dX1_developAround_68 : decode cX1_developAround 68 = .ok (.invokevirtual 114, 3) := by decide +kernel
theorem dX1_developAround_71 : decode cX1_developAround 71 = .ok (.istore 7, 2) := by decide +kernel
theorem dX1_developAround_73 : decode cX1_developAround 73 = .ok (.aload_n 3, 1) := by decide +kernel
theorem dX1_developAround_74 : decode cX1_developAround 74 = .ok (.aload_n 3, 1) := by decide +kernel
theorem dX1_developAround_75 : decode cX1_developAround 75 = .ok (.iload 6, 2) := by decide +kernel
theorem dX1_developAround_77 : decode cX1_developAround 77 = .ok (.iload 5, 2) := by decide +kernel
theorem dX1_developAround_79 : decode cX1_developAround 79 = .ok (.invokevirtual 117, 3) := by decide +kernel
theorem dX1_developAround_82 : decode cX1_developAround 82 = .ok (.iload 7, 2) := by decide +kernel
theorem dX1_developAround_84 : decode cX1_developAround 84 = .ok (.invokevirtual 85, 3) := by decide +kernel
theorem dX1_developAround_87 : decode cX1_developAround 87 = .ok (.iinc 6 1, 3) := by decide +kernel
theorem dX1_developAround_90 : decode cX1_developAround 90 = .ok (.goto (-75), 3) := by decide +kernel
theorem dX1_developAround_93 : decode cX1_developAround 93 = .ok (.iinc 5 1, 3) := by decide +kernel
theorem dX1_developAround_96 : decode cX1_developAround 96 = .ok (.goto (-93), 3) := by decide +kernel
theorem dX1_developAround_99 : decode cX1_developAround 99 = .ok (.return_, 1) := by decide +kernel
theorem dX1_gather_0 : decode cX1_gather 0 = .ok (.iconst 0, 1) := by decide +kernel
theorem dX1_gather_1 : decode cX1_gather 1 = .ok (.istore 5, 2) := by decide +kernel
theorem dX1_gather_3 : decode cX1_gather 3 = .ok (.iload 5, 2) := by decide +kernel
theorem dX1_gather_5 : decode cX1_gather 5 = .ok (.bipush 9, 2) := by decide +kernel
theorem dX1_gather_7 : decode cX1_gather 7 = .ok (.if_icmp .ge 38, 3) := by decide +kernel
theorem dX1_gather_10 : decode cX1_gather 10 = .ok (.aload_n 0, 1) := by decide +kernel
theorem dX1_gather_11 : decode cX1_gather 11 = .ok (.getfield 17, 3) := by decide +kernel
theorem dX1_gather_14 : decode cX1_gather 14 = .ok (.iload 5, 2) := by decide +kernel
theorem dX1_gather_16 : decode cX1_gather 16 = .ok (.aload_n 1, 1) := by decide +kernel
theorem dX1_gather_17 : decode cX1_gather 17 = .ok (.iload_n 2, 1) := by decide +kernel
theorem dX1_gather_18 : decode cX1_gather 18 = .ok (.iload 5, 2) := by decide +kernel
theorem dX1_gather_20 : decode cX1_gather 20 = .ok (.iconst 3, 1) := by decide +kernel
theorem dX1_gather_21 : decode cX1_gather 21 = .ok (.irem, 1) := by decide +kernel
theorem dX1_gather_22 : decode cX1_gather 22 = .ok (.iadd, 1) := by decide +kernel
theorem dX1_gather_23 : decode cX1_gather 23 = .ok (.iconst 1, 1) := by decide +kernel
theorem dX1_gather_24 : decode cX1_gather 24 = .ok (.isub, 1) := by decide +kernel
theorem dX1_gather_25 : decode cX1_gather 25 = .ok (.iload_n 3, 1) := by decide +kernel
theorem dX1_gather_26 : decode cX1_gather 26 = .ok (.iload 5, 2) := by decide +kernel
theorem dX1_gather_28 : decode cX1_gather 28 = .ok (.iconst 3, 1) := by decide +kernel
theorem dX1_gather_29 : decode cX1_gather 29 = .ok (.idiv, 1) := by decide +kernel
theorem dX1_gather_30 : decode cX1_gather 30 = .ok (.iadd, 1) := by decide +kernel
theorem dX1_gather_31 : decode cX1_gather 31 = .ok (.iconst 1, 1) := by decide +kernel
theorem dX1_gather_32 : decode cX1_gather 32 = .ok (.isub, 1) := by decide +kernel
theorem dX1_gather_33 : decode cX1_gather 33 = .ok (.iload 4, 2) := by decide +kernel
theorem dX1_gather_35 : decode cX1_gather 35 = .ok (.invokevirtual 121, 3) := by decide +kernel
theorem dX1_gather_38 : decode cX1_gather 38 = .ok (.iastore, 1) := by decide +kernel
theorem dX1_gather_39 : decode cX1_gather 39 = .ok (.iinc 5 1, 3) := by decide +kernel
theorem dX1_gather_42 : decode cX1_gather 42 = .ok (.goto (-39), 3) := by decide +kernel
theorem dX1_gather_45 : decode cX1_gather 45 = .ok (.return_, 1) := by decide +kernel
theorem dX1_weighed_0 : decode cX1_weighed 0 = .ok (.lconst 0, 1) := by decide +kernel
theorem dX1_weighed_1 : decode cX1_weighed 1 = .ok (.lstore_n 2, 1) := by decide +kernel
theorem dX1_weighed_2 : decode cX1_weighed 2 = .ok (.iconst 0, 1) := by decide +kernel
theorem dX1_weighed_3 : decode cX1_weighed 3 = .ok (.istore 4, 2) := by decide +kernel
theorem dX1_weighed_5 : decode cX1_weighed 5 = .ok (.iload 4, 2) := by decide +kernel
theorem dX1_weighed_7 : decode cX1_weighed 7 = .ok (.bipush 9, 2) := by decide +kernel
theorem dX1_weighed_9 : decode cX1_weighed 9 = .ok (.if_icmp .ge 28, 3) := by decide +kernel
theorem dX1_weighed_12 : decode cX1_weighed 12 = .ok (.lload_n 2, 1) := by decide +kernel
theorem dX1_weighed_13 : decode cX1_weighed 13 = .ok (.aload_n 0, 1) := by decide +kernel
theorem dX1_weighed_14 : decode cX1_weighed 14 = .ok (.getfield 17, 3) := by decide +kernel
theorem dX1_weighed_17 : decode cX1_weighed 17 = .ok (.iload 4, 2) := by decide +kernel
theorem dX1_weighed_19 : decode cX1_weighed 19 = .ok (.iaload, 1) := by decide +kernel
theorem dX1_weighed_20 : decode cX1_weighed 20 = .ok (.i2l, 1) := by decide +kernel
theorem dX1_weighed_21 : decode cX1_weighed 21 = .ok (.aload_n 1, 1) := by decide +kernel
theorem dX1_weighed_22 : decode cX1_weighed 22 = .ok (.iload 4, 2) := by decide +kernel
theorem dX1_weighed_24 : decode cX1_weighed 24 = .ok (.invokevirtual 125, 3) := by decide +kernel
theorem dX1_weighed_27 : decode cX1_weighed 27 = .ok (.i2l, 1) := by decide +kernel
theorem dX1_weighed_28 : decode cX1_weighed 28 = .ok (.lmul, 1) := by decide +kernel
theorem dX1_weighed_29 : decode cX1_weighed 29 = .ok (.ladd, 1) := by decide +kernel
theorem dX1_weighed_30 : decode cX1_weighed 30 = .ok (.lstore_n 2, 1) := by decide +kernel
theorem dX1_weighed_31 : decode cX1_weighed 31 = .ok (.iinc 4 1, 3) := by decide +kernel
theorem dX1_weighed_34 : decode cX1_weighed 34 = .ok (.goto (-29), 3) := by decide +kernel
theorem dX1_weighed_37 : decode cX1_weighed 37 = .ok (.lload_n 2, 1) := by decide +kernel
theorem dX1_weighed_38 : decode cX1_weighed 38 = .ok (.lreturn, 1) := by decide +kernel
theorem dX1_ranked_0 : decode cX1_ranked 0 = .ok (.iconst 1, 1) := by decide +kernel
theorem dX1_ranked_1 : decode cX1_ranked 1 = .ok (.istore_n 2, 1) := by decide +kernel
theorem dX1_ranked_2 : decode cX1_ranked 2 = .ok (.iload_n 2, 1) := by decide +kernel
theorem dX1_ranked_3 : decode cX1_ranked 3 = .ok (.bipush 9, 2) := by decide +kernel
theorem dX1_ranked_5 : decode cX1_ranked 5 = .ok (.if_icmp .ge 67, 3) := by decide +kernel
theorem dX1_ranked_8 : decode cX1_ranked 8 = .ok (.aload_n 0, 1) := by decide +kernel
theorem dX1_ranked_9 : decode cX1_ranked 9 = .ok (.getfield 17, 3) := by decide +kernel
theorem dX1_ranked_12 : decode cX1_ranked 12 = .ok (.iload_n 2, 1) := by decide +kernel
theorem dX1_ranked_13 : decode cX1_ranked 13 = .ok (.iaload, 1) := by decide +kernel
theorem dX1_ranked_14 : decode cX1_ranked 14 = .ok (.istore_n 3, 1) := by decide +kernel
theorem dX1_ranked_15 : decode cX1_ranked 15 = .ok (.iload_n 2, 1) := by decide +kernel
theorem dX1_ranked_16 : decode cX1_ranked 16 = .ok (.istore 4, 2) := by decide +kernel
theorem dX1_ranked_18 : decode cX1_ranked 18 = .ok (.iload 4, 2) := by decide +kernel
theorem dX1_ranked_20 : decode cX1_ranked 20 = .ok (.ifCond .le 38, 3) := by decide +kernel
theorem dX1_ranked_23 : decode cX1_ranked 23 = .ok (.aload_n 0, 1) := by decide +kernel
theorem dX1_ranked_24 : decode cX1_ranked 24 = .ok (.getfield 17, 3) := by decide +kernel
theorem dX1_ranked_27 : decode cX1_ranked 27 = .ok (.iload 4, 2) := by decide +kernel
theorem dX1_ranked_29 : decode cX1_ranked 29 = .ok (.iconst 1, 1) := by decide +kernel
theorem dX1_ranked_30 : decode cX1_ranked 30 = .ok (.isub, 1) := by decide +kernel
theorem dX1_ranked_31 : decode cX1_ranked 31 = .ok (.iaload, 1) := by decide +kernel
theorem dX1_ranked_32 : decode cX1_ranked 32 = .ok (.iload_n 3, 1) := by decide +kernel
theorem dX1_ranked_33 : decode cX1_ranked 33 = .ok (.if_icmp .le 25, 3) := by decide +kernel
theorem dX1_ranked_36 : decode cX1_ranked 36 = .ok (.aload_n 0, 1) := by decide +kernel
theorem dX1_ranked_37 : decode cX1_ranked 37 = .ok (.getfield 17, 3) := by decide +kernel
theorem dX1_ranked_40 : decode cX1_ranked 40 = .ok (.iload 4, 2) := by decide +kernel
theorem dX1_ranked_42 : decode cX1_ranked 42 = .ok (.aload_n 0, 1) := by decide +kernel
theorem dX1_ranked_43 : decode cX1_ranked 43 = .ok (.getfield 17, 3) := by decide +kernel
theorem dX1_ranked_46 : decode cX1_ranked 46 = .ok (.iload 4, 2) := by decide +kernel
theorem dX1_ranked_48 : decode cX1_ranked 48 = .ok (.iconst 1, 1) := by decide +kernel
theorem dX1_ranked_49 : decode cX1_ranked 49 = .ok (.isub, 1) := by decide +kernel
theorem dX1_ranked_50 : decode cX1_ranked 50 = .ok (.iaload, 1) := by decide +kernel
theorem dX1_ranked_51 : decode cX1_ranked 51 = .ok (.iastore, 1) := by decide +kernel
theorem dX1_ranked_52 : decode cX1_ranked 52 = .ok (.iinc 4 (-1), 3) := by decide +kernel
theorem dX1_ranked_55 : decode cX1_ranked 55 = .ok (.goto (-37), 3) := by decide +kernel
theorem dX1_ranked_58 : decode cX1_ranked 58 = .ok (.aload_n 0, 1) := by decide +kernel
theorem dX1_ranked_59 : decode cX1_ranked 59 = .ok (.getfield 17, 3) := by decide +kernel
theorem dX1_ranked_62 : decode cX1_ranked 62 = .ok (.iload 4, 2) := by decide +kernel
theorem dX1_ranked_64 : decode cX1_ranked 64 = .ok (.iload_n 3, 1) := by decide +kernel
theorem dX1_ranked_65 : decode cX1_ranked 65 = .ok (.iastore, 1) := by decide +kernel
theorem dX1_ranked_66 : decode cX1_ranked 66 = .ok (.iinc 2 1, 3) := by decide +kernel
theorem dX1_ranked_69 : decode cX1_ranked 69 = .ok (.goto (-67), 3) := by decide +kernel
theorem dX1_ranked_72 : decode cX1_ranked 72 = .ok (.iload_n 1, 1) := by decide +kernel
theorem dX1_ranked_73 : decode cX1_ranked 73 = .ok (.ifCond .lt 18, 3) := by decide +kernel
theorem dX1_ranked_76 : decode cX1_ranked 76 = .ok (.iload_n 1, 1) := by decide +kernel
theorem dX1_ranked_77 : decode cX1_ranked 77 = .ok (.bipush 9, 2) := by decide +kernel
theorem dX1_ranked_79 : decode cX1_ranked 79 = .ok (.if_icmp .ge 12, 3) := by decide +kernel
theorem dX1_ranked_82 : decode cX1_ranked 82 = .ok (.aload_n 0, 1) := by decide +kernel
theorem dX1_ranked_83 : decode cX1_ranked 83 = .ok (.getfield 17, 3) := by decide +kernel
theorem dX1_ranked_86 : decode cX1_ranked 86 = .ok (.iload_n 1, 1) := by decide +kernel
theorem dX1_ranked_87 : decode cX1_ranked 87 = .ok (.iaload, 1) := by decide +kernel
theorem dX1_ranked_88 : decode cX1_ranked 88 = .ok (.goto 4, 3) := by decide +kernel
theorem dX1_ranked_91 : decode cX1_ranked 91 = .ok (.iconst 0, 1) := by decide +kernel
theorem dX1_ranked_92 : decode cX1_ranked 92 = .ok (.ireturn, 1) := by decide +kernel
theorem dX1_restoreUnlit_0 : decode cX1_restoreUnlit 0 = .ok (.iconst 0, 1) := by decide +kernel
theorem dX1_restoreUnlit_1 : decode cX1_restoreUnlit 1 = .ok (.istore_n 3, 1) := by decide +kernel
theorem dX1_restoreUnlit_2 : decode cX1_restoreUnlit 2 = .ok (.iload_n 3, 1) := by decide +kernel
theorem dX1_restoreUnlit_3 : decode cX1_restoreUnlit 3 = .ok (.aload_n 1, 1) := by decide +kernel
theorem dX1_restoreUnlit_4 : decode cX1_restoreUnlit 4 = .ok (.getfield 29, 3) := by decide +kernel
theorem dX1_restoreUnlit_7 : decode cX1_restoreUnlit 7 = .ok (.if_icmp .ge 59, 3) := by decide +kernel
theorem dX1_restoreUnlit_10 : decode cX1_restoreUnlit 10 = .ok (.iconst 0, 1) := by decide +kernel
theorem dX1_restoreUnlit_11 : decode cX1_restoreUnlit 11 = .ok (.istore 4, 2) := by decide +kernel
theorem dX1_restoreUnlit_13 : decode cX1_restoreUnlit 13 = .ok (.iload 4, 2) := by decide +kernel
theorem dX1_restoreUnlit_15 : decode cX1_restoreUnlit 15 = .ok (.aload_n 1, 1) := by decide +kernel
theorem dX1_restoreUnlit_16 : decode cX1_restoreUnlit 16 = .ok (.getfield 26, 3) := by decide +kernel
theorem dX1_restoreUnlit_19 : decode cX1_restoreUnlit 19 = .ok (.if_icmp .ge 41, 3) := by decide +kernel
theorem dX1_restoreUnlit_22 : decode cX1_restoreUnlit 22 = .ok (.aload_n 0, 1) := by decide +kernel
theorem dX1_restoreUnlit_23 : decode cX1_restoreUnlit 23 = .ok (.iload 4, 2) := by decide +kernel
theorem dX1_restoreUnlit_25 : decode cX1_restoreUnlit 25 = .ok (.iload_n 3, 1) := by decide +kernel
theorem dX1_restoreUnlit_26 : decode cX1_restoreUnlit 26 = .ok (.invokevirtual 128, 3) := by decide +kernel
theorem dX1_restoreUnlit_29 : decode cX1_restoreUnlit 29 = .ok (.ifCond .ne 25, 3) := by decide +kernel
theorem dX1_restoreUnlit_32 : decode cX1_restoreUnlit 32 = .ok (.aload_n 2, 1) := by decide +kernel
theorem dX1_restoreUnlit_33 : decode cX1_restoreUnlit 33 = .ok (.aload_n 2, 1) := by decide +kernel
theorem dX1_restoreUnlit_34 : decode cX1_restoreUnlit 34 = .ok (.iload 4, 2) := by decide +kernel
theorem dX1_restoreUnlit_36 : decode cX1_restoreUnlit 36 = .ok (.iload_n 3, 1) := by decide +kernel
theorem dX1_restoreUnlit_37 : decode cX1_restoreUnlit 37 = .ok (.invokevirtual 117, 3) := by decide +kernel
theorem dX1_restoreUnlit_40 : decode cX1_restoreUnlit 40 = .ok (.aload_n 1, 1) := by decide +kernel
theorem dX1_restoreUnlit_41 : decode cX1_restoreUnlit 41 = .ok (.aload_n 1, 1) := by decide +kernel
theorem dX1_restoreUnlit_42 : decode cX1_restoreUnlit 42 = .ok (.iload 4, 2) := by decide +kernel
theorem dX1_restoreUnlit_44 : decode cX1_restoreUnlit 44 = .ok (.iload_n 3, 1) := by decide +kernel
theorem dX1_restoreUnlit_45 : decode cX1_restoreUnlit 45 = .ok (.invokevirtual 117, 3) := by decide +kernel
theorem dX1_restoreUnlit_48 : decode cX1_restoreUnlit 48 = .ok (.invokevirtual 77, 3) := by decide +kernel
theorem dX1_restoreUnlit_51 : decode cX1_restoreUnlit 51 = .ok (.invokevirtual 85, 3) := by decide +kernel
theorem dX1_restoreUnlit_54 : decode cX1_restoreUnlit 54 = .ok (.iinc 4 1, 3) := by decide +kernel
theorem dX1_restoreUnlit_57 : decode cX1_restoreUnlit 57 = .ok (.goto (-44), 3) := by decide +kernel
theorem dX1_restoreUnlit_60 : decode cX1_restoreUnlit 60 = .ok (.iinc 3 1, 3) := by decide +kernel
theorem dX1_restoreUnlit_63 : decode cX1_restoreUnlit 63 = .ok (.goto (-61), 3) := by decide +kernel
theorem dX1_restoreUnlit_66 : decode cX1_restoreUnlit 66 = .ok (.return_, 1) := by decide +kernel
theorem dX1_halve_0 : decode cX1_halve 0 = .ok (.iconst 0, 1) := by decide +kernel
theorem dX1_halve_1 : decode cX1_halve 1 = .ok (.istore_n 2, 1) := by decide +kernel
theorem dX1_halve_2 : decode cX1_halve 2 = .ok (.iload_n 2, 1) := by decide +kernel
theorem dX1_halve_3 : decode cX1_halve 3 = .ok (.aload_n 1, 1) := by decide +kernel
theorem dX1_halve_4 : decode cX1_halve 4 = .ok (.invokevirtual 73, 3) := by decide +kernel
theorem dX1_halve_7 : decode cX1_halve 7 = .ok (.if_icmp .ge 27, 3) := by decide +kernel
theorem dX1_halve_10 : decode cX1_halve 10 = .ok (.aload_n 1, 1) := by decide +kernel
theorem dX1_halve_11 : decode cX1_halve 11 = .ok (.iload_n 2, 1) := by decide +kernel
theorem dX1_halve_12 : decode cX1_halve 12 = .ok (.aload_n 1, 1) := by decide +kernel
theorem dX1_halve_13 : decode cX1_halve 13 = .ok (.iload_n 2, 1) := by decide +kernel
theorem dX1_halve_14 : decode cX1_halve 14 = .ok (.invokevirtual 77, 3) := by decide +kernel
theorem dX1_halve_17 : decode cX1_halve 17 = .ok (.aload_n 0, 1) := by decide +kernel
theorem dX1_halve_18 : decode cX1_halve 18 = .ok (.iload_n 2, 1) := by decide +kernel
theorem dX1_halve_19 : decode cX1_halve 19 = .ok (.invokevirtual 77, 3) := by decide +kernel
theorem dX1_halve_22 : decode cX1_halve 22 = .ok (.iadd, 1) := by decide +kernel
theorem dX1_halve_23 : decode cX1_halve 23 = .ok (.iconst 1, 1) := by decide +kernel
theorem dX1_halve_24 : decode cX1_halve 24 = .ok (.ishr, 1) := by decide +kernel
theorem dX1_halve_25 : decode cX1_halve 25 = .ok (.invokevirtual 85, 3) := by decide +kernel
theorem dX1_halve_28 : decode cX1_halve 28 = .ok (.iinc 2 1, 3) := by decide +kernel
theorem dX1_halve_31 : decode cX1_halve 31 = .ok (.goto (-29), 3) := by decide +kernel
theorem dX1_halve_34 : decode cX1_halve 34 = .ok (.return_, 1) := by decide +kernel
theorem dX2_init_0 : decode cX2_init 0 = .ok (.aload_n 0, 1) := by decide +kernel
theorem dX2_init_1 : decode cX2_init 1 = .ok (.invokespecial 3, 3) := by decide +kernel
theorem dX2_init_4 : decode cX2_init 4 = .ok (.aload_n 0, 1) := by decide +kernel
theorem dX2_init_5 : decode cX2_init 5 = .ok (.iload_n 1, 1) := by decide +kernel
theorem dX2_init_6 : decode cX2_init 6 = .ok (.putfield 9, 3) := by decide +kernel
theorem dX2_init_9 : decode cX2_init 9 = .ok (.aload_n 0, 1) := by decide +kernel
theorem dX2_init_10 : decode cX2_init 10 = .ok (.iload_n 2, 1) := by decide +kernel
theorem dX2_init_11 : decode cX2_init 11 = .ok (.putfield 15, 3) := by decide +kernel
theorem dX2_init_14 : decode cX2_init 14 = .ok (.aload_n 0, 1) := by decide +kernel
theorem dX2_init_15 : decode cX2_init 15 = .ok (.iload_n 3, 1) := by decide +kernel
theorem dX2_init_16 : decode cX2_init 16 = .ok (.putfield 18, 3) := by decide +kernel
theorem dX2_init_19 : decode cX2_init 19 = .ok (.aload_n 0, 1) := by decide +kernel
theorem dX2_init_20 : decode cX2_init 20 = .ok (.iload 4, 2) := by decide +kernel
theorem dX2_init_22 : decode cX2_init 22 = .ok (.putfield 21, 3) := by decide +kernel
theorem dX2_init_25 : decode cX2_init 25 = .ok (.aload_n 0, 1) := by decide +kernel
theorem dX2_init_26 : decode cX2_init 26 = .ok (.aload 5, 2) := by decide +kernel
theorem dX2_init_28 : decode cX2_init 28 = .ok (.putfield 24, 3) := by decide +kernel
theorem dX2_init_31 : decode cX2_init 31 = .ok (.aload_n 0, 1) := by decide +kernel
theorem dX2_init_32 : decode cX2_init 32 = .ok (.aload 6, 2) := by decide +kernel
theorem dX2_init_34 : decode cX2_init 34 = .ok (.putfield 28, 3) := by decide +kernel
theorem dX2_init_37 : decode cX2_init 37 = .ok (.aload_n 0, 1) := by decide +kernel
theorem dX2_init_38 : decode cX2_init 38 = .ok (.iload_n 1, 1) := by decide +kernel
theorem dX2_init_39 : decode cX2_init 39 = .ok (.iconst 4, 1) := by decide +kernel
theorem dX2_init_40 : decode cX2_init 40 = .ok (.if_icmp .ne 8, 3) := by decide +kernel
theorem dX2_init_43 : decode cX2_init 43 = .ok (.bipush 9, 2) := by decide +kernel
theorem dX2_init_45 : decode cX2_init 45 = .ok (.goto 4, 3) := by decide +kernel
theorem dX2_init_48 : decode cX2_init 48 = .ok (.iconst 0, 1) := by decide +kernel
theorem dX2_init_49 : decode cX2_init 49 = .ok (.newarray .int, 2) := by decide +kernel
theorem dX2_init_51 : decode cX2_init 51 = .ok (.putfield 31, 3) := by decide +kernel
theorem dX2_init_54 : decode cX2_init 54 = .ok (.return_, 1) := by decide +kernel
theorem dX2_weightAt_0 : decode cX2_weightAt 0 = .ok (.iload_n 1, 1) := by decide +kernel
theorem dX2_weightAt_1 : decode cX2_weightAt 1 = .ok (.ifCond .lt 21, 3) := by decide +kernel
theorem dX2_weightAt_4 : decode cX2_weightAt 4 = .ok (.iload_n 1, 1) := by decide +kernel
theorem dX2_weightAt_5 : decode cX2_weightAt 5 = .ok (.aload_n 0, 1) := by decide +kernel
theorem dX2_weightAt_6 : decode cX2_weightAt 6 = .ok (.getfield 31, 3) := by decide +kernel
theorem dX2_weightAt_9 : decode cX2_weightAt 9 = .ok (.arraylength, 1) := by decide +kernel
theorem dX2_weightAt_10 : decode cX2_weightAt 10 = .ok (.if_icmp .ge 12, 3) := by decide +kernel
theorem dX2_weightAt_13 : decode cX2_weightAt 13 = .ok (.aload_n 0, 1) := by decide +kernel
theorem dX2_weightAt_14 : decode cX2_weightAt 14 = .ok (.getfield 31, 3) := by decide +kernel
theorem dX2_weightAt_17 : decode cX2_weightAt 17 = .ok (.iload_n 1, 1) := by decide +kernel
theorem dX2_weightAt_18 : decode cX2_weightAt 18 = .ok (.iaload, 1) := by decide +kernel
theorem dX2_weightAt_19 : decode cX2_weightAt 19 = .ok (.goto 4, 3) := by decide +kernel
theorem dX2_weightAt_22 : decode cX2_weightAt 22 = .ok (.iconst 0, 1) := by decide +kernel
theorem dX2_weightAt_23 : decode cX2_weightAt 23 = .ok (.ireturn, 1) := by decide +kernel
theorem dX2_weigh_0 : decode cX2_weigh 0 = .ok (.iload_n 1, 1) := by decide +kernel
theorem dX2_weigh_1 : decode cX2_weigh 1 = .ok (.ifCond .lt 19, 3) := by decide +kernel
theorem dX2_weigh_4 : decode cX2_weigh 4 = .ok (.iload_n 1, 1) := by decide +kernel
theorem dX2_weigh_5 : decode cX2_weigh 5 = .ok (.aload_n 0, 1) := by decide +kernel
theorem dX2_weigh_6 : decode cX2_weigh 6 = .ok (.getfield 31, 3) := by decide +kernel
theorem dX2_weigh_9 : decode cX2_weigh 9 = .ok (.arraylength, 1) := by decide +kernel
theorem dX2_weigh_10 : decode cX2_weigh 10 = .ok (.if_icmp .ge 10, 3) := by decide +kernel
theorem dX2_weigh_13 : decode cX2_weigh 13 = .ok (.aload_n 0, 1) := by decide +kernel
theorem dX2_weigh_14 : decode cX2_weigh 14 = .ok (.getfield 31, 3) := by decide +kernel
theorem dX2_weigh_17 : decode cX2_weigh 17 = .ok (.iload_n 1, 1) := by decide +kernel
theorem dX2_weigh_18 : decode cX2_weigh 18 = .ok (.iload_n 2, 1) := by decide +kernel
theorem dX2_weigh_19 : decode cX2_weigh 19 = .ok (.iastore, 1) := by decide +kernel
theorem dX2_weigh_20 : decode cX2_weigh 20 = .ok (.return_, 1) := by decide +kernel
theorem dX3_init_0 : decode cX3_init 0 = .ok (.aload_n 0, 1) := by decide +kernel
theorem dX3_init_1 : decode cX3_init 1 = .ok (.invokespecial 3, 3) := by decide +kernel
theorem dX3_init_4 : decode cX3_init 4 = .ok (.aload_n 0, 1) := by decide +kernel
theorem dX3_init_5 : decode cX3_init 5 = .ok (.sipush 256, 3) := by decide +kernel
theorem dX3_init_8 : decode cX3_init 8 = .ok (.newarray .int, 2) := by decide +kernel
theorem dX3_init_10 : decode cX3_init 10 = .ok (.putfield 9, 3) := by decide +kernel
theorem dX3_init_13 : decode cX3_init 13 = .ok (.aload_n 0, 1) := by decide +kernel
theorem dX3_init_14 : decode cX3_init 14 = .ok (.sipush 256, 3) := by decide +kernel
theorem dX3_init_17 : decode cX3_init 17 = .ok (.newarray .boolean, 2) := by decide +kernel
theorem dX3_init_19 : decode cX3_init 19 = .ok (.putfield 15, 3) := by decide +kernel
theorem dX3_init_22 : decode cX3_init 22 = .ok (.aload_n 0, 1) := by decide +kernel
theorem dX3_init_23 : decode cX3_init 23 = .ok (.iconst 0, 1) := by decide +kernel
theorem dX3_init_24 : decode cX3_init 24 = .ok (.putfield 19, 3) := by decide +kernel
theorem dX3_init_27 : decode cX3_init 27 = .ok (.return_, 1) := by decide +kernel
theorem dX3_placeAt_0 : decode cX3_placeAt 0 = .ok (.iload_n 1, 1) := by decide +kernel
theorem dX3_placeAt_1 : decode cX3_placeAt 1 = .ok (.ifCond .lt 19, 3) := by decide +kernel
theorem dX3_placeAt_4 : decode cX3_placeAt 4 = .ok (.iload_n 1, 1) := by decide +kernel
theorem dX3_placeAt_5 : decode cX3_placeAt 5 = .ok (.sipush 256, 3) := by decide +kernel
theorem dX3_placeAt_8 : decode cX3_placeAt 8 = .ok (.if_icmp .ge 12, 3) := by decide +kernel
theorem dX3_placeAt_11 : decode cX3_placeAt 11 = .ok (.aload_n 0, 1) := by decide +kernel
theorem dX3_placeAt_12 : decode cX3_placeAt 12 = .ok (.getfield 9, 3) := by decide +kernel
theorem dX3_placeAt_15 : decode cX3_placeAt 15 = .ok (.iload_n 1, 1) := by decide +kernel
theorem dX3_placeAt_16 : decode cX3_placeAt 16 = .ok (.iaload, 1) := by decide +kernel
theorem dX3_placeAt_17 : decode cX3_placeAt 17 = .ok (.goto 4, 3) := by decide +kernel
theorem dX3_placeAt_20 : decode cX3_placeAt 20 = .ok (.iconst 0, 1) := by decide +kernel
theorem dX3_placeAt_21 : decode cX3_placeAt 21 = .ok (.ireturn, 1) := by decide +kernel
theorem dX3_pour_0 : decode cX3_pour 0 = .ok (.iconst 0, 1) := by decide +kernel
theorem dX3_pour_1 : decode cX3_pour 1 = .ok (.istore 5, 2) := by decide +kernel
theorem dX3_pour_3 : decode cX3_pour 3 = .ok (.iload 5, 2) := by decide +kernel
theorem dX3_pour_5 : decode cX3_pour 5 = .ok (.sipush 256, 3) := by decide +kernel
theorem dX3_pour_8 : decode cX3_pour 8 = .ok (.if_icmp .ge 17, 3) := by decide +kernel
theorem dX3_pour_11 : decode cX3_pour 11 = .ok (.aload_n 0, 1) := by decide +kernel
theorem dX3_pour_12 : decode cX3_pour 12 = .ok (.getfield 15, 3) := by decide +kernel
theorem dX3_pour_15 : decode cX3_pour 15 = .ok (.iload 5, 2) := by decide +kernel
theorem dX3_pour_17 : decode cX3_pour 17 = .ok (.iconst 0, 1) := by decide +kernel
theorem dX3_pour_18 : decode cX3_pour 18 = .ok (.bastore, 1) := by decide +kernel
theorem dX3_pour_19 : decode cX3_pour 19 = .ok (.iinc 5 1, 3) := by decide +kernel
theorem dX3_pour_22 : decode cX3_pour 22 = .ok (.goto (-19), 3) := by decide +kernel
theorem dX3_pour_25 : decode cX3_pour 25 = .ok (.aload_n 0, 1) := by decide +kernel
theorem dX3_pour_26 : decode cX3_pour 26 = .ok (.iconst 0, 1) := by decide +kernel
theorem dX3_pour_27 : decode cX3_pour 27 = .ok (.putfield 19, 3) := by decide +kernel
theorem dX3_pour_30 : decode cX3_pour 30 = .ok (.aload_n 1, 1) := by decide +kernel
theorem dX3_pour_31 : decode cX3_pour 31 = .ok (.aload_n 1, 1) := by decide +kernel
theorem dX3_pour_32 : decode cX3_pour 32 = .ok (.iload_n 2, 1) := by decide +kernel
theorem dX3_pour_33 : decode cX3_pour 33 = .ok (.iload_n 3, 1) := by decide +kernel
theorem dX3_pour_34 : decode cX3_pour 34 = .ok (.invokevirtual 23, 3) := by decide +kernel
theorem dX3_pour_37 : decode cX3_pour 37 = .ok (.invokevirtual 29, 3) := by decide +kernel
theorem dX3_pour_40 : decode cX3_pour 40 = .ok (.istore 5, 2) := by decide +kernel
theorem dX3_pour_42 : decode cX3_pour 42 = .ok (.aload_n 0, 1) := by decide +kernel
theorem dX3_pour_43 : decode cX3_pour 43 = .ok (.aload_n 1, 1) := by decide +kernel
theorem dX3_pour_44 : decode cX3_pour 44 = .ok (.iload_n 2, 1) := by decide +kernel
theorem dX3_pour_45 : decode cX3_pour 45 = .ok (.iload_n 3, 1) := by decide +kernel
theorem dX3_pour_46 : decode cX3_pour 46 = .ok (.iload 5, 2) := by decide +kernel
theorem dX3_pour_48 : decode cX3_pour 48 = .ok (.iload 4, 2) := by decide +kernel
theorem dX3_pour_50 : decode cX3_pour 50 = .ok (.invokevirtual 33, 3) := by decide +kernel
theorem dX3_pour_53 : decode cX3_pour 53 = .ok (.iconst 0, 1) := by decide +kernel
theorem dX3_pour_54 : decode cX3_pour 54 = .ok (.istore 6, 2) := by decide +kernel
theorem dX3_pour_56 : decode cX3_pour 56 = .ok (.iload 6, 2) := by decide +kernel
theorem dX3_pour_58 : decode cX3_pour 58 = .ok (.aload_n 0, 1) := by decide +kernel
theorem dX3_pour_59 : decode cX3_pour 59 = .ok (.getfield 19, 3) := by decide +kernel
theorem dX3_pour_62 : decode cX3_pour 62 = .ok (.if_icmp .ge 112, 3) := by decide +kernel
theorem dX3_pour_65 : decode cX3_pour 65 = .ok (.iload 6, 2) := by decide +kernel
theorem dX3_pour_67 : decode cX3_pour 67 = .ok (.sipush 256, 3) := by decide +kernel
theorem dX3_pour_70 : decode cX3_pour 70 = .ok (.if_icmp .ge 104, 3) := by decide +kernel
theorem dX3_pour_73 : decode cX3_pour 73 = .ok (.aload_n 1, 1) := by decide +kernel
theorem dX3_pour_74 : decode cX3_pour 74 = .ok (.getfield 37, 3) := by decide +kernel
theorem dX3_pour_77 : decode cX3_pour 77 = .ok (.ifCond .le 97, 3) := by decide +kernel
theorem dX3_pour_80 : decode cX3_pour 80 = .ok (.aload_n 0, 1) := by decide +kernel
theorem dX3_pour_81 : decode cX3_pour 81 = .ok (.getfield 9, 3) := by decide +kernel
theorem dX3_pour_84 : decode cX3_pour 84 = .ok (.iload 6, 2) := by decide +kernel
theorem dX3_pour_86 : decode cX3_pour 86 = .ok (.iaload, 1) := by decide +kernel
theorem dX3_pour_87 : decode cX3_pour 87 = .ok (.aload_n 1, 1) := by decide +kernel
theorem dX3_pour_88 : decode cX3_pour 88 = .ok (.getfield 37, 3) := by decide +kernel
theorem dX3_pour_91 : decode cX3_pour 91 = .ok (.irem, 1) := by decide +kernel
theorem dX3_pour_92 : decode cX3_pour 92 = .ok (.istore 7, 2) := by decide +kernel
theorem dX3_pour_94 : decode cX3_pour 94 = .ok (.aload_n 0, 1) := by decide +kernel
theorem dX3_pour_95 : decode cX3_pour 95 = .ok (.getfield 9, 3) := by decide +kernel
theorem dX3_pour_98 : decode cX3_pour 98 = .ok (.iload 6, 2) := by decide +kernel
theorem dX3_pour_100 : decode cX3_pour 100 = .ok (.iaload, 1) := by decide +kernel
theorem dX3_pour_101 : decode cX3_pour 101 = .ok (.aload_n 1, 1) := by decide +kernel
theorem dX3_pour_102 : decode cX3_pour 102 = .ok (.getfield 37, 3) := by decide +kernel
theorem dX3_pour_105 : decode cX3_pour 105 = .ok (.idiv, 1) := by decide +kernel
theorem dX3_pour_106 : decode cX3_pour 106 = .ok (.istore 8, 2) := by decide +kernel
theorem dX3_pour_108 : decode cX3_pour 108 = .ok (.aload_n 0, 1) := by decide +kernel
theorem dX3_pour_109 : decode cX3_pour 109 = .ok (.aload_n 1, 1) := by decide +kernel
theorem dX3_pour_110 : decode cX3_pour 110 = .ok (.iload 7, 2) := by decide +kernel
theorem dX3_pour_112 : decode cX3_pour 112 = .ok (.iconst 1, 1) := by decide +kernel
theorem dX3_pour_113 : decode cX3_pour 113 = .ok (.isub, 1) := by decide +kernel
theorem dX3_pour_114 : decode cX3_pour 114 = .ok (.iload 8, 2) := by decide +kernel
theorem dX3_pour_116 : decode cX3_pour 116 = .ok (.iload 5, 2) := by decide +kernel
theorem dX3_pour_118 : decode cX3_pour 118 = .ok (.iload 4, 2) := by decide +kernel
theorem dX3_pour_120 : decode cX3_pour 120 = .ok (.invokevirtual 33, 3) := by decide +kernel
theorem dX3_pour_123 : decode cX3_pour 123 = .ok (.aload_n 0, 1) := by decide +kernel
theorem dX3_pour_124 : decode cX3_pour 124 = .ok (.aload_n 1, 1) := by decide +kernel
theorem dX3_pour_125 : decode cX3_pour 125 = .ok (.iload 7, 2) := by decide +kernel
theorem dX3_pour_127 : decode cX3_pour 127 = .ok (.iconst 1, 1) := by decide +kernel
theorem dX3_pour_128 : decode cX3_pour 128 = .ok (.iadd, 1) := by decide +kernel
theorem dX3_pour_129 : decode cX3_pour 129 = .ok (.iload 8, 2) := by decide +kernel
theorem dX3_pour_131 : decode cX3_pour 131 = .ok (.iload 5, 2) := by decide +kernel
theorem dX3_pour_133 : decode cX3_pour 133 = .ok (.iload 4, 2) := by decide +kernel
theorem dX3_pour_135 : decode cX3_pour 135 = .ok (.invokevirtual 33, 3) := by decide +kernel
theorem dX3_pour_138 : decode cX3_pour 138 = .ok (.aload_n 0, 1) := by decide +kernel
theorem dX3_pour_139 : decode cX3_pour 139 = .ok (.aload_n 1, 1) := by decide +kernel
theorem dX3_pour_140 : decode cX3_pour 140 = .ok (.iload 7, 2) := by decide +kernel
theorem dX3_pour_142 : decode cX3_pour 142 = .ok (.iload 8, 2) := by decide +kernel
theorem dX3_pour_144 : decode cX3_pour 144 = .ok (.iconst 1, 1) := by decide +kernel
theorem dX3_pour_145 : decode cX3_pour 145 = .ok (.isub, 1) := by decide +kernel
theorem dX3_pour_146 : decode cX3_pour 146 = .ok (.iload 5, 2) := by decide +kernel
theorem dX3_pour_148 : decode cX3_pour 148 = .ok (.iload 4, 2) := by decide +kernel
theorem dX3_pour_150 : decode cX3_pour 150 = .ok (.invokevirtual 33, 3) := by decide +kernel
theorem dX3_pour_153 : decode cX3_pour 153 = .ok (.aload_n 0, 1) := by decide +kernel
theorem dX3_pour_154 : decode cX3_pour 154 = .ok (.aload_n 1, 1) := by decide +kernel
theorem dX3_pour_155 : decode cX3_pour 155 = .ok (.iload 7, 2) := by decide +kernel
theorem dX3_pour_157 : decode cX3_pour 157 = .ok (.iload 8, 2) := by decide +kernel
theorem dX3_pour_159 : decode cX3_pour 159 = .ok (.iconst 1, 1) := by decide +kernel
theorem dX3_pour_160 : decode cX3_pour 160 = .ok (.iadd, 1) := by decide +kernel
theorem dX3_pour_161 : decode cX3_pour 161 = .ok (.iload 5, 2) := by decide +kernel
theorem dX3_pour_163 : decode cX3_pour 163 = .ok (.iload 4, 2) := by decide +kernel
theorem dX3_pour_165 : decode cX3_pour 165 = .ok (.invokevirtual 33, 3) := by decide +kernel
theorem dX3_pour_168 : decode cX3_pour 168 = .ok (.iinc 6 1, 3) := by decide +kernel
theorem dX3_pour_171 : decode cX3_pour 171 = .ok (.goto (-115), 3) := by decide +kernel
theorem dX3_pour_174 : decode cX3_pour 174 = .ok (.aload_n 0, 1) := by decide +kernel
theorem dX3_pour_175 : decode cX3_pour 175 = .ok (.getfield 19, 3) := by decide +kernel
theorem dX3_pour_178 : decode cX3_pour 178 = .ok (.ireturn, 1) := by decide +kernel
theorem dX3_reach_0 : decode cX3_reach 0 = .ok (.aload_n 1, 1) := by decide +kernel
theorem dX3_reach_1 : decode cX3_reach 1 = .ok (.iload_n 2, 1) := by decide +kernel
theorem dX3_reach_2 : decode cX3_reach 2 = .ok (.iload_n 3, 1) := by decide +kernel
theorem dX3_reach_3 : decode cX3_reach 3 = .ok (.invokevirtual 40, 3) := by decide +kernel
theorem dX3_reach_6 : decode cX3_reach 6 = .ok (.ifCond .ne 4, 3) := by decide +kernel
theorem dX3_reach_9 : decode cX3_reach 9 = .ok (.return_, 1) := by decide +kernel
theorem dX3_reach_10 : decode cX3_reach 10 = .ok (.aload_n 1, 1) := by decide +kernel
theorem dX3_reach_11 : decode cX3_reach 11 = .ok (.iload_n 2, 1) := by decide +kernel
theorem dX3_reach_12 : decode cX3_reach 12 = .ok (.iload_n 3, 1) := by decide +kernel
theorem dX3_reach_13 : decode cX3_reach 13 = .ok (.invokevirtual 23, 3) := by decide +kernel
theorem dX3_reach_16 : decode cX3_reach 16 = .ok (.istore 6, 2) := by decide +kernel
theorem dX3_reach_18 : decode cX3_reach 18 = .ok (.iload 6, 2) := by decide +kernel
theorem dX3_reach_20 : decode cX3_reach 20 = .ok (.sipush 256, 3) := by decide +kernel
theorem dX3_reach_23 : decode cX3_reach 23 = .ok (.if_icmp .ge 40, 3) := by decide +kernel
theorem dX3_reach_26 : decode cX3_reach 26 = .ok (.aload_n 0, 1) := by decide +kernel
theorem dX3_reach_27 : decode cX3_reach 27 = .ok (.getfield 19, 3) := by decide +kernel
theorem dX3_reach_30 : decode cX3_reach 30 = .ok (.sipush 256, 3) := by decide +kernel
theorem dX3_reach_33 : decode cX3_reach 33 = .ok (.if_icmp .ge 30, 3) := by decide +kernel
theorem dX3_reach_36 : decode cX3_reach 36 = .ok (.aload_n 0, 1) := by decide +kernel
theorem dX3_reach_37 : decode cX3_reach 37 = .ok (.getfield 15, 3) := by decide +kernel
theorem dX3_reach_40 : decode cX3_reach 40 = .ok (.iload 6, 2) := by decide +kernel
theorem dX3_reach_42 : decode cX3_reach 42 = .ok (.baload, 1) := by decide +kernel
theorem dX3_reach_43 : decode cX3_reach 43 = .ok (.ifCond .ne 20, 3) := by decide +kernel
theorem dX3_reach_46 : decode cX3_reach 46 = .ok (.aload_n 1, 1) := by decide +kernel
theorem dX3_reach_47 : decode cX3_reach 47 = .ok (.iload 6, 2) := by decide +kernel
theorem dX3_reach_49 : decode cX3_reach 49 = .ok (.invokevirtual 29, 3) := by decide +kernel
theorem dX3_reach_52 : decode cX3_reach 52 = .ok (.iload 4, 2) := by decide +kernel
theorem dX3_reach_54 : decode cX3_reach 54 = .ok (.isub, 1) := by decide +kernel
theorem dX3_reach_55 : decode cX3_reach 55 = .ok (.invokestatic 44, 3) := by decide +kernel
theorem dX3_reach_58 : decode cX3_reach 58 = .ok (.iload 5, 2) := by decide +kernel
theorem dX3_reach_60 : decode cX3_reach 60 = .ok (.if_icmp .le 4, 3) := by decide +kernel
theorem dX3_reach_63 : decode cX3_reach 63 = .ok (.return_, 1) := by decide +kernel
theorem dX3_reach_64 : decode cX3_reach 64 = .ok (.aload_n 0, 1) := by decide +kernel
theorem dX3_reach_65 : decode cX3_reach 65 = .ok (.getfield 15, 3) := by decide +kernel
theorem dX3_reach_68 : decode cX3_reach 68 = .ok (.iload 6, 2) := by decide +kernel
theorem dX3_reach_70 : decode cX3_reach 70 = .ok (.iconst 1, 1) := by decide +kernel
theorem dX3_reach_71 : decode cX3_reach 71 = .ok (.bastore, 1) := by decide +kernel
theorem dX3_reach_72 : decode cX3_reach 72 = .ok (.aload_n 0, 1) := by decide +kernel
theorem dX3_reach_73 : decode cX3_reach 73 = .ok (.getfield 9, 3) := by decide +kernel
theorem dX3_reach_76 : decode cX3_reach 76 = .ok (.aload_n 0, 1) := by decide +kernel
theorem dX3_reach_77 : decode cX3_reach 77 = .ok (.getfield 19, 3) := by decide +kernel
theorem dX3_reach_80 : decode cX3_reach 80 = .ok (.iload 6, 2) := by decide +kernel
theorem dX3_reach_82 : decode cX3_reach 82 = .ok (.iastore, 1) := by decide +kernel
theorem dX3_reach_83 : decode cX3_reach 83 = .ok (.aload_n 0, 1) := by decide +kernel
theorem dX3_reach_84 : decode cX3_reach 84 = .ok (.dup, 1) := by decide +kernel
theorem dX3_reach_85 : decode cX3_reach 85 = .ok (.getfield 19, 3) := by decide +kernel
theorem dX3_reach_88 : decode cX3_reach 88 = .ok (.iconst 1, 1) := by decide +kernel
theorem dX3_reach_89 : decode cX3_reach 89 = .ok (.iadd, 1) := by decide +kernel
theorem dX3_reach_90 : decode cX3_reach 90 = .ok (.putfield 19, 3) := by decide +kernel
theorem dX3_reach_93 : decode cX3_reach 93 = .ok (.return_, 1) := by decide +kernel
theorem dX4_init_0 : decode cX4_init 0 = .ok (.aload_n 0, 1) := by decide +kernel
theorem dX4_init_1 : decode cX4_init 1 = .ok (.invokespecial 3, 3) := by decide +kernel
theorem dX4_init_4 : decode cX4_init 4 = .ok (.aload_n 0, 1) := by decide +kernel
theorem dX4_init_5 : decode cX4_init 5 = .ok (.bipush 16, 2) := by decide +kernel
theorem dX4_init_7 : decode cX4_init 7 = .ok (.anewarray 9, 3) := by decide +kernel
theorem dX4_init_10 : decode cX4_init 10 = .ok (.putfield 11, 3) := by decide +kernel
theorem dX4_init_13 : decode cX4_init 13 = .ok (.aload_n 0, 1) := by decide +kernel
theorem dX4_init_14 : decode cX4_init 14 = .ok (.iconst 0, 1) := by decide +kernel
theorem dX4_init_15 : decode cX4_init 15 = .ok (.putfield 17, 3) := by decide +kernel
theorem dX4_init_18 : decode cX4_init 18 = .ok (.aload_n 0, 1) := by decide +kernel
theorem dX4_init_19 : decode cX4_init 19 = .ok (.iconst 0, 1) := by decide +kernel
theorem dX4_init_20 : decode cX4_init 20 = .ok (.putfield 21, 3) := by decide +kernel
theorem dX4_init_23 : decode cX4_init 23 = .ok (.aload_n 0, 1) := by decide +kernel
theorem dX4_init_24 : decode cX4_init 24 = .ok (.iconst 0, 1) := by decide +kernel
theorem dX4_init_25 : decode cX4_init 25 = .ok (.putfield 24, 3) := by decide +kernel
theorem dX4_init_28 : decode cX4_init 28 = .ok (.iconst 0, 1) := by decide +kernel
theorem dX4_init_29 : decode cX4_init 29 = .ok (.istore_n 1, 1) := by decide +kernel
theorem dX4_init_30 : decode cX4_init 30 = .ok (.iload_n 1, 1) := by decide +kernel
theorem dX4_init_31 : decode cX4_init 31 = .ok (.bipush 16, 2) := by decide +kernel
theorem dX4_init_33 : decode cX4_init 33 = .ok (.if_icmp .ge 22, 3) := by decide +kernel
theorem dX4_init_36 : decode cX4_init 36 = .ok (.aload_n 0, 1) := by decide +kernel
theorem dX4_init_37 : decode cX4_init 37 = .ok (.getfield 11, 3) := by decide +kernel
theorem dX4_init_40 : decode cX4_init 40 = .ok (.iload_n 1, 1) := by decide +kernel
theorem dX4_init_41 : decode cX4_init 41 = .ok (.new 9, 3) := by decide +kernel
theorem dX4_init_44 : decode cX4_init 44 = .ok (.dup, 1) := by decide +kernel
theorem dX4_init_45 : decode cX4_init 45 = .ok (.invokespecial 27, 3) := by decide +kernel
theorem dX4_init_48 : decode cX4_init 48 = .ok (.aastore, 1) := by decide +kernel
theorem dX4_init_49 : decode cX4_init 49 = .ok (.iinc 1 1, 3) := by decide +kernel
theorem dX4_init_52 : decode cX4_init 52 = .ok (.goto (-22), 3) := by decide +kernel
theorem dX4_init_55 : decode cX4_init 55 = .ok (.return_, 1) := by decide +kernel
theorem dX4_next_0 : decode cX4_next 0 = .ok (.aload_n 0, 1) := by decide +kernel
theorem dX4_next_1 : decode cX4_next 1 = .ok (.iconst 0, 1) := by decide +kernel
theorem dX4_next_2 : decode cX4_next 2 = .ok (.putfield 24, 3) := by decide +kernel
theorem dX4_next_5 : decode cX4_next 5 = .ok (.aload_n 0, 1) := by decide +kernel
theorem dX4_next_6 : decode cX4_next 6 = .ok (.getfield 21, 3) := by decide +kernel
theorem dX4_next_9 : decode cX4_next 9 = .ok (.bipush 16, 2) := by decide +kernel
theorem dX4_next_11 : decode cX4_next 11 = .ok (.if_icmp .ge 16, 3) := by decide +kernel
theorem dX4_next_14 : decode cX4_next 14 = .ok (.aload_n 0, 1) := by decide +kernel
theorem dX4_next_15 : decode cX4_next 15 = .ok (.dup, 1) := by decide +kernel
theorem dX4_next_16 : decode cX4_next 16 = .ok (.getfield 21, 3) := by decide +kernel
theorem dX4_next_19 : decode cX4_next 19 = .ok (.iconst 1, 1) := by decide +kernel
theorem dX4_next_20 : decode cX4_next 20 = .ok (.iadd, 1) := by decide +kernel
theorem dX4_next_21 : decode cX4_next 21 = .ok (.putfield 21, 3) := by decide +kernel
theorem dX4_next_24 : decode cX4_next 24 = .ok (.goto 16, 3) := by decide +kernel
theorem dX4_next_27 : decode cX4_next 27 = .ok (.aload_n 0, 1) := by decide +kernel
theorem dX4_next_28 : decode cX4_next 28 = .ok (.aload_n 0, 1) := by decide +kernel
theorem dX4_next_29 : decode cX4_next 29 = .ok (.getfield 17, 3) := by decide +kernel
theorem dX4_next_32 : decode cX4_next 32 = .ok (.iconst 1, 1) := by decide +kernel
theorem dX4_next_33 : decode cX4_next 33 = .ok (.iadd, 1) := by decide +kernel
theorem dX4_next_34 : decode cX4_next 34 = .ok (.bipush 16, 2) := by decide +kernel
theorem dX4_next_36 : decode cX4_next 36 = .ok (.irem, 1) := by decide +kernel
theorem dX4_next_37 : decode cX4_next 37 = .ok (.putfield 17, 3) := by decide +kernel
theorem dX4_next_40 : decode cX4_next 40 = .ok (.aload_n 0, 1) := by decide +kernel
theorem dX4_next_41 : decode cX4_next 41 = .ok (.aload_n 0, 1) := by decide +kernel
theorem dX4_next_42 : decode cX4_next 42 = .ok (.getfield 21, 3) := by decide +kernel
theorem dX4_next_45 : decode cX4_next 45 = .ok (.iconst 1, 1) := by decide +kernel
theorem dX4_next_46 : decode cX4_next 46 = .ok (.isub, 1) := by decide +kernel
theorem dX4_next_47 : decode cX4_next 47 = .ok (.invokevirtual 28, 3) := by decide +kernel
theorem dX4_next_50 : decode cX4_next 50 = .ok (.areturn, 1) := by decide +kernel
theorem dX4_stepBack_0 : decode cX4_stepBack 0 = .ok (.aload_n 0, 1) := by decide +kernel
theorem dX4_stepBack_1 : decode cX4_stepBack 1 = .ok (.getfield 21, 3) := by decide +kernel
theorem dX4_stepBack_4 : decode cX4_stepBack 4 = .ok (.iconst 1, 1) := by decide +kernel
theorem dX4_stepBack_5 : decode cX4_stepBack 5 = .ok (.if_icmp .ge 5, 3) := by decide +kernel
theorem dX4_stepBack_8 : decode cX4_stepBack 8 = .ok (.aconst_null, 1) := by decide +kernel
theorem dX4_stepBack_9 : decode cX4_stepBack 9 = .ok (.areturn, 1) := by decide +kernel
theorem dX4_stepBack_10 : decode cX4_stepBack 10 = .ok (.aload_n 0, 1) := by decide +kernel
theorem dX4_stepBack_11 : decode cX4_stepBack 11 = .ok (.dup, 1) := by decide +kernel
theorem dX4_stepBack_12 : decode cX4_stepBack 12 = .ok (.getfield 21, 3) := by decide +kernel
theorem dX4_stepBack_15 : decode cX4_stepBack 15 = .ok (.iconst 1, 1) := by decide +kernel
theorem dX4_stepBack_16 : decode cX4_stepBack 16 = .ok (.isub, 1) := by decide +kernel
theorem dX4_stepBack_17 : decode cX4_stepBack 17 = .ok (.putfield 21, 3) := by decide +kernel
theorem dX4_stepBack_20 : decode cX4_stepBack 20 = .ok (.aload_n 0, 1) := by decide +kernel
theorem dX4_stepBack_21 : decode cX4_stepBack 21 = .ok (.dup, 1) := by decide +kernel
theorem dX4_stepBack_22 : decode cX4_stepBack 22 = .ok (.getfield 24, 3) := by decide +kernel
theorem dX4_stepBack_25 : decode cX4_stepBack 25 = .ok (.iconst 1, 1) := by decide +kernel
theorem dX4_stepBack_26 : decode cX4_stepBack 26 = .ok (.iadd, 1) := by decide +kernel
theorem dX4_stepBack_27 : decode cX4_stepBack 27 = .ok (.putfield 24, 3) := by decide +kernel
theorem dX4_stepBack_30 : decode cX4_stepBack 30 = .ok (.aload_n 0, 1) := by decide +kernel
theorem dX4_stepBack_31 : decode cX4_stepBack 31 = .ok (.aload_n 0, 1) := by decide +kernel
theorem dX4_stepBack_32 : decode cX4_stepBack 32 = .ok (.getfield 21, 3) := by decide +kernel
theorem dX4_stepBack_35 : decode cX4_stepBack 35 = .ok (.invokevirtual 28, 3) := by decide +kernel
theorem dX4_stepBack_38 : decode cX4_stepBack 38 = .ok (.areturn, 1) := by decide +kernel
theorem dX4_stepForth_0 : decode cX4_stepForth 0 = .ok (.aload_n 0, 1) := by decide +kernel
theorem dX4_stepForth_1 : decode cX4_stepForth 1 = .ok (.getfield 24, 3) := by decide +kernel
theorem dX4_stepForth_4 : decode cX4_stepForth 4 = .ok (.iconst 1, 1) := by decide +kernel
theorem dX4_stepForth_5 : decode cX4_stepForth 5 = .ok (.if_icmp .ge 5, 3) := by decide +kernel
theorem dX4_stepForth_8 : decode cX4_stepForth 8 = .ok (.aconst_null, 1) := by decide +kernel
theorem dX4_stepForth_9 : decode cX4_stepForth 9 = .ok (.areturn, 1) := by decide +kernel
theorem dX4_stepForth_10 : decode cX4_stepForth 10 = .ok (.aload_n 0, 1) := by decide +kernel
theorem dX4_stepForth_11 : decode cX4_stepForth 11 = .ok (.dup, 1) := by decide +kernel
theorem dX4_stepForth_12 : decode cX4_stepForth 12 = .ok (.getfield 24, 3) := by decide +kernel
theorem dX4_stepForth_15 : decode cX4_stepForth 15 = .ok (.iconst 1, 1) := by decide +kernel
theorem dX4_stepForth_16 : decode cX4_stepForth 16 = .ok (.isub, 1) := by decide +kernel
theorem dX4_stepForth_17 : decode cX4_stepForth 17 = .ok (.putfield 24, 3) := by decide +kernel
theorem dX4_stepForth_20 : decode cX4_stepForth 20 = .ok (.aload_n 0, 1) := by decide +kernel
theorem dX4_stepForth_21 : decode cX4_stepForth 21 = .ok (.dup, 1) := by decide +kernel
theorem dX4_stepForth_22 : decode cX4_stepForth 22 = .ok (.getfield 21, 3) := by decide +kernel
theorem dX4_stepForth_25 : decode cX4_stepForth 25 = .ok (.iconst 1, 1) := by decide +kernel
theorem dX4_stepForth_26 : decode cX4_stepForth 26 = .ok (.iadd, 1) := by decide +kernel
theorem dX4_stepForth_27 : decode cX4_stepForth 27 = .ok (.putfield 21, 3) := by decide +kernel
theorem dX4_stepForth_30 : decode cX4_stepForth 30 = .ok (.aload_n 0, 1) := by decide +kernel
theorem dX4_stepForth_31 : decode cX4_stepForth 31 = .ok (.aload_n 0, 1) := by decide +kernel
theorem dX4_stepForth_32 : decode cX4_stepForth 32 = .ok (.getfield 21, 3) := by decide +kernel
theorem dX4_stepForth_35 : decode cX4_stepForth 35 = .ok (.iconst 1, 1) := by decide +kernel
theorem dX4_stepForth_36 : decode cX4_stepForth 36 = .ok (.isub, 1) := by decide +kernel
theorem dX4_stepForth_37 : decode cX4_stepForth 37 = .ok (.invokevirtual 28, 3) := by decide +kernel
theorem dX4_stepForth_40 : decode cX4_stepForth 40 = .ok (.areturn, 1) := by decide +kernel
theorem dX4_nth_0 : decode cX4_nth 0 = .ok (.aload_n 0, 1) := by decide +kernel
theorem dX4_nth_1 : decode cX4_nth 1 = .ok (.getfield 11, 3) := by decide +kernel
theorem dX4_nth_4 : decode cX4_nth 4 = .ok (.aload_n 0, 1) := by decide +kernel
theorem dX4_nth_5 : decode cX4_nth 5 = .ok (.getfield 17, 3) := by decide +kernel
theorem dX4_nth_8 : decode cX4_nth 8 = .ok (.iload_n 1, 1) := by decide +kernel
theorem dX4_nth_9 : decode cX4_nth 9 = .ok (.iadd, 1) := by decide +kernel
theorem dX4_nth_10 : decode cX4_nth 10 = .ok (.bipush 16, 2) := by decide +kernel
theorem dX4_nth_12 : decode cX4_nth 12 = .ok (.invokestatic 32, 3) := by decide +kernel
theorem dX4_nth_15 : decode cX4_nth 15 = .ok (.aaload, 1) := by decide +kernel
theorem dX4_nth_16 : decode cX4_nth 16 = .ok (.areturn, 1) := by decide +kernel
theorem dX5_init_0 : decode cX5_init 0 = .ok (.aload_n 0, 1) := by decide +kernel
theorem dX5_init_1 : decode cX5_init 1 = .ok (.invokespecial 3, 3) := by decide +kernel
theorem dX5_init_4 : decode cX5_init 4 = .ok (.aload_n 0, 1) := by decide +kernel
theorem dX5_init_5 : decode cX5_init 5 = .ok (.bipush 16, 2) := by decide +kernel
theorem dX5_init_7 : decode cX5_init 7 = .ok (.newarray .int, 2) := by decide +kernel
theorem dX5_init_9 : decode cX5_init 9 = .ok (.putfield 9, 3) := by decide +kernel
theorem dX5_init_12 : decode cX5_init 12 = .ok (.return_, 1) := by decide +kernel
theorem dX5_darken_0 : decode cX5_darken 0 = .ok (.aload_n 0, 1) := by decide +kernel
theorem dX5_darken_1 : decode cX5_darken 1 = .ok (.getfield 9, 3) := by decide +kernel
theorem dX5_darken_4 : decode cX5_darken 4 = .ok (.iconst 0, 1) := by decide +kernel
theorem dX5_darken_5 : decode cX5_darken 5 = .ok (.invokestatic 15, 3) := by decide +kernel
theorem dX5_darken_8 : decode cX5_darken 8 = .ok (.return_, 1) := by decide +kernel
theorem dX5_copyFrom_0 : decode cX5_copyFrom 0 = .ok (.aload_n 1, 1) := by decide +kernel
theorem dX5_copyFrom_1 : decode cX5_copyFrom 1 = .ok (.getfield 9, 3) := by decide +kernel
theorem dX5_copyFrom_4 : decode cX5_copyFrom 4 = .ok (.iconst 0, 1) := by decide +kernel
theorem dX5_copyFrom_5 : decode cX5_copyFrom 5 = .ok (.aload_n 0, 1) := by decide +kernel
theorem dX5_copyFrom_6 : decode cX5_copyFrom 6 = .ok (.getfield 9, 3) := by decide +kernel
theorem dX5_copyFrom_9 : decode cX5_copyFrom 9 = .ok (.iconst 0, 1) := by decide +kernel
theorem dX5_copyFrom_10 : decode cX5_copyFrom 10 = .ok (.bipush 16, 2) := by decide +kernel
theorem dX5_copyFrom_12 : decode cX5_copyFrom 12 = .ok (.invokestatic 21, 3) := by decide +kernel
theorem dX5_copyFrom_15 : decode cX5_copyFrom 15 = .ok (.return_, 1) := by decide +kernel
theorem dX5_lit_0 : decode cX5_lit 0 = .ok (.iload_n 1, 1) := by decide +kernel
theorem dX5_lit_1 : decode cX5_lit 1 = .ok (.iload_n 2, 1) := by decide +kernel
theorem dX5_lit_2 : decode cX5_lit 2 = .ok (.invokestatic 27, 3) := by decide +kernel
theorem dX5_lit_5 : decode cX5_lit 5 = .ok (.ifCond .eq 20, 3) := by decide +kernel
theorem dX5_lit_8 : decode cX5_lit 8 = .ok (.aload_n 0, 1) := by decide +kernel
theorem dX5_lit_9 : decode cX5_lit 9 = .ok (.getfield 9, 3) := by decide +kernel
theorem dX5_lit_12 : decode cX5_lit 12 = .ok (.iload_n 2, 1) := by decide +kernel
theorem dX5_lit_13 : decode cX5_lit 13 = .ok (.iaload, 1) := by decide +kernel
theorem dX5_lit_14 : decode cX5_lit 14 = .ok (.iload_n 1, 1) := by decide +kernel
theorem dX5_lit_15 : decode cX5_lit 15 = .ok (.ishr, 1) := by decide +kernel
theorem dX5_lit_16 : decode cX5_lit 16 = .ok (.iconst 1, 1) := by decide +kernel
theorem dX5_lit_17 : decode cX5_lit 17 = .ok (.iand, 1) := by decide +kernel
theorem dX5_lit_18 : decode cX5_lit 18 = .ok (.ifCond .eq 7, 3) := by decide +kernel
theorem dX5_lit_21 : decode cX5_lit 21 = .ok (.iconst 1, 1) := by decide +kernel
theorem dX5_lit_22 : decode cX5_lit 22 = .ok (.goto 4, 3) := by decide +kernel
theorem dX5_lit_25 : decode cX5_lit 25 = .ok (.iconst 0, 1) := by decide +kernel
theorem dX5_lit_26 : decode cX5_lit 26 = .ok (.ireturn, 1) := by decide +kernel
theorem dX5_light_0 : decode cX5_light 0 = .ok (.iload_n 1, 1) := by decide +kernel
theorem dX5_light_1 : decode cX5_light 1 = .ok (.iload_n 2, 1) := by decide +kernel
theorem dX5_light_2 : decode cX5_light 2 = .ok (.invokestatic 27, 3) := by decide +kernel
theorem dX5_light_5 : decode cX5_light 5 = .ok (.ifCond .eq 38, 3) := by decide +kernel
theorem dX5_light_8 : decode cX5_light 8 = .ok (.aload_n 0, 1) := by decide +kernel
theorem dX5_light_9 : decode cX5_light 9 = .ok (.getfield 9, 3) := by decide +kernel
theorem dX5_light_12 : decode cX5_light 12 = .ok (.iload_n 2, 1) := by decide +kernel
theorem dX5_light_13 : decode cX5_light 13 = .ok (.iload_n 3, 1) := by decide +kernel
theorem dX5_light_14 : decode cX5_light 14 = .ok (.ifCond .eq 16, 3) := by decide +kernel
theorem dX5_light_17 : decode cX5_light 17 = .ok (.aload_n 0, 1) := by decide +kernel
theorem dX5_light_18 : decode cX5_light 18 = .ok (.getfield 9, 3) := by decide +kernel
theorem dX5_light_21 : decode cX5_light 21 = .ok (.iload_n 2, 1) := by decide +kernel
theorem dX5_light_22 : decode cX5_light 22 = .ok (.iaload, 1) := by decide +kernel
theorem dX5_light_23 : decode cX5_light 23 = .ok (.iconst 1, 1) := by decide +kernel
theorem dX5_light_24 : decode cX5_light 24 = .ok (.iload_n 1, 1) := by decide +kernel
theorem dX5_light_25 : decode cX5_light 25 = .ok (.ishl, 1) := by decide +kernel
theorem dX5_light_26 : decode cX5_light 26 = .ok (.ior, 1) := by decide +kernel
theorem dX5_light_27 : decode cX5_light 27 = .ok (.goto 15, 3) := by decide +kernel
theorem dX5_light_30 : decode cX5_light 30 = .ok (.aload_n 0, 1) := by decide +kernel
theorem dX5_light_31 : decode cX5_light 31 = .ok (.getfield 9, 3) := by decide +kernel
theorem dX5_light_34 : decode cX5_light 34 = .ok (.iload_n 2, 1) := by decide +kernel
theorem dX5_light_35 : decode cX5_light 35 = .ok (.iaload, 1) := by decide +kernel
theorem dX5_light_36 : decode cX5_light 36 = .ok (.iconst 1, 1) := by decide +kernel
theorem dX5_light_37 : decode cX5_light 37 = .ok (.iload_n 1, 1) := by decide +kernel
theorem dX5_light_38 : decode cX5_light 38 = .ok (.ishl, 1) := by decide +kernel
theorem dX5_light_39 : decode cX5_light 39 = .ok (.iconst (-1), 1) := by decide +kernel
theorem dX5_light_40 : decode cX5_light 40 = .ok (.ixor, 1) := by decide +kernel
theorem dX5_light_41 : decode cX5_light 41 = .ok (.iand, 1) := by decide +kernel
theorem dX5_light_42 : decode cX5_light 42 = .ok (.iastore, 1) := by decide +kernel
theorem dX5_light_43 : decode cX5_light 43 = .ok (.return_, 1) := by decide +kernel
theorem dX5_howMany_0 : decode cX5_howMany 0 = .ok (.iconst 0, 1) := by decide +kernel
theorem dX5_howMany_1 : decode cX5_howMany 1 = .ok (.istore_n 1, 1) := by decide +kernel
theorem dX5_howMany_2 : decode cX5_howMany 2 = .ok (.iconst 0, 1) := by decide +kernel
theorem dX5_howMany_3 : decode cX5_howMany 3 = .ok (.istore_n 2, 1) := by decide +kernel
theorem dX5_howMany_4 : decode cX5_howMany 4 = .ok (.iload_n 2, 1) := by decide +kernel
theorem dX5_howMany_5 : decode cX5_howMany 5 = .ok (.bipush 16, 2) := by decide +kernel
theorem dX5_howMany_7 : decode cX5_howMany 7 = .ok (.if_icmp .ge 21, 3) := by decide +kernel
theorem dX5_howMany_10 : decode cX5_howMany 10 = .ok (.iload_n 1, 1) := by decide +kernel
theorem dX5_howMany_11 : decode cX5_howMany 11 = .ok (.aload_n 0, 1) := by decide +kernel
theorem dX5_howMany_12 : decode cX5_howMany 12 = .ok (.getfield 9, 3) := by decide +kernel
theorem dX5_howMany_15 : decode cX5_howMany 15 = .ok (.iload_n 2, 1) := by decide +kernel
theorem dX5_howMany_16 : decode cX5_howMany 16 = .ok (.iaload, 1) := by decide +kernel
theorem dX5_howMany_17 : decode cX5_howMany 17 = .ok (.invokestatic 31, 3) := by decide +kernel
theorem dX5_howMany_20 : decode cX5_howMany 20 = .ok (.iadd, 1) := by decide +kernel
theorem dX5_howMany_21 : decode cX5_howMany 21 = .ok (.istore_n 1, 1) := by decide +kernel
theorem dX5_howMany_22 : decode cX5_howMany 22 = .ok (.iinc 2 1, 3) := by decide +kernel
theorem dX5_howMany_25 : decode cX5_howMany 25 = .ok (.goto (-21), 3) := by decide +kernel
theorem dX5_howMany_28 : decode cX5_howMany 28 = .ok (.iload_n 1, 1) := by decide +kernel
theorem dX5_howMany_29 : decode cX5_howMany 29 = .ok (.ireturn, 1) := by decide +kernel
theorem dX5_joinedFrom_0 : decode cX5_joinedFrom 0 = .ok (.iconst 0, 1) := by decide +kernel
theorem dX5_joinedFrom_1 : decode cX5_joinedFrom 1 = .ok (.istore 4, 2) := by decide +kernel
theorem dX5_joinedFrom_3 : decode cX5_joinedFrom 3 = .ok (.iload 4, 2) := by decide +kernel
theorem dX5_joinedFrom_5 : decode cX5_joinedFrom 5 = .ok (.bipush 16, 2) := by decide +kernel
theorem dX5_joinedFrom_7 : decode cX5_joinedFrom 7 = .ok (.if_icmp .ge 33, 3) := by decide +kernel
theorem dX5_joinedFrom_10 : decode cX5_joinedFrom 10 = .ok (.aload_n 0, 1) := by decide +kernel
theorem dX5_joinedFrom_11 : decode cX5_joinedFrom 11 = .ok (.getfield 9, 3) := by decide +kernel
theorem dX5_joinedFrom_14 : decode cX5_joinedFrom 14 = .ok (.iload 4, 2) := by decide +kernel
theorem dX5_joinedFrom_16 : decode cX5_joinedFrom 16 = .ok (.aload_n 1, 1) := by decide +kernel
theorem dX5_joinedFrom_17 : decode cX5_joinedFrom 17 = .ok (.getfield 9, 3) := by decide +kernel
theorem dX5_joinedFrom_20 : decode cX5_joinedFrom 20 = .ok (.iload 4, 2) := by decide +kernel
theorem dX5_joinedFrom_22 : decode cX5_joinedFrom 22 = .ok (.iaload, 1) := by decide +kernel
theorem dX5_joinedFrom_23 : decode cX5_joinedFrom 23 = .ok (.aload_n 2, 1) := by decide +kernel
theorem dX5_joinedFrom_24 : decode cX5_joinedFrom 24 = .ok (.iload 4, 2) := by decide +kernel
theorem dX5_joinedFrom_26 : decode cX5_joinedFrom 26 = .ok (.iload_n 3, 1) := by decide +kernel
theorem dX5_joinedFrom_27 : decode cX5_joinedFrom 27 = .ok (.invokestatic 37, 3) := by decide +kernel
theorem dX5_joinedFrom_30 : decode cX5_joinedFrom 30 = .ok (.ldc 41, 2) := by decide +kernel
theorem dX5_joinedFrom_32 : decode cX5_joinedFrom 32 = .ok (.iand, 1) := by decide +kernel
theorem dX5_joinedFrom_33 : decode cX5_joinedFrom 33 = .ok (.iastore, 1) := by decide +kernel
theorem dX5_joinedFrom_34 : decode cX5_joinedFrom 34 = .ok (.iinc 4 1, 3) := by decide +kernel
theorem dX5_joinedFrom_37 : decode cX5_joinedFrom 37 = .ok (.goto (-34), 3) := by decide +kernel
theorem dX5_joinedFrom_40 : decode cX5_joinedFrom 40 = .ok (.return_, 1) := by decide +kernel
theorem dX5_joinedRow_0 : decode cX5_joinedRow 0 = .ok (.aload_n 1, 1) := by decide +kernel
theorem dX5_joinedRow_1 : decode cX5_joinedRow 1 = .ok (.iload_n 2, 1) := by decide +kernel
theorem dX5_joinedRow_2 : decode cX5_joinedRow 2 = .ok (.iconst 0, 1) := by decide +kernel
theorem dX5_joinedRow_3 : decode cX5_joinedRow 3 = .ok (.invokevirtual 42, 3) := by decide +kernel
theorem dX5_joinedRow_6 : decode cX5_joinedRow 6 = .ok (.istore 4, 2) := by decide +kernel
theorem dX5_joinedRow_8 : decode cX5_joinedRow 8 = .ok (.iload_n 3, 1) := by decide +kernel
theorem dX5_joinedRow_9 : decode cX5_joinedRow 9 = .ok (.tableswitch 93 0 5 #[39, 44, 49, 54, 59, 62], 39) := by decide +kernel
theorem dX5_joinedRow_48 : decode cX5_joinedRow 48 = .ok (.iload_n 0, 1) := by decide +kernel
theorem dX5_joinedRow_49 : decode cX5_joinedRow 49 = .ok (.iload 4, 2) := by decide +kernel
theorem dX5_joinedRow_51 : decode cX5_joinedRow 51 = .ok (.iand, 1) := by decide +kernel
theorem dX5_joinedRow_52 : decode cX5_joinedRow 52 = .ok (.ireturn, 1) := by decide +kernel
theorem dX5_joinedRow_53 : decode cX5_joinedRow 53 = .ok (.iload_n 0, 1) := by decide +kernel
theorem dX5_joinedRow_54 : decode cX5_joinedRow 54 = .ok (.iload 4, 2) := by decide +kernel
theorem dX5_joinedRow_56 : decode cX5_joinedRow 56 = .ok (.ior, 1) := by decide +kernel
theorem dX5_joinedRow_57 : decode cX5_joinedRow 57 = .ok (.ireturn, 1) := by decide +kernel
theorem dX5_joinedRow_58 : decode cX5_joinedRow 58 = .ok (.iload_n 0, 1) := by decide +kernel
theorem dX5_joinedRow_59 : decode cX5_joinedRow 59 = .ok (.iload 4, 2) := by decide +kernel
theorem dX5_joinedRow_61 : decode cX5_joinedRow 61 = .ok (.ixor, 1) := by decide +kernel
theorem dX5_joinedRow_62 : decode cX5_joinedRow 62 = .ok (.ireturn, 1) := by decide +kernel
theorem dX5_joinedRow_63 : decode cX5_joinedRow 63 = .ok (.iload 4, 2) := by decide +kernel
theorem dX5_joinedRow_65 : decode cX5_joinedRow 65 = .ok (.iconst (-1), 1) := by decide +kernel
theorem dX5_joinedRow_66 : decode cX5_joinedRow 66 = .ok (.ixor, 1) := by decide +kernel
theorem dX5_joinedRow_67 : decode cX5_joinedRow 67 = .ok (.ireturn, 1) := by decide +kernel
theorem dX5_joinedRow_68 : decode cX5_joinedRow 68 = .ok (.iload 4, 2) := by decide +kernel
theorem dX5_joinedRow_70 : decode cX5_joinedRow 70 = .ok (.ireturn, 1) := by decide +kernel
theorem dX5_joinedRow_71 : decode cX5_joinedRow 71 = .ok (.iload 4, 2) := by decide +kernel
theorem dX5_joinedRow_73 : decode cX5_joinedRow 73 = .ok (.iload 4, 2) := by decide +kernel
theorem dX5_joinedRow_75 : decode cX5_joinedRow 75 = .ok (.iconst 1, 1) := by decide +kernel
theorem dX5_joinedRow_76 : decode cX5_joinedRow 76 = .ok (.ishl, 1) := by decide +kernel
theorem dX5_joinedRow_77 : decode cX5_joinedRow 77 = .ok (.ior, 1) := by decide +kernel
theorem dX5_joinedRow_78 : decode cX5_joinedRow 78 = .ok (.iload 4, 2) := by decide +kernel
theorem dX5_joinedRow_80 : decode cX5_joinedRow 80 = .ok (.iconst 1, 1) := by decide +kernel
theorem dX5_joinedRow_81 : decode cX5_joinedRow 81 = .ok (.ishr, 1) := by decide +kernel
theorem dX5_joinedRow_82 : decode cX5_joinedRow 82 = .ok (.ior, 1) := by decide +kernel
theorem dX5_joinedRow_83 : decode cX5_joinedRow 83 = .ok (.aload_n 1, 1) := by decide +kernel
theorem dX5_joinedRow_84 : decode cX5_joinedRow 84 = .ok (.iload_n 2, 1) := by decide +kernel
theorem dX5_joinedRow_85 : decode cX5_joinedRow 85 = .ok (.iconst 1, 1) := by decide +kernel
theorem dX5_joinedRow_86 : decode cX5_joinedRow 86 = .ok (.isub, 1) := by decide +kernel
theorem dX5_joinedRow_87 : decode cX5_joinedRow 87 = .ok (.iconst 0, 1) := by decide +kernel
theorem dX5_joinedRow_88 : decode cX5_joinedRow 88 = .ok (.invokevirtual 42, 3) := by decide +kernel
theorem dX5_joinedRow_91 : decode cX5_joinedRow 91 = .ok (.ior, 1) := by decide +kernel
theorem dX5_joinedRow_92 : decode cX5_joinedRow 92 = .ok (.aload_n 1, 1) := by decide +kernel
theorem dX5_joinedRow_93 : decode cX5_joinedRow 93 = .ok (.iload_n 2, 1) := by decide +kernel
theorem dX5_joinedRow_94 : decode cX5_joinedRow 94 = .ok (.iconst 1, 1) := by decide +kernel
theorem dX5_joinedRow_95 : decode cX5_joinedRow 95 = .ok (.iadd, 1) := by decide +kernel
theorem dX5_joinedRow_96 : decode cX5_joinedRow 96 = .ok (.iconst 0, 1) := by decide +kernel
theorem dX5_joinedRow_97 : decode cX5_joinedRow 97 = .ok (.invokevirtual 42, 3) := by decide +kernel
theorem dX5_joinedRow_100 : decode cX5_joinedRow 100 = .ok (.ior, 1) := by decide +kernel
theorem dX5_joinedRow_101 : decode cX5_joinedRow 101 = .ok (.ireturn, 1) := by decide +kernel
theorem dX5_joinedRow_102 : decode cX5_joinedRow 102 = .ok (.iload 4, 2) := by decide +kernel
theorem dX5_joinedRow_104 : decode cX5_joinedRow 104 = .ok (.iload 4, 2) := by decide +kernel
theorem dX5_joinedRow_106 : decode cX5_joinedRow 106 = .ok (.iconst 1, 1) := by decide +kernel
theorem dX5_joinedRow_107 : decode cX5_joinedRow 107 = .ok (.ishl, 1) := by decide +kernel
theorem dX5_joinedRow_108 : decode cX5_joinedRow 108 = .ok (.iconst 1, 1) := by decide +kernel
theorem dX5_joinedRow_109 : decode cX5_joinedRow 109 = .ok (.ior, 1) := by decide +kernel
theorem dX5_joinedRow_110 : decode cX5_joinedRow 110 = .ok (.iand, 1) := by decide +kernel
theorem dX5_joinedRow_111 : decode cX5_joinedRow 111 = .ok (.iload 4, 2) := by decide +kernel
theorem dX5_joinedRow_113 : decode cX5_joinedRow 113 = .ok (.iconst 1, 1) := by decide +kernel
theorem dX5_joinedRow_114 : decode cX5_joinedRow 114 = .ok (.ishr, 1) := by decide +kernel
theorem dX5_joinedRow_115 : decode cX5_joinedRow 115 = .ok (.ldc 46, 2) := by decide +kernel
theorem dX5_joinedRow_117 : decode cX5_joinedRow 117 = .ok (.ior, 1) := by decide +kernel
theorem dX5_joinedRow_118 : decode cX5_joinedRow 118 = .ok (.iand, 1) := by decide +kernel
theorem dX5_joinedRow_119 : decode cX5_joinedRow 119 = .ok (.aload_n 1, 1) := by decide +kernel
theorem dX5_joinedRow_120 : decode cX5_joinedRow 120 = .ok (.iload_n 2, 1) := by decide +kernel
theorem dX5_joinedRow_121 : decode cX5_joinedRow 121 = .ok (.iconst 1, 1) := by decide +kernel
theorem dX5_joinedRow_122 : decode cX5_joinedRow 122 = .ok (.isub, 1) := by decide +kernel
theorem dX5_joinedRow_123 : decode cX5_joinedRow 123 = .ok (.ldc 41, 2) := by decide +kernel
theorem dX5_joinedRow_125 : decode cX5_joinedRow 125 = .ok (.invokevirtual 42, 3) := by decide +kernel
theorem dX5_joinedRow_128 : decode cX5_joinedRow 128 = .ok (.iand, 1) := by decide +kernel
theorem dX5_joinedRow_129 : decode cX5_joinedRow 129 = .ok (.aload_n 1, 1) := by decide +kernel
theorem dX5_joinedRow_130 : decode cX5_joinedRow 130 = .ok (.iload_n 2, 1) := by decide +kernel
theorem dX5_joinedRow_131 : decode cX5_joinedRow 131 = .ok (.iconst 1, 1) := by decide +kernel
theorem dX5_joinedRow_132 : decode cX5_joinedRow 132 = .ok (.iadd, 1) := by decide +kernel
theorem dX5_joinedRow_133 : decode cX5_joinedRow 133 = .ok (.ldc 41, 2) := by decide +kernel
theorem dX5_joinedRow_135 : decode cX5_joinedRow 135 = .ok (.invokevirtual 42, 3) := by decide +kernel
theorem dX5_joinedRow_138 : decode cX5_joinedRow 138 = .ok (.iand, 1) := by decide +kernel
theorem dX5_joinedRow_139 : decode cX5_joinedRow 139 = .ok (.ireturn, 1) := by decide +kernel
theorem dX5_row_0 : decode cX5_row 0 = .ok (.iload_n 1, 1) := by decide +kernel
theorem dX5_row_1 : decode cX5_row 1 = .ok (.ifCond .lt 18, 3) := by decide +kernel
theorem dX5_row_4 : decode cX5_row 4 = .ok (.iload_n 1, 1) := by decide +kernel
theorem dX5_row_5 : decode cX5_row 5 = .ok (.bipush 16, 2) := by decide +kernel
theorem dX5_row_7 : decode cX5_row 7 = .ok (.if_icmp .ge 12, 3) := by decide +kernel
theorem dX5_row_10 : decode cX5_row 10 = .ok (.aload_n 0, 1) := by decide +kernel
theorem dX5_row_11 : decode cX5_row 11 = .ok (.getfield 9, 3) := by decide +kernel
theorem dX5_row_14 : decode cX5_row 14 = .ok (.iload_n 1, 1) := by decide +kernel
theorem dX5_row_15 : decode cX5_row 15 = .ok (.iaload, 1) := by decide +kernel
theorem dX5_row_16 : decode cX5_row 16 = .ok (.goto 4, 3) := by decide +kernel
theorem dX5_row_19 : decode cX5_row 19 = .ok (.iload_n 2, 1) := by decide +kernel
theorem dX5_row_20 : decode cX5_row 20 = .ok (.ireturn, 1) := by decide +kernel
theorem dX6_init_0 : decode cX6_init 0 = .ok (.aload_n 0, 1) := by decide +kernel
theorem dX6_init_1 : decode cX6_init 1 = .ok (.invokespecial 3, 3) := by decide +kernel
theorem dX6_init_4 : decode cX6_init 4 = .ok (.aload_n 0, 1) := by decide +kernel
theorem dX6_init_5 : decode cX6_init 5 = .ok (.iconst (-1), 1) := by decide +kernel
theorem dX6_init_6 : decode cX6_init 6 = .ok (.putfield 9, 3) := by decide +kernel
theorem dX6_init_9 : decode cX6_init 9 = .ok (.aload_n 0, 1) := by decide +kernel
theorem dX6_init_10 : decode cX6_init 10 = .ok (.iconst 0, 1) := by decide +kernel
theorem dX6_init_11 : decode cX6_init 11 = .ok (.putfield 15, 3) := by decide +kernel
theorem dX6_init_14 : decode cX6_init 14 = .ok (.aload_n 0, 1) := by decide +kernel
theorem dX6_init_15 : decode cX6_init 15 = .ok (.iconst 0, 1) := by decide +kernel
theorem dX6_init_16 : decode cX6_init 16 = .ok (.putfield 18, 3) := by decide +kernel
theorem dX6_init_19 : decode cX6_init 19 = .ok (.aload_n 0, 1) := by decide +kernel
theorem dX6_init_20 : decode cX6_init 20 = .ok (.sipush 256, 3) := by decide +kernel
theorem dX6_init_23 : decode cX6_init 23 = .ok (.newarray .int, 2) := by decide +kernel
theorem dX6_init_25 : decode cX6_init 25 = .ok (.putfield 21, 3) := by decide +kernel
theorem dX6_init_28 : decode cX6_init 28 = .ok (.return_, 1) := by decide +kernel
theorem dX6_vanish_0 : decode cX6_vanish 0 = .ok (.aload_n 0, 1) := by decide +kernel
theorem dX6_vanish_1 : decode cX6_vanish 1 = .ok (.iconst (-1), 1) := by decide +kernel
theorem dX6_vanish_2 : decode cX6_vanish 2 = .ok (.putfield 9, 3) := by decide +kernel
theorem dX6_vanish_5 : decode cX6_vanish 5 = .ok (.aload_n 0, 1) := by decide +kernel
theorem dX6_vanish_6 : decode cX6_vanish 6 = .ok (.iconst 0, 1) := by decide +kernel
theorem dX6_vanish_7 : decode cX6_vanish 7 = .ok (.putfield 15, 3) := by decide +kernel
theorem dX6_vanish_10 : decode cX6_vanish 10 = .ok (.aload_n 0, 1) := by decide +kernel
theorem dX6_vanish_11 : decode cX6_vanish 11 = .ok (.iconst 0, 1) := by decide +kernel
theorem dX6_vanish_12 : decode cX6_vanish 12 = .ok (.putfield 18, 3) := by decide +kernel
theorem dX6_vanish_15 : decode cX6_vanish 15 = .ok (.return_, 1) := by decide +kernel
theorem dX6_shape_0 : decode cX6_shape 0 = .ok (.aload_n 0, 1) := by decide +kernel
theorem dX6_shape_1 : decode cX6_shape 1 = .ok (.iload_n 1, 1) := by decide +kernel
theorem dX6_shape_2 : decode cX6_shape 2 = .ok (.putfield 9, 3) := by decide +kernel
theorem dX6_shape_5 : decode cX6_shape 5 = .ok (.aload_n 0, 1) := by decide +kernel
theorem dX6_shape_6 : decode cX6_shape 6 = .ok (.iload_n 2, 1) := by decide +kernel
theorem dX6_shape_7 : decode cX6_shape 7 = .ok (.putfield 15, 3) := by decide +kernel
theorem dX6_shape_10 : decode cX6_shape 10 = .ok (.aload_n 0, 1) := by decide +kernel
theorem dX6_shape_11 : decode cX6_shape 11 = .ok (.iload_n 3, 1) := by decide +kernel
theorem dX6_shape_12 : decode cX6_shape 12 = .ok (.putfield 18, 3) := by decide +kernel
theorem dX6_shape_15 : decode cX6_shape 15 = .ok (.return_, 1) := by decide +kernel
theorem dX6_blank_0 : decode cX6_blank 0 = .ok (.aload_n 0, 1) := by decide +kernel
theorem dX6_blank_1 : decode cX6_blank 1 = .ok (.getfield 21, 3) := by decide +kernel
theorem dX6_blank_4 : decode cX6_blank 4 = .ok (.iconst 0, 1) := by decide +kernel
theorem dX6_blank_5 : decode cX6_blank 5 = .ok (.invokestatic 25, 3) := by decide +kernel
theorem dX6_blank_8 : decode cX6_blank 8 = .ok (.return_, 1) := by decide +kernel
theorem dX6_copyFrom_0 : decode cX6_copyFrom 0 = .ok (.aload_n 0, 1) := by decide +kernel
theorem dX6_copyFrom_1 : decode cX6_copyFrom 1 = .ok (.aload_n 1, 1) := by decide +kernel
theorem dX6_copyFrom_2 : decode cX6_copyFrom 2 = .ok (.getfield 9, 3) := by decide +kernel
theorem dX6_copyFrom_5 : decode cX6_copyFrom 5 = .ok (.aload_n 1, 1) := by decide +kernel
theorem dX6_copyFrom_6 : decode cX6_copyFrom 6 = .ok (.getfield 15, 3) := by decide +kernel
theorem dX6_copyFrom_9 : decode cX6_copyFrom 9 = .ok (.aload_n 1, 1) := by decide +kernel
theorem dX6_copyFrom_10 : decode cX6_copyFrom 10 = .ok (.getfield 18, 3) := by decide +kernel
theorem dX6_copyFrom_13 : decode cX6_copyFrom 13 = .ok (.invokevirtual 31, 3) := by decide +kernel
theorem dX6_copyFrom_16 : decode cX6_copyFrom 16 = .ok (.aload_n 1, 1) := by decide +kernel
theorem dX6_copyFrom_17 : decode cX6_copyFrom 17 = .ok (.getfield 21, 3) := by decide +kernel
theorem dX6_copyFrom_20 : decode cX6_copyFrom 20 = .ok (.iconst 0, 1) := by decide +kernel
theorem dX6_copyFrom_21 : decode cX6_copyFrom 21 = .ok (.aload_n 0, 1) := by decide +kernel
theorem dX6_copyFrom_22 : decode cX6_copyFrom 22 = .ok (.getfield 21, 3) := by decide +kernel
theorem dX6_copyFrom_25 : decode cX6_copyFrom 25 = .ok (.iconst 0, 1) := by decide +kernel
theorem dX6_copyFrom_26 : decode cX6_copyFrom 26 = .ok (.sipush 256, 3) := by decide +kernel
theorem dX6_copyFrom_29 : decode cX6_copyFrom 29 = .ok (.invokestatic 35, 3) := by decide +kernel
theorem dX6_copyFrom_32 : decode cX6_copyFrom 32 = .ok (.return_, 1) := by decide +kernel
theorem dX6_isMissing_0 : decode cX6_isMissing 0 = .ok (.aload_n 0, 1) := by decide +kernel
theorem dX6_isMissing_1 : decode cX6_isMissing 1 = .ok (.getfield 9, 3) := by decide +kernel
theorem dX6_isMissing_4 : decode cX6_isMissing 4 = .ok (.iconst (-1), 1) := by decide +kernel
theorem dX6_isMissing_5 : decode cX6_isMissing 5 = .ok (.if_icmp .ne 7, 3) := by decide +kernel
theorem dX6_isMissing_8 : decode cX6_isMissing 8 = .ok (.iconst 1, 1) := by decide +kernel
theorem dX6_isMissing_9 : decode cX6_isMissing 9 = .ok (.goto 4, 3) := by decide +kernel
theorem dX6_isMissing_12 : decode cX6_isMissing 12 = .ok (.iconst 0, 1) := by decide +kernel
theorem dX6_isMissing_13 : decode cX6_isMissing 13 = .ok (.ireturn, 1) := by decide +kernel
theorem dX6_has_0 : decode cX6_has 0 = .ok (.iload_n 1, 1) := by decide +kernel
theorem dX6_has_1 : decode cX6_has 1 = .ok (.ifCond .lt 27, 3) := by decide +kernel
theorem dX6_has_4 : decode cX6_has 4 = .ok (.iload_n 1, 1) := by decide +kernel
theorem dX6_has_5 : decode cX6_has 5 = .ok (.aload_n 0, 1) := by decide +kernel
theorem dX6_has_6 : decode cX6_has 6 = .ok (.getfield 15, 3) := by decide +kernel
theorem dX6_has_9 : decode cX6_has 9 = .ok (.if_icmp .ge 19, 3) := by decide +kernel
theorem dX6_has_12 : decode cX6_has 12 = .ok (.iload_n 2, 1) := by decide +kernel
theorem dX6_has_13 : decode cX6_has 13 = .ok (.ifCond .lt 15, 3) := by decide +kernel
theorem dX6_has_16 : decode cX6_has 16 = .ok (.iload_n 2, 1) := by decide +kernel
theorem dX6_has_17 : decode cX6_has 17 = .ok (.aload_n 0, 1) := by decide +kernel
theorem dX6_has_18 : decode cX6_has 18 = .ok (.getfield 18, 3) := by decide +kernel
theorem dX6_has_21 : decode cX6_has 21 = .ok (.if_icmp .ge 7, 3) := by decide +kernel
theorem dX6_has_24 : decode cX6_has 24 = .ok (.iconst 1, 1) := by decide +kernel
theorem dX6_has_25 : decode cX6_has 25 = .ok (.goto 4, 3) := by decide +kernel
theorem dX6_has_28 : decode cX6_has 28 = .ok (.iconst 0, 1) := by decide +kernel
theorem dX6_has_29 : decode cX6_has 29 = .ok (.ireturn, 1) := by decide +kernel
theorem dX6_area_0 : decode cX6_area 0 = .ok (.aload_n 0, 1) := by decide +kernel
theorem dX6_area_1 : decode cX6_area 1 = .ok (.getfield 15, 3) := by decide +kernel
theorem dX6_area_4 : decode cX6_area 4 = .ok (.aload_n 0, 1) := by decide +kernel
theorem dX6_area_5 : decode cX6_area 5 = .ok (.getfield 18, 3) := by decide +kernel
theorem dX6_area_8 : decode cX6_area 8 = .ok (.imul, 1) := by decide +kernel
theorem dX6_area_9 : decode cX6_area 9 = .ok (.ireturn, 1) := by decide +kernel
theorem dX6_place_0 : decode cX6_place 0 = .ok (.iload_n 2, 1) := by decide +kernel
theorem dX6_place_1 : decode cX6_place 1 = .ok (.aload_n 0, 1) := by decide +kernel
theorem dX6_place_2 : decode cX6_place 2 = .ok (.getfield 15, 3) := by decide +kernel
theorem dX6_place_5 : decode cX6_place 5 = .ok (.imul, 1) := by decide +kernel
theorem dX6_place_6 : decode cX6_place 6 = .ok (.iload_n 1, 1) := by decide +kernel
theorem dX6_place_7 : decode cX6_place 7 = .ok (.iadd, 1) := by decide +kernel
theorem dX6_place_8 : decode cX6_place 8 = .ok (.ireturn, 1) := by decide +kernel
theorem dX6_pixel_0 : decode cX6_pixel 0 = .ok (.iload_n 1, 1) := by decide +kernel
theorem dX6_pixel_1 : decode cX6_pixel 1 = .ok (.ifCond .lt 19, 3) := by decide +kernel
theorem dX6_pixel_4 : decode cX6_pixel 4 = .ok (.iload_n 1, 1) := by decide +kernel
theorem dX6_pixel_5 : decode cX6_pixel 5 = .ok (.sipush 256, 3) := by decide +kernel
theorem dX6_pixel_8 : decode cX6_pixel 8 = .ok (.if_icmp .ge 12, 3) := by decide +kernel
theorem dX6_pixel_11 : decode cX6_pixel 11 = .ok (.aload_n 0, 1) := by decide +kernel
theorem dX6_pixel_12 : decode cX6_pixel 12 = .ok (.getfield 21, 3) := by decide +kernel
theorem dX6_pixel_15 : decode cX6_pixel 15 = .ok (.iload_n 1, 1) := by decide +kernel
theorem dX6_pixel_16 : decode cX6_pixel 16 = .ok (.iaload, 1) := by decide +kernel
theorem dX6_pixel_17 : decode cX6_pixel 17 = .ok (.goto 4, 3) := by decide +kernel
theorem dX6_pixel_20 : decode cX6_pixel 20 = .ok (.iconst 0, 1) := by decide +kernel
theorem dX6_pixel_21 : decode cX6_pixel 21 = .ok (.ireturn, 1) := by decide +kernel
theorem dX6_set_0 : decode cX6_set 0 = .ok (.iload_n 1, 1) := by decide +kernel
theorem dX6_set_1 : decode cX6_set 1 = .ok (.ifCond .lt 17, 3) := by decide +kernel
theorem dX6_set_4 : decode cX6_set 4 = .ok (.iload_n 1, 1) := by decide +kernel
theorem dX6_set_5 : decode cX6_set 5 = .ok (.sipush 256, 3) := by decide +kernel
theorem dX6_set_8 : decode cX6_set 8 = .ok (.if_icmp .ge 10, 3) := by decide +kernel
theorem dX6_set_11 : decode cX6_set 11 = .ok (.aload_n 0, 1) := by decide +kernel
theorem dX6_set_12 : decode cX6_set 12 = .ok (.getfield 21, 3) := by decide +kernel
theorem dX6_set_15 : decode cX6_set 15 = .ok (.iload_n 1, 1) := by decide +kernel
theorem dX6_set_16 : decode cX6_set 16 = .ok (.iload_n 2, 1) := by decide +kernel
theorem dX6_set_17 : decode cX6_set 17 = .ok (.iastore, 1) := by decide +kernel
theorem dX6_set_18 : decode cX6_set 18 = .ok (.return_, 1) := by decide +kernel
theorem dX6_least_0 : decode cX6_least 0 = .ok (.aload_n 0, 1) := by decide +kernel
theorem dX6_least_1 : decode cX6_least 1 = .ok (.getfield 9, 3) := by decide +kernel
theorem dX6_least_4 : decode cX6_least 4 = .ok (.iconst 1, 1) := by decide +kernel
theorem dX6_least_5 : decode cX6_least 5 = .ok (.if_icmp .ne 9, 3) := by decide +kernel
theorem dX6_least_8 : decode cX6_least 8 = .ok (.sipush (-32768), 3) := by decide +kernel
theorem dX6_least_11 : decode cX6_least 11 = .ok (.goto 4, 3) := by decide +kernel
theorem dX6_least_14 : decode cX6_least 14 = .ok (.iconst 0, 1) := by decide +kernel
theorem dX6_least_15 : decode cX6_least 15 = .ok (.ireturn, 1) := by decide +kernel
theorem dX6_greatest_0 : decode cX6_greatest 0 = .ok (.aload_n 0, 1) := by decide +kernel
theorem dX6_greatest_1 : decode cX6_greatest 1 = .ok (.getfield 9, 3) := by decide +kernel
theorem dX6_greatest_4 : decode cX6_greatest 4 = .ok (.iconst 1, 1) := by decide +kernel
theorem dX6_greatest_5 : decode cX6_greatest 5 = .ok (.if_icmp .ne 9, 3) := by decide +kernel
theorem dX6_greatest_8 : decode cX6_greatest 8 = .ok (.sipush 32767, 3) := by decide +kernel
theorem dX6_greatest_11 : decode cX6_greatest 11 = .ok (.goto 6, 3) := by decide +kernel
theorem dX6_greatest_14 : decode cX6_greatest 14 = .ok (.sipush 255, 3) := by decide +kernel
theorem dX6_greatest_17 : decode cX6_greatest 17 = .ok (.ireturn, 1) := by decide +kernel
theorem dX6_holds_0 : decode cX6_holds 0 = .ok (.iload_n 1, 1) := by decide +kernel
theorem dX6_holds_1 : decode cX6_holds 1 = .ok (.aload_n 0, 1) := by decide +kernel
theorem dX6_holds_2 : decode cX6_holds 2 = .ok (.invokevirtual 41, 3) := by decide +kernel
theorem dX6_holds_5 : decode cX6_holds 5 = .ok (.if_icmp .lt 15, 3) := by decide +kernel
theorem dX6_holds_8 : decode cX6_holds 8 = .ok (.iload_n 1, 1) := by decide +kernel
theorem dX6_holds_9 : decode cX6_holds 9 = .ok (.aload_n 0, 1) := by decide +kernel
theorem dX6_holds_10 : decode cX6_holds 10 = .ok (.invokevirtual 45, 3) := by decide +kernel
theorem dX6_holds_13 : decode cX6_holds 13 = .ok (.if_icmp .gt 7, 3) := by decide +kernel
theorem dX6_holds_16 : decode cX6_holds 16 = .ok (.iconst 1, 1) := by decide +kernel
theorem dX6_holds_17 : decode cX6_holds 17 = .ok (.goto 4, 3) := by decide +kernel
theorem dX6_holds_20 : decode cX6_holds 20 = .ok (.iconst 0, 1) := by decide +kernel
theorem dX6_holds_21 : decode cX6_holds 21 = .ok (.ireturn, 1) := by decide +kernel
theorem dX6_kept_0 : decode cX6_kept 0 = .ok (.aload_n 0, 1) := by decide +kernel
theorem dX6_kept_1 : decode cX6_kept 1 = .ok (.invokevirtual 41, 3) := by decide +kernel
theorem dX6_kept_4 : decode cX6_kept 4 = .ok (.i2l, 1) := by decide +kernel
theorem dX6_kept_5 : decode cX6_kept 5 = .ok (.aload_n 0, 1) := by decide +kernel
theorem dX6_kept_6 : decode cX6_kept 6 = .ok (.invokevirtual 45, 3) := by decide +kernel
theorem dX6_kept_9 : decode cX6_kept 9 = .ok (.i2l, 1) := by decide +kernel
theorem dX6_kept_10 : decode cX6_kept 10 = .ok (.lload_n 1, 1) := by decide +kernel
theorem dX6_kept_11 : decode cX6_kept 11 = .ok (.invokestatic 48, 3) := by decide +kernel
theorem dX6_kept_14 : decode cX6_kept 14 = .ok (.invokestatic 54, 3) := by decide +kernel
theorem dX6_kept_17 : decode cX6_kept 17 = .ok (.l2i, 1) := by decide +kernel
theorem dX6_kept_18 : decode cX6_kept 18 = .ok (.ireturn, 1) := by decide +kernel
theorem dX6_seen_0 : decode cX6_seen 0 = .ok (.aload_n 0, 1) := by decide +kernel
theorem dX6_seen_1 : decode cX6_seen 1 = .ok (.iload_n 1, 1) := by decide +kernel
theorem dX6_seen_2 : decode cX6_seen 2 = .ok (.iload_n 2, 1) := by decide +kernel
theorem dX6_seen_3 : decode cX6_seen 3 = .ok (.invokevirtual 57, 3) := by decide +kernel
theorem dX6_seen_6 : decode cX6_seen 6 = .ok (.ifCond .eq 14, 3) := by decide +kernel
theorem dX6_seen_9 : decode cX6_seen 9 = .ok (.aload_n 0, 1) := by decide +kernel
theorem dX6_seen_10 : decode cX6_seen 10 = .ok (.aload_n 0, 1) := by decide +kernel
theorem dX6_seen_11 : decode cX6_seen 11 = .ok (.iload_n 1, 1) := by decide +kernel
theorem dX6_seen_12 : decode cX6_seen 12 = .ok (.iload_n 2, 1) := by decide +kernel
theorem dX6_seen_13 : decode cX6_seen 13 = .ok (.invokevirtual 61, 3) := by decide +kernel
theorem dX6_seen_16 : decode cX6_seen 16 = .ok (.invokevirtual 65, 3) := by decide +kernel
theorem dX6_seen_19 : decode cX6_seen 19 = .ok (.ireturn, 1) := by decide +kernel
theorem dX6_seen_20 : decode cX6_seen 20 = .ok (.iload_n 3, 1) := by decide +kernel
theorem dX6_seen_21 : decode cX6_seen 21 = .ok (.iconst 3, 1) := by decide +kernel
theorem dX6_seen_22 : decode cX6_seen 22 = .ok (.if_icmp .ne 5, 3) := by decide +kernel
theorem dX6_seen_25 : decode cX6_seen 25 = .ok (.iconst 0, 1) := by decide +kernel
theorem dX6_seen_26 : decode cX6_seen 26 = .ok (.ireturn, 1) := by decide +kernel
theorem dX6_seen_27 : decode cX6_seen 27 = .ok (.aload_n 0, 1) := by decide +kernel
theorem dX6_seen_28 : decode cX6_seen 28 = .ok (.aload_n 0, 1) := by decide +kernel
theorem dX6_seen_29 : decode cX6_seen 29 = .ok (.iload_n 1, 1) := by decide +kernel
theorem dX6_seen_30 : decode cX6_seen 30 = .ok (.aload_n 0, 1) := by decide +kernel
theorem dX6_seen_31 : decode cX6_seen 31 = .ok (.getfield 15, 3) := by decide +kernel
theorem dX6_seen_34 : decode cX6_seen 34 = .ok (.iload_n 3, 1) := by decide +kernel
theorem dX6_seen_35 : decode cX6_seen 35 = .ok (.invokestatic 69, 3) := by decide +kernel
theorem dX6_seen_38 : decode cX6_seen 38 = .ok (.iload_n 2, 1) := by decide +kernel
theorem dX6_seen_39 : decode cX6_seen 39 = .ok (.aload_n 0, 1) := by decide +kernel
theorem dX6_seen_40 : decode cX6_seen 40 = .ok (.getfield 18, 3) := by decide +kernel
theorem dX6_seen_43 : decode cX6_seen 43 = .ok (.iload_n 3, 1) := by decide +kernel
theorem dX6_seen_44 : decode cX6_seen 44 = .ok (.invokestatic 69, 3) := by decide +kernel
theorem dX6_seen_47 : decode cX6_seen 47 = .ok (.invokevirtual 61, 3) := by decide +kernel
theorem dX6_seen_50 : decode cX6_seen 50 = .ok (.invokevirtual 65, 3) := by decide +kernel
theorem dX6_seen_53 : decode cX6_seen 53 = .ok (.ireturn, 1) := by decide +kernel
theorem dX6_inside_0 : decode cX6_inside 0 = .ok (.iload_n 1, 1) := by decide +kernel
theorem dX6_inside_1 : decode cX6_inside 1 = .ok (.iconst 1, 1) := by decide +kernel
theorem dX6_inside_2 : decode cX6_inside 2 = .ok (.if_icmp .ge 5, 3) := by decide +kernel
theorem dX6_inside_5 : decode cX6_inside 5 = .ok (.iconst 0, 1) := by decide +kernel
theorem dX6_inside_6 : decode cX6_inside 6 = .ok (.ireturn, 1) := by decide +kernel
theorem dX6_inside_7 : decode cX6_inside 7 = .ok (.iload_n 2, 1) := by decide +kernel
theorem dX6_inside_8 : decode cX6_inside 8 = .ok (.iconst 1, 1) := by decide +kernel
theorem dX6_inside_9 : decode cX6_inside 9 = .ok (.if_icmp .ne 28, 3) := by decide +kernel
theorem dX6_inside_12 : decode cX6_inside 12 = .ok (.iload_n 0, 1) := by decide +kernel
theorem dX6_inside_13 : decode cX6_inside 13 = .ok (.iconst 2, 1) := by decide +kernel
theorem dX6_inside_14 : decode cX6_inside 14 = .ok (.iload_n 1, 1) := by decide +kernel
theorem dX6_inside_15 : decode cX6_inside 15 = .ok (.imul, 1) := by decide +kernel
theorem dX6_inside_16 : decode cX6_inside 16 = .ok (.invokestatic 73, 3) := by decide +kernel
theorem dX6_inside_19 : decode cX6_inside 19 = .ok (.istore_n 3, 1) := by decide +kernel
theorem dX6_inside_20 : decode cX6_inside 20 = .ok (.iload_n 3, 1) := by decide +kernel
theorem dX6_inside_21 : decode cX6_inside 21 = .ok (.iload_n 1, 1) := by decide +kernel
theorem dX6_inside_22 : decode cX6_inside 22 = .ok (.if_icmp .ge 7, 3) := by decide +kernel
theorem dX6_inside_25 : decode cX6_inside 25 = .ok (.iload_n 3, 1) := by decide +kernel
theorem dX6_inside_26 : decode cX6_inside 26 = .ok (.goto 10, 3) := by decide +kernel
theorem dX6_inside_29 : decode cX6_inside 29 = .ok (.iconst 2, 1) := by decide +kernel
theorem dX6_inside_30 : decode cX6_inside 30 = .ok (.iload_n 1, 1) := by decide +kernel
theorem dX6_inside_31 : decode cX6_inside 31 = .ok (.imul, 1) := by decide +kernel
theorem dX6_inside_32 : decode cX6_inside 32 = .ok (.iconst 1, 1) := by decide +kernel
theorem dX6_inside_33 : decode cX6_inside 33 = .ok (.isub, 1) := by decide +kernel
theorem dX6_inside_34 : decode cX6_inside 34 = .ok (.iload_n 3, 1) := by decide +kernel
theorem dX6_inside_35 : decode cX6_inside 35 = .ok (.isub, 1) := by decide +kernel
theorem dX6_inside_36 : decode cX6_inside 36 = .ok (.ireturn, 1) := by decide +kernel
theorem dX6_inside_37 : decode cX6_inside 37 = .ok (.iload_n 2, 1) := by decide +kernel
theorem dX6_inside_38 : decode cX6_inside 38 = .ok (.iconst 2, 1) := by decide +kernel
theorem dX6_inside_39 : decode cX6_inside 39 = .ok (.if_icmp .ne 11, 3) := by decide +kernel
theorem dX6_inside_42 : decode cX6_inside 42 = .ok (.iload_n 0, 1) := by decide +kernel
theorem dX6_inside_43 : decode cX6_inside 43 = .ok (.iload_n 1, 1) := by decide +kernel
theorem dX6_inside_44 : decode cX6_inside 44 = .ok (.invokestatic 73, 3) := by decide +kernel
theorem dX6_inside_47 : decode cX6_inside 47 = .ok (.goto 14, 3) := by decide +kernel
theorem dX6_inside_50 : decode cX6_inside 50 = .ok (.iconst 0, 1) := by decide +kernel
theorem dX6_inside_51 : decode cX6_inside 51 = .ok (.iload_n 0, 1) := by decide +kernel
theorem dX6_inside_52 : decode cX6_inside 52 = .ok (.iload_n 1, 1) := by decide +kernel
theorem dX6_inside_53 : decode cX6_inside 53 = .ok (.iconst 1, 1) := by decide +kernel
theorem dX6_inside_54 : decode cX6_inside 54 = .ok (.isub, 1) := by decide +kernel
theorem dX6_inside_55 : decode cX6_inside 55 = .ok (.invokestatic 76, 3) := by decide +kernel
theorem dX6_inside_58 : decode cX6_inside 58 = .ok (.invokestatic 78, 3) := by decide +kernel
theorem dX6_inside_61 : decode cX6_inside 61 = .ok (.ireturn, 1) := by decide +kernel
theorem dX6_leastPixel_0 : decode cX6_leastPixel 0 = .ok (.aload_n 0, 1) := by decide +kernel
theorem dX6_leastPixel_1 : decode cX6_leastPixel 1 = .ok (.invokevirtual 45, 3) := by decide +kernel
theorem dX6_leastPixel_4 : decode cX6_leastPixel 4 = .ok (.istore_n 1, 1) := by decide +kernel
theorem dX6_leastPixel_5 : decode cX6_leastPixel 5 = .ok (.iconst 0, 1) := by decide +kernel
theorem dX6_leastPixel_6 : decode cX6_leastPixel 6 = .ok (.istore_n 2, 1) := by decide +kernel
theorem dX6_leastPixel_7 : decode cX6_leastPixel 7 = .ok (.iload_n 2, 1) := by decide +kernel
theorem dX6_leastPixel_8 : decode cX6_leastPixel 8 = .ok (.aload_n 0, 1) := by decide +kernel
theorem dX6_leastPixel_9 : decode cX6_leastPixel 9 = .ok (.invokevirtual 80, 3) := by decide +kernel
theorem dX6_leastPixel_12 : decode cX6_leastPixel 12 = .ok (.if_icmp .ge 19, 3) := by decide +kernel
theorem dX6_leastPixel_15 : decode cX6_leastPixel 15 = .ok (.iload_n 1, 1) := by decide +kernel
theorem dX6_leastPixel_16 : decode cX6_leastPixel 16 = .ok (.aload_n 0, 1) := by decide +kernel
theorem dX6_leastPixel_17 : decode cX6_leastPixel 17 = .ok (.iload_n 2, 1) := by decide +kernel
theorem dX6_leastPixel_18 : decode cX6_leastPixel 18 = .ok (.invokevirtual 65, 3) := by decide +kernel
theorem dX6_leastPixel_21 : decode cX6_leastPixel 21 = .ok (.invokestatic 76, 3) := by decide +kernel
theorem dX6_leastPixel_24 : decode cX6_leastPixel 24 = .ok (.istore_n 1, 1) := by decide +kernel
theorem dX6_leastPixel_25 : decode cX6_leastPixel 25 = .ok (.iinc 2 1, 3) := by decide +kernel
theorem dX6_leastPixel_28 : decode cX6_leastPixel 28 = .ok (.goto (-21), 3) := by decide +kernel
theorem dX6_leastPixel_31 : decode cX6_leastPixel 31 = .ok (.iload_n 1, 1) := by decide +kernel
theorem dX6_leastPixel_32 : decode cX6_leastPixel 32 = .ok (.ireturn, 1) := by decide +kernel
theorem dX6_greatestPixel_0 : decode cX6_greatestPixel 0 = .ok (.aload_n 0, 1) := by decide +kernel
theorem dX6_greatestPixel_1 : decode cX6_greatestPixel 1 = .ok (.invokevirtual 41, 3) := by decide +kernel
theorem dX6_greatestPixel_4 : decode cX6_greatestPixel 4 = .ok (.istore_n 1, 1) := by decide +kernel
theorem dX6_greatestPixel_5 : decode cX6_greatestPixel 5 = .ok (.iconst 0, 1) := by decide +kernel
theorem dX6_greatestPixel_6 : decode cX6_greatestPixel 6 = .ok (.istore_n 2, 1) := by decide +kernel
theorem dX6_greatestPixel_7 : decode cX6_greatestPixel 7 = .ok (.iload_n 2, 1) := by decide +kernel
theorem dX6_greatestPixel_8 : decode cX6_greatestPixel 8 = .ok (.aload_n 0, 1) := by decide +kernel
theorem dX6_greatestPixel_9 : decode cX6_greatestPixel 9 = .ok (.invokevirtual 80, 3) := by decide +kernel
theorem dX6_greatestPixel_12 : decode cX6_greatestPixel 12 = .ok (.if_icmp .ge 19, 3) := by decide +kernel
theorem dX6_greatestPixel_15 : decode cX6_greatestPixel 15 = .ok (.iload_n 1, 1) := by decide +kernel
theorem dX6_greatestPixel_16 : decode cX6_greatestPixel 16 = .ok (.aload_n 0, 1) := by decide +kernel
theorem dX6_greatestPixel_17 : decode cX6_greatestPixel 17 = .ok (.iload_n 2, 1) := by decide +kernel
theorem dX6_greatestPixel_18 : decode cX6_greatestPixel 18 = .ok (.invokevirtual 65, 3) := by decide +kernel
theorem dX6_greatestPixel_21 : decode cX6_greatestPixel 21 = .ok (.invokestatic 78, 3) := by decide +kernel
theorem dX6_greatestPixel_24 : decode cX6_greatestPixel 24 = .ok (.istore_n 1, 1) := by decide +kernel
theorem dX6_greatestPixel_25 : decode cX6_greatestPixel 25 = .ok (.iinc 2 1, 3) := by decide +kernel
theorem dX6_greatestPixel_28 : decode cX6_greatestPixel 28 = .ok (.goto (-21), 3) := by decide +kernel
theorem dX6_greatestPixel_31 : decode cX6_greatestPixel 31 = .ok (.iload_n 1, 1) := by decide +kernel
theorem dX6_greatestPixel_32 : decode cX6_greatestPixel 32 = .ok (.ireturn, 1) := by decide +kernel
theorem dX6_sum_0 : decode cX6_sum 0 = .ok (.iconst 0, 1) := by decide +kernel
theorem dX6_sum_1 : decode cX6_sum 1 = .ok (.istore_n 1, 1) := by decide +kernel
theorem dX6_sum_2 : decode cX6_sum 2 = .ok (.iconst 0, 1) := by decide +kernel
theorem dX6_sum_3 : decode cX6_sum 3 = .ok (.istore_n 2, 1) := by decide +kernel
theorem dX6_sum_4 : decode cX6_sum 4 = .ok (.iload_n 2, 1) := by decide +kernel
theorem dX6_sum_5 : decode cX6_sum 5 = .ok (.aload_n 0, 1) := by decide +kernel
theorem dX6_sum_6 : decode cX6_sum 6 = .ok (.invokevirtual 80, 3) := by decide +kernel
theorem dX6_sum_9 : decode cX6_sum 9 = .ok (.if_icmp .ge 17, 3) := by decide +kernel
theorem dX6_sum_12 : decode cX6_sum 12 = .ok (.iload_n 1, 1) := by decide +kernel
theorem dX6_sum_13 : decode cX6_sum 13 = .ok (.aload_n 0, 1) := by decide +kernel
theorem dX6_sum_14 : decode cX6_sum 14 = .ok (.iload_n 2, 1) := by decide +kernel
theorem dX6_sum_15 : decode cX6_sum 15 = .ok (.invokevirtual 65, 3) := by decide +kernel
theorem dX6_sum_18 : decode cX6_sum 18 = .ok (.iadd, 1) := by decide +kernel
theorem dX6_sum_19 : decode cX6_sum 19 = .ok (.istore_n 1, 1) := by decide +kernel
theorem dX6_sum_20 : decode cX6_sum 20 = .ok (.iinc 2 1, 3) := by decide +kernel
theorem dX6_sum_23 : decode cX6_sum 23 = .ok (.goto (-19), 3) := by decide +kernel
theorem dX6_sum_26 : decode cX6_sum 26 = .ok (.iload_n 1, 1) := by decide +kernel
theorem dX6_sum_27 : decode cX6_sum 27 = .ok (.ireturn, 1) := by decide +kernel
theorem dX6_unlikePixels_0 : decode cX6_unlikePixels 0 = .ok (.iconst 0, 1) := by decide +kernel
theorem dX6_unlikePixels_1 : decode cX6_unlikePixels 1 = .ok (.istore_n 2, 1) := by decide +kernel
theorem dX6_unlikePixels_2 : decode cX6_unlikePixels 2 = .ok (.iconst 0, 1) := by decide +kernel
theorem dX6_unlikePixels_3 : decode cX6_unlikePixels 3 = .ok (.istore_n 3, 1) := by decide +kernel
theorem dX6_unlikePixels_4 : decode cX6_unlikePixels 4 = .ok (.iload_n 3, 1) := by decide +kernel
theorem dX6_unlikePixels_5 : decode cX6_unlikePixels 5 = .ok (.aload_n 0, 1) := by decide +kernel
theorem dX6_unlikePixels_6 : decode cX6_unlikePixels 6 = .ok (.invokevirtual 80, 3) := by decide +kernel
theorem dX6_unlikePixels_9 : decode cX6_unlikePixels 9 = .ok (.if_icmp .ge 30, 3) := by decide +kernel
theorem dX6_unlikePixels_12 : decode cX6_unlikePixels 12 = .ok (.iload_n 2, 1) := by decide +kernel
theorem dX6_unlikePixels_13 : decode cX6_unlikePixels 13 = .ok (.aload_n 0, 1) := by decide +kernel
theorem dX6_unlikePixels_14 : decode cX6_unlikePixels 14 = .ok (.iload_n 3, 1) := by decide +kernel
theorem dX6_unlikePixels_15 : decode cX6_unlikePixels 15 = .ok (.invokevirtual 65, 3) := by decide +kernel
theorem dX6_unlikePixels_18 : decode cX6_unlikePixels 18 = .ok (.aload_n 1, 1) := by decide +kernel
theorem dX6_unlikePixels_19 : decode cX6_unlikePixels 19 = .ok (.iload_n 3, 1) := by decide +kernel
theorem dX6_unlikePixels_20 : decode cX6_unlikePixels 20 = .ok (.invokevirtual 65, 3) := by decide +kernel
theorem dX6_unlikePixels_23 : decode cX6_unlikePixels 23 = .ok (.if_icmp .ne 7, 3) := by decide +kernel
theorem dX6_unlikePixels_26 : decode cX6_unlikePixels 26 = .ok (.iconst 0, 1) := by decide +kernel
theorem dX6_unlikePixels_27 : decode cX6_unlikePixels 27 = .ok (.goto 4, 3) := by decide +kernel
theorem dX6_unlikePixels_30 : decode cX6_unlikePixels 30 = .ok (.iconst 1, 1) := by decide +kernel
theorem dX6_unlikePixels_31 : decode cX6_unlikePixels 31 = .ok (.iadd, 1) := by decide +kernel
theorem dX6_unlikePixels_32 : decode cX6_unlikePixels 32 = .ok (.istore_n 2, 1) := by decide +kernel
theorem dX6_unlikePixels_33 : decode cX6_unlikePixels 33 = .ok (.iinc 3 1, 3) := by decide +kernel
theorem dX6_unlikePixels_36 : decode cX6_unlikePixels 36 = .ok (.goto (-32), 3) := by decide +kernel
theorem dX6_unlikePixels_39 : decode cX6_unlikePixels 39 = .ok (.iload_n 2, 1) := by decide +kernel
theorem dX6_unlikePixels_40 : decode cX6_unlikePixels 40 = .ok (.ireturn, 1) := by decide +kernel
theorem dX6_turnedFrom_0 : decode cX6_turnedFrom 0 = .ok (.iload_n 2, 1) := by decide +kernel
theorem dX6_turnedFrom_1 : decode cX6_turnedFrom 1 = .ok (.iconst 2, 1) := by decide +kernel
theorem dX6_turnedFrom_2 : decode cX6_turnedFrom 2 = .ok (.irem, 1) := by decide +kernel
theorem dX6_turnedFrom_3 : decode cX6_turnedFrom 3 = .ok (.ifCond .eq 7, 3) := by decide +kernel
theorem dX6_turnedFrom_6 : decode cX6_turnedFrom 6 = .ok (.iconst 1, 1) := by decide +kernel
theorem dX6_turnedFrom_7 : decode cX6_turnedFrom 7 = .ok (.goto 4, 3) := by decide +kernel
theorem dX6_turnedFrom_10 : decode cX6_turnedFrom 10 = .ok (.iconst 0, 1) := by decide +kernel
theorem dX6_turnedFrom_11 : decode cX6_turnedFrom 11 = .ok (.istore 4, 2) := by decide +kernel
theorem dX6_turnedFrom_13 : decode cX6_turnedFrom 13 = .ok (.aload_n 0, 1) := by decide +kernel
theorem dX6_turnedFrom_14 : decode cX6_turnedFrom 14 = .ok (.aload_n 1, 1) := by decide +kernel
theorem dX6_turnedFrom_15 : decode cX6_turnedFrom 15 = .ok (.getfield 9, 3) := by decide +kernel
theorem dX6_turnedFrom_18 : decode cX6_turnedFrom 18 = .ok (.iload 4, 2) := by decide +kernel
theorem dX6_turnedFrom_20 : decode cX6_turnedFrom 20 = .ok (.ifCond .eq 10, 3) := by decide +kernel
theorem dX6_turnedFrom_23 : decode cX6_turnedFrom 23 = .ok (.aload_n 1, 1) := by decide +kernel
theorem dX6_turnedFrom_24 : decode cX6_turnedFrom 24 = .ok (.getfield 18, 3) := by decide +kernel
theorem dX6_turnedFrom_27 : decode cX6_turnedFrom 27 = .ok (.goto 7, 3) := by decide +kernel
theorem dX6_turnedFrom_30 : decode cX6_turnedFrom 30 = .ok (.aload_n 1, 1) := by decide +kernel
theorem dX6_turnedFrom_31 : decode cX6_turnedFrom 31 = .ok (.getfield 15, 3) := by decide +kernel
theorem dX6_turnedFrom_34 : decode cX6_turnedFrom 34 = .ok (.iload 4, 2) := by decide +kernel
theorem dX6_turnedFrom_36 : decode cX6_turnedFrom 36 = .ok (.ifCond .eq 10, 3) := by decide +kernel
theorem dX6_turnedFrom_39 : decode cX6_turnedFrom 39 = .ok (.aload_n 1, 1) := by decide +kernel
theorem dX6_turnedFrom_40 : decode cX6_turnedFrom 40 = .ok (.getfield 15, 3) := by decide +kernel
theorem dX6_turnedFrom_43 : decode cX6_turnedFrom 43 = .ok (.goto 7, 3) := by decide +kernel
theorem dX6_turnedFrom_46 : decode cX6_turnedFrom 46 = .ok (.aload_n 1, 1) := by decide +kernel
theorem dX6_turnedFrom_47 : decode cX6_turnedFrom 47 = .ok (.getfield 18, 3) := by decide +kernel
theorem dX6_turnedFrom_50 : decode cX6_turnedFrom 50 = .ok (.invokevirtual 31, 3) := by decide +kernel
theorem dX6_turnedFrom_53 : decode cX6_turnedFrom 53 = .ok (.iconst 0, 1) := by decide +kernel
theorem dX6_turnedFrom_54 : decode cX6_turnedFrom 54 = .ok (.istore 5, 2) := by decide +kernel
theorem dX6_turnedFrom_56 : decode cX6_turnedFrom 56 = .ok (.iload 5, 2) := by decide +kernel
theorem dX6_turnedFrom_58 : decode cX6_turnedFrom 58 = .ok (.aload_n 0, 1) := by decide +kernel
theorem dX6_turnedFrom_59 : decode cX6_turnedFrom 59 = .ok (.getfield 18, 3) := by decide +kernel
theorem dX6_turnedFrom_62 : decode cX6_turnedFrom 62 = .ok (.if_icmp .ge 155, 3) := by decide +kernel
theorem dX6_turnedFrom_65 : decode cX6_turnedFrom 65 = .ok (.iconst 0, 1) := by decide +kernel
theorem dX6_turnedFrom_66 : decode cX6_turnedFrom 66 = .ok (.istore 6, 2) := by decide +kernel
theorem dX6_turnedFrom_68 : decode cX6_turnedFrom 68 = .ok (.iload 6, 2) := by decide +kernel
theorem dX6_turnedFrom_70 : decode cX6_turnedFrom 70 = .ok (.aload_n 0, 1) := by decide +kernel
theorem dX6_turnedFrom_71 : decode cX6_turnedFrom 71 = .ok (.getfield 15, 3) := by decide +kernel
theorem dX6_turnedFrom_74 : decode cX6_turnedFrom 74 = .ok (.if_icmp .ge 137, 3) := by decide +kernel
theorem dX6_turnedFrom_77 : decode cX6_turnedFrom 77 = .ok (.aload_n 0, 1) := by decide +kernel
theorem dX6_turnedFrom_78 : decode cX6_turnedFrom 78 = .ok (.getfield 15, 3) := by decide +kernel
theorem dX6_turnedFrom_81 : decode cX6_turnedFrom 81 = .ok (.iconst 1, 1) := by decide +kernel
theorem dX6_turnedFrom_82 : decode cX6_turnedFrom 82 = .ok (.isub, 1) := by decide +kernel
theorem dX6_turnedFrom_83 : decode cX6_turnedFrom 83 = .ok (.iload 6, 2) := by decide +kernel
theorem dX6_turnedFrom_85 : decode cX6_turnedFrom 85 = .ok (.isub, 1) := by decide +kernel
theorem dX6_turnedFrom_86 : decode cX6_turnedFrom 86 = .ok (.istore 7, 2) := by decide +kernel
theorem dX6_turnedFrom_88 : decode cX6_turnedFrom 88 = .ok (.aload_n 0, 1) := by decide +kernel
theorem dX6_turnedFrom_89 : decode cX6_turnedFrom 89 = .ok (.getfield 18, 3) := by decide +kernel
theorem dX6_turnedFrom_92 : decode cX6_turnedFrom 92 = .ok (.iconst 1, 1) := by decide +kernel
theorem dX6_turnedFrom_93 : decode cX6_turnedFrom 93 = .ok (.isub, 1) := by decide +kernel
theorem dX6_turnedFrom_94 : decode cX6_turnedFrom 94 = .ok (.iload 5, 2) := by decide +kernel
theorem dX6_turnedFrom_96 : decode cX6_turnedFrom 96 = .ok (.isub, 1) := by decide +kernel
theorem dX6_turnedFrom_97 : decode cX6_turnedFrom 97 = .ok (.istore 8, 2) := by decide +kernel
theorem dX6_turnedFrom_99 : decode cX6_turnedFrom 99 = .ok (.iload_n 2, 1) := by decide +kernel
theorem dX6_turnedFrom_100 : decode cX6_turnedFrom 100 = .ok (.ifCond .ne 8, 3) := by decide +kernel
theorem dX6_turnedFrom_103 : decode cX6_turnedFrom 103 = .ok (.iload 6, 2) := by decide +kernel
theorem dX6_turnedFrom_105 : decode cX6_turnedFrom 105 = .ok (.goto 25, 3) := by decide +kernel
theorem dX6_turnedFrom_108 : decode cX6_turnedFrom 108 = .ok (.iload_n 2, 1) := by decide +kernel
theorem dX6_turnedFrom_109 : decode cX6_turnedFrom 109 = .ok (.iconst 1, 1) := by decide +kernel
theorem dX6_turnedFrom_110 : decode cX6_turnedFrom 110 = .ok (.if_icmp .ne 8, 3) := by decide +kernel
theorem dX6_turnedFrom_113 : decode cX6_turnedFrom 113 = .ok (.iload 5, 2) := by decide +kernel
theorem dX6_turnedFrom_115 : decode cX6_turnedFrom 115 = .ok (.goto 15, 3) := by decide +kernel
theorem dX6_turnedFrom_118 : decode cX6_turnedFrom 118 = .ok (.iload_n 2, 1) := by decide +kernel
theorem dX6_turnedFrom_119 : decode cX6_turnedFrom 119 = .ok (.iconst 2, 1) := by decide +kernel
theorem dX6_turnedFrom_120 : decode cX6_turnedFrom 120 = .ok (.if_icmp .ne 8, 3) := by decide +kernel
theorem dX6_turnedFrom_123 : decode cX6_turnedFrom 123 = .ok (.iload 7, 2) := by decide +kernel
theorem dX6_turnedFrom_125 : decode cX6_turnedFrom 125 = .ok (.goto 5, 3) := by decide +kernel
theorem dX6_turnedFrom_128 : decode cX6_turnedFrom 128 = .ok (.iload 8, 2) := by decide +kernel
theorem dX6_turnedFrom_130 : decode cX6_turnedFrom 130 = .ok (.istore 9, 2) := by decide +kernel
theorem dX6_turnedFrom_132 : decode cX6_turnedFrom 132 = .ok (.iload_n 2, 1) := by decide +kernel
theorem dX6_turnedFrom_133 : decode cX6_turnedFrom 133 = .ok (.ifCond .ne 8, 3) := by decide +kernel
theorem dX6_turnedFrom_136 : decode cX6_turnedFrom 136 = .ok (.iload 5, 2) := by decide +kernel
theorem dX6_turnedFrom_138 : decode cX6_turnedFrom 138 = .ok (.goto 25, 3) := by decide +kernel
theorem dX6_turnedFrom_141 : decode cX6_turnedFrom 141 = .ok (.iload_n 2, 1) := by decide +kernel
theorem dX6_turnedFrom_142 : decode cX6_turnedFrom 142 = .ok (.iconst 1, 1) := by decide +kernel
theorem dX6_turnedFrom_143 : decode cX6_turnedFrom 143 = .ok (.if_icmp .ne 8, 3) := by decide +kernel
theorem dX6_turnedFrom_146 : decode cX6_turnedFrom 146 = .ok (.iload 7, 2) := by decide +kernel
theorem dX6_turnedFrom_148 : decode cX6_turnedFrom 148 = .ok (.goto 15, 3) := by decide +kernel
theorem dX6_turnedFrom_151 : decode cX6_turnedFrom 151 = .ok (.iload_n 2, 1) := by decide +kernel
theorem dX6_turnedFrom_152 : decode cX6_turnedFrom 152 = .ok (.iconst 2, 1) := by decide +kernel
theorem dX6_turnedFrom_153 : decode cX6_turnedFrom 153 = .ok (.if_icmp .ne 8, 3) := by decide +kernel
theorem dX6_turnedFrom_156 : decode cX6_turnedFrom 156 = .ok (.iload 8, 2) := by decide +kernel
theorem dX6_turnedFrom_158 : decode cX6_turnedFrom 158 = .ok (.goto 5, 3) := by decide +kernel
theorem dX6_turnedFrom_161 : decode cX6_turnedFrom 161 = .ok (.iload 6, 2) := by decide +kernel
theorem dX6_turnedFrom_163 : decode cX6_turnedFrom 163 = .ok (.istore 10, 2) := by decide +kernel
theorem dX6_turnedFrom_165 : decode cX6_turnedFrom 165 = .ok (.aload_n 0, 1) := by decide +kernel
theorem dX6_turnedFrom_166 : decode cX6_turnedFrom 166 = .ok (.aload_n 0, 1) := by decide +kernel
theorem dX6_turnedFrom_167 : decode cX6_turnedFrom 167 = .ok (.iload 6, 2) := by decide +kernel
theorem dX6_turnedFrom_169 : decode cX6_turnedFrom 169 = .ok (.iload 5, 2) := by decide +kernel
theorem dX6_turnedFrom_171 : decode cX6_turnedFrom 171 = .ok (.invokevirtual 61, 3) := by decide +kernel
theorem dX6_turnedFrom_174 : decode cX6_turnedFrom 174 = .ok (.aload_n 1, 1) := by decide +kernel
theorem dX6_turnedFrom_175 : decode cX6_turnedFrom 175 = .ok (.aload_n 1, 1) := by decide +kernel
theorem dX6_turnedFrom_176 : decode cX6_turnedFrom 176 = .ok (.iload_n 3, 1) := by decide +kernel
theorem dX6_turnedFrom_177 : decode cX6_turnedFrom 177 = .ok (.ifCond .eq 15, 3) := by decide +kernel
theorem dX6_turnedFrom_180 : decode cX6_turnedFrom 180 = .ok (.aload_n 1, 1) := by decide +kernel
theorem dX6_turnedFrom_181 : decode cX6_turnedFrom 181 = .ok (.getfield 15, 3) := by decide +kernel
theorem dX6_turnedFrom_184 : decode cX6_turnedFrom 184 = .ok (.iconst 1, 1) := by decide +kernel
theorem dX6_turnedFrom_185 : decode cX6_turnedFrom 185 = .ok (.isub, 1) := by decide +kernel
theorem dX6_turnedFrom_186 : decode cX6_turnedFrom 186 = .ok (.iload 9, 2) := by decide +kernel
theorem dX6_turnedFrom_188 : decode cX6_turnedFrom 188 = .ok (.isub, 1) := by decide +kernel
theorem dX6_turnedFrom_189 : decode cX6_turnedFrom 189 = .ok (.goto 5, 3) := by decide +kernel
theorem dX6_turnedFrom_192 : decode cX6_turnedFrom 192 = .ok (.iload 9, 2) := by decide +kernel
theorem dX6_turnedFrom_194 : decode cX6_turnedFrom 194 = .ok (.iload 10, 2) := by decide +kernel
theorem dX6_turnedFrom_196 : decode cX6_turnedFrom 196 = .ok (.invokevirtual 61, 3) := by decide +kernel
theorem dX6_turnedFrom_199 : decode cX6_turnedFrom 199 = .ok (.invokevirtual 65, 3) := by decide +kernel
theorem dX6_turnedFrom_202 : decode cX6_turnedFrom 202 = .ok (.invokevirtual 83, 3) := by decide +kernel
theorem dX6_turnedFrom_205 : decode cX6_turnedFrom 205 = .ok (.iinc 6 1, 3) := by decide +kernel
theorem dX6_turnedFrom_208 : decode cX6_turnedFrom 208 = .ok (.goto (-140), 3) := by decide +kernel
theorem dX6_turnedFrom_211 : decode cX6_turnedFrom 211 = .ok (.iinc 5 1, 3) := by decide +kernel
theorem dX6_turnedFrom_214 : decode cX6_turnedFrom 214 = .ok (.goto (-158), 3) := by decide +kernel
theorem dX6_turnedFrom_217 : decode cX6_turnedFrom 217 = .ok (.return_, 1) := by decide +kernel
theorem dX6_energyAt_0 : decode cX6_energyAt 0 = .ok (.aload_n 0, 1) := by decide +kernel
theorem dX6_energyAt_1 : decode cX6_energyAt 1 = .ok (.iload_n 1, 1) := by decide +kernel
theorem dX6_energyAt_2 : decode cX6_energyAt 2 = .ok (.iconst 1, 1) := by decide +kernel
theorem dX6_energyAt_3 : decode cX6_energyAt 3 = .ok (.isub, 1) := by decide +kernel
theorem dX6_energyAt_4 : decode cX6_energyAt 4 = .ok (.iload_n 2, 1) := by decide +kernel
theorem dX6_energyAt_5 : decode cX6_energyAt 5 = .ok (.iconst 0, 1) := by decide +kernel
theorem dX6_energyAt_6 : decode cX6_energyAt 6 = .ok (.invokevirtual 87, 3) := by decide +kernel
theorem dX6_energyAt_9 : decode cX6_energyAt 9 = .ok (.aload_n 0, 1) := by decide +kernel
theorem dX6_energyAt_10 : decode cX6_energyAt 10 = .ok (.iload_n 1, 1) := by decide +kernel
theorem dX6_energyAt_11 : decode cX6_energyAt 11 = .ok (.iconst 1, 1) := by decide +kernel
theorem dX6_energyAt_12 : decode cX6_energyAt 12 = .ok (.iadd, 1) := by decide +kernel
theorem dX6_energyAt_13 : decode cX6_energyAt 13 = .ok (.iload_n 2, 1) := by decide +kernel
theorem dX6_energyAt_14 : decode cX6_energyAt 14 = .ok (.iconst 0, 1) := by decide +kernel
theorem dX6_energyAt_15 : decode cX6_energyAt 15 = .ok (.invokevirtual 87, 3) := by decide +kernel
theorem dX6_energyAt_18 : decode cX6_energyAt 18 = .ok (.isub, 1) := by decide +kernel
theorem dX6_energyAt_19 : decode cX6_energyAt 19 = .ok (.istore_n 3, 1) := by decide +kernel
theorem dX6_energyAt_20 : decode cX6_energyAt 20 = .ok (.aload_n 0, 1) := by decide +kernel
theorem dX6_energyAt_21 : decode cX6_energyAt 21 = .ok (.iload_n 1, 1) := by decide +kernel
theorem dX6_energyAt_22 : decode cX6_energyAt 22 = .ok (.iload_n 2, 1) := by decide +kernel
theorem dX6_energyAt_23 : decode cX6_energyAt 23 = .ok (.iconst 1, 1) := by decide +kernel
theorem dX6_energyAt_24 : decode cX6_energyAt 24 = .ok (.isub, 1) := by decide +kernel
theorem dX6_energyAt_25 : decode cX6_energyAt 25 = .ok (.iconst 0, 1) := by decide +kernel
theorem dX6_energyAt_26 : decode cX6_energyAt 26 = .ok (.invokevirtual 87, 3) := by decide +kernel
theorem dX6_energyAt_29 : decode cX6_energyAt 29 = .ok (.aload_n 0, 1) := by decide +kernel
theorem dX6_energyAt_30 : decode cX6_energyAt 30 = .ok (.iload_n 1, 1) := by decide +kernel
theorem dX6_energyAt_31 : decode cX6_energyAt 31 = .ok (.iload_n 2, 1) := by decide +kernel
theorem dX6_energyAt_32 : decode cX6_energyAt 32 = .ok (.iconst 1, 1) := by decide +kernel
theorem dX6_energyAt_33 : decode cX6_energyAt 33 = .ok (.iadd, 1) := by decide +kernel
theorem dX6_energyAt_34 : decode cX6_energyAt 34 = .ok (.iconst 0, 1) := by decide +kernel
theorem dX6_energyAt_35 : decode cX6_energyAt 35 = .ok (.invokevirtual 87, 3) := by decide +kernel
theorem dX6_energyAt_38 : decode cX6_energyAt 38 = .ok (.isub, 1) := by decide +kernel
theorem dX6_energyAt_39 : decode cX6_energyAt 39 = .ok (.istore 4, 2) := by decide +kernel
theorem dX6_energyAt_41 : decode cX6_energyAt 41 = .ok (.iload_n 3, 1) := by decide +kernel
theorem dX6_energyAt_42 : decode cX6_energyAt 42 = .ok (.invokestatic 90, 3) := by decide +kernel
theorem dX6_energyAt_45 : decode cX6_energyAt 45 = .ok (.iload 4, 2) := by decide +kernel
theorem dX6_energyAt_47 : decode cX6_energyAt 47 = .ok (.invokestatic 90, 3) := by decide +kernel
theorem dX6_energyAt_50 : decode cX6_energyAt 50 = .ok (.iadd, 1) := by decide +kernel
theorem dX6_energyAt_51 : decode cX6_energyAt 51 = .ok (.ireturn, 1) := by decide +kernel
theorem dX6_bytesEach_0 : decode cX6_bytesEach 0 = .ok (.aload_n 0, 1) := by decide +kernel
theorem dX6_bytesEach_1 : decode cX6_bytesEach 1 = .ok (.getfield 9, 3) := by decide +kernel
theorem dX6_bytesEach_4 : decode cX6_bytesEach 4 = .ok (.iconst 1, 1) := by decide +kernel
theorem dX6_bytesEach_5 : decode cX6_bytesEach 5 = .ok (.if_icmp .ne 7, 3) := by decide +kernel
theorem dX6_bytesEach_8 : decode cX6_bytesEach 8 = .ok (.iconst 2, 1) := by decide +kernel
theorem dX6_bytesEach_9 : decode cX6_bytesEach 9 = .ok (.goto 4, 3) := by decide +kernel
theorem dX6_bytesEach_12 : decode cX6_bytesEach 12 = .ok (.iconst 1, 1) := by decide +kernel
theorem dX6_bytesEach_13 : decode cX6_bytesEach 13 = .ok (.ireturn, 1) := by decide +kernel
theorem dX6_rolled_0 : decode cX6_rolled 0 = .ok (.iload_n 1, 1) := by decide +kernel
theorem dX6_rolled_1 : decode cX6_rolled 1 = .ok (.ifCond .lt 36, 3) := by decide +kernel
theorem dX6_rolled_4 : decode cX6_rolled 4 = .ok (.iload_n 1, 1) := by decide +kernel
theorem dX6_rolled_5 : decode cX6_rolled 5 = .ok (.iconst 3, 1) := by decide +kernel
theorem dX6_rolled_6 : decode cX6_rolled 6 = .ok (.if_icmp .ge 31, 3) := by decide +kernel
theorem dX6_rolled_9 : decode cX6_rolled 9 = .ok (.iload_n 1, 1) := by decide +kernel
theorem dX6_rolled_10 : decode cX6_rolled 10 = .ok (.ifCond .ne 10, 3) := by decide +kernel
theorem dX6_rolled_13 : decode cX6_rolled 13 = .ok (.aload_n 0, 1) := by decide +kernel
theorem dX6_rolled_14 : decode cX6_rolled 14 = .ok (.getfield 9, 3) := by decide +kernel
theorem dX6_rolled_17 : decode cX6_rolled 17 = .ok (.goto 19, 3) := by decide +kernel
theorem dX6_rolled_20 : decode cX6_rolled 20 = .ok (.iload_n 1, 1) := by decide +kernel
theorem dX6_rolled_21 : decode cX6_rolled 21 = .ok (.iconst 1, 1) := by decide +kernel
theorem dX6_rolled_22 : decode cX6_rolled 22 = .ok (.if_icmp .ne 10, 3) := by decide +kernel
theorem dX6_rolled_25 : decode cX6_rolled 25 = .ok (.aload_n 0, 1) := by decide +kernel
theorem dX6_rolled_26 : decode cX6_rolled 26 = .ok (.getfield 15, 3) := by decide +kernel
theorem dX6_rolled_29 : decode cX6_rolled 29 = .ok (.goto 7, 3) := by decide +kernel
theorem dX6_rolled_32 : decode cX6_rolled 32 = .ok (.aload_n 0, 1) := by decide +kernel
theorem dX6_rolled_33 : decode cX6_rolled 33 = .ok (.getfield 18, 3) := by decide +kernel
theorem dX6_rolled_36 : decode cX6_rolled 36 = .ok (.ireturn, 1) := by decide +kernel
theorem dX6_rolled_37 : decode cX6_rolled 37 = .ok (.iconst 3, 1) := by decide +kernel
theorem dX6_rolled_38 : decode cX6_rolled 38 = .ok (.istore_n 2, 1) := by decide +kernel
theorem dX6_rolled_39 : decode cX6_rolled 39 = .ok (.iconst 0, 1) := by decide +kernel
theorem dX6_rolled_40 : decode cX6_rolled 40 = .ok (.istore_n 3, 1) := by decide +kernel
theorem dX6_rolled_41 : decode cX6_rolled 41 = .ok (.iconst 1, 1) := by decide +kernel
theorem dX6_rolled_42 : decode cX6_rolled 42 = .ok (.istore 4, 2) := by decide +kernel
theorem dX6_rolled_44 : decode cX6_rolled 44 = .ok (.iload 4, 2) := by decide +kernel
theorem dX6_rolled_46 : decode cX6_rolled 46 = .ok (.aload_n 0, 1) := by decide +kernel
theorem dX6_rolled_47 : decode cX6_rolled 47 = .ok (.invokevirtual 80, 3) := by decide +kernel
theorem dX6_rolled_50 : decode cX6_rolled 50 = .ok (.if_icmp .gt 71, 3) := by decide +kernel
theorem dX6_rolled_53 : decode cX6_rolled 53 = .ok (.aload_n 0, 1) := by decide +kernel
theorem dX6_rolled_54 : decode cX6_rolled 54 = .ok (.iload_n 3, 1) := by decide +kernel
theorem dX6_rolled_55 : decode cX6_rolled 55 = .ok (.iload 4, 2) := by decide +kernel
theorem dX6_rolled_57 : decode cX6_rolled 57 = .ok (.invokevirtual 93, 3) := by decide +kernel
theorem dX6_rolled_60 : decode cX6_rolled 60 = .ok (.ifCond .eq 55, 3) := by decide +kernel
theorem dX6_rolled_63 : decode cX6_rolled 63 = .ok (.iload_n 1, 1) := by decide +kernel
theorem dX6_rolled_64 : decode cX6_rolled 64 = .ok (.iload_n 2, 1) := by decide +kernel
theorem dX6_rolled_65 : decode cX6_rolled 65 = .ok (.if_icmp .lt 38, 3) := by decide +kernel
theorem dX6_rolled_68 : decode cX6_rolled 68 = .ok (.iload_n 1, 1) := by decide +kernel
theorem dX6_rolled_69 : decode cX6_rolled 69 = .ok (.iload_n 2, 1) := by decide +kernel
theorem dX6_rolled_70 : decode cX6_rolled 70 = .ok (.aload_n 0, 1) := by decide +kernel
theorem dX6_rolled_71 : decode cX6_rolled 71 = .ok (.invokevirtual 96, 3) := by decide +kernel
theorem dX6_rolled_74 : decode cX6_rolled 74 = .ok (.iadd, 1) := by decide +kernel
theorem dX6_rolled_75 : decode cX6_rolled 75 = .ok (.if_icmp .gt 28, 3) := by decide +kernel
theorem dX6_rolled_78 : decode cX6_rolled 78 = .ok (.iload_n 1, 1) := by decide +kernel
theorem dX6_rolled_79 : decode cX6_rolled 79 = .ok (.iload_n 2, 1) := by decide +kernel
theorem dX6_rolled_80 : decode cX6_rolled 80 = .ok (.if_icmp .ne 10, 3) := by decide +kernel
theorem dX6_rolled_83 : decode cX6_rolled 83 = .ok (.iload 4, 2) := by decide +kernel
theorem dX6_rolled_85 : decode cX6_rolled 85 = .ok (.iload_n 3, 1) := by decide +kernel
theorem dX6_rolled_86 : decode cX6_rolled 86 = .ok (.isub, 1) := by decide +kernel
theorem dX6_rolled_87 : decode cX6_rolled 87 = .ok (.goto 15, 3) := by decide +kernel
theorem dX6_rolled_90 : decode cX6_rolled 90 = .ok (.aload_n 0, 1) := by decide +kernel
theorem dX6_rolled_91 : decode cX6_rolled 91 = .ok (.aload_n 0, 1) := by decide +kernel
theorem dX6_rolled_92 : decode cX6_rolled 92 = .ok (.iload_n 3, 1) := by decide +kernel
theorem dX6_rolled_93 : decode cX6_rolled 93 = .ok (.invokevirtual 65, 3) := by decide +kernel
theorem dX6_rolled_96 : decode cX6_rolled 96 = .ok (.iload_n 1, 1) := by decide +kernel
theorem dX6_rolled_97 : decode cX6_rolled 97 = .ok (.iload_n 2, 1) := by decide +kernel
theorem dX6_rolled_98 : decode cX6_rolled 98 = .ok (.isub, 1) := by decide +kernel
theorem dX6_rolled_99 : decode cX6_rolled 99 = .ok (.invokevirtual 99, 3) := by decide +kernel
theorem dX6_rolled_102 : decode cX6_rolled 102 = .ok (.ireturn, 1) := by decide +kernel
theorem dX6_rolled_103 : decode cX6_rolled 103 = .ok (.iload_n 2, 1) := by decide +kernel
theorem dX6_rolled_104 : decode cX6_rolled 104 = .ok (.iconst 1, 1) := by decide +kernel
theorem dX6_rolled_105 : decode cX6_rolled 105 = .ok (.aload_n 0, 1) := by decide +kernel
theorem dX6_rolled_106 : decode cX6_rolled 106 = .ok (.invokevirtual 96, 3) := by decide +kernel
theorem dX6_rolled_109 : decode cX6_rolled 109 = .ok (.iadd, 1) := by decide +kernel
theorem dX6_rolled_110 : decode cX6_rolled 110 = .ok (.iadd, 1) := by decide +kernel
theorem dX6_rolled_111 : decode cX6_rolled 111 = .ok (.istore_n 2, 1) := by decide +kernel
theorem dX6_rolled_112 : decode cX6_rolled 112 = .ok (.iload 4, 2) := by decide +kernel
theorem dX6_rolled_114 : decode cX6_rolled 114 = .ok (.istore_n 3, 1) := by decide +kernel
theorem dX6_rolled_115 : decode cX6_rolled 115 = .ok (.iinc 4 1, 3) := by decide +kernel
theorem dX6_rolled_118 : decode cX6_rolled 118 = .ok (.goto (-74), 3) := by decide +kernel
theorem dX6_rolled_121 : decode cX6_rolled 121 = .ok (.iload_n 1, 1) := by decide +kernel
theorem dX6_rolled_122 : decode cX6_rolled 122 = .ok (.iconst (-1), 1) := by decide +kernel
theorem dX6_rolled_123 : decode cX6_rolled 123 = .ok (.if_icmp .ne 7, 3) := by decide +kernel
theorem dX6_rolled_126 : decode cX6_rolled 126 = .ok (.iload_n 2, 1) := by decide +kernel
theorem dX6_rolled_127 : decode cX6_rolled 127 = .ok (.goto 5, 3) := by decide +kernel
theorem dX6_rolled_130 : decode cX6_rolled 130 = .ok (.ldc 102, 2) := by decide +kernel
theorem dX6_rolled_132 : decode cX6_rolled 132 = .ok (.ireturn, 1) := by decide +kernel
theorem dX6_isRun_0 : decode cX6_isRun 0 = .ok (.iload_n 2, 1) := by decide +kernel
theorem dX6_isRun_1 : decode cX6_isRun 1 = .ok (.aload_n 0, 1) := by decide +kernel
theorem dX6_isRun_2 : decode cX6_isRun 2 = .ok (.invokevirtual 80, 3) := by decide +kernel
theorem dX6_isRun_5 : decode cX6_isRun 5 = .ok (.if_icmp .eq 25, 3) := by decide +kernel
theorem dX6_isRun_8 : decode cX6_isRun 8 = .ok (.iload_n 2, 1) := by decide +kernel
theorem dX6_isRun_9 : decode cX6_isRun 9 = .ok (.iload_n 1, 1) := by decide +kernel
theorem dX6_isRun_10 : decode cX6_isRun 10 = .ok (.isub, 1) := by decide +kernel
theorem dX6_isRun_11 : decode cX6_isRun 11 = .ok (.sipush 255, 3) := by decide +kernel
theorem dX6_isRun_14 : decode cX6_isRun 14 = .ok (.if_icmp .eq 16, 3) := by decide +kernel
theorem dX6_isRun_17 : decode cX6_isRun 17 = .ok (.aload_n 0, 1) := by decide +kernel
theorem dX6_isRun_18 : decode cX6_isRun 18 = .ok (.iload_n 2, 1) := by decide +kernel
theorem dX6_isRun_19 : decode cX6_isRun 19 = .ok (.invokevirtual 65, 3) := by decide +kernel
theorem dX6_isRun_22 : decode cX6_isRun 22 = .ok (.aload_n 0, 1) := by decide +kernel
theorem dX6_isRun_23 : decode cX6_isRun 23 = .ok (.iload_n 1, 1) := by decide +kernel
theorem dX6_isRun_24 : decode cX6_isRun 24 = .ok (.invokevirtual 65, 3) := by decide +kernel
theorem dX6_isRun_27 : decode cX6_isRun 27 = .ok (.if_icmp .eq 7, 3) := by decide +kernel
theorem dX6_isRun_30 : decode cX6_isRun 30 = .ok (.iconst 1, 1) := by decide +kernel
theorem dX6_isRun_31 : decode cX6_isRun 31 = .ok (.goto 4, 3) := by decide +kernel
theorem dX6_isRun_34 : decode cX6_isRun 34 = .ok (.iconst 0, 1) := by decide +kernel
theorem dX6_isRun_35 : decode cX6_isRun 35 = .ok (.ireturn, 1) := by decide +kernel
theorem dX6_pixelByte_0 : decode cX6_pixelByte 0 = .ok (.aload_n 0, 1) := by decide +kernel
theorem dX6_pixelByte_1 : decode cX6_pixelByte 1 = .ok (.getfield 9, 3) := by decide +kernel
theorem dX6_pixelByte_4 : decode cX6_pixelByte 4 = .ok (.iconst 1, 1) := by decide +kernel
theorem dX6_pixelByte_5 : decode cX6_pixelByte 5 = .ok (.if_icmp .ne 15, 3) := by decide +kernel
theorem dX6_pixelByte_8 : decode cX6_pixelByte 8 = .ok (.iload_n 2, 1) := by decide +kernel
theorem dX6_pixelByte_9 : decode cX6_pixelByte 9 = .ok (.iconst 1, 1) := by decide +kernel
theorem dX6_pixelByte_10 : decode cX6_pixelByte 10 = .ok (.if_icmp .ne 10, 3) := by decide +kernel
theorem dX6_pixelByte_13 : decode cX6_pixelByte 13 = .ok (.iload_n 1, 1) := by decide +kernel
theorem dX6_pixelByte_14 : decode cX6_pixelByte 14 = .ok (.bipush 8, 2) := by decide +kernel
theorem dX6_pixelByte_16 : decode cX6_pixelByte 16 = .ok (.ishr, 1) := by decide +kernel
theorem dX6_pixelByte_17 : decode cX6_pixelByte 17 = .ok (.goto 4, 3) := by decide +kernel
theorem dX6_pixelByte_20 : decode cX6_pixelByte 20 = .ok (.iload_n 1, 1) := by decide +kernel
theorem dX6_pixelByte_21 : decode cX6_pixelByte 21 = .ok (.sipush 255, 3) := by decide +kernel
theorem dX6_pixelByte_24 : decode cX6_pixelByte 24 = .ok (.iand, 1) := by decide +kernel
theorem dX6_pixelByte_25 : decode cX6_pixelByte 25 = .ok (.ireturn, 1) := by decide +kernel
theorem dX7_init_0 : decode cX7_init 0 = .ok (.aload_n 0, 1) := by decide +kernel
theorem dX7_init_1 : decode cX7_init 1 = .ok (.invokespecial 3, 3) := by decide +kernel
theorem dX7_init_4 : decode cX7_init 4 = .ok (.aload_n 0, 1) := by decide +kernel
theorem dX7_init_5 : decode cX7_init 5 = .ok (.sipush 256, 3) := by decide +kernel
theorem dX7_init_8 : decode cX7_init 8 = .ok (.newarray .int, 2) := by decide +kernel
theorem dX7_init_10 : decode cX7_init 10 = .ok (.putfield 9, 3) := by decide +kernel
theorem dX7_init_13 : decode cX7_init 13 = .ok (.aload_n 0, 1) := by decide +kernel
theorem dX7_init_14 : decode cX7_init 14 = .ok (.bipush 16, 2) := by decide +kernel
theorem dX7_init_16 : decode cX7_init 16 = .ok (.newarray .int, 2) := by decide +kernel
theorem dX7_init_18 : decode cX7_init 18 = .ok (.putfield 15, 3) := by decide +kernel
theorem dX7_init_21 : decode cX7_init 21 = .ok (.aload_n 0, 1) := by decide +kernel
theorem dX7_init_22 : decode cX7_init 22 = .ok (.iconst 0, 1) := by decide +kernel
theorem dX7_init_23 : decode cX7_init 23 = .ok (.putfield 18, 3) := by decide +kernel
theorem dX7_init_26 : decode cX7_init 26 = .ok (.return_, 1) := by decide +kernel
theorem dX7_column_0 : decode cX7_column 0 = .ok (.iload_n 1, 1) := by decide +kernel
theorem dX7_column_1 : decode cX7_column 1 = .ok (.ifCond .lt 18, 3) := by decide +kernel
theorem dX7_column_4 : decode cX7_column 4 = .ok (.iload_n 1, 1) := by decide +kernel
theorem dX7_column_5 : decode cX7_column 5 = .ok (.bipush 16, 2) := by decide +kernel
theorem dX7_column_7 : decode cX7_column 7 = .ok (.if_icmp .ge 12, 3) := by decide +kernel
theorem dX7_column_10 : decode cX7_column 10 = .ok (.aload_n 0, 1) := by decide +kernel
theorem dX7_column_11 : decode cX7_column 11 = .ok (.getfield 15, 3) := by decide +kernel
theorem dX7_column_14 : decode cX7_column 14 = .ok (.iload_n 1, 1) := by decide +kernel
theorem dX7_column_15 : decode cX7_column 15 = .ok (.iaload, 1) := by decide +kernel
theorem dX7_column_16 : decode cX7_column 16 = .ok (.goto 4, 3) := by decide +kernel
theorem dX7_column_19 : decode cX7_column 19 = .ok (.iconst 0, 1) := by decide +kernel
theorem dX7_column_20 : decode cX7_column 20 = .ok (.ireturn, 1) := by decide +kernel
theorem dX7_trace_0 : decode cX7_trace 0 = .ok (.iconst 0, 1) := by decide +kernel
theorem dX7_trace_1 : decode cX7_trace 1 = .ok (.istore_n 2, 1) := by decide +kernel
theorem dX7_trace_2 : decode cX7_trace 2 = .ok (.iload_n 2, 1) := by decide +kernel
theorem dX7_trace_3 : decode cX7_trace 3 = .ok (.aload_n 1, 1) := by decide +kernel
theorem dX7_trace_4 : decode cX7_trace 4 = .ok (.getfield 22, 3) := by decide +kernel
theorem dX7_trace_7 : decode cX7_trace 7 = .ok (.if_icmp .ge 76, 3) := by decide +kernel
theorem dX7_trace_10 : decode cX7_trace 10 = .ok (.iconst 0, 1) := by decide +kernel
theorem dX7_trace_11 : decode cX7_trace 11 = .ok (.istore_n 3, 1) := by decide +kernel
theorem dX7_trace_12 : decode cX7_trace 12 = .ok (.iload_n 3, 1) := by decide +kernel
theorem dX7_trace_13 : decode cX7_trace 13 = .ok (.aload_n 1, 1) := by decide +kernel
theorem dX7_trace_14 : decode cX7_trace 14 = .ok (.getfield 27, 3) := by decide +kernel
theorem dX7_trace_17 : decode cX7_trace 17 = .ok (.if_icmp .ge 60, 3) := by decide +kernel
theorem dX7_trace_20 : decode cX7_trace 20 = .ok (.iload_n 2, 1) := by decide +kernel
theorem dX7_trace_21 : decode cX7_trace 21 = .ok (.ifCond .ne 7, 3) := by decide +kernel
theorem dX7_trace_24 : decode cX7_trace 24 = .ok (.iconst 0, 1) := by decide +kernel
theorem dX7_trace_25 : decode cX7_trace 25 = .ok (.goto 25, 3) := by decide +kernel
theorem dX7_trace_28 : decode cX7_trace 28 = .ok (.aload_n 0, 1) := by decide +kernel
theorem dX7_trace_29 : decode cX7_trace 29 = .ok (.aload_n 1, 1) := by decide +kernel
theorem dX7_trace_30 : decode cX7_trace 30 = .ok (.aload_n 0, 1) := by decide +kernel
theorem dX7_trace_31 : decode cX7_trace 31 = .ok (.aload_n 1, 1) := by decide +kernel
theorem dX7_trace_32 : decode cX7_trace 32 = .ok (.iload_n 2, 1) := by decide +kernel
theorem dX7_trace_33 : decode cX7_trace 33 = .ok (.iconst 1, 1) := by decide +kernel
theorem dX7_trace_34 : decode cX7_trace 34 = .ok (.isub, 1) := by decide +kernel
theorem dX7_trace_35 : decode cX7_trace 35 = .ok (.iload_n 3, 1) := by decide +kernel
theorem dX7_trace_36 : decode cX7_trace 36 = .ok (.iconst 1, 1) := by decide +kernel
theorem dX7_trace_37 : decode cX7_trace 37 = .ok (.isub, 1) := by decide +kernel
theorem dX7_trace_38 : decode cX7_trace 38 = .ok (.iload_n 3, 1) := by decide +kernel
theorem dX7_trace_39 : decode cX7_trace 39 = .ok (.iconst 1, 1) := by decide +kernel
theorem dX7_trace_40 : decode cX7_trace 40 = .ok (.iadd, 1) := by decide +kernel
theorem dX7_trace_41 : decode cX7_trace 41 = .ok (.invokevirtual 30, 3) := by decide +kernel
theorem dX7_trace_44 : decode cX7_trace 44 = .ok (.iload_n 2, 1) := by decide +kernel
theorem dX7_trace_45 : decode cX7_trace 45 = .ok (.iconst 1, 1) := by decide +kernel
theorem dX7_trace_46 : decode cX7_trace 46 = .ok (.isub, 1) := by decide +kernel
theorem dX7_trace_47 : decode cX7_trace 47 = .ok (.invokevirtual 34, 3) := by decide +kernel
theorem dX7_trace_50 : decode cX7_trace 50 = .ok (.istore 4, 2) := by decide +kernel
theorem dX7_trace_52 : decode cX7_trace 52 = .ok (.aload_n 0, 1) := by decide +kernel
theorem dX7_trace_53 : decode cX7_trace 53 = .ok (.aload_n 1, 1) := by decide +kernel
theorem dX7_trace_54 : decode cX7_trace 54 = .ok (.iload_n 3, 1) := by decide +kernel
theorem dX7_trace_55 : decode cX7_trace 55 = .ok (.iload_n 2, 1) := by decide +kernel
theorem dX7_trace_56 : decode cX7_trace 56 = .ok (.invokevirtual 38, 3) := by decide +kernel
theorem dX7_trace_59 : decode cX7_trace 59 = .ok (.iload 4, 2) := by decide +kernel
theorem dX7_trace_61 : decode cX7_trace 61 = .ok (.aload_n 1, 1) := by decide +kernel
theorem dX7_trace_62 : decode cX7_trace 62 = .ok (.iload_n 3, 1) := by decide +kernel
theorem dX7_trace_63 : decode cX7_trace 63 = .ok (.iload_n 2, 1) := by decide +kernel
theorem dX7_trace_64 : decode cX7_trace 64 = .ok (.invokevirtual 42, 3) := by decide +kernel
theorem dX7_trace_67 : decode cX7_trace 67 = .ok (.iadd, 1) := by decide +kernel
theorem dX7_trace_68 : decode cX7_trace 68 = .ok (.invokevirtual 45, 3) := by decide +kernel
theorem dX7_trace_71 : decode cX7_trace 71 = .ok (.iinc 3 1, 3) := by decide +kernel
theorem dX7_trace_74 : decode cX7_trace 74 = .ok (.goto (-62), 3) := by decide +kernel
theorem dX7_trace_77 : decode cX7_trace 77 = .ok (.iinc 2 1, 3) := by decide +kernel
theorem dX7_trace_80 : decode cX7_trace 80 = .ok (.goto (-78), 3) := by decide +kernel
theorem dX7_trace_83 : decode cX7_trace 83 = .ok (.aload_n 1, 1) := by decide +kernel
theorem dX7_trace_84 : decode cX7_trace 84 = .ok (.getfield 22, 3) := by decide +kernel
theorem dX7_trace_87 : decode cX7_trace 87 = .ok (.iconst 1, 1) := by decide +kernel
theorem dX7_trace_88 : decode cX7_trace 88 = .ok (.isub, 1) := by decide +kernel
theorem dX7_trace_89 : decode cX7_trace 89 = .ok (.istore_n 2, 1) := by decide +kernel
theorem dX7_trace_90 : decode cX7_trace 90 = .ok (.aload_n 0, 1) := by decide +kernel
theorem dX7_trace_91 : decode cX7_trace 91 = .ok (.aload_n 1, 1) := by decide +kernel
theorem dX7_trace_92 : decode cX7_trace 92 = .ok (.iload_n 2, 1) := by decide +kernel
theorem dX7_trace_93 : decode cX7_trace 93 = .ok (.iconst 0, 1) := by decide +kernel
theorem dX7_trace_94 : decode cX7_trace 94 = .ok (.aload_n 1, 1) := by decide +kernel
theorem dX7_trace_95 : decode cX7_trace 95 = .ok (.getfield 27, 3) := by decide +kernel
theorem dX7_trace_98 : decode cX7_trace 98 = .ok (.iconst 1, 1) := by decide +kernel
theorem dX7_trace_99 : decode cX7_trace 99 = .ok (.isub, 1) := by decide +kernel
theorem dX7_trace_100 : decode cX7_trace 100 = .ok (.invokevirtual 30, 3) := by decide +kernel
theorem dX7_trace_103 : decode cX7_trace 103 = .ok (.istore_n 3, 1) := by decide +kernel
theorem dX7_trace_104 : decode cX7_trace 104 = .ok (.aload_n 0, 1) := by decide +kernel
theorem dX7_trace_105 : decode cX7_trace 105 = .ok (.aload_n 0, 1) := by decide +kernel
theorem dX7_trace_106 : decode cX7_trace 106 = .ok (.aload_n 1, 1) := by decide +kernel
theorem dX7_trace_107 : decode cX7_trace 107 = .ok (.iload_n 3, 1) := by decide +kernel
theorem dX7_trace_108 : decode cX7_trace 108 = .ok (.iload_n 2, 1) := by decide +kernel
theorem dX7_trace_109 : decode cX7_trace 109 = .ok (.invokevirtual 34, 3) := by decide +kernel
theorem dX7_trace_112 : decode cX7_trace 112 = .ok (.putfield 18, 3) := by decide +kernel
theorem dX7_trace_115 : decode cX7_trace 115 = .ok (.iload_n 2, 1) := by decide +kernel
theorem dX7_trace_116 : decode cX7_trace 116 = .ok (.istore 4, 2) := by decide +kernel
theorem dX7_trace_118 : decode cX7_trace 118 = .ok (.iload 4, 2) := by decide +kernel
theorem dX7_trace_120 : decode cX7_trace 120 = .ok (.ifCond .lt 48, 3) := by decide +kernel
theorem dX7_trace_123 : decode cX7_trace 123 = .ok (.iload 4, 2) := by decide +kernel
theorem dX7_trace_125 : decode cX7_trace 125 = .ok (.bipush 16, 2) := by decide +kernel
theorem dX7_trace_127 : decode cX7_trace 127 = .ok (.if_icmp .ge 41, 3) := by decide +kernel
theorem dX7_trace_130 : decode cX7_trace 130 = .ok (.iload 4, 2) := by decide +kernel
theorem dX7_trace_132 : decode cX7_trace 132 = .ok (.iload_n 2, 1) := by decide +kernel
theorem dX7_trace_133 : decode cX7_trace 133 = .ok (.if_icmp .ne 7, 3) := by decide +kernel
theorem dX7_trace_136 : decode cX7_trace 136 = .ok (.iload_n 3, 1) := by decide +kernel
theorem dX7_trace_137 : decode cX7_trace 137 = .ok (.goto 16, 3) := by decide +kernel
theorem dX7_trace_140 : decode cX7_trace 140 = .ok (.aload_n 0, 1) := by decide +kernel
theorem dX7_trace_141 : decode cX7_trace 141 = .ok (.aload_n 1, 1) := by decide +kernel
theorem dX7_trace_142 : decode cX7_trace 142 = .ok (.iload 4, 2) := by decide +kernel
theorem dX7_trace_144 : decode cX7_trace 144 = .ok (.iload_n 3, 1) := by decide +kernel
theorem dX7_trace_145 : decode cX7_trace 145 = .ok (.iconst 1, 1) := by decide +kernel
theorem dX7_trace_146 : decode cX7_trace 146 = .ok (.isub, 1) := by decide +kernel
theorem dX7_trace_147 : decode cX7_trace 147 = .ok (.iload_n 3, 1) := by decide +kernel
theorem dX7_trace_148 : decode cX7_trace 148 = .ok (.iconst 1, 1) := by decide +kernel
theorem dX7_trace_149 : decode cX7_trace 149 = .ok (.iadd, 1) := by decide +kernel
theorem dX7_trace_150 : decode cX7_trace 150 = .ok (.invokevirtual 30, 3) := by decide +kernel
theorem dX7_trace_153 : decode cX7_trace 153 = .ok (.istore_n 3, 1) := by decide +kernel
theorem dX7_trace_154 : decode cX7_trace 154 = .ok (.aload_n 0, 1) := by decide +kernel
theorem dX7_trace_155 : decode cX7_trace 155 = .ok (.getfield 15, 3) := by decide +kernel
theorem dX7_trace_158 : decode cX7_trace 158 = .ok (.iload 4, 2) := by decide +kernel
theorem dX7_trace_160 : decode cX7_trace 160 = .ok (.iload_n 3, 1) := by decide +kernel
theorem dX7_trace_161 : decode cX7_trace 161 = .ok (.iastore, 1) := by decide +kernel
theorem dX7_trace_162 : decode cX7_trace 162 = .ok (.iinc 4 (-1), 3) := by decide +kernel
theorem dX7_trace_165 : decode cX7_trace 165 = .ok (.goto (-47), 3) := by decide +kernel
theorem dX7_trace_168 : decode cX7_trace 168 = .ok (.return_, 1) := by decide +kernel
theorem dX7_leastIn_0 : decode cX7_leastIn 0 = .ok (.iload_n 3, 1) := by decide +kernel
theorem dX7_leastIn_1 : decode cX7_leastIn 1 = .ok (.iconst 0, 1) := by decide +kernel
theorem dX7_leastIn_2 : decode cX7_leastIn 2 = .ok (.invokestatic 49, 3) := by decide +kernel
theorem dX7_leastIn_5 : decode cX7_leastIn 5 = .ok (.istore 5, 2) := by decide +kernel
theorem dX7_leastIn_7 : decode cX7_leastIn 7 = .ok (.iload 5, 2) := by decide +kernel
theorem dX7_leastIn_9 : decode cX7_leastIn 9 = .ok (.iconst 1, 1) := by decide +kernel
theorem dX7_leastIn_10 : decode cX7_leastIn 10 = .ok (.iadd, 1) := by decide +kernel
theorem dX7_leastIn_11 : decode cX7_leastIn 11 = .ok (.istore 6, 2) := by decide +kernel
theorem dX7_leastIn_13 : decode cX7_leastIn 13 = .ok (.iload 6, 2) := by decide +kernel
theorem dX7_leastIn_15 : decode cX7_leastIn 15 = .ok (.iload 4, 2) := by decide +kernel
theorem dX7_leastIn_17 : decode cX7_leastIn 17 = .ok (.if_icmp .gt 41, 3) := by decide +kernel
theorem dX7_leastIn_20 : decode cX7_leastIn 20 = .ok (.iload 6, 2) := by decide +kernel
theorem dX7_leastIn_22 : decode cX7_leastIn 22 = .ok (.aload_n 1, 1) := by decide +kernel
theorem dX7_leastIn_23 : decode cX7_leastIn 23 = .ok (.getfield 27, 3) := by decide +kernel
theorem dX7_leastIn_26 : decode cX7_leastIn 26 = .ok (.if_icmp .ge 32, 3) := by decide +kernel
theorem dX7_leastIn_29 : decode cX7_leastIn 29 = .ok (.aload_n 0, 1) := by decide +kernel
theorem dX7_leastIn_30 : decode cX7_leastIn 30 = .ok (.aload_n 1, 1) := by decide +kernel
theorem dX7_leastIn_31 : decode cX7_leastIn 31 = .ok (.iload 6, 2) := by decide +kernel
theorem dX7_leastIn_33 : decode cX7_leastIn 33 = .ok (.iload_n 2, 1) := by decide +kernel
theorem dX7_leastIn_34 : decode cX7_leastIn 34 = .ok (.invokevirtual 34, 3) := by decide +kernel
theorem dX7_leastIn_37 : decode cX7_leastIn 37 = .ok (.aload_n 0, 1) := by decide +kernel
theorem dX7_leastIn_38 : decode cX7_leastIn 38 = .ok (.aload_n 1, 1) := by decide +kernel
theorem dX7_leastIn_39 : decode cX7_leastIn 39 = .ok (.iload 5, 2) := by decide +kernel
theorem dX7_leastIn_41 : decode cX7_leastIn 41 = .ok (.iload_n 2, 1) := by decide +kernel
theorem dX7_leastIn_42 : decode cX7_leastIn 42 = .ok (.invokevirtual 34, 3) := by decide +kernel
theorem dX7_leastIn_45 : decode cX7_leastIn 45 = .ok (.if_icmp .ge 7, 3) := by decide +kernel
theorem dX7_leastIn_48 : decode cX7_leastIn 48 = .ok (.iload 6, 2) := by decide +kernel
theorem dX7_leastIn_50 : decode cX7_leastIn 50 = .ok (.istore 5, 2) := by decide +kernel
theorem dX7_leastIn_52 : decode cX7_leastIn 52 = .ok (.iinc 6 1, 3) := by decide +kernel
theorem dX7_leastIn_55 : decode cX7_leastIn 55 = .ok (.goto (-42), 3) := by decide +kernel
theorem dX7_leastIn_58 : decode cX7_leastIn 58 = .ok (.iload 5, 2) := by decide +kernel
theorem dX7_leastIn_60 : decode cX7_leastIn 60 = .ok (.ireturn, 1) := by decide +kernel
theorem dX7_cost_0 : decode cX7_cost 0 = .ok (.aload_n 1, 1) := by decide +kernel
theorem dX7_cost_1 : decode cX7_cost 1 = .ok (.iload_n 2, 1) := by decide +kernel
theorem dX7_cost_2 : decode cX7_cost 2 = .ok (.iload_n 3, 1) := by decide +kernel
theorem dX7_cost_3 : decode cX7_cost 3 = .ok (.invokevirtual 38, 3) := by decide +kernel
theorem dX7_cost_6 : decode cX7_cost 6 = .ok (.istore 4, 2) := by decide +kernel
theorem dX7_cost_8 : decode cX7_cost 8 = .ok (.iload 4, 2) := by decide +kernel
theorem dX7_cost_10 : decode cX7_cost 10 = .ok (.ifCond .lt 21, 3) := by decide +kernel
theorem dX7_cost_13 : decode cX7_cost 13 = .ok (.iload 4, 2) := by decide +kernel
theorem dX7_cost_15 : decode cX7_cost 15 = .ok (.sipush 256, 3) := by decide +kernel
theorem dX7_cost_18 : decode cX7_cost 18 = .ok (.if_icmp .ge 13, 3) := by decide +kernel
theorem dX7_cost_21 : decode cX7_cost 21 = .ok (.aload_n 0, 1) := by decide +kernel
theorem dX7_cost_22 : decode cX7_cost 22 = .ok (.getfield 9, 3) := by decide +kernel
theorem dX7_cost_25 : decode cX7_cost 25 = .ok (.iload 4, 2) := by decide +kernel
theorem dX7_cost_27 : decode cX7_cost 27 = .ok (.iaload, 1) := by decide +kernel
theorem dX7_cost_28 : decode cX7_cost 28 = .ok (.goto 4, 3) := by decide +kernel
theorem dX7_cost_31 : decode cX7_cost 31 = .ok (.iconst 0, 1) := by decide +kernel
theorem dX7_cost_32 : decode cX7_cost 32 = .ok (.ireturn, 1) := by decide +kernel
theorem dX7_setCost_0 : decode cX7_setCost 0 = .ok (.iload_n 1, 1) := by decide +kernel
theorem dX7_setCost_1 : decode cX7_setCost 1 = .ok (.ifCond .lt 17, 3) := by decide +kernel
theorem dX7_setCost_4 : decode cX7_setCost 4 = .ok (.iload_n 1, 1) := by decide +kernel
theorem dX7_setCost_5 : decode cX7_setCost 5 = .ok (.sipush 256, 3) := by decide +kernel
theorem dX7_setCost_8 : decode cX7_setCost 8 = .ok (.if_icmp .ge 10, 3) := by decide +kernel
theorem dX7_setCost_11 : decode cX7_setCost 11 = .ok (.aload_n 0, 1) := by decide +kernel
theorem dX7_setCost_12 : decode cX7_setCost 12 = .ok (.getfield 9, 3) := by decide +kernel
theorem dX7_setCost_15 : decode cX7_setCost 15 = .ok (.iload_n 1, 1) := by decide +kernel
theorem dX7_setCost_16 : decode cX7_setCost 16 = .ok (.iload_n 2, 1) := by decide +kernel
theorem dX7_setCost_17 : decode cX7_setCost 17 = .ok (.iastore, 1) := by decide +kernel
theorem dX7_setCost_18 : decode cX7_setCost 18 = .ok (.return_, 1) := by decide +kernel
theorem dX8_init_0 : decode cX8_init 0 = .ok (.aload_n 0, 1) := by decide +kernel
theorem dX8_init_1 : decode cX8_init 1 = .ok (.invokespecial 3, 3) := by decide +kernel
theorem dX8_init_4 : decode cX8_init 4 = .ok (.aload_n 0, 1) := by decide +kernel
theorem dX8_init_5 : decode cX8_init 5 = .ok (.sipush 800, 3) := by decide +kernel
theorem dX8_init_8 : decode cX8_init 8 = .ok (.newarray .int, 2) := by decide +kernel
theorem dX8_init_10 : decode cX8_init 10 = .ok (.putfield 9, 3) := by decide +kernel
theorem dX8_init_13 : decode cX8_init 13 = .ok (.aload_n 0, 1) := by decide +kernel
theorem dX8_init_14 : decode cX8_init 14 = .ok (.iconst 0, 1) := by decide +kernel
theorem dX8_init_15 : decode cX8_init 15 = .ok (.putfield 15, 3) := by decide +kernel
theorem dX8_init_18 : decode cX8_init 18 = .ok (.return_, 1) := by decide +kernel
theorem dX8_append_0 : decode cX8_append 0 = .ok (.aload_n 0, 1) := by decide +kernel
theorem dX8_append_1 : decode cX8_append 1 = .ok (.getfield 15, 3) := by decide +kernel
theorem dX8_append_4 : decode cX8_append 4 = .ok (.ifCond .lt 13, 3) := by decide +kernel
theorem dX8_append_7 : decode cX8_append 7 = .ok (.aload_n 0, 1) := by decide +kernel
theorem dX8_append_8 : decode cX8_append 8 = .ok (.getfield 15, 3) := by decide +kernel
theorem dX8_append_11 : decode cX8_append 11 = .ok (.sipush 800, 3) := by decide +kernel
theorem dX8_append_14 : decode cX8_append 14 = .ok (.if_icmp .lt 5, 3) := by decide +kernel
theorem dX8_append_17 : decode cX8_append 17 = .ok (.iconst 0, 1) := by decide +kernel
theorem dX8_append_18 : decode cX8_append 18 = .ok (.ireturn, 1) := by decide +kernel
theorem dX8_append_19 : decode cX8_append 19 = .ok (.aload_n 0, 1) := by decide +kernel
theorem dX8_append_20 : decode cX8_append 20 = .ok (.getfield 9, 3) := by decide +kernel
theorem dX8_append_23 : decode cX8_append 23 = .ok (.aload_n 0, 1) := by decide +kernel
theorem dX8_append_24 : decode cX8_append 24 = .ok (.getfield 15, 3) := by decide +kernel
theorem dX8_append_27 : decode cX8_append 27 = .ok (.iload_n 1, 1) := by decide +kernel
theorem dX8_append_28 : decode cX8_append 28 = .ok (.iastore, 1) := by decide +kernel
theorem dX8_append_29 : decode cX8_append 29 = .ok (.aload_n 0, 1) := by decide +kernel
theorem dX8_append_30 : decode cX8_append 30 = .ok (.dup, 1) := by decide +kernel
theorem dX8_append_31 : decode cX8_append 31 = .ok (.getfield 15, 3) := by decide +kernel
theorem dX8_append_34 : decode cX8_append 34 = .ok (.iconst 1, 1) := by decide +kernel
theorem dX8_append_35 : decode cX8_append 35 = .ok (.iadd, 1) := by decide +kernel
theorem dX8_append_36 : decode cX8_append 36 = .ok (.putfield 15, 3) := by decide +kernel
theorem dX8_append_39 : decode cX8_append 39 = .ok (.iconst 1, 1) := by decide +kernel
theorem dX8_append_40 : decode cX8_append 40 = .ok (.ireturn, 1) := by decide +kernel
theorem dX8_unroll_0 : decode cX8_unroll 0 = .ok (.aload_n 0, 1) := by decide +kernel
theorem dX8_unroll_1 : decode cX8_unroll 1 = .ok (.invokevirtual 19, 3) := by decide +kernel
theorem dX8_unroll_4 : decode cX8_unroll 4 = .ok (.istore_n 2, 1) := by decide +kernel
theorem dX8_unroll_5 : decode cX8_unroll 5 = .ok (.iload_n 2, 1) := by decide +kernel
theorem dX8_unroll_6 : decode cX8_unroll 6 = .ok (.iconst 3, 1) := by decide +kernel
theorem dX8_unroll_7 : decode cX8_unroll 7 = .ok (.if_icmp .ge 7, 3) := by decide +kernel
theorem dX8_unroll_10 : decode cX8_unroll 10 = .ok (.iconst (-1), 1) := by decide +kernel
theorem dX8_unroll_11 : decode cX8_unroll 11 = .ok (.iload_n 2, 1) := by decide +kernel
theorem dX8_unroll_12 : decode cX8_unroll 12 = .ok (.isub, 1) := by decide +kernel
theorem dX8_unroll_13 : decode cX8_unroll 13 = .ok (.ireturn, 1) := by decide +kernel
theorem dX8_unroll_14 : decode cX8_unroll 14 = .ok (.aload_n 1, 1) := by decide +kernel
theorem dX8_unroll_15 : decode cX8_unroll 15 = .ok (.aload_n 0, 1) := by decide +kernel
theorem dX8_unroll_16 : decode cX8_unroll 16 = .ok (.iconst 0, 1) := by decide +kernel
theorem dX8_unroll_17 : decode cX8_unroll 17 = .ok (.invokevirtual 23, 3) := by decide +kernel
theorem dX8_unroll_20 : decode cX8_unroll 20 = .ok (.aload_n 0, 1) := by decide +kernel
theorem dX8_unroll_21 : decode cX8_unroll 21 = .ok (.iconst 1, 1) := by decide +kernel
theorem dX8_unroll_22 : decode cX8_unroll 22 = .ok (.invokevirtual 23, 3) := by decide +kernel
theorem dX8_unroll_25 : decode cX8_unroll 25 = .ok (.aload_n 0, 1) := by decide +kernel
theorem dX8_unroll_26 : decode cX8_unroll 26 = .ok (.iconst 2, 1) := by decide +kernel
theorem dX8_unroll_27 : decode cX8_unroll 27 = .ok (.invokevirtual 23, 3) := by decide +kernel
theorem dX8_unroll_30 : decode cX8_unroll 30 = .ok (.invokevirtual 27, 3) := by decide +kernel
theorem dX8_unroll_33 : decode cX8_unroll 33 = .ok (.aload_n 1, 1) := by decide +kernel
theorem dX8_unroll_34 : decode cX8_unroll 34 = .ok (.invokevirtual 33, 3) := by decide +kernel
theorem dX8_unroll_37 : decode cX8_unroll 37 = .ok (.istore_n 3, 1) := by decide +kernel
theorem dX8_unroll_38 : decode cX8_unroll 38 = .ok (.aload_n 1, 1) := by decide +kernel
theorem dX8_unroll_39 : decode cX8_unroll 39 = .ok (.invokevirtual 36, 3) := by decide +kernel
theorem dX8_unroll_42 : decode cX8_unroll 42 = .ok (.istore 4, 2) := by decide +kernel
theorem dX8_unroll_44 : decode cX8_unroll 44 = .ok (.iconst 0, 1) := by decide +kernel
theorem dX8_unroll_45 : decode cX8_unroll 45 = .ok (.istore 5, 2) := by decide +kernel
theorem dX8_unroll_47 : decode cX8_unroll 47 = .ok (.iconst 3, 1) := by decide +kernel
theorem dX8_unroll_48 : decode cX8_unroll 48 = .ok (.istore 6, 2) := by decide +kernel
theorem dX8_unroll_50 : decode cX8_unroll 50 = .ok (.iload 6, 2) := by decide +kernel
theorem dX8_unroll_52 : decode cX8_unroll 52 = .ok (.sipush 800, 3) := by decide +kernel
theorem dX8_unroll_55 : decode cX8_unroll 55 = .ok (.if_icmp .gt 176, 3) := by decide +kernel
theorem dX8_unroll_58 : decode cX8_unroll 58 = .ok (.iload 5, 2) := by decide +kernel
theorem dX8_unroll_60 : decode cX8_unroll 60 = .ok (.iload_n 3, 1) := by decide +kernel
theorem dX8_unroll_61 : decode cX8_unroll 61 = .ok (.if_icmp .ne 21, 3) := by decide +kernel
theorem dX8_unroll_64 : decode cX8_unroll 64 = .ok (.iload 6, 2) := by decide +kernel
theorem dX8_unroll_66 : decode cX8_unroll 66 = .ok (.aload_n 0, 1) := by decide +kernel
theorem dX8_unroll_67 : decode cX8_unroll 67 = .ok (.getfield 15, 3) := by decide +kernel
theorem dX8_unroll_70 : decode cX8_unroll 70 = .ok (.if_icmp .ge 10, 3) := by decide +kernel
theorem dX8_unroll_73 : decode cX8_unroll 73 = .ok (.iconst (-1), 1) := by decide +kernel
theorem dX8_unroll_74 : decode cX8_unroll 74 = .ok (.iload 6, 2) := by decide +kernel
theorem dX8_unroll_76 : decode cX8_unroll 76 = .ok (.isub, 1) := by decide +kernel
theorem dX8_unroll_77 : decode cX8_unroll 77 = .ok (.goto 4, 3) := by decide +kernel
theorem dX8_unroll_80 : decode cX8_unroll 80 = .ok (.iload_n 3, 1) := by decide +kernel
theorem dX8_unroll_81 : decode cX8_unroll 81 = .ok (.ireturn, 1) := by decide +kernel
theorem dX8_unroll_82 : decode cX8_unroll 82 = .ok (.iload 6, 2) := by decide +kernel
theorem dX8_unroll_84 : decode cX8_unroll 84 = .ok (.aload_n 0, 1) := by decide +kernel
theorem dX8_unroll_85 : decode cX8_unroll 85 = .ok (.getfield 15, 3) := by decide +kernel
theorem dX8_unroll_88 : decode cX8_unroll 88 = .ok (.if_icmp .lt 10, 3) := by decide +kernel
theorem dX8_unroll_91 : decode cX8_unroll 91 = .ok (.iconst (-1), 1) := by decide +kernel
theorem dX8_unroll_92 : decode cX8_unroll 92 = .ok (.aload_n 0, 1) := by decide +kernel
theorem dX8_unroll_93 : decode cX8_unroll 93 = .ok (.getfield 15, 3) := by decide +kernel
theorem dX8_unroll_96 : decode cX8_unroll 96 = .ok (.isub, 1) := by decide +kernel
theorem dX8_unroll_97 : decode cX8_unroll 97 = .ok (.ireturn, 1) := by decide +kernel
theorem dX8_unroll_98 : decode cX8_unroll 98 = .ok (.aload_n 0, 1) := by decide +kernel
theorem dX8_unroll_99 : decode cX8_unroll 99 = .ok (.iload 6, 2) := by decide +kernel
theorem dX8_unroll_101 : decode cX8_unroll 101 = .ok (.invokevirtual 23, 3) := by decide +kernel
theorem dX8_unroll_104 : decode cX8_unroll 104 = .ok (.istore 7, 2) := by decide +kernel
theorem dX8_unroll_106 : decode cX8_unroll 106 = .ok (.iload 7, 2) := by decide +kernel
theorem dX8_unroll_108 : decode cX8_unroll 108 = .ok (.iconst 1, 1) := by decide +kernel
theorem dX8_unroll_109 : decode cX8_unroll 109 = .ok (.if_icmp .lt 12, 3) := by decide +kernel
theorem dX8_unroll_112 : decode cX8_unroll 112 = .ok (.iload 7, 2) := by decide +kernel
theorem dX8_unroll_114 : decode cX8_unroll 114 = .ok (.iload_n 3, 1) := by decide +kernel
theorem dX8_unroll_115 : decode cX8_unroll 115 = .ok (.iload 5, 2) := by decide +kernel
theorem dX8_unroll_117 : decode cX8_unroll 117 = .ok (.isub, 1) := by decide +kernel
theorem dX8_unroll_118 : decode cX8_unroll 118 = .ok (.if_icmp .le 8, 3) := by decide +kernel
theorem dX8_unroll_121 : decode cX8_unroll 121 = .ok (.iconst (-1), 1) := by decide +kernel
theorem dX8_unroll_122 : decode cX8_unroll 122 = .ok (.iload 6, 2) := by decide +kernel
theorem dX8_unroll_124 : decode cX8_unroll 124 = .ok (.isub, 1) := by decide +kernel
theorem dX8_unroll_125 : decode cX8_unroll 125 = .ok (.ireturn, 1) := by decide +kernel
theorem dX8_unroll_126 : decode cX8_unroll 126 = .ok (.iload 6, 2) := by decide +kernel
theorem dX8_unroll_128 : decode cX8_unroll 128 = .ok (.iload 4, 2) := by decide +kernel
theorem dX8_unroll_130 : decode cX8_unroll 130 = .ok (.iadd, 1) := by decide +kernel
theorem dX8_unroll_131 : decode cX8_unroll 131 = .ok (.aload_n 0, 1) := by decide +kernel
theorem dX8_unroll_132 : decode cX8_unroll 132 = .ok (.getfield 15, 3) := by decide +kernel
theorem dX8_unroll_135 : decode cX8_unroll 135 = .ok (.if_icmp .lt 10, 3) := by decide +kernel
theorem dX8_unroll_138 : decode cX8_unroll 138 = .ok (.iconst (-1), 1) := by decide +kernel
theorem dX8_unroll_139 : decode cX8_unroll 139 = .ok (.aload_n 0, 1) := by decide +kernel
theorem dX8_unroll_140 : decode cX8_unroll 140 = .ok (.getfield 15, 3) := by decide +kernel
theorem dX8_unroll_143 : decode cX8_unroll 143 = .ok (.isub, 1) := by decide +kernel
theorem dX8_unroll_144 : decode cX8_unroll 144 = .ok (.ireturn, 1) := by decide +kernel
theorem dX8_unroll_145 : decode cX8_unroll 145 = .ok (.iload 4, 2) := by decide +kernel
theorem dX8_unroll_147 : decode cX8_unroll 147 = .ok (.iconst 1, 1) := by decide +kernel
theorem dX8_unroll_148 : decode cX8_unroll 148 = .ok (.if_icmp .ne 14, 3) := by decide +kernel
theorem dX8_unroll_151 : decode cX8_unroll 151 = .ok (.aload_n 0, 1) := by decide +kernel
theorem dX8_unroll_152 : decode cX8_unroll 152 = .ok (.iload 6, 2) := by decide +kernel
theorem dX8_unroll_154 : decode cX8_unroll 154 = .ok (.iconst 1, 1) := by decide +kernel
theorem dX8_unroll_155 : decode cX8_unroll 155 = .ok (.iadd, 1) := by decide +kernel
theorem dX8_unroll_156 : decode cX8_unroll 156 = .ok (.invokevirtual 23, 3) := by decide +kernel
theorem dX8_unroll_159 : decode cX8_unroll 159 = .ok (.goto 24, 3) := by decide +kernel
theorem dX8_unroll_162 : decode cX8_unroll 162 = .ok (.aload_n 0, 1) := by decide +kernel
theorem dX8_unroll_163 : decode cX8_unroll 163 = .ok (.iload 6, 2) := by decide +kernel
theorem dX8_unroll_165 : decode cX8_unroll 165 = .ok (.iconst 1, 1) := by decide +kernel
theorem dX8_unroll_166 : decode cX8_unroll 166 = .ok (.iadd, 1) := by decide +kernel
theorem dX8_unroll_167 : decode cX8_unroll 167 = .ok (.invokevirtual 23, 3) := by decide +kernel
theorem dX8_unroll_170 : decode cX8_unroll 170 = .ok (.bipush 8, 2) := by decide +kernel
theorem dX8_unroll_172 : decode cX8_unroll 172 = .ok (.ishl, 1) := by decide +kernel
theorem dX8_unroll_173 : decode cX8_unroll 173 = .ok (.aload_n 0, 1) := by decide +kernel
theorem dX8_unroll_174 : decode cX8_unroll 174 = .ok (.iload 6, 2) := by decide +kernel
theorem dX8_unroll_176 : decode cX8_unroll 176 = .ok (.iconst 2, 1) := by decide +kernel
theorem dX8_unroll_177 : decode cX8_unroll 177 = .ok (.iadd, 1) := by decide +kernel
theorem dX8_unroll_178 : decode cX8_unroll 178 = .ok (.invokevirtual 23, 3) := by decide +kernel
theorem dX8_unroll_181 : decode cX8_unroll 181 = .ok (.ior, 1) := by decide +kernel
theorem dX8_unroll_182 : decode cX8_unroll 182 = .ok (.i2s, 1) := by decide +kernel
theorem dX8_unroll_183 : decode cX8_unroll 183 = .ok (.istore 8, 2) := by decide +kernel
theorem dX8_unroll_185 : decode cX8_unroll 185 = .ok (.iconst 0, 1) := by decide +kernel
theorem dX8_unroll_186 : decode cX8_unroll 186 = .ok (.istore 9, 2) := by decide +kernel
theorem dX8_unroll_188 : decode cX8_unroll 188 = .ok (.iload 9, 2) := by decide +kernel
theorem dX8_unroll_190 : decode cX8_unroll 190 = .ok (.iload 7, 2) := by decide +kernel
theorem dX8_unroll_192 : decode cX8_unroll 192 = .ok (.if_icmp .ge 20, 3) := by decide +kernel
theorem dX8_unroll_195 : decode cX8_unroll 195 = .ok (.aload_n 1, 1) := by decide +kernel
theorem dX8_unroll_196 : decode cX8_unroll 196 = .ok (.iload 5, 2) := by decide +kernel
theorem dX8_unroll_198 : decode cX8_unroll 198 = .ok (.iload 9, 2) := by decide +kernel
theorem dX8_unroll_200 : decode cX8_unroll 200 = .ok (.iadd, 1) := by decide +kernel
theorem dX8_unroll_201 : decode cX8_unroll 201 = .ok (.iload 8, 2) := by decide +kernel
theorem dX8_unroll_203 : decode cX8_unroll 203 = .ok (.invokevirtual 39, 3) := by decide +kernel
theorem dX8_unroll_206 : decode cX8_unroll 206 = .ok (.iinc 9 1, 3) := by decide +kernel
theorem dX8_unroll_209 : decode cX8_unroll 209 = .ok (.goto (-21), 3) := by decide +kernel
theorem dX8_unroll_212 : decode cX8_unroll 212 = .ok (.iload 5, 2) := by decide +kernel
theorem dX8_unroll_214 : decode cX8_unroll 214 = .ok (.iload 7, 2) := by decide +kernel
theorem dX8_unroll_216 : decode cX8_unroll 216 = .ok (.iadd, 1) := by decide +kernel
theorem dX8_unroll_217 : decode cX8_unroll 217 = .ok (.istore 5, 2) := by decide +kernel
theorem dX8_unroll_219 : decode cX8_unroll 219 = .ok (.iload 6, 2) := by decide +kernel
theorem dX8_unroll_221 : decode cX8_unroll 221 = .ok (.iconst 1, 1) := by decide +kernel
theorem dX8_unroll_222 : decode cX8_unroll 222 = .ok (.iload 4, 2) := by decide +kernel
theorem dX8_unroll_224 : decode cX8_unroll 224 = .ok (.iadd, 1) := by decide +kernel
theorem dX8_unroll_225 : decode cX8_unroll 225 = .ok (.iadd, 1) := by decide +kernel
theorem dX8_unroll_226 : decode cX8_unroll 226 = .ok (.istore 6, 2) := by decide +kernel
theorem dX8_unroll_228 : decode cX8_unroll 228 = .ok (.goto (-178), 3) := by decide +kernel
theorem dX8_unroll_231 : decode cX8_unroll 231 = .ok (.iconst (-1), 1) := by decide +kernel
theorem dX8_unroll_232 : decode cX8_unroll 232 = .ok (.aload_n 0, 1) := by decide +kernel
theorem dX8_unroll_233 : decode cX8_unroll 233 = .ok (.getfield 15, 3) := by decide +kernel
theorem dX8_unroll_236 : decode cX8_unroll 236 = .ok (.isub, 1) := by decide +kernel
theorem dX8_unroll_237 : decode cX8_unroll 237 = .ok (.ireturn, 1) := by decide +kernel
theorem dX8_soundHead_0 : decode cX8_soundHead 0 = .ok (.aload_n 0, 1) := by decide +kernel
theorem dX8_soundHead_1 : decode cX8_soundHead 1 = .ok (.getfield 15, 3) := by decide +kernel
theorem dX8_soundHead_4 : decode cX8_soundHead 4 = .ok (.iconst 1, 1) := by decide +kernel
theorem dX8_soundHead_5 : decode cX8_soundHead 5 = .ok (.if_icmp .lt 16, 3) := by decide +kernel
theorem dX8_soundHead_8 : decode cX8_soundHead 8 = .ok (.aload_n 0, 1) := by decide +kernel
theorem dX8_soundHead_9 : decode cX8_soundHead 9 = .ok (.iconst 0, 1) := by decide +kernel
theorem dX8_soundHead_10 : decode cX8_soundHead 10 = .ok (.invokevirtual 23, 3) := by decide +kernel
theorem dX8_soundHead_13 : decode cX8_soundHead 13 = .ok (.iconst 0, 1) := by decide +kernel
theorem dX8_soundHead_14 : decode cX8_soundHead 14 = .ok (.iconst 1, 1) := by decide +kernel
theorem dX8_soundHead_15 : decode cX8_soundHead 15 = .ok (.invokestatic 43, 3) := by decide +kernel
theorem dX8_soundHead_18 : decode cX8_soundHead 18 = .ok (.ifCond .ne 5, 3) := by decide +kernel
theorem dX8_soundHead_21 : decode cX8_soundHead 21 = .ok (.iconst 0, 1) := by decide +kernel
theorem dX8_soundHead_22 : decode cX8_soundHead 22 = .ok (.ireturn, 1) := by decide +kernel
theorem dX8_soundHead_23 : decode cX8_soundHead 23 = .ok (.aload_n 0, 1) := by decide +kernel
theorem dX8_soundHead_24 : decode cX8_soundHead 24 = .ok (.getfield 15, 3) := by decide +kernel
theorem dX8_soundHead_27 : decode cX8_soundHead 27 = .ok (.iconst 2, 1) := by decide +kernel
theorem dX8_soundHead_28 : decode cX8_soundHead 28 = .ok (.if_icmp .lt 14, 3) := by decide +kernel
theorem dX8_soundHead_31 : decode cX8_soundHead 31 = .ok (.aload_n 0, 1) := by decide +kernel
theorem dX8_soundHead_32 : decode cX8_soundHead 32 = .ok (.iconst 1, 1) := by decide +kernel
theorem dX8_soundHead_33 : decode cX8_soundHead 33 = .ok (.invokevirtual 23, 3) := by decide +kernel
theorem dX8_soundHead_36 : decode cX8_soundHead 36 = .ok (.invokestatic 47, 3) := by decide +kernel
theorem dX8_soundHead_39 : decode cX8_soundHead 39 = .ok (.ifCond .ne 5, 3) := by decide +kernel
theorem dX8_soundHead_42 : decode cX8_soundHead 42 = .ok (.iconst 1, 1) := by decide +kernel
theorem dX8_soundHead_43 : decode cX8_soundHead 43 = .ok (.ireturn, 1) := by decide +kernel
theorem dX8_soundHead_44 : decode cX8_soundHead 44 = .ok (.aload_n 0, 1) := by decide +kernel
theorem dX8_soundHead_45 : decode cX8_soundHead 45 = .ok (.getfield 15, 3) := by decide +kernel
theorem dX8_soundHead_48 : decode cX8_soundHead 48 = .ok (.iconst 3, 1) := by decide +kernel
theorem dX8_soundHead_49 : decode cX8_soundHead 49 = .ok (.if_icmp .lt 14, 3) := by decide +kernel
theorem dX8_soundHead_52 : decode cX8_soundHead 52 = .ok (.aload_n 0, 1) := by decide +kernel
theorem dX8_soundHead_53 : decode cX8_soundHead 53 = .ok (.iconst 2, 1) := by decide +kernel
theorem dX8_soundHead_54 : decode cX8_soundHead 54 = .ok (.invokevirtual 23, 3) := by decide +kernel
theorem dX8_soundHead_57 : decode cX8_soundHead 57 = .ok (.invokestatic 47, 3) := by decide +kernel
theorem dX8_soundHead_60 : decode cX8_soundHead 60 = .ok (.ifCond .ne 7, 3) := by decide +kernel
theorem dX8_soundHead_63 : decode cX8_soundHead 63 = .ok (.iconst 2, 1) := by decide +kernel
theorem dX8_soundHead_64 : decode cX8_soundHead 64 = .ok (.goto 4, 3) := by decide +kernel
theorem dX8_soundHead_67 : decode cX8_soundHead 67 = .ok (.iconst 3, 1) := by decide +kernel
theorem dX8_soundHead_68 : decode cX8_soundHead 68 = .ok (.ireturn, 1) := by decide +kernel
theorem dX8_byteAt_0 : decode cX8_byteAt 0 = .ok (.iload_n 1, 1) := by decide +kernel
theorem dX8_byteAt_1 : decode cX8_byteAt 1 = .ok (.ifCond .lt 19, 3) := by decide +kernel
theorem dX8_byteAt_4 : decode cX8_byteAt 4 = .ok (.iload_n 1, 1) := by decide +kernel
theorem dX8_byteAt_5 : decode cX8_byteAt 5 = .ok (.sipush 800, 3) := by decide +kernel
theorem dX8_byteAt_8 : decode cX8_byteAt 8 = .ok (.if_icmp .ge 12, 3) := by decide +kernel
theorem dX8_byteAt_11 : decode cX8_byteAt 11 = .ok (.aload_n 0, 1) := by decide +kernel
theorem dX8_byteAt_12 : decode cX8_byteAt 12 = .ok (.getfield 9, 3) := by decide +kernel
theorem dX8_byteAt_15 : decode cX8_byteAt 15 = .ok (.iload_n 1, 1) := by decide +kernel
theorem dX8_byteAt_16 : decode cX8_byteAt 16 = .ok (.iaload, 1) := by decide +kernel
theorem dX8_byteAt_17 : decode cX8_byteAt 17 = .ok (.goto 4, 3) := by decide +kernel
theorem dX8_byteAt_20 : decode cX8_byteAt 20 = .ok (.iconst 0, 1) := by decide +kernel
theorem dX8_byteAt_21 : decode cX8_byteAt 21 = .ok (.ireturn, 1) := by decide +kernel
theorem dX9_init_0 : decode cX9_init 0 = .ok (.aload_n 0, 1) := by decide +kernel
theorem dX9_init_1 : decode cX9_init 1 = .ok (.invokespecial 3, 3) := by decide +kernel
theorem dX9_init_4 : decode cX9_init 4 = .ok (.aload_n 0, 1) := by decide +kernel
theorem dX9_init_5 : decode cX9_init 5 = .ok (.sipush 256, 3) := by decide +kernel
theorem dX9_init_8 : decode cX9_init 8 = .ok (.newarray .int, 2) := by decide +kernel
theorem dX9_init_10 : decode cX9_init 10 = .ok (.putfield 9, 3) := by decide +kernel
theorem dX9_init_13 : decode cX9_init 13 = .ok (.aload_n 0, 1) := by decide +kernel
theorem dX9_init_14 : decode cX9_init 14 = .ok (.sipush 256, 3) := by decide +kernel
theorem dX9_init_17 : decode cX9_init 17 = .ok (.newarray .int, 2) := by decide +kernel
theorem dX9_init_19 : decode cX9_init 19 = .ok (.putfield 15, 3) := by decide +kernel
theorem dX9_init_22 : decode cX9_init 22 = .ok (.return_, 1) := by decide +kernel
theorem dX9_spread_0 : decode cX9_spread 0 = .ok (.aload_n 2, 1) := by decide +kernel
theorem dX9_spread_1 : decode cX9_spread 1 = .ok (.aload_n 1, 1) := by decide +kernel
theorem dX9_spread_2 : decode cX9_spread 2 = .ok (.getfield 18, 3) := by decide +kernel
theorem dX9_spread_5 : decode cX9_spread 5 = .ok (.aload_n 1, 1) := by decide +kernel
theorem dX9_spread_6 : decode cX9_spread 6 = .ok (.getfield 24, 3) := by decide +kernel
theorem dX9_spread_9 : decode cX9_spread 9 = .ok (.aload_n 1, 1) := by decide +kernel
theorem dX9_spread_10 : decode cX9_spread 10 = .ok (.getfield 27, 3) := by decide +kernel
theorem dX9_spread_13 : decode cX9_spread 13 = .ok (.invokevirtual 30, 3) := by decide +kernel
theorem dX9_spread_16 : decode cX9_spread 16 = .ok (.aload_n 0, 1) := by decide +kernel
theorem dX9_spread_17 : decode cX9_spread 17 = .ok (.getfield 9, 3) := by decide +kernel
theorem dX9_spread_20 : decode cX9_spread 20 = .ok (.iconst 0, 1) := by decide +kernel
theorem dX9_spread_21 : decode cX9_spread 21 = .ok (.invokestatic 34, 3) := by decide +kernel
theorem dX9_spread_24 : decode cX9_spread 24 = .ok (.iconst 0, 1) := by decide +kernel
theorem dX9_spread_25 : decode cX9_spread 25 = .ok (.istore 4, 2) := by decide +kernel
theorem dX9_spread_27 : decode cX9_spread 27 = .ok (.iload 4, 2) := by decide +kernel
theorem dX9_spread_29 : decode cX9_spread 29 = .ok (.aload_n 1, 1) := by decide +kernel
theorem dX9_spread_30 : decode cX9_spread 30 = .ok (.getfield 27, 3) := by decide +kernel
theorem dX9_spread_33 : decode cX9_spread 33 = .ok (.if_icmp .ge 40, 3) := by decide +kernel
theorem dX9_spread_36 : decode cX9_spread 36 = .ok (.iconst 0, 1) := by decide +kernel
theorem dX9_spread_37 : decode cX9_spread 37 = .ok (.istore 5, 2) := by decide +kernel
theorem dX9_spread_39 : decode cX9_spread 39 = .ok (.iload 5, 2) := by decide +kernel
theorem dX9_spread_41 : decode cX9_spread 41 = .ok (.aload_n 1, 1) := by decide +kernel
theorem dX9_spread_42 : decode cX9_spread 42 = .ok (.getfield 24, 3) := by decide +kernel
theorem dX9_spread_45 : decode cX9_spread 45 = .ok (.if_icmp .ge 22, 3) := by decide +kernel
theorem dX9_spread_48 : decode cX9_spread 48 = .ok (.aload_n 0, 1) := by decide +kernel
theorem dX9_spread_49 : decode cX9_spread 49 = .ok (.aload_n 1, 1) := by decide +kernel
theorem dX9_spread_50 : decode cX9_spread 50 = .ok (.aload_n 2, 1) := by decide +kernel
theorem dX9_spread_51 : decode cX9_spread 51 = .ok (.iload 5, 2) := by decide +kernel
theorem dX9_spread_53 : decode cX9_spread 53 = .ok (.iload 4, 2) := by decide +kernel
theorem dX9_spread_55 : decode cX9_spread 55 = .ok (.iload_n 3, 1) := by decide +kernel
theorem dX9_spread_56 : decode cX9_spread 56 = .ok (.iconst 1, 1) := by decide +kernel
theorem dX9_spread_57 : decode cX9_spread 57 = .ok (.isub, 1) := by decide +kernel
theorem dX9_spread_58 : decode cX9_spread 58 = .ok (.invokevirtual 40, 3) := by decide +kernel
theorem dX9_spread_61 : decode cX9_spread 61 = .ok (.iinc 5 1, 3) := by decide +kernel
theorem dX9_spread_64 : decode cX9_spread 64 = .ok (.goto (-25), 3) := by decide +kernel
theorem dX9_spread_67 : decode cX9_spread 67 = .ok (.iinc 4 1, 3) := by decide +kernel
theorem dX9_spread_70 : decode cX9_spread 70 = .ok (.goto (-43), 3) := by decide +kernel
theorem dX9_spread_73 : decode cX9_spread 73 = .ok (.return_, 1) := by decide +kernel
theorem dX9_spreadAt_0 : decode cX9_spreadAt 0 = .ok (.aload_n 1, 1) := by decide +kernel
theorem dX9_spreadAt_1 : decode cX9_spreadAt 1 = .ok (.iload_n 3, 1) := by decide +kernel
theorem dX9_spreadAt_2 : decode cX9_spreadAt 2 = .ok (.iload 4, 2) := by decide +kernel
theorem dX9_spreadAt_4 : decode cX9_spreadAt 4 = .ok (.invokevirtual 44, 3) := by decide +kernel
theorem dX9_spreadAt_7 : decode cX9_spreadAt 7 = .ok (.istore 6, 2) := by decide +kernel
theorem dX9_spreadAt_9 : decode cX9_spreadAt 9 = .ok (.iload 5, 2) := by decide +kernel
theorem dX9_spreadAt_11 : decode cX9_spreadAt 11 = .ok (.iconst 1, 1) := by decide +kernel
theorem dX9_spreadAt_12 : decode cX9_spreadAt 12 = .ok (.if_icmp .lt 16, 3) := by decide +kernel
theorem dX9_spreadAt_15 : decode cX9_spreadAt 15 = .ok (.iload 6, 2) := by decide +kernel
theorem dX9_spreadAt_17 : decode cX9_spreadAt 17 = .ok (.ifCond .lt 11, 3) := by decide +kernel
theorem dX9_spreadAt_20 : decode cX9_spreadAt 20 = .ok (.iload 6, 2) := by decide +kernel
theorem dX9_spreadAt_22 : decode cX9_spreadAt 22 = .ok (.sipush 256, 3) := by decide +kernel
theorem dX9_spreadAt_25 : decode cX9_spreadAt 25 = .ok (.if_icmp .lt 4, 3) := by decide +kernel
theorem dX9_spreadAt_28 : decode cX9_spreadAt 28 = .ok (.return_, 1) := by decide +kernel
theorem dX9_spreadAt_29 : decode cX9_spreadAt 29 = .ok (.aload_n 1, 1) := by decide +kernel
theorem dX9_spreadAt_30 : decode cX9_spreadAt 30 = .ok (.iload 6, 2) := by decide +kernel
theorem dX9_spreadAt_32 : decode cX9_spreadAt 32 = .ok (.invokevirtual 48, 3) := by decide +kernel
theorem dX9_spreadAt_35 : decode cX9_spreadAt 35 = .ok (.aload_n 0, 1) := by decide +kernel
theorem dX9_spreadAt_36 : decode cX9_spreadAt 36 = .ok (.getfield 9, 3) := by decide +kernel
theorem dX9_spreadAt_39 : decode cX9_spreadAt 39 = .ok (.iload 6, 2) := by decide +kernel
theorem dX9_spreadAt_41 : decode cX9_spreadAt 41 = .ok (.iaload, 1) := by decide +kernel
theorem dX9_spreadAt_42 : decode cX9_spreadAt 42 = .ok (.iadd, 1) := by decide +kernel
theorem dX9_spreadAt_43 : decode cX9_spreadAt 43 = .ok (.istore 7, 2) := by decide +kernel
theorem dX9_spreadAt_45 : decode cX9_spreadAt 45 = .ok (.lconst 0, 1) := by decide +kernel
theorem dX9_spreadAt_46 : decode cX9_spreadAt 46 = .ok (.iload 5, 2) := by decide +kernel
theorem dX9_spreadAt_48 : decode cX9_spreadAt 48 = .ok (.i2l, 1) := by decide +kernel
theorem dX9_spreadAt_49 : decode cX9_spreadAt 49 = .ok (.iload 7, 2) := by decide +kernel
theorem dX9_spreadAt_51 : decode cX9_spreadAt 51 = .ok (.i2l, 1) := by decide +kernel
theorem dX9_spreadAt_52 : decode cX9_spreadAt 52 = .ok (.iload 5, 2) := by decide +kernel
theorem dX9_spreadAt_54 : decode cX9_spreadAt 54 = .ok (.i2l, 1) := by decide +kernel
theorem dX9_spreadAt_55 : decode cX9_spreadAt 55 = .ok (.lmul, 1) := by decide +kernel
theorem dX9_spreadAt_56 : decode cX9_spreadAt 56 = .ok (.ldc2_w 52, 3) := by decide +kernel
theorem dX9_spreadAt_59 : decode cX9_spreadAt 59 = .ok (.invokestatic 54, 3) := by decide +kernel
theorem dX9_spreadAt_62 : decode cX9_spreadAt 62 = .ok (.invokestatic 58, 3) := by decide +kernel
theorem dX9_spreadAt_65 : decode cX9_spreadAt 65 = .ok (.invokestatic 63, 3) := by decide +kernel
theorem dX9_spreadAt_68 : decode cX9_spreadAt 68 = .ok (.l2i, 1) := by decide +kernel
theorem dX9_spreadAt_69 : decode cX9_spreadAt 69 = .ok (.istore 8, 2) := by decide +kernel
theorem dX9_spreadAt_71 : decode cX9_spreadAt 71 = .ok (.sipush 255, 3) := by decide +kernel
theorem dX9_spreadAt_74 : decode cX9_spreadAt 74 = .ok (.iload 8, 2) := by decide +kernel
theorem dX9_spreadAt_76 : decode cX9_spreadAt 76 = .ok (.imul, 1) := by decide +kernel
theorem dX9_spreadAt_77 : decode cX9_spreadAt 77 = .ok (.iload 5, 2) := by decide +kernel
theorem dX9_spreadAt_79 : decode cX9_spreadAt 79 = .ok (.idiv, 1) := by decide +kernel
theorem dX9_spreadAt_80 : decode cX9_spreadAt 80 = .ok (.istore 9, 2) := by decide +kernel
theorem dX9_spreadAt_82 : decode cX9_spreadAt 82 = .ok (.aload_n 2, 1) := by decide +kernel
theorem dX9_spreadAt_83 : decode cX9_spreadAt 83 = .ok (.iload 6, 2) := by decide +kernel
theorem dX9_spreadAt_85 : decode cX9_spreadAt 85 = .ok (.iload 9, 2) := by decide +kernel
theorem dX9_spreadAt_87 : decode cX9_spreadAt 87 = .ok (.invokevirtual 66, 3) := by decide +kernel
theorem dX9_spreadAt_90 : decode cX9_spreadAt 90 = .ok (.iload 7, 2) := by decide +kernel
theorem dX9_spreadAt_92 : decode cX9_spreadAt 92 = .ok (.iload 9, 2) := by decide +kernel
theorem dX9_spreadAt_94 : decode cX9_spreadAt 94 = .ok (.isub, 1) := by decide +kernel
theorem dX9_spreadAt_95 : decode cX9_spreadAt 95 = .ok (.istore 10, 2) := by decide +kernel
theorem dX9_spreadAt_97 : decode cX9_spreadAt 97 = .ok (.bipush 7, 2) := by decide +kernel
theorem dX9_spreadAt_99 : decode cX9_spreadAt 99 = .ok (.iload 10, 2) := by decide +kernel
theorem dX9_spreadAt_101 : decode cX9_spreadAt 101 = .ok (.imul, 1) := by decide +kernel
theorem dX9_spreadAt_102 : decode cX9_spreadAt 102 = .ok (.bipush 16, 2) := by decide +kernel
theorem dX9_spreadAt_104 : decode cX9_spreadAt 104 = .ok (.idiv, 1) := by decide +kernel
theorem dX9_spreadAt_105 : decode cX9_spreadAt 105 = .ok (.istore 11, 2) := by decide +kernel
theorem dX9_spreadAt_107 : decode cX9_spreadAt 107 = .ok (.iconst 3, 1) := by decide +kernel
theorem dX9_spreadAt_108 : decode cX9_spreadAt 108 = .ok (.iload 10, 2) := by decide +kernel
theorem dX9_spreadAt_110 : decode cX9_spreadAt 110 = .ok (.imul, 1) := by decide +kernel
theorem dX9_spreadAt_111 : decode cX9_spreadAt 111 = .ok (.bipush 16, 2) := by decide +kernel
theorem dX9_spreadAt_113 : decode cX9_spreadAt 113 = .ok (.idiv, 1) := by decide +kernel
theorem dX9_spreadAt_114 : decode cX9_spreadAt 114 = .ok (.istore 12, 2) := by decide +kernel
theorem dX9_spreadAt_116 : decode cX9_spreadAt 116 = .ok (.iconst 5, 1) := by decide +kernel
theorem dX9_spreadAt_117 : decode cX9_spreadAt 117 = .ok (.iload 10, 2) := by decide +kernel
theorem dX9_spreadAt_119 : decode cX9_spreadAt 119 = .ok (.imul, 1) := by decide +kernel
theorem dX9_spreadAt_120 : decode cX9_spreadAt 120 = .ok (.bipush 16, 2) := by decide +kernel
theorem dX9_spreadAt_122 : decode cX9_spreadAt 122 = .ok (.idiv, 1) := by decide +kernel
theorem dX9_spreadAt_123 : decode cX9_spreadAt 123 = .ok (.istore 13, 2) := by decide +kernel
theorem dX9_spreadAt_125 : decode cX9_spreadAt 125 = .ok (.aload_n 0, 1) := by decide +kernel
theorem dX9_spreadAt_126 : decode cX9_spreadAt 126 = .ok (.aload_n 1, 1) := by decide +kernel
theorem dX9_spreadAt_127 : decode cX9_spreadAt 127 = .ok (.iload_n 3, 1) := by decide +kernel
theorem dX9_spreadAt_128 : decode cX9_spreadAt 128 = .ok (.iconst 1, 1) := by decide +kernel
theorem dX9_spreadAt_129 : decode cX9_spreadAt 129 = .ok (.iadd, 1) := by decide +kernel
theorem dX9_spreadAt_130 : decode cX9_spreadAt 130 = .ok (.iload 4, 2) := by decide +kernel
theorem dX9_spreadAt_132 : decode cX9_spreadAt 132 = .ok (.iload 11, 2) := by decide +kernel
theorem dX9_spreadAt_134 : decode cX9_spreadAt 134 = .ok (.invokevirtual 70, 3) := by decide +kernel
theorem dX9_spreadAt_137 : decode cX9_spreadAt 137 = .ok (.aload_n 0, 1) := by decide +kernel
theorem dX9_spreadAt_138 : decode cX9_spreadAt 138 = .ok (.aload_n 1, 1) := by decide +kernel
theorem dX9_spreadAt_139 : decode cX9_spreadAt 139 = .ok (.iload_n 3, 1) := by decide +kernel
theorem dX9_spreadAt_140 : decode cX9_spreadAt 140 = .ok (.iconst 1, 1) := by decide +kernel
theorem dX9_spreadAt_141 : decode cX9_spreadAt 141 = .ok (.isub, 1) := by decide +kernel
theorem dX9_spreadAt_142 : decode cX9_spreadAt 142 = .ok (.iload 4, 2) := by decide +kernel
theorem dX9_spreadAt_144 : decode cX9_spreadAt 144 = .ok (.iconst 1, 1) := by decide +kernel
theorem dX9_spreadAt_145 : decode cX9_spreadAt 145 = .ok (.iadd, 1) := by decide +kernel
theorem dX9_spreadAt_146 : decode cX9_spreadAt 146 = .ok (.iload 12, 2) := by decide +kernel
theorem dX9_spreadAt_148 : decode cX9_spreadAt 148 = .ok (.invokevirtual 70, 3) := by decide +kernel
theorem dX9_spreadAt_151 : decode cX9_spreadAt 151 = .ok (.aload_n 0, 1) := by decide +kernel
theorem dX9_spreadAt_152 : decode cX9_spreadAt 152 = .ok (.aload_n 1, 1) := by decide +kernel
theorem dX9_spreadAt_153 : decode cX9_spreadAt 153 = .ok (.iload_n 3, 1) := by decide +kernel
theorem dX9_spreadAt_154 : decode cX9_spreadAt 154 = .ok (.iload 4, 2) := by decide +kernel
theorem dX9_spreadAt_156 : decode cX9_spreadAt 156 = .ok (.iconst 1, 1) := by decide +kernel
theorem dX9_spreadAt_157 : decode cX9_spreadAt 157 = .ok (.iadd, 1) := by decide +kernel
theorem dX9_spreadAt_158 : decode cX9_spreadAt 158 = .ok (.iload 13, 2) := by decide +kernel
theorem dX9_spreadAt_160 : decode cX9_spreadAt 160 = .ok (.invokevirtual 70, 3) := by decide +kernel
theorem dX9_spreadAt_163 : decode cX9_spreadAt 163 = .ok (.aload_n 0, 1) := by decide +kernel
theorem dX9_spreadAt_164 : decode cX9_spreadAt 164 = .ok (.aload_n 1, 1) := by decide +kernel
theorem dX9_spreadAt_165 : decode cX9_spreadAt 165 = .ok (.iload_n 3, 1) := by decide +kernel
theorem dX9_spreadAt_166 : decode cX9_spreadAt 166 = .ok (.iconst 1, 1) := by decide +kernel
theorem dX9_spreadAt_167 : decode cX9_spreadAt 167 = .ok (.iadd, 1) := by decide +kernel
theorem dX9_spreadAt_168 : decode cX9_spreadAt 168 = .ok (.iload 4, 2) := by decide +kernel
theorem dX9_spreadAt_170 : decode cX9_spreadAt 170 = .ok (.iconst 1, 1) := by decide +kernel
theorem dX9_spreadAt_171 : decode cX9_spreadAt 171 = .ok (.iadd, 1) := by decide +kernel
theorem dX9_spreadAt_172 : decode cX9_spreadAt 172 = .ok (.iload 10, 2) := by decide +kernel
theorem dX9_spreadAt_174 : decode cX9_spreadAt 174 = .ok (.iload 11, 2) := by decide +kernel
theorem dX9_spreadAt_176 : decode cX9_spreadAt 176 = .ok (.isub, 1) := by decide +kernel
theorem dX9_spreadAt_177 : decode cX9_spreadAt 177 = .ok (.iload 12, 2) := by decide +kernel
theorem dX9_spreadAt_179 : decode cX9_spreadAt 179 = .ok (.isub, 1) := by decide +kernel
theorem dX9_spreadAt_180 : decode cX9_spreadAt 180 = .ok (.iload 13, 2) := by decide +kernel
theorem dX9_spreadAt_182 : decode cX9_spreadAt 182 = .ok (.isub, 1) := by decide +kernel
theorem dX9_spreadAt_183 : decode cX9_spreadAt 183 = .ok (.invokevirtual 70, 3) := by decide +kernel
theorem dX9_spreadAt_186 : decode cX9_spreadAt 186 = .ok (.return_, 1) := by decide +kernel
theorem dX9_carry_0 : decode cX9_carry 0 = .ok (.aload_n 1, 1) := by decide +kernel
theorem dX9_carry_1 : decode cX9_carry 1 = .ok (.iload_n 2, 1) := by decide +kernel
theorem dX9_carry_2 : decode cX9_carry 2 = .ok (.iload_n 3, 1) := by decide +kernel
theorem dX9_carry_3 : decode cX9_carry 3 = .ok (.invokevirtual 44, 3) := by decide +kernel
theorem dX9_carry_6 : decode cX9_carry 6 = .ok (.istore 5, 2) := by decide +kernel
theorem dX9_carry_8 : decode cX9_carry 8 = .ok (.aload_n 1, 1) := by decide +kernel
theorem dX9_carry_9 : decode cX9_carry 9 = .ok (.iload_n 2, 1) := by decide +kernel
theorem dX9_carry_10 : decode cX9_carry 10 = .ok (.iload_n 3, 1) := by decide +kernel
theorem dX9_carry_11 : decode cX9_carry 11 = .ok (.invokevirtual 74, 3) := by decide +kernel
theorem dX9_carry_14 : decode cX9_carry 14 = .ok (.ifCond .eq 23, 3) := by decide +kernel
theorem dX9_carry_17 : decode cX9_carry 17 = .ok (.iload 5, 2) := by decide +kernel
theorem dX9_carry_19 : decode cX9_carry 19 = .ok (.sipush 256, 3) := by decide +kernel
theorem dX9_carry_22 : decode cX9_carry 22 = .ok (.if_icmp .ge 15, 3) := by decide +kernel
theorem dX9_carry_25 : decode cX9_carry 25 = .ok (.aload_n 0, 1) := by decide +kernel
theorem dX9_carry_26 : decode cX9_carry 26 = .ok (.getfield 9, 3) := by decide +kernel
theorem dX9_carry_29 : decode cX9_carry 29 = .ok (.iload 5, 2) := by decide +kernel
theorem dX9_carry_31 : decode cX9_carry 31 = .ok (.dup2, 1) := by decide +kernel
theorem dX9_carry_32 : decode cX9_carry 32 = .ok (.iaload, 1) := by decide +kernel
theorem dX9_carry_33 : decode cX9_carry 33 = .ok (.iload 4, 2) := by decide +kernel
theorem dX9_carry_35 : decode cX9_carry 35 = .ok (.iadd, 1) := by decide +kernel
theorem dX9_carry_36 : decode cX9_carry 36 = .ok (.iastore, 1) := by decide +kernel
theorem dX9_carry_37 : decode cX9_carry 37 = .ok (.return_, 1) := by decide +kernel
theorem dX9_flatten_0 : decode cX9_flatten 0 = .ok (.aload_n 2, 1) := by decide +kernel
theorem dX9_flatten_1 : decode cX9_flatten 1 = .ok (.aload_n 1, 1) := by decide +kernel
theorem dX9_flatten_2 : decode cX9_flatten 2 = .ok (.invokevirtual 78, 3) := by decide +kernel
theorem dX9_flatten_5 : decode cX9_flatten 5 = .ok (.aload_n 1, 1) := by decide +kernel
theorem dX9_flatten_6 : decode cX9_flatten 6 = .ok (.invokevirtual 82, 3) := by decide +kernel
theorem dX9_flatten_9 : decode cX9_flatten 9 = .ok (.istore_n 3, 1) := by decide +kernel
theorem dX9_flatten_10 : decode cX9_flatten 10 = .ok (.aload_n 0, 1) := by decide +kernel
theorem dX9_flatten_11 : decode cX9_flatten 11 = .ok (.aload_n 1, 1) := by decide +kernel
theorem dX9_flatten_12 : decode cX9_flatten 12 = .ok (.invokevirtual 86, 3) := by decide +kernel
theorem dX9_flatten_15 : decode cX9_flatten 15 = .ok (.aload_n 0, 1) := by decide +kernel
theorem dX9_flatten_16 : decode cX9_flatten 16 = .ok (.aload_n 1, 1) := by decide +kernel
theorem dX9_flatten_17 : decode cX9_flatten 17 = .ok (.invokevirtual 89, 3) := by decide +kernel
theorem dX9_flatten_20 : decode cX9_flatten 20 = .ok (.invokevirtual 92, 3) := by decide +kernel
theorem dX9_flatten_23 : decode cX9_flatten 23 = .ok (.istore 4, 2) := by decide +kernel
theorem dX9_flatten_25 : decode cX9_flatten 25 = .ok (.iload 4, 2) := by decide +kernel
theorem dX9_flatten_27 : decode cX9_flatten 27 = .ok (.iload_n 3, 1) := by decide +kernel
theorem dX9_flatten_28 : decode cX9_flatten 28 = .ok (.if_icmp .lt 4, 3) := by decide +kernel
theorem dX9_flatten_31 : decode cX9_flatten 31 = .ok (.return_, 1) := by decide +kernel
theorem dX9_flatten_32 : decode cX9_flatten 32 = .ok (.iconst 0, 1) := by decide +kernel
theorem dX9_flatten_33 : decode cX9_flatten 33 = .ok (.istore 5, 2) := by decide +kernel
theorem dX9_flatten_35 : decode cX9_flatten 35 = .ok (.iload 5, 2) := by decide +kernel
theorem dX9_flatten_37 : decode cX9_flatten 37 = .ok (.iload_n 3, 1) := by decide +kernel
theorem dX9_flatten_38 : decode cX9_flatten 38 = .ok (.if_icmp .ge 46, 3) := by decide +kernel
theorem dX9_flatten_41 : decode cX9_flatten 41 = .ok (.aload_n 0, 1) := by decide +kernel
theorem dX9_flatten_42 : decode cX9_flatten 42 = .ok (.aload_n 1, 1) := by decide +kernel
theorem dX9_flatten_43 : decode cX9_flatten 43 = .ok (.iload 5, 2) := by decide +kernel
theorem dX9_flatten_45 : decode cX9_flatten 45 = .ok (.invokevirtual 48, 3) := by decide +kernel
theorem dX9_flatten_48 : decode cX9_flatten 48 = .ok (.invokevirtual 92, 3) := by decide +kernel
theorem dX9_flatten_51 : decode cX9_flatten 51 = .ok (.iload 4, 2) := by decide +kernel
theorem dX9_flatten_53 : decode cX9_flatten 53 = .ok (.isub, 1) := by decide +kernel
theorem dX9_flatten_54 : decode cX9_flatten 54 = .ok (.i2l, 1) := by decide +kernel
theorem dX9_flatten_55 : decode cX9_flatten 55 = .ok (.lstore 6, 2) := by decide +kernel
theorem dX9_flatten_57 : decode cX9_flatten 57 = .ok (.aload_n 2, 1) := by decide +kernel
theorem dX9_flatten_58 : decode cX9_flatten 58 = .ok (.iload 5, 2) := by decide +kernel
theorem dX9_flatten_60 : decode cX9_flatten 60 = .ok (.ldc2_w 52, 3) := by decide +kernel
theorem dX9_flatten_63 : decode cX9_flatten 63 = .ok (.lload 6, 2) := by decide +kernel
theorem dX9_flatten_65 : decode cX9_flatten 65 = .ok (.lmul, 1) := by decide +kernel
theorem dX9_flatten_66 : decode cX9_flatten 66 = .ok (.iload_n 3, 1) := by decide +kernel
theorem dX9_flatten_67 : decode cX9_flatten 67 = .ok (.iload 4, 2) := by decide +kernel
theorem dX9_flatten_69 : decode cX9_flatten 69 = .ok (.isub, 1) := by decide +kernel
theorem dX9_flatten_70 : decode cX9_flatten 70 = .ok (.i2l, 1) := by decide +kernel
theorem dX9_flatten_71 : decode cX9_flatten 71 = .ok (.invokestatic 54, 3) := by decide +kernel
theorem dX9_flatten_74 : decode cX9_flatten 74 = .ok (.l2i, 1) := by decide +kernel
theorem dX9_flatten_75 : decode cX9_flatten 75 = .ok (.invokevirtual 66, 3) := by decide +kernel
theorem dX9_flatten_78 : decode cX9_flatten 78 = .ok (.iinc 5 1, 3) := by decide +kernel
theorem dX9_flatten_81 : decode cX9_flatten 81 = .ok (.goto (-46), 3) := by decide +kernel
theorem dX9_flatten_84 : decode cX9_flatten 84 = .ok (.return_, 1) := by decide +kernel
theorem dX9_countUp_0 : decode cX9_countUp 0 = .ok (.aload_n 0, 1) := by decide +kernel
theorem dX9_countUp_1 : decode cX9_countUp 1 = .ok (.getfield 15, 3) := by decide +kernel
theorem dX9_countUp_4 : decode cX9_countUp 4 = .ok (.iconst 0, 1) := by decide +kernel
theorem dX9_countUp_5 : decode cX9_countUp 5 = .ok (.invokestatic 34, 3) := by decide +kernel
theorem dX9_countUp_8 : decode cX9_countUp 8 = .ok (.iconst 0, 1) := by decide +kernel
theorem dX9_countUp_9 : decode cX9_countUp 9 = .ok (.istore_n 2, 1) := by decide +kernel
theorem dX9_countUp_10 : decode cX9_countUp 10 = .ok (.iload_n 2, 1) := by decide +kernel
theorem dX9_countUp_11 : decode cX9_countUp 11 = .ok (.aload_n 1, 1) := by decide +kernel
theorem dX9_countUp_12 : decode cX9_countUp 12 = .ok (.invokevirtual 82, 3) := by decide +kernel
theorem dX9_countUp_15 : decode cX9_countUp 15 = .ok (.if_icmp .ge 36, 3) := by decide +kernel
theorem dX9_countUp_18 : decode cX9_countUp 18 = .ok (.aload_n 1, 1) := by decide +kernel
theorem dX9_countUp_19 : decode cX9_countUp 19 = .ok (.iload_n 2, 1) := by decide +kernel
theorem dX9_countUp_20 : decode cX9_countUp 20 = .ok (.invokevirtual 48, 3) := by decide +kernel
theorem dX9_countUp_23 : decode cX9_countUp 23 = .ok (.istore_n 3, 1) := by decide +kernel
theorem dX9_countUp_24 : decode cX9_countUp 24 = .ok (.iload_n 3, 1) := by decide +kernel
theorem dX9_countUp_25 : decode cX9_countUp 25 = .ok (.ifCond .lt 20, 3) := by decide +kernel
theorem dX9_countUp_28 : decode cX9_countUp 28 = .ok (.iload_n 3, 1) := by decide +kernel
theorem dX9_countUp_29 : decode cX9_countUp 29 = .ok (.sipush 256, 3) := by decide +kernel
theorem dX9_countUp_32 : decode cX9_countUp 32 = .ok (.if_icmp .ge 13, 3) := by decide +kernel

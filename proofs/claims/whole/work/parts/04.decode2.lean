theorem dX9_countUp_35 : decode cX9_countUp 35 = .ok (.aload_n 0, 1) := by decide +kernel
theorem dX9_countUp_36 : decode cX9_countUp 36 = .ok (.getfield 15, 3) := by decide +kernel
theorem dX9_countUp_39 : decode cX9_countUp 39 = .ok (.iload_n 3, 1) := by decide +kernel
theorem dX9_countUp_40 : decode cX9_countUp 40 = .ok (.dup2, 1) := by decide +kernel
theorem dX9_countUp_41 : decode cX9_countUp 41 = .ok (.iaload, 1) := by decide +kernel
theorem dX9_countUp_42 : decode cX9_countUp 42 = .ok (.iconst 1, 1) := by decide +kernel
theorem dX9_countUp_43 : decode cX9_countUp 43 = .ok (.iadd, 1) := by decide +kernel
theorem dX9_countUp_44 : decode cX9_countUp 44 = .ok (.iastore, 1) := by decide +kernel
theorem dX9_countUp_45 : decode cX9_countUp 45 = .ok (.iinc 2 1, 3) := by decide +kernel
theorem dX9_countUp_48 : decode cX9_countUp 48 = .ok (.goto (-38), 3) := by decide +kernel
theorem dX9_countUp_51 : decode cX9_countUp 51 = .ok (.iconst 1, 1) := by decide +kernel
theorem dX9_countUp_52 : decode cX9_countUp 52 = .ok (.istore_n 2, 1) := by decide +kernel
theorem dX9_countUp_53 : decode cX9_countUp 53 = .ok (.iload_n 2, 1) := by decide +kernel
theorem dX9_countUp_54 : decode cX9_countUp 54 = .ok (.sipush 256, 3) := by decide +kernel
theorem dX9_countUp_57 : decode cX9_countUp 57 = .ok (.if_icmp .ge 26, 3) := by decide +kernel
theorem dX9_countUp_60 : decode cX9_countUp 60 = .ok (.aload_n 0, 1) := by decide +kernel
theorem dX9_countUp_61 : decode cX9_countUp 61 = .ok (.getfield 15, 3) := by decide +kernel
theorem dX9_countUp_64 : decode cX9_countUp 64 = .ok (.iload_n 2, 1) := by decide +kernel
theorem dX9_countUp_65 : decode cX9_countUp 65 = .ok (.dup2, 1) := by decide +kernel
theorem dX9_countUp_66 : decode cX9_countUp 66 = .ok (.iaload, 1) := by decide +kernel
theorem dX9_countUp_67 : decode cX9_countUp 67 = .ok (.aload_n 0, 1) := by decide +kernel
theorem dX9_countUp_68 : decode cX9_countUp 68 = .ok (.getfield 15, 3) := by decide +kernel
theorem dX9_countUp_71 : decode cX9_countUp 71 = .ok (.iload_n 2, 1) := by decide +kernel
theorem dX9_countUp_72 : decode cX9_countUp 72 = .ok (.iconst 1, 1) := by decide +kernel
theorem dX9_countUp_73 : decode cX9_countUp 73 = .ok (.isub, 1) := by decide +kernel
theorem dX9_countUp_74 : decode cX9_countUp 74 = .ok (.iaload, 1) := by decide +kernel
theorem dX9_countUp_75 : decode cX9_countUp 75 = .ok (.iadd, 1) := by decide +kernel
theorem dX9_countUp_76 : decode cX9_countUp 76 = .ok (.iastore, 1) := by decide +kernel
theorem dX9_countUp_77 : decode cX9_countUp 77 = .ok (.iinc 2 1, 3) := by decide +kernel
theorem dX9_countUp_80 : decode cX9_countUp 80 = .ok (.goto (-27), 3) := by decide +kernel
theorem dX9_countUp_83 : decode cX9_countUp 83 = .ok (.return_, 1) := by decide +kernel
theorem dX9_howManyAtMost_0 : decode cX9_howManyAtMost 0 = .ok (.iload_n 1, 1) := by decide +kernel
theorem dX9_howManyAtMost_1 : decode cX9_howManyAtMost 1 = .ok (.ifCond .lt 19, 3) := by decide +kernel
theorem dX9_howManyAtMost_4 : decode cX9_howManyAtMost 4 = .ok (.iload_n 1, 1) := by decide +kernel
theorem dX9_howManyAtMost_5 : decode cX9_howManyAtMost 5 = .ok (.sipush 256, 3) := by decide +kernel
theorem dX9_howManyAtMost_8 : decode cX9_howManyAtMost 8 = .ok (.if_icmp .ge 12, 3) := by decide +kernel
theorem dX9_howManyAtMost_11 : decode cX9_howManyAtMost 11 = .ok (.aload_n 0, 1) := by decide +kernel
theorem dX9_howManyAtMost_12 : decode cX9_howManyAtMost 12 = .ok (.getfield 15, 3) := by decide +kernel
theorem dX9_howManyAtMost_15 : decode cX9_howManyAtMost 15 = .ok (.iload_n 1, 1) := by decide +kernel
theorem dX9_howManyAtMost_16 : decode cX9_howManyAtMost 16 = .ok (.iaload, 1) := by decide +kernel
theorem dX9_howManyAtMost_17 : decode cX9_howManyAtMost 17 = .ok (.goto 4, 3) := by decide +kernel
theorem dX9_howManyAtMost_20 : decode cX9_howManyAtMost 20 = .ok (.iconst 0, 1) := by decide +kernel
theorem dX9_howManyAtMost_21 : decode cX9_howManyAtMost 21 = .ok (.ireturn, 1) := by decide +kernel
theorem dX10_init_0 : decode cX10_init 0 = .ok (.aload_n 0, 1) := by decide +kernel
theorem dX10_init_1 : decode cX10_init 1 = .ok (.invokespecial 1, 3) := by decide +kernel
theorem dX10_init_4 : decode cX10_init 4 = .ok (.aload_n 0, 1) := by decide +kernel
theorem dX10_init_5 : decode cX10_init 5 = .ok (.bipush 8, 2) := by decide +kernel
theorem dX10_init_7 : decode cX10_init 7 = .ok (.anewarray 9, 3) := by decide +kernel
theorem dX10_init_10 : decode cX10_init 10 = .ok (.putfield 11, 3) := by decide +kernel
theorem dX10_init_13 : decode cX10_init 13 = .ok (.aload_n 0, 1) := by decide +kernel
theorem dX10_init_14 : decode cX10_init 14 = .ok (.bipush 6, 2) := by decide +kernel
theorem dX10_init_16 : decode cX10_init 16 = .ok (.anewarray 15, 3) := by decide +kernel
theorem dX10_init_19 : decode cX10_init 19 = .ok (.putfield 17, 3) := by decide +kernel
theorem dX10_init_22 : decode cX10_init 22 = .ok (.aload_n 0, 1) := by decide +kernel
theorem dX10_init_23 : decode cX10_init 23 = .ok (.bipush 24, 2) := by decide +kernel
theorem dX10_init_25 : decode cX10_init 25 = .ok (.anewarray 21, 3) := by decide +kernel
theorem dX10_init_28 : decode cX10_init 28 = .ok (.putfield 23, 3) := by decide +kernel
theorem dX10_init_31 : decode cX10_init 31 = .ok (.aload_n 0, 1) := by decide +kernel
theorem dX10_init_32 : decode cX10_init 32 = .ok (.iconst 0, 1) := by decide +kernel
theorem dX10_init_33 : decode cX10_init 33 = .ok (.putfield 27, 3) := by decide +kernel
theorem dX10_init_36 : decode cX10_init 36 = .ok (.aload_n 0, 1) := by decide +kernel
theorem dX10_init_37 : decode cX10_init 37 = .ok (.new 9, 3) := by decide +kernel
theorem dX10_init_40 : decode cX10_init 40 = .ok (.dup, 1) := by decide +kernel
theorem dX10_init_41 : decode cX10_init 41 = .ok (.invokespecial 31, 3) := by decide +kernel
theorem dX10_init_44 : decode cX10_init 44 = .ok (.putfield 32, 3) := by decide +kernel
theorem dX10_init_47 : decode cX10_init 47 = .ok (.aload_n 0, 1) := by decide +kernel
theorem dX10_init_48 : decode cX10_init 48 = .ok (.new 15, 3) := by decide +kernel
theorem dX10_init_51 : decode cX10_init 51 = .ok (.dup, 1) := by decide +kernel
theorem dX10_init_52 : decode cX10_init 52 = .ok (.invokespecial 36, 3) := by decide +kernel
theorem dX10_init_55 : decode cX10_init 55 = .ok (.putfield 37, 3) := by decide +kernel
theorem dX10_init_58 : decode cX10_init 58 = .ok (.aload_n 0, 1) := by decide +kernel
theorem dX10_init_59 : decode cX10_init 59 = .ok (.new 41, 3) := by decide +kernel
theorem dX10_init_62 : decode cX10_init 62 = .ok (.dup, 1) := by decide +kernel
theorem dX10_init_63 : decode cX10_init 63 = .ok (.invokespecial 43, 3) := by decide +kernel
theorem dX10_init_66 : decode cX10_init 66 = .ok (.putfield 44, 3) := by decide +kernel
theorem dX10_init_69 : decode cX10_init 69 = .ok (.aload_n 0, 1) := by decide +kernel
theorem dX10_init_70 : decode cX10_init 70 = .ok (.new 48, 3) := by decide +kernel
theorem dX10_init_73 : decode cX10_init 73 = .ok (.dup, 1) := by decide +kernel
theorem dX10_init_74 : decode cX10_init 74 = .ok (.invokespecial 50, 3) := by decide +kernel
theorem dX10_init_77 : decode cX10_init 77 = .ok (.putfield 51, 3) := by decide +kernel
theorem dX10_init_80 : decode cX10_init 80 = .ok (.aload_n 0, 1) := by decide +kernel
theorem dX10_init_81 : decode cX10_init 81 = .ok (.new 55, 3) := by decide +kernel
theorem dX10_init_84 : decode cX10_init 84 = .ok (.dup, 1) := by decide +kernel
theorem dX10_init_85 : decode cX10_init 85 = .ok (.invokespecial 57, 3) := by decide +kernel
theorem dX10_init_88 : decode cX10_init 88 = .ok (.putfield 58, 3) := by decide +kernel
theorem dX10_init_91 : decode cX10_init 91 = .ok (.aload_n 0, 1) := by decide +kernel
theorem dX10_init_92 : decode cX10_init 92 = .ok (.new 62, 3) := by decide +kernel
theorem dX10_init_95 : decode cX10_init 95 = .ok (.dup, 1) := by decide +kernel
theorem dX10_init_96 : decode cX10_init 96 = .ok (.invokespecial 64, 3) := by decide +kernel
theorem dX10_init_99 : decode cX10_init 99 = .ok (.putfield 65, 3) := by decide +kernel
theorem dX10_init_102 : decode cX10_init 102 = .ok (.aload_n 0, 1) := by decide +kernel
theorem dX10_init_103 : decode cX10_init 103 = .ok (.new 69, 3) := by decide +kernel
theorem dX10_init_106 : decode cX10_init 106 = .ok (.dup, 1) := by decide +kernel
theorem dX10_init_107 : decode cX10_init 107 = .ok (.invokespecial 71, 3) := by decide +kernel
theorem dX10_init_110 : decode cX10_init 110 = .ok (.putfield 72, 3) := by decide +kernel
theorem dX10_init_113 : decode cX10_init 113 = .ok (.aload_n 0, 1) := by decide +kernel
theorem dX10_init_114 : decode cX10_init 114 = .ok (.new 76, 3) := by decide +kernel
theorem dX10_init_117 : decode cX10_init 117 = .ok (.dup, 1) := by decide +kernel
theorem dX10_init_118 : decode cX10_init 118 = .ok (.invokespecial 78, 3) := by decide +kernel
theorem dX10_init_121 : decode cX10_init 121 = .ok (.putfield 79, 3) := by decide +kernel
theorem dX10_init_124 : decode cX10_init 124 = .ok (.iconst 0, 1) := by decide +kernel
theorem dX10_init_125 : decode cX10_init 125 = .ok (.istore_n 1, 1) := by decide +kernel
theorem dX10_init_126 : decode cX10_init 126 = .ok (.iload_n 1, 1) := by decide +kernel
theorem dX10_init_127 : decode cX10_init 127 = .ok (.bipush 8, 2) := by decide +kernel
theorem dX10_init_129 : decode cX10_init 129 = .ok (.if_icmp .ge 22, 3) := by decide +kernel
theorem dX10_init_132 : decode cX10_init 132 = .ok (.aload_n 0, 1) := by decide +kernel
theorem dX10_init_133 : decode cX10_init 133 = .ok (.getfield 11, 3) := by decide +kernel
theorem dX10_init_136 : decode cX10_init 136 = .ok (.iload_n 1, 1) := by decide +kernel
theorem dX10_init_137 : decode cX10_init 137 = .ok (.new 9, 3) := by decide +kernel
theorem dX10_init_140 : decode cX10_init 140 = .ok (.dup, 1) := by decide +kernel
theorem dX10_init_141 : decode cX10_init 141 = .ok (.invokespecial 31, 3) := by decide +kernel
theorem dX10_init_144 : decode cX10_init 144 = .ok (.aastore, 1) := by decide +kernel
theorem dX10_init_145 : decode cX10_init 145 = .ok (.iinc 1 1, 3) := by decide +kernel
theorem dX10_init_148 : decode cX10_init 148 = .ok (.goto (-22), 3) := by decide +kernel
theorem dX10_init_151 : decode cX10_init 151 = .ok (.iconst 0, 1) := by decide +kernel
theorem dX10_init_152 : decode cX10_init 152 = .ok (.istore_n 1, 1) := by decide +kernel
theorem dX10_init_153 : decode cX10_init 153 = .ok (.iload_n 1, 1) := by decide +kernel
theorem dX10_init_154 : decode cX10_init 154 = .ok (.bipush 6, 2) := by decide +kernel
theorem dX10_init_156 : decode cX10_init 156 = .ok (.if_icmp .ge 22, 3) := by decide +kernel
theorem dX10_init_159 : decode cX10_init 159 = .ok (.aload_n 0, 1) := by decide +kernel
theorem dX10_init_160 : decode cX10_init 160 = .ok (.getfield 17, 3) := by decide +kernel
theorem dX10_init_163 : decode cX10_init 163 = .ok (.iload_n 1, 1) := by decide +kernel
theorem dX10_init_164 : decode cX10_init 164 = .ok (.new 15, 3) := by decide +kernel
theorem dX10_init_167 : decode cX10_init 167 = .ok (.dup, 1) := by decide +kernel
theorem dX10_init_168 : decode cX10_init 168 = .ok (.invokespecial 36, 3) := by decide +kernel
theorem dX10_init_171 : decode cX10_init 171 = .ok (.aastore, 1) := by decide +kernel
theorem dX10_init_172 : decode cX10_init 172 = .ok (.iinc 1 1, 3) := by decide +kernel
theorem dX10_init_175 : decode cX10_init 175 = .ok (.goto (-22), 3) := by decide +kernel
theorem dX10_init_178 : decode cX10_init 178 = .ok (.return_, 1) := by decide +kernel
theorem dX10_picture_0 : decode cX10_picture 0 = .ok (.iload_n 1, 1) := by decide +kernel
theorem dX10_picture_1 : decode cX10_picture 1 = .ok (.invokestatic 83, 3) := by decide +kernel
theorem dX10_picture_4 : decode cX10_picture 4 = .ok (.ifCond .eq 12, 3) := by decide +kernel
theorem dX10_picture_7 : decode cX10_picture 7 = .ok (.iload_n 2, 1) := by decide +kernel
theorem dX10_picture_8 : decode cX10_picture 8 = .ok (.iconst (-1), 1) := by decide +kernel
theorem dX10_picture_9 : decode cX10_picture 9 = .ok (.iconst 1, 1) := by decide +kernel
theorem dX10_picture_10 : decode cX10_picture 10 = .ok (.invokestatic 87, 3) := by decide +kernel
theorem dX10_picture_13 : decode cX10_picture 13 = .ok (.ifCond .ne 6, 3) := by decide +kernel
theorem dX10_picture_16 : decode cX10_picture 16 = .ok (.ldc 91, 2) := by decide +kernel
theorem dX10_picture_18 : decode cX10_picture 18 = .ok (.ireturn, 1) := by decide +kernel
theorem dX10_picture_19 : decode cX10_picture 19 = .ok (.iload_n 2, 1) := by decide +kernel
theorem dX10_picture_20 : decode cX10_picture 20 = .ok (.iconst (-1), 1) := by decide +kernel
theorem dX10_picture_21 : decode cX10_picture 21 = .ok (.if_icmp .ne 13, 3) := by decide +kernel
theorem dX10_picture_24 : decode cX10_picture 24 = .ok (.aload_n 0, 1) := by decide +kernel
theorem dX10_picture_25 : decode cX10_picture 25 = .ok (.getfield 32, 3) := by decide +kernel
theorem dX10_picture_28 : decode cX10_picture 28 = .ok (.invokevirtual 92, 3) := by decide +kernel
theorem dX10_picture_31 : decode cX10_picture 31 = .ok (.goto 42, 3) := by decide +kernel
theorem dX10_picture_34 : decode cX10_picture 34 = .ok (.iload_n 3, 1) := by decide +kernel
theorem dX10_picture_35 : decode cX10_picture 35 = .ok (.invokestatic 95, 3) := by decide +kernel
theorem dX10_picture_38 : decode cX10_picture 38 = .ok (.ifCond .eq 32, 3) := by decide +kernel
theorem dX10_picture_41 : decode cX10_picture 41 = .ok (.iload 4, 2) := by decide +kernel
theorem dX10_picture_43 : decode cX10_picture 43 = .ok (.invokestatic 95, 3) := by decide +kernel
theorem dX10_picture_46 : decode cX10_picture 46 = .ok (.ifCond .eq 24, 3) := by decide +kernel
theorem dX10_picture_49 : decode cX10_picture 49 = .ok (.aload_n 0, 1) := by decide +kernel
theorem dX10_picture_50 : decode cX10_picture 50 = .ok (.getfield 32, 3) := by decide +kernel
theorem dX10_picture_53 : decode cX10_picture 53 = .ok (.iload_n 2, 1) := by decide +kernel
theorem dX10_picture_54 : decode cX10_picture 54 = .ok (.iload_n 3, 1) := by decide +kernel
theorem dX10_picture_55 : decode cX10_picture 55 = .ok (.iload 4, 2) := by decide +kernel
theorem dX10_picture_57 : decode cX10_picture 57 = .ok (.invokevirtual 98, 3) := by decide +kernel
theorem dX10_picture_60 : decode cX10_picture 60 = .ok (.aload_n 0, 1) := by decide +kernel
theorem dX10_picture_61 : decode cX10_picture 61 = .ok (.getfield 32, 3) := by decide +kernel
theorem dX10_picture_64 : decode cX10_picture 64 = .ok (.invokevirtual 102, 3) := by decide +kernel
theorem dX10_picture_67 : decode cX10_picture 67 = .ok (.goto 6, 3) := by decide +kernel
theorem dX10_picture_70 : decode cX10_picture 70 = .ok (.ldc 91, 2) := by decide +kernel
theorem dX10_picture_72 : decode cX10_picture 72 = .ok (.ireturn, 1) := by decide +kernel
theorem dX10_picture_73 : decode cX10_picture 73 = .ok (.aload_n 0, 1) := by decide +kernel
theorem dX10_picture_74 : decode cX10_picture 74 = .ok (.iload_n 1, 1) := by decide +kernel
theorem dX10_picture_75 : decode cX10_picture 75 = .ok (.invokevirtual 105, 3) := by decide +kernel
theorem dX10_picture_78 : decode cX10_picture 78 = .ok (.iconst 0, 1) := by decide +kernel
theorem dX10_picture_79 : decode cX10_picture 79 = .ok (.ireturn, 1) := by decide +kernel
theorem dX10_put_0 : decode cX10_put 0 = .ok (.iload_n 1, 1) := by decide +kernel
theorem dX10_put_1 : decode cX10_put 1 = .ok (.invokestatic 83, 3) := by decide +kernel
theorem dX10_put_4 : decode cX10_put 4 = .ok (.ifCond .eq 17, 3) := by decide +kernel
theorem dX10_put_7 : decode cX10_put 7 = .ok (.aload_n 0, 1) := by decide +kernel
theorem dX10_put_8 : decode cX10_put 8 = .ok (.getfield 11, 3) := by decide +kernel
theorem dX10_put_11 : decode cX10_put 11 = .ok (.iload_n 1, 1) := by decide +kernel
theorem dX10_put_12 : decode cX10_put 12 = .ok (.aaload, 1) := by decide +kernel
theorem dX10_put_13 : decode cX10_put 13 = .ok (.iload_n 2, 1) := by decide +kernel
theorem dX10_put_14 : decode cX10_put 14 = .ok (.iload_n 3, 1) := by decide +kernel
theorem dX10_put_15 : decode cX10_put 15 = .ok (.invokevirtual 109, 3) := by decide +kernel
theorem dX10_put_18 : decode cX10_put 18 = .ok (.ifCond .ne 6, 3) := by decide +kernel
theorem dX10_put_21 : decode cX10_put 21 = .ok (.ldc 91, 2) := by decide +kernel
theorem dX10_put_23 : decode cX10_put 23 = .ok (.ireturn, 1) := by decide +kernel
theorem dX10_put_24 : decode cX10_put 24 = .ok (.aload_n 0, 1) := by decide +kernel
theorem dX10_put_25 : decode cX10_put 25 = .ok (.getfield 11, 3) := by decide +kernel
theorem dX10_put_28 : decode cX10_put 28 = .ok (.iload_n 1, 1) := by decide +kernel
theorem dX10_put_29 : decode cX10_put 29 = .ok (.aaload, 1) := by decide +kernel
theorem dX10_put_30 : decode cX10_put 30 = .ok (.astore 5, 2) := by decide +kernel
theorem dX10_put_32 : decode cX10_put 32 = .ok (.aload 5, 2) := by decide +kernel
theorem dX10_put_34 : decode cX10_put 34 = .ok (.iload 4, 2) := by decide +kernel
theorem dX10_put_36 : decode cX10_put 36 = .ok (.invokevirtual 113, 3) := by decide +kernel
theorem dX10_put_39 : decode cX10_put 39 = .ok (.ifCond .ne 6, 3) := by decide +kernel
theorem dX10_put_42 : decode cX10_put 42 = .ok (.ldc 116, 2) := by decide +kernel
theorem dX10_put_44 : decode cX10_put 44 = .ok (.ireturn, 1) := by decide +kernel
theorem dX10_put_45 : decode cX10_put 45 = .ok (.aload 5, 2) := by decide +kernel
theorem dX10_put_47 : decode cX10_put 47 = .ok (.iload_n 2, 1) := by decide +kernel
theorem dX10_put_48 : decode cX10_put 48 = .ok (.iload_n 3, 1) := by decide +kernel
theorem dX10_put_49 : decode cX10_put 49 = .ok (.invokevirtual 117, 3) := by decide +kernel
theorem dX10_put_52 : decode cX10_put 52 = .ok (.istore 6, 2) := by decide +kernel
theorem dX10_put_54 : decode cX10_put 54 = .ok (.aload 5, 2) := by decide +kernel
theorem dX10_put_56 : decode cX10_put 56 = .ok (.iload 6, 2) := by decide +kernel
theorem dX10_put_58 : decode cX10_put 58 = .ok (.invokevirtual 121, 3) := by decide +kernel
theorem dX10_put_61 : decode cX10_put 61 = .ok (.istore 7, 2) := by decide +kernel
theorem dX10_put_63 : decode cX10_put 63 = .ok (.aload_n 0, 1) := by decide +kernel
theorem dX10_put_64 : decode cX10_put 64 = .ok (.getfield 32, 3) := by decide +kernel
theorem dX10_put_67 : decode cX10_put 67 = .ok (.aload 5, 2) := by decide +kernel
theorem dX10_put_69 : decode cX10_put 69 = .ok (.invokevirtual 125, 3) := by decide +kernel
theorem dX10_put_72 : decode cX10_put 72 = .ok (.aload_n 0, 1) := by decide +kernel
theorem dX10_put_73 : decode cX10_put 73 = .ok (.getfield 32, 3) := by decide +kernel
theorem dX10_put_76 : decode cX10_put 76 = .ok (.iload 6, 2) := by decide +kernel
theorem dX10_put_78 : decode cX10_put 78 = .ok (.iload 4, 2) := by decide +kernel
theorem dX10_put_80 : decode cX10_put 80 = .ok (.invokevirtual 129, 3) := by decide +kernel
theorem dX10_put_83 : decode cX10_put 83 = .ok (.aload_n 0, 1) := by decide +kernel
theorem dX10_put_84 : decode cX10_put 84 = .ok (.iload_n 1, 1) := by decide +kernel
theorem dX10_put_85 : decode cX10_put 85 = .ok (.invokevirtual 105, 3) := by decide +kernel
theorem dX10_put_88 : decode cX10_put 88 = .ok (.iload 7, 2) := by decide +kernel
theorem dX10_put_90 : decode cX10_put 90 = .ok (.ireturn, 1) := by decide +kernel
theorem dX10_feed_0 : decode cX10_feed 0 = .ok (.iload_n 1, 1) := by decide +kernel
theorem dX10_feed_1 : decode cX10_feed 1 = .ok (.invokestatic 83, 3) := by decide +kernel
theorem dX10_feed_4 : decode cX10_feed 4 = .ok (.ifCond .eq 28, 3) := by decide +kernel
theorem dX10_feed_7 : decode cX10_feed 7 = .ok (.aload_n 0, 1) := by decide +kernel
theorem dX10_feed_8 : decode cX10_feed 8 = .ok (.getfield 11, 3) := by decide +kernel
theorem dX10_feed_11 : decode cX10_feed 11 = .ok (.iload_n 1, 1) := by decide +kernel
theorem dX10_feed_12 : decode cX10_feed 12 = .ok (.aaload, 1) := by decide +kernel
theorem dX10_feed_13 : decode cX10_feed 13 = .ok (.iload_n 2, 1) := by decide +kernel
theorem dX10_feed_14 : decode cX10_feed 14 = .ok (.iload_n 3, 1) := by decide +kernel
theorem dX10_feed_15 : decode cX10_feed 15 = .ok (.invokevirtual 109, 3) := by decide +kernel
theorem dX10_feed_18 : decode cX10_feed 18 = .ok (.ifCond .eq 14, 3) := by decide +kernel
theorem dX10_feed_21 : decode cX10_feed 21 = .ok (.iload 6, 2) := by decide +kernel
theorem dX10_feed_23 : decode cX10_feed 23 = .ok (.iconst 1, 1) := by decide +kernel
theorem dX10_feed_24 : decode cX10_feed 24 = .ok (.bipush 8, 2) := by decide +kernel
theorem dX10_feed_26 : decode cX10_feed 26 = .ok (.invokestatic 87, 3) := by decide +kernel
theorem dX10_feed_29 : decode cX10_feed 29 = .ok (.ifCond .ne 6, 3) := by decide +kernel
theorem dX10_feed_32 : decode cX10_feed 32 = .ok (.ldc 91, 2) := by decide +kernel
theorem dX10_feed_34 : decode cX10_feed 34 = .ok (.ireturn, 1) := by decide +kernel
theorem dX10_feed_35 : decode cX10_feed 35 = .ok (.aload_n 0, 1) := by decide +kernel
theorem dX10_feed_36 : decode cX10_feed 36 = .ok (.getfield 11, 3) := by decide +kernel
theorem dX10_feed_39 : decode cX10_feed 39 = .ok (.iload_n 1, 1) := by decide +kernel
theorem dX10_feed_40 : decode cX10_feed 40 = .ok (.aaload, 1) := by decide +kernel
theorem dX10_feed_41 : decode cX10_feed 41 = .ok (.astore 7, 2) := by decide +kernel
theorem dX10_feed_43 : decode cX10_feed 43 = .ok (.aload 7, 2) := by decide +kernel
theorem dX10_feed_45 : decode cX10_feed 45 = .ok (.getfield 133, 3) := by decide +kernel
theorem dX10_feed_48 : decode cX10_feed 48 = .ok (.iconst 1, 1) := by decide +kernel
theorem dX10_feed_49 : decode cX10_feed 49 = .ok (.if_icmp .ne 7, 3) := by decide +kernel
theorem dX10_feed_52 : decode cX10_feed 52 = .ok (.iconst 1, 1) := by decide +kernel
theorem dX10_feed_53 : decode cX10_feed 53 = .ok (.goto 4, 3) := by decide +kernel
theorem dX10_feed_56 : decode cX10_feed 56 = .ok (.iconst 0, 1) := by decide +kernel
theorem dX10_feed_57 : decode cX10_feed 57 = .ok (.istore 8, 2) := by decide +kernel
theorem dX10_feed_59 : decode cX10_feed 59 = .ok (.iload 8, 2) := by decide +kernel
theorem dX10_feed_61 : decode cX10_feed 61 = .ok (.ifCond .eq 13, 3) := by decide +kernel
theorem dX10_feed_64 : decode cX10_feed 64 = .ok (.iload 6, 2) := by decide +kernel
theorem dX10_feed_66 : decode cX10_feed 66 = .ok (.iconst 2, 1) := by decide +kernel
theorem dX10_feed_67 : decode cX10_feed 67 = .ok (.irem, 1) := by decide +kernel
theorem dX10_feed_68 : decode cX10_feed 68 = .ok (.ifCond .eq 6, 3) := by decide +kernel
theorem dX10_feed_71 : decode cX10_feed 71 = .ok (.ldc 91, 2) := by decide +kernel
theorem dX10_feed_73 : decode cX10_feed 73 = .ok (.ireturn, 1) := by decide +kernel
theorem dX10_feed_74 : decode cX10_feed 74 = .ok (.iload 8, 2) := by decide +kernel
theorem dX10_feed_76 : decode cX10_feed 76 = .ok (.ifCond .eq 10, 3) := by decide +kernel
theorem dX10_feed_79 : decode cX10_feed 79 = .ok (.iload 6, 2) := by decide +kernel
theorem dX10_feed_81 : decode cX10_feed 81 = .ok (.iconst 2, 1) := by decide +kernel
theorem dX10_feed_82 : decode cX10_feed 82 = .ok (.idiv, 1) := by decide +kernel
theorem dX10_feed_83 : decode cX10_feed 83 = .ok (.goto 5, 3) := by decide +kernel
theorem dX10_feed_86 : decode cX10_feed 86 = .ok (.iload 6, 2) := by decide +kernel
theorem dX10_feed_88 : decode cX10_feed 88 = .ok (.istore 9, 2) := by decide +kernel
theorem dX10_feed_90 : decode cX10_feed 90 = .ok (.aload 7, 2) := by decide +kernel
theorem dX10_feed_92 : decode cX10_feed 92 = .ok (.iload_n 2, 1) := by decide +kernel
theorem dX10_feed_93 : decode cX10_feed 93 = .ok (.iload_n 3, 1) := by decide +kernel
theorem dX10_feed_94 : decode cX10_feed 94 = .ok (.invokevirtual 117, 3) := by decide +kernel
theorem dX10_feed_97 : decode cX10_feed 97 = .ok (.istore 10, 2) := by decide +kernel
theorem dX10_feed_99 : decode cX10_feed 99 = .ok (.iload 10, 2) := by decide +kernel
theorem dX10_feed_101 : decode cX10_feed 101 = .ok (.iload 9, 2) := by decide +kernel
theorem dX10_feed_103 : decode cX10_feed 103 = .ok (.iadd, 1) := by decide +kernel
theorem dX10_feed_104 : decode cX10_feed 104 = .ok (.aload 7, 2) := by decide +kernel
theorem dX10_feed_106 : decode cX10_feed 106 = .ok (.invokevirtual 136, 3) := by decide +kernel
theorem dX10_feed_109 : decode cX10_feed 109 = .ok (.if_icmp .le 6, 3) := by decide +kernel
theorem dX10_feed_112 : decode cX10_feed 112 = .ok (.ldc 116, 2) := by decide +kernel
theorem dX10_feed_114 : decode cX10_feed 114 = .ok (.ireturn, 1) := by decide +kernel
theorem dX10_feed_115 : decode cX10_feed 115 = .ok (.aload_n 0, 1) := by decide +kernel
theorem dX10_feed_116 : decode cX10_feed 116 = .ok (.getfield 32, 3) := by decide +kernel
theorem dX10_feed_119 : decode cX10_feed 119 = .ok (.aload 7, 2) := by decide +kernel
theorem dX10_feed_121 : decode cX10_feed 121 = .ok (.invokevirtual 125, 3) := by decide +kernel
theorem dX10_feed_124 : decode cX10_feed 124 = .ok (.iconst 0, 1) := by decide +kernel
theorem dX10_feed_125 : decode cX10_feed 125 = .ok (.istore 11, 2) := by decide +kernel
theorem dX10_feed_127 : decode cX10_feed 127 = .ok (.iload 11, 2) := by decide +kernel
theorem dX10_feed_129 : decode cX10_feed 129 = .ok (.iload 9, 2) := by decide +kernel
theorem dX10_feed_131 : decode cX10_feed 131 = .ok (.if_icmp .ge 52, 3) := by decide +kernel
theorem dX10_feed_134 : decode cX10_feed 134 = .ok (.aload_n 0, 1) := by decide +kernel
theorem dX10_feed_135 : decode cX10_feed 135 = .ok (.getfield 32, 3) := by decide +kernel
theorem dX10_feed_138 : decode cX10_feed 138 = .ok (.iload 10, 2) := by decide +kernel
theorem dX10_feed_140 : decode cX10_feed 140 = .ok (.iload 11, 2) := by decide +kernel
theorem dX10_feed_142 : decode cX10_feed 142 = .ok (.iadd, 1) := by decide +kernel
theorem dX10_feed_143 : decode cX10_feed 143 = .ok (.iload 8, 2) := by decide +kernel
theorem dX10_feed_145 : decode cX10_feed 145 = .ok (.ifCond .eq 16, 3) := by decide +kernel
theorem dX10_feed_148 : decode cX10_feed 148 = .ok (.lload 4, 2) := by decide +kernel
theorem dX10_feed_150 : decode cX10_feed 150 = .ok (.bipush 16, 2) := by decide +kernel
theorem dX10_feed_152 : decode cX10_feed 152 = .ok (.iload 11, 2) := by decide +kernel
theorem dX10_feed_154 : decode cX10_feed 154 = .ok (.imul, 1) := by decide +kernel
theorem dX10_feed_155 : decode cX10_feed 155 = .ok (.lshr, 1) := by decide +kernel
theorem dX10_feed_156 : decode cX10_feed 156 = .ok (.l2i, 1) := by decide +kernel
theorem dX10_feed_157 : decode cX10_feed 157 = .ok (.i2s, 1) := by decide +kernel
theorem dX10_feed_158 : decode cX10_feed 158 = .ok (.goto 16, 3) := by decide +kernel
theorem dX10_feed_161 : decode cX10_feed 161 = .ok (.lload 4, 2) := by decide +kernel
theorem dX10_feed_163 : decode cX10_feed 163 = .ok (.bipush 8, 2) := by decide +kernel
theorem dX10_feed_165 : decode cX10_feed 165 = .ok (.iload 11, 2) := by decide +kernel
theorem dX10_feed_167 : decode cX10_feed 167 = .ok (.imul, 1) := by decide +kernel
theorem dX10_feed_168 : decode cX10_feed 168 = .ok (.lshr, 1) := by decide +kernel
theorem dX10_feed_169 : decode cX10_feed 169 = .ok (.l2i, 1) := by decide +kernel
theorem dX10_feed_170 : decode cX10_feed 170 = .ok (.sipush 255, 3) := by decide +kernel
theorem dX10_feed_173 : decode cX10_feed 173 = .ok (.iand, 1) := by decide +kernel
theorem dX10_feed_174 : decode cX10_feed 174 = .ok (.invokevirtual 129, 3) := by decide +kernel
theorem dX10_feed_177 : decode cX10_feed 177 = .ok (.iinc 11 1, 3) := by decide +kernel
theorem dX10_feed_180 : decode cX10_feed 180 = .ok (.goto (-53), 3) := by decide +kernel
theorem dX10_feed_183 : decode cX10_feed 183 = .ok (.aload_n 0, 1) := by decide +kernel
theorem dX10_feed_184 : decode cX10_feed 184 = .ok (.iload_n 1, 1) := by decide +kernel
theorem dX10_feed_185 : decode cX10_feed 185 = .ok (.invokevirtual 105, 3) := by decide +kernel
theorem dX10_feed_188 : decode cX10_feed 188 = .ok (.iload 9, 2) := by decide +kernel
theorem dX10_feed_190 : decode cX10_feed 190 = .ok (.ireturn, 1) := by decide +kernel
theorem dX10_at_0 : decode cX10_at 0 = .ok (.iload_n 1, 1) := by decide +kernel
theorem dX10_at_1 : decode cX10_at 1 = .ok (.invokestatic 83, 3) := by decide +kernel
theorem dX10_at_4 : decode cX10_at 4 = .ok (.ifCond .eq 23, 3) := by decide +kernel
theorem dX10_at_7 : decode cX10_at 7 = .ok (.aload_n 0, 1) := by decide +kernel
theorem dX10_at_8 : decode cX10_at 8 = .ok (.getfield 11, 3) := by decide +kernel
theorem dX10_at_11 : decode cX10_at 11 = .ok (.iload_n 1, 1) := by decide +kernel
theorem dX10_at_12 : decode cX10_at 12 = .ok (.aaload, 1) := by decide +kernel
theorem dX10_at_13 : decode cX10_at 13 = .ok (.invokevirtual 140, 3) := by decide +kernel
theorem dX10_at_16 : decode cX10_at 16 = .ok (.ifCond .ne 11, 3) := by decide +kernel
theorem dX10_at_19 : decode cX10_at 19 = .ok (.iload 4, 2) := by decide +kernel
theorem dX10_at_21 : decode cX10_at 21 = .ok (.invokestatic 144, 3) := by decide +kernel
theorem dX10_at_24 : decode cX10_at 24 = .ok (.ifCond .ne 6, 3) := by decide +kernel
theorem dX10_at_27 : decode cX10_at 27 = .ok (.ldc 91, 2) := by decide +kernel
theorem dX10_at_29 : decode cX10_at 29 = .ok (.ireturn, 1) := by decide +kernel
theorem dX10_at_30 : decode cX10_at 30 = .ok (.iload_n 2, 1) := by decide +kernel
theorem dX10_at_31 : decode cX10_at 31 = .ok (.sipush (-1000), 3) := by decide +kernel
theorem dX10_at_34 : decode cX10_at 34 = .ok (.sipush 1000, 3) := by decide +kernel
theorem dX10_at_37 : decode cX10_at 37 = .ok (.invokestatic 87, 3) := by decide +kernel
theorem dX10_at_40 : decode cX10_at 40 = .ok (.ifCond .eq 16, 3) := by decide +kernel
theorem dX10_at_43 : decode cX10_at 43 = .ok (.iload_n 3, 1) := by decide +kernel
theorem dX10_at_44 : decode cX10_at 44 = .ok (.sipush (-1000), 3) := by decide +kernel
theorem dX10_at_47 : decode cX10_at 47 = .ok (.sipush 1000, 3) := by decide +kernel
theorem dX10_at_50 : decode cX10_at 50 = .ok (.invokestatic 87, 3) := by decide +kernel
theorem dX10_at_53 : decode cX10_at 53 = .ok (.ifCond .ne 6, 3) := by decide +kernel
theorem dX10_at_56 : decode cX10_at 56 = .ok (.ldc 91, 2) := by decide +kernel
theorem dX10_at_58 : decode cX10_at 58 = .ok (.ireturn, 1) := by decide +kernel
theorem dX10_at_59 : decode cX10_at 59 = .ok (.aload_n 0, 1) := by decide +kernel
theorem dX10_at_60 : decode cX10_at 60 = .ok (.getfield 11, 3) := by decide +kernel
theorem dX10_at_63 : decode cX10_at 63 = .ok (.iload_n 1, 1) := by decide +kernel
theorem dX10_at_64 : decode cX10_at 64 = .ok (.aaload, 1) := by decide +kernel
theorem dX10_at_65 : decode cX10_at 65 = .ok (.iload_n 2, 1) := by decide +kernel
theorem dX10_at_66 : decode cX10_at 66 = .ok (.iload_n 3, 1) := by decide +kernel
theorem dX10_at_67 : decode cX10_at 67 = .ok (.iload 4, 2) := by decide +kernel
theorem dX10_at_69 : decode cX10_at 69 = .ok (.invokevirtual 147, 3) := by decide +kernel
theorem dX10_at_72 : decode cX10_at 72 = .ok (.ireturn, 1) := by decide +kernel
theorem dX10_about_0 : decode cX10_about 0 = .ok (.iload_n 1, 1) := by decide +kernel
theorem dX10_about_1 : decode cX10_about 1 = .ok (.invokestatic 83, 3) := by decide +kernel
theorem dX10_about_4 : decode cX10_about 4 = .ok (.ifCond .eq 12, 3) := by decide +kernel
theorem dX10_about_7 : decode cX10_about 7 = .ok (.iload_n 2, 1) := by decide +kernel
theorem dX10_about_8 : decode cX10_about 8 = .ok (.iconst 0, 1) := by decide +kernel
theorem dX10_about_9 : decode cX10_about 9 = .ok (.iconst 5, 1) := by decide +kernel
theorem dX10_about_10 : decode cX10_about 10 = .ok (.invokestatic 87, 3) := by decide +kernel
theorem dX10_about_13 : decode cX10_about 13 = .ok (.ifCond .ne 6, 3) := by decide +kernel
theorem dX10_about_16 : decode cX10_about 16 = .ok (.ldc 91, 2) := by decide +kernel
theorem dX10_about_18 : decode cX10_about 18 = .ok (.ireturn, 1) := by decide +kernel
theorem dX10_about_19 : decode cX10_about 19 = .ok (.aload_n 0, 1) := by decide +kernel
theorem dX10_about_20 : decode cX10_about 20 = .ok (.getfield 11, 3) := by decide +kernel
theorem dX10_about_23 : decode cX10_about 23 = .ok (.iload_n 1, 1) := by decide +kernel
theorem dX10_about_24 : decode cX10_about 24 = .ok (.aaload, 1) := by decide +kernel
theorem dX10_about_25 : decode cX10_about 25 = .ok (.astore_n 3, 1) := by decide +kernel
theorem dX10_about_26 : decode cX10_about 26 = .ok (.aload_n 3, 1) := by decide +kernel
theorem dX10_about_27 : decode cX10_about 27 = .ok (.invokevirtual 140, 3) := by decide +kernel
theorem dX10_about_30 : decode cX10_about 30 = .ok (.ifCond .eq 6, 3) := by decide +kernel
theorem dX10_about_33 : decode cX10_about 33 = .ok (.ldc 151, 2) := by decide +kernel
theorem dX10_about_35 : decode cX10_about 35 = .ok (.ireturn, 1) := by decide +kernel
theorem dX10_about_36 : decode cX10_about 36 = .ok (.iload_n 2, 1) := by decide +kernel
theorem dX10_about_37 : decode cX10_about 37 = .ok (.tableswitch 60 0 4 #[35, 40, 45, 50, 55], 35) := by decide +kernel
theorem dX10_about_72 : decode cX10_about 72 = .ok (.aload_n 3, 1) := by decide +kernel
theorem dX10_about_73 : decode cX10_about 73 = .ok (.getfield 133, 3) := by decide +kernel
theorem dX10_about_76 : decode cX10_about 76 = .ok (.ireturn, 1) := by decide +kernel
theorem dX10_about_77 : decode cX10_about 77 = .ok (.aload_n 3, 1) := by decide +kernel
theorem dX10_about_78 : decode cX10_about 78 = .ok (.getfield 152, 3) := by decide +kernel
theorem dX10_about_81 : decode cX10_about 81 = .ok (.ireturn, 1) := by decide +kernel
theorem dX10_about_82 : decode cX10_about 82 = .ok (.aload_n 3, 1) := by decide +kernel
theorem dX10_about_83 : decode cX10_about 83 = .ok (.getfield 155, 3) := by decide +kernel
theorem dX10_about_86 : decode cX10_about 86 = .ok (.ireturn, 1) := by decide +kernel
theorem dX10_about_87 : decode cX10_about 87 = .ok (.aload_n 3, 1) := by decide +kernel
theorem dX10_about_88 : decode cX10_about 88 = .ok (.invokevirtual 158, 3) := by decide +kernel
theorem dX10_about_91 : decode cX10_about 91 = .ok (.ireturn, 1) := by decide +kernel
theorem dX10_about_92 : decode cX10_about 92 = .ok (.aload_n 3, 1) := by decide +kernel
theorem dX10_about_93 : decode cX10_about 93 = .ok (.invokevirtual 161, 3) := by decide +kernel
theorem dX10_about_96 : decode cX10_about 96 = .ok (.ireturn, 1) := by decide +kernel
theorem dX10_about_97 : decode cX10_about 97 = .ok (.aload_n 3, 1) := by decide +kernel
theorem dX10_about_98 : decode cX10_about 98 = .ok (.invokevirtual 164, 3) := by decide +kernel
theorem dX10_about_101 : decode cX10_about 101 = .ok (.ireturn, 1) := by decide +kernel
theorem dX10_convert_0 : decode cX10_convert 0 = .ok (.iload_n 1, 1) := by decide +kernel
theorem dX10_convert_1 : decode cX10_convert 1 = .ok (.invokestatic 83, 3) := by decide +kernel
theorem dX10_convert_4 : decode cX10_convert 4 = .ok (.ifCond .eq 29, 3) := by decide +kernel
theorem dX10_convert_7 : decode cX10_convert 7 = .ok (.iload_n 2, 1) := by decide +kernel
theorem dX10_convert_8 : decode cX10_convert 8 = .ok (.invokestatic 83, 3) := by decide +kernel
theorem dX10_convert_11 : decode cX10_convert 11 = .ok (.ifCond .eq 22, 3) := by decide +kernel
theorem dX10_convert_14 : decode cX10_convert 14 = .ok (.iload_n 3, 1) := by decide +kernel
theorem dX10_convert_15 : decode cX10_convert 15 = .ok (.iconst 0, 1) := by decide +kernel
theorem dX10_convert_16 : decode cX10_convert 16 = .ok (.iconst 1, 1) := by decide +kernel
theorem dX10_convert_17 : decode cX10_convert 17 = .ok (.invokestatic 87, 3) := by decide +kernel
theorem dX10_convert_20 : decode cX10_convert 20 = .ok (.ifCond .eq 13, 3) := by decide +kernel
theorem dX10_convert_23 : decode cX10_convert 23 = .ok (.iload 4, 2) := by decide +kernel
theorem dX10_convert_25 : decode cX10_convert 25 = .ok (.iconst 0, 1) := by decide +kernel
theorem dX10_convert_26 : decode cX10_convert 26 = .ok (.iconst 1, 1) := by decide +kernel
theorem dX10_convert_27 : decode cX10_convert 27 = .ok (.invokestatic 87, 3) := by decide +kernel
theorem dX10_convert_30 : decode cX10_convert 30 = .ok (.ifCond .ne 6, 3) := by decide +kernel
theorem dX10_convert_33 : decode cX10_convert 33 = .ok (.ldc 91, 2) := by decide +kernel
theorem dX10_convert_35 : decode cX10_convert 35 = .ok (.ireturn, 1) := by decide +kernel
theorem dX10_convert_36 : decode cX10_convert 36 = .ok (.aload_n 0, 1) := by decide +kernel
theorem dX10_convert_37 : decode cX10_convert 37 = .ok (.getfield 11, 3) := by decide +kernel
theorem dX10_convert_40 : decode cX10_convert 40 = .ok (.iload_n 1, 1) := by decide +kernel
theorem dX10_convert_41 : decode cX10_convert 41 = .ok (.aaload, 1) := by decide +kernel
theorem dX10_convert_42 : decode cX10_convert 42 = .ok (.astore 5, 2) := by decide +kernel
theorem dX10_convert_44 : decode cX10_convert 44 = .ok (.aload 5, 2) := by decide +kernel
theorem dX10_convert_46 : decode cX10_convert 46 = .ok (.invokevirtual 140, 3) := by decide +kernel
theorem dX10_convert_49 : decode cX10_convert 49 = .ok (.ifCond .eq 6, 3) := by decide +kernel
theorem dX10_convert_52 : decode cX10_convert 52 = .ok (.ldc 116, 2) := by decide +kernel
theorem dX10_convert_54 : decode cX10_convert 54 = .ok (.ireturn, 1) := by decide +kernel
theorem dX10_convert_55 : decode cX10_convert 55 = .ok (.aload_n 0, 1) := by decide +kernel
theorem dX10_convert_56 : decode cX10_convert 56 = .ok (.getfield 32, 3) := by decide +kernel
theorem dX10_convert_59 : decode cX10_convert 59 = .ok (.iload_n 3, 1) := by decide +kernel
theorem dX10_convert_60 : decode cX10_convert 60 = .ok (.aload 5, 2) := by decide +kernel
theorem dX10_convert_62 : decode cX10_convert 62 = .ok (.getfield 152, 3) := by decide +kernel
theorem dX10_convert_65 : decode cX10_convert 65 = .ok (.aload 5, 2) := by decide +kernel
theorem dX10_convert_67 : decode cX10_convert 67 = .ok (.getfield 155, 3) := by decide +kernel
theorem dX10_convert_70 : decode cX10_convert 70 = .ok (.invokevirtual 98, 3) := by decide +kernel
theorem dX10_convert_73 : decode cX10_convert 73 = .ok (.iconst 0, 1) := by decide +kernel
theorem dX10_convert_74 : decode cX10_convert 74 = .ok (.istore 6, 2) := by decide +kernel
theorem dX10_convert_76 : decode cX10_convert 76 = .ok (.iload 6, 2) := by decide +kernel
theorem dX10_convert_78 : decode cX10_convert 78 = .ok (.aload 5, 2) := by decide +kernel
theorem dX10_convert_80 : decode cX10_convert 80 = .ok (.invokevirtual 136, 3) := by decide +kernel
theorem dX10_convert_83 : decode cX10_convert 83 = .ok (.if_icmp .ge 60, 3) := by decide +kernel
theorem dX10_convert_86 : decode cX10_convert 86 = .ok (.aload 5, 2) := by decide +kernel
theorem dX10_convert_88 : decode cX10_convert 88 = .ok (.iload 6, 2) := by decide +kernel
theorem dX10_convert_90 : decode cX10_convert 90 = .ok (.invokevirtual 121, 3) := by decide +kernel
theorem dX10_convert_93 : decode cX10_convert 93 = .ok (.istore 7, 2) := by decide +kernel
theorem dX10_convert_95 : decode cX10_convert 95 = .ok (.aload_n 0, 1) := by decide +kernel
theorem dX10_convert_96 : decode cX10_convert 96 = .ok (.getfield 32, 3) := by decide +kernel
theorem dX10_convert_99 : decode cX10_convert 99 = .ok (.iload 6, 2) := by decide +kernel
theorem dX10_convert_101 : decode cX10_convert 101 = .ok (.iload 4, 2) := by decide +kernel
theorem dX10_convert_103 : decode cX10_convert 103 = .ok (.ifCond .ne 16, 3) := by decide +kernel
theorem dX10_convert_106 : decode cX10_convert 106 = .ok (.aload_n 0, 1) := by decide +kernel
theorem dX10_convert_107 : decode cX10_convert 107 = .ok (.getfield 32, 3) := by decide +kernel
theorem dX10_convert_110 : decode cX10_convert 110 = .ok (.iload 7, 2) := by decide +kernel
theorem dX10_convert_112 : decode cX10_convert 112 = .ok (.i2l, 1) := by decide +kernel
theorem dX10_convert_113 : decode cX10_convert 113 = .ok (.invokevirtual 167, 3) := by decide +kernel
theorem dX10_convert_116 : decode cX10_convert 116 = .ok (.goto 18, 3) := by decide +kernel
theorem dX10_convert_119 : decode cX10_convert 119 = .ok (.iload_n 3, 1) := by decide +kernel
theorem dX10_convert_120 : decode cX10_convert 120 = .ok (.ifCond .ne 12, 3) := by decide +kernel
theorem dX10_convert_123 : decode cX10_convert 123 = .ok (.iload 7, 2) := by decide +kernel
theorem dX10_convert_125 : decode cX10_convert 125 = .ok (.sipush 255, 3) := by decide +kernel
theorem dX10_convert_128 : decode cX10_convert 128 = .ok (.iand, 1) := by decide +kernel
theorem dX10_convert_129 : decode cX10_convert 129 = .ok (.goto 5, 3) := by decide +kernel
theorem dX10_convert_132 : decode cX10_convert 132 = .ok (.iload 7, 2) := by decide +kernel
theorem dX10_convert_134 : decode cX10_convert 134 = .ok (.invokevirtual 129, 3) := by decide +kernel
theorem dX10_convert_137 : decode cX10_convert 137 = .ok (.iinc 6 1, 3) := by decide +kernel
theorem dX10_convert_140 : decode cX10_convert 140 = .ok (.goto (-64), 3) := by decide +kernel
theorem dX10_convert_143 : decode cX10_convert 143 = .ok (.aload_n 0, 1) := by decide +kernel
theorem dX10_convert_144 : decode cX10_convert 144 = .ok (.getfield 32, 3) := by decide +kernel
theorem dX10_convert_147 : decode cX10_convert 147 = .ok (.aload 5, 2) := by decide +kernel
theorem dX10_convert_149 : decode cX10_convert 149 = .ok (.invokevirtual 171, 3) := by decide +kernel
theorem dX10_convert_152 : decode cX10_convert 152 = .ok (.istore 6, 2) := by decide +kernel
theorem dX10_convert_154 : decode cX10_convert 154 = .ok (.aload_n 0, 1) := by decide +kernel
theorem dX10_convert_155 : decode cX10_convert 155 = .ok (.iload_n 2, 1) := by decide +kernel
theorem dX10_convert_156 : decode cX10_convert 156 = .ok (.invokevirtual 105, 3) := by decide +kernel
theorem dX10_convert_159 : decode cX10_convert 159 = .ok (.iload 6, 2) := by decide +kernel
theorem dX10_convert_161 : decode cX10_convert 161 = .ok (.ireturn, 1) := by decide +kernel
theorem dX10_cut_0 : decode cX10_cut 0 = .ok (.iload_n 1, 1) := by decide +kernel
theorem dX10_cut_1 : decode cX10_cut 1 = .ok (.invokestatic 83, 3) := by decide +kernel
theorem dX10_cut_4 : decode cX10_cut 4 = .ok (.ifCond .eq 34, 3) := by decide +kernel
theorem dX10_cut_7 : decode cX10_cut 7 = .ok (.iload_n 2, 1) := by decide +kernel
theorem dX10_cut_8 : decode cX10_cut 8 = .ok (.invokestatic 83, 3) := by decide +kernel
theorem dX10_cut_11 : decode cX10_cut 11 = .ok (.ifCond .eq 27, 3) := by decide +kernel
theorem dX10_cut_14 : decode cX10_cut 14 = .ok (.iload 7, 2) := by decide +kernel
theorem dX10_cut_16 : decode cX10_cut 16 = .ok (.invokestatic 144, 3) := by decide +kernel
theorem dX10_cut_19 : decode cX10_cut 19 = .ok (.ifCond .eq 19, 3) := by decide +kernel
theorem dX10_cut_22 : decode cX10_cut 22 = .ok (.iload 5, 2) := by decide +kernel
theorem dX10_cut_24 : decode cX10_cut 24 = .ok (.invokestatic 95, 3) := by decide +kernel
theorem dX10_cut_27 : decode cX10_cut 27 = .ok (.ifCond .eq 11, 3) := by decide +kernel
theorem dX10_cut_30 : decode cX10_cut 30 = .ok (.iload 6, 2) := by decide +kernel
theorem dX10_cut_32 : decode cX10_cut 32 = .ok (.invokestatic 95, 3) := by decide +kernel
theorem dX10_cut_35 : decode cX10_cut 35 = .ok (.ifCond .ne 6, 3) := by decide +kernel
theorem dX10_cut_38 : decode cX10_cut 38 = .ok (.ldc 91, 2) := by decide +kernel
theorem dX10_cut_40 : decode cX10_cut 40 = .ok (.ireturn, 1) := by decide +kernel
theorem dX10_cut_41 : decode cX10_cut 41 = .ok (.iload_n 3, 1) := by decide +kernel
theorem dX10_cut_42 : decode cX10_cut 42 = .ok (.bipush (-100), 2) := by decide +kernel
theorem dX10_cut_44 : decode cX10_cut 44 = .ok (.bipush 100, 2) := by decide +kernel
theorem dX10_cut_46 : decode cX10_cut 46 = .ok (.invokestatic 87, 3) := by decide +kernel
theorem dX10_cut_49 : decode cX10_cut 49 = .ok (.ifCond .eq 15, 3) := by decide +kernel
theorem dX10_cut_52 : decode cX10_cut 52 = .ok (.iload 4, 2) := by decide +kernel
theorem dX10_cut_54 : decode cX10_cut 54 = .ok (.bipush (-100), 2) := by decide +kernel
theorem dX10_cut_56 : decode cX10_cut 56 = .ok (.bipush 100, 2) := by decide +kernel
theorem dX10_cut_58 : decode cX10_cut 58 = .ok (.invokestatic 87, 3) := by decide +kernel
theorem dX10_cut_61 : decode cX10_cut 61 = .ok (.ifCond .ne 6, 3) := by decide +kernel
theorem dX10_cut_64 : decode cX10_cut 64 = .ok (.ldc 91, 2) := by decide +kernel
theorem dX10_cut_66 : decode cX10_cut 66 = .ok (.ireturn, 1) := by decide +kernel
theorem dX10_cut_67 : decode cX10_cut 67 = .ok (.aload_n 0, 1) := by decide +kernel
theorem dX10_cut_68 : decode cX10_cut 68 = .ok (.getfield 11, 3) := by decide +kernel
theorem dX10_cut_71 : decode cX10_cut 71 = .ok (.iload_n 1, 1) := by decide +kernel
theorem dX10_cut_72 : decode cX10_cut 72 = .ok (.aaload, 1) := by decide +kernel
theorem dX10_cut_73 : decode cX10_cut 73 = .ok (.astore 8, 2) := by decide +kernel
theorem dX10_cut_75 : decode cX10_cut 75 = .ok (.aload 8, 2) := by decide +kernel
theorem dX10_cut_77 : decode cX10_cut 77 = .ok (.invokevirtual 140, 3) := by decide +kernel
theorem dX10_cut_80 : decode cX10_cut 80 = .ok (.ifCond .eq 6, 3) := by decide +kernel
theorem dX10_cut_83 : decode cX10_cut 83 = .ok (.ldc 116, 2) := by decide +kernel
theorem dX10_cut_85 : decode cX10_cut 85 = .ok (.ireturn, 1) := by decide +kernel
theorem dX10_cut_86 : decode cX10_cut 86 = .ok (.aload_n 0, 1) := by decide +kernel
theorem dX10_cut_87 : decode cX10_cut 87 = .ok (.getfield 32, 3) := by decide +kernel
theorem dX10_cut_90 : decode cX10_cut 90 = .ok (.aload 8, 2) := by decide +kernel
theorem dX10_cut_92 : decode cX10_cut 92 = .ok (.getfield 133, 3) := by decide +kernel
theorem dX10_cut_95 : decode cX10_cut 95 = .ok (.iload 5, 2) := by decide +kernel
theorem dX10_cut_97 : decode cX10_cut 97 = .ok (.iload 6, 2) := by decide +kernel
theorem dX10_cut_99 : decode cX10_cut 99 = .ok (.invokevirtual 98, 3) := by decide +kernel
theorem dX10_cut_102 : decode cX10_cut 102 = .ok (.iconst 0, 1) := by decide +kernel
theorem dX10_cut_103 : decode cX10_cut 103 = .ok (.istore 9, 2) := by decide +kernel
theorem dX10_cut_105 : decode cX10_cut 105 = .ok (.iload 9, 2) := by decide +kernel
theorem dX10_cut_107 : decode cX10_cut 107 = .ok (.iload 5, 2) := by decide +kernel
theorem dX10_cut_109 : decode cX10_cut 109 = .ok (.iload 6, 2) := by decide +kernel
theorem dX10_cut_111 : decode cX10_cut 111 = .ok (.imul, 1) := by decide +kernel
theorem dX10_cut_112 : decode cX10_cut 112 = .ok (.if_icmp .ge 40, 3) := by decide +kernel
theorem dX10_cut_115 : decode cX10_cut 115 = .ok (.aload_n 0, 1) := by decide +kernel
theorem dX10_cut_116 : decode cX10_cut 116 = .ok (.getfield 32, 3) := by decide +kernel
theorem dX10_cut_119 : decode cX10_cut 119 = .ok (.iload 9, 2) := by decide +kernel
theorem dX10_cut_121 : decode cX10_cut 121 = .ok (.aload 8, 2) := by decide +kernel
theorem dX10_cut_123 : decode cX10_cut 123 = .ok (.iload_n 3, 1) := by decide +kernel
theorem dX10_cut_124 : decode cX10_cut 124 = .ok (.iload 9, 2) := by decide +kernel
theorem dX10_cut_126 : decode cX10_cut 126 = .ok (.iload 5, 2) := by decide +kernel
theorem dX10_cut_128 : decode cX10_cut 128 = .ok (.irem, 1) := by decide +kernel
theorem dX10_cut_129 : decode cX10_cut 129 = .ok (.iadd, 1) := by decide +kernel
theorem dX10_cut_130 : decode cX10_cut 130 = .ok (.iload 4, 2) := by decide +kernel
theorem dX10_cut_132 : decode cX10_cut 132 = .ok (.iload 9, 2) := by decide +kernel
theorem dX10_cut_134 : decode cX10_cut 134 = .ok (.iload 5, 2) := by decide +kernel
theorem dX10_cut_136 : decode cX10_cut 136 = .ok (.idiv, 1) := by decide +kernel
theorem dX10_cut_137 : decode cX10_cut 137 = .ok (.iadd, 1) := by decide +kernel
theorem dX10_cut_138 : decode cX10_cut 138 = .ok (.iload 7, 2) := by decide +kernel
theorem dX10_cut_140 : decode cX10_cut 140 = .ok (.invokevirtual 147, 3) := by decide +kernel
theorem dX10_cut_143 : decode cX10_cut 143 = .ok (.invokevirtual 129, 3) := by decide +kernel
theorem dX10_cut_146 : decode cX10_cut 146 = .ok (.iinc 9 1, 3) := by decide +kernel
theorem dX10_cut_149 : decode cX10_cut 149 = .ok (.goto (-44), 3) := by decide +kernel
theorem dX10_cut_152 : decode cX10_cut 152 = .ok (.aload_n 0, 1) := by decide +kernel
theorem dX10_cut_153 : decode cX10_cut 153 = .ok (.iload_n 2, 1) := by decide +kernel
theorem dX10_cut_154 : decode cX10_cut 154 = .ok (.invokevirtual 105, 3) := by decide +kernel
theorem dX10_cut_157 : decode cX10_cut 157 = .ok (.iconst 0, 1) := by decide +kernel
theorem dX10_cut_158 : decode cX10_cut 158 = .ok (.ireturn, 1) := by decide +kernel
theorem dX10_turn_0 : decode cX10_turn 0 = .ok (.iload_n 1, 1) := by decide +kernel
theorem dX10_turn_1 : decode cX10_turn 1 = .ok (.invokestatic 83, 3) := by decide +kernel
theorem dX10_turn_4 : decode cX10_turn 4 = .ok (.ifCond .eq 20, 3) := by decide +kernel
theorem dX10_turn_7 : decode cX10_turn 7 = .ok (.iload_n 2, 1) := by decide +kernel
theorem dX10_turn_8 : decode cX10_turn 8 = .ok (.invokestatic 83, 3) := by decide +kernel
theorem dX10_turn_11 : decode cX10_turn 11 = .ok (.ifCond .eq 13, 3) := by decide +kernel
theorem dX10_turn_14 : decode cX10_turn 14 = .ok (.iload_n 3, 1) := by decide +kernel
theorem dX10_turn_15 : decode cX10_turn 15 = .ok (.iconst 0, 1) := by decide +kernel
theorem dX10_turn_16 : decode cX10_turn 16 = .ok (.bipush 7, 2) := by decide +kernel
theorem dX10_turn_18 : decode cX10_turn 18 = .ok (.invokestatic 87, 3) := by decide +kernel
theorem dX10_turn_21 : decode cX10_turn 21 = .ok (.ifCond .ne 6, 3) := by decide +kernel
theorem dX10_turn_24 : decode cX10_turn 24 = .ok (.ldc 91, 2) := by decide +kernel
theorem dX10_turn_26 : decode cX10_turn 26 = .ok (.ireturn, 1) := by decide +kernel
theorem dX10_turn_27 : decode cX10_turn 27 = .ok (.aload_n 0, 1) := by decide +kernel
theorem dX10_turn_28 : decode cX10_turn 28 = .ok (.getfield 11, 3) := by decide +kernel
theorem dX10_turn_31 : decode cX10_turn 31 = .ok (.iload_n 1, 1) := by decide +kernel
theorem dX10_turn_32 : decode cX10_turn 32 = .ok (.aaload, 1) := by decide +kernel
theorem dX10_turn_33 : decode cX10_turn 33 = .ok (.astore 4, 2) := by decide +kernel
theorem dX10_turn_35 : decode cX10_turn 35 = .ok (.aload 4, 2) := by decide +kernel
theorem dX10_turn_37 : decode cX10_turn 37 = .ok (.invokevirtual 140, 3) := by decide +kernel
theorem dX10_turn_40 : decode cX10_turn 40 = .ok (.ifCond .eq 6, 3) := by decide +kernel
theorem dX10_turn_43 : decode cX10_turn 43 = .ok (.ldc 116, 2) := by decide +kernel
theorem dX10_turn_45 : decode cX10_turn 45 = .ok (.ireturn, 1) := by decide +kernel
theorem dX10_turn_46 : decode cX10_turn 46 = .ok (.aload_n 0, 1) := by decide +kernel
theorem dX10_turn_47 : decode cX10_turn 47 = .ok (.getfield 32, 3) := by decide +kernel
theorem dX10_turn_50 : decode cX10_turn 50 = .ok (.aload 4, 2) := by decide +kernel
theorem dX10_turn_52 : decode cX10_turn 52 = .ok (.iload_n 3, 1) := by decide +kernel
theorem dX10_turn_53 : decode cX10_turn 53 = .ok (.iconst 4, 1) := by decide +kernel
theorem dX10_turn_54 : decode cX10_turn 54 = .ok (.irem, 1) := by decide +kernel
theorem dX10_turn_55 : decode cX10_turn 55 = .ok (.iload_n 3, 1) := by decide +kernel
theorem dX10_turn_56 : decode cX10_turn 56 = .ok (.iconst 4, 1) := by decide +kernel
theorem dX10_turn_57 : decode cX10_turn 57 = .ok (.if_icmp .lt 7, 3) := by decide +kernel
theorem dX10_turn_60 : decode cX10_turn 60 = .ok (.iconst 1, 1) := by decide +kernel
theorem dX10_turn_61 : decode cX10_turn 61 = .ok (.goto 4, 3) := by decide +kernel
theorem dX10_turn_64 : decode cX10_turn 64 = .ok (.iconst 0, 1) := by decide +kernel
theorem dX10_turn_65 : decode cX10_turn 65 = .ok (.invokevirtual 175, 3) := by decide +kernel
theorem dX10_turn_68 : decode cX10_turn 68 = .ok (.aload_n 0, 1) := by decide +kernel
theorem dX10_turn_69 : decode cX10_turn 69 = .ok (.iload_n 2, 1) := by decide +kernel
theorem dX10_turn_70 : decode cX10_turn 70 = .ok (.invokevirtual 105, 3) := by decide +kernel
theorem dX10_turn_73 : decode cX10_turn 73 = .ok (.iconst 0, 1) := by decide +kernel
theorem dX10_turn_74 : decode cX10_turn 74 = .ok (.ireturn, 1) := by decide +kernel
theorem dX10_unlike_0 : decode cX10_unlike 0 = .ok (.iload_n 1, 1) := by decide +kernel
theorem dX10_unlike_1 : decode cX10_unlike 1 = .ok (.invokestatic 83, 3) := by decide +kernel
theorem dX10_unlike_4 : decode cX10_unlike 4 = .ok (.ifCond .eq 10, 3) := by decide +kernel
theorem dX10_unlike_7 : decode cX10_unlike 7 = .ok (.iload_n 2, 1) := by decide +kernel
theorem dX10_unlike_8 : decode cX10_unlike 8 = .ok (.invokestatic 83, 3) := by decide +kernel
theorem dX10_unlike_11 : decode cX10_unlike 11 = .ok (.ifCond .ne 6, 3) := by decide +kernel
theorem dX10_unlike_14 : decode cX10_unlike 14 = .ok (.ldc 91, 2) := by decide +kernel
theorem dX10_unlike_16 : decode cX10_unlike 16 = .ok (.ireturn, 1) := by decide +kernel
theorem dX10_unlike_17 : decode cX10_unlike 17 = .ok (.aload_n 0, 1) := by decide +kernel
theorem dX10_unlike_18 : decode cX10_unlike 18 = .ok (.getfield 11, 3) := by decide +kernel
theorem dX10_unlike_21 : decode cX10_unlike 21 = .ok (.iload_n 1, 1) := by decide +kernel
theorem dX10_unlike_22 : decode cX10_unlike 22 = .ok (.aaload, 1) := by decide +kernel
theorem dX10_unlike_23 : decode cX10_unlike 23 = .ok (.astore_n 3, 1) := by decide +kernel
theorem dX10_unlike_24 : decode cX10_unlike 24 = .ok (.aload_n 0, 1) := by decide +kernel
theorem dX10_unlike_25 : decode cX10_unlike 25 = .ok (.getfield 11, 3) := by decide +kernel
theorem dX10_unlike_28 : decode cX10_unlike 28 = .ok (.iload_n 2, 1) := by decide +kernel
theorem dX10_unlike_29 : decode cX10_unlike 29 = .ok (.aaload, 1) := by decide +kernel
theorem dX10_unlike_30 : decode cX10_unlike 30 = .ok (.astore 4, 2) := by decide +kernel
theorem dX10_unlike_32 : decode cX10_unlike 32 = .ok (.aload_n 3, 1) := by decide +kernel
theorem dX10_unlike_33 : decode cX10_unlike 33 = .ok (.invokevirtual 140, 3) := by decide +kernel
theorem dX10_unlike_36 : decode cX10_unlike 36 = .ok (.ifCond .ne 35, 3) := by decide +kernel
theorem dX10_unlike_39 : decode cX10_unlike 39 = .ok (.aload 4, 2) := by decide +kernel
theorem dX10_unlike_41 : decode cX10_unlike 41 = .ok (.invokevirtual 140, 3) := by decide +kernel
theorem dX10_unlike_44 : decode cX10_unlike 44 = .ok (.ifCond .ne 27, 3) := by decide +kernel
theorem dX10_unlike_47 : decode cX10_unlike 47 = .ok (.aload_n 3, 1) := by decide +kernel
theorem dX10_unlike_48 : decode cX10_unlike 48 = .ok (.getfield 152, 3) := by decide +kernel
theorem dX10_unlike_51 : decode cX10_unlike 51 = .ok (.aload 4, 2) := by decide +kernel
theorem dX10_unlike_53 : decode cX10_unlike 53 = .ok (.getfield 152, 3) := by decide +kernel
theorem dX10_unlike_56 : decode cX10_unlike 56 = .ok (.if_icmp .ne 15, 3) := by decide +kernel
theorem dX10_unlike_59 : decode cX10_unlike 59 = .ok (.aload_n 3, 1) := by decide +kernel
theorem dX10_unlike_60 : decode cX10_unlike 60 = .ok (.getfield 155, 3) := by decide +kernel
theorem dX10_unlike_63 : decode cX10_unlike 63 = .ok (.aload 4, 2) := by decide +kernel
theorem dX10_unlike_65 : decode cX10_unlike 65 = .ok (.getfield 155, 3) := by decide +kernel
theorem dX10_unlike_68 : decode cX10_unlike 68 = .ok (.if_icmp .eq 6, 3) := by decide +kernel
theorem dX10_unlike_71 : decode cX10_unlike 71 = .ok (.ldc 116, 2) := by decide +kernel
theorem dX10_unlike_73 : decode cX10_unlike 73 = .ok (.ireturn, 1) := by decide +kernel
theorem dX10_unlike_74 : decode cX10_unlike 74 = .ok (.aload_n 3, 1) := by decide +kernel
theorem dX10_unlike_75 : decode cX10_unlike 75 = .ok (.aload 4, 2) := by decide +kernel
theorem dX10_unlike_77 : decode cX10_unlike 77 = .ok (.invokevirtual 171, 3) := by decide +kernel
theorem dX10_unlike_80 : decode cX10_unlike 80 = .ok (.ireturn, 1) := by decide +kernel
theorem dX10_filter_0 : decode cX10_filter 0 = .ok (.aload_n 0, 1) := by decide +kernel
theorem dX10_filter_1 : decode cX10_filter 1 = .ok (.iload_n 1, 1) := by decide +kernel
theorem dX10_filter_2 : decode cX10_filter 2 = .ok (.iload_n 2, 1) := by decide +kernel
theorem dX10_filter_3 : decode cX10_filter 3 = .ok (.iload_n 3, 1) := by decide +kernel
theorem dX10_filter_4 : decode cX10_filter 4 = .ok (.invokevirtual 179, 3) := by decide +kernel
theorem dX10_filter_7 : decode cX10_filter 7 = .ok (.ifCond .ne 6, 3) := by decide +kernel
theorem dX10_filter_10 : decode cX10_filter 10 = .ok (.ldc 91, 2) := by decide +kernel
theorem dX10_filter_12 : decode cX10_filter 12 = .ok (.ireturn, 1) := by decide +kernel
theorem dX10_filter_13 : decode cX10_filter 13 = .ok (.iload_n 1, 1) := by decide +kernel
theorem dX10_filter_14 : decode cX10_filter 14 = .ok (.bipush 7, 2) := by decide +kernel
theorem dX10_filter_16 : decode cX10_filter 16 = .ok (.if_icmp .ne 11, 3) := by decide +kernel
theorem dX10_filter_19 : decode cX10_filter 19 = .ok (.aload_n 0, 1) := by decide +kernel
theorem dX10_filter_20 : decode cX10_filter 20 = .ok (.iload_n 3, 1) := by decide +kernel
theorem dX10_filter_21 : decode cX10_filter 21 = .ok (.invokevirtual 182, 3) := by decide +kernel
theorem dX10_filter_24 : decode cX10_filter 24 = .ok (.goto 24, 3) := by decide +kernel
theorem dX10_filter_27 : decode cX10_filter 27 = .ok (.iload_n 1, 1) := by decide +kernel
theorem dX10_filter_28 : decode cX10_filter 28 = .ok (.bipush 6, 2) := by decide +kernel
theorem dX10_filter_30 : decode cX10_filter 30 = .ok (.if_icmp .eq 9, 3) := by decide +kernel
theorem dX10_filter_33 : decode cX10_filter 33 = .ok (.iload_n 1, 1) := by decide +kernel
theorem dX10_filter_34 : decode cX10_filter 34 = .ok (.bipush 8, 2) := by decide +kernel
theorem dX10_filter_36 : decode cX10_filter 36 = .ok (.if_icmp .ne 11, 3) := by decide +kernel
theorem dX10_filter_39 : decode cX10_filter 39 = .ok (.aload_n 0, 1) := by decide +kernel
theorem dX10_filter_40 : decode cX10_filter 40 = .ok (.iload_n 2, 1) := by decide +kernel
theorem dX10_filter_41 : decode cX10_filter 41 = .ok (.invokevirtual 182, 3) := by decide +kernel
theorem dX10_filter_44 : decode cX10_filter 44 = .ok (.goto 4, 3) := by decide +kernel
theorem dX10_filter_47 : decode cX10_filter 47 = .ok (.aconst_null, 1) := by decide +kernel
theorem dX10_filter_48 : decode cX10_filter 48 = .ok (.astore 4, 2) := by decide +kernel
theorem dX10_filter_50 : decode cX10_filter 50 = .ok (.iload_n 1, 1) := by decide +kernel
theorem dX10_filter_51 : decode cX10_filter 51 = .ok (.bipush 6, 2) := by decide +kernel
theorem dX10_filter_53 : decode cX10_filter 53 = .ok (.if_icmp .eq 9, 3) := by decide +kernel
theorem dX10_filter_56 : decode cX10_filter 56 = .ok (.iload_n 1, 1) := by decide +kernel
theorem dX10_filter_57 : decode cX10_filter 57 = .ok (.bipush 8, 2) := by decide +kernel
theorem dX10_filter_59 : decode cX10_filter 59 = .ok (.if_icmp .ne 11, 3) := by decide +kernel
theorem dX10_filter_62 : decode cX10_filter 62 = .ok (.aload_n 0, 1) := by decide +kernel
theorem dX10_filter_63 : decode cX10_filter 63 = .ok (.iload_n 3, 1) := by decide +kernel
theorem dX10_filter_64 : decode cX10_filter 64 = .ok (.invokevirtual 182, 3) := by decide +kernel
theorem dX10_filter_67 : decode cX10_filter 67 = .ok (.goto 4, 3) := by decide +kernel
theorem dX10_filter_70 : decode cX10_filter 70 = .ok (.aconst_null, 1) := by decide +kernel
theorem dX10_filter_71 : decode cX10_filter 71 = .ok (.astore 5, 2) := by decide +kernel
theorem dX10_filter_73 : decode cX10_filter 73 = .ok (.iconst 1, 1) := by decide +kernel
theorem dX10_filter_74 : decode cX10_filter 74 = .ok (.aload 4, 2) := by decide +kernel
theorem dX10_filter_76 : decode cX10_filter 76 = .ok (.ifnonnull 7, 3) := by decide +kernel
theorem dX10_filter_79 : decode cX10_filter 79 = .ok (.iconst 0, 1) := by decide +kernel
theorem dX10_filter_80 : decode cX10_filter 80 = .ok (.goto 8, 3) := by decide +kernel
theorem dX10_filter_83 : decode cX10_filter 83 = .ok (.aload 4, 2) := by decide +kernel
theorem dX10_filter_85 : decode cX10_filter 85 = .ok (.getfield 186, 3) := by decide +kernel
theorem dX10_filter_88 : decode cX10_filter 88 = .ok (.aload 5, 2) := by decide +kernel
theorem dX10_filter_90 : decode cX10_filter 90 = .ok (.ifnonnull 7, 3) := by decide +kernel
theorem dX10_filter_93 : decode cX10_filter 93 = .ok (.iconst 0, 1) := by decide +kernel
theorem dX10_filter_94 : decode cX10_filter 94 = .ok (.goto 8, 3) := by decide +kernel
theorem dX10_filter_97 : decode cX10_filter 97 = .ok (.aload 5, 2) := by decide +kernel
theorem dX10_filter_99 : decode cX10_filter 99 = .ok (.getfield 186, 3) := by decide +kernel
theorem dX10_filter_102 : decode cX10_filter 102 = .ok (.invokestatic 189, 3) := by decide +kernel
theorem dX10_filter_105 : decode cX10_filter 105 = .ok (.iadd, 1) := by decide +kernel
theorem dX10_filter_106 : decode cX10_filter 106 = .ok (.istore 6, 2) := by decide +kernel
theorem dX10_filter_108 : decode cX10_filter 108 = .ok (.iload 6, 2) := by decide +kernel
theorem dX10_filter_110 : decode cX10_filter 110 = .ok (.iconst 4, 1) := by decide +kernel
theorem dX10_filter_111 : decode cX10_filter 111 = .ok (.if_icmp .le 6, 3) := by decide +kernel
theorem dX10_filter_114 : decode cX10_filter 114 = .ok (.ldc 91, 2) := by decide +kernel
theorem dX10_filter_116 : decode cX10_filter 116 = .ok (.ireturn, 1) := by decide +kernel
theorem dX10_filter_117 : decode cX10_filter 117 = .ok (.aload_n 0, 1) := by decide +kernel
theorem dX10_filter_118 : decode cX10_filter 118 = .ok (.getfield 27, 3) := by decide +kernel
theorem dX10_filter_121 : decode cX10_filter 121 = .ok (.bipush 24, 2) := by decide +kernel
theorem dX10_filter_123 : decode cX10_filter 123 = .ok (.if_icmp .lt 6, 3) := by decide +kernel
theorem dX10_filter_126 : decode cX10_filter 126 = .ok (.ldc 194, 2) := by decide +kernel
theorem dX10_filter_128 : decode cX10_filter 128 = .ok (.ireturn, 1) := by decide +kernel
theorem dX10_filter_129 : decode cX10_filter 129 = .ok (.aload_n 0, 1) := by decide +kernel
theorem dX10_filter_130 : decode cX10_filter 130 = .ok (.getfield 23, 3) := by decide +kernel
theorem dX10_filter_133 : decode cX10_filter 133 = .ok (.aload_n 0, 1) := by decide +kernel
theorem dX10_filter_134 : decode cX10_filter 134 = .ok (.getfield 27, 3) := by decide +kernel
theorem dX10_filter_137 : decode cX10_filter 137 = .ok (.new 21, 3) := by decide +kernel
theorem dX10_filter_140 : decode cX10_filter 140 = .ok (.dup, 1) := by decide +kernel
theorem dX10_filter_141 : decode cX10_filter 141 = .ok (.iload_n 1, 1) := by decide +kernel
theorem dX10_filter_142 : decode cX10_filter 142 = .ok (.iload_n 2, 1) := by decide +kernel
theorem dX10_filter_143 : decode cX10_filter 143 = .ok (.iload_n 3, 1) := by decide +kernel
theorem dX10_filter_144 : decode cX10_filter 144 = .ok (.iload 6, 2) := by decide +kernel
theorem dX10_filter_146 : decode cX10_filter 146 = .ok (.aload 4, 2) := by decide +kernel
theorem dX10_filter_148 : decode cX10_filter 148 = .ok (.aload 5, 2) := by decide +kernel
theorem dX10_filter_150 : decode cX10_filter 150 = .ok (.invokespecial 195, 3) := by decide +kernel
theorem dX10_filter_153 : decode cX10_filter 153 = .ok (.aastore, 1) := by decide +kernel
theorem dX10_filter_154 : decode cX10_filter 154 = .ok (.aload_n 0, 1) := by decide +kernel
theorem dX10_filter_155 : decode cX10_filter 155 = .ok (.dup, 1) := by decide +kernel
theorem dX10_filter_156 : decode cX10_filter 156 = .ok (.getfield 27, 3) := by decide +kernel
theorem dX10_filter_159 : decode cX10_filter 159 = .ok (.iconst 1, 1) := by decide +kernel
theorem dX10_filter_160 : decode cX10_filter 160 = .ok (.iadd, 1) := by decide +kernel
theorem dX10_filter_161 : decode cX10_filter 161 = .ok (.putfield 27, 3) := by decide +kernel
theorem dX10_filter_164 : decode cX10_filter 164 = .ok (.aload_n 0, 1) := by decide +kernel
theorem dX10_filter_165 : decode cX10_filter 165 = .ok (.getfield 27, 3) := by decide +kernel
theorem dX10_filter_168 : decode cX10_filter 168 = .ok (.iconst 1, 1) := by decide +kernel
theorem dX10_filter_169 : decode cX10_filter 169 = .ok (.isub, 1) := by decide +kernel
theorem dX10_filter_170 : decode cX10_filter 170 = .ok (.ireturn, 1) := by decide +kernel
theorem dX10_weight_0 : decode cX10_weight 0 = .ok (.aload_n 0, 1) := by decide +kernel
theorem dX10_weight_1 : decode cX10_weight 1 = .ok (.iload_n 1, 1) := by decide +kernel
theorem dX10_weight_2 : decode cX10_weight 2 = .ok (.invokevirtual 182, 3) := by decide +kernel
theorem dX10_weight_5 : decode cX10_weight 5 = .ok (.astore 4, 2) := by decide +kernel
theorem dX10_weight_7 : decode cX10_weight 7 = .ok (.aload 4, 2) := by decide +kernel
theorem dX10_weight_9 : decode cX10_weight 9 = .ok (.ifnull 26, 3) := by decide +kernel
theorem dX10_weight_12 : decode cX10_weight 12 = .ok (.iload_n 2, 1) := by decide +kernel
theorem dX10_weight_13 : decode cX10_weight 13 = .ok (.iconst 0, 1) := by decide +kernel
theorem dX10_weight_14 : decode cX10_weight 14 = .ok (.bipush 8, 2) := by decide +kernel
theorem dX10_weight_16 : decode cX10_weight 16 = .ok (.invokestatic 87, 3) := by decide +kernel
theorem dX10_weight_19 : decode cX10_weight 19 = .ok (.ifCond .eq 16, 3) := by decide +kernel
theorem dX10_weight_22 : decode cX10_weight 22 = .ok (.iload_n 3, 1) := by decide +kernel
theorem dX10_weight_23 : decode cX10_weight 23 = .ok (.sipush (-1000), 3) := by decide +kernel
theorem dX10_weight_26 : decode cX10_weight 26 = .ok (.sipush 1000, 3) := by decide +kernel
theorem dX10_weight_29 : decode cX10_weight 29 = .ok (.invokestatic 87, 3) := by decide +kernel
theorem dX10_weight_32 : decode cX10_weight 32 = .ok (.ifCond .ne 6, 3) := by decide +kernel
theorem dX10_weight_35 : decode cX10_weight 35 = .ok (.ldc 91, 2) := by decide +kernel
theorem dX10_weight_37 : decode cX10_weight 37 = .ok (.ireturn, 1) := by decide +kernel
theorem dX10_weight_38 : decode cX10_weight 38 = .ok (.aload 4, 2) := by decide +kernel
theorem dX10_weight_40 : decode cX10_weight 40 = .ok (.getfield 198, 3) := by decide +kernel
theorem dX10_weight_43 : decode cX10_weight 43 = .ok (.iconst 4, 1) := by decide +kernel
theorem dX10_weight_44 : decode cX10_weight 44 = .ok (.if_icmp .eq 6, 3) := by decide +kernel
theorem dX10_weight_47 : decode cX10_weight 47 = .ok (.ldc 116, 2) := by decide +kernel
theorem dX10_weight_49 : decode cX10_weight 49 = .ok (.ireturn, 1) := by decide +kernel
theorem dX10_weight_50 : decode cX10_weight 50 = .ok (.aload 4, 2) := by decide +kernel
theorem dX10_weight_52 : decode cX10_weight 52 = .ok (.iload_n 2, 1) := by decide +kernel
theorem dX10_weight_53 : decode cX10_weight 53 = .ok (.invokevirtual 199, 3) := by decide +kernel
theorem dX10_weight_56 : decode cX10_weight 56 = .ok (.istore 5, 2) := by decide +kernel
theorem dX10_weight_58 : decode cX10_weight 58 = .ok (.aload 4, 2) := by decide +kernel
theorem dX10_weight_60 : decode cX10_weight 60 = .ok (.iload_n 2, 1) := by decide +kernel
theorem dX10_weight_61 : decode cX10_weight 61 = .ok (.iload_n 3, 1) := by decide +kernel
theorem dX10_weight_62 : decode cX10_weight 62 = .ok (.invokevirtual 202, 3) := by decide +kernel
theorem dX10_weight_65 : decode cX10_weight 65 = .ok (.iload 5, 2) := by decide +kernel
theorem dX10_weight_67 : decode cX10_weight 67 = .ok (.ireturn, 1) := by decide +kernel
theorem dX10_apply_0 : decode cX10_apply 0 = .ok (.aload_n 0, 1) := by decide +kernel
theorem dX10_apply_1 : decode cX10_apply 1 = .ok (.iload_n 2, 1) := by decide +kernel
theorem dX10_apply_2 : decode cX10_apply 2 = .ok (.invokevirtual 182, 3) := by decide +kernel
theorem dX10_apply_5 : decode cX10_apply 5 = .ok (.astore 4, 2) := by decide +kernel
theorem dX10_apply_7 : decode cX10_apply 7 = .ok (.iload_n 1, 1) := by decide +kernel
theorem dX10_apply_8 : decode cX10_apply 8 = .ok (.invokestatic 83, 3) := by decide +kernel
theorem dX10_apply_11 : decode cX10_apply 11 = .ok (.ifCond .eq 15, 3) := by decide +kernel
theorem dX10_apply_14 : decode cX10_apply 14 = .ok (.aload 4, 2) := by decide +kernel
theorem dX10_apply_16 : decode cX10_apply 16 = .ok (.ifnull 10, 3) := by decide +kernel
theorem dX10_apply_19 : decode cX10_apply 19 = .ok (.iload_n 3, 1) := by decide +kernel
theorem dX10_apply_20 : decode cX10_apply 20 = .ok (.invokestatic 144, 3) := by decide +kernel
theorem dX10_apply_23 : decode cX10_apply 23 = .ok (.ifCond .ne 6, 3) := by decide +kernel
theorem dX10_apply_26 : decode cX10_apply 26 = .ok (.ldc 91, 2) := by decide +kernel
theorem dX10_apply_28 : decode cX10_apply 28 = .ok (.ireturn, 1) := by decide +kernel
theorem dX10_apply_29 : decode cX10_apply 29 = .ok (.aload_n 0, 1) := by decide +kernel
theorem dX10_apply_30 : decode cX10_apply 30 = .ok (.getfield 11, 3) := by decide +kernel
theorem dX10_apply_33 : decode cX10_apply 33 = .ok (.iload_n 1, 1) := by decide +kernel
theorem dX10_apply_34 : decode cX10_apply 34 = .ok (.aaload, 1) := by decide +kernel
theorem dX10_apply_35 : decode cX10_apply 35 = .ok (.astore 5, 2) := by decide +kernel
theorem dX10_apply_37 : decode cX10_apply 37 = .ok (.aload 5, 2) := by decide +kernel
theorem dX10_apply_39 : decode cX10_apply 39 = .ok (.invokevirtual 140, 3) := by decide +kernel
theorem dX10_apply_42 : decode cX10_apply 42 = .ok (.ifCond .eq 6, 3) := by decide +kernel
theorem dX10_apply_45 : decode cX10_apply 45 = .ok (.ldc 116, 2) := by decide +kernel
theorem dX10_apply_47 : decode cX10_apply 47 = .ok (.ireturn, 1) := by decide +kernel
theorem dX10_apply_48 : decode cX10_apply 48 = .ok (.aload_n 0, 1) := by decide +kernel
theorem dX10_apply_49 : decode cX10_apply 49 = .ok (.getfield 51, 3) := by decide +kernel
theorem dX10_apply_52 : decode cX10_apply 52 = .ok (.aload 4, 2) := by decide +kernel
theorem dX10_apply_54 : decode cX10_apply 54 = .ok (.aload 5, 2) := by decide +kernel
theorem dX10_apply_56 : decode cX10_apply 56 = .ok (.aload_n 0, 1) := by decide +kernel
theorem dX10_apply_57 : decode cX10_apply 57 = .ok (.getfield 32, 3) := by decide +kernel
theorem dX10_apply_60 : decode cX10_apply 60 = .ok (.aload_n 0, 1) := by decide +kernel
theorem dX10_apply_61 : decode cX10_apply 61 = .ok (.getfield 17, 3) := by decide +kernel
theorem dX10_apply_64 : decode cX10_apply 64 = .ok (.iload_n 3, 1) := by decide +kernel
theorem dX10_apply_65 : decode cX10_apply 65 = .ok (.iconst 0, 1) := by decide +kernel
theorem dX10_apply_66 : decode cX10_apply 66 = .ok (.invokestatic 205, 3) := by decide +kernel
theorem dX10_apply_69 : decode cX10_apply 69 = .ok (.aload_n 0, 1) := by decide +kernel
theorem dX10_apply_70 : decode cX10_apply 70 = .ok (.getfield 32, 3) := by decide +kernel
theorem dX10_apply_73 : decode cX10_apply 73 = .ok (.aload 5, 2) := by decide +kernel
theorem dX10_apply_75 : decode cX10_apply 75 = .ok (.invokevirtual 171, 3) := by decide +kernel
theorem dX10_apply_78 : decode cX10_apply 78 = .ok (.istore 6, 2) := by decide +kernel
theorem dX10_apply_80 : decode cX10_apply 80 = .ok (.aload_n 0, 1) := by decide +kernel
theorem dX10_apply_81 : decode cX10_apply 81 = .ok (.iload_n 1, 1) := by decide +kernel
theorem dX10_apply_82 : decode cX10_apply 82 = .ok (.invokevirtual 105, 3) := by decide +kernel
theorem dX10_apply_85 : decode cX10_apply 85 = .ok (.iload 6, 2) := by decide +kernel
theorem dX10_apply_87 : decode cX10_apply 87 = .ok (.ireturn, 1) := by decide +kernel
theorem dX10_mask_0 : decode cX10_mask 0 = .ok (.iload_n 1, 1) := by decide +kernel
theorem dX10_mask_1 : decode cX10_mask 1 = .ok (.invokestatic 209, 3) := by decide +kernel
theorem dX10_mask_4 : decode cX10_mask 4 = .ok (.ifCond .eq 11, 3) := by decide +kernel
theorem dX10_mask_7 : decode cX10_mask 7 = .ok (.iload_n 2, 1) := by decide +kernel
theorem dX10_mask_8 : decode cX10_mask 8 = .ok (.iload_n 3, 1) := by decide +kernel
theorem dX10_mask_9 : decode cX10_mask 9 = .ok (.invokestatic 212, 3) := by decide +kernel
theorem dX10_mask_12 : decode cX10_mask 12 = .ok (.ifCond .ne 6, 3) := by decide +kernel
theorem dX10_mask_15 : decode cX10_mask 15 = .ok (.ldc 91, 2) := by decide +kernel
theorem dX10_mask_17 : decode cX10_mask 17 = .ok (.ireturn, 1) := by decide +kernel
theorem dX10_mask_18 : decode cX10_mask 18 = .ok (.aload_n 0, 1) := by decide +kernel
theorem dX10_mask_19 : decode cX10_mask 19 = .ok (.getfield 17, 3) := by decide +kernel
theorem dX10_mask_22 : decode cX10_mask 22 = .ok (.iload_n 1, 1) := by decide +kernel
theorem dX10_mask_23 : decode cX10_mask 23 = .ok (.aaload, 1) := by decide +kernel
theorem dX10_mask_24 : decode cX10_mask 24 = .ok (.astore 5, 2) := by decide +kernel
theorem dX10_mask_26 : decode cX10_mask 26 = .ok (.aload 5, 2) := by decide +kernel
theorem dX10_mask_28 : decode cX10_mask 28 = .ok (.iload_n 2, 1) := by decide +kernel
theorem dX10_mask_29 : decode cX10_mask 29 = .ok (.iload_n 3, 1) := by decide +kernel
theorem dX10_mask_30 : decode cX10_mask 30 = .ok (.invokevirtual 215, 3) := by decide +kernel
theorem dX10_mask_33 : decode cX10_mask 33 = .ok (.ifCond .eq 7, 3) := by decide +kernel
theorem dX10_mask_36 : decode cX10_mask 36 = .ok (.iconst 1, 1) := by decide +kernel
theorem dX10_mask_37 : decode cX10_mask 37 = .ok (.goto 4, 3) := by decide +kernel
theorem dX10_mask_40 : decode cX10_mask 40 = .ok (.iconst 0, 1) := by decide +kernel
theorem dX10_mask_41 : decode cX10_mask 41 = .ok (.istore 6, 2) := by decide +kernel
theorem dX10_mask_43 : decode cX10_mask 43 = .ok (.aload_n 0, 1) := by decide +kernel
theorem dX10_mask_44 : decode cX10_mask 44 = .ok (.getfield 37, 3) := by decide +kernel
theorem dX10_mask_47 : decode cX10_mask 47 = .ok (.aload 5, 2) := by decide +kernel
theorem dX10_mask_49 : decode cX10_mask 49 = .ok (.invokevirtual 218, 3) := by decide +kernel
theorem dX10_mask_52 : decode cX10_mask 52 = .ok (.aload_n 0, 1) := by decide +kernel
theorem dX10_mask_53 : decode cX10_mask 53 = .ok (.getfield 37, 3) := by decide +kernel
theorem dX10_mask_56 : decode cX10_mask 56 = .ok (.iload_n 2, 1) := by decide +kernel
theorem dX10_mask_57 : decode cX10_mask 57 = .ok (.iload_n 3, 1) := by decide +kernel
theorem dX10_mask_58 : decode cX10_mask 58 = .ok (.iload 4, 2) := by decide +kernel
theorem dX10_mask_60 : decode cX10_mask 60 = .ok (.invokevirtual 221, 3) := by decide +kernel
theorem dX10_mask_63 : decode cX10_mask 63 = .ok (.aload_n 0, 1) := by decide +kernel
theorem dX10_mask_64 : decode cX10_mask 64 = .ok (.iload_n 1, 1) := by decide +kernel
theorem dX10_mask_65 : decode cX10_mask 65 = .ok (.invokevirtual 225, 3) := by decide +kernel
theorem dX10_mask_68 : decode cX10_mask 68 = .ok (.iload 6, 2) := by decide +kernel
theorem dX10_mask_70 : decode cX10_mask 70 = .ok (.ireturn, 1) := by decide +kernel
theorem dX10_maskOf_0 : decode cX10_maskOf 0 = .ok (.iload_n 1, 1) := by decide +kernel
theorem dX10_maskOf_1 : decode cX10_maskOf 1 = .ok (.invokestatic 209, 3) := by decide +kernel
theorem dX10_maskOf_4 : decode cX10_maskOf 4 = .ok (.ifCond .eq 10, 3) := by decide +kernel
theorem dX10_maskOf_7 : decode cX10_maskOf 7 = .ok (.iload_n 2, 1) := by decide +kernel
theorem dX10_maskOf_8 : decode cX10_maskOf 8 = .ok (.invokestatic 83, 3) := by decide +kernel
theorem dX10_maskOf_11 : decode cX10_maskOf 11 = .ok (.ifCond .ne 6, 3) := by decide +kernel
theorem dX10_maskOf_14 : decode cX10_maskOf 14 = .ok (.ldc 91, 2) := by decide +kernel
theorem dX10_maskOf_16 : decode cX10_maskOf 16 = .ok (.ireturn, 1) := by decide +kernel
theorem dX10_maskOf_17 : decode cX10_maskOf 17 = .ok (.aload_n 0, 1) := by decide +kernel
theorem dX10_maskOf_18 : decode cX10_maskOf 18 = .ok (.getfield 11, 3) := by decide +kernel
theorem dX10_maskOf_21 : decode cX10_maskOf 21 = .ok (.iload_n 2, 1) := by decide +kernel
theorem dX10_maskOf_22 : decode cX10_maskOf 22 = .ok (.aaload, 1) := by decide +kernel
theorem dX10_maskOf_23 : decode cX10_maskOf 23 = .ok (.astore 5, 2) := by decide +kernel
theorem dX10_maskOf_25 : decode cX10_maskOf 25 = .ok (.aload 5, 2) := by decide +kernel
theorem dX10_maskOf_27 : decode cX10_maskOf 27 = .ok (.invokevirtual 140, 3) := by decide +kernel
theorem dX10_maskOf_30 : decode cX10_maskOf 30 = .ok (.ifCond .eq 6, 3) := by decide +kernel
theorem dX10_maskOf_33 : decode cX10_maskOf 33 = .ok (.ldc 116, 2) := by decide +kernel
theorem dX10_maskOf_35 : decode cX10_maskOf 35 = .ok (.ireturn, 1) := by decide +kernel
theorem dX10_maskOf_36 : decode cX10_maskOf 36 = .ok (.aload_n 0, 1) := by decide +kernel
theorem dX10_maskOf_37 : decode cX10_maskOf 37 = .ok (.getfield 37, 3) := by decide +kernel
theorem dX10_maskOf_40 : decode cX10_maskOf 40 = .ok (.invokevirtual 228, 3) := by decide +kernel
theorem dX10_maskOf_43 : decode cX10_maskOf 43 = .ok (.iconst 0, 1) := by decide +kernel
theorem dX10_maskOf_44 : decode cX10_maskOf 44 = .ok (.istore 6, 2) := by decide +kernel
theorem dX10_maskOf_46 : decode cX10_maskOf 46 = .ok (.iload 6, 2) := by decide +kernel
theorem dX10_maskOf_48 : decode cX10_maskOf 48 = .ok (.aload 5, 2) := by decide +kernel
theorem dX10_maskOf_50 : decode cX10_maskOf 50 = .ok (.getfield 155, 3) := by decide +kernel
theorem dX10_maskOf_53 : decode cX10_maskOf 53 = .ok (.if_icmp .ge 59, 3) := by decide +kernel
theorem dX10_maskOf_56 : decode cX10_maskOf 56 = .ok (.iconst 0, 1) := by decide +kernel
theorem dX10_maskOf_57 : decode cX10_maskOf 57 = .ok (.istore 7, 2) := by decide +kernel
theorem dX10_maskOf_59 : decode cX10_maskOf 59 = .ok (.iload 7, 2) := by decide +kernel
theorem dX10_maskOf_61 : decode cX10_maskOf 61 = .ok (.aload 5, 2) := by decide +kernel
theorem dX10_maskOf_63 : decode cX10_maskOf 63 = .ok (.getfield 152, 3) := by decide +kernel
theorem dX10_maskOf_66 : decode cX10_maskOf 66 = .ok (.if_icmp .ge 40, 3) := by decide +kernel
theorem dX10_maskOf_69 : decode cX10_maskOf 69 = .ok (.aload_n 0, 1) := by decide +kernel
theorem dX10_maskOf_70 : decode cX10_maskOf 70 = .ok (.getfield 37, 3) := by decide +kernel
theorem dX10_maskOf_73 : decode cX10_maskOf 73 = .ok (.iload 7, 2) := by decide +kernel
theorem dX10_maskOf_75 : decode cX10_maskOf 75 = .ok (.iload 6, 2) := by decide +kernel
theorem dX10_maskOf_77 : decode cX10_maskOf 77 = .ok (.aload 5, 2) := by decide +kernel
theorem dX10_maskOf_79 : decode cX10_maskOf 79 = .ok (.aload 5, 2) := by decide +kernel
theorem dX10_maskOf_81 : decode cX10_maskOf 81 = .ok (.iload 7, 2) := by decide +kernel
theorem dX10_maskOf_83 : decode cX10_maskOf 83 = .ok (.iload 6, 2) := by decide +kernel
theorem dX10_maskOf_85 : decode cX10_maskOf 85 = .ok (.invokevirtual 117, 3) := by decide +kernel
theorem dX10_maskOf_88 : decode cX10_maskOf 88 = .ok (.invokevirtual 121, 3) := by decide +kernel
theorem dX10_maskOf_91 : decode cX10_maskOf 91 = .ok (.iload_n 3, 1) := by decide +kernel
theorem dX10_maskOf_92 : decode cX10_maskOf 92 = .ok (.iload 4, 2) := by decide +kernel
theorem dX10_maskOf_94 : decode cX10_maskOf 94 = .ok (.invokestatic 87, 3) := by decide +kernel
theorem dX10_maskOf_97 : decode cX10_maskOf 97 = .ok (.invokevirtual 221, 3) := by decide +kernel
theorem dX10_maskOf_100 : decode cX10_maskOf 100 = .ok (.iinc 7 1, 3) := by decide +kernel
theorem dX10_maskOf_103 : decode cX10_maskOf 103 = .ok (.goto (-44), 3) := by decide +kernel
theorem dX10_maskOf_106 : decode cX10_maskOf 106 = .ok (.iinc 6 1, 3) := by decide +kernel
theorem dX10_maskOf_109 : decode cX10_maskOf 109 = .ok (.goto (-63), 3) := by decide +kernel
theorem dX10_maskOf_112 : decode cX10_maskOf 112 = .ok (.aload_n 0, 1) := by decide +kernel
theorem dX10_maskOf_113 : decode cX10_maskOf 113 = .ok (.iload_n 1, 1) := by decide +kernel
theorem dX10_maskOf_114 : decode cX10_maskOf 114 = .ok (.invokevirtual 225, 3) := by decide +kernel
theorem dX10_maskOf_117 : decode cX10_maskOf 117 = .ok (.aload_n 0, 1) := by decide +kernel
theorem dX10_maskOf_118 : decode cX10_maskOf 118 = .ok (.getfield 17, 3) := by decide +kernel
theorem dX10_maskOf_121 : decode cX10_maskOf 121 = .ok (.iload_n 1, 1) := by decide +kernel
theorem dX10_maskOf_122 : decode cX10_maskOf 122 = .ok (.aaload, 1) := by decide +kernel
theorem dX10_maskOf_123 : decode cX10_maskOf 123 = .ok (.invokevirtual 231, 3) := by decide +kernel
theorem dX10_maskOf_126 : decode cX10_maskOf 126 = .ok (.ireturn, 1) := by decide +kernel
theorem dX10_maskBy_0 : decode cX10_maskBy 0 = .ok (.iload_n 1, 1) := by decide +kernel
theorem dX10_maskBy_1 : decode cX10_maskBy 1 = .ok (.invokestatic 209, 3) := by decide +kernel
theorem dX10_maskBy_4 : decode cX10_maskBy 4 = .ok (.ifCond .eq 20, 3) := by decide +kernel
theorem dX10_maskBy_7 : decode cX10_maskBy 7 = .ok (.iload_n 2, 1) := by decide +kernel
theorem dX10_maskBy_8 : decode cX10_maskBy 8 = .ok (.invokestatic 209, 3) := by decide +kernel
theorem dX10_maskBy_11 : decode cX10_maskBy 11 = .ok (.ifCond .eq 13, 3) := by decide +kernel
theorem dX10_maskBy_14 : decode cX10_maskBy 14 = .ok (.iload_n 3, 1) := by decide +kernel
theorem dX10_maskBy_15 : decode cX10_maskBy 15 = .ok (.iconst 0, 1) := by decide +kernel
theorem dX10_maskBy_16 : decode cX10_maskBy 16 = .ok (.bipush 6, 2) := by decide +kernel
theorem dX10_maskBy_18 : decode cX10_maskBy 18 = .ok (.invokestatic 87, 3) := by decide +kernel
theorem dX10_maskBy_21 : decode cX10_maskBy 21 = .ok (.ifCond .ne 6, 3) := by decide +kernel
theorem dX10_maskBy_24 : decode cX10_maskBy 24 = .ok (.ldc 91, 2) := by decide +kernel
theorem dX10_maskBy_26 : decode cX10_maskBy 26 = .ok (.ireturn, 1) := by decide +kernel
theorem dX10_maskBy_27 : decode cX10_maskBy 27 = .ok (.aload_n 0, 1) := by decide +kernel
theorem dX10_maskBy_28 : decode cX10_maskBy 28 = .ok (.getfield 37, 3) := by decide +kernel
theorem dX10_maskBy_31 : decode cX10_maskBy 31 = .ok (.aload_n 0, 1) := by decide +kernel
theorem dX10_maskBy_32 : decode cX10_maskBy 32 = .ok (.getfield 17, 3) := by decide +kernel
theorem dX10_maskBy_35 : decode cX10_maskBy 35 = .ok (.iload_n 1, 1) := by decide +kernel
theorem dX10_maskBy_36 : decode cX10_maskBy 36 = .ok (.aaload, 1) := by decide +kernel
theorem dX10_maskBy_37 : decode cX10_maskBy 37 = .ok (.aload_n 0, 1) := by decide +kernel
theorem dX10_maskBy_38 : decode cX10_maskBy 38 = .ok (.getfield 17, 3) := by decide +kernel
theorem dX10_maskBy_41 : decode cX10_maskBy 41 = .ok (.iload_n 2, 1) := by decide +kernel
theorem dX10_maskBy_42 : decode cX10_maskBy 42 = .ok (.aaload, 1) := by decide +kernel
theorem dX10_maskBy_43 : decode cX10_maskBy 43 = .ok (.iload_n 3, 1) := by decide +kernel
theorem dX10_maskBy_44 : decode cX10_maskBy 44 = .ok (.invokevirtual 234, 3) := by decide +kernel
theorem dX10_maskBy_47 : decode cX10_maskBy 47 = .ok (.aload_n 0, 1) := by decide +kernel
theorem dX10_maskBy_48 : decode cX10_maskBy 48 = .ok (.iload_n 1, 1) := by decide +kernel
theorem dX10_maskBy_49 : decode cX10_maskBy 49 = .ok (.invokevirtual 225, 3) := by decide +kernel
theorem dX10_maskBy_52 : decode cX10_maskBy 52 = .ok (.aload_n 0, 1) := by decide +kernel
theorem dX10_maskBy_53 : decode cX10_maskBy 53 = .ok (.getfield 17, 3) := by decide +kernel
theorem dX10_maskBy_56 : decode cX10_maskBy 56 = .ok (.iload_n 1, 1) := by decide +kernel
theorem dX10_maskBy_57 : decode cX10_maskBy 57 = .ok (.aaload, 1) := by decide +kernel
theorem dX10_maskBy_58 : decode cX10_maskBy 58 = .ok (.invokevirtual 231, 3) := by decide +kernel
theorem dX10_maskBy_61 : decode cX10_maskBy 61 = .ok (.ireturn, 1) := by decide +kernel
theorem dX10_isOn_0 : decode cX10_isOn 0 = .ok (.iload_n 1, 1) := by decide +kernel
theorem dX10_isOn_1 : decode cX10_isOn 1 = .ok (.invokestatic 209, 3) := by decide +kernel
theorem dX10_isOn_4 : decode cX10_isOn 4 = .ok (.ifCond .eq 11, 3) := by decide +kernel
theorem dX10_isOn_7 : decode cX10_isOn 7 = .ok (.iload_n 2, 1) := by decide +kernel
theorem dX10_isOn_8 : decode cX10_isOn 8 = .ok (.iload_n 3, 1) := by decide +kernel
theorem dX10_isOn_9 : decode cX10_isOn 9 = .ok (.invokestatic 212, 3) := by decide +kernel
theorem dX10_isOn_12 : decode cX10_isOn 12 = .ok (.ifCond .ne 6, 3) := by decide +kernel
theorem dX10_isOn_15 : decode cX10_isOn 15 = .ok (.ldc 91, 2) := by decide +kernel
theorem dX10_isOn_17 : decode cX10_isOn 17 = .ok (.ireturn, 1) := by decide +kernel
theorem dX10_isOn_18 : decode cX10_isOn 18 = .ok (.aload_n 0, 1) := by decide +kernel
theorem dX10_isOn_19 : decode cX10_isOn 19 = .ok (.getfield 17, 3) := by decide +kernel
theorem dX10_isOn_22 : decode cX10_isOn 22 = .ok (.iload_n 1, 1) := by decide +kernel
theorem dX10_isOn_23 : decode cX10_isOn 23 = .ok (.aaload, 1) := by decide +kernel
theorem dX10_isOn_24 : decode cX10_isOn 24 = .ok (.iload_n 2, 1) := by decide +kernel
theorem dX10_isOn_25 : decode cX10_isOn 25 = .ok (.iload_n 3, 1) := by decide +kernel
theorem dX10_isOn_26 : decode cX10_isOn 26 = .ok (.invokevirtual 215, 3) := by decide +kernel
theorem dX10_isOn_29 : decode cX10_isOn 29 = .ok (.ifCond .eq 7, 3) := by decide +kernel
theorem dX10_isOn_32 : decode cX10_isOn 32 = .ok (.iconst 1, 1) := by decide +kernel
theorem dX10_isOn_33 : decode cX10_isOn 33 = .ok (.goto 4, 3) := by decide +kernel
theorem dX10_isOn_36 : decode cX10_isOn 36 = .ok (.iconst 0, 1) := by decide +kernel
theorem dX10_isOn_37 : decode cX10_isOn 37 = .ok (.ireturn, 1) := by decide +kernel
theorem dX10_fill_0 : decode cX10_fill 0 = .ok (.iload_n 1, 1) := by decide +kernel
theorem dX10_fill_1 : decode cX10_fill 1 = .ok (.invokestatic 83, 3) := by decide +kernel
theorem dX10_fill_4 : decode cX10_fill 4 = .ok (.ifCond .eq 8, 3) := by decide +kernel
theorem dX10_fill_7 : decode cX10_fill 7 = .ok (.iload 4, 2) := by decide +kernel
theorem dX10_fill_9 : decode cX10_fill 9 = .ok (.ifCond .ge 6, 3) := by decide +kernel
theorem dX10_fill_12 : decode cX10_fill 12 = .ok (.ldc 91, 2) := by decide +kernel
theorem dX10_fill_14 : decode cX10_fill 14 = .ok (.ireturn, 1) := by decide +kernel
theorem dX10_fill_15 : decode cX10_fill 15 = .ok (.aload_n 0, 1) := by decide +kernel
theorem dX10_fill_16 : decode cX10_fill 16 = .ok (.getfield 11, 3) := by decide +kernel
theorem dX10_fill_19 : decode cX10_fill 19 = .ok (.iload_n 1, 1) := by decide +kernel
theorem dX10_fill_20 : decode cX10_fill 20 = .ok (.aaload, 1) := by decide +kernel
theorem dX10_fill_21 : decode cX10_fill 21 = .ok (.astore 6, 2) := by decide +kernel
theorem dX10_fill_23 : decode cX10_fill 23 = .ok (.aload 6, 2) := by decide +kernel
theorem dX10_fill_25 : decode cX10_fill 25 = .ok (.iload_n 2, 1) := by decide +kernel
theorem dX10_fill_26 : decode cX10_fill 26 = .ok (.iload_n 3, 1) := by decide +kernel
theorem dX10_fill_27 : decode cX10_fill 27 = .ok (.invokevirtual 109, 3) := by decide +kernel
theorem dX10_fill_30 : decode cX10_fill 30 = .ok (.ifCond .eq 13, 3) := by decide +kernel
theorem dX10_fill_33 : decode cX10_fill 33 = .ok (.aload 6, 2) := by decide +kernel
theorem dX10_fill_35 : decode cX10_fill 35 = .ok (.iload 5, 2) := by decide +kernel
theorem dX10_fill_37 : decode cX10_fill 37 = .ok (.invokevirtual 113, 3) := by decide +kernel
theorem dX10_fill_40 : decode cX10_fill 40 = .ok (.ifCond .ne 6, 3) := by decide +kernel
theorem dX10_fill_43 : decode cX10_fill 43 = .ok (.ldc 116, 2) := by decide +kernel
theorem dX10_fill_45 : decode cX10_fill 45 = .ok (.ireturn, 1) := by decide +kernel
theorem dX10_fill_46 : decode cX10_fill 46 = .ok (.aload_n 0, 1) := by decide +kernel
theorem dX10_fill_47 : decode cX10_fill 47 = .ok (.getfield 58, 3) := by decide +kernel
theorem dX10_fill_50 : decode cX10_fill 50 = .ok (.aload 6, 2) := by decide +kernel
theorem dX10_fill_52 : decode cX10_fill 52 = .ok (.iload_n 2, 1) := by decide +kernel
theorem dX10_fill_53 : decode cX10_fill 53 = .ok (.iload_n 3, 1) := by decide +kernel
theorem dX10_fill_54 : decode cX10_fill 54 = .ok (.iload 4, 2) := by decide +kernel
theorem dX10_fill_56 : decode cX10_fill 56 = .ok (.invokevirtual 238, 3) := by decide +kernel
theorem dX10_fill_59 : decode cX10_fill 59 = .ok (.istore 7, 2) := by decide +kernel
theorem dX10_fill_61 : decode cX10_fill 61 = .ok (.aload_n 0, 1) := by decide +kernel
theorem dX10_fill_62 : decode cX10_fill 62 = .ok (.getfield 32, 3) := by decide +kernel
theorem dX10_fill_65 : decode cX10_fill 65 = .ok (.aload 6, 2) := by decide +kernel
theorem dX10_fill_67 : decode cX10_fill 67 = .ok (.invokevirtual 125, 3) := by decide +kernel
theorem dX10_fill_70 : decode cX10_fill 70 = .ok (.iconst 0, 1) := by decide +kernel
theorem dX10_fill_71 : decode cX10_fill 71 = .ok (.istore 8, 2) := by decide +kernel
theorem dX10_fill_73 : decode cX10_fill 73 = .ok (.iload 8, 2) := by decide +kernel
theorem dX10_fill_75 : decode cX10_fill 75 = .ok (.iload 7, 2) := by decide +kernel
theorem dX10_fill_77 : decode cX10_fill 77 = .ok (.if_icmp .ge 27, 3) := by decide +kernel
theorem dX10_fill_80 : decode cX10_fill 80 = .ok (.aload_n 0, 1) := by decide +kernel
theorem dX10_fill_81 : decode cX10_fill 81 = .ok (.getfield 32, 3) := by decide +kernel
theorem dX10_fill_84 : decode cX10_fill 84 = .ok (.aload_n 0, 1) := by decide +kernel
theorem dX10_fill_85 : decode cX10_fill 85 = .ok (.getfield 58, 3) := by decide +kernel
theorem dX10_fill_88 : decode cX10_fill 88 = .ok (.iload 8, 2) := by decide +kernel
theorem dX10_fill_90 : decode cX10_fill 90 = .ok (.invokevirtual 242, 3) := by decide +kernel
theorem dX10_fill_93 : decode cX10_fill 93 = .ok (.iload 5, 2) := by decide +kernel
theorem dX10_fill_95 : decode cX10_fill 95 = .ok (.invokevirtual 129, 3) := by decide +kernel
theorem dX10_fill_98 : decode cX10_fill 98 = .ok (.iinc 8 1, 3) := by decide +kernel
theorem dX10_fill_101 : decode cX10_fill 101 = .ok (.goto (-28), 3) := by decide +kernel
theorem dX10_fill_104 : decode cX10_fill 104 = .ok (.aload_n 0, 1) := by decide +kernel
theorem dX10_fill_105 : decode cX10_fill 105 = .ok (.iload_n 1, 1) := by decide +kernel
theorem dX10_fill_106 : decode cX10_fill 106 = .ok (.invokevirtual 105, 3) := by decide +kernel
theorem dX10_fill_109 : decode cX10_fill 109 = .ok (.iload 7, 2) := by decide +kernel
theorem dX10_fill_111 : decode cX10_fill 111 = .ok (.ireturn, 1) := by decide +kernel
theorem dX10_dither_0 : decode cX10_dither 0 = .ok (.iload_n 1, 1) := by decide +kernel
theorem dX10_dither_1 : decode cX10_dither 1 = .ok (.invokestatic 83, 3) := by decide +kernel
theorem dX10_dither_4 : decode cX10_dither 4 = .ok (.ifCond .eq 13, 3) := by decide +kernel
theorem dX10_dither_7 : decode cX10_dither 7 = .ok (.iload_n 2, 1) := by decide +kernel
theorem dX10_dither_8 : decode cX10_dither 8 = .ok (.iconst 2, 1) := by decide +kernel
theorem dX10_dither_9 : decode cX10_dither 9 = .ok (.bipush 16, 2) := by decide +kernel
theorem dX10_dither_11 : decode cX10_dither 11 = .ok (.invokestatic 87, 3) := by decide +kernel
theorem dX10_dither_14 : decode cX10_dither 14 = .ok (.ifCond .ne 6, 3) := by decide +kernel
theorem dX10_dither_17 : decode cX10_dither 17 = .ok (.ldc 91, 2) := by decide +kernel
theorem dX10_dither_19 : decode cX10_dither 19 = .ok (.ireturn, 1) := by decide +kernel
theorem dX10_dither_20 : decode cX10_dither 20 = .ok (.aload_n 0, 1) := by decide +kernel
theorem dX10_dither_21 : decode cX10_dither 21 = .ok (.getfield 11, 3) := by decide +kernel
theorem dX10_dither_24 : decode cX10_dither 24 = .ok (.iload_n 1, 1) := by decide +kernel
theorem dX10_dither_25 : decode cX10_dither 25 = .ok (.aaload, 1) := by decide +kernel
theorem dX10_dither_26 : decode cX10_dither 26 = .ok (.astore_n 3, 1) := by decide +kernel
theorem dX10_dither_27 : decode cX10_dither 27 = .ok (.aload_n 3, 1) := by decide +kernel
theorem dX10_dither_28 : decode cX10_dither 28 = .ok (.getfield 133, 3) := by decide +kernel
theorem dX10_dither_31 : decode cX10_dither 31 = .ok (.ifCond .eq 6, 3) := by decide +kernel
theorem dX10_dither_34 : decode cX10_dither 34 = .ok (.ldc 116, 2) := by decide +kernel
theorem dX10_dither_36 : decode cX10_dither 36 = .ok (.ireturn, 1) := by decide +kernel
theorem dX10_dither_37 : decode cX10_dither 37 = .ok (.aload_n 0, 1) := by decide +kernel
theorem dX10_dither_38 : decode cX10_dither 38 = .ok (.getfield 65, 3) := by decide +kernel
theorem dX10_dither_41 : decode cX10_dither 41 = .ok (.aload_n 3, 1) := by decide +kernel
theorem dX10_dither_42 : decode cX10_dither 42 = .ok (.aload_n 0, 1) := by decide +kernel
theorem dX10_dither_43 : decode cX10_dither 43 = .ok (.getfield 32, 3) := by decide +kernel
theorem dX10_dither_46 : decode cX10_dither 46 = .ok (.iload_n 2, 1) := by decide +kernel
theorem dX10_dither_47 : decode cX10_dither 47 = .ok (.invokevirtual 245, 3) := by decide +kernel
theorem dX10_dither_50 : decode cX10_dither 50 = .ok (.aload_n 0, 1) := by decide +kernel
theorem dX10_dither_51 : decode cX10_dither 51 = .ok (.getfield 32, 3) := by decide +kernel
theorem dX10_dither_54 : decode cX10_dither 54 = .ok (.aload_n 3, 1) := by decide +kernel
theorem dX10_dither_55 : decode cX10_dither 55 = .ok (.invokevirtual 171, 3) := by decide +kernel
theorem dX10_dither_58 : decode cX10_dither 58 = .ok (.istore 4, 2) := by decide +kernel
theorem dX10_dither_60 : decode cX10_dither 60 = .ok (.aload_n 0, 1) := by decide +kernel
theorem dX10_dither_61 : decode cX10_dither 61 = .ok (.iload_n 1, 1) := by decide +kernel
theorem dX10_dither_62 : decode cX10_dither 62 = .ok (.invokevirtual 105, 3) := by decide +kernel
theorem dX10_dither_65 : decode cX10_dither 65 = .ok (.iload 4, 2) := by decide +kernel
theorem dX10_dither_67 : decode cX10_dither 67 = .ok (.ireturn, 1) := by decide +kernel
theorem dX10_even_0 : decode cX10_even 0 = .ok (.iload_n 1, 1) := by decide +kernel
theorem dX10_even_1 : decode cX10_even 1 = .ok (.invokestatic 83, 3) := by decide +kernel
theorem dX10_even_4 : decode cX10_even 4 = .ok (.ifCond .ne 6, 3) := by decide +kernel
theorem dX10_even_7 : decode cX10_even 7 = .ok (.ldc 91, 2) := by decide +kernel
theorem dX10_even_9 : decode cX10_even 9 = .ok (.ireturn, 1) := by decide +kernel
theorem dX10_even_10 : decode cX10_even 10 = .ok (.aload_n 0, 1) := by decide +kernel
theorem dX10_even_11 : decode cX10_even 11 = .ok (.getfield 11, 3) := by decide +kernel
theorem dX10_even_14 : decode cX10_even 14 = .ok (.iload_n 1, 1) := by decide +kernel
theorem dX10_even_15 : decode cX10_even 15 = .ok (.aaload, 1) := by decide +kernel
theorem dX10_even_16 : decode cX10_even 16 = .ok (.astore_n 2, 1) := by decide +kernel
theorem dX10_even_17 : decode cX10_even 17 = .ok (.aload_n 2, 1) := by decide +kernel
theorem dX10_even_18 : decode cX10_even 18 = .ok (.getfield 133, 3) := by decide +kernel
theorem dX10_even_21 : decode cX10_even 21 = .ok (.ifCond .eq 6, 3) := by decide +kernel
theorem dX10_even_24 : decode cX10_even 24 = .ok (.ldc 116, 2) := by decide +kernel
theorem dX10_even_26 : decode cX10_even 26 = .ok (.ireturn, 1) := by decide +kernel
theorem dX10_even_27 : decode cX10_even 27 = .ok (.aload_n 0, 1) := by decide +kernel
theorem dX10_even_28 : decode cX10_even 28 = .ok (.getfield 65, 3) := by decide +kernel
theorem dX10_even_31 : decode cX10_even 31 = .ok (.aload_n 2, 1) := by decide +kernel
theorem dX10_even_32 : decode cX10_even 32 = .ok (.aload_n 0, 1) := by decide +kernel
theorem dX10_even_33 : decode cX10_even 33 = .ok (.getfield 32, 3) := by decide +kernel
theorem dX10_even_36 : decode cX10_even 36 = .ok (.invokevirtual 249, 3) := by decide +kernel
theorem dX10_even_39 : decode cX10_even 39 = .ok (.aload_n 0, 1) := by decide +kernel
theorem dX10_even_40 : decode cX10_even 40 = .ok (.getfield 32, 3) := by decide +kernel
theorem dX10_even_43 : decode cX10_even 43 = .ok (.aload_n 2, 1) := by decide +kernel
theorem dX10_even_44 : decode cX10_even 44 = .ok (.invokevirtual 171, 3) := by decide +kernel
theorem dX10_even_47 : decode cX10_even 47 = .ok (.istore_n 3, 1) := by decide +kernel
theorem dX10_even_48 : decode cX10_even 48 = .ok (.aload_n 0, 1) := by decide +kernel
theorem dX10_even_49 : decode cX10_even 49 = .ok (.iload_n 1, 1) := by decide +kernel
theorem dX10_even_50 : decode cX10_even 50 = .ok (.invokevirtual 105, 3) := by decide +kernel
theorem dX10_even_53 : decode cX10_even 53 = .ok (.iload_n 3, 1) := by decide +kernel
theorem dX10_even_54 : decode cX10_even 54 = .ok (.ireturn, 1) := by decide +kernel
theorem dX10_energy_0 : decode cX10_energy 0 = .ok (.iload_n 1, 1) := by decide +kernel
theorem dX10_energy_1 : decode cX10_energy 1 = .ok (.invokestatic 83, 3) := by decide +kernel
theorem dX10_energy_4 : decode cX10_energy 4 = .ok (.ifCond .ne 6, 3) := by decide +kernel
theorem dX10_energy_7 : decode cX10_energy 7 = .ok (.ldc 91, 2) := by decide +kernel
theorem dX10_energy_9 : decode cX10_energy 9 = .ok (.ireturn, 1) := by decide +kernel
theorem dX10_energy_10 : decode cX10_energy 10 = .ok (.aload_n 0, 1) := by decide +kernel
theorem dX10_energy_11 : decode cX10_energy 11 = .ok (.getfield 11, 3) := by decide +kernel
theorem dX10_energy_14 : decode cX10_energy 14 = .ok (.iload_n 1, 1) := by decide +kernel
theorem dX10_energy_15 : decode cX10_energy 15 = .ok (.aaload, 1) := by decide +kernel
theorem dX10_energy_16 : decode cX10_energy 16 = .ok (.iload_n 2, 1) := by decide +kernel
theorem dX10_energy_17 : decode cX10_energy 17 = .ok (.iload_n 3, 1) := by decide +kernel
theorem dX10_energy_18 : decode cX10_energy 18 = .ok (.invokevirtual 109, 3) := by decide +kernel
theorem dX10_energy_21 : decode cX10_energy 21 = .ok (.ifCond .eq 17, 3) := by decide +kernel
theorem dX10_energy_24 : decode cX10_energy 24 = .ok (.aload_n 0, 1) := by decide +kernel
theorem dX10_energy_25 : decode cX10_energy 25 = .ok (.getfield 11, 3) := by decide +kernel
theorem dX10_energy_28 : decode cX10_energy 28 = .ok (.iload_n 1, 1) := by decide +kernel
theorem dX10_energy_29 : decode cX10_energy 29 = .ok (.aaload, 1) := by decide +kernel
theorem dX10_energy_30 : decode cX10_energy 30 = .ok (.iload_n 2, 1) := by decide +kernel
theorem dX10_energy_31 : decode cX10_energy 31 = .ok (.iload_n 3, 1) := by decide +kernel
theorem dX10_energy_32 : decode cX10_energy 32 = .ok (.invokevirtual 253, 3) := by decide +kernel
theorem dX10_energy_35 : decode cX10_energy 35 = .ok (.goto 5, 3) := by decide +kernel
theorem dX10_energy_38 : decode cX10_energy 38 = .ok (.ldc 116, 2) := by decide +kernel
theorem dX10_energy_40 : decode cX10_energy 40 = .ok (.ireturn, 1) := by decide +kernel
theorem dX10_seam_0 : decode cX10_seam 0 = .ok (.iload_n 1, 1) := by decide +kernel
theorem dX10_seam_1 : decode cX10_seam 1 = .ok (.invokestatic 83, 3) := by decide +kernel
theorem dX10_seam_4 : decode cX10_seam 4 = .ok (.ifCond .eq 8, 3) := by decide +kernel
theorem dX10_seam_7 : decode cX10_seam 7 = .ok (.iload_n 2, 1) := by decide +kernel
theorem dX10_seam_8 : decode cX10_seam 8 = .ok (.iconst (-1), 1) := by decide +kernel
theorem dX10_seam_9 : decode cX10_seam 9 = .ok (.if_icmp .ge 6, 3) := by decide +kernel
theorem dX10_seam_12 : decode cX10_seam 12 = .ok (.ldc 91, 2) := by decide +kernel
theorem dX10_seam_14 : decode cX10_seam 14 = .ok (.ireturn, 1) := by decide +kernel
theorem dX10_seam_15 : decode cX10_seam 15 = .ok (.aload_n 0, 1) := by decide +kernel
theorem dX10_seam_16 : decode cX10_seam 16 = .ok (.getfield 11, 3) := by decide +kernel
theorem dX10_seam_19 : decode cX10_seam 19 = .ok (.iload_n 1, 1) := by decide +kernel
theorem dX10_seam_20 : decode cX10_seam 20 = .ok (.aaload, 1) := by decide +kernel
theorem dX10_seam_21 : decode cX10_seam 21 = .ok (.astore_n 3, 1) := by decide +kernel
theorem dX10_seam_22 : decode cX10_seam 22 = .ok (.aload_n 3, 1) := by decide +kernel
theorem dX10_seam_23 : decode cX10_seam 23 = .ok (.invokevirtual 140, 3) := by decide +kernel
theorem dX10_seam_26 : decode cX10_seam 26 = .ok (.ifCond .ne 11, 3) := by decide +kernel
theorem dX10_seam_29 : decode cX10_seam 29 = .ok (.iload_n 2, 1) := by decide +kernel
theorem dX10_seam_30 : decode cX10_seam 30 = .ok (.aload_n 3, 1) := by decide +kernel
theorem dX10_seam_31 : decode cX10_seam 31 = .ok (.getfield 155, 3) := by decide +kernel
theorem dX10_seam_34 : decode cX10_seam 34 = .ok (.if_icmp .lt 6, 3) := by decide +kernel
theorem dX10_seam_37 : decode cX10_seam 37 = .ok (.ldc 116, 2) := by decide +kernel
theorem dX10_seam_39 : decode cX10_seam 39 = .ok (.ireturn, 1) := by decide +kernel
theorem dX10_seam_40 : decode cX10_seam 40 = .ok (.aload_n 0, 1) := by decide +kernel
theorem dX10_seam_41 : decode cX10_seam 41 = .ok (.getfield 72, 3) := by decide +kernel
theorem dX10_seam_44 : decode cX10_seam 44 = .ok (.aload_n 3, 1) := by decide +kernel
theorem dX10_seam_45 : decode cX10_seam 45 = .ok (.invokevirtual 256, 3) := by decide +kernel
theorem dX10_seam_48 : decode cX10_seam 48 = .ok (.iload_n 2, 1) := by decide +kernel
theorem dX10_seam_49 : decode cX10_seam 49 = .ok (.iconst (-1), 1) := by decide +kernel
theorem dX10_seam_50 : decode cX10_seam 50 = .ok (.if_icmp .ne 13, 3) := by decide +kernel
theorem dX10_seam_53 : decode cX10_seam 53 = .ok (.aload_n 0, 1) := by decide +kernel
theorem dX10_seam_54 : decode cX10_seam 54 = .ok (.getfield 72, 3) := by decide +kernel
theorem dX10_seam_57 : decode cX10_seam 57 = .ok (.getfield 259, 3) := by decide +kernel
theorem dX10_seam_60 : decode cX10_seam 60 = .ok (.goto 11, 3) := by decide +kernel
theorem dX10_seam_63 : decode cX10_seam 63 = .ok (.aload_n 0, 1) := by decide +kernel
theorem dX10_seam_64 : decode cX10_seam 64 = .ok (.getfield 72, 3) := by decide +kernel
theorem dX10_seam_67 : decode cX10_seam 67 = .ok (.iload_n 2, 1) := by decide +kernel
theorem dX10_seam_68 : decode cX10_seam 68 = .ok (.invokevirtual 262, 3) := by decide +kernel
theorem dX10_seam_71 : decode cX10_seam 71 = .ok (.ireturn, 1) := by decide +kernel
theorem dX10_seamGoes_0 : decode cX10_seamGoes 0 = .ok (.iload_n 1, 1) := by decide +kernel
theorem dX10_seamGoes_1 : decode cX10_seamGoes 1 = .ok (.invokestatic 83, 3) := by decide +kernel
theorem dX10_seamGoes_4 : decode cX10_seamGoes 4 = .ok (.ifCond .eq 12, 3) := by decide +kernel
theorem dX10_seamGoes_7 : decode cX10_seamGoes 7 = .ok (.iload_n 2, 1) := by decide +kernel
theorem dX10_seamGoes_8 : decode cX10_seamGoes 8 = .ok (.iconst 0, 1) := by decide +kernel
theorem dX10_seamGoes_9 : decode cX10_seamGoes 9 = .ok (.iconst 1, 1) := by decide +kernel
theorem dX10_seamGoes_10 : decode cX10_seamGoes 10 = .ok (.invokestatic 87, 3) := by decide +kernel
theorem dX10_seamGoes_13 : decode cX10_seamGoes 13 = .ok (.ifCond .ne 6, 3) := by decide +kernel
theorem dX10_seamGoes_16 : decode cX10_seamGoes 16 = .ok (.ldc 91, 2) := by decide +kernel
theorem dX10_seamGoes_18 : decode cX10_seamGoes 18 = .ok (.ireturn, 1) := by decide +kernel
theorem dX10_seamGoes_19 : decode cX10_seamGoes 19 = .ok (.aload_n 0, 1) := by decide +kernel
theorem dX10_seamGoes_20 : decode cX10_seamGoes 20 = .ok (.getfield 11, 3) := by decide +kernel
theorem dX10_seamGoes_23 : decode cX10_seamGoes 23 = .ok (.iload_n 1, 1) := by decide +kernel
theorem dX10_seamGoes_24 : decode cX10_seamGoes 24 = .ok (.aaload, 1) := by decide +kernel
theorem dX10_seamGoes_25 : decode cX10_seamGoes 25 = .ok (.astore_n 3, 1) := by decide +kernel
theorem dX10_seamGoes_26 : decode cX10_seamGoes 26 = .ok (.iload_n 2, 1) := by decide +kernel
theorem dX10_seamGoes_27 : decode cX10_seamGoes 27 = .ok (.ifCond .ne 12, 3) := by decide +kernel
theorem dX10_seamGoes_30 : decode cX10_seamGoes 30 = .ok (.aload_n 3, 1) := by decide +kernel
theorem dX10_seamGoes_31 : decode cX10_seamGoes 31 = .ok (.getfield 152, 3) := by decide +kernel
theorem dX10_seamGoes_34 : decode cX10_seamGoes 34 = .ok (.iconst 1, 1) := by decide +kernel
theorem dX10_seamGoes_35 : decode cX10_seamGoes 35 = .ok (.isub, 1) := by decide +kernel
theorem dX10_seamGoes_36 : decode cX10_seamGoes 36 = .ok (.goto 9, 3) := by decide +kernel
theorem dX10_seamGoes_39 : decode cX10_seamGoes 39 = .ok (.aload_n 3, 1) := by decide +kernel
theorem dX10_seamGoes_40 : decode cX10_seamGoes 40 = .ok (.getfield 152, 3) := by decide +kernel
theorem dX10_seamGoes_43 : decode cX10_seamGoes 43 = .ok (.iconst 1, 1) := by decide +kernel
theorem dX10_seamGoes_44 : decode cX10_seamGoes 44 = .ok (.iadd, 1) := by decide +kernel
theorem dX10_seamGoes_45 : decode cX10_seamGoes 45 = .ok (.istore 4, 2) := by decide +kernel
theorem dX10_seamGoes_47 : decode cX10_seamGoes 47 = .ok (.aload_n 3, 1) := by decide +kernel
theorem dX10_seamGoes_48 : decode cX10_seamGoes 48 = .ok (.invokevirtual 140, 3) := by decide +kernel
theorem dX10_seamGoes_51 : decode cX10_seamGoes 51 = .ok (.ifCond .ne 11, 3) := by decide +kernel
theorem dX10_seamGoes_54 : decode cX10_seamGoes 54 = .ok (.iload 4, 2) := by decide +kernel
theorem dX10_seamGoes_56 : decode cX10_seamGoes 56 = .ok (.invokestatic 95, 3) := by decide +kernel
theorem dX10_seamGoes_59 : decode cX10_seamGoes 59 = .ok (.ifCond .ne 6, 3) := by decide +kernel
theorem dX10_seamGoes_62 : decode cX10_seamGoes 62 = .ok (.ldc 116, 2) := by decide +kernel
theorem dX10_seamGoes_64 : decode cX10_seamGoes 64 = .ok (.ireturn, 1) := by decide +kernel
theorem dX10_seamGoes_65 : decode cX10_seamGoes 65 = .ok (.aload_n 0, 1) := by decide +kernel
theorem dX10_seamGoes_66 : decode cX10_seamGoes 66 = .ok (.getfield 72, 3) := by decide +kernel
theorem dX10_seamGoes_69 : decode cX10_seamGoes 69 = .ok (.aload_n 3, 1) := by decide +kernel
theorem dX10_seamGoes_70 : decode cX10_seamGoes 70 = .ok (.invokevirtual 256, 3) := by decide +kernel
theorem dX10_seamGoes_73 : decode cX10_seamGoes 73 = .ok (.aload_n 0, 1) := by decide +kernel
theorem dX10_seamGoes_74 : decode cX10_seamGoes 74 = .ok (.getfield 32, 3) := by decide +kernel
theorem dX10_seamGoes_77 : decode cX10_seamGoes 77 = .ok (.aload_n 3, 1) := by decide +kernel
theorem dX10_seamGoes_78 : decode cX10_seamGoes 78 = .ok (.getfield 133, 3) := by decide +kernel
theorem dX10_seamGoes_81 : decode cX10_seamGoes 81 = .ok (.iload 4, 2) := by decide +kernel
theorem dX10_seamGoes_83 : decode cX10_seamGoes 83 = .ok (.aload_n 3, 1) := by decide +kernel
theorem dX10_seamGoes_84 : decode cX10_seamGoes 84 = .ok (.getfield 155, 3) := by decide +kernel
theorem dX10_seamGoes_87 : decode cX10_seamGoes 87 = .ok (.invokevirtual 98, 3) := by decide +kernel
theorem dX10_seamGoes_90 : decode cX10_seamGoes 90 = .ok (.iconst 0, 1) := by decide +kernel
theorem dX10_seamGoes_91 : decode cX10_seamGoes 91 = .ok (.istore 5, 2) := by decide +kernel
theorem dX10_seamGoes_93 : decode cX10_seamGoes 93 = .ok (.iload 5, 2) := by decide +kernel
theorem dX10_seamGoes_95 : decode cX10_seamGoes 95 = .ok (.aload_n 3, 1) := by decide +kernel
theorem dX10_seamGoes_96 : decode cX10_seamGoes 96 = .ok (.getfield 155, 3) := by decide +kernel
theorem dX10_seamGoes_99 : decode cX10_seamGoes 99 = .ok (.if_icmp .ge 107, 3) := by decide +kernel
theorem dX10_seamGoes_102 : decode cX10_seamGoes 102 = .ok (.aload_n 0, 1) := by decide +kernel
theorem dX10_seamGoes_103 : decode cX10_seamGoes 103 = .ok (.getfield 72, 3) := by decide +kernel
theorem dX10_seamGoes_106 : decode cX10_seamGoes 106 = .ok (.iload 5, 2) := by decide +kernel
theorem dX10_seamGoes_108 : decode cX10_seamGoes 108 = .ok (.invokevirtual 262, 3) := by decide +kernel
theorem dX10_seamGoes_111 : decode cX10_seamGoes 111 = .ok (.istore 6, 2) := by decide +kernel
theorem dX10_seamGoes_113 : decode cX10_seamGoes 113 = .ok (.iconst 0, 1) := by decide +kernel
theorem dX10_seamGoes_114 : decode cX10_seamGoes 114 = .ok (.istore 7, 2) := by decide +kernel
theorem dX10_seamGoes_116 : decode cX10_seamGoes 116 = .ok (.iload 7, 2) := by decide +kernel
theorem dX10_seamGoes_118 : decode cX10_seamGoes 118 = .ok (.iload 4, 2) := by decide +kernel
theorem dX10_seamGoes_120 : decode cX10_seamGoes 120 = .ok (.if_icmp .ge 80, 3) := by decide +kernel
theorem dX10_seamGoes_123 : decode cX10_seamGoes 123 = .ok (.iload_n 2, 1) := by decide +kernel
theorem dX10_seamGoes_124 : decode cX10_seamGoes 124 = .ok (.ifCond .ne 22, 3) := by decide +kernel
theorem dX10_seamGoes_127 : decode cX10_seamGoes 127 = .ok (.iload 7, 2) := by decide +kernel
theorem dX10_seamGoes_129 : decode cX10_seamGoes 129 = .ok (.iload 6, 2) := by decide +kernel
theorem dX10_seamGoes_131 : decode cX10_seamGoes 131 = .ok (.if_icmp .ge 8, 3) := by decide +kernel
theorem dX10_seamGoes_134 : decode cX10_seamGoes 134 = .ok (.iload 7, 2) := by decide +kernel
theorem dX10_seamGoes_136 : decode cX10_seamGoes 136 = .ok (.goto 26, 3) := by decide +kernel
theorem dX10_seamGoes_139 : decode cX10_seamGoes 139 = .ok (.iload 7, 2) := by decide +kernel
theorem dX10_seamGoes_141 : decode cX10_seamGoes 141 = .ok (.iconst 1, 1) := by decide +kernel
theorem dX10_seamGoes_142 : decode cX10_seamGoes 142 = .ok (.iadd, 1) := by decide +kernel
theorem dX10_seamGoes_143 : decode cX10_seamGoes 143 = .ok (.goto 19, 3) := by decide +kernel
theorem dX10_seamGoes_146 : decode cX10_seamGoes 146 = .ok (.iload 7, 2) := by decide +kernel
theorem dX10_seamGoes_148 : decode cX10_seamGoes 148 = .ok (.iload 6, 2) := by decide +kernel
theorem dX10_seamGoes_150 : decode cX10_seamGoes 150 = .ok (.if_icmp .gt 8, 3) := by decide +kernel
theorem dX10_seamGoes_153 : decode cX10_seamGoes 153 = .ok (.iload 7, 2) := by decide +kernel
theorem dX10_seamGoes_155 : decode cX10_seamGoes 155 = .ok (.goto 7, 3) := by decide +kernel
theorem dX10_seamGoes_158 : decode cX10_seamGoes 158 = .ok (.iload 7, 2) := by decide +kernel
theorem dX10_seamGoes_160 : decode cX10_seamGoes 160 = .ok (.iconst 1, 1) := by decide +kernel
theorem dX10_seamGoes_161 : decode cX10_seamGoes 161 = .ok (.isub, 1) := by decide +kernel
theorem dX10_seamGoes_162 : decode cX10_seamGoes 162 = .ok (.istore 8, 2) := by decide +kernel
theorem dX10_seamGoes_164 : decode cX10_seamGoes 164 = .ok (.aload_n 0, 1) := by decide +kernel
theorem dX10_seamGoes_165 : decode cX10_seamGoes 165 = .ok (.getfield 32, 3) := by decide +kernel
theorem dX10_seamGoes_168 : decode cX10_seamGoes 168 = .ok (.aload_n 0, 1) := by decide +kernel
theorem dX10_seamGoes_169 : decode cX10_seamGoes 169 = .ok (.getfield 32, 3) := by decide +kernel
theorem dX10_seamGoes_172 : decode cX10_seamGoes 172 = .ok (.iload 7, 2) := by decide +kernel
theorem dX10_seamGoes_174 : decode cX10_seamGoes 174 = .ok (.iload 5, 2) := by decide +kernel
theorem dX10_seamGoes_176 : decode cX10_seamGoes 176 = .ok (.invokevirtual 117, 3) := by decide +kernel
theorem dX10_seamGoes_179 : decode cX10_seamGoes 179 = .ok (.aload_n 3, 1) := by decide +kernel
theorem dX10_seamGoes_180 : decode cX10_seamGoes 180 = .ok (.aload_n 3, 1) := by decide +kernel
theorem dX10_seamGoes_181 : decode cX10_seamGoes 181 = .ok (.iload 8, 2) := by decide +kernel
theorem dX10_seamGoes_183 : decode cX10_seamGoes 183 = .ok (.iload 5, 2) := by decide +kernel
theorem dX10_seamGoes_185 : decode cX10_seamGoes 185 = .ok (.invokevirtual 117, 3) := by decide +kernel
theorem dX10_seamGoes_188 : decode cX10_seamGoes 188 = .ok (.invokevirtual 121, 3) := by decide +kernel
theorem dX10_seamGoes_191 : decode cX10_seamGoes 191 = .ok (.invokevirtual 129, 3) := by decide +kernel
theorem dX10_seamGoes_194 : decode cX10_seamGoes 194 = .ok (.iinc 7 1, 3) := by decide +kernel
theorem dX10_seamGoes_197 : decode cX10_seamGoes 197 = .ok (.goto (-81), 3) := by decide +kernel
theorem dX10_seamGoes_200 : decode cX10_seamGoes 200 = .ok (.iinc 5 1, 3) := by decide +kernel
theorem dX10_seamGoes_203 : decode cX10_seamGoes 203 = .ok (.goto (-110), 3) := by decide +kernel
theorem dX10_seamGoes_206 : decode cX10_seamGoes 206 = .ok (.aload_n 0, 1) := by decide +kernel
theorem dX10_seamGoes_207 : decode cX10_seamGoes 207 = .ok (.iload_n 1, 1) := by decide +kernel
theorem dX10_seamGoes_208 : decode cX10_seamGoes 208 = .ok (.invokevirtual 105, 3) := by decide +kernel
theorem dX10_seamGoes_211 : decode cX10_seamGoes 211 = .ok (.iload 4, 2) := by decide +kernel
theorem dX10_seamGoes_213 : decode cX10_seamGoes 213 = .ok (.ireturn, 1) := by decide +kernel
theorem dX10_runs_0 : decode cX10_runs 0 = .ok (.iload_n 1, 1) := by decide +kernel
theorem dX10_runs_1 : decode cX10_runs 1 = .ok (.invokestatic 83, 3) := by decide +kernel
theorem dX10_runs_4 : decode cX10_runs 4 = .ok (.ifCond .eq 8, 3) := by decide +kernel
theorem dX10_runs_7 : decode cX10_runs 7 = .ok (.iload_n 2, 1) := by decide +kernel
theorem dX10_runs_8 : decode cX10_runs 8 = .ok (.iconst (-1), 1) := by decide +kernel
theorem dX10_runs_9 : decode cX10_runs 9 = .ok (.if_icmp .ge 6, 3) := by decide +kernel
theorem dX10_runs_12 : decode cX10_runs 12 = .ok (.ldc 91, 2) := by decide +kernel
theorem dX10_runs_14 : decode cX10_runs 14 = .ok (.ireturn, 1) := by decide +kernel
theorem dX10_runs_15 : decode cX10_runs 15 = .ok (.aload_n 0, 1) := by decide +kernel
theorem dX10_runs_16 : decode cX10_runs 16 = .ok (.getfield 11, 3) := by decide +kernel
theorem dX10_runs_19 : decode cX10_runs 19 = .ok (.iload_n 1, 1) := by decide +kernel
theorem dX10_runs_20 : decode cX10_runs 20 = .ok (.aaload, 1) := by decide +kernel
theorem dX10_runs_21 : decode cX10_runs 21 = .ok (.invokevirtual 140, 3) := by decide +kernel
theorem dX10_runs_24 : decode cX10_runs 24 = .ok (.ifCond .eq 8, 3) := by decide +kernel
theorem dX10_runs_27 : decode cX10_runs 27 = .ok (.ldc 116, 2) := by decide +kernel
theorem dX10_runs_29 : decode cX10_runs 29 = .ok (.goto 13, 3) := by decide +kernel
theorem dX10_runs_32 : decode cX10_runs 32 = .ok (.aload_n 0, 1) := by decide +kernel
theorem dX10_runs_33 : decode cX10_runs 33 = .ok (.getfield 11, 3) := by decide +kernel
theorem dX10_runs_36 : decode cX10_runs 36 = .ok (.iload_n 1, 1) := by decide +kernel
theorem dX10_runs_37 : decode cX10_runs 37 = .ok (.aaload, 1) := by decide +kernel
theorem dX10_runs_38 : decode cX10_runs 38 = .ok (.iload_n 2, 1) := by decide +kernel
theorem dX10_runs_39 : decode cX10_runs 39 = .ok (.invokevirtual 265, 3) := by decide +kernel
theorem dX10_runs_42 : decode cX10_runs 42 = .ok (.ireturn, 1) := by decide +kernel
theorem dX10_read_0 : decode cX10_read 0 = .ok (.iload_n 1, 1) := by decide +kernel
theorem dX10_read_1 : decode cX10_read 1 = .ok (.invokestatic 83, 3) := by decide +kernel
theorem dX10_read_4 : decode cX10_read 4 = .ok (.ifCond .ne 6, 3) := by decide +kernel
theorem dX10_read_7 : decode cX10_read 7 = .ok (.ldc 91, 2) := by decide +kernel
theorem dX10_read_9 : decode cX10_read 9 = .ok (.ireturn, 1) := by decide +kernel
theorem dX10_read_10 : decode cX10_read 10 = .ok (.aload_n 0, 1) := by decide +kernel
theorem dX10_read_11 : decode cX10_read 11 = .ok (.getfield 79, 3) := by decide +kernel
theorem dX10_read_14 : decode cX10_read 14 = .ok (.aload_n 0, 1) := by decide +kernel
theorem dX10_read_15 : decode cX10_read 15 = .ok (.getfield 32, 3) := by decide +kernel
theorem dX10_read_18 : decode cX10_read 18 = .ok (.invokevirtual 268, 3) := by decide +kernel
theorem dX10_read_21 : decode cX10_read 21 = .ok (.istore_n 2, 1) := by decide +kernel
theorem dX10_read_22 : decode cX10_read 22 = .ok (.aload_n 0, 1) := by decide +kernel
theorem dX10_read_23 : decode cX10_read 23 = .ok (.getfield 79, 3) := by decide +kernel
theorem dX10_read_26 : decode cX10_read 26 = .ok (.iconst 0, 1) := by decide +kernel
theorem dX10_read_27 : decode cX10_read 27 = .ok (.putfield 271, 3) := by decide +kernel
theorem dX10_read_30 : decode cX10_read 30 = .ok (.iload_n 2, 1) := by decide +kernel
theorem dX10_read_31 : decode cX10_read 31 = .ok (.ifCond .lt 8, 3) := by decide +kernel
theorem dX10_read_34 : decode cX10_read 34 = .ok (.aload_n 0, 1) := by decide +kernel
theorem dX10_read_35 : decode cX10_read 35 = .ok (.iload_n 1, 1) := by decide +kernel
theorem dX10_read_36 : decode cX10_read 36 = .ok (.invokevirtual 105, 3) := by decide +kernel
theorem dX10_read_39 : decode cX10_read 39 = .ok (.iload_n 2, 1) := by decide +kernel
theorem dX10_read_40 : decode cX10_read 40 = .ok (.ireturn, 1) := by decide +kernel
theorem dX10_byteTo_0 : decode cX10_byteTo 0 = .ok (.iload_n 1, 1) := by decide +kernel
theorem dX10_byteTo_1 : decode cX10_byteTo 1 = .ok (.iconst 0, 1) := by decide +kernel
theorem dX10_byteTo_2 : decode cX10_byteTo 2 = .ok (.sipush 255, 3) := by decide +kernel
theorem dX10_byteTo_5 : decode cX10_byteTo 5 = .ok (.invokestatic 87, 3) := by decide +kernel
theorem dX10_byteTo_8 : decode cX10_byteTo 8 = .ok (.ifCond .ne 6, 3) := by decide +kernel
theorem dX10_byteTo_11 : decode cX10_byteTo 11 = .ok (.ldc 91, 2) := by decide +kernel
theorem dX10_byteTo_13 : decode cX10_byteTo 13 = .ok (.ireturn, 1) := by decide +kernel
theorem dX10_byteTo_14 : decode cX10_byteTo 14 = .ok (.aload_n 0, 1) := by decide +kernel
theorem dX10_byteTo_15 : decode cX10_byteTo 15 = .ok (.getfield 79, 3) := by decide +kernel
theorem dX10_byteTo_18 : decode cX10_byteTo 18 = .ok (.iload_n 1, 1) := by decide +kernel
theorem dX10_byteTo_19 : decode cX10_byteTo 19 = .ok (.invokevirtual 274, 3) := by decide +kernel
theorem dX10_byteTo_22 : decode cX10_byteTo 22 = .ok (.ifCond .eq 13, 3) := by decide +kernel
theorem dX10_byteTo_25 : decode cX10_byteTo 25 = .ok (.aload_n 0, 1) := by decide +kernel
theorem dX10_byteTo_26 : decode cX10_byteTo 26 = .ok (.getfield 79, 3) := by decide +kernel
theorem dX10_byteTo_29 : decode cX10_byteTo 29 = .ok (.getfield 271, 3) := by decide +kernel
theorem dX10_byteTo_32 : decode cX10_byteTo 32 = .ok (.goto 5, 3) := by decide +kernel
theorem dX10_byteTo_35 : decode cX10_byteTo 35 = .ok (.ldc 194, 2) := by decide +kernel
theorem dX10_byteTo_37 : decode cX10_byteTo 37 = .ok (.ireturn, 1) := by decide +kernel
theorem dX10_undo_0 : decode cX10_undo 0 = .ok (.aload_n 0, 1) := by decide +kernel
theorem dX10_undo_1 : decode cX10_undo 1 = .ok (.getfield 44, 3) := by decide +kernel
theorem dX10_undo_4 : decode cX10_undo 4 = .ok (.invokevirtual 277, 3) := by decide +kernel
theorem dX10_undo_7 : decode cX10_undo 7 = .ok (.astore_n 1, 1) := by decide +kernel
theorem dX10_undo_8 : decode cX10_undo 8 = .ok (.aload_n 1, 1) := by decide +kernel
theorem dX10_undo_9 : decode cX10_undo 9 = .ok (.ifnonnull 6, 3) := by decide +kernel
theorem dX10_undo_12 : decode cX10_undo 12 = .ok (.ldc 116, 2) := by decide +kernel
theorem dX10_undo_14 : decode cX10_undo 14 = .ok (.ireturn, 1) := by decide +kernel
theorem dX10_undo_15 : decode cX10_undo 15 = .ok (.aload_n 0, 1) := by decide +kernel
theorem dX10_undo_16 : decode cX10_undo 16 = .ok (.aload_n 1, 1) := by decide +kernel
theorem dX10_undo_17 : decode cX10_undo 17 = .ok (.invokevirtual 281, 3) := by decide +kernel
theorem dX10_undo_20 : decode cX10_undo 20 = .ok (.iconst 1, 1) := by decide +kernel
theorem dX10_undo_21 : decode cX10_undo 21 = .ok (.ireturn, 1) := by decide +kernel
theorem dX10_redo_0 : decode cX10_redo 0 = .ok (.aload_n 0, 1) := by decide +kernel
theorem dX10_redo_1 : decode cX10_redo 1 = .ok (.getfield 44, 3) := by decide +kernel
theorem dX10_redo_4 : decode cX10_redo 4 = .ok (.invokevirtual 285, 3) := by decide +kernel
theorem dX10_redo_7 : decode cX10_redo 7 = .ok (.astore_n 1, 1) := by decide +kernel
theorem dX10_redo_8 : decode cX10_redo 8 = .ok (.aload_n 1, 1) := by decide +kernel
theorem dX10_redo_9 : decode cX10_redo 9 = .ok (.ifnonnull 6, 3) := by decide +kernel
theorem dX10_redo_12 : decode cX10_redo 12 = .ok (.ldc 116, 2) := by decide +kernel
theorem dX10_redo_14 : decode cX10_redo 14 = .ok (.ireturn, 1) := by decide +kernel
theorem dX10_redo_15 : decode cX10_redo 15 = .ok (.aload_n 0, 1) := by decide +kernel
theorem dX10_redo_16 : decode cX10_redo 16 = .ok (.aload_n 1, 1) := by decide +kernel
theorem dX10_redo_17 : decode cX10_redo 17 = .ok (.invokevirtual 281, 3) := by decide +kernel
theorem dX10_redo_20 : decode cX10_redo 20 = .ok (.iconst 1, 1) := by decide +kernel
theorem dX10_redo_21 : decode cX10_redo 21 = .ok (.ireturn, 1) := by decide +kernel
theorem dX10_count_0 : decode cX10_count 0 = .ok (.iload_n 1, 1) := by decide +kernel
theorem dX10_count_1 : decode cX10_count 1 = .ok (.tableswitch 69 0 4 #[35, 40, 45, 53, 61], 35) := by decide +kernel
theorem dX10_count_36 : decode cX10_count 36 = .ok (.aload_n 0, 1) := by decide +kernel
theorem dX10_count_37 : decode cX10_count 37 = .ok (.getfield 27, 3) := by decide +kernel
theorem dX10_count_40 : decode cX10_count 40 = .ok (.ireturn, 1) := by decide +kernel
theorem dX10_count_41 : decode cX10_count 41 = .ok (.aload_n 0, 1) := by decide +kernel
theorem dX10_count_42 : decode cX10_count 42 = .ok (.invokevirtual 288, 3) := by decide +kernel
theorem dX10_count_45 : decode cX10_count 45 = .ok (.ireturn, 1) := by decide +kernel
theorem dX10_count_46 : decode cX10_count 46 = .ok (.aload_n 0, 1) := by decide +kernel
theorem dX10_count_47 : decode cX10_count 47 = .ok (.getfield 44, 3) := by decide +kernel
theorem dX10_count_50 : decode cX10_count 50 = .ok (.getfield 291, 3) := by decide +kernel
theorem dX10_count_53 : decode cX10_count 53 = .ok (.ireturn, 1) := by decide +kernel
theorem dX10_count_54 : decode cX10_count 54 = .ok (.aload_n 0, 1) := by decide +kernel
theorem dX10_count_55 : decode cX10_count 55 = .ok (.getfield 44, 3) := by decide +kernel
theorem dX10_count_58 : decode cX10_count 58 = .ok (.getfield 294, 3) := by decide +kernel
theorem dX10_count_61 : decode cX10_count 61 = .ok (.ireturn, 1) := by decide +kernel
theorem dX10_count_62 : decode cX10_count 62 = .ok (.aload_n 0, 1) := by decide +kernel
theorem dX10_count_63 : decode cX10_count 63 = .ok (.getfield 79, 3) := by decide +kernel
theorem dX10_count_66 : decode cX10_count 66 = .ok (.getfield 271, 3) := by decide +kernel
theorem dX10_count_69 : decode cX10_count 69 = .ok (.ireturn, 1) := by decide +kernel
theorem dX10_count_70 : decode cX10_count 70 = .ok (.ldc 91, 2) := by decide +kernel
theorem dX10_count_72 : decode cX10_count 72 = .ok (.ireturn, 1) := by decide +kernel
theorem dX10_within_0 : decode cX10_within 0 = .ok (.iload_n 0, 1) := by decide +kernel
theorem dX10_within_1 : decode cX10_within 1 = .ok (.iload_n 1, 1) := by decide +kernel
theorem dX10_within_2 : decode cX10_within 2 = .ok (.if_icmp .lt 12, 3) := by decide +kernel
theorem dX10_within_5 : decode cX10_within 5 = .ok (.iload_n 0, 1) := by decide +kernel
theorem dX10_within_6 : decode cX10_within 6 = .ok (.iload_n 2, 1) := by decide +kernel
theorem dX10_within_7 : decode cX10_within 7 = .ok (.if_icmp .gt 7, 3) := by decide +kernel
theorem dX10_within_10 : decode cX10_within 10 = .ok (.iconst 1, 1) := by decide +kernel
theorem dX10_within_11 : decode cX10_within 11 = .ok (.goto 4, 3) := by decide +kernel
theorem dX10_within_14 : decode cX10_within 14 = .ok (.iconst 0, 1) := by decide +kernel
theorem dX10_within_15 : decode cX10_within 15 = .ok (.ireturn, 1) := by decide +kernel
theorem dX10_isPicture_0 : decode cX10_isPicture 0 = .ok (.iload_n 0, 1) := by decide +kernel
theorem dX10_isPicture_1 : decode cX10_isPicture 1 = .ok (.iconst 0, 1) := by decide +kernel
theorem dX10_isPicture_2 : decode cX10_isPicture 2 = .ok (.bipush 7, 2) := by decide +kernel
theorem dX10_isPicture_4 : decode cX10_isPicture 4 = .ok (.invokestatic 87, 3) := by decide +kernel
theorem dX10_isPicture_7 : decode cX10_isPicture 7 = .ok (.ireturn, 1) := by decide +kernel
theorem dX10_isMask_0 : decode cX10_isMask 0 = .ok (.iload_n 0, 1) := by decide +kernel
theorem dX10_isMask_1 : decode cX10_isMask 1 = .ok (.iconst 0, 1) := by decide +kernel
theorem dX10_isMask_2 : decode cX10_isMask 2 = .ok (.iconst 5, 1) := by decide +kernel
theorem dX10_isMask_3 : decode cX10_isMask 3 = .ok (.invokestatic 87, 3) := by decide +kernel
theorem dX10_isMask_6 : decode cX10_isMask 6 = .ok (.ireturn, 1) := by decide +kernel
theorem dX10_isOfMask_0 : decode cX10_isOfMask 0 = .ok (.iload_n 0, 1) := by decide +kernel
theorem dX10_isOfMask_1 : decode cX10_isOfMask 1 = .ok (.iconst 0, 1) := by decide +kernel
theorem dX10_isOfMask_2 : decode cX10_isOfMask 2 = .ok (.bipush 15, 2) := by decide +kernel
theorem dX10_isOfMask_4 : decode cX10_isOfMask 4 = .ok (.invokestatic 87, 3) := by decide +kernel
theorem dX10_isOfMask_7 : decode cX10_isOfMask 7 = .ok (.ifCond .eq 17, 3) := by decide +kernel
theorem dX10_isOfMask_10 : decode cX10_isOfMask 10 = .ok (.iload_n 1, 1) := by decide +kernel
theorem dX10_isOfMask_11 : decode cX10_isOfMask 11 = .ok (.iconst 0, 1) := by decide +kernel
theorem dX10_isOfMask_12 : decode cX10_isOfMask 12 = .ok (.bipush 15, 2) := by decide +kernel
theorem dX10_isOfMask_14 : decode cX10_isOfMask 14 = .ok (.invokestatic 87, 3) := by decide +kernel
theorem dX10_isOfMask_17 : decode cX10_isOfMask 17 = .ok (.ifCond .eq 7, 3) := by decide +kernel
theorem dX10_isOfMask_20 : decode cX10_isOfMask 20 = .ok (.iconst 1, 1) := by decide +kernel
theorem dX10_isOfMask_21 : decode cX10_isOfMask 21 = .ok (.goto 4, 3) := by decide +kernel
theorem dX10_isOfMask_24 : decode cX10_isOfMask 24 = .ok (.iconst 0, 1) := by decide +kernel
theorem dX10_isOfMask_25 : decode cX10_isOfMask 25 = .ok (.ireturn, 1) := by decide +kernel
theorem dX10_isSide_0 : decode cX10_isSide 0 = .ok (.iload_n 0, 1) := by decide +kernel
theorem dX10_isSide_1 : decode cX10_isSide 1 = .ok (.iconst 1, 1) := by decide +kernel
theorem dX10_isSide_2 : decode cX10_isSide 2 = .ok (.bipush 16, 2) := by decide +kernel
theorem dX10_isSide_4 : decode cX10_isSide 4 = .ok (.invokestatic 87, 3) := by decide +kernel
theorem dX10_isSide_7 : decode cX10_isSide 7 = .ok (.ireturn, 1) := by decide +kernel
theorem dX10_isEdge_0 : decode cX10_isEdge 0 = .ok (.iload_n 0, 1) := by decide +kernel
theorem dX10_isEdge_1 : decode cX10_isEdge 1 = .ok (.iconst 0, 1) := by decide +kernel
theorem dX10_isEdge_2 : decode cX10_isEdge 2 = .ok (.iconst 3, 1) := by decide +kernel
theorem dX10_isEdge_3 : decode cX10_isEdge 3 = .ok (.invokestatic 87, 3) := by decide +kernel
theorem dX10_isEdge_6 : decode cX10_isEdge 6 = .ok (.ireturn, 1) := by decide +kernel
theorem dX10_nearest_0 : decode cX10_nearest 0 = .ok (.lload_n 2, 1) := by decide +kernel
theorem dX10_nearest_1 : decode cX10_nearest 1 = .ok (.lconst 0, 1) := by decide +kernel
theorem dX10_nearest_2 : decode cX10_nearest 2 = .ok (.lcmp, 1) := by decide +kernel
theorem dX10_nearest_3 : decode cX10_nearest 3 = .ok (.ifCond .le 21, 3) := by decide +kernel
theorem dX10_nearest_6 : decode cX10_nearest 6 = .ok (.ldc2_w 297, 3) := by decide +kernel
theorem dX10_nearest_9 : decode cX10_nearest 9 = .ok (.lload_n 0, 1) := by decide +kernel
theorem dX10_nearest_10 : decode cX10_nearest 10 = .ok (.lmul, 1) := by decide +kernel
theorem dX10_nearest_11 : decode cX10_nearest 11 = .ok (.lload_n 2, 1) := by decide +kernel
theorem dX10_nearest_12 : decode cX10_nearest 12 = .ok (.ladd, 1) := by decide +kernel
theorem dX10_nearest_13 : decode cX10_nearest 13 = .ok (.ldc2_w 297, 3) := by decide +kernel
theorem dX10_nearest_16 : decode cX10_nearest 16 = .ok (.lload_n 2, 1) := by decide +kernel
theorem dX10_nearest_17 : decode cX10_nearest 17 = .ok (.lmul, 1) := by decide +kernel
theorem dX10_nearest_18 : decode cX10_nearest 18 = .ok (.invokestatic 299, 3) := by decide +kernel
theorem dX10_nearest_21 : decode cX10_nearest 21 = .ok (.goto 4, 3) := by decide +kernel
theorem dX10_nearest_24 : decode cX10_nearest 24 = .ok (.lconst 0, 1) := by decide +kernel
theorem dX10_nearest_25 : decode cX10_nearest 25 = .ok (.lreturn, 1) := by decide +kernel
theorem dX10_partOf_0 : decode cX10_partOf 0 = .ok (.iload_n 1, 1) := by decide +kernel
theorem dX10_partOf_1 : decode cX10_partOf 1 = .ok (.ifCond .lt 26, 3) := by decide +kernel
theorem dX10_partOf_4 : decode cX10_partOf 4 = .ok (.iload_n 1, 1) := by decide +kernel
theorem dX10_partOf_5 : decode cX10_partOf 5 = .ok (.aload_n 0, 1) := by decide +kernel
theorem dX10_partOf_6 : decode cX10_partOf 6 = .ok (.getfield 27, 3) := by decide +kernel
theorem dX10_partOf_9 : decode cX10_partOf 9 = .ok (.if_icmp .ge 18, 3) := by decide +kernel
theorem dX10_partOf_12 : decode cX10_partOf 12 = .ok (.iload_n 1, 1) := by decide +kernel
theorem dX10_partOf_13 : decode cX10_partOf 13 = .ok (.bipush 24, 2) := by decide +kernel
theorem dX10_partOf_15 : decode cX10_partOf 15 = .ok (.if_icmp .ge 12, 3) := by decide +kernel
theorem dX10_partOf_18 : decode cX10_partOf 18 = .ok (.aload_n 0, 1) := by decide +kernel
theorem dX10_partOf_19 : decode cX10_partOf 19 = .ok (.getfield 23, 3) := by decide +kernel
theorem dX10_partOf_22 : decode cX10_partOf 22 = .ok (.iload_n 1, 1) := by decide +kernel
theorem dX10_partOf_23 : decode cX10_partOf 23 = .ok (.aaload, 1) := by decide +kernel
theorem dX10_partOf_24 : decode cX10_partOf 24 = .ok (.goto 4, 3) := by decide +kernel
theorem dX10_partOf_27 : decode cX10_partOf 27 = .ok (.aconst_null, 1) := by decide +kernel
theorem dX10_partOf_28 : decode cX10_partOf 28 = .ok (.areturn, 1) := by decide +kernel
theorem dX10_isFilterTold_0 : decode cX10_isFilterTold 0 = .ok (.iload_n 1, 1) := by decide +kernel
theorem dX10_isFilterTold_1 : decode cX10_isFilterTold 1 = .ok (.tableswitch 154 0 8 #[51, 62, 51, 64, 94, 103, 111, 133, 111], 51) := by decide +kernel
theorem dX10_isFilterTold_52 : decode cX10_isFilterTold 52 = .ok (.iload_n 2, 1) := by decide +kernel
theorem dX10_isFilterTold_53 : decode cX10_isFilterTold 53 = .ok (.ldc_w 303, 3) := by decide +kernel
theorem dX10_isFilterTold_56 : decode cX10_isFilterTold 56 = .ok (.ldc_w 304, 3) := by decide +kernel
theorem dX10_isFilterTold_59 : decode cX10_isFilterTold 59 = .ok (.invokestatic 87, 3) := by decide +kernel
theorem dX10_isFilterTold_62 : decode cX10_isFilterTold 62 = .ok (.ireturn, 1) := by decide +kernel
theorem dX10_isFilterTold_63 : decode cX10_isFilterTold 63 = .ok (.iconst 1, 1) := by decide +kernel
theorem dX10_isFilterTold_64 : decode cX10_isFilterTold 64 = .ok (.ireturn, 1) := by decide +kernel
theorem dX10_isFilterTold_65 : decode cX10_isFilterTold 65 = .ok (.iload_n 2, 1) := by decide +kernel
theorem dX10_isFilterTold_66 : decode cX10_isFilterTold 66 = .ok (.ldc_w 303, 3) := by decide +kernel
theorem dX10_isFilterTold_69 : decode cX10_isFilterTold 69 = .ok (.ldc_w 304, 3) := by decide +kernel
theorem dX10_isFilterTold_72 : decode cX10_isFilterTold 72 = .ok (.invokestatic 87, 3) := by decide +kernel
theorem dX10_isFilterTold_75 : decode cX10_isFilterTold 75 = .ok (.ifCond .eq 18, 3) := by decide +kernel
theorem dX10_isFilterTold_78 : decode cX10_isFilterTold 78 = .ok (.iload_n 3, 1) := by decide +kernel
theorem dX10_isFilterTold_79 : decode cX10_isFilterTold 79 = .ok (.iconst 1, 1) := by decide +kernel
theorem dX10_isFilterTold_80 : decode cX10_isFilterTold 80 = .ok (.sipush 1000, 3) := by decide +kernel
theorem dX10_isFilterTold_83 : decode cX10_isFilterTold 83 = .ok (.invokestatic 87, 3) := by decide +kernel
theorem dX10_isFilterTold_86 : decode cX10_isFilterTold 86 = .ok (.ifCond .eq 7, 3) := by decide +kernel
theorem dX10_isFilterTold_89 : decode cX10_isFilterTold 89 = .ok (.iconst 1, 1) := by decide +kernel
theorem dX10_isFilterTold_90 : decode cX10_isFilterTold 90 = .ok (.goto 4, 3) := by decide +kernel
theorem dX10_isFilterTold_93 : decode cX10_isFilterTold 93 = .ok (.iconst 0, 1) := by decide +kernel
theorem dX10_isFilterTold_94 : decode cX10_isFilterTold 94 = .ok (.ireturn, 1) := by decide +kernel
theorem dX10_isFilterTold_95 : decode cX10_isFilterTold 95 = .ok (.iload_n 2, 1) := by decide +kernel
theorem dX10_isFilterTold_96 : decode cX10_isFilterTold 96 = .ok (.iconst 1, 1) := by decide +kernel
theorem dX10_isFilterTold_97 : decode cX10_isFilterTold 97 = .ok (.sipush 1000, 3) := by decide +kernel
theorem dX10_isFilterTold_100 : decode cX10_isFilterTold 100 = .ok (.invokestatic 87, 3) := by decide +kernel
theorem dX10_isFilterTold_103 : decode cX10_isFilterTold 103 = .ok (.ireturn, 1) := by decide +kernel
theorem dX10_isFilterTold_104 : decode cX10_isFilterTold 104 = .ok (.iload_n 2, 1) := by decide +kernel
theorem dX10_isFilterTold_105 : decode cX10_isFilterTold 105 = .ok (.iconst 0, 1) := by decide +kernel
theorem dX10_isFilterTold_106 : decode cX10_isFilterTold 106 = .ok (.bipush 8, 2) := by decide +kernel
theorem dX10_isFilterTold_108 : decode cX10_isFilterTold 108 = .ok (.invokestatic 87, 3) := by decide +kernel
theorem dX10_isFilterTold_111 : decode cX10_isFilterTold 111 = .ok (.ireturn, 1) := by decide +kernel
theorem dX10_isFilterTold_112 : decode cX10_isFilterTold 112 = .ok (.aload_n 0, 1) := by decide +kernel
theorem dX10_isFilterTold_113 : decode cX10_isFilterTold 113 = .ok (.iload_n 2, 1) := by decide +kernel
theorem dX10_isFilterTold_114 : decode cX10_isFilterTold 114 = .ok (.invokevirtual 182, 3) := by decide +kernel
theorem dX10_isFilterTold_117 : decode cX10_isFilterTold 117 = .ok (.ifnull 15, 3) := by decide +kernel
theorem dX10_isFilterTold_120 : decode cX10_isFilterTold 120 = .ok (.aload_n 0, 1) := by decide +kernel
theorem dX10_isFilterTold_121 : decode cX10_isFilterTold 121 = .ok (.iload_n 3, 1) := by decide +kernel
theorem dX10_isFilterTold_122 : decode cX10_isFilterTold 122 = .ok (.invokevirtual 182, 3) := by decide +kernel
theorem dX10_isFilterTold_125 : decode cX10_isFilterTold 125 = .ok (.ifnull 7, 3) := by decide +kernel
theorem dX10_isFilterTold_128 : decode cX10_isFilterTold 128 = .ok (.iconst 1, 1) := by decide +kernel
theorem dX10_isFilterTold_129 : decode cX10_isFilterTold 129 = .ok (.goto 4, 3) := by decide +kernel
theorem dX10_isFilterTold_132 : decode cX10_isFilterTold 132 = .ok (.iconst 0, 1) := by decide +kernel
theorem dX10_isFilterTold_133 : decode cX10_isFilterTold 133 = .ok (.ireturn, 1) := by decide +kernel
theorem dX10_isFilterTold_134 : decode cX10_isFilterTold 134 = .ok (.iload_n 2, 1) := by decide +kernel
theorem dX10_isFilterTold_135 : decode cX10_isFilterTold 135 = .ok (.invokestatic 209, 3) := by decide +kernel
theorem dX10_isFilterTold_138 : decode cX10_isFilterTold 138 = .ok (.ifCond .eq 15, 3) := by decide +kernel
theorem dX10_isFilterTold_141 : decode cX10_isFilterTold 141 = .ok (.aload_n 0, 1) := by decide +kernel
theorem dX10_isFilterTold_142 : decode cX10_isFilterTold 142 = .ok (.iload_n 3, 1) := by decide +kernel
theorem dX10_isFilterTold_143 : decode cX10_isFilterTold 143 = .ok (.invokevirtual 182, 3) := by decide +kernel
theorem dX10_isFilterTold_146 : decode cX10_isFilterTold 146 = .ok (.ifnull 7, 3) := by decide +kernel
theorem dX10_isFilterTold_149 : decode cX10_isFilterTold 149 = .ok (.iconst 1, 1) := by decide +kernel
theorem dX10_isFilterTold_150 : decode cX10_isFilterTold 150 = .ok (.goto 4, 3) := by decide +kernel
theorem dX10_isFilterTold_153 : decode cX10_isFilterTold 153 = .ok (.iconst 0, 1) := by decide +kernel
theorem dX10_isFilterTold_154 : decode cX10_isFilterTold 154 = .ok (.ireturn, 1) := by decide +kernel
theorem dX10_isFilterTold_155 : decode cX10_isFilterTold 155 = .ok (.iconst 0, 1) := by decide +kernel
theorem dX10_isFilterTold_156 : decode cX10_isFilterTold 156 = .ok (.ireturn, 1) := by decide +kernel
theorem dX10_standingPictures_0 : decode cX10_standingPictures 0 = .ok (.iconst 0, 1) := by decide +kernel
theorem dX10_standingPictures_1 : decode cX10_standingPictures 1 = .ok (.istore_n 1, 1) := by decide +kernel
theorem dX10_standingPictures_2 : decode cX10_standingPictures 2 = .ok (.iconst 0, 1) := by decide +kernel
theorem dX10_standingPictures_3 : decode cX10_standingPictures 3 = .ok (.istore_n 2, 1) := by decide +kernel
theorem dX10_standingPictures_4 : decode cX10_standingPictures 4 = .ok (.iload_n 2, 1) := by decide +kernel
theorem dX10_standingPictures_5 : decode cX10_standingPictures 5 = .ok (.bipush 8, 2) := by decide +kernel
theorem dX10_standingPictures_7 : decode cX10_standingPictures 7 = .ok (.if_icmp .ge 29, 3) := by decide +kernel
theorem dX10_standingPictures_10 : decode cX10_standingPictures 10 = .ok (.iload_n 1, 1) := by decide +kernel
theorem dX10_standingPictures_11 : decode cX10_standingPictures 11 = .ok (.aload_n 0, 1) := by decide +kernel
theorem dX10_standingPictures_12 : decode cX10_standingPictures 12 = .ok (.getfield 11, 3) := by decide +kernel
theorem dX10_standingPictures_15 : decode cX10_standingPictures 15 = .ok (.iload_n 2, 1) := by decide +kernel
theorem dX10_standingPictures_16 : decode cX10_standingPictures 16 = .ok (.aaload, 1) := by decide +kernel
theorem dX10_standingPictures_17 : decode cX10_standingPictures 17 = .ok (.invokevirtual 140, 3) := by decide +kernel
theorem dX10_standingPictures_20 : decode cX10_standingPictures 20 = .ok (.ifCond .eq 7, 3) := by decide +kernel
theorem dX10_standingPictures_23 : decode cX10_standingPictures 23 = .ok (.iconst 0, 1) := by decide +kernel
theorem dX10_standingPictures_24 : decode cX10_standingPictures 24 = .ok (.goto 4, 3) := by decide +kernel
theorem dX10_standingPictures_27 : decode cX10_standingPictures 27 = .ok (.iconst 1, 1) := by decide +kernel
theorem dX10_standingPictures_28 : decode cX10_standingPictures 28 = .ok (.iadd, 1) := by decide +kernel
theorem dX10_standingPictures_29 : decode cX10_standingPictures 29 = .ok (.istore_n 1, 1) := by decide +kernel
theorem dX10_standingPictures_30 : decode cX10_standingPictures 30 = .ok (.iinc 2 1, 3) := by decide +kernel
theorem dX10_standingPictures_33 : decode cX10_standingPictures 33 = .ok (.goto (-29), 3) := by decide +kernel
theorem dX10_standingPictures_36 : decode cX10_standingPictures 36 = .ok (.iload_n 1, 1) := by decide +kernel
theorem dX10_standingPictures_37 : decode cX10_standingPictures 37 = .ok (.ireturn, 1) := by decide +kernel
theorem dX10_keepPicture_0 : decode cX10_keepPicture 0 = .ok (.iload_n 1, 1) := by decide +kernel
theorem dX10_keepPicture_1 : decode cX10_keepPicture 1 = .ok (.invokestatic 83, 3) := by decide +kernel
theorem dX10_keepPicture_4 : decode cX10_keepPicture 4 = .ok (.ifCond .ne 4, 3) := by decide +kernel
theorem dX10_keepPicture_7 : decode cX10_keepPicture 7 = .ok (.return_, 1) := by decide +kernel
theorem dX10_keepPicture_8 : decode cX10_keepPicture 8 = .ok (.aload_n 0, 1) := by decide +kernel
theorem dX10_keepPicture_9 : decode cX10_keepPicture 9 = .ok (.getfield 44, 3) := by decide +kernel
theorem dX10_keepPicture_12 : decode cX10_keepPicture 12 = .ok (.invokevirtual 305, 3) := by decide +kernel
theorem dX10_keepPicture_15 : decode cX10_keepPicture 15 = .ok (.astore_n 2, 1) := by decide +kernel
theorem dX10_keepPicture_16 : decode cX10_keepPicture 16 = .ok (.aload_n 2, 1) := by decide +kernel
theorem dX10_keepPicture_17 : decode cX10_keepPicture 17 = .ok (.iconst 0, 1) := by decide +kernel
theorem dX10_keepPicture_18 : decode cX10_keepPicture 18 = .ok (.putfield 308, 3) := by decide +kernel
theorem dX10_keepPicture_21 : decode cX10_keepPicture 21 = .ok (.aload_n 2, 1) := by decide +kernel
theorem dX10_keepPicture_22 : decode cX10_keepPicture 22 = .ok (.iload_n 1, 1) := by decide +kernel
theorem dX10_keepPicture_23 : decode cX10_keepPicture 23 = .ok (.putfield 314, 3) := by decide +kernel
theorem dX10_keepPicture_26 : decode cX10_keepPicture 26 = .ok (.aload_n 2, 1) := by decide +kernel
theorem dX10_keepPicture_27 : decode cX10_keepPicture 27 = .ok (.getfield 317, 3) := by decide +kernel
theorem dX10_keepPicture_30 : decode cX10_keepPicture 30 = .ok (.astore_n 3, 1) := by decide +kernel
theorem dX10_keepPicture_31 : decode cX10_keepPicture 31 = .ok (.aload_n 2, 1) := by decide +kernel
theorem dX10_keepPicture_32 : decode cX10_keepPicture 32 = .ok (.aload_n 0, 1) := by decide +kernel
theorem dX10_keepPicture_33 : decode cX10_keepPicture 33 = .ok (.getfield 11, 3) := by decide +kernel
theorem dX10_keepPicture_36 : decode cX10_keepPicture 36 = .ok (.iload_n 1, 1) := by decide +kernel
theorem dX10_keepPicture_37 : decode cX10_keepPicture 37 = .ok (.aaload, 1) := by decide +kernel
theorem dX10_keepPicture_38 : decode cX10_keepPicture 38 = .ok (.putfield 317, 3) := by decide +kernel
theorem dX10_keepPicture_41 : decode cX10_keepPicture 41 = .ok (.aload_n 0, 1) := by decide +kernel
theorem dX10_keepPicture_42 : decode cX10_keepPicture 42 = .ok (.getfield 11, 3) := by decide +kernel
theorem dX10_keepPicture_45 : decode cX10_keepPicture 45 = .ok (.iload_n 1, 1) := by decide +kernel
theorem dX10_keepPicture_46 : decode cX10_keepPicture 46 = .ok (.aload_n 0, 1) := by decide +kernel
theorem dX10_keepPicture_47 : decode cX10_keepPicture 47 = .ok (.getfield 32, 3) := by decide +kernel
theorem dX10_keepPicture_50 : decode cX10_keepPicture 50 = .ok (.aastore, 1) := by decide +kernel
theorem dX10_keepPicture_51 : decode cX10_keepPicture 51 = .ok (.aload_n 0, 1) := by decide +kernel
theorem dX10_keepPicture_52 : decode cX10_keepPicture 52 = .ok (.aload_n 3, 1) := by decide +kernel
theorem dX10_keepPicture_53 : decode cX10_keepPicture 53 = .ok (.putfield 32, 3) := by decide +kernel
theorem dX10_keepPicture_56 : decode cX10_keepPicture 56 = .ok (.return_, 1) := by decide +kernel
theorem dX10_keepMask_0 : decode cX10_keepMask 0 = .ok (.iload_n 1, 1) := by decide +kernel
theorem dX10_keepMask_1 : decode cX10_keepMask 1 = .ok (.invokestatic 209, 3) := by decide +kernel
theorem dX10_keepMask_4 : decode cX10_keepMask 4 = .ok (.ifCond .ne 4, 3) := by decide +kernel
theorem dX10_keepMask_7 : decode cX10_keepMask 7 = .ok (.return_, 1) := by decide +kernel
theorem dX10_keepMask_8 : decode cX10_keepMask 8 = .ok (.aload_n 0, 1) := by decide +kernel
theorem dX10_keepMask_9 : decode cX10_keepMask 9 = .ok (.getfield 44, 3) := by decide +kernel
theorem dX10_keepMask_12 : decode cX10_keepMask 12 = .ok (.invokevirtual 305, 3) := by decide +kernel
theorem dX10_keepMask_15 : decode cX10_keepMask 15 = .ok (.astore_n 2, 1) := by decide +kernel
theorem dX10_keepMask_16 : decode cX10_keepMask 16 = .ok (.aload_n 2, 1) := by decide +kernel
theorem dX10_keepMask_17 : decode cX10_keepMask 17 = .ok (.iconst 1, 1) := by decide +kernel
theorem dX10_keepMask_18 : decode cX10_keepMask 18 = .ok (.putfield 308, 3) := by decide +kernel
theorem dX10_keepMask_21 : decode cX10_keepMask 21 = .ok (.aload_n 2, 1) := by decide +kernel
theorem dX10_keepMask_22 : decode cX10_keepMask 22 = .ok (.iload_n 1, 1) := by decide +kernel
theorem dX10_keepMask_23 : decode cX10_keepMask 23 = .ok (.putfield 314, 3) := by decide +kernel
theorem dX10_keepMask_26 : decode cX10_keepMask 26 = .ok (.aload_n 2, 1) := by decide +kernel
theorem dX10_keepMask_27 : decode cX10_keepMask 27 = .ok (.getfield 320, 3) := by decide +kernel
theorem dX10_keepMask_30 : decode cX10_keepMask 30 = .ok (.astore_n 3, 1) := by decide +kernel
theorem dX10_keepMask_31 : decode cX10_keepMask 31 = .ok (.aload_n 2, 1) := by decide +kernel
theorem dX10_keepMask_32 : decode cX10_keepMask 32 = .ok (.aload_n 0, 1) := by decide +kernel
theorem dX10_keepMask_33 : decode cX10_keepMask 33 = .ok (.getfield 17, 3) := by decide +kernel
theorem dX10_keepMask_36 : decode cX10_keepMask 36 = .ok (.iload_n 1, 1) := by decide +kernel
theorem dX10_keepMask_37 : decode cX10_keepMask 37 = .ok (.aaload, 1) := by decide +kernel
theorem dX10_keepMask_38 : decode cX10_keepMask 38 = .ok (.putfield 320, 3) := by decide +kernel
theorem dX10_keepMask_41 : decode cX10_keepMask 41 = .ok (.aload_n 0, 1) := by decide +kernel
theorem dX10_keepMask_42 : decode cX10_keepMask 42 = .ok (.getfield 17, 3) := by decide +kernel
theorem dX10_keepMask_45 : decode cX10_keepMask 45 = .ok (.iload_n 1, 1) := by decide +kernel
theorem dX10_keepMask_46 : decode cX10_keepMask 46 = .ok (.aload_n 0, 1) := by decide +kernel
theorem dX10_keepMask_47 : decode cX10_keepMask 47 = .ok (.getfield 37, 3) := by decide +kernel
theorem dX10_keepMask_50 : decode cX10_keepMask 50 = .ok (.aastore, 1) := by decide +kernel
theorem dX10_keepMask_51 : decode cX10_keepMask 51 = .ok (.aload_n 0, 1) := by decide +kernel
theorem dX10_keepMask_52 : decode cX10_keepMask 52 = .ok (.aload_n 3, 1) := by decide +kernel
theorem dX10_keepMask_53 : decode cX10_keepMask 53 = .ok (.putfield 37, 3) := by decide +kernel
theorem dX10_keepMask_56 : decode cX10_keepMask 56 = .ok (.return_, 1) := by decide +kernel
theorem dX10_exchange_0 : decode cX10_exchange 0 = .ok (.aload_n 1, 1) := by decide +kernel
theorem dX10_exchange_1 : decode cX10_exchange 1 = .ok (.getfield 308, 3) := by decide +kernel
theorem dX10_exchange_4 : decode cX10_exchange 4 = .ok (.ifCond .eq 44, 3) := by decide +kernel
theorem dX10_exchange_7 : decode cX10_exchange 7 = .ok (.aload_n 1, 1) := by decide +kernel
theorem dX10_exchange_8 : decode cX10_exchange 8 = .ok (.getfield 314, 3) := by decide +kernel
theorem dX10_exchange_11 : decode cX10_exchange 11 = .ok (.invokestatic 209, 3) := by decide +kernel
theorem dX10_exchange_14 : decode cX10_exchange 14 = .ok (.ifCond .eq 34, 3) := by decide +kernel
theorem dX10_exchange_17 : decode cX10_exchange 17 = .ok (.aload_n 0, 1) := by decide +kernel
theorem dX10_exchange_18 : decode cX10_exchange 18 = .ok (.getfield 17, 3) := by decide +kernel
theorem dX10_exchange_21 : decode cX10_exchange 21 = .ok (.aload_n 1, 1) := by decide +kernel
theorem dX10_exchange_22 : decode cX10_exchange 22 = .ok (.getfield 314, 3) := by decide +kernel
theorem dX10_exchange_25 : decode cX10_exchange 25 = .ok (.aaload, 1) := by decide +kernel
theorem dX10_exchange_26 : decode cX10_exchange 26 = .ok (.astore_n 2, 1) := by decide +kernel
theorem dX10_exchange_27 : decode cX10_exchange 27 = .ok (.aload_n 0, 1) := by decide +kernel
theorem dX10_exchange_28 : decode cX10_exchange 28 = .ok (.getfield 17, 3) := by decide +kernel
theorem dX10_exchange_31 : decode cX10_exchange 31 = .ok (.aload_n 1, 1) := by decide +kernel
theorem dX10_exchange_32 : decode cX10_exchange 32 = .ok (.getfield 314, 3) := by decide +kernel
theorem dX10_exchange_35 : decode cX10_exchange 35 = .ok (.aload_n 1, 1) := by decide +kernel
theorem dX10_exchange_36 : decode cX10_exchange 36 = .ok (.getfield 320, 3) := by decide +kernel
theorem dX10_exchange_39 : decode cX10_exchange 39 = .ok (.aastore, 1) := by decide +kernel
theorem dX10_exchange_40 : decode cX10_exchange 40 = .ok (.aload_n 1, 1) := by decide +kernel
theorem dX10_exchange_41 : decode cX10_exchange 41 = .ok (.aload_n 2, 1) := by decide +kernel
theorem dX10_exchange_42 : decode cX10_exchange 42 = .ok (.putfield 320, 3) := by decide +kernel
theorem dX10_exchange_45 : decode cX10_exchange 45 = .ok (.goto 48, 3) := by decide +kernel
theorem dX10_exchange_48 : decode cX10_exchange 48 = .ok (.aload_n 1, 1) := by decide +kernel
theorem dX10_exchange_49 : decode cX10_exchange 49 = .ok (.getfield 308, 3) := by decide +kernel
theorem dX10_exchange_52 : decode cX10_exchange 52 = .ok (.ifCond .ne 41, 3) := by decide +kernel
theorem dX10_exchange_55 : decode cX10_exchange 55 = .ok (.aload_n 1, 1) := by decide +kernel
theorem dX10_exchange_56 : decode cX10_exchange 56 = .ok (.getfield 314, 3) := by decide +kernel
theorem dX10_exchange_59 : decode cX10_exchange 59 = .ok (.invokestatic 83, 3) := by decide +kernel
theorem dX10_exchange_62 : decode cX10_exchange 62 = .ok (.ifCond .eq 31, 3) := by decide +kernel
theorem dX10_exchange_65 : decode cX10_exchange 65 = .ok (.aload_n 0, 1) := by decide +kernel
theorem dX10_exchange_66 : decode cX10_exchange 66 = .ok (.getfield 11, 3) := by decide +kernel
theorem dX10_exchange_69 : decode cX10_exchange 69 = .ok (.aload_n 1, 1) := by decide +kernel
theorem dX10_exchange_70 : decode cX10_exchange 70 = .ok (.getfield 314, 3) := by decide +kernel
theorem dX10_exchange_73 : decode cX10_exchange 73 = .ok (.aaload, 1) := by decide +kernel
theorem dX10_exchange_74 : decode cX10_exchange 74 = .ok (.astore_n 2, 1) := by decide +kernel
theorem dX10_exchange_75 : decode cX10_exchange 75 = .ok (.aload_n 0, 1) := by decide +kernel
theorem dX10_exchange_76 : decode cX10_exchange 76 = .ok (.getfield 11, 3) := by decide +kernel
theorem dX10_exchange_79 : decode cX10_exchange 79 = .ok (.aload_n 1, 1) := by decide +kernel
theorem dX10_exchange_80 : decode cX10_exchange 80 = .ok (.getfield 314, 3) := by decide +kernel
theorem dX10_exchange_83 : decode cX10_exchange 83 = .ok (.aload_n 1, 1) := by decide +kernel
theorem dX10_exchange_84 : decode cX10_exchange 84 = .ok (.getfield 317, 3) := by decide +kernel
theorem dX10_exchange_87 : decode cX10_exchange 87 = .ok (.aastore, 1) := by decide +kernel
theorem dX10_exchange_88 : decode cX10_exchange 88 = .ok (.aload_n 1, 1) := by decide +kernel
theorem dX10_exchange_89 : decode cX10_exchange 89 = .ok (.aload_n 2, 1) := by decide +kernel
theorem dX10_exchange_90 : decode cX10_exchange 90 = .ok (.putfield 317, 3) := by decide +kernel
theorem dX10_exchange_93 : decode cX10_exchange 93 = .ok (.return_, 1) := by decide +kernel
theorem dX11_init_0 : decode cX11_init 0 = .ok (.aload_n 0, 1) := by decide +kernel
theorem dX11_init_1 : decode cX11_init 1 = .ok (.invokespecial 1, 3) := by decide +kernel
theorem dX11_init_4 : decode cX11_init 4 = .ok (.aload_n 0, 1) := by decide +kernel
theorem dX11_init_5 : decode cX11_init 5 = .ok (.sipush 3608, 3) := by decide +kernel
theorem dX11_init_8 : decode cX11_init 8 = .ok (.newarray .int, 2) := by decide +kernel
theorem dX11_init_10 : decode cX11_init 10 = .ok (.putfield 7, 3) := by decide +kernel
theorem dX11_init_13 : decode cX11_init 13 = .ok (.aload_n 0, 1) := by decide +kernel
theorem dX11_init_14 : decode cX11_init 14 = .ok (.ldc 13, 2) := by decide +kernel
theorem dX11_init_16 : decode cX11_init 16 = .ok (.newarray .int, 2) := by decide +kernel
theorem dX11_init_18 : decode cX11_init 18 = .ok (.putfield 14, 3) := by decide +kernel
theorem dX11_init_21 : decode cX11_init 21 = .ok (.aload_n 0, 1) := by decide +kernel
theorem dX11_init_22 : decode cX11_init 22 = .ok (.bipush 24, 2) := by decide +kernel
theorem dX11_init_24 : decode cX11_init 24 = .ok (.newarray .int, 2) := by decide +kernel
theorem dX11_init_26 : decode cX11_init 26 = .ok (.putfield 17, 3) := by decide +kernel
theorem dX11_init_29 : decode cX11_init 29 = .ok (.aload_n 0, 1) := by decide +kernel
theorem dX11_init_30 : decode cX11_init 30 = .ok (.bipush 24, 2) := by decide +kernel
theorem dX11_init_32 : decode cX11_init 32 = .ok (.newarray .int, 2) := by decide +kernel
theorem dX11_init_34 : decode cX11_init 34 = .ok (.putfield 20, 3) := by decide +kernel
theorem dX11_init_37 : decode cX11_init 37 = .ok (.aload_n 0, 1) := by decide +kernel
theorem dX11_init_38 : decode cX11_init 38 = .ok (.bipush 24, 2) := by decide +kernel
theorem dX11_init_40 : decode cX11_init 40 = .ok (.newarray .int, 2) := by decide +kernel
theorem dX11_init_42 : decode cX11_init 42 = .ok (.putfield 23, 3) := by decide +kernel
theorem dX11_init_45 : decode cX11_init 45 = .ok (.aload_n 0, 1) := by decide +kernel
theorem dX11_init_46 : decode cX11_init 46 = .ok (.bipush 24, 2) := by decide +kernel
theorem dX11_init_48 : decode cX11_init 48 = .ok (.newarray .int, 2) := by decide +kernel
theorem dX11_init_50 : decode cX11_init 50 = .ok (.putfield 26, 3) := by decide +kernel
theorem dX11_init_53 : decode cX11_init 53 = .ok (.aload_n 0, 1) := by decide +kernel
theorem dX11_init_54 : decode cX11_init 54 = .ok (.sipush 216, 3) := by decide +kernel
theorem dX11_init_57 : decode cX11_init 57 = .ok (.newarray .int, 2) := by decide +kernel
theorem dX11_init_59 : decode cX11_init 59 = .ok (.putfield 29, 3) := by decide +kernel
theorem dX11_init_62 : decode cX11_init 62 = .ok (.aload_n 0, 1) := by decide +kernel
theorem dX11_init_63 : decode cX11_init 63 = .ok (.sipush 800, 3) := by decide +kernel
theorem dX11_init_66 : decode cX11_init 66 = .ok (.newarray .int, 2) := by decide +kernel
theorem dX11_init_68 : decode cX11_init 68 = .ok (.putfield 32, 3) := by decide +kernel
theorem dX11_init_71 : decode cX11_init 71 = .ok (.aload_n 0, 1) := by decide +kernel
theorem dX11_init_72 : decode cX11_init 72 = .ok (.sipush 256, 3) := by decide +kernel
theorem dX11_init_75 : decode cX11_init 75 = .ok (.newarray .int, 2) := by decide +kernel
theorem dX11_init_77 : decode cX11_init 77 = .ok (.putfield 35, 3) := by decide +kernel
theorem dX11_init_80 : decode cX11_init 80 = .ok (.aload_n 0, 1) := by decide +kernel
theorem dX11_init_81 : decode cX11_init 81 = .ok (.iconst 4, 1) := by decide +kernel
theorem dX11_init_82 : decode cX11_init 82 = .ok (.newarray .int, 2) := by decide +kernel
theorem dX11_init_84 : decode cX11_init 84 = .ok (.putfield 38, 3) := by decide +kernel
theorem dX11_init_87 : decode cX11_init 87 = .ok (.aload_n 0, 1) := by decide +kernel
theorem dX11_init_88 : decode cX11_init 88 = .ok (.iconst 4, 1) := by decide +kernel
theorem dX11_init_89 : decode cX11_init 89 = .ok (.newarray .int, 2) := by decide +kernel
theorem dX11_init_91 : decode cX11_init 91 = .ok (.putfield 41, 3) := by decide +kernel
theorem dX11_init_94 : decode cX11_init 94 = .ok (.aload_n 0, 1) := by decide +kernel
theorem dX11_init_95 : decode cX11_init 95 = .ok (.sipush 1024, 3) := by decide +kernel
theorem dX11_init_98 : decode cX11_init 98 = .ok (.newarray .int, 2) := by decide +kernel
theorem dX11_init_100 : decode cX11_init 100 = .ok (.putfield 44, 3) := by decide +kernel
theorem dX11_init_103 : decode cX11_init 103 = .ok (.aload_n 0, 1) := by decide +kernel
theorem dX11_init_104 : decode cX11_init 104 = .ok (.sipush 1024, 3) := by decide +kernel
theorem dX11_init_107 : decode cX11_init 107 = .ok (.newarray .int, 2) := by decide +kernel
theorem dX11_init_109 : decode cX11_init 109 = .ok (.putfield 47, 3) := by decide +kernel
theorem dX11_init_112 : decode cX11_init 112 = .ok (.aload_n 0, 1) := by decide +kernel
theorem dX11_init_113 : decode cX11_init 113 = .ok (.sipush 256, 3) := by decide +kernel
theorem dX11_init_116 : decode cX11_init 116 = .ok (.newarray .int, 2) := by decide +kernel
theorem dX11_init_118 : decode cX11_init 118 = .ok (.putfield 50, 3) := by decide +kernel
theorem dX11_init_121 : decode cX11_init 121 = .ok (.aload_n 0, 1) := by decide +kernel
theorem dX11_init_122 : decode cX11_init 122 = .ok (.bipush 9, 2) := by decide +kernel
theorem dX11_init_124 : decode cX11_init 124 = .ok (.newarray .int, 2) := by decide +kernel
theorem dX11_init_126 : decode cX11_init 126 = .ok (.putfield 53, 3) := by decide +kernel
theorem dX11_init_129 : decode cX11_init 129 = .ok (.aload_n 0, 1) := by decide +kernel
theorem dX11_init_130 : decode cX11_init 130 = .ok (.sipush 256, 3) := by decide +kernel
theorem dX11_init_133 : decode cX11_init 133 = .ok (.newarray .boolean, 2) := by decide +kernel
theorem dX11_init_135 : decode cX11_init 135 = .ok (.putfield 56, 3) := by decide +kernel
theorem dX11_init_138 : decode cX11_init 138 = .ok (.aload_n 0, 1) := by decide +kernel
theorem dX11_init_139 : decode cX11_init 139 = .ok (.sipush 256, 3) := by decide +kernel
theorem dX11_init_142 : decode cX11_init 142 = .ok (.newarray .int, 2) := by decide +kernel
theorem dX11_init_144 : decode cX11_init 144 = .ok (.putfield 60, 3) := by decide +kernel
theorem dX11_init_147 : decode cX11_init 147 = .ok (.aload_n 0, 1) := by decide +kernel
theorem dX11_init_148 : decode cX11_init 148 = .ok (.bipush 16, 2) := by decide +kernel
theorem dX11_init_150 : decode cX11_init 150 = .ok (.newarray .int, 2) := by decide +kernel
theorem dX11_init_152 : decode cX11_init 152 = .ok (.putfield 63, 3) := by decide +kernel
theorem dX11_init_155 : decode cX11_init 155 = .ok (.aload_n 0, 1) := by decide +kernel
theorem dX11_init_156 : decode cX11_init 156 = .ok (.sipush 800, 3) := by decide +kernel
theorem dX11_init_159 : decode cX11_init 159 = .ok (.newarray .int, 2) := by decide +kernel
theorem dX11_init_161 : decode cX11_init 161 = .ok (.putfield 66, 3) := by decide +kernel
theorem dX11_init_164 : decode cX11_init 164 = .ok (.iconst 0, 1) := by decide +kernel
theorem dX11_init_165 : decode cX11_init 165 = .ok (.istore_n 1, 1) := by decide +kernel
theorem dX11_init_166 : decode cX11_init 166 = .ok (.iload_n 1, 1) := by decide +kernel
theorem dX11_init_167 : decode cX11_init 167 = .ok (.bipush 8, 2) := by decide +kernel
theorem dX11_init_169 : decode cX11_init 169 = .ok (.if_icmp .ge 20, 3) := by decide +kernel
theorem dX11_init_172 : decode cX11_init 172 = .ok (.aload_n 0, 1) := by decide +kernel
theorem dX11_init_173 : decode cX11_init 173 = .ok (.getfield 7, 3) := by decide +kernel
theorem dX11_init_176 : decode cX11_init 176 = .ok (.sipush 259, 3) := by decide +kernel
theorem dX11_init_179 : decode cX11_init 179 = .ok (.iload_n 1, 1) := by decide +kernel
theorem dX11_init_180 : decode cX11_init 180 = .ok (.imul, 1) := by decide +kernel
theorem dX11_init_181 : decode cX11_init 181 = .ok (.iconst (-1), 1) := by decide +kernel
theorem dX11_init_182 : decode cX11_init 182 = .ok (.iastore, 1) := by decide +kernel
theorem dX11_init_183 : decode cX11_init 183 = .ok (.iinc 1 1, 3) := by decide +kernel
theorem dX11_init_186 : decode cX11_init 186 = .ok (.goto (-20), 3) := by decide +kernel
theorem dX11_init_189 : decode cX11_init 189 = .ok (.return_, 1) := by decide +kernel
theorem dX11_in_0 : decode cX11_in 0 = .ok (.lload_n 0, 1) := by decide +kernel
theorem dX11_in_1 : decode cX11_in 1 = .ok (.lload_n 2, 1) := by decide +kernel
theorem dX11_in_2 : decode cX11_in 2 = .ok (.lcmp, 1) := by decide +kernel
theorem dX11_in_3 : decode cX11_in 3 = .ok (.ifCond .lt 14, 3) := by decide +kernel
theorem dX11_in_6 : decode cX11_in 6 = .ok (.lload_n 0, 1) := by decide +kernel
theorem dX11_in_7 : decode cX11_in 7 = .ok (.lload 4, 2) := by decide +kernel
theorem dX11_in_9 : decode cX11_in 9 = .ok (.lcmp, 1) := by decide +kernel
theorem dX11_in_10 : decode cX11_in 10 = .ok (.ifCond .gt 7, 3) := by decide +kernel
theorem dX11_in_13 : decode cX11_in 13 = .ok (.iconst 1, 1) := by decide +kernel
theorem dX11_in_14 : decode cX11_in 14 = .ok (.goto 4, 3) := by decide +kernel
theorem dX11_in_17 : decode cX11_in 17 = .ok (.iconst 0, 1) := by decide +kernel
theorem dX11_in_18 : decode cX11_in 18 = .ok (.ireturn, 1) := by decide +kernel
theorem dX11_isPicture_0 : decode cX11_isPicture 0 = .ok (.iload_n 0, 1) := by decide +kernel
theorem dX11_isPicture_1 : decode cX11_isPicture 1 = .ok (.i2l, 1) := by decide +kernel
theorem dX11_isPicture_2 : decode cX11_isPicture 2 = .ok (.lconst 0, 1) := by decide +kernel
theorem dX11_isPicture_3 : decode cX11_isPicture 3 = .ok (.ldc2_w 69, 3) := by decide +kernel
theorem dX11_isPicture_6 : decode cX11_isPicture 6 = .ok (.invokestatic 71, 3) := by decide +kernel
theorem dX11_isPicture_9 : decode cX11_isPicture 9 = .ok (.ireturn, 1) := by decide +kernel
theorem dX11_isThere_0 : decode cX11_isThere 0 = .ok (.aload_n 0, 1) := by decide +kernel
theorem dX11_isThere_1 : decode cX11_isThere 1 = .ok (.getfield 7, 3) := by decide +kernel
theorem dX11_isThere_4 : decode cX11_isThere 4 = .ok (.sipush 259, 3) := by decide +kernel
theorem dX11_isThere_7 : decode cX11_isThere 7 = .ok (.iload_n 1, 1) := by decide +kernel
theorem dX11_isThere_8 : decode cX11_isThere 8 = .ok (.imul, 1) := by decide +kernel
theorem dX11_isThere_9 : decode cX11_isThere 9 = .ok (.iaload, 1) := by decide +kernel
theorem dX11_isThere_10 : decode cX11_isThere 10 = .ok (.ifCond .lt 7, 3) := by decide +kernel
theorem dX11_isThere_13 : decode cX11_isThere 13 = .ok (.iconst 1, 1) := by decide +kernel
theorem dX11_isThere_14 : decode cX11_isThere 14 = .ok (.goto 4, 3) := by decide +kernel
theorem dX11_isThere_17 : decode cX11_isThere 17 = .ok (.iconst 0, 1) := by decide +kernel
theorem dX11_isThere_18 : decode cX11_isThere 18 = .ok (.ireturn, 1) := by decide +kernel
theorem dX11_kindOf_0 : decode cX11_kindOf 0 = .ok (.aload_n 0, 1) := by decide +kernel
theorem dX11_kindOf_1 : decode cX11_kindOf 1 = .ok (.getfield 7, 3) := by decide +kernel
theorem dX11_kindOf_4 : decode cX11_kindOf 4 = .ok (.sipush 259, 3) := by decide +kernel
theorem dX11_kindOf_7 : decode cX11_kindOf 7 = .ok (.iload_n 1, 1) := by decide +kernel
theorem dX11_kindOf_8 : decode cX11_kindOf 8 = .ok (.imul, 1) := by decide +kernel
theorem dX11_kindOf_9 : decode cX11_kindOf 9 = .ok (.iaload, 1) := by decide +kernel
theorem dX11_kindOf_10 : decode cX11_kindOf 10 = .ok (.ireturn, 1) := by decide +kernel
theorem dX11_wide_0 : decode cX11_wide 0 = .ok (.aload_n 0, 1) := by decide +kernel
theorem dX11_wide_1 : decode cX11_wide 1 = .ok (.getfield 7, 3) := by decide +kernel
theorem dX11_wide_4 : decode cX11_wide 4 = .ok (.sipush 259, 3) := by decide +kernel
theorem dX11_wide_7 : decode cX11_wide 7 = .ok (.iload_n 1, 1) := by decide +kernel
theorem dX11_wide_8 : decode cX11_wide 8 = .ok (.imul, 1) := by decide +kernel
theorem dX11_wide_9 : decode cX11_wide 9 = .ok (.iconst 1, 1) := by decide +kernel
theorem dX11_wide_10 : decode cX11_wide 10 = .ok (.iadd, 1) := by decide +kernel
theorem dX11_wide_11 : decode cX11_wide 11 = .ok (.iaload, 1) := by decide +kernel
theorem dX11_wide_12 : decode cX11_wide 12 = .ok (.ireturn, 1) := by decide +kernel
theorem dX11_tall_0 : decode cX11_tall 0 = .ok (.aload_n 0, 1) := by decide +kernel
theorem dX11_tall_1 : decode cX11_tall 1 = .ok (.getfield 7, 3) := by decide +kernel
theorem dX11_tall_4 : decode cX11_tall 4 = .ok (.sipush 259, 3) := by decide +kernel
theorem dX11_tall_7 : decode cX11_tall 7 = .ok (.iload_n 1, 1) := by decide +kernel
theorem dX11_tall_8 : decode cX11_tall 8 = .ok (.imul, 1) := by decide +kernel
theorem dX11_tall_9 : decode cX11_tall 9 = .ok (.iconst 2, 1) := by decide +kernel
theorem dX11_tall_10 : decode cX11_tall 10 = .ok (.iadd, 1) := by decide +kernel
theorem dX11_tall_11 : decode cX11_tall 11 = .ok (.iaload, 1) := by decide +kernel
theorem dX11_tall_12 : decode cX11_tall 12 = .ok (.ireturn, 1) := by decide +kernel
theorem dX11_least_0 : decode cX11_least 0 = .ok (.iload_n 0, 1) := by decide +kernel
theorem dX11_least_1 : decode cX11_least 1 = .ok (.ifCond .ne 7, 3) := by decide +kernel
theorem dX11_least_4 : decode cX11_least 4 = .ok (.iconst 0, 1) := by decide +kernel
theorem dX11_least_5 : decode cX11_least 5 = .ok (.goto 6, 3) := by decide +kernel
theorem dX11_least_8 : decode cX11_least 8 = .ok (.sipush (-32768), 3) := by decide +kernel
theorem dX11_least_11 : decode cX11_least 11 = .ok (.ireturn, 1) := by decide +kernel
theorem dX11_greatest_0 : decode cX11_greatest 0 = .ok (.iload_n 0, 1) := by decide +kernel
theorem dX11_greatest_1 : decode cX11_greatest 1 = .ok (.ifCond .ne 9, 3) := by decide +kernel
theorem dX11_greatest_4 : decode cX11_greatest 4 = .ok (.sipush 255, 3) := by decide +kernel
theorem dX11_greatest_7 : decode cX11_greatest 7 = .ok (.goto 6, 3) := by decide +kernel
theorem dX11_greatest_10 : decode cX11_greatest 10 = .ok (.sipush 32767, 3) := by decide +kernel
theorem dX11_greatest_13 : decode cX11_greatest 13 = .ok (.ireturn, 1) := by decide +kernel
theorem dX11_keptIn_0 : decode cX11_keptIn 0 = .ok (.lload_n 1, 1) := by decide +kernel
theorem dX11_keptIn_1 : decode cX11_keptIn 1 = .ok (.iload_n 0, 1) := by decide +kernel
theorem dX11_keptIn_2 : decode cX11_keptIn 2 = .ok (.invokestatic 75, 3) := by decide +kernel
theorem dX11_keptIn_5 : decode cX11_keptIn 5 = .ok (.i2l, 1) := by decide +kernel
theorem dX11_keptIn_6 : decode cX11_keptIn 6 = .ok (.lcmp, 1) := by decide +kernel
theorem dX11_keptIn_7 : decode cX11_keptIn 7 = .ok (.ifCond .ge 10, 3) := by decide +kernel
theorem dX11_keptIn_10 : decode cX11_keptIn 10 = .ok (.iload_n 0, 1) := by decide +kernel
theorem dX11_keptIn_11 : decode cX11_keptIn 11 = .ok (.invokestatic 75, 3) := by decide +kernel
theorem dX11_keptIn_14 : decode cX11_keptIn 14 = .ok (.goto 22, 3) := by decide +kernel
theorem dX11_keptIn_17 : decode cX11_keptIn 17 = .ok (.lload_n 1, 1) := by decide +kernel
theorem dX11_keptIn_18 : decode cX11_keptIn 18 = .ok (.iload_n 0, 1) := by decide +kernel
theorem dX11_keptIn_19 : decode cX11_keptIn 19 = .ok (.invokestatic 79, 3) := by decide +kernel
theorem dX11_keptIn_22 : decode cX11_keptIn 22 = .ok (.i2l, 1) := by decide +kernel
theorem dX11_keptIn_23 : decode cX11_keptIn 23 = .ok (.lcmp, 1) := by decide +kernel
theorem dX11_keptIn_24 : decode cX11_keptIn 24 = .ok (.ifCond .le 10, 3) := by decide +kernel
theorem dX11_keptIn_27 : decode cX11_keptIn 27 = .ok (.iload_n 0, 1) := by decide +kernel
theorem dX11_keptIn_28 : decode cX11_keptIn 28 = .ok (.invokestatic 79, 3) := by decide +kernel
theorem dX11_keptIn_31 : decode cX11_keptIn 31 = .ok (.goto 5, 3) := by decide +kernel
theorem dX11_keptIn_34 : decode cX11_keptIn 34 = .ok (.lload_n 1, 1) := by decide +kernel
theorem dX11_keptIn_35 : decode cX11_keptIn 35 = .ok (.l2i, 1) := by decide +kernel
theorem dX11_keptIn_36 : decode cX11_keptIn 36 = .ok (.ireturn, 1) := by decide +kernel
theorem dX11_pixels_0 : decode cX11_pixels 0 = .ok (.aload_n 0, 1) := by decide +kernel
theorem dX11_pixels_1 : decode cX11_pixels 1 = .ok (.iload_n 1, 1) := by decide +kernel
theorem dX11_pixels_2 : decode cX11_pixels 2 = .ok (.invokevirtual 82, 3) := by decide +kernel
theorem dX11_pixels_5 : decode cX11_pixels 5 = .ok (.aload_n 0, 1) := by decide +kernel
theorem dX11_pixels_6 : decode cX11_pixels 6 = .ok (.iload_n 1, 1) := by decide +kernel
theorem dX11_pixels_7 : decode cX11_pixels 7 = .ok (.invokevirtual 85, 3) := by decide +kernel
theorem dX11_pixels_10 : decode cX11_pixels 10 = .ok (.imul, 1) := by decide +kernel
theorem dX11_pixels_11 : decode cX11_pixels 11 = .ok (.ireturn, 1) := by decide +kernel
theorem dX11_pixelAt_0 : decode cX11_pixelAt 0 = .ok (.sipush 259, 3) := by decide +kernel
theorem dX11_pixelAt_3 : decode cX11_pixelAt 3 = .ok (.iload_n 1, 1) := by decide +kernel
theorem dX11_pixelAt_4 : decode cX11_pixelAt 4 = .ok (.imul, 1) := by decide +kernel
theorem dX11_pixelAt_5 : decode cX11_pixelAt 5 = .ok (.iconst 3, 1) := by decide +kernel
theorem dX11_pixelAt_6 : decode cX11_pixelAt 6 = .ok (.iadd, 1) := by decide +kernel
theorem dX11_pixelAt_7 : decode cX11_pixelAt 7 = .ok (.iload_n 3, 1) := by decide +kernel
theorem dX11_pixelAt_8 : decode cX11_pixelAt 8 = .ok (.aload_n 0, 1) := by decide +kernel
theorem dX11_pixelAt_9 : decode cX11_pixelAt 9 = .ok (.iload_n 1, 1) := by decide +kernel
theorem dX11_pixelAt_10 : decode cX11_pixelAt 10 = .ok (.invokevirtual 82, 3) := by decide +kernel
theorem dX11_pixelAt_13 : decode cX11_pixelAt 13 = .ok (.imul, 1) := by decide +kernel
theorem dX11_pixelAt_14 : decode cX11_pixelAt 14 = .ok (.iadd, 1) := by decide +kernel
theorem dX11_pixelAt_15 : decode cX11_pixelAt 15 = .ok (.iload_n 2, 1) := by decide +kernel
theorem dX11_pixelAt_16 : decode cX11_pixelAt 16 = .ok (.iadd, 1) := by decide +kernel
theorem dX11_pixelAt_17 : decode cX11_pixelAt 17 = .ok (.ireturn, 1) := by decide +kernel
theorem dX11_isWithin_0 : decode cX11_isWithin 0 = .ok (.iload_n 2, 1) := by decide +kernel
theorem dX11_isWithin_1 : decode cX11_isWithin 1 = .ok (.i2l, 1) := by decide +kernel
theorem dX11_isWithin_2 : decode cX11_isWithin 2 = .ok (.lconst 0, 1) := by decide +kernel
theorem dX11_isWithin_3 : decode cX11_isWithin 3 = .ok (.aload_n 0, 1) := by decide +kernel
theorem dX11_isWithin_4 : decode cX11_isWithin 4 = .ok (.iload_n 1, 1) := by decide +kernel
theorem dX11_isWithin_5 : decode cX11_isWithin 5 = .ok (.invokevirtual 82, 3) := by decide +kernel
theorem dX11_isWithin_8 : decode cX11_isWithin 8 = .ok (.iconst 1, 1) := by decide +kernel
theorem dX11_isWithin_9 : decode cX11_isWithin 9 = .ok (.isub, 1) := by decide +kernel
theorem dX11_isWithin_10 : decode cX11_isWithin 10 = .ok (.i2l, 1) := by decide +kernel
theorem dX11_isWithin_11 : decode cX11_isWithin 11 = .ok (.invokestatic 71, 3) := by decide +kernel
theorem dX11_isWithin_14 : decode cX11_isWithin 14 = .ok (.ifCond .eq 24, 3) := by decide +kernel
theorem dX11_isWithin_17 : decode cX11_isWithin 17 = .ok (.iload_n 3, 1) := by decide +kernel
theorem dX11_isWithin_18 : decode cX11_isWithin 18 = .ok (.i2l, 1) := by decide +kernel
theorem dX11_isWithin_19 : decode cX11_isWithin 19 = .ok (.lconst 0, 1) := by decide +kernel
theorem dX11_isWithin_20 : decode cX11_isWithin 20 = .ok (.aload_n 0, 1) := by decide +kernel
theorem dX11_isWithin_21 : decode cX11_isWithin 21 = .ok (.iload_n 1, 1) := by decide +kernel
theorem dX11_isWithin_22 : decode cX11_isWithin 22 = .ok (.invokevirtual 85, 3) := by decide +kernel
theorem dX11_isWithin_25 : decode cX11_isWithin 25 = .ok (.iconst 1, 1) := by decide +kernel
theorem dX11_isWithin_26 : decode cX11_isWithin 26 = .ok (.isub, 1) := by decide +kernel
theorem dX11_isWithin_27 : decode cX11_isWithin 27 = .ok (.i2l, 1) := by decide +kernel
theorem dX11_isWithin_28 : decode cX11_isWithin 28 = .ok (.invokestatic 71, 3) := by decide +kernel
theorem dX11_isWithin_31 : decode cX11_isWithin 31 = .ok (.ifCond .eq 7, 3) := by decide +kernel
theorem dX11_isWithin_34 : decode cX11_isWithin 34 = .ok (.iconst 1, 1) := by decide +kernel
theorem dX11_isWithin_35 : decode cX11_isWithin 35 = .ok (.goto 4, 3) := by decide +kernel
theorem dX11_isWithin_38 : decode cX11_isWithin 38 = .ok (.iconst 0, 1) := by decide +kernel
theorem dX11_isWithin_39 : decode cX11_isWithin 39 = .ok (.ireturn, 1) := by decide +kernel
theorem dX11_begin_0 : decode cX11_begin 0 = .ok (.aload_n 0, 1) := by decide +kernel
theorem dX11_begin_1 : decode cX11_begin 1 = .ok (.getfield 88, 3) := by decide +kernel
theorem dX11_begin_4 : decode cX11_begin 4 = .ok (.bipush 16, 2) := by decide +kernel
theorem dX11_begin_6 : decode cX11_begin 6 = .ok (.if_icmp .ne 43, 3) := by decide +kernel
theorem dX11_begin_9 : decode cX11_begin 9 = .ok (.iconst 0, 1) := by decide +kernel
theorem dX11_begin_10 : decode cX11_begin 10 = .ok (.istore_n 1, 1) := by decide +kernel
theorem dX11_begin_11 : decode cX11_begin 11 = .ok (.iload_n 1, 1) := by decide +kernel
theorem dX11_begin_12 : decode cX11_begin 12 = .ok (.ldc 92, 2) := by decide +kernel
theorem dX11_begin_14 : decode cX11_begin 14 = .ok (.if_icmp .ge 25, 3) := by decide +kernel
theorem dX11_begin_17 : decode cX11_begin 17 = .ok (.aload_n 0, 1) := by decide +kernel
theorem dX11_begin_18 : decode cX11_begin 18 = .ok (.getfield 14, 3) := by decide +kernel
theorem dX11_begin_21 : decode cX11_begin 21 = .ok (.iload_n 1, 1) := by decide +kernel
theorem dX11_begin_22 : decode cX11_begin 22 = .ok (.aload_n 0, 1) := by decide +kernel
theorem dX11_begin_23 : decode cX11_begin 23 = .ok (.getfield 14, 3) := by decide +kernel
theorem dX11_begin_26 : decode cX11_begin 26 = .ok (.iload_n 1, 1) := by decide +kernel
theorem dX11_begin_27 : decode cX11_begin 27 = .ok (.sipush 3608, 3) := by decide +kernel
theorem dX11_begin_30 : decode cX11_begin 30 = .ok (.iadd, 1) := by decide +kernel
theorem dX11_begin_31 : decode cX11_begin 31 = .ok (.iaload, 1) := by decide +kernel
theorem dX11_begin_32 : decode cX11_begin 32 = .ok (.iastore, 1) := by decide +kernel
theorem dX11_begin_33 : decode cX11_begin 33 = .ok (.iinc 1 1, 3) := by decide +kernel
theorem dX11_begin_36 : decode cX11_begin 36 = .ok (.goto (-25), 3) := by decide +kernel
theorem dX11_begin_39 : decode cX11_begin 39 = .ok (.aload_n 0, 1) := by decide +kernel
theorem dX11_begin_40 : decode cX11_begin 40 = .ok (.dup, 1) := by decide +kernel
theorem dX11_begin_41 : decode cX11_begin 41 = .ok (.getfield 88, 3) := by decide +kernel
theorem dX11_begin_44 : decode cX11_begin 44 = .ok (.iconst 1, 1) := by decide +kernel
theorem dX11_begin_45 : decode cX11_begin 45 = .ok (.isub, 1) := by decide +kernel
theorem dX11_begin_46 : decode cX11_begin 46 = .ok (.putfield 88, 3) := by decide +kernel
theorem dX11_begin_49 : decode cX11_begin 49 = .ok (.iconst 0, 1) := by decide +kernel
theorem dX11_begin_50 : decode cX11_begin 50 = .ok (.istore_n 1, 1) := by decide +kernel
theorem dX11_begin_51 : decode cX11_begin 51 = .ok (.iload_n 1, 1) := by decide +kernel
theorem dX11_begin_52 : decode cX11_begin 52 = .ok (.sipush 3608, 3) := by decide +kernel
theorem dX11_begin_55 : decode cX11_begin 55 = .ok (.if_icmp .ge 30, 3) := by decide +kernel
theorem dX11_begin_58 : decode cX11_begin 58 = .ok (.aload_n 0, 1) := by decide +kernel
theorem dX11_begin_59 : decode cX11_begin 59 = .ok (.getfield 14, 3) := by decide +kernel
theorem dX11_begin_62 : decode cX11_begin 62 = .ok (.sipush 3608, 3) := by decide +kernel
theorem dX11_begin_65 : decode cX11_begin 65 = .ok (.aload_n 0, 1) := by decide +kernel
theorem dX11_begin_66 : decode cX11_begin 66 = .ok (.getfield 88, 3) := by decide +kernel
theorem dX11_begin_69 : decode cX11_begin 69 = .ok (.imul, 1) := by decide +kernel
theorem dX11_begin_70 : decode cX11_begin 70 = .ok (.iload_n 1, 1) := by decide +kernel
theorem dX11_begin_71 : decode cX11_begin 71 = .ok (.iadd, 1) := by decide +kernel
theorem dX11_begin_72 : decode cX11_begin 72 = .ok (.aload_n 0, 1) := by decide +kernel
theorem dX11_begin_73 : decode cX11_begin 73 = .ok (.getfield 7, 3) := by decide +kernel
theorem dX11_begin_76 : decode cX11_begin 76 = .ok (.iload_n 1, 1) := by decide +kernel
theorem dX11_begin_77 : decode cX11_begin 77 = .ok (.iaload, 1) := by decide +kernel
theorem dX11_begin_78 : decode cX11_begin 78 = .ok (.iastore, 1) := by decide +kernel
theorem dX11_begin_79 : decode cX11_begin 79 = .ok (.iinc 1 1, 3) := by decide +kernel
theorem dX11_begin_82 : decode cX11_begin 82 = .ok (.goto (-31), 3) := by decide +kernel
theorem dX11_begin_85 : decode cX11_begin 85 = .ok (.aload_n 0, 1) := by decide +kernel
theorem dX11_begin_86 : decode cX11_begin 86 = .ok (.dup, 1) := by decide +kernel
theorem dX11_begin_87 : decode cX11_begin 87 = .ok (.getfield 88, 3) := by decide +kernel
theorem dX11_begin_90 : decode cX11_begin 90 = .ok (.iconst 1, 1) := by decide +kernel
theorem dX11_begin_91 : decode cX11_begin 91 = .ok (.iadd, 1) := by decide +kernel
theorem dX11_begin_92 : decode cX11_begin 92 = .ok (.putfield 88, 3) := by decide +kernel
theorem dX11_begin_95 : decode cX11_begin 95 = .ok (.aload_n 0, 1) := by decide +kernel
theorem dX11_begin_96 : decode cX11_begin 96 = .ok (.aload_n 0, 1) := by decide +kernel
theorem dX11_begin_97 : decode cX11_begin 97 = .ok (.getfield 88, 3) := by decide +kernel
theorem dX11_begin_100 : decode cX11_begin 100 = .ok (.putfield 93, 3) := by decide +kernel
theorem dX11_begin_103 : decode cX11_begin 103 = .ok (.return_, 1) := by decide +kernel
theorem dX11_load_0 : decode cX11_load 0 = .ok (.iconst 0, 1) := by decide +kernel
theorem dX11_load_1 : decode cX11_load 1 = .ok (.istore_n 2, 1) := by decide +kernel
theorem dX11_load_2 : decode cX11_load 2 = .ok (.iload_n 2, 1) := by decide +kernel
theorem dX11_load_3 : decode cX11_load 3 = .ok (.sipush 3608, 3) := by decide +kernel
theorem dX11_load_6 : decode cX11_load 6 = .ok (.if_icmp .ge 27, 3) := by decide +kernel
theorem dX11_load_9 : decode cX11_load 9 = .ok (.aload_n 0, 1) := by decide +kernel
theorem dX11_load_10 : decode cX11_load 10 = .ok (.getfield 7, 3) := by decide +kernel
theorem dX11_load_13 : decode cX11_load 13 = .ok (.iload_n 2, 1) := by decide +kernel
theorem dX11_load_14 : decode cX11_load 14 = .ok (.aload_n 0, 1) := by decide +kernel
theorem dX11_load_15 : decode cX11_load 15 = .ok (.getfield 14, 3) := by decide +kernel
theorem dX11_load_18 : decode cX11_load 18 = .ok (.sipush 3608, 3) := by decide +kernel
theorem dX11_load_21 : decode cX11_load 21 = .ok (.iload_n 1, 1) := by decide +kernel
theorem dX11_load_22 : decode cX11_load 22 = .ok (.imul, 1) := by decide +kernel
theorem dX11_load_23 : decode cX11_load 23 = .ok (.iload_n 2, 1) := by decide +kernel
theorem dX11_load_24 : decode cX11_load 24 = .ok (.iadd, 1) := by decide +kernel
theorem dX11_load_25 : decode cX11_load 25 = .ok (.iaload, 1) := by decide +kernel
theorem dX11_load_26 : decode cX11_load 26 = .ok (.iastore, 1) := by decide +kernel
theorem dX11_load_27 : decode cX11_load 27 = .ok (.iinc 2 1, 3) := by decide +kernel
theorem dX11_load_30 : decode cX11_load 30 = .ok (.goto (-28), 3) := by decide +kernel
theorem dX11_load_33 : decode cX11_load 33 = .ok (.return_, 1) := by decide +kernel
theorem dX11_undo_0 : decode cX11_undo 0 = .ok (.aload_n 0, 1) := by decide +kernel
theorem dX11_undo_1 : decode cX11_undo 1 = .ok (.getfield 88, 3) := by decide +kernel
theorem dX11_undo_4 : decode cX11_undo 4 = .ok (.ifCond .ne 6, 3) := by decide +kernel
theorem dX11_undo_7 : decode cX11_undo 7 = .ok (.ldc 96, 2) := by decide +kernel
theorem dX11_undo_9 : decode cX11_undo 9 = .ok (.ireturn, 1) := by decide +kernel
theorem dX11_undo_10 : decode cX11_undo 10 = .ok (.iconst 0, 1) := by decide +kernel
theorem dX11_undo_11 : decode cX11_undo 11 = .ok (.istore_n 1, 1) := by decide +kernel
theorem dX11_undo_12 : decode cX11_undo 12 = .ok (.iload_n 1, 1) := by decide +kernel
theorem dX11_undo_13 : decode cX11_undo 13 = .ok (.sipush 3608, 3) := by decide +kernel
theorem dX11_undo_16 : decode cX11_undo 16 = .ok (.if_icmp .ge 30, 3) := by decide +kernel
theorem dX11_undo_19 : decode cX11_undo 19 = .ok (.aload_n 0, 1) := by decide +kernel
theorem dX11_undo_20 : decode cX11_undo 20 = .ok (.getfield 14, 3) := by decide +kernel
theorem dX11_undo_23 : decode cX11_undo 23 = .ok (.sipush 3608, 3) := by decide +kernel
theorem dX11_undo_26 : decode cX11_undo 26 = .ok (.aload_n 0, 1) := by decide +kernel
theorem dX11_undo_27 : decode cX11_undo 27 = .ok (.getfield 88, 3) := by decide +kernel
theorem dX11_undo_30 : decode cX11_undo 30 = .ok (.imul, 1) := by decide +kernel
theorem dX11_undo_31 : decode cX11_undo 31 = .ok (.iload_n 1, 1) := by decide +kernel
theorem dX11_undo_32 : decode cX11_undo 32 = .ok (.iadd, 1) := by decide +kernel
theorem dX11_undo_33 : decode cX11_undo 33 = .ok (.aload_n 0, 1) := by decide +kernel
theorem dX11_undo_34 : decode cX11_undo 34 = .ok (.getfield 7, 3) := by decide +kernel
theorem dX11_undo_37 : decode cX11_undo 37 = .ok (.iload_n 1, 1) := by decide +kernel
theorem dX11_undo_38 : decode cX11_undo 38 = .ok (.iaload, 1) := by decide +kernel
theorem dX11_undo_39 : decode cX11_undo 39 = .ok (.iastore, 1) := by decide +kernel
theorem dX11_undo_40 : decode cX11_undo 40 = .ok (.iinc 1 1, 3) := by decide +kernel
theorem dX11_undo_43 : decode cX11_undo 43 = .ok (.goto (-31), 3) := by decide +kernel
theorem dX11_undo_46 : decode cX11_undo 46 = .ok (.aload_n 0, 1) := by decide +kernel
theorem dX11_undo_47 : decode cX11_undo 47 = .ok (.dup, 1) := by decide +kernel
theorem dX11_undo_48 : decode cX11_undo 48 = .ok (.getfield 88, 3) := by decide +kernel
theorem dX11_undo_51 : decode cX11_undo 51 = .ok (.iconst 1, 1) := by decide +kernel
theorem dX11_undo_52 : decode cX11_undo 52 = .ok (.isub, 1) := by decide +kernel
theorem dX11_undo_53 : decode cX11_undo 53 = .ok (.putfield 88, 3) := by decide +kernel
theorem dX11_undo_56 : decode cX11_undo 56 = .ok (.aload_n 0, 1) := by decide +kernel
theorem dX11_undo_57 : decode cX11_undo 57 = .ok (.aload_n 0, 1) := by decide +kernel
theorem dX11_undo_58 : decode cX11_undo 58 = .ok (.getfield 88, 3) := by decide +kernel
theorem dX11_undo_61 : decode cX11_undo 61 = .ok (.invokevirtual 97, 3) := by decide +kernel
theorem dX11_undo_64 : decode cX11_undo 64 = .ok (.iconst 1, 1) := by decide +kernel
theorem dX11_undo_65 : decode cX11_undo 65 = .ok (.ireturn, 1) := by decide +kernel
theorem dX11_redo_0 : decode cX11_redo 0 = .ok (.aload_n 0, 1) := by decide +kernel
theorem dX11_redo_1 : decode cX11_redo 1 = .ok (.getfield 88, 3) := by decide +kernel
theorem dX11_redo_4 : decode cX11_redo 4 = .ok (.aload_n 0, 1) := by decide +kernel
theorem dX11_redo_5 : decode cX11_redo 5 = .ok (.getfield 93, 3) := by decide +kernel
theorem dX11_redo_8 : decode cX11_redo 8 = .ok (.if_icmp .ne 6, 3) := by decide +kernel
theorem dX11_redo_11 : decode cX11_redo 11 = .ok (.ldc 96, 2) := by decide +kernel
theorem dX11_redo_13 : decode cX11_redo 13 = .ok (.ireturn, 1) := by decide +kernel
theorem dX11_redo_14 : decode cX11_redo 14 = .ok (.aload_n 0, 1) := by decide +kernel
theorem dX11_redo_15 : decode cX11_redo 15 = .ok (.dup, 1) := by decide +kernel
theorem dX11_redo_16 : decode cX11_redo 16 = .ok (.getfield 88, 3) := by decide +kernel
theorem dX11_redo_19 : decode cX11_redo 19 = .ok (.iconst 1, 1) := by decide +kernel
theorem dX11_redo_20 : decode cX11_redo 20 = .ok (.iadd, 1) := by decide +kernel
theorem dX11_redo_21 : decode cX11_redo 21 = .ok (.putfield 88, 3) := by decide +kernel
theorem dX11_redo_24 : decode cX11_redo 24 = .ok (.aload_n 0, 1) := by decide +kernel
theorem dX11_redo_25 : decode cX11_redo 25 = .ok (.aload_n 0, 1) := by decide +kernel
theorem dX11_redo_26 : decode cX11_redo 26 = .ok (.getfield 88, 3) := by decide +kernel
theorem dX11_redo_29 : decode cX11_redo 29 = .ok (.invokevirtual 97, 3) := by decide +kernel
theorem dX11_redo_32 : decode cX11_redo 32 = .ok (.iconst 1, 1) := by decide +kernel
theorem dX11_redo_33 : decode cX11_redo 33 = .ok (.ireturn, 1) := by decide +kernel
theorem dX11_become_0 : decode cX11_become 0 = .ok (.aload_n 0, 1) := by decide +kernel
theorem dX11_become_1 : decode cX11_become 1 = .ok (.getfield 7, 3) := by decide +kernel
theorem dX11_become_4 : decode cX11_become 4 = .ok (.sipush 259, 3) := by decide +kernel
theorem dX11_become_7 : decode cX11_become 7 = .ok (.iload_n 1, 1) := by decide +kernel
theorem dX11_become_8 : decode cX11_become 8 = .ok (.imul, 1) := by decide +kernel
theorem dX11_become_9 : decode cX11_become 9 = .ok (.iload_n 2, 1) := by decide +kernel
theorem dX11_become_10 : decode cX11_become 10 = .ok (.iastore, 1) := by decide +kernel
theorem dX11_become_11 : decode cX11_become 11 = .ok (.aload_n 0, 1) := by decide +kernel
theorem dX11_become_12 : decode cX11_become 12 = .ok (.getfield 7, 3) := by decide +kernel
theorem dX11_become_15 : decode cX11_become 15 = .ok (.sipush 259, 3) := by decide +kernel
theorem dX11_become_18 : decode cX11_become 18 = .ok (.iload_n 1, 1) := by decide +kernel
theorem dX11_become_19 : decode cX11_become 19 = .ok (.imul, 1) := by decide +kernel
theorem dX11_become_20 : decode cX11_become 20 = .ok (.iconst 1, 1) := by decide +kernel
theorem dX11_become_21 : decode cX11_become 21 = .ok (.iadd, 1) := by decide +kernel
theorem dX11_become_22 : decode cX11_become 22 = .ok (.iload_n 3, 1) := by decide +kernel
theorem dX11_become_23 : decode cX11_become 23 = .ok (.iastore, 1) := by decide +kernel
theorem dX11_become_24 : decode cX11_become 24 = .ok (.aload_n 0, 1) := by decide +kernel
theorem dX11_become_25 : decode cX11_become 25 = .ok (.getfield 7, 3) := by decide +kernel
theorem dX11_become_28 : decode cX11_become 28 = .ok (.sipush 259, 3) := by decide +kernel
theorem dX11_become_31 : decode cX11_become 31 = .ok (.iload_n 1, 1) := by decide +kernel
theorem dX11_become_32 : decode cX11_become 32 = .ok (.imul, 1) := by decide +kernel
theorem dX11_become_33 : decode cX11_become 33 = .ok (.iconst 2, 1) := by decide +kernel
theorem dX11_become_34 : decode cX11_become 34 = .ok (.iadd, 1) := by decide +kernel
theorem dX11_become_35 : decode cX11_become 35 = .ok (.iload 4, 2) := by decide +kernel
theorem dX11_become_37 : decode cX11_become 37 = .ok (.iastore, 1) := by decide +kernel
theorem dX11_become_38 : decode cX11_become 38 = .ok (.iconst 0, 1) := by decide +kernel
theorem dX11_become_39 : decode cX11_become 39 = .ok (.istore 5, 2) := by decide +kernel
theorem dX11_become_41 : decode cX11_become 41 = .ok (.iload 5, 2) := by decide +kernel
theorem dX11_become_43 : decode cX11_become 43 = .ok (.sipush 256, 3) := by decide +kernel
theorem dX11_become_46 : decode cX11_become 46 = .ok (.if_icmp .ge 25, 3) := by decide +kernel
theorem dX11_become_49 : decode cX11_become 49 = .ok (.aload_n 0, 1) := by decide +kernel
theorem dX11_become_50 : decode cX11_become 50 = .ok (.getfield 7, 3) := by decide +kernel
theorem dX11_become_53 : decode cX11_become 53 = .ok (.sipush 259, 3) := by decide +kernel
theorem dX11_become_56 : decode cX11_become 56 = .ok (.iload_n 1, 1) := by decide +kernel
theorem dX11_become_57 : decode cX11_become 57 = .ok (.imul, 1) := by decide +kernel
theorem dX11_become_58 : decode cX11_become 58 = .ok (.iconst 3, 1) := by decide +kernel
theorem dX11_become_59 : decode cX11_become 59 = .ok (.iadd, 1) := by decide +kernel
theorem dX11_become_60 : decode cX11_become 60 = .ok (.iload 5, 2) := by decide +kernel
theorem dX11_become_62 : decode cX11_become 62 = .ok (.iadd, 1) := by decide +kernel
theorem dX11_become_63 : decode cX11_become 63 = .ok (.iconst 0, 1) := by decide +kernel
theorem dX11_become_64 : decode cX11_become 64 = .ok (.iastore, 1) := by decide +kernel
theorem dX11_become_65 : decode cX11_become 65 = .ok (.iinc 5 1, 3) := by decide +kernel
theorem dX11_become_68 : decode cX11_become 68 = .ok (.goto (-27), 3) := by decide +kernel
theorem dX11_become_71 : decode cX11_become 71 = .ok (.return_, 1) := by decide +kernel
theorem dX11_picture_0 : decode cX11_picture 0 = .ok (.iload_n 1, 1) := by decide +kernel
theorem dX11_picture_1 : decode cX11_picture 1 = .ok (.invokestatic 101, 3) := by decide +kernel
theorem dX11_picture_4 : decode cX11_picture 4 = .ok (.ifCond .eq 44, 3) := by decide +kernel
theorem dX11_picture_7 : decode cX11_picture 7 = .ok (.iload_n 2, 1) := by decide +kernel
theorem dX11_picture_8 : decode cX11_picture 8 = .ok (.i2l, 1) := by decide +kernel
theorem dX11_picture_9 : decode cX11_picture 9 = .ok (.ldc2_w 105, 3) := by decide +kernel
theorem dX11_picture_12 : decode cX11_picture 12 = .ok (.lconst 1, 1) := by decide +kernel
theorem dX11_picture_13 : decode cX11_picture 13 = .ok (.invokestatic 71, 3) := by decide +kernel
theorem dX11_picture_16 : decode cX11_picture 16 = .ok (.ifCond .eq 32, 3) := by decide +kernel
theorem dX11_picture_19 : decode cX11_picture 19 = .ok (.iload_n 2, 1) := by decide +kernel
theorem dX11_picture_20 : decode cX11_picture 20 = .ok (.ifCond .lt 31, 3) := by decide +kernel
theorem dX11_picture_23 : decode cX11_picture 23 = .ok (.iload_n 3, 1) := by decide +kernel
theorem dX11_picture_24 : decode cX11_picture 24 = .ok (.i2l, 1) := by decide +kernel
theorem dX11_picture_25 : decode cX11_picture 25 = .ok (.lconst 1, 1) := by decide +kernel
theorem dX11_picture_26 : decode cX11_picture 26 = .ok (.ldc2_w 107, 3) := by decide +kernel
theorem dX11_picture_29 : decode cX11_picture 29 = .ok (.invokestatic 71, 3) := by decide +kernel
theorem dX11_picture_32 : decode cX11_picture 32 = .ok (.ifCond .eq 16, 3) := by decide +kernel
theorem dX11_picture_35 : decode cX11_picture 35 = .ok (.iload 4, 2) := by decide +kernel
theorem dX11_picture_37 : decode cX11_picture 37 = .ok (.i2l, 1) := by decide +kernel
theorem dX11_picture_38 : decode cX11_picture 38 = .ok (.lconst 1, 1) := by decide +kernel
theorem dX11_picture_39 : decode cX11_picture 39 = .ok (.ldc2_w 107, 3) := by decide +kernel
theorem dX11_picture_42 : decode cX11_picture 42 = .ok (.invokestatic 71, 3) := by decide +kernel
theorem dX11_picture_45 : decode cX11_picture 45 = .ok (.ifCond .ne 6, 3) := by decide +kernel
theorem dX11_picture_48 : decode cX11_picture 48 = .ok (.ldc 109, 2) := by decide +kernel
theorem dX11_picture_50 : decode cX11_picture 50 = .ok (.ireturn, 1) := by decide +kernel
theorem dX11_picture_51 : decode cX11_picture 51 = .ok (.aload_n 0, 1) := by decide +kernel
theorem dX11_picture_52 : decode cX11_picture 52 = .ok (.invokevirtual 110, 3) := by decide +kernel
theorem dX11_picture_55 : decode cX11_picture 55 = .ok (.aload_n 0, 1) := by decide +kernel
theorem dX11_picture_56 : decode cX11_picture 56 = .ok (.iload_n 1, 1) := by decide +kernel
theorem dX11_picture_57 : decode cX11_picture 57 = .ok (.iload_n 2, 1) := by decide +kernel
theorem dX11_picture_58 : decode cX11_picture 58 = .ok (.iload_n 2, 1) := by decide +kernel
theorem dX11_picture_59 : decode cX11_picture 59 = .ok (.ifCond .ge 7, 3) := by decide +kernel
theorem dX11_picture_62 : decode cX11_picture 62 = .ok (.iconst 0, 1) := by decide +kernel
theorem dX11_picture_63 : decode cX11_picture 63 = .ok (.goto 4, 3) := by decide +kernel
theorem dX11_picture_66 : decode cX11_picture 66 = .ok (.iload_n 3, 1) := by decide +kernel
theorem dX11_picture_67 : decode cX11_picture 67 = .ok (.iload_n 2, 1) := by decide +kernel
theorem dX11_picture_68 : decode cX11_picture 68 = .ok (.ifCond .ge 7, 3) := by decide +kernel
theorem dX11_picture_71 : decode cX11_picture 71 = .ok (.iconst 0, 1) := by decide +kernel
theorem dX11_picture_72 : decode cX11_picture 72 = .ok (.goto 5, 3) := by decide +kernel
theorem dX11_picture_75 : decode cX11_picture 75 = .ok (.iload 4, 2) := by decide +kernel
theorem dX11_picture_77 : decode cX11_picture 77 = .ok (.invokevirtual 113, 3) := by decide +kernel
theorem dX11_picture_80 : decode cX11_picture 80 = .ok (.iconst 0, 1) := by decide +kernel
theorem dX11_picture_81 : decode cX11_picture 81 = .ok (.ireturn, 1) := by decide +kernel
theorem dX11_put_0 : decode cX11_put 0 = .ok (.iload_n 1, 1) := by decide +kernel
theorem dX11_put_1 : decode cX11_put 1 = .ok (.invokestatic 101, 3) := by decide +kernel
theorem dX11_put_4 : decode cX11_put 4 = .ok (.ifCond .eq 21, 3) := by decide +kernel
theorem dX11_put_7 : decode cX11_put 7 = .ok (.aload_n 0, 1) := by decide +kernel
theorem dX11_put_8 : decode cX11_put 8 = .ok (.iload_n 1, 1) := by decide +kernel
theorem dX11_put_9 : decode cX11_put 9 = .ok (.invokevirtual 117, 3) := by decide +kernel
theorem dX11_put_12 : decode cX11_put 12 = .ok (.ifCond .eq 13, 3) := by decide +kernel
theorem dX11_put_15 : decode cX11_put 15 = .ok (.aload_n 0, 1) := by decide +kernel
theorem dX11_put_16 : decode cX11_put 16 = .ok (.iload_n 1, 1) := by decide +kernel
theorem dX11_put_17 : decode cX11_put 17 = .ok (.iload_n 2, 1) := by decide +kernel
theorem dX11_put_18 : decode cX11_put 18 = .ok (.iload_n 3, 1) := by decide +kernel
theorem dX11_put_19 : decode cX11_put 19 = .ok (.invokevirtual 120, 3) := by decide +kernel
theorem dX11_put_22 : decode cX11_put 22 = .ok (.ifCond .ne 6, 3) := by decide +kernel
theorem dX11_put_25 : decode cX11_put 25 = .ok (.ldc 109, 2) := by decide +kernel
theorem dX11_put_27 : decode cX11_put 27 = .ok (.ireturn, 1) := by decide +kernel
theorem dX11_put_28 : decode cX11_put 28 = .ok (.iload 4, 2) := by decide +kernel
theorem dX11_put_30 : decode cX11_put 30 = .ok (.i2l, 1) := by decide +kernel
theorem dX11_put_31 : decode cX11_put 31 = .ok (.aload_n 0, 1) := by decide +kernel
theorem dX11_put_32 : decode cX11_put 32 = .ok (.iload_n 1, 1) := by decide +kernel
theorem dX11_put_33 : decode cX11_put 33 = .ok (.invokevirtual 124, 3) := by decide +kernel
theorem dX11_put_36 : decode cX11_put 36 = .ok (.invokestatic 75, 3) := by decide +kernel
theorem dX11_put_39 : decode cX11_put 39 = .ok (.i2l, 1) := by decide +kernel
theorem dX11_put_40 : decode cX11_put 40 = .ok (.aload_n 0, 1) := by decide +kernel
theorem dX11_put_41 : decode cX11_put 41 = .ok (.iload_n 1, 1) := by decide +kernel
theorem dX11_put_42 : decode cX11_put 42 = .ok (.invokevirtual 124, 3) := by decide +kernel
theorem dX11_put_45 : decode cX11_put 45 = .ok (.invokestatic 79, 3) := by decide +kernel
theorem dX11_put_48 : decode cX11_put 48 = .ok (.i2l, 1) := by decide +kernel
theorem dX11_put_49 : decode cX11_put 49 = .ok (.invokestatic 71, 3) := by decide +kernel
theorem dX11_put_52 : decode cX11_put 52 = .ok (.ifCond .ne 6, 3) := by decide +kernel
theorem dX11_put_55 : decode cX11_put 55 = .ok (.ldc 96, 2) := by decide +kernel
theorem dX11_put_57 : decode cX11_put 57 = .ok (.ireturn, 1) := by decide +kernel
theorem dX11_put_58 : decode cX11_put 58 = .ok (.aload_n 0, 1) := by decide +kernel
theorem dX11_put_59 : decode cX11_put 59 = .ok (.invokevirtual 110, 3) := by decide +kernel
theorem dX11_put_62 : decode cX11_put 62 = .ok (.aload_n 0, 1) := by decide +kernel
theorem dX11_put_63 : decode cX11_put 63 = .ok (.iload_n 1, 1) := by decide +kernel
theorem dX11_put_64 : decode cX11_put 64 = .ok (.iload_n 2, 1) := by decide +kernel
theorem dX11_put_65 : decode cX11_put 65 = .ok (.iload_n 3, 1) := by decide +kernel
theorem dX11_put_66 : decode cX11_put 66 = .ok (.invokevirtual 127, 3) := by decide +kernel
theorem dX11_put_69 : decode cX11_put 69 = .ok (.istore 5, 2) := by decide +kernel
theorem dX11_put_71 : decode cX11_put 71 = .ok (.aload_n 0, 1) := by decide +kernel
theorem dX11_put_72 : decode cX11_put 72 = .ok (.getfield 7, 3) := by decide +kernel
theorem dX11_put_75 : decode cX11_put 75 = .ok (.iload 5, 2) := by decide +kernel
theorem dX11_put_77 : decode cX11_put 77 = .ok (.iaload, 1) := by decide +kernel
theorem dX11_put_78 : decode cX11_put 78 = .ok (.istore 6, 2) := by decide +kernel
theorem dX11_put_80 : decode cX11_put 80 = .ok (.aload_n 0, 1) := by decide +kernel
theorem dX11_put_81 : decode cX11_put 81 = .ok (.getfield 7, 3) := by decide +kernel
theorem dX11_put_84 : decode cX11_put 84 = .ok (.iload 5, 2) := by decide +kernel
theorem dX11_put_86 : decode cX11_put 86 = .ok (.iload 4, 2) := by decide +kernel
theorem dX11_put_88 : decode cX11_put 88 = .ok (.iastore, 1) := by decide +kernel
theorem dX11_put_89 : decode cX11_put 89 = .ok (.iload 6, 2) := by decide +kernel
theorem dX11_put_91 : decode cX11_put 91 = .ok (.ireturn, 1) := by decide +kernel
theorem dX11_feed_0 : decode cX11_feed 0 = .ok (.iload_n 1, 1) := by decide +kernel
theorem dX11_feed_1 : decode cX11_feed 1 = .ok (.invokestatic 101, 3) := by decide +kernel
theorem dX11_feed_4 : decode cX11_feed 4 = .ok (.ifCond .eq 51, 3) := by decide +kernel
theorem dX11_feed_7 : decode cX11_feed 7 = .ok (.aload_n 0, 1) := by decide +kernel
theorem dX11_feed_8 : decode cX11_feed 8 = .ok (.iload_n 1, 1) := by decide +kernel
theorem dX11_feed_9 : decode cX11_feed 9 = .ok (.invokevirtual 117, 3) := by decide +kernel
theorem dX11_feed_12 : decode cX11_feed 12 = .ok (.ifCond .eq 43, 3) := by decide +kernel
theorem dX11_feed_15 : decode cX11_feed 15 = .ok (.aload_n 0, 1) := by decide +kernel
theorem dX11_feed_16 : decode cX11_feed 16 = .ok (.iload_n 1, 1) := by decide +kernel
theorem dX11_feed_17 : decode cX11_feed 17 = .ok (.iload_n 2, 1) := by decide +kernel
theorem dX11_feed_18 : decode cX11_feed 18 = .ok (.iload_n 3, 1) := by decide +kernel
theorem dX11_feed_19 : decode cX11_feed 19 = .ok (.invokevirtual 120, 3) := by decide +kernel
theorem dX11_feed_22 : decode cX11_feed 22 = .ok (.ifCond .eq 33, 3) := by decide +kernel
theorem dX11_feed_25 : decode cX11_feed 25 = .ok (.iload 6, 2) := by decide +kernel
theorem dX11_feed_27 : decode cX11_feed 27 = .ok (.i2l, 1) := by decide +kernel
theorem dX11_feed_28 : decode cX11_feed 28 = .ok (.lconst 1, 1) := by decide +kernel
theorem dX11_feed_29 : decode cX11_feed 29 = .ok (.ldc2_w 131, 3) := by decide +kernel
theorem dX11_feed_32 : decode cX11_feed 32 = .ok (.invokestatic 71, 3) := by decide +kernel
theorem dX11_feed_35 : decode cX11_feed 35 = .ok (.ifCond .eq 20, 3) := by decide +kernel
theorem dX11_feed_38 : decode cX11_feed 38 = .ok (.aload_n 0, 1) := by decide +kernel
theorem dX11_feed_39 : decode cX11_feed 39 = .ok (.iload_n 1, 1) := by decide +kernel
theorem dX11_feed_40 : decode cX11_feed 40 = .ok (.invokevirtual 124, 3) := by decide +kernel
theorem dX11_feed_43 : decode cX11_feed 43 = .ok (.iconst 1, 1) := by decide +kernel
theorem dX11_feed_44 : decode cX11_feed 44 = .ok (.if_icmp .ne 14, 3) := by decide +kernel
theorem dX11_feed_47 : decode cX11_feed 47 = .ok (.iload 6, 2) := by decide +kernel
theorem dX11_feed_49 : decode cX11_feed 49 = .ok (.iconst 2, 1) := by decide +kernel
theorem dX11_feed_50 : decode cX11_feed 50 = .ok (.irem, 1) := by decide +kernel
theorem dX11_feed_51 : decode cX11_feed 51 = .ok (.iconst 1, 1) := by decide +kernel
theorem dX11_feed_52 : decode cX11_feed 52 = .ok (.if_icmp .ne 6, 3) := by decide +kernel
theorem dX11_feed_55 : decode cX11_feed 55 = .ok (.ldc 109, 2) := by decide +kernel
theorem dX11_feed_57 : decode cX11_feed 57 = .ok (.ireturn, 1) := by decide +kernel
theorem dX11_feed_58 : decode cX11_feed 58 = .ok (.aload_n 0, 1) := by decide +kernel
theorem dX11_feed_59 : decode cX11_feed 59 = .ok (.iload_n 1, 1) := by decide +kernel
theorem dX11_feed_60 : decode cX11_feed 60 = .ok (.invokevirtual 124, 3) := by decide +kernel
theorem dX11_feed_63 : decode cX11_feed 63 = .ok (.ifCond .ne 8, 3) := by decide +kernel
theorem dX11_feed_66 : decode cX11_feed 66 = .ok (.iload 6, 2) := by decide +kernel
theorem dX11_feed_68 : decode cX11_feed 68 = .ok (.goto 7, 3) := by decide +kernel
theorem dX11_feed_71 : decode cX11_feed 71 = .ok (.iload 6, 2) := by decide +kernel
theorem dX11_feed_73 : decode cX11_feed 73 = .ok (.iconst 2, 1) := by decide +kernel
theorem dX11_feed_74 : decode cX11_feed 74 = .ok (.idiv, 1) := by decide +kernel
theorem dX11_feed_75 : decode cX11_feed 75 = .ok (.istore 7, 2) := by decide +kernel
theorem dX11_feed_77 : decode cX11_feed 77 = .ok (.iload_n 3, 1) := by decide +kernel
theorem dX11_feed_78 : decode cX11_feed 78 = .ok (.aload_n 0, 1) := by decide +kernel
theorem dX11_feed_79 : decode cX11_feed 79 = .ok (.iload_n 1, 1) := by decide +kernel
theorem dX11_feed_80 : decode cX11_feed 80 = .ok (.invokevirtual 82, 3) := by decide +kernel
theorem dX11_feed_83 : decode cX11_feed 83 = .ok (.imul, 1) := by decide +kernel
theorem dX11_feed_84 : decode cX11_feed 84 = .ok (.iload_n 2, 1) := by decide +kernel
theorem dX11_feed_85 : decode cX11_feed 85 = .ok (.iadd, 1) := by decide +kernel
theorem dX11_feed_86 : decode cX11_feed 86 = .ok (.istore 8, 2) := by decide +kernel
theorem dX11_feed_88 : decode cX11_feed 88 = .ok (.iload 8, 2) := by decide +kernel
theorem dX11_feed_90 : decode cX11_feed 90 = .ok (.iload 7, 2) := by decide +kernel
theorem dX11_feed_92 : decode cX11_feed 92 = .ok (.iadd, 1) := by decide +kernel
theorem dX11_feed_93 : decode cX11_feed 93 = .ok (.aload_n 0, 1) := by decide +kernel
theorem dX11_feed_94 : decode cX11_feed 94 = .ok (.iload_n 1, 1) := by decide +kernel
theorem dX11_feed_95 : decode cX11_feed 95 = .ok (.invokevirtual 133, 3) := by decide +kernel
theorem dX11_feed_98 : decode cX11_feed 98 = .ok (.if_icmp .le 6, 3) := by decide +kernel
theorem dX11_feed_101 : decode cX11_feed 101 = .ok (.ldc 96, 2) := by decide +kernel
theorem dX11_feed_103 : decode cX11_feed 103 = .ok (.ireturn, 1) := by decide +kernel
theorem dX11_feed_104 : decode cX11_feed 104 = .ok (.aload_n 0, 1) := by decide +kernel
theorem dX11_feed_105 : decode cX11_feed 105 = .ok (.invokevirtual 110, 3) := by decide +kernel
theorem dX11_feed_108 : decode cX11_feed 108 = .ok (.iconst 0, 1) := by decide +kernel
theorem dX11_feed_109 : decode cX11_feed 109 = .ok (.istore 9, 2) := by decide +kernel
theorem dX11_feed_111 : decode cX11_feed 111 = .ok (.iload 9, 2) := by decide +kernel
theorem dX11_feed_113 : decode cX11_feed 113 = .ok (.iload 7, 2) := by decide +kernel
theorem dX11_feed_115 : decode cX11_feed 115 = .ok (.if_icmp .ge 61, 3) := by decide +kernel
theorem dX11_feed_118 : decode cX11_feed 118 = .ok (.aload_n 0, 1) := by decide +kernel
theorem dX11_feed_119 : decode cX11_feed 119 = .ok (.getfield 7, 3) := by decide +kernel
theorem dX11_feed_122 : decode cX11_feed 122 = .ok (.sipush 259, 3) := by decide +kernel
theorem dX11_feed_125 : decode cX11_feed 125 = .ok (.iload_n 1, 1) := by decide +kernel
theorem dX11_feed_126 : decode cX11_feed 126 = .ok (.imul, 1) := by decide +kernel
theorem dX11_feed_127 : decode cX11_feed 127 = .ok (.iconst 3, 1) := by decide +kernel
theorem dX11_feed_128 : decode cX11_feed 128 = .ok (.iadd, 1) := by decide +kernel
theorem dX11_feed_129 : decode cX11_feed 129 = .ok (.iload 8, 2) := by decide +kernel
theorem dX11_feed_131 : decode cX11_feed 131 = .ok (.iadd, 1) := by decide +kernel
theorem dX11_feed_132 : decode cX11_feed 132 = .ok (.iload 9, 2) := by decide +kernel
theorem dX11_feed_134 : decode cX11_feed 134 = .ok (.iadd, 1) := by decide +kernel
theorem dX11_feed_135 : decode cX11_feed 135 = .ok (.aload_n 0, 1) := by decide +kernel
theorem dX11_feed_136 : decode cX11_feed 136 = .ok (.iload_n 1, 1) := by decide +kernel
theorem dX11_feed_137 : decode cX11_feed 137 = .ok (.invokevirtual 124, 3) := by decide +kernel
theorem dX11_feed_140 : decode cX11_feed 140 = .ok (.ifCond .ne 19, 3) := by decide +kernel
theorem dX11_feed_143 : decode cX11_feed 143 = .ok (.lload 4, 2) := by decide +kernel
theorem dX11_feed_145 : decode cX11_feed 145 = .ok (.bipush 8, 2) := by decide +kernel
theorem dX11_feed_147 : decode cX11_feed 147 = .ok (.iload 9, 2) := by decide +kernel
theorem dX11_feed_149 : decode cX11_feed 149 = .ok (.imul, 1) := by decide +kernel
theorem dX11_feed_150 : decode cX11_feed 150 = .ok (.lshr, 1) := by decide +kernel
theorem dX11_feed_151 : decode cX11_feed 151 = .ok (.ldc2_w 136, 3) := by decide +kernel
theorem dX11_feed_154 : decode cX11_feed 154 = .ok (.land, 1) := by decide +kernel

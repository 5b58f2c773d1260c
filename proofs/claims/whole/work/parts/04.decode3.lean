theorem dX11_feed_155 : decode cX11_feed 155 = .ok (.l2i, 1) := by decide +kernel
theorem dX11_feed_156 : decode cX11_feed 156 = .ok (.goto 13, 3) := by decide +kernel
theorem dX11_feed_159 : decode cX11_feed 159 = .ok (.lload 4, 2) := by decide +kernel
theorem dX11_feed_161 : decode cX11_feed 161 = .ok (.bipush 16, 2) := by decide +kernel
theorem dX11_feed_163 : decode cX11_feed 163 = .ok (.iload 9, 2) := by decide +kernel
theorem dX11_feed_165 : decode cX11_feed 165 = .ok (.imul, 1) := by decide +kernel
theorem dX11_feed_166 : decode cX11_feed 166 = .ok (.lshr, 1) := by decide +kernel
theorem dX11_feed_167 : decode cX11_feed 167 = .ok (.l2i, 1) := by decide +kernel
theorem dX11_feed_168 : decode cX11_feed 168 = .ok (.i2s, 1) := by decide +kernel
theorem dX11_feed_169 : decode cX11_feed 169 = .ok (.iastore, 1) := by decide +kernel
theorem dX11_feed_170 : decode cX11_feed 170 = .ok (.iinc 9 1, 3) := by decide +kernel
theorem dX11_feed_173 : decode cX11_feed 173 = .ok (.goto (-62), 3) := by decide +kernel
theorem dX11_feed_176 : decode cX11_feed 176 = .ok (.iload 7, 2) := by decide +kernel
theorem dX11_feed_178 : decode cX11_feed 178 = .ok (.ireturn, 1) := by decide +kernel
theorem dX11_folded_0 : decode cX11_folded 0 = .ok (.iload_n 0, 1) := by decide +kernel
theorem dX11_folded_1 : decode cX11_folded 1 = .ok (.ifCond .lt 10, 3) := by decide +kernel
theorem dX11_folded_4 : decode cX11_folded 4 = .ok (.iload_n 0, 1) := by decide +kernel
theorem dX11_folded_5 : decode cX11_folded 5 = .ok (.iload_n 1, 1) := by decide +kernel
theorem dX11_folded_6 : decode cX11_folded 6 = .ok (.if_icmp .ge 5, 3) := by decide +kernel
theorem dX11_folded_9 : decode cX11_folded 9 = .ok (.iload_n 0, 1) := by decide +kernel
theorem dX11_folded_10 : decode cX11_folded 10 = .ok (.ireturn, 1) := by decide +kernel
theorem dX11_folded_11 : decode cX11_folded 11 = .ok (.iload_n 2, 1) := by decide +kernel
theorem dX11_folded_12 : decode cX11_folded 12 = .ok (.ifCond .ne 15, 3) := by decide +kernel
theorem dX11_folded_15 : decode cX11_folded 15 = .ok (.iload_n 0, 1) := by decide +kernel
theorem dX11_folded_16 : decode cX11_folded 16 = .ok (.ifCond .ge 7, 3) := by decide +kernel
theorem dX11_folded_19 : decode cX11_folded 19 = .ok (.iconst 0, 1) := by decide +kernel
theorem dX11_folded_20 : decode cX11_folded 20 = .ok (.goto 6, 3) := by decide +kernel
theorem dX11_folded_23 : decode cX11_folded 23 = .ok (.iload_n 1, 1) := by decide +kernel
theorem dX11_folded_24 : decode cX11_folded 24 = .ok (.iconst 1, 1) := by decide +kernel
theorem dX11_folded_25 : decode cX11_folded 25 = .ok (.isub, 1) := by decide +kernel
theorem dX11_folded_26 : decode cX11_folded 26 = .ok (.ireturn, 1) := by decide +kernel
theorem dX11_folded_27 : decode cX11_folded 27 = .ok (.iload_n 2, 1) := by decide +kernel
theorem dX11_folded_28 : decode cX11_folded 28 = .ok (.iconst 1, 1) := by decide +kernel
theorem dX11_folded_29 : decode cX11_folded 29 = .ok (.if_icmp .ne 9, 3) := by decide +kernel
theorem dX11_folded_32 : decode cX11_folded 32 = .ok (.iconst 2, 1) := by decide +kernel
theorem dX11_folded_33 : decode cX11_folded 33 = .ok (.iload_n 1, 1) := by decide +kernel
theorem dX11_folded_34 : decode cX11_folded 34 = .ok (.imul, 1) := by decide +kernel
theorem dX11_folded_35 : decode cX11_folded 35 = .ok (.goto 4, 3) := by decide +kernel
theorem dX11_folded_38 : decode cX11_folded 38 = .ok (.iload_n 1, 1) := by decide +kernel
theorem dX11_folded_39 : decode cX11_folded 39 = .ok (.istore_n 3, 1) := by decide +kernel
theorem dX11_folded_40 : decode cX11_folded 40 = .ok (.iload_n 0, 1) := by decide +kernel
theorem dX11_folded_41 : decode cX11_folded 41 = .ok (.iload_n 3, 1) := by decide +kernel
theorem dX11_folded_42 : decode cX11_folded 42 = .ok (.irem, 1) := by decide +kernel
theorem dX11_folded_43 : decode cX11_folded 43 = .ok (.istore 4, 2) := by decide +kernel
theorem dX11_folded_45 : decode cX11_folded 45 = .ok (.iload 4, 2) := by decide +kernel
theorem dX11_folded_47 : decode cX11_folded 47 = .ok (.ifCond .ge 10, 3) := by decide +kernel
theorem dX11_folded_50 : decode cX11_folded 50 = .ok (.iload 4, 2) := by decide +kernel
theorem dX11_folded_52 : decode cX11_folded 52 = .ok (.iload_n 3, 1) := by decide +kernel
theorem dX11_folded_53 : decode cX11_folded 53 = .ok (.iadd, 1) := by decide +kernel
theorem dX11_folded_54 : decode cX11_folded 54 = .ok (.goto 5, 3) := by decide +kernel
theorem dX11_folded_57 : decode cX11_folded 57 = .ok (.iload 4, 2) := by decide +kernel
theorem dX11_folded_59 : decode cX11_folded 59 = .ok (.istore 4, 2) := by decide +kernel
theorem dX11_folded_61 : decode cX11_folded 61 = .ok (.iload 4, 2) := by decide +kernel
theorem dX11_folded_63 : decode cX11_folded 63 = .ok (.iload_n 1, 1) := by decide +kernel
theorem dX11_folded_64 : decode cX11_folded 64 = .ok (.if_icmp .ge 8, 3) := by decide +kernel
theorem dX11_folded_67 : decode cX11_folded 67 = .ok (.iload 4, 2) := by decide +kernel
theorem dX11_folded_69 : decode cX11_folded 69 = .ok (.goto 9, 3) := by decide +kernel
theorem dX11_folded_72 : decode cX11_folded 72 = .ok (.iload_n 3, 1) := by decide +kernel
theorem dX11_folded_73 : decode cX11_folded 73 = .ok (.iconst 1, 1) := by decide +kernel
theorem dX11_folded_74 : decode cX11_folded 74 = .ok (.isub, 1) := by decide +kernel
theorem dX11_folded_75 : decode cX11_folded 75 = .ok (.iload 4, 2) := by decide +kernel
theorem dX11_folded_77 : decode cX11_folded 77 = .ok (.isub, 1) := by decide +kernel
theorem dX11_folded_78 : decode cX11_folded 78 = .ok (.ireturn, 1) := by decide +kernel
theorem dX11_look_0 : decode cX11_look 0 = .ok (.aload_n 0, 1) := by decide +kernel
theorem dX11_look_1 : decode cX11_look 1 = .ok (.aload_n 0, 1) := by decide +kernel
theorem dX11_look_2 : decode cX11_look 2 = .ok (.iload_n 1, 1) := by decide +kernel
theorem dX11_look_3 : decode cX11_look 3 = .ok (.invokevirtual 82, 3) := by decide +kernel
theorem dX11_look_6 : decode cX11_look 6 = .ok (.putfield 138, 3) := by decide +kernel
theorem dX11_look_9 : decode cX11_look 9 = .ok (.aload_n 0, 1) := by decide +kernel
theorem dX11_look_10 : decode cX11_look 10 = .ok (.aload_n 0, 1) := by decide +kernel
theorem dX11_look_11 : decode cX11_look 11 = .ok (.iload_n 1, 1) := by decide +kernel
theorem dX11_look_12 : decode cX11_look 12 = .ok (.invokevirtual 85, 3) := by decide +kernel
theorem dX11_look_15 : decode cX11_look 15 = .ok (.putfield 141, 3) := by decide +kernel
theorem dX11_look_18 : decode cX11_look 18 = .ok (.iconst 0, 1) := by decide +kernel
theorem dX11_look_19 : decode cX11_look 19 = .ok (.istore_n 2, 1) := by decide +kernel
theorem dX11_look_20 : decode cX11_look 20 = .ok (.iload_n 2, 1) := by decide +kernel
theorem dX11_look_21 : decode cX11_look 21 = .ok (.sipush 256, 3) := by decide +kernel
theorem dX11_look_24 : decode cX11_look 24 = .ok (.if_icmp .ge 29, 3) := by decide +kernel
theorem dX11_look_27 : decode cX11_look 27 = .ok (.aload_n 0, 1) := by decide +kernel
theorem dX11_look_28 : decode cX11_look 28 = .ok (.getfield 35, 3) := by decide +kernel
theorem dX11_look_31 : decode cX11_look 31 = .ok (.iload_n 2, 1) := by decide +kernel
theorem dX11_look_32 : decode cX11_look 32 = .ok (.aload_n 0, 1) := by decide +kernel
theorem dX11_look_33 : decode cX11_look 33 = .ok (.getfield 7, 3) := by decide +kernel
theorem dX11_look_36 : decode cX11_look 36 = .ok (.sipush 259, 3) := by decide +kernel
theorem dX11_look_39 : decode cX11_look 39 = .ok (.iload_n 1, 1) := by decide +kernel
theorem dX11_look_40 : decode cX11_look 40 = .ok (.imul, 1) := by decide +kernel
theorem dX11_look_41 : decode cX11_look 41 = .ok (.iconst 3, 1) := by decide +kernel
theorem dX11_look_42 : decode cX11_look 42 = .ok (.iadd, 1) := by decide +kernel
theorem dX11_look_43 : decode cX11_look 43 = .ok (.iload_n 2, 1) := by decide +kernel
theorem dX11_look_44 : decode cX11_look 44 = .ok (.iadd, 1) := by decide +kernel
theorem dX11_look_45 : decode cX11_look 45 = .ok (.iaload, 1) := by decide +kernel
theorem dX11_look_46 : decode cX11_look 46 = .ok (.iastore, 1) := by decide +kernel
theorem dX11_look_47 : decode cX11_look 47 = .ok (.iinc 2 1, 3) := by decide +kernel
theorem dX11_look_50 : decode cX11_look 50 = .ok (.goto (-30), 3) := by decide +kernel
theorem dX11_look_53 : decode cX11_look 53 = .ok (.return_, 1) := by decide +kernel
theorem dX11_seenAt_0 : decode cX11_seenAt 0 = .ok (.iload_n 3, 1) := by decide +kernel
theorem dX11_seenAt_1 : decode cX11_seenAt 1 = .ok (.iconst 3, 1) := by decide +kernel
theorem dX11_seenAt_2 : decode cX11_seenAt 2 = .ok (.if_icmp .ne 37, 3) := by decide +kernel
theorem dX11_seenAt_5 : decode cX11_seenAt 5 = .ok (.iload_n 1, 1) := by decide +kernel
theorem dX11_seenAt_6 : decode cX11_seenAt 6 = .ok (.i2l, 1) := by decide +kernel
theorem dX11_seenAt_7 : decode cX11_seenAt 7 = .ok (.lconst 0, 1) := by decide +kernel
theorem dX11_seenAt_8 : decode cX11_seenAt 8 = .ok (.aload_n 0, 1) := by decide +kernel
theorem dX11_seenAt_9 : decode cX11_seenAt 9 = .ok (.getfield 138, 3) := by decide +kernel
theorem dX11_seenAt_12 : decode cX11_seenAt 12 = .ok (.iconst 1, 1) := by decide +kernel
theorem dX11_seenAt_13 : decode cX11_seenAt 13 = .ok (.isub, 1) := by decide +kernel
theorem dX11_seenAt_14 : decode cX11_seenAt 14 = .ok (.i2l, 1) := by decide +kernel
theorem dX11_seenAt_15 : decode cX11_seenAt 15 = .ok (.invokestatic 71, 3) := by decide +kernel
theorem dX11_seenAt_18 : decode cX11_seenAt 18 = .ok (.ifCond .eq 19, 3) := by decide +kernel
theorem dX11_seenAt_21 : decode cX11_seenAt 21 = .ok (.iload_n 2, 1) := by decide +kernel
theorem dX11_seenAt_22 : decode cX11_seenAt 22 = .ok (.i2l, 1) := by decide +kernel
theorem dX11_seenAt_23 : decode cX11_seenAt 23 = .ok (.lconst 0, 1) := by decide +kernel
theorem dX11_seenAt_24 : decode cX11_seenAt 24 = .ok (.aload_n 0, 1) := by decide +kernel
theorem dX11_seenAt_25 : decode cX11_seenAt 25 = .ok (.getfield 141, 3) := by decide +kernel
theorem dX11_seenAt_28 : decode cX11_seenAt 28 = .ok (.iconst 1, 1) := by decide +kernel
theorem dX11_seenAt_29 : decode cX11_seenAt 29 = .ok (.isub, 1) := by decide +kernel
theorem dX11_seenAt_30 : decode cX11_seenAt 30 = .ok (.i2l, 1) := by decide +kernel
theorem dX11_seenAt_31 : decode cX11_seenAt 31 = .ok (.invokestatic 71, 3) := by decide +kernel
theorem dX11_seenAt_34 : decode cX11_seenAt 34 = .ok (.ifCond .ne 5, 3) := by decide +kernel
theorem dX11_seenAt_37 : decode cX11_seenAt 37 = .ok (.iconst 0, 1) := by decide +kernel
theorem dX11_seenAt_38 : decode cX11_seenAt 38 = .ok (.ireturn, 1) := by decide +kernel
theorem dX11_seenAt_39 : decode cX11_seenAt 39 = .ok (.aload_n 0, 1) := by decide +kernel
theorem dX11_seenAt_40 : decode cX11_seenAt 40 = .ok (.getfield 35, 3) := by decide +kernel
theorem dX11_seenAt_43 : decode cX11_seenAt 43 = .ok (.iload_n 2, 1) := by decide +kernel
theorem dX11_seenAt_44 : decode cX11_seenAt 44 = .ok (.aload_n 0, 1) := by decide +kernel
theorem dX11_seenAt_45 : decode cX11_seenAt 45 = .ok (.getfield 141, 3) := by decide +kernel
theorem dX11_seenAt_48 : decode cX11_seenAt 48 = .ok (.iload_n 3, 1) := by decide +kernel
theorem dX11_seenAt_49 : decode cX11_seenAt 49 = .ok (.invokestatic 144, 3) := by decide +kernel
theorem dX11_seenAt_52 : decode cX11_seenAt 52 = .ok (.aload_n 0, 1) := by decide +kernel
theorem dX11_seenAt_53 : decode cX11_seenAt 53 = .ok (.getfield 138, 3) := by decide +kernel
theorem dX11_seenAt_56 : decode cX11_seenAt 56 = .ok (.imul, 1) := by decide +kernel
theorem dX11_seenAt_57 : decode cX11_seenAt 57 = .ok (.iload_n 1, 1) := by decide +kernel
theorem dX11_seenAt_58 : decode cX11_seenAt 58 = .ok (.aload_n 0, 1) := by decide +kernel
theorem dX11_seenAt_59 : decode cX11_seenAt 59 = .ok (.getfield 138, 3) := by decide +kernel
theorem dX11_seenAt_62 : decode cX11_seenAt 62 = .ok (.iload_n 3, 1) := by decide +kernel
theorem dX11_seenAt_63 : decode cX11_seenAt 63 = .ok (.invokestatic 144, 3) := by decide +kernel
theorem dX11_seenAt_66 : decode cX11_seenAt 66 = .ok (.iadd, 1) := by decide +kernel
theorem dX11_seenAt_67 : decode cX11_seenAt 67 = .ok (.iaload, 1) := by decide +kernel
theorem dX11_seenAt_68 : decode cX11_seenAt 68 = .ok (.ireturn, 1) := by decide +kernel
theorem dX11_at_0 : decode cX11_at 0 = .ok (.iload_n 1, 1) := by decide +kernel
theorem dX11_at_1 : decode cX11_at 1 = .ok (.invokestatic 101, 3) := by decide +kernel
theorem dX11_at_4 : decode cX11_at 4 = .ok (.ifCond .eq 52, 3) := by decide +kernel
theorem dX11_at_7 : decode cX11_at 7 = .ok (.aload_n 0, 1) := by decide +kernel
theorem dX11_at_8 : decode cX11_at 8 = .ok (.iload_n 1, 1) := by decide +kernel
theorem dX11_at_9 : decode cX11_at 9 = .ok (.invokevirtual 117, 3) := by decide +kernel
theorem dX11_at_12 : decode cX11_at 12 = .ok (.ifCond .eq 44, 3) := by decide +kernel
theorem dX11_at_15 : decode cX11_at 15 = .ok (.iload_n 2, 1) := by decide +kernel
theorem dX11_at_16 : decode cX11_at 16 = .ok (.i2l, 1) := by decide +kernel
theorem dX11_at_17 : decode cX11_at 17 = .ok (.ldc2_w 147, 3) := by decide +kernel
theorem dX11_at_20 : decode cX11_at 20 = .ok (.ldc2_w 149, 3) := by decide +kernel
theorem dX11_at_23 : decode cX11_at 23 = .ok (.invokestatic 71, 3) := by decide +kernel
theorem dX11_at_26 : decode cX11_at 26 = .ok (.ifCond .eq 30, 3) := by decide +kernel
theorem dX11_at_29 : decode cX11_at 29 = .ok (.iload_n 3, 1) := by decide +kernel
theorem dX11_at_30 : decode cX11_at 30 = .ok (.i2l, 1) := by decide +kernel
theorem dX11_at_31 : decode cX11_at 31 = .ok (.ldc2_w 147, 3) := by decide +kernel
theorem dX11_at_34 : decode cX11_at 34 = .ok (.ldc2_w 149, 3) := by decide +kernel
theorem dX11_at_37 : decode cX11_at 37 = .ok (.invokestatic 71, 3) := by decide +kernel
theorem dX11_at_40 : decode cX11_at 40 = .ok (.ifCond .eq 16, 3) := by decide +kernel
theorem dX11_at_43 : decode cX11_at 43 = .ok (.iload 4, 2) := by decide +kernel
theorem dX11_at_45 : decode cX11_at 45 = .ok (.i2l, 1) := by decide +kernel
theorem dX11_at_46 : decode cX11_at 46 = .ok (.lconst 0, 1) := by decide +kernel
theorem dX11_at_47 : decode cX11_at 47 = .ok (.ldc2_w 151, 3) := by decide +kernel
theorem dX11_at_50 : decode cX11_at 50 = .ok (.invokestatic 71, 3) := by decide +kernel
theorem dX11_at_53 : decode cX11_at 53 = .ok (.ifCond .ne 6, 3) := by decide +kernel
theorem dX11_at_56 : decode cX11_at 56 = .ok (.ldc 109, 2) := by decide +kernel
theorem dX11_at_58 : decode cX11_at 58 = .ok (.ireturn, 1) := by decide +kernel
theorem dX11_at_59 : decode cX11_at 59 = .ok (.aload_n 0, 1) := by decide +kernel
theorem dX11_at_60 : decode cX11_at 60 = .ok (.iload_n 1, 1) := by decide +kernel
theorem dX11_at_61 : decode cX11_at 61 = .ok (.invokevirtual 153, 3) := by decide +kernel
theorem dX11_at_64 : decode cX11_at 64 = .ok (.aload_n 0, 1) := by decide +kernel
theorem dX11_at_65 : decode cX11_at 65 = .ok (.iload_n 2, 1) := by decide +kernel
theorem dX11_at_66 : decode cX11_at 66 = .ok (.iload_n 3, 1) := by decide +kernel
theorem dX11_at_67 : decode cX11_at 67 = .ok (.iload 4, 2) := by decide +kernel
theorem dX11_at_69 : decode cX11_at 69 = .ok (.invokevirtual 156, 3) := by decide +kernel
theorem dX11_at_72 : decode cX11_at 72 = .ok (.ireturn, 1) := by decide +kernel
theorem dX11_about_0 : decode cX11_about 0 = .ok (.iload_n 1, 1) := by decide +kernel
theorem dX11_about_1 : decode cX11_about 1 = .ok (.invokestatic 101, 3) := by decide +kernel
theorem dX11_about_4 : decode cX11_about 4 = .ok (.ifCond .eq 15, 3) := by decide +kernel
theorem dX11_about_7 : decode cX11_about 7 = .ok (.iload_n 2, 1) := by decide +kernel
theorem dX11_about_8 : decode cX11_about 8 = .ok (.i2l, 1) := by decide +kernel
theorem dX11_about_9 : decode cX11_about 9 = .ok (.lconst 0, 1) := by decide +kernel
theorem dX11_about_10 : decode cX11_about 10 = .ok (.ldc2_w 159, 3) := by decide +kernel
theorem dX11_about_13 : decode cX11_about 13 = .ok (.invokestatic 71, 3) := by decide +kernel
theorem dX11_about_16 : decode cX11_about 16 = .ok (.ifCond .ne 6, 3) := by decide +kernel
theorem dX11_about_19 : decode cX11_about 19 = .ok (.ldc 109, 2) := by decide +kernel
theorem dX11_about_21 : decode cX11_about 21 = .ok (.ireturn, 1) := by decide +kernel
theorem dX11_about_22 : decode cX11_about 22 = .ok (.aload_n 0, 1) := by decide +kernel
theorem dX11_about_23 : decode cX11_about 23 = .ok (.iload_n 1, 1) := by decide +kernel
theorem dX11_about_24 : decode cX11_about 24 = .ok (.invokevirtual 117, 3) := by decide +kernel
theorem dX11_about_27 : decode cX11_about 27 = .ok (.ifCond .ne 6, 3) := by decide +kernel
theorem dX11_about_30 : decode cX11_about 30 = .ok (.ldc 161, 2) := by decide +kernel
theorem dX11_about_32 : decode cX11_about 32 = .ok (.ireturn, 1) := by decide +kernel
theorem dX11_about_33 : decode cX11_about 33 = .ok (.iload_n 2, 1) := by decide +kernel
theorem dX11_about_34 : decode cX11_about 34 = .ok (.iconst 3, 1) := by decide +kernel
theorem dX11_about_35 : decode cX11_about 35 = .ok (.if_icmp .ge 16, 3) := by decide +kernel
theorem dX11_about_38 : decode cX11_about 38 = .ok (.aload_n 0, 1) := by decide +kernel
theorem dX11_about_39 : decode cX11_about 39 = .ok (.getfield 7, 3) := by decide +kernel
theorem dX11_about_42 : decode cX11_about 42 = .ok (.sipush 259, 3) := by decide +kernel
theorem dX11_about_45 : decode cX11_about 45 = .ok (.iload_n 1, 1) := by decide +kernel
theorem dX11_about_46 : decode cX11_about 46 = .ok (.imul, 1) := by decide +kernel
theorem dX11_about_47 : decode cX11_about 47 = .ok (.iload_n 2, 1) := by decide +kernel
theorem dX11_about_48 : decode cX11_about 48 = .ok (.iadd, 1) := by decide +kernel
theorem dX11_about_49 : decode cX11_about 49 = .ok (.iaload, 1) := by decide +kernel
theorem dX11_about_50 : decode cX11_about 50 = .ok (.ireturn, 1) := by decide +kernel
theorem dX11_about_51 : decode cX11_about 51 = .ok (.aload_n 0, 1) := by decide +kernel
theorem dX11_about_52 : decode cX11_about 52 = .ok (.getfield 7, 3) := by decide +kernel
theorem dX11_about_55 : decode cX11_about 55 = .ok (.sipush 259, 3) := by decide +kernel
theorem dX11_about_58 : decode cX11_about 58 = .ok (.iload_n 1, 1) := by decide +kernel
theorem dX11_about_59 : decode cX11_about 59 = .ok (.imul, 1) := by decide +kernel
theorem dX11_about_60 : decode cX11_about 60 = .ok (.iconst 3, 1) := by decide +kernel
theorem dX11_about_61 : decode cX11_about 61 = .ok (.iadd, 1) := by decide +kernel
theorem dX11_about_62 : decode cX11_about 62 = .ok (.iaload, 1) := by decide +kernel
theorem dX11_about_63 : decode cX11_about 63 = .ok (.istore_n 3, 1) := by decide +kernel
theorem dX11_about_64 : decode cX11_about 64 = .ok (.iload_n 3, 1) := by decide +kernel
theorem dX11_about_65 : decode cX11_about 65 = .ok (.istore 4, 2) := by decide +kernel
theorem dX11_about_67 : decode cX11_about 67 = .ok (.iconst 0, 1) := by decide +kernel
theorem dX11_about_68 : decode cX11_about 68 = .ok (.istore 5, 2) := by decide +kernel
theorem dX11_about_70 : decode cX11_about 70 = .ok (.iconst 0, 1) := by decide +kernel
theorem dX11_about_71 : decode cX11_about 71 = .ok (.istore 6, 2) := by decide +kernel
theorem dX11_about_73 : decode cX11_about 73 = .ok (.iload 6, 2) := by decide +kernel
theorem dX11_about_75 : decode cX11_about 75 = .ok (.aload_n 0, 1) := by decide +kernel
theorem dX11_about_76 : decode cX11_about 76 = .ok (.iload_n 1, 1) := by decide +kernel
theorem dX11_about_77 : decode cX11_about 77 = .ok (.invokevirtual 133, 3) := by decide +kernel
theorem dX11_about_80 : decode cX11_about 80 = .ok (.if_icmp .ge 62, 3) := by decide +kernel
theorem dX11_about_83 : decode cX11_about 83 = .ok (.aload_n 0, 1) := by decide +kernel
theorem dX11_about_84 : decode cX11_about 84 = .ok (.getfield 7, 3) := by decide +kernel
theorem dX11_about_87 : decode cX11_about 87 = .ok (.sipush 259, 3) := by decide +kernel
theorem dX11_about_90 : decode cX11_about 90 = .ok (.iload_n 1, 1) := by decide +kernel
theorem dX11_about_91 : decode cX11_about 91 = .ok (.imul, 1) := by decide +kernel
theorem dX11_about_92 : decode cX11_about 92 = .ok (.iconst 3, 1) := by decide +kernel
theorem dX11_about_93 : decode cX11_about 93 = .ok (.iadd, 1) := by decide +kernel
theorem dX11_about_94 : decode cX11_about 94 = .ok (.iload 6, 2) := by decide +kernel
theorem dX11_about_96 : decode cX11_about 96 = .ok (.iadd, 1) := by decide +kernel
theorem dX11_about_97 : decode cX11_about 97 = .ok (.iaload, 1) := by decide +kernel
theorem dX11_about_98 : decode cX11_about 98 = .ok (.istore 7, 2) := by decide +kernel
theorem dX11_about_100 : decode cX11_about 100 = .ok (.iload 7, 2) := by decide +kernel
theorem dX11_about_102 : decode cX11_about 102 = .ok (.iload_n 3, 1) := by decide +kernel
theorem dX11_about_103 : decode cX11_about 103 = .ok (.if_icmp .ge 8, 3) := by decide +kernel
theorem dX11_about_106 : decode cX11_about 106 = .ok (.iload 7, 2) := by decide +kernel
theorem dX11_about_108 : decode cX11_about 108 = .ok (.goto 4, 3) := by decide +kernel
theorem dX11_about_111 : decode cX11_about 111 = .ok (.iload_n 3, 1) := by decide +kernel
theorem dX11_about_112 : decode cX11_about 112 = .ok (.istore_n 3, 1) := by decide +kernel
theorem dX11_about_113 : decode cX11_about 113 = .ok (.iload 7, 2) := by decide +kernel
theorem dX11_about_115 : decode cX11_about 115 = .ok (.iload 4, 2) := by decide +kernel
theorem dX11_about_117 : decode cX11_about 117 = .ok (.if_icmp .le 8, 3) := by decide +kernel
theorem dX11_about_120 : decode cX11_about 120 = .ok (.iload 7, 2) := by decide +kernel
theorem dX11_about_122 : decode cX11_about 122 = .ok (.goto 5, 3) := by decide +kernel
theorem dX11_about_125 : decode cX11_about 125 = .ok (.iload 4, 2) := by decide +kernel
theorem dX11_about_127 : decode cX11_about 127 = .ok (.istore 4, 2) := by decide +kernel
theorem dX11_about_129 : decode cX11_about 129 = .ok (.iload 5, 2) := by decide +kernel
theorem dX11_about_131 : decode cX11_about 131 = .ok (.iload 7, 2) := by decide +kernel
theorem dX11_about_133 : decode cX11_about 133 = .ok (.iadd, 1) := by decide +kernel
theorem dX11_about_134 : decode cX11_about 134 = .ok (.istore 5, 2) := by decide +kernel
theorem dX11_about_136 : decode cX11_about 136 = .ok (.iinc 6 1, 3) := by decide +kernel
theorem dX11_about_139 : decode cX11_about 139 = .ok (.goto (-66), 3) := by decide +kernel
theorem dX11_about_142 : decode cX11_about 142 = .ok (.iload_n 2, 1) := by decide +kernel
theorem dX11_about_143 : decode cX11_about 143 = .ok (.iconst 3, 1) := by decide +kernel
theorem dX11_about_144 : decode cX11_about 144 = .ok (.if_icmp .ne 7, 3) := by decide +kernel
theorem dX11_about_147 : decode cX11_about 147 = .ok (.iload_n 3, 1) := by decide +kernel
theorem dX11_about_148 : decode cX11_about 148 = .ok (.goto 15, 3) := by decide +kernel
theorem dX11_about_151 : decode cX11_about 151 = .ok (.iload_n 2, 1) := by decide +kernel
theorem dX11_about_152 : decode cX11_about 152 = .ok (.iconst 4, 1) := by decide +kernel
theorem dX11_about_153 : decode cX11_about 153 = .ok (.if_icmp .ne 8, 3) := by decide +kernel
theorem dX11_about_156 : decode cX11_about 156 = .ok (.iload 4, 2) := by decide +kernel
theorem dX11_about_158 : decode cX11_about 158 = .ok (.goto 5, 3) := by decide +kernel
theorem dX11_about_161 : decode cX11_about 161 = .ok (.iload 5, 2) := by decide +kernel
theorem dX11_about_163 : decode cX11_about 163 = .ok (.ireturn, 1) := by decide +kernel
theorem dX11_convert_0 : decode cX11_convert 0 = .ok (.iload_n 1, 1) := by decide +kernel
theorem dX11_convert_1 : decode cX11_convert 1 = .ok (.invokestatic 101, 3) := by decide +kernel
theorem dX11_convert_4 : decode cX11_convert 4 = .ok (.ifCond .eq 31, 3) := by decide +kernel
theorem dX11_convert_7 : decode cX11_convert 7 = .ok (.iload_n 2, 1) := by decide +kernel
theorem dX11_convert_8 : decode cX11_convert 8 = .ok (.invokestatic 101, 3) := by decide +kernel
theorem dX11_convert_11 : decode cX11_convert 11 = .ok (.ifCond .eq 24, 3) := by decide +kernel
theorem dX11_convert_14 : decode cX11_convert 14 = .ok (.iload_n 3, 1) := by decide +kernel
theorem dX11_convert_15 : decode cX11_convert 15 = .ok (.i2l, 1) := by decide +kernel
theorem dX11_convert_16 : decode cX11_convert 16 = .ok (.lconst 0, 1) := by decide +kernel
theorem dX11_convert_17 : decode cX11_convert 17 = .ok (.lconst 1, 1) := by decide +kernel
theorem dX11_convert_18 : decode cX11_convert 18 = .ok (.invokestatic 71, 3) := by decide +kernel
theorem dX11_convert_21 : decode cX11_convert 21 = .ok (.ifCond .eq 14, 3) := by decide +kernel
theorem dX11_convert_24 : decode cX11_convert 24 = .ok (.iload 4, 2) := by decide +kernel
theorem dX11_convert_26 : decode cX11_convert 26 = .ok (.i2l, 1) := by decide +kernel
theorem dX11_convert_27 : decode cX11_convert 27 = .ok (.lconst 0, 1) := by decide +kernel
theorem dX11_convert_28 : decode cX11_convert 28 = .ok (.lconst 1, 1) := by decide +kernel
theorem dX11_convert_29 : decode cX11_convert 29 = .ok (.invokestatic 71, 3) := by decide +kernel
theorem dX11_convert_32 : decode cX11_convert 32 = .ok (.ifCond .ne 6, 3) := by decide +kernel
theorem dX11_convert_35 : decode cX11_convert 35 = .ok (.ldc 109, 2) := by decide +kernel
theorem dX11_convert_37 : decode cX11_convert 37 = .ok (.ireturn, 1) := by decide +kernel
theorem dX11_convert_38 : decode cX11_convert 38 = .ok (.aload_n 0, 1) := by decide +kernel
theorem dX11_convert_39 : decode cX11_convert 39 = .ok (.iload_n 1, 1) := by decide +kernel
theorem dX11_convert_40 : decode cX11_convert 40 = .ok (.invokevirtual 117, 3) := by decide +kernel
theorem dX11_convert_43 : decode cX11_convert 43 = .ok (.ifCond .ne 6, 3) := by decide +kernel
theorem dX11_convert_46 : decode cX11_convert 46 = .ok (.ldc 96, 2) := by decide +kernel
theorem dX11_convert_48 : decode cX11_convert 48 = .ok (.ireturn, 1) := by decide +kernel
theorem dX11_convert_49 : decode cX11_convert 49 = .ok (.aload_n 0, 1) := by decide +kernel
theorem dX11_convert_50 : decode cX11_convert 50 = .ok (.invokevirtual 110, 3) := by decide +kernel
theorem dX11_convert_53 : decode cX11_convert 53 = .ok (.aload_n 0, 1) := by decide +kernel
theorem dX11_convert_54 : decode cX11_convert 54 = .ok (.iload_n 1, 1) := by decide +kernel
theorem dX11_convert_55 : decode cX11_convert 55 = .ok (.invokevirtual 153, 3) := by decide +kernel
theorem dX11_convert_58 : decode cX11_convert 58 = .ok (.aload_n 0, 1) := by decide +kernel
theorem dX11_convert_59 : decode cX11_convert 59 = .ok (.iload_n 2, 1) := by decide +kernel
theorem dX11_convert_60 : decode cX11_convert 60 = .ok (.iload_n 3, 1) := by decide +kernel
theorem dX11_convert_61 : decode cX11_convert 61 = .ok (.aload_n 0, 1) := by decide +kernel
theorem dX11_convert_62 : decode cX11_convert 62 = .ok (.getfield 138, 3) := by decide +kernel
theorem dX11_convert_65 : decode cX11_convert 65 = .ok (.aload_n 0, 1) := by decide +kernel
theorem dX11_convert_66 : decode cX11_convert 66 = .ok (.getfield 141, 3) := by decide +kernel
theorem dX11_convert_69 : decode cX11_convert 69 = .ok (.invokevirtual 113, 3) := by decide +kernel
theorem dX11_convert_72 : decode cX11_convert 72 = .ok (.iconst 0, 1) := by decide +kernel
theorem dX11_convert_73 : decode cX11_convert 73 = .ok (.istore 5, 2) := by decide +kernel
theorem dX11_convert_75 : decode cX11_convert 75 = .ok (.iconst 0, 1) := by decide +kernel
theorem dX11_convert_76 : decode cX11_convert 76 = .ok (.istore 6, 2) := by decide +kernel
theorem dX11_convert_78 : decode cX11_convert 78 = .ok (.iload 6, 2) := by decide +kernel
theorem dX11_convert_80 : decode cX11_convert 80 = .ok (.aload_n 0, 1) := by decide +kernel
theorem dX11_convert_81 : decode cX11_convert 81 = .ok (.getfield 138, 3) := by decide +kernel
theorem dX11_convert_84 : decode cX11_convert 84 = .ok (.aload_n 0, 1) := by decide +kernel
theorem dX11_convert_85 : decode cX11_convert 85 = .ok (.getfield 141, 3) := by decide +kernel
theorem dX11_convert_88 : decode cX11_convert 88 = .ok (.imul, 1) := by decide +kernel
theorem dX11_convert_89 : decode cX11_convert 89 = .ok (.if_icmp .ge 95, 3) := by decide +kernel
theorem dX11_convert_92 : decode cX11_convert 92 = .ok (.iload 4, 2) := by decide +kernel
theorem dX11_convert_94 : decode cX11_convert 94 = .ok (.ifCond .ne 18, 3) := by decide +kernel
theorem dX11_convert_97 : decode cX11_convert 97 = .ok (.iload_n 3, 1) := by decide +kernel
theorem dX11_convert_98 : decode cX11_convert 98 = .ok (.aload_n 0, 1) := by decide +kernel
theorem dX11_convert_99 : decode cX11_convert 99 = .ok (.getfield 35, 3) := by decide +kernel
theorem dX11_convert_102 : decode cX11_convert 102 = .ok (.iload 6, 2) := by decide +kernel
theorem dX11_convert_104 : decode cX11_convert 104 = .ok (.iaload, 1) := by decide +kernel
theorem dX11_convert_105 : decode cX11_convert 105 = .ok (.i2l, 1) := by decide +kernel
theorem dX11_convert_106 : decode cX11_convert 106 = .ok (.invokestatic 162, 3) := by decide +kernel
theorem dX11_convert_109 : decode cX11_convert 109 = .ok (.goto 28, 3) := by decide +kernel
theorem dX11_convert_112 : decode cX11_convert 112 = .ok (.iload_n 3, 1) := by decide +kernel
theorem dX11_convert_113 : decode cX11_convert 113 = .ok (.ifCond .ne 17, 3) := by decide +kernel
theorem dX11_convert_116 : decode cX11_convert 116 = .ok (.aload_n 0, 1) := by decide +kernel
theorem dX11_convert_117 : decode cX11_convert 117 = .ok (.getfield 35, 3) := by decide +kernel
theorem dX11_convert_120 : decode cX11_convert 120 = .ok (.iload 6, 2) := by decide +kernel
theorem dX11_convert_122 : decode cX11_convert 122 = .ok (.iaload, 1) := by decide +kernel
theorem dX11_convert_123 : decode cX11_convert 123 = .ok (.sipush 255, 3) := by decide +kernel
theorem dX11_convert_126 : decode cX11_convert 126 = .ok (.iand, 1) := by decide +kernel
theorem dX11_convert_127 : decode cX11_convert 127 = .ok (.goto 10, 3) := by decide +kernel
theorem dX11_convert_130 : decode cX11_convert 130 = .ok (.aload_n 0, 1) := by decide +kernel
theorem dX11_convert_131 : decode cX11_convert 131 = .ok (.getfield 35, 3) := by decide +kernel
theorem dX11_convert_134 : decode cX11_convert 134 = .ok (.iload 6, 2) := by decide +kernel
theorem dX11_convert_136 : decode cX11_convert 136 = .ok (.iaload, 1) := by decide +kernel
theorem dX11_convert_137 : decode cX11_convert 137 = .ok (.istore 7, 2) := by decide +kernel
theorem dX11_convert_139 : decode cX11_convert 139 = .ok (.aload_n 0, 1) := by decide +kernel
theorem dX11_convert_140 : decode cX11_convert 140 = .ok (.getfield 7, 3) := by decide +kernel
theorem dX11_convert_143 : decode cX11_convert 143 = .ok (.sipush 259, 3) := by decide +kernel
theorem dX11_convert_146 : decode cX11_convert 146 = .ok (.iload_n 2, 1) := by decide +kernel
theorem dX11_convert_147 : decode cX11_convert 147 = .ok (.imul, 1) := by decide +kernel
theorem dX11_convert_148 : decode cX11_convert 148 = .ok (.iconst 3, 1) := by decide +kernel
theorem dX11_convert_149 : decode cX11_convert 149 = .ok (.iadd, 1) := by decide +kernel
theorem dX11_convert_150 : decode cX11_convert 150 = .ok (.iload 6, 2) := by decide +kernel
theorem dX11_convert_152 : decode cX11_convert 152 = .ok (.iadd, 1) := by decide +kernel
theorem dX11_convert_153 : decode cX11_convert 153 = .ok (.iload 7, 2) := by decide +kernel
theorem dX11_convert_155 : decode cX11_convert 155 = .ok (.iastore, 1) := by decide +kernel
theorem dX11_convert_156 : decode cX11_convert 156 = .ok (.iload 5, 2) := by decide +kernel
theorem dX11_convert_158 : decode cX11_convert 158 = .ok (.iload 7, 2) := by decide +kernel
theorem dX11_convert_160 : decode cX11_convert 160 = .ok (.aload_n 0, 1) := by decide +kernel
theorem dX11_convert_161 : decode cX11_convert 161 = .ok (.getfield 35, 3) := by decide +kernel
theorem dX11_convert_164 : decode cX11_convert 164 = .ok (.iload 6, 2) := by decide +kernel
theorem dX11_convert_166 : decode cX11_convert 166 = .ok (.iaload, 1) := by decide +kernel
theorem dX11_convert_167 : decode cX11_convert 167 = .ok (.if_icmp .eq 7, 3) := by decide +kernel
theorem dX11_convert_170 : decode cX11_convert 170 = .ok (.iconst 1, 1) := by decide +kernel
theorem dX11_convert_171 : decode cX11_convert 171 = .ok (.goto 4, 3) := by decide +kernel
theorem dX11_convert_174 : decode cX11_convert 174 = .ok (.iconst 0, 1) := by decide +kernel
theorem dX11_convert_175 : decode cX11_convert 175 = .ok (.iadd, 1) := by decide +kernel
theorem dX11_convert_176 : decode cX11_convert 176 = .ok (.istore 5, 2) := by decide +kernel
theorem dX11_convert_178 : decode cX11_convert 178 = .ok (.iinc 6 1, 3) := by decide +kernel
theorem dX11_convert_181 : decode cX11_convert 181 = .ok (.goto (-103), 3) := by decide +kernel
theorem dX11_convert_184 : decode cX11_convert 184 = .ok (.iload 5, 2) := by decide +kernel
theorem dX11_convert_186 : decode cX11_convert 186 = .ok (.ireturn, 1) := by decide +kernel
theorem dX11_cut_0 : decode cX11_cut 0 = .ok (.iload_n 1, 1) := by decide +kernel
theorem dX11_cut_1 : decode cX11_cut 1 = .ok (.invokestatic 101, 3) := by decide +kernel
theorem dX11_cut_4 : decode cX11_cut 4 = .ok (.ifCond .eq 78, 3) := by decide +kernel
theorem dX11_cut_7 : decode cX11_cut 7 = .ok (.iload_n 2, 1) := by decide +kernel
theorem dX11_cut_8 : decode cX11_cut 8 = .ok (.invokestatic 101, 3) := by decide +kernel
theorem dX11_cut_11 : decode cX11_cut 11 = .ok (.ifCond .eq 71, 3) := by decide +kernel
theorem dX11_cut_14 : decode cX11_cut 14 = .ok (.iload_n 3, 1) := by decide +kernel
theorem dX11_cut_15 : decode cX11_cut 15 = .ok (.i2l, 1) := by decide +kernel
theorem dX11_cut_16 : decode cX11_cut 16 = .ok (.ldc2_w 166, 3) := by decide +kernel
theorem dX11_cut_19 : decode cX11_cut 19 = .ok (.ldc2_w 168, 3) := by decide +kernel
theorem dX11_cut_22 : decode cX11_cut 22 = .ok (.invokestatic 71, 3) := by decide +kernel
theorem dX11_cut_25 : decode cX11_cut 25 = .ok (.ifCond .eq 57, 3) := by decide +kernel
theorem dX11_cut_28 : decode cX11_cut 28 = .ok (.iload 4, 2) := by decide +kernel
theorem dX11_cut_30 : decode cX11_cut 30 = .ok (.i2l, 1) := by decide +kernel
theorem dX11_cut_31 : decode cX11_cut 31 = .ok (.ldc2_w 166, 3) := by decide +kernel
theorem dX11_cut_34 : decode cX11_cut 34 = .ok (.ldc2_w 168, 3) := by decide +kernel
theorem dX11_cut_37 : decode cX11_cut 37 = .ok (.invokestatic 71, 3) := by decide +kernel
theorem dX11_cut_40 : decode cX11_cut 40 = .ok (.ifCond .eq 42, 3) := by decide +kernel
theorem dX11_cut_43 : decode cX11_cut 43 = .ok (.iload 5, 2) := by decide +kernel
theorem dX11_cut_45 : decode cX11_cut 45 = .ok (.i2l, 1) := by decide +kernel
theorem dX11_cut_46 : decode cX11_cut 46 = .ok (.lconst 1, 1) := by decide +kernel
theorem dX11_cut_47 : decode cX11_cut 47 = .ok (.ldc2_w 107, 3) := by decide +kernel
theorem dX11_cut_50 : decode cX11_cut 50 = .ok (.invokestatic 71, 3) := by decide +kernel
theorem dX11_cut_53 : decode cX11_cut 53 = .ok (.ifCond .eq 29, 3) := by decide +kernel
theorem dX11_cut_56 : decode cX11_cut 56 = .ok (.iload 6, 2) := by decide +kernel
theorem dX11_cut_58 : decode cX11_cut 58 = .ok (.i2l, 1) := by decide +kernel
theorem dX11_cut_59 : decode cX11_cut 59 = .ok (.lconst 1, 1) := by decide +kernel
theorem dX11_cut_60 : decode cX11_cut 60 = .ok (.ldc2_w 107, 3) := by decide +kernel
theorem dX11_cut_63 : decode cX11_cut 63 = .ok (.invokestatic 71, 3) := by decide +kernel
theorem dX11_cut_66 : decode cX11_cut 66 = .ok (.ifCond .eq 16, 3) := by decide +kernel
theorem dX11_cut_69 : decode cX11_cut 69 = .ok (.iload 7, 2) := by decide +kernel
theorem dX11_cut_71 : decode cX11_cut 71 = .ok (.i2l, 1) := by decide +kernel
theorem dX11_cut_72 : decode cX11_cut 72 = .ok (.lconst 0, 1) := by decide +kernel
theorem dX11_cut_73 : decode cX11_cut 73 = .ok (.ldc2_w 151, 3) := by decide +kernel
theorem dX11_cut_76 : decode cX11_cut 76 = .ok (.invokestatic 71, 3) := by decide +kernel
theorem dX11_cut_79 : decode cX11_cut 79 = .ok (.ifCond .ne 6, 3) := by decide +kernel
theorem dX11_cut_82 : decode cX11_cut 82 = .ok (.ldc 109, 2) := by decide +kernel
theorem dX11_cut_84 : decode cX11_cut 84 = .ok (.ireturn, 1) := by decide +kernel
theorem dX11_cut_85 : decode cX11_cut 85 = .ok (.aload_n 0, 1) := by decide +kernel
theorem dX11_cut_86 : decode cX11_cut 86 = .ok (.iload_n 1, 1) := by decide +kernel
theorem dX11_cut_87 : decode cX11_cut 87 = .ok (.invokevirtual 117, 3) := by decide +kernel
theorem dX11_cut_90 : decode cX11_cut 90 = .ok (.ifCond .ne 6, 3) := by decide +kernel
theorem dX11_cut_93 : decode cX11_cut 93 = .ok (.ldc 96, 2) := by decide +kernel
theorem dX11_cut_95 : decode cX11_cut 95 = .ok (.ireturn, 1) := by decide +kernel
theorem dX11_cut_96 : decode cX11_cut 96 = .ok (.aload_n 0, 1) := by decide +kernel
theorem dX11_cut_97 : decode cX11_cut 97 = .ok (.invokevirtual 110, 3) := by decide +kernel
theorem dX11_cut_100 : decode cX11_cut 100 = .ok (.aload_n 0, 1) := by decide +kernel
theorem dX11_cut_101 : decode cX11_cut 101 = .ok (.iload_n 1, 1) := by decide +kernel
theorem dX11_cut_102 : decode cX11_cut 102 = .ok (.invokevirtual 153, 3) := by decide +kernel
theorem dX11_cut_105 : decode cX11_cut 105 = .ok (.aload_n 0, 1) := by decide +kernel
theorem dX11_cut_106 : decode cX11_cut 106 = .ok (.iload_n 2, 1) := by decide +kernel
theorem dX11_cut_107 : decode cX11_cut 107 = .ok (.aload_n 0, 1) := by decide +kernel
theorem dX11_cut_108 : decode cX11_cut 108 = .ok (.iload_n 1, 1) := by decide +kernel
theorem dX11_cut_109 : decode cX11_cut 109 = .ok (.invokevirtual 124, 3) := by decide +kernel
theorem dX11_cut_112 : decode cX11_cut 112 = .ok (.iload 5, 2) := by decide +kernel
theorem dX11_cut_114 : decode cX11_cut 114 = .ok (.iload 6, 2) := by decide +kernel
theorem dX11_cut_116 : decode cX11_cut 116 = .ok (.invokevirtual 113, 3) := by decide +kernel
theorem dX11_cut_119 : decode cX11_cut 119 = .ok (.iconst 0, 1) := by decide +kernel
theorem dX11_cut_120 : decode cX11_cut 120 = .ok (.istore 8, 2) := by decide +kernel
theorem dX11_cut_122 : decode cX11_cut 122 = .ok (.iload 8, 2) := by decide +kernel
theorem dX11_cut_124 : decode cX11_cut 124 = .ok (.iload 5, 2) := by decide +kernel
theorem dX11_cut_126 : decode cX11_cut 126 = .ok (.iload 6, 2) := by decide +kernel
theorem dX11_cut_128 : decode cX11_cut 128 = .ok (.imul, 1) := by decide +kernel
theorem dX11_cut_129 : decode cX11_cut 129 = .ok (.if_icmp .ge 45, 3) := by decide +kernel
theorem dX11_cut_132 : decode cX11_cut 132 = .ok (.aload_n 0, 1) := by decide +kernel
theorem dX11_cut_133 : decode cX11_cut 133 = .ok (.getfield 7, 3) := by decide +kernel
theorem dX11_cut_136 : decode cX11_cut 136 = .ok (.sipush 259, 3) := by decide +kernel
theorem dX11_cut_139 : decode cX11_cut 139 = .ok (.iload_n 2, 1) := by decide +kernel
theorem dX11_cut_140 : decode cX11_cut 140 = .ok (.imul, 1) := by decide +kernel
theorem dX11_cut_141 : decode cX11_cut 141 = .ok (.iconst 3, 1) := by decide +kernel
theorem dX11_cut_142 : decode cX11_cut 142 = .ok (.iadd, 1) := by decide +kernel
theorem dX11_cut_143 : decode cX11_cut 143 = .ok (.iload 8, 2) := by decide +kernel
theorem dX11_cut_145 : decode cX11_cut 145 = .ok (.iadd, 1) := by decide +kernel
theorem dX11_cut_146 : decode cX11_cut 146 = .ok (.aload_n 0, 1) := by decide +kernel
theorem dX11_cut_147 : decode cX11_cut 147 = .ok (.iload_n 3, 1) := by decide +kernel
theorem dX11_cut_148 : decode cX11_cut 148 = .ok (.iload 8, 2) := by decide +kernel
theorem dX11_cut_150 : decode cX11_cut 150 = .ok (.iload 5, 2) := by decide +kernel
theorem dX11_cut_152 : decode cX11_cut 152 = .ok (.irem, 1) := by decide +kernel
theorem dX11_cut_153 : decode cX11_cut 153 = .ok (.iadd, 1) := by decide +kernel
theorem dX11_cut_154 : decode cX11_cut 154 = .ok (.iload 4, 2) := by decide +kernel
theorem dX11_cut_156 : decode cX11_cut 156 = .ok (.iload 8, 2) := by decide +kernel
theorem dX11_cut_158 : decode cX11_cut 158 = .ok (.iload 5, 2) := by decide +kernel
theorem dX11_cut_160 : decode cX11_cut 160 = .ok (.idiv, 1) := by decide +kernel
theorem dX11_cut_161 : decode cX11_cut 161 = .ok (.iadd, 1) := by decide +kernel
theorem dX11_cut_162 : decode cX11_cut 162 = .ok (.iload 7, 2) := by decide +kernel
theorem dX11_cut_164 : decode cX11_cut 164 = .ok (.invokevirtual 156, 3) := by decide +kernel
theorem dX11_cut_167 : decode cX11_cut 167 = .ok (.iastore, 1) := by decide +kernel
theorem dX11_cut_168 : decode cX11_cut 168 = .ok (.iinc 8 1, 3) := by decide +kernel
theorem dX11_cut_171 : decode cX11_cut 171 = .ok (.goto (-49), 3) := by decide +kernel
theorem dX11_cut_174 : decode cX11_cut 174 = .ok (.iconst 0, 1) := by decide +kernel
theorem dX11_cut_175 : decode cX11_cut 175 = .ok (.ireturn, 1) := by decide +kernel
theorem dX11_turn_0 : decode cX11_turn 0 = .ok (.iload_n 1, 1) := by decide +kernel
theorem dX11_turn_1 : decode cX11_turn 1 = .ok (.invokestatic 101, 3) := by decide +kernel
theorem dX11_turn_4 : decode cX11_turn 4 = .ok (.ifCond .eq 22, 3) := by decide +kernel
theorem dX11_turn_7 : decode cX11_turn 7 = .ok (.iload_n 2, 1) := by decide +kernel
theorem dX11_turn_8 : decode cX11_turn 8 = .ok (.invokestatic 101, 3) := by decide +kernel
theorem dX11_turn_11 : decode cX11_turn 11 = .ok (.ifCond .eq 15, 3) := by decide +kernel
theorem dX11_turn_14 : decode cX11_turn 14 = .ok (.iload_n 3, 1) := by decide +kernel
theorem dX11_turn_15 : decode cX11_turn 15 = .ok (.i2l, 1) := by decide +kernel
theorem dX11_turn_16 : decode cX11_turn 16 = .ok (.lconst 0, 1) := by decide +kernel
theorem dX11_turn_17 : decode cX11_turn 17 = .ok (.ldc2_w 69, 3) := by decide +kernel
theorem dX11_turn_20 : decode cX11_turn 20 = .ok (.invokestatic 71, 3) := by decide +kernel
theorem dX11_turn_23 : decode cX11_turn 23 = .ok (.ifCond .ne 6, 3) := by decide +kernel
theorem dX11_turn_26 : decode cX11_turn 26 = .ok (.ldc 109, 2) := by decide +kernel
theorem dX11_turn_28 : decode cX11_turn 28 = .ok (.ireturn, 1) := by decide +kernel
theorem dX11_turn_29 : decode cX11_turn 29 = .ok (.aload_n 0, 1) := by decide +kernel
theorem dX11_turn_30 : decode cX11_turn 30 = .ok (.iload_n 1, 1) := by decide +kernel
theorem dX11_turn_31 : decode cX11_turn 31 = .ok (.invokevirtual 117, 3) := by decide +kernel
theorem dX11_turn_34 : decode cX11_turn 34 = .ok (.ifCond .ne 6, 3) := by decide +kernel
theorem dX11_turn_37 : decode cX11_turn 37 = .ok (.ldc 96, 2) := by decide +kernel
theorem dX11_turn_39 : decode cX11_turn 39 = .ok (.ireturn, 1) := by decide +kernel
theorem dX11_turn_40 : decode cX11_turn 40 = .ok (.aload_n 0, 1) := by decide +kernel
theorem dX11_turn_41 : decode cX11_turn 41 = .ok (.invokevirtual 110, 3) := by decide +kernel
theorem dX11_turn_44 : decode cX11_turn 44 = .ok (.aload_n 0, 1) := by decide +kernel
theorem dX11_turn_45 : decode cX11_turn 45 = .ok (.iload_n 1, 1) := by decide +kernel
theorem dX11_turn_46 : decode cX11_turn 46 = .ok (.invokevirtual 153, 3) := by decide +kernel
theorem dX11_turn_49 : decode cX11_turn 49 = .ok (.aload_n 0, 1) := by decide +kernel
theorem dX11_turn_50 : decode cX11_turn 50 = .ok (.getfield 138, 3) := by decide +kernel
theorem dX11_turn_53 : decode cX11_turn 53 = .ok (.istore 4, 2) := by decide +kernel
theorem dX11_turn_55 : decode cX11_turn 55 = .ok (.aload_n 0, 1) := by decide +kernel
theorem dX11_turn_56 : decode cX11_turn 56 = .ok (.getfield 141, 3) := by decide +kernel
theorem dX11_turn_59 : decode cX11_turn 59 = .ok (.istore 5, 2) := by decide +kernel
theorem dX11_turn_61 : decode cX11_turn 61 = .ok (.iload_n 3, 1) := by decide +kernel
theorem dX11_turn_62 : decode cX11_turn 62 = .ok (.iconst 2, 1) := by decide +kernel
theorem dX11_turn_63 : decode cX11_turn 63 = .ok (.irem, 1) := by decide +kernel
theorem dX11_turn_64 : decode cX11_turn 64 = .ok (.iconst 1, 1) := by decide +kernel
theorem dX11_turn_65 : decode cX11_turn 65 = .ok (.if_icmp .ne 7, 3) := by decide +kernel
theorem dX11_turn_68 : decode cX11_turn 68 = .ok (.iconst 1, 1) := by decide +kernel
theorem dX11_turn_69 : decode cX11_turn 69 = .ok (.goto 4, 3) := by decide +kernel
theorem dX11_turn_72 : decode cX11_turn 72 = .ok (.iconst 0, 1) := by decide +kernel
theorem dX11_turn_73 : decode cX11_turn 73 = .ok (.istore 6, 2) := by decide +kernel
theorem dX11_turn_75 : decode cX11_turn 75 = .ok (.aload_n 0, 1) := by decide +kernel
theorem dX11_turn_76 : decode cX11_turn 76 = .ok (.iload_n 2, 1) := by decide +kernel
theorem dX11_turn_77 : decode cX11_turn 77 = .ok (.aload_n 0, 1) := by decide +kernel
theorem dX11_turn_78 : decode cX11_turn 78 = .ok (.iload_n 1, 1) := by decide +kernel
theorem dX11_turn_79 : decode cX11_turn 79 = .ok (.invokevirtual 124, 3) := by decide +kernel
theorem dX11_turn_82 : decode cX11_turn 82 = .ok (.iload 6, 2) := by decide +kernel
theorem dX11_turn_84 : decode cX11_turn 84 = .ok (.ifCond .eq 8, 3) := by decide +kernel
theorem dX11_turn_87 : decode cX11_turn 87 = .ok (.iload 5, 2) := by decide +kernel
theorem dX11_turn_89 : decode cX11_turn 89 = .ok (.goto 5, 3) := by decide +kernel
theorem dX11_turn_92 : decode cX11_turn 92 = .ok (.iload 4, 2) := by decide +kernel
theorem dX11_turn_94 : decode cX11_turn 94 = .ok (.iload 6, 2) := by decide +kernel
theorem dX11_turn_96 : decode cX11_turn 96 = .ok (.ifCond .eq 8, 3) := by decide +kernel
theorem dX11_turn_99 : decode cX11_turn 99 = .ok (.iload 4, 2) := by decide +kernel
theorem dX11_turn_101 : decode cX11_turn 101 = .ok (.goto 5, 3) := by decide +kernel
theorem dX11_turn_104 : decode cX11_turn 104 = .ok (.iload 5, 2) := by decide +kernel
theorem dX11_turn_106 : decode cX11_turn 106 = .ok (.invokevirtual 113, 3) := by decide +kernel
theorem dX11_turn_109 : decode cX11_turn 109 = .ok (.iconst 0, 1) := by decide +kernel
theorem dX11_turn_110 : decode cX11_turn 110 = .ok (.istore 7, 2) := by decide +kernel
theorem dX11_turn_112 : decode cX11_turn 112 = .ok (.iload 7, 2) := by decide +kernel
theorem dX11_turn_114 : decode cX11_turn 114 = .ok (.iload 5, 2) := by decide +kernel
theorem dX11_turn_116 : decode cX11_turn 116 = .ok (.if_icmp .ge 169, 3) := by decide +kernel
theorem dX11_turn_119 : decode cX11_turn 119 = .ok (.iconst 0, 1) := by decide +kernel
theorem dX11_turn_120 : decode cX11_turn 120 = .ok (.istore 8, 2) := by decide +kernel
theorem dX11_turn_122 : decode cX11_turn 122 = .ok (.iload 8, 2) := by decide +kernel
theorem dX11_turn_124 : decode cX11_turn 124 = .ok (.iload 4, 2) := by decide +kernel
theorem dX11_turn_126 : decode cX11_turn 126 = .ok (.if_icmp .ge 153, 3) := by decide +kernel
theorem dX11_turn_129 : decode cX11_turn 129 = .ok (.iload_n 3, 1) := by decide +kernel
theorem dX11_turn_130 : decode cX11_turn 130 = .ok (.iconst 4, 1) := by decide +kernel
theorem dX11_turn_131 : decode cX11_turn 131 = .ok (.if_icmp .ge 8, 3) := by decide +kernel
theorem dX11_turn_134 : decode cX11_turn 134 = .ok (.iload 8, 2) := by decide +kernel
theorem dX11_turn_136 : decode cX11_turn 136 = .ok (.goto 10, 3) := by decide +kernel
theorem dX11_turn_139 : decode cX11_turn 139 = .ok (.iload 4, 2) := by decide +kernel
theorem dX11_turn_141 : decode cX11_turn 141 = .ok (.iconst 1, 1) := by decide +kernel
theorem dX11_turn_142 : decode cX11_turn 142 = .ok (.isub, 1) := by decide +kernel
theorem dX11_turn_143 : decode cX11_turn 143 = .ok (.iload 8, 2) := by decide +kernel
theorem dX11_turn_145 : decode cX11_turn 145 = .ok (.isub, 1) := by decide +kernel
theorem dX11_turn_146 : decode cX11_turn 146 = .ok (.istore 9, 2) := by decide +kernel
theorem dX11_turn_148 : decode cX11_turn 148 = .ok (.iload_n 3, 1) := by decide +kernel
theorem dX11_turn_149 : decode cX11_turn 149 = .ok (.iconst 4, 1) := by decide +kernel
theorem dX11_turn_150 : decode cX11_turn 150 = .ok (.irem, 1) := by decide +kernel
theorem dX11_turn_151 : decode cX11_turn 151 = .ok (.ifCond .ne 8, 3) := by decide +kernel
theorem dX11_turn_154 : decode cX11_turn 154 = .ok (.iload 9, 2) := by decide +kernel
theorem dX11_turn_156 : decode cX11_turn 156 = .ok (.goto 39, 3) := by decide +kernel
theorem dX11_turn_159 : decode cX11_turn 159 = .ok (.iload_n 3, 1) := by decide +kernel
theorem dX11_turn_160 : decode cX11_turn 160 = .ok (.iconst 4, 1) := by decide +kernel
theorem dX11_turn_161 : decode cX11_turn 161 = .ok (.irem, 1) := by decide +kernel
theorem dX11_turn_162 : decode cX11_turn 162 = .ok (.iconst 1, 1) := by decide +kernel
theorem dX11_turn_163 : decode cX11_turn 163 = .ok (.if_icmp .ne 13, 3) := by decide +kernel
theorem dX11_turn_166 : decode cX11_turn 166 = .ok (.iload 5, 2) := by decide +kernel
theorem dX11_turn_168 : decode cX11_turn 168 = .ok (.iconst 1, 1) := by decide +kernel
theorem dX11_turn_169 : decode cX11_turn 169 = .ok (.isub, 1) := by decide +kernel
theorem dX11_turn_170 : decode cX11_turn 170 = .ok (.iload 7, 2) := by decide +kernel
theorem dX11_turn_172 : decode cX11_turn 172 = .ok (.isub, 1) := by decide +kernel
theorem dX11_turn_173 : decode cX11_turn 173 = .ok (.goto 22, 3) := by decide +kernel
theorem dX11_turn_176 : decode cX11_turn 176 = .ok (.iload_n 3, 1) := by decide +kernel
theorem dX11_turn_177 : decode cX11_turn 177 = .ok (.iconst 4, 1) := by decide +kernel
theorem dX11_turn_178 : decode cX11_turn 178 = .ok (.irem, 1) := by decide +kernel
theorem dX11_turn_179 : decode cX11_turn 179 = .ok (.iconst 2, 1) := by decide +kernel
theorem dX11_turn_180 : decode cX11_turn 180 = .ok (.if_icmp .ne 13, 3) := by decide +kernel
theorem dX11_turn_183 : decode cX11_turn 183 = .ok (.iload 4, 2) := by decide +kernel
theorem dX11_turn_185 : decode cX11_turn 185 = .ok (.iconst 1, 1) := by decide +kernel
theorem dX11_turn_186 : decode cX11_turn 186 = .ok (.isub, 1) := by decide +kernel
theorem dX11_turn_187 : decode cX11_turn 187 = .ok (.iload 9, 2) := by decide +kernel
theorem dX11_turn_189 : decode cX11_turn 189 = .ok (.isub, 1) := by decide +kernel
theorem dX11_turn_190 : decode cX11_turn 190 = .ok (.goto 5, 3) := by decide +kernel
theorem dX11_turn_193 : decode cX11_turn 193 = .ok (.iload 7, 2) := by decide +kernel
theorem dX11_turn_195 : decode cX11_turn 195 = .ok (.istore 10, 2) := by decide +kernel
theorem dX11_turn_197 : decode cX11_turn 197 = .ok (.iload_n 3, 1) := by decide +kernel
theorem dX11_turn_198 : decode cX11_turn 198 = .ok (.iconst 4, 1) := by decide +kernel
theorem dX11_turn_199 : decode cX11_turn 199 = .ok (.irem, 1) := by decide +kernel
theorem dX11_turn_200 : decode cX11_turn 200 = .ok (.ifCond .ne 8, 3) := by decide +kernel
theorem dX11_turn_203 : decode cX11_turn 203 = .ok (.iload 7, 2) := by decide +kernel
theorem dX11_turn_205 : decode cX11_turn 205 = .ok (.goto 39, 3) := by decide +kernel
theorem dX11_turn_208 : decode cX11_turn 208 = .ok (.iload_n 3, 1) := by decide +kernel
theorem dX11_turn_209 : decode cX11_turn 209 = .ok (.iconst 4, 1) := by decide +kernel
theorem dX11_turn_210 : decode cX11_turn 210 = .ok (.irem, 1) := by decide +kernel
theorem dX11_turn_211 : decode cX11_turn 211 = .ok (.iconst 1, 1) := by decide +kernel
theorem dX11_turn_212 : decode cX11_turn 212 = .ok (.if_icmp .ne 8, 3) := by decide +kernel
theorem dX11_turn_215 : decode cX11_turn 215 = .ok (.iload 9, 2) := by decide +kernel
theorem dX11_turn_217 : decode cX11_turn 217 = .ok (.goto 27, 3) := by decide +kernel
theorem dX11_turn_220 : decode cX11_turn 220 = .ok (.iload_n 3, 1) := by decide +kernel
theorem dX11_turn_221 : decode cX11_turn 221 = .ok (.iconst 4, 1) := by decide +kernel
theorem dX11_turn_222 : decode cX11_turn 222 = .ok (.irem, 1) := by decide +kernel
theorem dX11_turn_223 : decode cX11_turn 223 = .ok (.iconst 2, 1) := by decide +kernel
theorem dX11_turn_224 : decode cX11_turn 224 = .ok (.if_icmp .ne 13, 3) := by decide +kernel
theorem dX11_turn_227 : decode cX11_turn 227 = .ok (.iload 5, 2) := by decide +kernel
theorem dX11_turn_229 : decode cX11_turn 229 = .ok (.iconst 1, 1) := by decide +kernel
theorem dX11_turn_230 : decode cX11_turn 230 = .ok (.isub, 1) := by decide +kernel
theorem dX11_turn_231 : decode cX11_turn 231 = .ok (.iload 7, 2) := by decide +kernel
theorem dX11_turn_233 : decode cX11_turn 233 = .ok (.isub, 1) := by decide +kernel
theorem dX11_turn_234 : decode cX11_turn 234 = .ok (.goto 10, 3) := by decide +kernel
theorem dX11_turn_237 : decode cX11_turn 237 = .ok (.iload 4, 2) := by decide +kernel
theorem dX11_turn_239 : decode cX11_turn 239 = .ok (.iconst 1, 1) := by decide +kernel
theorem dX11_turn_240 : decode cX11_turn 240 = .ok (.isub, 1) := by decide +kernel
theorem dX11_turn_241 : decode cX11_turn 241 = .ok (.iload 9, 2) := by decide +kernel
theorem dX11_turn_243 : decode cX11_turn 243 = .ok (.isub, 1) := by decide +kernel
theorem dX11_turn_244 : decode cX11_turn 244 = .ok (.istore 11, 2) := by decide +kernel
theorem dX11_turn_246 : decode cX11_turn 246 = .ok (.aload_n 0, 1) := by decide +kernel
theorem dX11_turn_247 : decode cX11_turn 247 = .ok (.getfield 7, 3) := by decide +kernel
theorem dX11_turn_250 : decode cX11_turn 250 = .ok (.aload_n 0, 1) := by decide +kernel
theorem dX11_turn_251 : decode cX11_turn 251 = .ok (.iload_n 2, 1) := by decide +kernel
theorem dX11_turn_252 : decode cX11_turn 252 = .ok (.iload 10, 2) := by decide +kernel
theorem dX11_turn_254 : decode cX11_turn 254 = .ok (.iload 11, 2) := by decide +kernel
theorem dX11_turn_256 : decode cX11_turn 256 = .ok (.invokevirtual 127, 3) := by decide +kernel
theorem dX11_turn_259 : decode cX11_turn 259 = .ok (.aload_n 0, 1) := by decide +kernel
theorem dX11_turn_260 : decode cX11_turn 260 = .ok (.getfield 35, 3) := by decide +kernel
theorem dX11_turn_263 : decode cX11_turn 263 = .ok (.iload 7, 2) := by decide +kernel
theorem dX11_turn_265 : decode cX11_turn 265 = .ok (.iload 4, 2) := by decide +kernel
theorem dX11_turn_267 : decode cX11_turn 267 = .ok (.imul, 1) := by decide +kernel
theorem dX11_turn_268 : decode cX11_turn 268 = .ok (.iload 8, 2) := by decide +kernel
theorem dX11_turn_270 : decode cX11_turn 270 = .ok (.iadd, 1) := by decide +kernel
theorem dX11_turn_271 : decode cX11_turn 271 = .ok (.iaload, 1) := by decide +kernel
theorem dX11_turn_272 : decode cX11_turn 272 = .ok (.iastore, 1) := by decide +kernel
theorem dX11_turn_273 : decode cX11_turn 273 = .ok (.iinc 8 1, 3) := by decide +kernel
theorem dX11_turn_276 : decode cX11_turn 276 = .ok (.goto (-154), 3) := by decide +kernel
theorem dX11_turn_279 : decode cX11_turn 279 = .ok (.iinc 7 1, 3) := by decide +kernel
theorem dX11_turn_282 : decode cX11_turn 282 = .ok (.goto (-170), 3) := by decide +kernel
theorem dX11_turn_285 : decode cX11_turn 285 = .ok (.iconst 0, 1) := by decide +kernel
theorem dX11_turn_286 : decode cX11_turn 286 = .ok (.ireturn, 1) := by decide +kernel
theorem dX11_unlike_0 : decode cX11_unlike 0 = .ok (.iload_n 1, 1) := by decide +kernel
theorem dX11_unlike_1 : decode cX11_unlike 1 = .ok (.invokestatic 101, 3) := by decide +kernel
theorem dX11_unlike_4 : decode cX11_unlike 4 = .ok (.ifCond .eq 10, 3) := by decide +kernel
theorem dX11_unlike_7 : decode cX11_unlike 7 = .ok (.iload_n 2, 1) := by decide +kernel
theorem dX11_unlike_8 : decode cX11_unlike 8 = .ok (.invokestatic 101, 3) := by decide +kernel
theorem dX11_unlike_11 : decode cX11_unlike 11 = .ok (.ifCond .ne 6, 3) := by decide +kernel
theorem dX11_unlike_14 : decode cX11_unlike 14 = .ok (.ldc 109, 2) := by decide +kernel
theorem dX11_unlike_16 : decode cX11_unlike 16 = .ok (.ireturn, 1) := by decide +kernel
theorem dX11_unlike_17 : decode cX11_unlike 17 = .ok (.aload_n 0, 1) := by decide +kernel
theorem dX11_unlike_18 : decode cX11_unlike 18 = .ok (.iload_n 1, 1) := by decide +kernel
theorem dX11_unlike_19 : decode cX11_unlike 19 = .ok (.invokevirtual 117, 3) := by decide +kernel
theorem dX11_unlike_22 : decode cX11_unlike 22 = .ok (.ifCond .eq 37, 3) := by decide +kernel
theorem dX11_unlike_25 : decode cX11_unlike 25 = .ok (.aload_n 0, 1) := by decide +kernel
theorem dX11_unlike_26 : decode cX11_unlike 26 = .ok (.iload_n 2, 1) := by decide +kernel
theorem dX11_unlike_27 : decode cX11_unlike 27 = .ok (.invokevirtual 117, 3) := by decide +kernel
theorem dX11_unlike_30 : decode cX11_unlike 30 = .ok (.ifCond .eq 29, 3) := by decide +kernel
theorem dX11_unlike_33 : decode cX11_unlike 33 = .ok (.aload_n 0, 1) := by decide +kernel
theorem dX11_unlike_34 : decode cX11_unlike 34 = .ok (.iload_n 1, 1) := by decide +kernel
theorem dX11_unlike_35 : decode cX11_unlike 35 = .ok (.invokevirtual 82, 3) := by decide +kernel
theorem dX11_unlike_38 : decode cX11_unlike 38 = .ok (.aload_n 0, 1) := by decide +kernel
theorem dX11_unlike_39 : decode cX11_unlike 39 = .ok (.iload_n 2, 1) := by decide +kernel
theorem dX11_unlike_40 : decode cX11_unlike 40 = .ok (.invokevirtual 82, 3) := by decide +kernel
theorem dX11_unlike_43 : decode cX11_unlike 43 = .ok (.if_icmp .ne 16, 3) := by decide +kernel
theorem dX11_unlike_46 : decode cX11_unlike 46 = .ok (.aload_n 0, 1) := by decide +kernel
theorem dX11_unlike_47 : decode cX11_unlike 47 = .ok (.iload_n 1, 1) := by decide +kernel
theorem dX11_unlike_48 : decode cX11_unlike 48 = .ok (.invokevirtual 85, 3) := by decide +kernel
theorem dX11_unlike_51 : decode cX11_unlike 51 = .ok (.aload_n 0, 1) := by decide +kernel
theorem dX11_unlike_52 : decode cX11_unlike 52 = .ok (.iload_n 2, 1) := by decide +kernel
theorem dX11_unlike_53 : decode cX11_unlike 53 = .ok (.invokevirtual 85, 3) := by decide +kernel
theorem dX11_unlike_56 : decode cX11_unlike 56 = .ok (.if_icmp .eq 6, 3) := by decide +kernel
theorem dX11_unlike_59 : decode cX11_unlike 59 = .ok (.ldc 96, 2) := by decide +kernel
theorem dX11_unlike_61 : decode cX11_unlike 61 = .ok (.ireturn, 1) := by decide +kernel
theorem dX11_unlike_62 : decode cX11_unlike 62 = .ok (.iconst 0, 1) := by decide +kernel
theorem dX11_unlike_63 : decode cX11_unlike 63 = .ok (.istore_n 3, 1) := by decide +kernel
theorem dX11_unlike_64 : decode cX11_unlike 64 = .ok (.iconst 0, 1) := by decide +kernel
theorem dX11_unlike_65 : decode cX11_unlike 65 = .ok (.istore 4, 2) := by decide +kernel
theorem dX11_unlike_67 : decode cX11_unlike 67 = .ok (.iload 4, 2) := by decide +kernel
theorem dX11_unlike_69 : decode cX11_unlike 69 = .ok (.aload_n 0, 1) := by decide +kernel
theorem dX11_unlike_70 : decode cX11_unlike 70 = .ok (.iload_n 1, 1) := by decide +kernel
theorem dX11_unlike_71 : decode cX11_unlike 71 = .ok (.invokevirtual 133, 3) := by decide +kernel
theorem dX11_unlike_74 : decode cX11_unlike 74 = .ok (.if_icmp .ge 50, 3) := by decide +kernel
theorem dX11_unlike_77 : decode cX11_unlike 77 = .ok (.iload_n 3, 1) := by decide +kernel
theorem dX11_unlike_78 : decode cX11_unlike 78 = .ok (.aload_n 0, 1) := by decide +kernel
theorem dX11_unlike_79 : decode cX11_unlike 79 = .ok (.getfield 7, 3) := by decide +kernel
theorem dX11_unlike_82 : decode cX11_unlike 82 = .ok (.sipush 259, 3) := by decide +kernel
theorem dX11_unlike_85 : decode cX11_unlike 85 = .ok (.iload_n 1, 1) := by decide +kernel
theorem dX11_unlike_86 : decode cX11_unlike 86 = .ok (.imul, 1) := by decide +kernel
theorem dX11_unlike_87 : decode cX11_unlike 87 = .ok (.iconst 3, 1) := by decide +kernel
theorem dX11_unlike_88 : decode cX11_unlike 88 = .ok (.iadd, 1) := by decide +kernel
theorem dX11_unlike_89 : decode cX11_unlike 89 = .ok (.iload 4, 2) := by decide +kernel
theorem dX11_unlike_91 : decode cX11_unlike 91 = .ok (.iadd, 1) := by decide +kernel
theorem dX11_unlike_92 : decode cX11_unlike 92 = .ok (.iaload, 1) := by decide +kernel
theorem dX11_unlike_93 : decode cX11_unlike 93 = .ok (.aload_n 0, 1) := by decide +kernel
theorem dX11_unlike_94 : decode cX11_unlike 94 = .ok (.getfield 7, 3) := by decide +kernel
theorem dX11_unlike_97 : decode cX11_unlike 97 = .ok (.sipush 259, 3) := by decide +kernel
theorem dX11_unlike_100 : decode cX11_unlike 100 = .ok (.iload_n 2, 1) := by decide +kernel
theorem dX11_unlike_101 : decode cX11_unlike 101 = .ok (.imul, 1) := by decide +kernel
theorem dX11_unlike_102 : decode cX11_unlike 102 = .ok (.iconst 3, 1) := by decide +kernel
theorem dX11_unlike_103 : decode cX11_unlike 103 = .ok (.iadd, 1) := by decide +kernel
theorem dX11_unlike_104 : decode cX11_unlike 104 = .ok (.iload 4, 2) := by decide +kernel
theorem dX11_unlike_106 : decode cX11_unlike 106 = .ok (.iadd, 1) := by decide +kernel
theorem dX11_unlike_107 : decode cX11_unlike 107 = .ok (.iaload, 1) := by decide +kernel
theorem dX11_unlike_108 : decode cX11_unlike 108 = .ok (.if_icmp .eq 7, 3) := by decide +kernel
theorem dX11_unlike_111 : decode cX11_unlike 111 = .ok (.iconst 1, 1) := by decide +kernel
theorem dX11_unlike_112 : decode cX11_unlike 112 = .ok (.goto 4, 3) := by decide +kernel
theorem dX11_unlike_115 : decode cX11_unlike 115 = .ok (.iconst 0, 1) := by decide +kernel
theorem dX11_unlike_116 : decode cX11_unlike 116 = .ok (.iadd, 1) := by decide +kernel
theorem dX11_unlike_117 : decode cX11_unlike 117 = .ok (.istore_n 3, 1) := by decide +kernel
theorem dX11_unlike_118 : decode cX11_unlike 118 = .ok (.iinc 4 1, 3) := by decide +kernel
theorem dX11_unlike_121 : decode cX11_unlike 121 = .ok (.goto (-54), 3) := by decide +kernel
theorem dX11_unlike_124 : decode cX11_unlike 124 = .ok (.iload_n 3, 1) := by decide +kernel
theorem dX11_unlike_125 : decode cX11_unlike 125 = .ok (.ireturn, 1) := by decide +kernel
theorem dX11_isFilter_0 : decode cX11_isFilter 0 = .ok (.iload_n 1, 1) := by decide +kernel
theorem dX11_isFilter_1 : decode cX11_isFilter 1 = .ok (.i2l, 1) := by decide +kernel
theorem dX11_isFilter_2 : decode cX11_isFilter 2 = .ok (.lconst 0, 1) := by decide +kernel
theorem dX11_isFilter_3 : decode cX11_isFilter 3 = .ok (.aload_n 0, 1) := by decide +kernel
theorem dX11_isFilter_4 : decode cX11_isFilter 4 = .ok (.getfield 170, 3) := by decide +kernel
theorem dX11_isFilter_7 : decode cX11_isFilter 7 = .ok (.iconst 1, 1) := by decide +kernel
theorem dX11_isFilter_8 : decode cX11_isFilter 8 = .ok (.isub, 1) := by decide +kernel
theorem dX11_isFilter_9 : decode cX11_isFilter 9 = .ok (.i2l, 1) := by decide +kernel
theorem dX11_isFilter_10 : decode cX11_isFilter 10 = .ok (.invokestatic 71, 3) := by decide +kernel
theorem dX11_isFilter_13 : decode cX11_isFilter 13 = .ok (.ireturn, 1) := by decide +kernel
theorem dX11_highOf_0 : decode cX11_highOf 0 = .ok (.iload_n 1, 1) := by decide +kernel
theorem dX11_highOf_1 : decode cX11_highOf 1 = .ok (.bipush 6, 2) := by decide +kernel
theorem dX11_highOf_3 : decode cX11_highOf 3 = .ok (.if_icmp .eq 9, 3) := by decide +kernel
theorem dX11_highOf_6 : decode cX11_highOf 6 = .ok (.iload_n 1, 1) := by decide +kernel
theorem dX11_highOf_7 : decode cX11_highOf 7 = .ok (.bipush 8, 2) := by decide +kernel
theorem dX11_highOf_9 : decode cX11_highOf 9 = .ok (.if_icmp .ne 12, 3) := by decide +kernel
theorem dX11_highOf_12 : decode cX11_highOf 12 = .ok (.aload_n 0, 1) := by decide +kernel
theorem dX11_highOf_13 : decode cX11_highOf 13 = .ok (.getfield 26, 3) := by decide +kernel
theorem dX11_highOf_16 : decode cX11_highOf 16 = .ok (.iload_n 2, 1) := by decide +kernel
theorem dX11_highOf_17 : decode cX11_highOf 17 = .ok (.iaload, 1) := by decide +kernel
theorem dX11_highOf_18 : decode cX11_highOf 18 = .ok (.goto 4, 3) := by decide +kernel
theorem dX11_highOf_21 : decode cX11_highOf 21 = .ok (.iconst 0, 1) := by decide +kernel
theorem dX11_highOf_22 : decode cX11_highOf 22 = .ok (.istore 4, 2) := by decide +kernel
theorem dX11_highOf_24 : decode cX11_highOf 24 = .ok (.iload_n 1, 1) := by decide +kernel
theorem dX11_highOf_25 : decode cX11_highOf 25 = .ok (.bipush 6, 2) := by decide +kernel
theorem dX11_highOf_27 : decode cX11_highOf 27 = .ok (.if_icmp .lt 12, 3) := by decide +kernel
theorem dX11_highOf_30 : decode cX11_highOf 30 = .ok (.aload_n 0, 1) := by decide +kernel
theorem dX11_highOf_31 : decode cX11_highOf 31 = .ok (.getfield 26, 3) := by decide +kernel
theorem dX11_highOf_34 : decode cX11_highOf 34 = .ok (.iload_n 3, 1) := by decide +kernel
theorem dX11_highOf_35 : decode cX11_highOf 35 = .ok (.iaload, 1) := by decide +kernel
theorem dX11_highOf_36 : decode cX11_highOf 36 = .ok (.goto 4, 3) := by decide +kernel
theorem dX11_highOf_39 : decode cX11_highOf 39 = .ok (.iconst 0, 1) := by decide +kernel
theorem dX11_highOf_40 : decode cX11_highOf 40 = .ok (.istore 5, 2) := by decide +kernel
theorem dX11_highOf_42 : decode cX11_highOf 42 = .ok (.iconst 1, 1) := by decide +kernel
theorem dX11_highOf_43 : decode cX11_highOf 43 = .ok (.iload 4, 2) := by decide +kernel
theorem dX11_highOf_45 : decode cX11_highOf 45 = .ok (.iload 5, 2) := by decide +kernel
theorem dX11_highOf_47 : decode cX11_highOf 47 = .ok (.if_icmp .le 8, 3) := by decide +kernel
theorem dX11_highOf_50 : decode cX11_highOf 50 = .ok (.iload 4, 2) := by decide +kernel
theorem dX11_highOf_52 : decode cX11_highOf 52 = .ok (.goto 5, 3) := by decide +kernel
theorem dX11_highOf_55 : decode cX11_highOf 55 = .ok (.iload 5, 2) := by decide +kernel
theorem dX11_highOf_57 : decode cX11_highOf 57 = .ok (.iadd, 1) := by decide +kernel
theorem dX11_highOf_58 : decode cX11_highOf 58 = .ok (.ireturn, 1) := by decide +kernel
theorem dX11_filter_0 : decode cX11_filter 0 = .ok (.iload_n 1, 1) := by decide +kernel
theorem dX11_filter_1 : decode cX11_filter 1 = .ok (.i2l, 1) := by decide +kernel
theorem dX11_filter_2 : decode cX11_filter 2 = .ok (.lconst 0, 1) := by decide +kernel
theorem dX11_filter_3 : decode cX11_filter 3 = .ok (.ldc2_w 131, 3) := by decide +kernel
theorem dX11_filter_6 : decode cX11_filter 6 = .ok (.invokestatic 71, 3) := by decide +kernel
theorem dX11_filter_9 : decode cX11_filter 9 = .ok (.ifCond .ne 6, 3) := by decide +kernel
theorem dX11_filter_12 : decode cX11_filter 12 = .ok (.ldc 109, 2) := by decide +kernel
theorem dX11_filter_14 : decode cX11_filter 14 = .ok (.ireturn, 1) := by decide +kernel
theorem dX11_filter_15 : decode cX11_filter 15 = .ok (.iload_n 1, 1) := by decide +kernel
theorem dX11_filter_16 : decode cX11_filter 16 = .ok (.iconst 1, 1) := by decide +kernel
theorem dX11_filter_17 : decode cX11_filter 17 = .ok (.if_icmp .eq 127, 3) := by decide +kernel
theorem dX11_filter_20 : decode cX11_filter 20 = .ok (.iload_n 1, 1) := by decide +kernel
theorem dX11_filter_21 : decode cX11_filter 21 = .ok (.iconst 3, 1) := by decide +kernel
theorem dX11_filter_22 : decode cX11_filter 22 = .ok (.if_icmp .gt 34, 3) := by decide +kernel
theorem dX11_filter_25 : decode cX11_filter 25 = .ok (.iload_n 2, 1) := by decide +kernel
theorem dX11_filter_26 : decode cX11_filter 26 = .ok (.i2l, 1) := by decide +kernel
theorem dX11_filter_27 : decode cX11_filter 27 = .ok (.ldc2_w 173, 3) := by decide +kernel
theorem dX11_filter_30 : decode cX11_filter 30 = .ok (.ldc2_w 175, 3) := by decide +kernel
theorem dX11_filter_33 : decode cX11_filter 33 = .ok (.invokestatic 71, 3) := by decide +kernel
theorem dX11_filter_36 : decode cX11_filter 36 = .ok (.ifCond .eq 20, 3) := by decide +kernel
theorem dX11_filter_39 : decode cX11_filter 39 = .ok (.iload_n 1, 1) := by decide +kernel
theorem dX11_filter_40 : decode cX11_filter 40 = .ok (.iconst 3, 1) := by decide +kernel
theorem dX11_filter_41 : decode cX11_filter 41 = .ok (.if_icmp .ne 103, 3) := by decide +kernel
theorem dX11_filter_44 : decode cX11_filter 44 = .ok (.iload_n 3, 1) := by decide +kernel
theorem dX11_filter_45 : decode cX11_filter 45 = .ok (.i2l, 1) := by decide +kernel
theorem dX11_filter_46 : decode cX11_filter 46 = .ok (.lconst 1, 1) := by decide +kernel
theorem dX11_filter_47 : decode cX11_filter 47 = .ok (.ldc2_w 149, 3) := by decide +kernel
theorem dX11_filter_50 : decode cX11_filter 50 = .ok (.invokestatic 71, 3) := by decide +kernel
theorem dX11_filter_53 : decode cX11_filter 53 = .ok (.ifCond .ne 91, 3) := by decide +kernel
theorem dX11_filter_56 : decode cX11_filter 56 = .ok (.iload_n 1, 1) := by decide +kernel
theorem dX11_filter_57 : decode cX11_filter 57 = .ok (.iconst 4, 1) := by decide +kernel
theorem dX11_filter_58 : decode cX11_filter 58 = .ok (.if_icmp .ne 15, 3) := by decide +kernel
theorem dX11_filter_61 : decode cX11_filter 61 = .ok (.iload_n 2, 1) := by decide +kernel
theorem dX11_filter_62 : decode cX11_filter 62 = .ok (.i2l, 1) := by decide +kernel
theorem dX11_filter_63 : decode cX11_filter 63 = .ok (.lconst 1, 1) := by decide +kernel
theorem dX11_filter_64 : decode cX11_filter 64 = .ok (.ldc2_w 149, 3) := by decide +kernel
theorem dX11_filter_67 : decode cX11_filter 67 = .ok (.invokestatic 71, 3) := by decide +kernel
theorem dX11_filter_70 : decode cX11_filter 70 = .ok (.ifCond .ne 74, 3) := by decide +kernel
theorem dX11_filter_73 : decode cX11_filter 73 = .ok (.iload_n 1, 1) := by decide +kernel
theorem dX11_filter_74 : decode cX11_filter 74 = .ok (.iconst 5, 1) := by decide +kernel
theorem dX11_filter_75 : decode cX11_filter 75 = .ok (.if_icmp .ne 15, 3) := by decide +kernel
theorem dX11_filter_78 : decode cX11_filter 78 = .ok (.iload_n 2, 1) := by decide +kernel
theorem dX11_filter_79 : decode cX11_filter 79 = .ok (.i2l, 1) := by decide +kernel
theorem dX11_filter_80 : decode cX11_filter 80 = .ok (.lconst 0, 1) := by decide +kernel
theorem dX11_filter_81 : decode cX11_filter 81 = .ok (.ldc2_w 131, 3) := by decide +kernel
theorem dX11_filter_84 : decode cX11_filter 84 = .ok (.invokestatic 71, 3) := by decide +kernel
theorem dX11_filter_87 : decode cX11_filter 87 = .ok (.ifCond .ne 57, 3) := by decide +kernel
theorem dX11_filter_90 : decode cX11_filter 90 = .ok (.iload_n 1, 1) := by decide +kernel
theorem dX11_filter_91 : decode cX11_filter 91 = .ok (.bipush 6, 2) := by decide +kernel
theorem dX11_filter_93 : decode cX11_filter 93 = .ok (.if_icmp .eq 9, 3) := by decide +kernel
theorem dX11_filter_96 : decode cX11_filter 96 = .ok (.iload_n 1, 1) := by decide +kernel
theorem dX11_filter_97 : decode cX11_filter 97 = .ok (.bipush 8, 2) := by decide +kernel
theorem dX11_filter_99 : decode cX11_filter 99 = .ok (.if_icmp .ne 19, 3) := by decide +kernel
theorem dX11_filter_102 : decode cX11_filter 102 = .ok (.aload_n 0, 1) := by decide +kernel
theorem dX11_filter_103 : decode cX11_filter 103 = .ok (.iload_n 2, 1) := by decide +kernel
theorem dX11_filter_104 : decode cX11_filter 104 = .ok (.invokevirtual 177, 3) := by decide +kernel
theorem dX11_filter_107 : decode cX11_filter 107 = .ok (.ifCond .eq 11, 3) := by decide +kernel
theorem dX11_filter_110 : decode cX11_filter 110 = .ok (.aload_n 0, 1) := by decide +kernel
theorem dX11_filter_111 : decode cX11_filter 111 = .ok (.iload_n 3, 1) := by decide +kernel
theorem dX11_filter_112 : decode cX11_filter 112 = .ok (.invokevirtual 177, 3) := by decide +kernel
theorem dX11_filter_115 : decode cX11_filter 115 = .ok (.ifCond .ne 29, 3) := by decide +kernel
theorem dX11_filter_118 : decode cX11_filter 118 = .ok (.iload_n 1, 1) := by decide +kernel
theorem dX11_filter_119 : decode cX11_filter 119 = .ok (.bipush 7, 2) := by decide +kernel
theorem dX11_filter_121 : decode cX11_filter 121 = .ok (.if_icmp .ne 27, 3) := by decide +kernel
theorem dX11_filter_124 : decode cX11_filter 124 = .ok (.iload_n 2, 1) := by decide +kernel
theorem dX11_filter_125 : decode cX11_filter 125 = .ok (.i2l, 1) := by decide +kernel
theorem dX11_filter_126 : decode cX11_filter 126 = .ok (.lconst 0, 1) := by decide +kernel
theorem dX11_filter_127 : decode cX11_filter 127 = .ok (.ldc2_w 159, 3) := by decide +kernel
theorem dX11_filter_130 : decode cX11_filter 130 = .ok (.invokestatic 71, 3) := by decide +kernel
theorem dX11_filter_133 : decode cX11_filter 133 = .ok (.ifCond .eq 15, 3) := by decide +kernel
theorem dX11_filter_136 : decode cX11_filter 136 = .ok (.aload_n 0, 1) := by decide +kernel
theorem dX11_filter_137 : decode cX11_filter 137 = .ok (.iload_n 3, 1) := by decide +kernel
theorem dX11_filter_138 : decode cX11_filter 138 = .ok (.invokevirtual 177, 3) := by decide +kernel
theorem dX11_filter_141 : decode cX11_filter 141 = .ok (.ifCond .eq 7, 3) := by decide +kernel
theorem dX11_filter_144 : decode cX11_filter 144 = .ok (.iconst 1, 1) := by decide +kernel
theorem dX11_filter_145 : decode cX11_filter 145 = .ok (.goto 4, 3) := by decide +kernel
theorem dX11_filter_148 : decode cX11_filter 148 = .ok (.iconst 0, 1) := by decide +kernel
theorem dX11_filter_149 : decode cX11_filter 149 = .ok (.istore 4, 2) := by decide +kernel
theorem dX11_filter_151 : decode cX11_filter 151 = .ok (.iload 4, 2) := by decide +kernel
theorem dX11_filter_153 : decode cX11_filter 153 = .ok (.ifCond .eq 14, 3) := by decide +kernel
theorem dX11_filter_156 : decode cX11_filter 156 = .ok (.aload_n 0, 1) := by decide +kernel
theorem dX11_filter_157 : decode cX11_filter 157 = .ok (.iload_n 1, 1) := by decide +kernel
theorem dX11_filter_158 : decode cX11_filter 158 = .ok (.iload_n 2, 1) := by decide +kernel
theorem dX11_filter_159 : decode cX11_filter 159 = .ok (.iload_n 3, 1) := by decide +kernel
theorem dX11_filter_160 : decode cX11_filter 160 = .ok (.invokevirtual 180, 3) := by decide +kernel
theorem dX11_filter_163 : decode cX11_filter 163 = .ok (.iconst 4, 1) := by decide +kernel
theorem dX11_filter_164 : decode cX11_filter 164 = .ok (.if_icmp .le 6, 3) := by decide +kernel
theorem dX11_filter_167 : decode cX11_filter 167 = .ok (.ldc 109, 2) := by decide +kernel
theorem dX11_filter_169 : decode cX11_filter 169 = .ok (.ireturn, 1) := by decide +kernel
theorem dX11_filter_170 : decode cX11_filter 170 = .ok (.aload_n 0, 1) := by decide +kernel
theorem dX11_filter_171 : decode cX11_filter 171 = .ok (.getfield 170, 3) := by decide +kernel
theorem dX11_filter_174 : decode cX11_filter 174 = .ok (.bipush 24, 2) := by decide +kernel
theorem dX11_filter_176 : decode cX11_filter 176 = .ok (.if_icmp .ne 6, 3) := by decide +kernel
theorem dX11_filter_179 : decode cX11_filter 179 = .ok (.ldc 183, 2) := by decide +kernel
theorem dX11_filter_181 : decode cX11_filter 181 = .ok (.ireturn, 1) := by decide +kernel
theorem dX11_filter_182 : decode cX11_filter 182 = .ok (.aload_n 0, 1) := by decide +kernel
theorem dX11_filter_183 : decode cX11_filter 183 = .ok (.getfield 17, 3) := by decide +kernel
theorem dX11_filter_186 : decode cX11_filter 186 = .ok (.aload_n 0, 1) := by decide +kernel
theorem dX11_filter_187 : decode cX11_filter 187 = .ok (.getfield 170, 3) := by decide +kernel
theorem dX11_filter_190 : decode cX11_filter 190 = .ok (.iload_n 1, 1) := by decide +kernel
theorem dX11_filter_191 : decode cX11_filter 191 = .ok (.iastore, 1) := by decide +kernel
theorem dX11_filter_192 : decode cX11_filter 192 = .ok (.aload_n 0, 1) := by decide +kernel
theorem dX11_filter_193 : decode cX11_filter 193 = .ok (.getfield 20, 3) := by decide +kernel
theorem dX11_filter_196 : decode cX11_filter 196 = .ok (.aload_n 0, 1) := by decide +kernel
theorem dX11_filter_197 : decode cX11_filter 197 = .ok (.getfield 170, 3) := by decide +kernel
theorem dX11_filter_200 : decode cX11_filter 200 = .ok (.iload_n 2, 1) := by decide +kernel
theorem dX11_filter_201 : decode cX11_filter 201 = .ok (.iastore, 1) := by decide +kernel
theorem dX11_filter_202 : decode cX11_filter 202 = .ok (.aload_n 0, 1) := by decide +kernel
theorem dX11_filter_203 : decode cX11_filter 203 = .ok (.getfield 23, 3) := by decide +kernel
theorem dX11_filter_206 : decode cX11_filter 206 = .ok (.aload_n 0, 1) := by decide +kernel
theorem dX11_filter_207 : decode cX11_filter 207 = .ok (.getfield 170, 3) := by decide +kernel
theorem dX11_filter_210 : decode cX11_filter 210 = .ok (.iload_n 3, 1) := by decide +kernel
theorem dX11_filter_211 : decode cX11_filter 211 = .ok (.iastore, 1) := by decide +kernel
theorem dX11_filter_212 : decode cX11_filter 212 = .ok (.aload_n 0, 1) := by decide +kernel
theorem dX11_filter_213 : decode cX11_filter 213 = .ok (.getfield 26, 3) := by decide +kernel
theorem dX11_filter_216 : decode cX11_filter 216 = .ok (.aload_n 0, 1) := by decide +kernel
theorem dX11_filter_217 : decode cX11_filter 217 = .ok (.getfield 170, 3) := by decide +kernel
theorem dX11_filter_220 : decode cX11_filter 220 = .ok (.aload_n 0, 1) := by decide +kernel
theorem dX11_filter_221 : decode cX11_filter 221 = .ok (.iload_n 1, 1) := by decide +kernel
theorem dX11_filter_222 : decode cX11_filter 222 = .ok (.iload_n 2, 1) := by decide +kernel
theorem dX11_filter_223 : decode cX11_filter 223 = .ok (.iload_n 3, 1) := by decide +kernel
theorem dX11_filter_224 : decode cX11_filter 224 = .ok (.invokevirtual 180, 3) := by decide +kernel
theorem dX11_filter_227 : decode cX11_filter 227 = .ok (.iastore, 1) := by decide +kernel
theorem dX11_filter_228 : decode cX11_filter 228 = .ok (.iconst 0, 1) := by decide +kernel
theorem dX11_filter_229 : decode cX11_filter 229 = .ok (.istore 5, 2) := by decide +kernel
theorem dX11_filter_231 : decode cX11_filter 231 = .ok (.iload 5, 2) := by decide +kernel
theorem dX11_filter_233 : decode cX11_filter 233 = .ok (.bipush 9, 2) := by decide +kernel
theorem dX11_filter_235 : decode cX11_filter 235 = .ok (.if_icmp .ge 25, 3) := by decide +kernel
theorem dX11_filter_238 : decode cX11_filter 238 = .ok (.aload_n 0, 1) := by decide +kernel
theorem dX11_filter_239 : decode cX11_filter 239 = .ok (.getfield 29, 3) := by decide +kernel
theorem dX11_filter_242 : decode cX11_filter 242 = .ok (.bipush 9, 2) := by decide +kernel
theorem dX11_filter_244 : decode cX11_filter 244 = .ok (.aload_n 0, 1) := by decide +kernel
theorem dX11_filter_245 : decode cX11_filter 245 = .ok (.getfield 170, 3) := by decide +kernel
theorem dX11_filter_248 : decode cX11_filter 248 = .ok (.imul, 1) := by decide +kernel
theorem dX11_filter_249 : decode cX11_filter 249 = .ok (.iload 5, 2) := by decide +kernel
theorem dX11_filter_251 : decode cX11_filter 251 = .ok (.iadd, 1) := by decide +kernel
theorem dX11_filter_252 : decode cX11_filter 252 = .ok (.iconst 0, 1) := by decide +kernel
theorem dX11_filter_253 : decode cX11_filter 253 = .ok (.iastore, 1) := by decide +kernel
theorem dX11_filter_254 : decode cX11_filter 254 = .ok (.iinc 5 1, 3) := by decide +kernel
theorem dX11_filter_257 : decode cX11_filter 257 = .ok (.goto (-26), 3) := by decide +kernel
theorem dX11_filter_260 : decode cX11_filter 260 = .ok (.aload_n 0, 1) := by decide +kernel
theorem dX11_filter_261 : decode cX11_filter 261 = .ok (.dup, 1) := by decide +kernel
theorem dX11_filter_262 : decode cX11_filter 262 = .ok (.getfield 170, 3) := by decide +kernel
theorem dX11_filter_265 : decode cX11_filter 265 = .ok (.iconst 1, 1) := by decide +kernel
theorem dX11_filter_266 : decode cX11_filter 266 = .ok (.iadd, 1) := by decide +kernel
theorem dX11_filter_267 : decode cX11_filter 267 = .ok (.putfield 170, 3) := by decide +kernel
theorem dX11_filter_270 : decode cX11_filter 270 = .ok (.aload_n 0, 1) := by decide +kernel
theorem dX11_filter_271 : decode cX11_filter 271 = .ok (.getfield 170, 3) := by decide +kernel
theorem dX11_filter_274 : decode cX11_filter 274 = .ok (.iconst 1, 1) := by decide +kernel
theorem dX11_filter_275 : decode cX11_filter 275 = .ok (.isub, 1) := by decide +kernel
theorem dX11_filter_276 : decode cX11_filter 276 = .ok (.ireturn, 1) := by decide +kernel
theorem dX11_weight_0 : decode cX11_weight 0 = .ok (.aload_n 0, 1) := by decide +kernel
theorem dX11_weight_1 : decode cX11_weight 1 = .ok (.iload_n 1, 1) := by decide +kernel
theorem dX11_weight_2 : decode cX11_weight 2 = .ok (.invokevirtual 177, 3) := by decide +kernel
theorem dX11_weight_5 : decode cX11_weight 5 = .ok (.ifCond .eq 29, 3) := by decide +kernel
theorem dX11_weight_8 : decode cX11_weight 8 = .ok (.iload_n 2, 1) := by decide +kernel
theorem dX11_weight_9 : decode cX11_weight 9 = .ok (.i2l, 1) := by decide +kernel
theorem dX11_weight_10 : decode cX11_weight 10 = .ok (.lconst 0, 1) := by decide +kernel
theorem dX11_weight_11 : decode cX11_weight 11 = .ok (.ldc2_w 131, 3) := by decide +kernel
theorem dX11_weight_14 : decode cX11_weight 14 = .ok (.invokestatic 71, 3) := by decide +kernel
theorem dX11_weight_17 : decode cX11_weight 17 = .ok (.ifCond .eq 17, 3) := by decide +kernel
theorem dX11_weight_20 : decode cX11_weight 20 = .ok (.iload_n 3, 1) := by decide +kernel
theorem dX11_weight_21 : decode cX11_weight 21 = .ok (.i2l, 1) := by decide +kernel
theorem dX11_weight_22 : decode cX11_weight 22 = .ok (.ldc2_w 147, 3) := by decide +kernel
theorem dX11_weight_25 : decode cX11_weight 25 = .ok (.ldc2_w 149, 3) := by decide +kernel
theorem dX11_weight_28 : decode cX11_weight 28 = .ok (.invokestatic 71, 3) := by decide +kernel
theorem dX11_weight_31 : decode cX11_weight 31 = .ok (.ifCond .ne 6, 3) := by decide +kernel
theorem dX11_weight_34 : decode cX11_weight 34 = .ok (.ldc 109, 2) := by decide +kernel
theorem dX11_weight_36 : decode cX11_weight 36 = .ok (.ireturn, 1) := by decide +kernel
theorem dX11_weight_37 : decode cX11_weight 37 = .ok (.aload_n 0, 1) := by decide +kernel
theorem dX11_weight_38 : decode cX11_weight 38 = .ok (.getfield 17, 3) := by decide +kernel
theorem dX11_weight_41 : decode cX11_weight 41 = .ok (.iload_n 1, 1) := by decide +kernel
theorem dX11_weight_42 : decode cX11_weight 42 = .ok (.iaload, 1) := by decide +kernel
theorem dX11_weight_43 : decode cX11_weight 43 = .ok (.iconst 4, 1) := by decide +kernel
theorem dX11_weight_44 : decode cX11_weight 44 = .ok (.if_icmp .eq 6, 3) := by decide +kernel
theorem dX11_weight_47 : decode cX11_weight 47 = .ok (.ldc 96, 2) := by decide +kernel
theorem dX11_weight_49 : decode cX11_weight 49 = .ok (.ireturn, 1) := by decide +kernel
theorem dX11_weight_50 : decode cX11_weight 50 = .ok (.aload_n 0, 1) := by decide +kernel
theorem dX11_weight_51 : decode cX11_weight 51 = .ok (.getfield 29, 3) := by decide +kernel
theorem dX11_weight_54 : decode cX11_weight 54 = .ok (.bipush 9, 2) := by decide +kernel
theorem dX11_weight_56 : decode cX11_weight 56 = .ok (.iload_n 1, 1) := by decide +kernel
theorem dX11_weight_57 : decode cX11_weight 57 = .ok (.imul, 1) := by decide +kernel
theorem dX11_weight_58 : decode cX11_weight 58 = .ok (.iload_n 2, 1) := by decide +kernel
theorem dX11_weight_59 : decode cX11_weight 59 = .ok (.iadd, 1) := by decide +kernel
theorem dX11_weight_60 : decode cX11_weight 60 = .ok (.iaload, 1) := by decide +kernel
theorem dX11_weight_61 : decode cX11_weight 61 = .ok (.istore 4, 2) := by decide +kernel
theorem dX11_weight_63 : decode cX11_weight 63 = .ok (.aload_n 0, 1) := by decide +kernel
theorem dX11_weight_64 : decode cX11_weight 64 = .ok (.getfield 29, 3) := by decide +kernel
theorem dX11_weight_67 : decode cX11_weight 67 = .ok (.bipush 9, 2) := by decide +kernel
theorem dX11_weight_69 : decode cX11_weight 69 = .ok (.iload_n 1, 1) := by decide +kernel
theorem dX11_weight_70 : decode cX11_weight 70 = .ok (.imul, 1) := by decide +kernel
theorem dX11_weight_71 : decode cX11_weight 71 = .ok (.iload_n 2, 1) := by decide +kernel
theorem dX11_weight_72 : decode cX11_weight 72 = .ok (.iadd, 1) := by decide +kernel
theorem dX11_weight_73 : decode cX11_weight 73 = .ok (.iload_n 3, 1) := by decide +kernel
theorem dX11_weight_74 : decode cX11_weight 74 = .ok (.iastore, 1) := by decide +kernel
theorem dX11_weight_75 : decode cX11_weight 75 = .ok (.iload 4, 2) := by decide +kernel
theorem dX11_weight_77 : decode cX11_weight 77 = .ok (.ireturn, 1) := by decide +kernel
theorem dX11_floored_0 : decode cX11_floored 0 = .ok (.lload_n 0, 1) := by decide +kernel
theorem dX11_floored_1 : decode cX11_floored 1 = .ok (.lload_n 2, 1) := by decide +kernel
theorem dX11_floored_2 : decode cX11_floored 2 = .ok (.ldiv, 1) := by decide +kernel
theorem dX11_floored_3 : decode cX11_floored 3 = .ok (.lstore 4, 2) := by decide +kernel
theorem dX11_floored_5 : decode cX11_floored 5 = .ok (.lload_n 0, 1) := by decide +kernel
theorem dX11_floored_6 : decode cX11_floored 6 = .ok (.lload_n 2, 1) := by decide +kernel
theorem dX11_floored_7 : decode cX11_floored 7 = .ok (.lrem, 1) := by decide +kernel
theorem dX11_floored_8 : decode cX11_floored 8 = .ok (.lconst 0, 1) := by decide +kernel
theorem dX11_floored_9 : decode cX11_floored 9 = .ok (.lcmp, 1) := by decide +kernel
theorem dX11_floored_10 : decode cX11_floored 10 = .ok (.ifCond .eq 16, 3) := by decide +kernel
theorem dX11_floored_13 : decode cX11_floored 13 = .ok (.lload_n 0, 1) := by decide +kernel
theorem dX11_floored_14 : decode cX11_floored 14 = .ok (.lconst 0, 1) := by decide +kernel
theorem dX11_floored_15 : decode cX11_floored 15 = .ok (.lcmp, 1) := by decide +kernel
theorem dX11_floored_16 : decode cX11_floored 16 = .ok (.ifCond .ge 10, 3) := by decide +kernel
theorem dX11_floored_19 : decode cX11_floored 19 = .ok (.lload 4, 2) := by decide +kernel
theorem dX11_floored_21 : decode cX11_floored 21 = .ok (.lconst 1, 1) := by decide +kernel
theorem dX11_floored_22 : decode cX11_floored 22 = .ok (.lsub, 1) := by decide +kernel
theorem dX11_floored_23 : decode cX11_floored 23 = .ok (.goto 5, 3) := by decide +kernel
theorem dX11_floored_26 : decode cX11_floored 26 = .ok (.lload 4, 2) := by decide +kernel
theorem dX11_floored_28 : decode cX11_floored 28 = .ok (.lreturn, 1) := by decide +kernel
theorem dX11_rounded_0 : decode cX11_rounded 0 = .ok (.ldc2_w 184, 3) := by decide +kernel
theorem dX11_rounded_3 : decode cX11_rounded 3 = .ok (.lload_n 0, 1) := by decide +kernel
theorem dX11_rounded_4 : decode cX11_rounded 4 = .ok (.lmul, 1) := by decide +kernel
theorem dX11_rounded_5 : decode cX11_rounded 5 = .ok (.lload_n 2, 1) := by decide +kernel
theorem dX11_rounded_6 : decode cX11_rounded 6 = .ok (.ladd, 1) := by decide +kernel
theorem dX11_rounded_7 : decode cX11_rounded 7 = .ok (.ldc2_w 184, 3) := by decide +kernel
theorem dX11_rounded_10 : decode cX11_rounded 10 = .ok (.lload_n 2, 1) := by decide +kernel
theorem dX11_rounded_11 : decode cX11_rounded 11 = .ok (.lmul, 1) := by decide +kernel
theorem dX11_rounded_12 : decode cX11_rounded 12 = .ok (.invokestatic 186, 3) := by decide +kernel
theorem dX11_rounded_15 : decode cX11_rounded 15 = .ok (.lreturn, 1) := by decide +kernel
theorem dX11_ranked_0 : decode cX11_ranked 0 = .ok (.iconst 1, 1) := by decide +kernel
theorem dX11_ranked_1 : decode cX11_ranked 1 = .ok (.istore_n 2, 1) := by decide +kernel
theorem dX11_ranked_2 : decode cX11_ranked 2 = .ok (.iload_n 2, 1) := by decide +kernel
theorem dX11_ranked_3 : decode cX11_ranked 3 = .ok (.bipush 9, 2) := by decide +kernel
theorem dX11_ranked_5 : decode cX11_ranked 5 = .ok (.if_icmp .ge 67, 3) := by decide +kernel
theorem dX11_ranked_8 : decode cX11_ranked 8 = .ok (.aload_n 0, 1) := by decide +kernel
theorem dX11_ranked_9 : decode cX11_ranked 9 = .ok (.getfield 53, 3) := by decide +kernel
theorem dX11_ranked_12 : decode cX11_ranked 12 = .ok (.iload_n 2, 1) := by decide +kernel
theorem dX11_ranked_13 : decode cX11_ranked 13 = .ok (.iaload, 1) := by decide +kernel
theorem dX11_ranked_14 : decode cX11_ranked 14 = .ok (.istore_n 3, 1) := by decide +kernel
theorem dX11_ranked_15 : decode cX11_ranked 15 = .ok (.iload_n 2, 1) := by decide +kernel
theorem dX11_ranked_16 : decode cX11_ranked 16 = .ok (.istore 4, 2) := by decide +kernel
theorem dX11_ranked_18 : decode cX11_ranked 18 = .ok (.iload 4, 2) := by decide +kernel
theorem dX11_ranked_20 : decode cX11_ranked 20 = .ok (.ifCond .le 38, 3) := by decide +kernel
theorem dX11_ranked_23 : decode cX11_ranked 23 = .ok (.aload_n 0, 1) := by decide +kernel
theorem dX11_ranked_24 : decode cX11_ranked 24 = .ok (.getfield 53, 3) := by decide +kernel
theorem dX11_ranked_27 : decode cX11_ranked 27 = .ok (.iload 4, 2) := by decide +kernel
theorem dX11_ranked_29 : decode cX11_ranked 29 = .ok (.iconst 1, 1) := by decide +kernel
theorem dX11_ranked_30 : decode cX11_ranked 30 = .ok (.isub, 1) := by decide +kernel
theorem dX11_ranked_31 : decode cX11_ranked 31 = .ok (.iaload, 1) := by decide +kernel
theorem dX11_ranked_32 : decode cX11_ranked 32 = .ok (.iload_n 3, 1) := by decide +kernel
theorem dX11_ranked_33 : decode cX11_ranked 33 = .ok (.if_icmp .le 25, 3) := by decide +kernel
theorem dX11_ranked_36 : decode cX11_ranked 36 = .ok (.aload_n 0, 1) := by decide +kernel
theorem dX11_ranked_37 : decode cX11_ranked 37 = .ok (.getfield 53, 3) := by decide +kernel
theorem dX11_ranked_40 : decode cX11_ranked 40 = .ok (.iload 4, 2) := by decide +kernel
theorem dX11_ranked_42 : decode cX11_ranked 42 = .ok (.aload_n 0, 1) := by decide +kernel
theorem dX11_ranked_43 : decode cX11_ranked 43 = .ok (.getfield 53, 3) := by decide +kernel
theorem dX11_ranked_46 : decode cX11_ranked 46 = .ok (.iload 4, 2) := by decide +kernel
theorem dX11_ranked_48 : decode cX11_ranked 48 = .ok (.iconst 1, 1) := by decide +kernel
theorem dX11_ranked_49 : decode cX11_ranked 49 = .ok (.isub, 1) := by decide +kernel
theorem dX11_ranked_50 : decode cX11_ranked 50 = .ok (.iaload, 1) := by decide +kernel
theorem dX11_ranked_51 : decode cX11_ranked 51 = .ok (.iastore, 1) := by decide +kernel
theorem dX11_ranked_52 : decode cX11_ranked 52 = .ok (.iinc 4 (-1), 3) := by decide +kernel
theorem dX11_ranked_55 : decode cX11_ranked 55 = .ok (.goto (-37), 3) := by decide +kernel
theorem dX11_ranked_58 : decode cX11_ranked 58 = .ok (.aload_n 0, 1) := by decide +kernel
theorem dX11_ranked_59 : decode cX11_ranked 59 = .ok (.getfield 53, 3) := by decide +kernel
theorem dX11_ranked_62 : decode cX11_ranked 62 = .ok (.iload 4, 2) := by decide +kernel
theorem dX11_ranked_64 : decode cX11_ranked 64 = .ok (.iload_n 3, 1) := by decide +kernel
theorem dX11_ranked_65 : decode cX11_ranked 65 = .ok (.iastore, 1) := by decide +kernel
theorem dX11_ranked_66 : decode cX11_ranked 66 = .ok (.iinc 2 1, 3) := by decide +kernel
theorem dX11_ranked_69 : decode cX11_ranked 69 = .ok (.goto (-67), 3) := by decide +kernel
theorem dX11_ranked_72 : decode cX11_ranked 72 = .ok (.aload_n 0, 1) := by decide +kernel
theorem dX11_ranked_73 : decode cX11_ranked 73 = .ok (.getfield 53, 3) := by decide +kernel
theorem dX11_ranked_76 : decode cX11_ranked 76 = .ok (.iload_n 1, 1) := by decide +kernel
theorem dX11_ranked_77 : decode cX11_ranked 77 = .ok (.iaload, 1) := by decide +kernel
theorem dX11_ranked_78 : decode cX11_ranked 78 = .ok (.ireturn, 1) := by decide +kernel
theorem dX11_single_0 : decode cX11_single 0 = .ok (.aload_n 0, 1) := by decide +kernel
theorem dX11_single_1 : decode cX11_single 1 = .ok (.getfield 35, 3) := by decide +kernel
theorem dX11_single_4 : decode cX11_single 4 = .ok (.iload 4, 2) := by decide +kernel
theorem dX11_single_6 : decode cX11_single 6 = .ok (.aload_n 0, 1) := by decide +kernel
theorem dX11_single_7 : decode cX11_single 7 = .ok (.getfield 138, 3) := by decide +kernel
theorem dX11_single_10 : decode cX11_single 10 = .ok (.imul, 1) := by decide +kernel
theorem dX11_single_11 : decode cX11_single 11 = .ok (.iload_n 3, 1) := by decide +kernel
theorem dX11_single_12 : decode cX11_single 12 = .ok (.iadd, 1) := by decide +kernel
theorem dX11_single_13 : decode cX11_single 13 = .ok (.iaload, 1) := by decide +kernel
theorem dX11_single_14 : decode cX11_single 14 = .ok (.istore 6, 2) := by decide +kernel
theorem dX11_single_16 : decode cX11_single 16 = .ok (.aload_n 0, 1) := by decide +kernel
theorem dX11_single_17 : decode cX11_single 17 = .ok (.getfield 20, 3) := by decide +kernel
theorem dX11_single_20 : decode cX11_single 20 = .ok (.iload_n 1, 1) := by decide +kernel
theorem dX11_single_21 : decode cX11_single 21 = .ok (.iaload, 1) := by decide +kernel
theorem dX11_single_22 : decode cX11_single 22 = .ok (.istore 7, 2) := by decide +kernel
theorem dX11_single_24 : decode cX11_single 24 = .ok (.aload_n 0, 1) := by decide +kernel
theorem dX11_single_25 : decode cX11_single 25 = .ok (.getfield 17, 3) := by decide +kernel
theorem dX11_single_28 : decode cX11_single 28 = .ok (.iload_n 1, 1) := by decide +kernel
theorem dX11_single_29 : decode cX11_single 29 = .ok (.iaload, 1) := by decide +kernel
theorem dX11_single_30 : decode cX11_single 30 = .ok (.iconst 4, 1) := by decide +kernel
theorem dX11_single_31 : decode cX11_single 31 = .ok (.if_icmp .ge 109, 3) := by decide +kernel
theorem dX11_single_34 : decode cX11_single 34 = .ok (.aload_n 0, 1) := by decide +kernel
theorem dX11_single_35 : decode cX11_single 35 = .ok (.getfield 17, 3) := by decide +kernel
theorem dX11_single_38 : decode cX11_single 38 = .ok (.iload_n 1, 1) := by decide +kernel
theorem dX11_single_39 : decode cX11_single 39 = .ok (.iaload, 1) := by decide +kernel
theorem dX11_single_40 : decode cX11_single 40 = .ok (.ifCond .ne 13, 3) := by decide +kernel
theorem dX11_single_43 : decode cX11_single 43 = .ok (.iload 6, 2) := by decide +kernel
theorem dX11_single_45 : decode cX11_single 45 = .ok (.i2l, 1) := by decide +kernel
theorem dX11_single_46 : decode cX11_single 46 = .ok (.iload 7, 2) := by decide +kernel
theorem dX11_single_48 : decode cX11_single 48 = .ok (.i2l, 1) := by decide +kernel
theorem dX11_single_49 : decode cX11_single 49 = .ok (.ladd, 1) := by decide +kernel
theorem dX11_single_50 : decode cX11_single 50 = .ok (.goto 81, 3) := by decide +kernel
theorem dX11_single_53 : decode cX11_single 53 = .ok (.aload_n 0, 1) := by decide +kernel
theorem dX11_single_54 : decode cX11_single 54 = .ok (.getfield 17, 3) := by decide +kernel
theorem dX11_single_57 : decode cX11_single 57 = .ok (.iload_n 1, 1) := by decide +kernel
theorem dX11_single_58 : decode cX11_single 58 = .ok (.iaload, 1) := by decide +kernel
theorem dX11_single_59 : decode cX11_single 59 = .ok (.iconst 1, 1) := by decide +kernel
theorem dX11_single_60 : decode cX11_single 60 = .ok (.if_icmp .ne 21, 3) := by decide +kernel
theorem dX11_single_63 : decode cX11_single 63 = .ok (.iload_n 2, 1) := by decide +kernel
theorem dX11_single_64 : decode cX11_single 64 = .ok (.invokestatic 75, 3) := by decide +kernel
theorem dX11_single_67 : decode cX11_single 67 = .ok (.i2l, 1) := by decide +kernel
theorem dX11_single_68 : decode cX11_single 68 = .ok (.iload_n 2, 1) := by decide +kernel
theorem dX11_single_69 : decode cX11_single 69 = .ok (.invokestatic 79, 3) := by decide +kernel
theorem dX11_single_72 : decode cX11_single 72 = .ok (.i2l, 1) := by decide +kernel
theorem dX11_single_73 : decode cX11_single 73 = .ok (.ladd, 1) := by decide +kernel
theorem dX11_single_74 : decode cX11_single 74 = .ok (.iload 6, 2) := by decide +kernel
theorem dX11_single_76 : decode cX11_single 76 = .ok (.i2l, 1) := by decide +kernel
theorem dX11_single_77 : decode cX11_single 77 = .ok (.lsub, 1) := by decide +kernel
theorem dX11_single_78 : decode cX11_single 78 = .ok (.goto 53, 3) := by decide +kernel
theorem dX11_single_81 : decode cX11_single 81 = .ok (.aload_n 0, 1) := by decide +kernel
theorem dX11_single_82 : decode cX11_single 82 = .ok (.getfield 17, 3) := by decide +kernel
theorem dX11_single_85 : decode cX11_single 85 = .ok (.iload_n 1, 1) := by decide +kernel
theorem dX11_single_86 : decode cX11_single 86 = .ok (.iaload, 1) := by decide +kernel
theorem dX11_single_87 : decode cX11_single 87 = .ok (.iconst 2, 1) := by decide +kernel
theorem dX11_single_88 : decode cX11_single 88 = .ok (.if_icmp .ne 26, 3) := by decide +kernel
theorem dX11_single_91 : decode cX11_single 91 = .ok (.iload 6, 2) := by decide +kernel
theorem dX11_single_93 : decode cX11_single 93 = .ok (.iload 7, 2) := by decide +kernel
theorem dX11_single_95 : decode cX11_single 95 = .ok (.if_icmp .lt 11, 3) := by decide +kernel
theorem dX11_single_98 : decode cX11_single 98 = .ok (.iload_n 2, 1) := by decide +kernel
theorem dX11_single_99 : decode cX11_single 99 = .ok (.invokestatic 79, 3) := by decide +kernel
theorem dX11_single_102 : decode cX11_single 102 = .ok (.i2l, 1) := by decide +kernel
theorem dX11_single_103 : decode cX11_single 103 = .ok (.goto 28, 3) := by decide +kernel
theorem dX11_single_106 : decode cX11_single 106 = .ok (.iload_n 2, 1) := by decide +kernel
theorem dX11_single_107 : decode cX11_single 107 = .ok (.invokestatic 75, 3) := by decide +kernel
theorem dX11_single_110 : decode cX11_single 110 = .ok (.i2l, 1) := by decide +kernel
theorem dX11_single_111 : decode cX11_single 111 = .ok (.goto 20, 3) := by decide +kernel
theorem dX11_single_114 : decode cX11_single 114 = .ok (.iload 6, 2) := by decide +kernel
theorem dX11_single_116 : decode cX11_single 116 = .ok (.i2l, 1) := by decide +kernel
theorem dX11_single_117 : decode cX11_single 117 = .ok (.iload 7, 2) := by decide +kernel
theorem dX11_single_119 : decode cX11_single 119 = .ok (.i2l, 1) := by decide +kernel
theorem dX11_single_120 : decode cX11_single 120 = .ok (.lmul, 1) := by decide +kernel
theorem dX11_single_121 : decode cX11_single 121 = .ok (.aload_n 0, 1) := by decide +kernel
theorem dX11_single_122 : decode cX11_single 122 = .ok (.getfield 23, 3) := by decide +kernel
theorem dX11_single_125 : decode cX11_single 125 = .ok (.iload_n 1, 1) := by decide +kernel
theorem dX11_single_126 : decode cX11_single 126 = .ok (.iaload, 1) := by decide +kernel
theorem dX11_single_127 : decode cX11_single 127 = .ok (.i2l, 1) := by decide +kernel
theorem dX11_single_128 : decode cX11_single 128 = .ok (.invokestatic 190, 3) := by decide +kernel
theorem dX11_single_131 : decode cX11_single 131 = .ok (.lstore 8, 2) := by decide +kernel
theorem dX11_single_133 : decode cX11_single 133 = .ok (.iload_n 2, 1) := by decide +kernel
theorem dX11_single_134 : decode cX11_single 134 = .ok (.lload 8, 2) := by decide +kernel
theorem dX11_single_136 : decode cX11_single 136 = .ok (.invokestatic 162, 3) := by decide +kernel
theorem dX11_single_139 : decode cX11_single 139 = .ok (.ireturn, 1) := by decide +kernel
theorem dX11_single_140 : decode cX11_single 140 = .ok (.lconst 0, 1) := by decide +kernel
theorem dX11_single_141 : decode cX11_single 141 = .ok (.lstore 8, 2) := by decide +kernel
theorem dX11_single_143 : decode cX11_single 143 = .ok (.iconst 0, 1) := by decide +kernel
theorem dX11_single_144 : decode cX11_single 144 = .ok (.istore 10, 2) := by decide +kernel
theorem dX11_single_146 : decode cX11_single 146 = .ok (.iload 10, 2) := by decide +kernel
theorem dX11_single_148 : decode cX11_single 148 = .ok (.bipush 9, 2) := by decide +kernel
theorem dX11_single_150 : decode cX11_single 150 = .ok (.if_icmp .ge 66, 3) := by decide +kernel
theorem dX11_single_153 : decode cX11_single 153 = .ok (.aload_n 0, 1) := by decide +kernel
theorem dX11_single_154 : decode cX11_single 154 = .ok (.getfield 53, 3) := by decide +kernel
theorem dX11_single_157 : decode cX11_single 157 = .ok (.iload 10, 2) := by decide +kernel
theorem dX11_single_159 : decode cX11_single 159 = .ok (.aload_n 0, 1) := by decide +kernel
theorem dX11_single_160 : decode cX11_single 160 = .ok (.iload_n 3, 1) := by decide +kernel
theorem dX11_single_161 : decode cX11_single 161 = .ok (.iload 10, 2) := by decide +kernel
theorem dX11_single_163 : decode cX11_single 163 = .ok (.iconst 3, 1) := by decide +kernel
theorem dX11_single_164 : decode cX11_single 164 = .ok (.irem, 1) := by decide +kernel
theorem dX11_single_165 : decode cX11_single 165 = .ok (.iadd, 1) := by decide +kernel
theorem dX11_single_166 : decode cX11_single 166 = .ok (.iconst 1, 1) := by decide +kernel
theorem dX11_single_167 : decode cX11_single 167 = .ok (.isub, 1) := by decide +kernel
theorem dX11_single_168 : decode cX11_single 168 = .ok (.iload 4, 2) := by decide +kernel
theorem dX11_single_170 : decode cX11_single 170 = .ok (.iload 10, 2) := by decide +kernel
theorem dX11_single_172 : decode cX11_single 172 = .ok (.iconst 3, 1) := by decide +kernel
theorem dX11_single_173 : decode cX11_single 173 = .ok (.idiv, 1) := by decide +kernel
theorem dX11_single_174 : decode cX11_single 174 = .ok (.iadd, 1) := by decide +kernel
theorem dX11_single_175 : decode cX11_single 175 = .ok (.iconst 1, 1) := by decide +kernel
theorem dX11_single_176 : decode cX11_single 176 = .ok (.isub, 1) := by decide +kernel
theorem dX11_single_177 : decode cX11_single 177 = .ok (.iload 5, 2) := by decide +kernel
theorem dX11_single_179 : decode cX11_single 179 = .ok (.invokevirtual 156, 3) := by decide +kernel
theorem dX11_single_182 : decode cX11_single 182 = .ok (.iastore, 1) := by decide +kernel
theorem dX11_single_183 : decode cX11_single 183 = .ok (.lload 8, 2) := by decide +kernel
theorem dX11_single_185 : decode cX11_single 185 = .ok (.aload_n 0, 1) := by decide +kernel
theorem dX11_single_186 : decode cX11_single 186 = .ok (.getfield 53, 3) := by decide +kernel
theorem dX11_single_189 : decode cX11_single 189 = .ok (.iload 10, 2) := by decide +kernel
theorem dX11_single_191 : decode cX11_single 191 = .ok (.iaload, 1) := by decide +kernel
theorem dX11_single_192 : decode cX11_single 192 = .ok (.i2l, 1) := by decide +kernel
theorem dX11_single_193 : decode cX11_single 193 = .ok (.aload_n 0, 1) := by decide +kernel
theorem dX11_single_194 : decode cX11_single 194 = .ok (.getfield 29, 3) := by decide +kernel
theorem dX11_single_197 : decode cX11_single 197 = .ok (.bipush 9, 2) := by decide +kernel
theorem dX11_single_199 : decode cX11_single 199 = .ok (.iload_n 1, 1) := by decide +kernel
theorem dX11_single_200 : decode cX11_single 200 = .ok (.imul, 1) := by decide +kernel
theorem dX11_single_201 : decode cX11_single 201 = .ok (.iload 10, 2) := by decide +kernel
theorem dX11_single_203 : decode cX11_single 203 = .ok (.iadd, 1) := by decide +kernel
theorem dX11_single_204 : decode cX11_single 204 = .ok (.iaload, 1) := by decide +kernel
theorem dX11_single_205 : decode cX11_single 205 = .ok (.i2l, 1) := by decide +kernel
theorem dX11_single_206 : decode cX11_single 206 = .ok (.lmul, 1) := by decide +kernel
theorem dX11_single_207 : decode cX11_single 207 = .ok (.ladd, 1) := by decide +kernel
theorem dX11_single_208 : decode cX11_single 208 = .ok (.lstore 8, 2) := by decide +kernel
theorem dX11_single_210 : decode cX11_single 210 = .ok (.iinc 10 1, 3) := by decide +kernel
theorem dX11_single_213 : decode cX11_single 213 = .ok (.goto (-67), 3) := by decide +kernel
theorem dX11_single_216 : decode cX11_single 216 = .ok (.aload_n 0, 1) := by decide +kernel
theorem dX11_single_217 : decode cX11_single 217 = .ok (.getfield 17, 3) := by decide +kernel
theorem dX11_single_220 : decode cX11_single 220 = .ok (.iload_n 1, 1) := by decide +kernel
theorem dX11_single_221 : decode cX11_single 221 = .ok (.iaload, 1) := by decide +kernel
theorem dX11_single_222 : decode cX11_single 222 = .ok (.iconst 4, 1) := by decide +kernel
theorem dX11_single_223 : decode cX11_single 223 = .ok (.if_icmp .ne 18, 3) := by decide +kernel
theorem dX11_single_226 : decode cX11_single 226 = .ok (.iload_n 2, 1) := by decide +kernel
theorem dX11_single_227 : decode cX11_single 227 = .ok (.lload 8, 2) := by decide +kernel
theorem dX11_single_229 : decode cX11_single 229 = .ok (.iload 7, 2) := by decide +kernel
theorem dX11_single_231 : decode cX11_single 231 = .ok (.i2l, 1) := by decide +kernel
theorem dX11_single_232 : decode cX11_single 232 = .ok (.invokestatic 190, 3) := by decide +kernel
theorem dX11_single_235 : decode cX11_single 235 = .ok (.invokestatic 162, 3) := by decide +kernel
theorem dX11_single_238 : decode cX11_single 238 = .ok (.goto 9, 3) := by decide +kernel
theorem dX11_single_241 : decode cX11_single 241 = .ok (.aload_n 0, 1) := by decide +kernel
theorem dX11_single_242 : decode cX11_single 242 = .ok (.iload 7, 2) := by decide +kernel
theorem dX11_single_244 : decode cX11_single 244 = .ok (.invokevirtual 193, 3) := by decide +kernel
theorem dX11_single_247 : decode cX11_single 247 = .ok (.ireturn, 1) := by decide +kernel
theorem dX11_giveTo_0 : decode cX11_giveTo 0 = .ok (.aload_n 0, 1) := by decide +kernel
theorem dX11_giveTo_1 : decode cX11_giveTo 1 = .ok (.getfield 38, 3) := by decide +kernel
theorem dX11_giveTo_4 : decode cX11_giveTo 4 = .ok (.iload_n 1, 1) := by decide +kernel
theorem dX11_giveTo_5 : decode cX11_giveTo 5 = .ok (.iload_n 2, 1) := by decide +kernel
theorem dX11_giveTo_6 : decode cX11_giveTo 6 = .ok (.iastore, 1) := by decide +kernel
theorem dX11_giveTo_7 : decode cX11_giveTo 7 = .ok (.aload_n 0, 1) := by decide +kernel
theorem dX11_giveTo_8 : decode cX11_giveTo 8 = .ok (.getfield 41, 3) := by decide +kernel
theorem dX11_giveTo_11 : decode cX11_giveTo 11 = .ok (.iload_n 1, 1) := by decide +kernel
theorem dX11_giveTo_12 : decode cX11_giveTo 12 = .ok (.iconst 0, 1) := by decide +kernel
theorem dX11_giveTo_13 : decode cX11_giveTo 13 = .ok (.iastore, 1) := by decide +kernel
theorem dX11_giveTo_14 : decode cX11_giveTo 14 = .ok (.iconst 0, 1) := by decide +kernel
theorem dX11_giveTo_15 : decode cX11_giveTo 15 = .ok (.istore 4, 2) := by decide +kernel
theorem dX11_giveTo_17 : decode cX11_giveTo 17 = .ok (.iload 4, 2) := by decide +kernel
theorem dX11_giveTo_19 : decode cX11_giveTo 19 = .ok (.sipush 256, 3) := by decide +kernel
theorem dX11_giveTo_22 : decode cX11_giveTo 22 = .ok (.if_icmp .ge 53, 3) := by decide +kernel
theorem dX11_giveTo_25 : decode cX11_giveTo 25 = .ok (.aload_n 0, 1) := by decide +kernel
theorem dX11_giveTo_26 : decode cX11_giveTo 26 = .ok (.getfield 44, 3) := by decide +kernel
theorem dX11_giveTo_29 : decode cX11_giveTo 29 = .ok (.sipush 256, 3) := by decide +kernel
theorem dX11_giveTo_32 : decode cX11_giveTo 32 = .ok (.iload_n 1, 1) := by decide +kernel
theorem dX11_giveTo_33 : decode cX11_giveTo 33 = .ok (.imul, 1) := by decide +kernel
theorem dX11_giveTo_34 : decode cX11_giveTo 34 = .ok (.iload 4, 2) := by decide +kernel
theorem dX11_giveTo_36 : decode cX11_giveTo 36 = .ok (.iadd, 1) := by decide +kernel
theorem dX11_giveTo_37 : decode cX11_giveTo 37 = .ok (.iload_n 3, 1) := by decide +kernel
theorem dX11_giveTo_38 : decode cX11_giveTo 38 = .ok (.ifCond .eq 13, 3) := by decide +kernel
theorem dX11_giveTo_41 : decode cX11_giveTo 41 = .ok (.aload_n 0, 1) := by decide +kernel
theorem dX11_giveTo_42 : decode cX11_giveTo 42 = .ok (.getfield 50, 3) := by decide +kernel
theorem dX11_giveTo_45 : decode cX11_giveTo 45 = .ok (.iload 4, 2) := by decide +kernel
theorem dX11_giveTo_47 : decode cX11_giveTo 47 = .ok (.iaload, 1) := by decide +kernel
theorem dX11_giveTo_48 : decode cX11_giveTo 48 = .ok (.goto 20, 3) := by decide +kernel
theorem dX11_giveTo_51 : decode cX11_giveTo 51 = .ok (.aload_n 0, 1) := by decide +kernel
theorem dX11_giveTo_52 : decode cX11_giveTo 52 = .ok (.getfield 44, 3) := by decide +kernel
theorem dX11_giveTo_55 : decode cX11_giveTo 55 = .ok (.sipush 256, 3) := by decide +kernel
theorem dX11_giveTo_58 : decode cX11_giveTo 58 = .ok (.iload_n 1, 1) := by decide +kernel
theorem dX11_giveTo_59 : decode cX11_giveTo 59 = .ok (.imul, 1) := by decide +kernel
theorem dX11_giveTo_60 : decode cX11_giveTo 60 = .ok (.sipush 256, 3) := by decide +kernel
theorem dX11_giveTo_63 : decode cX11_giveTo 63 = .ok (.isub, 1) := by decide +kernel
theorem dX11_giveTo_64 : decode cX11_giveTo 64 = .ok (.iload 4, 2) := by decide +kernel
theorem dX11_giveTo_66 : decode cX11_giveTo 66 = .ok (.iadd, 1) := by decide +kernel
theorem dX11_giveTo_67 : decode cX11_giveTo 67 = .ok (.iaload, 1) := by decide +kernel
theorem dX11_giveTo_68 : decode cX11_giveTo 68 = .ok (.iastore, 1) := by decide +kernel
theorem dX11_giveTo_69 : decode cX11_giveTo 69 = .ok (.iinc 4 1, 3) := by decide +kernel
theorem dX11_giveTo_72 : decode cX11_giveTo 72 = .ok (.goto (-55), 3) := by decide +kernel
theorem dX11_giveTo_75 : decode cX11_giveTo 75 = .ok (.return_, 1) := by decide +kernel
theorem dX11_goOn_0 : decode cX11_goOn 0 = .ok (.aload_n 0, 1) := by decide +kernel
theorem dX11_goOn_1 : decode cX11_goOn 1 = .ok (.getfield 38, 3) := by decide +kernel
theorem dX11_goOn_4 : decode cX11_goOn 4 = .ok (.iload_n 1, 1) := by decide +kernel
theorem dX11_goOn_5 : decode cX11_goOn 5 = .ok (.iaload, 1) := by decide +kernel
theorem dX11_goOn_6 : decode cX11_goOn 6 = .ok (.istore 4, 2) := by decide +kernel
theorem dX11_goOn_8 : decode cX11_goOn 8 = .ok (.aload_n 0, 1) := by decide +kernel
theorem dX11_goOn_9 : decode cX11_goOn 9 = .ok (.getfield 17, 3) := by decide +kernel
theorem dX11_goOn_12 : decode cX11_goOn 12 = .ok (.iload 4, 2) := by decide +kernel
theorem dX11_goOn_14 : decode cX11_goOn 14 = .ok (.iaload, 1) := by decide +kernel
theorem dX11_goOn_15 : decode cX11_goOn 15 = .ok (.istore 5, 2) := by decide +kernel
theorem dX11_goOn_17 : decode cX11_goOn 17 = .ok (.aload_n 0, 1) := by decide +kernel
theorem dX11_goOn_18 : decode cX11_goOn 18 = .ok (.getfield 138, 3) := by decide +kernel
theorem dX11_goOn_21 : decode cX11_goOn 21 = .ok (.aload_n 0, 1) := by decide +kernel
theorem dX11_goOn_22 : decode cX11_goOn 22 = .ok (.getfield 141, 3) := by decide +kernel
theorem dX11_goOn_25 : decode cX11_goOn 25 = .ok (.imul, 1) := by decide +kernel
theorem dX11_goOn_26 : decode cX11_goOn 26 = .ok (.istore 6, 2) := by decide +kernel
theorem dX11_goOn_28 : decode cX11_goOn 28 = .ok (.iload 5, 2) := by decide +kernel
theorem dX11_goOn_30 : decode cX11_goOn 30 = .ok (.bipush 6, 2) := by decide +kernel
theorem dX11_goOn_32 : decode cX11_goOn 32 = .ok (.if_icmp .ge 86, 3) := by decide +kernel
theorem dX11_goOn_35 : decode cX11_goOn 35 = .ok (.iconst 0, 1) := by decide +kernel
theorem dX11_goOn_36 : decode cX11_goOn 36 = .ok (.istore 7, 2) := by decide +kernel
theorem dX11_goOn_38 : decode cX11_goOn 38 = .ok (.iload 7, 2) := by decide +kernel
theorem dX11_goOn_40 : decode cX11_goOn 40 = .ok (.iload 6, 2) := by decide +kernel
theorem dX11_goOn_42 : decode cX11_goOn 42 = .ok (.if_icmp .ge 29, 3) := by decide +kernel
theorem dX11_goOn_45 : decode cX11_goOn 45 = .ok (.aload_n 0, 1) := by decide +kernel
theorem dX11_goOn_46 : decode cX11_goOn 46 = .ok (.getfield 35, 3) := by decide +kernel
theorem dX11_goOn_49 : decode cX11_goOn 49 = .ok (.iload 7, 2) := by decide +kernel
theorem dX11_goOn_51 : decode cX11_goOn 51 = .ok (.aload_n 0, 1) := by decide +kernel
theorem dX11_goOn_52 : decode cX11_goOn 52 = .ok (.getfield 44, 3) := by decide +kernel
theorem dX11_goOn_55 : decode cX11_goOn 55 = .ok (.sipush 256, 3) := by decide +kernel
theorem dX11_goOn_58 : decode cX11_goOn 58 = .ok (.iload_n 1, 1) := by decide +kernel
theorem dX11_goOn_59 : decode cX11_goOn 59 = .ok (.imul, 1) := by decide +kernel
theorem dX11_goOn_60 : decode cX11_goOn 60 = .ok (.iload 7, 2) := by decide +kernel
theorem dX11_goOn_62 : decode cX11_goOn 62 = .ok (.iadd, 1) := by decide +kernel
theorem dX11_goOn_63 : decode cX11_goOn 63 = .ok (.iaload, 1) := by decide +kernel
theorem dX11_goOn_64 : decode cX11_goOn 64 = .ok (.iastore, 1) := by decide +kernel
theorem dX11_goOn_65 : decode cX11_goOn 65 = .ok (.iinc 7 1, 3) := by decide +kernel
theorem dX11_goOn_68 : decode cX11_goOn 68 = .ok (.goto (-30), 3) := by decide +kernel
theorem dX11_goOn_71 : decode cX11_goOn 71 = .ok (.iconst 0, 1) := by decide +kernel
theorem dX11_goOn_72 : decode cX11_goOn 72 = .ok (.istore 7, 2) := by decide +kernel
theorem dX11_goOn_74 : decode cX11_goOn 74 = .ok (.iload 7, 2) := by decide +kernel
theorem dX11_goOn_76 : decode cX11_goOn 76 = .ok (.iload 6, 2) := by decide +kernel
theorem dX11_goOn_78 : decode cX11_goOn 78 = .ok (.if_icmp .ge 38, 3) := by decide +kernel
theorem dX11_goOn_81 : decode cX11_goOn 81 = .ok (.aload_n 0, 1) := by decide +kernel
theorem dX11_goOn_82 : decode cX11_goOn 82 = .ok (.getfield 50, 3) := by decide +kernel
theorem dX11_goOn_85 : decode cX11_goOn 85 = .ok (.iload 7, 2) := by decide +kernel
theorem dX11_goOn_87 : decode cX11_goOn 87 = .ok (.aload_n 0, 1) := by decide +kernel
theorem dX11_goOn_88 : decode cX11_goOn 88 = .ok (.iload 4, 2) := by decide +kernel
theorem dX11_goOn_90 : decode cX11_goOn 90 = .ok (.iload_n 2, 1) := by decide +kernel
theorem dX11_goOn_91 : decode cX11_goOn 91 = .ok (.iload 7, 2) := by decide +kernel
theorem dX11_goOn_93 : decode cX11_goOn 93 = .ok (.aload_n 0, 1) := by decide +kernel
theorem dX11_goOn_94 : decode cX11_goOn 94 = .ok (.getfield 138, 3) := by decide +kernel
theorem dX11_goOn_97 : decode cX11_goOn 97 = .ok (.irem, 1) := by decide +kernel
theorem dX11_goOn_98 : decode cX11_goOn 98 = .ok (.iload 7, 2) := by decide +kernel
theorem dX11_goOn_100 : decode cX11_goOn 100 = .ok (.aload_n 0, 1) := by decide +kernel
theorem dX11_goOn_101 : decode cX11_goOn 101 = .ok (.getfield 138, 3) := by decide +kernel
theorem dX11_goOn_104 : decode cX11_goOn 104 = .ok (.idiv, 1) := by decide +kernel
theorem dX11_goOn_105 : decode cX11_goOn 105 = .ok (.iload_n 3, 1) := by decide +kernel
theorem dX11_goOn_106 : decode cX11_goOn 106 = .ok (.invokevirtual 196, 3) := by decide +kernel
theorem dX11_goOn_109 : decode cX11_goOn 109 = .ok (.iastore, 1) := by decide +kernel
theorem dX11_goOn_110 : decode cX11_goOn 110 = .ok (.iinc 7 1, 3) := by decide +kernel
theorem dX11_goOn_113 : decode cX11_goOn 113 = .ok (.goto (-39), 3) := by decide +kernel
theorem dX11_goOn_116 : decode cX11_goOn 116 = .ok (.iload_n 1, 1) := by decide +kernel
theorem dX11_goOn_117 : decode cX11_goOn 117 = .ok (.ireturn, 1) := by decide +kernel
theorem dX11_goOn_118 : decode cX11_goOn 118 = .ok (.aload_n 0, 1) := by decide +kernel
theorem dX11_goOn_119 : decode cX11_goOn 119 = .ok (.getfield 41, 3) := by decide +kernel
theorem dX11_goOn_122 : decode cX11_goOn 122 = .ok (.iload_n 1, 1) := by decide +kernel
theorem dX11_goOn_123 : decode cX11_goOn 123 = .ok (.dup2, 1) := by decide +kernel
theorem dX11_goOn_124 : decode cX11_goOn 124 = .ok (.iaload, 1) := by decide +kernel
theorem dX11_goOn_125 : decode cX11_goOn 125 = .ok (.iconst 1, 1) := by decide +kernel
theorem dX11_goOn_126 : decode cX11_goOn 126 = .ok (.iadd, 1) := by decide +kernel
theorem dX11_goOn_127 : decode cX11_goOn 127 = .ok (.iastore, 1) := by decide +kernel
theorem dX11_goOn_128 : decode cX11_goOn 128 = .ok (.aload_n 0, 1) := by decide +kernel
theorem dX11_goOn_129 : decode cX11_goOn 129 = .ok (.getfield 41, 3) := by decide +kernel
theorem dX11_goOn_132 : decode cX11_goOn 132 = .ok (.iload_n 1, 1) := by decide +kernel
theorem dX11_goOn_133 : decode cX11_goOn 133 = .ok (.iaload, 1) := by decide +kernel
theorem dX11_goOn_134 : decode cX11_goOn 134 = .ok (.iconst 1, 1) := by decide +kernel
theorem dX11_goOn_135 : decode cX11_goOn 135 = .ok (.if_icmp .ne 39, 3) := by decide +kernel
theorem dX11_goOn_138 : decode cX11_goOn 138 = .ok (.aload_n 0, 1) := by decide +kernel
theorem dX11_goOn_139 : decode cX11_goOn 139 = .ok (.iload_n 1, 1) := by decide +kernel
theorem dX11_goOn_140 : decode cX11_goOn 140 = .ok (.iconst 1, 1) := by decide +kernel
theorem dX11_goOn_141 : decode cX11_goOn 141 = .ok (.iadd, 1) := by decide +kernel
theorem dX11_goOn_142 : decode cX11_goOn 142 = .ok (.iload 5, 2) := by decide +kernel
theorem dX11_goOn_144 : decode cX11_goOn 144 = .ok (.bipush 7, 2) := by decide +kernel
theorem dX11_goOn_146 : decode cX11_goOn 146 = .ok (.if_icmp .ne 13, 3) := by decide +kernel
theorem dX11_goOn_149 : decode cX11_goOn 149 = .ok (.aload_n 0, 1) := by decide +kernel
theorem dX11_goOn_150 : decode cX11_goOn 150 = .ok (.getfield 23, 3) := by decide +kernel
theorem dX11_goOn_153 : decode cX11_goOn 153 = .ok (.iload 4, 2) := by decide +kernel
theorem dX11_goOn_155 : decode cX11_goOn 155 = .ok (.iaload, 1) := by decide +kernel
theorem dX11_goOn_156 : decode cX11_goOn 156 = .ok (.goto 10, 3) := by decide +kernel
theorem dX11_goOn_159 : decode cX11_goOn 159 = .ok (.aload_n 0, 1) := by decide +kernel
theorem dX11_goOn_160 : decode cX11_goOn 160 = .ok (.getfield 20, 3) := by decide +kernel
theorem dX11_goOn_163 : decode cX11_goOn 163 = .ok (.iload 4, 2) := by decide +kernel
theorem dX11_goOn_165 : decode cX11_goOn 165 = .ok (.iaload, 1) := by decide +kernel
theorem dX11_goOn_166 : decode cX11_goOn 166 = .ok (.iconst 0, 1) := by decide +kernel
theorem dX11_goOn_167 : decode cX11_goOn 167 = .ok (.invokevirtual 200, 3) := by decide +kernel
theorem dX11_goOn_170 : decode cX11_goOn 170 = .ok (.iload_n 1, 1) := by decide +kernel
theorem dX11_goOn_171 : decode cX11_goOn 171 = .ok (.iconst 2, 1) := by decide +kernel
theorem dX11_goOn_172 : decode cX11_goOn 172 = .ok (.iadd, 1) := by decide +kernel
theorem dX11_goOn_173 : decode cX11_goOn 173 = .ok (.ireturn, 1) := by decide +kernel
theorem dX11_goOn_174 : decode cX11_goOn 174 = .ok (.iload 5, 2) := by decide +kernel
theorem dX11_goOn_176 : decode cX11_goOn 176 = .ok (.bipush 7, 2) := by decide +kernel
theorem dX11_goOn_178 : decode cX11_goOn 178 = .ok (.if_icmp .ne 106, 3) := by decide +kernel
theorem dX11_goOn_181 : decode cX11_goOn 181 = .ok (.iconst 0, 1) := by decide +kernel
theorem dX11_goOn_182 : decode cX11_goOn 182 = .ok (.istore 7, 2) := by decide +kernel
theorem dX11_goOn_184 : decode cX11_goOn 184 = .ok (.iload 7, 2) := by decide +kernel
theorem dX11_goOn_186 : decode cX11_goOn 186 = .ok (.iload 6, 2) := by decide +kernel
theorem dX11_goOn_188 : decode cX11_goOn 188 = .ok (.if_icmp .ge 94, 3) := by decide +kernel
theorem dX11_goOn_191 : decode cX11_goOn 191 = .ok (.aload_n 0, 1) := by decide +kernel
theorem dX11_goOn_192 : decode cX11_goOn 192 = .ok (.getfield 7, 3) := by decide +kernel
theorem dX11_goOn_195 : decode cX11_goOn 195 = .ok (.sipush 2072, 3) := by decide +kernel
theorem dX11_goOn_198 : decode cX11_goOn 198 = .ok (.sipush 256, 3) := by decide +kernel
theorem dX11_goOn_201 : decode cX11_goOn 201 = .ok (.aload_n 0, 1) := by decide +kernel
theorem dX11_goOn_202 : decode cX11_goOn 202 = .ok (.getfield 20, 3) := by decide +kernel
theorem dX11_goOn_205 : decode cX11_goOn 205 = .ok (.iload 4, 2) := by decide +kernel
theorem dX11_goOn_207 : decode cX11_goOn 207 = .ok (.iaload, 1) := by decide +kernel
theorem dX11_goOn_208 : decode cX11_goOn 208 = .ok (.imul, 1) := by decide +kernel
theorem dX11_goOn_209 : decode cX11_goOn 209 = .ok (.iadd, 1) := by decide +kernel
theorem dX11_goOn_210 : decode cX11_goOn 210 = .ok (.bipush 16, 2) := by decide +kernel
theorem dX11_goOn_212 : decode cX11_goOn 212 = .ok (.iload 7, 2) := by decide +kernel
theorem dX11_goOn_214 : decode cX11_goOn 214 = .ok (.aload_n 0, 1) := by decide +kernel
theorem dX11_goOn_215 : decode cX11_goOn 215 = .ok (.getfield 138, 3) := by decide +kernel
theorem dX11_goOn_218 : decode cX11_goOn 218 = .ok (.idiv, 1) := by decide +kernel
theorem dX11_goOn_219 : decode cX11_goOn 219 = .ok (.imul, 1) := by decide +kernel
theorem dX11_goOn_220 : decode cX11_goOn 220 = .ok (.iadd, 1) := by decide +kernel
theorem dX11_goOn_221 : decode cX11_goOn 221 = .ok (.iload 7, 2) := by decide +kernel
theorem dX11_goOn_223 : decode cX11_goOn 223 = .ok (.aload_n 0, 1) := by decide +kernel
theorem dX11_goOn_224 : decode cX11_goOn 224 = .ok (.getfield 138, 3) := by decide +kernel
theorem dX11_goOn_227 : decode cX11_goOn 227 = .ok (.irem, 1) := by decide +kernel
theorem dX11_goOn_228 : decode cX11_goOn 228 = .ok (.iadd, 1) := by decide +kernel
theorem dX11_goOn_229 : decode cX11_goOn 229 = .ok (.iaload, 1) := by decide +kernel
theorem dX11_goOn_230 : decode cX11_goOn 230 = .ok (.iconst 1, 1) := by decide +kernel
theorem dX11_goOn_231 : decode cX11_goOn 231 = .ok (.if_icmp .ne 7, 3) := by decide +kernel
theorem dX11_goOn_234 : decode cX11_goOn 234 = .ok (.iconst 1, 1) := by decide +kernel
theorem dX11_goOn_235 : decode cX11_goOn 235 = .ok (.goto 4, 3) := by decide +kernel
theorem dX11_goOn_238 : decode cX11_goOn 238 = .ok (.iconst 0, 1) := by decide +kernel
theorem dX11_goOn_239 : decode cX11_goOn 239 = .ok (.istore 8, 2) := by decide +kernel
theorem dX11_goOn_241 : decode cX11_goOn 241 = .ok (.aload_n 0, 1) := by decide +kernel
theorem dX11_goOn_242 : decode cX11_goOn 242 = .ok (.getfield 50, 3) := by decide +kernel
theorem dX11_goOn_245 : decode cX11_goOn 245 = .ok (.iload 7, 2) := by decide +kernel
theorem dX11_goOn_247 : decode cX11_goOn 247 = .ok (.iload 8, 2) := by decide +kernel
theorem dX11_goOn_249 : decode cX11_goOn 249 = .ok (.ifCond .eq 13, 3) := by decide +kernel
theorem dX11_goOn_252 : decode cX11_goOn 252 = .ok (.aload_n 0, 1) := by decide +kernel
theorem dX11_goOn_253 : decode cX11_goOn 253 = .ok (.getfield 50, 3) := by decide +kernel
theorem dX11_goOn_256 : decode cX11_goOn 256 = .ok (.iload 7, 2) := by decide +kernel
theorem dX11_goOn_258 : decode cX11_goOn 258 = .ok (.iaload, 1) := by decide +kernel
theorem dX11_goOn_259 : decode cX11_goOn 259 = .ok (.goto 16, 3) := by decide +kernel
theorem dX11_goOn_262 : decode cX11_goOn 262 = .ok (.aload_n 0, 1) := by decide +kernel
theorem dX11_goOn_263 : decode cX11_goOn 263 = .ok (.getfield 44, 3) := by decide +kernel
theorem dX11_goOn_266 : decode cX11_goOn 266 = .ok (.sipush 256, 3) := by decide +kernel
theorem dX11_goOn_269 : decode cX11_goOn 269 = .ok (.iload_n 1, 1) := by decide +kernel
theorem dX11_goOn_270 : decode cX11_goOn 270 = .ok (.imul, 1) := by decide +kernel
theorem dX11_goOn_271 : decode cX11_goOn 271 = .ok (.iload 7, 2) := by decide +kernel
theorem dX11_goOn_273 : decode cX11_goOn 273 = .ok (.iadd, 1) := by decide +kernel
theorem dX11_goOn_274 : decode cX11_goOn 274 = .ok (.iaload, 1) := by decide +kernel
theorem dX11_goOn_275 : decode cX11_goOn 275 = .ok (.iastore, 1) := by decide +kernel
theorem dX11_goOn_276 : decode cX11_goOn 276 = .ok (.iinc 7 1, 3) := by decide +kernel
theorem dX11_goOn_279 : decode cX11_goOn 279 = .ok (.goto (-95), 3) := by decide +kernel
theorem dX11_goOn_282 : decode cX11_goOn 282 = .ok (.iload_n 1, 1) := by decide +kernel
theorem dX11_goOn_283 : decode cX11_goOn 283 = .ok (.ireturn, 1) := by decide +kernel
theorem dX11_goOn_284 : decode cX11_goOn 284 = .ok (.aload_n 0, 1) := by decide +kernel
theorem dX11_goOn_285 : decode cX11_goOn 285 = .ok (.getfield 41, 3) := by decide +kernel
theorem dX11_goOn_288 : decode cX11_goOn 288 = .ok (.iload_n 1, 1) := by decide +kernel
theorem dX11_goOn_289 : decode cX11_goOn 289 = .ok (.iaload, 1) := by decide +kernel
theorem dX11_goOn_290 : decode cX11_goOn 290 = .ok (.iconst 2, 1) := by decide +kernel
theorem dX11_goOn_291 : decode cX11_goOn 291 = .ok (.if_icmp .ne 69, 3) := by decide +kernel
theorem dX11_goOn_294 : decode cX11_goOn 294 = .ok (.iconst 0, 1) := by decide +kernel
theorem dX11_goOn_295 : decode cX11_goOn 295 = .ok (.istore 7, 2) := by decide +kernel
theorem dX11_goOn_297 : decode cX11_goOn 297 = .ok (.iload 7, 2) := by decide +kernel
theorem dX11_goOn_299 : decode cX11_goOn 299 = .ok (.iload 6, 2) := by decide +kernel
theorem dX11_goOn_301 : decode cX11_goOn 301 = .ok (.if_icmp .ge 29, 3) := by decide +kernel
theorem dX11_goOn_304 : decode cX11_goOn 304 = .ok (.aload_n 0, 1) := by decide +kernel
theorem dX11_goOn_305 : decode cX11_goOn 305 = .ok (.getfield 47, 3) := by decide +kernel
theorem dX11_goOn_308 : decode cX11_goOn 308 = .ok (.sipush 256, 3) := by decide +kernel
theorem dX11_goOn_311 : decode cX11_goOn 311 = .ok (.iload_n 1, 1) := by decide +kernel
theorem dX11_goOn_312 : decode cX11_goOn 312 = .ok (.imul, 1) := by decide +kernel
theorem dX11_goOn_313 : decode cX11_goOn 313 = .ok (.iload 7, 2) := by decide +kernel
theorem dX11_goOn_315 : decode cX11_goOn 315 = .ok (.iadd, 1) := by decide +kernel
theorem dX11_goOn_316 : decode cX11_goOn 316 = .ok (.aload_n 0, 1) := by decide +kernel
theorem dX11_goOn_317 : decode cX11_goOn 317 = .ok (.getfield 50, 3) := by decide +kernel
theorem dX11_goOn_320 : decode cX11_goOn 320 = .ok (.iload 7, 2) := by decide +kernel
theorem dX11_goOn_322 : decode cX11_goOn 322 = .ok (.iaload, 1) := by decide +kernel
theorem dX11_goOn_323 : decode cX11_goOn 323 = .ok (.iastore, 1) := by decide +kernel
theorem dX11_goOn_324 : decode cX11_goOn 324 = .ok (.iinc 7 1, 3) := by decide +kernel
theorem dX11_goOn_327 : decode cX11_goOn 327 = .ok (.goto (-30), 3) := by decide +kernel
theorem dX11_goOn_330 : decode cX11_goOn 330 = .ok (.aload_n 0, 1) := by decide +kernel
theorem dX11_goOn_331 : decode cX11_goOn 331 = .ok (.iload_n 1, 1) := by decide +kernel
theorem dX11_goOn_332 : decode cX11_goOn 332 = .ok (.iconst 1, 1) := by decide +kernel
theorem dX11_goOn_333 : decode cX11_goOn 333 = .ok (.iadd, 1) := by decide +kernel
theorem dX11_goOn_334 : decode cX11_goOn 334 = .ok (.aload_n 0, 1) := by decide +kernel
theorem dX11_goOn_335 : decode cX11_goOn 335 = .ok (.getfield 23, 3) := by decide +kernel
theorem dX11_goOn_338 : decode cX11_goOn 338 = .ok (.iload 4, 2) := by decide +kernel
theorem dX11_goOn_340 : decode cX11_goOn 340 = .ok (.iaload, 1) := by decide +kernel
theorem dX11_goOn_341 : decode cX11_goOn 341 = .ok (.iload 5, 2) := by decide +kernel
theorem dX11_goOn_343 : decode cX11_goOn 343 = .ok (.bipush 6, 2) := by decide +kernel
theorem dX11_goOn_345 : decode cX11_goOn 345 = .ok (.if_icmp .ne 7, 3) := by decide +kernel
theorem dX11_goOn_348 : decode cX11_goOn 348 = .ok (.iconst 1, 1) := by decide +kernel
theorem dX11_goOn_349 : decode cX11_goOn 349 = .ok (.goto 4, 3) := by decide +kernel
theorem dX11_goOn_352 : decode cX11_goOn 352 = .ok (.iconst 0, 1) := by decide +kernel
theorem dX11_goOn_353 : decode cX11_goOn 353 = .ok (.invokevirtual 200, 3) := by decide +kernel
theorem dX11_goOn_356 : decode cX11_goOn 356 = .ok (.iload_n 1, 1) := by decide +kernel
theorem dX11_goOn_357 : decode cX11_goOn 357 = .ok (.iconst 2, 1) := by decide +kernel
theorem dX11_goOn_358 : decode cX11_goOn 358 = .ok (.iadd, 1) := by decide +kernel
theorem dX11_goOn_359 : decode cX11_goOn 359 = .ok (.ireturn, 1) := by decide +kernel
theorem dX11_goOn_360 : decode cX11_goOn 360 = .ok (.iconst 0, 1) := by decide +kernel
theorem dX11_goOn_361 : decode cX11_goOn 361 = .ok (.istore 7, 2) := by decide +kernel
theorem dX11_goOn_363 : decode cX11_goOn 363 = .ok (.iload 7, 2) := by decide +kernel
theorem dX11_goOn_365 : decode cX11_goOn 365 = .ok (.iload 6, 2) := by decide +kernel
theorem dX11_goOn_367 : decode cX11_goOn 367 = .ok (.if_icmp .ge 46, 3) := by decide +kernel
theorem dX11_goOn_370 : decode cX11_goOn 370 = .ok (.iload 5, 2) := by decide +kernel
theorem dX11_goOn_372 : decode cX11_goOn 372 = .ok (.bipush 8, 2) := by decide +kernel
theorem dX11_goOn_374 : decode cX11_goOn 374 = .ok (.if_icmp .ne 39, 3) := by decide +kernel
theorem dX11_goOn_377 : decode cX11_goOn 377 = .ok (.aload_n 0, 1) := by decide +kernel
theorem dX11_goOn_378 : decode cX11_goOn 378 = .ok (.getfield 50, 3) := by decide +kernel
theorem dX11_goOn_381 : decode cX11_goOn 381 = .ok (.iload 7, 2) := by decide +kernel
theorem dX11_goOn_383 : decode cX11_goOn 383 = .ok (.aload_n 0, 1) := by decide +kernel
theorem dX11_goOn_384 : decode cX11_goOn 384 = .ok (.getfield 47, 3) := by decide +kernel
theorem dX11_goOn_387 : decode cX11_goOn 387 = .ok (.sipush 256, 3) := by decide +kernel
theorem dX11_goOn_390 : decode cX11_goOn 390 = .ok (.iload_n 1, 1) := by decide +kernel
theorem dX11_goOn_391 : decode cX11_goOn 391 = .ok (.imul, 1) := by decide +kernel
theorem dX11_goOn_392 : decode cX11_goOn 392 = .ok (.iload 7, 2) := by decide +kernel
theorem dX11_goOn_394 : decode cX11_goOn 394 = .ok (.iadd, 1) := by decide +kernel
theorem dX11_goOn_395 : decode cX11_goOn 395 = .ok (.iaload, 1) := by decide +kernel
theorem dX11_goOn_396 : decode cX11_goOn 396 = .ok (.aload_n 0, 1) := by decide +kernel
theorem dX11_goOn_397 : decode cX11_goOn 397 = .ok (.getfield 50, 3) := by decide +kernel
theorem dX11_goOn_400 : decode cX11_goOn 400 = .ok (.iload 7, 2) := by decide +kernel
theorem dX11_goOn_402 : decode cX11_goOn 402 = .ok (.iaload, 1) := by decide +kernel
theorem dX11_goOn_403 : decode cX11_goOn 403 = .ok (.iadd, 1) := by decide +kernel
theorem dX11_goOn_404 : decode cX11_goOn 404 = .ok (.iconst 1, 1) := by decide +kernel
theorem dX11_goOn_405 : decode cX11_goOn 405 = .ok (.ishr, 1) := by decide +kernel
theorem dX11_goOn_406 : decode cX11_goOn 406 = .ok (.iastore, 1) := by decide +kernel
theorem dX11_goOn_407 : decode cX11_goOn 407 = .ok (.iinc 7 1, 3) := by decide +kernel
theorem dX11_goOn_410 : decode cX11_goOn 410 = .ok (.goto (-47), 3) := by decide +kernel
theorem dX11_goOn_413 : decode cX11_goOn 413 = .ok (.iload_n 1, 1) := by decide +kernel
theorem dX11_goOn_414 : decode cX11_goOn 414 = .ok (.ireturn, 1) := by decide +kernel
theorem dX11_apply_0 : decode cX11_apply 0 = .ok (.iload_n 1, 1) := by decide +kernel
theorem dX11_apply_1 : decode cX11_apply 1 = .ok (.invokestatic 101, 3) := by decide +kernel
theorem dX11_apply_4 : decode cX11_apply 4 = .ok (.ifCond .eq 23, 3) := by decide +kernel
theorem dX11_apply_7 : decode cX11_apply 7 = .ok (.aload_n 0, 1) := by decide +kernel
theorem dX11_apply_8 : decode cX11_apply 8 = .ok (.iload_n 2, 1) := by decide +kernel
theorem dX11_apply_9 : decode cX11_apply 9 = .ok (.invokevirtual 177, 3) := by decide +kernel
theorem dX11_apply_12 : decode cX11_apply 12 = .ok (.ifCond .eq 15, 3) := by decide +kernel
theorem dX11_apply_15 : decode cX11_apply 15 = .ok (.iload_n 3, 1) := by decide +kernel
theorem dX11_apply_16 : decode cX11_apply 16 = .ok (.i2l, 1) := by decide +kernel
theorem dX11_apply_17 : decode cX11_apply 17 = .ok (.lconst 0, 1) := by decide +kernel
theorem dX11_apply_18 : decode cX11_apply 18 = .ok (.ldc2_w 151, 3) := by decide +kernel
theorem dX11_apply_21 : decode cX11_apply 21 = .ok (.invokestatic 71, 3) := by decide +kernel
theorem dX11_apply_24 : decode cX11_apply 24 = .ok (.ifCond .ne 6, 3) := by decide +kernel
theorem dX11_apply_27 : decode cX11_apply 27 = .ok (.ldc 109, 2) := by decide +kernel
theorem dX11_apply_29 : decode cX11_apply 29 = .ok (.ireturn, 1) := by decide +kernel
theorem dX11_apply_30 : decode cX11_apply 30 = .ok (.aload_n 0, 1) := by decide +kernel
theorem dX11_apply_31 : decode cX11_apply 31 = .ok (.iload_n 1, 1) := by decide +kernel
theorem dX11_apply_32 : decode cX11_apply 32 = .ok (.invokevirtual 117, 3) := by decide +kernel
theorem dX11_apply_35 : decode cX11_apply 35 = .ok (.ifCond .ne 6, 3) := by decide +kernel
theorem dX11_apply_38 : decode cX11_apply 38 = .ok (.ldc 96, 2) := by decide +kernel
theorem dX11_apply_40 : decode cX11_apply 40 = .ok (.ireturn, 1) := by decide +kernel
theorem dX11_apply_41 : decode cX11_apply 41 = .ok (.aload_n 0, 1) := by decide +kernel
theorem dX11_apply_42 : decode cX11_apply 42 = .ok (.invokevirtual 110, 3) := by decide +kernel
theorem dX11_apply_45 : decode cX11_apply 45 = .ok (.aload_n 0, 1) := by decide +kernel
theorem dX11_apply_46 : decode cX11_apply 46 = .ok (.iload_n 1, 1) := by decide +kernel
theorem dX11_apply_47 : decode cX11_apply 47 = .ok (.invokevirtual 153, 3) := by decide +kernel
theorem dX11_apply_50 : decode cX11_apply 50 = .ok (.iconst 0, 1) := by decide +kernel
theorem dX11_apply_51 : decode cX11_apply 51 = .ok (.istore 4, 2) := by decide +kernel
theorem dX11_apply_53 : decode cX11_apply 53 = .ok (.iload 4, 2) := by decide +kernel
theorem dX11_apply_55 : decode cX11_apply 55 = .ok (.sipush 256, 3) := by decide +kernel
theorem dX11_apply_58 : decode cX11_apply 58 = .ok (.if_icmp .ge 23, 3) := by decide +kernel
theorem dX11_apply_61 : decode cX11_apply 61 = .ok (.aload_n 0, 1) := by decide +kernel
theorem dX11_apply_62 : decode cX11_apply 62 = .ok (.getfield 50, 3) := by decide +kernel
theorem dX11_apply_65 : decode cX11_apply 65 = .ok (.iload 4, 2) := by decide +kernel
theorem dX11_apply_67 : decode cX11_apply 67 = .ok (.aload_n 0, 1) := by decide +kernel
theorem dX11_apply_68 : decode cX11_apply 68 = .ok (.getfield 35, 3) := by decide +kernel
theorem dX11_apply_71 : decode cX11_apply 71 = .ok (.iload 4, 2) := by decide +kernel
theorem dX11_apply_73 : decode cX11_apply 73 = .ok (.iaload, 1) := by decide +kernel
theorem dX11_apply_74 : decode cX11_apply 74 = .ok (.iastore, 1) := by decide +kernel
theorem dX11_apply_75 : decode cX11_apply 75 = .ok (.iinc 4 1, 3) := by decide +kernel
theorem dX11_apply_78 : decode cX11_apply 78 = .ok (.goto (-25), 3) := by decide +kernel
theorem dX11_apply_81 : decode cX11_apply 81 = .ok (.aload_n 0, 1) := by decide +kernel
theorem dX11_apply_82 : decode cX11_apply 82 = .ok (.iconst 0, 1) := by decide +kernel
theorem dX11_apply_83 : decode cX11_apply 83 = .ok (.iload_n 2, 1) := by decide +kernel
theorem dX11_apply_84 : decode cX11_apply 84 = .ok (.iconst 1, 1) := by decide +kernel
theorem dX11_apply_85 : decode cX11_apply 85 = .ok (.invokevirtual 200, 3) := by decide +kernel
theorem dX11_apply_88 : decode cX11_apply 88 = .ok (.iconst 1, 1) := by decide +kernel
theorem dX11_apply_89 : decode cX11_apply 89 = .ok (.istore 4, 2) := by decide +kernel
theorem dX11_apply_91 : decode cX11_apply 91 = .ok (.iload 4, 2) := by decide +kernel
theorem dX11_apply_93 : decode cX11_apply 93 = .ok (.ifCond .le 22, 3) := by decide +kernel
theorem dX11_apply_96 : decode cX11_apply 96 = .ok (.aload_n 0, 1) := by decide +kernel
theorem dX11_apply_97 : decode cX11_apply 97 = .ok (.iload 4, 2) := by decide +kernel
theorem dX11_apply_99 : decode cX11_apply 99 = .ok (.iconst 1, 1) := by decide +kernel
theorem dX11_apply_100 : decode cX11_apply 100 = .ok (.isub, 1) := by decide +kernel
theorem dX11_apply_101 : decode cX11_apply 101 = .ok (.aload_n 0, 1) := by decide +kernel
theorem dX11_apply_102 : decode cX11_apply 102 = .ok (.iload_n 1, 1) := by decide +kernel
theorem dX11_apply_103 : decode cX11_apply 103 = .ok (.invokevirtual 124, 3) := by decide +kernel
theorem dX11_apply_106 : decode cX11_apply 106 = .ok (.iload_n 3, 1) := by decide +kernel
theorem dX11_apply_107 : decode cX11_apply 107 = .ok (.invokevirtual 204, 3) := by decide +kernel
theorem dX11_apply_110 : decode cX11_apply 110 = .ok (.istore 4, 2) := by decide +kernel
theorem dX11_apply_112 : decode cX11_apply 112 = .ok (.goto (-21), 3) := by decide +kernel
theorem dX11_apply_115 : decode cX11_apply 115 = .ok (.aload_n 0, 1) := by decide +kernel
theorem dX11_apply_116 : decode cX11_apply 116 = .ok (.iload_n 1, 1) := by decide +kernel
theorem dX11_apply_117 : decode cX11_apply 117 = .ok (.invokevirtual 207, 3) := by decide +kernel
theorem dX11_apply_120 : decode cX11_apply 120 = .ok (.ireturn, 1) := by decide +kernel
theorem dX11_takes_0 : decode cX11_takes 0 = .ok (.iconst 0, 1) := by decide +kernel
theorem dX11_takes_1 : decode cX11_takes 1 = .ok (.istore_n 2, 1) := by decide +kernel
theorem dX11_takes_2 : decode cX11_takes 2 = .ok (.iconst 0, 1) := by decide +kernel
theorem dX11_takes_3 : decode cX11_takes 3 = .ok (.istore_n 3, 1) := by decide +kernel
theorem dX11_takes_4 : decode cX11_takes 4 = .ok (.iload_n 3, 1) := by decide +kernel
theorem dX11_takes_5 : decode cX11_takes 5 = .ok (.aload_n 0, 1) := by decide +kernel
theorem dX11_takes_6 : decode cX11_takes 6 = .ok (.iload_n 1, 1) := by decide +kernel
theorem dX11_takes_7 : decode cX11_takes 7 = .ok (.invokevirtual 133, 3) := by decide +kernel
theorem dX11_takes_10 : decode cX11_takes 10 = .ok (.if_icmp .ge 57, 3) := by decide +kernel
theorem dX11_takes_13 : decode cX11_takes 13 = .ok (.sipush 259, 3) := by decide +kernel
theorem dX11_takes_16 : decode cX11_takes 16 = .ok (.iload_n 1, 1) := by decide +kernel
theorem dX11_takes_17 : decode cX11_takes 17 = .ok (.imul, 1) := by decide +kernel
theorem dX11_takes_18 : decode cX11_takes 18 = .ok (.iconst 3, 1) := by decide +kernel
theorem dX11_takes_19 : decode cX11_takes 19 = .ok (.iadd, 1) := by decide +kernel
theorem dX11_takes_20 : decode cX11_takes 20 = .ok (.iload_n 3, 1) := by decide +kernel
theorem dX11_takes_21 : decode cX11_takes 21 = .ok (.iadd, 1) := by decide +kernel
theorem dX11_takes_22 : decode cX11_takes 22 = .ok (.istore 4, 2) := by decide +kernel
theorem dX11_takes_24 : decode cX11_takes 24 = .ok (.iload_n 2, 1) := by decide +kernel
theorem dX11_takes_25 : decode cX11_takes 25 = .ok (.aload_n 0, 1) := by decide +kernel
theorem dX11_takes_26 : decode cX11_takes 26 = .ok (.getfield 7, 3) := by decide +kernel
theorem dX11_takes_29 : decode cX11_takes 29 = .ok (.iload 4, 2) := by decide +kernel
theorem dX11_takes_31 : decode cX11_takes 31 = .ok (.iaload, 1) := by decide +kernel
theorem dX11_takes_32 : decode cX11_takes 32 = .ok (.aload_n 0, 1) := by decide +kernel
theorem dX11_takes_33 : decode cX11_takes 33 = .ok (.getfield 50, 3) := by decide +kernel
theorem dX11_takes_36 : decode cX11_takes 36 = .ok (.iload_n 3, 1) := by decide +kernel
theorem dX11_takes_37 : decode cX11_takes 37 = .ok (.iaload, 1) := by decide +kernel
theorem dX11_takes_38 : decode cX11_takes 38 = .ok (.if_icmp .eq 7, 3) := by decide +kernel
theorem dX11_takes_41 : decode cX11_takes 41 = .ok (.iconst 1, 1) := by decide +kernel
theorem dX11_takes_42 : decode cX11_takes 42 = .ok (.goto 4, 3) := by decide +kernel
theorem dX11_takes_45 : decode cX11_takes 45 = .ok (.iconst 0, 1) := by decide +kernel
theorem dX11_takes_46 : decode cX11_takes 46 = .ok (.iadd, 1) := by decide +kernel
theorem dX11_takes_47 : decode cX11_takes 47 = .ok (.istore_n 2, 1) := by decide +kernel
theorem dX11_takes_48 : decode cX11_takes 48 = .ok (.aload_n 0, 1) := by decide +kernel
theorem dX11_takes_49 : decode cX11_takes 49 = .ok (.getfield 7, 3) := by decide +kernel
theorem dX11_takes_52 : decode cX11_takes 52 = .ok (.iload 4, 2) := by decide +kernel
theorem dX11_takes_54 : decode cX11_takes 54 = .ok (.aload_n 0, 1) := by decide +kernel
theorem dX11_takes_55 : decode cX11_takes 55 = .ok (.getfield 50, 3) := by decide +kernel
theorem dX11_takes_58 : decode cX11_takes 58 = .ok (.iload_n 3, 1) := by decide +kernel
theorem dX11_takes_59 : decode cX11_takes 59 = .ok (.iaload, 1) := by decide +kernel
theorem dX11_takes_60 : decode cX11_takes 60 = .ok (.iastore, 1) := by decide +kernel
theorem dX11_takes_61 : decode cX11_takes 61 = .ok (.iinc 3 1, 3) := by decide +kernel
theorem dX11_takes_64 : decode cX11_takes 64 = .ok (.goto (-60), 3) := by decide +kernel
theorem dX11_takes_67 : decode cX11_takes 67 = .ok (.iload_n 2, 1) := by decide +kernel
theorem dX11_takes_68 : decode cX11_takes 68 = .ok (.ireturn, 1) := by decide +kernel
theorem dX11_isMask_0 : decode cX11_isMask 0 = .ok (.iload_n 0, 1) := by decide +kernel
theorem dX11_isMask_1 : decode cX11_isMask 1 = .ok (.i2l, 1) := by decide +kernel
theorem dX11_isMask_2 : decode cX11_isMask 2 = .ok (.lconst 0, 1) := by decide +kernel
theorem dX11_isMask_3 : decode cX11_isMask 3 = .ok (.ldc2_w 159, 3) := by decide +kernel
theorem dX11_isMask_6 : decode cX11_isMask 6 = .ok (.invokestatic 71, 3) := by decide +kernel
theorem dX11_isMask_9 : decode cX11_isMask 9 = .ok (.ireturn, 1) := by decide +kernel
theorem dX11_isSpot_0 : decode cX11_isSpot 0 = .ok (.iload_n 0, 1) := by decide +kernel
theorem dX11_isSpot_1 : decode cX11_isSpot 1 = .ok (.i2l, 1) := by decide +kernel
theorem dX11_isSpot_2 : decode cX11_isSpot 2 = .ok (.lconst 0, 1) := by decide +kernel
theorem dX11_isSpot_3 : decode cX11_isSpot 3 = .ok (.ldc2_w 210, 3) := by decide +kernel
theorem dX11_isSpot_6 : decode cX11_isSpot 6 = .ok (.invokestatic 71, 3) := by decide +kernel
theorem dX11_isSpot_9 : decode cX11_isSpot 9 = .ok (.ifCond .eq 19, 3) := by decide +kernel
theorem dX11_isSpot_12 : decode cX11_isSpot 12 = .ok (.iload_n 1, 1) := by decide +kernel
theorem dX11_isSpot_13 : decode cX11_isSpot 13 = .ok (.i2l, 1) := by decide +kernel
theorem dX11_isSpot_14 : decode cX11_isSpot 14 = .ok (.lconst 0, 1) := by decide +kernel
theorem dX11_isSpot_15 : decode cX11_isSpot 15 = .ok (.ldc2_w 210, 3) := by decide +kernel
theorem dX11_isSpot_18 : decode cX11_isSpot 18 = .ok (.invokestatic 71, 3) := by decide +kernel
theorem dX11_isSpot_21 : decode cX11_isSpot 21 = .ok (.ifCond .eq 7, 3) := by decide +kernel
theorem dX11_isSpot_24 : decode cX11_isSpot 24 = .ok (.iconst 1, 1) := by decide +kernel
theorem dX11_isSpot_25 : decode cX11_isSpot 25 = .ok (.goto 4, 3) := by decide +kernel
theorem dX11_isSpot_28 : decode cX11_isSpot 28 = .ok (.iconst 0, 1) := by decide +kernel
theorem dX11_isSpot_29 : decode cX11_isSpot 29 = .ok (.ireturn, 1) := by decide +kernel
theorem dX11_spot_0 : decode cX11_spot 0 = .ok (.sipush 2072, 3) := by decide +kernel
theorem dX11_spot_3 : decode cX11_spot 3 = .ok (.sipush 256, 3) := by decide +kernel
theorem dX11_spot_6 : decode cX11_spot 6 = .ok (.iload_n 0, 1) := by decide +kernel
theorem dX11_spot_7 : decode cX11_spot 7 = .ok (.imul, 1) := by decide +kernel
theorem dX11_spot_8 : decode cX11_spot 8 = .ok (.iadd, 1) := by decide +kernel
theorem dX11_spot_9 : decode cX11_spot 9 = .ok (.bipush 16, 2) := by decide +kernel
theorem dX11_spot_11 : decode cX11_spot 11 = .ok (.iload_n 2, 1) := by decide +kernel
theorem dX11_spot_12 : decode cX11_spot 12 = .ok (.imul, 1) := by decide +kernel
theorem dX11_spot_13 : decode cX11_spot 13 = .ok (.iadd, 1) := by decide +kernel
theorem dX11_spot_14 : decode cX11_spot 14 = .ok (.iload_n 1, 1) := by decide +kernel
theorem dX11_spot_15 : decode cX11_spot 15 = .ok (.iadd, 1) := by decide +kernel
theorem dX11_spot_16 : decode cX11_spot 16 = .ok (.ireturn, 1) := by decide +kernel
theorem dX11_mask_0 : decode cX11_mask 0 = .ok (.iload_n 1, 1) := by decide +kernel
theorem dX11_mask_1 : decode cX11_mask 1 = .ok (.invokestatic 212, 3) := by decide +kernel
theorem dX11_mask_4 : decode cX11_mask 4 = .ok (.ifCond .eq 11, 3) := by decide +kernel
theorem dX11_mask_7 : decode cX11_mask 7 = .ok (.iload_n 2, 1) := by decide +kernel
theorem dX11_mask_8 : decode cX11_mask 8 = .ok (.iload_n 3, 1) := by decide +kernel
theorem dX11_mask_9 : decode cX11_mask 9 = .ok (.invokestatic 215, 3) := by decide +kernel
theorem dX11_mask_12 : decode cX11_mask 12 = .ok (.ifCond .ne 6, 3) := by decide +kernel
theorem dX11_mask_15 : decode cX11_mask 15 = .ok (.ldc 109, 2) := by decide +kernel
theorem dX11_mask_17 : decode cX11_mask 17 = .ok (.ireturn, 1) := by decide +kernel
theorem dX11_mask_18 : decode cX11_mask 18 = .ok (.aload_n 0, 1) := by decide +kernel
theorem dX11_mask_19 : decode cX11_mask 19 = .ok (.invokevirtual 110, 3) := by decide +kernel
theorem dX11_mask_22 : decode cX11_mask 22 = .ok (.aload_n 0, 1) := by decide +kernel
theorem dX11_mask_23 : decode cX11_mask 23 = .ok (.getfield 7, 3) := by decide +kernel
theorem dX11_mask_26 : decode cX11_mask 26 = .ok (.iload_n 1, 1) := by decide +kernel
theorem dX11_mask_27 : decode cX11_mask 27 = .ok (.iload_n 2, 1) := by decide +kernel
theorem dX11_mask_28 : decode cX11_mask 28 = .ok (.iload_n 3, 1) := by decide +kernel
theorem dX11_mask_29 : decode cX11_mask 29 = .ok (.invokestatic 219, 3) := by decide +kernel
theorem dX11_mask_32 : decode cX11_mask 32 = .ok (.iaload, 1) := by decide +kernel
theorem dX11_mask_33 : decode cX11_mask 33 = .ok (.istore 5, 2) := by decide +kernel
theorem dX11_mask_35 : decode cX11_mask 35 = .ok (.aload_n 0, 1) := by decide +kernel
theorem dX11_mask_36 : decode cX11_mask 36 = .ok (.getfield 7, 3) := by decide +kernel
theorem dX11_mask_39 : decode cX11_mask 39 = .ok (.iload_n 1, 1) := by decide +kernel
theorem dX11_mask_40 : decode cX11_mask 40 = .ok (.iload_n 2, 1) := by decide +kernel
theorem dX11_mask_41 : decode cX11_mask 41 = .ok (.iload_n 3, 1) := by decide +kernel
theorem dX11_mask_42 : decode cX11_mask 42 = .ok (.invokestatic 219, 3) := by decide +kernel
theorem dX11_mask_45 : decode cX11_mask 45 = .ok (.iload 4, 2) := by decide +kernel
theorem dX11_mask_47 : decode cX11_mask 47 = .ok (.ifCond .eq 7, 3) := by decide +kernel
theorem dX11_mask_50 : decode cX11_mask 50 = .ok (.iconst 1, 1) := by decide +kernel
theorem dX11_mask_51 : decode cX11_mask 51 = .ok (.goto 4, 3) := by decide +kernel
theorem dX11_mask_54 : decode cX11_mask 54 = .ok (.iconst 0, 1) := by decide +kernel
theorem dX11_mask_55 : decode cX11_mask 55 = .ok (.iastore, 1) := by decide +kernel
theorem dX11_mask_56 : decode cX11_mask 56 = .ok (.iload 5, 2) := by decide +kernel
theorem dX11_mask_58 : decode cX11_mask 58 = .ok (.ireturn, 1) := by decide +kernel
theorem dX11_ons_0 : decode cX11_ons 0 = .ok (.iconst 0, 1) := by decide +kernel
theorem dX11_ons_1 : decode cX11_ons 1 = .ok (.istore_n 2, 1) := by decide +kernel
theorem dX11_ons_2 : decode cX11_ons 2 = .ok (.iconst 0, 1) := by decide +kernel
theorem dX11_ons_3 : decode cX11_ons 3 = .ok (.istore_n 3, 1) := by decide +kernel
theorem dX11_ons_4 : decode cX11_ons 4 = .ok (.iload_n 3, 1) := by decide +kernel
theorem dX11_ons_5 : decode cX11_ons 5 = .ok (.sipush 256, 3) := by decide +kernel
theorem dX11_ons_8 : decode cX11_ons 8 = .ok (.if_icmp .ge 28, 3) := by decide +kernel
theorem dX11_ons_11 : decode cX11_ons 11 = .ok (.iload_n 2, 1) := by decide +kernel
theorem dX11_ons_12 : decode cX11_ons 12 = .ok (.aload_n 0, 1) := by decide +kernel
theorem dX11_ons_13 : decode cX11_ons 13 = .ok (.getfield 7, 3) := by decide +kernel
theorem dX11_ons_16 : decode cX11_ons 16 = .ok (.sipush 2072, 3) := by decide +kernel
theorem dX11_ons_19 : decode cX11_ons 19 = .ok (.sipush 256, 3) := by decide +kernel
theorem dX11_ons_22 : decode cX11_ons 22 = .ok (.iload_n 1, 1) := by decide +kernel
theorem dX11_ons_23 : decode cX11_ons 23 = .ok (.imul, 1) := by decide +kernel
theorem dX11_ons_24 : decode cX11_ons 24 = .ok (.iadd, 1) := by decide +kernel
theorem dX11_ons_25 : decode cX11_ons 25 = .ok (.iload_n 3, 1) := by decide +kernel
theorem dX11_ons_26 : decode cX11_ons 26 = .ok (.iadd, 1) := by decide +kernel
theorem dX11_ons_27 : decode cX11_ons 27 = .ok (.iaload, 1) := by decide +kernel
theorem dX11_ons_28 : decode cX11_ons 28 = .ok (.iadd, 1) := by decide +kernel
theorem dX11_ons_29 : decode cX11_ons 29 = .ok (.istore_n 2, 1) := by decide +kernel
theorem dX11_ons_30 : decode cX11_ons 30 = .ok (.iinc 3 1, 3) := by decide +kernel
theorem dX11_ons_33 : decode cX11_ons 33 = .ok (.goto (-29), 3) := by decide +kernel
theorem dX11_ons_36 : decode cX11_ons 36 = .ok (.iload_n 2, 1) := by decide +kernel
theorem dX11_ons_37 : decode cX11_ons 37 = .ok (.ireturn, 1) := by decide +kernel
theorem dX11_maskOf_0 : decode cX11_maskOf 0 = .ok (.iload_n 1, 1) := by decide +kernel
theorem dX11_maskOf_1 : decode cX11_maskOf 1 = .ok (.invokestatic 212, 3) := by decide +kernel
theorem dX11_maskOf_4 : decode cX11_maskOf 4 = .ok (.ifCond .eq 10, 3) := by decide +kernel
theorem dX11_maskOf_7 : decode cX11_maskOf 7 = .ok (.iload_n 2, 1) := by decide +kernel
theorem dX11_maskOf_8 : decode cX11_maskOf 8 = .ok (.invokestatic 101, 3) := by decide +kernel
theorem dX11_maskOf_11 : decode cX11_maskOf 11 = .ok (.ifCond .ne 6, 3) := by decide +kernel
theorem dX11_maskOf_14 : decode cX11_maskOf 14 = .ok (.ldc 109, 2) := by decide +kernel
theorem dX11_maskOf_16 : decode cX11_maskOf 16 = .ok (.ireturn, 1) := by decide +kernel
theorem dX11_maskOf_17 : decode cX11_maskOf 17 = .ok (.aload_n 0, 1) := by decide +kernel
theorem dX11_maskOf_18 : decode cX11_maskOf 18 = .ok (.iload_n 2, 1) := by decide +kernel
theorem dX11_maskOf_19 : decode cX11_maskOf 19 = .ok (.invokevirtual 117, 3) := by decide +kernel
theorem dX11_maskOf_22 : decode cX11_maskOf 22 = .ok (.ifCond .ne 6, 3) := by decide +kernel
theorem dX11_maskOf_25 : decode cX11_maskOf 25 = .ok (.ldc 96, 2) := by decide +kernel
theorem dX11_maskOf_27 : decode cX11_maskOf 27 = .ok (.ireturn, 1) := by decide +kernel
theorem dX11_maskOf_28 : decode cX11_maskOf 28 = .ok (.aload_n 0, 1) := by decide +kernel
theorem dX11_maskOf_29 : decode cX11_maskOf 29 = .ok (.invokevirtual 110, 3) := by decide +kernel
theorem dX11_maskOf_32 : decode cX11_maskOf 32 = .ok (.iconst 0, 1) := by decide +kernel
theorem dX11_maskOf_33 : decode cX11_maskOf 33 = .ok (.istore 5, 2) := by decide +kernel
theorem dX11_maskOf_35 : decode cX11_maskOf 35 = .ok (.iload 5, 2) := by decide +kernel
theorem dX11_maskOf_37 : decode cX11_maskOf 37 = .ok (.bipush 16, 2) := by decide +kernel
theorem dX11_maskOf_39 : decode cX11_maskOf 39 = .ok (.if_icmp .ge 81, 3) := by decide +kernel
theorem dX11_maskOf_42 : decode cX11_maskOf 42 = .ok (.iconst 0, 1) := by decide +kernel
theorem dX11_maskOf_43 : decode cX11_maskOf 43 = .ok (.istore 6, 2) := by decide +kernel
theorem dX11_maskOf_45 : decode cX11_maskOf 45 = .ok (.iload 6, 2) := by decide +kernel
theorem dX11_maskOf_47 : decode cX11_maskOf 47 = .ok (.bipush 16, 2) := by decide +kernel
theorem dX11_maskOf_49 : decode cX11_maskOf 49 = .ok (.if_icmp .ge 65, 3) := by decide +kernel
theorem dX11_maskOf_52 : decode cX11_maskOf 52 = .ok (.aload_n 0, 1) := by decide +kernel
theorem dX11_maskOf_53 : decode cX11_maskOf 53 = .ok (.getfield 7, 3) := by decide +kernel
theorem dX11_maskOf_56 : decode cX11_maskOf 56 = .ok (.iload_n 1, 1) := by decide +kernel
theorem dX11_maskOf_57 : decode cX11_maskOf 57 = .ok (.iload 6, 2) := by decide +kernel
theorem dX11_maskOf_59 : decode cX11_maskOf 59 = .ok (.iload 5, 2) := by decide +kernel
theorem dX11_maskOf_61 : decode cX11_maskOf 61 = .ok (.invokestatic 219, 3) := by decide +kernel
theorem dX11_maskOf_64 : decode cX11_maskOf 64 = .ok (.aload_n 0, 1) := by decide +kernel
theorem dX11_maskOf_65 : decode cX11_maskOf 65 = .ok (.iload_n 2, 1) := by decide +kernel
theorem dX11_maskOf_66 : decode cX11_maskOf 66 = .ok (.iload 6, 2) := by decide +kernel
theorem dX11_maskOf_68 : decode cX11_maskOf 68 = .ok (.iload 5, 2) := by decide +kernel
theorem dX11_maskOf_70 : decode cX11_maskOf 70 = .ok (.invokevirtual 120, 3) := by decide +kernel
theorem dX11_maskOf_73 : decode cX11_maskOf 73 = .ok (.ifCond .eq 33, 3) := by decide +kernel
theorem dX11_maskOf_76 : decode cX11_maskOf 76 = .ok (.aload_n 0, 1) := by decide +kernel
theorem dX11_maskOf_77 : decode cX11_maskOf 77 = .ok (.getfield 7, 3) := by decide +kernel
theorem dX11_maskOf_80 : decode cX11_maskOf 80 = .ok (.aload_n 0, 1) := by decide +kernel
theorem dX11_maskOf_81 : decode cX11_maskOf 81 = .ok (.iload_n 2, 1) := by decide +kernel
theorem dX11_maskOf_82 : decode cX11_maskOf 82 = .ok (.iload 6, 2) := by decide +kernel
theorem dX11_maskOf_84 : decode cX11_maskOf 84 = .ok (.iload 5, 2) := by decide +kernel
theorem dX11_maskOf_86 : decode cX11_maskOf 86 = .ok (.invokevirtual 127, 3) := by decide +kernel
theorem dX11_maskOf_89 : decode cX11_maskOf 89 = .ok (.iaload, 1) := by decide +kernel
theorem dX11_maskOf_90 : decode cX11_maskOf 90 = .ok (.i2l, 1) := by decide +kernel
theorem dX11_maskOf_91 : decode cX11_maskOf 91 = .ok (.iload_n 3, 1) := by decide +kernel
theorem dX11_maskOf_92 : decode cX11_maskOf 92 = .ok (.i2l, 1) := by decide +kernel
theorem dX11_maskOf_93 : decode cX11_maskOf 93 = .ok (.iload 4, 2) := by decide +kernel
theorem dX11_maskOf_95 : decode cX11_maskOf 95 = .ok (.i2l, 1) := by decide +kernel
theorem dX11_maskOf_96 : decode cX11_maskOf 96 = .ok (.invokestatic 71, 3) := by decide +kernel
theorem dX11_maskOf_99 : decode cX11_maskOf 99 = .ok (.ifCond .eq 7, 3) := by decide +kernel
theorem dX11_maskOf_102 : decode cX11_maskOf 102 = .ok (.iconst 1, 1) := by decide +kernel
theorem dX11_maskOf_103 : decode cX11_maskOf 103 = .ok (.goto 4, 3) := by decide +kernel
theorem dX11_maskOf_106 : decode cX11_maskOf 106 = .ok (.iconst 0, 1) := by decide +kernel
theorem dX11_maskOf_107 : decode cX11_maskOf 107 = .ok (.iastore, 1) := by decide +kernel
theorem dX11_maskOf_108 : decode cX11_maskOf 108 = .ok (.iinc 6 1, 3) := by decide +kernel
theorem dX11_maskOf_111 : decode cX11_maskOf 111 = .ok (.goto (-66), 3) := by decide +kernel
theorem dX11_maskOf_114 : decode cX11_maskOf 114 = .ok (.iinc 5 1, 3) := by decide +kernel
theorem dX11_maskOf_117 : decode cX11_maskOf 117 = .ok (.goto (-82), 3) := by decide +kernel
theorem dX11_maskOf_120 : decode cX11_maskOf 120 = .ok (.aload_n 0, 1) := by decide +kernel
theorem dX11_maskOf_121 : decode cX11_maskOf 121 = .ok (.iload_n 1, 1) := by decide +kernel
theorem dX11_maskOf_122 : decode cX11_maskOf 122 = .ok (.invokevirtual 222, 3) := by decide +kernel
theorem dX11_maskOf_125 : decode cX11_maskOf 125 = .ok (.ireturn, 1) := by decide +kernel
theorem dX11_beside_0 : decode cX11_beside 0 = .ok (.iconst 0, 1) := by decide +kernel
theorem dX11_beside_1 : decode cX11_beside 1 = .ok (.istore 4, 2) := by decide +kernel
theorem dX11_beside_3 : decode cX11_beside 3 = .ok (.iconst 0, 1) := by decide +kernel
theorem dX11_beside_4 : decode cX11_beside 4 = .ok (.istore 5, 2) := by decide +kernel
theorem dX11_beside_6 : decode cX11_beside 6 = .ok (.iload 5, 2) := by decide +kernel
theorem dX11_beside_8 : decode cX11_beside 8 = .ok (.iconst 4, 1) := by decide +kernel
theorem dX11_beside_9 : decode cX11_beside 9 = .ok (.if_icmp .ge 103, 3) := by decide +kernel
theorem dX11_beside_12 : decode cX11_beside 12 = .ok (.iload 5, 2) := by decide +kernel
theorem dX11_beside_14 : decode cX11_beside 14 = .ok (.ifCond .ne 9, 3) := by decide +kernel
theorem dX11_beside_17 : decode cX11_beside 17 = .ok (.iload_n 1, 1) := by decide +kernel
theorem dX11_beside_18 : decode cX11_beside 18 = .ok (.iconst 1, 1) := by decide +kernel
theorem dX11_beside_19 : decode cX11_beside 19 = .ok (.isub, 1) := by decide +kernel
theorem dX11_beside_20 : decode cX11_beside 20 = .ok (.goto 16, 3) := by decide +kernel
theorem dX11_beside_23 : decode cX11_beside 23 = .ok (.iload 5, 2) := by decide +kernel
theorem dX11_beside_25 : decode cX11_beside 25 = .ok (.iconst 1, 1) := by decide +kernel
theorem dX11_beside_26 : decode cX11_beside 26 = .ok (.if_icmp .ne 9, 3) := by decide +kernel
theorem dX11_beside_29 : decode cX11_beside 29 = .ok (.iload_n 1, 1) := by decide +kernel
theorem dX11_beside_30 : decode cX11_beside 30 = .ok (.iconst 1, 1) := by decide +kernel
theorem dX11_beside_31 : decode cX11_beside 31 = .ok (.iadd, 1) := by decide +kernel
theorem dX11_beside_32 : decode cX11_beside 32 = .ok (.goto 4, 3) := by decide +kernel
theorem dX11_beside_35 : decode cX11_beside 35 = .ok (.iload_n 1, 1) := by decide +kernel
theorem dX11_beside_36 : decode cX11_beside 36 = .ok (.istore 6, 2) := by decide +kernel
theorem dX11_beside_38 : decode cX11_beside 38 = .ok (.iload 5, 2) := by decide +kernel
theorem dX11_beside_40 : decode cX11_beside 40 = .ok (.iconst 2, 1) := by decide +kernel
theorem dX11_beside_41 : decode cX11_beside 41 = .ok (.if_icmp .ne 9, 3) := by decide +kernel
theorem dX11_beside_44 : decode cX11_beside 44 = .ok (.iload_n 2, 1) := by decide +kernel
theorem dX11_beside_45 : decode cX11_beside 45 = .ok (.iconst 1, 1) := by decide +kernel
theorem dX11_beside_46 : decode cX11_beside 46 = .ok (.isub, 1) := by decide +kernel
theorem dX11_beside_47 : decode cX11_beside 47 = .ok (.goto 16, 3) := by decide +kernel
theorem dX11_beside_50 : decode cX11_beside 50 = .ok (.iload 5, 2) := by decide +kernel
theorem dX11_beside_52 : decode cX11_beside 52 = .ok (.iconst 3, 1) := by decide +kernel
theorem dX11_beside_53 : decode cX11_beside 53 = .ok (.if_icmp .ne 9, 3) := by decide +kernel
theorem dX11_beside_56 : decode cX11_beside 56 = .ok (.iload_n 2, 1) := by decide +kernel
theorem dX11_beside_57 : decode cX11_beside 57 = .ok (.iconst 1, 1) := by decide +kernel
theorem dX11_beside_58 : decode cX11_beside 58 = .ok (.iadd, 1) := by decide +kernel
theorem dX11_beside_59 : decode cX11_beside 59 = .ok (.goto 4, 3) := by decide +kernel
theorem dX11_beside_62 : decode cX11_beside 62 = .ok (.iload_n 2, 1) := by decide +kernel
theorem dX11_beside_63 : decode cX11_beside 63 = .ok (.istore 7, 2) := by decide +kernel
theorem dX11_beside_65 : decode cX11_beside 65 = .ok (.iload 4, 2) := by decide +kernel
theorem dX11_beside_67 : decode cX11_beside 67 = .ok (.iload 6, 2) := by decide +kernel
theorem dX11_beside_69 : decode cX11_beside 69 = .ok (.iload 7, 2) := by decide +kernel
theorem dX11_beside_71 : decode cX11_beside 71 = .ok (.invokestatic 215, 3) := by decide +kernel
theorem dX11_beside_74 : decode cX11_beside 74 = .ok (.ifCond .eq 28, 3) := by decide +kernel
theorem dX11_beside_77 : decode cX11_beside 77 = .ok (.iload_n 3, 1) := by decide +kernel
theorem dX11_beside_78 : decode cX11_beside 78 = .ok (.ifCond .eq 20, 3) := by decide +kernel
theorem dX11_beside_81 : decode cX11_beside 81 = .ok (.aload_n 0, 1) := by decide +kernel
theorem dX11_beside_82 : decode cX11_beside 82 = .ok (.getfield 50, 3) := by decide +kernel
theorem dX11_beside_85 : decode cX11_beside 85 = .ok (.bipush 16, 2) := by decide +kernel
theorem dX11_beside_87 : decode cX11_beside 87 = .ok (.iload 7, 2) := by decide +kernel
theorem dX11_beside_89 : decode cX11_beside 89 = .ok (.imul, 1) := by decide +kernel
theorem dX11_beside_90 : decode cX11_beside 90 = .ok (.iload 6, 2) := by decide +kernel
theorem dX11_beside_92 : decode cX11_beside 92 = .ok (.iadd, 1) := by decide +kernel
theorem dX11_beside_93 : decode cX11_beside 93 = .ok (.iaload, 1) := by decide +kernel
theorem dX11_beside_94 : decode cX11_beside 94 = .ok (.iconst 1, 1) := by decide +kernel
theorem dX11_beside_95 : decode cX11_beside 95 = .ok (.if_icmp .ne 7, 3) := by decide +kernel
theorem dX11_beside_98 : decode cX11_beside 98 = .ok (.iconst 1, 1) := by decide +kernel
theorem dX11_beside_99 : decode cX11_beside 99 = .ok (.goto 4, 3) := by decide +kernel
theorem dX11_beside_102 : decode cX11_beside 102 = .ok (.iconst 0, 1) := by decide +kernel
theorem dX11_beside_103 : decode cX11_beside 103 = .ok (.iadd, 1) := by decide +kernel
theorem dX11_beside_104 : decode cX11_beside 104 = .ok (.istore 4, 2) := by decide +kernel
theorem dX11_beside_106 : decode cX11_beside 106 = .ok (.iinc 5 1, 3) := by decide +kernel
theorem dX11_beside_109 : decode cX11_beside 109 = .ok (.goto (-103), 3) := by decide +kernel
theorem dX11_beside_112 : decode cX11_beside 112 = .ok (.iload 4, 2) := by decide +kernel
theorem dX11_beside_114 : decode cX11_beside 114 = .ok (.ireturn, 1) := by decide +kernel
theorem dX11_maskBy_0 : decode cX11_maskBy 0 = .ok (.iload_n 1, 1) := by decide +kernel
theorem dX11_maskBy_1 : decode cX11_maskBy 1 = .ok (.invokestatic 212, 3) := by decide +kernel
theorem dX11_maskBy_4 : decode cX11_maskBy 4 = .ok (.ifCond .eq 22, 3) := by decide +kernel
theorem dX11_maskBy_7 : decode cX11_maskBy 7 = .ok (.iload_n 2, 1) := by decide +kernel
theorem dX11_maskBy_8 : decode cX11_maskBy 8 = .ok (.invokestatic 212, 3) := by decide +kernel
theorem dX11_maskBy_11 : decode cX11_maskBy 11 = .ok (.ifCond .eq 15, 3) := by decide +kernel
theorem dX11_maskBy_14 : decode cX11_maskBy 14 = .ok (.iload_n 3, 1) := by decide +kernel
theorem dX11_maskBy_15 : decode cX11_maskBy 15 = .ok (.i2l, 1) := by decide +kernel
theorem dX11_maskBy_16 : decode cX11_maskBy 16 = .ok (.lconst 0, 1) := by decide +kernel
theorem dX11_maskBy_17 : decode cX11_maskBy 17 = .ok (.ldc2_w 225, 3) := by decide +kernel
theorem dX11_maskBy_20 : decode cX11_maskBy 20 = .ok (.invokestatic 71, 3) := by decide +kernel
theorem dX11_maskBy_23 : decode cX11_maskBy 23 = .ok (.ifCond .ne 6, 3) := by decide +kernel
theorem dX11_maskBy_26 : decode cX11_maskBy 26 = .ok (.ldc 109, 2) := by decide +kernel
theorem dX11_maskBy_28 : decode cX11_maskBy 28 = .ok (.ireturn, 1) := by decide +kernel
theorem dX11_maskBy_29 : decode cX11_maskBy 29 = .ok (.aload_n 0, 1) := by decide +kernel
theorem dX11_maskBy_30 : decode cX11_maskBy 30 = .ok (.invokevirtual 110, 3) := by decide +kernel
theorem dX11_maskBy_33 : decode cX11_maskBy 33 = .ok (.iconst 0, 1) := by decide +kernel
theorem dX11_maskBy_34 : decode cX11_maskBy 34 = .ok (.istore 4, 2) := by decide +kernel
theorem dX11_maskBy_36 : decode cX11_maskBy 36 = .ok (.iload 4, 2) := by decide +kernel
theorem dX11_maskBy_38 : decode cX11_maskBy 38 = .ok (.sipush 256, 3) := by decide +kernel
theorem dX11_maskBy_41 : decode cX11_maskBy 41 = .ok (.if_icmp .ge 33, 3) := by decide +kernel
theorem dX11_maskBy_44 : decode cX11_maskBy 44 = .ok (.aload_n 0, 1) := by decide +kernel
theorem dX11_maskBy_45 : decode cX11_maskBy 45 = .ok (.getfield 50, 3) := by decide +kernel
theorem dX11_maskBy_48 : decode cX11_maskBy 48 = .ok (.iload 4, 2) := by decide +kernel
theorem dX11_maskBy_50 : decode cX11_maskBy 50 = .ok (.aload_n 0, 1) := by decide +kernel
theorem dX11_maskBy_51 : decode cX11_maskBy 51 = .ok (.getfield 7, 3) := by decide +kernel
theorem dX11_maskBy_54 : decode cX11_maskBy 54 = .ok (.sipush 2072, 3) := by decide +kernel
theorem dX11_maskBy_57 : decode cX11_maskBy 57 = .ok (.sipush 256, 3) := by decide +kernel
theorem dX11_maskBy_60 : decode cX11_maskBy 60 = .ok (.iload_n 2, 1) := by decide +kernel
theorem dX11_maskBy_61 : decode cX11_maskBy 61 = .ok (.imul, 1) := by decide +kernel
theorem dX11_maskBy_62 : decode cX11_maskBy 62 = .ok (.iadd, 1) := by decide +kernel
theorem dX11_maskBy_63 : decode cX11_maskBy 63 = .ok (.iload 4, 2) := by decide +kernel
theorem dX11_maskBy_65 : decode cX11_maskBy 65 = .ok (.iadd, 1) := by decide +kernel
theorem dX11_maskBy_66 : decode cX11_maskBy 66 = .ok (.iaload, 1) := by decide +kernel
theorem dX11_maskBy_67 : decode cX11_maskBy 67 = .ok (.iastore, 1) := by decide +kernel
theorem dX11_maskBy_68 : decode cX11_maskBy 68 = .ok (.iinc 4 1, 3) := by decide +kernel
theorem dX11_maskBy_71 : decode cX11_maskBy 71 = .ok (.goto (-35), 3) := by decide +kernel
theorem dX11_maskBy_74 : decode cX11_maskBy 74 = .ok (.iconst 0, 1) := by decide +kernel
theorem dX11_maskBy_75 : decode cX11_maskBy 75 = .ok (.istore 4, 2) := by decide +kernel
theorem dX11_maskBy_77 : decode cX11_maskBy 77 = .ok (.iload 4, 2) := by decide +kernel
theorem dX11_maskBy_79 : decode cX11_maskBy 79 = .ok (.sipush 256, 3) := by decide +kernel
theorem dX11_maskBy_82 : decode cX11_maskBy 82 = .ok (.if_icmp .ge 219, 3) := by decide +kernel
theorem dX11_maskBy_85 : decode cX11_maskBy 85 = .ok (.aload_n 0, 1) := by decide +kernel
theorem dX11_maskBy_86 : decode cX11_maskBy 86 = .ok (.getfield 7, 3) := by decide +kernel
theorem dX11_maskBy_89 : decode cX11_maskBy 89 = .ok (.sipush 2072, 3) := by decide +kernel
theorem dX11_maskBy_92 : decode cX11_maskBy 92 = .ok (.sipush 256, 3) := by decide +kernel
theorem dX11_maskBy_95 : decode cX11_maskBy 95 = .ok (.iload_n 1, 1) := by decide +kernel
theorem dX11_maskBy_96 : decode cX11_maskBy 96 = .ok (.imul, 1) := by decide +kernel
theorem dX11_maskBy_97 : decode cX11_maskBy 97 = .ok (.iadd, 1) := by decide +kernel
theorem dX11_maskBy_98 : decode cX11_maskBy 98 = .ok (.iload 4, 2) := by decide +kernel
theorem dX11_maskBy_100 : decode cX11_maskBy 100 = .ok (.iadd, 1) := by decide +kernel
theorem dX11_maskBy_101 : decode cX11_maskBy 101 = .ok (.iaload, 1) := by decide +kernel
theorem dX11_maskBy_102 : decode cX11_maskBy 102 = .ok (.istore 5, 2) := by decide +kernel
theorem dX11_maskBy_104 : decode cX11_maskBy 104 = .ok (.aload_n 0, 1) := by decide +kernel
theorem dX11_maskBy_105 : decode cX11_maskBy 105 = .ok (.getfield 50, 3) := by decide +kernel
theorem dX11_maskBy_108 : decode cX11_maskBy 108 = .ok (.iload 4, 2) := by decide +kernel
theorem dX11_maskBy_110 : decode cX11_maskBy 110 = .ok (.iaload, 1) := by decide +kernel
theorem dX11_maskBy_111 : decode cX11_maskBy 111 = .ok (.istore 6, 2) := by decide +kernel
theorem dX11_maskBy_113 : decode cX11_maskBy 113 = .ok (.iload 4, 2) := by decide +kernel
theorem dX11_maskBy_115 : decode cX11_maskBy 115 = .ok (.bipush 16, 2) := by decide +kernel
theorem dX11_maskBy_117 : decode cX11_maskBy 117 = .ok (.irem, 1) := by decide +kernel
theorem dX11_maskBy_118 : decode cX11_maskBy 118 = .ok (.istore 7, 2) := by decide +kernel
theorem dX11_maskBy_120 : decode cX11_maskBy 120 = .ok (.iload 4, 2) := by decide +kernel
theorem dX11_maskBy_122 : decode cX11_maskBy 122 = .ok (.bipush 16, 2) := by decide +kernel
theorem dX11_maskBy_124 : decode cX11_maskBy 124 = .ok (.idiv, 1) := by decide +kernel
theorem dX11_maskBy_125 : decode cX11_maskBy 125 = .ok (.istore 8, 2) := by decide +kernel
theorem dX11_maskBy_127 : decode cX11_maskBy 127 = .ok (.iload_n 3, 1) := by decide +kernel
theorem dX11_maskBy_128 : decode cX11_maskBy 128 = .ok (.tableswitch 114 0 5 #[40, 50, 60, 70, 79, 86], 40) := by decide +kernel
theorem dX11_maskBy_168 : decode cX11_maskBy 168 = .ok (.iload 5, 2) := by decide +kernel
theorem dX11_maskBy_170 : decode cX11_maskBy 170 = .ok (.iload 6, 2) := by decide +kernel
theorem dX11_maskBy_172 : decode cX11_maskBy 172 = .ok (.iand, 1) := by decide +kernel
theorem dX11_maskBy_173 : decode cX11_maskBy 173 = .ok (.istore 9, 2) := by decide +kernel
theorem dX11_maskBy_175 : decode cX11_maskBy 175 = .ok (.goto 101, 3) := by decide +kernel
theorem dX11_maskBy_178 : decode cX11_maskBy 178 = .ok (.iload 5, 2) := by decide +kernel
theorem dX11_maskBy_180 : decode cX11_maskBy 180 = .ok (.iload 6, 2) := by decide +kernel
theorem dX11_maskBy_182 : decode cX11_maskBy 182 = .ok (.ior, 1) := by decide +kernel
theorem dX11_maskBy_183 : decode cX11_maskBy 183 = .ok (.istore 9, 2) := by decide +kernel
theorem dX11_maskBy_185 : decode cX11_maskBy 185 = .ok (.goto 91, 3) := by decide +kernel
theorem dX11_maskBy_188 : decode cX11_maskBy 188 = .ok (.iload 5, 2) := by decide +kernel
theorem dX11_maskBy_190 : decode cX11_maskBy 190 = .ok (.iload 6, 2) := by decide +kernel
theorem dX11_maskBy_192 : decode cX11_maskBy 192 = .ok (.ixor, 1) := by decide +kernel
theorem dX11_maskBy_193 : decode cX11_maskBy 193 = .ok (.istore 9, 2) := by decide +kernel
theorem dX11_maskBy_195 : decode cX11_maskBy 195 = .ok (.goto 81, 3) := by decide +kernel
theorem dX11_maskBy_198 : decode cX11_maskBy 198 = .ok (.iconst 1, 1) := by decide +kernel
theorem dX11_maskBy_199 : decode cX11_maskBy 199 = .ok (.iload 6, 2) := by decide +kernel
theorem dX11_maskBy_201 : decode cX11_maskBy 201 = .ok (.isub, 1) := by decide +kernel
theorem dX11_maskBy_202 : decode cX11_maskBy 202 = .ok (.istore 9, 2) := by decide +kernel
theorem dX11_maskBy_204 : decode cX11_maskBy 204 = .ok (.goto 72, 3) := by decide +kernel
theorem dX11_maskBy_207 : decode cX11_maskBy 207 = .ok (.iload 6, 2) := by decide +kernel
theorem dX11_maskBy_209 : decode cX11_maskBy 209 = .ok (.istore 9, 2) := by decide +kernel
theorem dX11_maskBy_211 : decode cX11_maskBy 211 = .ok (.goto 65, 3) := by decide +kernel
theorem dX11_maskBy_214 : decode cX11_maskBy 214 = .ok (.iload 6, 2) := by decide +kernel
theorem dX11_maskBy_216 : decode cX11_maskBy 216 = .ok (.iconst 1, 1) := by decide +kernel
theorem dX11_maskBy_217 : decode cX11_maskBy 217 = .ok (.if_icmp .eq 15, 3) := by decide +kernel
theorem dX11_maskBy_220 : decode cX11_maskBy 220 = .ok (.aload_n 0, 1) := by decide +kernel
theorem dX11_maskBy_221 : decode cX11_maskBy 221 = .ok (.iload 7, 2) := by decide +kernel
theorem dX11_maskBy_223 : decode cX11_maskBy 223 = .ok (.iload 8, 2) := by decide +kernel
theorem dX11_maskBy_225 : decode cX11_maskBy 225 = .ok (.iconst 1, 1) := by decide +kernel
theorem dX11_maskBy_226 : decode cX11_maskBy 226 = .ok (.invokevirtual 227, 3) := by decide +kernel
theorem dX11_maskBy_229 : decode cX11_maskBy 229 = .ok (.ifCond .le 7, 3) := by decide +kernel
theorem dX11_maskBy_232 : decode cX11_maskBy 232 = .ok (.iconst 1, 1) := by decide +kernel
theorem dX11_maskBy_233 : decode cX11_maskBy 233 = .ok (.goto 4, 3) := by decide +kernel
theorem dX11_maskBy_236 : decode cX11_maskBy 236 = .ok (.iconst 0, 1) := by decide +kernel
theorem dX11_maskBy_237 : decode cX11_maskBy 237 = .ok (.istore 9, 2) := by decide +kernel
theorem dX11_maskBy_239 : decode cX11_maskBy 239 = .ok (.goto 37, 3) := by decide +kernel
theorem dX11_maskBy_242 : decode cX11_maskBy 242 = .ok (.iload 6, 2) := by decide +kernel
theorem dX11_maskBy_244 : decode cX11_maskBy 244 = .ok (.iconst 1, 1) := by decide +kernel
theorem dX11_maskBy_245 : decode cX11_maskBy 245 = .ok (.if_icmp .ne 28, 3) := by decide +kernel
theorem dX11_maskBy_248 : decode cX11_maskBy 248 = .ok (.aload_n 0, 1) := by decide +kernel
theorem dX11_maskBy_249 : decode cX11_maskBy 249 = .ok (.iload 7, 2) := by decide +kernel
theorem dX11_maskBy_251 : decode cX11_maskBy 251 = .ok (.iload 8, 2) := by decide +kernel
theorem dX11_maskBy_253 : decode cX11_maskBy 253 = .ok (.iconst 1, 1) := by decide +kernel
theorem dX11_maskBy_254 : decode cX11_maskBy 254 = .ok (.invokevirtual 227, 3) := by decide +kernel
theorem dX11_maskBy_257 : decode cX11_maskBy 257 = .ok (.aload_n 0, 1) := by decide +kernel
theorem dX11_maskBy_258 : decode cX11_maskBy 258 = .ok (.iload 7, 2) := by decide +kernel
theorem dX11_maskBy_260 : decode cX11_maskBy 260 = .ok (.iload 8, 2) := by decide +kernel
theorem dX11_maskBy_262 : decode cX11_maskBy 262 = .ok (.iconst 0, 1) := by decide +kernel
theorem dX11_maskBy_263 : decode cX11_maskBy 263 = .ok (.invokevirtual 227, 3) := by decide +kernel
theorem dX11_maskBy_266 : decode cX11_maskBy 266 = .ok (.if_icmp .ne 7, 3) := by decide +kernel
theorem dX11_maskBy_269 : decode cX11_maskBy 269 = .ok (.iconst 1, 1) := by decide +kernel
theorem dX11_maskBy_270 : decode cX11_maskBy 270 = .ok (.goto 4, 3) := by decide +kernel
theorem dX11_maskBy_273 : decode cX11_maskBy 273 = .ok (.iconst 0, 1) := by decide +kernel
theorem dX11_maskBy_274 : decode cX11_maskBy 274 = .ok (.istore 9, 2) := by decide +kernel
theorem dX11_maskBy_276 : decode cX11_maskBy 276 = .ok (.aload_n 0, 1) := by decide +kernel
theorem dX11_maskBy_277 : decode cX11_maskBy 277 = .ok (.getfield 7, 3) := by decide +kernel
theorem dX11_maskBy_280 : decode cX11_maskBy 280 = .ok (.sipush 2072, 3) := by decide +kernel
theorem dX11_maskBy_283 : decode cX11_maskBy 283 = .ok (.sipush 256, 3) := by decide +kernel
theorem dX11_maskBy_286 : decode cX11_maskBy 286 = .ok (.iload_n 1, 1) := by decide +kernel
theorem dX11_maskBy_287 : decode cX11_maskBy 287 = .ok (.imul, 1) := by decide +kernel
theorem dX11_maskBy_288 : decode cX11_maskBy 288 = .ok (.iadd, 1) := by decide +kernel
theorem dX11_maskBy_289 : decode cX11_maskBy 289 = .ok (.iload 4, 2) := by decide +kernel
theorem dX11_maskBy_291 : decode cX11_maskBy 291 = .ok (.iadd, 1) := by decide +kernel
theorem dX11_maskBy_292 : decode cX11_maskBy 292 = .ok (.iload 9, 2) := by decide +kernel
theorem dX11_maskBy_294 : decode cX11_maskBy 294 = .ok (.iastore, 1) := by decide +kernel
theorem dX11_maskBy_295 : decode cX11_maskBy 295 = .ok (.iinc 4 1, 3) := by decide +kernel
theorem dX11_maskBy_298 : decode cX11_maskBy 298 = .ok (.goto (-221), 3) := by decide +kernel
theorem dX11_maskBy_301 : decode cX11_maskBy 301 = .ok (.aload_n 0, 1) := by decide +kernel
theorem dX11_maskBy_302 : decode cX11_maskBy 302 = .ok (.iload_n 1, 1) := by decide +kernel
theorem dX11_maskBy_303 : decode cX11_maskBy 303 = .ok (.invokevirtual 222, 3) := by decide +kernel
theorem dX11_maskBy_306 : decode cX11_maskBy 306 = .ok (.ireturn, 1) := by decide +kernel
theorem dX11_isOn_0 : decode cX11_isOn 0 = .ok (.iload_n 1, 1) := by decide +kernel
theorem dX11_isOn_1 : decode cX11_isOn 1 = .ok (.invokestatic 212, 3) := by decide +kernel
theorem dX11_isOn_4 : decode cX11_isOn 4 = .ok (.ifCond .eq 25, 3) := by decide +kernel
theorem dX11_isOn_7 : decode cX11_isOn 7 = .ok (.iload_n 2, 1) := by decide +kernel
theorem dX11_isOn_8 : decode cX11_isOn 8 = .ok (.iload_n 3, 1) := by decide +kernel
theorem dX11_isOn_9 : decode cX11_isOn 9 = .ok (.invokestatic 215, 3) := by decide +kernel
theorem dX11_isOn_12 : decode cX11_isOn 12 = .ok (.ifCond .eq 17, 3) := by decide +kernel
theorem dX11_isOn_15 : decode cX11_isOn 15 = .ok (.aload_n 0, 1) := by decide +kernel
theorem dX11_isOn_16 : decode cX11_isOn 16 = .ok (.getfield 7, 3) := by decide +kernel
theorem dX11_isOn_19 : decode cX11_isOn 19 = .ok (.iload_n 1, 1) := by decide +kernel
theorem dX11_isOn_20 : decode cX11_isOn 20 = .ok (.iload_n 2, 1) := by decide +kernel
theorem dX11_isOn_21 : decode cX11_isOn 21 = .ok (.iload_n 3, 1) := by decide +kernel
theorem dX11_isOn_22 : decode cX11_isOn 22 = .ok (.invokestatic 219, 3) := by decide +kernel
theorem dX11_isOn_25 : decode cX11_isOn 25 = .ok (.iaload, 1) := by decide +kernel
theorem dX11_isOn_26 : decode cX11_isOn 26 = .ok (.goto 5, 3) := by decide +kernel
theorem dX11_isOn_29 : decode cX11_isOn 29 = .ok (.ldc 109, 2) := by decide +kernel
theorem dX11_isOn_31 : decode cX11_isOn 31 = .ok (.ireturn, 1) := by decide +kernel
theorem dX11_fill_0 : decode cX11_fill 0 = .ok (.iload_n 1, 1) := by decide +kernel
theorem dX11_fill_1 : decode cX11_fill 1 = .ok (.invokestatic 101, 3) := by decide +kernel
theorem dX11_fill_4 : decode cX11_fill 4 = .ok (.ifCond .eq 8, 3) := by decide +kernel
theorem dX11_fill_7 : decode cX11_fill 7 = .ok (.iload 4, 2) := by decide +kernel
theorem dX11_fill_9 : decode cX11_fill 9 = .ok (.ifCond .ge 6, 3) := by decide +kernel
theorem dX11_fill_12 : decode cX11_fill 12 = .ok (.ldc 109, 2) := by decide +kernel
theorem dX11_fill_14 : decode cX11_fill 14 = .ok (.ireturn, 1) := by decide +kernel
theorem dX11_fill_15 : decode cX11_fill 15 = .ok (.aload_n 0, 1) := by decide +kernel
theorem dX11_fill_16 : decode cX11_fill 16 = .ok (.iload_n 1, 1) := by decide +kernel
theorem dX11_fill_17 : decode cX11_fill 17 = .ok (.invokevirtual 117, 3) := by decide +kernel
theorem dX11_fill_20 : decode cX11_fill 20 = .ok (.ifCond .eq 40, 3) := by decide +kernel
theorem dX11_fill_23 : decode cX11_fill 23 = .ok (.aload_n 0, 1) := by decide +kernel
theorem dX11_fill_24 : decode cX11_fill 24 = .ok (.iload_n 1, 1) := by decide +kernel
theorem dX11_fill_25 : decode cX11_fill 25 = .ok (.iload_n 2, 1) := by decide +kernel
theorem dX11_fill_26 : decode cX11_fill 26 = .ok (.iload_n 3, 1) := by decide +kernel
theorem dX11_fill_27 : decode cX11_fill 27 = .ok (.invokevirtual 120, 3) := by decide +kernel
theorem dX11_fill_30 : decode cX11_fill 30 = .ok (.ifCond .eq 30, 3) := by decide +kernel
theorem dX11_fill_33 : decode cX11_fill 33 = .ok (.iload 5, 2) := by decide +kernel
theorem dX11_fill_35 : decode cX11_fill 35 = .ok (.i2l, 1) := by decide +kernel
theorem dX11_fill_36 : decode cX11_fill 36 = .ok (.aload_n 0, 1) := by decide +kernel
theorem dX11_fill_37 : decode cX11_fill 37 = .ok (.iload_n 1, 1) := by decide +kernel
theorem dX11_fill_38 : decode cX11_fill 38 = .ok (.invokevirtual 124, 3) := by decide +kernel
theorem dX11_fill_41 : decode cX11_fill 41 = .ok (.invokestatic 75, 3) := by decide +kernel
theorem dX11_fill_44 : decode cX11_fill 44 = .ok (.i2l, 1) := by decide +kernel
theorem dX11_fill_45 : decode cX11_fill 45 = .ok (.aload_n 0, 1) := by decide +kernel
theorem dX11_fill_46 : decode cX11_fill 46 = .ok (.iload_n 1, 1) := by decide +kernel
theorem dX11_fill_47 : decode cX11_fill 47 = .ok (.invokevirtual 124, 3) := by decide +kernel
theorem dX11_fill_50 : decode cX11_fill 50 = .ok (.invokestatic 79, 3) := by decide +kernel
theorem dX11_fill_53 : decode cX11_fill 53 = .ok (.i2l, 1) := by decide +kernel
theorem dX11_fill_54 : decode cX11_fill 54 = .ok (.invokestatic 71, 3) := by decide +kernel
theorem dX11_fill_57 : decode cX11_fill 57 = .ok (.ifCond .ne 6, 3) := by decide +kernel
theorem dX11_fill_60 : decode cX11_fill 60 = .ok (.ldc 96, 2) := by decide +kernel
theorem dX11_fill_62 : decode cX11_fill 62 = .ok (.ireturn, 1) := by decide +kernel
theorem dX11_fill_63 : decode cX11_fill 63 = .ok (.aload_n 0, 1) := by decide +kernel
theorem dX11_fill_64 : decode cX11_fill 64 = .ok (.invokevirtual 110, 3) := by decide +kernel
theorem dX11_fill_67 : decode cX11_fill 67 = .ok (.aload_n 0, 1) := by decide +kernel
theorem dX11_fill_68 : decode cX11_fill 68 = .ok (.iload_n 1, 1) := by decide +kernel
theorem dX11_fill_69 : decode cX11_fill 69 = .ok (.invokevirtual 153, 3) := by decide +kernel
theorem dX11_fill_72 : decode cX11_fill 72 = .ok (.aload_n 0, 1) := by decide +kernel
theorem dX11_fill_73 : decode cX11_fill 73 = .ok (.getfield 138, 3) := by decide +kernel
theorem dX11_fill_76 : decode cX11_fill 76 = .ok (.aload_n 0, 1) := by decide +kernel
theorem dX11_fill_77 : decode cX11_fill 77 = .ok (.getfield 141, 3) := by decide +kernel
theorem dX11_fill_80 : decode cX11_fill 80 = .ok (.imul, 1) := by decide +kernel
theorem dX11_fill_81 : decode cX11_fill 81 = .ok (.istore 6, 2) := by decide +kernel
theorem dX11_fill_83 : decode cX11_fill 83 = .ok (.iconst 0, 1) := by decide +kernel
theorem dX11_fill_84 : decode cX11_fill 84 = .ok (.istore 7, 2) := by decide +kernel
theorem dX11_fill_86 : decode cX11_fill 86 = .ok (.iload 7, 2) := by decide +kernel
theorem dX11_fill_88 : decode cX11_fill 88 = .ok (.iload 6, 2) := by decide +kernel
theorem dX11_fill_90 : decode cX11_fill 90 = .ok (.if_icmp .ge 34, 3) := by decide +kernel
theorem dX11_fill_93 : decode cX11_fill 93 = .ok (.aload_n 0, 1) := by decide +kernel
theorem dX11_fill_94 : decode cX11_fill 94 = .ok (.getfield 56, 3) := by decide +kernel
theorem dX11_fill_97 : decode cX11_fill 97 = .ok (.iload 7, 2) := by decide +kernel
theorem dX11_fill_99 : decode cX11_fill 99 = .ok (.iload 7, 2) := by decide +kernel
theorem dX11_fill_101 : decode cX11_fill 101 = .ok (.iload_n 3, 1) := by decide +kernel
theorem dX11_fill_102 : decode cX11_fill 102 = .ok (.aload_n 0, 1) := by decide +kernel
theorem dX11_fill_103 : decode cX11_fill 103 = .ok (.getfield 138, 3) := by decide +kernel
theorem dX11_fill_106 : decode cX11_fill 106 = .ok (.imul, 1) := by decide +kernel
theorem dX11_fill_107 : decode cX11_fill 107 = .ok (.iload_n 2, 1) := by decide +kernel
theorem dX11_fill_108 : decode cX11_fill 108 = .ok (.iadd, 1) := by decide +kernel
theorem dX11_fill_109 : decode cX11_fill 109 = .ok (.if_icmp .ne 7, 3) := by decide +kernel
theorem dX11_fill_112 : decode cX11_fill 112 = .ok (.iconst 1, 1) := by decide +kernel
theorem dX11_fill_113 : decode cX11_fill 113 = .ok (.goto 4, 3) := by decide +kernel
theorem dX11_fill_116 : decode cX11_fill 116 = .ok (.iconst 0, 1) := by decide +kernel
theorem dX11_fill_117 : decode cX11_fill 117 = .ok (.bastore, 1) := by decide +kernel
theorem dX11_fill_118 : decode cX11_fill 118 = .ok (.iinc 7 1, 3) := by decide +kernel
theorem dX11_fill_121 : decode cX11_fill 121 = .ok (.goto (-35), 3) := by decide +kernel
theorem dX11_fill_124 : decode cX11_fill 124 = .ok (.aload_n 0, 1) := by decide +kernel
theorem dX11_fill_125 : decode cX11_fill 125 = .ok (.getfield 35, 3) := by decide +kernel
theorem dX11_fill_128 : decode cX11_fill 128 = .ok (.iload_n 3, 1) := by decide +kernel
theorem dX11_fill_129 : decode cX11_fill 129 = .ok (.aload_n 0, 1) := by decide +kernel
theorem dX11_fill_130 : decode cX11_fill 130 = .ok (.getfield 138, 3) := by decide +kernel
theorem dX11_fill_133 : decode cX11_fill 133 = .ok (.imul, 1) := by decide +kernel
theorem dX11_fill_134 : decode cX11_fill 134 = .ok (.iload_n 2, 1) := by decide +kernel
theorem dX11_fill_135 : decode cX11_fill 135 = .ok (.iadd, 1) := by decide +kernel
theorem dX11_fill_136 : decode cX11_fill 136 = .ok (.iaload, 1) := by decide +kernel
theorem dX11_fill_137 : decode cX11_fill 137 = .ok (.istore 7, 2) := by decide +kernel
theorem dX11_fill_139 : decode cX11_fill 139 = .ok (.iconst 1, 1) := by decide +kernel
theorem dX11_fill_140 : decode cX11_fill 140 = .ok (.istore 8, 2) := by decide +kernel
theorem dX11_fill_142 : decode cX11_fill 142 = .ok (.iload 8, 2) := by decide +kernel
theorem dX11_fill_144 : decode cX11_fill 144 = .ok (.ifCond .eq 99, 3) := by decide +kernel
theorem dX11_fill_147 : decode cX11_fill 147 = .ok (.iconst 0, 1) := by decide +kernel
theorem dX11_fill_148 : decode cX11_fill 148 = .ok (.istore 8, 2) := by decide +kernel
theorem dX11_fill_150 : decode cX11_fill 150 = .ok (.iconst 0, 1) := by decide +kernel
theorem dX11_fill_151 : decode cX11_fill 151 = .ok (.istore 9, 2) := by decide +kernel
theorem dX11_fill_153 : decode cX11_fill 153 = .ok (.iload 9, 2) := by decide +kernel
theorem dX11_fill_155 : decode cX11_fill 155 = .ok (.iload 6, 2) := by decide +kernel
theorem dX11_fill_157 : decode cX11_fill 157 = .ok (.if_icmp .ge 83, 3) := by decide +kernel
theorem dX11_fill_160 : decode cX11_fill 160 = .ok (.aload_n 0, 1) := by decide +kernel
theorem dX11_fill_161 : decode cX11_fill 161 = .ok (.getfield 35, 3) := by decide +kernel
theorem dX11_fill_164 : decode cX11_fill 164 = .ok (.iload 9, 2) := by decide +kernel
theorem dX11_fill_166 : decode cX11_fill 166 = .ok (.iaload, 1) := by decide +kernel
theorem dX11_fill_167 : decode cX11_fill 167 = .ok (.iload 7, 2) := by decide +kernel
theorem dX11_fill_169 : decode cX11_fill 169 = .ok (.if_icmp .ge 16, 3) := by decide +kernel
theorem dX11_fill_172 : decode cX11_fill 172 = .ok (.iload 7, 2) := by decide +kernel
theorem dX11_fill_174 : decode cX11_fill 174 = .ok (.aload_n 0, 1) := by decide +kernel
theorem dX11_fill_175 : decode cX11_fill 175 = .ok (.getfield 35, 3) := by decide +kernel
theorem dX11_fill_178 : decode cX11_fill 178 = .ok (.iload 9, 2) := by decide +kernel
theorem dX11_fill_180 : decode cX11_fill 180 = .ok (.iaload, 1) := by decide +kernel
theorem dX11_fill_181 : decode cX11_fill 181 = .ok (.isub, 1) := by decide +kernel
theorem dX11_fill_182 : decode cX11_fill 182 = .ok (.goto 13, 3) := by decide +kernel
theorem dX11_fill_185 : decode cX11_fill 185 = .ok (.aload_n 0, 1) := by decide +kernel
theorem dX11_fill_186 : decode cX11_fill 186 = .ok (.getfield 35, 3) := by decide +kernel
theorem dX11_fill_189 : decode cX11_fill 189 = .ok (.iload 9, 2) := by decide +kernel
theorem dX11_fill_191 : decode cX11_fill 191 = .ok (.iaload, 1) := by decide +kernel
theorem dX11_fill_192 : decode cX11_fill 192 = .ok (.iload 7, 2) := by decide +kernel
theorem dX11_fill_194 : decode cX11_fill 194 = .ok (.isub, 1) := by decide +kernel
theorem dX11_fill_195 : decode cX11_fill 195 = .ok (.istore 10, 2) := by decide +kernel
theorem dX11_fill_197 : decode cX11_fill 197 = .ok (.aload_n 0, 1) := by decide +kernel
theorem dX11_fill_198 : decode cX11_fill 198 = .ok (.getfield 56, 3) := by decide +kernel
theorem dX11_fill_201 : decode cX11_fill 201 = .ok (.iload 9, 2) := by decide +kernel
theorem dX11_fill_203 : decode cX11_fill 203 = .ok (.baload, 1) := by decide +kernel
theorem dX11_fill_204 : decode cX11_fill 204 = .ok (.ifCond .ne 30, 3) := by decide +kernel
theorem dX11_fill_207 : decode cX11_fill 207 = .ok (.iload 10, 2) := by decide +kernel
theorem dX11_fill_209 : decode cX11_fill 209 = .ok (.iload 4, 2) := by decide +kernel
theorem dX11_fill_211 : decode cX11_fill 211 = .ok (.if_icmp .gt 23, 3) := by decide +kernel
theorem dX11_fill_214 : decode cX11_fill 214 = .ok (.aload_n 0, 1) := by decide +kernel
theorem dX11_fill_215 : decode cX11_fill 215 = .ok (.iload 9, 2) := by decide +kernel
theorem dX11_fill_217 : decode cX11_fill 217 = .ok (.invokevirtual 231, 3) := by decide +kernel
theorem dX11_fill_220 : decode cX11_fill 220 = .ok (.ifCond .eq 14, 3) := by decide +kernel
theorem dX11_fill_223 : decode cX11_fill 223 = .ok (.aload_n 0, 1) := by decide +kernel
theorem dX11_fill_224 : decode cX11_fill 224 = .ok (.getfield 56, 3) := by decide +kernel
theorem dX11_fill_227 : decode cX11_fill 227 = .ok (.iload 9, 2) := by decide +kernel
theorem dX11_fill_229 : decode cX11_fill 229 = .ok (.iconst 1, 1) := by decide +kernel
theorem dX11_fill_230 : decode cX11_fill 230 = .ok (.bastore, 1) := by decide +kernel
theorem dX11_fill_231 : decode cX11_fill 231 = .ok (.iconst 1, 1) := by decide +kernel
theorem dX11_fill_232 : decode cX11_fill 232 = .ok (.istore 8, 2) := by decide +kernel
theorem dX11_fill_234 : decode cX11_fill 234 = .ok (.iinc 9 1, 3) := by decide +kernel
theorem dX11_fill_237 : decode cX11_fill 237 = .ok (.goto (-84), 3) := by decide +kernel
theorem dX11_fill_240 : decode cX11_fill 240 = .ok (.goto (-98), 3) := by decide +kernel
theorem dX11_fill_243 : decode cX11_fill 243 = .ok (.iconst 0, 1) := by decide +kernel
theorem dX11_fill_244 : decode cX11_fill 244 = .ok (.istore 9, 2) := by decide +kernel
theorem dX11_fill_246 : decode cX11_fill 246 = .ok (.iconst 0, 1) := by decide +kernel
theorem dX11_fill_247 : decode cX11_fill 247 = .ok (.istore 10, 2) := by decide +kernel
theorem dX11_fill_249 : decode cX11_fill 249 = .ok (.iload 10, 2) := by decide +kernel
theorem dX11_fill_251 : decode cX11_fill 251 = .ok (.iload 6, 2) := by decide +kernel
theorem dX11_fill_253 : decode cX11_fill 253 = .ok (.if_icmp .ge 39, 3) := by decide +kernel
theorem dX11_fill_256 : decode cX11_fill 256 = .ok (.aload_n 0, 1) := by decide +kernel
theorem dX11_fill_257 : decode cX11_fill 257 = .ok (.getfield 56, 3) := by decide +kernel
theorem dX11_fill_260 : decode cX11_fill 260 = .ok (.iload 10, 2) := by decide +kernel
theorem dX11_fill_262 : decode cX11_fill 262 = .ok (.baload, 1) := by decide +kernel
theorem dX11_fill_263 : decode cX11_fill 263 = .ok (.ifCond .eq 23, 3) := by decide +kernel
theorem dX11_fill_266 : decode cX11_fill 266 = .ok (.aload_n 0, 1) := by decide +kernel
theorem dX11_fill_267 : decode cX11_fill 267 = .ok (.getfield 7, 3) := by decide +kernel
theorem dX11_fill_270 : decode cX11_fill 270 = .ok (.sipush 259, 3) := by decide +kernel
theorem dX11_fill_273 : decode cX11_fill 273 = .ok (.iload_n 1, 1) := by decide +kernel
theorem dX11_fill_274 : decode cX11_fill 274 = .ok (.imul, 1) := by decide +kernel
theorem dX11_fill_275 : decode cX11_fill 275 = .ok (.iconst 3, 1) := by decide +kernel
theorem dX11_fill_276 : decode cX11_fill 276 = .ok (.iadd, 1) := by decide +kernel
theorem dX11_fill_277 : decode cX11_fill 277 = .ok (.iload 10, 2) := by decide +kernel
theorem dX11_fill_279 : decode cX11_fill 279 = .ok (.iadd, 1) := by decide +kernel
theorem dX11_fill_280 : decode cX11_fill 280 = .ok (.iload 5, 2) := by decide +kernel
theorem dX11_fill_282 : decode cX11_fill 282 = .ok (.iastore, 1) := by decide +kernel
theorem dX11_fill_283 : decode cX11_fill 283 = .ok (.iinc 9 1, 3) := by decide +kernel
theorem dX11_fill_286 : decode cX11_fill 286 = .ok (.iinc 10 1, 3) := by decide +kernel
theorem dX11_fill_289 : decode cX11_fill 289 = .ok (.goto (-40), 3) := by decide +kernel
theorem dX11_fill_292 : decode cX11_fill 292 = .ok (.iload 9, 2) := by decide +kernel
theorem dX11_fill_294 : decode cX11_fill 294 = .ok (.ireturn, 1) := by decide +kernel
theorem dX11_isBeside_0 : decode cX11_isBeside 0 = .ok (.iload_n 1, 1) := by decide +kernel
theorem dX11_isBeside_1 : decode cX11_isBeside 1 = .ok (.aload_n 0, 1) := by decide +kernel
theorem dX11_isBeside_2 : decode cX11_isBeside 2 = .ok (.getfield 138, 3) := by decide +kernel
theorem dX11_isBeside_5 : decode cX11_isBeside 5 = .ok (.irem, 1) := by decide +kernel
theorem dX11_isBeside_6 : decode cX11_isBeside 6 = .ok (.istore_n 2, 1) := by decide +kernel
theorem dX11_isBeside_7 : decode cX11_isBeside 7 = .ok (.aload_n 0, 1) := by decide +kernel
theorem dX11_isBeside_8 : decode cX11_isBeside 8 = .ok (.getfield 138, 3) := by decide +kernel
theorem dX11_isBeside_11 : decode cX11_isBeside 11 = .ok (.aload_n 0, 1) := by decide +kernel
theorem dX11_isBeside_12 : decode cX11_isBeside 12 = .ok (.getfield 141, 3) := by decide +kernel
theorem dX11_isBeside_15 : decode cX11_isBeside 15 = .ok (.imul, 1) := by decide +kernel
theorem dX11_isBeside_16 : decode cX11_isBeside 16 = .ok (.istore_n 3, 1) := by decide +kernel
theorem dX11_isBeside_17 : decode cX11_isBeside 17 = .ok (.iload_n 2, 1) := by decide +kernel
theorem dX11_isBeside_18 : decode cX11_isBeside 18 = .ok (.ifCond .le 14, 3) := by decide +kernel
theorem dX11_isBeside_21 : decode cX11_isBeside 21 = .ok (.aload_n 0, 1) := by decide +kernel
theorem dX11_isBeside_22 : decode cX11_isBeside 22 = .ok (.getfield 56, 3) := by decide +kernel
theorem dX11_isBeside_25 : decode cX11_isBeside 25 = .ok (.iload_n 1, 1) := by decide +kernel
theorem dX11_isBeside_26 : decode cX11_isBeside 26 = .ok (.iconst 1, 1) := by decide +kernel
theorem dX11_isBeside_27 : decode cX11_isBeside 27 = .ok (.isub, 1) := by decide +kernel
theorem dX11_isBeside_28 : decode cX11_isBeside 28 = .ok (.baload, 1) := by decide +kernel
theorem dX11_isBeside_29 : decode cX11_isBeside 29 = .ok (.ifCond .ne 70, 3) := by decide +kernel
theorem dX11_isBeside_32 : decode cX11_isBeside 32 = .ok (.iload_n 2, 1) := by decide +kernel
theorem dX11_isBeside_33 : decode cX11_isBeside 33 = .ok (.aload_n 0, 1) := by decide +kernel
theorem dX11_isBeside_34 : decode cX11_isBeside 34 = .ok (.getfield 138, 3) := by decide +kernel
theorem dX11_isBeside_37 : decode cX11_isBeside 37 = .ok (.iconst 1, 1) := by decide +kernel
theorem dX11_isBeside_38 : decode cX11_isBeside 38 = .ok (.isub, 1) := by decide +kernel
theorem dX11_isBeside_39 : decode cX11_isBeside 39 = .ok (.if_icmp .ge 14, 3) := by decide +kernel
theorem dX11_isBeside_42 : decode cX11_isBeside 42 = .ok (.aload_n 0, 1) := by decide +kernel
theorem dX11_isBeside_43 : decode cX11_isBeside 43 = .ok (.getfield 56, 3) := by decide +kernel
theorem dX11_isBeside_46 : decode cX11_isBeside 46 = .ok (.iload_n 1, 1) := by decide +kernel
theorem dX11_isBeside_47 : decode cX11_isBeside 47 = .ok (.iconst 1, 1) := by decide +kernel
theorem dX11_isBeside_48 : decode cX11_isBeside 48 = .ok (.iadd, 1) := by decide +kernel
theorem dX11_isBeside_49 : decode cX11_isBeside 49 = .ok (.baload, 1) := by decide +kernel
theorem dX11_isBeside_50 : decode cX11_isBeside 50 = .ok (.ifCond .ne 49, 3) := by decide +kernel
theorem dX11_isBeside_53 : decode cX11_isBeside 53 = .ok (.iload_n 1, 1) := by decide +kernel
theorem dX11_isBeside_54 : decode cX11_isBeside 54 = .ok (.aload_n 0, 1) := by decide +kernel
theorem dX11_isBeside_55 : decode cX11_isBeside 55 = .ok (.getfield 138, 3) := by decide +kernel
theorem dX11_isBeside_58 : decode cX11_isBeside 58 = .ok (.if_icmp .lt 17, 3) := by decide +kernel
theorem dX11_isBeside_61 : decode cX11_isBeside 61 = .ok (.aload_n 0, 1) := by decide +kernel
theorem dX11_isBeside_62 : decode cX11_isBeside 62 = .ok (.getfield 56, 3) := by decide +kernel
theorem dX11_isBeside_65 : decode cX11_isBeside 65 = .ok (.iload_n 1, 1) := by decide +kernel
theorem dX11_isBeside_66 : decode cX11_isBeside 66 = .ok (.aload_n 0, 1) := by decide +kernel
theorem dX11_isBeside_67 : decode cX11_isBeside 67 = .ok (.getfield 138, 3) := by decide +kernel
theorem dX11_isBeside_70 : decode cX11_isBeside 70 = .ok (.isub, 1) := by decide +kernel
theorem dX11_isBeside_71 : decode cX11_isBeside 71 = .ok (.baload, 1) := by decide +kernel
theorem dX11_isBeside_72 : decode cX11_isBeside 72 = .ok (.ifCond .ne 27, 3) := by decide +kernel
theorem dX11_isBeside_75 : decode cX11_isBeside 75 = .ok (.iload_n 1, 1) := by decide +kernel
theorem dX11_isBeside_76 : decode cX11_isBeside 76 = .ok (.aload_n 0, 1) := by decide +kernel
theorem dX11_isBeside_77 : decode cX11_isBeside 77 = .ok (.getfield 138, 3) := by decide +kernel
theorem dX11_isBeside_80 : decode cX11_isBeside 80 = .ok (.iadd, 1) := by decide +kernel
theorem dX11_isBeside_81 : decode cX11_isBeside 81 = .ok (.iload_n 3, 1) := by decide +kernel
theorem dX11_isBeside_82 : decode cX11_isBeside 82 = .ok (.if_icmp .ge 21, 3) := by decide +kernel
theorem dX11_isBeside_85 : decode cX11_isBeside 85 = .ok (.aload_n 0, 1) := by decide +kernel
theorem dX11_isBeside_86 : decode cX11_isBeside 86 = .ok (.getfield 56, 3) := by decide +kernel
theorem dX11_isBeside_89 : decode cX11_isBeside 89 = .ok (.iload_n 1, 1) := by decide +kernel
theorem dX11_isBeside_90 : decode cX11_isBeside 90 = .ok (.aload_n 0, 1) := by decide +kernel
theorem dX11_isBeside_91 : decode cX11_isBeside 91 = .ok (.getfield 138, 3) := by decide +kernel
theorem dX11_isBeside_94 : decode cX11_isBeside 94 = .ok (.iadd, 1) := by decide +kernel
theorem dX11_isBeside_95 : decode cX11_isBeside 95 = .ok (.baload, 1) := by decide +kernel
theorem dX11_isBeside_96 : decode cX11_isBeside 96 = .ok (.ifCond .eq 7, 3) := by decide +kernel
theorem dX11_isBeside_99 : decode cX11_isBeside 99 = .ok (.iconst 1, 1) := by decide +kernel
theorem dX11_isBeside_100 : decode cX11_isBeside 100 = .ok (.goto 4, 3) := by decide +kernel
theorem dX11_isBeside_103 : decode cX11_isBeside 103 = .ok (.iconst 0, 1) := by decide +kernel
theorem dX11_isBeside_104 : decode cX11_isBeside 104 = .ok (.ireturn, 1) := by decide +kernel
theorem dX11_carry_0 : decode cX11_carry 0 = .ok (.iload_n 1, 1) := by decide +kernel
theorem dX11_carry_1 : decode cX11_carry 1 = .ok (.i2l, 1) := by decide +kernel
theorem dX11_carry_2 : decode cX11_carry 2 = .ok (.lconst 0, 1) := by decide +kernel
theorem dX11_carry_3 : decode cX11_carry 3 = .ok (.aload_n 0, 1) := by decide +kernel
theorem dX11_carry_4 : decode cX11_carry 4 = .ok (.getfield 138, 3) := by decide +kernel
theorem dX11_carry_7 : decode cX11_carry 7 = .ok (.iconst 1, 1) := by decide +kernel
theorem dX11_carry_8 : decode cX11_carry 8 = .ok (.isub, 1) := by decide +kernel
theorem dX11_carry_9 : decode cX11_carry 9 = .ok (.i2l, 1) := by decide +kernel
theorem dX11_carry_10 : decode cX11_carry 10 = .ok (.invokestatic 71, 3) := by decide +kernel
theorem dX11_carry_13 : decode cX11_carry 13 = .ok (.ifCond .eq 28, 3) := by decide +kernel
theorem dX11_carry_16 : decode cX11_carry 16 = .ok (.iload_n 2, 1) := by decide +kernel
theorem dX11_carry_17 : decode cX11_carry 17 = .ok (.aload_n 0, 1) := by decide +kernel
theorem dX11_carry_18 : decode cX11_carry 18 = .ok (.getfield 141, 3) := by decide +kernel
theorem dX11_carry_21 : decode cX11_carry 21 = .ok (.if_icmp .ge 20, 3) := by decide +kernel
theorem dX11_carry_24 : decode cX11_carry 24 = .ok (.aload_n 0, 1) := by decide +kernel
theorem dX11_carry_25 : decode cX11_carry 25 = .ok (.getfield 50, 3) := by decide +kernel
theorem dX11_carry_28 : decode cX11_carry 28 = .ok (.iload_n 2, 1) := by decide +kernel
theorem dX11_carry_29 : decode cX11_carry 29 = .ok (.aload_n 0, 1) := by decide +kernel
theorem dX11_carry_30 : decode cX11_carry 30 = .ok (.getfield 138, 3) := by decide +kernel
theorem dX11_carry_33 : decode cX11_carry 33 = .ok (.imul, 1) := by decide +kernel
theorem dX11_carry_34 : decode cX11_carry 34 = .ok (.iload_n 1, 1) := by decide +kernel
theorem dX11_carry_35 : decode cX11_carry 35 = .ok (.iadd, 1) := by decide +kernel
theorem dX11_carry_36 : decode cX11_carry 36 = .ok (.dup2, 1) := by decide +kernel
theorem dX11_carry_37 : decode cX11_carry 37 = .ok (.iaload, 1) := by decide +kernel
theorem dX11_carry_38 : decode cX11_carry 38 = .ok (.iload_n 3, 1) := by decide +kernel
theorem dX11_carry_39 : decode cX11_carry 39 = .ok (.iadd, 1) := by decide +kernel
theorem dX11_carry_40 : decode cX11_carry 40 = .ok (.iastore, 1) := by decide +kernel
theorem dX11_carry_41 : decode cX11_carry 41 = .ok (.return_, 1) := by decide +kernel
theorem dX11_dither_0 : decode cX11_dither 0 = .ok (.iload_n 1, 1) := by decide +kernel
theorem dX11_dither_1 : decode cX11_dither 1 = .ok (.invokestatic 101, 3) := by decide +kernel
theorem dX11_dither_4 : decode cX11_dither 4 = .ok (.ifCond .eq 17, 3) := by decide +kernel
theorem dX11_dither_7 : decode cX11_dither 7 = .ok (.iload_n 2, 1) := by decide +kernel
theorem dX11_dither_8 : decode cX11_dither 8 = .ok (.i2l, 1) := by decide +kernel
theorem dX11_dither_9 : decode cX11_dither 9 = .ok (.ldc2_w 184, 3) := by decide +kernel
theorem dX11_dither_12 : decode cX11_dither 12 = .ok (.ldc2_w 107, 3) := by decide +kernel
theorem dX11_dither_15 : decode cX11_dither 15 = .ok (.invokestatic 71, 3) := by decide +kernel
theorem dX11_dither_18 : decode cX11_dither 18 = .ok (.ifCond .ne 6, 3) := by decide +kernel
theorem dX11_dither_21 : decode cX11_dither 21 = .ok (.ldc 109, 2) := by decide +kernel
theorem dX11_dither_23 : decode cX11_dither 23 = .ok (.ireturn, 1) := by decide +kernel
theorem dX11_dither_24 : decode cX11_dither 24 = .ok (.aload_n 0, 1) := by decide +kernel
theorem dX11_dither_25 : decode cX11_dither 25 = .ok (.iload_n 1, 1) := by decide +kernel
theorem dX11_dither_26 : decode cX11_dither 26 = .ok (.invokevirtual 117, 3) := by decide +kernel
theorem dX11_dither_29 : decode cX11_dither 29 = .ok (.ifCond .eq 11, 3) := by decide +kernel
theorem dX11_dither_32 : decode cX11_dither 32 = .ok (.aload_n 0, 1) := by decide +kernel
theorem dX11_dither_33 : decode cX11_dither 33 = .ok (.iload_n 1, 1) := by decide +kernel
theorem dX11_dither_34 : decode cX11_dither 34 = .ok (.invokevirtual 124, 3) := by decide +kernel
theorem dX11_dither_37 : decode cX11_dither 37 = .ok (.ifCond .eq 6, 3) := by decide +kernel
theorem dX11_dither_40 : decode cX11_dither 40 = .ok (.ldc 96, 2) := by decide +kernel
theorem dX11_dither_42 : decode cX11_dither 42 = .ok (.ireturn, 1) := by decide +kernel
theorem dX11_dither_43 : decode cX11_dither 43 = .ok (.aload_n 0, 1) := by decide +kernel
theorem dX11_dither_44 : decode cX11_dither 44 = .ok (.invokevirtual 110, 3) := by decide +kernel
theorem dX11_dither_47 : decode cX11_dither 47 = .ok (.aload_n 0, 1) := by decide +kernel
theorem dX11_dither_48 : decode cX11_dither 48 = .ok (.iload_n 1, 1) := by decide +kernel
theorem dX11_dither_49 : decode cX11_dither 49 = .ok (.invokevirtual 153, 3) := by decide +kernel
theorem dX11_dither_52 : decode cX11_dither 52 = .ok (.iconst 0, 1) := by decide +kernel
theorem dX11_dither_53 : decode cX11_dither 53 = .ok (.istore_n 3, 1) := by decide +kernel
theorem dX11_dither_54 : decode cX11_dither 54 = .ok (.iload_n 3, 1) := by decide +kernel
theorem dX11_dither_55 : decode cX11_dither 55 = .ok (.sipush 256, 3) := by decide +kernel
theorem dX11_dither_58 : decode cX11_dither 58 = .ok (.if_icmp .ge 21, 3) := by decide +kernel
theorem dX11_dither_61 : decode cX11_dither 61 = .ok (.aload_n 0, 1) := by decide +kernel
theorem dX11_dither_62 : decode cX11_dither 62 = .ok (.getfield 50, 3) := by decide +kernel
theorem dX11_dither_65 : decode cX11_dither 65 = .ok (.iload_n 3, 1) := by decide +kernel
theorem dX11_dither_66 : decode cX11_dither 66 = .ok (.aload_n 0, 1) := by decide +kernel
theorem dX11_dither_67 : decode cX11_dither 67 = .ok (.getfield 35, 3) := by decide +kernel
theorem dX11_dither_70 : decode cX11_dither 70 = .ok (.iload_n 3, 1) := by decide +kernel
theorem dX11_dither_71 : decode cX11_dither 71 = .ok (.iaload, 1) := by decide +kernel
theorem dX11_dither_72 : decode cX11_dither 72 = .ok (.iastore, 1) := by decide +kernel
theorem dX11_dither_73 : decode cX11_dither 73 = .ok (.iinc 3 1, 3) := by decide +kernel
theorem dX11_dither_76 : decode cX11_dither 76 = .ok (.goto (-22), 3) := by decide +kernel
theorem dX11_dither_79 : decode cX11_dither 79 = .ok (.iconst 0, 1) := by decide +kernel
theorem dX11_dither_80 : decode cX11_dither 80 = .ok (.istore_n 3, 1) := by decide +kernel
theorem dX11_dither_81 : decode cX11_dither 81 = .ok (.iload_n 3, 1) := by decide +kernel
theorem dX11_dither_82 : decode cX11_dither 82 = .ok (.aload_n 0, 1) := by decide +kernel

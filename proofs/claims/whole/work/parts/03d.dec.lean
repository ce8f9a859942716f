theorem dX8_noBubbles_8 : decode cX8_noBubbles 8 = .ok (.putfield 220, 3) := by decide +kernel
theorem dX8_noBubbles_11 : decode cX8_noBubbles 11 = .ok (.aload_n 0, 1) := by decide +kernel
theorem dX8_noBubbles_12 : decode cX8_noBubbles 12 = .ok (.bipush (-4), 2) := by decide +kernel
theorem dX8_noBubbles_14 : decode cX8_noBubbles 14 = .ok (.putfield 223, 3) := by decide +kernel
theorem dX8_noBubbles_17 : decode cX8_noBubbles 17 = .ok (.return_, 1) := by decide +kernel
theorem dX8_aBubble_0 : decode cX8_aBubble 0 = .ok (.aload_n 0, 1) := by decide +kernel
theorem dX8_aBubble_1 : decode cX8_aBubble 1 = .ok (.dup, 1) := by decide +kernel
theorem dX8_aBubble_2 : decode cX8_aBubble 2 = .ok (.getfield 217, 3) := by decide +kernel
theorem dX8_aBubble_5 : decode cX8_aBubble 5 = .ok (.iconst 1, 1) := by decide +kernel
theorem dX8_aBubble_6 : decode cX8_aBubble 6 = .ok (.iadd, 1) := by decide +kernel
theorem dX8_aBubble_7 : decode cX8_aBubble 7 = .ok (.putfield 217, 3) := by decide +kernel
theorem dX8_aBubble_10 : decode cX8_aBubble 10 = .ok (.aload_n 0, 1) := by decide +kernel
theorem dX8_aBubble_11 : decode cX8_aBubble 11 = .ok (.aload_n 0, 1) := by decide +kernel
theorem dX8_aBubble_12 : decode cX8_aBubble 12 = .ok (.getfield 220, 3) := by decide +kernel
theorem dX8_aBubble_15 : decode cX8_aBubble 15 = .ok (.bipush (-4), 2) := by decide +kernel
theorem dX8_aBubble_17 : decode cX8_aBubble 17 = .ok (.if_icmp .ne 7, 3) := by decide +kernel
theorem dX8_aBubble_20 : decode cX8_aBubble 20 = .ok (.iload_n 1, 1) := by decide +kernel
theorem dX8_aBubble_21 : decode cX8_aBubble 21 = .ok (.goto 7, 3) := by decide +kernel
theorem dX8_aBubble_24 : decode cX8_aBubble 24 = .ok (.aload_n 0, 1) := by decide +kernel
theorem dX8_aBubble_25 : decode cX8_aBubble 25 = .ok (.getfield 220, 3) := by decide +kernel
theorem dX8_aBubble_28 : decode cX8_aBubble 28 = .ok (.putfield 220, 3) := by decide +kernel
theorem dX8_aBubble_31 : decode cX8_aBubble 31 = .ok (.aload_n 0, 1) := by decide +kernel
theorem dX8_aBubble_32 : decode cX8_aBubble 32 = .ok (.iload_n 1, 1) := by decide +kernel
theorem dX8_aBubble_33 : decode cX8_aBubble 33 = .ok (.putfield 223, 3) := by decide +kernel
theorem dX8_aBubble_36 : decode cX8_aBubble 36 = .ok (.return_, 1) := by decide +kernel
theorem dX8_told_0 : decode cX8_told 0 = .ok (.iload_n 1, 1) := by decide +kernel
theorem dX8_told_1 : decode cX8_told 1 = .ok (.ifCond .ne 10, 3) := by decide +kernel
theorem dX8_told_4 : decode cX8_told 4 = .ok (.aload_n 0, 1) := by decide +kernel
theorem dX8_told_5 : decode cX8_told 5 = .ok (.getfield 217, 3) := by decide +kernel
theorem dX8_told_8 : decode cX8_told 8 = .ok (.goto 19, 3) := by decide +kernel
theorem dX8_told_11 : decode cX8_told 11 = .ok (.iload_n 1, 1) := by decide +kernel
theorem dX8_told_12 : decode cX8_told 12 = .ok (.iconst 1, 1) := by decide +kernel
theorem dX8_told_13 : decode cX8_told 13 = .ok (.if_icmp .ne 10, 3) := by decide +kernel
theorem dX8_told_16 : decode cX8_told 16 = .ok (.aload_n 0, 1) := by decide +kernel
theorem dX8_told_17 : decode cX8_told 17 = .ok (.getfield 220, 3) := by decide +kernel
theorem dX8_told_20 : decode cX8_told 20 = .ok (.goto 7, 3) := by decide +kernel
theorem dX8_told_23 : decode cX8_told 23 = .ok (.aload_n 0, 1) := by decide +kernel
theorem dX8_told_24 : decode cX8_told 24 = .ok (.getfield 223, 3) := by decide +kernel
theorem dX8_told_27 : decode cX8_told 27 = .ok (.ireturn, 1) := by decide +kernel
theorem dX8_comesBack_0 : decode cX8_comesBack 0 = .ok (.aload_n 0, 1) := by decide +kernel
theorem dX8_comesBack_1 : decode cX8_comesBack 1 = .ok (.iload_n 1, 1) := by decide +kernel
theorem dX8_comesBack_2 : decode cX8_comesBack 2 = .ok (.iload_n 2, 1) := by decide +kernel
theorem dX8_comesBack_3 : decode cX8_comesBack 3 = .ok (.aload_n 0, 1) := by decide +kernel
theorem dX8_comesBack_4 : decode cX8_comesBack 4 = .ok (.getfield 7, 3) := by decide +kernel
theorem dX8_comesBack_7 : decode cX8_comesBack 7 = .ok (.bipush 49, 2) := by decide +kernel
theorem dX8_comesBack_9 : decode cX8_comesBack 9 = .ok (.iaload, 1) := by decide +kernel
theorem dX8_comesBack_10 : decode cX8_comesBack 10 = .ok (.iconst 0, 1) := by decide +kernel
theorem dX8_comesBack_11 : decode cX8_comesBack 11 = .ok (.iconst 0, 1) := by decide +kernel
theorem dX8_comesBack_12 : decode cX8_comesBack 12 = .ok (.invokevirtual 159, 3) := by decide +kernel
theorem dX8_comesBack_15 : decode cX8_comesBack 15 = .ok (.ifCond .ge 30, 3) := by decide +kernel
theorem dX8_comesBack_18 : decode cX8_comesBack 18 = .ok (.aload_n 0, 1) := by decide +kernel
theorem dX8_comesBack_19 : decode cX8_comesBack 19 = .ok (.iload_n 1, 1) := by decide +kernel
theorem dX8_comesBack_20 : decode cX8_comesBack 20 = .ok (.iload_n 2, 1) := by decide +kernel
theorem dX8_comesBack_21 : decode cX8_comesBack 21 = .ok (.aload_n 0, 1) := by decide +kernel
theorem dX8_comesBack_22 : decode cX8_comesBack 22 = .ok (.getfield 7, 3) := by decide +kernel
theorem dX8_comesBack_25 : decode cX8_comesBack 25 = .ok (.bipush 49, 2) := by decide +kernel
theorem dX8_comesBack_27 : decode cX8_comesBack 27 = .ok (.iaload, 1) := by decide +kernel
theorem dX8_comesBack_28 : decode cX8_comesBack 28 = .ok (.iconst 0, 1) := by decide +kernel
theorem dX8_comesBack_29 : decode cX8_comesBack 29 = .ok (.aload_n 0, 1) := by decide +kernel
theorem dX8_comesBack_30 : decode cX8_comesBack 30 = .ok (.getfield 17, 3) := by decide +kernel
theorem dX8_comesBack_33 : decode cX8_comesBack 33 = .ok (.iconst 0, 1) := by decide +kernel
theorem dX8_comesBack_34 : decode cX8_comesBack 34 = .ok (.iaload, 1) := by decide +kernel
theorem dX8_comesBack_35 : decode cX8_comesBack 35 = .ok (.invokevirtual 159, 3) := by decide +kernel
theorem dX8_comesBack_38 : decode cX8_comesBack 38 = .ok (.ifCond .ge 7, 3) := by decide +kernel
theorem dX8_comesBack_41 : decode cX8_comesBack 41 = .ok (.iconst 1, 1) := by decide +kernel
theorem dX8_comesBack_42 : decode cX8_comesBack 42 = .ok (.goto 4, 3) := by decide +kernel
theorem dX8_comesBack_45 : decode cX8_comesBack 45 = .ok (.iconst 0, 1) := by decide +kernel
theorem dX8_comesBack_46 : decode cX8_comesBack 46 = .ok (.ireturn, 1) := by decide +kernel
theorem dX8_goesBy_0 : decode cX8_goesBy 0 = .ok (.aload_n 0, 1) := by decide +kernel
theorem dX8_goesBy_1 : decode cX8_goesBy 1 = .ok (.iload_n 1, 1) := by decide +kernel
theorem dX8_goesBy_2 : decode cX8_goesBy 2 = .ok (.iload_n 2, 1) := by decide +kernel
theorem dX8_goesBy_3 : decode cX8_goesBy 3 = .ok (.aload_n 0, 1) := by decide +kernel
theorem dX8_goesBy_4 : decode cX8_goesBy 4 = .ok (.getfield 7, 3) := by decide +kernel
theorem dX8_goesBy_7 : decode cX8_goesBy 7 = .ok (.bipush 49, 2) := by decide +kernel
theorem dX8_goesBy_9 : decode cX8_goesBy 9 = .ok (.iaload, 1) := by decide +kernel
theorem dX8_goesBy_10 : decode cX8_goesBy 10 = .ok (.iload_n 3, 1) := by decide +kernel
theorem dX8_goesBy_11 : decode cX8_goesBy 11 = .ok (.iconst 0, 1) := by decide +kernel
theorem dX8_goesBy_12 : decode cX8_goesBy 12 = .ok (.invokevirtual 159, 3) := by decide +kernel
theorem dX8_goesBy_15 : decode cX8_goesBy 15 = .ok (.ifCond .le 7, 3) := by decide +kernel
theorem dX8_goesBy_18 : decode cX8_goesBy 18 = .ok (.iconst 1, 1) := by decide +kernel
theorem dX8_goesBy_19 : decode cX8_goesBy 19 = .ok (.goto 4, 3) := by decide +kernel
theorem dX8_goesBy_22 : decode cX8_goesBy 22 = .ok (.iconst 0, 1) := by decide +kernel
theorem dX8_goesBy_23 : decode cX8_goesBy 23 = .ok (.ireturn, 1) := by decide +kernel
theorem dX8_isHeavy_0 : decode cX8_isHeavy 0 = .ok (.iload_n 0, 1) := by decide +kernel
theorem dX8_isHeavy_1 : decode cX8_isHeavy 1 = .ok (.i2l, 1) := by decide +kernel
theorem dX8_isHeavy_2 : decode cX8_isHeavy 2 = .ok (.lconst 1, 1) := by decide +kernel
theorem dX8_isHeavy_3 : decode cX8_isHeavy 3 = .ok (.ldc2_w 194, 3) := by decide +kernel
theorem dX8_isHeavy_6 : decode cX8_isHeavy 6 = .ok (.invokestatic 72, 3) := by decide +kernel
theorem dX8_isHeavy_9 : decode cX8_isHeavy 9 = .ok (.ireturn, 1) := by decide +kernel
theorem dX8_bubbles_0 : decode cX8_bubbles 0 = .ok (.iload_n 1, 1) := by decide +kernel
theorem dX8_bubbles_1 : decode cX8_bubbles 1 = .ok (.invokestatic 226, 3) := by decide +kernel
theorem dX8_bubbles_4 : decode cX8_bubbles 4 = .ok (.ifCond .eq 22, 3) := by decide +kernel
theorem dX8_bubbles_7 : decode cX8_bubbles 7 = .ok (.iload_n 2, 1) := by decide +kernel
theorem dX8_bubbles_8 : decode cX8_bubbles 8 = .ok (.invokestatic 174, 3) := by decide +kernel
theorem dX8_bubbles_11 : decode cX8_bubbles 11 = .ok (.ifCond .eq 15, 3) := by decide +kernel
theorem dX8_bubbles_14 : decode cX8_bubbles 14 = .ok (.iload_n 3, 1) := by decide +kernel
theorem dX8_bubbles_15 : decode cX8_bubbles 15 = .ok (.i2l, 1) := by decide +kernel
theorem dX8_bubbles_16 : decode cX8_bubbles 16 = .ok (.lconst 0, 1) := by decide +kernel
theorem dX8_bubbles_17 : decode cX8_bubbles 17 = .ok (.ldc2_w 229, 3) := by decide +kernel
theorem dX8_bubbles_20 : decode cX8_bubbles 20 = .ok (.invokestatic 72, 3) := by decide +kernel
theorem dX8_bubbles_23 : decode cX8_bubbles 23 = .ok (.ifCond .ne 5, 3) := by decide +kernel
theorem dX8_bubbles_26 : decode cX8_bubbles 26 = .ok (.iconst (-1), 1) := by decide +kernel
theorem dX8_bubbles_27 : decode cX8_bubbles 27 = .ok (.ireturn, 1) := by decide +kernel
theorem dX8_bubbles_28 : decode cX8_bubbles 28 = .ok (.aload_n 0, 1) := by decide +kernel
theorem dX8_bubbles_29 : decode cX8_bubbles 29 = .ok (.invokevirtual 231, 3) := by decide +kernel
theorem dX8_bubbles_32 : decode cX8_bubbles 32 = .ok (.iconst 0, 1) := by decide +kernel
theorem dX8_bubbles_33 : decode cX8_bubbles 33 = .ok (.istore 4, 2) := by decide +kernel
theorem dX8_bubbles_35 : decode cX8_bubbles 35 = .ok (.iload 4, 2) := by decide +kernel
theorem dX8_bubbles_37 : decode cX8_bubbles 37 = .ok (.sipush 9999, 3) := by decide +kernel
theorem dX8_bubbles_40 : decode cX8_bubbles 40 = .ok (.if_icmp .gt 36, 3) := by decide +kernel
theorem dX8_bubbles_43 : decode cX8_bubbles 43 = .ok (.aload_n 0, 1) := by decide +kernel
theorem dX8_bubbles_44 : decode cX8_bubbles 44 = .ok (.iload_n 1, 1) := by decide +kernel
theorem dX8_bubbles_45 : decode cX8_bubbles 45 = .ok (.iload 4, 2) := by decide +kernel
theorem dX8_bubbles_47 : decode cX8_bubbles 47 = .ok (.invokevirtual 234, 3) := by decide +kernel
theorem dX8_bubbles_50 : decode cX8_bubbles 50 = .ok (.ifCond .eq 20, 3) := by decide +kernel
theorem dX8_bubbles_53 : decode cX8_bubbles 53 = .ok (.aload_n 0, 1) := by decide +kernel
theorem dX8_bubbles_54 : decode cX8_bubbles 54 = .ok (.iload_n 1, 1) := by decide +kernel
theorem dX8_bubbles_55 : decode cX8_bubbles 55 = .ok (.iload 4, 2) := by decide +kernel
theorem dX8_bubbles_57 : decode cX8_bubbles 57 = .ok (.iload_n 2, 1) := by decide +kernel
theorem dX8_bubbles_58 : decode cX8_bubbles 58 = .ok (.invokevirtual 238, 3) := by decide +kernel
theorem dX8_bubbles_61 : decode cX8_bubbles 61 = .ok (.ifCond .eq 9, 3) := by decide +kernel
theorem dX8_bubbles_64 : decode cX8_bubbles 64 = .ok (.aload_n 0, 1) := by decide +kernel
theorem dX8_bubbles_65 : decode cX8_bubbles 65 = .ok (.iload 4, 2) := by decide +kernel
theorem dX8_bubbles_67 : decode cX8_bubbles 67 = .ok (.invokevirtual 242, 3) := by decide +kernel
theorem dX8_bubbles_70 : decode cX8_bubbles 70 = .ok (.iinc 4 1, 3) := by decide +kernel
theorem dX8_bubbles_73 : decode cX8_bubbles 73 = .ok (.goto (-38), 3) := by decide +kernel
theorem dX8_bubbles_76 : decode cX8_bubbles 76 = .ok (.aload_n 0, 1) := by decide +kernel
theorem dX8_bubbles_77 : decode cX8_bubbles 77 = .ok (.iload_n 3, 1) := by decide +kernel
theorem dX8_bubbles_78 : decode cX8_bubbles 78 = .ok (.invokevirtual 245, 3) := by decide +kernel
theorem dX8_bubbles_81 : decode cX8_bubbles 81 = .ok (.ireturn, 1) := by decide +kernel
theorem dX8_atThumb_0 : decode cX8_atThumb 0 = .ok (.iload_n 1, 1) := by decide +kernel
theorem dX8_atThumb_1 : decode cX8_atThumb 1 = .ok (.invokestatic 226, 3) := by decide +kernel
theorem dX8_atThumb_4 : decode cX8_atThumb 4 = .ok (.ifCond .eq 22, 3) := by decide +kernel
theorem dX8_atThumb_7 : decode cX8_atThumb 7 = .ok (.iload_n 2, 1) := by decide +kernel
theorem dX8_atThumb_8 : decode cX8_atThumb 8 = .ok (.invokestatic 174, 3) := by decide +kernel
theorem dX8_atThumb_11 : decode cX8_atThumb 11 = .ok (.ifCond .eq 15, 3) := by decide +kernel
theorem dX8_atThumb_14 : decode cX8_atThumb 14 = .ok (.iload_n 3, 1) := by decide +kernel
theorem dX8_atThumb_15 : decode cX8_atThumb 15 = .ok (.i2l, 1) := by decide +kernel
theorem dX8_atThumb_16 : decode cX8_atThumb 16 = .ok (.lconst 0, 1) := by decide +kernel
theorem dX8_atThumb_17 : decode cX8_atThumb 17 = .ok (.ldc2_w 229, 3) := by decide +kernel
theorem dX8_atThumb_20 : decode cX8_atThumb 20 = .ok (.invokestatic 72, 3) := by decide +kernel
theorem dX8_atThumb_23 : decode cX8_atThumb 23 = .ok (.ifCond .ne 5, 3) := by decide +kernel
theorem dX8_atThumb_26 : decode cX8_atThumb 26 = .ok (.iconst (-1), 1) := by decide +kernel
theorem dX8_atThumb_27 : decode cX8_atThumb 27 = .ok (.ireturn, 1) := by decide +kernel
theorem dX8_atThumb_28 : decode cX8_atThumb 28 = .ok (.aload_n 0, 1) := by decide +kernel
theorem dX8_atThumb_29 : decode cX8_atThumb 29 = .ok (.invokevirtual 231, 3) := by decide +kernel
theorem dX8_atThumb_32 : decode cX8_atThumb 32 = .ok (.iconst 0, 1) := by decide +kernel
theorem dX8_atThumb_33 : decode cX8_atThumb 33 = .ok (.istore 4, 2) := by decide +kernel
theorem dX8_atThumb_35 : decode cX8_atThumb 35 = .ok (.iload 4, 2) := by decide +kernel
theorem dX8_atThumb_37 : decode cX8_atThumb 37 = .ok (.sipush 9999, 3) := by decide +kernel
theorem dX8_atThumb_40 : decode cX8_atThumb 40 = .ok (.if_icmp .gt 43, 3) := by decide +kernel
theorem dX8_atThumb_43 : decode cX8_atThumb 43 = .ok (.aload_n 0, 1) := by decide +kernel
theorem dX8_atThumb_44 : decode cX8_atThumb 44 = .ok (.iload_n 1, 1) := by decide +kernel
theorem dX8_atThumb_45 : decode cX8_atThumb 45 = .ok (.iload 4, 2) := by decide +kernel
theorem dX8_atThumb_47 : decode cX8_atThumb 47 = .ok (.iload_n 2, 1) := by decide +kernel
theorem dX8_atThumb_48 : decode cX8_atThumb 48 = .ok (.invokevirtual 238, 3) := by decide +kernel
theorem dX8_atThumb_51 : decode cX8_atThumb 51 = .ok (.ifCond .eq 26, 3) := by decide +kernel
theorem dX8_atThumb_54 : decode cX8_atThumb 54 = .ok (.iload_n 2, 1) := by decide +kernel
theorem dX8_atThumb_55 : decode cX8_atThumb 55 = .ok (.ifCond .eq 16, 3) := by decide +kernel
theorem dX8_atThumb_58 : decode cX8_atThumb 58 = .ok (.aload_n 0, 1) := by decide +kernel
theorem dX8_atThumb_59 : decode cX8_atThumb 59 = .ok (.iload_n 1, 1) := by decide +kernel
theorem dX8_atThumb_60 : decode cX8_atThumb 60 = .ok (.iload 4, 2) := by decide +kernel
theorem dX8_atThumb_62 : decode cX8_atThumb 62 = .ok (.iload_n 2, 1) := by decide +kernel
theorem dX8_atThumb_63 : decode cX8_atThumb 63 = .ok (.iconst 1, 1) := by decide +kernel
theorem dX8_atThumb_64 : decode cX8_atThumb 64 = .ok (.isub, 1) := by decide +kernel
theorem dX8_atThumb_65 : decode cX8_atThumb 65 = .ok (.invokevirtual 238, 3) := by decide +kernel
theorem dX8_atThumb_68 : decode cX8_atThumb 68 = .ok (.ifCond .ne 9, 3) := by decide +kernel
theorem dX8_atThumb_71 : decode cX8_atThumb 71 = .ok (.aload_n 0, 1) := by decide +kernel
theorem dX8_atThumb_72 : decode cX8_atThumb 72 = .ok (.iload 4, 2) := by decide +kernel
theorem dX8_atThumb_74 : decode cX8_atThumb 74 = .ok (.invokevirtual 242, 3) := by decide +kernel
theorem dX8_atThumb_77 : decode cX8_atThumb 77 = .ok (.iinc 4 1, 3) := by decide +kernel
theorem dX8_atThumb_80 : decode cX8_atThumb 80 = .ok (.goto (-45), 3) := by decide +kernel
theorem dX8_atThumb_83 : decode cX8_atThumb 83 = .ok (.aload_n 0, 1) := by decide +kernel
theorem dX8_atThumb_84 : decode cX8_atThumb 84 = .ok (.iload_n 3, 1) := by decide +kernel
theorem dX8_atThumb_85 : decode cX8_atThumb 85 = .ok (.invokevirtual 245, 3) := by decide +kernel
theorem dX8_atThumb_88 : decode cX8_atThumb 88 = .ok (.ireturn, 1) := by decide +kernel
theorem dX8_layThumbs_0 : decode cX8_layThumbs 0 = .ok (.iconst 0, 1) := by decide +kernel
theorem dX8_layThumbs_1 : decode cX8_layThumbs 1 = .ok (.istore_n 2, 1) := by decide +kernel
theorem dX8_layThumbs_2 : decode cX8_layThumbs 2 = .ok (.iload_n 2, 1) := by decide +kernel
theorem dX8_layThumbs_3 : decode cX8_layThumbs 3 = .ok (.sipush 500, 3) := by decide +kernel
theorem dX8_layThumbs_6 : decode cX8_layThumbs 6 = .ok (.if_icmp .gt 16, 3) := by decide +kernel
theorem dX8_layThumbs_9 : decode cX8_layThumbs 9 = .ok (.aload_n 0, 1) := by decide +kernel
theorem dX8_layThumbs_10 : decode cX8_layThumbs 10 = .ok (.getfield 35, 3) := by decide +kernel
theorem dX8_layThumbs_13 : decode cX8_layThumbs 13 = .ok (.iload_n 2, 1) := by decide +kernel
theorem dX8_layThumbs_14 : decode cX8_layThumbs 14 = .ok (.iconst 0, 1) := by decide +kernel
theorem dX8_layThumbs_15 : decode cX8_layThumbs 15 = .ok (.bastore, 1) := by decide +kernel
theorem dX8_layThumbs_16 : decode cX8_layThumbs 16 = .ok (.iinc 2 1, 3) := by decide +kernel
theorem dX8_layThumbs_19 : decode cX8_layThumbs 19 = .ok (.goto (-17), 3) := by decide +kernel
theorem dX8_layThumbs_22 : decode cX8_layThumbs 22 = .ok (.iconst 0, 1) := by decide +kernel
theorem dX8_layThumbs_23 : decode cX8_layThumbs 23 = .ok (.istore_n 2, 1) := by decide +kernel
theorem dX8_layThumbs_24 : decode cX8_layThumbs 24 = .ok (.iconst 0, 1) := by decide +kernel
theorem dX8_layThumbs_25 : decode cX8_layThumbs 25 = .ok (.istore_n 3, 1) := by decide +kernel
theorem dX8_layThumbs_26 : decode cX8_layThumbs 26 = .ok (.iload_n 3, 1) := by decide +kernel
theorem dX8_layThumbs_27 : decode cX8_layThumbs 27 = .ok (.sipush 9999, 3) := by decide +kernel
theorem dX8_layThumbs_30 : decode cX8_layThumbs 30 = .ok (.if_icmp .gt 62, 3) := by decide +kernel
theorem dX8_layThumbs_33 : decode cX8_layThumbs 33 = .ok (.iload_n 2, 1) := by decide +kernel
theorem dX8_layThumbs_34 : decode cX8_layThumbs 34 = .ok (.sipush 500, 3) := by decide +kernel
theorem dX8_layThumbs_37 : decode cX8_layThumbs 37 = .ok (.if_icmp .gt 55, 3) := by decide +kernel
theorem dX8_layThumbs_40 : decode cX8_layThumbs 40 = .ok (.iload_n 2, 1) := by decide +kernel
theorem dX8_layThumbs_41 : decode cX8_layThumbs 41 = .ok (.sipush 500, 3) := by decide +kernel
theorem dX8_layThumbs_44 : decode cX8_layThumbs 44 = .ok (.if_icmp .gt 19, 3) := by decide +kernel
theorem dX8_layThumbs_47 : decode cX8_layThumbs 47 = .ok (.aload_n 0, 1) := by decide +kernel
theorem dX8_layThumbs_48 : decode cX8_layThumbs 48 = .ok (.iload_n 1, 1) := by decide +kernel
theorem dX8_layThumbs_49 : decode cX8_layThumbs 49 = .ok (.iload_n 3, 1) := by decide +kernel
theorem dX8_layThumbs_50 : decode cX8_layThumbs 50 = .ok (.iload_n 2, 1) := by decide +kernel
theorem dX8_layThumbs_51 : decode cX8_layThumbs 51 = .ok (.invokevirtual 238, 3) := by decide +kernel
theorem dX8_layThumbs_54 : decode cX8_layThumbs 54 = .ok (.ifCond .ne 9, 3) := by decide +kernel
theorem dX8_layThumbs_57 : decode cX8_layThumbs 57 = .ok (.iinc 2 1, 3) := by decide +kernel
theorem dX8_layThumbs_60 : decode cX8_layThumbs 60 = .ok (.goto (-20), 3) := by decide +kernel
theorem dX8_layThumbs_63 : decode cX8_layThumbs 63 = .ok (.iload_n 2, 1) := by decide +kernel
theorem dX8_layThumbs_64 : decode cX8_layThumbs 64 = .ok (.sipush 500, 3) := by decide +kernel
theorem dX8_layThumbs_67 : decode cX8_layThumbs 67 = .ok (.if_icmp .gt 19, 3) := by decide +kernel
theorem dX8_layThumbs_70 : decode cX8_layThumbs 70 = .ok (.aload_n 0, 1) := by decide +kernel
theorem dX8_layThumbs_71 : decode cX8_layThumbs 71 = .ok (.iload_n 1, 1) := by decide +kernel
theorem dX8_layThumbs_72 : decode cX8_layThumbs 72 = .ok (.iload_n 3, 1) := by decide +kernel
theorem dX8_layThumbs_73 : decode cX8_layThumbs 73 = .ok (.invokevirtual 234, 3) := by decide +kernel
theorem dX8_layThumbs_76 : decode cX8_layThumbs 76 = .ok (.ifCond .eq 10, 3) := by decide +kernel
theorem dX8_layThumbs_79 : decode cX8_layThumbs 79 = .ok (.aload_n 0, 1) := by decide +kernel
theorem dX8_layThumbs_80 : decode cX8_layThumbs 80 = .ok (.getfield 35, 3) := by decide +kernel
theorem dX8_layThumbs_83 : decode cX8_layThumbs 83 = .ok (.iload_n 2, 1) := by decide +kernel
theorem dX8_layThumbs_84 : decode cX8_layThumbs 84 = .ok (.iconst 1, 1) := by decide +kernel
theorem dX8_layThumbs_85 : decode cX8_layThumbs 85 = .ok (.bastore, 1) := by decide +kernel
theorem dX8_layThumbs_86 : decode cX8_layThumbs 86 = .ok (.iinc 3 1, 3) := by decide +kernel
theorem dX8_layThumbs_89 : decode cX8_layThumbs 89 = .ok (.goto (-63), 3) := by decide +kernel
theorem dX8_layThumbs_92 : decode cX8_layThumbs 92 = .ok (.return_, 1) := by decide +kernel
theorem dX8_takenBy_0 : decode cX8_takenBy 0 = .ok (.iconst 0, 1) := by decide +kernel
theorem dX8_takenBy_1 : decode cX8_takenBy 1 = .ok (.istore_n 2, 1) := by decide +kernel
theorem dX8_takenBy_2 : decode cX8_takenBy 2 = .ok (.sipush (-500), 3) := by decide +kernel
theorem dX8_takenBy_5 : decode cX8_takenBy 5 = .ok (.istore_n 3, 1) := by decide +kernel
theorem dX8_takenBy_6 : decode cX8_takenBy 6 = .ok (.iconst 0, 1) := by decide +kernel
theorem dX8_takenBy_7 : decode cX8_takenBy 7 = .ok (.istore 4, 2) := by decide +kernel
theorem dX8_takenBy_9 : decode cX8_takenBy 9 = .ok (.iload 4, 2) := by decide +kernel
theorem dX8_takenBy_11 : decode cX8_takenBy 11 = .ok (.sipush 500, 3) := by decide +kernel
theorem dX8_takenBy_14 : decode cX8_takenBy 14 = .ok (.if_icmp .gt 33, 3) := by decide +kernel
theorem dX8_takenBy_17 : decode cX8_takenBy 17 = .ok (.aload_n 0, 1) := by decide +kernel
theorem dX8_takenBy_18 : decode cX8_takenBy 18 = .ok (.getfield 35, 3) := by decide +kernel
theorem dX8_takenBy_21 : decode cX8_takenBy 21 = .ok (.iload 4, 2) := by decide +kernel
theorem dX8_takenBy_23 : decode cX8_takenBy 23 = .ok (.baload, 1) := by decide +kernel
theorem dX8_takenBy_24 : decode cX8_takenBy 24 = .ok (.ifCond .eq 17, 3) := by decide +kernel
theorem dX8_takenBy_27 : decode cX8_takenBy 27 = .ok (.iload 4, 2) := by decide +kernel
theorem dX8_takenBy_29 : decode cX8_takenBy 29 = .ok (.iload_n 3, 1) := by decide +kernel
theorem dX8_takenBy_30 : decode cX8_takenBy 30 = .ok (.isub, 1) := by decide +kernel
theorem dX8_takenBy_31 : decode cX8_takenBy 31 = .ok (.iload_n 1, 1) := by decide +kernel
theorem dX8_takenBy_32 : decode cX8_takenBy 32 = .ok (.if_icmp .lt 9, 3) := by decide +kernel
theorem dX8_takenBy_35 : decode cX8_takenBy 35 = .ok (.iinc 2 1, 3) := by decide +kernel
theorem dX8_takenBy_38 : decode cX8_takenBy 38 = .ok (.iload 4, 2) := by decide +kernel
theorem dX8_takenBy_40 : decode cX8_takenBy 40 = .ok (.istore_n 3, 1) := by decide +kernel
theorem dX8_takenBy_41 : decode cX8_takenBy 41 = .ok (.iinc 4 1, 3) := by decide +kernel
theorem dX8_takenBy_44 : decode cX8_takenBy 44 = .ok (.goto (-35), 3) := by decide +kernel
theorem dX8_takenBy_47 : decode cX8_takenBy 47 = .ok (.iload_n 2, 1) := by decide +kernel
theorem dX8_takenBy_48 : decode cX8_takenBy 48 = .ok (.ireturn, 1) := by decide +kernel
theorem dX8_spread_0 : decode cX8_spread 0 = .ok (.iload_n 1, 1) := by decide +kernel
theorem dX8_spread_1 : decode cX8_spread 1 = .ok (.invokestatic 226, 3) := by decide +kernel
theorem dX8_spread_4 : decode cX8_spread 4 = .ok (.ifCond .eq 27, 3) := by decide +kernel
theorem dX8_spread_7 : decode cX8_spread 7 = .ok (.iload_n 2, 1) := by decide +kernel
theorem dX8_spread_8 : decode cX8_spread 8 = .ok (.i2l, 1) := by decide +kernel
theorem dX8_spread_9 : decode cX8_spread 9 = .ok (.ldc2_w 229, 3) := by decide +kernel
theorem dX8_spread_12 : decode cX8_spread 12 = .ok (.ldc2_w 145, 3) := by decide +kernel
theorem dX8_spread_15 : decode cX8_spread 15 = .ok (.invokestatic 72, 3) := by decide +kernel
theorem dX8_spread_18 : decode cX8_spread 18 = .ok (.ifCond .eq 13, 3) := by decide +kernel
theorem dX8_spread_21 : decode cX8_spread 21 = .ok (.iload_n 3, 1) := by decide +kernel
theorem dX8_spread_22 : decode cX8_spread 22 = .ok (.i2l, 1) := by decide +kernel
theorem dX8_spread_23 : decode cX8_spread 23 = .ok (.lconst 0, 1) := by decide +kernel
theorem dX8_spread_24 : decode cX8_spread 24 = .ok (.lconst 1, 1) := by decide +kernel
theorem dX8_spread_25 : decode cX8_spread 25 = .ok (.invokestatic 72, 3) := by decide +kernel
theorem dX8_spread_28 : decode cX8_spread 28 = .ok (.ifCond .ne 5, 3) := by decide +kernel
theorem dX8_spread_31 : decode cX8_spread 31 = .ok (.iconst (-1), 1) := by decide +kernel
theorem dX8_spread_32 : decode cX8_spread 32 = .ok (.ireturn, 1) := by decide +kernel
theorem dX8_spread_33 : decode cX8_spread 33 = .ok (.aload_n 0, 1) := by decide +kernel
theorem dX8_spread_34 : decode cX8_spread 34 = .ok (.iload_n 1, 1) := by decide +kernel
theorem dX8_spread_35 : decode cX8_spread 35 = .ok (.invokevirtual 248, 3) := by decide +kernel
theorem dX8_spread_38 : decode cX8_spread 38 = .ok (.iconst 0, 1) := by decide +kernel
theorem dX8_spread_39 : decode cX8_spread 39 = .ok (.istore 4, 2) := by decide +kernel
theorem dX8_spread_41 : decode cX8_spread 41 = .ok (.iload 4, 2) := by decide +kernel
theorem dX8_spread_43 : decode cX8_spread 43 = .ok (.sipush 500, 3) := by decide +kernel
theorem dX8_spread_46 : decode cX8_spread 46 = .ok (.if_icmp .ge 21, 3) := by decide +kernel
theorem dX8_spread_49 : decode cX8_spread 49 = .ok (.aload_n 0, 1) := by decide +kernel
theorem dX8_spread_50 : decode cX8_spread 50 = .ok (.iload 4, 2) := by decide +kernel
theorem dX8_spread_52 : decode cX8_spread 52 = .ok (.iconst 1, 1) := by decide +kernel
theorem dX8_spread_53 : decode cX8_spread 53 = .ok (.iadd, 1) := by decide +kernel
theorem dX8_spread_54 : decode cX8_spread 54 = .ok (.invokevirtual 251, 3) := by decide +kernel
theorem dX8_spread_57 : decode cX8_spread 57 = .ok (.iload_n 2, 1) := by decide +kernel
theorem dX8_spread_58 : decode cX8_spread 58 = .ok (.if_icmp .lt 9, 3) := by decide +kernel
theorem dX8_spread_61 : decode cX8_spread 61 = .ok (.iinc 4 1, 3) := by decide +kernel
theorem dX8_spread_64 : decode cX8_spread 64 = .ok (.goto (-23), 3) := by decide +kernel
theorem dX8_spread_67 : decode cX8_spread 67 = .ok (.iconst 0, 1) := by decide +kernel
theorem dX8_spread_68 : decode cX8_spread 68 = .ok (.istore 5, 2) := by decide +kernel
theorem dX8_spread_70 : decode cX8_spread 70 = .ok (.iload 5, 2) := by decide +kernel
theorem dX8_spread_72 : decode cX8_spread 72 = .ok (.sipush 500, 3) := by decide +kernel
theorem dX8_spread_75 : decode cX8_spread 75 = .ok (.if_icmp .ge 19, 3) := by decide +kernel
theorem dX8_spread_78 : decode cX8_spread 78 = .ok (.aload_n 0, 1) := by decide +kernel
theorem dX8_spread_79 : decode cX8_spread 79 = .ok (.getfield 35, 3) := by decide +kernel
theorem dX8_spread_82 : decode cX8_spread 82 = .ok (.iload 5, 2) := by decide +kernel
theorem dX8_spread_84 : decode cX8_spread 84 = .ok (.baload, 1) := by decide +kernel
theorem dX8_spread_85 : decode cX8_spread 85 = .ok (.ifCond .ne 9, 3) := by decide +kernel
theorem dX8_spread_88 : decode cX8_spread 88 = .ok (.iinc 5 1, 3) := by decide +kernel
theorem dX8_spread_91 : decode cX8_spread 91 = .ok (.goto (-21), 3) := by decide +kernel
theorem dX8_spread_94 : decode cX8_spread 94 = .ok (.iload 4, 2) := by decide +kernel
theorem dX8_spread_96 : decode cX8_spread 96 = .ok (.ifCond .ne 8, 3) := by decide +kernel
theorem dX8_spread_99 : decode cX8_spread 99 = .ok (.bipush (-4), 2) := by decide +kernel
theorem dX8_spread_101 : decode cX8_spread 101 = .ok (.goto 14, 3) := by decide +kernel
theorem dX8_spread_104 : decode cX8_spread 104 = .ok (.iload_n 3, 1) := by decide +kernel
theorem dX8_spread_105 : decode cX8_spread 105 = .ok (.ifCond .ne 8, 3) := by decide +kernel
theorem dX8_spread_108 : decode cX8_spread 108 = .ok (.iload 4, 2) := by decide +kernel
theorem dX8_spread_110 : decode cX8_spread 110 = .ok (.goto 5, 3) := by decide +kernel
theorem dX8_spread_113 : decode cX8_spread 113 = .ok (.iload 5, 2) := by decide +kernel
theorem dX8_spread_115 : decode cX8_spread 115 = .ok (.ireturn, 1) := by decide +kernel
theorem dX8_holds_0 : decode cX8_holds 0 = .ok (.bipush 64, 2) := by decide +kernel
theorem dX8_holds_2 : decode cX8_holds 2 = .ok (.iload_n 2, 1) := by decide +kernel
theorem dX8_holds_3 : decode cX8_holds 3 = .ok (.imul, 1) := by decide +kernel
theorem dX8_holds_4 : decode cX8_holds 4 = .ok (.istore 7, 2) := by decide +kernel
theorem dX8_holds_6 : decode cX8_holds 6 = .ok (.aload_n 0, 1) := by decide +kernel
theorem dX8_holds_7 : decode cX8_holds 7 = .ok (.iload 7, 2) := by decide +kernel
theorem dX8_holds_9 : decode cX8_holds 9 = .ok (.putfield 184, 3) := by decide +kernel
theorem dX8_holds_12 : decode cX8_holds 12 = .ok (.aload_n 0, 1) := by decide +kernel
theorem dX8_holds_13 : decode cX8_holds 13 = .ok (.iconst 0, 1) := by decide +kernel
theorem dX8_holds_14 : decode cX8_holds 14 = .ok (.putfield 181, 3) := by decide +kernel
theorem dX8_holds_17 : decode cX8_holds 17 = .ok (.aload_n 0, 1) := by decide +kernel
theorem dX8_holds_18 : decode cX8_holds 18 = .ok (.getfield 38, 3) := by decide +kernel
theorem dX8_holds_21 : decode cX8_holds 21 = .ok (.iconst 0, 1) := by decide +kernel
theorem dX8_holds_22 : decode cX8_holds 22 = .ok (.aload_n 0, 1) := by decide +kernel
theorem dX8_holds_23 : decode cX8_holds 23 = .ok (.getfield 184, 3) := by decide +kernel
theorem dX8_holds_26 : decode cX8_holds 26 = .ok (.iastore, 1) := by decide +kernel
theorem dX8_holds_27 : decode cX8_holds 27 = .ok (.aload_n 0, 1) := by decide +kernel
theorem dX8_holds_28 : decode cX8_holds 28 = .ok (.bipush (-4), 2) := by decide +kernel
theorem dX8_holds_30 : decode cX8_holds 30 = .ok (.putfield 254, 3) := by decide +kernel
theorem dX8_holds_33 : decode cX8_holds 33 = .ok (.aload_n 0, 1) := by decide +kernel
theorem dX8_holds_34 : decode cX8_holds 34 = .ok (.iconst 0, 1) := by decide +kernel
theorem dX8_holds_35 : decode cX8_holds 35 = .ok (.putfield 257, 3) := by decide +kernel
theorem dX8_holds_38 : decode cX8_holds 38 = .ok (.aload_n 0, 1) := by decide +kernel
theorem dX8_holds_39 : decode cX8_holds 39 = .ok (.iload_n 3, 1) := by decide +kernel
theorem dX8_holds_40 : decode cX8_holds 40 = .ok (.putfield 260, 3) := by decide +kernel
theorem dX8_holds_43 : decode cX8_holds 43 = .ok (.iconst 0, 1) := by decide +kernel
theorem dX8_holds_44 : decode cX8_holds 44 = .ok (.istore 8, 2) := by decide +kernel
theorem dX8_holds_46 : decode cX8_holds 46 = .ok (.iload 8, 2) := by decide +kernel
theorem dX8_holds_48 : decode cX8_holds 48 = .ok (.iload 6, 2) := by decide +kernel
theorem dX8_holds_50 : decode cX8_holds 50 = .ok (.if_icmp .ge 212, 3) := by decide +kernel
theorem dX8_holds_53 : decode cX8_holds 53 = .ok (.aload_n 0, 1) := by decide +kernel
theorem dX8_holds_54 : decode cX8_holds 54 = .ok (.getfield 254, 3) := by decide +kernel
theorem dX8_holds_57 : decode cX8_holds 57 = .ok (.bipush (-4), 2) := by decide +kernel
theorem dX8_holds_59 : decode cX8_holds 59 = .ok (.if_icmp .ne 203, 3) := by decide +kernel
theorem dX8_holds_62 : decode cX8_holds 62 = .ok (.aload_n 0, 1) := by decide +kernel
theorem dX8_holds_63 : decode cX8_holds 63 = .ok (.getfield 38, 3) := by decide +kernel
theorem dX8_holds_66 : decode cX8_holds 66 = .ok (.iload 8, 2) := by decide +kernel
theorem dX8_holds_68 : decode cX8_holds 68 = .ok (.iload 4, 2) := by decide +kernel
theorem dX8_holds_70 : decode cX8_holds 70 = .ok (.if_icmp .ge 7, 3) := by decide +kernel
theorem dX8_holds_73 : decode cX8_holds 73 = .ok (.iconst 0, 1) := by decide +kernel
theorem dX8_holds_74 : decode cX8_holds 74 = .ok (.goto 8, 3) := by decide +kernel
theorem dX8_holds_77 : decode cX8_holds 77 = .ok (.iload 8, 2) := by decide +kernel
theorem dX8_holds_79 : decode cX8_holds 79 = .ok (.iload 4, 2) := by decide +kernel
theorem dX8_holds_81 : decode cX8_holds 81 = .ok (.isub, 1) := by decide +kernel
theorem dX8_holds_82 : decode cX8_holds 82 = .ok (.iaload, 1) := by decide +kernel
theorem dX8_holds_83 : decode cX8_holds 83 = .ok (.istore 9, 2) := by decide +kernel
theorem dX8_holds_85 : decode cX8_holds 85 = .ok (.aload_n 0, 1) := by decide +kernel
theorem dX8_holds_86 : decode cX8_holds 86 = .ok (.dup, 1) := by decide +kernel
theorem dX8_holds_87 : decode cX8_holds 87 = .ok (.getfield 260, 3) := by decide +kernel
theorem dX8_holds_90 : decode cX8_holds 90 = .ok (.iload 9, 2) := by decide +kernel
theorem dX8_holds_92 : decode cX8_holds 92 = .ok (.iload 7, 2) := by decide +kernel
theorem dX8_holds_94 : decode cX8_holds 94 = .ok (.if_icmp .ge 8, 3) := by decide +kernel
theorem dX8_holds_97 : decode cX8_holds 97 = .ok (.iload 5, 2) := by decide +kernel
theorem dX8_holds_99 : decode cX8_holds 99 = .ok (.goto 17, 3) := by decide +kernel
theorem dX8_holds_102 : decode cX8_holds 102 = .ok (.iload 9, 2) := by decide +kernel
theorem dX8_holds_104 : decode cX8_holds 104 = .ok (.iload 7, 2) := by decide +kernel
theorem dX8_holds_106 : decode cX8_holds 106 = .ok (.if_icmp .le 9, 3) := by decide +kernel
theorem dX8_holds_109 : decode cX8_holds 109 = .ok (.iload 5, 2) := by decide +kernel
theorem dX8_holds_111 : decode cX8_holds 111 = .ok (.ineg, 1) := by decide +kernel
theorem dX8_holds_112 : decode cX8_holds 112 = .ok (.goto 4, 3) := by decide +kernel
theorem dX8_holds_115 : decode cX8_holds 115 = .ok (.iconst 0, 1) := by decide +kernel
theorem dX8_holds_116 : decode cX8_holds 116 = .ok (.iadd, 1) := by decide +kernel
theorem dX8_holds_117 : decode cX8_holds 117 = .ok (.putfield 260, 3) := by decide +kernel
theorem dX8_holds_120 : decode cX8_holds 120 = .ok (.aload_n 0, 1) := by decide +kernel
theorem dX8_holds_121 : decode cX8_holds 121 = .ok (.aload_n 0, 1) := by decide +kernel
theorem dX8_holds_122 : decode cX8_holds 122 = .ok (.getfield 260, 3) := by decide +kernel
theorem dX8_holds_125 : decode cX8_holds 125 = .ok (.ifCond .ge 7, 3) := by decide +kernel
theorem dX8_holds_128 : decode cX8_holds 128 = .ok (.iconst 0, 1) := by decide +kernel
theorem dX8_holds_129 : decode cX8_holds 129 = .ok (.goto 23, 3) := by decide +kernel
theorem dX8_holds_132 : decode cX8_holds 132 = .ok (.aload_n 0, 1) := by decide +kernel
theorem dX8_holds_133 : decode cX8_holds 133 = .ok (.getfield 260, 3) := by decide +kernel
theorem dX8_holds_136 : decode cX8_holds 136 = .ok (.sipush 500, 3) := by decide +kernel
theorem dX8_holds_139 : decode cX8_holds 139 = .ok (.if_icmp .le 9, 3) := by decide +kernel
theorem dX8_holds_142 : decode cX8_holds 142 = .ok (.sipush 500, 3) := by decide +kernel
theorem dX8_holds_145 : decode cX8_holds 145 = .ok (.goto 7, 3) := by decide +kernel
theorem dX8_holds_148 : decode cX8_holds 148 = .ok (.aload_n 0, 1) := by decide +kernel
theorem dX8_holds_149 : decode cX8_holds 149 = .ok (.getfield 260, 3) := by decide +kernel
theorem dX8_holds_152 : decode cX8_holds 152 = .ok (.putfield 260, 3) := by decide +kernel
theorem dX8_holds_155 : decode cX8_holds 155 = .ok (.aload_n 0, 1) := by decide +kernel
theorem dX8_holds_156 : decode cX8_holds 156 = .ok (.aload_n 0, 1) := by decide +kernel
theorem dX8_holds_157 : decode cX8_holds 157 = .ok (.iload_n 1, 1) := by decide +kernel
theorem dX8_holds_158 : decode cX8_holds 158 = .ok (.invokevirtual 156, 3) := by decide +kernel
theorem dX8_holds_161 : decode cX8_holds 161 = .ok (.aload_n 0, 1) := by decide +kernel
theorem dX8_holds_162 : decode cX8_holds 162 = .ok (.iload_n 1, 1) := by decide +kernel
theorem dX8_holds_163 : decode cX8_holds 163 = .ok (.iconst 1, 1) := by decide +kernel
theorem dX8_holds_164 : decode cX8_holds 164 = .ok (.invokevirtual 153, 3) := by decide +kernel
theorem dX8_holds_167 : decode cX8_holds 167 = .ok (.aload_n 0, 1) := by decide +kernel
theorem dX8_holds_168 : decode cX8_holds 168 = .ok (.getfield 260, 3) := by decide +kernel
theorem dX8_holds_171 : decode cX8_holds 171 = .ok (.invokevirtual 190, 3) := by decide +kernel
theorem dX8_holds_174 : decode cX8_holds 174 = .ok (.aload_n 0, 1) := by decide +kernel
theorem dX8_holds_175 : decode cX8_holds 175 = .ok (.getfield 38, 3) := by decide +kernel
theorem dX8_holds_178 : decode cX8_holds 178 = .ok (.iload 8, 2) := by decide +kernel
theorem dX8_holds_180 : decode cX8_holds 180 = .ok (.iconst 1, 1) := by decide +kernel
theorem dX8_holds_181 : decode cX8_holds 181 = .ok (.iadd, 1) := by decide +kernel
theorem dX8_holds_182 : decode cX8_holds 182 = .ok (.aload_n 0, 1) := by decide +kernel
theorem dX8_holds_183 : decode cX8_holds 183 = .ok (.getfield 184, 3) := by decide +kernel
theorem dX8_holds_186 : decode cX8_holds 186 = .ok (.iastore, 1) := by decide +kernel
theorem dX8_holds_187 : decode cX8_holds 187 = .ok (.aload_n 0, 1) := by decide +kernel
theorem dX8_holds_188 : decode cX8_holds 188 = .ok (.aload_n 0, 1) := by decide +kernel
theorem dX8_holds_189 : decode cX8_holds 189 = .ok (.getfield 184, 3) := by decide +kernel
theorem dX8_holds_192 : decode cX8_holds 192 = .ok (.iload 7, 2) := by decide +kernel
theorem dX8_holds_194 : decode cX8_holds 194 = .ok (.isub, 1) := by decide +kernel
theorem dX8_holds_195 : decode cX8_holds 195 = .ok (.invokestatic 214, 3) := by decide +kernel
theorem dX8_holds_198 : decode cX8_holds 198 = .ok (.aload_n 0, 1) := by decide +kernel
theorem dX8_holds_199 : decode cX8_holds 199 = .ok (.getfield 257, 3) := by decide +kernel
theorem dX8_holds_202 : decode cX8_holds 202 = .ok (.if_icmp .le 16, 3) := by decide +kernel
theorem dX8_holds_205 : decode cX8_holds 205 = .ok (.aload_n 0, 1) := by decide +kernel
theorem dX8_holds_206 : decode cX8_holds 206 = .ok (.getfield 184, 3) := by decide +kernel
theorem dX8_holds_209 : decode cX8_holds 209 = .ok (.iload 7, 2) := by decide +kernel
theorem dX8_holds_211 : decode cX8_holds 211 = .ok (.isub, 1) := by decide +kernel
theorem dX8_holds_212 : decode cX8_holds 212 = .ok (.invokestatic 214, 3) := by decide +kernel
theorem dX8_holds_215 : decode cX8_holds 215 = .ok (.goto 7, 3) := by decide +kernel
theorem dX8_holds_218 : decode cX8_holds 218 = .ok (.aload_n 0, 1) := by decide +kernel
theorem dX8_holds_219 : decode cX8_holds 219 = .ok (.getfield 257, 3) := by decide +kernel
theorem dX8_holds_222 : decode cX8_holds 222 = .ok (.putfield 257, 3) := by decide +kernel
theorem dX8_holds_225 : decode cX8_holds 225 = .ok (.aload_n 0, 1) := by decide +kernel
theorem dX8_holds_226 : decode cX8_holds 226 = .ok (.aload_n 0, 1) := by decide +kernel
theorem dX8_holds_227 : decode cX8_holds 227 = .ok (.getfield 184, 3) := by decide +kernel
theorem dX8_holds_230 : decode cX8_holds 230 = .ok (.ifCond .eq 14, 3) := by decide +kernel
theorem dX8_holds_233 : decode cX8_holds 233 = .ok (.aload_n 0, 1) := by decide +kernel
theorem dX8_holds_234 : decode cX8_holds 234 = .ok (.getfield 184, 3) := by decide +kernel
theorem dX8_holds_237 : decode cX8_holds 237 = .ok (.aload_n 0, 1) := by decide +kernel
theorem dX8_holds_238 : decode cX8_holds 238 = .ok (.invokevirtual 187, 3) := by decide +kernel
theorem dX8_holds_241 : decode cX8_holds 241 = .ok (.if_icmp .ne 10, 3) := by decide +kernel
theorem dX8_holds_244 : decode cX8_holds 244 = .ok (.iload 8, 2) := by decide +kernel
theorem dX8_holds_246 : decode cX8_holds 246 = .ok (.iconst 1, 1) := by decide +kernel
theorem dX8_holds_247 : decode cX8_holds 247 = .ok (.iadd, 1) := by decide +kernel
theorem dX8_holds_248 : decode cX8_holds 248 = .ok (.goto 5, 3) := by decide +kernel
theorem dX8_holds_251 : decode cX8_holds 251 = .ok (.bipush (-4), 2) := by decide +kernel
theorem dX8_holds_253 : decode cX8_holds 253 = .ok (.putfield 254, 3) := by decide +kernel
theorem dX8_holds_256 : decode cX8_holds 256 = .ok (.iinc 8 1, 3) := by decide +kernel
theorem dX8_holds_259 : decode cX8_holds 259 = .ok (.goto (-213), 3) := by decide +kernel
theorem dX8_holds_262 : decode cX8_holds 262 = .ok (.return_, 1) := by decide +kernel
theorem dX8_isHold_0 : decode cX8_isHold 0 = .ok (.aload_n 0, 1) := by decide +kernel
theorem dX8_isHold_1 : decode cX8_isHold 1 = .ok (.iload_n 1, 1) := by decide +kernel
theorem dX8_isHold_2 : decode cX8_isHold 2 = .ok (.invokevirtual 163, 3) := by decide +kernel
theorem dX8_isHold_5 : decode cX8_isHold 5 = .ok (.ifCond .eq 45, 3) := by decide +kernel
theorem dX8_isHold_8 : decode cX8_isHold 8 = .ok (.iload_n 2, 1) := by decide +kernel
theorem dX8_isHold_9 : decode cX8_isHold 9 = .ok (.i2l, 1) := by decide +kernel
theorem dX8_isHold_10 : decode cX8_isHold 10 = .ok (.lconst 1, 1) := by decide +kernel
theorem dX8_isHold_11 : decode cX8_isHold 11 = .ok (.aload_n 0, 1) := by decide +kernel
theorem dX8_isHold_12 : decode cX8_isHold 12 = .ok (.getfield 17, 3) := by decide +kernel
theorem dX8_isHold_15 : decode cX8_isHold 15 = .ok (.iconst 0, 1) := by decide +kernel
theorem dX8_isHold_16 : decode cX8_isHold 16 = .ok (.iaload, 1) := by decide +kernel
theorem dX8_isHold_17 : decode cX8_isHold 17 = .ok (.iconst 1, 1) := by decide +kernel
theorem dX8_isHold_18 : decode cX8_isHold 18 = .ok (.isub, 1) := by decide +kernel
theorem dX8_isHold_19 : decode cX8_isHold 19 = .ok (.i2l, 1) := by decide +kernel
theorem dX8_isHold_20 : decode cX8_isHold 20 = .ok (.invokestatic 72, 3) := by decide +kernel
theorem dX8_isHold_23 : decode cX8_isHold 23 = .ok (.ifCond .eq 27, 3) := by decide +kernel
theorem dX8_isHold_26 : decode cX8_isHold 26 = .ok (.iload_n 3, 1) := by decide +kernel
theorem dX8_isHold_27 : decode cX8_isHold 27 = .ok (.invokestatic 174, 3) := by decide +kernel
theorem dX8_isHold_30 : decode cX8_isHold 30 = .ok (.ifCond .eq 20, 3) := by decide +kernel
theorem dX8_isHold_33 : decode cX8_isHold 33 = .ok (.iload 4, 2) := by decide +kernel
theorem dX8_isHold_35 : decode cX8_isHold 35 = .ok (.i2l, 1) := by decide +kernel
theorem dX8_isHold_36 : decode cX8_isHold 36 = .ok (.lconst 1, 1) := by decide +kernel
theorem dX8_isHold_37 : decode cX8_isHold 37 = .ok (.ldc2_w 194, 3) := by decide +kernel
theorem dX8_isHold_40 : decode cX8_isHold 40 = .ok (.invokestatic 72, 3) := by decide +kernel
theorem dX8_isHold_43 : decode cX8_isHold 43 = .ok (.ifCond .eq 7, 3) := by decide +kernel
theorem dX8_isHold_46 : decode cX8_isHold 46 = .ok (.iconst 1, 1) := by decide +kernel
theorem dX8_isHold_47 : decode cX8_isHold 47 = .ok (.goto 4, 3) := by decide +kernel
theorem dX8_isHold_50 : decode cX8_isHold 50 = .ok (.iconst 0, 1) := by decide +kernel
theorem dX8_isHold_51 : decode cX8_isHold 51 = .ok (.ireturn, 1) := by decide +kernel
theorem dX8_isStep_0 : decode cX8_isStep 0 = .ok (.iload_n 0, 1) := by decide +kernel
theorem dX8_isStep_1 : decode cX8_isStep 1 = .ok (.i2l, 1) := by decide +kernel
theorem dX8_isStep_2 : decode cX8_isStep 2 = .ok (.lconst 1, 1) := by decide +kernel
theorem dX8_isStep_3 : decode cX8_isStep 3 = .ok (.ldc2_w 263, 3) := by decide +kernel
theorem dX8_isStep_6 : decode cX8_isStep 6 = .ok (.invokestatic 72, 3) := by decide +kernel
theorem dX8_isStep_9 : decode cX8_isStep 9 = .ok (.ireturn, 1) := by decide +kernel
theorem dX8_isLate_0 : decode cX8_isLate 0 = .ok (.iload_n 0, 1) := by decide +kernel
theorem dX8_isLate_1 : decode cX8_isLate 1 = .ok (.i2l, 1) := by decide +kernel
theorem dX8_isLate_2 : decode cX8_isLate 2 = .ok (.lconst 0, 1) := by decide +kernel
theorem dX8_isLate_3 : decode cX8_isLate 3 = .ok (.ldc2_w 263, 3) := by decide +kernel
theorem dX8_isLate_6 : decode cX8_isLate 6 = .ok (.invokestatic 72, 3) := by decide +kernel
theorem dX8_isLate_9 : decode cX8_isLate 9 = .ok (.ireturn, 1) := by decide +kernel
theorem dX8_hold_0 : decode cX8_hold 0 = .ok (.aload_n 0, 1) := by decide +kernel
theorem dX8_hold_1 : decode cX8_hold 1 = .ok (.iload_n 1, 1) := by decide +kernel
theorem dX8_hold_2 : decode cX8_hold 2 = .ok (.iload_n 2, 1) := by decide +kernel
theorem dX8_hold_3 : decode cX8_hold 3 = .ok (.iload_n 3, 1) := by decide +kernel
theorem dX8_hold_4 : decode cX8_hold 4 = .ok (.iload 6, 2) := by decide +kernel
theorem dX8_hold_6 : decode cX8_hold 6 = .ok (.invokevirtual 265, 3) := by decide +kernel
theorem dX8_hold_9 : decode cX8_hold 9 = .ok (.ifCond .eq 32, 3) := by decide +kernel
theorem dX8_hold_12 : decode cX8_hold 12 = .ok (.iload 4, 2) := by decide +kernel
theorem dX8_hold_14 : decode cX8_hold 14 = .ok (.invokestatic 269, 3) := by decide +kernel
theorem dX8_hold_17 : decode cX8_hold 17 = .ok (.ifCond .eq 24, 3) := by decide +kernel
theorem dX8_hold_20 : decode cX8_hold 20 = .ok (.iload 5, 2) := by decide +kernel
theorem dX8_hold_22 : decode cX8_hold 22 = .ok (.invokestatic 272, 3) := by decide +kernel
theorem dX8_hold_25 : decode cX8_hold 25 = .ok (.ifCond .eq 16, 3) := by decide +kernel
theorem dX8_hold_28 : decode cX8_hold 28 = .ok (.iload 7, 2) := by decide +kernel
theorem dX8_hold_30 : decode cX8_hold 30 = .ok (.i2l, 1) := by decide +kernel
theorem dX8_hold_31 : decode cX8_hold 31 = .ok (.lconst 0, 1) := by decide +kernel
theorem dX8_hold_32 : decode cX8_hold 32 = .ok (.ldc2_w 275, 3) := by decide +kernel
theorem dX8_hold_35 : decode cX8_hold 35 = .ok (.invokestatic 72, 3) := by decide +kernel
theorem dX8_hold_38 : decode cX8_hold 38 = .ok (.ifCond .ne 5, 3) := by decide +kernel
theorem dX8_hold_41 : decode cX8_hold 41 = .ok (.iconst (-1), 1) := by decide +kernel
theorem dX8_hold_42 : decode cX8_hold 42 = .ok (.ireturn, 1) := by decide +kernel
theorem dX8_hold_43 : decode cX8_hold 43 = .ok (.aload_n 0, 1) := by decide +kernel
theorem dX8_hold_44 : decode cX8_hold 44 = .ok (.iload_n 1, 1) := by decide +kernel
theorem dX8_hold_45 : decode cX8_hold 45 = .ok (.iload_n 2, 1) := by decide +kernel
theorem dX8_hold_46 : decode cX8_hold 46 = .ok (.iload_n 3, 1) := by decide +kernel
theorem dX8_hold_47 : decode cX8_hold 47 = .ok (.iload 4, 2) := by decide +kernel
theorem dX8_hold_49 : decode cX8_hold 49 = .ok (.iload 5, 2) := by decide +kernel
theorem dX8_hold_51 : decode cX8_hold 51 = .ok (.iload 6, 2) := by decide +kernel
theorem dX8_hold_53 : decode cX8_hold 53 = .ok (.invokevirtual 277, 3) := by decide +kernel
theorem dX8_hold_56 : decode cX8_hold 56 = .ok (.iload 7, 2) := by decide +kernel
theorem dX8_hold_58 : decode cX8_hold 58 = .ok (.ifCond .ne 10, 3) := by decide +kernel
theorem dX8_hold_61 : decode cX8_hold 61 = .ok (.aload_n 0, 1) := by decide +kernel
theorem dX8_hold_62 : decode cX8_hold 62 = .ok (.getfield 254, 3) := by decide +kernel
theorem dX8_hold_65 : decode cX8_hold 65 = .ok (.goto 33, 3) := by decide +kernel
theorem dX8_hold_68 : decode cX8_hold 68 = .ok (.iload 7, 2) := by decide +kernel
theorem dX8_hold_70 : decode cX8_hold 70 = .ok (.iconst 1, 1) := by decide +kernel
theorem dX8_hold_71 : decode cX8_hold 71 = .ok (.if_icmp .ne 10, 3) := by decide +kernel
theorem dX8_hold_74 : decode cX8_hold 74 = .ok (.aload_n 0, 1) := by decide +kernel
theorem dX8_hold_75 : decode cX8_hold 75 = .ok (.getfield 184, 3) := by decide +kernel
theorem dX8_hold_78 : decode cX8_hold 78 = .ok (.goto 20, 3) := by decide +kernel
theorem dX8_hold_81 : decode cX8_hold 81 = .ok (.iload 7, 2) := by decide +kernel
theorem dX8_hold_83 : decode cX8_hold 83 = .ok (.iconst 2, 1) := by decide +kernel
theorem dX8_hold_84 : decode cX8_hold 84 = .ok (.if_icmp .ne 10, 3) := by decide +kernel
theorem dX8_hold_87 : decode cX8_hold 87 = .ok (.aload_n 0, 1) := by decide +kernel
theorem dX8_hold_88 : decode cX8_hold 88 = .ok (.getfield 257, 3) := by decide +kernel
theorem dX8_hold_91 : decode cX8_hold 91 = .ok (.goto 7, 3) := by decide +kernel
theorem dX8_hold_94 : decode cX8_hold 94 = .ok (.aload_n 0, 1) := by decide +kernel
theorem dX8_hold_95 : decode cX8_hold 95 = .ok (.getfield 260, 3) := by decide +kernel
theorem dX8_hold_98 : decode cX8_hold 98 = .ok (.ireturn, 1) := by decide +kernel
theorem dX8_late_0 : decode cX8_late 0 = .ok (.aload_n 0, 1) := by decide +kernel
theorem dX8_late_1 : decode cX8_late 1 = .ok (.iload_n 1, 1) := by decide +kernel
theorem dX8_late_2 : decode cX8_late 2 = .ok (.iload_n 2, 1) := by decide +kernel
theorem dX8_late_3 : decode cX8_late 3 = .ok (.iload_n 3, 1) := by decide +kernel
theorem dX8_late_4 : decode cX8_late 4 = .ok (.iload 5, 2) := by decide +kernel
theorem dX8_late_6 : decode cX8_late 6 = .ok (.invokevirtual 265, 3) := by decide +kernel
theorem dX8_late_9 : decode cX8_late 9 = .ok (.ifCond .eq 11, 3) := by decide +kernel
theorem dX8_late_12 : decode cX8_late 12 = .ok (.iload 4, 2) := by decide +kernel
theorem dX8_late_14 : decode cX8_late 14 = .ok (.invokestatic 272, 3) := by decide +kernel
theorem dX8_late_17 : decode cX8_late 17 = .ok (.ifCond .ne 5, 3) := by decide +kernel
theorem dX8_late_20 : decode cX8_late 20 = .ok (.iconst (-1), 1) := by decide +kernel
theorem dX8_late_21 : decode cX8_late 21 = .ok (.ireturn, 1) := by decide +kernel
theorem dX8_late_22 : decode cX8_late 22 = .ok (.iconst 0, 1) := by decide +kernel
theorem dX8_late_23 : decode cX8_late 23 = .ok (.istore 6, 2) := by decide +kernel
theorem dX8_late_25 : decode cX8_late 25 = .ok (.iconst 1, 1) := by decide +kernel
theorem dX8_late_26 : decode cX8_late 26 = .ok (.istore 7, 2) := by decide +kernel
theorem dX8_late_28 : decode cX8_late 28 = .ok (.iload 6, 2) := by decide +kernel
theorem dX8_late_30 : decode cX8_late 30 = .ok (.bipush 50, 2) := by decide +kernel
theorem dX8_late_32 : decode cX8_late 32 = .ok (.if_icmp .gt 50, 3) := by decide +kernel
theorem dX8_late_35 : decode cX8_late 35 = .ok (.iload 7, 2) := by decide +kernel
theorem dX8_late_37 : decode cX8_late 37 = .ok (.ifCond .eq 45, 3) := by decide +kernel
theorem dX8_late_40 : decode cX8_late 40 = .ok (.aload_n 0, 1) := by decide +kernel
theorem dX8_late_41 : decode cX8_late 41 = .ok (.iload_n 1, 1) := by decide +kernel
theorem dX8_late_42 : decode cX8_late 42 = .ok (.iload_n 2, 1) := by decide +kernel
theorem dX8_late_43 : decode cX8_late 43 = .ok (.iload_n 3, 1) := by decide +kernel
theorem dX8_late_44 : decode cX8_late 44 = .ok (.iload 6, 2) := by decide +kernel
theorem dX8_late_46 : decode cX8_late 46 = .ok (.iload 4, 2) := by decide +kernel
theorem dX8_late_48 : decode cX8_late 48 = .ok (.iload 5, 2) := by decide +kernel
theorem dX8_late_50 : decode cX8_late 50 = .ok (.invokevirtual 277, 3) := by decide +kernel
theorem dX8_late_53 : decode cX8_late 53 = .ok (.aload_n 0, 1) := by decide +kernel
theorem dX8_late_54 : decode cX8_late 54 = .ok (.getfield 254, 3) := by decide +kernel
theorem dX8_late_57 : decode cX8_late 57 = .ok (.bipush (-4), 2) := by decide +kernel
theorem dX8_late_59 : decode cX8_late 59 = .ok (.if_icmp .ne 7, 3) := by decide +kernel
theorem dX8_late_62 : decode cX8_late 62 = .ok (.iconst 1, 1) := by decide +kernel
theorem dX8_late_63 : decode cX8_late 63 = .ok (.goto 4, 3) := by decide +kernel
theorem dX8_late_66 : decode cX8_late 66 = .ok (.iconst 0, 1) := by decide +kernel
theorem dX8_late_67 : decode cX8_late 67 = .ok (.istore 7, 2) := by decide +kernel
theorem dX8_late_69 : decode cX8_late 69 = .ok (.iload 6, 2) := by decide +kernel
theorem dX8_late_71 : decode cX8_late 71 = .ok (.iload 7, 2) := by decide +kernel
theorem dX8_late_73 : decode cX8_late 73 = .ok (.invokestatic 63, 3) := by decide +kernel
theorem dX8_late_76 : decode cX8_late 76 = .ok (.iadd, 1) := by decide +kernel
theorem dX8_late_77 : decode cX8_late 77 = .ok (.istore 6, 2) := by decide +kernel
theorem dX8_late_79 : decode cX8_late 79 = .ok (.goto (-51), 3) := by decide +kernel
theorem dX8_late_82 : decode cX8_late 82 = .ok (.iload 6, 2) := by decide +kernel
theorem dX8_late_84 : decode cX8_late 84 = .ok (.ifCond .ne 8, 3) := by decide +kernel
theorem dX8_late_87 : decode cX8_late 87 = .ok (.bipush (-4), 2) := by decide +kernel
theorem dX8_late_89 : decode cX8_late 89 = .ok (.goto 7, 3) := by decide +kernel
theorem dX8_late_92 : decode cX8_late 92 = .ok (.iload 6, 2) := by decide +kernel
theorem dX8_late_94 : decode cX8_late 94 = .ok (.iconst 1, 1) := by decide +kernel
theorem dX8_late_95 : decode cX8_late 95 = .ok (.isub, 1) := by decide +kernel
theorem dX8_late_96 : decode cX8_late 96 = .ok (.ireturn, 1) := by decide +kernel
theorem dX8_step_0 : decode cX8_step 0 = .ok (.aload_n 0, 1) := by decide +kernel
theorem dX8_step_1 : decode cX8_step 1 = .ok (.iload_n 1, 1) := by decide +kernel
theorem dX8_step_2 : decode cX8_step 2 = .ok (.iload_n 2, 1) := by decide +kernel
theorem dX8_step_3 : decode cX8_step 3 = .ok (.iload_n 3, 1) := by decide +kernel
theorem dX8_step_4 : decode cX8_step 4 = .ok (.iload 5, 2) := by decide +kernel
theorem dX8_step_6 : decode cX8_step 6 = .ok (.invokevirtual 265, 3) := by decide +kernel
theorem dX8_step_9 : decode cX8_step 9 = .ok (.ifCond .eq 22, 3) := by decide +kernel
theorem dX8_step_12 : decode cX8_step 12 = .ok (.iload 4, 2) := by decide +kernel
theorem dX8_step_14 : decode cX8_step 14 = .ok (.invokestatic 269, 3) := by decide +kernel
theorem dX8_step_17 : decode cX8_step 17 = .ok (.ifCond .eq 14, 3) := by decide +kernel
theorem dX8_step_20 : decode cX8_step 20 = .ok (.iload 6, 2) := by decide +kernel
theorem dX8_step_22 : decode cX8_step 22 = .ok (.i2l, 1) := by decide +kernel
theorem dX8_step_23 : decode cX8_step 23 = .ok (.lconst 0, 1) := by decide +kernel
theorem dX8_step_24 : decode cX8_step 24 = .ok (.lconst 1, 1) := by decide +kernel
theorem dX8_step_25 : decode cX8_step 25 = .ok (.invokestatic 72, 3) := by decide +kernel
theorem dX8_step_28 : decode cX8_step 28 = .ok (.ifCond .ne 5, 3) := by decide +kernel
theorem dX8_step_31 : decode cX8_step 31 = .ok (.iconst (-1), 1) := by decide +kernel
theorem dX8_step_32 : decode cX8_step 32 = .ok (.ireturn, 1) := by decide +kernel
theorem dX8_step_33 : decode cX8_step 33 = .ok (.iconst 0, 1) := by decide +kernel
theorem dX8_step_34 : decode cX8_step 34 = .ok (.istore 7, 2) := by decide +kernel
theorem dX8_step_36 : decode cX8_step 36 = .ok (.iconst 0, 1) := by decide +kernel
theorem dX8_step_37 : decode cX8_step 37 = .ok (.istore 8, 2) := by decide +kernel
theorem dX8_step_39 : decode cX8_step 39 = .ok (.iconst 1, 1) := by decide +kernel
theorem dX8_step_40 : decode cX8_step 40 = .ok (.istore 9, 2) := by decide +kernel
theorem dX8_step_42 : decode cX8_step 42 = .ok (.iload 9, 2) := by decide +kernel
theorem dX8_step_44 : decode cX8_step 44 = .ok (.bipush 50, 2) := by decide +kernel
theorem dX8_step_46 : decode cX8_step 46 = .ok (.if_icmp .gt 75, 3) := by decide +kernel
theorem dX8_step_49 : decode cX8_step 49 = .ok (.aload_n 0, 1) := by decide +kernel
theorem dX8_step_50 : decode cX8_step 50 = .ok (.iload_n 1, 1) := by decide +kernel
theorem dX8_step_51 : decode cX8_step 51 = .ok (.iload_n 2, 1) := by decide +kernel
theorem dX8_step_52 : decode cX8_step 52 = .ok (.iload_n 3, 1) := by decide +kernel
theorem dX8_step_53 : decode cX8_step 53 = .ok (.iload 4, 2) := by decide +kernel
theorem dX8_step_55 : decode cX8_step 55 = .ok (.iload 9, 2) := by decide +kernel
theorem dX8_step_57 : decode cX8_step 57 = .ok (.iload 5, 2) := by decide +kernel
theorem dX8_step_59 : decode cX8_step 59 = .ok (.invokevirtual 277, 3) := by decide +kernel
theorem dX8_step_62 : decode cX8_step 62 = .ok (.aload_n 0, 1) := by decide +kernel
theorem dX8_step_63 : decode cX8_step 63 = .ok (.getfield 254, 3) := by decide +kernel
theorem dX8_step_66 : decode cX8_step 66 = .ok (.bipush (-4), 2) := by decide +kernel
theorem dX8_step_68 : decode cX8_step 68 = .ok (.if_icmp .ne 9, 3) := by decide +kernel
theorem dX8_step_71 : decode cX8_step 71 = .ok (.sipush 1000, 3) := by decide +kernel
theorem dX8_step_74 : decode cX8_step 74 = .ok (.goto 7, 3) := by decide +kernel
theorem dX8_step_77 : decode cX8_step 77 = .ok (.aload_n 0, 1) := by decide +kernel
theorem dX8_step_78 : decode cX8_step 78 = .ok (.getfield 254, 3) := by decide +kernel
theorem dX8_step_81 : decode cX8_step 81 = .ok (.istore 10, 2) := by decide +kernel
theorem dX8_step_83 : decode cX8_step 83 = .ok (.iload 10, 2) := by decide +kernel
theorem dX8_step_85 : decode cX8_step 85 = .ok (.iload 8, 2) := by decide +kernel
theorem dX8_step_87 : decode cX8_step 87 = .ok (.if_icmp .le 8, 3) := by decide +kernel
theorem dX8_step_90 : decode cX8_step 90 = .ok (.iload 9, 2) := by decide +kernel
theorem dX8_step_92 : decode cX8_step 92 = .ok (.goto 5, 3) := by decide +kernel
theorem dX8_step_95 : decode cX8_step 95 = .ok (.iload 7, 2) := by decide +kernel
theorem dX8_step_97 : decode cX8_step 97 = .ok (.istore 7, 2) := by decide +kernel
theorem dX8_step_99 : decode cX8_step 99 = .ok (.iload 10, 2) := by decide +kernel
theorem dX8_step_101 : decode cX8_step 101 = .ok (.iload 8, 2) := by decide +kernel
theorem dX8_step_103 : decode cX8_step 103 = .ok (.if_icmp .le 8, 3) := by decide +kernel
theorem dX8_step_106 : decode cX8_step 106 = .ok (.iload 10, 2) := by decide +kernel
theorem dX8_step_108 : decode cX8_step 108 = .ok (.goto 5, 3) := by decide +kernel
theorem dX8_step_111 : decode cX8_step 111 = .ok (.iload 8, 2) := by decide +kernel
theorem dX8_step_113 : decode cX8_step 113 = .ok (.istore 8, 2) := by decide +kernel
theorem dX8_step_115 : decode cX8_step 115 = .ok (.iinc 9 1, 3) := by decide +kernel
theorem dX8_step_118 : decode cX8_step 118 = .ok (.goto (-76), 3) := by decide +kernel
theorem dX8_step_121 : decode cX8_step 121 = .ok (.iload 6, 2) := by decide +kernel
theorem dX8_step_123 : decode cX8_step 123 = .ok (.ifCond .ne 8, 3) := by decide +kernel
theorem dX8_step_126 : decode cX8_step 126 = .ok (.iload 7, 2) := by decide +kernel
theorem dX8_step_128 : decode cX8_step 128 = .ok (.goto 18, 3) := by decide +kernel
theorem dX8_step_131 : decode cX8_step 131 = .ok (.iload 8, 2) := by decide +kernel
theorem dX8_step_133 : decode cX8_step 133 = .ok (.sipush 999, 3) := by decide +kernel
theorem dX8_step_136 : decode cX8_step 136 = .ok (.if_icmp .le 8, 3) := by decide +kernel
theorem dX8_step_139 : decode cX8_step 139 = .ok (.bipush (-4), 2) := by decide +kernel
theorem dX8_step_141 : decode cX8_step 141 = .ok (.goto 5, 3) := by decide +kernel
theorem dX8_step_144 : decode cX8_step 144 = .ok (.iload 8, 2) := by decide +kernel
theorem dX8_step_146 : decode cX8_step 146 = .ok (.ireturn, 1) := by decide +kernel
theorem dX8_hours_0 : decode cX8_hours 0 = .ok (.aload_n 0, 1) := by decide +kernel
theorem dX8_hours_1 : decode cX8_hours 1 = .ok (.iload_n 1, 1) := by decide +kernel
theorem dX8_hours_2 : decode cX8_hours 2 = .ok (.invokevirtual 163, 3) := by decide +kernel
theorem dX8_hours_5 : decode cX8_hours 5 = .ok (.ifCond .eq 13, 3) := by decide +kernel
theorem dX8_hours_8 : decode cX8_hours 8 = .ok (.iload_n 2, 1) := by decide +kernel
theorem dX8_hours_9 : decode cX8_hours 9 = .ok (.i2l, 1) := by decide +kernel
theorem dX8_hours_10 : decode cX8_hours 10 = .ok (.lconst 0, 1) := by decide +kernel
theorem dX8_hours_11 : decode cX8_hours 11 = .ok (.lconst 1, 1) := by decide +kernel
theorem dX8_hours_12 : decode cX8_hours 12 = .ok (.invokestatic 72, 3) := by decide +kernel
theorem dX8_hours_15 : decode cX8_hours 15 = .ok (.ifCond .ne 5, 3) := by decide +kernel
theorem dX8_hours_18 : decode cX8_hours 18 = .ok (.iconst (-1), 1) := by decide +kernel
theorem dX8_hours_19 : decode cX8_hours 19 = .ok (.ireturn, 1) := by decide +kernel
theorem dX8_hours_20 : decode cX8_hours 20 = .ok (.iconst 0, 1) := by decide +kernel
theorem dX8_hours_21 : decode cX8_hours 21 = .ok (.istore_n 3, 1) := by decide +kernel
theorem dX8_hours_22 : decode cX8_hours 22 = .ok (.iconst 0, 1) := by decide +kernel
theorem dX8_hours_23 : decode cX8_hours 23 = .ok (.istore 4, 2) := by decide +kernel
theorem dX8_hours_25 : decode cX8_hours 25 = .ok (.iconst 0, 1) := by decide +kernel
theorem dX8_hours_26 : decode cX8_hours 26 = .ok (.istore 5, 2) := by decide +kernel
theorem dX8_hours_28 : decode cX8_hours 28 = .ok (.iconst 0, 1) := by decide +kernel
theorem dX8_hours_29 : decode cX8_hours 29 = .ok (.istore 6, 2) := by decide +kernel
theorem dX8_hours_31 : decode cX8_hours 31 = .ok (.iload 6, 2) := by decide +kernel
theorem dX8_hours_33 : decode cX8_hours 33 = .ok (.bipush 24, 2) := by decide +kernel
theorem dX8_hours_35 : decode cX8_hours 35 = .ok (.if_icmp .ge 90, 3) := by decide +kernel
theorem dX8_hours_38 : decode cX8_hours 38 = .ok (.aload_n 0, 1) := by decide +kernel
theorem dX8_hours_39 : decode cX8_hours 39 = .ok (.aload_n 0, 1) := by decide +kernel
theorem dX8_hours_40 : decode cX8_hours 40 = .ok (.iload_n 1, 1) := by decide +kernel
theorem dX8_hours_41 : decode cX8_hours 41 = .ok (.invokevirtual 156, 3) := by decide +kernel
theorem dX8_hours_44 : decode cX8_hours 44 = .ok (.aload_n 0, 1) := by decide +kernel
theorem dX8_hours_45 : decode cX8_hours 45 = .ok (.iload_n 1, 1) := by decide +kernel
theorem dX8_hours_46 : decode cX8_hours 46 = .ok (.iconst 1, 1) := by decide +kernel
theorem dX8_hours_47 : decode cX8_hours 47 = .ok (.invokevirtual 153, 3) := by decide +kernel
theorem dX8_hours_50 : decode cX8_hours 50 = .ok (.aload_n 0, 1) := by decide +kernel
theorem dX8_hours_51 : decode cX8_hours 51 = .ok (.getfield 20, 3) := by decide +kernel
theorem dX8_hours_54 : decode cX8_hours 54 = .ok (.iload 6, 2) := by decide +kernel
theorem dX8_hours_56 : decode cX8_hours 56 = .ok (.iaload, 1) := by decide +kernel
theorem dX8_hours_57 : decode cX8_hours 57 = .ok (.iconst 0, 1) := by decide +kernel
theorem dX8_hours_58 : decode cX8_hours 58 = .ok (.iload_n 3, 1) := by decide +kernel
theorem dX8_hours_59 : decode cX8_hours 59 = .ok (.ifCond .eq 12, 3) := by decide +kernel
theorem dX8_hours_62 : decode cX8_hours 62 = .ok (.aload_n 0, 1) := by decide +kernel
theorem dX8_hours_63 : decode cX8_hours 63 = .ok (.getfield 17, 3) := by decide +kernel
theorem dX8_hours_66 : decode cX8_hours 66 = .ok (.iconst 0, 1) := by decide +kernel
theorem dX8_hours_67 : decode cX8_hours 67 = .ok (.iaload, 1) := by decide +kernel
theorem dX8_hours_68 : decode cX8_hours 68 = .ok (.goto 4, 3) := by decide +kernel
theorem dX8_hours_71 : decode cX8_hours 71 = .ok (.iconst 0, 1) := by decide +kernel
theorem dX8_hours_72 : decode cX8_hours 72 = .ok (.invokevirtual 159, 3) := by decide +kernel
theorem dX8_hours_75 : decode cX8_hours 75 = .ok (.istore 7, 2) := by decide +kernel
theorem dX8_hours_77 : decode cX8_hours 77 = .ok (.iload_n 3, 1) := by decide +kernel
theorem dX8_hours_78 : decode cX8_hours 78 = .ok (.ifCond .eq 11, 3) := by decide +kernel
theorem dX8_hours_81 : decode cX8_hours 81 = .ok (.iload 7, 2) := by decide +kernel
theorem dX8_hours_83 : decode cX8_hours 83 = .ok (.ifCond .ge 24, 3) := by decide +kernel
theorem dX8_hours_86 : decode cX8_hours 86 = .ok (.goto 8, 3) := by decide +kernel
theorem dX8_hours_89 : decode cX8_hours 89 = .ok (.iload 7, 2) := by decide +kernel
theorem dX8_hours_91 : decode cX8_hours 91 = .ok (.ifCond .le 16, 3) := by decide +kernel
theorem dX8_hours_94 : decode cX8_hours 94 = .ok (.iload_n 3, 1) := by decide +kernel
theorem dX8_hours_95 : decode cX8_hours 95 = .ok (.ifCond .ne 7, 3) := by decide +kernel
theorem dX8_hours_98 : decode cX8_hours 98 = .ok (.iconst 1, 1) := by decide +kernel
theorem dX8_hours_99 : decode cX8_hours 99 = .ok (.goto 4, 3) := by decide +kernel
theorem dX8_hours_102 : decode cX8_hours 102 = .ok (.iconst 0, 1) := by decide +kernel
theorem dX8_hours_103 : decode cX8_hours 103 = .ok (.istore_n 3, 1) := by decide +kernel
theorem dX8_hours_104 : decode cX8_hours 104 = .ok (.iinc 5 1, 3) := by decide +kernel
theorem dX8_hours_107 : decode cX8_hours 107 = .ok (.iload 4, 2) := by decide +kernel
theorem dX8_hours_109 : decode cX8_hours 109 = .ok (.iload_n 3, 1) := by decide +kernel
theorem dX8_hours_110 : decode cX8_hours 110 = .ok (.invokestatic 63, 3) := by decide +kernel
theorem dX8_hours_113 : decode cX8_hours 113 = .ok (.iload 6, 2) := by decide +kernel
theorem dX8_hours_115 : decode cX8_hours 115 = .ok (.ishl, 1) := by decide +kernel
theorem dX8_hours_116 : decode cX8_hours 116 = .ok (.ior, 1) := by decide +kernel
theorem dX8_hours_117 : decode cX8_hours 117 = .ok (.istore 4, 2) := by decide +kernel
theorem dX8_hours_119 : decode cX8_hours 119 = .ok (.iinc 6 1, 3) := by decide +kernel
theorem dX8_hours_122 : decode cX8_hours 122 = .ok (.goto (-91), 3) := by decide +kernel
theorem dX8_hours_125 : decode cX8_hours 125 = .ok (.iload_n 2, 1) := by decide +kernel
theorem dX8_hours_126 : decode cX8_hours 126 = .ok (.ifCond .ne 8, 3) := by decide +kernel
theorem dX8_hours_129 : decode cX8_hours 129 = .ok (.iload 4, 2) := by decide +kernel
theorem dX8_hours_131 : decode cX8_hours 131 = .ok (.goto 5, 3) := by decide +kernel
theorem dX8_hours_134 : decode cX8_hours 134 = .ok (.iload 5, 2) := by decide +kernel
theorem dX8_hours_136 : decode cX8_hours 136 = .ok (.ireturn, 1) := by decide +kernel
theorem dX8_trips_0 : decode cX8_trips 0 = .ok (.aload_n 0, 1) := by decide +kernel
theorem dX8_trips_1 : decode cX8_trips 1 = .ok (.iload_n 1, 1) := by decide +kernel
theorem dX8_trips_2 : decode cX8_trips 2 = .ok (.invokevirtual 163, 3) := by decide +kernel
theorem dX8_trips_5 : decode cX8_trips 5 = .ok (.ifCond .ne 5, 3) := by decide +kernel
theorem dX8_trips_8 : decode cX8_trips 8 = .ok (.iconst (-1), 1) := by decide +kernel
theorem dX8_trips_9 : decode cX8_trips 9 = .ok (.ireturn, 1) := by decide +kernel
theorem dX8_trips_10 : decode cX8_trips 10 = .ok (.aload_n 0, 1) := by decide +kernel
theorem dX8_trips_11 : decode cX8_trips 11 = .ok (.iload_n 1, 1) := by decide +kernel
theorem dX8_trips_12 : decode cX8_trips 12 = .ok (.iconst 1, 1) := by decide +kernel
theorem dX8_trips_13 : decode cX8_trips 13 = .ok (.invokevirtual 153, 3) := by decide +kernel
theorem dX8_trips_16 : decode cX8_trips 16 = .ok (.istore_n 2, 1) := by decide +kernel
theorem dX8_trips_17 : decode cX8_trips 17 = .ok (.iconst 0, 1) := by decide +kernel
theorem dX8_trips_18 : decode cX8_trips 18 = .ok (.istore_n 3, 1) := by decide +kernel
theorem dX8_trips_19 : decode cX8_trips 19 = .ok (.iconst 1, 1) := by decide +kernel
theorem dX8_trips_20 : decode cX8_trips 20 = .ok (.istore 4, 2) := by decide +kernel
theorem dX8_trips_22 : decode cX8_trips 22 = .ok (.iload_n 3, 1) := by decide +kernel
theorem dX8_trips_23 : decode cX8_trips 23 = .ok (.sipush 999, 3) := by decide +kernel
theorem dX8_trips_26 : decode cX8_trips 26 = .ok (.if_icmp .ge 76, 3) := by decide +kernel
theorem dX8_trips_29 : decode cX8_trips 29 = .ok (.iload 4, 2) := by decide +kernel
theorem dX8_trips_31 : decode cX8_trips 31 = .ok (.ifCond .eq 71, 3) := by decide +kernel
theorem dX8_trips_34 : decode cX8_trips 34 = .ok (.iload_n 2, 1) := by decide +kernel
theorem dX8_trips_35 : decode cX8_trips 35 = .ok (.aload_n 0, 1) := by decide +kernel
theorem dX8_trips_36 : decode cX8_trips 36 = .ok (.iload_n 1, 1) := by decide +kernel
theorem dX8_trips_37 : decode cX8_trips 37 = .ok (.iconst 2, 1) := by decide +kernel
theorem dX8_trips_38 : decode cX8_trips 38 = .ok (.invokevirtual 153, 3) := by decide +kernel
theorem dX8_trips_41 : decode cX8_trips 41 = .ok (.if_icmp .ge 7, 3) := by decide +kernel
theorem dX8_trips_44 : decode cX8_trips 44 = .ok (.iconst 0, 1) := by decide +kernel
theorem dX8_trips_45 : decode cX8_trips 45 = .ok (.goto 11, 3) := by decide +kernel
theorem dX8_trips_48 : decode cX8_trips 48 = .ok (.iload_n 2, 1) := by decide +kernel
theorem dX8_trips_49 : decode cX8_trips 49 = .ok (.aload_n 0, 1) := by decide +kernel
theorem dX8_trips_50 : decode cX8_trips 50 = .ok (.iload_n 1, 1) := by decide +kernel
theorem dX8_trips_51 : decode cX8_trips 51 = .ok (.iconst 2, 1) := by decide +kernel
theorem dX8_trips_52 : decode cX8_trips 52 = .ok (.invokevirtual 153, 3) := by decide +kernel
theorem dX8_trips_55 : decode cX8_trips 55 = .ok (.isub, 1) := by decide +kernel
theorem dX8_trips_56 : decode cX8_trips 56 = .ok (.istore_n 2, 1) := by decide +kernel
theorem dX8_trips_57 : decode cX8_trips 57 = .ok (.aload_n 0, 1) := by decide +kernel
theorem dX8_trips_58 : decode cX8_trips 58 = .ok (.aload_n 0, 1) := by decide +kernel
theorem dX8_trips_59 : decode cX8_trips 59 = .ok (.iload_n 1, 1) := by decide +kernel
theorem dX8_trips_60 : decode cX8_trips 60 = .ok (.invokevirtual 156, 3) := by decide +kernel
theorem dX8_trips_63 : decode cX8_trips 63 = .ok (.iload_n 2, 1) := by decide +kernel
theorem dX8_trips_64 : decode cX8_trips 64 = .ok (.aload_n 0, 1) := by decide +kernel
theorem dX8_trips_65 : decode cX8_trips 65 = .ok (.getfield 7, 3) := by decide +kernel
theorem dX8_trips_68 : decode cX8_trips 68 = .ok (.bipush 49, 2) := by decide +kernel
theorem dX8_trips_70 : decode cX8_trips 70 = .ok (.iaload, 1) := by decide +kernel
theorem dX8_trips_71 : decode cX8_trips 71 = .ok (.iconst 0, 1) := by decide +kernel
theorem dX8_trips_72 : decode cX8_trips 72 = .ok (.aload_n 0, 1) := by decide +kernel
theorem dX8_trips_73 : decode cX8_trips 73 = .ok (.getfield 17, 3) := by decide +kernel
theorem dX8_trips_76 : decode cX8_trips 76 = .ok (.iconst 0, 1) := by decide +kernel
theorem dX8_trips_77 : decode cX8_trips 77 = .ok (.iaload, 1) := by decide +kernel
theorem dX8_trips_78 : decode cX8_trips 78 = .ok (.invokevirtual 159, 3) := by decide +kernel
theorem dX8_trips_81 : decode cX8_trips 81 = .ok (.ifCond .ge 7, 3) := by decide +kernel
theorem dX8_trips_84 : decode cX8_trips 84 = .ok (.iconst 1, 1) := by decide +kernel
theorem dX8_trips_85 : decode cX8_trips 85 = .ok (.goto 4, 3) := by decide +kernel
theorem dX8_trips_88 : decode cX8_trips 88 = .ok (.iconst 0, 1) := by decide +kernel
theorem dX8_trips_89 : decode cX8_trips 89 = .ok (.istore 4, 2) := by decide +kernel
theorem dX8_trips_91 : decode cX8_trips 91 = .ok (.iload_n 3, 1) := by decide +kernel
theorem dX8_trips_92 : decode cX8_trips 92 = .ok (.iload 4, 2) := by decide +kernel
theorem dX8_trips_94 : decode cX8_trips 94 = .ok (.invokestatic 63, 3) := by decide +kernel
theorem dX8_trips_97 : decode cX8_trips 97 = .ok (.iadd, 1) := by decide +kernel
theorem dX8_trips_98 : decode cX8_trips 98 = .ok (.istore_n 3, 1) := by decide +kernel
theorem dX8_trips_99 : decode cX8_trips 99 = .ok (.goto (-77), 3) := by decide +kernel
theorem dX8_trips_102 : decode cX8_trips 102 = .ok (.iload_n 3, 1) := by decide +kernel
theorem dX8_trips_103 : decode cX8_trips 103 = .ok (.ireturn, 1) := by decide +kernel
theorem dX8_bladderAt_0 : decode cX8_bladderAt 0 = .ok (.iconst 0, 1) := by decide +kernel
theorem dX8_bladderAt_1 : decode cX8_bladderAt 1 = .ok (.istore_n 3, 1) := by decide +kernel
theorem dX8_bladderAt_2 : decode cX8_bladderAt 2 = .ok (.iload_n 3, 1) := by decide +kernel
theorem dX8_bladderAt_3 : decode cX8_bladderAt 3 = .ok (.sipush 9999, 3) := by decide +kernel
theorem dX8_bladderAt_6 : decode cX8_bladderAt 6 = .ok (.if_icmp .gt 33, 3) := by decide +kernel
theorem dX8_bladderAt_9 : decode cX8_bladderAt 9 = .ok (.aload_n 0, 1) := by decide +kernel
theorem dX8_bladderAt_10 : decode cX8_bladderAt 10 = .ok (.aload_n 0, 1) := by decide +kernel
theorem dX8_bladderAt_11 : decode cX8_bladderAt 11 = .ok (.iload_n 1, 1) := by decide +kernel
theorem dX8_bladderAt_12 : decode cX8_bladderAt 12 = .ok (.invokevirtual 156, 3) := by decide +kernel
theorem dX8_bladderAt_15 : decode cX8_bladderAt 15 = .ok (.iload_n 3, 1) := by decide +kernel
theorem dX8_bladderAt_16 : decode cX8_bladderAt 16 = .ok (.aload_n 0, 1) := by decide +kernel
theorem dX8_bladderAt_17 : decode cX8_bladderAt 17 = .ok (.getfield 7, 3) := by decide +kernel
theorem dX8_bladderAt_20 : decode cX8_bladderAt 20 = .ok (.bipush 49, 2) := by decide +kernel
theorem dX8_bladderAt_22 : decode cX8_bladderAt 22 = .ok (.iaload, 1) := by decide +kernel
theorem dX8_bladderAt_23 : decode cX8_bladderAt 23 = .ok (.iconst 0, 1) := by decide +kernel
theorem dX8_bladderAt_24 : decode cX8_bladderAt 24 = .ok (.iload_n 2, 1) := by decide +kernel
theorem dX8_bladderAt_25 : decode cX8_bladderAt 25 = .ok (.invokevirtual 159, 3) := by decide +kernel
theorem dX8_bladderAt_28 : decode cX8_bladderAt 28 = .ok (.ifCond .gt 5, 3) := by decide +kernel
theorem dX8_bladderAt_31 : decode cX8_bladderAt 31 = .ok (.iload_n 3, 1) := by decide +kernel
theorem dX8_bladderAt_32 : decode cX8_bladderAt 32 = .ok (.ireturn, 1) := by decide +kernel
theorem dX8_bladderAt_33 : decode cX8_bladderAt 33 = .ok (.iinc 3 1, 3) := by decide +kernel
theorem dX8_bladderAt_36 : decode cX8_bladderAt 36 = .ok (.goto (-34), 3) := by decide +kernel
theorem dX8_bladderAt_39 : decode cX8_bladderAt 39 = .ok (.bipush (-4), 2) := by decide +kernel
theorem dX8_bladderAt_41 : decode cX8_bladderAt 41 = .ok (.ireturn, 1) := by decide +kernel
theorem dX8_bladder_0 : decode cX8_bladder 0 = .ok (.aload_n 0, 1) := by decide +kernel
theorem dX8_bladder_1 : decode cX8_bladder 1 = .ok (.iload_n 1, 1) := by decide +kernel
theorem dX8_bladder_2 : decode cX8_bladder 2 = .ok (.invokevirtual 163, 3) := by decide +kernel
theorem dX8_bladder_5 : decode cX8_bladder 5 = .ok (.ifCond .eq 30, 3) := by decide +kernel
theorem dX8_bladder_8 : decode cX8_bladder 8 = .ok (.aload_n 0, 1) := by decide +kernel
theorem dX8_bladder_9 : decode cX8_bladder 9 = .ok (.iload_n 2, 1) := by decide +kernel
theorem dX8_bladder_10 : decode cX8_bladder 10 = .ok (.invokevirtual 202, 3) := by decide +kernel
theorem dX8_bladder_13 : decode cX8_bladder 13 = .ok (.ifCond .eq 22, 3) := by decide +kernel
theorem dX8_bladder_16 : decode cX8_bladder 16 = .ok (.aload_n 0, 1) := by decide +kernel
theorem dX8_bladder_17 : decode cX8_bladder 17 = .ok (.iload_n 3, 1) := by decide +kernel
theorem dX8_bladder_18 : decode cX8_bladder 18 = .ok (.invokevirtual 202, 3) := by decide +kernel
theorem dX8_bladder_21 : decode cX8_bladder 21 = .ok (.ifCond .eq 14, 3) := by decide +kernel
theorem dX8_bladder_24 : decode cX8_bladder 24 = .ok (.iload 4, 2) := by decide +kernel
theorem dX8_bladder_26 : decode cX8_bladder 26 = .ok (.i2l, 1) := by decide +kernel
theorem dX8_bladder_27 : decode cX8_bladder 27 = .ok (.lconst 0, 1) := by decide +kernel
theorem dX8_bladder_28 : decode cX8_bladder 28 = .ok (.lconst 1, 1) := by decide +kernel
theorem dX8_bladder_29 : decode cX8_bladder 29 = .ok (.invokestatic 72, 3) := by decide +kernel
theorem dX8_bladder_32 : decode cX8_bladder 32 = .ok (.ifCond .ne 5, 3) := by decide +kernel
theorem dX8_bladder_35 : decode cX8_bladder 35 = .ok (.iconst (-1), 1) := by decide +kernel
theorem dX8_bladder_36 : decode cX8_bladder 36 = .ok (.ireturn, 1) := by decide +kernel
theorem dX8_bladder_37 : decode cX8_bladder 37 = .ok (.aload_n 0, 1) := by decide +kernel
theorem dX8_bladder_38 : decode cX8_bladder 38 = .ok (.iload_n 1, 1) := by decide +kernel
theorem dX8_bladder_39 : decode cX8_bladder 39 = .ok (.iload_n 2, 1) := by decide +kernel
theorem dX8_bladder_40 : decode cX8_bladder 40 = .ok (.invokevirtual 281, 3) := by decide +kernel
theorem dX8_bladder_43 : decode cX8_bladder 43 = .ok (.istore 5, 2) := by decide +kernel
theorem dX8_bladder_45 : decode cX8_bladder 45 = .ok (.aload_n 0, 1) := by decide +kernel
theorem dX8_bladder_46 : decode cX8_bladder 46 = .ok (.iload_n 1, 1) := by decide +kernel
theorem dX8_bladder_47 : decode cX8_bladder 47 = .ok (.iload_n 3, 1) := by decide +kernel
theorem dX8_bladder_48 : decode cX8_bladder 48 = .ok (.invokevirtual 281, 3) := by decide +kernel
theorem dX8_bladder_51 : decode cX8_bladder 51 = .ok (.istore 6, 2) := by decide +kernel
theorem dX8_bladder_53 : decode cX8_bladder 53 = .ok (.iload 5, 2) := by decide +kernel
theorem dX8_bladder_55 : decode cX8_bladder 55 = .ok (.bipush (-4), 2) := by decide +kernel
theorem dX8_bladder_57 : decode cX8_bladder 57 = .ok (.if_icmp .eq 10, 3) := by decide +kernel
theorem dX8_bladder_60 : decode cX8_bladder 60 = .ok (.iload 6, 2) := by decide +kernel
theorem dX8_bladder_62 : decode cX8_bladder 62 = .ok (.bipush (-4), 2) := by decide +kernel
theorem dX8_bladder_64 : decode cX8_bladder 64 = .ok (.if_icmp .ne 6, 3) := by decide +kernel
theorem dX8_bladder_67 : decode cX8_bladder 67 = .ok (.bipush (-4), 2) := by decide +kernel
theorem dX8_bladder_69 : decode cX8_bladder 69 = .ok (.ireturn, 1) := by decide +kernel
theorem dX8_bladder_70 : decode cX8_bladder 70 = .ok (.aload_n 0, 1) := by decide +kernel
theorem dX8_bladder_71 : decode cX8_bladder 71 = .ok (.iload_n 1, 1) := by decide +kernel
theorem dX8_bladder_72 : decode cX8_bladder 72 = .ok (.iconst 3, 1) := by decide +kernel
theorem dX8_bladder_73 : decode cX8_bladder 73 = .ok (.invokevirtual 153, 3) := by decide +kernel
theorem dX8_bladder_76 : decode cX8_bladder 76 = .ok (.istore 7, 2) := by decide +kernel
theorem dX8_bladder_78 : decode cX8_bladder 78 = .ok (.iload 4, 2) := by decide +kernel
theorem dX8_bladder_80 : decode cX8_bladder 80 = .ok (.iconst 1, 1) := by decide +kernel
theorem dX8_bladder_81 : decode cX8_bladder 81 = .ok (.if_icmp .ne 8, 3) := by decide +kernel
theorem dX8_bladder_84 : decode cX8_bladder 84 = .ok (.iload 6, 2) := by decide +kernel
theorem dX8_bladder_86 : decode cX8_bladder 86 = .ok (.goto 40, 3) := by decide +kernel
theorem dX8_bladder_89 : decode cX8_bladder 89 = .ok (.iload 5, 2) := by decide +kernel
theorem dX8_bladder_91 : decode cX8_bladder 91 = .ok (.iload 6, 2) := by decide +kernel
theorem dX8_bladder_93 : decode cX8_bladder 93 = .ok (.if_icmp .ne 7, 3) := by decide +kernel
theorem dX8_bladder_96 : decode cX8_bladder 96 = .ok (.iconst 0, 1) := by decide +kernel
theorem dX8_bladder_97 : decode cX8_bladder 97 = .ok (.goto 29, 3) := by decide +kernel
theorem dX8_bladder_100 : decode cX8_bladder 100 = .ok (.iload 7, 2) := by decide +kernel
theorem dX8_bladder_102 : decode cX8_bladder 102 = .ok (.ifCond .ne 8, 3) := by decide +kernel
theorem dX8_bladder_105 : decode cX8_bladder 105 = .ok (.bipush (-4), 2) := by decide +kernel
theorem dX8_bladder_107 : decode cX8_bladder 107 = .ok (.goto 19, 3) := by decide +kernel
theorem dX8_bladder_110 : decode cX8_bladder 110 = .ok (.iload 5, 2) := by decide +kernel
theorem dX8_bladder_112 : decode cX8_bladder 112 = .ok (.iload 6, 2) := by decide +kernel
theorem dX8_bladder_114 : decode cX8_bladder 114 = .ok (.isub, 1) := by decide +kernel
theorem dX8_bladder_115 : decode cX8_bladder 115 = .ok (.invokestatic 214, 3) := by decide +kernel
theorem dX8_bladder_118 : decode cX8_bladder 118 = .ok (.iload 7, 2) := by decide +kernel
theorem dX8_bladder_120 : decode cX8_bladder 120 = .ok (.iadd, 1) := by decide +kernel
theorem dX8_bladder_121 : decode cX8_bladder 121 = .ok (.iconst 1, 1) := by decide +kernel
theorem dX8_bladder_122 : decode cX8_bladder 122 = .ok (.isub, 1) := by decide +kernel
theorem dX8_bladder_123 : decode cX8_bladder 123 = .ok (.iload 7, 2) := by decide +kernel
theorem dX8_bladder_125 : decode cX8_bladder 125 = .ok (.idiv, 1) := by decide +kernel
theorem dX8_bladder_126 : decode cX8_bladder 126 = .ok (.ireturn, 1) := by decide +kernel
theorem dX8_beats_0 : decode cX8_beats 0 = .ok (.aload_n 0, 1) := by decide +kernel
theorem dX8_beats_1 : decode cX8_beats 1 = .ok (.iload_n 1, 1) := by decide +kernel
theorem dX8_beats_2 : decode cX8_beats 2 = .ok (.invokevirtual 163, 3) := by decide +kernel
theorem dX8_beats_5 : decode cX8_beats 5 = .ok (.ifCond .eq 38, 3) := by decide +kernel
theorem dX8_beats_8 : decode cX8_beats 8 = .ok (.iload_n 2, 1) := by decide +kernel
theorem dX8_beats_9 : decode cX8_beats 9 = .ok (.i2l, 1) := by decide +kernel
theorem dX8_beats_10 : decode cX8_beats 10 = .ok (.lconst 0, 1) := by decide +kernel
theorem dX8_beats_11 : decode cX8_beats 11 = .ok (.ldc2_w 284, 3) := by decide +kernel
theorem dX8_beats_14 : decode cX8_beats 14 = .ok (.invokestatic 72, 3) := by decide +kernel
theorem dX8_beats_17 : decode cX8_beats 17 = .ok (.ifCond .eq 26, 3) := by decide +kernel
theorem dX8_beats_20 : decode cX8_beats 20 = .ok (.iload_n 3, 1) := by decide +kernel
theorem dX8_beats_21 : decode cX8_beats 21 = .ok (.i2l, 1) := by decide +kernel
theorem dX8_beats_22 : decode cX8_beats 22 = .ok (.lconst 1, 1) := by decide +kernel
theorem dX8_beats_23 : decode cX8_beats 23 = .ok (.ldc2_w 286, 3) := by decide +kernel
theorem dX8_beats_26 : decode cX8_beats 26 = .ok (.invokestatic 72, 3) := by decide +kernel
theorem dX8_beats_29 : decode cX8_beats 29 = .ok (.ifCond .eq 14, 3) := by decide +kernel
theorem dX8_beats_32 : decode cX8_beats 32 = .ok (.iload 4, 2) := by decide +kernel
theorem dX8_beats_34 : decode cX8_beats 34 = .ok (.i2l, 1) := by decide +kernel
theorem dX8_beats_35 : decode cX8_beats 35 = .ok (.lconst 0, 1) := by decide +kernel
theorem dX8_beats_36 : decode cX8_beats 36 = .ok (.lconst 1, 1) := by decide +kernel
theorem dX8_beats_37 : decode cX8_beats 37 = .ok (.invokestatic 72, 3) := by decide +kernel
theorem dX8_beats_40 : decode cX8_beats 40 = .ok (.ifCond .ne 5, 3) := by decide +kernel
theorem dX8_beats_43 : decode cX8_beats 43 = .ok (.iconst (-1), 1) := by decide +kernel
theorem dX8_beats_44 : decode cX8_beats 44 = .ok (.ireturn, 1) := by decide +kernel
theorem dX8_beats_45 : decode cX8_beats 45 = .ok (.aload_n 0, 1) := by decide +kernel
theorem dX8_beats_46 : decode cX8_beats 46 = .ok (.iload_n 1, 1) := by decide +kernel
theorem dX8_beats_47 : decode cX8_beats 47 = .ok (.iconst 0, 1) := by decide +kernel
theorem dX8_beats_48 : decode cX8_beats 48 = .ok (.invokevirtual 153, 3) := by decide +kernel
theorem dX8_beats_51 : decode cX8_beats 51 = .ok (.istore 5, 2) := by decide +kernel
theorem dX8_beats_53 : decode cX8_beats 53 = .ok (.aload_n 0, 1) := by decide +kernel
theorem dX8_beats_54 : decode cX8_beats 54 = .ok (.iload 5, 2) := by decide +kernel
theorem dX8_beats_56 : decode cX8_beats 56 = .ok (.iload_n 2, 1) := by decide +kernel
theorem dX8_beats_57 : decode cX8_beats 57 = .ok (.aload_n 0, 1) := by decide +kernel
theorem dX8_beats_58 : decode cX8_beats 58 = .ok (.getfield 7, 3) := by decide +kernel
theorem dX8_beats_61 : decode cX8_beats 61 = .ok (.bipush 49, 2) := by decide +kernel
theorem dX8_beats_63 : decode cX8_beats 63 = .ok (.iaload, 1) := by decide +kernel
theorem dX8_beats_64 : decode cX8_beats 64 = .ok (.iconst 0, 1) := by decide +kernel
theorem dX8_beats_65 : decode cX8_beats 65 = .ok (.iconst 0, 1) := by decide +kernel
theorem dX8_beats_66 : decode cX8_beats 66 = .ok (.invokevirtual 159, 3) := by decide +kernel
theorem dX8_beats_69 : decode cX8_beats 69 = .ok (.ifCond .le 29, 3) := by decide +kernel
theorem dX8_beats_72 : decode cX8_beats 72 = .ok (.aload_n 0, 1) := by decide +kernel
theorem dX8_beats_73 : decode cX8_beats 73 = .ok (.iload 5, 2) := by decide +kernel
theorem dX8_beats_75 : decode cX8_beats 75 = .ok (.sipush 9999, 3) := by decide +kernel
theorem dX8_beats_78 : decode cX8_beats 78 = .ok (.aload_n 0, 1) := by decide +kernel
theorem dX8_beats_79 : decode cX8_beats 79 = .ok (.getfield 7, 3) := by decide +kernel
theorem dX8_beats_82 : decode cX8_beats 82 = .ok (.bipush 49, 2) := by decide +kernel
theorem dX8_beats_84 : decode cX8_beats 84 = .ok (.iaload, 1) := by decide +kernel
theorem dX8_beats_85 : decode cX8_beats 85 = .ok (.iconst 0, 1) := by decide +kernel
theorem dX8_beats_86 : decode cX8_beats 86 = .ok (.aload_n 0, 1) := by decide +kernel
theorem dX8_beats_87 : decode cX8_beats 87 = .ok (.getfield 17, 3) := by decide +kernel
theorem dX8_beats_90 : decode cX8_beats 90 = .ok (.iconst 0, 1) := by decide +kernel
theorem dX8_beats_91 : decode cX8_beats 91 = .ok (.iaload, 1) := by decide +kernel
theorem dX8_beats_92 : decode cX8_beats 92 = .ok (.invokevirtual 159, 3) := by decide +kernel
theorem dX8_beats_95 : decode cX8_beats 95 = .ok (.ifCond .lt 6, 3) := by decide +kernel
theorem dX8_beats_98 : decode cX8_beats 98 = .ok (.bipush (-4), 2) := by decide +kernel
theorem dX8_beats_100 : decode cX8_beats 100 = .ok (.ireturn, 1) := by decide +kernel
theorem dX8_beats_101 : decode cX8_beats 101 = .ok (.iload_n 2, 1) := by decide +kernel
theorem dX8_beats_102 : decode cX8_beats 102 = .ok (.istore 6, 2) := by decide +kernel
theorem dX8_beats_104 : decode cX8_beats 104 = .ok (.iconst 2, 1) := by decide +kernel
theorem dX8_beats_105 : decode cX8_beats 105 = .ok (.istore 7, 2) := by decide +kernel
theorem dX8_beats_107 : decode cX8_beats 107 = .ok (.aload_n 0, 1) := by decide +kernel
theorem dX8_beats_108 : decode cX8_beats 108 = .ok (.iload 5, 2) := by decide +kernel
theorem dX8_beats_110 : decode cX8_beats 110 = .ok (.iload 6, 2) := by decide +kernel
theorem dX8_beats_112 : decode cX8_beats 112 = .ok (.aload_n 0, 1) := by decide +kernel
theorem dX8_beats_113 : decode cX8_beats 113 = .ok (.getfield 7, 3) := by decide +kernel
theorem dX8_beats_116 : decode cX8_beats 116 = .ok (.bipush 49, 2) := by decide +kernel
theorem dX8_beats_118 : decode cX8_beats 118 = .ok (.iaload, 1) := by decide +kernel
theorem dX8_beats_119 : decode cX8_beats 119 = .ok (.iconst 0, 1) := by decide +kernel
theorem dX8_beats_120 : decode cX8_beats 120 = .ok (.aload_n 0, 1) := by decide +kernel
theorem dX8_beats_121 : decode cX8_beats 121 = .ok (.getfield 17, 3) := by decide +kernel
theorem dX8_beats_124 : decode cX8_beats 124 = .ok (.iconst 0, 1) := by decide +kernel
theorem dX8_beats_125 : decode cX8_beats 125 = .ok (.iaload, 1) := by decide +kernel
theorem dX8_beats_126 : decode cX8_beats 126 = .ok (.invokevirtual 159, 3) := by decide +kernel
theorem dX8_beats_129 : decode cX8_beats 129 = .ok (.ifCond .lt 31, 3) := by decide +kernel
theorem dX8_beats_132 : decode cX8_beats 132 = .ok (.iload 6, 2) := by decide +kernel
theorem dX8_beats_134 : decode cX8_beats 134 = .ok (.iload_n 3, 1) := by decide +kernel
theorem dX8_beats_135 : decode cX8_beats 135 = .ok (.iadd, 1) := by decide +kernel
theorem dX8_beats_136 : decode cX8_beats 136 = .ok (.sipush 9999, 3) := by decide +kernel
theorem dX8_beats_139 : decode cX8_beats 139 = .ok (.if_icmp .le 9, 3) := by decide +kernel
theorem dX8_beats_142 : decode cX8_beats 142 = .ok (.sipush 9999, 3) := by decide +kernel
theorem dX8_beats_145 : decode cX8_beats 145 = .ok (.goto 7, 3) := by decide +kernel
theorem dX8_beats_148 : decode cX8_beats 148 = .ok (.iload 6, 2) := by decide +kernel
theorem dX8_beats_150 : decode cX8_beats 150 = .ok (.iload_n 3, 1) := by decide +kernel
theorem dX8_beats_151 : decode cX8_beats 151 = .ok (.iadd, 1) := by decide +kernel
theorem dX8_beats_152 : decode cX8_beats 152 = .ok (.istore 6, 2) := by decide +kernel
theorem dX8_beats_154 : decode cX8_beats 154 = .ok (.iinc 7 1, 3) := by decide +kernel
theorem dX8_beats_157 : decode cX8_beats 157 = .ok (.goto (-50), 3) := by decide +kernel
theorem dX8_beats_160 : decode cX8_beats 160 = .ok (.iload 4, 2) := by decide +kernel
theorem dX8_beats_162 : decode cX8_beats 162 = .ok (.ifCond .ne 8, 3) := by decide +kernel
theorem dX8_beats_165 : decode cX8_beats 165 = .ok (.iload 7, 2) := by decide +kernel
theorem dX8_beats_167 : decode cX8_beats 167 = .ok (.goto 5, 3) := by decide +kernel
theorem dX8_beats_170 : decode cX8_beats 170 = .ok (.iload 6, 2) := by decide +kernel
theorem dX8_beats_172 : decode cX8_beats 172 = .ok (.ireturn, 1) := by decide +kernel
theorem dX8_saw_0 : decode cX8_saw 0 = .ok (.iload_n 1, 1) := by decide +kernel
theorem dX8_saw_1 : decode cX8_saw 1 = .ok (.invokestatic 174, 3) := by decide +kernel
theorem dX8_saw_4 : decode cX8_saw 4 = .ok (.ifCond .eq 11, 3) := by decide +kernel
theorem dX8_saw_7 : decode cX8_saw 7 = .ok (.aload_n 0, 1) := by decide +kernel
theorem dX8_saw_8 : decode cX8_saw 8 = .ok (.iload_n 2, 1) := by decide +kernel
theorem dX8_saw_9 : decode cX8_saw 9 = .ok (.invokevirtual 202, 3) := by decide +kernel
theorem dX8_saw_12 : decode cX8_saw 12 = .ok (.ifCond .ne 5, 3) := by decide +kernel
theorem dX8_saw_15 : decode cX8_saw 15 = .ok (.iconst (-1), 1) := by decide +kernel
theorem dX8_saw_16 : decode cX8_saw 16 = .ok (.ireturn, 1) := by decide +kernel
theorem dX8_saw_17 : decode cX8_saw 17 = .ok (.aload_n 0, 1) := by decide +kernel
theorem dX8_saw_18 : decode cX8_saw 18 = .ok (.getfield 7, 3) := by decide +kernel
theorem dX8_saw_21 : decode cX8_saw 21 = .ok (.bipush 54, 2) := by decide +kernel
theorem dX8_saw_23 : decode cX8_saw 23 = .ok (.iaload, 1) := by decide +kernel
theorem dX8_saw_24 : decode cX8_saw 24 = .ok (.bipush 12, 2) := by decide +kernel
theorem dX8_saw_26 : decode cX8_saw 26 = .ok (.if_icmp .ne 6, 3) := by decide +kernel
theorem dX8_saw_29 : decode cX8_saw 29 = .ok (.bipush (-3), 2) := by decide +kernel
theorem dX8_saw_31 : decode cX8_saw 31 = .ok (.ireturn, 1) := by decide +kernel
theorem dX8_saw_32 : decode cX8_saw 32 = .ok (.bipush 55, 2) := by decide +kernel
theorem dX8_saw_34 : decode cX8_saw 34 = .ok (.iconst 3, 1) := by decide +kernel
theorem dX8_saw_35 : decode cX8_saw 35 = .ok (.aload_n 0, 1) := by decide +kernel
theorem dX8_saw_36 : decode cX8_saw 36 = .ok (.getfield 7, 3) := by decide +kernel
theorem dX8_saw_39 : decode cX8_saw 39 = .ok (.bipush 54, 2) := by decide +kernel
theorem dX8_saw_41 : decode cX8_saw 41 = .ok (.iaload, 1) := by decide +kernel
theorem dX8_saw_42 : decode cX8_saw 42 = .ok (.imul, 1) := by decide +kernel
theorem dX8_saw_43 : decode cX8_saw 43 = .ok (.iadd, 1) := by decide +kernel
theorem dX8_saw_44 : decode cX8_saw 44 = .ok (.istore 4, 2) := by decide +kernel
theorem dX8_saw_46 : decode cX8_saw 46 = .ok (.aload_n 0, 1) := by decide +kernel
theorem dX8_saw_47 : decode cX8_saw 47 = .ok (.getfield 7, 3) := by decide +kernel
theorem dX8_saw_50 : decode cX8_saw 50 = .ok (.iload 4, 2) := by decide +kernel
theorem dX8_saw_52 : decode cX8_saw 52 = .ok (.iload_n 1, 1) := by decide +kernel
theorem dX8_saw_53 : decode cX8_saw 53 = .ok (.iastore, 1) := by decide +kernel
theorem dX8_saw_54 : decode cX8_saw 54 = .ok (.aload_n 0, 1) := by decide +kernel
theorem dX8_saw_55 : decode cX8_saw 55 = .ok (.getfield 7, 3) := by decide +kernel
theorem dX8_saw_58 : decode cX8_saw 58 = .ok (.iload 4, 2) := by decide +kernel
theorem dX8_saw_60 : decode cX8_saw 60 = .ok (.iconst 1, 1) := by decide +kernel
theorem dX8_saw_61 : decode cX8_saw 61 = .ok (.iadd, 1) := by decide +kernel
theorem dX8_saw_62 : decode cX8_saw 62 = .ok (.iload_n 2, 1) := by decide +kernel
theorem dX8_saw_63 : decode cX8_saw 63 = .ok (.iastore, 1) := by decide +kernel
theorem dX8_saw_64 : decode cX8_saw 64 = .ok (.aload_n 0, 1) := by decide +kernel
theorem dX8_saw_65 : decode cX8_saw 65 = .ok (.getfield 7, 3) := by decide +kernel
theorem dX8_saw_68 : decode cX8_saw 68 = .ok (.iload 4, 2) := by decide +kernel
theorem dX8_saw_70 : decode cX8_saw 70 = .ok (.iconst 2, 1) := by decide +kernel
theorem dX8_saw_71 : decode cX8_saw 71 = .ok (.iadd, 1) := by decide +kernel
theorem dX8_saw_72 : decode cX8_saw 72 = .ok (.iload_n 3, 1) := by decide +kernel
theorem dX8_saw_73 : decode cX8_saw 73 = .ok (.invokestatic 63, 3) := by decide +kernel
theorem dX8_saw_76 : decode cX8_saw 76 = .ok (.iastore, 1) := by decide +kernel
theorem dX8_saw_77 : decode cX8_saw 77 = .ok (.aload_n 0, 1) := by decide +kernel
theorem dX8_saw_78 : decode cX8_saw 78 = .ok (.getfield 7, 3) := by decide +kernel
theorem dX8_saw_81 : decode cX8_saw 81 = .ok (.bipush 54, 2) := by decide +kernel
theorem dX8_saw_83 : decode cX8_saw 83 = .ok (.dup2, 1) := by decide +kernel
theorem dX8_saw_84 : decode cX8_saw 84 = .ok (.iaload, 1) := by decide +kernel
theorem dX8_saw_85 : decode cX8_saw 85 = .ok (.iconst 1, 1) := by decide +kernel
theorem dX8_saw_86 : decode cX8_saw 86 = .ok (.iadd, 1) := by decide +kernel
theorem dX8_saw_87 : decode cX8_saw 87 = .ok (.iastore, 1) := by decide +kernel
theorem dX8_saw_88 : decode cX8_saw 88 = .ok (.aload_n 0, 1) := by decide +kernel
theorem dX8_saw_89 : decode cX8_saw 89 = .ok (.getfield 7, 3) := by decide +kernel
theorem dX8_saw_92 : decode cX8_saw 92 = .ok (.bipush 54, 2) := by decide +kernel
theorem dX8_saw_94 : decode cX8_saw 94 = .ok (.iaload, 1) := by decide +kernel
theorem dX8_saw_95 : decode cX8_saw 95 = .ok (.ireturn, 1) := by decide +kernel
theorem dX8_forget_0 : decode cX8_forget 0 = .ok (.aload_n 0, 1) := by decide +kernel
theorem dX8_forget_1 : decode cX8_forget 1 = .ok (.getfield 7, 3) := by decide +kernel
theorem dX8_forget_4 : decode cX8_forget 4 = .ok (.bipush 54, 2) := by decide +kernel
theorem dX8_forget_6 : decode cX8_forget 6 = .ok (.iaload, 1) := by decide +kernel
theorem dX8_forget_7 : decode cX8_forget 7 = .ok (.istore_n 1, 1) := by decide +kernel
theorem dX8_forget_8 : decode cX8_forget 8 = .ok (.aload_n 0, 1) := by decide +kernel
theorem dX8_forget_9 : decode cX8_forget 9 = .ok (.getfield 7, 3) := by decide +kernel
theorem dX8_forget_12 : decode cX8_forget 12 = .ok (.bipush 54, 2) := by decide +kernel
theorem dX8_forget_14 : decode cX8_forget 14 = .ok (.iconst 0, 1) := by decide +kernel
theorem dX8_forget_15 : decode cX8_forget 15 = .ok (.iastore, 1) := by decide +kernel
theorem dX8_forget_16 : decode cX8_forget 16 = .ok (.iload_n 1, 1) := by decide +kernel
theorem dX8_forget_17 : decode cX8_forget 17 = .ok (.ireturn, 1) := by decide +kernel
theorem dX8_canBe_0 : decode cX8_canBe 0 = .ok (.bipush 55, 2) := by decide +kernel
theorem dX8_canBe_2 : decode cX8_canBe 2 = .ok (.istore_n 3, 1) := by decide +kernel
theorem dX8_canBe_3 : decode cX8_canBe 3 = .ok (.iload_n 3, 1) := by decide +kernel
theorem dX8_canBe_4 : decode cX8_canBe 4 = .ok (.bipush 55, 2) := by decide +kernel
theorem dX8_canBe_6 : decode cX8_canBe 6 = .ok (.iconst 3, 1) := by decide +kernel
theorem dX8_canBe_7 : decode cX8_canBe 7 = .ok (.aload_n 0, 1) := by decide +kernel
theorem dX8_canBe_8 : decode cX8_canBe 8 = .ok (.getfield 7, 3) := by decide +kernel
theorem dX8_canBe_11 : decode cX8_canBe 11 = .ok (.bipush 54, 2) := by decide +kernel
theorem dX8_canBe_13 : decode cX8_canBe 13 = .ok (.iaload, 1) := by decide +kernel
theorem dX8_canBe_14 : decode cX8_canBe 14 = .ok (.imul, 1) := by decide +kernel
theorem dX8_canBe_15 : decode cX8_canBe 15 = .ok (.iadd, 1) := by decide +kernel
theorem dX8_canBe_16 : decode cX8_canBe 16 = .ok (.if_icmp .ge 60, 3) := by decide +kernel
theorem dX8_canBe_19 : decode cX8_canBe 19 = .ok (.aload_n 0, 1) := by decide +kernel
theorem dX8_canBe_20 : decode cX8_canBe 20 = .ok (.iload_n 1, 1) := by decide +kernel
theorem dX8_canBe_21 : decode cX8_canBe 21 = .ok (.iload_n 2, 1) := by decide +kernel
theorem dX8_canBe_22 : decode cX8_canBe 22 = .ok (.aload_n 0, 1) := by decide +kernel
theorem dX8_canBe_23 : decode cX8_canBe 23 = .ok (.getfield 7, 3) := by decide +kernel
theorem dX8_canBe_26 : decode cX8_canBe 26 = .ok (.bipush 49, 2) := by decide +kernel
theorem dX8_canBe_28 : decode cX8_canBe 28 = .ok (.iaload, 1) := by decide +kernel
theorem dX8_canBe_29 : decode cX8_canBe 29 = .ok (.aload_n 0, 1) := by decide +kernel
theorem dX8_canBe_30 : decode cX8_canBe 30 = .ok (.getfield 7, 3) := by decide +kernel
theorem dX8_canBe_33 : decode cX8_canBe 33 = .ok (.iload_n 3, 1) := by decide +kernel
theorem dX8_canBe_34 : decode cX8_canBe 34 = .ok (.iaload, 1) := by decide +kernel
theorem dX8_canBe_35 : decode cX8_canBe 35 = .ok (.aload_n 0, 1) := by decide +kernel
theorem dX8_canBe_36 : decode cX8_canBe 36 = .ok (.getfield 7, 3) := by decide +kernel
theorem dX8_canBe_39 : decode cX8_canBe 39 = .ok (.iload_n 3, 1) := by decide +kernel
theorem dX8_canBe_40 : decode cX8_canBe 40 = .ok (.iconst 1, 1) := by decide +kernel
theorem dX8_canBe_41 : decode cX8_canBe 41 = .ok (.iadd, 1) := by decide +kernel
theorem dX8_canBe_42 : decode cX8_canBe 42 = .ok (.iaload, 1) := by decide +kernel
theorem dX8_canBe_43 : decode cX8_canBe 43 = .ok (.invokevirtual 159, 3) := by decide +kernel
theorem dX8_canBe_46 : decode cX8_canBe 46 = .ok (.ifCond .le 7, 3) := by decide +kernel
theorem dX8_canBe_49 : decode cX8_canBe 49 = .ok (.iconst 1, 1) := by decide +kernel
theorem dX8_canBe_50 : decode cX8_canBe 50 = .ok (.goto 4, 3) := by decide +kernel
theorem dX8_canBe_53 : decode cX8_canBe 53 = .ok (.iconst 0, 1) := by decide +kernel
theorem dX8_canBe_54 : decode cX8_canBe 54 = .ok (.invokestatic 63, 3) := by decide +kernel
theorem dX8_canBe_57 : decode cX8_canBe 57 = .ok (.aload_n 0, 1) := by decide +kernel
theorem dX8_canBe_58 : decode cX8_canBe 58 = .ok (.getfield 7, 3) := by decide +kernel
theorem dX8_canBe_61 : decode cX8_canBe 61 = .ok (.iload_n 3, 1) := by decide +kernel
theorem dX8_canBe_62 : decode cX8_canBe 62 = .ok (.iconst 2, 1) := by decide +kernel
theorem dX8_canBe_63 : decode cX8_canBe 63 = .ok (.iadd, 1) := by decide +kernel
theorem dX8_canBe_64 : decode cX8_canBe 64 = .ok (.iaload, 1) := by decide +kernel
theorem dX8_canBe_65 : decode cX8_canBe 65 = .ok (.if_icmp .eq 5, 3) := by decide +kernel
theorem dX8_canBe_68 : decode cX8_canBe 68 = .ok (.iconst 0, 1) := by decide +kernel
theorem dX8_canBe_69 : decode cX8_canBe 69 = .ok (.ireturn, 1) := by decide +kernel
theorem dX8_canBe_70 : decode cX8_canBe 70 = .ok (.iinc 3 3, 3) := by decide +kernel
theorem dX8_canBe_73 : decode cX8_canBe 73 = .ok (.goto (-70), 3) := by decide +kernel
theorem dX8_canBe_76 : decode cX8_canBe 76 = .ok (.iconst 1, 1) := by decide +kernel
theorem dX8_canBe_77 : decode cX8_canBe 77 = .ok (.ireturn, 1) := by decide +kernel
theorem dX8_fits_0 : decode cX8_fits 0 = .ok (.iload_n 1, 1) := by decide +kernel
theorem dX8_fits_1 : decode cX8_fits 1 = .ok (.invokestatic 226, 3) := by decide +kernel
theorem dX8_fits_4 : decode cX8_fits 4 = .ok (.ifCond .eq 15, 3) := by decide +kernel
theorem dX8_fits_7 : decode cX8_fits 7 = .ok (.iload_n 2, 1) := by decide +kernel
theorem dX8_fits_8 : decode cX8_fits 8 = .ok (.i2l, 1) := by decide +kernel
theorem dX8_fits_9 : decode cX8_fits 9 = .ok (.lconst 0, 1) := by decide +kernel
theorem dX8_fits_10 : decode cX8_fits 10 = .ok (.ldc2_w 229, 3) := by decide +kernel
theorem dX8_fits_13 : decode cX8_fits 13 = .ok (.invokestatic 72, 3) := by decide +kernel
theorem dX8_fits_16 : decode cX8_fits 16 = .ok (.ifCond .ne 5, 3) := by decide +kernel
theorem dX8_fits_19 : decode cX8_fits 19 = .ok (.iconst (-1), 1) := by decide +kernel
theorem dX8_fits_20 : decode cX8_fits 20 = .ok (.ireturn, 1) := by decide +kernel
theorem dX8_fits_21 : decode cX8_fits 21 = .ok (.aload_n 0, 1) := by decide +kernel
theorem dX8_fits_22 : decode cX8_fits 22 = .ok (.invokevirtual 231, 3) := by decide +kernel
theorem dX8_fits_25 : decode cX8_fits 25 = .ok (.iconst 0, 1) := by decide +kernel
theorem dX8_fits_26 : decode cX8_fits 26 = .ok (.istore_n 3, 1) := by decide +kernel
theorem dX8_fits_27 : decode cX8_fits 27 = .ok (.iload_n 3, 1) := by decide +kernel
theorem dX8_fits_28 : decode cX8_fits 28 = .ok (.sipush 9999, 3) := by decide +kernel
theorem dX8_fits_31 : decode cX8_fits 31 = .ok (.if_icmp .gt 23, 3) := by decide +kernel
theorem dX8_fits_34 : decode cX8_fits 34 = .ok (.aload_n 0, 1) := by decide +kernel
theorem dX8_fits_35 : decode cX8_fits 35 = .ok (.iload_n 1, 1) := by decide +kernel
theorem dX8_fits_36 : decode cX8_fits 36 = .ok (.iload_n 3, 1) := by decide +kernel
theorem dX8_fits_37 : decode cX8_fits 37 = .ok (.invokevirtual 288, 3) := by decide +kernel
theorem dX8_fits_40 : decode cX8_fits 40 = .ok (.ifCond .eq 8, 3) := by decide +kernel
theorem dX8_fits_43 : decode cX8_fits 43 = .ok (.aload_n 0, 1) := by decide +kernel
theorem dX8_fits_44 : decode cX8_fits 44 = .ok (.iload_n 3, 1) := by decide +kernel
theorem dX8_fits_45 : decode cX8_fits 45 = .ok (.invokevirtual 242, 3) := by decide +kernel
theorem dX8_fits_48 : decode cX8_fits 48 = .ok (.iinc 3 1, 3) := by decide +kernel
theorem dX8_fits_51 : decode cX8_fits 51 = .ok (.goto (-24), 3) := by decide +kernel
theorem dX8_fits_54 : decode cX8_fits 54 = .ok (.aload_n 0, 1) := by decide +kernel
theorem dX8_fits_55 : decode cX8_fits 55 = .ok (.iload_n 2, 1) := by decide +kernel
theorem dX8_fits_56 : decode cX8_fits 56 = .ok (.invokevirtual 245, 3) := by decide +kernel
theorem dX8_fits_59 : decode cX8_fits 59 = .ok (.ireturn, 1) := by decide +kernel
theorem dX8_who_0 : decode cX8_who 0 = .ok (.iconst 0, 1) := by decide +kernel
theorem dX8_who_1 : decode cX8_who 1 = .ok (.istore_n 1, 1) := by decide +kernel
theorem dX8_who_2 : decode cX8_who 2 = .ok (.iconst 0, 1) := by decide +kernel
theorem dX8_who_3 : decode cX8_who 3 = .ok (.istore_n 2, 1) := by decide +kernel
theorem dX8_who_4 : decode cX8_who 4 = .ok (.iload_n 2, 1) := by decide +kernel
theorem dX8_who_5 : decode cX8_who 5 = .ok (.aload_n 0, 1) := by decide +kernel
theorem dX8_who_6 : decode cX8_who 6 = .ok (.getfield 7, 3) := by decide +kernel
theorem dX8_who_9 : decode cX8_who 9 = .ok (.bipush 53, 2) := by decide +kernel
theorem dX8_who_11 : decode cX8_who 11 = .ok (.iaload, 1) := by decide +kernel
theorem dX8_who_12 : decode cX8_who 12 = .ok (.if_icmp .ge 37, 3) := by decide +kernel
theorem dX8_who_15 : decode cX8_who 15 = .ok (.iload_n 1, 1) := by decide +kernel
theorem dX8_who_16 : decode cX8_who 16 = .ok (.aload_n 0, 1) := by decide +kernel
theorem dX8_who_17 : decode cX8_who 17 = .ok (.aload_n 0, 1) := by decide +kernel
theorem dX8_who_18 : decode cX8_who 18 = .ok (.iload_n 2, 1) := by decide +kernel
theorem dX8_who_19 : decode cX8_who 19 = .ok (.invokevirtual 156, 3) := by decide +kernel
theorem dX8_who_22 : decode cX8_who 22 = .ok (.aload_n 0, 1) := by decide +kernel
theorem dX8_who_23 : decode cX8_who 23 = .ok (.iload_n 2, 1) := by decide +kernel
theorem dX8_who_24 : decode cX8_who 24 = .ok (.iconst 1, 1) := by decide +kernel
theorem dX8_who_25 : decode cX8_who 25 = .ok (.invokevirtual 153, 3) := by decide +kernel
theorem dX8_who_28 : decode cX8_who 28 = .ok (.invokevirtual 288, 3) := by decide +kernel
theorem dX8_who_31 : decode cX8_who 31 = .ok (.ifCond .eq 9, 3) := by decide +kernel
theorem dX8_who_34 : decode cX8_who 34 = .ok (.iconst 1, 1) := by decide +kernel
theorem dX8_who_35 : decode cX8_who 35 = .ok (.iload_n 2, 1) := by decide +kernel
theorem dX8_who_36 : decode cX8_who 36 = .ok (.ishl, 1) := by decide +kernel
theorem dX8_who_37 : decode cX8_who 37 = .ok (.goto 4, 3) := by decide +kernel
theorem dX8_who_40 : decode cX8_who 40 = .ok (.iconst 0, 1) := by decide +kernel
theorem dX8_who_41 : decode cX8_who 41 = .ok (.ior, 1) := by decide +kernel
theorem dX8_who_42 : decode cX8_who 42 = .ok (.istore_n 1, 1) := by decide +kernel
theorem dX8_who_43 : decode cX8_who 43 = .ok (.iinc 2 1, 3) := by decide +kernel
theorem dX8_who_46 : decode cX8_who 46 = .ok (.goto (-42), 3) := by decide +kernel
theorem dX8_who_49 : decode cX8_who 49 = .ok (.iload_n 1, 1) := by decide +kernel
theorem dX8_who_50 : decode cX8_who 50 = .ok (.ireturn, 1) := by decide +kernel
theorem dX8_copies_0 : decode cX8_copies 0 = .ok (.iconst 0, 1) := by decide +kernel
theorem dX8_copies_1 : decode cX8_copies 1 = .ok (.istore_n 3, 1) := by decide +kernel
theorem dX8_copies_2 : decode cX8_copies 2 = .ok (.iload_n 3, 1) := by decide +kernel
theorem dX8_copies_3 : decode cX8_copies 3 = .ok (.bipush 100, 2) := by decide +kernel
theorem dX8_copies_5 : decode cX8_copies 5 = .ok (.if_icmp .ge 25, 3) := by decide +kernel
theorem dX8_copies_8 : decode cX8_copies 8 = .ok (.aload_n 0, 1) := by decide +kernel
theorem dX8_copies_9 : decode cX8_copies 9 = .ok (.getfield 7, 3) := by decide +kernel
theorem dX8_copies_12 : decode cX8_copies 12 = .ok (.iload_n 1, 1) := by decide +kernel
theorem dX8_copies_13 : decode cX8_copies 13 = .ok (.iload_n 3, 1) := by decide +kernel
theorem dX8_copies_14 : decode cX8_copies 14 = .ok (.iadd, 1) := by decide +kernel
theorem dX8_copies_15 : decode cX8_copies 15 = .ok (.aload_n 0, 1) := by decide +kernel
theorem dX8_copies_16 : decode cX8_copies 16 = .ok (.getfield 7, 3) := by decide +kernel
theorem dX8_copies_19 : decode cX8_copies 19 = .ok (.iload_n 2, 1) := by decide +kernel
theorem dX8_copies_20 : decode cX8_copies 20 = .ok (.iload_n 3, 1) := by decide +kernel
theorem dX8_copies_21 : decode cX8_copies 21 = .ok (.iadd, 1) := by decide +kernel
theorem dX8_copies_22 : decode cX8_copies 22 = .ok (.iaload, 1) := by decide +kernel
theorem dX8_copies_23 : decode cX8_copies 23 = .ok (.iastore, 1) := by decide +kernel
theorem dX8_copies_24 : decode cX8_copies 24 = .ok (.iinc 3 1, 3) := by decide +kernel
theorem dX8_copies_27 : decode cX8_copies 27 = .ok (.goto (-25), 3) := by decide +kernel
theorem dX8_copies_30 : decode cX8_copies 30 = .ok (.return_, 1) := by decide +kernel
theorem dX8_keep_0 : decode cX8_keep 0 = .ok (.iload_n 1, 1) := by decide +kernel
theorem dX8_keep_1 : decode cX8_keep 1 = .ok (.i2l, 1) := by decide +kernel
theorem dX8_keep_2 : decode cX8_keep 2 = .ok (.lconst 0, 1) := by decide +kernel
theorem dX8_keep_3 : decode cX8_keep 3 = .ok (.lconst 1, 1) := by decide +kernel
theorem dX8_keep_4 : decode cX8_keep 4 = .ok (.invokestatic 72, 3) := by decide +kernel
theorem dX8_keep_7 : decode cX8_keep 7 = .ok (.ifCond .ne 5, 3) := by decide +kernel
theorem dX8_keep_10 : decode cX8_keep 10 = .ok (.iconst (-1), 1) := by decide +kernel
theorem dX8_keep_11 : decode cX8_keep 11 = .ok (.ireturn, 1) := by decide +kernel
theorem dX8_keep_12 : decode cX8_keep 12 = .ok (.aload_n 0, 1) := by decide +kernel
theorem dX8_keep_13 : decode cX8_keep 13 = .ok (.getfield 13, 3) := by decide +kernel
theorem dX8_keep_16 : decode cX8_keep 16 = .ok (.iload_n 1, 1) := by decide +kernel
theorem dX8_keep_17 : decode cX8_keep 17 = .ok (.baload, 1) := by decide +kernel
theorem dX8_keep_18 : decode cX8_keep 18 = .ok (.invokestatic 63, 3) := by decide +kernel
theorem dX8_keep_21 : decode cX8_keep 21 = .ok (.istore_n 2, 1) := by decide +kernel
theorem dX8_keep_22 : decode cX8_keep 22 = .ok (.aload_n 0, 1) := by decide +kernel
theorem dX8_keep_23 : decode cX8_keep 23 = .ok (.getfield 13, 3) := by decide +kernel
theorem dX8_keep_26 : decode cX8_keep 26 = .ok (.iload_n 1, 1) := by decide +kernel
theorem dX8_keep_27 : decode cX8_keep 27 = .ok (.iconst 1, 1) := by decide +kernel
theorem dX8_keep_28 : decode cX8_keep 28 = .ok (.bastore, 1) := by decide +kernel
theorem dX8_keep_29 : decode cX8_keep 29 = .ok (.aload_n 0, 1) := by decide +kernel
theorem dX8_keep_30 : decode cX8_keep 30 = .ok (.bipush 100, 2) := by decide +kernel
theorem dX8_keep_32 : decode cX8_keep 32 = .ok (.iload_n 1, 1) := by decide +kernel
theorem dX8_keep_33 : decode cX8_keep 33 = .ok (.iconst 1, 1) := by decide +kernel
theorem dX8_keep_34 : decode cX8_keep 34 = .ok (.iadd, 1) := by decide +kernel
theorem dX8_keep_35 : decode cX8_keep 35 = .ok (.imul, 1) := by decide +kernel
theorem dX8_keep_36 : decode cX8_keep 36 = .ok (.iconst 0, 1) := by decide +kernel
theorem dX8_keep_37 : decode cX8_keep 37 = .ok (.invokevirtual 291, 3) := by decide +kernel
theorem dX8_keep_40 : decode cX8_keep 40 = .ok (.iload_n 2, 1) := by decide +kernel
theorem dX8_keep_41 : decode cX8_keep 41 = .ok (.ireturn, 1) := by decide +kernel
theorem dX8_restore_0 : decode cX8_restore 0 = .ok (.iload_n 1, 1) := by decide +kernel
theorem dX8_restore_1 : decode cX8_restore 1 = .ok (.i2l, 1) := by decide +kernel
theorem dX8_restore_2 : decode cX8_restore 2 = .ok (.lconst 0, 1) := by decide +kernel
theorem dX8_restore_3 : decode cX8_restore 3 = .ok (.lconst 1, 1) := by decide +kernel
theorem dX8_restore_4 : decode cX8_restore 4 = .ok (.invokestatic 72, 3) := by decide +kernel
theorem dX8_restore_7 : decode cX8_restore 7 = .ok (.ifCond .ne 5, 3) := by decide +kernel
theorem dX8_restore_10 : decode cX8_restore 10 = .ok (.iconst (-1), 1) := by decide +kernel
theorem dX8_restore_11 : decode cX8_restore 11 = .ok (.ireturn, 1) := by decide +kernel
theorem dX8_restore_12 : decode cX8_restore 12 = .ok (.aload_n 0, 1) := by decide +kernel
theorem dX8_restore_13 : decode cX8_restore 13 = .ok (.getfield 13, 3) := by decide +kernel
theorem dX8_restore_16 : decode cX8_restore 16 = .ok (.iload_n 1, 1) := by decide +kernel
theorem dX8_restore_17 : decode cX8_restore 17 = .ok (.baload, 1) := by decide +kernel
theorem dX8_restore_18 : decode cX8_restore 18 = .ok (.ifCond .ne 6, 3) := by decide +kernel
theorem dX8_restore_21 : decode cX8_restore 21 = .ok (.bipush (-2), 2) := by decide +kernel
theorem dX8_restore_23 : decode cX8_restore 23 = .ok (.ireturn, 1) := by decide +kernel
theorem dX8_restore_24 : decode cX8_restore 24 = .ok (.aload_n 0, 1) := by decide +kernel
theorem dX8_restore_25 : decode cX8_restore 25 = .ok (.iconst 0, 1) := by decide +kernel
theorem dX8_restore_26 : decode cX8_restore 26 = .ok (.bipush 100, 2) := by decide +kernel
theorem dX8_restore_28 : decode cX8_restore 28 = .ok (.iload_n 1, 1) := by decide +kernel
theorem dX8_restore_29 : decode cX8_restore 29 = .ok (.iconst 1, 1) := by decide +kernel
theorem dX8_restore_30 : decode cX8_restore 30 = .ok (.iadd, 1) := by decide +kernel
theorem dX8_restore_31 : decode cX8_restore 31 = .ok (.imul, 1) := by decide +kernel
theorem dX8_restore_32 : decode cX8_restore 32 = .ok (.invokevirtual 291, 3) := by decide +kernel
theorem dX8_restore_35 : decode cX8_restore 35 = .ok (.aload_n 0, 1) := by decide +kernel
theorem dX8_restore_36 : decode cX8_restore 36 = .ok (.getfield 7, 3) := by decide +kernel
theorem dX8_restore_39 : decode cX8_restore 39 = .ok (.bipush 50, 2) := by decide +kernel
theorem dX8_restore_41 : decode cX8_restore 41 = .ok (.iaload, 1) := by decide +kernel
theorem dX8_restore_42 : decode cX8_restore 42 = .ok (.ireturn, 1) := by decide +kernel
theorem dX8_isSheet_0 : decode cX8_isSheet 0 = .ok (.iload_n 0, 1) := by decide +kernel
theorem dX8_isSheet_1 : decode cX8_isSheet 1 = .ok (.i2l, 1) := by decide +kernel
theorem dX8_isSheet_2 : decode cX8_isSheet 2 = .ok (.lconst 0, 1) := by decide +kernel
theorem dX8_isSheet_3 : decode cX8_isSheet 3 = .ok (.ldc2_w 275, 3) := by decide +kernel
theorem dX8_isSheet_6 : decode cX8_isSheet 6 = .ok (.invokestatic 72, 3) := by decide +kernel
theorem dX8_isSheet_9 : decode cX8_isSheet 9 = .ok (.ifCond .eq 19, 3) := by decide +kernel
theorem dX8_isSheet_12 : decode cX8_isSheet 12 = .ok (.iload_n 1, 1) := by decide +kernel
theorem dX8_isSheet_13 : decode cX8_isSheet 13 = .ok (.i2l, 1) := by decide +kernel
theorem dX8_isSheet_14 : decode cX8_isSheet 14 = .ok (.lconst 0, 1) := by decide +kernel
theorem dX8_isSheet_15 : decode cX8_isSheet 15 = .ok (.ldc2_w 229, 3) := by decide +kernel
theorem dX8_isSheet_18 : decode cX8_isSheet 18 = .ok (.invokestatic 72, 3) := by decide +kernel
theorem dX8_isSheet_21 : decode cX8_isSheet 21 = .ok (.ifCond .eq 7, 3) := by decide +kernel
theorem dX8_isSheet_24 : decode cX8_isSheet 24 = .ok (.iconst 1, 1) := by decide +kernel
theorem dX8_isSheet_25 : decode cX8_isSheet 25 = .ok (.goto 4, 3) := by decide +kernel
theorem dX8_isSheet_28 : decode cX8_isSheet 28 = .ok (.iconst 0, 1) := by decide +kernel
theorem dX8_isSheet_29 : decode cX8_isSheet 29 = .ok (.ireturn, 1) := by decide +kernel
theorem dX8_sheet_0 : decode cX8_sheet 0 = .ok (.iload_n 1, 1) := by decide +kernel
theorem dX8_sheet_1 : decode cX8_sheet 1 = .ok (.iload_n 2, 1) := by decide +kernel
theorem dX8_sheet_2 : decode cX8_sheet 2 = .ok (.invokestatic 294, 3) := by decide +kernel
theorem dX8_sheet_5 : decode cX8_sheet 5 = .ok (.ifCond .eq 9, 3) := by decide +kernel
theorem dX8_sheet_8 : decode cX8_sheet 8 = .ok (.iload_n 3, 1) := by decide +kernel
theorem dX8_sheet_9 : decode cX8_sheet 9 = .ok (.bipush 40, 2) := by decide +kernel
theorem dX8_sheet_11 : decode cX8_sheet 11 = .ok (.if_icmp .le 5, 3) := by decide +kernel
theorem dX8_sheet_14 : decode cX8_sheet 14 = .ok (.iconst (-1), 1) := by decide +kernel
theorem dX8_sheet_15 : decode cX8_sheet 15 = .ok (.ireturn, 1) := by decide +kernel
theorem dX8_sheet_16 : decode cX8_sheet 16 = .ok (.iload_n 3, 1) := by decide +kernel
theorem dX8_sheet_17 : decode cX8_sheet 17 = .ok (.ifCond .ge 6, 3) := by decide +kernel
theorem dX8_sheet_20 : decode cX8_sheet 20 = .ok (.bipush (-14), 2) := by decide +kernel
theorem dX8_sheet_22 : decode cX8_sheet 22 = .ok (.ireturn, 1) := by decide +kernel
theorem dX8_sheet_23 : decode cX8_sheet 23 = .ok (.aload_n 0, 1) := by decide +kernel
theorem dX8_sheet_24 : decode cX8_sheet 24 = .ok (.getfield 41, 3) := by decide +kernel
theorem dX8_sheet_27 : decode cX8_sheet 27 = .ok (.iload_n 1, 1) := by decide +kernel
theorem dX8_sheet_28 : decode cX8_sheet 28 = .ok (.iload_n 2, 1) := by decide +kernel
theorem dX8_sheet_29 : decode cX8_sheet 29 = .ok (.iastore, 1) := by decide +kernel
theorem dX8_sheet_30 : decode cX8_sheet 30 = .ok (.aload_n 0, 1) := by decide +kernel
theorem dX8_sheet_31 : decode cX8_sheet 31 = .ok (.getfield 44, 3) := by decide +kernel
theorem dX8_sheet_34 : decode cX8_sheet 34 = .ok (.iload_n 1, 1) := by decide +kernel
theorem dX8_sheet_35 : decode cX8_sheet 35 = .ok (.iload_n 3, 1) := by decide +kernel
theorem dX8_sheet_36 : decode cX8_sheet 36 = .ok (.iastore, 1) := by decide +kernel
theorem dX8_sheet_37 : decode cX8_sheet 37 = .ok (.iconst 0, 1) := by decide +kernel
theorem dX8_sheet_38 : decode cX8_sheet 38 = .ok (.istore 4, 2) := by decide +kernel
theorem dX8_sheet_40 : decode cX8_sheet 40 = .ok (.iload 4, 2) := by decide +kernel
theorem dX8_sheet_42 : decode cX8_sheet 42 = .ok (.bipush 40, 2) := by decide +kernel
theorem dX8_sheet_44 : decode cX8_sheet 44 = .ok (.if_icmp .ge 22, 3) := by decide +kernel
theorem dX8_sheet_47 : decode cX8_sheet 47 = .ok (.aload_n 0, 1) := by decide +kernel
theorem dX8_sheet_48 : decode cX8_sheet 48 = .ok (.getfield 47, 3) := by decide +kernel
theorem dX8_sheet_51 : decode cX8_sheet 51 = .ok (.bipush 40, 2) := by decide +kernel
theorem dX8_sheet_53 : decode cX8_sheet 53 = .ok (.iload_n 1, 1) := by decide +kernel
theorem dX8_sheet_54 : decode cX8_sheet 54 = .ok (.imul, 1) := by decide +kernel
theorem dX8_sheet_55 : decode cX8_sheet 55 = .ok (.iload 4, 2) := by decide +kernel
theorem dX8_sheet_57 : decode cX8_sheet 57 = .ok (.iadd, 1) := by decide +kernel
theorem dX8_sheet_58 : decode cX8_sheet 58 = .ok (.iconst 0, 1) := by decide +kernel
theorem dX8_sheet_59 : decode cX8_sheet 59 = .ok (.iastore, 1) := by decide +kernel
theorem dX8_sheet_60 : decode cX8_sheet 60 = .ok (.iinc 4 1, 3) := by decide +kernel
theorem dX8_sheet_63 : decode cX8_sheet 63 = .ok (.goto (-23), 3) := by decide +kernel
theorem dX8_sheet_66 : decode cX8_sheet 66 = .ok (.iconst 1, 1) := by decide +kernel
theorem dX8_sheet_67 : decode cX8_sheet 67 = .ok (.ireturn, 1) := by decide +kernel
theorem dX8_lay_0 : decode cX8_lay 0 = .ok (.iload_n 1, 1) := by decide +kernel
theorem dX8_lay_1 : decode cX8_lay 1 = .ok (.iconst 0, 1) := by decide +kernel
theorem dX8_lay_2 : decode cX8_lay 2 = .ok (.invokestatic 294, 3) := by decide +kernel
theorem dX8_lay_5 : decode cX8_lay 5 = .ok (.ifCond .ne 5, 3) := by decide +kernel
theorem dX8_lay_8 : decode cX8_lay 8 = .ok (.iconst (-1), 1) := by decide +kernel
theorem dX8_lay_9 : decode cX8_lay 9 = .ok (.ireturn, 1) := by decide +kernel
theorem dX8_lay_10 : decode cX8_lay 10 = .ok (.aload_n 0, 1) := by decide +kernel
theorem dX8_lay_11 : decode cX8_lay 11 = .ok (.getfield 41, 3) := by decide +kernel
theorem dX8_lay_14 : decode cX8_lay 14 = .ok (.iload_n 1, 1) := by decide +kernel
theorem dX8_lay_15 : decode cX8_lay 15 = .ok (.iaload, 1) := by decide +kernel
theorem dX8_lay_16 : decode cX8_lay 16 = .ok (.bipush (-4), 2) := by decide +kernel
theorem dX8_lay_18 : decode cX8_lay 18 = .ok (.if_icmp .ne 6, 3) := by decide +kernel
theorem dX8_lay_21 : decode cX8_lay 21 = .ok (.bipush (-11), 2) := by decide +kernel
theorem dX8_lay_23 : decode cX8_lay 23 = .ok (.ireturn, 1) := by decide +kernel
theorem dX8_lay_24 : decode cX8_lay 24 = .ok (.iload_n 2, 1) := by decide +kernel
theorem dX8_lay_25 : decode cX8_lay 25 = .ok (.i2l, 1) := by decide +kernel
theorem dX8_lay_26 : decode cX8_lay 26 = .ok (.lconst 0, 1) := by decide +kernel
theorem dX8_lay_27 : decode cX8_lay 27 = .ok (.aload_n 0, 1) := by decide +kernel
theorem dX8_lay_28 : decode cX8_lay 28 = .ok (.getfield 44, 3) := by decide +kernel
theorem dX8_lay_31 : decode cX8_lay 31 = .ok (.iload_n 1, 1) := by decide +kernel
theorem dX8_lay_32 : decode cX8_lay 32 = .ok (.iaload, 1) := by decide +kernel
theorem dX8_lay_33 : decode cX8_lay 33 = .ok (.iconst 1, 1) := by decide +kernel
theorem dX8_lay_34 : decode cX8_lay 34 = .ok (.isub, 1) := by decide +kernel
theorem dX8_lay_35 : decode cX8_lay 35 = .ok (.i2l, 1) := by decide +kernel
theorem dX8_lay_36 : decode cX8_lay 36 = .ok (.invokestatic 72, 3) := by decide +kernel
theorem dX8_lay_39 : decode cX8_lay 39 = .ok (.ifCond .ne 6, 3) := by decide +kernel
theorem dX8_lay_42 : decode cX8_lay 42 = .ok (.bipush (-12), 2) := by decide +kernel
theorem dX8_lay_44 : decode cX8_lay 44 = .ok (.ireturn, 1) := by decide +kernel
theorem dX8_lay_45 : decode cX8_lay 45 = .ok (.aload_n 0, 1) := by decide +kernel
theorem dX8_lay_46 : decode cX8_lay 46 = .ok (.getfield 47, 3) := by decide +kernel
theorem dX8_lay_49 : decode cX8_lay 49 = .ok (.bipush 40, 2) := by decide +kernel
theorem dX8_lay_51 : decode cX8_lay 51 = .ok (.iload_n 1, 1) := by decide +kernel
theorem dX8_lay_52 : decode cX8_lay 52 = .ok (.imul, 1) := by decide +kernel
theorem dX8_lay_53 : decode cX8_lay 53 = .ok (.iload_n 2, 1) := by decide +kernel
theorem dX8_lay_54 : decode cX8_lay 54 = .ok (.iadd, 1) := by decide +kernel
theorem dX8_lay_55 : decode cX8_lay 55 = .ok (.aload_n 0, 1) := by decide +kernel
theorem dX8_lay_56 : decode cX8_lay 56 = .ok (.getfield 41, 3) := by decide +kernel
theorem dX8_lay_59 : decode cX8_lay 59 = .ok (.iload_n 1, 1) := by decide +kernel
theorem dX8_lay_60 : decode cX8_lay 60 = .ok (.iaload, 1) := by decide +kernel
theorem dX8_lay_61 : decode cX8_lay 61 = .ok (.ifCond .ne 8, 3) := by decide +kernel
theorem dX8_lay_64 : decode cX8_lay 64 = .ok (.iload_n 3, 1) := by decide +kernel
theorem dX8_lay_65 : decode cX8_lay 65 = .ok (.i2b, 1) := by decide +kernel
theorem dX8_lay_66 : decode cX8_lay 66 = .ok (.goto 19, 3) := by decide +kernel
theorem dX8_lay_69 : decode cX8_lay 69 = .ok (.aload_n 0, 1) := by decide +kernel
theorem dX8_lay_70 : decode cX8_lay 70 = .ok (.getfield 41, 3) := by decide +kernel
theorem dX8_lay_73 : decode cX8_lay 73 = .ok (.iload_n 1, 1) := by decide +kernel
theorem dX8_lay_74 : decode cX8_lay 74 = .ok (.iaload, 1) := by decide +kernel
theorem dX8_lay_75 : decode cX8_lay 75 = .ok (.iconst 1, 1) := by decide +kernel
theorem dX8_lay_76 : decode cX8_lay 76 = .ok (.if_icmp .ne 8, 3) := by decide +kernel
theorem dX8_lay_79 : decode cX8_lay 79 = .ok (.iload_n 3, 1) := by decide +kernel
theorem dX8_lay_80 : decode cX8_lay 80 = .ok (.i2s, 1) := by decide +kernel
theorem dX8_lay_81 : decode cX8_lay 81 = .ok (.goto 4, 3) := by decide +kernel
theorem dX8_lay_84 : decode cX8_lay 84 = .ok (.iload_n 3, 1) := by decide +kernel
theorem dX8_lay_85 : decode cX8_lay 85 = .ok (.iastore, 1) := by decide +kernel
theorem dX8_lay_86 : decode cX8_lay 86 = .ok (.iconst 1, 1) := by decide +kernel
theorem dX8_lay_87 : decode cX8_lay 87 = .ok (.ireturn, 1) := by decide +kernel
theorem dX8_read_0 : decode cX8_read 0 = .ok (.iload_n 1, 1) := by decide +kernel
theorem dX8_read_1 : decode cX8_read 1 = .ok (.iload_n 2, 1) := by decide +kernel
theorem dX8_read_2 : decode cX8_read 2 = .ok (.invokestatic 294, 3) := by decide +kernel
theorem dX8_read_5 : decode cX8_read 5 = .ok (.ifCond .eq 16, 3) := by decide +kernel
theorem dX8_read_8 : decode cX8_read 8 = .ok (.iload 4, 2) := by decide +kernel
theorem dX8_read_10 : decode cX8_read 10 = .ok (.i2l, 1) := by decide +kernel
theorem dX8_read_11 : decode cX8_read 11 = .ok (.lconst 0, 1) := by decide +kernel
theorem dX8_read_12 : decode cX8_read 12 = .ok (.ldc2_w 297, 3) := by decide +kernel
theorem dX8_read_15 : decode cX8_read 15 = .ok (.invokestatic 72, 3) := by decide +kernel
theorem dX8_read_18 : decode cX8_read 18 = .ok (.ifCond .ne 5, 3) := by decide +kernel
theorem dX8_read_21 : decode cX8_read 21 = .ok (.iconst (-1), 1) := by decide +kernel
theorem dX8_read_22 : decode cX8_read 22 = .ok (.ireturn, 1) := by decide +kernel
theorem dX8_read_23 : decode cX8_read 23 = .ok (.iconst 0, 1) := by decide +kernel
theorem dX8_read_24 : decode cX8_read 24 = .ok (.istore 5, 2) := by decide +kernel
theorem dX8_read_26 : decode cX8_read 26 = .ok (.iconst 0, 1) := by decide +kernel
theorem dX8_read_27 : decode cX8_read 27 = .ok (.istore 6, 2) := by decide +kernel
theorem dX8_read_29 : decode cX8_read 29 = .ok (.iconst 0, 1) := by decide +kernel
theorem dX8_read_30 : decode cX8_read 30 = .ok (.istore 7, 2) := by decide +kernel
theorem dX8_read_32 : decode cX8_read 32 = .ok (.iload 7, 2) := by decide +kernel
theorem dX8_read_34 : decode cX8_read 34 = .ok (.iload 4, 2) := by decide +kernel
theorem dX8_read_36 : decode cX8_read 36 = .ok (.if_icmp .ge 196, 3) := by decide +kernel
theorem dX8_read_39 : decode cX8_read 39 = .ok (.iload 5, 2) := by decide +kernel
theorem dX8_read_41 : decode cX8_read 41 = .ok (.ifCond .ne 191, 3) := by decide +kernel
theorem dX8_read_44 : decode cX8_read 44 = .ok (.iconst 0, 1) := by decide +kernel
theorem dX8_read_45 : decode cX8_read 45 = .ok (.istore 8, 2) := by decide +kernel
theorem dX8_read_47 : decode cX8_read 47 = .ok (.iload 8, 2) := by decide +kernel
theorem dX8_read_49 : decode cX8_read 49 = .ok (.iconst 3, 1) := by decide +kernel
theorem dX8_read_50 : decode cX8_read 50 = .ok (.if_icmp .ge 84, 3) := by decide +kernel
theorem dX8_read_53 : decode cX8_read 53 = .ok (.iload 5, 2) := by decide +kernel
theorem dX8_read_55 : decode cX8_read 55 = .ok (.ifCond .ne 79, 3) := by decide +kernel
theorem dX8_read_58 : decode cX8_read 58 = .ok (.iload_n 3, 1) := by decide +kernel
theorem dX8_read_59 : decode cX8_read 59 = .ok (.i2l, 1) := by decide +kernel
theorem dX8_read_60 : decode cX8_read 60 = .ok (.iconst 3, 1) := by decide +kernel
theorem dX8_read_61 : decode cX8_read 61 = .ok (.iload 7, 2) := by decide +kernel
theorem dX8_read_63 : decode cX8_read 63 = .ok (.imul, 1) := by decide +kernel
theorem dX8_read_64 : decode cX8_read 64 = .ok (.i2l, 1) := by decide +kernel
theorem dX8_read_65 : decode cX8_read 65 = .ok (.ladd, 1) := by decide +kernel
theorem dX8_read_66 : decode cX8_read 66 = .ok (.iload 8, 2) := by decide +kernel
theorem dX8_read_68 : decode cX8_read 68 = .ok (.i2l, 1) := by decide +kernel
theorem dX8_read_69 : decode cX8_read 69 = .ok (.ladd, 1) := by decide +kernel
theorem dX8_read_70 : decode cX8_read 70 = .ok (.lstore 9, 2) := by decide +kernel
theorem dX8_read_72 : decode cX8_read 72 = .ok (.aload_n 0, 1) := by decide +kernel
theorem dX8_read_73 : decode cX8_read 73 = .ok (.getfield 41, 3) := by decide +kernel
theorem dX8_read_76 : decode cX8_read 76 = .ok (.iload_n 1, 1) := by decide +kernel
theorem dX8_read_77 : decode cX8_read 77 = .ok (.iaload, 1) := by decide +kernel
theorem dX8_read_78 : decode cX8_read 78 = .ok (.bipush (-4), 2) := by decide +kernel
theorem dX8_read_80 : decode cX8_read 80 = .ok (.if_icmp .ne 7, 3) := by decide +kernel
theorem dX8_read_83 : decode cX8_read 83 = .ok (.iconst 1, 1) := by decide +kernel
theorem dX8_read_84 : decode cX8_read 84 = .ok (.goto 42, 3) := by decide +kernel
theorem dX8_read_87 : decode cX8_read 87 = .ok (.aload_n 0, 1) := by decide +kernel
theorem dX8_read_88 : decode cX8_read 88 = .ok (.getfield 41, 3) := by decide +kernel
theorem dX8_read_91 : decode cX8_read 91 = .ok (.iload_n 1, 1) := by decide +kernel
theorem dX8_read_92 : decode cX8_read 92 = .ok (.iaload, 1) := by decide +kernel
theorem dX8_read_93 : decode cX8_read 93 = .ok (.iload_n 2, 1) := by decide +kernel
theorem dX8_read_94 : decode cX8_read 94 = .ok (.if_icmp .eq 7, 3) := by decide +kernel
theorem dX8_read_97 : decode cX8_read 97 = .ok (.iconst 3, 1) := by decide +kernel
theorem dX8_read_98 : decode cX8_read 98 = .ok (.goto 28, 3) := by decide +kernel
theorem dX8_read_101 : decode cX8_read 101 = .ok (.lload 9, 2) := by decide +kernel
theorem dX8_read_103 : decode cX8_read 103 = .ok (.lconst 0, 1) := by decide +kernel
theorem dX8_read_104 : decode cX8_read 104 = .ok (.lcmp, 1) := by decide +kernel
theorem dX8_read_105 : decode cX8_read 105 = .ok (.ifCond .lt 16, 3) := by decide +kernel
theorem dX8_read_108 : decode cX8_read 108 = .ok (.lload 9, 2) := by decide +kernel
theorem dX8_read_110 : decode cX8_read 110 = .ok (.aload_n 0, 1) := by decide +kernel
theorem dX8_read_111 : decode cX8_read 111 = .ok (.getfield 44, 3) := by decide +kernel
theorem dX8_read_114 : decode cX8_read 114 = .ok (.iload_n 1, 1) := by decide +kernel
theorem dX8_read_115 : decode cX8_read 115 = .ok (.iaload, 1) := by decide +kernel
theorem dX8_read_116 : decode cX8_read 116 = .ok (.i2l, 1) := by decide +kernel
theorem dX8_read_117 : decode cX8_read 117 = .ok (.lcmp, 1) := by decide +kernel
theorem dX8_read_118 : decode cX8_read 118 = .ok (.ifCond .lt 7, 3) := by decide +kernel
theorem dX8_read_121 : decode cX8_read 121 = .ok (.iconst 2, 1) := by decide +kernel
theorem dX8_read_122 : decode cX8_read 122 = .ok (.goto 4, 3) := by decide +kernel
theorem dX8_read_125 : decode cX8_read 125 = .ok (.iconst 0, 1) := by decide +kernel
theorem dX8_read_126 : decode cX8_read 126 = .ok (.istore 5, 2) := by decide +kernel
theorem dX8_read_128 : decode cX8_read 128 = .ok (.iinc 8 1, 3) := by decide +kernel
theorem dX8_read_131 : decode cX8_read 131 = .ok (.goto (-84), 3) := by decide +kernel
theorem dX8_read_134 : decode cX8_read 134 = .ok (.iload 5, 2) := by decide +kernel
theorem dX8_read_136 : decode cX8_read 136 = .ok (.ifCond .ne 90, 3) := by decide +kernel
theorem dX8_read_139 : decode cX8_read 139 = .ok (.bipush 40, 2) := by decide +kernel
theorem dX8_read_141 : decode cX8_read 141 = .ok (.iload_n 1, 1) := by decide +kernel
theorem dX8_read_142 : decode cX8_read 142 = .ok (.imul, 1) := by decide +kernel
theorem dX8_read_143 : decode cX8_read 143 = .ok (.iload_n 3, 1) := by decide +kernel
theorem dX8_read_144 : decode cX8_read 144 = .ok (.iadd, 1) := by decide +kernel
theorem dX8_read_145 : decode cX8_read 145 = .ok (.iconst 3, 1) := by decide +kernel
theorem dX8_read_146 : decode cX8_read 146 = .ok (.iload 7, 2) := by decide +kernel
theorem dX8_read_148 : decode cX8_read 148 = .ok (.imul, 1) := by decide +kernel
theorem dX8_read_149 : decode cX8_read 149 = .ok (.iadd, 1) := by decide +kernel
theorem dX8_read_150 : decode cX8_read 150 = .ok (.istore 8, 2) := by decide +kernel
theorem dX8_read_152 : decode cX8_read 152 = .ok (.aload_n 0, 1) := by decide +kernel
theorem dX8_read_153 : decode cX8_read 153 = .ok (.getfield 47, 3) := by decide +kernel
theorem dX8_read_156 : decode cX8_read 156 = .ok (.iload 8, 2) := by decide +kernel
theorem dX8_read_158 : decode cX8_read 158 = .ok (.iaload, 1) := by decide +kernel
theorem dX8_read_159 : decode cX8_read 159 = .ok (.invokestatic 174, 3) := by decide +kernel
theorem dX8_read_162 : decode cX8_read 162 = .ok (.ifCond .eq 37, 3) := by decide +kernel
theorem dX8_read_165 : decode cX8_read 165 = .ok (.aload_n 0, 1) := by decide +kernel
theorem dX8_read_166 : decode cX8_read 166 = .ok (.aload_n 0, 1) := by decide +kernel
theorem dX8_read_167 : decode cX8_read 167 = .ok (.getfield 47, 3) := by decide +kernel
theorem dX8_read_170 : decode cX8_read 170 = .ok (.iload 8, 2) := by decide +kernel
theorem dX8_read_172 : decode cX8_read 172 = .ok (.iconst 1, 1) := by decide +kernel
theorem dX8_read_173 : decode cX8_read 173 = .ok (.iadd, 1) := by decide +kernel
theorem dX8_read_174 : decode cX8_read 174 = .ok (.iaload, 1) := by decide +kernel
theorem dX8_read_175 : decode cX8_read 175 = .ok (.invokevirtual 202, 3) := by decide +kernel
theorem dX8_read_178 : decode cX8_read 178 = .ok (.ifCond .eq 21, 3) := by decide +kernel
theorem dX8_read_181 : decode cX8_read 181 = .ok (.aload_n 0, 1) := by decide +kernel
theorem dX8_read_182 : decode cX8_read 182 = .ok (.getfield 47, 3) := by decide +kernel
theorem dX8_read_185 : decode cX8_read 185 = .ok (.iload 8, 2) := by decide +kernel
theorem dX8_read_187 : decode cX8_read 187 = .ok (.iconst 2, 1) := by decide +kernel
theorem dX8_read_188 : decode cX8_read 188 = .ok (.iadd, 1) := by decide +kernel
theorem dX8_read_189 : decode cX8_read 189 = .ok (.iaload, 1) := by decide +kernel
theorem dX8_read_190 : decode cX8_read 190 = .ok (.i2l, 1) := by decide +kernel
theorem dX8_read_191 : decode cX8_read 191 = .ok (.lconst 0, 1) := by decide +kernel
theorem dX8_read_192 : decode cX8_read 192 = .ok (.lconst 1, 1) := by decide +kernel
theorem dX8_read_193 : decode cX8_read 193 = .ok (.invokestatic 72, 3) := by decide +kernel
theorem dX8_read_196 : decode cX8_read 196 = .ok (.ifCond .ne 9, 3) := by decide +kernel
theorem dX8_read_199 : decode cX8_read 199 = .ok (.bipush (-20), 2) := by decide +kernel
theorem dX8_read_201 : decode cX8_read 201 = .ok (.iload 7, 2) := by decide +kernel
theorem dX8_read_203 : decode cX8_read 203 = .ok (.isub, 1) := by decide +kernel
theorem dX8_read_204 : decode cX8_read 204 = .ok (.ireturn, 1) := by decide +kernel
theorem dX8_read_205 : decode cX8_read 205 = .ok (.aload_n 0, 1) := by decide +kernel
theorem dX8_read_206 : decode cX8_read 206 = .ok (.getfield 7, 3) := by decide +kernel
theorem dX8_read_209 : decode cX8_read 209 = .ok (.bipush 54, 2) := by decide +kernel
theorem dX8_read_211 : decode cX8_read 211 = .ok (.iaload, 1) := by decide +kernel
theorem dX8_read_212 : decode cX8_read 212 = .ok (.iload 6, 2) := by decide +kernel
theorem dX8_read_214 : decode cX8_read 214 = .ok (.iadd, 1) := by decide +kernel
theorem dX8_read_215 : decode cX8_read 215 = .ok (.bipush 12, 2) := by decide +kernel
theorem dX8_read_217 : decode cX8_read 217 = .ok (.if_icmp .ne 6, 3) := by decide +kernel
theorem dX8_read_220 : decode cX8_read 220 = .ok (.bipush (-3), 2) := by decide +kernel
theorem dX8_read_222 : decode cX8_read 222 = .ok (.ireturn, 1) := by decide +kernel
theorem dX8_read_223 : decode cX8_read 223 = .ok (.iinc 6 1, 3) := by decide +kernel
theorem dX8_read_226 : decode cX8_read 226 = .ok (.iinc 7 1, 3) := by decide +kernel
theorem dX8_read_229 : decode cX8_read 229 = .ok (.goto (-197), 3) := by decide +kernel
theorem dX8_read_232 : decode cX8_read 232 = .ok (.aload_n 0, 1) := by decide +kernel
theorem dX8_read_233 : decode cX8_read 233 = .ok (.iload 5, 2) := by decide +kernel
theorem dX8_read_235 : decode cX8_read 235 = .ok (.putfield 299, 3) := by decide +kernel
theorem dX8_read_238 : decode cX8_read 238 = .ok (.iconst 0, 1) := by decide +kernel
theorem dX8_read_239 : decode cX8_read 239 = .ok (.istore 7, 2) := by decide +kernel
theorem dX8_read_241 : decode cX8_read 241 = .ok (.iload 7, 2) := by decide +kernel
theorem dX8_read_243 : decode cX8_read 243 = .ok (.iload 6, 2) := by decide +kernel
theorem dX8_read_245 : decode cX8_read 245 = .ok (.if_icmp .ge 61, 3) := by decide +kernel
theorem dX8_read_248 : decode cX8_read 248 = .ok (.bipush 40, 2) := by decide +kernel
theorem dX8_read_250 : decode cX8_read 250 = .ok (.iload_n 1, 1) := by decide +kernel
theorem dX8_read_251 : decode cX8_read 251 = .ok (.imul, 1) := by decide +kernel
theorem dX8_read_252 : decode cX8_read 252 = .ok (.iload_n 3, 1) := by decide +kernel
theorem dX8_read_253 : decode cX8_read 253 = .ok (.iadd, 1) := by decide +kernel
theorem dX8_read_254 : decode cX8_read 254 = .ok (.iconst 3, 1) := by decide +kernel
theorem dX8_read_255 : decode cX8_read 255 = .ok (.iload 7, 2) := by decide +kernel
theorem dX8_read_257 : decode cX8_read 257 = .ok (.imul, 1) := by decide +kernel
theorem dX8_read_258 : decode cX8_read 258 = .ok (.iadd, 1) := by decide +kernel
theorem dX8_read_259 : decode cX8_read 259 = .ok (.istore 8, 2) := by decide +kernel
theorem dX8_read_261 : decode cX8_read 261 = .ok (.aload_n 0, 1) := by decide +kernel
theorem dX8_read_262 : decode cX8_read 262 = .ok (.aload_n 0, 1) := by decide +kernel
theorem dX8_read_263 : decode cX8_read 263 = .ok (.getfield 47, 3) := by decide +kernel
theorem dX8_read_266 : decode cX8_read 266 = .ok (.iload 8, 2) := by decide +kernel
theorem dX8_read_268 : decode cX8_read 268 = .ok (.iaload, 1) := by decide +kernel
theorem dX8_read_269 : decode cX8_read 269 = .ok (.aload_n 0, 1) := by decide +kernel
theorem dX8_read_270 : decode cX8_read 270 = .ok (.getfield 47, 3) := by decide +kernel
theorem dX8_read_273 : decode cX8_read 273 = .ok (.iload 8, 2) := by decide +kernel
theorem dX8_read_275 : decode cX8_read 275 = .ok (.iconst 1, 1) := by decide +kernel
theorem dX8_read_276 : decode cX8_read 276 = .ok (.iadd, 1) := by decide +kernel
theorem dX8_read_277 : decode cX8_read 277 = .ok (.iaload, 1) := by decide +kernel
theorem dX8_read_278 : decode cX8_read 278 = .ok (.aload_n 0, 1) := by decide +kernel
theorem dX8_read_279 : decode cX8_read 279 = .ok (.getfield 47, 3) := by decide +kernel
theorem dX8_read_282 : decode cX8_read 282 = .ok (.iload 8, 2) := by decide +kernel
theorem dX8_read_284 : decode cX8_read 284 = .ok (.iconst 2, 1) := by decide +kernel
theorem dX8_read_285 : decode cX8_read 285 = .ok (.iadd, 1) := by decide +kernel
theorem dX8_read_286 : decode cX8_read 286 = .ok (.iaload, 1) := by decide +kernel
theorem dX8_read_287 : decode cX8_read 287 = .ok (.iconst 1, 1) := by decide +kernel
theorem dX8_read_288 : decode cX8_read 288 = .ok (.if_icmp .ne 7, 3) := by decide +kernel
theorem dX8_read_291 : decode cX8_read 291 = .ok (.iconst 1, 1) := by decide +kernel
theorem dX8_read_292 : decode cX8_read 292 = .ok (.goto 4, 3) := by decide +kernel
theorem dX8_read_295 : decode cX8_read 295 = .ok (.iconst 0, 1) := by decide +kernel
theorem dX8_read_296 : decode cX8_read 296 = .ok (.invokevirtual 302, 3) := by decide +kernel
theorem dX8_read_299 : decode cX8_read 299 = .ok (.pop, 1) := by decide +kernel
theorem dX8_read_300 : decode cX8_read 300 = .ok (.iinc 7 1, 3) := by decide +kernel
theorem dX8_read_303 : decode cX8_read 303 = .ok (.goto (-62), 3) := by decide +kernel
theorem dX8_read_306 : decode cX8_read 306 = .ok (.iload 6, 2) := by decide +kernel
theorem dX8_read_308 : decode cX8_read 308 = .ok (.ireturn, 1) := by decide +kernel
theorem dX8_torn_0 : decode cX8_torn 0 = .ok (.aload_n 0, 1) := by decide +kernel
theorem dX8_torn_1 : decode cX8_torn 1 = .ok (.getfield 299, 3) := by decide +kernel
theorem dX8_torn_4 : decode cX8_torn 4 = .ok (.ireturn, 1) := by decide +kernel
theorem dX8_count_0 : decode cX8_count 0 = .ok (.iconst 0, 1) := by decide +kernel
theorem dX8_count_1 : decode cX8_count 1 = .ok (.istore_n 2, 1) := by decide +kernel
theorem dX8_count_2 : decode cX8_count 2 = .ok (.iconst 0, 1) := by decide +kernel
theorem dX8_count_3 : decode cX8_count 3 = .ok (.istore_n 3, 1) := by decide +kernel
theorem dX8_count_4 : decode cX8_count 4 = .ok (.iload_n 3, 1) := by decide +kernel
theorem dX8_count_5 : decode cX8_count 5 = .ok (.aload_n 0, 1) := by decide +kernel
theorem dX8_count_6 : decode cX8_count 6 = .ok (.getfield 7, 3) := by decide +kernel
theorem dX8_count_9 : decode cX8_count 9 = .ok (.bipush 53, 2) := by decide +kernel
theorem dX8_count_11 : decode cX8_count 11 = .ok (.iaload, 1) := by decide +kernel
theorem dX8_count_12 : decode cX8_count 12 = .ok (.if_icmp .ge 18, 3) := by decide +kernel
theorem dX8_count_15 : decode cX8_count 15 = .ok (.iload_n 2, 1) := by decide +kernel
theorem dX8_count_16 : decode cX8_count 16 = .ok (.aload_n 0, 1) := by decide +kernel
theorem dX8_count_17 : decode cX8_count 17 = .ok (.iload_n 3, 1) := by decide +kernel
theorem dX8_count_18 : decode cX8_count 18 = .ok (.iconst 4, 1) := by decide +kernel
theorem dX8_count_19 : decode cX8_count 19 = .ok (.invokevirtual 153, 3) := by decide +kernel
theorem dX8_count_22 : decode cX8_count 22 = .ok (.iadd, 1) := by decide +kernel
theorem dX8_count_23 : decode cX8_count 23 = .ok (.istore_n 2, 1) := by decide +kernel
theorem dX8_count_24 : decode cX8_count 24 = .ok (.iinc 3 1, 3) := by decide +kernel
theorem dX8_count_27 : decode cX8_count 27 = .ok (.goto (-23), 3) := by decide +kernel
theorem dX8_count_30 : decode cX8_count 30 = .ok (.iload_n 1, 1) := by decide +kernel
theorem dX8_count_31 : decode cX8_count 31 = .ok (.tableswitch 103 0 5 #[37, 45, 47, 55, 75, 80], 37) := by decide +kernel
theorem dX8_count_68 : decode cX8_count 68 = .ok (.aload_n 0, 1) := by decide +kernel
theorem dX8_count_69 : decode cX8_count 69 = .ok (.getfield 7, 3) := by decide +kernel
theorem dX8_count_72 : decode cX8_count 72 = .ok (.bipush 53, 2) := by decide +kernel
theorem dX8_count_74 : decode cX8_count 74 = .ok (.iaload, 1) := by decide +kernel
theorem dX8_count_75 : decode cX8_count 75 = .ok (.ireturn, 1) := by decide +kernel
theorem dX8_count_76 : decode cX8_count 76 = .ok (.iload_n 2, 1) := by decide +kernel
theorem dX8_count_77 : decode cX8_count 77 = .ok (.ireturn, 1) := by decide +kernel
theorem dX8_count_78 : decode cX8_count 78 = .ok (.aload_n 0, 1) := by decide +kernel
theorem dX8_count_79 : decode cX8_count 79 = .ok (.getfield 7, 3) := by decide +kernel
theorem dX8_count_82 : decode cX8_count 82 = .ok (.bipush 54, 2) := by decide +kernel
theorem dX8_count_84 : decode cX8_count 84 = .ok (.iaload, 1) := by decide +kernel
theorem dX8_count_85 : decode cX8_count 85 = .ok (.ireturn, 1) := by decide +kernel
theorem dX8_count_86 : decode cX8_count 86 = .ok (.aload_n 0, 1) := by decide +kernel
theorem dX8_count_87 : decode cX8_count 87 = .ok (.getfield 13, 3) := by decide +kernel
theorem dX8_count_90 : decode cX8_count 90 = .ok (.iconst 0, 1) := by decide +kernel
theorem dX8_count_91 : decode cX8_count 91 = .ok (.baload, 1) := by decide +kernel
theorem dX8_count_92 : decode cX8_count 92 = .ok (.invokestatic 63, 3) := by decide +kernel
theorem dX8_count_95 : decode cX8_count 95 = .ok (.aload_n 0, 1) := by decide +kernel
theorem dX8_count_96 : decode cX8_count 96 = .ok (.getfield 13, 3) := by decide +kernel
theorem dX8_count_99 : decode cX8_count 99 = .ok (.iconst 1, 1) := by decide +kernel
theorem dX8_count_100 : decode cX8_count 100 = .ok (.baload, 1) := by decide +kernel
theorem dX8_count_101 : decode cX8_count 101 = .ok (.invokestatic 63, 3) := by decide +kernel
theorem dX8_count_104 : decode cX8_count 104 = .ok (.iadd, 1) := by decide +kernel
theorem dX8_count_105 : decode cX8_count 105 = .ok (.ireturn, 1) := by decide +kernel
theorem dX8_count_106 : decode cX8_count 106 = .ok (.aload_n 0, 1) := by decide +kernel
theorem dX8_count_107 : decode cX8_count 107 = .ok (.getfield 67, 3) := by decide +kernel
theorem dX8_count_110 : decode cX8_count 110 = .ok (.ireturn, 1) := by decide +kernel
theorem dX8_count_111 : decode cX8_count 111 = .ok (.aload_n 0, 1) := by decide +kernel
theorem dX8_count_112 : decode cX8_count 112 = .ok (.getfield 41, 3) := by decide +kernel
theorem dX8_count_115 : decode cX8_count 115 = .ok (.iconst 0, 1) := by decide +kernel
theorem dX8_count_116 : decode cX8_count 116 = .ok (.iaload, 1) := by decide +kernel
theorem dX8_count_117 : decode cX8_count 117 = .ok (.bipush (-4), 2) := by decide +kernel
theorem dX8_count_119 : decode cX8_count 119 = .ok (.if_icmp .ne 8, 3) := by decide +kernel
theorem dX8_count_122 : decode cX8_count 122 = .ok (.bipush (-4), 2) := by decide +kernel
theorem dX8_count_124 : decode cX8_count 124 = .ok (.goto 9, 3) := by decide +kernel
theorem dX8_count_127 : decode cX8_count 127 = .ok (.aload_n 0, 1) := by decide +kernel
theorem dX8_count_128 : decode cX8_count 128 = .ok (.getfield 44, 3) := by decide +kernel
theorem dX8_count_131 : decode cX8_count 131 = .ok (.iconst 0, 1) := by decide +kernel
theorem dX8_count_132 : decode cX8_count 132 = .ok (.iaload, 1) := by decide +kernel
theorem dX8_count_133 : decode cX8_count 133 = .ok (.ireturn, 1) := by decide +kernel
theorem dX8_count_134 : decode cX8_count 134 = .ok (.iconst (-1), 1) := by decide +kernel
theorem dX8_count_135 : decode cX8_count 135 = .ok (.ireturn, 1) := by decide +kernel

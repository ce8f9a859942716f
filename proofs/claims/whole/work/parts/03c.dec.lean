theorem dX8_firstDraft_16 : decode cX8_firstDraft 16 = .ok (.iastore, 1) := by decide +kernel
theorem dX8_firstDraft_17 : decode cX8_firstDraft 17 = .ok (.aload_n 0, 1) := by decide +kernel
theorem dX8_firstDraft_18 : decode cX8_firstDraft 18 = .ok (.getfield 23, 3) := by decide +kernel
theorem dX8_firstDraft_21 : decode cX8_firstDraft 21 = .ok (.iconst 2, 1) := by decide +kernel
theorem dX8_firstDraft_22 : decode cX8_firstDraft 22 = .ok (.sipush 293, 3) := by decide +kernel
theorem dX8_firstDraft_25 : decode cX8_firstDraft 25 = .ok (.iastore, 1) := by decide +kernel
theorem dX8_firstDraft_26 : decode cX8_firstDraft 26 = .ok (.aload_n 0, 1) := by decide +kernel
theorem dX8_firstDraft_27 : decode cX8_firstDraft 27 = .ok (.getfield 23, 3) := by decide +kernel
theorem dX8_firstDraft_30 : decode cX8_firstDraft 30 = .ok (.iconst 3, 1) := by decide +kernel
theorem dX8_firstDraft_31 : decode cX8_firstDraft 31 = .ok (.bipush 8, 2) := by decide +kernel
theorem dX8_firstDraft_33 : decode cX8_firstDraft 33 = .ok (.iastore, 1) := by decide +kernel
theorem dX8_firstDraft_34 : decode cX8_firstDraft 34 = .ok (.aload_n 0, 1) := by decide +kernel
theorem dX8_firstDraft_35 : decode cX8_firstDraft 35 = .ok (.getfield 23, 3) := by decide +kernel
theorem dX8_firstDraft_38 : decode cX8_firstDraft 38 = .ok (.iconst 4, 1) := by decide +kernel
theorem dX8_firstDraft_39 : decode cX8_firstDraft 39 = .ok (.sipush 201, 3) := by decide +kernel
theorem dX8_firstDraft_42 : decode cX8_firstDraft 42 = .ok (.iastore, 1) := by decide +kernel
theorem dX8_firstDraft_43 : decode cX8_firstDraft 43 = .ok (.aload_n 0, 1) := by decide +kernel
theorem dX8_firstDraft_44 : decode cX8_firstDraft 44 = .ok (.getfield 23, 3) := by decide +kernel
theorem dX8_firstDraft_47 : decode cX8_firstDraft 47 = .ok (.iconst 5, 1) := by decide +kernel
theorem dX8_firstDraft_48 : decode cX8_firstDraft 48 = .ok (.iconst 0, 1) := by decide +kernel
theorem dX8_firstDraft_49 : decode cX8_firstDraft 49 = .ok (.iastore, 1) := by decide +kernel
theorem dX8_firstDraft_50 : decode cX8_firstDraft 50 = .ok (.aload_n 0, 1) := by decide +kernel
theorem dX8_firstDraft_51 : decode cX8_firstDraft 51 = .ok (.getfield 23, 3) := by decide +kernel
theorem dX8_firstDraft_54 : decode cX8_firstDraft 54 = .ok (.bipush 6, 2) := by decide +kernel
theorem dX8_firstDraft_56 : decode cX8_firstDraft 56 = .ok (.iconst 0, 1) := by decide +kernel
theorem dX8_firstDraft_57 : decode cX8_firstDraft 57 = .ok (.iastore, 1) := by decide +kernel
theorem dX8_firstDraft_58 : decode cX8_firstDraft 58 = .ok (.iconst 0, 1) := by decide +kernel
theorem dX8_firstDraft_59 : decode cX8_firstDraft 59 = .ok (.istore_n 1, 1) := by decide +kernel
theorem dX8_firstDraft_60 : decode cX8_firstDraft 60 = .ok (.iload_n 1, 1) := by decide +kernel
theorem dX8_firstDraft_61 : decode cX8_firstDraft 61 = .ok (.bipush 24, 2) := by decide +kernel
theorem dX8_firstDraft_63 : decode cX8_firstDraft 63 = .ok (.if_icmp .ge 16, 3) := by decide +kernel
theorem dX8_firstDraft_66 : decode cX8_firstDraft 66 = .ok (.aload_n 0, 1) := by decide +kernel
theorem dX8_firstDraft_67 : decode cX8_firstDraft 67 = .ok (.getfield 26, 3) := by decide +kernel
theorem dX8_firstDraft_70 : decode cX8_firstDraft 70 = .ok (.iload_n 1, 1) := by decide +kernel
theorem dX8_firstDraft_71 : decode cX8_firstDraft 71 = .ok (.iconst 0, 1) := by decide +kernel
theorem dX8_firstDraft_72 : decode cX8_firstDraft 72 = .ok (.iastore, 1) := by decide +kernel
theorem dX8_firstDraft_73 : decode cX8_firstDraft 73 = .ok (.iinc 1 1, 3) := by decide +kernel
theorem dX8_firstDraft_76 : decode cX8_firstDraft 76 = .ok (.goto (-16), 3) := by decide +kernel
theorem dX8_firstDraft_79 : decode cX8_firstDraft 79 = .ok (.iconst 0, 1) := by decide +kernel
theorem dX8_firstDraft_80 : decode cX8_firstDraft 80 = .ok (.istore_n 1, 1) := by decide +kernel
theorem dX8_firstDraft_81 : decode cX8_firstDraft 81 = .ok (.iload_n 1, 1) := by decide +kernel
theorem dX8_firstDraft_82 : decode cX8_firstDraft 82 = .ok (.bipush 48, 2) := by decide +kernel
theorem dX8_firstDraft_84 : decode cX8_firstDraft 84 = .ok (.if_icmp .ge 16, 3) := by decide +kernel
theorem dX8_firstDraft_87 : decode cX8_firstDraft 87 = .ok (.aload_n 0, 1) := by decide +kernel
theorem dX8_firstDraft_88 : decode cX8_firstDraft 88 = .ok (.getfield 29, 3) := by decide +kernel
theorem dX8_firstDraft_91 : decode cX8_firstDraft 91 = .ok (.iload_n 1, 1) := by decide +kernel
theorem dX8_firstDraft_92 : decode cX8_firstDraft 92 = .ok (.iconst 0, 1) := by decide +kernel
theorem dX8_firstDraft_93 : decode cX8_firstDraft 93 = .ok (.iastore, 1) := by decide +kernel
theorem dX8_firstDraft_94 : decode cX8_firstDraft 94 = .ok (.iinc 1 1, 3) := by decide +kernel
theorem dX8_firstDraft_97 : decode cX8_firstDraft 97 = .ok (.goto (-16), 3) := by decide +kernel
theorem dX8_firstDraft_100 : decode cX8_firstDraft 100 = .ok (.aload_n 0, 1) := by decide +kernel
theorem dX8_firstDraft_101 : decode cX8_firstDraft 101 = .ok (.iconst 0, 1) := by decide +kernel
theorem dX8_firstDraft_102 : decode cX8_firstDraft 102 = .ok (.putfield 56, 3) := by decide +kernel
theorem dX8_firstDraft_105 : decode cX8_firstDraft 105 = .ok (.aload_n 0, 1) := by decide +kernel
theorem dX8_firstDraft_106 : decode cX8_firstDraft 106 = .ok (.iconst 0, 1) := by decide +kernel
theorem dX8_firstDraft_107 : decode cX8_firstDraft 107 = .ok (.putfield 60, 3) := by decide +kernel
theorem dX8_firstDraft_110 : decode cX8_firstDraft 110 = .ok (.return_, 1) := by decide +kernel
theorem dX8_keepDraft_0 : decode cX8_keepDraft 0 = .ok (.iconst 0, 1) := by decide +kernel
theorem dX8_keepDraft_1 : decode cX8_keepDraft 1 = .ok (.istore_n 1, 1) := by decide +kernel
theorem dX8_keepDraft_2 : decode cX8_keepDraft 2 = .ok (.iload_n 1, 1) := by decide +kernel
theorem dX8_keepDraft_3 : decode cX8_keepDraft 3 = .ok (.bipush 7, 2) := by decide +kernel
theorem dX8_keepDraft_5 : decode cX8_keepDraft 5 = .ok (.if_icmp .ge 21, 3) := by decide +kernel
theorem dX8_keepDraft_8 : decode cX8_keepDraft 8 = .ok (.aload_n 0, 1) := by decide +kernel
theorem dX8_keepDraft_9 : decode cX8_keepDraft 9 = .ok (.getfield 17, 3) := by decide +kernel
theorem dX8_keepDraft_12 : decode cX8_keepDraft 12 = .ok (.iload_n 1, 1) := by decide +kernel
theorem dX8_keepDraft_13 : decode cX8_keepDraft 13 = .ok (.aload_n 0, 1) := by decide +kernel
theorem dX8_keepDraft_14 : decode cX8_keepDraft 14 = .ok (.getfield 23, 3) := by decide +kernel
theorem dX8_keepDraft_17 : decode cX8_keepDraft 17 = .ok (.iload_n 1, 1) := by decide +kernel
theorem dX8_keepDraft_18 : decode cX8_keepDraft 18 = .ok (.iaload, 1) := by decide +kernel
theorem dX8_keepDraft_19 : decode cX8_keepDraft 19 = .ok (.iastore, 1) := by decide +kernel
theorem dX8_keepDraft_20 : decode cX8_keepDraft 20 = .ok (.iinc 1 1, 3) := by decide +kernel
theorem dX8_keepDraft_23 : decode cX8_keepDraft 23 = .ok (.goto (-21), 3) := by decide +kernel
theorem dX8_keepDraft_26 : decode cX8_keepDraft 26 = .ok (.iconst 0, 1) := by decide +kernel
theorem dX8_keepDraft_27 : decode cX8_keepDraft 27 = .ok (.istore_n 1, 1) := by decide +kernel
theorem dX8_keepDraft_28 : decode cX8_keepDraft 28 = .ok (.iload_n 1, 1) := by decide +kernel
theorem dX8_keepDraft_29 : decode cX8_keepDraft 29 = .ok (.bipush 24, 2) := by decide +kernel
theorem dX8_keepDraft_31 : decode cX8_keepDraft 31 = .ok (.if_icmp .ge 39, 3) := by decide +kernel
theorem dX8_keepDraft_34 : decode cX8_keepDraft 34 = .ok (.aload_n 0, 1) := by decide +kernel
theorem dX8_keepDraft_35 : decode cX8_keepDraft 35 = .ok (.getfield 20, 3) := by decide +kernel
theorem dX8_keepDraft_38 : decode cX8_keepDraft 38 = .ok (.iload_n 1, 1) := by decide +kernel
theorem dX8_keepDraft_39 : decode cX8_keepDraft 39 = .ok (.aload_n 0, 1) := by decide +kernel
theorem dX8_keepDraft_40 : decode cX8_keepDraft 40 = .ok (.getfield 26, 3) := by decide +kernel
theorem dX8_keepDraft_43 : decode cX8_keepDraft 43 = .ok (.iload_n 1, 1) := by decide +kernel
theorem dX8_keepDraft_44 : decode cX8_keepDraft 44 = .ok (.iaload, 1) := by decide +kernel
theorem dX8_keepDraft_45 : decode cX8_keepDraft 45 = .ok (.ifCond .ne 12, 3) := by decide +kernel
theorem dX8_keepDraft_48 : decode cX8_keepDraft 48 = .ok (.aload_n 0, 1) := by decide +kernel
theorem dX8_keepDraft_49 : decode cX8_keepDraft 49 = .ok (.getfield 23, 3) := by decide +kernel
theorem dX8_keepDraft_52 : decode cX8_keepDraft 52 = .ok (.iconst 2, 1) := by decide +kernel
theorem dX8_keepDraft_53 : decode cX8_keepDraft 53 = .ok (.iaload, 1) := by decide +kernel
theorem dX8_keepDraft_54 : decode cX8_keepDraft 54 = .ok (.goto 9, 3) := by decide +kernel
theorem dX8_keepDraft_57 : decode cX8_keepDraft 57 = .ok (.aload_n 0, 1) := by decide +kernel
theorem dX8_keepDraft_58 : decode cX8_keepDraft 58 = .ok (.getfield 26, 3) := by decide +kernel
theorem dX8_keepDraft_61 : decode cX8_keepDraft 61 = .ok (.iload_n 1, 1) := by decide +kernel
theorem dX8_keepDraft_62 : decode cX8_keepDraft 62 = .ok (.iaload, 1) := by decide +kernel
theorem dX8_keepDraft_63 : decode cX8_keepDraft 63 = .ok (.iastore, 1) := by decide +kernel
theorem dX8_keepDraft_64 : decode cX8_keepDraft 64 = .ok (.iinc 1 1, 3) := by decide +kernel
theorem dX8_keepDraft_67 : decode cX8_keepDraft 67 = .ok (.goto (-39), 3) := by decide +kernel
theorem dX8_keepDraft_70 : decode cX8_keepDraft 70 = .ok (.iconst 0, 1) := by decide +kernel
theorem dX8_keepDraft_71 : decode cX8_keepDraft 71 = .ok (.istore_n 1, 1) := by decide +kernel
theorem dX8_keepDraft_72 : decode cX8_keepDraft 72 = .ok (.iload_n 1, 1) := by decide +kernel
theorem dX8_keepDraft_73 : decode cX8_keepDraft 73 = .ok (.bipush 100, 2) := by decide +kernel
theorem dX8_keepDraft_75 : decode cX8_keepDraft 75 = .ok (.if_icmp .ge 31, 3) := by decide +kernel
theorem dX8_keepDraft_78 : decode cX8_keepDraft 78 = .ok (.aload_n 0, 1) := by decide +kernel
theorem dX8_keepDraft_79 : decode cX8_keepDraft 79 = .ok (.getfield 7, 3) := by decide +kernel
theorem dX8_keepDraft_82 : decode cX8_keepDraft 82 = .ok (.iload_n 1, 1) := by decide +kernel
theorem dX8_keepDraft_83 : decode cX8_keepDraft 83 = .ok (.iload_n 1, 1) := by decide +kernel
theorem dX8_keepDraft_84 : decode cX8_keepDraft 84 = .ok (.bipush 48, 2) := by decide +kernel
theorem dX8_keepDraft_86 : decode cX8_keepDraft 86 = .ok (.if_icmp .ge 12, 3) := by decide +kernel
theorem dX8_keepDraft_89 : decode cX8_keepDraft 89 = .ok (.aload_n 0, 1) := by decide +kernel
theorem dX8_keepDraft_90 : decode cX8_keepDraft 90 = .ok (.getfield 29, 3) := by decide +kernel
theorem dX8_keepDraft_93 : decode cX8_keepDraft 93 = .ok (.iload_n 1, 1) := by decide +kernel
theorem dX8_keepDraft_94 : decode cX8_keepDraft 94 = .ok (.iaload, 1) := by decide +kernel
theorem dX8_keepDraft_95 : decode cX8_keepDraft 95 = .ok (.goto 4, 3) := by decide +kernel
theorem dX8_keepDraft_98 : decode cX8_keepDraft 98 = .ok (.iconst 0, 1) := by decide +kernel
theorem dX8_keepDraft_99 : decode cX8_keepDraft 99 = .ok (.iastore, 1) := by decide +kernel
theorem dX8_keepDraft_100 : decode cX8_keepDraft 100 = .ok (.iinc 1 1, 3) := by decide +kernel
theorem dX8_keepDraft_103 : decode cX8_keepDraft 103 = .ok (.goto (-31), 3) := by decide +kernel
theorem dX8_keepDraft_106 : decode cX8_keepDraft 106 = .ok (.aload_n 0, 1) := by decide +kernel
theorem dX8_keepDraft_107 : decode cX8_keepDraft 107 = .ok (.getfield 7, 3) := by decide +kernel
theorem dX8_keepDraft_110 : decode cX8_keepDraft 110 = .ok (.bipush 49, 2) := by decide +kernel
theorem dX8_keepDraft_112 : decode cX8_keepDraft 112 = .ok (.aload_n 0, 1) := by decide +kernel
theorem dX8_keepDraft_113 : decode cX8_keepDraft 113 = .ok (.getfield 17, 3) := by decide +kernel
theorem dX8_keepDraft_116 : decode cX8_keepDraft 116 = .ok (.iconst 2, 1) := by decide +kernel
theorem dX8_keepDraft_117 : decode cX8_keepDraft 117 = .ok (.iaload, 1) := by decide +kernel
theorem dX8_keepDraft_118 : decode cX8_keepDraft 118 = .ok (.iastore, 1) := by decide +kernel
theorem dX8_keepDraft_119 : decode cX8_keepDraft 119 = .ok (.aload_n 0, 1) := by decide +kernel
theorem dX8_keepDraft_120 : decode cX8_keepDraft 120 = .ok (.getfield 7, 3) := by decide +kernel
theorem dX8_keepDraft_123 : decode cX8_keepDraft 123 = .ok (.bipush 51, 2) := by decide +kernel
theorem dX8_keepDraft_125 : decode cX8_keepDraft 125 = .ok (.aload_n 0, 1) := by decide +kernel
theorem dX8_keepDraft_126 : decode cX8_keepDraft 126 = .ok (.getfield 17, 3) := by decide +kernel
theorem dX8_keepDraft_129 : decode cX8_keepDraft 129 = .ok (.bipush 6, 2) := by decide +kernel
theorem dX8_keepDraft_131 : decode cX8_keepDraft 131 = .ok (.iaload, 1) := by decide +kernel
theorem dX8_keepDraft_132 : decode cX8_keepDraft 132 = .ok (.ifCond .le 7, 3) := by decide +kernel
theorem dX8_keepDraft_135 : decode cX8_keepDraft 135 = .ok (.iconst 1, 1) := by decide +kernel
theorem dX8_keepDraft_136 : decode cX8_keepDraft 136 = .ok (.goto 4, 3) := by decide +kernel
theorem dX8_keepDraft_139 : decode cX8_keepDraft 139 = .ok (.iconst 0, 1) := by decide +kernel
theorem dX8_keepDraft_140 : decode cX8_keepDraft 140 = .ok (.invokestatic 63, 3) := by decide +kernel
theorem dX8_keepDraft_143 : decode cX8_keepDraft 143 = .ok (.iastore, 1) := by decide +kernel
theorem dX8_keepDraft_144 : decode cX8_keepDraft 144 = .ok (.aload_n 0, 1) := by decide +kernel
theorem dX8_keepDraft_145 : decode cX8_keepDraft 145 = .ok (.getfield 7, 3) := by decide +kernel
theorem dX8_keepDraft_148 : decode cX8_keepDraft 148 = .ok (.bipush 53, 2) := by decide +kernel
theorem dX8_keepDraft_150 : decode cX8_keepDraft 150 = .ok (.aload_n 0, 1) := by decide +kernel
theorem dX8_keepDraft_151 : decode cX8_keepDraft 151 = .ok (.getfield 56, 3) := by decide +kernel
theorem dX8_keepDraft_154 : decode cX8_keepDraft 154 = .ok (.iastore, 1) := by decide +kernel
theorem dX8_keepDraft_155 : decode cX8_keepDraft 155 = .ok (.aload_n 0, 1) := by decide +kernel
theorem dX8_keepDraft_156 : decode cX8_keepDraft 156 = .ok (.getfield 13, 3) := by decide +kernel
theorem dX8_keepDraft_159 : decode cX8_keepDraft 159 = .ok (.iconst 0, 1) := by decide +kernel
theorem dX8_keepDraft_160 : decode cX8_keepDraft 160 = .ok (.iconst 0, 1) := by decide +kernel
theorem dX8_keepDraft_161 : decode cX8_keepDraft 161 = .ok (.bastore, 1) := by decide +kernel
theorem dX8_keepDraft_162 : decode cX8_keepDraft 162 = .ok (.aload_n 0, 1) := by decide +kernel
theorem dX8_keepDraft_163 : decode cX8_keepDraft 163 = .ok (.getfield 13, 3) := by decide +kernel
theorem dX8_keepDraft_166 : decode cX8_keepDraft 166 = .ok (.iconst 1, 1) := by decide +kernel
theorem dX8_keepDraft_167 : decode cX8_keepDraft 167 = .ok (.iconst 0, 1) := by decide +kernel
theorem dX8_keepDraft_168 : decode cX8_keepDraft 168 = .ok (.bastore, 1) := by decide +kernel
theorem dX8_keepDraft_169 : decode cX8_keepDraft 169 = .ok (.return_, 1) := by decide +kernel
theorem dX8_feed_0 : decode cX8_feed 0 = .ok (.aload_n 0, 1) := by decide +kernel
theorem dX8_feed_1 : decode cX8_feed 1 = .ok (.getfield 67, 3) := by decide +kernel
theorem dX8_feed_4 : decode cX8_feed 4 = .ok (.bipush 8, 2) := by decide +kernel
theorem dX8_feed_6 : decode cX8_feed 6 = .ok (.iadd, 1) := by decide +kernel
theorem dX8_feed_7 : decode cX8_feed 7 = .ok (.sipush 320, 3) := by decide +kernel
theorem dX8_feed_10 : decode cX8_feed 10 = .ok (.if_icmp .le 6, 3) := by decide +kernel
theorem dX8_feed_13 : decode cX8_feed 13 = .ok (.bipush (-3), 2) := by decide +kernel
theorem dX8_feed_15 : decode cX8_feed 15 = .ok (.ireturn, 1) := by decide +kernel
theorem dX8_feed_16 : decode cX8_feed 16 = .ok (.bipush 56, 2) := by decide +kernel
theorem dX8_feed_18 : decode cX8_feed 18 = .ok (.istore_n 3, 1) := by decide +kernel
theorem dX8_feed_19 : decode cX8_feed 19 = .ok (.iload_n 3, 1) := by decide +kernel
theorem dX8_feed_20 : decode cX8_feed 20 = .ok (.ifCond .lt 36, 3) := by decide +kernel
theorem dX8_feed_23 : decode cX8_feed 23 = .ok (.aload_n 0, 1) := by decide +kernel
theorem dX8_feed_24 : decode cX8_feed 24 = .ok (.getfield 32, 3) := by decide +kernel
theorem dX8_feed_27 : decode cX8_feed 27 = .ok (.aload_n 0, 1) := by decide +kernel
theorem dX8_feed_28 : decode cX8_feed 28 = .ok (.getfield 67, 3) := by decide +kernel
theorem dX8_feed_31 : decode cX8_feed 31 = .ok (.lload_n 1, 1) := by decide +kernel
theorem dX8_feed_32 : decode cX8_feed 32 = .ok (.iload_n 3, 1) := by decide +kernel
theorem dX8_feed_33 : decode cX8_feed 33 = .ok (.lshr, 1) := by decide +kernel
theorem dX8_feed_34 : decode cX8_feed 34 = .ok (.ldc2_w 70, 3) := by decide +kernel
theorem dX8_feed_37 : decode cX8_feed 37 = .ok (.land, 1) := by decide +kernel
theorem dX8_feed_38 : decode cX8_feed 38 = .ok (.l2i, 1) := by decide +kernel
theorem dX8_feed_39 : decode cX8_feed 39 = .ok (.iastore, 1) := by decide +kernel
theorem dX8_feed_40 : decode cX8_feed 40 = .ok (.aload_n 0, 1) := by decide +kernel
theorem dX8_feed_41 : decode cX8_feed 41 = .ok (.dup, 1) := by decide +kernel
theorem dX8_feed_42 : decode cX8_feed 42 = .ok (.getfield 67, 3) := by decide +kernel
theorem dX8_feed_45 : decode cX8_feed 45 = .ok (.iconst 1, 1) := by decide +kernel
theorem dX8_feed_46 : decode cX8_feed 46 = .ok (.iadd, 1) := by decide +kernel
theorem dX8_feed_47 : decode cX8_feed 47 = .ok (.putfield 67, 3) := by decide +kernel
theorem dX8_feed_50 : decode cX8_feed 50 = .ok (.iinc 3 (-8), 3) := by decide +kernel
theorem dX8_feed_53 : decode cX8_feed 53 = .ok (.goto (-34), 3) := by decide +kernel
theorem dX8_feed_56 : decode cX8_feed 56 = .ok (.aload_n 0, 1) := by decide +kernel
theorem dX8_feed_57 : decode cX8_feed 57 = .ok (.getfield 67, 3) := by decide +kernel
theorem dX8_feed_60 : decode cX8_feed 60 = .ok (.ireturn, 1) := by decide +kernel
theorem dX8_end_0 : decode cX8_end 0 = .ok (.iload_n 1, 1) := by decide +kernel
theorem dX8_end_1 : decode cX8_end 1 = .ok (.i2l, 1) := by decide +kernel
theorem dX8_end_2 : decode cX8_end 2 = .ok (.lconst 0, 1) := by decide +kernel
theorem dX8_end_3 : decode cX8_end 3 = .ok (.aload_n 0, 1) := by decide +kernel
theorem dX8_end_4 : decode cX8_end 4 = .ok (.getfield 67, 3) := by decide +kernel
theorem dX8_end_7 : decode cX8_end 7 = .ok (.i2l, 1) := by decide +kernel
theorem dX8_end_8 : decode cX8_end 8 = .ok (.invokestatic 72, 3) := by decide +kernel
theorem dX8_end_11 : decode cX8_end 11 = .ok (.ifCond .ne 5, 3) := by decide +kernel
theorem dX8_end_14 : decode cX8_end 14 = .ok (.iconst (-1), 1) := by decide +kernel
theorem dX8_end_15 : decode cX8_end 15 = .ok (.ireturn, 1) := by decide +kernel
theorem dX8_end_16 : decode cX8_end 16 = .ok (.aload_n 0, 1) := by decide +kernel
theorem dX8_end_17 : decode cX8_end 17 = .ok (.getfield 67, 3) := by decide +kernel
theorem dX8_end_20 : decode cX8_end 20 = .ok (.istore_n 2, 1) := by decide +kernel
theorem dX8_end_21 : decode cX8_end 21 = .ok (.aload_n 0, 1) := by decide +kernel
theorem dX8_end_22 : decode cX8_end 22 = .ok (.iload_n 1, 1) := by decide +kernel
theorem dX8_end_23 : decode cX8_end 23 = .ok (.putfield 67, 3) := by decide +kernel
theorem dX8_end_26 : decode cX8_end 26 = .ok (.iload_n 2, 1) := by decide +kernel
theorem dX8_end_27 : decode cX8_end 27 = .ok (.ireturn, 1) := by decide +kernel
theorem dX8_needs_0 : decode cX8_needs 0 = .ok (.iload_n 1, 1) := by decide +kernel
theorem dX8_needs_1 : decode cX8_needs 1 = .ok (.ifCond .ne 23, 3) := by decide +kernel
theorem dX8_needs_4 : decode cX8_needs 4 = .ok (.aload_n 0, 1) := by decide +kernel
theorem dX8_needs_5 : decode cX8_needs 5 = .ok (.getfield 76, 3) := by decide +kernel
theorem dX8_needs_8 : decode cX8_needs 8 = .ok (.ifCond .ne 16, 3) := by decide +kernel
theorem dX8_needs_11 : decode cX8_needs 11 = .ok (.aload_n 0, 1) := by decide +kernel
theorem dX8_needs_12 : decode cX8_needs 12 = .ok (.iload_n 2, 1) := by decide +kernel
theorem dX8_needs_13 : decode cX8_needs 13 = .ok (.putfield 76, 3) := by decide +kernel
theorem dX8_needs_16 : decode cX8_needs 16 = .ok (.aload_n 0, 1) := by decide +kernel
theorem dX8_needs_17 : decode cX8_needs 17 = .ok (.aload_n 0, 1) := by decide +kernel
theorem dX8_needs_18 : decode cX8_needs 18 = .ok (.getfield 79, 3) := by decide +kernel
theorem dX8_needs_21 : decode cX8_needs 21 = .ok (.putfield 82, 3) := by decide +kernel
theorem dX8_needs_24 : decode cX8_needs 24 = .ok (.return_, 1) := by decide +kernel
theorem dX8_look_0 : decode cX8_look 0 = .ok (.iload_n 1, 1) := by decide +kernel
theorem dX8_look_1 : decode cX8_look 1 = .ok (.aload_n 0, 1) := by decide +kernel
theorem dX8_look_2 : decode cX8_look 2 = .ok (.getfield 67, 3) := by decide +kernel
theorem dX8_look_5 : decode cX8_look 5 = .ok (.if_icmp .ge 12, 3) := by decide +kernel
theorem dX8_look_8 : decode cX8_look 8 = .ok (.aload_n 0, 1) := by decide +kernel
theorem dX8_look_9 : decode cX8_look 9 = .ok (.getfield 32, 3) := by decide +kernel
theorem dX8_look_12 : decode cX8_look 12 = .ok (.iload_n 1, 1) := by decide +kernel
theorem dX8_look_13 : decode cX8_look 13 = .ok (.iaload, 1) := by decide +kernel
theorem dX8_look_14 : decode cX8_look 14 = .ok (.goto 4, 3) := by decide +kernel
theorem dX8_look_17 : decode cX8_look 17 = .ok (.iconst (-1), 1) := by decide +kernel
theorem dX8_look_18 : decode cX8_look 18 = .ok (.ireturn, 1) := by decide +kernel
theorem dX8_is_0 : decode cX8_is 0 = .ok (.aload_n 0, 1) := by decide +kernel
theorem dX8_is_1 : decode cX8_is 1 = .ok (.getfield 85, 3) := by decide +kernel
theorem dX8_is_4 : decode cX8_is 4 = .ok (.aload_n 0, 1) := by decide +kernel
theorem dX8_is_5 : decode cX8_is 5 = .ok (.getfield 79, 3) := by decide +kernel
theorem dX8_is_8 : decode cX8_is 8 = .ok (.isub, 1) := by decide +kernel
theorem dX8_is_9 : decode cX8_is 9 = .ok (.iload_n 1, 1) := by decide +kernel
theorem dX8_is_10 : decode cX8_is 10 = .ok (.if_icmp .ne 68, 3) := by decide +kernel
theorem dX8_is_13 : decode cX8_is 13 = .ok (.aload_n 0, 1) := by decide +kernel
theorem dX8_is_14 : decode cX8_is 14 = .ok (.aload_n 0, 1) := by decide +kernel
theorem dX8_is_15 : decode cX8_is 15 = .ok (.getfield 79, 3) := by decide +kernel
theorem dX8_is_18 : decode cX8_is 18 = .ok (.invokevirtual 88, 3) := by decide +kernel
theorem dX8_is_21 : decode cX8_is 21 = .ok (.iload_n 2, 1) := by decide +kernel
theorem dX8_is_22 : decode cX8_is 22 = .ok (.if_icmp .ne 56, 3) := by decide +kernel
theorem dX8_is_25 : decode cX8_is 25 = .ok (.aload_n 0, 1) := by decide +kernel
theorem dX8_is_26 : decode cX8_is 26 = .ok (.aload_n 0, 1) := by decide +kernel
theorem dX8_is_27 : decode cX8_is 27 = .ok (.getfield 79, 3) := by decide +kernel
theorem dX8_is_30 : decode cX8_is 30 = .ok (.iconst 1, 1) := by decide +kernel
theorem dX8_is_31 : decode cX8_is 31 = .ok (.iadd, 1) := by decide +kernel
theorem dX8_is_32 : decode cX8_is 32 = .ok (.invokevirtual 88, 3) := by decide +kernel
theorem dX8_is_35 : decode cX8_is 35 = .ok (.iload_n 3, 1) := by decide +kernel
theorem dX8_is_36 : decode cX8_is 36 = .ok (.if_icmp .ne 42, 3) := by decide +kernel
theorem dX8_is_39 : decode cX8_is 39 = .ok (.aload_n 0, 1) := by decide +kernel
theorem dX8_is_40 : decode cX8_is 40 = .ok (.aload_n 0, 1) := by decide +kernel
theorem dX8_is_41 : decode cX8_is 41 = .ok (.getfield 79, 3) := by decide +kernel
theorem dX8_is_44 : decode cX8_is 44 = .ok (.iconst 2, 1) := by decide +kernel
theorem dX8_is_45 : decode cX8_is 45 = .ok (.iadd, 1) := by decide +kernel
theorem dX8_is_46 : decode cX8_is 46 = .ok (.invokevirtual 88, 3) := by decide +kernel
theorem dX8_is_49 : decode cX8_is 49 = .ok (.iload 4, 2) := by decide +kernel
theorem dX8_is_51 : decode cX8_is 51 = .ok (.if_icmp .ne 27, 3) := by decide +kernel
theorem dX8_is_54 : decode cX8_is 54 = .ok (.iload_n 1, 1) := by decide +kernel
theorem dX8_is_55 : decode cX8_is 55 = .ok (.iconst 4, 1) := by decide +kernel
theorem dX8_is_56 : decode cX8_is 56 = .ok (.if_icmp .lt 18, 3) := by decide +kernel
theorem dX8_is_59 : decode cX8_is 59 = .ok (.aload_n 0, 1) := by decide +kernel
theorem dX8_is_60 : decode cX8_is 60 = .ok (.aload_n 0, 1) := by decide +kernel
theorem dX8_is_61 : decode cX8_is 61 = .ok (.getfield 79, 3) := by decide +kernel
theorem dX8_is_64 : decode cX8_is 64 = .ok (.iconst 3, 1) := by decide +kernel
theorem dX8_is_65 : decode cX8_is 65 = .ok (.iadd, 1) := by decide +kernel
theorem dX8_is_66 : decode cX8_is 66 = .ok (.invokevirtual 88, 3) := by decide +kernel
theorem dX8_is_69 : decode cX8_is 69 = .ok (.iload 5, 2) := by decide +kernel
theorem dX8_is_71 : decode cX8_is 71 = .ok (.if_icmp .ne 7, 3) := by decide +kernel
theorem dX8_is_74 : decode cX8_is 74 = .ok (.iconst 1, 1) := by decide +kernel
theorem dX8_is_75 : decode cX8_is 75 = .ok (.goto 4, 3) := by decide +kernel
theorem dX8_is_78 : decode cX8_is 78 = .ok (.iconst 0, 1) := by decide +kernel
theorem dX8_is_79 : decode cX8_is 79 = .ok (.ireturn, 1) := by decide +kernel
theorem dX8_withNow_0 : decode cX8_withNow 0 = .ok (.aload_n 0, 1) := by decide +kernel
theorem dX8_withNow_1 : decode cX8_withNow 1 = .ok (.iconst 4, 1) := by decide +kernel
theorem dX8_withNow_2 : decode cX8_withNow 2 = .ok (.bipush 108, 2) := by decide +kernel
theorem dX8_withNow_4 : decode cX8_withNow 4 = .ok (.bipush 101, 2) := by decide +kernel
theorem dX8_withNow_6 : decode cX8_withNow 6 = .ok (.bipush 97, 2) := by decide +kernel
theorem dX8_withNow_8 : decode cX8_withNow 8 = .ok (.bipush 107, 2) := by decide +kernel
theorem dX8_withNow_10 : decode cX8_withNow 10 = .ok (.invokevirtual 92, 3) := by decide +kernel
theorem dX8_withNow_13 : decode cX8_withNow 13 = .ok (.ifCond .eq 8, 3) := by decide +kernel
theorem dX8_withNow_16 : decode cX8_withNow 16 = .ok (.bipush 10, 2) := by decide +kernel
theorem dX8_withNow_18 : decode cX8_withNow 18 = .ok (.goto 47, 3) := by decide +kernel
theorem dX8_withNow_21 : decode cX8_withNow 21 = .ok (.aload_n 0, 1) := by decide +kernel
theorem dX8_withNow_22 : decode cX8_withNow 22 = .ok (.iconst 4, 1) := by decide +kernel
theorem dX8_withNow_23 : decode cX8_withNow 23 = .ok (.bipush 114, 2) := by decide +kernel
theorem dX8_withNow_25 : decode cX8_withNow 25 = .ok (.bipush 97, 2) := by decide +kernel
theorem dX8_withNow_27 : decode cX8_withNow 27 = .ok (.bipush 116, 2) := by decide +kernel
theorem dX8_withNow_29 : decode cX8_withNow 29 = .ok (.bipush 101, 2) := by decide +kernel
theorem dX8_withNow_31 : decode cX8_withNow 31 = .ok (.invokevirtual 92, 3) := by decide +kernel
theorem dX8_withNow_34 : decode cX8_withNow 34 = .ok (.ifCond .eq 8, 3) := by decide +kernel
theorem dX8_withNow_37 : decode cX8_withNow 37 = .ok (.bipush 11, 2) := by decide +kernel
theorem dX8_withNow_39 : decode cX8_withNow 39 = .ok (.goto 26, 3) := by decide +kernel
theorem dX8_withNow_42 : decode cX8_withNow 42 = .ok (.aload_n 0, 1) := by decide +kernel
theorem dX8_withNow_43 : decode cX8_withNow 43 = .ok (.iconst 4, 1) := by decide +kernel
theorem dX8_withNow_44 : decode cX8_withNow 44 = .ok (.bipush 104, 2) := by decide +kernel
theorem dX8_withNow_46 : decode cX8_withNow 46 = .ok (.bipush 111, 2) := by decide +kernel
theorem dX8_withNow_48 : decode cX8_withNow 48 = .ok (.bipush 111, 2) := by decide +kernel
theorem dX8_withNow_50 : decode cX8_withNow 50 = .ok (.bipush 107, 2) := by decide +kernel
theorem dX8_withNow_52 : decode cX8_withNow 52 = .ok (.invokevirtual 92, 3) := by decide +kernel
theorem dX8_withNow_55 : decode cX8_withNow 55 = .ok (.ifCond .eq 8, 3) := by decide +kernel
theorem dX8_withNow_58 : decode cX8_withNow 58 = .ok (.bipush 12, 2) := by decide +kernel
theorem dX8_withNow_60 : decode cX8_withNow 60 = .ok (.goto 5, 3) := by decide +kernel
theorem dX8_withNow_63 : decode cX8_withNow 63 = .ok (.bipush (-4), 2) := by decide +kernel
theorem dX8_withNow_65 : decode cX8_withNow 65 = .ok (.ireturn, 1) := by decide +kernel
theorem dX8_nameNow_0 : decode cX8_nameNow 0 = .ok (.aload_n 0, 1) := by decide +kernel
theorem dX8_nameNow_1 : decode cX8_nameNow 1 = .ok (.bipush 6, 2) := by decide +kernel
theorem dX8_nameNow_3 : decode cX8_nameNow 3 = .ok (.bipush 104, 2) := by decide +kernel
theorem dX8_nameNow_5 : decode cX8_nameNow 5 = .ok (.bipush 101, 2) := by decide +kernel
theorem dX8_nameNow_7 : decode cX8_nameNow 7 = .ok (.bipush 105, 2) := by decide +kernel
theorem dX8_nameNow_9 : decode cX8_nameNow 9 = .ok (.bipush 103, 2) := by decide +kernel
theorem dX8_nameNow_11 : decode cX8_nameNow 11 = .ok (.invokevirtual 92, 3) := by decide +kernel
theorem dX8_nameNow_14 : decode cX8_nameNow 14 = .ok (.ifCond .eq 35, 3) := by decide +kernel
theorem dX8_nameNow_17 : decode cX8_nameNow 17 = .ok (.aload_n 0, 1) := by decide +kernel
theorem dX8_nameNow_18 : decode cX8_nameNow 18 = .ok (.aload_n 0, 1) := by decide +kernel
theorem dX8_nameNow_19 : decode cX8_nameNow 19 = .ok (.getfield 79, 3) := by decide +kernel
theorem dX8_nameNow_22 : decode cX8_nameNow 22 = .ok (.iconst 4, 1) := by decide +kernel
theorem dX8_nameNow_23 : decode cX8_nameNow 23 = .ok (.iadd, 1) := by decide +kernel
theorem dX8_nameNow_24 : decode cX8_nameNow 24 = .ok (.invokevirtual 88, 3) := by decide +kernel
theorem dX8_nameNow_27 : decode cX8_nameNow 27 = .ok (.bipush 104, 2) := by decide +kernel
theorem dX8_nameNow_29 : decode cX8_nameNow 29 = .ok (.if_icmp .ne 20, 3) := by decide +kernel
theorem dX8_nameNow_32 : decode cX8_nameNow 32 = .ok (.aload_n 0, 1) := by decide +kernel
theorem dX8_nameNow_33 : decode cX8_nameNow 33 = .ok (.aload_n 0, 1) := by decide +kernel
theorem dX8_nameNow_34 : decode cX8_nameNow 34 = .ok (.getfield 79, 3) := by decide +kernel
theorem dX8_nameNow_37 : decode cX8_nameNow 37 = .ok (.iconst 5, 1) := by decide +kernel
theorem dX8_nameNow_38 : decode cX8_nameNow 38 = .ok (.iadd, 1) := by decide +kernel
theorem dX8_nameNow_39 : decode cX8_nameNow 39 = .ok (.invokevirtual 88, 3) := by decide +kernel
theorem dX8_nameNow_42 : decode cX8_nameNow 42 = .ok (.bipush 116, 2) := by decide +kernel
theorem dX8_nameNow_44 : decode cX8_nameNow 44 = .ok (.if_icmp .ne 5, 3) := by decide +kernel
theorem dX8_nameNow_47 : decode cX8_nameNow 47 = .ok (.iconst 0, 1) := by decide +kernel
theorem dX8_nameNow_48 : decode cX8_nameNow 48 = .ok (.ireturn, 1) := by decide +kernel
theorem dX8_nameNow_49 : decode cX8_nameNow 49 = .ok (.aload_n 0, 1) := by decide +kernel
theorem dX8_nameNow_50 : decode cX8_nameNow 50 = .ok (.iconst 3, 1) := by decide +kernel
theorem dX8_nameNow_51 : decode cX8_nameNow 51 = .ok (.bipush 97, 2) := by decide +kernel
theorem dX8_nameNow_53 : decode cX8_nameNow 53 = .ok (.bipush 105, 2) := by decide +kernel
theorem dX8_nameNow_55 : decode cX8_nameNow 55 = .ok (.bipush 114, 2) := by decide +kernel
theorem dX8_nameNow_57 : decode cX8_nameNow 57 = .ok (.iconst 0, 1) := by decide +kernel
theorem dX8_nameNow_58 : decode cX8_nameNow 58 = .ok (.invokevirtual 92, 3) := by decide +kernel
theorem dX8_nameNow_61 : decode cX8_nameNow 61 = .ok (.ifCond .eq 5, 3) := by decide +kernel
theorem dX8_nameNow_64 : decode cX8_nameNow 64 = .ok (.iconst 1, 1) := by decide +kernel
theorem dX8_nameNow_65 : decode cX8_nameNow 65 = .ok (.ireturn, 1) := by decide +kernel
theorem dX8_nameNow_66 : decode cX8_nameNow 66 = .ok (.aload_n 0, 1) := by decide +kernel
theorem dX8_nameNow_67 : decode cX8_nameNow 67 = .ok (.iconst 4, 1) := by decide +kernel
theorem dX8_nameNow_68 : decode cX8_nameNow 68 = .ok (.bipush 119, 2) := by decide +kernel
theorem dX8_nameNow_70 : decode cX8_nameNow 70 = .ok (.bipush 97, 2) := by decide +kernel
theorem dX8_nameNow_72 : decode cX8_nameNow 72 = .ok (.bipush 114, 2) := by decide +kernel
theorem dX8_nameNow_74 : decode cX8_nameNow 74 = .ok (.bipush 109, 2) := by decide +kernel
theorem dX8_nameNow_76 : decode cX8_nameNow 76 = .ok (.invokevirtual 92, 3) := by decide +kernel
theorem dX8_nameNow_79 : decode cX8_nameNow 79 = .ok (.ifCond .eq 5, 3) := by decide +kernel
theorem dX8_nameNow_82 : decode cX8_nameNow 82 = .ok (.iconst 2, 1) := by decide +kernel
theorem dX8_nameNow_83 : decode cX8_nameNow 83 = .ok (.ireturn, 1) := by decide +kernel
theorem dX8_nameNow_84 : decode cX8_nameNow 84 = .ok (.aload_n 0, 1) := by decide +kernel
theorem dX8_nameNow_85 : decode cX8_nameNow 85 = .ok (.iconst 4, 1) := by decide +kernel
theorem dX8_nameNow_86 : decode cX8_nameNow 86 = .ok (.bipush 100, 2) := by decide +kernel
theorem dX8_nameNow_88 : decode cX8_nameNow 88 = .ok (.bipush 114, 2) := by decide +kernel
theorem dX8_nameNow_90 : decode cX8_nameNow 90 = .ok (.bipush 97, 2) := by decide +kernel
theorem dX8_nameNow_92 : decode cX8_nameNow 92 = .ok (.bipush 103, 2) := by decide +kernel
theorem dX8_nameNow_94 : decode cX8_nameNow 94 = .ok (.invokevirtual 92, 3) := by decide +kernel
theorem dX8_nameNow_97 : decode cX8_nameNow 97 = .ok (.ifCond .eq 5, 3) := by decide +kernel
theorem dX8_nameNow_100 : decode cX8_nameNow 100 = .ok (.iconst 3, 1) := by decide +kernel
theorem dX8_nameNow_101 : decode cX8_nameNow 101 = .ok (.ireturn, 1) := by decide +kernel
theorem dX8_nameNow_102 : decode cX8_nameNow 102 = .ok (.aload_n 0, 1) := by decide +kernel
theorem dX8_nameNow_103 : decode cX8_nameNow 103 = .ok (.iconst 4, 1) := by decide +kernel
theorem dX8_nameNow_104 : decode cX8_nameNow 104 = .ok (.bipush 115, 2) := by decide +kernel
theorem dX8_nameNow_106 : decode cX8_nameNow 106 = .ok (.bipush 97, 2) := by decide +kernel
theorem dX8_nameNow_108 : decode cX8_nameNow 108 = .ok (.bipush 108, 2) := by decide +kernel
theorem dX8_nameNow_110 : decode cX8_nameNow 110 = .ok (.bipush 116, 2) := by decide +kernel
theorem dX8_nameNow_112 : decode cX8_nameNow 112 = .ok (.invokevirtual 92, 3) := by decide +kernel
theorem dX8_nameNow_115 : decode cX8_nameNow 115 = .ok (.ifCond .eq 5, 3) := by decide +kernel
theorem dX8_nameNow_118 : decode cX8_nameNow 118 = .ok (.iconst 4, 1) := by decide +kernel
theorem dX8_nameNow_119 : decode cX8_nameNow 119 = .ok (.ireturn, 1) := by decide +kernel
theorem dX8_nameNow_120 : decode cX8_nameNow 120 = .ok (.aload_n 0, 1) := by decide +kernel
theorem dX8_nameNow_121 : decode cX8_nameNow 121 = .ok (.iconst 4, 1) := by decide +kernel
theorem dX8_nameNow_122 : decode cX8_nameNow 122 = .ok (.bipush 114, 2) := by decide +kernel
theorem dX8_nameNow_124 : decode cX8_nameNow 124 = .ok (.bipush 105, 2) := by decide +kernel
theorem dX8_nameNow_126 : decode cX8_nameNow 126 = .ok (.bipush 110, 2) := by decide +kernel
theorem dX8_nameNow_128 : decode cX8_nameNow 128 = .ok (.bipush 103, 2) := by decide +kernel
theorem dX8_nameNow_130 : decode cX8_nameNow 130 = .ok (.invokevirtual 92, 3) := by decide +kernel
theorem dX8_nameNow_133 : decode cX8_nameNow 133 = .ok (.ifCond .eq 5, 3) := by decide +kernel
theorem dX8_nameNow_136 : decode cX8_nameNow 136 = .ok (.iconst 5, 1) := by decide +kernel
theorem dX8_nameNow_137 : decode cX8_nameNow 137 = .ok (.ireturn, 1) := by decide +kernel
theorem dX8_nameNow_138 : decode cX8_nameNow 138 = .ok (.aload_n 0, 1) := by decide +kernel
theorem dX8_nameNow_139 : decode cX8_nameNow 139 = .ok (.iconst 4, 1) := by decide +kernel
theorem dX8_nameNow_140 : decode cX8_nameNow 140 = .ok (.bipush 104, 2) := by decide +kernel
theorem dX8_nameNow_142 : decode cX8_nameNow 142 = .ok (.bipush 111, 2) := by decide +kernel
theorem dX8_nameNow_144 : decode cX8_nameNow 144 = .ok (.bipush 117, 2) := by decide +kernel
theorem dX8_nameNow_146 : decode cX8_nameNow 146 = .ok (.bipush 114, 2) := by decide +kernel
theorem dX8_nameNow_148 : decode cX8_nameNow 148 = .ok (.invokevirtual 92, 3) := by decide +kernel
theorem dX8_nameNow_151 : decode cX8_nameNow 151 = .ok (.ifCond .eq 6, 3) := by decide +kernel
theorem dX8_nameNow_154 : decode cX8_nameNow 154 = .ok (.bipush 6, 2) := by decide +kernel
theorem dX8_nameNow_156 : decode cX8_nameNow 156 = .ok (.ireturn, 1) := by decide +kernel
theorem dX8_nameNow_157 : decode cX8_nameNow 157 = .ok (.aload_n 0, 1) := by decide +kernel
theorem dX8_nameNow_158 : decode cX8_nameNow 158 = .ok (.iconst 5, 1) := by decide +kernel
theorem dX8_nameNow_159 : decode cX8_nameNow 159 = .ok (.bipush 100, 2) := by decide +kernel
theorem dX8_nameNow_161 : decode cX8_nameNow 161 = .ok (.bipush 105, 2) := by decide +kernel
theorem dX8_nameNow_163 : decode cX8_nameNow 163 = .ok (.bipush 118, 2) := by decide +kernel
theorem dX8_nameNow_165 : decode cX8_nameNow 165 = .ok (.bipush 101, 2) := by decide +kernel
theorem dX8_nameNow_167 : decode cX8_nameNow 167 = .ok (.invokevirtual 92, 3) := by decide +kernel
theorem dX8_nameNow_170 : decode cX8_nameNow 170 = .ok (.ifCond .eq 23, 3) := by decide +kernel
theorem dX8_nameNow_173 : decode cX8_nameNow 173 = .ok (.aload_n 0, 1) := by decide +kernel
theorem dX8_nameNow_174 : decode cX8_nameNow 174 = .ok (.aload_n 0, 1) := by decide +kernel
theorem dX8_nameNow_175 : decode cX8_nameNow 175 = .ok (.getfield 79, 3) := by decide +kernel
theorem dX8_nameNow_178 : decode cX8_nameNow 178 = .ok (.iconst 4, 1) := by decide +kernel
theorem dX8_nameNow_179 : decode cX8_nameNow 179 = .ok (.iadd, 1) := by decide +kernel
theorem dX8_nameNow_180 : decode cX8_nameNow 180 = .ok (.invokevirtual 88, 3) := by decide +kernel
theorem dX8_nameNow_183 : decode cX8_nameNow 183 = .ok (.bipush 114, 2) := by decide +kernel
theorem dX8_nameNow_185 : decode cX8_nameNow 185 = .ok (.if_icmp .ne 8, 3) := by decide +kernel
theorem dX8_nameNow_188 : decode cX8_nameNow 188 = .ok (.bipush 7, 2) := by decide +kernel
theorem dX8_nameNow_190 : decode cX8_nameNow 190 = .ok (.goto 5, 3) := by decide +kernel
theorem dX8_nameNow_193 : decode cX8_nameNow 193 = .ok (.bipush (-4), 2) := by decide +kernel
theorem dX8_nameNow_195 : decode cX8_nameNow 195 = .ok (.ireturn, 1) := by decide +kernel
theorem dX8_next_0 : decode cX8_next 0 = .ok (.aload_n 0, 1) := by decide +kernel
theorem dX8_next_1 : decode cX8_next 1 = .ok (.getfield 76, 3) := by decide +kernel
theorem dX8_next_4 : decode cX8_next 4 = .ok (.ifCond .le 4, 3) := by decide +kernel
theorem dX8_next_7 : decode cX8_next 7 = .ok (.return_, 1) := by decide +kernel
theorem dX8_next_8 : decode cX8_next 8 = .ok (.aload_n 0, 1) := by decide +kernel
theorem dX8_next_9 : decode cX8_next 9 = .ok (.aload_n 0, 1) := by decide +kernel
theorem dX8_next_10 : decode cX8_next 10 = .ok (.getfield 85, 3) := by decide +kernel
theorem dX8_next_13 : decode cX8_next 13 = .ok (.invokevirtual 88, 3) := by decide +kernel
theorem dX8_next_16 : decode cX8_next 16 = .ok (.bipush 32, 2) := by decide +kernel
theorem dX8_next_18 : decode cX8_next 18 = .ok (.if_icmp .ne 16, 3) := by decide +kernel
theorem dX8_next_21 : decode cX8_next 21 = .ok (.aload_n 0, 1) := by decide +kernel
theorem dX8_next_22 : decode cX8_next 22 = .ok (.dup, 1) := by decide +kernel
theorem dX8_next_23 : decode cX8_next 23 = .ok (.getfield 85, 3) := by decide +kernel
theorem dX8_next_26 : decode cX8_next 26 = .ok (.iconst 1, 1) := by decide +kernel
theorem dX8_next_27 : decode cX8_next 27 = .ok (.iadd, 1) := by decide +kernel
theorem dX8_next_28 : decode cX8_next 28 = .ok (.putfield 85, 3) := by decide +kernel
theorem dX8_next_31 : decode cX8_next 31 = .ok (.goto (-23), 3) := by decide +kernel
theorem dX8_next_34 : decode cX8_next 34 = .ok (.aload_n 0, 1) := by decide +kernel
theorem dX8_next_35 : decode cX8_next 35 = .ok (.aload_n 0, 1) := by decide +kernel
theorem dX8_next_36 : decode cX8_next 36 = .ok (.getfield 85, 3) := by decide +kernel
theorem dX8_next_39 : decode cX8_next 39 = .ok (.putfield 79, 3) := by decide +kernel
theorem dX8_next_42 : decode cX8_next 42 = .ok (.aload_n 0, 1) := by decide +kernel
theorem dX8_next_43 : decode cX8_next 43 = .ok (.aload_n 0, 1) := by decide +kernel
theorem dX8_next_44 : decode cX8_next 44 = .ok (.getfield 85, 3) := by decide +kernel
theorem dX8_next_47 : decode cX8_next 47 = .ok (.invokevirtual 88, 3) := by decide +kernel
theorem dX8_next_50 : decode cX8_next 50 = .ok (.istore_n 1, 1) := by decide +kernel
theorem dX8_next_51 : decode cX8_next 51 = .ok (.iload_n 1, 1) := by decide +kernel
theorem dX8_next_52 : decode cX8_next 52 = .ok (.ifCond .ge 11, 3) := by decide +kernel
theorem dX8_next_55 : decode cX8_next 55 = .ok (.aload_n 0, 1) := by decide +kernel
theorem dX8_next_56 : decode cX8_next 56 = .ok (.iconst 0, 1) := by decide +kernel
theorem dX8_next_57 : decode cX8_next 57 = .ok (.putfield 96, 3) := by decide +kernel
theorem dX8_next_60 : decode cX8_next 60 = .ok (.goto 214, 3) := by decide +kernel
theorem dX8_next_63 : decode cX8_next 63 = .ok (.iload_n 1, 1) := by decide +kernel
theorem dX8_next_64 : decode cX8_next 64 = .ok (.i2l, 1) := by decide +kernel
theorem dX8_next_65 : decode cX8_next 65 = .ok (.ldc2_w 99, 3) := by decide +kernel
theorem dX8_next_68 : decode cX8_next 68 = .ok (.ldc2_w 101, 3) := by decide +kernel
theorem dX8_next_71 : decode cX8_next 71 = .ok (.invokestatic 72, 3) := by decide +kernel
theorem dX8_next_74 : decode cX8_next 74 = .ok (.ifCond .eq 42, 3) := by decide +kernel
theorem dX8_next_77 : decode cX8_next 77 = .ok (.aload_n 0, 1) := by decide +kernel
theorem dX8_next_78 : decode cX8_next 78 = .ok (.iconst 1, 1) := by decide +kernel
theorem dX8_next_79 : decode cX8_next 79 = .ok (.putfield 96, 3) := by decide +kernel
theorem dX8_next_82 : decode cX8_next 82 = .ok (.aload_n 0, 1) := by decide +kernel
theorem dX8_next_83 : decode cX8_next 83 = .ok (.aload_n 0, 1) := by decide +kernel
theorem dX8_next_84 : decode cX8_next 84 = .ok (.getfield 85, 3) := by decide +kernel
theorem dX8_next_87 : decode cX8_next 87 = .ok (.invokevirtual 88, 3) := by decide +kernel
theorem dX8_next_90 : decode cX8_next 90 = .ok (.i2l, 1) := by decide +kernel
theorem dX8_next_91 : decode cX8_next 91 = .ok (.ldc2_w 99, 3) := by decide +kernel
theorem dX8_next_94 : decode cX8_next 94 = .ok (.ldc2_w 101, 3) := by decide +kernel
theorem dX8_next_97 : decode cX8_next 97 = .ok (.invokestatic 72, 3) := by decide +kernel
theorem dX8_next_100 : decode cX8_next 100 = .ok (.ifCond .eq 174, 3) := by decide +kernel
theorem dX8_next_103 : decode cX8_next 103 = .ok (.aload_n 0, 1) := by decide +kernel
theorem dX8_next_104 : decode cX8_next 104 = .ok (.dup, 1) := by decide +kernel
theorem dX8_next_105 : decode cX8_next 105 = .ok (.getfield 85, 3) := by decide +kernel
theorem dX8_next_108 : decode cX8_next 108 = .ok (.iconst 1, 1) := by decide +kernel
theorem dX8_next_109 : decode cX8_next 109 = .ok (.iadd, 1) := by decide +kernel
theorem dX8_next_110 : decode cX8_next 110 = .ok (.putfield 85, 3) := by decide +kernel
theorem dX8_next_113 : decode cX8_next 113 = .ok (.goto (-31), 3) := by decide +kernel
theorem dX8_next_116 : decode cX8_next 116 = .ok (.iload_n 1, 1) := by decide +kernel
theorem dX8_next_117 : decode cX8_next 117 = .ok (.i2l, 1) := by decide +kernel
theorem dX8_next_118 : decode cX8_next 118 = .ok (.ldc2_w 103, 3) := by decide +kernel
theorem dX8_next_121 : decode cX8_next 121 = .ok (.ldc2_w 105, 3) := by decide +kernel
theorem dX8_next_124 : decode cX8_next 124 = .ok (.invokestatic 72, 3) := by decide +kernel
theorem dX8_next_127 : decode cX8_next 127 = .ok (.ifCond .eq 116, 3) := by decide +kernel
theorem dX8_next_130 : decode cX8_next 130 = .ok (.aload_n 0, 1) := by decide +kernel
theorem dX8_next_131 : decode cX8_next 131 = .ok (.iconst 2, 1) := by decide +kernel
theorem dX8_next_132 : decode cX8_next 132 = .ok (.putfield 96, 3) := by decide +kernel
theorem dX8_next_135 : decode cX8_next 135 = .ok (.aload_n 0, 1) := by decide +kernel
theorem dX8_next_136 : decode cX8_next 136 = .ok (.iconst 0, 1) := by decide +kernel
theorem dX8_next_137 : decode cX8_next 137 = .ok (.putfield 107, 3) := by decide +kernel
theorem dX8_next_140 : decode cX8_next 140 = .ok (.aload_n 0, 1) := by decide +kernel
theorem dX8_next_141 : decode cX8_next 141 = .ok (.aload_n 0, 1) := by decide +kernel
theorem dX8_next_142 : decode cX8_next 142 = .ok (.getfield 85, 3) := by decide +kernel
theorem dX8_next_145 : decode cX8_next 145 = .ok (.invokevirtual 88, 3) := by decide +kernel
theorem dX8_next_148 : decode cX8_next 148 = .ok (.i2l, 1) := by decide +kernel
theorem dX8_next_149 : decode cX8_next 149 = .ok (.ldc2_w 103, 3) := by decide +kernel
theorem dX8_next_152 : decode cX8_next 152 = .ok (.ldc2_w 105, 3) := by decide +kernel
theorem dX8_next_155 : decode cX8_next 155 = .ok (.invokestatic 72, 3) := by decide +kernel
theorem dX8_next_158 : decode cX8_next 158 = .ok (.ifCond .eq 59, 3) := by decide +kernel
theorem dX8_next_161 : decode cX8_next 161 = .ok (.aload_n 0, 1) := by decide +kernel
theorem dX8_next_162 : decode cX8_next 162 = .ok (.aload_n 0, 1) := by decide +kernel
theorem dX8_next_163 : decode cX8_next 163 = .ok (.getfield 85, 3) := by decide +kernel
theorem dX8_next_166 : decode cX8_next 166 = .ok (.aload_n 0, 1) := by decide +kernel
theorem dX8_next_167 : decode cX8_next 167 = .ok (.getfield 79, 3) := by decide +kernel
theorem dX8_next_170 : decode cX8_next 170 = .ok (.isub, 1) := by decide +kernel
theorem dX8_next_171 : decode cX8_next 171 = .ok (.iconst 4, 1) := by decide +kernel
theorem dX8_next_172 : decode cX8_next 172 = .ok (.if_icmp .ge 25, 3) := by decide +kernel
theorem dX8_next_175 : decode cX8_next 175 = .ok (.bipush 10, 2) := by decide +kernel
theorem dX8_next_177 : decode cX8_next 177 = .ok (.aload_n 0, 1) := by decide +kernel
theorem dX8_next_178 : decode cX8_next 178 = .ok (.getfield 107, 3) := by decide +kernel
theorem dX8_next_181 : decode cX8_next 181 = .ok (.imul, 1) := by decide +kernel
theorem dX8_next_182 : decode cX8_next 182 = .ok (.aload_n 0, 1) := by decide +kernel
theorem dX8_next_183 : decode cX8_next 183 = .ok (.aload_n 0, 1) := by decide +kernel
theorem dX8_next_184 : decode cX8_next 184 = .ok (.getfield 85, 3) := by decide +kernel
theorem dX8_next_187 : decode cX8_next 187 = .ok (.invokevirtual 88, 3) := by decide +kernel
theorem dX8_next_190 : decode cX8_next 190 = .ok (.iadd, 1) := by decide +kernel
theorem dX8_next_191 : decode cX8_next 191 = .ok (.bipush 48, 2) := by decide +kernel
theorem dX8_next_193 : decode cX8_next 193 = .ok (.isub, 1) := by decide +kernel
theorem dX8_next_194 : decode cX8_next 194 = .ok (.goto 7, 3) := by decide +kernel
theorem dX8_next_197 : decode cX8_next 197 = .ok (.aload_n 0, 1) := by decide +kernel
theorem dX8_next_198 : decode cX8_next 198 = .ok (.getfield 107, 3) := by decide +kernel
theorem dX8_next_201 : decode cX8_next 201 = .ok (.putfield 107, 3) := by decide +kernel
theorem dX8_next_204 : decode cX8_next 204 = .ok (.aload_n 0, 1) := by decide +kernel
theorem dX8_next_205 : decode cX8_next 205 = .ok (.dup, 1) := by decide +kernel
theorem dX8_next_206 : decode cX8_next 206 = .ok (.getfield 85, 3) := by decide +kernel
theorem dX8_next_209 : decode cX8_next 209 = .ok (.iconst 1, 1) := by decide +kernel
theorem dX8_next_210 : decode cX8_next 210 = .ok (.iadd, 1) := by decide +kernel
theorem dX8_next_211 : decode cX8_next 211 = .ok (.putfield 85, 3) := by decide +kernel
theorem dX8_next_214 : decode cX8_next 214 = .ok (.goto (-74), 3) := by decide +kernel
theorem dX8_next_217 : decode cX8_next 217 = .ok (.aload_n 0, 1) := by decide +kernel
theorem dX8_next_218 : decode cX8_next 218 = .ok (.aload_n 0, 1) := by decide +kernel
theorem dX8_next_219 : decode cX8_next 219 = .ok (.getfield 85, 3) := by decide +kernel
theorem dX8_next_222 : decode cX8_next 222 = .ok (.aload_n 0, 1) := by decide +kernel
theorem dX8_next_223 : decode cX8_next 223 = .ok (.getfield 79, 3) := by decide +kernel
theorem dX8_next_226 : decode cX8_next 226 = .ok (.isub, 1) := by decide +kernel
theorem dX8_next_227 : decode cX8_next 227 = .ok (.iconst 4, 1) := by decide +kernel
theorem dX8_next_228 : decode cX8_next 228 = .ok (.if_icmp .gt 7, 3) := by decide +kernel
theorem dX8_next_231 : decode cX8_next 231 = .ok (.iconst 1, 1) := by decide +kernel
theorem dX8_next_232 : decode cX8_next 232 = .ok (.goto 4, 3) := by decide +kernel
theorem dX8_next_235 : decode cX8_next 235 = .ok (.iconst 0, 1) := by decide +kernel
theorem dX8_next_236 : decode cX8_next 236 = .ok (.iconst 1, 1) := by decide +kernel
theorem dX8_next_237 : decode cX8_next 237 = .ok (.invokevirtual 110, 3) := by decide +kernel
theorem dX8_next_240 : decode cX8_next 240 = .ok (.goto 34, 3) := by decide +kernel
theorem dX8_next_243 : decode cX8_next 243 = .ok (.aload_n 0, 1) := by decide +kernel
theorem dX8_next_244 : decode cX8_next 244 = .ok (.iconst 3, 1) := by decide +kernel
theorem dX8_next_245 : decode cX8_next 245 = .ok (.putfield 96, 3) := by decide +kernel
theorem dX8_next_248 : decode cX8_next 248 = .ok (.aload_n 0, 1) := by decide +kernel
theorem dX8_next_249 : decode cX8_next 249 = .ok (.iload_n 1, 1) := by decide +kernel
theorem dX8_next_250 : decode cX8_next 250 = .ok (.bipush 59, 2) := by decide +kernel
theorem dX8_next_252 : decode cX8_next 252 = .ok (.if_icmp .ne 7, 3) := by decide +kernel
theorem dX8_next_255 : decode cX8_next 255 = .ok (.iconst 1, 1) := by decide +kernel
theorem dX8_next_256 : decode cX8_next 256 = .ok (.goto 4, 3) := by decide +kernel
theorem dX8_next_259 : decode cX8_next 259 = .ok (.iconst 0, 1) := by decide +kernel
theorem dX8_next_260 : decode cX8_next 260 = .ok (.iconst 1, 1) := by decide +kernel
theorem dX8_next_261 : decode cX8_next 261 = .ok (.invokevirtual 110, 3) := by decide +kernel
theorem dX8_next_264 : decode cX8_next 264 = .ok (.aload_n 0, 1) := by decide +kernel
theorem dX8_next_265 : decode cX8_next 265 = .ok (.dup, 1) := by decide +kernel
theorem dX8_next_266 : decode cX8_next 266 = .ok (.getfield 85, 3) := by decide +kernel
theorem dX8_next_269 : decode cX8_next 269 = .ok (.iconst 1, 1) := by decide +kernel
theorem dX8_next_270 : decode cX8_next 270 = .ok (.iadd, 1) := by decide +kernel
theorem dX8_next_271 : decode cX8_next 271 = .ok (.putfield 85, 3) := by decide +kernel
theorem dX8_next_274 : decode cX8_next 274 = .ok (.return_, 1) := by decide +kernel
theorem dX8_isNumber_0 : decode cX8_isNumber 0 = .ok (.aload_n 0, 1) := by decide +kernel
theorem dX8_isNumber_1 : decode cX8_isNumber 1 = .ok (.getfield 76, 3) := by decide +kernel
theorem dX8_isNumber_4 : decode cX8_isNumber 4 = .ok (.ifCond .ne 21, 3) := by decide +kernel
theorem dX8_isNumber_7 : decode cX8_isNumber 7 = .ok (.aload_n 0, 1) := by decide +kernel
theorem dX8_isNumber_8 : decode cX8_isNumber 8 = .ok (.aload_n 0, 1) := by decide +kernel
theorem dX8_isNumber_9 : decode cX8_isNumber 9 = .ok (.getfield 96, 3) := by decide +kernel
theorem dX8_isNumber_12 : decode cX8_isNumber 12 = .ok (.iconst 2, 1) := by decide +kernel
theorem dX8_isNumber_13 : decode cX8_isNumber 13 = .ok (.if_icmp .ne 7, 3) := by decide +kernel
theorem dX8_isNumber_16 : decode cX8_isNumber 16 = .ok (.iconst 1, 1) := by decide +kernel
theorem dX8_isNumber_17 : decode cX8_isNumber 17 = .ok (.goto 4, 3) := by decide +kernel
theorem dX8_isNumber_20 : decode cX8_isNumber 20 = .ok (.iconst 0, 1) := by decide +kernel
theorem dX8_isNumber_21 : decode cX8_isNumber 21 = .ok (.iconst 2, 1) := by decide +kernel
theorem dX8_isNumber_22 : decode cX8_isNumber 22 = .ok (.invokevirtual 110, 3) := by decide +kernel
theorem dX8_isNumber_25 : decode cX8_isNumber 25 = .ok (.aload_n 0, 1) := by decide +kernel
theorem dX8_isNumber_26 : decode cX8_isNumber 26 = .ok (.getfield 76, 3) := by decide +kernel
theorem dX8_isNumber_29 : decode cX8_isNumber 29 = .ok (.ifCond .ne 20, 3) := by decide +kernel
theorem dX8_isNumber_32 : decode cX8_isNumber 32 = .ok (.aload_n 0, 1) := by decide +kernel
theorem dX8_isNumber_33 : decode cX8_isNumber 33 = .ok (.aload_n 0, 1) := by decide +kernel
theorem dX8_isNumber_34 : decode cX8_isNumber 34 = .ok (.getfield 107, 3) := by decide +kernel
theorem dX8_isNumber_37 : decode cX8_isNumber 37 = .ok (.i2l, 1) := by decide +kernel
theorem dX8_isNumber_38 : decode cX8_isNumber 38 = .ok (.iload_n 1, 1) := by decide +kernel
theorem dX8_isNumber_39 : decode cX8_isNumber 39 = .ok (.i2l, 1) := by decide +kernel
theorem dX8_isNumber_40 : decode cX8_isNumber 40 = .ok (.iload_n 2, 1) := by decide +kernel
theorem dX8_isNumber_41 : decode cX8_isNumber 41 = .ok (.i2l, 1) := by decide +kernel
theorem dX8_isNumber_42 : decode cX8_isNumber 42 = .ok (.invokestatic 72, 3) := by decide +kernel
theorem dX8_isNumber_45 : decode cX8_isNumber 45 = .ok (.iconst 3, 1) := by decide +kernel
theorem dX8_isNumber_46 : decode cX8_isNumber 46 = .ok (.invokevirtual 110, 3) := by decide +kernel
theorem dX8_isNumber_49 : decode cX8_isNumber 49 = .ok (.return_, 1) := by decide +kernel
theorem dX8_readNumber_0 : decode cX8_readNumber 0 = .ok (.aload_n 0, 1) := by decide +kernel
theorem dX8_readNumber_1 : decode cX8_readNumber 1 = .ok (.iload_n 1, 1) := by decide +kernel
theorem dX8_readNumber_2 : decode cX8_readNumber 2 = .ok (.iload_n 2, 1) := by decide +kernel
theorem dX8_readNumber_3 : decode cX8_readNumber 3 = .ok (.invokevirtual 114, 3) := by decide +kernel
theorem dX8_readNumber_6 : decode cX8_readNumber 6 = .ok (.aload_n 0, 1) := by decide +kernel
theorem dX8_readNumber_7 : decode cX8_readNumber 7 = .ok (.getfield 107, 3) := by decide +kernel
theorem dX8_readNumber_10 : decode cX8_readNumber 10 = .ok (.istore_n 3, 1) := by decide +kernel
theorem dX8_readNumber_11 : decode cX8_readNumber 11 = .ok (.aload_n 0, 1) := by decide +kernel
theorem dX8_readNumber_12 : decode cX8_readNumber 12 = .ok (.invokevirtual 118, 3) := by decide +kernel
theorem dX8_readNumber_15 : decode cX8_readNumber 15 = .ok (.iload_n 3, 1) := by decide +kernel
theorem dX8_readNumber_16 : decode cX8_readNumber 16 = .ok (.ireturn, 1) := by decide +kernel
theorem dX8_readHour_0 : decode cX8_readHour 0 = .ok (.aload_n 0, 1) := by decide +kernel
theorem dX8_readHour_1 : decode cX8_readHour 1 = .ok (.iconst 0, 1) := by decide +kernel
theorem dX8_readHour_2 : decode cX8_readHour 2 = .ok (.bipush 23, 2) := by decide +kernel
theorem dX8_readHour_4 : decode cX8_readHour 4 = .ok (.invokevirtual 114, 3) := by decide +kernel
theorem dX8_readHour_7 : decode cX8_readHour 7 = .ok (.aload_n 0, 1) := by decide +kernel
theorem dX8_readHour_8 : decode cX8_readHour 8 = .ok (.getfield 76, 3) := by decide +kernel
theorem dX8_readHour_11 : decode cX8_readHour 11 = .ok (.ifCond .ne 10, 3) := by decide +kernel
theorem dX8_readHour_14 : decode cX8_readHour 14 = .ok (.aload_n 0, 1) := by decide +kernel
theorem dX8_readHour_15 : decode cX8_readHour 15 = .ok (.getfield 107, 3) := by decide +kernel
theorem dX8_readHour_18 : decode cX8_readHour 18 = .ok (.goto 4, 3) := by decide +kernel
theorem dX8_readHour_21 : decode cX8_readHour 21 = .ok (.iconst 0, 1) := by decide +kernel
theorem dX8_readHour_22 : decode cX8_readHour 22 = .ok (.istore_n 1, 1) := by decide +kernel
theorem dX8_readHour_23 : decode cX8_readHour 23 = .ok (.aload_n 0, 1) := by decide +kernel
theorem dX8_readHour_24 : decode cX8_readHour 24 = .ok (.getfield 76, 3) := by decide +kernel
theorem dX8_readHour_27 : decode cX8_readHour 27 = .ok (.ifCond .ne 22, 3) := by decide +kernel
theorem dX8_readHour_30 : decode cX8_readHour 30 = .ok (.aload_n 0, 1) := by decide +kernel
theorem dX8_readHour_31 : decode cX8_readHour 31 = .ok (.aload_n 0, 1) := by decide +kernel
theorem dX8_readHour_32 : decode cX8_readHour 32 = .ok (.getfield 26, 3) := by decide +kernel
theorem dX8_readHour_35 : decode cX8_readHour 35 = .ok (.iload_n 1, 1) := by decide +kernel
theorem dX8_readHour_36 : decode cX8_readHour 36 = .ok (.iaload, 1) := by decide +kernel
theorem dX8_readHour_37 : decode cX8_readHour 37 = .ok (.ifCond .ne 7, 3) := by decide +kernel
theorem dX8_readHour_40 : decode cX8_readHour 40 = .ok (.iconst 1, 1) := by decide +kernel
theorem dX8_readHour_41 : decode cX8_readHour 41 = .ok (.goto 4, 3) := by decide +kernel
theorem dX8_readHour_44 : decode cX8_readHour 44 = .ok (.iconst 0, 1) := by decide +kernel
theorem dX8_readHour_45 : decode cX8_readHour 45 = .ok (.iconst 4, 1) := by decide +kernel
theorem dX8_readHour_46 : decode cX8_readHour 46 = .ok (.invokevirtual 110, 3) := by decide +kernel
theorem dX8_readHour_49 : decode cX8_readHour 49 = .ok (.aload_n 0, 1) := by decide +kernel
theorem dX8_readHour_50 : decode cX8_readHour 50 = .ok (.invokevirtual 118, 3) := by decide +kernel
theorem dX8_readHour_53 : decode cX8_readHour 53 = .ok (.aload_n 0, 1) := by decide +kernel
theorem dX8_readHour_54 : decode cX8_readHour 54 = .ok (.sipush 250, 3) := by decide +kernel
theorem dX8_readHour_57 : decode cX8_readHour 57 = .ok (.sipush 350, 3) := by decide +kernel
theorem dX8_readHour_60 : decode cX8_readHour 60 = .ok (.invokevirtual 121, 3) := by decide +kernel
theorem dX8_readHour_63 : decode cX8_readHour 63 = .ok (.istore_n 2, 1) := by decide +kernel
theorem dX8_readHour_64 : decode cX8_readHour 64 = .ok (.aload_n 0, 1) := by decide +kernel
theorem dX8_readHour_65 : decode cX8_readHour 65 = .ok (.getfield 76, 3) := by decide +kernel
theorem dX8_readHour_68 : decode cX8_readHour 68 = .ok (.ifCond .ne 10, 3) := by decide +kernel
theorem dX8_readHour_71 : decode cX8_readHour 71 = .ok (.aload_n 0, 1) := by decide +kernel
theorem dX8_readHour_72 : decode cX8_readHour 72 = .ok (.getfield 26, 3) := by decide +kernel
theorem dX8_readHour_75 : decode cX8_readHour 75 = .ok (.iload_n 1, 1) := by decide +kernel
theorem dX8_readHour_76 : decode cX8_readHour 76 = .ok (.iload_n 2, 1) := by decide +kernel
theorem dX8_readHour_77 : decode cX8_readHour 77 = .ok (.iastore, 1) := by decide +kernel
theorem dX8_readHour_78 : decode cX8_readHour 78 = .ok (.return_, 1) := by decide +kernel
theorem dX8_readDiver_0 : decode cX8_readDiver 0 = .ok (.bipush 8, 2) := by decide +kernel
theorem dX8_readDiver_2 : decode cX8_readDiver 2 = .ok (.aload_n 0, 1) := by decide +kernel
theorem dX8_readDiver_3 : decode cX8_readDiver 3 = .ok (.getfield 56, 3) := by decide +kernel
theorem dX8_readDiver_6 : decode cX8_readDiver 6 = .ok (.imul, 1) := by decide +kernel
theorem dX8_readDiver_7 : decode cX8_readDiver 7 = .ok (.istore_n 1, 1) := by decide +kernel
theorem dX8_readDiver_8 : decode cX8_readDiver 8 = .ok (.aload_n 0, 1) := by decide +kernel
theorem dX8_readDiver_9 : decode cX8_readDiver 9 = .ok (.getfield 29, 3) := by decide +kernel
theorem dX8_readDiver_12 : decode cX8_readDiver 12 = .ok (.iload_n 1, 1) := by decide +kernel
theorem dX8_readDiver_13 : decode cX8_readDiver 13 = .ok (.iconst 0, 1) := by decide +kernel
theorem dX8_readDiver_14 : decode cX8_readDiver 14 = .ok (.iadd, 1) := by decide +kernel
theorem dX8_readDiver_15 : decode cX8_readDiver 15 = .ok (.aload_n 0, 1) := by decide +kernel
theorem dX8_readDiver_16 : decode cX8_readDiver 16 = .ok (.iconst 1, 1) := by decide +kernel
theorem dX8_readDiver_17 : decode cX8_readDiver 17 = .ok (.sipush 999, 3) := by decide +kernel
theorem dX8_readDiver_20 : decode cX8_readDiver 20 = .ok (.invokevirtual 121, 3) := by decide +kernel
theorem dX8_readDiver_23 : decode cX8_readDiver 23 = .ok (.iastore, 1) := by decide +kernel
theorem dX8_readDiver_24 : decode cX8_readDiver 24 = .ok (.aload_n 0, 1) := by decide +kernel
theorem dX8_readDiver_25 : decode cX8_readDiver 25 = .ok (.getfield 29, 3) := by decide +kernel
theorem dX8_readDiver_28 : decode cX8_readDiver 28 = .ok (.iload_n 1, 1) := by decide +kernel
theorem dX8_readDiver_29 : decode cX8_readDiver 29 = .ok (.iconst 1, 1) := by decide +kernel
theorem dX8_readDiver_30 : decode cX8_readDiver 30 = .ok (.iadd, 1) := by decide +kernel
theorem dX8_readDiver_31 : decode cX8_readDiver 31 = .ok (.aload_n 0, 1) := by decide +kernel
theorem dX8_readDiver_32 : decode cX8_readDiver 32 = .ok (.iconst 0, 1) := by decide +kernel
theorem dX8_readDiver_33 : decode cX8_readDiver 33 = .ok (.sipush 9999, 3) := by decide +kernel
theorem dX8_readDiver_36 : decode cX8_readDiver 36 = .ok (.invokevirtual 121, 3) := by decide +kernel
theorem dX8_readDiver_39 : decode cX8_readDiver 39 = .ok (.iastore, 1) := by decide +kernel
theorem dX8_readDiver_40 : decode cX8_readDiver 40 = .ok (.iconst 0, 1) := by decide +kernel
theorem dX8_readDiver_41 : decode cX8_readDiver 41 = .ok (.istore_n 2, 1) := by decide +kernel
theorem dX8_readDiver_42 : decode cX8_readDiver 42 = .ok (.aload_n 0, 1) := by decide +kernel
theorem dX8_readDiver_43 : decode cX8_readDiver 43 = .ok (.getfield 76, 3) := by decide +kernel
theorem dX8_readDiver_46 : decode cX8_readDiver 46 = .ok (.ifCond .ne 130, 3) := by decide +kernel
theorem dX8_readDiver_49 : decode cX8_readDiver 49 = .ok (.aload_n 0, 1) := by decide +kernel
theorem dX8_readDiver_50 : decode cX8_readDiver 50 = .ok (.getfield 96, 3) := by decide +kernel
theorem dX8_readDiver_53 : decode cX8_readDiver 53 = .ok (.iconst 1, 1) := by decide +kernel
theorem dX8_readDiver_54 : decode cX8_readDiver 54 = .ok (.if_icmp .ne 122, 3) := by decide +kernel
theorem dX8_readDiver_57 : decode cX8_readDiver 57 = .ok (.aload_n 0, 1) := by decide +kernel
theorem dX8_readDiver_58 : decode cX8_readDiver 58 = .ok (.invokevirtual 125, 3) := by decide +kernel
theorem dX8_readDiver_61 : decode cX8_readDiver 61 = .ok (.istore_n 3, 1) := by decide +kernel
theorem dX8_readDiver_62 : decode cX8_readDiver 62 = .ok (.aload_n 0, 1) := by decide +kernel
theorem dX8_readDiver_63 : decode cX8_readDiver 63 = .ok (.iload_n 3, 1) := by decide +kernel
theorem dX8_readDiver_64 : decode cX8_readDiver 64 = .ok (.bipush (-4), 2) := by decide +kernel
theorem dX8_readDiver_66 : decode cX8_readDiver 66 = .ok (.if_icmp .eq 7, 3) := by decide +kernel
theorem dX8_readDiver_69 : decode cX8_readDiver 69 = .ok (.iconst 1, 1) := by decide +kernel
theorem dX8_readDiver_70 : decode cX8_readDiver 70 = .ok (.goto 4, 3) := by decide +kernel
theorem dX8_readDiver_73 : decode cX8_readDiver 73 = .ok (.iconst 0, 1) := by decide +kernel
theorem dX8_readDiver_74 : decode cX8_readDiver 74 = .ok (.iconst 2, 1) := by decide +kernel
theorem dX8_readDiver_75 : decode cX8_readDiver 75 = .ok (.invokevirtual 110, 3) := by decide +kernel
theorem dX8_readDiver_78 : decode cX8_readDiver 78 = .ok (.aload_n 0, 1) := by decide +kernel
theorem dX8_readDiver_79 : decode cX8_readDiver 79 = .ok (.iload_n 2, 1) := by decide +kernel
theorem dX8_readDiver_80 : decode cX8_readDiver 80 = .ok (.iload_n 3, 1) := by decide +kernel
theorem dX8_readDiver_81 : decode cX8_readDiver 81 = .ok (.ishr, 1) := by decide +kernel
theorem dX8_readDiver_82 : decode cX8_readDiver 82 = .ok (.iconst 1, 1) := by decide +kernel
theorem dX8_readDiver_83 : decode cX8_readDiver 83 = .ok (.iand, 1) := by decide +kernel
theorem dX8_readDiver_84 : decode cX8_readDiver 84 = .ok (.ifCond .ne 7, 3) := by decide +kernel
theorem dX8_readDiver_87 : decode cX8_readDiver 87 = .ok (.iconst 1, 1) := by decide +kernel
theorem dX8_readDiver_88 : decode cX8_readDiver 88 = .ok (.goto 4, 3) := by decide +kernel
theorem dX8_readDiver_91 : decode cX8_readDiver 91 = .ok (.iconst 0, 1) := by decide +kernel
theorem dX8_readDiver_92 : decode cX8_readDiver 92 = .ok (.iconst 4, 1) := by decide +kernel
theorem dX8_readDiver_93 : decode cX8_readDiver 93 = .ok (.invokevirtual 110, 3) := by decide +kernel
theorem dX8_readDiver_96 : decode cX8_readDiver 96 = .ok (.iload_n 2, 1) := by decide +kernel
theorem dX8_readDiver_97 : decode cX8_readDiver 97 = .ok (.iload_n 3, 1) := by decide +kernel
theorem dX8_readDiver_98 : decode cX8_readDiver 98 = .ok (.bipush (-4), 2) := by decide +kernel
theorem dX8_readDiver_100 : decode cX8_readDiver 100 = .ok (.if_icmp .ne 7, 3) := by decide +kernel
theorem dX8_readDiver_103 : decode cX8_readDiver 103 = .ok (.iconst 0, 1) := by decide +kernel
theorem dX8_readDiver_104 : decode cX8_readDiver 104 = .ok (.goto 6, 3) := by decide +kernel
theorem dX8_readDiver_107 : decode cX8_readDiver 107 = .ok (.iconst 1, 1) := by decide +kernel
theorem dX8_readDiver_108 : decode cX8_readDiver 108 = .ok (.iload_n 3, 1) := by decide +kernel
theorem dX8_readDiver_109 : decode cX8_readDiver 109 = .ok (.ishl, 1) := by decide +kernel
theorem dX8_readDiver_110 : decode cX8_readDiver 110 = .ok (.ior, 1) := by decide +kernel
theorem dX8_readDiver_111 : decode cX8_readDiver 111 = .ok (.istore_n 2, 1) := by decide +kernel
theorem dX8_readDiver_112 : decode cX8_readDiver 112 = .ok (.aload_n 0, 1) := by decide +kernel
theorem dX8_readDiver_113 : decode cX8_readDiver 113 = .ok (.invokevirtual 118, 3) := by decide +kernel
theorem dX8_readDiver_116 : decode cX8_readDiver 116 = .ok (.aload_n 0, 1) := by decide +kernel
theorem dX8_readDiver_117 : decode cX8_readDiver 117 = .ok (.getfield 76, 3) := by decide +kernel
theorem dX8_readDiver_120 : decode cX8_readDiver 120 = .ok (.ifCond .ne 21, 3) := by decide +kernel
theorem dX8_readDiver_123 : decode cX8_readDiver 123 = .ok (.iload_n 3, 1) := by decide +kernel
theorem dX8_readDiver_124 : decode cX8_readDiver 124 = .ok (.bipush 12, 2) := by decide +kernel
theorem dX8_readDiver_126 : decode cX8_readDiver 126 = .ok (.if_icmp .ne 15, 3) := by decide +kernel
theorem dX8_readDiver_129 : decode cX8_readDiver 129 = .ok (.aload_n 0, 1) := by decide +kernel
theorem dX8_readDiver_130 : decode cX8_readDiver 130 = .ok (.getfield 29, 3) := by decide +kernel
theorem dX8_readDiver_133 : decode cX8_readDiver 133 = .ok (.iload_n 1, 1) := by decide +kernel
theorem dX8_readDiver_134 : decode cX8_readDiver 134 = .ok (.iconst 4, 1) := by decide +kernel
theorem dX8_readDiver_135 : decode cX8_readDiver 135 = .ok (.iadd, 1) := by decide +kernel
theorem dX8_readDiver_136 : decode cX8_readDiver 136 = .ok (.iconst 1, 1) := by decide +kernel
theorem dX8_readDiver_137 : decode cX8_readDiver 137 = .ok (.iastore, 1) := by decide +kernel
theorem dX8_readDiver_138 : decode cX8_readDiver 138 = .ok (.goto 35, 3) := by decide +kernel
theorem dX8_readDiver_141 : decode cX8_readDiver 141 = .ok (.aload_n 0, 1) := by decide +kernel
theorem dX8_readDiver_142 : decode cX8_readDiver 142 = .ok (.getfield 76, 3) := by decide +kernel
theorem dX8_readDiver_145 : decode cX8_readDiver 145 = .ok (.ifCond .ne 28, 3) := by decide +kernel
theorem dX8_readDiver_148 : decode cX8_readDiver 148 = .ok (.aload_n 0, 1) := by decide +kernel
theorem dX8_readDiver_149 : decode cX8_readDiver 149 = .ok (.getfield 29, 3) := by decide +kernel
theorem dX8_readDiver_152 : decode cX8_readDiver 152 = .ok (.iload_n 1, 1) := by decide +kernel
theorem dX8_readDiver_153 : decode cX8_readDiver 153 = .ok (.iload_n 3, 1) := by decide +kernel
theorem dX8_readDiver_154 : decode cX8_readDiver 154 = .ok (.bipush 10, 2) := by decide +kernel
theorem dX8_readDiver_156 : decode cX8_readDiver 156 = .ok (.if_icmp .ne 7, 3) := by decide +kernel
theorem dX8_readDiver_159 : decode cX8_readDiver 159 = .ok (.iconst 2, 1) := by decide +kernel
theorem dX8_readDiver_160 : decode cX8_readDiver 160 = .ok (.goto 4, 3) := by decide +kernel
theorem dX8_readDiver_163 : decode cX8_readDiver 163 = .ok (.iconst 3, 1) := by decide +kernel
theorem dX8_readDiver_164 : decode cX8_readDiver 164 = .ok (.iadd, 1) := by decide +kernel
theorem dX8_readDiver_165 : decode cX8_readDiver 165 = .ok (.aload_n 0, 1) := by decide +kernel
theorem dX8_readDiver_166 : decode cX8_readDiver 166 = .ok (.iconst 0, 1) := by decide +kernel
theorem dX8_readDiver_167 : decode cX8_readDiver 167 = .ok (.bipush 99, 2) := by decide +kernel
theorem dX8_readDiver_169 : decode cX8_readDiver 169 = .ok (.invokevirtual 121, 3) := by decide +kernel
theorem dX8_readDiver_172 : decode cX8_readDiver 172 = .ok (.iastore, 1) := by decide +kernel
theorem dX8_readDiver_173 : decode cX8_readDiver 173 = .ok (.goto (-131), 3) := by decide +kernel
theorem dX8_readDiver_176 : decode cX8_readDiver 176 = .ok (.aload_n 0, 1) := by decide +kernel
theorem dX8_readDiver_177 : decode cX8_readDiver 177 = .ok (.dup, 1) := by decide +kernel
theorem dX8_readDiver_178 : decode cX8_readDiver 178 = .ok (.getfield 56, 3) := by decide +kernel
theorem dX8_readDiver_181 : decode cX8_readDiver 181 = .ok (.iconst 1, 1) := by decide +kernel
theorem dX8_readDiver_182 : decode cX8_readDiver 182 = .ok (.iadd, 1) := by decide +kernel
theorem dX8_readDiver_183 : decode cX8_readDiver 183 = .ok (.putfield 56, 3) := by decide +kernel
theorem dX8_readDiver_186 : decode cX8_readDiver 186 = .ok (.return_, 1) := by decide +kernel
theorem dX8_readRule_0 : decode cX8_readRule 0 = .ok (.iload_n 1, 1) := by decide +kernel
theorem dX8_readRule_1 : decode cX8_readRule 1 = .ok (.tableswitch 137 0 4 #[35, 53, 72, 91, 107], 35) := by decide +kernel
theorem dX8_readRule_36 : decode cX8_readRule 36 = .ok (.aload_n 0, 1) := by decide +kernel
theorem dX8_readRule_37 : decode cX8_readRule 37 = .ok (.getfield 23, 3) := by decide +kernel
theorem dX8_readRule_40 : decode cX8_readRule 40 = .ok (.iconst 0, 1) := by decide +kernel
theorem dX8_readRule_41 : decode cX8_readRule 41 = .ok (.aload_n 0, 1) := by decide +kernel
theorem dX8_readRule_42 : decode cX8_readRule 42 = .ok (.bipush 10, 2) := by decide +kernel
theorem dX8_readRule_44 : decode cX8_readRule 44 = .ok (.sipush 200, 3) := by decide +kernel
theorem dX8_readRule_47 : decode cX8_readRule 47 = .ok (.invokevirtual 121, 3) := by decide +kernel
theorem dX8_readRule_50 : decode cX8_readRule 50 = .ok (.iastore, 1) := by decide +kernel
theorem dX8_readRule_51 : decode cX8_readRule 51 = .ok (.goto 102, 3) := by decide +kernel
theorem dX8_readRule_54 : decode cX8_readRule 54 = .ok (.aload_n 0, 1) := by decide +kernel
theorem dX8_readRule_55 : decode cX8_readRule 55 = .ok (.getfield 23, 3) := by decide +kernel
theorem dX8_readRule_58 : decode cX8_readRule 58 = .ok (.iconst 1, 1) := by decide +kernel
theorem dX8_readRule_59 : decode cX8_readRule 59 = .ok (.aload_n 0, 1) := by decide +kernel
theorem dX8_readRule_60 : decode cX8_readRule 60 = .ok (.sipush 800, 3) := by decide +kernel
theorem dX8_readRule_63 : decode cX8_readRule 63 = .ok (.sipush 1200, 3) := by decide +kernel
theorem dX8_readRule_66 : decode cX8_readRule 66 = .ok (.invokevirtual 121, 3) := by decide +kernel
theorem dX8_readRule_69 : decode cX8_readRule 69 = .ok (.iastore, 1) := by decide +kernel
theorem dX8_readRule_70 : decode cX8_readRule 70 = .ok (.goto 83, 3) := by decide +kernel
theorem dX8_readRule_73 : decode cX8_readRule 73 = .ok (.aload_n 0, 1) := by decide +kernel
theorem dX8_readRule_74 : decode cX8_readRule 74 = .ok (.getfield 23, 3) := by decide +kernel
theorem dX8_readRule_77 : decode cX8_readRule 77 = .ok (.iconst 2, 1) := by decide +kernel
theorem dX8_readRule_78 : decode cX8_readRule 78 = .ok (.aload_n 0, 1) := by decide +kernel
theorem dX8_readRule_79 : decode cX8_readRule 79 = .ok (.sipush 250, 3) := by decide +kernel
theorem dX8_readRule_82 : decode cX8_readRule 82 = .ok (.sipush 350, 3) := by decide +kernel
theorem dX8_readRule_85 : decode cX8_readRule 85 = .ok (.invokevirtual 121, 3) := by decide +kernel
theorem dX8_readRule_88 : decode cX8_readRule 88 = .ok (.iastore, 1) := by decide +kernel
theorem dX8_readRule_89 : decode cX8_readRule 89 = .ok (.goto 64, 3) := by decide +kernel
theorem dX8_readRule_92 : decode cX8_readRule 92 = .ok (.aload_n 0, 1) := by decide +kernel
theorem dX8_readRule_93 : decode cX8_readRule 93 = .ok (.getfield 23, 3) := by decide +kernel
theorem dX8_readRule_96 : decode cX8_readRule 96 = .ok (.iconst 3, 1) := by decide +kernel
theorem dX8_readRule_97 : decode cX8_readRule 97 = .ok (.aload_n 0, 1) := by decide +kernel
theorem dX8_readRule_98 : decode cX8_readRule 98 = .ok (.iconst 1, 1) := by decide +kernel
theorem dX8_readRule_99 : decode cX8_readRule 99 = .ok (.bipush 64, 2) := by decide +kernel
theorem dX8_readRule_101 : decode cX8_readRule 101 = .ok (.invokevirtual 121, 3) := by decide +kernel
theorem dX8_readRule_104 : decode cX8_readRule 104 = .ok (.iastore, 1) := by decide +kernel
theorem dX8_readRule_105 : decode cX8_readRule 105 = .ok (.goto 48, 3) := by decide +kernel
theorem dX8_readRule_108 : decode cX8_readRule 108 = .ok (.aload_n 0, 1) := by decide +kernel
theorem dX8_readRule_109 : decode cX8_readRule 109 = .ok (.getfield 23, 3) := by decide +kernel
theorem dX8_readRule_112 : decode cX8_readRule 112 = .ok (.iconst 4, 1) := by decide +kernel
theorem dX8_readRule_113 : decode cX8_readRule 113 = .ok (.aload_n 0, 1) := by decide +kernel
theorem dX8_readRule_114 : decode cX8_readRule 114 = .ok (.iconst 0, 1) := by decide +kernel
theorem dX8_readRule_115 : decode cX8_readRule 115 = .ok (.sipush 201, 3) := by decide +kernel
theorem dX8_readRule_118 : decode cX8_readRule 118 = .ok (.invokevirtual 121, 3) := by decide +kernel
theorem dX8_readRule_121 : decode cX8_readRule 121 = .ok (.iastore, 1) := by decide +kernel
theorem dX8_readRule_122 : decode cX8_readRule 122 = .ok (.aload_n 0, 1) := by decide +kernel
theorem dX8_readRule_123 : decode cX8_readRule 123 = .ok (.getfield 23, 3) := by decide +kernel
theorem dX8_readRule_126 : decode cX8_readRule 126 = .ok (.iconst 5, 1) := by decide +kernel
theorem dX8_readRule_127 : decode cX8_readRule 127 = .ok (.aload_n 0, 1) := by decide +kernel
theorem dX8_readRule_128 : decode cX8_readRule 128 = .ok (.iconst 0, 1) := by decide +kernel
theorem dX8_readRule_129 : decode cX8_readRule 129 = .ok (.bipush 99, 2) := by decide +kernel
theorem dX8_readRule_131 : decode cX8_readRule 131 = .ok (.invokevirtual 121, 3) := by decide +kernel
theorem dX8_readRule_134 : decode cX8_readRule 134 = .ok (.iastore, 1) := by decide +kernel
theorem dX8_readRule_135 : decode cX8_readRule 135 = .ok (.goto 18, 3) := by decide +kernel
theorem dX8_readRule_138 : decode cX8_readRule 138 = .ok (.aload_n 0, 1) := by decide +kernel
theorem dX8_readRule_139 : decode cX8_readRule 139 = .ok (.getfield 23, 3) := by decide +kernel
theorem dX8_readRule_142 : decode cX8_readRule 142 = .ok (.bipush 6, 2) := by decide +kernel
theorem dX8_readRule_144 : decode cX8_readRule 144 = .ok (.aload_n 0, 1) := by decide +kernel
theorem dX8_readRule_145 : decode cX8_readRule 145 = .ok (.iconst 0, 1) := by decide +kernel
theorem dX8_readRule_146 : decode cX8_readRule 146 = .ok (.sipush 999, 3) := by decide +kernel
theorem dX8_readRule_149 : decode cX8_readRule 149 = .ok (.invokevirtual 121, 3) := by decide +kernel
theorem dX8_readRule_152 : decode cX8_readRule 152 = .ok (.iastore, 1) := by decide +kernel
theorem dX8_readRule_153 : decode cX8_readRule 153 = .ok (.return_, 1) := by decide +kernel
theorem dX8_readLine_0 : decode cX8_readLine 0 = .ok (.aload_n 0, 1) := by decide +kernel
theorem dX8_readLine_1 : decode cX8_readLine 1 = .ok (.getfield 96, 3) := by decide +kernel
theorem dX8_readLine_4 : decode cX8_readLine 4 = .ok (.iconst 1, 1) := by decide +kernel
theorem dX8_readLine_5 : decode cX8_readLine 5 = .ok (.if_icmp .ne 10, 3) := by decide +kernel
theorem dX8_readLine_8 : decode cX8_readLine 8 = .ok (.aload_n 0, 1) := by decide +kernel
theorem dX8_readLine_9 : decode cX8_readLine 9 = .ok (.invokevirtual 129, 3) := by decide +kernel
theorem dX8_readLine_12 : decode cX8_readLine 12 = .ok (.goto 5, 3) := by decide +kernel
theorem dX8_readLine_15 : decode cX8_readLine 15 = .ok (.bipush (-4), 2) := by decide +kernel
theorem dX8_readLine_17 : decode cX8_readLine 17 = .ok (.istore_n 1, 1) := by decide +kernel
theorem dX8_readLine_18 : decode cX8_readLine 18 = .ok (.aload_n 0, 1) := by decide +kernel
theorem dX8_readLine_19 : decode cX8_readLine 19 = .ok (.iload_n 1, 1) := by decide +kernel
theorem dX8_readLine_20 : decode cX8_readLine 20 = .ok (.bipush (-4), 2) := by decide +kernel
theorem dX8_readLine_22 : decode cX8_readLine 22 = .ok (.if_icmp .eq 7, 3) := by decide +kernel
theorem dX8_readLine_25 : decode cX8_readLine 25 = .ok (.iconst 1, 1) := by decide +kernel
theorem dX8_readLine_26 : decode cX8_readLine 26 = .ok (.goto 4, 3) := by decide +kernel
theorem dX8_readLine_29 : decode cX8_readLine 29 = .ok (.iconst 0, 1) := by decide +kernel
theorem dX8_readLine_30 : decode cX8_readLine 30 = .ok (.iconst 2, 1) := by decide +kernel
theorem dX8_readLine_31 : decode cX8_readLine 31 = .ok (.invokevirtual 110, 3) := by decide +kernel
theorem dX8_readLine_34 : decode cX8_readLine 34 = .ok (.aload_n 0, 1) := by decide +kernel
theorem dX8_readLine_35 : decode cX8_readLine 35 = .ok (.iload_n 1, 1) := by decide +kernel
theorem dX8_readLine_36 : decode cX8_readLine 36 = .ok (.bipush 7, 2) := by decide +kernel
theorem dX8_readLine_38 : decode cX8_readLine 38 = .ok (.if_icmp .ne 12, 3) := by decide +kernel
theorem dX8_readLine_41 : decode cX8_readLine 41 = .ok (.aload_n 0, 1) := by decide +kernel
theorem dX8_readLine_42 : decode cX8_readLine 42 = .ok (.getfield 56, 3) := by decide +kernel
theorem dX8_readLine_45 : decode cX8_readLine 45 = .ok (.bipush 6, 2) := by decide +kernel
theorem dX8_readLine_47 : decode cX8_readLine 47 = .ok (.if_icmp .ge 7, 3) := by decide +kernel
theorem dX8_readLine_50 : decode cX8_readLine 50 = .ok (.iconst 1, 1) := by decide +kernel
theorem dX8_readLine_51 : decode cX8_readLine 51 = .ok (.goto 4, 3) := by decide +kernel
theorem dX8_readLine_54 : decode cX8_readLine 54 = .ok (.iconst 0, 1) := by decide +kernel
theorem dX8_readLine_55 : decode cX8_readLine 55 = .ok (.iconst 5, 1) := by decide +kernel
theorem dX8_readLine_56 : decode cX8_readLine 56 = .ok (.invokevirtual 110, 3) := by decide +kernel
theorem dX8_readLine_59 : decode cX8_readLine 59 = .ok (.aload_n 0, 1) := by decide +kernel
theorem dX8_readLine_60 : decode cX8_readLine 60 = .ok (.getfield 76, 3) := by decide +kernel
theorem dX8_readLine_63 : decode cX8_readLine 63 = .ok (.ifCond .ne 42, 3) := by decide +kernel
theorem dX8_readLine_66 : decode cX8_readLine 66 = .ok (.iload_n 1, 1) := by decide +kernel
theorem dX8_readLine_67 : decode cX8_readLine 67 = .ok (.bipush 6, 2) := by decide +kernel
theorem dX8_readLine_69 : decode cX8_readLine 69 = .ok (.if_icmp .ge 36, 3) := by decide +kernel
theorem dX8_readLine_72 : decode cX8_readLine 72 = .ok (.aload_n 0, 1) := by decide +kernel
theorem dX8_readLine_73 : decode cX8_readLine 73 = .ok (.aload_n 0, 1) := by decide +kernel
theorem dX8_readLine_74 : decode cX8_readLine 74 = .ok (.getfield 60, 3) := by decide +kernel
theorem dX8_readLine_77 : decode cX8_readLine 77 = .ok (.iload_n 1, 1) := by decide +kernel
theorem dX8_readLine_78 : decode cX8_readLine 78 = .ok (.ishr, 1) := by decide +kernel
theorem dX8_readLine_79 : decode cX8_readLine 79 = .ok (.iconst 1, 1) := by decide +kernel
theorem dX8_readLine_80 : decode cX8_readLine 80 = .ok (.iand, 1) := by decide +kernel
theorem dX8_readLine_81 : decode cX8_readLine 81 = .ok (.ifCond .ne 7, 3) := by decide +kernel
theorem dX8_readLine_84 : decode cX8_readLine 84 = .ok (.iconst 1, 1) := by decide +kernel
theorem dX8_readLine_85 : decode cX8_readLine 85 = .ok (.goto 4, 3) := by decide +kernel
theorem dX8_readLine_88 : decode cX8_readLine 88 = .ok (.iconst 0, 1) := by decide +kernel
theorem dX8_readLine_89 : decode cX8_readLine 89 = .ok (.iconst 4, 1) := by decide +kernel
theorem dX8_readLine_90 : decode cX8_readLine 90 = .ok (.invokevirtual 110, 3) := by decide +kernel
theorem dX8_readLine_93 : decode cX8_readLine 93 = .ok (.aload_n 0, 1) := by decide +kernel
theorem dX8_readLine_94 : decode cX8_readLine 94 = .ok (.dup, 1) := by decide +kernel
theorem dX8_readLine_95 : decode cX8_readLine 95 = .ok (.getfield 60, 3) := by decide +kernel
theorem dX8_readLine_98 : decode cX8_readLine 98 = .ok (.iconst 1, 1) := by decide +kernel
theorem dX8_readLine_99 : decode cX8_readLine 99 = .ok (.iload_n 1, 1) := by decide +kernel
theorem dX8_readLine_100 : decode cX8_readLine 100 = .ok (.ishl, 1) := by decide +kernel
theorem dX8_readLine_101 : decode cX8_readLine 101 = .ok (.ior, 1) := by decide +kernel
theorem dX8_readLine_102 : decode cX8_readLine 102 = .ok (.putfield 60, 3) := by decide +kernel
theorem dX8_readLine_105 : decode cX8_readLine 105 = .ok (.aload_n 0, 1) := by decide +kernel
theorem dX8_readLine_106 : decode cX8_readLine 106 = .ok (.invokevirtual 118, 3) := by decide +kernel
theorem dX8_readLine_109 : decode cX8_readLine 109 = .ok (.aload_n 0, 1) := by decide +kernel
theorem dX8_readLine_110 : decode cX8_readLine 110 = .ok (.getfield 76, 3) := by decide +kernel
theorem dX8_readLine_113 : decode cX8_readLine 113 = .ok (.ifCond .le 4, 3) := by decide +kernel
theorem dX8_readLine_116 : decode cX8_readLine 116 = .ok (.return_, 1) := by decide +kernel
theorem dX8_readLine_117 : decode cX8_readLine 117 = .ok (.iload_n 1, 1) := by decide +kernel
theorem dX8_readLine_118 : decode cX8_readLine 118 = .ok (.bipush 7, 2) := by decide +kernel
theorem dX8_readLine_120 : decode cX8_readLine 120 = .ok (.if_icmp .ne 10, 3) := by decide +kernel
theorem dX8_readLine_123 : decode cX8_readLine 123 = .ok (.aload_n 0, 1) := by decide +kernel
theorem dX8_readLine_124 : decode cX8_readLine 124 = .ok (.invokevirtual 132, 3) := by decide +kernel
theorem dX8_readLine_127 : decode cX8_readLine 127 = .ok (.goto 21, 3) := by decide +kernel
theorem dX8_readLine_130 : decode cX8_readLine 130 = .ok (.iload_n 1, 1) := by decide +kernel
theorem dX8_readLine_131 : decode cX8_readLine 131 = .ok (.bipush 6, 2) := by decide +kernel
theorem dX8_readLine_133 : decode cX8_readLine 133 = .ok (.if_icmp .ne 10, 3) := by decide +kernel
theorem dX8_readLine_136 : decode cX8_readLine 136 = .ok (.aload_n 0, 1) := by decide +kernel
theorem dX8_readLine_137 : decode cX8_readLine 137 = .ok (.invokevirtual 135, 3) := by decide +kernel
theorem dX8_readLine_140 : decode cX8_readLine 140 = .ok (.goto 8, 3) := by decide +kernel
theorem dX8_readLine_143 : decode cX8_readLine 143 = .ok (.aload_n 0, 1) := by decide +kernel
theorem dX8_readLine_144 : decode cX8_readLine 144 = .ok (.iload_n 1, 1) := by decide +kernel
theorem dX8_readLine_145 : decode cX8_readLine 145 = .ok (.invokevirtual 138, 3) := by decide +kernel
theorem dX8_readLine_148 : decode cX8_readLine 148 = .ok (.aload_n 0, 1) := by decide +kernel
theorem dX8_readLine_149 : decode cX8_readLine 149 = .ok (.getfield 76, 3) := by decide +kernel
theorem dX8_readLine_152 : decode cX8_readLine 152 = .ok (.ifCond .ne 21, 3) := by decide +kernel
theorem dX8_readLine_155 : decode cX8_readLine 155 = .ok (.aload_n 0, 1) := by decide +kernel
theorem dX8_readLine_156 : decode cX8_readLine 156 = .ok (.aload_n 0, 1) := by decide +kernel
theorem dX8_readLine_157 : decode cX8_readLine 157 = .ok (.getfield 96, 3) := by decide +kernel
theorem dX8_readLine_160 : decode cX8_readLine 160 = .ok (.iconst 3, 1) := by decide +kernel
theorem dX8_readLine_161 : decode cX8_readLine 161 = .ok (.if_icmp .ne 7, 3) := by decide +kernel
theorem dX8_readLine_164 : decode cX8_readLine 164 = .ok (.iconst 1, 1) := by decide +kernel
theorem dX8_readLine_165 : decode cX8_readLine 165 = .ok (.goto 4, 3) := by decide +kernel
theorem dX8_readLine_168 : decode cX8_readLine 168 = .ok (.iconst 0, 1) := by decide +kernel
theorem dX8_readLine_169 : decode cX8_readLine 169 = .ok (.iconst 2, 1) := by decide +kernel
theorem dX8_readLine_170 : decode cX8_readLine 170 = .ok (.invokevirtual 110, 3) := by decide +kernel
theorem dX8_readLine_173 : decode cX8_readLine 173 = .ok (.aload_n 0, 1) := by decide +kernel
theorem dX8_readLine_174 : decode cX8_readLine 174 = .ok (.invokevirtual 118, 3) := by decide +kernel
theorem dX8_readLine_177 : decode cX8_readLine 177 = .ok (.return_, 1) := by decide +kernel
theorem dX8_text_0 : decode cX8_text 0 = .ok (.iconst 0, 1) := by decide +kernel
theorem dX8_text_1 : decode cX8_text 1 = .ok (.istore_n 1, 1) := by decide +kernel
theorem dX8_text_2 : decode cX8_text 2 = .ok (.aload_n 0, 1) := by decide +kernel
theorem dX8_text_3 : decode cX8_text 3 = .ok (.iconst 0, 1) := by decide +kernel
theorem dX8_text_4 : decode cX8_text 4 = .ok (.putfield 76, 3) := by decide +kernel
theorem dX8_text_7 : decode cX8_text 7 = .ok (.aload_n 0, 1) := by decide +kernel
theorem dX8_text_8 : decode cX8_text 8 = .ok (.iconst 0, 1) := by decide +kernel
theorem dX8_text_9 : decode cX8_text 9 = .ok (.putfield 85, 3) := by decide +kernel
theorem dX8_text_12 : decode cX8_text 12 = .ok (.aload_n 0, 1) := by decide +kernel
theorem dX8_text_13 : decode cX8_text 13 = .ok (.invokevirtual 50, 3) := by decide +kernel
theorem dX8_text_16 : decode cX8_text 16 = .ok (.aload_n 0, 1) := by decide +kernel
theorem dX8_text_17 : decode cX8_text 17 = .ok (.invokevirtual 118, 3) := by decide +kernel
theorem dX8_text_20 : decode cX8_text 20 = .ok (.aload_n 0, 1) := by decide +kernel
theorem dX8_text_21 : decode cX8_text 21 = .ok (.getfield 76, 3) := by decide +kernel
theorem dX8_text_24 : decode cX8_text 24 = .ok (.ifCond .ne 20, 3) := by decide +kernel
theorem dX8_text_27 : decode cX8_text 27 = .ok (.aload_n 0, 1) := by decide +kernel
theorem dX8_text_28 : decode cX8_text 28 = .ok (.getfield 96, 3) := by decide +kernel
theorem dX8_text_31 : decode cX8_text 31 = .ok (.ifCond .eq 13, 3) := by decide +kernel
theorem dX8_text_34 : decode cX8_text 34 = .ok (.aload_n 0, 1) := by decide +kernel
theorem dX8_text_35 : decode cX8_text 35 = .ok (.invokevirtual 142, 3) := by decide +kernel
theorem dX8_text_38 : decode cX8_text 38 = .ok (.iinc 1 1, 3) := by decide +kernel
theorem dX8_text_41 : decode cX8_text 41 = .ok (.goto (-21), 3) := by decide +kernel
theorem dX8_text_44 : decode cX8_text 44 = .ok (.aload_n 0, 1) := by decide +kernel
theorem dX8_text_45 : decode cX8_text 45 = .ok (.iconst 0, 1) := by decide +kernel
theorem dX8_text_46 : decode cX8_text 46 = .ok (.putfield 67, 3) := by decide +kernel
theorem dX8_text_49 : decode cX8_text 49 = .ok (.aload_n 0, 1) := by decide +kernel
theorem dX8_text_50 : decode cX8_text 50 = .ok (.getfield 76, 3) := by decide +kernel
theorem dX8_text_53 : decode cX8_text 53 = .ok (.ifCond .le 11, 3) := by decide +kernel
theorem dX8_text_56 : decode cX8_text 56 = .ok (.bipush (-10), 2) := by decide +kernel
theorem dX8_text_58 : decode cX8_text 58 = .ok (.aload_n 0, 1) := by decide +kernel
theorem dX8_text_59 : decode cX8_text 59 = .ok (.getfield 82, 3) := by decide +kernel
theorem dX8_text_62 : decode cX8_text 62 = .ok (.isub, 1) := by decide +kernel
theorem dX8_text_63 : decode cX8_text 63 = .ok (.ireturn, 1) := by decide +kernel
theorem dX8_text_64 : decode cX8_text 64 = .ok (.aload_n 0, 1) := by decide +kernel
theorem dX8_text_65 : decode cX8_text 65 = .ok (.invokevirtual 53, 3) := by decide +kernel
theorem dX8_text_68 : decode cX8_text 68 = .ok (.iload_n 1, 1) := by decide +kernel
theorem dX8_text_69 : decode cX8_text 69 = .ok (.ireturn, 1) := by decide +kernel
theorem dX8_fault_0 : decode cX8_fault 0 = .ok (.aload_n 0, 1) := by decide +kernel
theorem dX8_fault_1 : decode cX8_fault 1 = .ok (.getfield 76, 3) := by decide +kernel
theorem dX8_fault_4 : decode cX8_fault 4 = .ok (.ireturn, 1) := by decide +kernel
theorem dX8_rule_0 : decode cX8_rule 0 = .ok (.iload_n 1, 1) := by decide +kernel
theorem dX8_rule_1 : decode cX8_rule 1 = .ok (.iconst 2, 1) := by decide +kernel
theorem dX8_rule_2 : decode cX8_rule 2 = .ok (.if_icmp .ne 13, 3) := by decide +kernel
theorem dX8_rule_5 : decode cX8_rule 5 = .ok (.aload_n 0, 1) := by decide +kernel
theorem dX8_rule_6 : decode cX8_rule 6 = .ok (.getfield 7, 3) := by decide +kernel
theorem dX8_rule_9 : decode cX8_rule 9 = .ok (.bipush 49, 2) := by decide +kernel
theorem dX8_rule_11 : decode cX8_rule 11 = .ok (.iaload, 1) := by decide +kernel
theorem dX8_rule_12 : decode cX8_rule 12 = .ok (.goto 51, 3) := by decide +kernel
theorem dX8_rule_15 : decode cX8_rule 15 = .ok (.iload_n 1, 1) := by decide +kernel
theorem dX8_rule_16 : decode cX8_rule 16 = .ok (.i2l, 1) := by decide +kernel
theorem dX8_rule_17 : decode cX8_rule 17 = .ok (.lconst 0, 1) := by decide +kernel
theorem dX8_rule_18 : decode cX8_rule 18 = .ok (.ldc2_w 145, 3) := by decide +kernel
theorem dX8_rule_21 : decode cX8_rule 21 = .ok (.invokestatic 72, 3) := by decide +kernel
theorem dX8_rule_24 : decode cX8_rule 24 = .ok (.ifCond .eq 12, 3) := by decide +kernel
theorem dX8_rule_27 : decode cX8_rule 27 = .ok (.aload_n 0, 1) := by decide +kernel
theorem dX8_rule_28 : decode cX8_rule 28 = .ok (.getfield 17, 3) := by decide +kernel
theorem dX8_rule_31 : decode cX8_rule 31 = .ok (.iload_n 1, 1) := by decide +kernel
theorem dX8_rule_32 : decode cX8_rule 32 = .ok (.iaload, 1) := by decide +kernel
theorem dX8_rule_33 : decode cX8_rule 33 = .ok (.goto 30, 3) := by decide +kernel
theorem dX8_rule_36 : decode cX8_rule 36 = .ok (.iload_n 1, 1) := by decide +kernel
theorem dX8_rule_37 : decode cX8_rule 37 = .ok (.i2l, 1) := by decide +kernel
theorem dX8_rule_38 : decode cX8_rule 38 = .ok (.ldc2_w 147, 3) := by decide +kernel
theorem dX8_rule_41 : decode cX8_rule 41 = .ok (.ldc2_w 149, 3) := by decide +kernel
theorem dX8_rule_44 : decode cX8_rule 44 = .ok (.invokestatic 72, 3) := by decide +kernel
theorem dX8_rule_47 : decode cX8_rule 47 = .ok (.ifCond .eq 15, 3) := by decide +kernel
theorem dX8_rule_50 : decode cX8_rule 50 = .ok (.aload_n 0, 1) := by decide +kernel
theorem dX8_rule_51 : decode cX8_rule 51 = .ok (.getfield 20, 3) := by decide +kernel
theorem dX8_rule_54 : decode cX8_rule 54 = .ok (.iload_n 1, 1) := by decide +kernel
theorem dX8_rule_55 : decode cX8_rule 55 = .ok (.bipush 10, 2) := by decide +kernel
theorem dX8_rule_57 : decode cX8_rule 57 = .ok (.isub, 1) := by decide +kernel
theorem dX8_rule_58 : decode cX8_rule 58 = .ok (.iaload, 1) := by decide +kernel
theorem dX8_rule_59 : decode cX8_rule 59 = .ok (.goto 4, 3) := by decide +kernel
theorem dX8_rule_62 : decode cX8_rule 62 = .ok (.iconst (-1), 1) := by decide +kernel
theorem dX8_rule_63 : decode cX8_rule 63 = .ok (.ireturn, 1) := by decide +kernel
theorem dX8_isDiver_0 : decode cX8_isDiver 0 = .ok (.iload_n 1, 1) := by decide +kernel
theorem dX8_isDiver_1 : decode cX8_isDiver 1 = .ok (.i2l, 1) := by decide +kernel
theorem dX8_isDiver_2 : decode cX8_isDiver 2 = .ok (.lconst 0, 1) := by decide +kernel
theorem dX8_isDiver_3 : decode cX8_isDiver 3 = .ok (.aload_n 0, 1) := by decide +kernel
theorem dX8_isDiver_4 : decode cX8_isDiver 4 = .ok (.getfield 7, 3) := by decide +kernel
theorem dX8_isDiver_7 : decode cX8_isDiver 7 = .ok (.bipush 53, 2) := by decide +kernel
theorem dX8_isDiver_9 : decode cX8_isDiver 9 = .ok (.iaload, 1) := by decide +kernel
theorem dX8_isDiver_10 : decode cX8_isDiver 10 = .ok (.iconst 1, 1) := by decide +kernel
theorem dX8_isDiver_11 : decode cX8_isDiver 11 = .ok (.isub, 1) := by decide +kernel
theorem dX8_isDiver_12 : decode cX8_isDiver 12 = .ok (.i2l, 1) := by decide +kernel
theorem dX8_isDiver_13 : decode cX8_isDiver 13 = .ok (.invokestatic 72, 3) := by decide +kernel
theorem dX8_isDiver_16 : decode cX8_isDiver 16 = .ok (.ireturn, 1) := by decide +kernel
theorem dX8_isDepth_0 : decode cX8_isDepth 0 = .ok (.iload_n 1, 1) := by decide +kernel
theorem dX8_isDepth_1 : decode cX8_isDepth 1 = .ok (.i2l, 1) := by decide +kernel
theorem dX8_isDepth_2 : decode cX8_isDepth 2 = .ok (.lconst 0, 1) := by decide +kernel
theorem dX8_isDepth_3 : decode cX8_isDepth 3 = .ok (.aload_n 0, 1) := by decide +kernel
theorem dX8_isDepth_4 : decode cX8_isDepth 4 = .ok (.getfield 17, 3) := by decide +kernel
theorem dX8_isDepth_7 : decode cX8_isDepth 7 = .ok (.iconst 0, 1) := by decide +kernel
theorem dX8_isDepth_8 : decode cX8_isDepth 8 = .ok (.iaload, 1) := by decide +kernel
theorem dX8_isDepth_9 : decode cX8_isDepth 9 = .ok (.i2l, 1) := by decide +kernel
theorem dX8_isDepth_10 : decode cX8_isDepth 10 = .ok (.invokestatic 72, 3) := by decide +kernel
theorem dX8_isDepth_13 : decode cX8_isDepth 13 = .ok (.ireturn, 1) := by decide +kernel
theorem dX8_isThumb_0 : decode cX8_isThumb 0 = .ok (.iload_n 0, 1) := by decide +kernel
theorem dX8_isThumb_1 : decode cX8_isThumb 1 = .ok (.i2l, 1) := by decide +kernel
theorem dX8_isThumb_2 : decode cX8_isThumb 2 = .ok (.lconst 0, 1) := by decide +kernel
theorem dX8_isThumb_3 : decode cX8_isThumb 3 = .ok (.ldc2_w 151, 3) := by decide +kernel
theorem dX8_isThumb_6 : decode cX8_isThumb 6 = .ok (.invokestatic 72, 3) := by decide +kernel
theorem dX8_isThumb_9 : decode cX8_isThumb 9 = .ok (.ireturn, 1) := by decide +kernel
theorem dX8_of_0 : decode cX8_of 0 = .ok (.aload_n 0, 1) := by decide +kernel
theorem dX8_of_1 : decode cX8_of 1 = .ok (.getfield 7, 3) := by decide +kernel
theorem dX8_of_4 : decode cX8_of 4 = .ok (.bipush 8, 2) := by decide +kernel
theorem dX8_of_6 : decode cX8_of 6 = .ok (.iload_n 1, 1) := by decide +kernel
theorem dX8_of_7 : decode cX8_of 7 = .ok (.imul, 1) := by decide +kernel
theorem dX8_of_8 : decode cX8_of 8 = .ok (.iload_n 2, 1) := by decide +kernel
theorem dX8_of_9 : decode cX8_of 9 = .ok (.iadd, 1) := by decide +kernel
theorem dX8_of_10 : decode cX8_of 10 = .ok (.iaload, 1) := by decide +kernel
theorem dX8_of_11 : decode cX8_of 11 = .ok (.ireturn, 1) := by decide +kernel
theorem dX8_weight_0 : decode cX8_weight 0 = .ok (.aload_n 0, 1) := by decide +kernel
theorem dX8_weight_1 : decode cX8_weight 1 = .ok (.getfield 17, 3) := by decide +kernel
theorem dX8_weight_4 : decode cX8_weight 4 = .ok (.iconst 1, 1) := by decide +kernel
theorem dX8_weight_5 : decode cX8_weight 5 = .ok (.iaload, 1) := by decide +kernel
theorem dX8_weight_6 : decode cX8_weight 6 = .ok (.iload 4, 2) := by decide +kernel
theorem dX8_weight_8 : decode cX8_weight 8 = .ok (.iadd, 1) := by decide +kernel
theorem dX8_weight_9 : decode cX8_weight 9 = .ok (.iload 5, 2) := by decide +kernel
theorem dX8_weight_11 : decode cX8_weight 11 = .ok (.iadd, 1) := by decide +kernel
theorem dX8_weight_12 : decode cX8_weight 12 = .ok (.istore 6, 2) := by decide +kernel
theorem dX8_weight_14 : decode cX8_weight 14 = .ok (.iload_n 1, 1) := by decide +kernel
theorem dX8_weight_15 : decode cX8_weight 15 = .ok (.iload_n 2, 1) := by decide +kernel
theorem dX8_weight_16 : decode cX8_weight 16 = .ok (.iload_n 3, 1) := by decide +kernel
theorem dX8_weight_17 : decode cX8_weight 17 = .ok (.imul, 1) := by decide +kernel
theorem dX8_weight_18 : decode cX8_weight 18 = .ok (.iload 6, 2) := by decide +kernel
theorem dX8_weight_20 : decode cX8_weight 20 = .ok (.idiv, 1) := by decide +kernel
theorem dX8_weight_21 : decode cX8_weight 21 = .ok (.isub, 1) := by decide +kernel
theorem dX8_weight_22 : decode cX8_weight 22 = .ok (.iload 5, 2) := by decide +kernel
theorem dX8_weight_24 : decode cX8_weight 24 = .ok (.aload_n 0, 1) := by decide +kernel
theorem dX8_weight_25 : decode cX8_weight 25 = .ok (.getfield 17, 3) := by decide +kernel
theorem dX8_weight_28 : decode cX8_weight 28 = .ok (.iconst 4, 1) := by decide +kernel
theorem dX8_weight_29 : decode cX8_weight 29 = .ok (.iaload, 1) := by decide +kernel
theorem dX8_weight_30 : decode cX8_weight 30 = .ok (.if_icmp .lt 12, 3) := by decide +kernel
theorem dX8_weight_33 : decode cX8_weight 33 = .ok (.aload_n 0, 1) := by decide +kernel
theorem dX8_weight_34 : decode cX8_weight 34 = .ok (.getfield 17, 3) := by decide +kernel
theorem dX8_weight_37 : decode cX8_weight 37 = .ok (.iconst 5, 1) := by decide +kernel
theorem dX8_weight_38 : decode cX8_weight 38 = .ok (.iaload, 1) := by decide +kernel
theorem dX8_weight_39 : decode cX8_weight 39 = .ok (.goto 4, 3) := by decide +kernel
theorem dX8_weight_42 : decode cX8_weight 42 = .ok (.iconst 0, 1) := by decide +kernel
theorem dX8_weight_43 : decode cX8_weight 43 = .ok (.isub, 1) := by decide +kernel
theorem dX8_weight_44 : decode cX8_weight 44 = .ok (.ireturn, 1) := by decide +kernel
theorem dX8_heavy_0 : decode cX8_heavy 0 = .ok (.aload_n 0, 1) := by decide +kernel
theorem dX8_heavy_1 : decode cX8_heavy 1 = .ok (.iload_n 1, 1) := by decide +kernel
theorem dX8_heavy_2 : decode cX8_heavy 2 = .ok (.iconst 0, 1) := by decide +kernel
theorem dX8_heavy_3 : decode cX8_heavy 3 = .ok (.invokevirtual 153, 3) := by decide +kernel
theorem dX8_heavy_6 : decode cX8_heavy 6 = .ok (.aload_n 0, 1) := by decide +kernel
theorem dX8_heavy_7 : decode cX8_heavy 7 = .ok (.iload_n 1, 1) := by decide +kernel
theorem dX8_heavy_8 : decode cX8_heavy 8 = .ok (.iconst 5, 1) := by decide +kernel
theorem dX8_heavy_9 : decode cX8_heavy 9 = .ok (.invokevirtual 153, 3) := by decide +kernel
theorem dX8_heavy_12 : decode cX8_heavy 12 = .ok (.iadd, 1) := by decide +kernel
theorem dX8_heavy_13 : decode cX8_heavy 13 = .ok (.ireturn, 1) := by decide +kernel
theorem dX8_weighsAt_0 : decode cX8_weighsAt 0 = .ok (.aload_n 0, 1) := by decide +kernel
theorem dX8_weighsAt_1 : decode cX8_weighsAt 1 = .ok (.aload_n 0, 1) := by decide +kernel
theorem dX8_weighsAt_2 : decode cX8_weighsAt 2 = .ok (.iload_n 1, 1) := by decide +kernel
theorem dX8_weighsAt_3 : decode cX8_weighsAt 3 = .ok (.invokevirtual 156, 3) := by decide +kernel
theorem dX8_weighsAt_6 : decode cX8_weighsAt 6 = .ok (.aload_n 0, 1) := by decide +kernel
theorem dX8_weighsAt_7 : decode cX8_weighsAt 7 = .ok (.iload_n 1, 1) := by decide +kernel
theorem dX8_weighsAt_8 : decode cX8_weighsAt 8 = .ok (.iconst 1, 1) := by decide +kernel
theorem dX8_weighsAt_9 : decode cX8_weighsAt 9 = .ok (.invokevirtual 153, 3) := by decide +kernel
theorem dX8_weighsAt_12 : decode cX8_weighsAt 12 = .ok (.aload_n 0, 1) := by decide +kernel
theorem dX8_weighsAt_13 : decode cX8_weighsAt 13 = .ok (.getfield 7, 3) := by decide +kernel
theorem dX8_weighsAt_16 : decode cX8_weighsAt 16 = .ok (.bipush 49, 2) := by decide +kernel
theorem dX8_weighsAt_18 : decode cX8_weighsAt 18 = .ok (.iaload, 1) := by decide +kernel
theorem dX8_weighsAt_19 : decode cX8_weighsAt 19 = .ok (.iload_n 3, 1) := by decide +kernel
theorem dX8_weighsAt_20 : decode cX8_weighsAt 20 = .ok (.iload_n 2, 1) := by decide +kernel
theorem dX8_weighsAt_21 : decode cX8_weighsAt 21 = .ok (.invokevirtual 159, 3) := by decide +kernel
theorem dX8_weighsAt_24 : decode cX8_weighsAt 24 = .ok (.ireturn, 1) := by decide +kernel
theorem dX8_diver_0 : decode cX8_diver 0 = .ok (.aload_n 0, 1) := by decide +kernel
theorem dX8_diver_1 : decode cX8_diver 1 = .ok (.iload_n 1, 1) := by decide +kernel
theorem dX8_diver_2 : decode cX8_diver 2 = .ok (.invokevirtual 163, 3) := by decide +kernel
theorem dX8_diver_5 : decode cX8_diver 5 = .ok (.ifCond .eq 15, 3) := by decide +kernel
theorem dX8_diver_8 : decode cX8_diver 8 = .ok (.iload_n 2, 1) := by decide +kernel
theorem dX8_diver_9 : decode cX8_diver 9 = .ok (.i2l, 1) := by decide +kernel
theorem dX8_diver_10 : decode cX8_diver 10 = .ok (.lconst 0, 1) := by decide +kernel
theorem dX8_diver_11 : decode cX8_diver 11 = .ok (.ldc2_w 167, 3) := by decide +kernel
theorem dX8_diver_14 : decode cX8_diver 14 = .ok (.invokestatic 72, 3) := by decide +kernel
theorem dX8_diver_17 : decode cX8_diver 17 = .ok (.ifCond .ne 6, 3) := by decide +kernel
theorem dX8_diver_20 : decode cX8_diver 20 = .ok (.ldc 169, 2) := by decide +kernel
theorem dX8_diver_22 : decode cX8_diver 22 = .ok (.ireturn, 1) := by decide +kernel
theorem dX8_diver_23 : decode cX8_diver 23 = .ok (.aload_n 0, 1) := by decide +kernel
theorem dX8_diver_24 : decode cX8_diver 24 = .ok (.iload_n 1, 1) := by decide +kernel
theorem dX8_diver_25 : decode cX8_diver 25 = .ok (.bipush 6, 2) := by decide +kernel
theorem dX8_diver_27 : decode cX8_diver 27 = .ok (.invokevirtual 153, 3) := by decide +kernel
theorem dX8_diver_30 : decode cX8_diver 30 = .ok (.bipush 64, 2) := by decide +kernel
theorem dX8_diver_32 : decode cX8_diver 32 = .ok (.idiv, 1) := by decide +kernel
theorem dX8_diver_33 : decode cX8_diver 33 = .ok (.istore_n 3, 1) := by decide +kernel
theorem dX8_diver_34 : decode cX8_diver 34 = .ok (.iload_n 2, 1) := by decide +kernel
theorem dX8_diver_35 : decode cX8_diver 35 = .ok (.bipush 6, 2) := by decide +kernel
theorem dX8_diver_37 : decode cX8_diver 37 = .ok (.if_icmp .ge 12, 3) := by decide +kernel
theorem dX8_diver_40 : decode cX8_diver 40 = .ok (.aload_n 0, 1) := by decide +kernel
theorem dX8_diver_41 : decode cX8_diver 41 = .ok (.iload_n 1, 1) := by decide +kernel
theorem dX8_diver_42 : decode cX8_diver 42 = .ok (.iload_n 2, 1) := by decide +kernel
theorem dX8_diver_43 : decode cX8_diver 43 = .ok (.invokevirtual 153, 3) := by decide +kernel
theorem dX8_diver_46 : decode cX8_diver 46 = .ok (.goto 58, 3) := by decide +kernel
theorem dX8_diver_49 : decode cX8_diver 49 = .ok (.iload_n 2, 1) := by decide +kernel
theorem dX8_diver_50 : decode cX8_diver 50 = .ok (.bipush 6, 2) := by decide +kernel
theorem dX8_diver_52 : decode cX8_diver 52 = .ok (.if_icmp .ne 7, 3) := by decide +kernel
theorem dX8_diver_55 : decode cX8_diver 55 = .ok (.iload_n 3, 1) := by decide +kernel
theorem dX8_diver_56 : decode cX8_diver 56 = .ok (.goto 48, 3) := by decide +kernel
theorem dX8_diver_59 : decode cX8_diver 59 = .ok (.iload_n 2, 1) := by decide +kernel
theorem dX8_diver_60 : decode cX8_diver 60 = .ok (.bipush 7, 2) := by decide +kernel
theorem dX8_diver_62 : decode cX8_diver 62 = .ok (.if_icmp .ne 13, 3) := by decide +kernel
theorem dX8_diver_65 : decode cX8_diver 65 = .ok (.aload_n 0, 1) := by decide +kernel
theorem dX8_diver_66 : decode cX8_diver 66 = .ok (.iload_n 1, 1) := by decide +kernel
theorem dX8_diver_67 : decode cX8_diver 67 = .ok (.bipush 6, 2) := by decide +kernel
theorem dX8_diver_69 : decode cX8_diver 69 = .ok (.invokevirtual 153, 3) := by decide +kernel
theorem dX8_diver_72 : decode cX8_diver 72 = .ok (.goto 32, 3) := by decide +kernel
theorem dX8_diver_75 : decode cX8_diver 75 = .ok (.iload_n 2, 1) := by decide +kernel
theorem dX8_diver_76 : decode cX8_diver 76 = .ok (.bipush 8, 2) := by decide +kernel
theorem dX8_diver_78 : decode cX8_diver 78 = .ok (.if_icmp .ne 13, 3) := by decide +kernel
theorem dX8_diver_81 : decode cX8_diver 81 = .ok (.aload_n 0, 1) := by decide +kernel
theorem dX8_diver_82 : decode cX8_diver 82 = .ok (.iload_n 1, 1) := by decide +kernel
theorem dX8_diver_83 : decode cX8_diver 83 = .ok (.bipush 7, 2) := by decide +kernel
theorem dX8_diver_85 : decode cX8_diver 85 = .ok (.invokevirtual 153, 3) := by decide +kernel
theorem dX8_diver_88 : decode cX8_diver 88 = .ok (.goto 16, 3) := by decide +kernel
theorem dX8_diver_91 : decode cX8_diver 91 = .ok (.aload_n 0, 1) := by decide +kernel
theorem dX8_diver_92 : decode cX8_diver 92 = .ok (.iload_n 1, 1) := by decide +kernel
theorem dX8_diver_93 : decode cX8_diver 93 = .ok (.iload_n 3, 1) := by decide +kernel
theorem dX8_diver_94 : decode cX8_diver 94 = .ok (.aload_n 0, 1) := by decide +kernel
theorem dX8_diver_95 : decode cX8_diver 95 = .ok (.getfield 7, 3) := by decide +kernel
theorem dX8_diver_98 : decode cX8_diver 98 = .ok (.bipush 48, 2) := by decide +kernel
theorem dX8_diver_100 : decode cX8_diver 100 = .ok (.iaload, 1) := by decide +kernel
theorem dX8_diver_101 : decode cX8_diver 101 = .ok (.invokevirtual 170, 3) := by decide +kernel
theorem dX8_diver_104 : decode cX8_diver 104 = .ok (.ireturn, 1) := by decide +kernel
theorem dX8_thumb_0 : decode cX8_thumb 0 = .ok (.iload_n 1, 1) := by decide +kernel
theorem dX8_thumb_1 : decode cX8_thumb 1 = .ok (.invokestatic 174, 3) := by decide +kernel
theorem dX8_thumb_4 : decode cX8_thumb 4 = .ok (.ifCond .ne 5, 3) := by decide +kernel
theorem dX8_thumb_7 : decode cX8_thumb 7 = .ok (.iconst (-1), 1) := by decide +kernel
theorem dX8_thumb_8 : decode cX8_thumb 8 = .ok (.ireturn, 1) := by decide +kernel
theorem dX8_thumb_9 : decode cX8_thumb 9 = .ok (.aload_n 0, 1) := by decide +kernel
theorem dX8_thumb_10 : decode cX8_thumb 10 = .ok (.getfield 7, 3) := by decide +kernel
theorem dX8_thumb_13 : decode cX8_thumb 13 = .ok (.bipush 48, 2) := by decide +kernel
theorem dX8_thumb_15 : decode cX8_thumb 15 = .ok (.iaload, 1) := by decide +kernel
theorem dX8_thumb_16 : decode cX8_thumb 16 = .ok (.istore_n 2, 1) := by decide +kernel
theorem dX8_thumb_17 : decode cX8_thumb 17 = .ok (.aload_n 0, 1) := by decide +kernel
theorem dX8_thumb_18 : decode cX8_thumb 18 = .ok (.getfield 7, 3) := by decide +kernel
theorem dX8_thumb_21 : decode cX8_thumb 21 = .ok (.bipush 48, 2) := by decide +kernel
theorem dX8_thumb_23 : decode cX8_thumb 23 = .ok (.iload_n 1, 1) := by decide +kernel
theorem dX8_thumb_24 : decode cX8_thumb 24 = .ok (.iastore, 1) := by decide +kernel
theorem dX8_thumb_25 : decode cX8_thumb 25 = .ok (.iload_n 2, 1) := by decide +kernel
theorem dX8_thumb_26 : decode cX8_thumb 26 = .ok (.ireturn, 1) := by decide +kernel
theorem dX8_warm_0 : decode cX8_warm 0 = .ok (.iload_n 1, 1) := by decide +kernel
theorem dX8_warm_1 : decode cX8_warm 1 = .ok (.i2l, 1) := by decide +kernel
theorem dX8_warm_2 : decode cX8_warm 2 = .ok (.ldc2_w 177, 3) := by decide +kernel
theorem dX8_warm_5 : decode cX8_warm 5 = .ok (.ldc2_w 179, 3) := by decide +kernel
theorem dX8_warm_8 : decode cX8_warm 8 = .ok (.invokestatic 72, 3) := by decide +kernel
theorem dX8_warm_11 : decode cX8_warm 11 = .ok (.ifCond .ne 5, 3) := by decide +kernel
theorem dX8_warm_14 : decode cX8_warm 14 = .ok (.iconst (-1), 1) := by decide +kernel
theorem dX8_warm_15 : decode cX8_warm 15 = .ok (.ireturn, 1) := by decide +kernel
theorem dX8_warm_16 : decode cX8_warm 16 = .ok (.aload_n 0, 1) := by decide +kernel
theorem dX8_warm_17 : decode cX8_warm 17 = .ok (.getfield 7, 3) := by decide +kernel
theorem dX8_warm_20 : decode cX8_warm 20 = .ok (.bipush 49, 2) := by decide +kernel
theorem dX8_warm_22 : decode cX8_warm 22 = .ok (.iaload, 1) := by decide +kernel
theorem dX8_warm_23 : decode cX8_warm 23 = .ok (.istore_n 2, 1) := by decide +kernel
theorem dX8_warm_24 : decode cX8_warm 24 = .ok (.aload_n 0, 1) := by decide +kernel
theorem dX8_warm_25 : decode cX8_warm 25 = .ok (.getfield 7, 3) := by decide +kernel
theorem dX8_warm_28 : decode cX8_warm 28 = .ok (.bipush 49, 2) := by decide +kernel
theorem dX8_warm_30 : decode cX8_warm 30 = .ok (.iload_n 1, 1) := by decide +kernel
theorem dX8_warm_31 : decode cX8_warm 31 = .ok (.iastore, 1) := by decide +kernel
theorem dX8_warm_32 : decode cX8_warm 32 = .ok (.iload_n 2, 1) := by decide +kernel
theorem dX8_warm_33 : decode cX8_warm 33 = .ok (.ireturn, 1) := by decide +kernel
theorem dX8_floor_0 : decode cX8_floor 0 = .ok (.bipush 64, 2) := by decide +kernel
theorem dX8_floor_2 : decode cX8_floor 2 = .ok (.aload_n 0, 1) := by decide +kernel
theorem dX8_floor_3 : decode cX8_floor 3 = .ok (.getfield 17, 3) := by decide +kernel
theorem dX8_floor_6 : decode cX8_floor 6 = .ok (.iconst 0, 1) := by decide +kernel
theorem dX8_floor_7 : decode cX8_floor 7 = .ok (.iaload, 1) := by decide +kernel
theorem dX8_floor_8 : decode cX8_floor 8 = .ok (.imul, 1) := by decide +kernel
theorem dX8_floor_9 : decode cX8_floor 9 = .ok (.ireturn, 1) := by decide +kernel
theorem dX8_moves_0 : decode cX8_moves 0 = .ok (.aload_n 0, 1) := by decide +kernel
theorem dX8_moves_1 : decode cX8_moves 1 = .ok (.dup, 1) := by decide +kernel
theorem dX8_moves_2 : decode cX8_moves 2 = .ok (.getfield 181, 3) := by decide +kernel
theorem dX8_moves_5 : decode cX8_moves 5 = .ok (.aload_n 0, 1) := by decide +kernel
theorem dX8_moves_6 : decode cX8_moves 6 = .ok (.iload_n 1, 1) := by decide +kernel
theorem dX8_moves_7 : decode cX8_moves 7 = .ok (.iload_n 2, 1) := by decide +kernel
theorem dX8_moves_8 : decode cX8_moves 8 = .ok (.aload_n 0, 1) := by decide +kernel
theorem dX8_moves_9 : decode cX8_moves 9 = .ok (.getfield 7, 3) := by decide +kernel
theorem dX8_moves_12 : decode cX8_moves 12 = .ok (.bipush 49, 2) := by decide +kernel
theorem dX8_moves_14 : decode cX8_moves 14 = .ok (.iaload, 1) := by decide +kernel
theorem dX8_moves_15 : decode cX8_moves 15 = .ok (.iload_n 3, 1) := by decide +kernel
theorem dX8_moves_16 : decode cX8_moves 16 = .ok (.aload_n 0, 1) := by decide +kernel
theorem dX8_moves_17 : decode cX8_moves 17 = .ok (.getfield 184, 3) := by decide +kernel
theorem dX8_moves_20 : decode cX8_moves 20 = .ok (.bipush 64, 2) := by decide +kernel
theorem dX8_moves_22 : decode cX8_moves 22 = .ok (.idiv, 1) := by decide +kernel
theorem dX8_moves_23 : decode cX8_moves 23 = .ok (.invokevirtual 159, 3) := by decide +kernel
theorem dX8_moves_26 : decode cX8_moves 26 = .ok (.iadd, 1) := by decide +kernel
theorem dX8_moves_27 : decode cX8_moves 27 = .ok (.putfield 181, 3) := by decide +kernel
theorem dX8_moves_30 : decode cX8_moves 30 = .ok (.aload_n 0, 1) := by decide +kernel
theorem dX8_moves_31 : decode cX8_moves 31 = .ok (.dup, 1) := by decide +kernel
theorem dX8_moves_32 : decode cX8_moves 32 = .ok (.getfield 181, 3) := by decide +kernel
theorem dX8_moves_35 : decode cX8_moves 35 = .ok (.aload_n 0, 1) := by decide +kernel
theorem dX8_moves_36 : decode cX8_moves 36 = .ok (.getfield 181, 3) := by decide +kernel
theorem dX8_moves_39 : decode cX8_moves 39 = .ok (.aload_n 0, 1) := by decide +kernel
theorem dX8_moves_40 : decode cX8_moves 40 = .ok (.getfield 17, 3) := by decide +kernel
theorem dX8_moves_43 : decode cX8_moves 43 = .ok (.iconst 3, 1) := by decide +kernel
theorem dX8_moves_44 : decode cX8_moves 44 = .ok (.iaload, 1) := by decide +kernel
theorem dX8_moves_45 : decode cX8_moves 45 = .ok (.idiv, 1) := by decide +kernel
theorem dX8_moves_46 : decode cX8_moves 46 = .ok (.isub, 1) := by decide +kernel
theorem dX8_moves_47 : decode cX8_moves 47 = .ok (.putfield 181, 3) := by decide +kernel
theorem dX8_moves_50 : decode cX8_moves 50 = .ok (.aload_n 0, 1) := by decide +kernel
theorem dX8_moves_51 : decode cX8_moves 51 = .ok (.dup, 1) := by decide +kernel
theorem dX8_moves_52 : decode cX8_moves 52 = .ok (.getfield 184, 3) := by decide +kernel
theorem dX8_moves_55 : decode cX8_moves 55 = .ok (.aload_n 0, 1) := by decide +kernel
theorem dX8_moves_56 : decode cX8_moves 56 = .ok (.getfield 181, 3) := by decide +kernel
theorem dX8_moves_59 : decode cX8_moves 59 = .ok (.iadd, 1) := by decide +kernel
theorem dX8_moves_60 : decode cX8_moves 60 = .ok (.putfield 184, 3) := by decide +kernel
theorem dX8_moves_63 : decode cX8_moves 63 = .ok (.aload_n 0, 1) := by decide +kernel
theorem dX8_moves_64 : decode cX8_moves 64 = .ok (.getfield 184, 3) := by decide +kernel
theorem dX8_moves_67 : decode cX8_moves 67 = .ok (.ifCond .gt 20, 3) := by decide +kernel
theorem dX8_moves_70 : decode cX8_moves 70 = .ok (.aload_n 0, 1) := by decide +kernel
theorem dX8_moves_71 : decode cX8_moves 71 = .ok (.getfield 181, 3) := by decide +kernel
theorem dX8_moves_74 : decode cX8_moves 74 = .ok (.ifCond .ge 13, 3) := by decide +kernel
theorem dX8_moves_77 : decode cX8_moves 77 = .ok (.aload_n 0, 1) := by decide +kernel
theorem dX8_moves_78 : decode cX8_moves 78 = .ok (.iconst 0, 1) := by decide +kernel
theorem dX8_moves_79 : decode cX8_moves 79 = .ok (.putfield 184, 3) := by decide +kernel
theorem dX8_moves_82 : decode cX8_moves 82 = .ok (.aload_n 0, 1) := by decide +kernel
theorem dX8_moves_83 : decode cX8_moves 83 = .ok (.iconst 0, 1) := by decide +kernel
theorem dX8_moves_84 : decode cX8_moves 84 = .ok (.putfield 181, 3) := by decide +kernel
theorem dX8_moves_87 : decode cX8_moves 87 = .ok (.aload_n 0, 1) := by decide +kernel
theorem dX8_moves_88 : decode cX8_moves 88 = .ok (.getfield 184, 3) := by decide +kernel
theorem dX8_moves_91 : decode cX8_moves 91 = .ok (.aload_n 0, 1) := by decide +kernel
theorem dX8_moves_92 : decode cX8_moves 92 = .ok (.invokevirtual 187, 3) := by decide +kernel
theorem dX8_moves_95 : decode cX8_moves 95 = .ok (.if_icmp .lt 23, 3) := by decide +kernel
theorem dX8_moves_98 : decode cX8_moves 98 = .ok (.aload_n 0, 1) := by decide +kernel
theorem dX8_moves_99 : decode cX8_moves 99 = .ok (.getfield 181, 3) := by decide +kernel
theorem dX8_moves_102 : decode cX8_moves 102 = .ok (.ifCond .le 16, 3) := by decide +kernel
theorem dX8_moves_105 : decode cX8_moves 105 = .ok (.aload_n 0, 1) := by decide +kernel
theorem dX8_moves_106 : decode cX8_moves 106 = .ok (.aload_n 0, 1) := by decide +kernel
theorem dX8_moves_107 : decode cX8_moves 107 = .ok (.invokevirtual 187, 3) := by decide +kernel
theorem dX8_moves_110 : decode cX8_moves 110 = .ok (.putfield 184, 3) := by decide +kernel
theorem dX8_moves_113 : decode cX8_moves 113 = .ok (.aload_n 0, 1) := by decide +kernel
theorem dX8_moves_114 : decode cX8_moves 114 = .ok (.iconst 0, 1) := by decide +kernel
theorem dX8_moves_115 : decode cX8_moves 115 = .ok (.putfield 181, 3) := by decide +kernel
theorem dX8_moves_118 : decode cX8_moves 118 = .ok (.return_, 1) := by decide +kernel
theorem dX8_tickOf_0 : decode cX8_tickOf 0 = .ok (.bipush 8, 2) := by decide +kernel
theorem dX8_tickOf_2 : decode cX8_tickOf 2 = .ok (.iload_n 1, 1) := by decide +kernel
theorem dX8_tickOf_3 : decode cX8_tickOf 3 = .ok (.imul, 1) := by decide +kernel
theorem dX8_tickOf_4 : decode cX8_tickOf 4 = .ok (.istore_n 2, 1) := by decide +kernel
theorem dX8_tickOf_5 : decode cX8_tickOf 5 = .ok (.aload_n 0, 1) := by decide +kernel
theorem dX8_tickOf_6 : decode cX8_tickOf 6 = .ok (.getfield 7, 3) := by decide +kernel
theorem dX8_tickOf_9 : decode cX8_tickOf 9 = .ok (.iload_n 2, 1) := by decide +kernel
theorem dX8_tickOf_10 : decode cX8_tickOf 10 = .ok (.bipush 6, 2) := by decide +kernel
theorem dX8_tickOf_12 : decode cX8_tickOf 12 = .ok (.iadd, 1) := by decide +kernel
theorem dX8_tickOf_13 : decode cX8_tickOf 13 = .ok (.iaload, 1) := by decide +kernel
theorem dX8_tickOf_14 : decode cX8_tickOf 14 = .ok (.istore_n 3, 1) := by decide +kernel
theorem dX8_tickOf_15 : decode cX8_tickOf 15 = .ok (.aload_n 0, 1) := by decide +kernel
theorem dX8_tickOf_16 : decode cX8_tickOf 16 = .ok (.iload_n 3, 1) := by decide +kernel
theorem dX8_tickOf_17 : decode cX8_tickOf 17 = .ok (.putfield 184, 3) := by decide +kernel
theorem dX8_tickOf_20 : decode cX8_tickOf 20 = .ok (.aload_n 0, 1) := by decide +kernel
theorem dX8_tickOf_21 : decode cX8_tickOf 21 = .ok (.aload_n 0, 1) := by decide +kernel
theorem dX8_tickOf_22 : decode cX8_tickOf 22 = .ok (.getfield 7, 3) := by decide +kernel
theorem dX8_tickOf_25 : decode cX8_tickOf 25 = .ok (.iload_n 2, 1) := by decide +kernel
theorem dX8_tickOf_26 : decode cX8_tickOf 26 = .ok (.bipush 7, 2) := by decide +kernel
theorem dX8_tickOf_28 : decode cX8_tickOf 28 = .ok (.iadd, 1) := by decide +kernel
theorem dX8_tickOf_29 : decode cX8_tickOf 29 = .ok (.iaload, 1) := by decide +kernel
theorem dX8_tickOf_30 : decode cX8_tickOf 30 = .ok (.putfield 181, 3) := by decide +kernel
theorem dX8_tickOf_33 : decode cX8_tickOf 33 = .ok (.aload_n 0, 1) := by decide +kernel
theorem dX8_tickOf_34 : decode cX8_tickOf 34 = .ok (.aload_n 0, 1) := by decide +kernel
theorem dX8_tickOf_35 : decode cX8_tickOf 35 = .ok (.iload_n 1, 1) := by decide +kernel
theorem dX8_tickOf_36 : decode cX8_tickOf 36 = .ok (.invokevirtual 156, 3) := by decide +kernel
theorem dX8_tickOf_39 : decode cX8_tickOf 39 = .ok (.aload_n 0, 1) := by decide +kernel
theorem dX8_tickOf_40 : decode cX8_tickOf 40 = .ok (.iload_n 1, 1) := by decide +kernel
theorem dX8_tickOf_41 : decode cX8_tickOf 41 = .ok (.iconst 1, 1) := by decide +kernel
theorem dX8_tickOf_42 : decode cX8_tickOf 42 = .ok (.invokevirtual 153, 3) := by decide +kernel
theorem dX8_tickOf_45 : decode cX8_tickOf 45 = .ok (.aload_n 0, 1) := by decide +kernel
theorem dX8_tickOf_46 : decode cX8_tickOf 46 = .ok (.getfield 7, 3) := by decide +kernel
theorem dX8_tickOf_49 : decode cX8_tickOf 49 = .ok (.bipush 48, 2) := by decide +kernel
theorem dX8_tickOf_51 : decode cX8_tickOf 51 = .ok (.iaload, 1) := by decide +kernel
theorem dX8_tickOf_52 : decode cX8_tickOf 52 = .ok (.invokevirtual 190, 3) := by decide +kernel
theorem dX8_tickOf_55 : decode cX8_tickOf 55 = .ok (.aload_n 0, 1) := by decide +kernel
theorem dX8_tickOf_56 : decode cX8_tickOf 56 = .ok (.getfield 7, 3) := by decide +kernel
theorem dX8_tickOf_59 : decode cX8_tickOf 59 = .ok (.iload_n 2, 1) := by decide +kernel
theorem dX8_tickOf_60 : decode cX8_tickOf 60 = .ok (.bipush 6, 2) := by decide +kernel
theorem dX8_tickOf_62 : decode cX8_tickOf 62 = .ok (.iadd, 1) := by decide +kernel
theorem dX8_tickOf_63 : decode cX8_tickOf 63 = .ok (.aload_n 0, 1) := by decide +kernel
theorem dX8_tickOf_64 : decode cX8_tickOf 64 = .ok (.getfield 184, 3) := by decide +kernel
theorem dX8_tickOf_67 : decode cX8_tickOf 67 = .ok (.iastore, 1) := by decide +kernel
theorem dX8_tickOf_68 : decode cX8_tickOf 68 = .ok (.aload_n 0, 1) := by decide +kernel
theorem dX8_tickOf_69 : decode cX8_tickOf 69 = .ok (.getfield 7, 3) := by decide +kernel
theorem dX8_tickOf_72 : decode cX8_tickOf 72 = .ok (.iload_n 2, 1) := by decide +kernel
theorem dX8_tickOf_73 : decode cX8_tickOf 73 = .ok (.bipush 7, 2) := by decide +kernel
theorem dX8_tickOf_75 : decode cX8_tickOf 75 = .ok (.iadd, 1) := by decide +kernel
theorem dX8_tickOf_76 : decode cX8_tickOf 76 = .ok (.aload_n 0, 1) := by decide +kernel
theorem dX8_tickOf_77 : decode cX8_tickOf 77 = .ok (.getfield 181, 3) := by decide +kernel
theorem dX8_tickOf_80 : decode cX8_tickOf 80 = .ok (.iastore, 1) := by decide +kernel
theorem dX8_tickOf_81 : decode cX8_tickOf 81 = .ok (.aload_n 0, 1) := by decide +kernel
theorem dX8_tickOf_82 : decode cX8_tickOf 82 = .ok (.getfield 184, 3) := by decide +kernel
theorem dX8_tickOf_85 : decode cX8_tickOf 85 = .ok (.aload_n 0, 1) := by decide +kernel
theorem dX8_tickOf_86 : decode cX8_tickOf 86 = .ok (.invokevirtual 187, 3) := by decide +kernel
theorem dX8_tickOf_89 : decode cX8_tickOf 89 = .ok (.if_icmp .ne 89, 3) := by decide +kernel
theorem dX8_tickOf_92 : decode cX8_tickOf 92 = .ok (.iload_n 3, 1) := by decide +kernel
theorem dX8_tickOf_93 : decode cX8_tickOf 93 = .ok (.aload_n 0, 1) := by decide +kernel
theorem dX8_tickOf_94 : decode cX8_tickOf 94 = .ok (.getfield 184, 3) := by decide +kernel
theorem dX8_tickOf_97 : decode cX8_tickOf 97 = .ok (.if_icmp .eq 81, 3) := by decide +kernel
theorem dX8_tickOf_100 : decode cX8_tickOf 100 = .ok (.aload_n 0, 1) := by decide +kernel
theorem dX8_tickOf_101 : decode cX8_tickOf 101 = .ok (.iload_n 1, 1) := by decide +kernel
theorem dX8_tickOf_102 : decode cX8_tickOf 102 = .ok (.iconst 1, 1) := by decide +kernel
theorem dX8_tickOf_103 : decode cX8_tickOf 103 = .ok (.invokevirtual 153, 3) := by decide +kernel
theorem dX8_tickOf_106 : decode cX8_tickOf 106 = .ok (.aload_n 0, 1) := by decide +kernel
theorem dX8_tickOf_107 : decode cX8_tickOf 107 = .ok (.iload_n 1, 1) := by decide +kernel
theorem dX8_tickOf_108 : decode cX8_tickOf 108 = .ok (.iconst 2, 1) := by decide +kernel
theorem dX8_tickOf_109 : decode cX8_tickOf 109 = .ok (.invokevirtual 153, 3) := by decide +kernel
theorem dX8_tickOf_112 : decode cX8_tickOf 112 = .ok (.isub, 1) := by decide +kernel
theorem dX8_tickOf_113 : decode cX8_tickOf 113 = .ok (.istore 4, 2) := by decide +kernel
theorem dX8_tickOf_115 : decode cX8_tickOf 115 = .ok (.aload_n 0, 1) := by decide +kernel
theorem dX8_tickOf_116 : decode cX8_tickOf 116 = .ok (.getfield 7, 3) := by decide +kernel
theorem dX8_tickOf_119 : decode cX8_tickOf 119 = .ok (.iload_n 2, 1) := by decide +kernel
theorem dX8_tickOf_120 : decode cX8_tickOf 120 = .ok (.iconst 1, 1) := by decide +kernel
theorem dX8_tickOf_121 : decode cX8_tickOf 121 = .ok (.iadd, 1) := by decide +kernel
theorem dX8_tickOf_122 : decode cX8_tickOf 122 = .ok (.iload 4, 2) := by decide +kernel
theorem dX8_tickOf_124 : decode cX8_tickOf 124 = .ok (.ifCond .ge 7, 3) := by decide +kernel
theorem dX8_tickOf_127 : decode cX8_tickOf 127 = .ok (.iconst 0, 1) := by decide +kernel
theorem dX8_tickOf_128 : decode cX8_tickOf 128 = .ok (.goto 5, 3) := by decide +kernel
theorem dX8_tickOf_131 : decode cX8_tickOf 131 = .ok (.iload 4, 2) := by decide +kernel
theorem dX8_tickOf_133 : decode cX8_tickOf 133 = .ok (.iastore, 1) := by decide +kernel
theorem dX8_tickOf_134 : decode cX8_tickOf 134 = .ok (.aload_n 0, 1) := by decide +kernel
theorem dX8_tickOf_135 : decode cX8_tickOf 135 = .ok (.iload_n 1, 1) := by decide +kernel
theorem dX8_tickOf_136 : decode cX8_tickOf 136 = .ok (.iconst 4, 1) := by decide +kernel
theorem dX8_tickOf_137 : decode cX8_tickOf 137 = .ok (.invokevirtual 153, 3) := by decide +kernel
theorem dX8_tickOf_140 : decode cX8_tickOf 140 = .ok (.iconst 1, 1) := by decide +kernel
theorem dX8_tickOf_141 : decode cX8_tickOf 141 = .ok (.if_icmp .ne 37, 3) := by decide +kernel
theorem dX8_tickOf_144 : decode cX8_tickOf 144 = .ok (.aload_n 0, 1) := by decide +kernel
theorem dX8_tickOf_145 : decode cX8_tickOf 145 = .ok (.getfield 7, 3) := by decide +kernel
theorem dX8_tickOf_148 : decode cX8_tickOf 148 = .ok (.bipush 51, 2) := by decide +kernel
theorem dX8_tickOf_150 : decode cX8_tickOf 150 = .ok (.iaload, 1) := by decide +kernel
theorem dX8_tickOf_151 : decode cX8_tickOf 151 = .ok (.iconst 1, 1) := by decide +kernel
theorem dX8_tickOf_152 : decode cX8_tickOf 152 = .ok (.if_icmp .ne 26, 3) := by decide +kernel
theorem dX8_tickOf_155 : decode cX8_tickOf 155 = .ok (.aload_n 0, 1) := by decide +kernel
theorem dX8_tickOf_156 : decode cX8_tickOf 156 = .ok (.getfield 7, 3) := by decide +kernel
theorem dX8_tickOf_159 : decode cX8_tickOf 159 = .ok (.iload_n 2, 1) := by decide +kernel
theorem dX8_tickOf_160 : decode cX8_tickOf 160 = .ok (.iconst 5, 1) := by decide +kernel
theorem dX8_tickOf_161 : decode cX8_tickOf 161 = .ok (.iadd, 1) := by decide +kernel
theorem dX8_tickOf_162 : decode cX8_tickOf 162 = .ok (.aload_n 0, 1) := by decide +kernel
theorem dX8_tickOf_163 : decode cX8_tickOf 163 = .ok (.getfield 17, 3) := by decide +kernel
theorem dX8_tickOf_166 : decode cX8_tickOf 166 = .ok (.bipush 6, 2) := by decide +kernel
theorem dX8_tickOf_168 : decode cX8_tickOf 168 = .ok (.iaload, 1) := by decide +kernel
theorem dX8_tickOf_169 : decode cX8_tickOf 169 = .ok (.iastore, 1) := by decide +kernel
theorem dX8_tickOf_170 : decode cX8_tickOf 170 = .ok (.aload_n 0, 1) := by decide +kernel
theorem dX8_tickOf_171 : decode cX8_tickOf 171 = .ok (.getfield 7, 3) := by decide +kernel
theorem dX8_tickOf_174 : decode cX8_tickOf 174 = .ok (.bipush 51, 2) := by decide +kernel
theorem dX8_tickOf_176 : decode cX8_tickOf 176 = .ok (.iconst 0, 1) := by decide +kernel
theorem dX8_tickOf_177 : decode cX8_tickOf 177 = .ok (.iastore, 1) := by decide +kernel
theorem dX8_tickOf_178 : decode cX8_tickOf 178 = .ok (.aload_n 0, 1) := by decide +kernel
theorem dX8_tickOf_179 : decode cX8_tickOf 179 = .ok (.getfield 184, 3) := by decide +kernel
theorem dX8_tickOf_182 : decode cX8_tickOf 182 = .ok (.ifCond .ne 36, 3) := by decide +kernel
theorem dX8_tickOf_185 : decode cX8_tickOf 185 = .ok (.iload_n 3, 1) := by decide +kernel
theorem dX8_tickOf_186 : decode cX8_tickOf 186 = .ok (.ifCond .eq 32, 3) := by decide +kernel
theorem dX8_tickOf_189 : decode cX8_tickOf 189 = .ok (.aload_n 0, 1) := by decide +kernel
theorem dX8_tickOf_190 : decode cX8_tickOf 190 = .ok (.iload_n 1, 1) := by decide +kernel
theorem dX8_tickOf_191 : decode cX8_tickOf 191 = .ok (.iconst 5, 1) := by decide +kernel
theorem dX8_tickOf_192 : decode cX8_tickOf 192 = .ok (.invokevirtual 153, 3) := by decide +kernel
theorem dX8_tickOf_195 : decode cX8_tickOf 195 = .ok (.ifCond .le 23, 3) := by decide +kernel
theorem dX8_tickOf_198 : decode cX8_tickOf 198 = .ok (.aload_n 0, 1) := by decide +kernel
theorem dX8_tickOf_199 : decode cX8_tickOf 199 = .ok (.getfield 7, 3) := by decide +kernel
theorem dX8_tickOf_202 : decode cX8_tickOf 202 = .ok (.iload_n 2, 1) := by decide +kernel
theorem dX8_tickOf_203 : decode cX8_tickOf 203 = .ok (.iconst 5, 1) := by decide +kernel
theorem dX8_tickOf_204 : decode cX8_tickOf 204 = .ok (.iadd, 1) := by decide +kernel
theorem dX8_tickOf_205 : decode cX8_tickOf 205 = .ok (.iconst 0, 1) := by decide +kernel
theorem dX8_tickOf_206 : decode cX8_tickOf 206 = .ok (.iastore, 1) := by decide +kernel
theorem dX8_tickOf_207 : decode cX8_tickOf 207 = .ok (.aload_n 0, 1) := by decide +kernel
theorem dX8_tickOf_208 : decode cX8_tickOf 208 = .ok (.getfield 7, 3) := by decide +kernel
theorem dX8_tickOf_211 : decode cX8_tickOf 211 = .ok (.bipush 52, 2) := by decide +kernel
theorem dX8_tickOf_213 : decode cX8_tickOf 213 = .ok (.dup2, 1) := by decide +kernel
theorem dX8_tickOf_214 : decode cX8_tickOf 214 = .ok (.iaload, 1) := by decide +kernel
theorem dX8_tickOf_215 : decode cX8_tickOf 215 = .ok (.iconst 1, 1) := by decide +kernel
theorem dX8_tickOf_216 : decode cX8_tickOf 216 = .ok (.iadd, 1) := by decide +kernel
theorem dX8_tickOf_217 : decode cX8_tickOf 217 = .ok (.iastore, 1) := by decide +kernel
theorem dX8_tickOf_218 : decode cX8_tickOf 218 = .ok (.return_, 1) := by decide +kernel
theorem dX8_those_0 : decode cX8_those 0 = .ok (.iconst 0, 1) := by decide +kernel
theorem dX8_those_1 : decode cX8_those 1 = .ok (.istore_n 2, 1) := by decide +kernel
theorem dX8_those_2 : decode cX8_those 2 = .ok (.iconst 0, 1) := by decide +kernel
theorem dX8_those_3 : decode cX8_those 3 = .ok (.istore_n 3, 1) := by decide +kernel
theorem dX8_those_4 : decode cX8_those 4 = .ok (.iload_n 3, 1) := by decide +kernel
theorem dX8_those_5 : decode cX8_those 5 = .ok (.aload_n 0, 1) := by decide +kernel
theorem dX8_those_6 : decode cX8_those 6 = .ok (.getfield 7, 3) := by decide +kernel
theorem dX8_those_9 : decode cX8_those 9 = .ok (.bipush 53, 2) := by decide +kernel
theorem dX8_those_11 : decode cX8_those 11 = .ok (.iaload, 1) := by decide +kernel
theorem dX8_those_12 : decode cX8_those 12 = .ok (.if_icmp .ge 30, 3) := by decide +kernel
theorem dX8_those_15 : decode cX8_those 15 = .ok (.iload_n 2, 1) := by decide +kernel
theorem dX8_those_16 : decode cX8_those 16 = .ok (.aload_n 0, 1) := by decide +kernel
theorem dX8_those_17 : decode cX8_those 17 = .ok (.iload_n 3, 1) := by decide +kernel
theorem dX8_those_18 : decode cX8_those 18 = .ok (.bipush 6, 2) := by decide +kernel
theorem dX8_those_20 : decode cX8_those 20 = .ok (.invokevirtual 153, 3) := by decide +kernel
theorem dX8_those_23 : decode cX8_those 23 = .ok (.iload_n 1, 1) := by decide +kernel
theorem dX8_those_24 : decode cX8_those 24 = .ok (.if_icmp .ne 9, 3) := by decide +kernel
theorem dX8_those_27 : decode cX8_those 27 = .ok (.iconst 1, 1) := by decide +kernel
theorem dX8_those_28 : decode cX8_those 28 = .ok (.iload_n 3, 1) := by decide +kernel
theorem dX8_those_29 : decode cX8_those 29 = .ok (.ishl, 1) := by decide +kernel
theorem dX8_those_30 : decode cX8_those 30 = .ok (.goto 4, 3) := by decide +kernel
theorem dX8_those_33 : decode cX8_those 33 = .ok (.iconst 0, 1) := by decide +kernel
theorem dX8_those_34 : decode cX8_those 34 = .ok (.ior, 1) := by decide +kernel
theorem dX8_those_35 : decode cX8_those 35 = .ok (.istore_n 2, 1) := by decide +kernel
theorem dX8_those_36 : decode cX8_those 36 = .ok (.iinc 3 1, 3) := by decide +kernel
theorem dX8_those_39 : decode cX8_those 39 = .ok (.goto (-35), 3) := by decide +kernel
theorem dX8_those_42 : decode cX8_those 42 = .ok (.iload_n 2, 1) := by decide +kernel
theorem dX8_those_43 : decode cX8_those 43 = .ok (.ireturn, 1) := by decide +kernel
theorem dX8_go_0 : decode cX8_go 0 = .ok (.iload_n 1, 1) := by decide +kernel
theorem dX8_go_1 : decode cX8_go 1 = .ok (.i2l, 1) := by decide +kernel
theorem dX8_go_2 : decode cX8_go 2 = .ok (.lconst 1, 1) := by decide +kernel
theorem dX8_go_3 : decode cX8_go 3 = .ok (.ldc2_w 194, 3) := by decide +kernel
theorem dX8_go_6 : decode cX8_go 6 = .ok (.invokestatic 72, 3) := by decide +kernel
theorem dX8_go_9 : decode cX8_go 9 = .ok (.ifCond .ne 5, 3) := by decide +kernel
theorem dX8_go_12 : decode cX8_go 12 = .ok (.iconst (-1), 1) := by decide +kernel
theorem dX8_go_13 : decode cX8_go 13 = .ok (.ireturn, 1) := by decide +kernel
theorem dX8_go_14 : decode cX8_go 14 = .ok (.iconst 0, 1) := by decide +kernel
theorem dX8_go_15 : decode cX8_go 15 = .ok (.istore_n 2, 1) := by decide +kernel
theorem dX8_go_16 : decode cX8_go 16 = .ok (.iload_n 2, 1) := by decide +kernel
theorem dX8_go_17 : decode cX8_go 17 = .ok (.iload_n 1, 1) := by decide +kernel
theorem dX8_go_18 : decode cX8_go 18 = .ok (.if_icmp .ge 44, 3) := by decide +kernel
theorem dX8_go_21 : decode cX8_go 21 = .ok (.iconst 0, 1) := by decide +kernel
theorem dX8_go_22 : decode cX8_go 22 = .ok (.istore_n 3, 1) := by decide +kernel
theorem dX8_go_23 : decode cX8_go 23 = .ok (.iload_n 3, 1) := by decide +kernel
theorem dX8_go_24 : decode cX8_go 24 = .ok (.aload_n 0, 1) := by decide +kernel
theorem dX8_go_25 : decode cX8_go 25 = .ok (.getfield 7, 3) := by decide +kernel
theorem dX8_go_28 : decode cX8_go 28 = .ok (.bipush 53, 2) := by decide +kernel
theorem dX8_go_30 : decode cX8_go 30 = .ok (.iaload, 1) := by decide +kernel
theorem dX8_go_31 : decode cX8_go 31 = .ok (.if_icmp .ge 14, 3) := by decide +kernel
theorem dX8_go_34 : decode cX8_go 34 = .ok (.aload_n 0, 1) := by decide +kernel
theorem dX8_go_35 : decode cX8_go 35 = .ok (.iload_n 3, 1) := by decide +kernel
theorem dX8_go_36 : decode cX8_go 36 = .ok (.invokevirtual 196, 3) := by decide +kernel
theorem dX8_go_39 : decode cX8_go 39 = .ok (.iinc 3 1, 3) := by decide +kernel
theorem dX8_go_42 : decode cX8_go 42 = .ok (.goto (-19), 3) := by decide +kernel
theorem dX8_go_45 : decode cX8_go 45 = .ok (.aload_n 0, 1) := by decide +kernel
theorem dX8_go_46 : decode cX8_go 46 = .ok (.getfield 7, 3) := by decide +kernel
theorem dX8_go_49 : decode cX8_go 49 = .ok (.bipush 50, 2) := by decide +kernel
theorem dX8_go_51 : decode cX8_go 51 = .ok (.dup2, 1) := by decide +kernel
theorem dX8_go_52 : decode cX8_go 52 = .ok (.iaload, 1) := by decide +kernel
theorem dX8_go_53 : decode cX8_go 53 = .ok (.iconst 1, 1) := by decide +kernel
theorem dX8_go_54 : decode cX8_go 54 = .ok (.iadd, 1) := by decide +kernel
theorem dX8_go_55 : decode cX8_go 55 = .ok (.iastore, 1) := by decide +kernel
theorem dX8_go_56 : decode cX8_go 56 = .ok (.iinc 2 1, 3) := by decide +kernel
theorem dX8_go_59 : decode cX8_go 59 = .ok (.goto (-43), 3) := by decide +kernel
theorem dX8_go_62 : decode cX8_go 62 = .ok (.aload_n 0, 1) := by decide +kernel
theorem dX8_go_63 : decode cX8_go 63 = .ok (.aload_n 0, 1) := by decide +kernel
theorem dX8_go_64 : decode cX8_go 64 = .ok (.invokevirtual 187, 3) := by decide +kernel
theorem dX8_go_67 : decode cX8_go 67 = .ok (.invokevirtual 199, 3) := by decide +kernel
theorem dX8_go_70 : decode cX8_go 70 = .ok (.ireturn, 1) := by decide +kernel
theorem dX8_set_0 : decode cX8_set 0 = .ok (.aload_n 0, 1) := by decide +kernel
theorem dX8_set_1 : decode cX8_set 1 = .ok (.iload_n 1, 1) := by decide +kernel
theorem dX8_set_2 : decode cX8_set 2 = .ok (.invokevirtual 163, 3) := by decide +kernel
theorem dX8_set_5 : decode cX8_set 5 = .ok (.ifCond .eq 11, 3) := by decide +kernel
theorem dX8_set_8 : decode cX8_set 8 = .ok (.aload_n 0, 1) := by decide +kernel
theorem dX8_set_9 : decode cX8_set 9 = .ok (.iload_n 2, 1) := by decide +kernel
theorem dX8_set_10 : decode cX8_set 10 = .ok (.invokevirtual 202, 3) := by decide +kernel
theorem dX8_set_13 : decode cX8_set 13 = .ok (.ifCond .ne 5, 3) := by decide +kernel
theorem dX8_set_16 : decode cX8_set 16 = .ok (.iconst (-1), 1) := by decide +kernel
theorem dX8_set_17 : decode cX8_set 17 = .ok (.ireturn, 1) := by decide +kernel
theorem dX8_set_18 : decode cX8_set 18 = .ok (.aload_n 0, 1) := by decide +kernel
theorem dX8_set_19 : decode cX8_set 19 = .ok (.iload_n 1, 1) := by decide +kernel
theorem dX8_set_20 : decode cX8_set 20 = .ok (.bipush 6, 2) := by decide +kernel
theorem dX8_set_22 : decode cX8_set 22 = .ok (.invokevirtual 153, 3) := by decide +kernel
theorem dX8_set_25 : decode cX8_set 25 = .ok (.bipush 64, 2) := by decide +kernel
theorem dX8_set_27 : decode cX8_set 27 = .ok (.idiv, 1) := by decide +kernel
theorem dX8_set_28 : decode cX8_set 28 = .ok (.istore_n 3, 1) := by decide +kernel
theorem dX8_set_29 : decode cX8_set 29 = .ok (.aload_n 0, 1) := by decide +kernel
theorem dX8_set_30 : decode cX8_set 30 = .ok (.getfield 7, 3) := by decide +kernel
theorem dX8_set_33 : decode cX8_set 33 = .ok (.bipush 8, 2) := by decide +kernel
theorem dX8_set_35 : decode cX8_set 35 = .ok (.iload_n 1, 1) := by decide +kernel
theorem dX8_set_36 : decode cX8_set 36 = .ok (.imul, 1) := by decide +kernel
theorem dX8_set_37 : decode cX8_set 37 = .ok (.bipush 6, 2) := by decide +kernel
theorem dX8_set_39 : decode cX8_set 39 = .ok (.iadd, 1) := by decide +kernel
theorem dX8_set_40 : decode cX8_set 40 = .ok (.bipush 64, 2) := by decide +kernel
theorem dX8_set_42 : decode cX8_set 42 = .ok (.iload_n 2, 1) := by decide +kernel
theorem dX8_set_43 : decode cX8_set 43 = .ok (.imul, 1) := by decide +kernel
theorem dX8_set_44 : decode cX8_set 44 = .ok (.iastore, 1) := by decide +kernel
theorem dX8_set_45 : decode cX8_set 45 = .ok (.aload_n 0, 1) := by decide +kernel
theorem dX8_set_46 : decode cX8_set 46 = .ok (.getfield 7, 3) := by decide +kernel
theorem dX8_set_49 : decode cX8_set 49 = .ok (.bipush 8, 2) := by decide +kernel
theorem dX8_set_51 : decode cX8_set 51 = .ok (.iload_n 1, 1) := by decide +kernel
theorem dX8_set_52 : decode cX8_set 52 = .ok (.imul, 1) := by decide +kernel
theorem dX8_set_53 : decode cX8_set 53 = .ok (.bipush 7, 2) := by decide +kernel
theorem dX8_set_55 : decode cX8_set 55 = .ok (.iadd, 1) := by decide +kernel
theorem dX8_set_56 : decode cX8_set 56 = .ok (.iconst 0, 1) := by decide +kernel
theorem dX8_set_57 : decode cX8_set 57 = .ok (.iastore, 1) := by decide +kernel
theorem dX8_set_58 : decode cX8_set 58 = .ok (.iload_n 3, 1) := by decide +kernel
theorem dX8_set_59 : decode cX8_set 59 = .ok (.ireturn, 1) := by decide +kernel
theorem dX8_now_0 : decode cX8_now 0 = .ok (.iload_n 1, 1) := by decide +kernel
theorem dX8_now_1 : decode cX8_now 1 = .ok (.tableswitch 86 0 5 #[39, 47, 55, 61, 70, 78], 39) := by decide +kernel
theorem dX8_now_40 : decode cX8_now 40 = .ok (.aload_n 0, 1) := by decide +kernel
theorem dX8_now_41 : decode cX8_now 41 = .ok (.getfield 7, 3) := by decide +kernel
theorem dX8_now_44 : decode cX8_now 44 = .ok (.bipush 50, 2) := by decide +kernel
theorem dX8_now_46 : decode cX8_now 46 = .ok (.iaload, 1) := by decide +kernel
theorem dX8_now_47 : decode cX8_now 47 = .ok (.ireturn, 1) := by decide +kernel
theorem dX8_now_48 : decode cX8_now 48 = .ok (.aload_n 0, 1) := by decide +kernel
theorem dX8_now_49 : decode cX8_now 49 = .ok (.getfield 7, 3) := by decide +kernel
theorem dX8_now_52 : decode cX8_now 52 = .ok (.bipush 48, 2) := by decide +kernel
theorem dX8_now_54 : decode cX8_now 54 = .ok (.iaload, 1) := by decide +kernel
theorem dX8_now_55 : decode cX8_now 55 = .ok (.ireturn, 1) := by decide +kernel
theorem dX8_now_56 : decode cX8_now 56 = .ok (.aload_n 0, 1) := by decide +kernel
theorem dX8_now_57 : decode cX8_now 57 = .ok (.iconst 0, 1) := by decide +kernel
theorem dX8_now_58 : decode cX8_now 58 = .ok (.invokevirtual 199, 3) := by decide +kernel
theorem dX8_now_61 : decode cX8_now 61 = .ok (.ireturn, 1) := by decide +kernel
theorem dX8_now_62 : decode cX8_now 62 = .ok (.aload_n 0, 1) := by decide +kernel
theorem dX8_now_63 : decode cX8_now 63 = .ok (.aload_n 0, 1) := by decide +kernel
theorem dX8_now_64 : decode cX8_now 64 = .ok (.invokevirtual 187, 3) := by decide +kernel
theorem dX8_now_67 : decode cX8_now 67 = .ok (.invokevirtual 199, 3) := by decide +kernel
theorem dX8_now_70 : decode cX8_now 70 = .ok (.ireturn, 1) := by decide +kernel
theorem dX8_now_71 : decode cX8_now 71 = .ok (.aload_n 0, 1) := by decide +kernel
theorem dX8_now_72 : decode cX8_now 72 = .ok (.getfield 7, 3) := by decide +kernel
theorem dX8_now_75 : decode cX8_now 75 = .ok (.bipush 51, 2) := by decide +kernel
theorem dX8_now_77 : decode cX8_now 77 = .ok (.iaload, 1) := by decide +kernel
theorem dX8_now_78 : decode cX8_now 78 = .ok (.ireturn, 1) := by decide +kernel
theorem dX8_now_79 : decode cX8_now 79 = .ok (.aload_n 0, 1) := by decide +kernel
theorem dX8_now_80 : decode cX8_now 80 = .ok (.getfield 7, 3) := by decide +kernel
theorem dX8_now_83 : decode cX8_now 83 = .ok (.bipush 52, 2) := by decide +kernel
theorem dX8_now_85 : decode cX8_now 85 = .ok (.iaload, 1) := by decide +kernel
theorem dX8_now_86 : decode cX8_now 86 = .ok (.ireturn, 1) := by decide +kernel
theorem dX8_now_87 : decode cX8_now 87 = .ok (.iconst (-1), 1) := by decide +kernel
theorem dX8_now_88 : decode cX8_now 88 = .ok (.ireturn, 1) := by decide +kernel
theorem dX8_drop_0 : decode cX8_drop 0 = .ok (.aload_n 0, 1) := by decide +kernel
theorem dX8_drop_1 : decode cX8_drop 1 = .ok (.getfield 17, 3) := by decide +kernel
theorem dX8_drop_4 : decode cX8_drop 4 = .ok (.bipush 6, 2) := by decide +kernel
theorem dX8_drop_6 : decode cX8_drop 6 = .ok (.iaload, 1) := by decide +kernel
theorem dX8_drop_7 : decode cX8_drop 7 = .ok (.ifCond .eq 14, 3) := by decide +kernel
theorem dX8_drop_10 : decode cX8_drop 10 = .ok (.aload_n 0, 1) := by decide +kernel
theorem dX8_drop_11 : decode cX8_drop 11 = .ok (.getfield 7, 3) := by decide +kernel
theorem dX8_drop_14 : decode cX8_drop 14 = .ok (.bipush 51, 2) := by decide +kernel
theorem dX8_drop_16 : decode cX8_drop 16 = .ok (.iaload, 1) := by decide +kernel
theorem dX8_drop_17 : decode cX8_drop 17 = .ok (.iconst 1, 1) := by decide +kernel
theorem dX8_drop_18 : decode cX8_drop 18 = .ok (.if_icmp .ne 5, 3) := by decide +kernel
theorem dX8_drop_21 : decode cX8_drop 21 = .ok (.iconst 0, 1) := by decide +kernel
theorem dX8_drop_22 : decode cX8_drop 22 = .ok (.ireturn, 1) := by decide +kernel
theorem dX8_drop_23 : decode cX8_drop 23 = .ok (.iconst 0, 1) := by decide +kernel
theorem dX8_drop_24 : decode cX8_drop 24 = .ok (.istore_n 1, 1) := by decide +kernel
theorem dX8_drop_25 : decode cX8_drop 25 = .ok (.iload_n 1, 1) := by decide +kernel
theorem dX8_drop_26 : decode cX8_drop 26 = .ok (.aload_n 0, 1) := by decide +kernel
theorem dX8_drop_27 : decode cX8_drop 27 = .ok (.getfield 7, 3) := by decide +kernel
theorem dX8_drop_30 : decode cX8_drop 30 = .ok (.bipush 53, 2) := by decide +kernel
theorem dX8_drop_32 : decode cX8_drop 32 = .ok (.iaload, 1) := by decide +kernel
theorem dX8_drop_33 : decode cX8_drop 33 = .ok (.if_icmp .ge 21, 3) := by decide +kernel
theorem dX8_drop_36 : decode cX8_drop 36 = .ok (.aload_n 0, 1) := by decide +kernel
theorem dX8_drop_37 : decode cX8_drop 37 = .ok (.getfield 7, 3) := by decide +kernel
theorem dX8_drop_40 : decode cX8_drop 40 = .ok (.bipush 8, 2) := by decide +kernel
theorem dX8_drop_42 : decode cX8_drop 42 = .ok (.iload_n 1, 1) := by decide +kernel
theorem dX8_drop_43 : decode cX8_drop 43 = .ok (.imul, 1) := by decide +kernel
theorem dX8_drop_44 : decode cX8_drop 44 = .ok (.iconst 5, 1) := by decide +kernel
theorem dX8_drop_45 : decode cX8_drop 45 = .ok (.iadd, 1) := by decide +kernel
theorem dX8_drop_46 : decode cX8_drop 46 = .ok (.iconst 0, 1) := by decide +kernel
theorem dX8_drop_47 : decode cX8_drop 47 = .ok (.iastore, 1) := by decide +kernel
theorem dX8_drop_48 : decode cX8_drop 48 = .ok (.iinc 1 1, 3) := by decide +kernel
theorem dX8_drop_51 : decode cX8_drop 51 = .ok (.goto (-26), 3) := by decide +kernel
theorem dX8_drop_54 : decode cX8_drop 54 = .ok (.aload_n 0, 1) := by decide +kernel
theorem dX8_drop_55 : decode cX8_drop 55 = .ok (.getfield 7, 3) := by decide +kernel
theorem dX8_drop_58 : decode cX8_drop 58 = .ok (.bipush 51, 2) := by decide +kernel
theorem dX8_drop_60 : decode cX8_drop 60 = .ok (.iconst 1, 1) := by decide +kernel
theorem dX8_drop_61 : decode cX8_drop 61 = .ok (.iastore, 1) := by decide +kernel
theorem dX8_drop_62 : decode cX8_drop 62 = .ok (.iconst 1, 1) := by decide +kernel
theorem dX8_drop_63 : decode cX8_drop 63 = .ok (.ireturn, 1) := by decide +kernel
theorem dX8_press_0 : decode cX8_press 0 = .ok (.aload_n 0, 1) := by decide +kernel
theorem dX8_press_1 : decode cX8_press 1 = .ok (.iload_n 1, 1) := by decide +kernel
theorem dX8_press_2 : decode cX8_press 2 = .ok (.invokevirtual 202, 3) := by decide +kernel
theorem dX8_press_5 : decode cX8_press 5 = .ok (.ifCond .eq 22, 3) := by decide +kernel
theorem dX8_press_8 : decode cX8_press 8 = .ok (.aload_n 0, 1) := by decide +kernel
theorem dX8_press_9 : decode cX8_press 9 = .ok (.getfield 17, 3) := by decide +kernel
theorem dX8_press_12 : decode cX8_press 12 = .ok (.iconst 1, 1) := by decide +kernel
theorem dX8_press_13 : decode cX8_press 13 = .ok (.iaload, 1) := by decide +kernel
theorem dX8_press_14 : decode cX8_press 14 = .ok (.aload_n 0, 1) := by decide +kernel
theorem dX8_press_15 : decode cX8_press 15 = .ok (.getfield 7, 3) := by decide +kernel
theorem dX8_press_18 : decode cX8_press 18 = .ok (.bipush 48, 2) := by decide +kernel
theorem dX8_press_20 : decode cX8_press 20 = .ok (.iaload, 1) := by decide +kernel
theorem dX8_press_21 : decode cX8_press 21 = .ok (.iadd, 1) := by decide +kernel
theorem dX8_press_22 : decode cX8_press 22 = .ok (.iload_n 1, 1) := by decide +kernel
theorem dX8_press_23 : decode cX8_press 23 = .ok (.iadd, 1) := by decide +kernel
theorem dX8_press_24 : decode cX8_press 24 = .ok (.goto 4, 3) := by decide +kernel
theorem dX8_press_27 : decode cX8_press 27 = .ok (.iconst (-1), 1) := by decide +kernel
theorem dX8_press_28 : decode cX8_press 28 = .ok (.ireturn, 1) := by decide +kernel
theorem dX8_weighs_0 : decode cX8_weighs 0 = .ok (.aload_n 0, 1) := by decide +kernel
theorem dX8_weighs_1 : decode cX8_weighs 1 = .ok (.iload_n 1, 1) := by decide +kernel
theorem dX8_weighs_2 : decode cX8_weighs 2 = .ok (.invokevirtual 163, 3) := by decide +kernel
theorem dX8_weighs_5 : decode cX8_weighs 5 = .ok (.ifCond .eq 28, 3) := by decide +kernel
theorem dX8_weighs_8 : decode cX8_weighs 8 = .ok (.aload_n 0, 1) := by decide +kernel
theorem dX8_weighs_9 : decode cX8_weighs 9 = .ok (.iload_n 2, 1) := by decide +kernel
theorem dX8_weighs_10 : decode cX8_weighs 10 = .ok (.invokevirtual 202, 3) := by decide +kernel
theorem dX8_weighs_13 : decode cX8_weighs 13 = .ok (.ifCond .eq 20, 3) := by decide +kernel
theorem dX8_weighs_16 : decode cX8_weighs 16 = .ok (.iload_n 3, 1) := by decide +kernel
theorem dX8_weighs_17 : decode cX8_weighs 17 = .ok (.invokestatic 174, 3) := by decide +kernel
theorem dX8_weighs_20 : decode cX8_weighs 20 = .ok (.ifCond .eq 13, 3) := by decide +kernel
theorem dX8_weighs_23 : decode cX8_weighs 23 = .ok (.aload_n 0, 1) := by decide +kernel
theorem dX8_weighs_24 : decode cX8_weighs 24 = .ok (.iload_n 1, 1) := by decide +kernel
theorem dX8_weighs_25 : decode cX8_weighs 25 = .ok (.iload_n 2, 1) := by decide +kernel
theorem dX8_weighs_26 : decode cX8_weighs 26 = .ok (.iload_n 3, 1) := by decide +kernel
theorem dX8_weighs_27 : decode cX8_weighs 27 = .ok (.invokevirtual 170, 3) := by decide +kernel
theorem dX8_weighs_30 : decode cX8_weighs 30 = .ok (.goto 5, 3) := by decide +kernel
theorem dX8_weighs_33 : decode cX8_weighs 33 = .ok (.ldc 169, 2) := by decide +kernel
theorem dX8_weighs_35 : decode cX8_weighs 35 = .ok (.ireturn, 1) := by decide +kernel
theorem dX8_turning_0 : decode cX8_turning 0 = .ok (.aload_n 0, 1) := by decide +kernel
theorem dX8_turning_1 : decode cX8_turning 1 = .ok (.iload_n 1, 1) := by decide +kernel
theorem dX8_turning_2 : decode cX8_turning 2 = .ok (.invokevirtual 163, 3) := by decide +kernel
theorem dX8_turning_5 : decode cX8_turning 5 = .ok (.ifCond .eq 10, 3) := by decide +kernel
theorem dX8_turning_8 : decode cX8_turning 8 = .ok (.iload_n 2, 1) := by decide +kernel
theorem dX8_turning_9 : decode cX8_turning 9 = .ok (.invokestatic 174, 3) := by decide +kernel
theorem dX8_turning_12 : decode cX8_turning 12 = .ok (.ifCond .ne 5, 3) := by decide +kernel
theorem dX8_turning_15 : decode cX8_turning 15 = .ok (.iconst (-1), 1) := by decide +kernel
theorem dX8_turning_16 : decode cX8_turning 16 = .ok (.ireturn, 1) := by decide +kernel
theorem dX8_turning_17 : decode cX8_turning 17 = .ok (.bipush (-4), 2) := by decide +kernel
theorem dX8_turning_19 : decode cX8_turning 19 = .ok (.istore_n 3, 1) := by decide +kernel
theorem dX8_turning_20 : decode cX8_turning 20 = .ok (.aload_n 0, 1) := by decide +kernel
theorem dX8_turning_21 : decode cX8_turning 21 = .ok (.getfield 17, 3) := by decide +kernel
theorem dX8_turning_24 : decode cX8_turning 24 = .ok (.iconst 0, 1) := by decide +kernel
theorem dX8_turning_25 : decode cX8_turning 25 = .ok (.iaload, 1) := by decide +kernel
theorem dX8_turning_26 : decode cX8_turning 26 = .ok (.istore 4, 2) := by decide +kernel
theorem dX8_turning_28 : decode cX8_turning 28 = .ok (.iload 4, 2) := by decide +kernel
theorem dX8_turning_30 : decode cX8_turning 30 = .ok (.ifCond .lt 27, 3) := by decide +kernel
theorem dX8_turning_33 : decode cX8_turning 33 = .ok (.aload_n 0, 1) := by decide +kernel
theorem dX8_turning_34 : decode cX8_turning 34 = .ok (.iload_n 1, 1) := by decide +kernel
theorem dX8_turning_35 : decode cX8_turning 35 = .ok (.iload 4, 2) := by decide +kernel
theorem dX8_turning_37 : decode cX8_turning 37 = .ok (.iload_n 2, 1) := by decide +kernel
theorem dX8_turning_38 : decode cX8_turning 38 = .ok (.invokevirtual 170, 3) := by decide +kernel
theorem dX8_turning_41 : decode cX8_turning 41 = .ok (.ifCond .lt 8, 3) := by decide +kernel
theorem dX8_turning_44 : decode cX8_turning 44 = .ok (.iload 4, 2) := by decide +kernel
theorem dX8_turning_46 : decode cX8_turning 46 = .ok (.goto 4, 3) := by decide +kernel
theorem dX8_turning_49 : decode cX8_turning 49 = .ok (.iload_n 3, 1) := by decide +kernel
theorem dX8_turning_50 : decode cX8_turning 50 = .ok (.istore_n 3, 1) := by decide +kernel
theorem dX8_turning_51 : decode cX8_turning 51 = .ok (.iinc 4 (-1), 3) := by decide +kernel
theorem dX8_turning_54 : decode cX8_turning 54 = .ok (.goto (-26), 3) := by decide +kernel
theorem dX8_turning_57 : decode cX8_turning 57 = .ok (.iload_n 3, 1) := by decide +kernel
theorem dX8_turning_58 : decode cX8_turning 58 = .ok (.ireturn, 1) := by decide +kernel
theorem dX8_holding_0 : decode cX8_holding 0 = .ok (.aload_n 0, 1) := by decide +kernel
theorem dX8_holding_1 : decode cX8_holding 1 = .ok (.iload_n 1, 1) := by decide +kernel
theorem dX8_holding_2 : decode cX8_holding 2 = .ok (.invokevirtual 163, 3) := by decide +kernel
theorem dX8_holding_5 : decode cX8_holding 5 = .ok (.ifCond .eq 10, 3) := by decide +kernel
theorem dX8_holding_8 : decode cX8_holding 8 = .ok (.iload_n 2, 1) := by decide +kernel
theorem dX8_holding_9 : decode cX8_holding 9 = .ok (.invokestatic 174, 3) := by decide +kernel
theorem dX8_holding_12 : decode cX8_holding 12 = .ok (.ifCond .ne 5, 3) := by decide +kernel
theorem dX8_holding_15 : decode cX8_holding 15 = .ok (.iconst (-1), 1) := by decide +kernel
theorem dX8_holding_16 : decode cX8_holding 16 = .ok (.ireturn, 1) := by decide +kernel
theorem dX8_holding_17 : decode cX8_holding 17 = .ok (.bipush (-4), 2) := by decide +kernel
theorem dX8_holding_19 : decode cX8_holding 19 = .ok (.istore_n 3, 1) := by decide +kernel
theorem dX8_holding_20 : decode cX8_holding 20 = .ok (.aload_n 0, 1) := by decide +kernel
theorem dX8_holding_21 : decode cX8_holding 21 = .ok (.getfield 17, 3) := by decide +kernel
theorem dX8_holding_24 : decode cX8_holding 24 = .ok (.iconst 0, 1) := by decide +kernel
theorem dX8_holding_25 : decode cX8_holding 25 = .ok (.iaload, 1) := by decide +kernel
theorem dX8_holding_26 : decode cX8_holding 26 = .ok (.istore 4, 2) := by decide +kernel
theorem dX8_holding_28 : decode cX8_holding 28 = .ok (.iload 4, 2) := by decide +kernel
theorem dX8_holding_30 : decode cX8_holding 30 = .ok (.ifCond .le 40, 3) := by decide +kernel
theorem dX8_holding_33 : decode cX8_holding 33 = .ok (.aload_n 0, 1) := by decide +kernel
theorem dX8_holding_34 : decode cX8_holding 34 = .ok (.iload_n 1, 1) := by decide +kernel
theorem dX8_holding_35 : decode cX8_holding 35 = .ok (.iload 4, 2) := by decide +kernel
theorem dX8_holding_37 : decode cX8_holding 37 = .ok (.iload_n 2, 1) := by decide +kernel
theorem dX8_holding_38 : decode cX8_holding 38 = .ok (.invokevirtual 170, 3) := by decide +kernel
theorem dX8_holding_41 : decode cX8_holding 41 = .ok (.ifCond .gt 21, 3) := by decide +kernel
theorem dX8_holding_44 : decode cX8_holding 44 = .ok (.aload_n 0, 1) := by decide +kernel
theorem dX8_holding_45 : decode cX8_holding 45 = .ok (.iload_n 1, 1) := by decide +kernel
theorem dX8_holding_46 : decode cX8_holding 46 = .ok (.iload 4, 2) := by decide +kernel
theorem dX8_holding_48 : decode cX8_holding 48 = .ok (.iconst 1, 1) := by decide +kernel
theorem dX8_holding_49 : decode cX8_holding 49 = .ok (.isub, 1) := by decide +kernel
theorem dX8_holding_50 : decode cX8_holding 50 = .ok (.iload_n 2, 1) := by decide +kernel
theorem dX8_holding_51 : decode cX8_holding 51 = .ok (.invokevirtual 170, 3) := by decide +kernel
theorem dX8_holding_54 : decode cX8_holding 54 = .ok (.ifCond .le 8, 3) := by decide +kernel
theorem dX8_holding_57 : decode cX8_holding 57 = .ok (.iload 4, 2) := by decide +kernel
theorem dX8_holding_59 : decode cX8_holding 59 = .ok (.goto 4, 3) := by decide +kernel
theorem dX8_holding_62 : decode cX8_holding 62 = .ok (.iload_n 3, 1) := by decide +kernel
theorem dX8_holding_63 : decode cX8_holding 63 = .ok (.istore_n 3, 1) := by decide +kernel
theorem dX8_holding_64 : decode cX8_holding 64 = .ok (.iinc 4 (-1), 3) := by decide +kernel
theorem dX8_holding_67 : decode cX8_holding 67 = .ok (.goto (-39), 3) := by decide +kernel
theorem dX8_holding_70 : decode cX8_holding 70 = .ok (.iload_n 3, 1) := by decide +kernel
theorem dX8_holding_71 : decode cX8_holding 71 = .ok (.ireturn, 1) := by decide +kernel
theorem dX8_back_0 : decode cX8_back 0 = .ok (.aload_n 0, 1) := by decide +kernel
theorem dX8_back_1 : decode cX8_back 1 = .ok (.iload_n 1, 1) := by decide +kernel
theorem dX8_back_2 : decode cX8_back 2 = .ok (.invokevirtual 163, 3) := by decide +kernel
theorem dX8_back_5 : decode cX8_back 5 = .ok (.ifCond .ne 5, 3) := by decide +kernel
theorem dX8_back_8 : decode cX8_back 8 = .ok (.iconst (-1), 1) := by decide +kernel
theorem dX8_back_9 : decode cX8_back 9 = .ok (.ireturn, 1) := by decide +kernel
theorem dX8_back_10 : decode cX8_back 10 = .ok (.iconst 0, 1) := by decide +kernel
theorem dX8_back_11 : decode cX8_back 11 = .ok (.istore_n 2, 1) := by decide +kernel
theorem dX8_back_12 : decode cX8_back 12 = .ok (.iload_n 2, 1) := by decide +kernel
theorem dX8_back_13 : decode cX8_back 13 = .ok (.aload_n 0, 1) := by decide +kernel
theorem dX8_back_14 : decode cX8_back 14 = .ok (.getfield 17, 3) := by decide +kernel
theorem dX8_back_17 : decode cX8_back 17 = .ok (.iconst 0, 1) := by decide +kernel
theorem dX8_back_18 : decode cX8_back 18 = .ok (.iaload, 1) := by decide +kernel
theorem dX8_back_19 : decode cX8_back 19 = .ok (.if_icmp .gt 19, 3) := by decide +kernel
theorem dX8_back_22 : decode cX8_back 22 = .ok (.aload_n 0, 1) := by decide +kernel
theorem dX8_back_23 : decode cX8_back 23 = .ok (.iload_n 1, 1) := by decide +kernel
theorem dX8_back_24 : decode cX8_back 24 = .ok (.iload_n 2, 1) := by decide +kernel
theorem dX8_back_25 : decode cX8_back 25 = .ok (.iconst 0, 1) := by decide +kernel
theorem dX8_back_26 : decode cX8_back 26 = .ok (.invokevirtual 170, 3) := by decide +kernel
theorem dX8_back_29 : decode cX8_back 29 = .ok (.ifCond .ge 9, 3) := by decide +kernel
theorem dX8_back_32 : decode cX8_back 32 = .ok (.iinc 2 1, 3) := by decide +kernel
theorem dX8_back_35 : decode cX8_back 35 = .ok (.goto (-23), 3) := by decide +kernel
theorem dX8_back_38 : decode cX8_back 38 = .ok (.iload_n 2, 1) := by decide +kernel
theorem dX8_back_39 : decode cX8_back 39 = .ok (.ifCond .ne 8, 3) := by decide +kernel
theorem dX8_back_42 : decode cX8_back 42 = .ok (.bipush (-4), 2) := by decide +kernel
theorem dX8_back_44 : decode cX8_back 44 = .ok (.goto 6, 3) := by decide +kernel
theorem dX8_back_47 : decode cX8_back 47 = .ok (.iload_n 2, 1) := by decide +kernel
theorem dX8_back_48 : decode cX8_back 48 = .ok (.iconst 1, 1) := by decide +kernel
theorem dX8_back_49 : decode cX8_back 49 = .ok (.isub, 1) := by decide +kernel
theorem dX8_back_50 : decode cX8_back 50 = .ok (.ireturn, 1) := by decide +kernel
theorem dX8_goesWith_0 : decode cX8_goesWith 0 = .ok (.iconst 0, 1) := by decide +kernel
theorem dX8_goesWith_1 : decode cX8_goesWith 1 = .ok (.istore_n 3, 1) := by decide +kernel
theorem dX8_goesWith_2 : decode cX8_goesWith 2 = .ok (.iload_n 3, 1) := by decide +kernel
theorem dX8_goesWith_3 : decode cX8_goesWith 3 = .ok (.sipush 500, 3) := by decide +kernel
theorem dX8_goesWith_6 : decode cX8_goesWith 6 = .ok (.if_icmp .gt 29, 3) := by decide +kernel
theorem dX8_goesWith_9 : decode cX8_goesWith 9 = .ok (.aload_n 0, 1) := by decide +kernel
theorem dX8_goesWith_10 : decode cX8_goesWith 10 = .ok (.iload_n 1, 1) := by decide +kernel
theorem dX8_goesWith_11 : decode cX8_goesWith 11 = .ok (.iload_n 2, 1) := by decide +kernel
theorem dX8_goesWith_12 : decode cX8_goesWith 12 = .ok (.aload_n 0, 1) := by decide +kernel
theorem dX8_goesWith_13 : decode cX8_goesWith 13 = .ok (.getfield 7, 3) := by decide +kernel
theorem dX8_goesWith_16 : decode cX8_goesWith 16 = .ok (.bipush 49, 2) := by decide +kernel
theorem dX8_goesWith_18 : decode cX8_goesWith 18 = .ok (.iaload, 1) := by decide +kernel
theorem dX8_goesWith_19 : decode cX8_goesWith 19 = .ok (.iload_n 3, 1) := by decide +kernel
theorem dX8_goesWith_20 : decode cX8_goesWith 20 = .ok (.iconst 0, 1) := by decide +kernel
theorem dX8_goesWith_21 : decode cX8_goesWith 21 = .ok (.invokevirtual 159, 3) := by decide +kernel
theorem dX8_goesWith_24 : decode cX8_goesWith 24 = .ok (.ifCond .le 5, 3) := by decide +kernel
theorem dX8_goesWith_27 : decode cX8_goesWith 27 = .ok (.iload_n 3, 1) := by decide +kernel
theorem dX8_goesWith_28 : decode cX8_goesWith 28 = .ok (.ireturn, 1) := by decide +kernel
theorem dX8_goesWith_29 : decode cX8_goesWith 29 = .ok (.iinc 3 1, 3) := by decide +kernel
theorem dX8_goesWith_32 : decode cX8_goesWith 32 = .ok (.goto (-30), 3) := by decide +kernel
theorem dX8_goesWith_35 : decode cX8_goesWith 35 = .ok (.bipush (-4), 2) := by decide +kernel
theorem dX8_goesWith_37 : decode cX8_goesWith 37 = .ok (.ireturn, 1) := by decide +kernel
theorem dX8_goesOf_0 : decode cX8_goesOf 0 = .ok (.aload_n 0, 1) := by decide +kernel
theorem dX8_goesOf_1 : decode cX8_goesOf 1 = .ok (.aload_n 0, 1) := by decide +kernel
theorem dX8_goesOf_2 : decode cX8_goesOf 2 = .ok (.iload_n 1, 1) := by decide +kernel
theorem dX8_goesOf_3 : decode cX8_goesOf 3 = .ok (.invokevirtual 156, 3) := by decide +kernel
theorem dX8_goesOf_6 : decode cX8_goesOf 6 = .ok (.aload_n 0, 1) := by decide +kernel
theorem dX8_goesOf_7 : decode cX8_goesOf 7 = .ok (.iload_n 1, 1) := by decide +kernel
theorem dX8_goesOf_8 : decode cX8_goesOf 8 = .ok (.iconst 1, 1) := by decide +kernel
theorem dX8_goesOf_9 : decode cX8_goesOf 9 = .ok (.invokevirtual 153, 3) := by decide +kernel
theorem dX8_goesOf_12 : decode cX8_goesOf 12 = .ok (.invokevirtual 205, 3) := by decide +kernel
theorem dX8_goesOf_15 : decode cX8_goesOf 15 = .ok (.ireturn, 1) := by decide +kernel
theorem dX8_goesAt_0 : decode cX8_goesAt 0 = .ok (.aload_n 0, 1) := by decide +kernel
theorem dX8_goesAt_1 : decode cX8_goesAt 1 = .ok (.iload_n 1, 1) := by decide +kernel
theorem dX8_goesAt_2 : decode cX8_goesAt 2 = .ok (.invokevirtual 163, 3) := by decide +kernel
theorem dX8_goesAt_5 : decode cX8_goesAt 5 = .ok (.ifCond .eq 11, 3) := by decide +kernel
theorem dX8_goesAt_8 : decode cX8_goesAt 8 = .ok (.aload_n 0, 1) := by decide +kernel
theorem dX8_goesAt_9 : decode cX8_goesAt 9 = .ok (.iload_n 1, 1) := by decide +kernel
theorem dX8_goesAt_10 : decode cX8_goesAt 10 = .ok (.invokevirtual 208, 3) := by decide +kernel
theorem dX8_goesAt_13 : decode cX8_goesAt 13 = .ok (.goto 4, 3) := by decide +kernel
theorem dX8_goesAt_16 : decode cX8_goesAt 16 = .ok (.iconst (-1), 1) := by decide +kernel
theorem dX8_goesAt_17 : decode cX8_goesAt 17 = .ok (.ireturn, 1) := by decide +kernel
theorem dX8_rankOf_0 : decode cX8_rankOf 0 = .ok (.aload_n 0, 1) := by decide +kernel
theorem dX8_rankOf_1 : decode cX8_rankOf 1 = .ok (.iload_n 1, 1) := by decide +kernel
theorem dX8_rankOf_2 : decode cX8_rankOf 2 = .ok (.invokevirtual 208, 3) := by decide +kernel
theorem dX8_rankOf_5 : decode cX8_rankOf 5 = .ok (.istore_n 2, 1) := by decide +kernel
theorem dX8_rankOf_6 : decode cX8_rankOf 6 = .ok (.bipush 8, 2) := by decide +kernel
theorem dX8_rankOf_8 : decode cX8_rankOf 8 = .ok (.iload_n 2, 1) := by decide +kernel
theorem dX8_rankOf_9 : decode cX8_rankOf 9 = .ok (.bipush (-4), 2) := by decide +kernel
theorem dX8_rankOf_11 : decode cX8_rankOf 11 = .ok (.if_icmp .ne 9, 3) := by decide +kernel
theorem dX8_rankOf_14 : decode cX8_rankOf 14 = .ok (.sipush 999, 3) := by decide +kernel
theorem dX8_rankOf_17 : decode cX8_rankOf 17 = .ok (.goto 4, 3) := by decide +kernel
theorem dX8_rankOf_20 : decode cX8_rankOf 20 = .ok (.iload_n 2, 1) := by decide +kernel
theorem dX8_rankOf_21 : decode cX8_rankOf 21 = .ok (.imul, 1) := by decide +kernel
theorem dX8_rankOf_22 : decode cX8_rankOf 22 = .ok (.iload_n 1, 1) := by decide +kernel
theorem dX8_rankOf_23 : decode cX8_rankOf 23 = .ok (.iadd, 1) := by decide +kernel
theorem dX8_rankOf_24 : decode cX8_rankOf 24 = .ok (.ireturn, 1) := by decide +kernel
theorem dX8_order_0 : decode cX8_order 0 = .ok (.iconst (-1), 1) := by decide +kernel
theorem dX8_order_1 : decode cX8_order 1 = .ok (.istore_n 2, 1) := by decide +kernel
theorem dX8_order_2 : decode cX8_order 2 = .ok (.iconst 0, 1) := by decide +kernel
theorem dX8_order_3 : decode cX8_order 3 = .ok (.istore_n 3, 1) := by decide +kernel
theorem dX8_order_4 : decode cX8_order 4 = .ok (.iload_n 3, 1) := by decide +kernel
theorem dX8_order_5 : decode cX8_order 5 = .ok (.aload_n 0, 1) := by decide +kernel
theorem dX8_order_6 : decode cX8_order 6 = .ok (.getfield 7, 3) := by decide +kernel
theorem dX8_order_9 : decode cX8_order 9 = .ok (.bipush 53, 2) := by decide +kernel
theorem dX8_order_11 : decode cX8_order 11 = .ok (.iaload, 1) := by decide +kernel
theorem dX8_order_12 : decode cX8_order 12 = .ok (.if_icmp .ge 72, 3) := by decide +kernel
theorem dX8_order_15 : decode cX8_order 15 = .ok (.iconst 0, 1) := by decide +kernel
theorem dX8_order_16 : decode cX8_order 16 = .ok (.istore 4, 2) := by decide +kernel
theorem dX8_order_18 : decode cX8_order 18 = .ok (.iconst 0, 1) := by decide +kernel
theorem dX8_order_19 : decode cX8_order 19 = .ok (.istore 5, 2) := by decide +kernel
theorem dX8_order_21 : decode cX8_order 21 = .ok (.iload 5, 2) := by decide +kernel
theorem dX8_order_23 : decode cX8_order 23 = .ok (.aload_n 0, 1) := by decide +kernel
theorem dX8_order_24 : decode cX8_order 24 = .ok (.getfield 7, 3) := by decide +kernel
theorem dX8_order_27 : decode cX8_order 27 = .ok (.bipush 53, 2) := by decide +kernel
theorem dX8_order_29 : decode cX8_order 29 = .ok (.iaload, 1) := by decide +kernel
theorem dX8_order_30 : decode cX8_order 30 = .ok (.if_icmp .ge 36, 3) := by decide +kernel
theorem dX8_order_33 : decode cX8_order 33 = .ok (.iload 4, 2) := by decide +kernel
theorem dX8_order_35 : decode cX8_order 35 = .ok (.aload_n 0, 1) := by decide +kernel
theorem dX8_order_36 : decode cX8_order 36 = .ok (.iload 5, 2) := by decide +kernel
theorem dX8_order_38 : decode cX8_order 38 = .ok (.invokevirtual 211, 3) := by decide +kernel
theorem dX8_order_41 : decode cX8_order 41 = .ok (.aload_n 0, 1) := by decide +kernel
theorem dX8_order_42 : decode cX8_order 42 = .ok (.iload_n 3, 1) := by decide +kernel
theorem dX8_order_43 : decode cX8_order 43 = .ok (.invokevirtual 211, 3) := by decide +kernel
theorem dX8_order_46 : decode cX8_order 46 = .ok (.if_icmp .ge 7, 3) := by decide +kernel
theorem dX8_order_49 : decode cX8_order 49 = .ok (.iconst 1, 1) := by decide +kernel
theorem dX8_order_50 : decode cX8_order 50 = .ok (.goto 4, 3) := by decide +kernel
theorem dX8_order_53 : decode cX8_order 53 = .ok (.iconst 0, 1) := by decide +kernel
theorem dX8_order_54 : decode cX8_order 54 = .ok (.invokestatic 63, 3) := by decide +kernel
theorem dX8_order_57 : decode cX8_order 57 = .ok (.iadd, 1) := by decide +kernel
theorem dX8_order_58 : decode cX8_order 58 = .ok (.istore 4, 2) := by decide +kernel
theorem dX8_order_60 : decode cX8_order 60 = .ok (.iinc 5 1, 3) := by decide +kernel
theorem dX8_order_63 : decode cX8_order 63 = .ok (.goto (-42), 3) := by decide +kernel
theorem dX8_order_66 : decode cX8_order 66 = .ok (.iload 4, 2) := by decide +kernel
theorem dX8_order_68 : decode cX8_order 68 = .ok (.iload_n 1, 1) := by decide +kernel
theorem dX8_order_69 : decode cX8_order 69 = .ok (.if_icmp .ne 7, 3) := by decide +kernel
theorem dX8_order_72 : decode cX8_order 72 = .ok (.iload_n 3, 1) := by decide +kernel
theorem dX8_order_73 : decode cX8_order 73 = .ok (.goto 4, 3) := by decide +kernel
theorem dX8_order_76 : decode cX8_order 76 = .ok (.iload_n 2, 1) := by decide +kernel
theorem dX8_order_77 : decode cX8_order 77 = .ok (.istore_n 2, 1) := by decide +kernel
theorem dX8_order_78 : decode cX8_order 78 = .ok (.iinc 3 1, 3) := by decide +kernel
theorem dX8_order_81 : decode cX8_order 81 = .ok (.goto (-77), 3) := by decide +kernel
theorem dX8_order_84 : decode cX8_order 84 = .ok (.iload_n 2, 1) := by decide +kernel
theorem dX8_order_85 : decode cX8_order 85 = .ok (.ireturn, 1) := by decide +kernel
theorem dX8_apart_0 : decode cX8_apart 0 = .ok (.bipush (-4), 2) := by decide +kernel
theorem dX8_apart_2 : decode cX8_apart 2 = .ok (.istore_n 1, 1) := by decide +kernel
theorem dX8_apart_3 : decode cX8_apart 3 = .ok (.iconst 0, 1) := by decide +kernel
theorem dX8_apart_4 : decode cX8_apart 4 = .ok (.istore_n 2, 1) := by decide +kernel
theorem dX8_apart_5 : decode cX8_apart 5 = .ok (.iload_n 2, 1) := by decide +kernel
theorem dX8_apart_6 : decode cX8_apart 6 = .ok (.aload_n 0, 1) := by decide +kernel
theorem dX8_apart_7 : decode cX8_apart 7 = .ok (.getfield 7, 3) := by decide +kernel
theorem dX8_apart_10 : decode cX8_apart 10 = .ok (.bipush 53, 2) := by decide +kernel
theorem dX8_apart_12 : decode cX8_apart 12 = .ok (.iaload, 1) := by decide +kernel
theorem dX8_apart_13 : decode cX8_apart 13 = .ok (.if_icmp .ge 79, 3) := by decide +kernel
theorem dX8_apart_16 : decode cX8_apart 16 = .ok (.iconst 0, 1) := by decide +kernel
theorem dX8_apart_17 : decode cX8_apart 17 = .ok (.istore_n 3, 1) := by decide +kernel
theorem dX8_apart_18 : decode cX8_apart 18 = .ok (.iload_n 3, 1) := by decide +kernel
theorem dX8_apart_19 : decode cX8_apart 19 = .ok (.iload_n 2, 1) := by decide +kernel
theorem dX8_apart_20 : decode cX8_apart 20 = .ok (.if_icmp .ge 66, 3) := by decide +kernel
theorem dX8_apart_23 : decode cX8_apart 23 = .ok (.aload_n 0, 1) := by decide +kernel
theorem dX8_apart_24 : decode cX8_apart 24 = .ok (.iload_n 2, 1) := by decide +kernel
theorem dX8_apart_25 : decode cX8_apart 25 = .ok (.invokevirtual 208, 3) := by decide +kernel
theorem dX8_apart_28 : decode cX8_apart 28 = .ok (.istore 4, 2) := by decide +kernel
theorem dX8_apart_30 : decode cX8_apart 30 = .ok (.aload_n 0, 1) := by decide +kernel
theorem dX8_apart_31 : decode cX8_apart 31 = .ok (.iload_n 3, 1) := by decide +kernel
theorem dX8_apart_32 : decode cX8_apart 32 = .ok (.invokevirtual 208, 3) := by decide +kernel
theorem dX8_apart_35 : decode cX8_apart 35 = .ok (.istore 5, 2) := by decide +kernel
theorem dX8_apart_37 : decode cX8_apart 37 = .ok (.iload 4, 2) := by decide +kernel
theorem dX8_apart_39 : decode cX8_apart 39 = .ok (.iload 5, 2) := by decide +kernel
theorem dX8_apart_41 : decode cX8_apart 41 = .ok (.isub, 1) := by decide +kernel
theorem dX8_apart_42 : decode cX8_apart 42 = .ok (.invokestatic 214, 3) := by decide +kernel
theorem dX8_apart_45 : decode cX8_apart 45 = .ok (.istore 6, 2) := by decide +kernel
theorem dX8_apart_47 : decode cX8_apart 47 = .ok (.iload 4, 2) := by decide +kernel
theorem dX8_apart_49 : decode cX8_apart 49 = .ok (.bipush (-4), 2) := by decide +kernel
theorem dX8_apart_51 : decode cX8_apart 51 = .ok (.if_icmp .eq 27, 3) := by decide +kernel
theorem dX8_apart_54 : decode cX8_apart 54 = .ok (.iload 5, 2) := by decide +kernel
theorem dX8_apart_56 : decode cX8_apart 56 = .ok (.bipush (-4), 2) := by decide +kernel
theorem dX8_apart_58 : decode cX8_apart 58 = .ok (.if_icmp .eq 20, 3) := by decide +kernel
theorem dX8_apart_61 : decode cX8_apart 61 = .ok (.iload_n 1, 1) := by decide +kernel
theorem dX8_apart_62 : decode cX8_apart 62 = .ok (.bipush (-4), 2) := by decide +kernel
theorem dX8_apart_64 : decode cX8_apart 64 = .ok (.if_icmp .eq 9, 3) := by decide +kernel
theorem dX8_apart_67 : decode cX8_apart 67 = .ok (.iload 6, 2) := by decide +kernel
theorem dX8_apart_69 : decode cX8_apart 69 = .ok (.iload_n 1, 1) := by decide +kernel
theorem dX8_apart_70 : decode cX8_apart 70 = .ok (.if_icmp .ge 8, 3) := by decide +kernel
theorem dX8_apart_73 : decode cX8_apart 73 = .ok (.iload 6, 2) := by decide +kernel
theorem dX8_apart_75 : decode cX8_apart 75 = .ok (.goto 4, 3) := by decide +kernel
theorem dX8_apart_78 : decode cX8_apart 78 = .ok (.iload_n 1, 1) := by decide +kernel
theorem dX8_apart_79 : decode cX8_apart 79 = .ok (.istore_n 1, 1) := by decide +kernel
theorem dX8_apart_80 : decode cX8_apart 80 = .ok (.iinc 3 1, 3) := by decide +kernel
theorem dX8_apart_83 : decode cX8_apart 83 = .ok (.goto (-65), 3) := by decide +kernel
theorem dX8_apart_86 : decode cX8_apart 86 = .ok (.iinc 2 1, 3) := by decide +kernel
theorem dX8_apart_89 : decode cX8_apart 89 = .ok (.goto (-84), 3) := by decide +kernel
theorem dX8_apart_92 : decode cX8_apart 92 = .ok (.iload_n 1, 1) := by decide +kernel
theorem dX8_apart_93 : decode cX8_apart 93 = .ok (.ireturn, 1) := by decide +kernel
theorem dX8_lifts_0 : decode cX8_lifts 0 = .ok (.aload_n 0, 1) := by decide +kernel
theorem dX8_lifts_1 : decode cX8_lifts 1 = .ok (.iload_n 1, 1) := by decide +kernel
theorem dX8_lifts_2 : decode cX8_lifts 2 = .ok (.invokevirtual 163, 3) := by decide +kernel
theorem dX8_lifts_5 : decode cX8_lifts 5 = .ok (.ifCond .ne 5, 3) := by decide +kernel
theorem dX8_lifts_8 : decode cX8_lifts 8 = .ok (.iconst (-1), 1) := by decide +kernel
theorem dX8_lifts_9 : decode cX8_lifts 9 = .ok (.ireturn, 1) := by decide +kernel
theorem dX8_lifts_10 : decode cX8_lifts 10 = .ok (.sipush 999, 3) := by decide +kernel
theorem dX8_lifts_13 : decode cX8_lifts 13 = .ok (.istore_n 2, 1) := by decide +kernel
theorem dX8_lifts_14 : decode cX8_lifts 14 = .ok (.iconst 0, 1) := by decide +kernel
theorem dX8_lifts_15 : decode cX8_lifts 15 = .ok (.istore_n 3, 1) := by decide +kernel
theorem dX8_lifts_16 : decode cX8_lifts 16 = .ok (.iload_n 3, 1) := by decide +kernel
theorem dX8_lifts_17 : decode cX8_lifts 17 = .ok (.aload_n 0, 1) := by decide +kernel
theorem dX8_lifts_18 : decode cX8_lifts 18 = .ok (.getfield 17, 3) := by decide +kernel
theorem dX8_lifts_21 : decode cX8_lifts 21 = .ok (.iconst 0, 1) := by decide +kernel
theorem dX8_lifts_22 : decode cX8_lifts 22 = .ok (.iaload, 1) := by decide +kernel
theorem dX8_lifts_23 : decode cX8_lifts 23 = .ok (.if_icmp .gt 51, 3) := by decide +kernel
theorem dX8_lifts_26 : decode cX8_lifts 26 = .ok (.iconst (-1), 1) := by decide +kernel
theorem dX8_lifts_27 : decode cX8_lifts 27 = .ok (.aload_n 0, 1) := by decide +kernel
theorem dX8_lifts_28 : decode cX8_lifts 28 = .ok (.aload_n 0, 1) := by decide +kernel
theorem dX8_lifts_29 : decode cX8_lifts 29 = .ok (.iload_n 1, 1) := by decide +kernel
theorem dX8_lifts_30 : decode cX8_lifts 30 = .ok (.iconst 0, 1) := by decide +kernel
theorem dX8_lifts_31 : decode cX8_lifts 31 = .ok (.invokevirtual 153, 3) := by decide +kernel
theorem dX8_lifts_34 : decode cX8_lifts 34 = .ok (.aload_n 0, 1) := by decide +kernel
theorem dX8_lifts_35 : decode cX8_lifts 35 = .ok (.iload_n 1, 1) := by decide +kernel
theorem dX8_lifts_36 : decode cX8_lifts 36 = .ok (.iconst 1, 1) := by decide +kernel
theorem dX8_lifts_37 : decode cX8_lifts 37 = .ok (.invokevirtual 153, 3) := by decide +kernel
theorem dX8_lifts_40 : decode cX8_lifts 40 = .ok (.aload_n 0, 1) := by decide +kernel
theorem dX8_lifts_41 : decode cX8_lifts 41 = .ok (.getfield 7, 3) := by decide +kernel
theorem dX8_lifts_44 : decode cX8_lifts 44 = .ok (.bipush 49, 2) := by decide +kernel
theorem dX8_lifts_46 : decode cX8_lifts 46 = .ok (.iaload, 1) := by decide +kernel
theorem dX8_lifts_47 : decode cX8_lifts 47 = .ok (.iconst 0, 1) := by decide +kernel
theorem dX8_lifts_48 : decode cX8_lifts 48 = .ok (.iload_n 3, 1) := by decide +kernel
theorem dX8_lifts_49 : decode cX8_lifts 49 = .ok (.invokevirtual 159, 3) := by decide +kernel
theorem dX8_lifts_52 : decode cX8_lifts 52 = .ok (.isub, 1) := by decide +kernel
theorem dX8_lifts_53 : decode cX8_lifts 53 = .ok (.istore 4, 2) := by decide +kernel
theorem dX8_lifts_55 : decode cX8_lifts 55 = .ok (.iload 4, 2) := by decide +kernel
theorem dX8_lifts_57 : decode cX8_lifts 57 = .ok (.iload_n 2, 1) := by decide +kernel
theorem dX8_lifts_58 : decode cX8_lifts 58 = .ok (.if_icmp .ge 8, 3) := by decide +kernel
theorem dX8_lifts_61 : decode cX8_lifts 61 = .ok (.iload 4, 2) := by decide +kernel
theorem dX8_lifts_63 : decode cX8_lifts 63 = .ok (.goto 4, 3) := by decide +kernel
theorem dX8_lifts_66 : decode cX8_lifts 66 = .ok (.iload_n 2, 1) := by decide +kernel
theorem dX8_lifts_67 : decode cX8_lifts 67 = .ok (.istore_n 2, 1) := by decide +kernel
theorem dX8_lifts_68 : decode cX8_lifts 68 = .ok (.iinc 3 1, 3) := by decide +kernel
theorem dX8_lifts_71 : decode cX8_lifts 71 = .ok (.goto (-55), 3) := by decide +kernel
theorem dX8_lifts_74 : decode cX8_lifts 74 = .ok (.iload_n 2, 1) := by decide +kernel
theorem dX8_lifts_75 : decode cX8_lifts 75 = .ok (.ifCond .ge 8, 3) := by decide +kernel
theorem dX8_lifts_78 : decode cX8_lifts 78 = .ok (.bipush (-4), 2) := by decide +kernel
theorem dX8_lifts_80 : decode cX8_lifts 80 = .ok (.goto 4, 3) := by decide +kernel
theorem dX8_lifts_83 : decode cX8_lifts 83 = .ok (.iload_n 2, 1) := by decide +kernel
theorem dX8_lifts_84 : decode cX8_lifts 84 = .ok (.ireturn, 1) := by decide +kernel
theorem dX8_noBubbles_0 : decode cX8_noBubbles 0 = .ok (.aload_n 0, 1) := by decide +kernel
theorem dX8_noBubbles_1 : decode cX8_noBubbles 1 = .ok (.iconst 0, 1) := by decide +kernel
theorem dX8_noBubbles_2 : decode cX8_noBubbles 2 = .ok (.putfield 217, 3) := by decide +kernel
theorem dX8_noBubbles_5 : decode cX8_noBubbles 5 = .ok (.aload_n 0, 1) := by decide +kernel
theorem dX8_noBubbles_6 : decode cX8_noBubbles 6 = .ok (.bipush (-4), 2) := by decide +kernel

theorem dX7_holding_59 : decode cX7_holding 59 = .ok (.aaload, 1) := by decide +kernel
theorem dX7_holding_60 : decode cX7_holding 60 = .ok (.iload 4, 2) := by decide +kernel
theorem dX7_holding_62 : decode cX7_holding 62 = .ok (.iload_n 2, 1) := by decide +kernel
theorem dX7_holding_63 : decode cX7_holding 63 = .ok (.invokevirtual 160, 3) := by decide +kernel
theorem dX7_holding_66 : decode cX7_holding 66 = .ok (.istore 5, 2) := by decide +kernel
theorem dX7_holding_68 : decode cX7_holding 68 = .ok (.iload 5, 2) := by decide +kernel
theorem dX7_holding_70 : decode cX7_holding 70 = .ok (.ifCond .gt 10, 3) := by decide +kernel
theorem dX7_holding_73 : decode cX7_holding 73 = .ok (.iload_n 3, 1) := by decide +kernel
theorem dX7_holding_74 : decode cX7_holding 74 = .ok (.ifCond .le 6, 3) := by decide +kernel
theorem dX7_holding_77 : decode cX7_holding 77 = .ok (.iload 4, 2) := by decide +kernel
theorem dX7_holding_79 : decode cX7_holding 79 = .ok (.ireturn, 1) := by decide +kernel
theorem dX7_holding_80 : decode cX7_holding 80 = .ok (.iload 5, 2) := by decide +kernel
theorem dX7_holding_82 : decode cX7_holding 82 = .ok (.istore_n 3, 1) := by decide +kernel
theorem dX7_holding_83 : decode cX7_holding 83 = .ok (.iinc 4 1, 3) := by decide +kernel
theorem dX7_holding_86 : decode cX7_holding 86 = .ok (.goto (-50), 3) := by decide +kernel
theorem dX7_holding_89 : decode cX7_holding 89 = .ok (.bipush (-4), 2) := by decide +kernel
theorem dX7_holding_91 : decode cX7_holding 91 = .ok (.ireturn, 1) := by decide +kernel
theorem dX7_back_0 : decode cX7_back 0 = .ok (.aload_n 0, 1) := by decide +kernel
theorem dX7_back_1 : decode cX7_back 1 = .ok (.iload_n 1, 1) := by decide +kernel
theorem dX7_back_2 : decode cX7_back 2 = .ok (.invokevirtual 116, 3) := by decide +kernel
theorem dX7_back_5 : decode cX7_back 5 = .ok (.ifCond .ne 5, 3) := by decide +kernel
theorem dX7_back_8 : decode cX7_back 8 = .ok (.iconst (-1), 1) := by decide +kernel
theorem dX7_back_9 : decode cX7_back 9 = .ok (.ireturn, 1) := by decide +kernel
theorem dX7_back_10 : decode cX7_back 10 = .ok (.bipush (-4), 2) := by decide +kernel
theorem dX7_back_12 : decode cX7_back 12 = .ok (.istore_n 2, 1) := by decide +kernel
theorem dX7_back_13 : decode cX7_back 13 = .ok (.iconst 0, 1) := by decide +kernel
theorem dX7_back_14 : decode cX7_back 14 = .ok (.istore_n 3, 1) := by decide +kernel
theorem dX7_back_15 : decode cX7_back 15 = .ok (.iload_n 3, 1) := by decide +kernel
theorem dX7_back_16 : decode cX7_back 16 = .ok (.aload_n 0, 1) := by decide +kernel
theorem dX7_back_17 : decode cX7_back 17 = .ok (.getfield 19, 3) := by decide +kernel
theorem dX7_back_20 : decode cX7_back 20 = .ok (.getfield 62, 3) := by decide +kernel
theorem dX7_back_23 : decode cX7_back 23 = .ok (.iconst 0, 1) := by decide +kernel
theorem dX7_back_24 : decode cX7_back 24 = .ok (.iaload, 1) := by decide +kernel
theorem dX7_back_25 : decode cX7_back 25 = .ok (.if_icmp .gt 31, 3) := by decide +kernel
theorem dX7_back_28 : decode cX7_back 28 = .ok (.aload_n 0, 1) := by decide +kernel
theorem dX7_back_29 : decode cX7_back 29 = .ok (.aload_n 0, 1) := by decide +kernel
theorem dX7_back_30 : decode cX7_back 30 = .ok (.getfield 26, 3) := by decide +kernel
theorem dX7_back_33 : decode cX7_back 33 = .ok (.getfield 121, 3) := by decide +kernel
theorem dX7_back_36 : decode cX7_back 36 = .ok (.iload_n 1, 1) := by decide +kernel
theorem dX7_back_37 : decode cX7_back 37 = .ok (.aaload, 1) := by decide +kernel
theorem dX7_back_38 : decode cX7_back 38 = .ok (.iload_n 3, 1) := by decide +kernel
theorem dX7_back_39 : decode cX7_back 39 = .ok (.iconst 0, 1) := by decide +kernel
theorem dX7_back_40 : decode cX7_back 40 = .ok (.invokevirtual 160, 3) := by decide +kernel
theorem dX7_back_43 : decode cX7_back 43 = .ok (.ifCond .lt 5, 3) := by decide +kernel
theorem dX7_back_46 : decode cX7_back 46 = .ok (.iload_n 2, 1) := by decide +kernel
theorem dX7_back_47 : decode cX7_back 47 = .ok (.ireturn, 1) := by decide +kernel
theorem dX7_back_48 : decode cX7_back 48 = .ok (.iload_n 3, 1) := by decide +kernel
theorem dX7_back_49 : decode cX7_back 49 = .ok (.istore_n 2, 1) := by decide +kernel
theorem dX7_back_50 : decode cX7_back 50 = .ok (.iinc 3 1, 3) := by decide +kernel
theorem dX7_back_53 : decode cX7_back 53 = .ok (.goto (-38), 3) := by decide +kernel
theorem dX7_back_56 : decode cX7_back 56 = .ok (.iload_n 2, 1) := by decide +kernel
theorem dX7_back_57 : decode cX7_back 57 = .ok (.ireturn, 1) := by decide +kernel
theorem dX7_goesAt_0 : decode cX7_goesAt 0 = .ok (.aload_n 0, 1) := by decide +kernel
theorem dX7_goesAt_1 : decode cX7_goesAt 1 = .ok (.iload_n 1, 1) := by decide +kernel
theorem dX7_goesAt_2 : decode cX7_goesAt 2 = .ok (.invokevirtual 116, 3) := by decide +kernel
theorem dX7_goesAt_5 : decode cX7_goesAt 5 = .ok (.ifCond .eq 11, 3) := by decide +kernel
theorem dX7_goesAt_8 : decode cX7_goesAt 8 = .ok (.aload_n 0, 1) := by decide +kernel
theorem dX7_goesAt_9 : decode cX7_goesAt 9 = .ok (.iload_n 1, 1) := by decide +kernel
theorem dX7_goesAt_10 : decode cX7_goesAt 10 = .ok (.invokevirtual 201, 3) := by decide +kernel
theorem dX7_goesAt_13 : decode cX7_goesAt 13 = .ok (.goto 4, 3) := by decide +kernel
theorem dX7_goesAt_16 : decode cX7_goesAt 16 = .ok (.iconst (-1), 1) := by decide +kernel
theorem dX7_goesAt_17 : decode cX7_goesAt 17 = .ok (.ireturn, 1) := by decide +kernel
theorem dX7_order_0 : decode cX7_order 0 = .ok (.iconst 0, 1) := by decide +kernel
theorem dX7_order_1 : decode cX7_order 1 = .ok (.istore_n 2, 1) := by decide +kernel
theorem dX7_order_2 : decode cX7_order 2 = .ok (.iload_n 2, 1) := by decide +kernel
theorem dX7_order_3 : decode cX7_order 3 = .ok (.aload_n 0, 1) := by decide +kernel
theorem dX7_order_4 : decode cX7_order 4 = .ok (.getfield 26, 3) := by decide +kernel
theorem dX7_order_7 : decode cX7_order 7 = .ok (.getfield 173, 3) := by decide +kernel
theorem dX7_order_10 : decode cX7_order 10 = .ok (.if_icmp .ge 20, 3) := by decide +kernel
theorem dX7_order_13 : decode cX7_order 13 = .ok (.aload_n 0, 1) := by decide +kernel
theorem dX7_order_14 : decode cX7_order 14 = .ok (.iload_n 2, 1) := by decide +kernel
theorem dX7_order_15 : decode cX7_order 15 = .ok (.invokevirtual 204, 3) := by decide +kernel
theorem dX7_order_18 : decode cX7_order 18 = .ok (.iload_n 1, 1) := by decide +kernel
theorem dX7_order_19 : decode cX7_order 19 = .ok (.if_icmp .ne 5, 3) := by decide +kernel
theorem dX7_order_22 : decode cX7_order 22 = .ok (.iload_n 2, 1) := by decide +kernel
theorem dX7_order_23 : decode cX7_order 23 = .ok (.ireturn, 1) := by decide +kernel
theorem dX7_order_24 : decode cX7_order 24 = .ok (.iinc 2 1, 3) := by decide +kernel
theorem dX7_order_27 : decode cX7_order 27 = .ok (.goto (-25), 3) := by decide +kernel
theorem dX7_order_30 : decode cX7_order 30 = .ok (.iconst (-1), 1) := by decide +kernel
theorem dX7_order_31 : decode cX7_order 31 = .ok (.ireturn, 1) := by decide +kernel
theorem dX7_apart_0 : decode cX7_apart 0 = .ok (.bipush (-4), 2) := by decide +kernel
theorem dX7_apart_2 : decode cX7_apart 2 = .ok (.istore_n 1, 1) := by decide +kernel
theorem dX7_apart_3 : decode cX7_apart 3 = .ok (.iconst 1, 1) := by decide +kernel
theorem dX7_apart_4 : decode cX7_apart 4 = .ok (.istore_n 2, 1) := by decide +kernel
theorem dX7_apart_5 : decode cX7_apart 5 = .ok (.iload_n 2, 1) := by decide +kernel
theorem dX7_apart_6 : decode cX7_apart 6 = .ok (.aload_n 0, 1) := by decide +kernel
theorem dX7_apart_7 : decode cX7_apart 7 = .ok (.getfield 26, 3) := by decide +kernel
theorem dX7_apart_10 : decode cX7_apart 10 = .ok (.getfield 173, 3) := by decide +kernel
theorem dX7_apart_13 : decode cX7_apart 13 = .ok (.if_icmp .ge 76, 3) := by decide +kernel
theorem dX7_apart_16 : decode cX7_apart 16 = .ok (.iconst 0, 1) := by decide +kernel
theorem dX7_apart_17 : decode cX7_apart 17 = .ok (.istore_n 3, 1) := by decide +kernel
theorem dX7_apart_18 : decode cX7_apart 18 = .ok (.iload_n 3, 1) := by decide +kernel
theorem dX7_apart_19 : decode cX7_apart 19 = .ok (.iload_n 2, 1) := by decide +kernel
theorem dX7_apart_20 : decode cX7_apart 20 = .ok (.if_icmp .ge 63, 3) := by decide +kernel
theorem dX7_apart_23 : decode cX7_apart 23 = .ok (.aload_n 0, 1) := by decide +kernel
theorem dX7_apart_24 : decode cX7_apart 24 = .ok (.iload_n 2, 1) := by decide +kernel
theorem dX7_apart_25 : decode cX7_apart 25 = .ok (.invokevirtual 201, 3) := by decide +kernel
theorem dX7_apart_28 : decode cX7_apart 28 = .ok (.bipush (-4), 2) := by decide +kernel
theorem dX7_apart_30 : decode cX7_apart 30 = .ok (.if_icmp .eq 47, 3) := by decide +kernel
theorem dX7_apart_33 : decode cX7_apart 33 = .ok (.aload_n 0, 1) := by decide +kernel
theorem dX7_apart_34 : decode cX7_apart 34 = .ok (.iload_n 3, 1) := by decide +kernel
theorem dX7_apart_35 : decode cX7_apart 35 = .ok (.invokevirtual 201, 3) := by decide +kernel
theorem dX7_apart_38 : decode cX7_apart 38 = .ok (.bipush (-4), 2) := by decide +kernel
theorem dX7_apart_40 : decode cX7_apart 40 = .ok (.if_icmp .ne 6, 3) := by decide +kernel
theorem dX7_apart_43 : decode cX7_apart 43 = .ok (.goto 34, 3) := by decide +kernel
theorem dX7_apart_46 : decode cX7_apart 46 = .ok (.aload_n 0, 1) := by decide +kernel
theorem dX7_apart_47 : decode cX7_apart 47 = .ok (.iload_n 2, 1) := by decide +kernel
theorem dX7_apart_48 : decode cX7_apart 48 = .ok (.invokevirtual 201, 3) := by decide +kernel
theorem dX7_apart_51 : decode cX7_apart 51 = .ok (.aload_n 0, 1) := by decide +kernel
theorem dX7_apart_52 : decode cX7_apart 52 = .ok (.iload_n 3, 1) := by decide +kernel
theorem dX7_apart_53 : decode cX7_apart 53 = .ok (.invokevirtual 201, 3) := by decide +kernel
theorem dX7_apart_56 : decode cX7_apart 56 = .ok (.isub, 1) := by decide +kernel
theorem dX7_apart_57 : decode cX7_apart 57 = .ok (.invokestatic 207, 3) := by decide +kernel
theorem dX7_apart_60 : decode cX7_apart 60 = .ok (.istore 4, 2) := by decide +kernel
theorem dX7_apart_62 : decode cX7_apart 62 = .ok (.iload_n 1, 1) := by decide +kernel
theorem dX7_apart_63 : decode cX7_apart 63 = .ok (.bipush (-4), 2) := by decide +kernel
theorem dX7_apart_65 : decode cX7_apart 65 = .ok (.if_icmp .eq 9, 3) := by decide +kernel
theorem dX7_apart_68 : decode cX7_apart 68 = .ok (.iload 4, 2) := by decide +kernel
theorem dX7_apart_70 : decode cX7_apart 70 = .ok (.iload_n 1, 1) := by decide +kernel
theorem dX7_apart_71 : decode cX7_apart 71 = .ok (.if_icmp .ge 6, 3) := by decide +kernel
theorem dX7_apart_74 : decode cX7_apart 74 = .ok (.iload 4, 2) := by decide +kernel
theorem dX7_apart_76 : decode cX7_apart 76 = .ok (.istore_n 1, 1) := by decide +kernel
theorem dX7_apart_77 : decode cX7_apart 77 = .ok (.iinc 3 1, 3) := by decide +kernel
theorem dX7_apart_80 : decode cX7_apart 80 = .ok (.goto (-62), 3) := by decide +kernel
theorem dX7_apart_83 : decode cX7_apart 83 = .ok (.iinc 2 1, 3) := by decide +kernel
theorem dX7_apart_86 : decode cX7_apart 86 = .ok (.goto (-81), 3) := by decide +kernel
theorem dX7_apart_89 : decode cX7_apart 89 = .ok (.iload_n 1, 1) := by decide +kernel
theorem dX7_apart_90 : decode cX7_apart 90 = .ok (.ireturn, 1) := by decide +kernel
theorem dX7_lifts_0 : decode cX7_lifts 0 = .ok (.aload_n 0, 1) := by decide +kernel
theorem dX7_lifts_1 : decode cX7_lifts 1 = .ok (.iload_n 1, 1) := by decide +kernel
theorem dX7_lifts_2 : decode cX7_lifts 2 = .ok (.invokevirtual 116, 3) := by decide +kernel
theorem dX7_lifts_5 : decode cX7_lifts 5 = .ok (.ifCond .ne 5, 3) := by decide +kernel
theorem dX7_lifts_8 : decode cX7_lifts 8 = .ok (.iconst (-1), 1) := by decide +kernel
theorem dX7_lifts_9 : decode cX7_lifts 9 = .ok (.ireturn, 1) := by decide +kernel
theorem dX7_lifts_10 : decode cX7_lifts 10 = .ok (.aload_n 0, 1) := by decide +kernel
theorem dX7_lifts_11 : decode cX7_lifts 11 = .ok (.getfield 26, 3) := by decide +kernel
theorem dX7_lifts_14 : decode cX7_lifts 14 = .ok (.getfield 121, 3) := by decide +kernel
theorem dX7_lifts_17 : decode cX7_lifts 17 = .ok (.iload_n 1, 1) := by decide +kernel
theorem dX7_lifts_18 : decode cX7_lifts 18 = .ok (.aaload, 1) := by decide +kernel
theorem dX7_lifts_19 : decode cX7_lifts 19 = .ok (.astore_n 2, 1) := by decide +kernel
theorem dX7_lifts_20 : decode cX7_lifts 20 = .ok (.sipush 999, 3) := by decide +kernel
theorem dX7_lifts_23 : decode cX7_lifts 23 = .ok (.istore_n 3, 1) := by decide +kernel
theorem dX7_lifts_24 : decode cX7_lifts 24 = .ok (.iconst 0, 1) := by decide +kernel
theorem dX7_lifts_25 : decode cX7_lifts 25 = .ok (.istore 4, 2) := by decide +kernel
theorem dX7_lifts_27 : decode cX7_lifts 27 = .ok (.iload 4, 2) := by decide +kernel
theorem dX7_lifts_29 : decode cX7_lifts 29 = .ok (.aload_n 0, 1) := by decide +kernel
theorem dX7_lifts_30 : decode cX7_lifts 30 = .ok (.getfield 19, 3) := by decide +kernel
theorem dX7_lifts_33 : decode cX7_lifts 33 = .ok (.getfield 62, 3) := by decide +kernel
theorem dX7_lifts_36 : decode cX7_lifts 36 = .ok (.iconst 0, 1) := by decide +kernel
theorem dX7_lifts_37 : decode cX7_lifts 37 = .ok (.iaload, 1) := by decide +kernel
theorem dX7_lifts_38 : decode cX7_lifts 38 = .ok (.if_icmp .gt 46, 3) := by decide +kernel
theorem dX7_lifts_41 : decode cX7_lifts 41 = .ok (.aload_n 0, 1) := by decide +kernel
theorem dX7_lifts_42 : decode cX7_lifts 42 = .ok (.getfield 19, 3) := by decide +kernel
theorem dX7_lifts_45 : decode cX7_lifts 45 = .ok (.aload_n 2, 1) := by decide +kernel
theorem dX7_lifts_46 : decode cX7_lifts 46 = .ok (.getfield 122, 3) := by decide +kernel
theorem dX7_lifts_49 : decode cX7_lifts 49 = .ok (.aload_n 2, 1) := by decide +kernel
theorem dX7_lifts_50 : decode cX7_lifts 50 = .ok (.getfield 127, 3) := by decide +kernel
theorem dX7_lifts_53 : decode cX7_lifts 53 = .ok (.aload_n 0, 1) := by decide +kernel
theorem dX7_lifts_54 : decode cX7_lifts 54 = .ok (.getfield 26, 3) := by decide +kernel
theorem dX7_lifts_57 : decode cX7_lifts 57 = .ok (.getfield 66, 3) := by decide +kernel
theorem dX7_lifts_60 : decode cX7_lifts 60 = .ok (.iload 4, 2) := by decide +kernel
theorem dX7_lifts_62 : decode cX7_lifts 62 = .ok (.iconst 0, 1) := by decide +kernel
theorem dX7_lifts_63 : decode cX7_lifts 63 = .ok (.invokevirtual 212, 3) := by decide +kernel
theorem dX7_lifts_66 : decode cX7_lifts 66 = .ok (.istore 5, 2) := by decide +kernel
theorem dX7_lifts_68 : decode cX7_lifts 68 = .ok (.iload_n 3, 1) := by decide +kernel
theorem dX7_lifts_69 : decode cX7_lifts 69 = .ok (.iload 5, 2) := by decide +kernel
theorem dX7_lifts_71 : decode cX7_lifts 71 = .ok (.ineg, 1) := by decide +kernel
theorem dX7_lifts_72 : decode cX7_lifts 72 = .ok (.iconst 1, 1) := by decide +kernel
theorem dX7_lifts_73 : decode cX7_lifts 73 = .ok (.isub, 1) := by decide +kernel
theorem dX7_lifts_74 : decode cX7_lifts 74 = .ok (.invokestatic 216, 3) := by decide +kernel
theorem dX7_lifts_77 : decode cX7_lifts 77 = .ok (.istore_n 3, 1) := by decide +kernel
theorem dX7_lifts_78 : decode cX7_lifts 78 = .ok (.iinc 4 1, 3) := by decide +kernel
theorem dX7_lifts_81 : decode cX7_lifts 81 = .ok (.goto (-54), 3) := by decide +kernel
theorem dX7_lifts_84 : decode cX7_lifts 84 = .ok (.iload_n 3, 1) := by decide +kernel
theorem dX7_lifts_85 : decode cX7_lifts 85 = .ok (.ifCond .ge 8, 3) := by decide +kernel
theorem dX7_lifts_88 : decode cX7_lifts 88 = .ok (.bipush (-4), 2) := by decide +kernel
theorem dX7_lifts_90 : decode cX7_lifts 90 = .ok (.goto 4, 3) := by decide +kernel
theorem dX7_lifts_93 : decode cX7_lifts 93 = .ok (.iload_n 3, 1) := by decide +kernel
theorem dX7_lifts_94 : decode cX7_lifts 94 = .ok (.ireturn, 1) := by decide +kernel
theorem dX7_bubbles_0 : decode cX7_bubbles 0 = .ok (.iload_n 1, 1) := by decide +kernel
theorem dX7_bubbles_1 : decode cX7_bubbles 1 = .ok (.invokestatic 219, 3) := by decide +kernel
theorem dX7_bubbles_4 : decode cX7_bubbles 4 = .ok (.ifCond .eq 19, 3) := by decide +kernel
theorem dX7_bubbles_7 : decode cX7_bubbles 7 = .ok (.iload_n 2, 1) := by decide +kernel
theorem dX7_bubbles_8 : decode cX7_bubbles 8 = .ok (.invokestatic 164, 3) := by decide +kernel
theorem dX7_bubbles_11 : decode cX7_bubbles 11 = .ok (.ifCond .eq 12, 3) := by decide +kernel
theorem dX7_bubbles_14 : decode cX7_bubbles 14 = .ok (.iload_n 3, 1) := by decide +kernel
theorem dX7_bubbles_15 : decode cX7_bubbles 15 = .ok (.iconst 0, 1) := by decide +kernel
theorem dX7_bubbles_16 : decode cX7_bubbles 16 = .ok (.iconst 2, 1) := by decide +kernel
theorem dX7_bubbles_17 : decode cX7_bubbles 17 = .ok (.invokestatic 77, 3) := by decide +kernel
theorem dX7_bubbles_20 : decode cX7_bubbles 20 = .ok (.ifCond .ne 5, 3) := by decide +kernel
theorem dX7_bubbles_23 : decode cX7_bubbles 23 = .ok (.iconst (-1), 1) := by decide +kernel
theorem dX7_bubbles_24 : decode cX7_bubbles 24 = .ok (.ireturn, 1) := by decide +kernel
theorem dX7_bubbles_25 : decode cX7_bubbles 25 = .ok (.aload_n 0, 1) := by decide +kernel
theorem dX7_bubbles_26 : decode cX7_bubbles 26 = .ok (.iload_n 1, 1) := by decide +kernel
theorem dX7_bubbles_27 : decode cX7_bubbles 27 = .ok (.invokevirtual 222, 3) := by decide +kernel
theorem dX7_bubbles_30 : decode cX7_bubbles 30 = .ok (.aload_n 0, 1) := by decide +kernel
theorem dX7_bubbles_31 : decode cX7_bubbles 31 = .ok (.iload_n 1, 1) := by decide +kernel
theorem dX7_bubbles_32 : decode cX7_bubbles 32 = .ok (.iconst 0, 1) := by decide +kernel
theorem dX7_bubbles_33 : decode cX7_bubbles 33 = .ok (.iload_n 2, 1) := by decide +kernel
theorem dX7_bubbles_34 : decode cX7_bubbles 34 = .ok (.invokevirtual 225, 3) := by decide +kernel
theorem dX7_bubbles_37 : decode cX7_bubbles 37 = .ok (.iconst 1, 1) := by decide +kernel
theorem dX7_bubbles_38 : decode cX7_bubbles 38 = .ok (.isub, 1) := by decide +kernel
theorem dX7_bubbles_39 : decode cX7_bubbles 39 = .ok (.iload_n 3, 1) := by decide +kernel
theorem dX7_bubbles_40 : decode cX7_bubbles 40 = .ok (.invokestatic 229, 3) := by decide +kernel
theorem dX7_bubbles_43 : decode cX7_bubbles 43 = .ok (.ireturn, 1) := by decide +kernel
theorem dX7_atThumb_0 : decode cX7_atThumb 0 = .ok (.iload_n 1, 1) := by decide +kernel
theorem dX7_atThumb_1 : decode cX7_atThumb 1 = .ok (.invokestatic 219, 3) := by decide +kernel
theorem dX7_atThumb_4 : decode cX7_atThumb 4 = .ok (.ifCond .eq 19, 3) := by decide +kernel
theorem dX7_atThumb_7 : decode cX7_atThumb 7 = .ok (.iload_n 2, 1) := by decide +kernel
theorem dX7_atThumb_8 : decode cX7_atThumb 8 = .ok (.invokestatic 164, 3) := by decide +kernel
theorem dX7_atThumb_11 : decode cX7_atThumb 11 = .ok (.ifCond .eq 12, 3) := by decide +kernel
theorem dX7_atThumb_14 : decode cX7_atThumb 14 = .ok (.iload_n 3, 1) := by decide +kernel
theorem dX7_atThumb_15 : decode cX7_atThumb 15 = .ok (.iconst 0, 1) := by decide +kernel
theorem dX7_atThumb_16 : decode cX7_atThumb 16 = .ok (.iconst 2, 1) := by decide +kernel
theorem dX7_atThumb_17 : decode cX7_atThumb 17 = .ok (.invokestatic 77, 3) := by decide +kernel
theorem dX7_atThumb_20 : decode cX7_atThumb 20 = .ok (.ifCond .ne 5, 3) := by decide +kernel
theorem dX7_atThumb_23 : decode cX7_atThumb 23 = .ok (.iconst (-1), 1) := by decide +kernel
theorem dX7_atThumb_24 : decode cX7_atThumb 24 = .ok (.ireturn, 1) := by decide +kernel
theorem dX7_atThumb_25 : decode cX7_atThumb 25 = .ok (.aload_n 0, 1) := by decide +kernel
theorem dX7_atThumb_26 : decode cX7_atThumb 26 = .ok (.iload_n 1, 1) := by decide +kernel
theorem dX7_atThumb_27 : decode cX7_atThumb 27 = .ok (.iload_n 2, 1) := by decide +kernel
theorem dX7_atThumb_28 : decode cX7_atThumb 28 = .ok (.invokevirtual 232, 3) := by decide +kernel
theorem dX7_atThumb_31 : decode cX7_atThumb 31 = .ok (.aload_n 0, 1) := by decide +kernel
theorem dX7_atThumb_32 : decode cX7_atThumb 32 = .ok (.iload_n 1, 1) := by decide +kernel
theorem dX7_atThumb_33 : decode cX7_atThumb 33 = .ok (.iload_n 2, 1) := by decide +kernel
theorem dX7_atThumb_34 : decode cX7_atThumb 34 = .ok (.invokevirtual 235, 3) := by decide +kernel
theorem dX7_atThumb_37 : decode cX7_atThumb 37 = .ok (.iload_n 3, 1) := by decide +kernel
theorem dX7_atThumb_38 : decode cX7_atThumb 38 = .ok (.invokestatic 229, 3) := by decide +kernel
theorem dX7_atThumb_41 : decode cX7_atThumb 41 = .ok (.ireturn, 1) := by decide +kernel
theorem dX7_spread_0 : decode cX7_spread 0 = .ok (.iload_n 1, 1) := by decide +kernel
theorem dX7_spread_1 : decode cX7_spread 1 = .ok (.invokestatic 219, 3) := by decide +kernel
theorem dX7_spread_4 : decode cX7_spread 4 = .ok (.ifCond .eq 22, 3) := by decide +kernel
theorem dX7_spread_7 : decode cX7_spread 7 = .ok (.iload_n 2, 1) := by decide +kernel
theorem dX7_spread_8 : decode cX7_spread 8 = .ok (.iconst 2, 1) := by decide +kernel
theorem dX7_spread_9 : decode cX7_spread 9 = .ok (.bipush 6, 2) := by decide +kernel
theorem dX7_spread_11 : decode cX7_spread 11 = .ok (.invokestatic 77, 3) := by decide +kernel
theorem dX7_spread_14 : decode cX7_spread 14 = .ok (.ifCond .eq 12, 3) := by decide +kernel
theorem dX7_spread_17 : decode cX7_spread 17 = .ok (.iload_n 3, 1) := by decide +kernel
theorem dX7_spread_18 : decode cX7_spread 18 = .ok (.iconst 0, 1) := by decide +kernel
theorem dX7_spread_19 : decode cX7_spread 19 = .ok (.iconst 1, 1) := by decide +kernel
theorem dX7_spread_20 : decode cX7_spread 20 = .ok (.invokestatic 77, 3) := by decide +kernel
theorem dX7_spread_23 : decode cX7_spread 23 = .ok (.ifCond .ne 5, 3) := by decide +kernel
theorem dX7_spread_26 : decode cX7_spread 26 = .ok (.iconst (-1), 1) := by decide +kernel
theorem dX7_spread_27 : decode cX7_spread 27 = .ok (.ireturn, 1) := by decide +kernel
theorem dX7_spread_28 : decode cX7_spread 28 = .ok (.aload_n 0, 1) := by decide +kernel
theorem dX7_spread_29 : decode cX7_spread 29 = .ok (.iload_n 1, 1) := by decide +kernel
theorem dX7_spread_30 : decode cX7_spread 30 = .ok (.invokevirtual 238, 3) := by decide +kernel
theorem dX7_spread_33 : decode cX7_spread 33 = .ok (.aload_n 0, 1) := by decide +kernel
theorem dX7_spread_34 : decode cX7_spread 34 = .ok (.iconst 1, 1) := by decide +kernel
theorem dX7_spread_35 : decode cX7_spread 35 = .ok (.invokevirtual 242, 3) := by decide +kernel
theorem dX7_spread_38 : decode cX7_spread 38 = .ok (.iload_n 2, 1) := by decide +kernel
theorem dX7_spread_39 : decode cX7_spread 39 = .ok (.if_icmp .ge 6, 3) := by decide +kernel
theorem dX7_spread_42 : decode cX7_spread 42 = .ok (.bipush (-4), 2) := by decide +kernel
theorem dX7_spread_44 : decode cX7_spread 44 = .ok (.ireturn, 1) := by decide +kernel
theorem dX7_spread_45 : decode cX7_spread 45 = .ok (.iload_n 3, 1) := by decide +kernel
theorem dX7_spread_46 : decode cX7_spread 46 = .ok (.iconst 1, 1) := by decide +kernel
theorem dX7_spread_47 : decode cX7_spread 47 = .ok (.if_icmp .ne 10, 3) := by decide +kernel
theorem dX7_spread_50 : decode cX7_spread 50 = .ok (.aload_n 0, 1) := by decide +kernel
theorem dX7_spread_51 : decode cX7_spread 51 = .ok (.invokevirtual 245, 3) := by decide +kernel
theorem dX7_spread_54 : decode cX7_spread 54 = .ok (.goto 8, 3) := by decide +kernel
theorem dX7_spread_57 : decode cX7_spread 57 = .ok (.aload_n 0, 1) := by decide +kernel
theorem dX7_spread_58 : decode cX7_spread 58 = .ok (.iload_n 2, 1) := by decide +kernel
theorem dX7_spread_59 : decode cX7_spread 59 = .ok (.invokevirtual 248, 3) := by decide +kernel
theorem dX7_spread_62 : decode cX7_spread 62 = .ok (.ireturn, 1) := by decide +kernel
theorem dX7_hold_0 : decode cX7_hold 0 = .ok (.aload_n 0, 1) := by decide +kernel
theorem dX7_hold_1 : decode cX7_hold 1 = .ok (.iload_n 1, 1) := by decide +kernel
theorem dX7_hold_2 : decode cX7_hold 2 = .ok (.iload_n 2, 1) := by decide +kernel
theorem dX7_hold_3 : decode cX7_hold 3 = .ok (.iload_n 3, 1) := by decide +kernel
theorem dX7_hold_4 : decode cX7_hold 4 = .ok (.iload 6, 2) := by decide +kernel
theorem dX7_hold_6 : decode cX7_hold 6 = .ok (.invokevirtual 251, 3) := by decide +kernel
theorem dX7_hold_9 : decode cX7_hold 9 = .ok (.ifCond .eq 29, 3) := by decide +kernel
theorem dX7_hold_12 : decode cX7_hold 12 = .ok (.iload 4, 2) := by decide +kernel
theorem dX7_hold_14 : decode cX7_hold 14 = .ok (.invokestatic 255, 3) := by decide +kernel
theorem dX7_hold_17 : decode cX7_hold 17 = .ok (.ifCond .eq 21, 3) := by decide +kernel
theorem dX7_hold_20 : decode cX7_hold 20 = .ok (.iload 5, 2) := by decide +kernel
theorem dX7_hold_22 : decode cX7_hold 22 = .ok (.invokestatic 258, 3) := by decide +kernel
theorem dX7_hold_25 : decode cX7_hold 25 = .ok (.ifCond .eq 13, 3) := by decide +kernel
theorem dX7_hold_28 : decode cX7_hold 28 = .ok (.iload 7, 2) := by decide +kernel
theorem dX7_hold_30 : decode cX7_hold 30 = .ok (.iconst 0, 1) := by decide +kernel
theorem dX7_hold_31 : decode cX7_hold 31 = .ok (.iconst 3, 1) := by decide +kernel
theorem dX7_hold_32 : decode cX7_hold 32 = .ok (.invokestatic 77, 3) := by decide +kernel
theorem dX7_hold_35 : decode cX7_hold 35 = .ok (.ifCond .ne 5, 3) := by decide +kernel
theorem dX7_hold_38 : decode cX7_hold 38 = .ok (.iconst (-1), 1) := by decide +kernel
theorem dX7_hold_39 : decode cX7_hold 39 = .ok (.ireturn, 1) := by decide +kernel
theorem dX7_hold_40 : decode cX7_hold 40 = .ok (.aload_n 0, 1) := by decide +kernel
theorem dX7_hold_41 : decode cX7_hold 41 = .ok (.iload_n 1, 1) := by decide +kernel
theorem dX7_hold_42 : decode cX7_hold 42 = .ok (.iload_n 2, 1) := by decide +kernel
theorem dX7_hold_43 : decode cX7_hold 43 = .ok (.iload_n 3, 1) := by decide +kernel
theorem dX7_hold_44 : decode cX7_hold 44 = .ok (.iload 4, 2) := by decide +kernel
theorem dX7_hold_46 : decode cX7_hold 46 = .ok (.iload 5, 2) := by decide +kernel
theorem dX7_hold_48 : decode cX7_hold 48 = .ok (.iload 6, 2) := by decide +kernel
theorem dX7_hold_50 : decode cX7_hold 50 = .ok (.invokevirtual 261, 3) := by decide +kernel
theorem dX7_hold_53 : decode cX7_hold 53 = .ok (.iload 7, 2) := by decide +kernel
theorem dX7_hold_55 : decode cX7_hold 55 = .ok (.tableswitch 52 0 2 #[25, 33, 44], 25) := by decide +kernel
theorem dX7_hold_80 : decode cX7_hold 80 = .ok (.aload_n 0, 1) := by decide +kernel
theorem dX7_hold_81 : decode cX7_hold 81 = .ok (.getfield 55, 3) := by decide +kernel
theorem dX7_hold_84 : decode cX7_hold 84 = .ok (.getfield 265, 3) := by decide +kernel
theorem dX7_hold_87 : decode cX7_hold 87 = .ok (.ireturn, 1) := by decide +kernel
theorem dX7_hold_88 : decode cX7_hold 88 = .ok (.aload_n 0, 1) := by decide +kernel
theorem dX7_hold_89 : decode cX7_hold 89 = .ok (.getfield 55, 3) := by decide +kernel
theorem dX7_hold_92 : decode cX7_hold 92 = .ok (.getfield 268, 3) := by decide +kernel
theorem dX7_hold_95 : decode cX7_hold 95 = .ok (.getfield 151, 3) := by decide +kernel
theorem dX7_hold_98 : decode cX7_hold 98 = .ok (.ireturn, 1) := by decide +kernel
theorem dX7_hold_99 : decode cX7_hold 99 = .ok (.aload_n 0, 1) := by decide +kernel
theorem dX7_hold_100 : decode cX7_hold 100 = .ok (.getfield 55, 3) := by decide +kernel
theorem dX7_hold_103 : decode cX7_hold 103 = .ok (.getfield 272, 3) := by decide +kernel
theorem dX7_hold_106 : decode cX7_hold 106 = .ok (.ireturn, 1) := by decide +kernel
theorem dX7_hold_107 : decode cX7_hold 107 = .ok (.aload_n 0, 1) := by decide +kernel
theorem dX7_hold_108 : decode cX7_hold 108 = .ok (.getfield 55, 3) := by decide +kernel
theorem dX7_hold_111 : decode cX7_hold 111 = .ok (.getfield 275, 3) := by decide +kernel
theorem dX7_hold_114 : decode cX7_hold 114 = .ok (.ireturn, 1) := by decide +kernel
theorem dX7_late_0 : decode cX7_late 0 = .ok (.aload_n 0, 1) := by decide +kernel
theorem dX7_late_1 : decode cX7_late 1 = .ok (.iload_n 1, 1) := by decide +kernel
theorem dX7_late_2 : decode cX7_late 2 = .ok (.iload_n 2, 1) := by decide +kernel
theorem dX7_late_3 : decode cX7_late 3 = .ok (.iload_n 3, 1) := by decide +kernel
theorem dX7_late_4 : decode cX7_late 4 = .ok (.iload 5, 2) := by decide +kernel
theorem dX7_late_6 : decode cX7_late 6 = .ok (.invokevirtual 251, 3) := by decide +kernel
theorem dX7_late_9 : decode cX7_late 9 = .ok (.ifCond .eq 11, 3) := by decide +kernel
theorem dX7_late_12 : decode cX7_late 12 = .ok (.iload 4, 2) := by decide +kernel
theorem dX7_late_14 : decode cX7_late 14 = .ok (.invokestatic 258, 3) := by decide +kernel
theorem dX7_late_17 : decode cX7_late 17 = .ok (.ifCond .ne 5, 3) := by decide +kernel
theorem dX7_late_20 : decode cX7_late 20 = .ok (.iconst (-1), 1) := by decide +kernel
theorem dX7_late_21 : decode cX7_late 21 = .ok (.ireturn, 1) := by decide +kernel
theorem dX7_late_22 : decode cX7_late 22 = .ok (.bipush (-4), 2) := by decide +kernel
theorem dX7_late_24 : decode cX7_late 24 = .ok (.istore 6, 2) := by decide +kernel
theorem dX7_late_26 : decode cX7_late 26 = .ok (.iconst 0, 1) := by decide +kernel
theorem dX7_late_27 : decode cX7_late 27 = .ok (.istore 7, 2) := by decide +kernel
theorem dX7_late_29 : decode cX7_late 29 = .ok (.iload 7, 2) := by decide +kernel
theorem dX7_late_31 : decode cX7_late 31 = .ok (.bipush 50, 2) := by decide +kernel
theorem dX7_late_33 : decode cX7_late 33 = .ok (.if_icmp .gt 41, 3) := by decide +kernel
theorem dX7_late_36 : decode cX7_late 36 = .ok (.aload_n 0, 1) := by decide +kernel
theorem dX7_late_37 : decode cX7_late 37 = .ok (.iload_n 1, 1) := by decide +kernel
theorem dX7_late_38 : decode cX7_late 38 = .ok (.iload_n 2, 1) := by decide +kernel
theorem dX7_late_39 : decode cX7_late 39 = .ok (.iload_n 3, 1) := by decide +kernel
theorem dX7_late_40 : decode cX7_late 40 = .ok (.iload 7, 2) := by decide +kernel
theorem dX7_late_42 : decode cX7_late 42 = .ok (.iload 4, 2) := by decide +kernel
theorem dX7_late_44 : decode cX7_late 44 = .ok (.iload 5, 2) := by decide +kernel
theorem dX7_late_46 : decode cX7_late 46 = .ok (.invokevirtual 261, 3) := by decide +kernel
theorem dX7_late_49 : decode cX7_late 49 = .ok (.aload_n 0, 1) := by decide +kernel
theorem dX7_late_50 : decode cX7_late 50 = .ok (.getfield 55, 3) := by decide +kernel
theorem dX7_late_53 : decode cX7_late 53 = .ok (.getfield 265, 3) := by decide +kernel
theorem dX7_late_56 : decode cX7_late 56 = .ok (.bipush (-4), 2) := by decide +kernel
theorem dX7_late_58 : decode cX7_late 58 = .ok (.if_icmp .eq 6, 3) := by decide +kernel
theorem dX7_late_61 : decode cX7_late 61 = .ok (.iload 6, 2) := by decide +kernel
theorem dX7_late_63 : decode cX7_late 63 = .ok (.ireturn, 1) := by decide +kernel
theorem dX7_late_64 : decode cX7_late 64 = .ok (.iload 7, 2) := by decide +kernel
theorem dX7_late_66 : decode cX7_late 66 = .ok (.istore 6, 2) := by decide +kernel
theorem dX7_late_68 : decode cX7_late 68 = .ok (.iinc 7 1, 3) := by decide +kernel
theorem dX7_late_71 : decode cX7_late 71 = .ok (.goto (-42), 3) := by decide +kernel
theorem dX7_late_74 : decode cX7_late 74 = .ok (.iload 6, 2) := by decide +kernel
theorem dX7_late_76 : decode cX7_late 76 = .ok (.ireturn, 1) := by decide +kernel
theorem dX7_step_0 : decode cX7_step 0 = .ok (.aload_n 0, 1) := by decide +kernel
theorem dX7_step_1 : decode cX7_step 1 = .ok (.iload_n 1, 1) := by decide +kernel
theorem dX7_step_2 : decode cX7_step 2 = .ok (.iload_n 2, 1) := by decide +kernel
theorem dX7_step_3 : decode cX7_step 3 = .ok (.iload_n 3, 1) := by decide +kernel
theorem dX7_step_4 : decode cX7_step 4 = .ok (.iload 5, 2) := by decide +kernel
theorem dX7_step_6 : decode cX7_step 6 = .ok (.invokevirtual 251, 3) := by decide +kernel
theorem dX7_step_9 : decode cX7_step 9 = .ok (.ifCond .eq 21, 3) := by decide +kernel
theorem dX7_step_12 : decode cX7_step 12 = .ok (.iload 4, 2) := by decide +kernel
theorem dX7_step_14 : decode cX7_step 14 = .ok (.invokestatic 255, 3) := by decide +kernel
theorem dX7_step_17 : decode cX7_step 17 = .ok (.ifCond .eq 13, 3) := by decide +kernel
theorem dX7_step_20 : decode cX7_step 20 = .ok (.iload 6, 2) := by decide +kernel
theorem dX7_step_22 : decode cX7_step 22 = .ok (.iconst 0, 1) := by decide +kernel
theorem dX7_step_23 : decode cX7_step 23 = .ok (.iconst 1, 1) := by decide +kernel
theorem dX7_step_24 : decode cX7_step 24 = .ok (.invokestatic 77, 3) := by decide +kernel
theorem dX7_step_27 : decode cX7_step 27 = .ok (.ifCond .ne 5, 3) := by decide +kernel
theorem dX7_step_30 : decode cX7_step 30 = .ok (.iconst (-1), 1) := by decide +kernel
theorem dX7_step_31 : decode cX7_step 31 = .ok (.ireturn, 1) := by decide +kernel
theorem dX7_step_32 : decode cX7_step 32 = .ok (.iconst 1, 1) := by decide +kernel
theorem dX7_step_33 : decode cX7_step 33 = .ok (.istore 7, 2) := by decide +kernel
theorem dX7_step_35 : decode cX7_step 35 = .ok (.iconst 0, 1) := by decide +kernel
theorem dX7_step_36 : decode cX7_step 36 = .ok (.istore 8, 2) := by decide +kernel
theorem dX7_step_38 : decode cX7_step 38 = .ok (.iconst 1, 1) := by decide +kernel
theorem dX7_step_39 : decode cX7_step 39 = .ok (.istore 9, 2) := by decide +kernel
theorem dX7_step_41 : decode cX7_step 41 = .ok (.iload 9, 2) := by decide +kernel
theorem dX7_step_43 : decode cX7_step 43 = .ok (.bipush 50, 2) := by decide +kernel
theorem dX7_step_45 : decode cX7_step 45 = .ok (.if_icmp .gt 66, 3) := by decide +kernel
theorem dX7_step_48 : decode cX7_step 48 = .ok (.iload 8, 2) := by decide +kernel
theorem dX7_step_50 : decode cX7_step 50 = .ok (.bipush (-4), 2) := by decide +kernel
theorem dX7_step_52 : decode cX7_step 52 = .ok (.if_icmp .eq 59, 3) := by decide +kernel
theorem dX7_step_55 : decode cX7_step 55 = .ok (.aload_n 0, 1) := by decide +kernel
theorem dX7_step_56 : decode cX7_step 56 = .ok (.iload_n 1, 1) := by decide +kernel
theorem dX7_step_57 : decode cX7_step 57 = .ok (.iload_n 2, 1) := by decide +kernel
theorem dX7_step_58 : decode cX7_step 58 = .ok (.iload_n 3, 1) := by decide +kernel
theorem dX7_step_59 : decode cX7_step 59 = .ok (.iload 4, 2) := by decide +kernel
theorem dX7_step_61 : decode cX7_step 61 = .ok (.iload 9, 2) := by decide +kernel
theorem dX7_step_63 : decode cX7_step 63 = .ok (.iload 5, 2) := by decide +kernel
theorem dX7_step_65 : decode cX7_step 65 = .ok (.invokevirtual 261, 3) := by decide +kernel
theorem dX7_step_68 : decode cX7_step 68 = .ok (.aload_n 0, 1) := by decide +kernel
theorem dX7_step_69 : decode cX7_step 69 = .ok (.getfield 55, 3) := by decide +kernel
theorem dX7_step_72 : decode cX7_step 72 = .ok (.getfield 265, 3) := by decide +kernel
theorem dX7_step_75 : decode cX7_step 75 = .ok (.bipush (-4), 2) := by decide +kernel
theorem dX7_step_77 : decode cX7_step 77 = .ok (.if_icmp .eq 15, 3) := by decide +kernel
theorem dX7_step_80 : decode cX7_step 80 = .ok (.aload_n 0, 1) := by decide +kernel
theorem dX7_step_81 : decode cX7_step 81 = .ok (.getfield 55, 3) := by decide +kernel
theorem dX7_step_84 : decode cX7_step 84 = .ok (.getfield 265, 3) := by decide +kernel
theorem dX7_step_87 : decode cX7_step 87 = .ok (.iload 8, 2) := by decide +kernel
theorem dX7_step_89 : decode cX7_step 89 = .ok (.if_icmp .le 16, 3) := by decide +kernel
theorem dX7_step_92 : decode cX7_step 92 = .ok (.iload 9, 2) := by decide +kernel
theorem dX7_step_94 : decode cX7_step 94 = .ok (.istore 7, 2) := by decide +kernel
theorem dX7_step_96 : decode cX7_step 96 = .ok (.aload_n 0, 1) := by decide +kernel
theorem dX7_step_97 : decode cX7_step 97 = .ok (.getfield 55, 3) := by decide +kernel
theorem dX7_step_100 : decode cX7_step 100 = .ok (.getfield 265, 3) := by decide +kernel
theorem dX7_step_103 : decode cX7_step 103 = .ok (.istore 8, 2) := by decide +kernel
theorem dX7_step_105 : decode cX7_step 105 = .ok (.iinc 9 1, 3) := by decide +kernel
theorem dX7_step_108 : decode cX7_step 108 = .ok (.goto (-67), 3) := by decide +kernel
theorem dX7_step_111 : decode cX7_step 111 = .ok (.iload 6, 2) := by decide +kernel
theorem dX7_step_113 : decode cX7_step 113 = .ok (.ifCond .ne 8, 3) := by decide +kernel
theorem dX7_step_116 : decode cX7_step 116 = .ok (.iload 7, 2) := by decide +kernel
theorem dX7_step_118 : decode cX7_step 118 = .ok (.goto 5, 3) := by decide +kernel
theorem dX7_step_121 : decode cX7_step 121 = .ok (.iload 8, 2) := by decide +kernel
theorem dX7_step_123 : decode cX7_step 123 = .ok (.ireturn, 1) := by decide +kernel
theorem dX7_hours_0 : decode cX7_hours 0 = .ok (.aload_n 0, 1) := by decide +kernel
theorem dX7_hours_1 : decode cX7_hours 1 = .ok (.iload_n 1, 1) := by decide +kernel
theorem dX7_hours_2 : decode cX7_hours 2 = .ok (.invokevirtual 116, 3) := by decide +kernel
theorem dX7_hours_5 : decode cX7_hours 5 = .ok (.ifCond .eq 12, 3) := by decide +kernel
theorem dX7_hours_8 : decode cX7_hours 8 = .ok (.iload_n 2, 1) := by decide +kernel
theorem dX7_hours_9 : decode cX7_hours 9 = .ok (.iconst 0, 1) := by decide +kernel
theorem dX7_hours_10 : decode cX7_hours 10 = .ok (.iconst 1, 1) := by decide +kernel
theorem dX7_hours_11 : decode cX7_hours 11 = .ok (.invokestatic 77, 3) := by decide +kernel
theorem dX7_hours_14 : decode cX7_hours 14 = .ok (.ifCond .ne 5, 3) := by decide +kernel
theorem dX7_hours_17 : decode cX7_hours 17 = .ok (.iconst (-1), 1) := by decide +kernel
theorem dX7_hours_18 : decode cX7_hours 18 = .ok (.ireturn, 1) := by decide +kernel
theorem dX7_hours_19 : decode cX7_hours 19 = .ok (.aload_n 0, 1) := by decide +kernel
theorem dX7_hours_20 : decode cX7_hours 20 = .ok (.getfield 26, 3) := by decide +kernel
theorem dX7_hours_23 : decode cX7_hours 23 = .ok (.getfield 121, 3) := by decide +kernel
theorem dX7_hours_26 : decode cX7_hours 26 = .ok (.iload_n 1, 1) := by decide +kernel
theorem dX7_hours_27 : decode cX7_hours 27 = .ok (.aaload, 1) := by decide +kernel
theorem dX7_hours_28 : decode cX7_hours 28 = .ok (.astore_n 3, 1) := by decide +kernel
theorem dX7_hours_29 : decode cX7_hours 29 = .ok (.iconst 0, 1) := by decide +kernel
theorem dX7_hours_30 : decode cX7_hours 30 = .ok (.istore 4, 2) := by decide +kernel
theorem dX7_hours_32 : decode cX7_hours 32 = .ok (.iconst 0, 1) := by decide +kernel
theorem dX7_hours_33 : decode cX7_hours 33 = .ok (.istore 5, 2) := by decide +kernel
theorem dX7_hours_35 : decode cX7_hours 35 = .ok (.iconst 0, 1) := by decide +kernel
theorem dX7_hours_36 : decode cX7_hours 36 = .ok (.istore 6, 2) := by decide +kernel
theorem dX7_hours_38 : decode cX7_hours 38 = .ok (.iconst 0, 1) := by decide +kernel
theorem dX7_hours_39 : decode cX7_hours 39 = .ok (.istore 7, 2) := by decide +kernel
theorem dX7_hours_41 : decode cX7_hours 41 = .ok (.iload 7, 2) := by decide +kernel
theorem dX7_hours_43 : decode cX7_hours 43 = .ok (.bipush 24, 2) := by decide +kernel
theorem dX7_hours_45 : decode cX7_hours 45 = .ok (.if_icmp .ge 58, 3) := by decide +kernel
theorem dX7_hours_48 : decode cX7_hours 48 = .ok (.aload_n 0, 1) := by decide +kernel
theorem dX7_hours_49 : decode cX7_hours 49 = .ok (.aload_n 3, 1) := by decide +kernel
theorem dX7_hours_50 : decode cX7_hours 50 = .ok (.aload_n 0, 1) := by decide +kernel
theorem dX7_hours_51 : decode cX7_hours 51 = .ok (.getfield 19, 3) := by decide +kernel
theorem dX7_hours_54 : decode cX7_hours 54 = .ok (.getfield 113, 3) := by decide +kernel
theorem dX7_hours_57 : decode cX7_hours 57 = .ok (.iload 7, 2) := by decide +kernel
theorem dX7_hours_59 : decode cX7_hours 59 = .ok (.iaload, 1) := by decide +kernel
theorem dX7_hours_60 : decode cX7_hours 60 = .ok (.iload 6, 2) := by decide +kernel
theorem dX7_hours_62 : decode cX7_hours 62 = .ok (.invokevirtual 276, 3) := by decide +kernel
theorem dX7_hours_65 : decode cX7_hours 65 = .ok (.ifCond .eq 18, 3) := by decide +kernel
theorem dX7_hours_68 : decode cX7_hours 68 = .ok (.iload 6, 2) := by decide +kernel
theorem dX7_hours_70 : decode cX7_hours 70 = .ok (.ifCond .ne 7, 3) := by decide +kernel
theorem dX7_hours_73 : decode cX7_hours 73 = .ok (.iconst 1, 1) := by decide +kernel
theorem dX7_hours_74 : decode cX7_hours 74 = .ok (.goto 4, 3) := by decide +kernel
theorem dX7_hours_77 : decode cX7_hours 77 = .ok (.iconst 0, 1) := by decide +kernel
theorem dX7_hours_78 : decode cX7_hours 78 = .ok (.istore 6, 2) := by decide +kernel
theorem dX7_hours_80 : decode cX7_hours 80 = .ok (.iinc 5 1, 3) := by decide +kernel
theorem dX7_hours_83 : decode cX7_hours 83 = .ok (.iload 6, 2) := by decide +kernel
theorem dX7_hours_85 : decode cX7_hours 85 = .ok (.ifCond .eq 12, 3) := by decide +kernel
theorem dX7_hours_88 : decode cX7_hours 88 = .ok (.iload 4, 2) := by decide +kernel
theorem dX7_hours_90 : decode cX7_hours 90 = .ok (.iconst 1, 1) := by decide +kernel
theorem dX7_hours_91 : decode cX7_hours 91 = .ok (.iload 7, 2) := by decide +kernel
theorem dX7_hours_93 : decode cX7_hours 93 = .ok (.ishl, 1) := by decide +kernel
theorem dX7_hours_94 : decode cX7_hours 94 = .ok (.ior, 1) := by decide +kernel
theorem dX7_hours_95 : decode cX7_hours 95 = .ok (.istore 4, 2) := by decide +kernel
theorem dX7_hours_97 : decode cX7_hours 97 = .ok (.iinc 7 1, 3) := by decide +kernel
theorem dX7_hours_100 : decode cX7_hours 100 = .ok (.goto (-59), 3) := by decide +kernel
theorem dX7_hours_103 : decode cX7_hours 103 = .ok (.iload_n 2, 1) := by decide +kernel
theorem dX7_hours_104 : decode cX7_hours 104 = .ok (.ifCond .ne 8, 3) := by decide +kernel
theorem dX7_hours_107 : decode cX7_hours 107 = .ok (.iload 4, 2) := by decide +kernel
theorem dX7_hours_109 : decode cX7_hours 109 = .ok (.goto 5, 3) := by decide +kernel
theorem dX7_hours_112 : decode cX7_hours 112 = .ok (.iload 5, 2) := by decide +kernel
theorem dX7_hours_114 : decode cX7_hours 114 = .ok (.ireturn, 1) := by decide +kernel
theorem dX7_trips_0 : decode cX7_trips 0 = .ok (.aload_n 0, 1) := by decide +kernel
theorem dX7_trips_1 : decode cX7_trips 1 = .ok (.iload_n 1, 1) := by decide +kernel
theorem dX7_trips_2 : decode cX7_trips 2 = .ok (.invokevirtual 116, 3) := by decide +kernel
theorem dX7_trips_5 : decode cX7_trips 5 = .ok (.ifCond .ne 5, 3) := by decide +kernel
theorem dX7_trips_8 : decode cX7_trips 8 = .ok (.iconst (-1), 1) := by decide +kernel
theorem dX7_trips_9 : decode cX7_trips 9 = .ok (.ireturn, 1) := by decide +kernel
theorem dX7_trips_10 : decode cX7_trips 10 = .ok (.aload_n 0, 1) := by decide +kernel
theorem dX7_trips_11 : decode cX7_trips 11 = .ok (.getfield 26, 3) := by decide +kernel
theorem dX7_trips_14 : decode cX7_trips 14 = .ok (.getfield 121, 3) := by decide +kernel
theorem dX7_trips_17 : decode cX7_trips 17 = .ok (.iload_n 1, 1) := by decide +kernel
theorem dX7_trips_18 : decode cX7_trips 18 = .ok (.aaload, 1) := by decide +kernel
theorem dX7_trips_19 : decode cX7_trips 19 = .ok (.astore_n 2, 1) := by decide +kernel
theorem dX7_trips_20 : decode cX7_trips 20 = .ok (.aload_n 2, 1) := by decide +kernel
theorem dX7_trips_21 : decode cX7_trips 21 = .ok (.getfield 127, 3) := by decide +kernel
theorem dX7_trips_24 : decode cX7_trips 24 = .ok (.istore_n 3, 1) := by decide +kernel
theorem dX7_trips_25 : decode cX7_trips 25 = .ok (.iconst 0, 1) := by decide +kernel
theorem dX7_trips_26 : decode cX7_trips 26 = .ok (.istore 4, 2) := by decide +kernel
theorem dX7_trips_28 : decode cX7_trips 28 = .ok (.iload 4, 2) := by decide +kernel
theorem dX7_trips_30 : decode cX7_trips 30 = .ok (.sipush 999, 3) := by decide +kernel
theorem dX7_trips_33 : decode cX7_trips 33 = .ok (.if_icmp .ge 64, 3) := by decide +kernel
theorem dX7_trips_36 : decode cX7_trips 36 = .ok (.iconst 0, 1) := by decide +kernel
theorem dX7_trips_37 : decode cX7_trips 37 = .ok (.iload_n 3, 1) := by decide +kernel
theorem dX7_trips_38 : decode cX7_trips 38 = .ok (.aload_n 2, 1) := by decide +kernel
theorem dX7_trips_39 : decode cX7_trips 39 = .ok (.getfield 130, 3) := by decide +kernel
theorem dX7_trips_42 : decode cX7_trips 42 = .ok (.isub, 1) := by decide +kernel
theorem dX7_trips_43 : decode cX7_trips 43 = .ok (.invokestatic 280, 3) := by decide +kernel
theorem dX7_trips_46 : decode cX7_trips 46 = .ok (.istore_n 3, 1) := by decide +kernel
theorem dX7_trips_47 : decode cX7_trips 47 = .ok (.aload_n 0, 1) := by decide +kernel
theorem dX7_trips_48 : decode cX7_trips 48 = .ok (.getfield 19, 3) := by decide +kernel
theorem dX7_trips_51 : decode cX7_trips 51 = .ok (.aload_n 2, 1) := by decide +kernel
theorem dX7_trips_52 : decode cX7_trips 52 = .ok (.getfield 122, 3) := by decide +kernel
theorem dX7_trips_55 : decode cX7_trips 55 = .ok (.aload_n 2, 1) := by decide +kernel
theorem dX7_trips_56 : decode cX7_trips 56 = .ok (.getfield 144, 3) := by decide +kernel
theorem dX7_trips_59 : decode cX7_trips 59 = .ok (.iadd, 1) := by decide +kernel
theorem dX7_trips_60 : decode cX7_trips 60 = .ok (.iload_n 3, 1) := by decide +kernel
theorem dX7_trips_61 : decode cX7_trips 61 = .ok (.aload_n 0, 1) := by decide +kernel
theorem dX7_trips_62 : decode cX7_trips 62 = .ok (.getfield 26, 3) := by decide +kernel
theorem dX7_trips_65 : decode cX7_trips 65 = .ok (.getfield 66, 3) := by decide +kernel
theorem dX7_trips_68 : decode cX7_trips 68 = .ok (.aload_n 0, 1) := by decide +kernel
theorem dX7_trips_69 : decode cX7_trips 69 = .ok (.getfield 19, 3) := by decide +kernel
theorem dX7_trips_72 : decode cX7_trips 72 = .ok (.getfield 62, 3) := by decide +kernel
theorem dX7_trips_75 : decode cX7_trips 75 = .ok (.iconst 0, 1) := by decide +kernel
theorem dX7_trips_76 : decode cX7_trips 76 = .ok (.iaload, 1) := by decide +kernel
theorem dX7_trips_77 : decode cX7_trips 77 = .ok (.iconst 0, 1) := by decide +kernel
theorem dX7_trips_78 : decode cX7_trips 78 = .ok (.invokevirtual 212, 3) := by decide +kernel
theorem dX7_trips_81 : decode cX7_trips 81 = .ok (.istore 5, 2) := by decide +kernel
theorem dX7_trips_83 : decode cX7_trips 83 = .ok (.iload 5, 2) := by decide +kernel
theorem dX7_trips_85 : decode cX7_trips 85 = .ok (.ifCond .lt 6, 3) := by decide +kernel
theorem dX7_trips_88 : decode cX7_trips 88 = .ok (.iload 4, 2) := by decide +kernel
theorem dX7_trips_90 : decode cX7_trips 90 = .ok (.ireturn, 1) := by decide +kernel
theorem dX7_trips_91 : decode cX7_trips 91 = .ok (.iinc 4 1, 3) := by decide +kernel
theorem dX7_trips_94 : decode cX7_trips 94 = .ok (.goto (-66), 3) := by decide +kernel
theorem dX7_trips_97 : decode cX7_trips 97 = .ok (.sipush 999, 3) := by decide +kernel
theorem dX7_trips_100 : decode cX7_trips 100 = .ok (.ireturn, 1) := by decide +kernel
theorem dX7_bladder_0 : decode cX7_bladder 0 = .ok (.aload_n 0, 1) := by decide +kernel
theorem dX7_bladder_1 : decode cX7_bladder 1 = .ok (.iload_n 1, 1) := by decide +kernel
theorem dX7_bladder_2 : decode cX7_bladder 2 = .ok (.invokevirtual 116, 3) := by decide +kernel
theorem dX7_bladder_5 : decode cX7_bladder 5 = .ok (.ifCond .eq 29, 3) := by decide +kernel
theorem dX7_bladder_8 : decode cX7_bladder 8 = .ok (.aload_n 0, 1) := by decide +kernel
theorem dX7_bladder_9 : decode cX7_bladder 9 = .ok (.iload_n 2, 1) := by decide +kernel
theorem dX7_bladder_10 : decode cX7_bladder 10 = .ok (.invokevirtual 188, 3) := by decide +kernel
theorem dX7_bladder_13 : decode cX7_bladder 13 = .ok (.ifCond .eq 21, 3) := by decide +kernel
theorem dX7_bladder_16 : decode cX7_bladder 16 = .ok (.aload_n 0, 1) := by decide +kernel
theorem dX7_bladder_17 : decode cX7_bladder 17 = .ok (.iload_n 3, 1) := by decide +kernel
theorem dX7_bladder_18 : decode cX7_bladder 18 = .ok (.invokevirtual 188, 3) := by decide +kernel
theorem dX7_bladder_21 : decode cX7_bladder 21 = .ok (.ifCond .eq 13, 3) := by decide +kernel
theorem dX7_bladder_24 : decode cX7_bladder 24 = .ok (.iload 4, 2) := by decide +kernel
theorem dX7_bladder_26 : decode cX7_bladder 26 = .ok (.iconst 0, 1) := by decide +kernel
theorem dX7_bladder_27 : decode cX7_bladder 27 = .ok (.iconst 1, 1) := by decide +kernel
theorem dX7_bladder_28 : decode cX7_bladder 28 = .ok (.invokestatic 77, 3) := by decide +kernel
theorem dX7_bladder_31 : decode cX7_bladder 31 = .ok (.ifCond .ne 5, 3) := by decide +kernel
theorem dX7_bladder_34 : decode cX7_bladder 34 = .ok (.iconst (-1), 1) := by decide +kernel
theorem dX7_bladder_35 : decode cX7_bladder 35 = .ok (.ireturn, 1) := by decide +kernel
theorem dX7_bladder_36 : decode cX7_bladder 36 = .ok (.aload_n 0, 1) := by decide +kernel
theorem dX7_bladder_37 : decode cX7_bladder 37 = .ok (.getfield 26, 3) := by decide +kernel
theorem dX7_bladder_40 : decode cX7_bladder 40 = .ok (.getfield 121, 3) := by decide +kernel
theorem dX7_bladder_43 : decode cX7_bladder 43 = .ok (.iload_n 1, 1) := by decide +kernel
theorem dX7_bladder_44 : decode cX7_bladder 44 = .ok (.aaload, 1) := by decide +kernel
theorem dX7_bladder_45 : decode cX7_bladder 45 = .ok (.astore 5, 2) := by decide +kernel
theorem dX7_bladder_47 : decode cX7_bladder 47 = .ok (.aload_n 0, 1) := by decide +kernel
theorem dX7_bladder_48 : decode cX7_bladder 48 = .ok (.aload 5, 2) := by decide +kernel
theorem dX7_bladder_50 : decode cX7_bladder 50 = .ok (.getfield 122, 3) := by decide +kernel
theorem dX7_bladder_53 : decode cX7_bladder 53 = .ok (.aload 5, 2) := by decide +kernel
theorem dX7_bladder_55 : decode cX7_bladder 55 = .ok (.getfield 144, 3) := by decide +kernel
theorem dX7_bladder_58 : decode cX7_bladder 58 = .ok (.iadd, 1) := by decide +kernel
theorem dX7_bladder_59 : decode cX7_bladder 59 = .ok (.iload_n 2, 1) := by decide +kernel
theorem dX7_bladder_60 : decode cX7_bladder 60 = .ok (.iconst 0, 1) := by decide +kernel
theorem dX7_bladder_61 : decode cX7_bladder 61 = .ok (.invokevirtual 225, 3) := by decide +kernel
theorem dX7_bladder_64 : decode cX7_bladder 64 = .ok (.istore 6, 2) := by decide +kernel
theorem dX7_bladder_66 : decode cX7_bladder 66 = .ok (.aload_n 0, 1) := by decide +kernel
theorem dX7_bladder_67 : decode cX7_bladder 67 = .ok (.aload 5, 2) := by decide +kernel
theorem dX7_bladder_69 : decode cX7_bladder 69 = .ok (.getfield 122, 3) := by decide +kernel
theorem dX7_bladder_72 : decode cX7_bladder 72 = .ok (.aload 5, 2) := by decide +kernel
theorem dX7_bladder_74 : decode cX7_bladder 74 = .ok (.getfield 144, 3) := by decide +kernel
theorem dX7_bladder_77 : decode cX7_bladder 77 = .ok (.iadd, 1) := by decide +kernel
theorem dX7_bladder_78 : decode cX7_bladder 78 = .ok (.iload_n 3, 1) := by decide +kernel
theorem dX7_bladder_79 : decode cX7_bladder 79 = .ok (.iconst 0, 1) := by decide +kernel
theorem dX7_bladder_80 : decode cX7_bladder 80 = .ok (.invokevirtual 225, 3) := by decide +kernel
theorem dX7_bladder_83 : decode cX7_bladder 83 = .ok (.istore 7, 2) := by decide +kernel
theorem dX7_bladder_85 : decode cX7_bladder 85 = .ok (.iload 6, 2) := by decide +kernel
theorem dX7_bladder_87 : decode cX7_bladder 87 = .ok (.sipush 9999, 3) := by decide +kernel
theorem dX7_bladder_90 : decode cX7_bladder 90 = .ok (.if_icmp .gt 11, 3) := by decide +kernel
theorem dX7_bladder_93 : decode cX7_bladder 93 = .ok (.iload 7, 2) := by decide +kernel
theorem dX7_bladder_95 : decode cX7_bladder 95 = .ok (.sipush 9999, 3) := by decide +kernel
theorem dX7_bladder_98 : decode cX7_bladder 98 = .ok (.if_icmp .le 6, 3) := by decide +kernel
theorem dX7_bladder_101 : decode cX7_bladder 101 = .ok (.bipush (-4), 2) := by decide +kernel
theorem dX7_bladder_103 : decode cX7_bladder 103 = .ok (.ireturn, 1) := by decide +kernel
theorem dX7_bladder_104 : decode cX7_bladder 104 = .ok (.iload 4, 2) := by decide +kernel
theorem dX7_bladder_106 : decode cX7_bladder 106 = .ok (.iconst 1, 1) := by decide +kernel
theorem dX7_bladder_107 : decode cX7_bladder 107 = .ok (.if_icmp .ne 6, 3) := by decide +kernel
theorem dX7_bladder_110 : decode cX7_bladder 110 = .ok (.iload 7, 2) := by decide +kernel
theorem dX7_bladder_112 : decode cX7_bladder 112 = .ok (.ireturn, 1) := by decide +kernel
theorem dX7_bladder_113 : decode cX7_bladder 113 = .ok (.iload 6, 2) := by decide +kernel
theorem dX7_bladder_115 : decode cX7_bladder 115 = .ok (.iload 7, 2) := by decide +kernel
theorem dX7_bladder_117 : decode cX7_bladder 117 = .ok (.if_icmp .ne 5, 3) := by decide +kernel
theorem dX7_bladder_120 : decode cX7_bladder 120 = .ok (.iconst 0, 1) := by decide +kernel
theorem dX7_bladder_121 : decode cX7_bladder 121 = .ok (.ireturn, 1) := by decide +kernel
theorem dX7_bladder_122 : decode cX7_bladder 122 = .ok (.aload 5, 2) := by decide +kernel
theorem dX7_bladder_124 : decode cX7_bladder 124 = .ok (.getfield 133, 3) := by decide +kernel
theorem dX7_bladder_127 : decode cX7_bladder 127 = .ok (.ifCond .ne 8, 3) := by decide +kernel
theorem dX7_bladder_130 : decode cX7_bladder 130 = .ok (.bipush (-4), 2) := by decide +kernel
theorem dX7_bladder_132 : decode cX7_bladder 132 = .ok (.goto 19, 3) := by decide +kernel
theorem dX7_bladder_135 : decode cX7_bladder 135 = .ok (.iload 7, 2) := by decide +kernel
theorem dX7_bladder_137 : decode cX7_bladder 137 = .ok (.iload 6, 2) := by decide +kernel
theorem dX7_bladder_139 : decode cX7_bladder 139 = .ok (.isub, 1) := by decide +kernel
theorem dX7_bladder_140 : decode cX7_bladder 140 = .ok (.invokestatic 207, 3) := by decide +kernel
theorem dX7_bladder_143 : decode cX7_bladder 143 = .ok (.aload 5, 2) := by decide +kernel
theorem dX7_bladder_145 : decode cX7_bladder 145 = .ok (.getfield 133, 3) := by decide +kernel
theorem dX7_bladder_148 : decode cX7_bladder 148 = .ok (.invokestatic 283, 3) := by decide +kernel
theorem dX7_bladder_151 : decode cX7_bladder 151 = .ok (.ireturn, 1) := by decide +kernel
theorem dX7_beats_0 : decode cX7_beats 0 = .ok (.aload_n 0, 1) := by decide +kernel
theorem dX7_beats_1 : decode cX7_beats 1 = .ok (.iload_n 1, 1) := by decide +kernel
theorem dX7_beats_2 : decode cX7_beats 2 = .ok (.invokevirtual 116, 3) := by decide +kernel
theorem dX7_beats_5 : decode cX7_beats 5 = .ok (.ifCond .eq 34, 3) := by decide +kernel
theorem dX7_beats_8 : decode cX7_beats 8 = .ok (.iload_n 2, 1) := by decide +kernel
theorem dX7_beats_9 : decode cX7_beats 9 = .ok (.iconst 0, 1) := by decide +kernel
theorem dX7_beats_10 : decode cX7_beats 10 = .ok (.sipush 9999, 3) := by decide +kernel
theorem dX7_beats_13 : decode cX7_beats 13 = .ok (.invokestatic 77, 3) := by decide +kernel
theorem dX7_beats_16 : decode cX7_beats 16 = .ok (.ifCond .eq 23, 3) := by decide +kernel
theorem dX7_beats_19 : decode cX7_beats 19 = .ok (.iload_n 3, 1) := by decide +kernel
theorem dX7_beats_20 : decode cX7_beats 20 = .ok (.iconst 1, 1) := by decide +kernel
theorem dX7_beats_21 : decode cX7_beats 21 = .ok (.bipush 99, 2) := by decide +kernel
theorem dX7_beats_23 : decode cX7_beats 23 = .ok (.invokestatic 77, 3) := by decide +kernel
theorem dX7_beats_26 : decode cX7_beats 26 = .ok (.ifCond .eq 13, 3) := by decide +kernel
theorem dX7_beats_29 : decode cX7_beats 29 = .ok (.iload 4, 2) := by decide +kernel
theorem dX7_beats_31 : decode cX7_beats 31 = .ok (.iconst 0, 1) := by decide +kernel
theorem dX7_beats_32 : decode cX7_beats 32 = .ok (.iconst 1, 1) := by decide +kernel
theorem dX7_beats_33 : decode cX7_beats 33 = .ok (.invokestatic 77, 3) := by decide +kernel
theorem dX7_beats_36 : decode cX7_beats 36 = .ok (.ifCond .ne 5, 3) := by decide +kernel
theorem dX7_beats_39 : decode cX7_beats 39 = .ok (.iconst (-1), 1) := by decide +kernel
theorem dX7_beats_40 : decode cX7_beats 40 = .ok (.ireturn, 1) := by decide +kernel
theorem dX7_beats_41 : decode cX7_beats 41 = .ok (.aload_n 0, 1) := by decide +kernel
theorem dX7_beats_42 : decode cX7_beats 42 = .ok (.getfield 26, 3) := by decide +kernel
theorem dX7_beats_45 : decode cX7_beats 45 = .ok (.getfield 121, 3) := by decide +kernel
theorem dX7_beats_48 : decode cX7_beats 48 = .ok (.iload_n 1, 1) := by decide +kernel
theorem dX7_beats_49 : decode cX7_beats 49 = .ok (.aaload, 1) := by decide +kernel
theorem dX7_beats_50 : decode cX7_beats 50 = .ok (.getfield 122, 3) := by decide +kernel
theorem dX7_beats_53 : decode cX7_beats 53 = .ok (.istore 5, 2) := by decide +kernel
theorem dX7_beats_55 : decode cX7_beats 55 = .ok (.aload_n 0, 1) := by decide +kernel
theorem dX7_beats_56 : decode cX7_beats 56 = .ok (.iload 5, 2) := by decide +kernel
theorem dX7_beats_58 : decode cX7_beats 58 = .ok (.aload_n 0, 1) := by decide +kernel
theorem dX7_beats_59 : decode cX7_beats 59 = .ok (.getfield 19, 3) := by decide +kernel
theorem dX7_beats_62 : decode cX7_beats 62 = .ok (.getfield 62, 3) := by decide +kernel
theorem dX7_beats_65 : decode cX7_beats 65 = .ok (.iconst 0, 1) := by decide +kernel
theorem dX7_beats_66 : decode cX7_beats 66 = .ok (.iaload, 1) := by decide +kernel
theorem dX7_beats_67 : decode cX7_beats 67 = .ok (.invokevirtual 286, 3) := by decide +kernel
theorem dX7_beats_70 : decode cX7_beats 70 = .ok (.istore 6, 2) := by decide +kernel
theorem dX7_beats_72 : decode cX7_beats 72 = .ok (.iload_n 2, 1) := by decide +kernel
theorem dX7_beats_73 : decode cX7_beats 73 = .ok (.aload_n 0, 1) := by decide +kernel
theorem dX7_beats_74 : decode cX7_beats 74 = .ok (.iload 5, 2) := by decide +kernel
theorem dX7_beats_76 : decode cX7_beats 76 = .ok (.iconst 0, 1) := by decide +kernel
theorem dX7_beats_77 : decode cX7_beats 77 = .ok (.iconst 0, 1) := by decide +kernel
theorem dX7_beats_78 : decode cX7_beats 78 = .ok (.invokevirtual 225, 3) := by decide +kernel
theorem dX7_beats_81 : decode cX7_beats 81 = .ok (.if_icmp .ge 11, 3) := by decide +kernel
theorem dX7_beats_84 : decode cX7_beats 84 = .ok (.iload 6, 2) := by decide +kernel
theorem dX7_beats_86 : decode cX7_beats 86 = .ok (.sipush 9999, 3) := by decide +kernel
theorem dX7_beats_89 : decode cX7_beats 89 = .ok (.if_icmp .le 6, 3) := by decide +kernel
theorem dX7_beats_92 : decode cX7_beats 92 = .ok (.bipush (-4), 2) := by decide +kernel
theorem dX7_beats_94 : decode cX7_beats 94 = .ok (.ireturn, 1) := by decide +kernel
theorem dX7_beats_95 : decode cX7_beats 95 = .ok (.iconst 0, 1) := by decide +kernel
theorem dX7_beats_96 : decode cX7_beats 96 = .ok (.iload 6, 2) := by decide +kernel
theorem dX7_beats_98 : decode cX7_beats 98 = .ok (.iload_n 2, 1) := by decide +kernel
theorem dX7_beats_99 : decode cX7_beats 99 = .ok (.isub, 1) := by decide +kernel
theorem dX7_beats_100 : decode cX7_beats 100 = .ok (.invokestatic 280, 3) := by decide +kernel
theorem dX7_beats_103 : decode cX7_beats 103 = .ok (.iload_n 3, 1) := by decide +kernel
theorem dX7_beats_104 : decode cX7_beats 104 = .ok (.invokestatic 283, 3) := by decide +kernel
theorem dX7_beats_107 : decode cX7_beats 107 = .ok (.istore 7, 2) := by decide +kernel
theorem dX7_beats_109 : decode cX7_beats 109 = .ok (.iload 4, 2) := by decide +kernel
theorem dX7_beats_111 : decode cX7_beats 111 = .ok (.ifCond .ne 10, 3) := by decide +kernel
theorem dX7_beats_114 : decode cX7_beats 114 = .ok (.iload 7, 2) := by decide +kernel
theorem dX7_beats_116 : decode cX7_beats 116 = .ok (.iconst 2, 1) := by decide +kernel
theorem dX7_beats_117 : decode cX7_beats 117 = .ok (.iadd, 1) := by decide +kernel
theorem dX7_beats_118 : decode cX7_beats 118 = .ok (.goto 15, 3) := by decide +kernel
theorem dX7_beats_121 : decode cX7_beats 121 = .ok (.sipush 9999, 3) := by decide +kernel
theorem dX7_beats_124 : decode cX7_beats 124 = .ok (.iload_n 2, 1) := by decide +kernel
theorem dX7_beats_125 : decode cX7_beats 125 = .ok (.iload 7, 2) := by decide +kernel
theorem dX7_beats_127 : decode cX7_beats 127 = .ok (.iload_n 3, 1) := by decide +kernel
theorem dX7_beats_128 : decode cX7_beats 128 = .ok (.imul, 1) := by decide +kernel
theorem dX7_beats_129 : decode cX7_beats 129 = .ok (.iadd, 1) := by decide +kernel
theorem dX7_beats_130 : decode cX7_beats 130 = .ok (.invokestatic 216, 3) := by decide +kernel
theorem dX7_beats_133 : decode cX7_beats 133 = .ok (.ireturn, 1) := by decide +kernel
theorem dX7_saw_0 : decode cX7_saw 0 = .ok (.iload_n 1, 1) := by decide +kernel
theorem dX7_saw_1 : decode cX7_saw 1 = .ok (.invokestatic 164, 3) := by decide +kernel
theorem dX7_saw_4 : decode cX7_saw 4 = .ok (.ifCond .eq 11, 3) := by decide +kernel
theorem dX7_saw_7 : decode cX7_saw 7 = .ok (.aload_n 0, 1) := by decide +kernel
theorem dX7_saw_8 : decode cX7_saw 8 = .ok (.iload_n 2, 1) := by decide +kernel
theorem dX7_saw_9 : decode cX7_saw 9 = .ok (.invokevirtual 188, 3) := by decide +kernel
theorem dX7_saw_12 : decode cX7_saw 12 = .ok (.ifCond .ne 5, 3) := by decide +kernel
theorem dX7_saw_15 : decode cX7_saw 15 = .ok (.iconst (-1), 1) := by decide +kernel
theorem dX7_saw_16 : decode cX7_saw 16 = .ok (.ireturn, 1) := by decide +kernel
theorem dX7_saw_17 : decode cX7_saw 17 = .ok (.aload_n 0, 1) := by decide +kernel
theorem dX7_saw_18 : decode cX7_saw 18 = .ok (.getfield 26, 3) := by decide +kernel
theorem dX7_saw_21 : decode cX7_saw 21 = .ok (.getfield 289, 3) := by decide +kernel
theorem dX7_saw_24 : decode cX7_saw 24 = .ok (.iload_n 1, 1) := by decide +kernel
theorem dX7_saw_25 : decode cX7_saw 25 = .ok (.iload_n 2, 1) := by decide +kernel
theorem dX7_saw_26 : decode cX7_saw 26 = .ok (.iload_n 3, 1) := by decide +kernel
theorem dX7_saw_27 : decode cX7_saw 27 = .ok (.invokevirtual 292, 3) := by decide +kernel
theorem dX7_saw_30 : decode cX7_saw 30 = .ok (.ifCond .eq 16, 3) := by decide +kernel
theorem dX7_saw_33 : decode cX7_saw 33 = .ok (.aload_n 0, 1) := by decide +kernel
theorem dX7_saw_34 : decode cX7_saw 34 = .ok (.getfield 26, 3) := by decide +kernel
theorem dX7_saw_37 : decode cX7_saw 37 = .ok (.getfield 289, 3) := by decide +kernel
theorem dX7_saw_40 : decode cX7_saw 40 = .ok (.getfield 296, 3) := by decide +kernel
theorem dX7_saw_43 : decode cX7_saw 43 = .ok (.goto 5, 3) := by decide +kernel
theorem dX7_saw_46 : decode cX7_saw 46 = .ok (.bipush (-3), 2) := by decide +kernel
theorem dX7_saw_48 : decode cX7_saw 48 = .ok (.ireturn, 1) := by decide +kernel
theorem dX7_forget_0 : decode cX7_forget 0 = .ok (.aload_n 0, 1) := by decide +kernel
theorem dX7_forget_1 : decode cX7_forget 1 = .ok (.getfield 26, 3) := by decide +kernel
theorem dX7_forget_4 : decode cX7_forget 4 = .ok (.getfield 289, 3) := by decide +kernel
theorem dX7_forget_7 : decode cX7_forget 7 = .ok (.getfield 296, 3) := by decide +kernel
theorem dX7_forget_10 : decode cX7_forget 10 = .ok (.istore_n 1, 1) := by decide +kernel
theorem dX7_forget_11 : decode cX7_forget 11 = .ok (.aload_n 0, 1) := by decide +kernel
theorem dX7_forget_12 : decode cX7_forget 12 = .ok (.getfield 26, 3) := by decide +kernel
theorem dX7_forget_15 : decode cX7_forget 15 = .ok (.getfield 289, 3) := by decide +kernel
theorem dX7_forget_18 : decode cX7_forget 18 = .ok (.iconst 0, 1) := by decide +kernel
theorem dX7_forget_19 : decode cX7_forget 19 = .ok (.putfield 296, 3) := by decide +kernel
theorem dX7_forget_22 : decode cX7_forget 22 = .ok (.iload_n 1, 1) := by decide +kernel
theorem dX7_forget_23 : decode cX7_forget 23 = .ok (.ireturn, 1) := by decide +kernel
theorem dX7_fits_0 : decode cX7_fits 0 = .ok (.iload_n 1, 1) := by decide +kernel
theorem dX7_fits_1 : decode cX7_fits 1 = .ok (.invokestatic 219, 3) := by decide +kernel
theorem dX7_fits_4 : decode cX7_fits 4 = .ok (.ifCond .eq 12, 3) := by decide +kernel
theorem dX7_fits_7 : decode cX7_fits 7 = .ok (.iload_n 2, 1) := by decide +kernel
theorem dX7_fits_8 : decode cX7_fits 8 = .ok (.iconst 0, 1) := by decide +kernel
theorem dX7_fits_9 : decode cX7_fits 9 = .ok (.iconst 2, 1) := by decide +kernel
theorem dX7_fits_10 : decode cX7_fits 10 = .ok (.invokestatic 77, 3) := by decide +kernel
theorem dX7_fits_13 : decode cX7_fits 13 = .ok (.ifCond .ne 5, 3) := by decide +kernel
theorem dX7_fits_16 : decode cX7_fits 16 = .ok (.iconst (-1), 1) := by decide +kernel
theorem dX7_fits_17 : decode cX7_fits 17 = .ok (.ireturn, 1) := by decide +kernel
theorem dX7_fits_18 : decode cX7_fits 18 = .ok (.aload_n 0, 1) := by decide +kernel
theorem dX7_fits_19 : decode cX7_fits 19 = .ok (.getfield 26, 3) := by decide +kernel
theorem dX7_fits_22 : decode cX7_fits 22 = .ok (.getfield 289, 3) := by decide +kernel
theorem dX7_fits_25 : decode cX7_fits 25 = .ok (.astore_n 3, 1) := by decide +kernel
theorem dX7_fits_26 : decode cX7_fits 26 = .ok (.iconst 0, 1) := by decide +kernel
theorem dX7_fits_27 : decode cX7_fits 27 = .ok (.istore 4, 2) := by decide +kernel
theorem dX7_fits_29 : decode cX7_fits 29 = .ok (.sipush 9999, 3) := by decide +kernel
theorem dX7_fits_32 : decode cX7_fits 32 = .ok (.istore 5, 2) := by decide +kernel
theorem dX7_fits_34 : decode cX7_fits 34 = .ok (.iconst 0, 1) := by decide +kernel
theorem dX7_fits_35 : decode cX7_fits 35 = .ok (.istore 6, 2) := by decide +kernel
theorem dX7_fits_37 : decode cX7_fits 37 = .ok (.iload 6, 2) := by decide +kernel
theorem dX7_fits_39 : decode cX7_fits 39 = .ok (.aload_n 3, 1) := by decide +kernel
theorem dX7_fits_40 : decode cX7_fits 40 = .ok (.getfield 296, 3) := by decide +kernel
theorem dX7_fits_43 : decode cX7_fits 43 = .ok (.if_icmp .ge 63, 3) := by decide +kernel
theorem dX7_fits_46 : decode cX7_fits 46 = .ok (.aload_n 0, 1) := by decide +kernel
theorem dX7_fits_47 : decode cX7_fits 47 = .ok (.iload_n 1, 1) := by decide +kernel
theorem dX7_fits_48 : decode cX7_fits 48 = .ok (.aload_n 3, 1) := by decide +kernel
theorem dX7_fits_49 : decode cX7_fits 49 = .ok (.getfield 299, 3) := by decide +kernel
theorem dX7_fits_52 : decode cX7_fits 52 = .ok (.iload 6, 2) := by decide +kernel
theorem dX7_fits_54 : decode cX7_fits 54 = .ok (.iaload, 1) := by decide +kernel
theorem dX7_fits_55 : decode cX7_fits 55 = .ok (.aload_n 3, 1) := by decide +kernel
theorem dX7_fits_56 : decode cX7_fits 56 = .ok (.getfield 302, 3) := by decide +kernel
theorem dX7_fits_59 : decode cX7_fits 59 = .ok (.iload 6, 2) := by decide +kernel
theorem dX7_fits_61 : decode cX7_fits 61 = .ok (.iaload, 1) := by decide +kernel
theorem dX7_fits_62 : decode cX7_fits 62 = .ok (.invokevirtual 225, 3) := by decide +kernel
theorem dX7_fits_65 : decode cX7_fits 65 = .ok (.istore 7, 2) := by decide +kernel
theorem dX7_fits_67 : decode cX7_fits 67 = .ok (.aload_n 3, 1) := by decide +kernel
theorem dX7_fits_68 : decode cX7_fits 68 = .ok (.getfield 305, 3) := by decide +kernel
theorem dX7_fits_71 : decode cX7_fits 71 = .ok (.iload 6, 2) := by decide +kernel
theorem dX7_fits_73 : decode cX7_fits 73 = .ok (.baload, 1) := by decide +kernel
theorem dX7_fits_74 : decode cX7_fits 74 = .ok (.ifCond .eq 17, 3) := by decide +kernel
theorem dX7_fits_77 : decode cX7_fits 77 = .ok (.iload 5, 2) := by decide +kernel
theorem dX7_fits_79 : decode cX7_fits 79 = .ok (.iload 7, 2) := by decide +kernel
theorem dX7_fits_81 : decode cX7_fits 81 = .ok (.iconst 1, 1) := by decide +kernel
theorem dX7_fits_82 : decode cX7_fits 82 = .ok (.isub, 1) := by decide +kernel
theorem dX7_fits_83 : decode cX7_fits 83 = .ok (.invokestatic 216, 3) := by decide +kernel
theorem dX7_fits_86 : decode cX7_fits 86 = .ok (.istore 5, 2) := by decide +kernel
theorem dX7_fits_88 : decode cX7_fits 88 = .ok (.goto 12, 3) := by decide +kernel
theorem dX7_fits_91 : decode cX7_fits 91 = .ok (.iload 4, 2) := by decide +kernel
theorem dX7_fits_93 : decode cX7_fits 93 = .ok (.iload 7, 2) := by decide +kernel
theorem dX7_fits_95 : decode cX7_fits 95 = .ok (.invokestatic 280, 3) := by decide +kernel
theorem dX7_fits_98 : decode cX7_fits 98 = .ok (.istore 4, 2) := by decide +kernel
theorem dX7_fits_100 : decode cX7_fits 100 = .ok (.iinc 6 1, 3) := by decide +kernel
theorem dX7_fits_103 : decode cX7_fits 103 = .ok (.goto (-66), 3) := by decide +kernel
theorem dX7_fits_106 : decode cX7_fits 106 = .ok (.iload 4, 2) := by decide +kernel
theorem dX7_fits_108 : decode cX7_fits 108 = .ok (.iload 5, 2) := by decide +kernel
theorem dX7_fits_110 : decode cX7_fits 110 = .ok (.iload_n 2, 1) := by decide +kernel
theorem dX7_fits_111 : decode cX7_fits 111 = .ok (.invokestatic 229, 3) := by decide +kernel
theorem dX7_fits_114 : decode cX7_fits 114 = .ok (.ireturn, 1) := by decide +kernel
theorem dX7_who_0 : decode cX7_who 0 = .ok (.iconst 0, 1) := by decide +kernel
theorem dX7_who_1 : decode cX7_who 1 = .ok (.istore_n 1, 1) := by decide +kernel
theorem dX7_who_2 : decode cX7_who 2 = .ok (.iconst 0, 1) := by decide +kernel
theorem dX7_who_3 : decode cX7_who 3 = .ok (.istore_n 2, 1) := by decide +kernel
theorem dX7_who_4 : decode cX7_who 4 = .ok (.iload_n 2, 1) := by decide +kernel
theorem dX7_who_5 : decode cX7_who 5 = .ok (.aload_n 0, 1) := by decide +kernel
theorem dX7_who_6 : decode cX7_who 6 = .ok (.getfield 26, 3) := by decide +kernel
theorem dX7_who_9 : decode cX7_who 9 = .ok (.getfield 173, 3) := by decide +kernel
theorem dX7_who_12 : decode cX7_who 12 = .ok (.if_icmp .ge 31, 3) := by decide +kernel
theorem dX7_who_15 : decode cX7_who 15 = .ok (.aload_n 0, 1) := by decide +kernel
theorem dX7_who_16 : decode cX7_who 16 = .ok (.aload_n 0, 1) := by decide +kernel
theorem dX7_who_17 : decode cX7_who 17 = .ok (.getfield 26, 3) := by decide +kernel
theorem dX7_who_20 : decode cX7_who 20 = .ok (.getfield 121, 3) := by decide +kernel
theorem dX7_who_23 : decode cX7_who 23 = .ok (.iload_n 2, 1) := by decide +kernel
theorem dX7_who_24 : decode cX7_who 24 = .ok (.aaload, 1) := by decide +kernel
theorem dX7_who_25 : decode cX7_who 25 = .ok (.invokevirtual 308, 3) := by decide +kernel
theorem dX7_who_28 : decode cX7_who 28 = .ok (.ifCond .eq 9, 3) := by decide +kernel
theorem dX7_who_31 : decode cX7_who 31 = .ok (.iload_n 1, 1) := by decide +kernel
theorem dX7_who_32 : decode cX7_who 32 = .ok (.iconst 1, 1) := by decide +kernel
theorem dX7_who_33 : decode cX7_who 33 = .ok (.iload_n 2, 1) := by decide +kernel
theorem dX7_who_34 : decode cX7_who 34 = .ok (.ishl, 1) := by decide +kernel
theorem dX7_who_35 : decode cX7_who 35 = .ok (.ior, 1) := by decide +kernel
theorem dX7_who_36 : decode cX7_who 36 = .ok (.istore_n 1, 1) := by decide +kernel
theorem dX7_who_37 : decode cX7_who 37 = .ok (.iinc 2 1, 3) := by decide +kernel
theorem dX7_who_40 : decode cX7_who 40 = .ok (.goto (-36), 3) := by decide +kernel
theorem dX7_who_43 : decode cX7_who 43 = .ok (.iload_n 1, 1) := by decide +kernel
theorem dX7_who_44 : decode cX7_who 44 = .ok (.ireturn, 1) := by decide +kernel
theorem dX7_keep_0 : decode cX7_keep 0 = .ok (.iload_n 1, 1) := by decide +kernel
theorem dX7_keep_1 : decode cX7_keep 1 = .ok (.iconst 0, 1) := by decide +kernel
theorem dX7_keep_2 : decode cX7_keep 2 = .ok (.iconst 1, 1) := by decide +kernel
theorem dX7_keep_3 : decode cX7_keep 3 = .ok (.invokestatic 77, 3) := by decide +kernel
theorem dX7_keep_6 : decode cX7_keep 6 = .ok (.ifCond .ne 5, 3) := by decide +kernel
theorem dX7_keep_9 : decode cX7_keep 9 = .ok (.iconst (-1), 1) := by decide +kernel
theorem dX7_keep_10 : decode cX7_keep 10 = .ok (.ireturn, 1) := by decide +kernel
theorem dX7_keep_11 : decode cX7_keep 11 = .ok (.aload_n 0, 1) := by decide +kernel
theorem dX7_keep_12 : decode cX7_keep 12 = .ok (.getfield 34, 3) := by decide +kernel
theorem dX7_keep_15 : decode cX7_keep 15 = .ok (.iload_n 1, 1) := by decide +kernel
theorem dX7_keep_16 : decode cX7_keep 16 = .ok (.baload, 1) := by decide +kernel
theorem dX7_keep_17 : decode cX7_keep 17 = .ok (.invokestatic 140, 3) := by decide +kernel
theorem dX7_keep_20 : decode cX7_keep 20 = .ok (.istore_n 2, 1) := by decide +kernel
theorem dX7_keep_21 : decode cX7_keep 21 = .ok (.aload_n 0, 1) := by decide +kernel
theorem dX7_keep_22 : decode cX7_keep 22 = .ok (.getfield 30, 3) := by decide +kernel
theorem dX7_keep_25 : decode cX7_keep 25 = .ok (.iload_n 1, 1) := by decide +kernel
theorem dX7_keep_26 : decode cX7_keep 26 = .ok (.aaload, 1) := by decide +kernel
theorem dX7_keep_27 : decode cX7_keep 27 = .ok (.aload_n 0, 1) := by decide +kernel
theorem dX7_keep_28 : decode cX7_keep 28 = .ok (.getfield 26, 3) := by decide +kernel
theorem dX7_keep_31 : decode cX7_keep 31 = .ok (.invokevirtual 312, 3) := by decide +kernel
theorem dX7_keep_34 : decode cX7_keep 34 = .ok (.aload_n 0, 1) := by decide +kernel
theorem dX7_keep_35 : decode cX7_keep 35 = .ok (.getfield 34, 3) := by decide +kernel
theorem dX7_keep_38 : decode cX7_keep 38 = .ok (.iload_n 1, 1) := by decide +kernel
theorem dX7_keep_39 : decode cX7_keep 39 = .ok (.iconst 1, 1) := by decide +kernel
theorem dX7_keep_40 : decode cX7_keep 40 = .ok (.bastore, 1) := by decide +kernel
theorem dX7_keep_41 : decode cX7_keep 41 = .ok (.iload_n 2, 1) := by decide +kernel
theorem dX7_keep_42 : decode cX7_keep 42 = .ok (.ireturn, 1) := by decide +kernel
theorem dX7_restore_0 : decode cX7_restore 0 = .ok (.iload_n 1, 1) := by decide +kernel
theorem dX7_restore_1 : decode cX7_restore 1 = .ok (.iconst 0, 1) := by decide +kernel
theorem dX7_restore_2 : decode cX7_restore 2 = .ok (.iconst 1, 1) := by decide +kernel
theorem dX7_restore_3 : decode cX7_restore 3 = .ok (.invokestatic 77, 3) := by decide +kernel
theorem dX7_restore_6 : decode cX7_restore 6 = .ok (.ifCond .ne 5, 3) := by decide +kernel
theorem dX7_restore_9 : decode cX7_restore 9 = .ok (.iconst (-1), 1) := by decide +kernel
theorem dX7_restore_10 : decode cX7_restore 10 = .ok (.ireturn, 1) := by decide +kernel
theorem dX7_restore_11 : decode cX7_restore 11 = .ok (.aload_n 0, 1) := by decide +kernel
theorem dX7_restore_12 : decode cX7_restore 12 = .ok (.getfield 34, 3) := by decide +kernel
theorem dX7_restore_15 : decode cX7_restore 15 = .ok (.iload_n 1, 1) := by decide +kernel
theorem dX7_restore_16 : decode cX7_restore 16 = .ok (.baload, 1) := by decide +kernel
theorem dX7_restore_17 : decode cX7_restore 17 = .ok (.ifCond .ne 6, 3) := by decide +kernel
theorem dX7_restore_20 : decode cX7_restore 20 = .ok (.bipush (-2), 2) := by decide +kernel
theorem dX7_restore_22 : decode cX7_restore 22 = .ok (.ireturn, 1) := by decide +kernel
theorem dX7_restore_23 : decode cX7_restore 23 = .ok (.aload_n 0, 1) := by decide +kernel
theorem dX7_restore_24 : decode cX7_restore 24 = .ok (.getfield 26, 3) := by decide +kernel
theorem dX7_restore_27 : decode cX7_restore 27 = .ok (.aload_n 0, 1) := by decide +kernel
theorem dX7_restore_28 : decode cX7_restore 28 = .ok (.getfield 30, 3) := by decide +kernel
theorem dX7_restore_31 : decode cX7_restore 31 = .ok (.iload_n 1, 1) := by decide +kernel
theorem dX7_restore_32 : decode cX7_restore 32 = .ok (.aaload, 1) := by decide +kernel
theorem dX7_restore_33 : decode cX7_restore 33 = .ok (.invokevirtual 312, 3) := by decide +kernel
theorem dX7_restore_36 : decode cX7_restore 36 = .ok (.aload_n 0, 1) := by decide +kernel
theorem dX7_restore_37 : decode cX7_restore 37 = .ok (.getfield 26, 3) := by decide +kernel
theorem dX7_restore_40 : decode cX7_restore 40 = .ok (.getfield 178, 3) := by decide +kernel
theorem dX7_restore_43 : decode cX7_restore 43 = .ok (.ireturn, 1) := by decide +kernel
theorem dX7_sheet_0 : decode cX7_sheet 0 = .ok (.iload_n 1, 1) := by decide +kernel
theorem dX7_sheet_1 : decode cX7_sheet 1 = .ok (.invokestatic 315, 3) := by decide +kernel
theorem dX7_sheet_4 : decode cX7_sheet 4 = .ok (.ifCond .eq 16, 3) := by decide +kernel
theorem dX7_sheet_7 : decode cX7_sheet 7 = .ok (.iload_n 2, 1) := by decide +kernel
theorem dX7_sheet_8 : decode cX7_sheet 8 = .ok (.invokestatic 318, 3) := by decide +kernel
theorem dX7_sheet_11 : decode cX7_sheet 11 = .ok (.ifCond .eq 9, 3) := by decide +kernel
theorem dX7_sheet_14 : decode cX7_sheet 14 = .ok (.iload_n 3, 1) := by decide +kernel
theorem dX7_sheet_15 : decode cX7_sheet 15 = .ok (.bipush 40, 2) := by decide +kernel
theorem dX7_sheet_17 : decode cX7_sheet 17 = .ok (.if_icmp .le 5, 3) := by decide +kernel
theorem dX7_sheet_20 : decode cX7_sheet 20 = .ok (.iconst (-1), 1) := by decide +kernel
theorem dX7_sheet_21 : decode cX7_sheet 21 = .ok (.ireturn, 1) := by decide +kernel
theorem dX7_sheet_22 : decode cX7_sheet 22 = .ok (.iload_n 3, 1) := by decide +kernel
theorem dX7_sheet_23 : decode cX7_sheet 23 = .ok (.ifCond .ge 6, 3) := by decide +kernel
theorem dX7_sheet_26 : decode cX7_sheet 26 = .ok (.bipush (-14), 2) := by decide +kernel
theorem dX7_sheet_28 : decode cX7_sheet 28 = .ok (.ireturn, 1) := by decide +kernel
theorem dX7_sheet_29 : decode cX7_sheet 29 = .ok (.aload_n 0, 1) := by decide +kernel
theorem dX7_sheet_30 : decode cX7_sheet 30 = .ok (.getfield 40, 3) := by decide +kernel
theorem dX7_sheet_33 : decode cX7_sheet 33 = .ok (.iload_n 1, 1) := by decide +kernel
theorem dX7_sheet_34 : decode cX7_sheet 34 = .ok (.aaload, 1) := by decide +kernel
theorem dX7_sheet_35 : decode cX7_sheet 35 = .ok (.iload_n 2, 1) := by decide +kernel
theorem dX7_sheet_36 : decode cX7_sheet 36 = .ok (.iload_n 3, 1) := by decide +kernel
theorem dX7_sheet_37 : decode cX7_sheet 37 = .ok (.invokevirtual 321, 3) := by decide +kernel
theorem dX7_sheet_40 : decode cX7_sheet 40 = .ok (.iconst 1, 1) := by decide +kernel
theorem dX7_sheet_41 : decode cX7_sheet 41 = .ok (.ireturn, 1) := by decide +kernel
theorem dX7_lay_0 : decode cX7_lay 0 = .ok (.iload_n 1, 1) := by decide +kernel
theorem dX7_lay_1 : decode cX7_lay 1 = .ok (.invokestatic 315, 3) := by decide +kernel
theorem dX7_lay_4 : decode cX7_lay 4 = .ok (.ifCond .ne 5, 3) := by decide +kernel
theorem dX7_lay_7 : decode cX7_lay 7 = .ok (.iconst (-1), 1) := by decide +kernel
theorem dX7_lay_8 : decode cX7_lay 8 = .ok (.ireturn, 1) := by decide +kernel
theorem dX7_lay_9 : decode cX7_lay 9 = .ok (.aload_n 0, 1) := by decide +kernel
theorem dX7_lay_10 : decode cX7_lay 10 = .ok (.getfield 40, 3) := by decide +kernel
theorem dX7_lay_13 : decode cX7_lay 13 = .ok (.iload_n 1, 1) := by decide +kernel
theorem dX7_lay_14 : decode cX7_lay 14 = .ok (.aaload, 1) := by decide +kernel
theorem dX7_lay_15 : decode cX7_lay 15 = .ok (.iload_n 2, 1) := by decide +kernel
theorem dX7_lay_16 : decode cX7_lay 16 = .ok (.invokevirtual 325, 3) := by decide +kernel
theorem dX7_lay_19 : decode cX7_lay 19 = .ok (.istore 4, 2) := by decide +kernel
theorem dX7_lay_21 : decode cX7_lay 21 = .ok (.iload 4, 2) := by decide +kernel
theorem dX7_lay_23 : decode cX7_lay 23 = .ok (.ifCond .eq 9, 3) := by decide +kernel
theorem dX7_lay_26 : decode cX7_lay 26 = .ok (.bipush (-10), 2) := by decide +kernel
theorem dX7_lay_28 : decode cX7_lay 28 = .ok (.iload 4, 2) := by decide +kernel
theorem dX7_lay_30 : decode cX7_lay 30 = .ok (.isub, 1) := by decide +kernel
theorem dX7_lay_31 : decode cX7_lay 31 = .ok (.ireturn, 1) := by decide +kernel
theorem dX7_lay_32 : decode cX7_lay 32 = .ok (.aload_n 0, 1) := by decide +kernel
theorem dX7_lay_33 : decode cX7_lay 33 = .ok (.getfield 40, 3) := by decide +kernel
theorem dX7_lay_36 : decode cX7_lay 36 = .ok (.iload_n 1, 1) := by decide +kernel
theorem dX7_lay_37 : decode cX7_lay 37 = .ok (.aaload, 1) := by decide +kernel
theorem dX7_lay_38 : decode cX7_lay 38 = .ok (.iload_n 2, 1) := by decide +kernel
theorem dX7_lay_39 : decode cX7_lay 39 = .ok (.iload_n 3, 1) := by decide +kernel
theorem dX7_lay_40 : decode cX7_lay 40 = .ok (.invokevirtual 328, 3) := by decide +kernel
theorem dX7_lay_43 : decode cX7_lay 43 = .ok (.iconst 1, 1) := by decide +kernel
theorem dX7_lay_44 : decode cX7_lay 44 = .ok (.ireturn, 1) := by decide +kernel
theorem dX7_read_0 : decode cX7_read 0 = .ok (.iload_n 1, 1) := by decide +kernel
theorem dX7_read_1 : decode cX7_read 1 = .ok (.invokestatic 315, 3) := by decide +kernel
theorem dX7_read_4 : decode cX7_read 4 = .ok (.ifCond .eq 21, 3) := by decide +kernel
theorem dX7_read_7 : decode cX7_read 7 = .ok (.iload_n 2, 1) := by decide +kernel
theorem dX7_read_8 : decode cX7_read 8 = .ok (.invokestatic 318, 3) := by decide +kernel
theorem dX7_read_11 : decode cX7_read 11 = .ok (.ifCond .eq 14, 3) := by decide +kernel
theorem dX7_read_14 : decode cX7_read 14 = .ok (.iload 4, 2) := by decide +kernel
theorem dX7_read_16 : decode cX7_read 16 = .ok (.iconst 0, 1) := by decide +kernel
theorem dX7_read_17 : decode cX7_read 17 = .ok (.bipush 12, 2) := by decide +kernel
theorem dX7_read_19 : decode cX7_read 19 = .ok (.invokestatic 77, 3) := by decide +kernel
theorem dX7_read_22 : decode cX7_read 22 = .ok (.ifCond .ne 5, 3) := by decide +kernel
theorem dX7_read_25 : decode cX7_read 25 = .ok (.iconst (-1), 1) := by decide +kernel
theorem dX7_read_26 : decode cX7_read 26 = .ok (.ireturn, 1) := by decide +kernel
theorem dX7_read_27 : decode cX7_read 27 = .ok (.aload_n 0, 1) := by decide +kernel
theorem dX7_read_28 : decode cX7_read 28 = .ok (.getfield 40, 3) := by decide +kernel
theorem dX7_read_31 : decode cX7_read 31 = .ok (.iload_n 1, 1) := by decide +kernel
theorem dX7_read_32 : decode cX7_read 32 = .ok (.aaload, 1) := by decide +kernel
theorem dX7_read_33 : decode cX7_read 33 = .ok (.astore 5, 2) := by decide +kernel
theorem dX7_read_35 : decode cX7_read 35 = .ok (.iconst 0, 1) := by decide +kernel
theorem dX7_read_36 : decode cX7_read 36 = .ok (.istore 6, 2) := by decide +kernel
theorem dX7_read_38 : decode cX7_read 38 = .ok (.aload_n 0, 1) := by decide +kernel
theorem dX7_read_39 : decode cX7_read 39 = .ok (.getfield 48, 3) := by decide +kernel
theorem dX7_read_42 : decode cX7_read 42 = .ok (.iconst 0, 1) := by decide +kernel
theorem dX7_read_43 : decode cX7_read 43 = .ok (.putfield 296, 3) := by decide +kernel
theorem dX7_read_46 : decode cX7_read 46 = .ok (.iconst 0, 1) := by decide +kernel
theorem dX7_read_47 : decode cX7_read 47 = .ok (.istore 7, 2) := by decide +kernel
theorem dX7_read_49 : decode cX7_read 49 = .ok (.iload 7, 2) := by decide +kernel
theorem dX7_read_51 : decode cX7_read 51 = .ok (.iload 4, 2) := by decide +kernel
theorem dX7_read_53 : decode cX7_read 53 = .ok (.if_icmp .ge 151, 3) := by decide +kernel
theorem dX7_read_56 : decode cX7_read 56 = .ok (.iload_n 3, 1) := by decide +kernel
theorem dX7_read_57 : decode cX7_read 57 = .ok (.iconst 3, 1) := by decide +kernel
theorem dX7_read_58 : decode cX7_read 58 = .ok (.iload 7, 2) := by decide +kernel
theorem dX7_read_60 : decode cX7_read 60 = .ok (.imul, 1) := by decide +kernel
theorem dX7_read_61 : decode cX7_read 61 = .ok (.iadd, 1) := by decide +kernel
theorem dX7_read_62 : decode cX7_read 62 = .ok (.istore 8, 2) := by decide +kernel
theorem dX7_read_64 : decode cX7_read 64 = .ok (.aload 5, 2) := by decide +kernel
theorem dX7_read_66 : decode cX7_read 66 = .ok (.iload_n 2, 1) := by decide +kernel
theorem dX7_read_67 : decode cX7_read 67 = .ok (.iload 8, 2) := by decide +kernel
theorem dX7_read_69 : decode cX7_read 69 = .ok (.invokevirtual 331, 3) := by decide +kernel
theorem dX7_read_72 : decode cX7_read 72 = .ok (.istore 6, 2) := by decide +kernel
theorem dX7_read_74 : decode cX7_read 74 = .ok (.iload 6, 2) := by decide +kernel
theorem dX7_read_76 : decode cX7_read 76 = .ok (.ifCond .eq 6, 3) := by decide +kernel
theorem dX7_read_79 : decode cX7_read 79 = .ok (.goto 125, 3) := by decide +kernel
theorem dX7_read_82 : decode cX7_read 82 = .ok (.aload 5, 2) := by decide +kernel
theorem dX7_read_84 : decode cX7_read 84 = .ok (.getfield 334, 3) := by decide +kernel
theorem dX7_read_87 : decode cX7_read 87 = .ok (.iload 8, 2) := by decide +kernel
theorem dX7_read_89 : decode cX7_read 89 = .ok (.iaload, 1) := by decide +kernel
theorem dX7_read_90 : decode cX7_read 90 = .ok (.istore 9, 2) := by decide +kernel
theorem dX7_read_92 : decode cX7_read 92 = .ok (.aload 5, 2) := by decide +kernel
theorem dX7_read_94 : decode cX7_read 94 = .ok (.getfield 334, 3) := by decide +kernel
theorem dX7_read_97 : decode cX7_read 97 = .ok (.iload 8, 2) := by decide +kernel
theorem dX7_read_99 : decode cX7_read 99 = .ok (.iconst 1, 1) := by decide +kernel
theorem dX7_read_100 : decode cX7_read 100 = .ok (.iadd, 1) := by decide +kernel
theorem dX7_read_101 : decode cX7_read 101 = .ok (.iaload, 1) := by decide +kernel
theorem dX7_read_102 : decode cX7_read 102 = .ok (.istore 10, 2) := by decide +kernel
theorem dX7_read_104 : decode cX7_read 104 = .ok (.aload 5, 2) := by decide +kernel
theorem dX7_read_106 : decode cX7_read 106 = .ok (.getfield 334, 3) := by decide +kernel
theorem dX7_read_109 : decode cX7_read 109 = .ok (.iload 8, 2) := by decide +kernel
theorem dX7_read_111 : decode cX7_read 111 = .ok (.iconst 2, 1) := by decide +kernel
theorem dX7_read_112 : decode cX7_read 112 = .ok (.iadd, 1) := by decide +kernel
theorem dX7_read_113 : decode cX7_read 113 = .ok (.iaload, 1) := by decide +kernel
theorem dX7_read_114 : decode cX7_read 114 = .ok (.istore 11, 2) := by decide +kernel
theorem dX7_read_116 : decode cX7_read 116 = .ok (.iload 9, 2) := by decide +kernel
theorem dX7_read_118 : decode cX7_read 118 = .ok (.invokestatic 164, 3) := by decide +kernel
theorem dX7_read_121 : decode cX7_read 121 = .ok (.ifCond .eq 22, 3) := by decide +kernel
theorem dX7_read_124 : decode cX7_read 124 = .ok (.aload_n 0, 1) := by decide +kernel
theorem dX7_read_125 : decode cX7_read 125 = .ok (.iload 10, 2) := by decide +kernel
theorem dX7_read_127 : decode cX7_read 127 = .ok (.invokevirtual 188, 3) := by decide +kernel
theorem dX7_read_130 : decode cX7_read 130 = .ok (.ifCond .eq 13, 3) := by decide +kernel
theorem dX7_read_133 : decode cX7_read 133 = .ok (.iload 11, 2) := by decide +kernel
theorem dX7_read_135 : decode cX7_read 135 = .ok (.iconst 0, 1) := by decide +kernel
theorem dX7_read_136 : decode cX7_read 136 = .ok (.iconst 1, 1) := by decide +kernel
theorem dX7_read_137 : decode cX7_read 137 = .ok (.invokestatic 77, 3) := by decide +kernel
theorem dX7_read_140 : decode cX7_read 140 = .ok (.ifCond .ne 9, 3) := by decide +kernel
theorem dX7_read_143 : decode cX7_read 143 = .ok (.bipush (-20), 2) := by decide +kernel
theorem dX7_read_145 : decode cX7_read 145 = .ok (.iload 7, 2) := by decide +kernel
theorem dX7_read_147 : decode cX7_read 147 = .ok (.isub, 1) := by decide +kernel
theorem dX7_read_148 : decode cX7_read 148 = .ok (.ireturn, 1) := by decide +kernel
theorem dX7_read_149 : decode cX7_read 149 = .ok (.aload_n 0, 1) := by decide +kernel
theorem dX7_read_150 : decode cX7_read 150 = .ok (.getfield 26, 3) := by decide +kernel
theorem dX7_read_153 : decode cX7_read 153 = .ok (.getfield 289, 3) := by decide +kernel
theorem dX7_read_156 : decode cX7_read 156 = .ok (.getfield 296, 3) := by decide +kernel
theorem dX7_read_159 : decode cX7_read 159 = .ok (.aload_n 0, 1) := by decide +kernel
theorem dX7_read_160 : decode cX7_read 160 = .ok (.getfield 48, 3) := by decide +kernel
theorem dX7_read_163 : decode cX7_read 163 = .ok (.getfield 296, 3) := by decide +kernel
theorem dX7_read_166 : decode cX7_read 166 = .ok (.iadd, 1) := by decide +kernel
theorem dX7_read_167 : decode cX7_read 167 = .ok (.bipush 12, 2) := by decide +kernel
theorem dX7_read_169 : decode cX7_read 169 = .ok (.if_icmp .lt 6, 3) := by decide +kernel
theorem dX7_read_172 : decode cX7_read 172 = .ok (.bipush (-3), 2) := by decide +kernel
theorem dX7_read_174 : decode cX7_read 174 = .ok (.ireturn, 1) := by decide +kernel
theorem dX7_read_175 : decode cX7_read 175 = .ok (.aload_n 0, 1) := by decide +kernel
theorem dX7_read_176 : decode cX7_read 176 = .ok (.getfield 48, 3) := by decide +kernel
theorem dX7_read_179 : decode cX7_read 179 = .ok (.iload 9, 2) := by decide +kernel
theorem dX7_read_181 : decode cX7_read 181 = .ok (.iload 10, 2) := by decide +kernel
theorem dX7_read_183 : decode cX7_read 183 = .ok (.iload 11, 2) := by decide +kernel
theorem dX7_read_185 : decode cX7_read 185 = .ok (.iconst 1, 1) := by decide +kernel
theorem dX7_read_186 : decode cX7_read 186 = .ok (.if_icmp .ne 7, 3) := by decide +kernel
theorem dX7_read_189 : decode cX7_read 189 = .ok (.iconst 1, 1) := by decide +kernel
theorem dX7_read_190 : decode cX7_read 190 = .ok (.goto 4, 3) := by decide +kernel
theorem dX7_read_193 : decode cX7_read 193 = .ok (.iconst 0, 1) := by decide +kernel
theorem dX7_read_194 : decode cX7_read 194 = .ok (.invokevirtual 292, 3) := by decide +kernel
theorem dX7_read_197 : decode cX7_read 197 = .ok (.pop, 1) := by decide +kernel
theorem dX7_read_198 : decode cX7_read 198 = .ok (.iinc 7 1, 3) := by decide +kernel
theorem dX7_read_201 : decode cX7_read 201 = .ok (.goto (-152), 3) := by decide +kernel
theorem dX7_read_204 : decode cX7_read 204 = .ok (.iconst 0, 1) := by decide +kernel
theorem dX7_read_205 : decode cX7_read 205 = .ok (.istore 7, 2) := by decide +kernel
theorem dX7_read_207 : decode cX7_read 207 = .ok (.iload 7, 2) := by decide +kernel
theorem dX7_read_209 : decode cX7_read 209 = .ok (.aload_n 0, 1) := by decide +kernel
theorem dX7_read_210 : decode cX7_read 210 = .ok (.getfield 48, 3) := by decide +kernel
theorem dX7_read_213 : decode cX7_read 213 = .ok (.getfield 296, 3) := by decide +kernel
theorem dX7_read_216 : decode cX7_read 216 = .ok (.if_icmp .ge 50, 3) := by decide +kernel
theorem dX7_read_219 : decode cX7_read 219 = .ok (.aload_n 0, 1) := by decide +kernel
theorem dX7_read_220 : decode cX7_read 220 = .ok (.getfield 26, 3) := by decide +kernel
theorem dX7_read_223 : decode cX7_read 223 = .ok (.getfield 289, 3) := by decide +kernel
theorem dX7_read_226 : decode cX7_read 226 = .ok (.aload_n 0, 1) := by decide +kernel
theorem dX7_read_227 : decode cX7_read 227 = .ok (.getfield 48, 3) := by decide +kernel
theorem dX7_read_230 : decode cX7_read 230 = .ok (.getfield 302, 3) := by decide +kernel
theorem dX7_read_233 : decode cX7_read 233 = .ok (.iload 7, 2) := by decide +kernel
theorem dX7_read_235 : decode cX7_read 235 = .ok (.iaload, 1) := by decide +kernel
theorem dX7_read_236 : decode cX7_read 236 = .ok (.aload_n 0, 1) := by decide +kernel
theorem dX7_read_237 : decode cX7_read 237 = .ok (.getfield 48, 3) := by decide +kernel
theorem dX7_read_240 : decode cX7_read 240 = .ok (.getfield 299, 3) := by decide +kernel
theorem dX7_read_243 : decode cX7_read 243 = .ok (.iload 7, 2) := by decide +kernel
theorem dX7_read_245 : decode cX7_read 245 = .ok (.iaload, 1) := by decide +kernel
theorem dX7_read_246 : decode cX7_read 246 = .ok (.aload_n 0, 1) := by decide +kernel
theorem dX7_read_247 : decode cX7_read 247 = .ok (.getfield 48, 3) := by decide +kernel
theorem dX7_read_250 : decode cX7_read 250 = .ok (.getfield 305, 3) := by decide +kernel
theorem dX7_read_253 : decode cX7_read 253 = .ok (.iload 7, 2) := by decide +kernel
theorem dX7_read_255 : decode cX7_read 255 = .ok (.baload, 1) := by decide +kernel
theorem dX7_read_256 : decode cX7_read 256 = .ok (.invokevirtual 292, 3) := by decide +kernel
theorem dX7_read_259 : decode cX7_read 259 = .ok (.pop, 1) := by decide +kernel
theorem dX7_read_260 : decode cX7_read 260 = .ok (.iinc 7 1, 3) := by decide +kernel
theorem dX7_read_263 : decode cX7_read 263 = .ok (.goto (-56), 3) := by decide +kernel
theorem dX7_read_266 : decode cX7_read 266 = .ok (.aload_n 0, 1) := by decide +kernel
theorem dX7_read_267 : decode cX7_read 267 = .ok (.iload 6, 2) := by decide +kernel
theorem dX7_read_269 : decode cX7_read 269 = .ok (.putfield 337, 3) := by decide +kernel
theorem dX7_read_272 : decode cX7_read 272 = .ok (.aload_n 0, 1) := by decide +kernel
theorem dX7_read_273 : decode cX7_read 273 = .ok (.getfield 48, 3) := by decide +kernel
theorem dX7_read_276 : decode cX7_read 276 = .ok (.getfield 296, 3) := by decide +kernel
theorem dX7_read_279 : decode cX7_read 279 = .ok (.ireturn, 1) := by decide +kernel
theorem dX7_torn_0 : decode cX7_torn 0 = .ok (.aload_n 0, 1) := by decide +kernel
theorem dX7_torn_1 : decode cX7_torn 1 = .ok (.getfield 337, 3) := by decide +kernel
theorem dX7_torn_4 : decode cX7_torn 4 = .ok (.ireturn, 1) := by decide +kernel
theorem dX7_count_0 : decode cX7_count 0 = .ok (.iload_n 1, 1) := by decide +kernel
theorem dX7_count_1 : decode cX7_count 1 = .ok (.tableswitch 120 0 5 #[39, 47, 52, 63, 83, 91], 39) := by decide +kernel
theorem dX7_count_40 : decode cX7_count 40 = .ok (.aload_n 0, 1) := by decide +kernel
theorem dX7_count_41 : decode cX7_count 41 = .ok (.getfield 26, 3) := by decide +kernel
theorem dX7_count_44 : decode cX7_count 44 = .ok (.getfield 173, 3) := by decide +kernel
theorem dX7_count_47 : decode cX7_count 47 = .ok (.ireturn, 1) := by decide +kernel
theorem dX7_count_48 : decode cX7_count 48 = .ok (.aload_n 0, 1) := by decide +kernel
theorem dX7_count_49 : decode cX7_count 49 = .ok (.invokevirtual 340, 3) := by decide +kernel
theorem dX7_count_52 : decode cX7_count 52 = .ok (.ireturn, 1) := by decide +kernel
theorem dX7_count_53 : decode cX7_count 53 = .ok (.aload_n 0, 1) := by decide +kernel
theorem dX7_count_54 : decode cX7_count 54 = .ok (.getfield 26, 3) := by decide +kernel
theorem dX7_count_57 : decode cX7_count 57 = .ok (.getfield 289, 3) := by decide +kernel
theorem dX7_count_60 : decode cX7_count 60 = .ok (.getfield 296, 3) := by decide +kernel
theorem dX7_count_63 : decode cX7_count 63 = .ok (.ireturn, 1) := by decide +kernel
theorem dX7_count_64 : decode cX7_count 64 = .ok (.aload_n 0, 1) := by decide +kernel
theorem dX7_count_65 : decode cX7_count 65 = .ok (.getfield 34, 3) := by decide +kernel
theorem dX7_count_68 : decode cX7_count 68 = .ok (.iconst 0, 1) := by decide +kernel
theorem dX7_count_69 : decode cX7_count 69 = .ok (.baload, 1) := by decide +kernel
theorem dX7_count_70 : decode cX7_count 70 = .ok (.invokestatic 140, 3) := by decide +kernel
theorem dX7_count_73 : decode cX7_count 73 = .ok (.aload_n 0, 1) := by decide +kernel
theorem dX7_count_74 : decode cX7_count 74 = .ok (.getfield 34, 3) := by decide +kernel
theorem dX7_count_77 : decode cX7_count 77 = .ok (.iconst 1, 1) := by decide +kernel
theorem dX7_count_78 : decode cX7_count 78 = .ok (.baload, 1) := by decide +kernel
theorem dX7_count_79 : decode cX7_count 79 = .ok (.invokestatic 140, 3) := by decide +kernel
theorem dX7_count_82 : decode cX7_count 82 = .ok (.iadd, 1) := by decide +kernel
theorem dX7_count_83 : decode cX7_count 83 = .ok (.ireturn, 1) := by decide +kernel
theorem dX7_count_84 : decode cX7_count 84 = .ok (.aload_n 0, 1) := by decide +kernel
theorem dX7_count_85 : decode cX7_count 85 = .ok (.getfield 10, 3) := by decide +kernel
theorem dX7_count_88 : decode cX7_count 88 = .ok (.getfield 74, 3) := by decide +kernel
theorem dX7_count_91 : decode cX7_count 91 = .ok (.ireturn, 1) := by decide +kernel
theorem dX7_count_92 : decode cX7_count 92 = .ok (.aload_n 0, 1) := by decide +kernel
theorem dX7_count_93 : decode cX7_count 93 = .ok (.getfield 40, 3) := by decide +kernel
theorem dX7_count_96 : decode cX7_count 96 = .ok (.iconst 0, 1) := by decide +kernel
theorem dX7_count_97 : decode cX7_count 97 = .ok (.aaload, 1) := by decide +kernel
theorem dX7_count_98 : decode cX7_count 98 = .ok (.getfield 343, 3) := by decide +kernel
theorem dX7_count_101 : decode cX7_count 101 = .ok (.bipush (-4), 2) := by decide +kernel
theorem dX7_count_103 : decode cX7_count 103 = .ok (.if_icmp .ne 8, 3) := by decide +kernel
theorem dX7_count_106 : decode cX7_count 106 = .ok (.bipush (-4), 2) := by decide +kernel
theorem dX7_count_108 : decode cX7_count 108 = .ok (.goto 12, 3) := by decide +kernel
theorem dX7_count_111 : decode cX7_count 111 = .ok (.aload_n 0, 1) := by decide +kernel
theorem dX7_count_112 : decode cX7_count 112 = .ok (.getfield 40, 3) := by decide +kernel
theorem dX7_count_115 : decode cX7_count 115 = .ok (.iconst 0, 1) := by decide +kernel
theorem dX7_count_116 : decode cX7_count 116 = .ok (.aaload, 1) := by decide +kernel
theorem dX7_count_117 : decode cX7_count 117 = .ok (.getfield 346, 3) := by decide +kernel
theorem dX7_count_120 : decode cX7_count 120 = .ok (.ireturn, 1) := by decide +kernel
theorem dX7_count_121 : decode cX7_count 121 = .ok (.iconst (-1), 1) := by decide +kernel
theorem dX7_count_122 : decode cX7_count 122 = .ok (.ireturn, 1) := by decide +kernel
theorem dX7_within_0 : decode cX7_within 0 = .ok (.iload_n 0, 1) := by decide +kernel
theorem dX7_within_1 : decode cX7_within 1 = .ok (.iload_n 1, 1) := by decide +kernel
theorem dX7_within_2 : decode cX7_within 2 = .ok (.if_icmp .lt 12, 3) := by decide +kernel
theorem dX7_within_5 : decode cX7_within 5 = .ok (.iload_n 0, 1) := by decide +kernel
theorem dX7_within_6 : decode cX7_within 6 = .ok (.iload_n 2, 1) := by decide +kernel
theorem dX7_within_7 : decode cX7_within 7 = .ok (.if_icmp .gt 7, 3) := by decide +kernel
theorem dX7_within_10 : decode cX7_within 10 = .ok (.iconst 1, 1) := by decide +kernel
theorem dX7_within_11 : decode cX7_within 11 = .ok (.goto 4, 3) := by decide +kernel
theorem dX7_within_14 : decode cX7_within 14 = .ok (.iconst 0, 1) := by decide +kernel
theorem dX7_within_15 : decode cX7_within 15 = .ok (.ireturn, 1) := by decide +kernel
theorem dX7_isThumb_0 : decode cX7_isThumb 0 = .ok (.iload_n 0, 1) := by decide +kernel
theorem dX7_isThumb_1 : decode cX7_isThumb 1 = .ok (.iconst 0, 1) := by decide +kernel
theorem dX7_isThumb_2 : decode cX7_isThumb 2 = .ok (.sipush 500, 3) := by decide +kernel
theorem dX7_isThumb_5 : decode cX7_isThumb 5 = .ok (.invokestatic 77, 3) := by decide +kernel
theorem dX7_isThumb_8 : decode cX7_isThumb 8 = .ok (.ireturn, 1) := by decide +kernel
theorem dX7_isHeavy_0 : decode cX7_isHeavy 0 = .ok (.iload_n 0, 1) := by decide +kernel
theorem dX7_isHeavy_1 : decode cX7_isHeavy 1 = .ok (.iconst 1, 1) := by decide +kernel
theorem dX7_isHeavy_2 : decode cX7_isHeavy 2 = .ok (.sipush 999, 3) := by decide +kernel
theorem dX7_isHeavy_5 : decode cX7_isHeavy 5 = .ok (.invokestatic 77, 3) := by decide +kernel
theorem dX7_isHeavy_8 : decode cX7_isHeavy 8 = .ok (.ireturn, 1) := by decide +kernel
theorem dX7_isLate_0 : decode cX7_isLate 0 = .ok (.iload_n 0, 1) := by decide +kernel
theorem dX7_isLate_1 : decode cX7_isLate 1 = .ok (.iconst 0, 1) := by decide +kernel
theorem dX7_isLate_2 : decode cX7_isLate 2 = .ok (.bipush 50, 2) := by decide +kernel
theorem dX7_isLate_4 : decode cX7_isLate 4 = .ok (.invokestatic 77, 3) := by decide +kernel
theorem dX7_isLate_7 : decode cX7_isLate 7 = .ok (.ireturn, 1) := by decide +kernel
theorem dX7_isStep_0 : decode cX7_isStep 0 = .ok (.iload_n 0, 1) := by decide +kernel
theorem dX7_isStep_1 : decode cX7_isStep 1 = .ok (.iconst 1, 1) := by decide +kernel
theorem dX7_isStep_2 : decode cX7_isStep 2 = .ok (.bipush 50, 2) := by decide +kernel
theorem dX7_isStep_4 : decode cX7_isStep 4 = .ok (.invokestatic 77, 3) := by decide +kernel
theorem dX7_isStep_7 : decode cX7_isStep 7 = .ok (.ireturn, 1) := by decide +kernel
theorem dX7_isSheet_0 : decode cX7_isSheet 0 = .ok (.iload_n 0, 1) := by decide +kernel
theorem dX7_isSheet_1 : decode cX7_isSheet 1 = .ok (.iconst 0, 1) := by decide +kernel
theorem dX7_isSheet_2 : decode cX7_isSheet 2 = .ok (.iconst 3, 1) := by decide +kernel
theorem dX7_isSheet_3 : decode cX7_isSheet 3 = .ok (.invokestatic 77, 3) := by decide +kernel
theorem dX7_isSheet_6 : decode cX7_isSheet 6 = .ok (.ireturn, 1) := by decide +kernel
theorem dX7_isLane_0 : decode cX7_isLane 0 = .ok (.iload_n 0, 1) := by decide +kernel
theorem dX7_isLane_1 : decode cX7_isLane 1 = .ok (.iconst 0, 1) := by decide +kernel
theorem dX7_isLane_2 : decode cX7_isLane 2 = .ok (.iconst 2, 1) := by decide +kernel
theorem dX7_isLane_3 : decode cX7_isLane 3 = .ok (.invokestatic 77, 3) := by decide +kernel
theorem dX7_isLane_6 : decode cX7_isLane 6 = .ok (.ireturn, 1) := by decide +kernel
theorem dX7_isDiver_0 : decode cX7_isDiver 0 = .ok (.iload_n 1, 1) := by decide +kernel
theorem dX7_isDiver_1 : decode cX7_isDiver 1 = .ok (.iconst 0, 1) := by decide +kernel
theorem dX7_isDiver_2 : decode cX7_isDiver 2 = .ok (.aload_n 0, 1) := by decide +kernel
theorem dX7_isDiver_3 : decode cX7_isDiver 3 = .ok (.getfield 26, 3) := by decide +kernel
theorem dX7_isDiver_6 : decode cX7_isDiver 6 = .ok (.getfield 173, 3) := by decide +kernel
theorem dX7_isDiver_9 : decode cX7_isDiver 9 = .ok (.iconst 1, 1) := by decide +kernel
theorem dX7_isDiver_10 : decode cX7_isDiver 10 = .ok (.isub, 1) := by decide +kernel
theorem dX7_isDiver_11 : decode cX7_isDiver 11 = .ok (.invokestatic 77, 3) := by decide +kernel
theorem dX7_isDiver_14 : decode cX7_isDiver 14 = .ok (.ireturn, 1) := by decide +kernel
theorem dX7_isDepth_0 : decode cX7_isDepth 0 = .ok (.iload_n 1, 1) := by decide +kernel
theorem dX7_isDepth_1 : decode cX7_isDepth 1 = .ok (.iconst 0, 1) := by decide +kernel
theorem dX7_isDepth_2 : decode cX7_isDepth 2 = .ok (.aload_n 0, 1) := by decide +kernel
theorem dX7_isDepth_3 : decode cX7_isDepth 3 = .ok (.getfield 19, 3) := by decide +kernel
theorem dX7_isDepth_6 : decode cX7_isDepth 6 = .ok (.getfield 62, 3) := by decide +kernel
theorem dX7_isDepth_9 : decode cX7_isDepth 9 = .ok (.iconst 0, 1) := by decide +kernel
theorem dX7_isDepth_10 : decode cX7_isDepth 10 = .ok (.iaload, 1) := by decide +kernel
theorem dX7_isDepth_11 : decode cX7_isDepth 11 = .ok (.invokestatic 77, 3) := by decide +kernel
theorem dX7_isDepth_14 : decode cX7_isDepth 14 = .ok (.ireturn, 1) := by decide +kernel
theorem dX7_canHold_0 : decode cX7_canHold 0 = .ok (.aload_n 0, 1) := by decide +kernel
theorem dX7_canHold_1 : decode cX7_canHold 1 = .ok (.iload_n 1, 1) := by decide +kernel
theorem dX7_canHold_2 : decode cX7_canHold 2 = .ok (.invokevirtual 116, 3) := by decide +kernel
theorem dX7_canHold_5 : decode cX7_canHold 5 = .ok (.ifCond .eq 45, 3) := by decide +kernel
theorem dX7_canHold_8 : decode cX7_canHold 8 = .ok (.iload_n 2, 1) := by decide +kernel
theorem dX7_canHold_9 : decode cX7_canHold 9 = .ok (.iconst 1, 1) := by decide +kernel
theorem dX7_canHold_10 : decode cX7_canHold 10 = .ok (.aload_n 0, 1) := by decide +kernel
theorem dX7_canHold_11 : decode cX7_canHold 11 = .ok (.getfield 19, 3) := by decide +kernel
theorem dX7_canHold_14 : decode cX7_canHold 14 = .ok (.getfield 62, 3) := by decide +kernel
theorem dX7_canHold_17 : decode cX7_canHold 17 = .ok (.iconst 0, 1) := by decide +kernel
theorem dX7_canHold_18 : decode cX7_canHold 18 = .ok (.iaload, 1) := by decide +kernel
theorem dX7_canHold_19 : decode cX7_canHold 19 = .ok (.iconst 1, 1) := by decide +kernel
theorem dX7_canHold_20 : decode cX7_canHold 20 = .ok (.isub, 1) := by decide +kernel
theorem dX7_canHold_21 : decode cX7_canHold 21 = .ok (.invokestatic 77, 3) := by decide +kernel
theorem dX7_canHold_24 : decode cX7_canHold 24 = .ok (.ifCond .eq 26, 3) := by decide +kernel
theorem dX7_canHold_27 : decode cX7_canHold 27 = .ok (.iload_n 3, 1) := by decide +kernel
theorem dX7_canHold_28 : decode cX7_canHold 28 = .ok (.invokestatic 164, 3) := by decide +kernel
theorem dX7_canHold_31 : decode cX7_canHold 31 = .ok (.ifCond .eq 19, 3) := by decide +kernel
theorem dX7_canHold_34 : decode cX7_canHold 34 = .ok (.iload 4, 2) := by decide +kernel
theorem dX7_canHold_36 : decode cX7_canHold 36 = .ok (.iconst 1, 1) := by decide +kernel
theorem dX7_canHold_37 : decode cX7_canHold 37 = .ok (.sipush 999, 3) := by decide +kernel
theorem dX7_canHold_40 : decode cX7_canHold 40 = .ok (.invokestatic 77, 3) := by decide +kernel
theorem dX7_canHold_43 : decode cX7_canHold 43 = .ok (.ifCond .eq 7, 3) := by decide +kernel
theorem dX7_canHold_46 : decode cX7_canHold 46 = .ok (.iconst 1, 1) := by decide +kernel
theorem dX7_canHold_47 : decode cX7_canHold 47 = .ok (.goto 4, 3) := by decide +kernel
theorem dX7_canHold_50 : decode cX7_canHold 50 = .ok (.iconst 0, 1) := by decide +kernel
theorem dX7_canHold_51 : decode cX7_canHold 51 = .ok (.ireturn, 1) := by decide +kernel
theorem dX7_divideUp_0 : decode cX7_divideUp 0 = .ok (.iload_n 1, 1) := by decide +kernel
theorem dX7_divideUp_1 : decode cX7_divideUp 1 = .ok (.ifCond .gt 7, 3) := by decide +kernel
theorem dX7_divideUp_4 : decode cX7_divideUp 4 = .ok (.iconst 0, 1) := by decide +kernel
theorem dX7_divideUp_5 : decode cX7_divideUp 5 = .ok (.goto 10, 3) := by decide +kernel
theorem dX7_divideUp_8 : decode cX7_divideUp 8 = .ok (.iload_n 0, 1) := by decide +kernel
theorem dX7_divideUp_9 : decode cX7_divideUp 9 = .ok (.iload_n 1, 1) := by decide +kernel
theorem dX7_divideUp_10 : decode cX7_divideUp 10 = .ok (.iadd, 1) := by decide +kernel
theorem dX7_divideUp_11 : decode cX7_divideUp 11 = .ok (.iconst 1, 1) := by decide +kernel
theorem dX7_divideUp_12 : decode cX7_divideUp 12 = .ok (.isub, 1) := by decide +kernel
theorem dX7_divideUp_13 : decode cX7_divideUp 13 = .ok (.iload_n 1, 1) := by decide +kernel
theorem dX7_divideUp_14 : decode cX7_divideUp 14 = .ok (.idiv, 1) := by decide +kernel
theorem dX7_divideUp_15 : decode cX7_divideUp 15 = .ok (.ireturn, 1) := by decide +kernel
theorem dX7_divideCut_0 : decode cX7_divideCut 0 = .ok (.iload_n 1, 1) := by decide +kernel
theorem dX7_divideCut_1 : decode cX7_divideCut 1 = .ok (.ifCond .gt 7, 3) := by decide +kernel
theorem dX7_divideCut_4 : decode cX7_divideCut 4 = .ok (.iconst 0, 1) := by decide +kernel
theorem dX7_divideCut_5 : decode cX7_divideCut 5 = .ok (.goto 6, 3) := by decide +kernel
theorem dX7_divideCut_8 : decode cX7_divideCut 8 = .ok (.iload_n 0, 1) := by decide +kernel
theorem dX7_divideCut_9 : decode cX7_divideCut 9 = .ok (.iload_n 1, 1) := by decide +kernel
theorem dX7_divideCut_10 : decode cX7_divideCut 10 = .ok (.idiv, 1) := by decide +kernel
theorem dX7_divideCut_11 : decode cX7_divideCut 11 = .ok (.ireturn, 1) := by decide +kernel
theorem dX7_bit_0 : decode cX7_bit 0 = .ok (.iload_n 0, 1) := by decide +kernel
theorem dX7_bit_1 : decode cX7_bit 1 = .ok (.ifCond .eq 7, 3) := by decide +kernel
theorem dX7_bit_4 : decode cX7_bit 4 = .ok (.iconst 1, 1) := by decide +kernel
theorem dX7_bit_5 : decode cX7_bit 5 = .ok (.goto 4, 3) := by decide +kernel
theorem dX7_bit_8 : decode cX7_bit 8 = .ok (.iconst 0, 1) := by decide +kernel
theorem dX7_bit_9 : decode cX7_bit 9 = .ok (.ireturn, 1) := by decide +kernel
theorem dX7_weightOf_0 : decode cX7_weightOf 0 = .ok (.aload_n 0, 1) := by decide +kernel
theorem dX7_weightOf_1 : decode cX7_weightOf 1 = .ok (.getfield 19, 3) := by decide +kernel
theorem dX7_weightOf_4 : decode cX7_weightOf 4 = .ok (.aload_n 1, 1) := by decide +kernel
theorem dX7_weightOf_5 : decode cX7_weightOf 5 = .ok (.getfield 122, 3) := by decide +kernel
theorem dX7_weightOf_8 : decode cX7_weightOf 8 = .ok (.aload_n 1, 1) := by decide +kernel
theorem dX7_weightOf_9 : decode cX7_weightOf 9 = .ok (.getfield 144, 3) := by decide +kernel
theorem dX7_weightOf_12 : decode cX7_weightOf 12 = .ok (.iadd, 1) := by decide +kernel
theorem dX7_weightOf_13 : decode cX7_weightOf 13 = .ok (.aload_n 1, 1) := by decide +kernel
theorem dX7_weightOf_14 : decode cX7_weightOf 14 = .ok (.getfield 127, 3) := by decide +kernel
theorem dX7_weightOf_17 : decode cX7_weightOf 17 = .ok (.aload_n 0, 1) := by decide +kernel
theorem dX7_weightOf_18 : decode cX7_weightOf 18 = .ok (.getfield 26, 3) := by decide +kernel
theorem dX7_weightOf_21 : decode cX7_weightOf 21 = .ok (.getfield 66, 3) := by decide +kernel
theorem dX7_weightOf_24 : decode cX7_weightOf 24 = .ok (.iload_n 2, 1) := by decide +kernel
theorem dX7_weightOf_25 : decode cX7_weightOf 25 = .ok (.iload_n 3, 1) := by decide +kernel
theorem dX7_weightOf_26 : decode cX7_weightOf 26 = .ok (.invokevirtual 212, 3) := by decide +kernel
theorem dX7_weightOf_29 : decode cX7_weightOf 29 = .ok (.ireturn, 1) := by decide +kernel
theorem dX7_diversAt_0 : decode cX7_diversAt 0 = .ok (.iconst 0, 1) := by decide +kernel
theorem dX7_diversAt_1 : decode cX7_diversAt 1 = .ok (.istore_n 2, 1) := by decide +kernel
theorem dX7_diversAt_2 : decode cX7_diversAt 2 = .ok (.iconst 0, 1) := by decide +kernel
theorem dX7_diversAt_3 : decode cX7_diversAt 3 = .ok (.istore_n 3, 1) := by decide +kernel
theorem dX7_diversAt_4 : decode cX7_diversAt 4 = .ok (.iload_n 3, 1) := by decide +kernel
theorem dX7_diversAt_5 : decode cX7_diversAt 5 = .ok (.aload_n 0, 1) := by decide +kernel
theorem dX7_diversAt_6 : decode cX7_diversAt 6 = .ok (.getfield 26, 3) := by decide +kernel
theorem dX7_diversAt_9 : decode cX7_diversAt 9 = .ok (.getfield 173, 3) := by decide +kernel
theorem dX7_diversAt_12 : decode cX7_diversAt 12 = .ok (.if_icmp .ge 31, 3) := by decide +kernel
theorem dX7_diversAt_15 : decode cX7_diversAt 15 = .ok (.aload_n 0, 1) := by decide +kernel
theorem dX7_diversAt_16 : decode cX7_diversAt 16 = .ok (.getfield 26, 3) := by decide +kernel
theorem dX7_diversAt_19 : decode cX7_diversAt 19 = .ok (.getfield 121, 3) := by decide +kernel
theorem dX7_diversAt_22 : decode cX7_diversAt 22 = .ok (.iload_n 3, 1) := by decide +kernel
theorem dX7_diversAt_23 : decode cX7_diversAt 23 = .ok (.aaload, 1) := by decide +kernel
theorem dX7_diversAt_24 : decode cX7_diversAt 24 = .ok (.getfield 151, 3) := by decide +kernel
theorem dX7_diversAt_27 : decode cX7_diversAt 27 = .ok (.iload_n 1, 1) := by decide +kernel
theorem dX7_diversAt_28 : decode cX7_diversAt 28 = .ok (.if_icmp .ne 9, 3) := by decide +kernel
theorem dX7_diversAt_31 : decode cX7_diversAt 31 = .ok (.iload_n 2, 1) := by decide +kernel
theorem dX7_diversAt_32 : decode cX7_diversAt 32 = .ok (.iconst 1, 1) := by decide +kernel
theorem dX7_diversAt_33 : decode cX7_diversAt 33 = .ok (.iload_n 3, 1) := by decide +kernel
theorem dX7_diversAt_34 : decode cX7_diversAt 34 = .ok (.ishl, 1) := by decide +kernel
theorem dX7_diversAt_35 : decode cX7_diversAt 35 = .ok (.ior, 1) := by decide +kernel
theorem dX7_diversAt_36 : decode cX7_diversAt 36 = .ok (.istore_n 2, 1) := by decide +kernel
theorem dX7_diversAt_37 : decode cX7_diversAt 37 = .ok (.iinc 3 1, 3) := by decide +kernel
theorem dX7_diversAt_40 : decode cX7_diversAt 40 = .ok (.goto (-36), 3) := by decide +kernel
theorem dX7_diversAt_43 : decode cX7_diversAt 43 = .ok (.iload_n 2, 1) := by decide +kernel
theorem dX7_diversAt_44 : decode cX7_diversAt 44 = .ok (.ireturn, 1) := by decide +kernel
theorem dX7_hooks_0 : decode cX7_hooks 0 = .ok (.iconst 0, 1) := by decide +kernel
theorem dX7_hooks_1 : decode cX7_hooks 1 = .ok (.istore_n 1, 1) := by decide +kernel
theorem dX7_hooks_2 : decode cX7_hooks 2 = .ok (.iconst 0, 1) := by decide +kernel
theorem dX7_hooks_3 : decode cX7_hooks 3 = .ok (.istore_n 2, 1) := by decide +kernel
theorem dX7_hooks_4 : decode cX7_hooks 4 = .ok (.iload_n 2, 1) := by decide +kernel
theorem dX7_hooks_5 : decode cX7_hooks 5 = .ok (.aload_n 0, 1) := by decide +kernel
theorem dX7_hooks_6 : decode cX7_hooks 6 = .ok (.getfield 26, 3) := by decide +kernel
theorem dX7_hooks_9 : decode cX7_hooks 9 = .ok (.getfield 173, 3) := by decide +kernel
theorem dX7_hooks_12 : decode cX7_hooks 12 = .ok (.if_icmp .ge 27, 3) := by decide +kernel
theorem dX7_hooks_15 : decode cX7_hooks 15 = .ok (.iload_n 1, 1) := by decide +kernel
theorem dX7_hooks_16 : decode cX7_hooks 16 = .ok (.aload_n 0, 1) := by decide +kernel
theorem dX7_hooks_17 : decode cX7_hooks 17 = .ok (.getfield 26, 3) := by decide +kernel
theorem dX7_hooks_20 : decode cX7_hooks 20 = .ok (.getfield 121, 3) := by decide +kernel
theorem dX7_hooks_23 : decode cX7_hooks 23 = .ok (.iload_n 2, 1) := by decide +kernel
theorem dX7_hooks_24 : decode cX7_hooks 24 = .ok (.aaload, 1) := by decide +kernel
theorem dX7_hooks_25 : decode cX7_hooks 25 = .ok (.getfield 136, 3) := by decide +kernel
theorem dX7_hooks_28 : decode cX7_hooks 28 = .ok (.invokestatic 140, 3) := by decide +kernel
theorem dX7_hooks_31 : decode cX7_hooks 31 = .ok (.iadd, 1) := by decide +kernel
theorem dX7_hooks_32 : decode cX7_hooks 32 = .ok (.istore_n 1, 1) := by decide +kernel
theorem dX7_hooks_33 : decode cX7_hooks 33 = .ok (.iinc 2 1, 3) := by decide +kernel
theorem dX7_hooks_36 : decode cX7_hooks 36 = .ok (.goto (-32), 3) := by decide +kernel
theorem dX7_hooks_39 : decode cX7_hooks 39 = .ok (.iload_n 1, 1) := by decide +kernel
theorem dX7_hooks_40 : decode cX7_hooks 40 = .ok (.ireturn, 1) := by decide +kernel
theorem dX7_moveDiver_0 : decode cX7_moveDiver 0 = .ok (.aload_n 1, 1) := by decide +kernel
theorem dX7_moveDiver_1 : decode cX7_moveDiver 1 = .ok (.getfield 151, 3) := by decide +kernel
theorem dX7_moveDiver_4 : decode cX7_moveDiver 4 = .ok (.istore_n 2, 1) := by decide +kernel
theorem dX7_moveDiver_5 : decode cX7_moveDiver 5 = .ok (.aload_n 1, 1) := by decide +kernel
theorem dX7_moveDiver_6 : decode cX7_moveDiver 6 = .ok (.aload_n 0, 1) := by decide +kernel
theorem dX7_moveDiver_7 : decode cX7_moveDiver 7 = .ok (.aload_n 1, 1) := by decide +kernel
theorem dX7_moveDiver_8 : decode cX7_moveDiver 8 = .ok (.aload_n 1, 1) := by decide +kernel
theorem dX7_moveDiver_9 : decode cX7_moveDiver 9 = .ok (.invokevirtual 147, 3) := by decide +kernel
theorem dX7_moveDiver_12 : decode cX7_moveDiver 12 = .ok (.aload_n 0, 1) := by decide +kernel
theorem dX7_moveDiver_13 : decode cX7_moveDiver 13 = .ok (.getfield 26, 3) := by decide +kernel
theorem dX7_moveDiver_16 : decode cX7_moveDiver 16 = .ok (.getfield 157, 3) := by decide +kernel
theorem dX7_moveDiver_19 : decode cX7_moveDiver 19 = .ok (.invokevirtual 160, 3) := by decide +kernel
theorem dX7_moveDiver_22 : decode cX7_moveDiver 22 = .ok (.aload_n 0, 1) := by decide +kernel
theorem dX7_moveDiver_23 : decode cX7_moveDiver 23 = .ok (.getfield 19, 3) := by decide +kernel
theorem dX7_moveDiver_26 : decode cX7_moveDiver 26 = .ok (.getfield 62, 3) := by decide +kernel
theorem dX7_moveDiver_29 : decode cX7_moveDiver 29 = .ok (.iconst 3, 1) := by decide +kernel
theorem dX7_moveDiver_30 : decode cX7_moveDiver 30 = .ok (.iaload, 1) := by decide +kernel
theorem dX7_moveDiver_31 : decode cX7_moveDiver 31 = .ok (.aload_n 0, 1) := by decide +kernel
theorem dX7_moveDiver_32 : decode cX7_moveDiver 32 = .ok (.getfield 19, 3) := by decide +kernel
theorem dX7_moveDiver_35 : decode cX7_moveDiver 35 = .ok (.invokevirtual 181, 3) := by decide +kernel
theorem dX7_moveDiver_38 : decode cX7_moveDiver 38 = .ok (.invokevirtual 347, 3) := by decide +kernel
theorem dX7_moveDiver_41 : decode cX7_moveDiver 41 = .ok (.aload_n 1, 1) := by decide +kernel
theorem dX7_moveDiver_42 : decode cX7_moveDiver 42 = .ok (.getfield 151, 3) := by decide +kernel
theorem dX7_moveDiver_45 : decode cX7_moveDiver 45 = .ok (.iload_n 2, 1) := by decide +kernel
theorem dX7_moveDiver_46 : decode cX7_moveDiver 46 = .ok (.if_icmp .ne 4, 3) := by decide +kernel
theorem dX7_moveDiver_49 : decode cX7_moveDiver 49 = .ok (.return_, 1) := by decide +kernel
theorem dX7_moveDiver_50 : decode cX7_moveDiver 50 = .ok (.aload_n 1, 1) := by decide +kernel
theorem dX7_moveDiver_51 : decode cX7_moveDiver 51 = .ok (.getfield 151, 3) := by decide +kernel
theorem dX7_moveDiver_54 : decode cX7_moveDiver 54 = .ok (.aload_n 0, 1) := by decide +kernel
theorem dX7_moveDiver_55 : decode cX7_moveDiver 55 = .ok (.getfield 19, 3) := by decide +kernel
theorem dX7_moveDiver_58 : decode cX7_moveDiver 58 = .ok (.invokevirtual 181, 3) := by decide +kernel
theorem dX7_moveDiver_61 : decode cX7_moveDiver 61 = .ok (.if_icmp .ne 8, 3) := by decide +kernel
theorem dX7_moveDiver_64 : decode cX7_moveDiver 64 = .ok (.aload_n 0, 1) := by decide +kernel
theorem dX7_moveDiver_65 : decode cX7_moveDiver 65 = .ok (.aload_n 1, 1) := by decide +kernel
theorem dX7_moveDiver_66 : decode cX7_moveDiver 66 = .ok (.invokevirtual 351, 3) := by decide +kernel
theorem dX7_moveDiver_69 : decode cX7_moveDiver 69 = .ok (.aload_n 1, 1) := by decide +kernel
theorem dX7_moveDiver_70 : decode cX7_moveDiver 70 = .ok (.getfield 151, 3) := by decide +kernel
theorem dX7_moveDiver_73 : decode cX7_moveDiver 73 = .ok (.ifCond .ne 8, 3) := by decide +kernel
theorem dX7_moveDiver_76 : decode cX7_moveDiver 76 = .ok (.aload_n 0, 1) := by decide +kernel
theorem dX7_moveDiver_77 : decode cX7_moveDiver 77 = .ok (.aload_n 1, 1) := by decide +kernel
theorem dX7_moveDiver_78 : decode cX7_moveDiver 78 = .ok (.invokevirtual 354, 3) := by decide +kernel
theorem dX7_moveDiver_81 : decode cX7_moveDiver 81 = .ok (.return_, 1) := by decide +kernel
theorem dX7_comeToFloor_0 : decode cX7_comeToFloor 0 = .ok (.aload_n 1, 1) := by decide +kernel
theorem dX7_comeToFloor_1 : decode cX7_comeToFloor 1 = .ok (.iconst 0, 1) := by decide +kernel
theorem dX7_comeToFloor_2 : decode cX7_comeToFloor 2 = .ok (.aload_n 1, 1) := by decide +kernel
theorem dX7_comeToFloor_3 : decode cX7_comeToFloor 3 = .ok (.getfield 127, 3) := by decide +kernel
theorem dX7_comeToFloor_6 : decode cX7_comeToFloor 6 = .ok (.aload_n 1, 1) := by decide +kernel
theorem dX7_comeToFloor_7 : decode cX7_comeToFloor 7 = .ok (.getfield 130, 3) := by decide +kernel
theorem dX7_comeToFloor_10 : decode cX7_comeToFloor 10 = .ok (.isub, 1) := by decide +kernel
theorem dX7_comeToFloor_11 : decode cX7_comeToFloor 11 = .ok (.invokestatic 280, 3) := by decide +kernel
theorem dX7_comeToFloor_14 : decode cX7_comeToFloor 14 = .ok (.putfield 127, 3) := by decide +kernel
theorem dX7_comeToFloor_17 : decode cX7_comeToFloor 17 = .ok (.aload_n 1, 1) := by decide +kernel
theorem dX7_comeToFloor_18 : decode cX7_comeToFloor 18 = .ok (.getfield 136, 3) := by decide +kernel
theorem dX7_comeToFloor_21 : decode cX7_comeToFloor 21 = .ok (.ifCond .eq 13, 3) := by decide +kernel
theorem dX7_comeToFloor_24 : decode cX7_comeToFloor 24 = .ok (.aload_n 0, 1) := by decide +kernel
theorem dX7_comeToFloor_25 : decode cX7_comeToFloor 25 = .ok (.getfield 26, 3) := by decide +kernel
theorem dX7_comeToFloor_28 : decode cX7_comeToFloor 28 = .ok (.getfield 191, 3) := by decide +kernel
theorem dX7_comeToFloor_31 : decode cX7_comeToFloor 31 = .ok (.ifCond .ne 4, 3) := by decide +kernel
theorem dX7_comeToFloor_34 : decode cX7_comeToFloor 34 = .ok (.return_, 1) := by decide +kernel
theorem dX7_comeToFloor_35 : decode cX7_comeToFloor 35 = .ok (.aload_n 1, 1) := by decide +kernel
theorem dX7_comeToFloor_36 : decode cX7_comeToFloor 36 = .ok (.aload_n 0, 1) := by decide +kernel
theorem dX7_comeToFloor_37 : decode cX7_comeToFloor 37 = .ok (.getfield 19, 3) := by decide +kernel
theorem dX7_comeToFloor_40 : decode cX7_comeToFloor 40 = .ok (.getfield 62, 3) := by decide +kernel
theorem dX7_comeToFloor_43 : decode cX7_comeToFloor 43 = .ok (.bipush 6, 2) := by decide +kernel
theorem dX7_comeToFloor_45 : decode cX7_comeToFloor 45 = .ok (.iaload, 1) := by decide +kernel
theorem dX7_comeToFloor_46 : decode cX7_comeToFloor 46 = .ok (.putfield 144, 3) := by decide +kernel
theorem dX7_comeToFloor_49 : decode cX7_comeToFloor 49 = .ok (.aload_n 0, 1) := by decide +kernel
theorem dX7_comeToFloor_50 : decode cX7_comeToFloor 50 = .ok (.getfield 26, 3) := by decide +kernel
theorem dX7_comeToFloor_53 : decode cX7_comeToFloor 53 = .ok (.iconst 0, 1) := by decide +kernel
theorem dX7_comeToFloor_54 : decode cX7_comeToFloor 54 = .ok (.putfield 191, 3) := by decide +kernel
theorem dX7_comeToFloor_57 : decode cX7_comeToFloor 57 = .ok (.return_, 1) := by decide +kernel
theorem dX7_comeToTop_0 : decode cX7_comeToTop 0 = .ok (.aload_n 1, 1) := by decide +kernel
theorem dX7_comeToTop_1 : decode cX7_comeToTop 1 = .ok (.getfield 144, 3) := by decide +kernel
theorem dX7_comeToTop_4 : decode cX7_comeToTop 4 = .ok (.ifCond .ne 4, 3) := by decide +kernel
theorem dX7_comeToTop_7 : decode cX7_comeToTop 7 = .ok (.return_, 1) := by decide +kernel
theorem dX7_comeToTop_8 : decode cX7_comeToTop 8 = .ok (.aload_n 1, 1) := by decide +kernel
theorem dX7_comeToTop_9 : decode cX7_comeToTop 9 = .ok (.iconst 0, 1) := by decide +kernel
theorem dX7_comeToTop_10 : decode cX7_comeToTop 10 = .ok (.putfield 144, 3) := by decide +kernel
theorem dX7_comeToTop_13 : decode cX7_comeToTop 13 = .ok (.aload_n 0, 1) := by decide +kernel
theorem dX7_comeToTop_14 : decode cX7_comeToTop 14 = .ok (.getfield 26, 3) := by decide +kernel
theorem dX7_comeToTop_17 : decode cX7_comeToTop 17 = .ok (.dup, 1) := by decide +kernel
theorem dX7_comeToTop_18 : decode cX7_comeToTop 18 = .ok (.getfield 194, 3) := by decide +kernel
theorem dX7_comeToTop_21 : decode cX7_comeToTop 21 = .ok (.iconst 1, 1) := by decide +kernel
theorem dX7_comeToTop_22 : decode cX7_comeToTop 22 = .ok (.iadd, 1) := by decide +kernel
theorem dX7_comeToTop_23 : decode cX7_comeToTop 23 = .ok (.putfield 194, 3) := by decide +kernel
theorem dX7_comeToTop_26 : decode cX7_comeToTop 26 = .ok (.return_, 1) := by decide +kernel
theorem dX7_thumbOf_0 : decode cX7_thumbOf 0 = .ok (.aload_n 0, 1) := by decide +kernel
theorem dX7_thumbOf_1 : decode cX7_thumbOf 1 = .ok (.getfield 26, 3) := by decide +kernel
theorem dX7_thumbOf_4 : decode cX7_thumbOf 4 = .ok (.getfield 121, 3) := by decide +kernel
theorem dX7_thumbOf_7 : decode cX7_thumbOf 7 = .ok (.iload_n 1, 1) := by decide +kernel
theorem dX7_thumbOf_8 : decode cX7_thumbOf 8 = .ok (.aaload, 1) := by decide +kernel
theorem dX7_thumbOf_9 : decode cX7_thumbOf 9 = .ok (.astore_n 2, 1) := by decide +kernel
theorem dX7_thumbOf_10 : decode cX7_thumbOf 10 = .ok (.aload_n 2, 1) := by decide +kernel
theorem dX7_thumbOf_11 : decode cX7_thumbOf 11 = .ok (.getfield 122, 3) := by decide +kernel
theorem dX7_thumbOf_14 : decode cX7_thumbOf 14 = .ok (.aload_n 2, 1) := by decide +kernel
theorem dX7_thumbOf_15 : decode cX7_thumbOf 15 = .ok (.getfield 144, 3) := by decide +kernel
theorem dX7_thumbOf_18 : decode cX7_thumbOf 18 = .ok (.iadd, 1) := by decide +kernel
theorem dX7_thumbOf_19 : decode cX7_thumbOf 19 = .ok (.aload_n 0, 1) := by decide +kernel
theorem dX7_thumbOf_20 : decode cX7_thumbOf 20 = .ok (.getfield 19, 3) := by decide +kernel
theorem dX7_thumbOf_23 : decode cX7_thumbOf 23 = .ok (.iconst 0, 1) := by decide +kernel
theorem dX7_thumbOf_24 : decode cX7_thumbOf 24 = .ok (.invokevirtual 357, 3) := by decide +kernel
theorem dX7_thumbOf_27 : decode cX7_thumbOf 27 = .ok (.isub, 1) := by decide +kernel
theorem dX7_thumbOf_28 : decode cX7_thumbOf 28 = .ok (.istore_n 3, 1) := by decide +kernel
theorem dX7_thumbOf_29 : decode cX7_thumbOf 29 = .ok (.iload_n 3, 1) := by decide +kernel
theorem dX7_thumbOf_30 : decode cX7_thumbOf 30 = .ok (.ifCond .gt 6, 3) := by decide +kernel
theorem dX7_thumbOf_33 : decode cX7_thumbOf 33 = .ok (.bipush (-4), 2) := by decide +kernel
theorem dX7_thumbOf_35 : decode cX7_thumbOf 35 = .ok (.ireturn, 1) := by decide +kernel
theorem dX7_thumbOf_36 : decode cX7_thumbOf 36 = .ok (.aload_n 2, 1) := by decide +kernel
theorem dX7_thumbOf_37 : decode cX7_thumbOf 37 = .ok (.getfield 127, 3) := by decide +kernel
theorem dX7_thumbOf_40 : decode cX7_thumbOf 40 = .ok (.aload_n 0, 1) := by decide +kernel
theorem dX7_thumbOf_41 : decode cX7_thumbOf 41 = .ok (.getfield 26, 3) := by decide +kernel
theorem dX7_thumbOf_44 : decode cX7_thumbOf 44 = .ok (.getfield 66, 3) := by decide +kernel
theorem dX7_thumbOf_47 : decode cX7_thumbOf 47 = .ok (.imul, 1) := by decide +kernel
theorem dX7_thumbOf_48 : decode cX7_thumbOf 48 = .ok (.iload_n 3, 1) := by decide +kernel
theorem dX7_thumbOf_49 : decode cX7_thumbOf 49 = .ok (.invokestatic 360, 3) := by decide +kernel
theorem dX7_thumbOf_52 : decode cX7_thumbOf 52 = .ok (.iconst 1, 1) := by decide +kernel
theorem dX7_thumbOf_53 : decode cX7_thumbOf 53 = .ok (.iadd, 1) := by decide +kernel
theorem dX7_thumbOf_54 : decode cX7_thumbOf 54 = .ok (.istore 4, 2) := by decide +kernel
theorem dX7_thumbOf_56 : decode cX7_thumbOf 56 = .ok (.iconst 0, 1) := by decide +kernel
theorem dX7_thumbOf_57 : decode cX7_thumbOf 57 = .ok (.iload 4, 2) := by decide +kernel
theorem dX7_thumbOf_59 : decode cX7_thumbOf 59 = .ok (.aload_n 0, 1) := by decide +kernel
theorem dX7_thumbOf_60 : decode cX7_thumbOf 60 = .ok (.getfield 19, 3) := by decide +kernel
theorem dX7_thumbOf_63 : decode cX7_thumbOf 63 = .ok (.iconst 0, 1) := by decide +kernel
theorem dX7_thumbOf_64 : decode cX7_thumbOf 64 = .ok (.iconst 0, 1) := by decide +kernel
theorem dX7_thumbOf_65 : decode cX7_thumbOf 65 = .ok (.invokevirtual 197, 3) := by decide +kernel
theorem dX7_thumbOf_68 : decode cX7_thumbOf 68 = .ok (.isub, 1) := by decide +kernel
theorem dX7_thumbOf_69 : decode cX7_thumbOf 69 = .ok (.invokestatic 280, 3) := by decide +kernel
theorem dX7_thumbOf_72 : decode cX7_thumbOf 72 = .ok (.istore 5, 2) := by decide +kernel
theorem dX7_thumbOf_74 : decode cX7_thumbOf 74 = .ok (.iload 5, 2) := by decide +kernel
theorem dX7_thumbOf_76 : decode cX7_thumbOf 76 = .ok (.sipush 500, 3) := by decide +kernel
theorem dX7_thumbOf_79 : decode cX7_thumbOf 79 = .ok (.if_icmp .le 8, 3) := by decide +kernel
theorem dX7_thumbOf_82 : decode cX7_thumbOf 82 = .ok (.bipush (-4), 2) := by decide +kernel
theorem dX7_thumbOf_84 : decode cX7_thumbOf 84 = .ok (.goto 5, 3) := by decide +kernel
theorem dX7_thumbOf_87 : decode cX7_thumbOf 87 = .ok (.iload 5, 2) := by decide +kernel
theorem dX7_thumbOf_89 : decode cX7_thumbOf 89 = .ok (.ireturn, 1) := by decide +kernel
theorem dX7_diversAhead_0 : decode cX7_diversAhead 0 = .ok (.iconst 0, 1) := by decide +kernel
theorem dX7_diversAhead_1 : decode cX7_diversAhead 1 = .ok (.istore_n 2, 1) := by decide +kernel
theorem dX7_diversAhead_2 : decode cX7_diversAhead 2 = .ok (.iconst 0, 1) := by decide +kernel
theorem dX7_diversAhead_3 : decode cX7_diversAhead 3 = .ok (.istore_n 3, 1) := by decide +kernel
theorem dX7_diversAhead_4 : decode cX7_diversAhead 4 = .ok (.iload_n 3, 1) := by decide +kernel
theorem dX7_diversAhead_5 : decode cX7_diversAhead 5 = .ok (.aload_n 0, 1) := by decide +kernel
theorem dX7_diversAhead_6 : decode cX7_diversAhead 6 = .ok (.getfield 26, 3) := by decide +kernel
theorem dX7_diversAhead_9 : decode cX7_diversAhead 9 = .ok (.getfield 173, 3) := by decide +kernel
theorem dX7_diversAhead_12 : decode cX7_diversAhead 12 = .ok (.if_icmp .ge 26, 3) := by decide +kernel
theorem dX7_diversAhead_15 : decode cX7_diversAhead 15 = .ok (.iload_n 3, 1) := by decide +kernel
theorem dX7_diversAhead_16 : decode cX7_diversAhead 16 = .ok (.iload_n 1, 1) := by decide +kernel
theorem dX7_diversAhead_17 : decode cX7_diversAhead 17 = .ok (.if_icmp .eq 15, 3) := by decide +kernel
theorem dX7_diversAhead_20 : decode cX7_diversAhead 20 = .ok (.aload_n 0, 1) := by decide +kernel
theorem dX7_diversAhead_21 : decode cX7_diversAhead 21 = .ok (.iload_n 3, 1) := by decide +kernel
theorem dX7_diversAhead_22 : decode cX7_diversAhead 22 = .ok (.iload_n 1, 1) := by decide +kernel
theorem dX7_diversAhead_23 : decode cX7_diversAhead 23 = .ok (.invokevirtual 363, 3) := by decide +kernel
theorem dX7_diversAhead_26 : decode cX7_diversAhead 26 = .ok (.ifCond .eq 6, 3) := by decide +kernel
theorem dX7_diversAhead_29 : decode cX7_diversAhead 29 = .ok (.iinc 2 1, 3) := by decide +kernel
theorem dX7_diversAhead_32 : decode cX7_diversAhead 32 = .ok (.iinc 3 1, 3) := by decide +kernel
theorem dX7_diversAhead_35 : decode cX7_diversAhead 35 = .ok (.goto (-31), 3) := by decide +kernel
theorem dX7_diversAhead_38 : decode cX7_diversAhead 38 = .ok (.iload_n 2, 1) := by decide +kernel
theorem dX7_diversAhead_39 : decode cX7_diversAhead 39 = .ok (.ireturn, 1) := by decide +kernel
theorem dX7_isAhead_0 : decode cX7_isAhead 0 = .ok (.aload_n 0, 1) := by decide +kernel
theorem dX7_isAhead_1 : decode cX7_isAhead 1 = .ok (.iload_n 1, 1) := by decide +kernel
theorem dX7_isAhead_2 : decode cX7_isAhead 2 = .ok (.invokevirtual 201, 3) := by decide +kernel
theorem dX7_isAhead_5 : decode cX7_isAhead 5 = .ok (.istore_n 3, 1) := by decide +kernel
theorem dX7_isAhead_6 : decode cX7_isAhead 6 = .ok (.aload_n 0, 1) := by decide +kernel
theorem dX7_isAhead_7 : decode cX7_isAhead 7 = .ok (.iload_n 2, 1) := by decide +kernel
theorem dX7_isAhead_8 : decode cX7_isAhead 8 = .ok (.invokevirtual 201, 3) := by decide +kernel
theorem dX7_isAhead_11 : decode cX7_isAhead 11 = .ok (.istore 4, 2) := by decide +kernel
theorem dX7_isAhead_13 : decode cX7_isAhead 13 = .ok (.iload_n 3, 1) := by decide +kernel
theorem dX7_isAhead_14 : decode cX7_isAhead 14 = .ok (.iload 4, 2) := by decide +kernel
theorem dX7_isAhead_16 : decode cX7_isAhead 16 = .ok (.if_icmp .ne 14, 3) := by decide +kernel
theorem dX7_isAhead_19 : decode cX7_isAhead 19 = .ok (.iload_n 1, 1) := by decide +kernel
theorem dX7_isAhead_20 : decode cX7_isAhead 20 = .ok (.iload_n 2, 1) := by decide +kernel
theorem dX7_isAhead_21 : decode cX7_isAhead 21 = .ok (.if_icmp .ge 7, 3) := by decide +kernel
theorem dX7_isAhead_24 : decode cX7_isAhead 24 = .ok (.iconst 1, 1) := by decide +kernel
theorem dX7_isAhead_25 : decode cX7_isAhead 25 = .ok (.goto 4, 3) := by decide +kernel
theorem dX7_isAhead_28 : decode cX7_isAhead 28 = .ok (.iconst 0, 1) := by decide +kernel
theorem dX7_isAhead_29 : decode cX7_isAhead 29 = .ok (.ireturn, 1) := by decide +kernel
theorem dX7_isAhead_30 : decode cX7_isAhead 30 = .ok (.iload 4, 2) := by decide +kernel
theorem dX7_isAhead_32 : decode cX7_isAhead 32 = .ok (.bipush (-4), 2) := by decide +kernel
theorem dX7_isAhead_34 : decode cX7_isAhead 34 = .ok (.if_icmp .eq 15, 3) := by decide +kernel
theorem dX7_isAhead_37 : decode cX7_isAhead 37 = .ok (.iload_n 3, 1) := by decide +kernel
theorem dX7_isAhead_38 : decode cX7_isAhead 38 = .ok (.bipush (-4), 2) := by decide +kernel
theorem dX7_isAhead_40 : decode cX7_isAhead 40 = .ok (.if_icmp .eq 13, 3) := by decide +kernel
theorem dX7_isAhead_43 : decode cX7_isAhead 43 = .ok (.iload_n 3, 1) := by decide +kernel
theorem dX7_isAhead_44 : decode cX7_isAhead 44 = .ok (.iload 4, 2) := by decide +kernel
theorem dX7_isAhead_46 : decode cX7_isAhead 46 = .ok (.if_icmp .ge 7, 3) := by decide +kernel
theorem dX7_isAhead_49 : decode cX7_isAhead 49 = .ok (.iconst 1, 1) := by decide +kernel
theorem dX7_isAhead_50 : decode cX7_isAhead 50 = .ok (.goto 4, 3) := by decide +kernel
theorem dX7_isAhead_53 : decode cX7_isAhead 53 = .ok (.iconst 0, 1) := by decide +kernel
theorem dX7_isAhead_54 : decode cX7_isAhead 54 = .ok (.ireturn, 1) := by decide +kernel
theorem dX7_leavesAt_0 : decode cX7_leavesAt 0 = .ok (.aload_n 1, 1) := by decide +kernel
theorem dX7_leavesAt_1 : decode cX7_leavesAt 1 = .ok (.getfield 122, 3) := by decide +kernel
theorem dX7_leavesAt_4 : decode cX7_leavesAt 4 = .ok (.aload_n 1, 1) := by decide +kernel
theorem dX7_leavesAt_5 : decode cX7_leavesAt 5 = .ok (.getfield 144, 3) := by decide +kernel
theorem dX7_leavesAt_8 : decode cX7_leavesAt 8 = .ok (.iadd, 1) := by decide +kernel
theorem dX7_leavesAt_9 : decode cX7_leavesAt 9 = .ok (.istore 4, 2) := by decide +kernel
theorem dX7_leavesAt_11 : decode cX7_leavesAt 11 = .ok (.iload_n 3, 1) := by decide +kernel
theorem dX7_leavesAt_12 : decode cX7_leavesAt 12 = .ok (.ifCond .eq 36, 3) := by decide +kernel
theorem dX7_leavesAt_15 : decode cX7_leavesAt 15 = .ok (.aload_n 0, 1) := by decide +kernel
theorem dX7_leavesAt_16 : decode cX7_leavesAt 16 = .ok (.getfield 19, 3) := by decide +kernel
theorem dX7_leavesAt_19 : decode cX7_leavesAt 19 = .ok (.iload 4, 2) := by decide +kernel
theorem dX7_leavesAt_21 : decode cX7_leavesAt 21 = .ok (.aload_n 1, 1) := by decide +kernel
theorem dX7_leavesAt_22 : decode cX7_leavesAt 22 = .ok (.getfield 127, 3) := by decide +kernel
theorem dX7_leavesAt_25 : decode cX7_leavesAt 25 = .ok (.iload_n 2, 1) := by decide +kernel
theorem dX7_leavesAt_26 : decode cX7_leavesAt 26 = .ok (.aload_n 0, 1) := by decide +kernel
theorem dX7_leavesAt_27 : decode cX7_leavesAt 27 = .ok (.getfield 19, 3) := by decide +kernel
theorem dX7_leavesAt_30 : decode cX7_leavesAt 30 = .ok (.getfield 62, 3) := by decide +kernel
theorem dX7_leavesAt_33 : decode cX7_leavesAt 33 = .ok (.iconst 0, 1) := by decide +kernel
theorem dX7_leavesAt_34 : decode cX7_leavesAt 34 = .ok (.iaload, 1) := by decide +kernel
theorem dX7_leavesAt_35 : decode cX7_leavesAt 35 = .ok (.iconst 0, 1) := by decide +kernel
theorem dX7_leavesAt_36 : decode cX7_leavesAt 36 = .ok (.invokevirtual 212, 3) := by decide +kernel
theorem dX7_leavesAt_39 : decode cX7_leavesAt 39 = .ok (.ifCond .ge 7, 3) := by decide +kernel
theorem dX7_leavesAt_42 : decode cX7_leavesAt 42 = .ok (.iconst 1, 1) := by decide +kernel
theorem dX7_leavesAt_43 : decode cX7_leavesAt 43 = .ok (.goto 4, 3) := by decide +kernel
theorem dX7_leavesAt_46 : decode cX7_leavesAt 46 = .ok (.iconst 0, 1) := by decide +kernel
theorem dX7_leavesAt_47 : decode cX7_leavesAt 47 = .ok (.ireturn, 1) := by decide +kernel
theorem dX7_leavesAt_48 : decode cX7_leavesAt 48 = .ok (.aload_n 0, 1) := by decide +kernel
theorem dX7_leavesAt_49 : decode cX7_leavesAt 49 = .ok (.getfield 19, 3) := by decide +kernel
theorem dX7_leavesAt_52 : decode cX7_leavesAt 52 = .ok (.iload 4, 2) := by decide +kernel
theorem dX7_leavesAt_54 : decode cX7_leavesAt 54 = .ok (.aload_n 1, 1) := by decide +kernel
theorem dX7_leavesAt_55 : decode cX7_leavesAt 55 = .ok (.getfield 127, 3) := by decide +kernel
theorem dX7_leavesAt_58 : decode cX7_leavesAt 58 = .ok (.iload_n 2, 1) := by decide +kernel
theorem dX7_leavesAt_59 : decode cX7_leavesAt 59 = .ok (.iconst 0, 1) := by decide +kernel
theorem dX7_leavesAt_60 : decode cX7_leavesAt 60 = .ok (.iconst 0, 1) := by decide +kernel
theorem dX7_leavesAt_61 : decode cX7_leavesAt 61 = .ok (.invokevirtual 212, 3) := by decide +kernel
theorem dX7_leavesAt_64 : decode cX7_leavesAt 64 = .ok (.ifCond .le 7, 3) := by decide +kernel
theorem dX7_leavesAt_67 : decode cX7_leavesAt 67 = .ok (.iconst 1, 1) := by decide +kernel
theorem dX7_leavesAt_68 : decode cX7_leavesAt 68 = .ok (.goto 4, 3) := by decide +kernel
theorem dX7_leavesAt_71 : decode cX7_leavesAt 71 = .ok (.iconst 0, 1) := by decide +kernel
theorem dX7_leavesAt_72 : decode cX7_leavesAt 72 = .ok (.ireturn, 1) := by decide +kernel
theorem dX7_canBe_0 : decode cX7_canBe 0 = .ok (.aload_n 0, 1) := by decide +kernel
theorem dX7_canBe_1 : decode cX7_canBe 1 = .ok (.getfield 26, 3) := by decide +kernel
theorem dX7_canBe_4 : decode cX7_canBe 4 = .ok (.getfield 289, 3) := by decide +kernel
theorem dX7_canBe_7 : decode cX7_canBe 7 = .ok (.astore_n 2, 1) := by decide +kernel
theorem dX7_canBe_8 : decode cX7_canBe 8 = .ok (.iconst 0, 1) := by decide +kernel
theorem dX7_canBe_9 : decode cX7_canBe 9 = .ok (.istore_n 3, 1) := by decide +kernel
theorem dX7_canBe_10 : decode cX7_canBe 10 = .ok (.iload_n 3, 1) := by decide +kernel
theorem dX7_canBe_11 : decode cX7_canBe 11 = .ok (.aload_n 2, 1) := by decide +kernel
theorem dX7_canBe_12 : decode cX7_canBe 12 = .ok (.getfield 296, 3) := by decide +kernel
theorem dX7_canBe_15 : decode cX7_canBe 15 = .ok (.if_icmp .ge 49, 3) := by decide +kernel
theorem dX7_canBe_18 : decode cX7_canBe 18 = .ok (.aload_n 0, 1) := by decide +kernel
theorem dX7_canBe_19 : decode cX7_canBe 19 = .ok (.aload_n 1, 1) := by decide +kernel
theorem dX7_canBe_20 : decode cX7_canBe 20 = .ok (.aload_n 2, 1) := by decide +kernel
theorem dX7_canBe_21 : decode cX7_canBe 21 = .ok (.getfield 299, 3) := by decide +kernel
theorem dX7_canBe_24 : decode cX7_canBe 24 = .ok (.iload_n 3, 1) := by decide +kernel
theorem dX7_canBe_25 : decode cX7_canBe 25 = .ok (.iaload, 1) := by decide +kernel
theorem dX7_canBe_26 : decode cX7_canBe 26 = .ok (.aload_n 2, 1) := by decide +kernel
theorem dX7_canBe_27 : decode cX7_canBe 27 = .ok (.getfield 302, 3) := by decide +kernel
theorem dX7_canBe_30 : decode cX7_canBe 30 = .ok (.iload_n 3, 1) := by decide +kernel
theorem dX7_canBe_31 : decode cX7_canBe 31 = .ok (.iaload, 1) := by decide +kernel
theorem dX7_canBe_32 : decode cX7_canBe 32 = .ok (.invokevirtual 160, 3) := by decide +kernel
theorem dX7_canBe_35 : decode cX7_canBe 35 = .ok (.ifCond .le 7, 3) := by decide +kernel
theorem dX7_canBe_38 : decode cX7_canBe 38 = .ok (.iconst 1, 1) := by decide +kernel
theorem dX7_canBe_39 : decode cX7_canBe 39 = .ok (.goto 4, 3) := by decide +kernel
theorem dX7_canBe_42 : decode cX7_canBe 42 = .ok (.iconst 0, 1) := by decide +kernel
theorem dX7_canBe_43 : decode cX7_canBe 43 = .ok (.istore 4, 2) := by decide +kernel
theorem dX7_canBe_45 : decode cX7_canBe 45 = .ok (.iload 4, 2) := by decide +kernel
theorem dX7_canBe_47 : decode cX7_canBe 47 = .ok (.aload_n 2, 1) := by decide +kernel
theorem dX7_canBe_48 : decode cX7_canBe 48 = .ok (.getfield 305, 3) := by decide +kernel
theorem dX7_canBe_51 : decode cX7_canBe 51 = .ok (.iload_n 3, 1) := by decide +kernel
theorem dX7_canBe_52 : decode cX7_canBe 52 = .ok (.baload, 1) := by decide +kernel
theorem dX7_canBe_53 : decode cX7_canBe 53 = .ok (.if_icmp .eq 5, 3) := by decide +kernel
theorem dX7_canBe_56 : decode cX7_canBe 56 = .ok (.iconst 0, 1) := by decide +kernel
theorem dX7_canBe_57 : decode cX7_canBe 57 = .ok (.ireturn, 1) := by decide +kernel
theorem dX7_canBe_58 : decode cX7_canBe 58 = .ok (.iinc 3 1, 3) := by decide +kernel
theorem dX7_canBe_61 : decode cX7_canBe 61 = .ok (.goto (-51), 3) := by decide +kernel
theorem dX7_canBe_64 : decode cX7_canBe 64 = .ok (.iconst 1, 1) := by decide +kernel
theorem dX7_canBe_65 : decode cX7_canBe 65 = .ok (.ireturn, 1) := by decide +kernel
theorem dX7_floatsFrom_0 : decode cX7_floatsFrom 0 = .ok (.iload_n 1, 1) := by decide +kernel
theorem dX7_floatsFrom_1 : decode cX7_floatsFrom 1 = .ok (.aload_n 0, 1) := by decide +kernel
theorem dX7_floatsFrom_2 : decode cX7_floatsFrom 2 = .ok (.getfield 19, 3) := by decide +kernel
theorem dX7_floatsFrom_5 : decode cX7_floatsFrom 5 = .ok (.iload_n 2, 1) := by decide +kernel
theorem dX7_floatsFrom_6 : decode cX7_floatsFrom 6 = .ok (.invokevirtual 357, 3) := by decide +kernel
theorem dX7_floatsFrom_9 : decode cX7_floatsFrom 9 = .ok (.isub, 1) := by decide +kernel
theorem dX7_floatsFrom_10 : decode cX7_floatsFrom 10 = .ok (.istore 4, 2) := by decide +kernel
theorem dX7_floatsFrom_12 : decode cX7_floatsFrom 12 = .ok (.aload_n 0, 1) := by decide +kernel
theorem dX7_floatsFrom_13 : decode cX7_floatsFrom 13 = .ok (.getfield 19, 3) := by decide +kernel
theorem dX7_floatsFrom_16 : decode cX7_floatsFrom 16 = .ok (.iload 4, 2) := by decide +kernel
theorem dX7_floatsFrom_18 : decode cX7_floatsFrom 18 = .ok (.aload_n 0, 1) := by decide +kernel
theorem dX7_floatsFrom_19 : decode cX7_floatsFrom 19 = .ok (.getfield 26, 3) := by decide +kernel
theorem dX7_floatsFrom_22 : decode cX7_floatsFrom 22 = .ok (.getfield 66, 3) := by decide +kernel
theorem dX7_floatsFrom_25 : decode cX7_floatsFrom 25 = .ok (.aload_n 0, 1) := by decide +kernel
theorem dX7_floatsFrom_26 : decode cX7_floatsFrom 26 = .ok (.getfield 19, 3) := by decide +kernel
theorem dX7_floatsFrom_29 : decode cX7_floatsFrom 29 = .ok (.iload_n 2, 1) := by decide +kernel
theorem dX7_floatsFrom_30 : decode cX7_floatsFrom 30 = .ok (.iload_n 3, 1) := by decide +kernel
theorem dX7_floatsFrom_31 : decode cX7_floatsFrom 31 = .ok (.invokevirtual 197, 3) := by decide +kernel
theorem dX7_floatsFrom_34 : decode cX7_floatsFrom 34 = .ok (.invokevirtual 367, 3) := by decide +kernel
theorem dX7_floatsFrom_37 : decode cX7_floatsFrom 37 = .ok (.ireturn, 1) := by decide +kernel
theorem dX7_risesFrom_0 : decode cX7_risesFrom 0 = .ok (.aload_n 0, 1) := by decide +kernel
theorem dX7_risesFrom_1 : decode cX7_risesFrom 1 = .ok (.iload_n 1, 1) := by decide +kernel
theorem dX7_risesFrom_2 : decode cX7_risesFrom 2 = .ok (.iconst 1, 1) := by decide +kernel
theorem dX7_risesFrom_3 : decode cX7_risesFrom 3 = .ok (.iadd, 1) := by decide +kernel
theorem dX7_risesFrom_4 : decode cX7_risesFrom 4 = .ok (.iload_n 2, 1) := by decide +kernel
theorem dX7_risesFrom_5 : decode cX7_risesFrom 5 = .ok (.iconst 0, 1) := by decide +kernel
theorem dX7_risesFrom_6 : decode cX7_risesFrom 6 = .ok (.invokevirtual 225, 3) := by decide +kernel
theorem dX7_risesFrom_9 : decode cX7_risesFrom 9 = .ok (.ireturn, 1) := by decide +kernel
theorem dX7_comesBackFrom_0 : decode cX7_comesBackFrom 0 = .ok (.aload_n 0, 1) := by decide +kernel
theorem dX7_comesBackFrom_1 : decode cX7_comesBackFrom 1 = .ok (.iload_n 1, 1) := by decide +kernel
theorem dX7_comesBackFrom_2 : decode cX7_comesBackFrom 2 = .ok (.iconst 0, 1) := by decide +kernel
theorem dX7_comesBackFrom_3 : decode cX7_comesBackFrom 3 = .ok (.invokevirtual 286, 3) := by decide +kernel
theorem dX7_comesBackFrom_6 : decode cX7_comesBackFrom 6 = .ok (.aload_n 0, 1) := by decide +kernel
theorem dX7_comesBackFrom_7 : decode cX7_comesBackFrom 7 = .ok (.iload_n 1, 1) := by decide +kernel
theorem dX7_comesBackFrom_8 : decode cX7_comesBackFrom 8 = .ok (.aload_n 0, 1) := by decide +kernel
theorem dX7_comesBackFrom_9 : decode cX7_comesBackFrom 9 = .ok (.getfield 19, 3) := by decide +kernel
theorem dX7_comesBackFrom_12 : decode cX7_comesBackFrom 12 = .ok (.getfield 62, 3) := by decide +kernel
theorem dX7_comesBackFrom_15 : decode cX7_comesBackFrom 15 = .ok (.iconst 0, 1) := by decide +kernel
theorem dX7_comesBackFrom_16 : decode cX7_comesBackFrom 16 = .ok (.iaload, 1) := by decide +kernel
theorem dX7_comesBackFrom_17 : decode cX7_comesBackFrom 17 = .ok (.invokevirtual 286, 3) := by decide +kernel
theorem dX7_comesBackFrom_20 : decode cX7_comesBackFrom 20 = .ok (.invokestatic 280, 3) := by decide +kernel
theorem dX7_comesBackFrom_23 : decode cX7_comesBackFrom 23 = .ok (.ireturn, 1) := by decide +kernel
theorem dX7_leastAtThumb_0 : decode cX7_leastAtThumb 0 = .ok (.iload_n 2, 1) := by decide +kernel
theorem dX7_leastAtThumb_1 : decode cX7_leastAtThumb 1 = .ok (.ifCond .ne 7, 3) := by decide +kernel
theorem dX7_leastAtThumb_4 : decode cX7_leastAtThumb 4 = .ok (.iconst 0, 1) := by decide +kernel
theorem dX7_leastAtThumb_5 : decode cX7_leastAtThumb 5 = .ok (.goto 12, 3) := by decide +kernel
theorem dX7_leastAtThumb_8 : decode cX7_leastAtThumb 8 = .ok (.aload_n 0, 1) := by decide +kernel
theorem dX7_leastAtThumb_9 : decode cX7_leastAtThumb 9 = .ok (.iload_n 1, 1) := by decide +kernel
theorem dX7_leastAtThumb_10 : decode cX7_leastAtThumb 10 = .ok (.iconst 0, 1) := by decide +kernel
theorem dX7_leastAtThumb_11 : decode cX7_leastAtThumb 11 = .ok (.iload_n 2, 1) := by decide +kernel
theorem dX7_leastAtThumb_12 : decode cX7_leastAtThumb 12 = .ok (.iconst 1, 1) := by decide +kernel
theorem dX7_leastAtThumb_13 : decode cX7_leastAtThumb 13 = .ok (.isub, 1) := by decide +kernel
theorem dX7_leastAtThumb_14 : decode cX7_leastAtThumb 14 = .ok (.invokevirtual 225, 3) := by decide +kernel
theorem dX7_leastAtThumb_17 : decode cX7_leastAtThumb 17 = .ok (.ireturn, 1) := by decide +kernel
theorem dX7_greatestAtThumb_0 : decode cX7_greatestAtThumb 0 = .ok (.aload_n 0, 1) := by decide +kernel
theorem dX7_greatestAtThumb_1 : decode cX7_greatestAtThumb 1 = .ok (.iload_n 1, 1) := by decide +kernel
theorem dX7_greatestAtThumb_2 : decode cX7_greatestAtThumb 2 = .ok (.iconst 0, 1) := by decide +kernel
theorem dX7_greatestAtThumb_3 : decode cX7_greatestAtThumb 3 = .ok (.iload_n 2, 1) := by decide +kernel
theorem dX7_greatestAtThumb_4 : decode cX7_greatestAtThumb 4 = .ok (.invokevirtual 225, 3) := by decide +kernel
theorem dX7_greatestAtThumb_7 : decode cX7_greatestAtThumb 7 = .ok (.iconst 1, 1) := by decide +kernel
theorem dX7_greatestAtThumb_8 : decode cX7_greatestAtThumb 8 = .ok (.isub, 1) := by decide +kernel
theorem dX7_greatestAtThumb_9 : decode cX7_greatestAtThumb 9 = .ok (.ireturn, 1) := by decide +kernel
theorem dX7_tellRange_0 : decode cX7_tellRange 0 = .ok (.iload_n 1, 1) := by decide +kernel
theorem dX7_tellRange_1 : decode cX7_tellRange 1 = .ok (.sipush 9999, 3) := by decide +kernel
theorem dX7_tellRange_4 : decode cX7_tellRange 4 = .ok (.invokestatic 216, 3) := by decide +kernel
theorem dX7_tellRange_7 : decode cX7_tellRange 7 = .ok (.istore_n 3, 1) := by decide +kernel
theorem dX7_tellRange_8 : decode cX7_tellRange 8 = .ok (.iload_n 2, 1) := by decide +kernel
theorem dX7_tellRange_9 : decode cX7_tellRange 9 = .ok (.ifCond .ne 13, 3) := by decide +kernel
theorem dX7_tellRange_12 : decode cX7_tellRange 12 = .ok (.iconst 0, 1) := by decide +kernel
theorem dX7_tellRange_13 : decode cX7_tellRange 13 = .ok (.iload_n 3, 1) := by decide +kernel
theorem dX7_tellRange_14 : decode cX7_tellRange 14 = .ok (.iload_n 0, 1) := by decide +kernel
theorem dX7_tellRange_15 : decode cX7_tellRange 15 = .ok (.isub, 1) := by decide +kernel
theorem dX7_tellRange_16 : decode cX7_tellRange 16 = .ok (.iconst 1, 1) := by decide +kernel
theorem dX7_tellRange_17 : decode cX7_tellRange 17 = .ok (.iadd, 1) := by decide +kernel
theorem dX7_tellRange_18 : decode cX7_tellRange 18 = .ok (.invokestatic 280, 3) := by decide +kernel
theorem dX7_tellRange_21 : decode cX7_tellRange 21 = .ok (.ireturn, 1) := by decide +kernel
theorem dX7_tellRange_22 : decode cX7_tellRange 22 = .ok (.iload_n 3, 1) := by decide +kernel
theorem dX7_tellRange_23 : decode cX7_tellRange 23 = .ok (.iload_n 0, 1) := by decide +kernel
theorem dX7_tellRange_24 : decode cX7_tellRange 24 = .ok (.if_icmp .ge 6, 3) := by decide +kernel
theorem dX7_tellRange_27 : decode cX7_tellRange 27 = .ok (.bipush (-4), 2) := by decide +kernel
theorem dX7_tellRange_29 : decode cX7_tellRange 29 = .ok (.ireturn, 1) := by decide +kernel
theorem dX7_tellRange_30 : decode cX7_tellRange 30 = .ok (.iload_n 2, 1) := by decide +kernel
theorem dX7_tellRange_31 : decode cX7_tellRange 31 = .ok (.iconst 1, 1) := by decide +kernel
theorem dX7_tellRange_32 : decode cX7_tellRange 32 = .ok (.if_icmp .ne 7, 3) := by decide +kernel
theorem dX7_tellRange_35 : decode cX7_tellRange 35 = .ok (.iload_n 0, 1) := by decide +kernel
theorem dX7_tellRange_36 : decode cX7_tellRange 36 = .ok (.goto 4, 3) := by decide +kernel
theorem dX7_tellRange_39 : decode cX7_tellRange 39 = .ok (.iload_n 3, 1) := by decide +kernel
theorem dX7_tellRange_40 : decode cX7_tellRange 40 = .ok (.ireturn, 1) := by decide +kernel
theorem dX7_findGoers_0 : decode cX7_findGoers 0 = .ok (.aload_n 0, 1) := by decide +kernel
theorem dX7_findGoers_1 : decode cX7_findGoers 1 = .ok (.iload_n 1, 1) := by decide +kernel
theorem dX7_findGoers_2 : decode cX7_findGoers 2 = .ok (.invokevirtual 222, 3) := by decide +kernel
theorem dX7_findGoers_5 : decode cX7_findGoers 5 = .ok (.istore_n 2, 1) := by decide +kernel
theorem dX7_findGoers_6 : decode cX7_findGoers 6 = .ok (.iconst 0, 1) := by decide +kernel
theorem dX7_findGoers_7 : decode cX7_findGoers 7 = .ok (.istore_n 3, 1) := by decide +kernel
theorem dX7_findGoers_8 : decode cX7_findGoers 8 = .ok (.iload_n 3, 1) := by decide +kernel
theorem dX7_findGoers_9 : decode cX7_findGoers 9 = .ok (.sipush 500, 3) := by decide +kernel
theorem dX7_findGoers_12 : decode cX7_findGoers 12 = .ok (.if_icmp .gt 47, 3) := by decide +kernel
theorem dX7_findGoers_15 : decode cX7_findGoers 15 = .ok (.iload_n 2, 1) := by decide +kernel
theorem dX7_findGoers_16 : decode cX7_findGoers 16 = .ok (.aload_n 0, 1) := by decide +kernel
theorem dX7_findGoers_17 : decode cX7_findGoers 17 = .ok (.iload_n 1, 1) := by decide +kernel
theorem dX7_findGoers_18 : decode cX7_findGoers 18 = .ok (.iload_n 3, 1) := by decide +kernel
theorem dX7_findGoers_19 : decode cX7_findGoers 19 = .ok (.invokevirtual 232, 3) := by decide +kernel
theorem dX7_findGoers_22 : decode cX7_findGoers 22 = .ok (.invokestatic 280, 3) := by decide +kernel
theorem dX7_findGoers_25 : decode cX7_findGoers 25 = .ok (.istore 4, 2) := by decide +kernel
theorem dX7_findGoers_27 : decode cX7_findGoers 27 = .ok (.aload_n 0, 1) := by decide +kernel
theorem dX7_findGoers_28 : decode cX7_findGoers 28 = .ok (.getfield 59, 3) := by decide +kernel
theorem dX7_findGoers_31 : decode cX7_findGoers 31 = .ok (.iload_n 3, 1) := by decide +kernel
theorem dX7_findGoers_32 : decode cX7_findGoers 32 = .ok (.iload 4, 2) := by decide +kernel
theorem dX7_findGoers_34 : decode cX7_findGoers 34 = .ok (.aload_n 0, 1) := by decide +kernel
theorem dX7_findGoers_35 : decode cX7_findGoers 35 = .ok (.iload_n 1, 1) := by decide +kernel
theorem dX7_findGoers_36 : decode cX7_findGoers 36 = .ok (.iload_n 3, 1) := by decide +kernel
theorem dX7_findGoers_37 : decode cX7_findGoers 37 = .ok (.invokevirtual 235, 3) := by decide +kernel
theorem dX7_findGoers_40 : decode cX7_findGoers 40 = .ok (.iconst 0, 1) := by decide +kernel
theorem dX7_findGoers_41 : decode cX7_findGoers 41 = .ok (.invokestatic 229, 3) := by decide +kernel
theorem dX7_findGoers_44 : decode cX7_findGoers 44 = .ok (.ifCond .le 7, 3) := by decide +kernel
theorem dX7_findGoers_47 : decode cX7_findGoers 47 = .ok (.iconst 1, 1) := by decide +kernel
theorem dX7_findGoers_48 : decode cX7_findGoers 48 = .ok (.goto 4, 3) := by decide +kernel
theorem dX7_findGoers_51 : decode cX7_findGoers 51 = .ok (.iconst 0, 1) := by decide +kernel
theorem dX7_findGoers_52 : decode cX7_findGoers 52 = .ok (.bastore, 1) := by decide +kernel
theorem dX7_findGoers_53 : decode cX7_findGoers 53 = .ok (.iinc 3 1, 3) := by decide +kernel
theorem dX7_findGoers_56 : decode cX7_findGoers 56 = .ok (.goto (-48), 3) := by decide +kernel
theorem dX7_findGoers_59 : decode cX7_findGoers 59 = .ok (.return_, 1) := by decide +kernel
theorem dX7_firstGoer_0 : decode cX7_firstGoer 0 = .ok (.iconst 0, 1) := by decide +kernel
theorem dX7_firstGoer_1 : decode cX7_firstGoer 1 = .ok (.istore_n 1, 1) := by decide +kernel
theorem dX7_firstGoer_2 : decode cX7_firstGoer 2 = .ok (.iload_n 1, 1) := by decide +kernel
theorem dX7_firstGoer_3 : decode cX7_firstGoer 3 = .ok (.sipush 500, 3) := by decide +kernel
theorem dX7_firstGoer_6 : decode cX7_firstGoer 6 = .ok (.if_icmp .gt 20, 3) := by decide +kernel
theorem dX7_firstGoer_9 : decode cX7_firstGoer 9 = .ok (.aload_n 0, 1) := by decide +kernel
theorem dX7_firstGoer_10 : decode cX7_firstGoer 10 = .ok (.getfield 59, 3) := by decide +kernel
theorem dX7_firstGoer_13 : decode cX7_firstGoer 13 = .ok (.iload_n 1, 1) := by decide +kernel
theorem dX7_firstGoer_14 : decode cX7_firstGoer 14 = .ok (.baload, 1) := by decide +kernel
theorem dX7_firstGoer_15 : decode cX7_firstGoer 15 = .ok (.ifCond .eq 5, 3) := by decide +kernel
theorem dX7_firstGoer_18 : decode cX7_firstGoer 18 = .ok (.iload_n 1, 1) := by decide +kernel
theorem dX7_firstGoer_19 : decode cX7_firstGoer 19 = .ok (.ireturn, 1) := by decide +kernel
theorem dX7_firstGoer_20 : decode cX7_firstGoer 20 = .ok (.iinc 1 1, 3) := by decide +kernel
theorem dX7_firstGoer_23 : decode cX7_firstGoer 23 = .ok (.goto (-21), 3) := by decide +kernel
theorem dX7_firstGoer_26 : decode cX7_firstGoer 26 = .ok (.bipush (-4), 2) := by decide +kernel
theorem dX7_firstGoer_28 : decode cX7_firstGoer 28 = .ok (.ireturn, 1) := by decide +kernel
theorem dX7_goersApart_0 : decode cX7_goersApart 0 = .ok (.iconst 0, 1) := by decide +kernel
theorem dX7_goersApart_1 : decode cX7_goersApart 1 = .ok (.istore_n 2, 1) := by decide +kernel
theorem dX7_goersApart_2 : decode cX7_goersApart 2 = .ok (.iconst 0, 1) := by decide +kernel
theorem dX7_goersApart_3 : decode cX7_goersApart 3 = .ok (.istore_n 3, 1) := by decide +kernel
theorem dX7_goersApart_4 : decode cX7_goersApart 4 = .ok (.iconst 0, 1) := by decide +kernel
theorem dX7_goersApart_5 : decode cX7_goersApart 5 = .ok (.istore 4, 2) := by decide +kernel
theorem dX7_goersApart_7 : decode cX7_goersApart 7 = .ok (.iload 4, 2) := by decide +kernel
theorem dX7_goersApart_9 : decode cX7_goersApart 9 = .ok (.sipush 500, 3) := by decide +kernel
theorem dX7_goersApart_12 : decode cX7_goersApart 12 = .ok (.if_icmp .gt 36, 3) := by decide +kernel
theorem dX7_goersApart_15 : decode cX7_goersApart 15 = .ok (.aload_n 0, 1) := by decide +kernel
theorem dX7_goersApart_16 : decode cX7_goersApart 16 = .ok (.getfield 59, 3) := by decide +kernel
theorem dX7_goersApart_19 : decode cX7_goersApart 19 = .ok (.iload 4, 2) := by decide +kernel
theorem dX7_goersApart_21 : decode cX7_goersApart 21 = .ok (.baload, 1) := by decide +kernel
theorem dX7_goersApart_22 : decode cX7_goersApart 22 = .ok (.ifCond .eq 20, 3) := by decide +kernel
theorem dX7_goersApart_25 : decode cX7_goersApart 25 = .ok (.iload 4, 2) := by decide +kernel
theorem dX7_goersApart_27 : decode cX7_goersApart 27 = .ok (.iload_n 3, 1) := by decide +kernel
theorem dX7_goersApart_28 : decode cX7_goersApart 28 = .ok (.if_icmp .ge 6, 3) := by decide +kernel
theorem dX7_goersApart_31 : decode cX7_goersApart 31 = .ok (.goto 11, 3) := by decide +kernel
theorem dX7_goersApart_34 : decode cX7_goersApart 34 = .ok (.iinc 2 1, 3) := by decide +kernel
theorem dX7_goersApart_37 : decode cX7_goersApart 37 = .ok (.iload 4, 2) := by decide +kernel
theorem dX7_goersApart_39 : decode cX7_goersApart 39 = .ok (.iload_n 1, 1) := by decide +kernel
theorem dX7_goersApart_40 : decode cX7_goersApart 40 = .ok (.iadd, 1) := by decide +kernel
theorem dX7_goersApart_41 : decode cX7_goersApart 41 = .ok (.istore_n 3, 1) := by decide +kernel
theorem dX7_goersApart_42 : decode cX7_goersApart 42 = .ok (.iinc 4 1, 3) := by decide +kernel
theorem dX7_goersApart_45 : decode cX7_goersApart 45 = .ok (.goto (-38), 3) := by decide +kernel
theorem dX7_goersApart_48 : decode cX7_goersApart 48 = .ok (.iload_n 2, 1) := by decide +kernel
theorem dX7_goersApart_49 : decode cX7_goersApart 49 = .ok (.ireturn, 1) := by decide +kernel
theorem dX7_greatestGap_0 : decode cX7_greatestGap 0 = .ok (.iconst 1, 1) := by decide +kernel
theorem dX7_greatestGap_1 : decode cX7_greatestGap 1 = .ok (.istore_n 2, 1) := by decide +kernel
theorem dX7_greatestGap_2 : decode cX7_greatestGap 2 = .ok (.sipush 501, 3) := by decide +kernel
theorem dX7_greatestGap_5 : decode cX7_greatestGap 5 = .ok (.istore_n 3, 1) := by decide +kernel
theorem dX7_greatestGap_6 : decode cX7_greatestGap 6 = .ok (.iconst 0, 1) := by decide +kernel
theorem dX7_greatestGap_7 : decode cX7_greatestGap 7 = .ok (.istore 4, 2) := by decide +kernel
theorem dX7_greatestGap_9 : decode cX7_greatestGap 9 = .ok (.iload 4, 2) := by decide +kernel
theorem dX7_greatestGap_11 : decode cX7_greatestGap 11 = .ok (.sipush 500, 3) := by decide +kernel
theorem dX7_greatestGap_14 : decode cX7_greatestGap 14 = .ok (.if_icmp .gt 42, 3) := by decide +kernel
theorem dX7_greatestGap_17 : decode cX7_greatestGap 17 = .ok (.iload_n 3, 1) := by decide +kernel
theorem dX7_greatestGap_18 : decode cX7_greatestGap 18 = .ok (.iload_n 2, 1) := by decide +kernel
theorem dX7_greatestGap_19 : decode cX7_greatestGap 19 = .ok (.isub, 1) := by decide +kernel
theorem dX7_greatestGap_20 : decode cX7_greatestGap 20 = .ok (.iconst 1, 1) := by decide +kernel
theorem dX7_greatestGap_21 : decode cX7_greatestGap 21 = .ok (.if_icmp .le 35, 3) := by decide +kernel
theorem dX7_greatestGap_24 : decode cX7_greatestGap 24 = .ok (.iload_n 2, 1) := by decide +kernel
theorem dX7_greatestGap_25 : decode cX7_greatestGap 25 = .ok (.iload_n 3, 1) := by decide +kernel
theorem dX7_greatestGap_26 : decode cX7_greatestGap 26 = .ok (.iadd, 1) := by decide +kernel
theorem dX7_greatestGap_27 : decode cX7_greatestGap 27 = .ok (.iconst 1, 1) := by decide +kernel
theorem dX7_greatestGap_28 : decode cX7_greatestGap 28 = .ok (.ishr, 1) := by decide +kernel
theorem dX7_greatestGap_29 : decode cX7_greatestGap 29 = .ok (.istore 5, 2) := by decide +kernel
theorem dX7_greatestGap_31 : decode cX7_greatestGap 31 = .ok (.aload_n 0, 1) := by decide +kernel
theorem dX7_greatestGap_32 : decode cX7_greatestGap 32 = .ok (.iload 5, 2) := by decide +kernel
theorem dX7_greatestGap_34 : decode cX7_greatestGap 34 = .ok (.invokevirtual 242, 3) := by decide +kernel
theorem dX7_greatestGap_37 : decode cX7_greatestGap 37 = .ok (.iload_n 1, 1) := by decide +kernel
theorem dX7_greatestGap_38 : decode cX7_greatestGap 38 = .ok (.if_icmp .lt 9, 3) := by decide +kernel
theorem dX7_greatestGap_41 : decode cX7_greatestGap 41 = .ok (.iload 5, 2) := by decide +kernel
theorem dX7_greatestGap_43 : decode cX7_greatestGap 43 = .ok (.istore_n 2, 1) := by decide +kernel
theorem dX7_greatestGap_44 : decode cX7_greatestGap 44 = .ok (.goto 6, 3) := by decide +kernel
theorem dX7_greatestGap_47 : decode cX7_greatestGap 47 = .ok (.iload 5, 2) := by decide +kernel
theorem dX7_greatestGap_49 : decode cX7_greatestGap 49 = .ok (.istore_n 3, 1) := by decide +kernel
theorem dX7_greatestGap_50 : decode cX7_greatestGap 50 = .ok (.iinc 4 1, 3) := by decide +kernel
theorem dX7_greatestGap_53 : decode cX7_greatestGap 53 = .ok (.goto (-44), 3) := by decide +kernel
theorem dX7_greatestGap_56 : decode cX7_greatestGap 56 = .ok (.iload_n 2, 1) := by decide +kernel
theorem dX7_greatestGap_57 : decode cX7_greatestGap 57 = .ok (.ireturn, 1) := by decide +kernel
theorem dX7_tryHold_0 : decode cX7_tryHold 0 = .ok (.aload_n 0, 1) := by decide +kernel
theorem dX7_tryHold_1 : decode cX7_tryHold 1 = .ok (.getfield 55, 3) := by decide +kernel
theorem dX7_tryHold_4 : decode cX7_tryHold 4 = .ok (.aload_n 0, 1) := by decide +kernel
theorem dX7_tryHold_5 : decode cX7_tryHold 5 = .ok (.getfield 26, 3) := by decide +kernel
theorem dX7_tryHold_8 : decode cX7_tryHold 8 = .ok (.getfield 121, 3) := by decide +kernel
theorem dX7_tryHold_11 : decode cX7_tryHold 11 = .ok (.iload_n 1, 1) := by decide +kernel
theorem dX7_tryHold_12 : decode cX7_tryHold 12 = .ok (.aaload, 1) := by decide +kernel
theorem dX7_tryHold_13 : decode cX7_tryHold 13 = .ok (.iload_n 2, 1) := by decide +kernel
theorem dX7_tryHold_14 : decode cX7_tryHold 14 = .ok (.iload_n 3, 1) := by decide +kernel
theorem dX7_tryHold_15 : decode cX7_tryHold 15 = .ok (.invokevirtual 370, 3) := by decide +kernel
theorem dX7_tryHold_18 : decode cX7_tryHold 18 = .ok (.iconst 1, 1) := by decide +kernel
theorem dX7_tryHold_19 : decode cX7_tryHold 19 = .ok (.istore 7, 2) := by decide +kernel
theorem dX7_tryHold_21 : decode cX7_tryHold 21 = .ok (.iload 7, 2) := by decide +kernel
theorem dX7_tryHold_23 : decode cX7_tryHold 23 = .ok (.iload 6, 2) := by decide +kernel
theorem dX7_tryHold_25 : decode cX7_tryHold 25 = .ok (.if_icmp .gt 110, 3) := by decide +kernel
theorem dX7_tryHold_28 : decode cX7_tryHold 28 = .ok (.aload_n 0, 1) := by decide +kernel
theorem dX7_tryHold_29 : decode cX7_tryHold 29 = .ok (.getfield 55, 3) := by decide +kernel
theorem dX7_tryHold_32 : decode cX7_tryHold 32 = .ok (.getfield 265, 3) := by decide +kernel
theorem dX7_tryHold_35 : decode cX7_tryHold 35 = .ok (.bipush (-4), 2) := by decide +kernel
theorem dX7_tryHold_37 : decode cX7_tryHold 37 = .ok (.if_icmp .ne 98, 3) := by decide +kernel
theorem dX7_tryHold_40 : decode cX7_tryHold 40 = .ok (.aload_n 0, 1) := by decide +kernel
theorem dX7_tryHold_41 : decode cX7_tryHold 41 = .ok (.getfield 55, 3) := by decide +kernel
theorem dX7_tryHold_44 : decode cX7_tryHold 44 = .ok (.iload 7, 2) := by decide +kernel
theorem dX7_tryHold_46 : decode cX7_tryHold 46 = .ok (.iconst 1, 1) := by decide +kernel
theorem dX7_tryHold_47 : decode cX7_tryHold 47 = .ok (.isub, 1) := by decide +kernel
theorem dX7_tryHold_48 : decode cX7_tryHold 48 = .ok (.iload 4, 2) := by decide +kernel
theorem dX7_tryHold_50 : decode cX7_tryHold 50 = .ok (.iload 5, 2) := by decide +kernel
theorem dX7_tryHold_52 : decode cX7_tryHold 52 = .ok (.invokevirtual 374, 3) := by decide +kernel
theorem dX7_tryHold_55 : decode cX7_tryHold 55 = .ok (.aload_n 0, 1) := by decide +kernel
theorem dX7_tryHold_56 : decode cX7_tryHold 56 = .ok (.aload_n 0, 1) := by decide +kernel
theorem dX7_tryHold_57 : decode cX7_tryHold 57 = .ok (.getfield 55, 3) := by decide +kernel
theorem dX7_tryHold_60 : decode cX7_tryHold 60 = .ok (.getfield 268, 3) := by decide +kernel
theorem dX7_tryHold_63 : decode cX7_tryHold 63 = .ok (.aload_n 0, 1) := by decide +kernel
theorem dX7_tryHold_64 : decode cX7_tryHold 64 = .ok (.getfield 55, 3) := by decide +kernel
theorem dX7_tryHold_67 : decode cX7_tryHold 67 = .ok (.getfield 268, 3) := by decide +kernel
theorem dX7_tryHold_70 : decode cX7_tryHold 70 = .ok (.invokevirtual 147, 3) := by decide +kernel
theorem dX7_tryHold_73 : decode cX7_tryHold 73 = .ok (.aload_n 0, 1) := by decide +kernel
theorem dX7_tryHold_74 : decode cX7_tryHold 74 = .ok (.getfield 55, 3) := by decide +kernel
theorem dX7_tryHold_77 : decode cX7_tryHold 77 = .ok (.getfield 275, 3) := by decide +kernel
theorem dX7_tryHold_80 : decode cX7_tryHold 80 = .ok (.invokevirtual 160, 3) := by decide +kernel
theorem dX7_tryHold_83 : decode cX7_tryHold 83 = .ok (.istore 8, 2) := by decide +kernel
theorem dX7_tryHold_85 : decode cX7_tryHold 85 = .ok (.aload_n 0, 1) := by decide +kernel
theorem dX7_tryHold_86 : decode cX7_tryHold 86 = .ok (.getfield 55, 3) := by decide +kernel
theorem dX7_tryHold_89 : decode cX7_tryHold 89 = .ok (.getfield 268, 3) := by decide +kernel
theorem dX7_tryHold_92 : decode cX7_tryHold 92 = .ok (.iload 8, 2) := by decide +kernel
theorem dX7_tryHold_94 : decode cX7_tryHold 94 = .ok (.aload_n 0, 1) := by decide +kernel
theorem dX7_tryHold_95 : decode cX7_tryHold 95 = .ok (.getfield 19, 3) := by decide +kernel
theorem dX7_tryHold_98 : decode cX7_tryHold 98 = .ok (.getfield 62, 3) := by decide +kernel
theorem dX7_tryHold_101 : decode cX7_tryHold 101 = .ok (.iconst 3, 1) := by decide +kernel
theorem dX7_tryHold_102 : decode cX7_tryHold 102 = .ok (.iaload, 1) := by decide +kernel
theorem dX7_tryHold_103 : decode cX7_tryHold 103 = .ok (.aload_n 0, 1) := by decide +kernel
theorem dX7_tryHold_104 : decode cX7_tryHold 104 = .ok (.getfield 19, 3) := by decide +kernel
theorem dX7_tryHold_107 : decode cX7_tryHold 107 = .ok (.invokevirtual 181, 3) := by decide +kernel
theorem dX7_tryHold_110 : decode cX7_tryHold 110 = .ok (.invokevirtual 347, 3) := by decide +kernel
theorem dX7_tryHold_113 : decode cX7_tryHold 113 = .ok (.aload_n 0, 1) := by decide +kernel
theorem dX7_tryHold_114 : decode cX7_tryHold 114 = .ok (.getfield 55, 3) := by decide +kernel
theorem dX7_tryHold_117 : decode cX7_tryHold 117 = .ok (.iload 7, 2) := by decide +kernel
theorem dX7_tryHold_119 : decode cX7_tryHold 119 = .ok (.aload_n 0, 1) := by decide +kernel
theorem dX7_tryHold_120 : decode cX7_tryHold 120 = .ok (.getfield 19, 3) := by decide +kernel
theorem dX7_tryHold_123 : decode cX7_tryHold 123 = .ok (.invokevirtual 181, 3) := by decide +kernel
theorem dX7_tryHold_126 : decode cX7_tryHold 126 = .ok (.invokevirtual 377, 3) := by decide +kernel
theorem dX7_tryHold_129 : decode cX7_tryHold 129 = .ok (.iinc 7 1, 3) := by decide +kernel
theorem dX7_tryHold_132 : decode cX7_tryHold 132 = .ok (.goto (-111), 3) := by decide +kernel
theorem dX7_tryHold_135 : decode cX7_tryHold 135 = .ok (.return_, 1) := by decide +kernel
theorem dX8_init_0 : decode cX8_init 0 = .ok (.aload_n 0, 1) := by decide +kernel
theorem dX8_init_1 : decode cX8_init 1 = .ok (.invokespecial 1, 3) := by decide +kernel
theorem dX8_init_4 : decode cX8_init 4 = .ok (.aload_n 0, 1) := by decide +kernel
theorem dX8_init_5 : decode cX8_init 5 = .ok (.sipush 300, 3) := by decide +kernel
theorem dX8_init_8 : decode cX8_init 8 = .ok (.newarray .int, 2) := by decide +kernel
theorem dX8_init_10 : decode cX8_init 10 = .ok (.putfield 7, 3) := by decide +kernel
theorem dX8_init_13 : decode cX8_init 13 = .ok (.aload_n 0, 1) := by decide +kernel
theorem dX8_init_14 : decode cX8_init 14 = .ok (.iconst 2, 1) := by decide +kernel
theorem dX8_init_15 : decode cX8_init 15 = .ok (.newarray .boolean, 2) := by decide +kernel
theorem dX8_init_17 : decode cX8_init 17 = .ok (.putfield 13, 3) := by decide +kernel
theorem dX8_init_20 : decode cX8_init 20 = .ok (.aload_n 0, 1) := by decide +kernel
theorem dX8_init_21 : decode cX8_init 21 = .ok (.bipush 7, 2) := by decide +kernel
theorem dX8_init_23 : decode cX8_init 23 = .ok (.newarray .int, 2) := by decide +kernel
theorem dX8_init_25 : decode cX8_init 25 = .ok (.putfield 17, 3) := by decide +kernel
theorem dX8_init_28 : decode cX8_init 28 = .ok (.aload_n 0, 1) := by decide +kernel
theorem dX8_init_29 : decode cX8_init 29 = .ok (.bipush 24, 2) := by decide +kernel
theorem dX8_init_31 : decode cX8_init 31 = .ok (.newarray .int, 2) := by decide +kernel
theorem dX8_init_33 : decode cX8_init 33 = .ok (.putfield 20, 3) := by decide +kernel
theorem dX8_init_36 : decode cX8_init 36 = .ok (.aload_n 0, 1) := by decide +kernel
theorem dX8_init_37 : decode cX8_init 37 = .ok (.bipush 7, 2) := by decide +kernel
theorem dX8_init_39 : decode cX8_init 39 = .ok (.newarray .int, 2) := by decide +kernel
theorem dX8_init_41 : decode cX8_init 41 = .ok (.putfield 23, 3) := by decide +kernel
theorem dX8_init_44 : decode cX8_init 44 = .ok (.aload_n 0, 1) := by decide +kernel
theorem dX8_init_45 : decode cX8_init 45 = .ok (.bipush 24, 2) := by decide +kernel
theorem dX8_init_47 : decode cX8_init 47 = .ok (.newarray .int, 2) := by decide +kernel
theorem dX8_init_49 : decode cX8_init 49 = .ok (.putfield 26, 3) := by decide +kernel
theorem dX8_init_52 : decode cX8_init 52 = .ok (.aload_n 0, 1) := by decide +kernel
theorem dX8_init_53 : decode cX8_init 53 = .ok (.bipush 48, 2) := by decide +kernel
theorem dX8_init_55 : decode cX8_init 55 = .ok (.newarray .int, 2) := by decide +kernel
theorem dX8_init_57 : decode cX8_init 57 = .ok (.putfield 29, 3) := by decide +kernel
theorem dX8_init_60 : decode cX8_init 60 = .ok (.aload_n 0, 1) := by decide +kernel
theorem dX8_init_61 : decode cX8_init 61 = .ok (.sipush 320, 3) := by decide +kernel
theorem dX8_init_64 : decode cX8_init 64 = .ok (.newarray .int, 2) := by decide +kernel
theorem dX8_init_66 : decode cX8_init 66 = .ok (.putfield 32, 3) := by decide +kernel
theorem dX8_init_69 : decode cX8_init 69 = .ok (.aload_n 0, 1) := by decide +kernel
theorem dX8_init_70 : decode cX8_init 70 = .ok (.sipush 501, 3) := by decide +kernel
theorem dX8_init_73 : decode cX8_init 73 = .ok (.newarray .boolean, 2) := by decide +kernel
theorem dX8_init_75 : decode cX8_init 75 = .ok (.putfield 35, 3) := by decide +kernel
theorem dX8_init_78 : decode cX8_init 78 = .ok (.aload_n 0, 1) := by decide +kernel
theorem dX8_init_79 : decode cX8_init 79 = .ok (.sipush 1000, 3) := by decide +kernel
theorem dX8_init_82 : decode cX8_init 82 = .ok (.newarray .int, 2) := by decide +kernel
theorem dX8_init_84 : decode cX8_init 84 = .ok (.putfield 38, 3) := by decide +kernel
theorem dX8_init_87 : decode cX8_init 87 = .ok (.aload_n 0, 1) := by decide +kernel
theorem dX8_init_88 : decode cX8_init 88 = .ok (.iconst 4, 1) := by decide +kernel
theorem dX8_init_89 : decode cX8_init 89 = .ok (.newarray .int, 2) := by decide +kernel
theorem dX8_init_91 : decode cX8_init 91 = .ok (.putfield 41, 3) := by decide +kernel
theorem dX8_init_94 : decode cX8_init 94 = .ok (.aload_n 0, 1) := by decide +kernel
theorem dX8_init_95 : decode cX8_init 95 = .ok (.iconst 4, 1) := by decide +kernel
theorem dX8_init_96 : decode cX8_init 96 = .ok (.newarray .int, 2) := by decide +kernel
theorem dX8_init_98 : decode cX8_init 98 = .ok (.putfield 44, 3) := by decide +kernel
theorem dX8_init_101 : decode cX8_init 101 = .ok (.aload_n 0, 1) := by decide +kernel
theorem dX8_init_102 : decode cX8_init 102 = .ok (.sipush 160, 3) := by decide +kernel
theorem dX8_init_105 : decode cX8_init 105 = .ok (.newarray .int, 2) := by decide +kernel
theorem dX8_init_107 : decode cX8_init 107 = .ok (.putfield 47, 3) := by decide +kernel
theorem dX8_init_110 : decode cX8_init 110 = .ok (.iconst 0, 1) := by decide +kernel
theorem dX8_init_111 : decode cX8_init 111 = .ok (.istore_n 1, 1) := by decide +kernel
theorem dX8_init_112 : decode cX8_init 112 = .ok (.iload_n 1, 1) := by decide +kernel
theorem dX8_init_113 : decode cX8_init 113 = .ok (.iconst 4, 1) := by decide +kernel
theorem dX8_init_114 : decode cX8_init 114 = .ok (.if_icmp .ge 17, 3) := by decide +kernel
theorem dX8_init_117 : decode cX8_init 117 = .ok (.aload_n 0, 1) := by decide +kernel
theorem dX8_init_118 : decode cX8_init 118 = .ok (.getfield 41, 3) := by decide +kernel
theorem dX8_init_121 : decode cX8_init 121 = .ok (.iload_n 1, 1) := by decide +kernel
theorem dX8_init_122 : decode cX8_init 122 = .ok (.bipush (-4), 2) := by decide +kernel
theorem dX8_init_124 : decode cX8_init 124 = .ok (.iastore, 1) := by decide +kernel
theorem dX8_init_125 : decode cX8_init 125 = .ok (.iinc 1 1, 3) := by decide +kernel
theorem dX8_init_128 : decode cX8_init 128 = .ok (.goto (-16), 3) := by decide +kernel
theorem dX8_init_131 : decode cX8_init 131 = .ok (.aload_n 0, 1) := by decide +kernel
theorem dX8_init_132 : decode cX8_init 132 = .ok (.invokevirtual 50, 3) := by decide +kernel
theorem dX8_init_135 : decode cX8_init 135 = .ok (.aload_n 0, 1) := by decide +kernel
theorem dX8_init_136 : decode cX8_init 136 = .ok (.invokevirtual 53, 3) := by decide +kernel
theorem dX8_init_139 : decode cX8_init 139 = .ok (.return_, 1) := by decide +kernel
theorem dX8_in_0 : decode cX8_in 0 = .ok (.lload_n 0, 1) := by decide +kernel
theorem dX8_in_1 : decode cX8_in 1 = .ok (.lload_n 2, 1) := by decide +kernel
theorem dX8_in_2 : decode cX8_in 2 = .ok (.lcmp, 1) := by decide +kernel
theorem dX8_in_3 : decode cX8_in 3 = .ok (.ifCond .lt 14, 3) := by decide +kernel
theorem dX8_in_6 : decode cX8_in 6 = .ok (.lload_n 0, 1) := by decide +kernel
theorem dX8_in_7 : decode cX8_in 7 = .ok (.lload 4, 2) := by decide +kernel
theorem dX8_in_9 : decode cX8_in 9 = .ok (.lcmp, 1) := by decide +kernel
theorem dX8_in_10 : decode cX8_in 10 = .ok (.ifCond .gt 7, 3) := by decide +kernel
theorem dX8_in_13 : decode cX8_in 13 = .ok (.iconst 1, 1) := by decide +kernel
theorem dX8_in_14 : decode cX8_in 14 = .ok (.goto 4, 3) := by decide +kernel
theorem dX8_in_17 : decode cX8_in 17 = .ok (.iconst 0, 1) := by decide +kernel
theorem dX8_in_18 : decode cX8_in 18 = .ok (.ireturn, 1) := by decide +kernel
theorem dX8_flag_0 : decode cX8_flag 0 = .ok (.iload_n 0, 1) := by decide +kernel
theorem dX8_flag_1 : decode cX8_flag 1 = .ok (.ifCond .eq 7, 3) := by decide +kernel
theorem dX8_flag_4 : decode cX8_flag 4 = .ok (.iconst 1, 1) := by decide +kernel
theorem dX8_flag_5 : decode cX8_flag 5 = .ok (.goto 4, 3) := by decide +kernel
theorem dX8_flag_8 : decode cX8_flag 8 = .ok (.iconst 0, 1) := by decide +kernel
theorem dX8_flag_9 : decode cX8_flag 9 = .ok (.ireturn, 1) := by decide +kernel
theorem dX8_size_0 : decode cX8_size 0 = .ok (.iload_n 0, 1) := by decide +kernel
theorem dX8_size_1 : decode cX8_size 1 = .ok (.ifCond .ge 8, 3) := by decide +kernel
theorem dX8_size_4 : decode cX8_size 4 = .ok (.iload_n 0, 1) := by decide +kernel
theorem dX8_size_5 : decode cX8_size 5 = .ok (.ineg, 1) := by decide +kernel
theorem dX8_size_6 : decode cX8_size 6 = .ok (.goto 4, 3) := by decide +kernel
theorem dX8_size_9 : decode cX8_size 9 = .ok (.iload_n 0, 1) := by decide +kernel
theorem dX8_size_10 : decode cX8_size 10 = .ok (.ireturn, 1) := by decide +kernel
theorem dX8_firstDraft_0 : decode cX8_firstDraft 0 = .ok (.aload_n 0, 1) := by decide +kernel
theorem dX8_firstDraft_1 : decode cX8_firstDraft 1 = .ok (.getfield 23, 3) := by decide +kernel
theorem dX8_firstDraft_4 : decode cX8_firstDraft 4 = .ok (.iconst 0, 1) := by decide +kernel
theorem dX8_firstDraft_5 : decode cX8_firstDraft 5 = .ok (.bipush 100, 2) := by decide +kernel
theorem dX8_firstDraft_7 : decode cX8_firstDraft 7 = .ok (.iastore, 1) := by decide +kernel
theorem dX8_firstDraft_8 : decode cX8_firstDraft 8 = .ok (.aload_n 0, 1) := by decide +kernel
theorem dX8_firstDraft_9 : decode cX8_firstDraft 9 = .ok (.getfield 23, 3) := by decide +kernel
theorem dX8_firstDraft_12 : decode cX8_firstDraft 12 = .ok (.iconst 1, 1) := by decide +kernel
theorem dX8_firstDraft_13 : decode cX8_firstDraft 13 = .ok (.sipush 1000, 3) := by decide +kernel

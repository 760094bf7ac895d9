theorem dX10_out_27 : decode cX10_out 27 = .ok (.iconst (-1), 1) := by decide +kernel
theorem dX10_out_28 : decode cX10_out 28 = .ok (.ireturn, 1) := by decide +kernel
theorem dX10_count_0 : decode cX10_count 0 = .ok (.iload_n 1, 1) := by decide +kernel
theorem dX10_count_1 : decode cX10_count 1 = .ok (.tableswitch 65 0 3 #[31, 47, 52, 60], 31) := by decide +kernel
theorem dX10_count_32 : decode cX10_count 32 = .ok (.aload_n 0, 1) := by decide +kernel
theorem dX10_count_33 : decode cX10_count 33 = .ok (.getfield 23, 3) := by decide +kernel
theorem dX10_count_36 : decode cX10_count 36 = .ok (.getfield 129, 3) := by decide +kernel
theorem dX10_count_39 : decode cX10_count 39 = .ok (.aload_n 0, 1) := by decide +kernel
theorem dX10_count_40 : decode cX10_count 40 = .ok (.getfield 23, 3) := by decide +kernel
theorem dX10_count_43 : decode cX10_count 43 = .ok (.getfield 112, 3) := by decide +kernel
theorem dX10_count_46 : decode cX10_count 46 = .ok (.iaload, 1) := by decide +kernel
theorem dX10_count_47 : decode cX10_count 47 = .ok (.ireturn, 1) := by decide +kernel
theorem dX10_count_48 : decode cX10_count 48 = .ok (.aload_n 0, 1) := by decide +kernel
theorem dX10_count_49 : decode cX10_count 49 = .ok (.getfield 105, 3) := by decide +kernel
theorem dX10_count_52 : decode cX10_count 52 = .ok (.ireturn, 1) := by decide +kernel
theorem dX10_count_53 : decode cX10_count 53 = .ok (.aload_n 0, 1) := by decide +kernel
theorem dX10_count_54 : decode cX10_count 54 = .ok (.getfield 87, 3) := by decide +kernel
theorem dX10_count_57 : decode cX10_count 57 = .ok (.getfield 166, 3) := by decide +kernel
theorem dX10_count_60 : decode cX10_count 60 = .ok (.ireturn, 1) := by decide +kernel
theorem dX10_count_61 : decode cX10_count 61 = .ok (.aload_n 0, 1) := by decide +kernel
theorem dX10_count_62 : decode cX10_count 62 = .ok (.getfield 188, 3) := by decide +kernel
theorem dX10_count_65 : decode cX10_count 65 = .ok (.ireturn, 1) := by decide +kernel
theorem dX10_count_66 : decode cX10_count 66 = .ok (.iconst (-1), 1) := by decide +kernel
theorem dX10_count_67 : decode cX10_count 67 = .ok (.ireturn, 1) := by decide +kernel
theorem dX10_feedFour_0 : decode cX10_feedFour 0 = .ok (.bipush 24, 2) := by decide +kernel
theorem dX10_feedFour_2 : decode cX10_feedFour 2 = .ok (.istore_n 2, 1) := by decide +kernel
theorem dX10_feedFour_3 : decode cX10_feedFour 3 = .ok (.iload_n 2, 1) := by decide +kernel
theorem dX10_feedFour_4 : decode cX10_feedFour 4 = .ok (.ifCond .lt 42, 3) := by decide +kernel
theorem dX10_feedFour_7 : decode cX10_feedFour 7 = .ok (.aload_n 0, 1) := by decide +kernel
theorem dX10_feedFour_8 : decode cX10_feedFour 8 = .ok (.getfield 105, 3) := by decide +kernel
theorem dX10_feedFour_11 : decode cX10_feedFour 11 = .ok (.sipush 3000, 3) := by decide +kernel
theorem dX10_feedFour_14 : decode cX10_feedFour 14 = .ok (.if_icmp .ge 26, 3) := by decide +kernel
theorem dX10_feedFour_17 : decode cX10_feedFour 17 = .ok (.aload_n 0, 1) := by decide +kernel
theorem dX10_feedFour_18 : decode cX10_feedFour 18 = .ok (.getfield 9, 3) := by decide +kernel
theorem dX10_feedFour_21 : decode cX10_feedFour 21 = .ok (.aload_n 0, 1) := by decide +kernel
theorem dX10_feedFour_22 : decode cX10_feedFour 22 = .ok (.getfield 105, 3) := by decide +kernel
theorem dX10_feedFour_25 : decode cX10_feedFour 25 = .ok (.iload_n 1, 1) := by decide +kernel
theorem dX10_feedFour_26 : decode cX10_feedFour 26 = .ok (.iload_n 2, 1) := by decide +kernel
theorem dX10_feedFour_27 : decode cX10_feedFour 27 = .ok (.ishr, 1) := by decide +kernel
theorem dX10_feedFour_28 : decode cX10_feedFour 28 = .ok (.i2b, 1) := by decide +kernel
theorem dX10_feedFour_29 : decode cX10_feedFour 29 = .ok (.bastore, 1) := by decide +kernel
theorem dX10_feedFour_30 : decode cX10_feedFour 30 = .ok (.aload_n 0, 1) := by decide +kernel
theorem dX10_feedFour_31 : decode cX10_feedFour 31 = .ok (.dup, 1) := by decide +kernel
theorem dX10_feedFour_32 : decode cX10_feedFour 32 = .ok (.getfield 105, 3) := by decide +kernel
theorem dX10_feedFour_35 : decode cX10_feedFour 35 = .ok (.iconst 1, 1) := by decide +kernel
theorem dX10_feedFour_36 : decode cX10_feedFour 36 = .ok (.iadd, 1) := by decide +kernel
theorem dX10_feedFour_37 : decode cX10_feedFour 37 = .ok (.putfield 105, 3) := by decide +kernel
theorem dX10_feedFour_40 : decode cX10_feedFour 40 = .ok (.iinc 2 (-8), 3) := by decide +kernel
theorem dX10_feedFour_43 : decode cX10_feedFour 43 = .ok (.goto (-40), 3) := by decide +kernel
theorem dX10_feedFour_46 : decode cX10_feedFour 46 = .ok (.return_, 1) := by decide +kernel
theorem dX10_startText_0 : decode cX10_startText 0 = .ok (.iconst 1, 1) := by decide +kernel
theorem dX10_startText_1 : decode cX10_startText 1 = .ok (.aload_n 0, 1) := by decide +kernel
theorem dX10_startText_2 : decode cX10_startText 2 = .ok (.getfield 23, 3) := by decide +kernel
theorem dX10_startText_5 : decode cX10_startText 5 = .ok (.getfield 112, 3) := by decide +kernel
theorem dX10_startText_8 : decode cX10_startText 8 = .ok (.isub, 1) := by decide +kernel
theorem dX10_startText_9 : decode cX10_startText 9 = .ok (.istore_n 1, 1) := by decide +kernel
theorem dX10_startText_10 : decode cX10_startText 10 = .ok (.aload_n 0, 1) := by decide +kernel
theorem dX10_startText_11 : decode cX10_startText 11 = .ok (.getfield 23, 3) := by decide +kernel
theorem dX10_startText_14 : decode cX10_startText 14 = .ok (.iload_n 1, 1) := by decide +kernel
theorem dX10_startText_15 : decode cX10_startText 15 = .ok (.invokevirtual 191, 3) := by decide +kernel
theorem dX10_startText_18 : decode cX10_startText 18 = .ok (.aload_n 0, 1) := by decide +kernel
theorem dX10_startText_19 : decode cX10_startText 19 = .ok (.getfield 16, 3) := by decide +kernel
theorem dX10_startText_22 : decode cX10_startText 22 = .ok (.iload_n 1, 1) := by decide +kernel
theorem dX10_startText_23 : decode cX10_startText 23 = .ok (.invokevirtual 194, 3) := by decide +kernel
theorem dX10_startText_26 : decode cX10_startText 26 = .ok (.aload_n 0, 1) := by decide +kernel
theorem dX10_startText_27 : decode cX10_startText 27 = .ok (.getfield 23, 3) := by decide +kernel
theorem dX10_startText_30 : decode cX10_startText 30 = .ok (.getfield 195, 3) := by decide +kernel
theorem dX10_startText_33 : decode cX10_startText 33 = .ok (.ireturn, 1) := by decide +kernel
theorem dX10_isSound_0 : decode cX10_isSound 0 = .ok (.aload_n 0, 1) := by decide +kernel
theorem dX10_isSound_1 : decode cX10_isSound 1 = .ok (.aload_n 0, 1) := by decide +kernel
theorem dX10_isSound_2 : decode cX10_isSound 2 = .ok (.getfield 51, 3) := by decide +kernel
theorem dX10_isSound_5 : decode cX10_isSound 5 = .ok (.getfield 198, 3) := by decide +kernel
theorem dX10_isSound_8 : decode cX10_isSound 8 = .ok (.putfield 156, 3) := by decide +kernel
theorem dX10_isSound_11 : decode cX10_isSound 11 = .ok (.aload_n 0, 1) := by decide +kernel
theorem dX10_isSound_12 : decode cX10_isSound 12 = .ok (.aload_n 0, 1) := by decide +kernel
theorem dX10_isSound_13 : decode cX10_isSound 13 = .ok (.getfield 51, 3) := by decide +kernel
theorem dX10_isSound_16 : decode cX10_isSound 16 = .ok (.getfield 201, 3) := by decide +kernel
theorem dX10_isSound_19 : decode cX10_isSound 19 = .ok (.putfield 101, 3) := by decide +kernel
theorem dX10_isSound_22 : decode cX10_isSound 22 = .ok (.aload_n 0, 1) := by decide +kernel
theorem dX10_isSound_23 : decode cX10_isSound 23 = .ok (.getfield 156, 3) := by decide +kernel
theorem dX10_isSound_26 : decode cX10_isSound 26 = .ok (.ifCond .ne 40, 3) := by decide +kernel
theorem dX10_isSound_29 : decode cX10_isSound 29 = .ok (.aload_n 0, 1) := by decide +kernel
theorem dX10_isSound_30 : decode cX10_isSound 30 = .ok (.getfield 60, 3) := by decide +kernel
theorem dX10_isSound_33 : decode cX10_isSound 33 = .ok (.iload_n 1, 1) := by decide +kernel
theorem dX10_isSound_34 : decode cX10_isSound 34 = .ok (.aload_n 0, 1) := by decide +kernel
theorem dX10_isSound_35 : decode cX10_isSound 35 = .ok (.getfield 23, 3) := by decide +kernel
theorem dX10_isSound_38 : decode cX10_isSound 38 = .ok (.getfield 195, 3) := by decide +kernel
theorem dX10_isSound_41 : decode cX10_isSound 41 = .ok (.invokevirtual 204, 3) := by decide +kernel
theorem dX10_isSound_44 : decode cX10_isSound 44 = .ok (.aload_n 0, 1) := by decide +kernel
theorem dX10_isSound_45 : decode cX10_isSound 45 = .ok (.aload_n 0, 1) := by decide +kernel
theorem dX10_isSound_46 : decode cX10_isSound 46 = .ok (.getfield 60, 3) := by decide +kernel
theorem dX10_isSound_49 : decode cX10_isSound 49 = .ok (.getfield 207, 3) := by decide +kernel
theorem dX10_isSound_52 : decode cX10_isSound 52 = .ok (.putfield 156, 3) := by decide +kernel
theorem dX10_isSound_55 : decode cX10_isSound 55 = .ok (.aload_n 0, 1) := by decide +kernel
theorem dX10_isSound_56 : decode cX10_isSound 56 = .ok (.aload_n 0, 1) := by decide +kernel
theorem dX10_isSound_57 : decode cX10_isSound 57 = .ok (.getfield 60, 3) := by decide +kernel
theorem dX10_isSound_60 : decode cX10_isSound 60 = .ok (.getfield 208, 3) := by decide +kernel
theorem dX10_isSound_63 : decode cX10_isSound 63 = .ok (.putfield 101, 3) := by decide +kernel
theorem dX10_isSound_66 : decode cX10_isSound 66 = .ok (.aload_n 0, 1) := by decide +kernel
theorem dX10_isSound_67 : decode cX10_isSound 67 = .ok (.getfield 156, 3) := by decide +kernel
theorem dX10_isSound_70 : decode cX10_isSound 70 = .ok (.ifCond .ne 8, 3) := by decide +kernel
theorem dX10_isSound_73 : decode cX10_isSound 73 = .ok (.aload_n 0, 1) := by decide +kernel
theorem dX10_isSound_74 : decode cX10_isSound 74 = .ok (.iconst (-1), 1) := by decide +kernel
theorem dX10_isSound_75 : decode cX10_isSound 75 = .ok (.putfield 101, 3) := by decide +kernel
theorem dX10_isSound_78 : decode cX10_isSound 78 = .ok (.aload_n 0, 1) := by decide +kernel
theorem dX10_isSound_79 : decode cX10_isSound 79 = .ok (.getfield 156, 3) := by decide +kernel
theorem dX10_isSound_82 : decode cX10_isSound 82 = .ok (.ifCond .ne 7, 3) := by decide +kernel
theorem dX10_isSound_85 : decode cX10_isSound 85 = .ok (.iconst 1, 1) := by decide +kernel
theorem dX10_isSound_86 : decode cX10_isSound 86 = .ok (.goto 4, 3) := by decide +kernel
theorem dX10_isSound_89 : decode cX10_isSound 89 = .ok (.iconst 0, 1) := by decide +kernel
theorem dX10_isSound_90 : decode cX10_isSound 90 = .ok (.ireturn, 1) := by decide +kernel
theorem dX11_four_0 : decode cX11_four 0 = .ok (.bipush 24, 2) := by decide +kernel
theorem dX11_four_2 : decode cX11_four 2 = .ok (.istore_n 2, 1) := by decide +kernel
theorem dX11_four_3 : decode cX11_four 3 = .ok (.iload_n 2, 1) := by decide +kernel
theorem dX11_four_4 : decode cX11_four 4 = .ok (.ifCond .lt 35, 3) := by decide +kernel
theorem dX11_four_7 : decode cX11_four 7 = .ok (.aload_n 0, 1) := by decide +kernel
theorem dX11_four_8 : decode cX11_four 8 = .ok (.getfield 3, 3) := by decide +kernel
theorem dX11_four_11 : decode cX11_four 11 = .ok (.aload_n 0, 1) := by decide +kernel
theorem dX11_four_12 : decode cX11_four 12 = .ok (.getfield 7, 3) := by decide +kernel
theorem dX11_four_15 : decode cX11_four 15 = .ok (.iload_n 1, 1) := by decide +kernel
theorem dX11_four_16 : decode cX11_four 16 = .ok (.iload_n 2, 1) := by decide +kernel
theorem dX11_four_17 : decode cX11_four 17 = .ok (.ishr, 1) := by decide +kernel
theorem dX11_four_18 : decode cX11_four 18 = .ok (.sipush 255, 3) := by decide +kernel
theorem dX11_four_21 : decode cX11_four 21 = .ok (.iand, 1) := by decide +kernel
theorem dX11_four_22 : decode cX11_four 22 = .ok (.iastore, 1) := by decide +kernel
theorem dX11_four_23 : decode cX11_four 23 = .ok (.aload_n 0, 1) := by decide +kernel
theorem dX11_four_24 : decode cX11_four 24 = .ok (.dup, 1) := by decide +kernel
theorem dX11_four_25 : decode cX11_four 25 = .ok (.getfield 7, 3) := by decide +kernel
theorem dX11_four_28 : decode cX11_four 28 = .ok (.iconst 1, 1) := by decide +kernel
theorem dX11_four_29 : decode cX11_four 29 = .ok (.iadd, 1) := by decide +kernel
theorem dX11_four_30 : decode cX11_four 30 = .ok (.putfield 7, 3) := by decide +kernel
theorem dX11_four_33 : decode cX11_four 33 = .ok (.iinc 2 (-8), 3) := by decide +kernel
theorem dX11_four_36 : decode cX11_four 36 = .ok (.goto (-33), 3) := by decide +kernel
theorem dX11_four_39 : decode cX11_four 39 = .ok (.return_, 1) := by decide +kernel
theorem dX11_feed_0 : decode cX11_feed 0 = .ok (.aload_n 0, 1) := by decide +kernel
theorem dX11_feed_1 : decode cX11_feed 1 = .ok (.getfield 7, 3) := by decide +kernel
theorem dX11_feed_4 : decode cX11_feed 4 = .ok (.sipush 2980, 3) := by decide +kernel
theorem dX11_feed_7 : decode cX11_feed 7 = .ok (.if_icmp .le 5, 3) := by decide +kernel
theorem dX11_feed_12 : decode cX11_feed 12 = .ok (.aload_n 0, 1) := by decide +kernel
theorem dX11_feed_13 : decode cX11_feed 13 = .ok (.iload_n 1, 1) := by decide +kernel
theorem dX11_feed_14 : decode cX11_feed 14 = .ok (.invokevirtual 11, 3) := by decide +kernel
theorem dX11_feed_17 : decode cX11_feed 17 = .ok (.aload_n 0, 1) := by decide +kernel
theorem dX11_feed_18 : decode cX11_feed 18 = .ok (.iload_n 2, 1) := by decide +kernel
theorem dX11_feed_19 : decode cX11_feed 19 = .ok (.invokevirtual 11, 3) := by decide +kernel
theorem dX11_feed_22 : decode cX11_feed 22 = .ok (.aload_n 0, 1) := by decide +kernel
theorem dX11_feed_23 : decode cX11_feed 23 = .ok (.iload_n 3, 1) := by decide +kernel
theorem dX11_feed_24 : decode cX11_feed 24 = .ok (.invokevirtual 11, 3) := by decide +kernel
theorem dX11_feed_27 : decode cX11_feed 27 = .ok (.aload_n 0, 1) := by decide +kernel
theorem dX11_feed_28 : decode cX11_feed 28 = .ok (.iload 4, 2) := by decide +kernel
theorem dX11_feed_30 : decode cX11_feed 30 = .ok (.invokevirtual 11, 3) := by decide +kernel
theorem dX11_feed_33 : decode cX11_feed 33 = .ok (.aload_n 0, 1) := by decide +kernel
theorem dX11_feed_34 : decode cX11_feed 34 = .ok (.iload 5, 2) := by decide +kernel
theorem dX11_feed_36 : decode cX11_feed 36 = .ok (.invokevirtual 11, 3) := by decide +kernel
theorem dX11_feed_39 : decode cX11_feed 39 = .ok (.aload_n 0, 1) := by decide +kernel
theorem dX11_feed_40 : decode cX11_feed 40 = .ok (.getfield 7, 3) := by decide +kernel
theorem dX11_feed_43 : decode cX11_feed 43 = .ok (.ireturn, 1) := by decide +kernel
theorem dX11_init_0 : decode cX11_init 0 = .ok (.aload_n 0, 1) := by decide +kernel
theorem dX11_init_1 : decode cX11_init 1 = .ok (.invokespecial 15, 3) := by decide +kernel
theorem dX11_init_4 : decode cX11_init 4 = .ok (.aload_n 0, 1) := by decide +kernel
theorem dX11_init_5 : decode cX11_init 5 = .ok (.sipush 3000, 3) := by decide +kernel
theorem dX11_init_8 : decode cX11_init 8 = .ok (.newarray .int, 2) := by decide +kernel
theorem dX11_init_10 : decode cX11_init 10 = .ok (.putfield 3, 3) := by decide +kernel
theorem dX11_init_13 : decode cX11_init 13 = .ok (.aload_n 0, 1) := by decide +kernel
theorem dX11_init_14 : decode cX11_init 14 = .ok (.bipush 19, 2) := by decide +kernel
theorem dX11_init_16 : decode cX11_init 16 = .ok (.newarray .long, 2) := by decide +kernel
theorem dX11_init_18 : decode cX11_init 18 = .ok (.putfield 21, 3) := by decide +kernel
theorem dX11_init_21 : decode cX11_init 21 = .ok (.aload_n 0, 1) := by decide +kernel
theorem dX11_init_22 : decode cX11_init 22 = .ok (.sipush 3002, 3) := by decide +kernel
theorem dX11_init_25 : decode cX11_init 25 = .ok (.newarray .int, 2) := by decide +kernel
theorem dX11_init_27 : decode cX11_init 27 = .ok (.putfield 25, 3) := by decide +kernel
theorem dX11_init_30 : decode cX11_init 30 = .ok (.aload_n 0, 1) := by decide +kernel
theorem dX11_init_31 : decode cX11_init 31 = .ok (.sipush 3002, 3) := by decide +kernel
theorem dX11_init_34 : decode cX11_init 34 = .ok (.newarray .int, 2) := by decide +kernel
theorem dX11_init_36 : decode cX11_init 36 = .ok (.putfield 28, 3) := by decide +kernel
theorem dX11_init_39 : decode cX11_init 39 = .ok (.aload_n 0, 1) := by decide +kernel
theorem dX11_init_40 : decode cX11_init 40 = .ok (.sipush 3002, 3) := by decide +kernel
theorem dX11_init_43 : decode cX11_init 43 = .ok (.newarray .int, 2) := by decide +kernel
theorem dX11_init_45 : decode cX11_init 45 = .ok (.putfield 31, 3) := by decide +kernel
theorem dX11_init_48 : decode cX11_init 48 = .ok (.aload_n 0, 1) := by decide +kernel
theorem dX11_init_49 : decode cX11_init 49 = .ok (.sipush 3002, 3) := by decide +kernel
theorem dX11_init_52 : decode cX11_init 52 = .ok (.newarray .long, 2) := by decide +kernel
theorem dX11_init_54 : decode cX11_init 54 = .ok (.putfield 34, 3) := by decide +kernel
theorem dX11_init_57 : decode cX11_init 57 = .ok (.aload_n 0, 1) := by decide +kernel
theorem dX11_init_58 : decode cX11_init 58 = .ok (.sipush 10800, 3) := by decide +kernel
theorem dX11_init_61 : decode cX11_init 61 = .ok (.newarray .int, 2) := by decide +kernel
theorem dX11_init_63 : decode cX11_init 63 = .ok (.putfield 37, 3) := by decide +kernel
theorem dX11_init_66 : decode cX11_init 66 = .ok (.aload_n 0, 1) := by decide +kernel
theorem dX11_init_67 : decode cX11_init 67 = .ok (.sipush 10800, 3) := by decide +kernel
theorem dX11_init_70 : decode cX11_init 70 = .ok (.newarray .int, 2) := by decide +kernel
theorem dX11_init_72 : decode cX11_init 72 = .ok (.putfield 40, 3) := by decide +kernel
theorem dX11_init_75 : decode cX11_init 75 = .ok (.aload_n 0, 1) := by decide +kernel
theorem dX11_init_76 : decode cX11_init 76 = .ok (.sipush 10800, 3) := by decide +kernel
theorem dX11_init_79 : decode cX11_init 79 = .ok (.newarray .int, 2) := by decide +kernel
theorem dX11_init_81 : decode cX11_init 81 = .ok (.putfield 43, 3) := by decide +kernel
theorem dX11_init_84 : decode cX11_init 84 = .ok (.aload_n 0, 1) := by decide +kernel
theorem dX11_init_85 : decode cX11_init 85 = .ok (.sipush 6800, 3) := by decide +kernel
theorem dX11_init_88 : decode cX11_init 88 = .ok (.newarray .int, 2) := by decide +kernel
theorem dX11_init_90 : decode cX11_init 90 = .ok (.putfield 46, 3) := by decide +kernel
theorem dX11_init_93 : decode cX11_init 93 = .ok (.aload_n 0, 1) := by decide +kernel
theorem dX11_init_94 : decode cX11_init 94 = .ok (.sipush 6800, 3) := by decide +kernel
theorem dX11_init_97 : decode cX11_init 97 = .ok (.newarray .int, 2) := by decide +kernel
theorem dX11_init_99 : decode cX11_init 99 = .ok (.putfield 49, 3) := by decide +kernel
theorem dX11_init_102 : decode cX11_init 102 = .ok (.aload_n 0, 1) := by decide +kernel
theorem dX11_init_103 : decode cX11_init 103 = .ok (.sipush 6800, 3) := by decide +kernel
theorem dX11_init_106 : decode cX11_init 106 = .ok (.newarray .int, 2) := by decide +kernel
theorem dX11_init_108 : decode cX11_init 108 = .ok (.putfield 52, 3) := by decide +kernel
theorem dX11_init_111 : decode cX11_init 111 = .ok (.aload_n 0, 1) := by decide +kernel
theorem dX11_init_112 : decode cX11_init 112 = .ok (.sipush 6800, 3) := by decide +kernel
theorem dX11_init_115 : decode cX11_init 115 = .ok (.newarray .int, 2) := by decide +kernel
theorem dX11_init_117 : decode cX11_init 117 = .ok (.putfield 55, 3) := by decide +kernel
theorem dX11_init_120 : decode cX11_init 120 = .ok (.aload_n 0, 1) := by decide +kernel
theorem dX11_init_121 : decode cX11_init 121 = .ok (.sipush 6800, 3) := by decide +kernel
theorem dX11_init_124 : decode cX11_init 124 = .ok (.newarray .int, 2) := by decide +kernel
theorem dX11_init_126 : decode cX11_init 126 = .ok (.putfield 58, 3) := by decide +kernel
theorem dX11_init_129 : decode cX11_init 129 = .ok (.aload_n 0, 1) := by decide +kernel
theorem dX11_init_130 : decode cX11_init 130 = .ok (.sipush 6800, 3) := by decide +kernel
theorem dX11_init_133 : decode cX11_init 133 = .ok (.newarray .int, 2) := by decide +kernel
theorem dX11_init_135 : decode cX11_init 135 = .ok (.putfield 61, 3) := by decide +kernel
theorem dX11_init_138 : decode cX11_init 138 = .ok (.aload_n 0, 1) := by decide +kernel
theorem dX11_init_139 : decode cX11_init 139 = .ok (.sipush 6800, 3) := by decide +kernel
theorem dX11_init_142 : decode cX11_init 142 = .ok (.newarray .int, 2) := by decide +kernel
theorem dX11_init_144 : decode cX11_init 144 = .ok (.putfield 64, 3) := by decide +kernel
theorem dX11_init_147 : decode cX11_init 147 = .ok (.aload_n 0, 1) := by decide +kernel
theorem dX11_init_148 : decode cX11_init 148 = .ok (.sipush 6800, 3) := by decide +kernel
theorem dX11_init_151 : decode cX11_init 151 = .ok (.newarray .int, 2) := by decide +kernel
theorem dX11_init_153 : decode cX11_init 153 = .ok (.putfield 67, 3) := by decide +kernel
theorem dX11_init_156 : decode cX11_init 156 = .ok (.aload_n 0, 1) := by decide +kernel
theorem dX11_init_157 : decode cX11_init 157 = .ok (.sipush 6800, 3) := by decide +kernel
theorem dX11_init_160 : decode cX11_init 160 = .ok (.newarray .int, 2) := by decide +kernel
theorem dX11_init_162 : decode cX11_init 162 = .ok (.putfield 70, 3) := by decide +kernel
theorem dX11_init_165 : decode cX11_init 165 = .ok (.aload_n 0, 1) := by decide +kernel
theorem dX11_init_166 : decode cX11_init 166 = .ok (.sipush 6800, 3) := by decide +kernel
theorem dX11_init_169 : decode cX11_init 169 = .ok (.newarray .int, 2) := by decide +kernel
theorem dX11_init_171 : decode cX11_init 171 = .ok (.putfield 73, 3) := by decide +kernel
theorem dX11_init_174 : decode cX11_init 174 = .ok (.aload_n 0, 1) := by decide +kernel
theorem dX11_init_175 : decode cX11_init 175 = .ok (.sipush 6800, 3) := by decide +kernel
theorem dX11_init_178 : decode cX11_init 178 = .ok (.newarray .int, 2) := by decide +kernel
theorem dX11_init_180 : decode cX11_init 180 = .ok (.putfield 76, 3) := by decide +kernel
theorem dX11_init_183 : decode cX11_init 183 = .ok (.aload_n 0, 1) := by decide +kernel
theorem dX11_init_184 : decode cX11_init 184 = .ok (.sipush 6800, 3) := by decide +kernel
theorem dX11_init_187 : decode cX11_init 187 = .ok (.newarray .int, 2) := by decide +kernel
theorem dX11_init_189 : decode cX11_init 189 = .ok (.putfield 79, 3) := by decide +kernel
theorem dX11_init_192 : decode cX11_init 192 = .ok (.aload_n 0, 1) := by decide +kernel
theorem dX11_init_193 : decode cX11_init 193 = .ok (.sipush 6800, 3) := by decide +kernel
theorem dX11_init_196 : decode cX11_init 196 = .ok (.newarray .long, 2) := by decide +kernel
theorem dX11_init_198 : decode cX11_init 198 = .ok (.putfield 82, 3) := by decide +kernel
theorem dX11_init_201 : decode cX11_init 201 = .ok (.aload_n 0, 1) := by decide +kernel
theorem dX11_init_202 : decode cX11_init 202 = .ok (.sipush 6800, 3) := by decide +kernel
theorem dX11_init_205 : decode cX11_init 205 = .ok (.newarray .long, 2) := by decide +kernel
theorem dX11_init_207 : decode cX11_init 207 = .ok (.putfield 85, 3) := by decide +kernel
theorem dX11_init_210 : decode cX11_init 210 = .ok (.aload_n 0, 1) := by decide +kernel
theorem dX11_init_211 : decode cX11_init 211 = .ok (.sipush 6800, 3) := by decide +kernel
theorem dX11_init_214 : decode cX11_init 214 = .ok (.newarray .int, 2) := by decide +kernel
theorem dX11_init_216 : decode cX11_init 216 = .ok (.putfield 88, 3) := by decide +kernel
theorem dX11_init_219 : decode cX11_init 219 = .ok (.aload_n 0, 1) := by decide +kernel
theorem dX11_init_220 : decode cX11_init 220 = .ok (.sipush 6800, 3) := by decide +kernel
theorem dX11_init_223 : decode cX11_init 223 = .ok (.newarray .int, 2) := by decide +kernel
theorem dX11_init_225 : decode cX11_init 225 = .ok (.putfield 91, 3) := by decide +kernel
theorem dX11_init_228 : decode cX11_init 228 = .ok (.aload_n 0, 1) := by decide +kernel
theorem dX11_init_229 : decode cX11_init 229 = .ok (.sipush 2400, 3) := by decide +kernel
theorem dX11_init_232 : decode cX11_init 232 = .ok (.newarray .int, 2) := by decide +kernel
theorem dX11_init_234 : decode cX11_init 234 = .ok (.putfield 94, 3) := by decide +kernel
theorem dX11_init_237 : decode cX11_init 237 = .ok (.aload_n 0, 1) := by decide +kernel
theorem dX11_init_238 : decode cX11_init 238 = .ok (.sipush 2400, 3) := by decide +kernel
theorem dX11_init_241 : decode cX11_init 241 = .ok (.newarray .long, 2) := by decide +kernel
theorem dX11_init_243 : decode cX11_init 243 = .ok (.putfield 97, 3) := by decide +kernel
theorem dX11_init_246 : decode cX11_init 246 = .ok (.aload_n 0, 1) := by decide +kernel
theorem dX11_init_247 : decode cX11_init 247 = .ok (.sipush 2400, 3) := by decide +kernel
theorem dX11_init_250 : decode cX11_init 250 = .ok (.newarray .int, 2) := by decide +kernel
theorem dX11_init_252 : decode cX11_init 252 = .ok (.putfield 100, 3) := by decide +kernel
theorem dX11_init_255 : decode cX11_init 255 = .ok (.aload_n 0, 1) := by decide +kernel
theorem dX11_init_256 : decode cX11_init 256 = .ok (.sipush 2400, 3) := by decide +kernel
theorem dX11_init_259 : decode cX11_init 259 = .ok (.newarray .int, 2) := by decide +kernel
theorem dX11_init_261 : decode cX11_init 261 = .ok (.putfield 103, 3) := by decide +kernel
theorem dX11_init_264 : decode cX11_init 264 = .ok (.aload_n 0, 1) := by decide +kernel
theorem dX11_init_265 : decode cX11_init 265 = .ok (.sipush 2400, 3) := by decide +kernel
theorem dX11_init_268 : decode cX11_init 268 = .ok (.newarray .int, 2) := by decide +kernel
theorem dX11_init_270 : decode cX11_init 270 = .ok (.putfield 106, 3) := by decide +kernel
theorem dX11_init_273 : decode cX11_init 273 = .ok (.aload_n 0, 1) := by decide +kernel
theorem dX11_init_274 : decode cX11_init 274 = .ok (.sipush 2400, 3) := by decide +kernel
theorem dX11_init_277 : decode cX11_init 277 = .ok (.newarray .int, 2) := by decide +kernel
theorem dX11_init_279 : decode cX11_init 279 = .ok (.putfield 109, 3) := by decide +kernel
theorem dX11_init_282 : decode cX11_init 282 = .ok (.aload_n 0, 1) := by decide +kernel
theorem dX11_init_283 : decode cX11_init 283 = .ok (.iconst (-1), 1) := by decide +kernel
theorem dX11_init_284 : decode cX11_init 284 = .ok (.putfield 112, 3) := by decide +kernel
theorem dX11_init_287 : decode cX11_init 287 = .ok (.aload_n 0, 1) := by decide +kernel
theorem dX11_init_288 : decode cX11_init 288 = .ok (.bipush 64, 2) := by decide +kernel
theorem dX11_init_290 : decode cX11_init 290 = .ok (.newarray .long, 2) := by decide +kernel
theorem dX11_init_292 : decode cX11_init 292 = .ok (.putfield 115, 3) := by decide +kernel
theorem dX11_init_295 : decode cX11_init 295 = .ok (.aload_n 0, 1) := by decide +kernel
theorem dX11_init_296 : decode cX11_init 296 = .ok (.bipush 64, 2) := by decide +kernel
theorem dX11_init_298 : decode cX11_init 298 = .ok (.newarray .int, 2) := by decide +kernel
theorem dX11_init_300 : decode cX11_init 300 = .ok (.putfield 118, 3) := by decide +kernel
theorem dX11_init_303 : decode cX11_init 303 = .ok (.aload_n 0, 1) := by decide +kernel
theorem dX11_init_304 : decode cX11_init 304 = .ok (.bipush 64, 2) := by decide +kernel
theorem dX11_init_306 : decode cX11_init 306 = .ok (.newarray .int, 2) := by decide +kernel
theorem dX11_init_308 : decode cX11_init 308 = .ok (.putfield 121, 3) := by decide +kernel
theorem dX11_init_311 : decode cX11_init 311 = .ok (.aload_n 0, 1) := by decide +kernel
theorem dX11_init_312 : decode cX11_init 312 = .ok (.bipush 64, 2) := by decide +kernel
theorem dX11_init_314 : decode cX11_init 314 = .ok (.newarray .int, 2) := by decide +kernel
theorem dX11_init_316 : decode cX11_init 316 = .ok (.putfield 124, 3) := by decide +kernel
theorem dX11_init_319 : decode cX11_init 319 = .ok (.aload_n 0, 1) := by decide +kernel
theorem dX11_init_320 : decode cX11_init 320 = .ok (.bipush 64, 2) := by decide +kernel
theorem dX11_init_322 : decode cX11_init 322 = .ok (.newarray .int, 2) := by decide +kernel
theorem dX11_init_324 : decode cX11_init 324 = .ok (.putfield 127, 3) := by decide +kernel
theorem dX11_init_327 : decode cX11_init 327 = .ok (.aload_n 0, 1) := by decide +kernel
theorem dX11_init_328 : decode cX11_init 328 = .ok (.bipush 64, 2) := by decide +kernel
theorem dX11_init_330 : decode cX11_init 330 = .ok (.newarray .int, 2) := by decide +kernel
theorem dX11_init_332 : decode cX11_init 332 = .ok (.putfield 130, 3) := by decide +kernel
theorem dX11_init_335 : decode cX11_init 335 = .ok (.aload_n 0, 1) := by decide +kernel
theorem dX11_init_336 : decode cX11_init 336 = .ok (.sipush 256, 3) := by decide +kernel
theorem dX11_init_339 : decode cX11_init 339 = .ok (.newarray .long, 2) := by decide +kernel
theorem dX11_init_341 : decode cX11_init 341 = .ok (.putfield 133, 3) := by decide +kernel
theorem dX11_init_344 : decode cX11_init 344 = .ok (.aload_n 0, 1) := by decide +kernel
theorem dX11_init_345 : decode cX11_init 345 = .ok (.sipush 256, 3) := by decide +kernel
theorem dX11_init_348 : decode cX11_init 348 = .ok (.newarray .int, 2) := by decide +kernel
theorem dX11_init_350 : decode cX11_init 350 = .ok (.putfield 136, 3) := by decide +kernel
theorem dX11_init_353 : decode cX11_init 353 = .ok (.aload_n 0, 1) := by decide +kernel
theorem dX11_init_354 : decode cX11_init 354 = .ok (.sipush 256, 3) := by decide +kernel
theorem dX11_init_357 : decode cX11_init 357 = .ok (.newarray .int, 2) := by decide +kernel
theorem dX11_init_359 : decode cX11_init 359 = .ok (.putfield 139, 3) := by decide +kernel
theorem dX11_init_362 : decode cX11_init 362 = .ok (.aload_n 0, 1) := by decide +kernel
theorem dX11_init_363 : decode cX11_init 363 = .ok (.sipush 256, 3) := by decide +kernel
theorem dX11_init_366 : decode cX11_init 366 = .ok (.newarray .int, 2) := by decide +kernel
theorem dX11_init_368 : decode cX11_init 368 = .ok (.putfield 142, 3) := by decide +kernel
theorem dX11_init_371 : decode cX11_init 371 = .ok (.aload_n 0, 1) := by decide +kernel
theorem dX11_init_372 : decode cX11_init 372 = .ok (.sipush 1000, 3) := by decide +kernel
theorem dX11_init_375 : decode cX11_init 375 = .ok (.newarray .long, 2) := by decide +kernel
theorem dX11_init_377 : decode cX11_init 377 = .ok (.putfield 145, 3) := by decide +kernel
theorem dX11_init_380 : decode cX11_init 380 = .ok (.aload_n 0, 1) := by decide +kernel
theorem dX11_init_381 : decode cX11_init 381 = .ok (.sipush 1000, 3) := by decide +kernel
theorem dX11_init_384 : decode cX11_init 384 = .ok (.newarray .int, 2) := by decide +kernel
theorem dX11_init_386 : decode cX11_init 386 = .ok (.putfield 148, 3) := by decide +kernel
theorem dX11_init_389 : decode cX11_init 389 = .ok (.aload_n 0, 1) := by decide +kernel
theorem dX11_init_390 : decode cX11_init 390 = .ok (.sipush 1000, 3) := by decide +kernel
theorem dX11_init_393 : decode cX11_init 393 = .ok (.newarray .int, 2) := by decide +kernel
theorem dX11_init_395 : decode cX11_init 395 = .ok (.putfield 151, 3) := by decide +kernel
theorem dX11_init_398 : decode cX11_init 398 = .ok (.aload_n 0, 1) := by decide +kernel
theorem dX11_init_399 : decode cX11_init 399 = .ok (.sipush 1000, 3) := by decide +kernel
theorem dX11_init_402 : decode cX11_init 402 = .ok (.newarray .int, 2) := by decide +kernel
theorem dX11_init_404 : decode cX11_init 404 = .ok (.putfield 154, 3) := by decide +kernel
theorem dX11_init_407 : decode cX11_init 407 = .ok (.aload_n 0, 1) := by decide +kernel
theorem dX11_init_408 : decode cX11_init 408 = .ok (.sipush 2000, 3) := by decide +kernel
theorem dX11_init_411 : decode cX11_init 411 = .ok (.newarray .int, 2) := by decide +kernel
theorem dX11_init_413 : decode cX11_init 413 = .ok (.putfield 157, 3) := by decide +kernel
theorem dX11_init_416 : decode cX11_init 416 = .ok (.aload_n 0, 1) := by decide +kernel
theorem dX11_init_417 : decode cX11_init 417 = .ok (.sipush 2000, 3) := by decide +kernel
theorem dX11_init_420 : decode cX11_init 420 = .ok (.newarray .int, 2) := by decide +kernel
theorem dX11_init_422 : decode cX11_init 422 = .ok (.putfield 160, 3) := by decide +kernel
theorem dX11_init_425 : decode cX11_init 425 = .ok (.aload_n 0, 1) := by decide +kernel
theorem dX11_init_426 : decode cX11_init 426 = .ok (.sipush 2000, 3) := by decide +kernel
theorem dX11_init_429 : decode cX11_init 429 = .ok (.newarray .int, 2) := by decide +kernel
theorem dX11_init_431 : decode cX11_init 431 = .ok (.putfield 163, 3) := by decide +kernel
theorem dX11_init_434 : decode cX11_init 434 = .ok (.aload_n 0, 1) := by decide +kernel
theorem dX11_init_435 : decode cX11_init 435 = .ok (.sipush 2000, 3) := by decide +kernel
theorem dX11_init_438 : decode cX11_init 438 = .ok (.newarray .int, 2) := by decide +kernel
theorem dX11_init_440 : decode cX11_init 440 = .ok (.putfield 166, 3) := by decide +kernel
theorem dX11_init_443 : decode cX11_init 443 = .ok (.aload_n 0, 1) := by decide +kernel
theorem dX11_init_444 : decode cX11_init 444 = .ok (.sipush 2000, 3) := by decide +kernel
theorem dX11_init_447 : decode cX11_init 447 = .ok (.newarray .int, 2) := by decide +kernel
theorem dX11_init_449 : decode cX11_init 449 = .ok (.putfield 169, 3) := by decide +kernel
theorem dX11_init_452 : decode cX11_init 452 = .ok (.aload_n 0, 1) := by decide +kernel
theorem dX11_init_453 : decode cX11_init 453 = .ok (.sipush 2000, 3) := by decide +kernel
theorem dX11_init_456 : decode cX11_init 456 = .ok (.newarray .int, 2) := by decide +kernel
theorem dX11_init_458 : decode cX11_init 458 = .ok (.putfield 172, 3) := by decide +kernel
theorem dX11_init_461 : decode cX11_init 461 = .ok (.aload_n 0, 1) := by decide +kernel
theorem dX11_init_462 : decode cX11_init 462 = .ok (.sipush 2000, 3) := by decide +kernel
theorem dX11_init_465 : decode cX11_init 465 = .ok (.newarray .int, 2) := by decide +kernel
theorem dX11_init_467 : decode cX11_init 467 = .ok (.putfield 175, 3) := by decide +kernel
theorem dX11_init_470 : decode cX11_init 470 = .ok (.aload_n 0, 1) := by decide +kernel
theorem dX11_init_471 : decode cX11_init 471 = .ok (.sipush 2000, 3) := by decide +kernel
theorem dX11_init_474 : decode cX11_init 474 = .ok (.newarray .int, 2) := by decide +kernel
theorem dX11_init_476 : decode cX11_init 476 = .ok (.putfield 178, 3) := by decide +kernel
theorem dX11_init_479 : decode cX11_init 479 = .ok (.aload_n 0, 1) := by decide +kernel
theorem dX11_init_480 : decode cX11_init 480 = .ok (.sipush 22000, 3) := by decide +kernel
theorem dX11_init_483 : decode cX11_init 483 = .ok (.newarray .int, 2) := by decide +kernel
theorem dX11_init_485 : decode cX11_init 485 = .ok (.putfield 181, 3) := by decide +kernel
theorem dX11_init_488 : decode cX11_init 488 = .ok (.aload_n 0, 1) := by decide +kernel
theorem dX11_init_489 : decode cX11_init 489 = .ok (.sipush 22000, 3) := by decide +kernel
theorem dX11_init_492 : decode cX11_init 492 = .ok (.newarray .int, 2) := by decide +kernel
theorem dX11_init_494 : decode cX11_init 494 = .ok (.putfield 184, 3) := by decide +kernel
theorem dX11_init_497 : decode cX11_init 497 = .ok (.aload_n 0, 1) := by decide +kernel
theorem dX11_init_498 : decode cX11_init 498 = .ok (.sipush 22000, 3) := by decide +kernel
theorem dX11_init_501 : decode cX11_init 501 = .ok (.newarray .int, 2) := by decide +kernel
theorem dX11_init_503 : decode cX11_init 503 = .ok (.putfield 187, 3) := by decide +kernel
theorem dX11_init_506 : decode cX11_init 506 = .ok (.aload_n 0, 1) := by decide +kernel
theorem dX11_init_507 : decode cX11_init 507 = .ok (.sipush 22000, 3) := by decide +kernel
theorem dX11_init_510 : decode cX11_init 510 = .ok (.newarray .int, 2) := by decide +kernel
theorem dX11_init_512 : decode cX11_init 512 = .ok (.putfield 190, 3) := by decide +kernel
theorem dX11_init_515 : decode cX11_init 515 = .ok (.aload_n 0, 1) := by decide +kernel
theorem dX11_init_516 : decode cX11_init 516 = .ok (.ldc 193, 2) := by decide +kernel
theorem dX11_init_518 : decode cX11_init 518 = .ok (.newarray .int, 2) := by decide +kernel
theorem dX11_init_520 : decode cX11_init 520 = .ok (.putfield 194, 3) := by decide +kernel
theorem dX11_init_523 : decode cX11_init 523 = .ok (.aload_n 0, 1) := by decide +kernel
theorem dX11_init_524 : decode cX11_init 524 = .ok (.ldc 193, 2) := by decide +kernel
theorem dX11_init_526 : decode cX11_init 526 = .ok (.newarray .int, 2) := by decide +kernel
theorem dX11_init_528 : decode cX11_init 528 = .ok (.putfield 197, 3) := by decide +kernel
theorem dX11_init_531 : decode cX11_init 531 = .ok (.aload_n 0, 1) := by decide +kernel
theorem dX11_init_532 : decode cX11_init 532 = .ok (.ldc 193, 2) := by decide +kernel
theorem dX11_init_534 : decode cX11_init 534 = .ok (.newarray .int, 2) := by decide +kernel
theorem dX11_init_536 : decode cX11_init 536 = .ok (.putfield 200, 3) := by decide +kernel
theorem dX11_init_539 : decode cX11_init 539 = .ok (.aload_n 0, 1) := by decide +kernel
theorem dX11_init_540 : decode cX11_init 540 = .ok (.ldc 193, 2) := by decide +kernel
theorem dX11_init_542 : decode cX11_init 542 = .ok (.newarray .int, 2) := by decide +kernel
theorem dX11_init_544 : decode cX11_init 544 = .ok (.putfield 203, 3) := by decide +kernel
theorem dX11_init_547 : decode cX11_init 547 = .ok (.aload_n 0, 1) := by decide +kernel
theorem dX11_init_548 : decode cX11_init 548 = .ok (.ldc 193, 2) := by decide +kernel
theorem dX11_init_550 : decode cX11_init 550 = .ok (.newarray .int, 2) := by decide +kernel
theorem dX11_init_552 : decode cX11_init 552 = .ok (.putfield 206, 3) := by decide +kernel
theorem dX11_init_555 : decode cX11_init 555 = .ok (.aload_n 0, 1) := by decide +kernel
theorem dX11_init_556 : decode cX11_init 556 = .ok (.ldc 193, 2) := by decide +kernel
theorem dX11_init_558 : decode cX11_init 558 = .ok (.newarray .int, 2) := by decide +kernel
theorem dX11_init_560 : decode cX11_init 560 = .ok (.putfield 209, 3) := by decide +kernel
theorem dX11_init_563 : decode cX11_init 563 = .ok (.aload_n 0, 1) := by decide +kernel
theorem dX11_init_564 : decode cX11_init 564 = .ok (.sipush 20000, 3) := by decide +kernel
theorem dX11_init_567 : decode cX11_init 567 = .ok (.newarray .int, 2) := by decide +kernel
theorem dX11_init_569 : decode cX11_init 569 = .ok (.putfield 212, 3) := by decide +kernel
theorem dX11_init_572 : decode cX11_init 572 = .ok (.aload_n 0, 1) := by decide +kernel
theorem dX11_init_573 : decode cX11_init 573 = .ok (.sipush 20000, 3) := by decide +kernel
theorem dX11_init_576 : decode cX11_init 576 = .ok (.newarray .int, 2) := by decide +kernel
theorem dX11_init_578 : decode cX11_init 578 = .ok (.putfield 215, 3) := by decide +kernel
theorem dX11_init_581 : decode cX11_init 581 = .ok (.aload_n 0, 1) := by decide +kernel
theorem dX11_init_582 : decode cX11_init 582 = .ok (.sipush 2000, 3) := by decide +kernel
theorem dX11_init_585 : decode cX11_init 585 = .ok (.newarray .int, 2) := by decide +kernel
theorem dX11_init_587 : decode cX11_init 587 = .ok (.putfield 218, 3) := by decide +kernel
theorem dX11_init_590 : decode cX11_init 590 = .ok (.aload_n 0, 1) := by decide +kernel
theorem dX11_init_591 : decode cX11_init 591 = .ok (.iconst (-1), 1) := by decide +kernel
theorem dX11_init_592 : decode cX11_init 592 = .ok (.putfield 221, 3) := by decide +kernel
theorem dX11_init_595 : decode cX11_init 595 = .ok (.aload_n 0, 1) := by decide +kernel
theorem dX11_init_596 : decode cX11_init 596 = .ok (.sipush 20000, 3) := by decide +kernel
theorem dX11_init_599 : decode cX11_init 599 = .ok (.newarray .int, 2) := by decide +kernel
theorem dX11_init_601 : decode cX11_init 601 = .ok (.putfield 224, 3) := by decide +kernel
theorem dX11_init_604 : decode cX11_init 604 = .ok (.aload_n 0, 1) := by decide +kernel
theorem dX11_init_605 : decode cX11_init 605 = .ok (.iconst (-1), 1) := by decide +kernel
theorem dX11_init_606 : decode cX11_init 606 = .ok (.putfield 227, 3) := by decide +kernel
theorem dX11_init_609 : decode cX11_init 609 = .ok (.aload_n 0, 1) := by decide +kernel
theorem dX11_init_610 : decode cX11_init 610 = .ok (.iconst (-1), 1) := by decide +kernel
theorem dX11_init_611 : decode cX11_init 611 = .ok (.putfield 230, 3) := by decide +kernel
theorem dX11_init_614 : decode cX11_init 614 = .ok (.aload_n 0, 1) := by decide +kernel
theorem dX11_init_615 : decode cX11_init 615 = .ok (.iconst (-1), 1) := by decide +kernel
theorem dX11_init_616 : decode cX11_init 616 = .ok (.putfield 233, 3) := by decide +kernel
theorem dX11_init_619 : decode cX11_init 619 = .ok (.aload_n 0, 1) := by decide +kernel
theorem dX11_init_620 : decode cX11_init 620 = .ok (.sipush 2000, 3) := by decide +kernel
theorem dX11_init_623 : decode cX11_init 623 = .ok (.newarray .int, 2) := by decide +kernel
theorem dX11_init_625 : decode cX11_init 625 = .ok (.putfield 236, 3) := by decide +kernel
theorem dX11_init_628 : decode cX11_init 628 = .ok (.aload_n 0, 1) := by decide +kernel
theorem dX11_init_629 : decode cX11_init 629 = .ok (.sipush 2000, 3) := by decide +kernel
theorem dX11_init_632 : decode cX11_init 632 = .ok (.newarray .int, 2) := by decide +kernel
theorem dX11_init_634 : decode cX11_init 634 = .ok (.putfield 239, 3) := by decide +kernel
theorem dX11_init_637 : decode cX11_init 637 = .ok (.aload_n 0, 1) := by decide +kernel
theorem dX11_init_638 : decode cX11_init 638 = .ok (.sipush 2000, 3) := by decide +kernel
theorem dX11_init_641 : decode cX11_init 641 = .ok (.newarray .int, 2) := by decide +kernel
theorem dX11_init_643 : decode cX11_init 643 = .ok (.putfield 242, 3) := by decide +kernel
theorem dX11_init_646 : decode cX11_init 646 = .ok (.ldc 245, 2) := by decide +kernel
theorem dX11_init_648 : decode cX11_init 648 = .ok (.astore_n 1, 1) := by decide +kernel
theorem dX11_init_649 : decode cX11_init 649 = .ok (.iconst 0, 1) := by decide +kernel
theorem dX11_init_650 : decode cX11_init 650 = .ok (.istore_n 2, 1) := by decide +kernel
theorem dX11_init_651 : decode cX11_init 651 = .ok (.lconst 0, 1) := by decide +kernel
theorem dX11_init_652 : decode cX11_init 652 = .ok (.lstore_n 3, 1) := by decide +kernel
theorem dX11_init_653 : decode cX11_init 653 = .ok (.iconst 0, 1) := by decide +kernel
theorem dX11_init_654 : decode cX11_init 654 = .ok (.istore 5, 2) := by decide +kernel
theorem dX11_init_656 : decode cX11_init 656 = .ok (.iload 5, 2) := by decide +kernel
theorem dX11_init_658 : decode cX11_init 658 = .ok (.aload_n 1, 1) := by decide +kernel
theorem dX11_init_659 : decode cX11_init 659 = .ok (.invokevirtual 247, 3) := by decide +kernel
theorem dX11_init_662 : decode cX11_init 662 = .ok (.if_icmp .ge 48, 3) := by decide +kernel
theorem dX11_init_665 : decode cX11_init 665 = .ok (.aload_n 1, 1) := by decide +kernel
theorem dX11_init_666 : decode cX11_init 666 = .ok (.iload 5, 2) := by decide +kernel
theorem dX11_init_668 : decode cX11_init 668 = .ok (.invokevirtual 253, 3) := by decide +kernel
theorem dX11_init_671 : decode cX11_init 671 = .ok (.bipush 32, 2) := by decide +kernel
theorem dX11_init_673 : decode cX11_init 673 = .ok (.if_icmp .ne 18, 3) := by decide +kernel
theorem dX11_init_676 : decode cX11_init 676 = .ok (.aload_n 0, 1) := by decide +kernel
theorem dX11_init_677 : decode cX11_init 677 = .ok (.getfield 21, 3) := by decide +kernel
theorem dX11_init_680 : decode cX11_init 680 = .ok (.iload_n 2, 1) := by decide +kernel
theorem dX11_init_681 : decode cX11_init 681 = .ok (.lload_n 3, 1) := by decide +kernel
theorem dX11_init_682 : decode cX11_init 682 = .ok (.lastore, 1) := by decide +kernel
theorem dX11_init_683 : decode cX11_init 683 = .ok (.lconst 0, 1) := by decide +kernel
theorem dX11_init_684 : decode cX11_init 684 = .ok (.lstore_n 3, 1) := by decide +kernel
theorem dX11_init_685 : decode cX11_init 685 = .ok (.iinc 2 1, 3) := by decide +kernel
theorem dX11_init_688 : decode cX11_init 688 = .ok (.goto 16, 3) := by decide +kernel
theorem dX11_init_691 : decode cX11_init 691 = .ok (.lload_n 3, 1) := by decide +kernel
theorem dX11_init_692 : decode cX11_init 692 = .ok (.bipush 8, 2) := by decide +kernel
theorem dX11_init_694 : decode cX11_init 694 = .ok (.lshl, 1) := by decide +kernel
theorem dX11_init_695 : decode cX11_init 695 = .ok (.aload_n 1, 1) := by decide +kernel
theorem dX11_init_696 : decode cX11_init 696 = .ok (.iload 5, 2) := by decide +kernel
theorem dX11_init_698 : decode cX11_init 698 = .ok (.invokevirtual 253, 3) := by decide +kernel
theorem dX11_init_701 : decode cX11_init 701 = .ok (.i2l, 1) := by decide +kernel
theorem dX11_init_702 : decode cX11_init 702 = .ok (.lor, 1) := by decide +kernel
theorem dX11_init_703 : decode cX11_init 703 = .ok (.lstore_n 3, 1) := by decide +kernel
theorem dX11_init_704 : decode cX11_init 704 = .ok (.iinc 5 1, 3) := by decide +kernel
theorem dX11_init_707 : decode cX11_init 707 = .ok (.goto (-51), 3) := by decide +kernel
theorem dX11_init_710 : decode cX11_init 710 = .ok (.return_, 1) := by decide +kernel
theorem dX11_token_0 : decode cX11_token 0 = .ok (.aload_n 0, 1) := by decide +kernel
theorem dX11_token_1 : decode cX11_token 1 = .ok (.getfield 25, 3) := by decide +kernel
theorem dX11_token_4 : decode cX11_token 4 = .ok (.aload_n 0, 1) := by decide +kernel
theorem dX11_token_5 : decode cX11_token 5 = .ok (.getfield 260, 3) := by decide +kernel
theorem dX11_token_8 : decode cX11_token 8 = .ok (.iload_n 1, 1) := by decide +kernel
theorem dX11_token_9 : decode cX11_token 9 = .ok (.iastore, 1) := by decide +kernel
theorem dX11_token_10 : decode cX11_token 10 = .ok (.aload_n 0, 1) := by decide +kernel
theorem dX11_token_11 : decode cX11_token 11 = .ok (.getfield 28, 3) := by decide +kernel
theorem dX11_token_14 : decode cX11_token 14 = .ok (.aload_n 0, 1) := by decide +kernel
theorem dX11_token_15 : decode cX11_token 15 = .ok (.getfield 260, 3) := by decide +kernel
theorem dX11_token_18 : decode cX11_token 18 = .ok (.iload_n 2, 1) := by decide +kernel
theorem dX11_token_19 : decode cX11_token 19 = .ok (.iastore, 1) := by decide +kernel
theorem dX11_token_20 : decode cX11_token 20 = .ok (.aload_n 0, 1) := by decide +kernel
theorem dX11_token_21 : decode cX11_token 21 = .ok (.getfield 31, 3) := by decide +kernel
theorem dX11_token_24 : decode cX11_token 24 = .ok (.aload_n 0, 1) := by decide +kernel
theorem dX11_token_25 : decode cX11_token 25 = .ok (.getfield 260, 3) := by decide +kernel
theorem dX11_token_28 : decode cX11_token 28 = .ok (.iload_n 3, 1) := by decide +kernel
theorem dX11_token_29 : decode cX11_token 29 = .ok (.iastore, 1) := by decide +kernel
theorem dX11_token_30 : decode cX11_token 30 = .ok (.aload_n 0, 1) := by decide +kernel
theorem dX11_token_31 : decode cX11_token 31 = .ok (.getfield 34, 3) := by decide +kernel
theorem dX11_token_34 : decode cX11_token 34 = .ok (.aload_n 0, 1) := by decide +kernel
theorem dX11_token_35 : decode cX11_token 35 = .ok (.getfield 260, 3) := by decide +kernel
theorem dX11_token_38 : decode cX11_token 38 = .ok (.lconst 0, 1) := by decide +kernel
theorem dX11_token_39 : decode cX11_token 39 = .ok (.lastore, 1) := by decide +kernel
theorem dX11_token_40 : decode cX11_token 40 = .ok (.aload_n 0, 1) := by decide +kernel
theorem dX11_token_41 : decode cX11_token 41 = .ok (.dup, 1) := by decide +kernel
theorem dX11_token_42 : decode cX11_token 42 = .ok (.getfield 260, 3) := by decide +kernel
theorem dX11_token_45 : decode cX11_token 45 = .ok (.iconst 1, 1) := by decide +kernel
theorem dX11_token_46 : decode cX11_token 46 = .ok (.iadd, 1) := by decide +kernel
theorem dX11_token_47 : decode cX11_token 47 = .ok (.putfield 260, 3) := by decide +kernel
theorem dX11_token_50 : decode cX11_token 50 = .ok (.return_, 1) := by decide +kernel
theorem dX11_cut_0 : decode cX11_cut 0 = .ok (.aload_n 0, 1) := by decide +kernel
theorem dX11_cut_1 : decode cX11_cut 1 = .ok (.iload_n 1, 1) := by decide +kernel
theorem dX11_cut_2 : decode cX11_cut 2 = .ok (.putfield 257, 3) := by decide +kernel
theorem dX11_cut_5 : decode cX11_cut 5 = .ok (.aload_n 0, 1) := by decide +kernel
theorem dX11_cut_6 : decode cX11_cut 6 = .ok (.iconst 0, 1) := by decide +kernel
theorem dX11_cut_7 : decode cX11_cut 7 = .ok (.putfield 260, 3) := by decide +kernel
theorem dX11_cut_10 : decode cX11_cut 10 = .ok (.iconst 0, 1) := by decide +kernel
theorem dX11_cut_11 : decode cX11_cut 11 = .ok (.istore_n 2, 1) := by decide +kernel
theorem dX11_cut_12 : decode cX11_cut 12 = .ok (.iload_n 2, 1) := by decide +kernel
theorem dX11_cut_13 : decode cX11_cut 13 = .ok (.iload_n 1, 1) := by decide +kernel
theorem dX11_cut_14 : decode cX11_cut 14 = .ok (.if_icmp .ge 92, 3) := by decide +kernel
theorem dX11_cut_106 : decode cX11_cut 106 = .ok (.aload_n 0, 1) := by decide +kernel
theorem dX11_cut_107 : decode cX11_cut 107 = .ok (.iconst 0, 1) := by decide +kernel
theorem dX11_cut_108 : decode cX11_cut 108 = .ok (.iload_n 1, 1) := by decide +kernel
theorem dX11_cut_109 : decode cX11_cut 109 = .ok (.iconst 0, 1) := by decide +kernel
theorem dX11_cut_110 : decode cX11_cut 110 = .ok (.invokevirtual 274, 3) := by decide +kernel
theorem dX11_cut_113 : decode cX11_cut 113 = .ok (.return_, 1) := by decide +kernel
theorem dX11_good_0 : decode cX11_good 0 = .ok (.aload_n 0, 1) := by decide +kernel
theorem dX11_good_1 : decode cX11_good 1 = .ok (.getfield 319, 3) := by decide +kernel
theorem dX11_good_4 : decode cX11_good 4 = .ok (.ifCond .ne 7, 3) := by decide +kernel
theorem dX11_good_7 : decode cX11_good 7 = .ok (.iconst 1, 1) := by decide +kernel
theorem dX11_good_8 : decode cX11_good 8 = .ok (.goto 4, 3) := by decide +kernel
theorem dX11_good_11 : decode cX11_good 11 = .ok (.iconst 0, 1) := by decide +kernel
theorem dX11_good_12 : decode cX11_good 12 = .ok (.ireturn, 1) := by decide +kernel
theorem dX11_fails_0 : decode cX11_fails 0 = .ok (.aload_n 0, 1) := by decide +kernel
theorem dX11_fails_1 : decode cX11_fails 1 = .ok (.getfield 319, 3) := by decide +kernel
theorem dX11_fails_4 : decode cX11_fails 4 = .ok (.ifCond .le 4, 3) := by decide +kernel
theorem dX11_fails_8 : decode cX11_fails 8 = .ok (.aload_n 0, 1) := by decide +kernel
theorem dX11_fails_9 : decode cX11_fails 9 = .ok (.iload_n 1, 1) := by decide +kernel
theorem dX11_fails_10 : decode cX11_fails 10 = .ok (.putfield 319, 3) := by decide +kernel
theorem dX11_fails_13 : decode cX11_fails 13 = .ok (.aload_n 0, 1) := by decide +kernel
theorem dX11_fails_14 : decode cX11_fails 14 = .ok (.iload_n 2, 1) := by decide +kernel
theorem dX11_fails_15 : decode cX11_fails 15 = .ok (.putfield 322, 3) := by decide +kernel
theorem dX11_fails_18 : decode cX11_fails 18 = .ok (.return_, 1) := by decide +kernel
theorem dX11_failsHere_0 : decode cX11_failsHere 0 = .ok (.aload_n 0, 1) := by decide +kernel
theorem dX11_failsHere_1 : decode cX11_failsHere 1 = .ok (.iload_n 1, 1) := by decide +kernel
theorem dX11_failsHere_2 : decode cX11_failsHere 2 = .ok (.aload_n 0, 1) := by decide +kernel
theorem dX11_failsHere_3 : decode cX11_failsHere 3 = .ok (.getfield 28, 3) := by decide +kernel
theorem dX11_failsHere_6 : decode cX11_failsHere 6 = .ok (.aload_n 0, 1) := by decide +kernel
theorem dX11_failsHere_7 : decode cX11_failsHere 7 = .ok (.getfield 325, 3) := by decide +kernel
theorem dX11_failsHere_10 : decode cX11_failsHere 10 = .ok (.iaload, 1) := by decide +kernel
theorem dX11_failsHere_11 : decode cX11_failsHere 11 = .ok (.invokevirtual 328, 3) := by decide +kernel
theorem dX11_failsHere_14 : decode cX11_failsHere 14 = .ok (.return_, 1) := by decide +kernel
theorem dX11_isSign_0 : decode cX11_isSign 0 = .ok (.aload_n 0, 1) := by decide +kernel
theorem dX11_isSign_1 : decode cX11_isSign 1 = .ok (.invokevirtual 332, 3) := by decide +kernel
theorem dX11_isSign_4 : decode cX11_isSign 4 = .ok (.ifCond .eq 33, 3) := by decide +kernel
theorem dX11_isSign_37 : decode cX11_isSign 37 = .ok (.iconst 0, 1) := by decide +kernel
theorem dX11_isSign_38 : decode cX11_isSign 38 = .ok (.ireturn, 1) := by decide +kernel
theorem dX11_isWord_0 : decode cX11_isWord 0 = .ok (.aload_n 0, 1) := by decide +kernel
theorem dX11_isWord_1 : decode cX11_isWord 1 = .ok (.invokevirtual 332, 3) := by decide +kernel
theorem dX11_isWord_4 : decode cX11_isWord 4 = .ok (.ifCond .eq 33, 3) := by decide +kernel
theorem dX11_isWord_7 : decode cX11_isWord 7 = .ok (.aload_n 0, 1) := by decide +kernel
theorem dX11_isWord_8 : decode cX11_isWord 8 = .ok (.getfield 25, 3) := by decide +kernel
theorem dX11_isWord_11 : decode cX11_isWord 11 = .ok (.aload_n 0, 1) := by decide +kernel
theorem dX11_isWord_12 : decode cX11_isWord 12 = .ok (.getfield 325, 3) := by decide +kernel
theorem dX11_isWord_15 : decode cX11_isWord 15 = .ok (.iaload, 1) := by decide +kernel
theorem dX11_isWord_16 : decode cX11_isWord 16 = .ok (.iconst 4, 1) := by decide +kernel
theorem dX11_isWord_17 : decode cX11_isWord 17 = .ok (.if_icmp .ne 20, 3) := by decide +kernel
theorem dX11_isWord_37 : decode cX11_isWord 37 = .ok (.iconst 0, 1) := by decide +kernel
theorem dX11_isWord_38 : decode cX11_isWord 38 = .ok (.ireturn, 1) := by decide +kernel
theorem dX11_readE_0 : decode cX11_readE 0 = .ok (.aload_n 0, 1) := by decide +kernel
theorem dX11_readE_1 : decode cX11_readE 1 = .ok (.invokevirtual 332, 3) := by decide +kernel
theorem dX11_readE_4 : decode cX11_readE 4 = .ok (.ifCond .ne 5, 3) := by decide +kernel
theorem dX11_readE_9 : decode cX11_readE 9 = .ok (.aload_n 0, 1) := by decide +kernel
theorem dX11_readE_10 : decode cX11_readE 10 = .ok (.getfield 325, 3) := by decide +kernel
theorem dX11_readE_13 : decode cX11_readE 13 = .ok (.istore_n 1, 1) := by decide +kernel
theorem dX11_readE_14 : decode cX11_readE 14 = .ok (.aload_n 0, 1) := by decide +kernel
theorem dX11_readE_15 : decode cX11_readE 15 = .ok (.iconst 1, 1) := by decide +kernel
theorem dX11_readE_16 : decode cX11_readE 16 = .ok (.invokevirtual 357, 3) := by decide +kernel
theorem dX11_readE_19 : decode cX11_readE 19 = .ok (.ifCond .eq 12, 3) := by decide +kernel
theorem dX11_readE_31 : decode cX11_readE 31 = .ok (.aload_n 0, 1) := by decide +kernel
theorem dX11_readE_32 : decode cX11_readE 32 = .ok (.iconst 2, 1) := by decide +kernel
theorem dX11_readE_33 : decode cX11_readE 33 = .ok (.invokevirtual 357, 3) := by decide +kernel
theorem dX11_readE_36 : decode cX11_readE 36 = .ok (.ifCond .eq 12, 3) := by decide +kernel
theorem dX11_readE_48 : decode cX11_readE 48 = .ok (.aload_n 0, 1) := by decide +kernel
theorem dX11_readE_49 : decode cX11_readE 49 = .ok (.iconst 3, 1) := by decide +kernel
theorem dX11_readE_50 : decode cX11_readE 50 = .ok (.invokevirtual 357, 3) := by decide +kernel
theorem dX11_readE_53 : decode cX11_readE 53 = .ok (.ifCond .eq 12, 3) := by decide +kernel
theorem dX11_readE_65 : decode cX11_readE 65 = .ok (.aload_n 0, 1) := by decide +kernel
theorem dX11_readE_66 : decode cX11_readE 66 = .ok (.iconst 5, 1) := by decide +kernel
theorem dX11_readE_67 : decode cX11_readE 67 = .ok (.invokevirtual 357, 3) := by decide +kernel
theorem dX11_readE_70 : decode cX11_readE 70 = .ok (.ifCond .eq 12, 3) := by decide +kernel
theorem dX11_readE_82 : decode cX11_readE 82 = .ok (.aload_n 0, 1) := by decide +kernel
theorem dX11_readE_83 : decode cX11_readE 83 = .ok (.bipush 8, 2) := by decide +kernel
theorem dX11_readE_85 : decode cX11_readE 85 = .ok (.invokevirtual 357, 3) := by decide +kernel
theorem dX11_readE_88 : decode cX11_readE 88 = .ok (.ifCond .eq 12, 3) := by decide +kernel
theorem dX11_readE_100 : decode cX11_readE 100 = .ok (.aload_n 0, 1) := by decide +kernel
theorem dX11_readE_101 : decode cX11_readE 101 = .ok (.invokevirtual 382, 3) := by decide +kernel
theorem dX11_readE_104 : decode cX11_readE 104 = .ok (.ireturn, 1) := by decide +kernel
theorem dX11_readC_0 : decode cX11_readC 0 = .ok (.aload_n 0, 1) := by decide +kernel
theorem dX11_readC_1 : decode cX11_readC 1 = .ok (.invokevirtual 407, 3) := by decide +kernel
theorem dX11_readC_4 : decode cX11_readC 4 = .ok (.istore_n 1, 1) := by decide +kernel
theorem dX11_readC_5 : decode cX11_readC 5 = .ok (.aload_n 0, 1) := by decide +kernel
theorem dX11_readC_6 : decode cX11_readC 6 = .ok (.getfield 385, 3) := by decide +kernel
theorem dX11_readC_9 : decode cX11_readC 9 = .ok (.istore_n 2, 1) := by decide +kernel
theorem dX11_readC_10 : decode cX11_readC 10 = .ok (.aload_n 0, 1) := by decide +kernel
theorem dX11_readC_11 : decode cX11_readC 11 = .ok (.sipush 256, 3) := by decide +kernel
theorem dX11_readC_14 : decode cX11_readC 14 = .ok (.invokevirtual 348, 3) := by decide +kernel
theorem dX11_readC_17 : decode cX11_readC 17 = .ok (.ifCond .ne 14, 3) := by decide +kernel
theorem dX11_readC_20 : decode cX11_readC 20 = .ok (.aload_n 0, 1) := by decide +kernel
theorem dX11_readC_21 : decode cX11_readC 21 = .ok (.bipush 60, 2) := by decide +kernel
theorem dX11_readC_23 : decode cX11_readC 23 = .ok (.invokevirtual 348, 3) := by decide +kernel
theorem dX11_readC_26 : decode cX11_readC 26 = .ok (.ifCond .ne 5, 3) := by decide +kernel
theorem dX11_readC_29 : decode cX11_readC 29 = .ok (.iload_n 1, 1) := by decide +kernel
theorem dX11_readC_30 : decode cX11_readC 30 = .ok (.ireturn, 1) := by decide +kernel
theorem dX11_readS_0 : decode cX11_readS 0 = .ok (.aload_n 0, 1) := by decide +kernel
theorem dX11_readS_1 : decode cX11_readS 1 = .ok (.invokevirtual 414, 3) := by decide +kernel
theorem dX11_readS_4 : decode cX11_readS 4 = .ok (.istore_n 1, 1) := by decide +kernel
theorem dX11_readS_5 : decode cX11_readS 5 = .ok (.aload_n 0, 1) := by decide +kernel
theorem dX11_readS_6 : decode cX11_readS 6 = .ok (.getfield 385, 3) := by decide +kernel
theorem dX11_readS_9 : decode cX11_readS 9 = .ok (.istore_n 2, 1) := by decide +kernel
theorem dX11_readS_10 : decode cX11_readS 10 = .ok (.aload_n 0, 1) := by decide +kernel
theorem dX11_readS_11 : decode cX11_readS 11 = .ok (.bipush 43, 2) := by decide +kernel
theorem dX11_readS_13 : decode cX11_readS 13 = .ok (.invokevirtual 348, 3) := by decide +kernel
theorem dX11_readS_16 : decode cX11_readS 16 = .ok (.ifCond .ne 12, 3) := by decide +kernel
theorem dX11_readS_19 : decode cX11_readS 19 = .ok (.aload_n 0, 1) := by decide +kernel
theorem dX11_readS_20 : decode cX11_readS 20 = .ok (.bipush 45, 2) := by decide +kernel
theorem dX11_readS_22 : decode cX11_readS 22 = .ok (.invokevirtual 348, 3) := by decide +kernel
theorem dX11_readS_25 : decode cX11_readS 25 = .ok (.ifCond .eq 44, 3) := by decide +kernel
theorem dX11_readS_69 : decode cX11_readS 69 = .ok (.aload_n 0, 1) := by decide +kernel
theorem dX11_readS_70 : decode cX11_readS 70 = .ok (.iload_n 2, 1) := by decide +kernel
theorem dX11_readS_71 : decode cX11_readS 71 = .ok (.putfield 385, 3) := by decide +kernel
theorem dX11_readS_74 : decode cX11_readS 74 = .ok (.iload_n 1, 1) := by decide +kernel
theorem dX11_readS_75 : decode cX11_readS 75 = .ok (.ireturn, 1) := by decide +kernel
theorem dX11_readP_0 : decode cX11_readP 0 = .ok (.aload_n 0, 1) := by decide +kernel
theorem dX11_readP_1 : decode cX11_readP 1 = .ok (.invokevirtual 417, 3) := by decide +kernel
theorem dX11_readP_4 : decode cX11_readP 4 = .ok (.istore_n 1, 1) := by decide +kernel
theorem dX11_readP_5 : decode cX11_readP 5 = .ok (.aload_n 0, 1) := by decide +kernel
theorem dX11_readP_6 : decode cX11_readP 6 = .ok (.getfield 385, 3) := by decide +kernel
theorem dX11_readP_9 : decode cX11_readP 9 = .ok (.istore_n 2, 1) := by decide +kernel
theorem dX11_readP_10 : decode cX11_readP 10 = .ok (.aload_n 0, 1) := by decide +kernel
theorem dX11_readP_11 : decode cX11_readP 11 = .ok (.bipush 42, 2) := by decide +kernel
theorem dX11_readP_13 : decode cX11_readP 13 = .ok (.invokevirtual 348, 3) := by decide +kernel
theorem dX11_readP_16 : decode cX11_readP 16 = .ok (.ifCond .ne 21, 3) := by decide +kernel
theorem dX11_readP_19 : decode cX11_readP 19 = .ok (.aload_n 0, 1) := by decide +kernel
theorem dX11_readP_20 : decode cX11_readP 20 = .ok (.bipush 47, 2) := by decide +kernel
theorem dX11_readP_22 : decode cX11_readP 22 = .ok (.invokevirtual 348, 3) := by decide +kernel
theorem dX11_readP_25 : decode cX11_readP 25 = .ok (.ifCond .ne 12, 3) := by decide +kernel
theorem dX11_readP_28 : decode cX11_readP 28 = .ok (.aload_n 0, 1) := by decide +kernel
theorem dX11_readP_29 : decode cX11_readP 29 = .ok (.bipush 37, 2) := by decide +kernel
theorem dX11_readP_31 : decode cX11_readP 31 = .ok (.invokevirtual 348, 3) := by decide +kernel
theorem dX11_readP_34 : decode cX11_readP 34 = .ok (.ifCond .eq 44, 3) := by decide +kernel
theorem dX11_readP_78 : decode cX11_readP 78 = .ok (.aload_n 0, 1) := by decide +kernel
theorem dX11_readP_79 : decode cX11_readP 79 = .ok (.iload_n 2, 1) := by decide +kernel
theorem dX11_readP_80 : decode cX11_readP 80 = .ok (.putfield 385, 3) := by decide +kernel
theorem dX11_readP_83 : decode cX11_readP 83 = .ok (.iload_n 1, 1) := by decide +kernel
theorem dX11_readP_84 : decode cX11_readP 84 = .ok (.ireturn, 1) := by decide +kernel
theorem dX11_beginsU_0 : decode cX11_beginsU 0 = .ok (.aload_n 0, 1) := by decide +kernel
theorem dX11_beginsU_1 : decode cX11_beginsU 1 = .ok (.invokevirtual 332, 3) := by decide +kernel
theorem dX11_beginsU_4 : decode cX11_beginsU 4 = .ok (.ifCond .ne 5, 3) := by decide +kernel
theorem dX11_beginsU_7 : decode cX11_beginsU 7 = .ok (.iconst 0, 1) := by decide +kernel
theorem dX11_beginsU_8 : decode cX11_beginsU 8 = .ok (.ireturn, 1) := by decide +kernel
theorem dX11_beginsU_9 : decode cX11_beginsU 9 = .ok (.aload_n 0, 1) := by decide +kernel
theorem dX11_beginsU_10 : decode cX11_beginsU 10 = .ok (.getfield 25, 3) := by decide +kernel
theorem dX11_beginsU_13 : decode cX11_beginsU 13 = .ok (.aload_n 0, 1) := by decide +kernel

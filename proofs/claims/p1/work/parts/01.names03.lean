theorem dX11_beginsU_14 : decode cX11_beginsU 14 = .ok (.getfield 325, 3) := by decide +kernel
theorem dX11_beginsU_17 : decode cX11_beginsU 17 = .ok (.iaload, 1) := by decide +kernel
theorem dX11_beginsU_18 : decode cX11_beginsU 18 = .ok (.iconst 3, 1) := by decide +kernel
theorem dX11_beginsU_19 : decode cX11_beginsU 19 = .ok (.if_icmp .eq 16, 3) := by decide +kernel
theorem dX11_beginsU_22 : decode cX11_beginsU 22 = .ok (.aload_n 0, 1) := by decide +kernel
theorem dX11_beginsU_23 : decode cX11_beginsU 23 = .ok (.getfield 25, 3) := by decide +kernel
theorem dX11_beginsU_26 : decode cX11_beginsU 26 = .ok (.aload_n 0, 1) := by decide +kernel
theorem dX11_beginsU_27 : decode cX11_beginsU 27 = .ok (.getfield 325, 3) := by decide +kernel
theorem dX11_beginsU_30 : decode cX11_beginsU 30 = .ok (.iaload, 1) := by decide +kernel
theorem dX11_beginsU_31 : decode cX11_beginsU 31 = .ok (.iconst 2, 1) := by decide +kernel
theorem dX11_beginsU_32 : decode cX11_beginsU 32 = .ok (.if_icmp .ne 5, 3) := by decide +kernel
theorem dX11_beginsU_37 : decode cX11_beginsU 37 = .ok (.aload_n 0, 1) := by decide +kernel
theorem dX11_beginsU_38 : decode cX11_beginsU 38 = .ok (.getfield 25, 3) := by decide +kernel
theorem dX11_beginsU_41 : decode cX11_beginsU 41 = .ok (.aload_n 0, 1) := by decide +kernel
theorem dX11_beginsU_42 : decode cX11_beginsU 42 = .ok (.getfield 325, 3) := by decide +kernel
theorem dX11_beginsU_45 : decode cX11_beginsU 45 = .ok (.iaload, 1) := by decide +kernel
theorem dX11_beginsU_46 : decode cX11_beginsU 46 = .ok (.iconst 5, 1) := by decide +kernel
theorem dX11_beginsU_47 : decode cX11_beginsU 47 = .ok (.if_icmp .ne 51, 3) := by decide +kernel
theorem dX11_beginsU_98 : decode cX11_beginsU 98 = .ok (.aload_n 0, 1) := by decide +kernel
theorem dX11_beginsU_99 : decode cX11_beginsU 99 = .ok (.getfield 25, 3) := by decide +kernel
theorem dX11_beginsU_102 : decode cX11_beginsU 102 = .ok (.aload_n 0, 1) := by decide +kernel
theorem dX11_beginsU_103 : decode cX11_beginsU 103 = .ok (.getfield 325, 3) := by decide +kernel
theorem dX11_beginsU_106 : decode cX11_beginsU 106 = .ok (.iaload, 1) := by decide +kernel
theorem dX11_beginsU_107 : decode cX11_beginsU 107 = .ok (.iconst 4, 1) := by decide +kernel
theorem dX11_beginsU_108 : decode cX11_beginsU 108 = .ok (.if_icmp .ne 35, 3) := by decide +kernel
theorem dX11_beginsU_143 : decode cX11_beginsU 143 = .ok (.iconst 0, 1) := by decide +kernel
theorem dX11_beginsU_144 : decode cX11_beginsU 144 = .ok (.ireturn, 1) := by decide +kernel
theorem dX11_readA_0 : decode cX11_readA 0 = .ok (.aload_n 0, 1) := by decide +kernel
theorem dX11_readA_1 : decode cX11_readA 1 = .ok (.invokevirtual 420, 3) := by decide +kernel
theorem dX11_readA_4 : decode cX11_readA 4 = .ok (.istore_n 1, 1) := by decide +kernel
theorem dX11_readA_5 : decode cX11_readA 5 = .ok (.aload_n 0, 1) := by decide +kernel
theorem dX11_readA_6 : decode cX11_readA 6 = .ok (.getfield 385, 3) := by decide +kernel
theorem dX11_readA_9 : decode cX11_readA 9 = .ok (.istore_n 2, 1) := by decide +kernel
theorem dX11_readA_10 : decode cX11_readA 10 = .ok (.aload_n 0, 1) := by decide +kernel
theorem dX11_readA_11 : decode cX11_readA 11 = .ok (.invokevirtual 423, 3) := by decide +kernel
theorem dX11_readA_14 : decode cX11_readA 14 = .ok (.ifCond .eq 41, 3) := by decide +kernel
theorem dX11_readA_55 : decode cX11_readA 55 = .ok (.aload_n 0, 1) := by decide +kernel
theorem dX11_readA_56 : decode cX11_readA 56 = .ok (.iload_n 2, 1) := by decide +kernel
theorem dX11_readA_57 : decode cX11_readA 57 = .ok (.putfield 385, 3) := by decide +kernel
theorem dX11_readA_60 : decode cX11_readA 60 = .ok (.iload_n 1, 1) := by decide +kernel
theorem dX11_readA_61 : decode cX11_readA 61 = .ok (.ireturn, 1) := by decide +kernel
theorem dX11_readU_0 : decode cX11_readU 0 = .ok (.aload_n 0, 1) := by decide +kernel
theorem dX11_readU_1 : decode cX11_readU 1 = .ok (.invokevirtual 332, 3) := by decide +kernel
theorem dX11_readU_4 : decode cX11_readU 4 = .ok (.ifCond .ne 5, 3) := by decide +kernel
theorem dX11_readU_9 : decode cX11_readU 9 = .ok (.aload_n 0, 1) := by decide +kernel
theorem dX11_readU_10 : decode cX11_readU 10 = .ok (.getfield 325, 3) := by decide +kernel
theorem dX11_readU_13 : decode cX11_readU 13 = .ok (.istore_n 1, 1) := by decide +kernel
theorem dX11_readU_14 : decode cX11_readU 14 = .ok (.iconst (-1), 1) := by decide +kernel
theorem dX11_readU_15 : decode cX11_readU 15 = .ok (.istore_n 2, 1) := by decide +kernel
theorem dX11_readU_16 : decode cX11_readU 16 = .ok (.aload_n 0, 1) := by decide +kernel
theorem dX11_readU_17 : decode cX11_readU 17 = .ok (.invokevirtual 423, 3) := by decide +kernel
theorem dX11_readU_20 : decode cX11_readU 20 = .ok (.ifCond .ne 10, 3) := by decide +kernel
theorem dX11_readU_23 : decode cX11_readU 23 = .ok (.aload_n 0, 1) := by decide +kernel
theorem dX11_readU_24 : decode cX11_readU 24 = .ok (.iconst 1, 1) := by decide +kernel
theorem dX11_readU_25 : decode cX11_readU 25 = .ok (.invokevirtual 336, 3) := by decide +kernel
theorem dX11_readU_28 : decode cX11_readU 28 = .ok (.iconst (-1), 1) := by decide +kernel
theorem dX11_readU_29 : decode cX11_readU 29 = .ok (.ireturn, 1) := by decide +kernel
theorem dX11_opensText_0 : decode cX11_opensText 0 = .ok (.aload_n 0, 1) := by decide +kernel
theorem dX11_opensText_1 : decode cX11_opensText 1 = .ok (.iload_n 1, 1) := by decide +kernel
theorem dX11_opensText_2 : decode cX11_opensText 2 = .ok (.invokevirtual 435, 3) := by decide +kernel
theorem dX11_opensText_5 : decode cX11_opensText 5 = .ok (.aload_n 0, 1) := by decide +kernel
theorem dX11_opensText_6 : decode cX11_opensText 6 = .ok (.iconst 0, 1) := by decide +kernel
theorem dX11_opensText_7 : decode cX11_opensText 7 = .ok (.putfield 7, 3) := by decide +kernel
theorem dX11_opensText_10 : decode cX11_opensText 10 = .ok (.aload_n 0, 1) := by decide +kernel
theorem dX11_opensText_11 : decode cX11_opensText 11 = .ok (.iconst 0, 1) := by decide +kernel
theorem dX11_opensText_12 : decode cX11_opensText 12 = .ok (.putfield 325, 3) := by decide +kernel
theorem dX11_opensText_15 : decode cX11_opensText 15 = .ok (.aload_n 0, 1) := by decide +kernel
theorem dX11_opensText_16 : decode cX11_opensText 16 = .ok (.iconst 0, 1) := by decide +kernel
theorem dX11_opensText_17 : decode cX11_opensText 17 = .ok (.putfield 342, 3) := by decide +kernel
theorem dX11_opensText_20 : decode cX11_opensText 20 = .ok (.aload_n 0, 1) := by decide +kernel
theorem dX11_opensText_21 : decode cX11_opensText 21 = .ok (.iconst 0, 1) := by decide +kernel
theorem dX11_opensText_22 : decode cX11_opensText 22 = .ok (.putfield 319, 3) := by decide +kernel
theorem dX11_opensText_25 : decode cX11_opensText 25 = .ok (.aload_n 0, 1) := by decide +kernel
theorem dX11_opensText_26 : decode cX11_opensText 26 = .ok (.iload_n 2, 1) := by decide +kernel
theorem dX11_opensText_27 : decode cX11_opensText 27 = .ok (.putfield 310, 3) := by decide +kernel
theorem dX11_opensText_30 : decode cX11_opensText 30 = .ok (.aload_n 0, 1) := by decide +kernel
theorem dX11_opensText_31 : decode cX11_opensText 31 = .ok (.iload_n 3, 1) := by decide +kernel
theorem dX11_opensText_32 : decode cX11_opensText 32 = .ok (.putfield 293, 3) := by decide +kernel
theorem dX11_opensText_35 : decode cX11_opensText 35 = .ok (.aload_n 0, 1) := by decide +kernel
theorem dX11_opensText_36 : decode cX11_opensText 36 = .ok (.iload 4, 2) := by decide +kernel
theorem dX11_opensText_38 : decode cX11_opensText 38 = .ok (.putfield 313, 3) := by decide +kernel
theorem dX11_opensText_41 : decode cX11_opensText 41 = .ok (.return_, 1) := by decide +kernel
theorem dX11_load_0 : decode cX11_load 0 = .ok (.iload_n 1, 1) := by decide +kernel
theorem dX11_load_1 : decode cX11_load 1 = .ok (.ifCond .lt 11, 3) := by decide +kernel
theorem dX11_load_4 : decode cX11_load 4 = .ok (.iload_n 1, 1) := by decide +kernel
theorem dX11_load_5 : decode cX11_load 5 = .ok (.aload_n 0, 1) := by decide +kernel
theorem dX11_load_6 : decode cX11_load 6 = .ok (.getfield 7, 3) := by decide +kernel
theorem dX11_load_9 : decode cX11_load 9 = .ok (.if_icmp .le 6, 3) := by decide +kernel
theorem dX11_load_12 : decode cX11_load 12 = .ok (.bipush (-2), 2) := by decide +kernel
theorem dX11_load_14 : decode cX11_load 14 = .ok (.ireturn, 1) := by decide +kernel
theorem dX11_load_15 : decode cX11_load 15 = .ok (.iconst 1, 1) := by decide +kernel
theorem dX11_load_16 : decode cX11_load 16 = .ok (.aload_n 0, 1) := by decide +kernel
theorem dX11_load_17 : decode cX11_load 17 = .ok (.getfield 438, 3) := by decide +kernel
theorem dX11_load_20 : decode cX11_load 20 = .ok (.isub, 1) := by decide +kernel
theorem dX11_load_21 : decode cX11_load 21 = .ok (.istore_n 2, 1) := by decide +kernel
theorem dX11_load_22 : decode cX11_load 22 = .ok (.aload_n 0, 1) := by decide +kernel
theorem dX11_load_23 : decode cX11_load 23 = .ok (.bipush 32, 2) := by decide +kernel
theorem dX11_load_25 : decode cX11_load 25 = .ok (.iload_n 2, 1) := by decide +kernel
theorem dX11_load_26 : decode cX11_load 26 = .ok (.imul, 1) := by decide +kernel
theorem dX11_load_27 : decode cX11_load 27 = .ok (.putfield 432, 3) := by decide +kernel
theorem dX11_load_30 : decode cX11_load 30 = .ok (.aload_n 0, 1) := by decide +kernel
theorem dX11_load_31 : decode cX11_load 31 = .ok (.iconst 0, 1) := by decide +kernel
theorem dX11_load_32 : decode cX11_load 32 = .ok (.putfield 429, 3) := by decide +kernel
theorem dX11_load_35 : decode cX11_load 35 = .ok (.aload_n 0, 1) := by decide +kernel
theorem dX11_load_36 : decode cX11_load 36 = .ok (.iload_n 1, 1) := by decide +kernel
theorem dX11_load_37 : decode cX11_load 37 = .ok (.sipush 1700, 3) := by decide +kernel
theorem dX11_load_40 : decode cX11_load 40 = .ok (.iload_n 2, 1) := by decide +kernel
theorem dX11_load_41 : decode cX11_load 41 = .ok (.imul, 1) := by decide +kernel
theorem dX11_load_42 : decode cX11_load 42 = .ok (.sipush 3600, 3) := by decide +kernel
theorem dX11_load_45 : decode cX11_load 45 = .ok (.iload_n 2, 1) := by decide +kernel
theorem dX11_load_46 : decode cX11_load 46 = .ok (.imul, 1) := by decide +kernel
theorem dX11_load_47 : decode cX11_load 47 = .ok (.sipush 600, 3) := by decide +kernel
theorem dX11_load_50 : decode cX11_load 50 = .ok (.iload_n 2, 1) := by decide +kernel
theorem dX11_load_51 : decode cX11_load 51 = .ok (.imul, 1) := by decide +kernel
theorem dX11_load_52 : decode cX11_load 52 = .ok (.invokevirtual 441, 3) := by decide +kernel
theorem dX11_load_55 : decode cX11_load 55 = .ok (.aload_n 0, 1) := by decide +kernel
theorem dX11_load_56 : decode cX11_load 56 = .ok (.invokevirtual 332, 3) := by decide +kernel
theorem dX11_load_59 : decode cX11_load 59 = .ok (.ifCond .eq 22, 3) := by decide +kernel
theorem dX11_load_62 : decode cX11_load 62 = .ok (.aload_n 0, 1) := by decide +kernel
theorem dX11_load_63 : decode cX11_load 63 = .ok (.getfield 25, 3) := by decide +kernel
theorem dX11_load_66 : decode cX11_load 66 = .ok (.aload_n 0, 1) := by decide +kernel
theorem dX11_load_67 : decode cX11_load 67 = .ok (.getfield 325, 3) := by decide +kernel
theorem dX11_load_70 : decode cX11_load 70 = .ok (.iaload, 1) := by decide +kernel
theorem dX11_load_71 : decode cX11_load 71 = .ok (.ifCond .eq 10, 3) := by decide +kernel
theorem dX11_load_81 : decode cX11_load 81 = .ok (.iconst 0, 1) := by decide +kernel
theorem dX11_load_82 : decode cX11_load 82 = .ok (.istore_n 3, 1) := by decide +kernel
theorem dX11_load_83 : decode cX11_load 83 = .ok (.iload_n 3, 1) := by decide +kernel
theorem dX11_load_84 : decode cX11_load 84 = .ok (.aload_n 0, 1) := by decide +kernel
theorem dX11_load_85 : decode cX11_load 85 = .ok (.getfield 429, 3) := by decide +kernel
theorem dX11_load_88 : decode cX11_load 88 = .ok (.if_icmp .ge 27, 3) := by decide +kernel
theorem dX11_load_115 : decode cX11_load 115 = .ok (.aload_n 0, 1) := by decide +kernel
theorem dX11_load_116 : decode cX11_load 116 = .ok (.aload_n 0, 1) := by decide +kernel
theorem dX11_load_117 : decode cX11_load 117 = .ok (.getfield 319, 3) := by decide +kernel
theorem dX11_load_120 : decode cX11_load 120 = .ok (.putfield 451, 3) := by decide +kernel
theorem dX11_load_123 : decode cX11_load 123 = .ok (.aload_n 0, 1) := by decide +kernel
theorem dX11_load_124 : decode cX11_load 124 = .ok (.aload_n 0, 1) := by decide +kernel
theorem dX11_load_125 : decode cX11_load 125 = .ok (.getfield 319, 3) := by decide +kernel
theorem dX11_load_128 : decode cX11_load 128 = .ok (.ifCond .le 10, 3) := by decide +kernel
theorem dX11_load_138 : decode cX11_load 138 = .ok (.iconst (-1), 1) := by decide +kernel
theorem dX11_load_139 : decode cX11_load 139 = .ok (.putfield 112, 3) := by decide +kernel
theorem dX11_load_142 : decode cX11_load 142 = .ok (.aload_n 0, 1) := by decide +kernel
theorem dX11_load_143 : decode cX11_load 143 = .ok (.getfield 319, 3) := by decide +kernel
theorem dX11_load_146 : decode cX11_load 146 = .ok (.ifCond .le 5, 3) := by decide +kernel
theorem dX11_load_151 : decode cX11_load 151 = .ok (.aload_n 0, 1) := by decide +kernel
theorem dX11_load_152 : decode cX11_load 152 = .ok (.iload_n 2, 1) := by decide +kernel
theorem dX11_load_153 : decode cX11_load 153 = .ok (.putfield 438, 3) := by decide +kernel
theorem dX11_load_156 : decode cX11_load 156 = .ok (.aload_n 0, 1) := by decide +kernel
theorem dX11_load_157 : decode cX11_load 157 = .ok (.aload_n 0, 1) := by decide +kernel
theorem dX11_load_158 : decode cX11_load 158 = .ok (.getfield 429, 3) := by decide +kernel
theorem dX11_load_161 : decode cX11_load 161 = .ok (.putfield 454, 3) := by decide +kernel
theorem dX11_load_164 : decode cX11_load 164 = .ok (.aload_n 0, 1) := by decide +kernel
theorem dX11_load_165 : decode cX11_load 165 = .ok (.getfield 454, 3) := by decide +kernel
theorem dX11_load_168 : decode cX11_load 168 = .ok (.ireturn, 1) := by decide +kernel
theorem dX11_fault_0 : decode cX11_fault 0 = .ok (.iload_n 1, 1) := by decide +kernel
theorem dX11_fault_1 : decode cX11_fault 1 = .ok (.ifCond .ne 10, 3) := by decide +kernel
theorem dX11_fault_4 : decode cX11_fault 4 = .ok (.aload_n 0, 1) := by decide +kernel
theorem dX11_fault_5 : decode cX11_fault 5 = .ok (.getfield 451, 3) := by decide +kernel
theorem dX11_fault_8 : decode cX11_fault 8 = .ok (.goto 16, 3) := by decide +kernel
theorem dX11_fault_11 : decode cX11_fault 11 = .ok (.iload_n 1, 1) := by decide +kernel
theorem dX11_fault_12 : decode cX11_fault 12 = .ok (.iconst 1, 1) := by decide +kernel
theorem dX11_fault_13 : decode cX11_fault 13 = .ok (.if_icmp .ne 10, 3) := by decide +kernel
theorem dX11_fault_16 : decode cX11_fault 16 = .ok (.aload_n 0, 1) := by decide +kernel
theorem dX11_fault_17 : decode cX11_fault 17 = .ok (.getfield 112, 3) := by decide +kernel
theorem dX11_fault_20 : decode cX11_fault 20 = .ok (.goto 4, 3) := by decide +kernel
theorem dX11_fault_23 : decode cX11_fault 23 = .ok (.iconst (-1), 1) := by decide +kernel
theorem dX11_fault_24 : decode cX11_fault 24 = .ok (.ireturn, 1) := by decide +kernel
theorem dX11_typeOf_0 : decode cX11_typeOf 0 = .ok (.aload_n 0, 1) := by decide +kernel
theorem dX11_typeOf_1 : decode cX11_typeOf 1 = .ok (.invokevirtual 332, 3) := by decide +kernel
theorem dX11_typeOf_4 : decode cX11_typeOf 4 = .ok (.ifCond .ne 5, 3) := by decide +kernel
theorem dX11_typeOf_7 : decode cX11_typeOf 7 = .ok (.iconst (-1), 1) := by decide +kernel
theorem dX11_typeOf_8 : decode cX11_typeOf 8 = .ok (.ireturn, 1) := by decide +kernel
theorem dX11_ask_0 : decode cX11_ask 0 = .ok (.iload_n 1, 1) := by decide +kernel
theorem dX11_ask_1 : decode cX11_ask 1 = .ok (.ifCond .lt 22, 3) := by decide +kernel
theorem dX11_ask_4 : decode cX11_ask 4 = .ok (.iload_n 1, 1) := by decide +kernel
theorem dX11_ask_5 : decode cX11_ask 5 = .ok (.aload_n 0, 1) := by decide +kernel
theorem dX11_ask_6 : decode cX11_ask 6 = .ok (.getfield 7, 3) := by decide +kernel
theorem dX11_ask_9 : decode cX11_ask 9 = .ok (.if_icmp .gt 14, 3) := by decide +kernel
theorem dX11_ask_12 : decode cX11_ask 12 = .ok (.iload_n 2, 1) := by decide +kernel
theorem dX11_ask_13 : decode cX11_ask 13 = .ok (.ifCond .lt 10, 3) := by decide +kernel
theorem dX11_ask_16 : decode cX11_ask 16 = .ok (.iload_n 2, 1) := by decide +kernel
theorem dX11_ask_17 : decode cX11_ask 17 = .ok (.sipush 500, 3) := by decide +kernel
theorem dX11_ask_20 : decode cX11_ask 20 = .ok (.if_icmp .le 6, 3) := by decide +kernel
theorem dX11_ask_23 : decode cX11_ask 23 = .ok (.bipush (-2), 2) := by decide +kernel
theorem dX11_ask_25 : decode cX11_ask 25 = .ok (.ireturn, 1) := by decide +kernel
theorem dX11_ask_26 : decode cX11_ask 26 = .ok (.aload_n 0, 1) := by decide +kernel
theorem dX11_ask_27 : decode cX11_ask 27 = .ok (.iload_n 1, 1) := by decide +kernel
theorem dX11_ask_28 : decode cX11_ask 28 = .ok (.sipush 3400, 3) := by decide +kernel
theorem dX11_ask_31 : decode cX11_ask 31 = .ok (.sipush 7200, 3) := by decide +kernel
theorem dX11_ask_34 : decode cX11_ask 34 = .ok (.sipush 1200, 3) := by decide +kernel
theorem dX11_ask_37 : decode cX11_ask 37 = .ok (.invokevirtual 441, 3) := by decide +kernel
theorem dX11_ask_40 : decode cX11_ask 40 = .ok (.aload_n 0, 1) := by decide +kernel
theorem dX11_ask_41 : decode cX11_ask 41 = .ok (.invokevirtual 391, 3) := by decide +kernel
theorem dX11_ask_44 : decode cX11_ask 44 = .ok (.istore 4, 2) := by decide +kernel
theorem dX11_ask_46 : decode cX11_ask 46 = .ok (.aload_n 0, 1) := by decide +kernel
theorem dX11_ask_47 : decode cX11_ask 47 = .ok (.invokevirtual 332, 3) := by decide +kernel
theorem dX11_ask_50 : decode cX11_ask 50 = .ok (.ifCond .eq 20, 3) := by decide +kernel
theorem dX11_ask_70 : decode cX11_ask 70 = .ok (.aload_n 0, 1) := by decide +kernel
theorem dX11_ask_71 : decode cX11_ask 71 = .ok (.iconst 0, 1) := by decide +kernel
theorem dX11_ask_72 : decode cX11_ask 72 = .ok (.putfield 457, 3) := by decide +kernel
theorem dX11_ask_75 : decode cX11_ask 75 = .ok (.aload_n 0, 1) := by decide +kernel
theorem dX11_ask_76 : decode cX11_ask 76 = .ok (.iconst 0, 1) := by decide +kernel
theorem dX11_ask_77 : decode cX11_ask 77 = .ok (.putfield 469, 3) := by decide +kernel
theorem dX11_ask_80 : decode cX11_ask 80 = .ok (.aload_n 0, 1) := by decide +kernel
theorem dX11_ask_81 : decode cX11_ask 81 = .ok (.iconst 0, 1) := by decide +kernel
theorem dX11_ask_82 : decode cX11_ask 82 = .ok (.putfield 460, 3) := by decide +kernel
theorem dX11_ask_85 : decode cX11_ask 85 = .ok (.aload_n 0, 1) := by decide +kernel
theorem dX11_ask_86 : decode cX11_ask 86 = .ok (.bipush 32, 2) := by decide +kernel
theorem dX11_ask_88 : decode cX11_ask 88 = .ok (.aload_n 0, 1) := by decide +kernel
theorem dX11_ask_89 : decode cX11_ask 89 = .ok (.getfield 438, 3) := by decide +kernel
theorem dX11_ask_92 : decode cX11_ask 92 = .ok (.imul, 1) := by decide +kernel
theorem dX11_ask_93 : decode cX11_ask 93 = .ok (.putfield 463, 3) := by decide +kernel
theorem dX11_ask_96 : decode cX11_ask 96 = .ok (.aload_n 0, 1) := by decide +kernel
theorem dX11_ask_97 : decode cX11_ask 97 = .ok (.aload_n 0, 1) := by decide +kernel
theorem dX11_ask_98 : decode cX11_ask 98 = .ok (.getfield 454, 3) := by decide +kernel
theorem dX11_ask_101 : decode cX11_ask 101 = .ok (.putfield 466, 3) := by decide +kernel
theorem dX11_ask_104 : decode cX11_ask 104 = .ok (.aload_n 0, 1) := by decide +kernel
theorem dX11_ask_105 : decode cX11_ask 105 = .ok (.iload 4, 2) := by decide +kernel
theorem dX11_ask_107 : decode cX11_ask 107 = .ok (.invokevirtual 482, 3) := by decide +kernel
theorem dX11_ask_110 : decode cX11_ask 110 = .ok (.istore 5, 2) := by decide +kernel
theorem dX11_ask_112 : decode cX11_ask 112 = .ok (.aload_n 0, 1) := by decide +kernel
theorem dX11_ask_113 : decode cX11_ask 113 = .ok (.aload_n 0, 1) := by decide +kernel
theorem dX11_ask_114 : decode cX11_ask 114 = .ok (.getfield 319, 3) := by decide +kernel
theorem dX11_ask_117 : decode cX11_ask 117 = .ok (.putfield 451, 3) := by decide +kernel
theorem dX11_ask_120 : decode cX11_ask 120 = .ok (.aload_n 0, 1) := by decide +kernel
theorem dX11_ask_121 : decode cX11_ask 121 = .ok (.aload_n 0, 1) := by decide +kernel
theorem dX11_ask_122 : decode cX11_ask 122 = .ok (.getfield 319, 3) := by decide +kernel
theorem dX11_ask_125 : decode cX11_ask 125 = .ok (.ifCond .le 10, 3) := by decide +kernel
theorem dX11_ask_128 : decode cX11_ask 128 = .ok (.aload_n 0, 1) := by decide +kernel
theorem dX11_ask_129 : decode cX11_ask 129 = .ok (.getfield 322, 3) := by decide +kernel
theorem dX11_ask_132 : decode cX11_ask 132 = .ok (.goto 4, 3) := by decide +kernel
theorem dX11_ask_136 : decode cX11_ask 136 = .ok (.putfield 112, 3) := by decide +kernel
theorem dX11_ask_139 : decode cX11_ask 139 = .ok (.aload_n 0, 1) := by decide +kernel
theorem dX11_ask_140 : decode cX11_ask 140 = .ok (.getfield 319, 3) := by decide +kernel
theorem dX11_ask_143 : decode cX11_ask 143 = .ok (.ifCond .le 5, 3) := by decide +kernel
theorem dX11_ask_146 : decode cX11_ask 146 = .ok (.iconst (-1), 1) := by decide +kernel
theorem dX11_ask_147 : decode cX11_ask 147 = .ok (.ireturn, 1) := by decide +kernel
theorem dX11_told_0 : decode cX11_told 0 = .ok (.iload_n 1, 1) := by decide +kernel
theorem dX11_told_1 : decode cX11_told 1 = .ok (.tableswitch 87 0 7 #[47, 52, 57, 62, 67, 72, 77, 82], 47) := by decide +kernel
theorem dX11_told_48 : decode cX11_told 48 = .ok (.aload_n 0, 1) := by decide +kernel
theorem dX11_told_49 : decode cX11_told 49 = .ok (.getfield 230, 3) := by decide +kernel
theorem dX11_told_52 : decode cX11_told 52 = .ok (.ireturn, 1) := by decide +kernel
theorem dX11_told_53 : decode cX11_told 53 = .ok (.aload_n 0, 1) := by decide +kernel
theorem dX11_told_54 : decode cX11_told 54 = .ok (.getfield 754, 3) := by decide +kernel
theorem dX11_told_57 : decode cX11_told 57 = .ok (.ireturn, 1) := by decide +kernel
theorem dX11_told_58 : decode cX11_told 58 = .ok (.aload_n 0, 1) := by decide +kernel
theorem dX11_told_59 : decode cX11_told 59 = .ok (.getfield 757, 3) := by decide +kernel
theorem dX11_told_62 : decode cX11_told 62 = .ok (.ireturn, 1) := by decide +kernel
theorem dX11_told_63 : decode cX11_told 63 = .ok (.aload_n 0, 1) := by decide +kernel
theorem dX11_told_64 : decode cX11_told 64 = .ok (.getfield 760, 3) := by decide +kernel
theorem dX11_told_67 : decode cX11_told 67 = .ok (.ireturn, 1) := by decide +kernel
theorem dX11_told_68 : decode cX11_told 68 = .ok (.aload_n 0, 1) := by decide +kernel
theorem dX11_told_69 : decode cX11_told 69 = .ok (.getfield 233, 3) := by decide +kernel
theorem dX11_told_72 : decode cX11_told 72 = .ok (.ireturn, 1) := by decide +kernel
theorem dX11_told_73 : decode cX11_told 73 = .ok (.aload_n 0, 1) := by decide +kernel
theorem dX11_told_74 : decode cX11_told 74 = .ok (.getfield 766, 3) := by decide +kernel
theorem dX11_told_77 : decode cX11_told 77 = .ok (.ireturn, 1) := by decide +kernel
theorem dX11_told_78 : decode cX11_told 78 = .ok (.aload_n 0, 1) := by decide +kernel
theorem dX11_told_79 : decode cX11_told 79 = .ok (.getfield 769, 3) := by decide +kernel
theorem dX11_told_82 : decode cX11_told 82 = .ok (.ireturn, 1) := by decide +kernel
theorem dX11_told_83 : decode cX11_told 83 = .ok (.aload_n 0, 1) := by decide +kernel
theorem dX11_told_84 : decode cX11_told 84 = .ok (.getfield 772, 3) := by decide +kernel
theorem dX11_told_87 : decode cX11_told 87 = .ok (.ireturn, 1) := by decide +kernel
theorem dX11_told_88 : decode cX11_told 88 = .ok (.iconst (-1), 1) := by decide +kernel
theorem dX11_told_89 : decode cX11_told 89 = .ok (.ireturn, 1) := by decide +kernel
theorem dX11_gives0_0 : decode cX11_gives0 0 = .ok (.iload_n 2, 1) := by decide +kernel
theorem dX11_gives0_1 : decode cX11_gives0 1 = .ok (.iconst (-1), 1) := by decide +kernel
theorem dX11_gives0_2 : decode cX11_gives0 2 = .ok (.if_icmp .ne 5, 3) := by decide +kernel
theorem dX11_gives0_5 : decode cX11_gives0 5 = .ok (.iconst (-1), 1) := by decide +kernel
theorem dX11_gives0_6 : decode cX11_gives0 6 = .ok (.ireturn, 1) := by decide +kernel
theorem dX11_type_0 : decode cX11_type 0 = .ok (.iload_n 1, 1) := by decide +kernel
theorem dX11_type_1 : decode cX11_type 1 = .ok (.ifCond .ne 16, 3) := by decide +kernel
theorem dX11_type_4 : decode cX11_type 4 = .ok (.aload_n 0, 1) := by decide +kernel
theorem dX11_type_5 : decode cX11_type 5 = .ok (.aload_n 0, 1) := by decide +kernel
theorem dX11_type_6 : decode cX11_type 6 = .ok (.getfield 218, 3) := by decide +kernel
theorem dX11_type_9 : decode cX11_type 9 = .ok (.aload_n 0, 1) := by decide +kernel
theorem dX11_type_10 : decode cX11_type 10 = .ok (.getfield 221, 3) := by decide +kernel
theorem dX11_type_13 : decode cX11_type 13 = .ok (.invokevirtual 781, 3) := by decide +kernel
theorem dX11_type_16 : decode cX11_type 16 = .ok (.ireturn, 1) := by decide +kernel
theorem dX11_type_17 : decode cX11_type 17 = .ok (.iload_n 1, 1) := by decide +kernel
theorem dX11_type_18 : decode cX11_type 18 = .ok (.iconst 1, 1) := by decide +kernel
theorem dX11_type_19 : decode cX11_type 19 = .ok (.if_icmp .ne 15, 3) := by decide +kernel
theorem dX11_type_22 : decode cX11_type 22 = .ok (.iload_n 2, 1) := by decide +kernel
theorem dX11_type_23 : decode cX11_type 23 = .ok (.ifCond .lt 11, 3) := by decide +kernel
theorem dX11_type_26 : decode cX11_type 26 = .ok (.iload_n 2, 1) := by decide +kernel
theorem dX11_type_27 : decode cX11_type 27 = .ok (.aload_n 0, 1) := by decide +kernel
theorem dX11_type_28 : decode cX11_type 28 = .ok (.getfield 454, 3) := by decide +kernel
theorem dX11_type_31 : decode cX11_type 31 = .ok (.if_icmp .lt 5, 3) := by decide +kernel
theorem dX11_type_34 : decode cX11_type 34 = .ok (.iconst (-1), 1) := by decide +kernel
theorem dX11_type_35 : decode cX11_type 35 = .ok (.ireturn, 1) := by decide +kernel
theorem dX11_value_0 : decode cX11_value 0 = .ok (.aload_n 0, 1) := by decide +kernel
theorem dX11_value_1 : decode cX11_value 1 = .ok (.aload_n 0, 1) := by decide +kernel
theorem dX11_value_2 : decode cX11_value 2 = .ok (.getfield 224, 3) := by decide +kernel
theorem dX11_value_5 : decode cX11_value 5 = .ok (.aload_n 0, 1) := by decide +kernel
theorem dX11_value_6 : decode cX11_value 6 = .ok (.getfield 227, 3) := by decide +kernel
theorem dX11_value_9 : decode cX11_value 9 = .ok (.invokevirtual 781, 3) := by decide +kernel
theorem dX11_value_12 : decode cX11_value 12 = .ok (.ireturn, 1) := by decide +kernel
theorem dX11_out_0 : decode cX11_out 0 = .ok (.iload_n 1, 1) := by decide +kernel
theorem dX11_out_1 : decode cX11_out 1 = .ok (.ifCond .lt 20, 3) := by decide +kernel
theorem dX11_out_4 : decode cX11_out 4 = .ok (.iload_n 1, 1) := by decide +kernel
theorem dX11_out_5 : decode cX11_out 5 = .ok (.aload_n 0, 1) := by decide +kernel
theorem dX11_out_6 : decode cX11_out 6 = .ok (.getfield 778, 3) := by decide +kernel
theorem dX11_out_9 : decode cX11_out 9 = .ok (.if_icmp .ge 12, 3) := by decide +kernel
theorem dX11_out_21 : decode cX11_out 21 = .ok (.iconst (-1), 1) := by decide +kernel
theorem dX11_out_22 : decode cX11_out 22 = .ok (.ireturn, 1) := by decide +kernel
theorem dX11_count_0 : decode cX11_count 0 = .ok (.iload_n 1, 1) := by decide +kernel
theorem dX11_count_1 : decode cX11_count 1 = .ok (.ifCond .ne 10, 3) := by decide +kernel
theorem dX11_count_4 : decode cX11_count 4 = .ok (.aload_n 0, 1) := by decide +kernel
theorem dX11_count_5 : decode cX11_count 5 = .ok (.getfield 454, 3) := by decide +kernel
theorem dX11_count_8 : decode cX11_count 8 = .ok (.goto 40, 3) := by decide +kernel
theorem dX11_count_11 : decode cX11_count 11 = .ok (.iload_n 1, 1) := by decide +kernel
theorem dX11_count_12 : decode cX11_count 12 = .ok (.iconst 1, 1) := by decide +kernel
theorem dX11_count_13 : decode cX11_count 13 = .ok (.if_icmp .ne 10, 3) := by decide +kernel
theorem dX11_count_16 : decode cX11_count 16 = .ok (.aload_n 0, 1) := by decide +kernel
theorem dX11_count_17 : decode cX11_count 17 = .ok (.getfield 7, 3) := by decide +kernel
theorem dX11_count_20 : decode cX11_count 20 = .ok (.goto 28, 3) := by decide +kernel
theorem dX11_count_23 : decode cX11_count 23 = .ok (.iload_n 1, 1) := by decide +kernel
theorem dX11_count_24 : decode cX11_count 24 = .ok (.iconst 2, 1) := by decide +kernel
theorem dX11_count_25 : decode cX11_count 25 = .ok (.if_icmp .ne 10, 3) := by decide +kernel
theorem dX11_count_28 : decode cX11_count 28 = .ok (.aload_n 0, 1) := by decide +kernel
theorem dX11_count_29 : decode cX11_count 29 = .ok (.getfield 778, 3) := by decide +kernel
theorem dX11_count_32 : decode cX11_count 32 = .ok (.goto 16, 3) := by decide +kernel
theorem dX11_count_35 : decode cX11_count 35 = .ok (.iload_n 1, 1) := by decide +kernel
theorem dX11_count_36 : decode cX11_count 36 = .ok (.iconst 3, 1) := by decide +kernel
theorem dX11_count_37 : decode cX11_count 37 = .ok (.if_icmp .ne 10, 3) := by decide +kernel
theorem dX11_count_40 : decode cX11_count 40 = .ok (.aload_n 0, 1) := by decide +kernel
theorem dX11_count_41 : decode cX11_count 41 = .ok (.getfield 775, 3) := by decide +kernel
theorem dX11_count_44 : decode cX11_count 44 = .ok (.goto 4, 3) := by decide +kernel
theorem dX11_count_47 : decode cX11_count 47 = .ok (.iconst (-1), 1) := by decide +kernel
theorem dX11_count_48 : decode cX11_count 48 = .ok (.ireturn, 1) := by decide +kernel
theorem dJ0_length_8abf5_0 : decode cJ0_length_8abf5 0 = .ok (.aload_n 0, 1) := by decide +kernel
theorem dJ0_length_8abf5_1 : decode cJ0_length_8abf5 1 = .ok (.getfield 9, 3) := by decide +kernel
theorem dJ0_length_8abf5_4 : decode cJ0_length_8abf5 4 = .ok (.arraylength, 1) := by decide +kernel
theorem dJ0_length_8abf5_5 : decode cJ0_length_8abf5 5 = .ok (.aload_n 0, 1) := by decide +kernel
theorem dJ0_length_8abf5_6 : decode cJ0_length_8abf5 6 = .ok (.invokevirtual 335, 3) := by decide +kernel
theorem dJ0_length_8abf5_9 : decode cJ0_length_8abf5 9 = .ok (.ishr, 1) := by decide +kernel
theorem dJ0_length_8abf5_10 : decode cJ0_length_8abf5 10 = .ok (.ireturn, 1) := by decide +kernel
theorem dJ0_charAt_5068e_0 : decode cJ0_charAt_5068e 0 = .ok (.aload_n 0, 1) := by decide +kernel
theorem dJ0_charAt_5068e_1 : decode cJ0_charAt_5068e 1 = .ok (.invokevirtual 492, 3) := by decide +kernel
theorem dJ0_charAt_5068e_4 : decode cJ0_charAt_5068e 4 = .ok (.ifCond .eq 12, 3) := by decide +kernel
theorem dJ0_charAt_5068e_7 : decode cJ0_charAt_5068e 7 = .ok (.aload_n 0, 1) := by decide +kernel
theorem dJ0_charAt_5068e_8 : decode cJ0_charAt_5068e 8 = .ok (.getfield 9, 3) := by decide +kernel
theorem dJ0_charAt_5068e_11 : decode cJ0_charAt_5068e 11 = .ok (.iload_n 1, 1) := by decide +kernel
theorem dJ0_charAt_5068e_12 : decode cJ0_charAt_5068e 12 = .ok (.invokestatic 495, 3) := by decide +kernel
theorem dJ0_charAt_5068e_15 : decode cJ0_charAt_5068e 15 = .ok (.ireturn, 1) := by decide +kernel
theorem dJ0_coder_7d493_0 : decode cJ0_coder_7d493 0 = .ok (.getstatic 38, 3) := by decide +kernel
theorem dJ0_coder_7d493_3 : decode cJ0_coder_7d493 3 = .ok (.ifCond .eq 10, 3) := by decide +kernel
theorem dJ0_coder_7d493_6 : decode cJ0_coder_7d493 6 = .ok (.aload_n 0, 1) := by decide +kernel
theorem dJ0_coder_7d493_7 : decode cJ0_coder_7d493 7 = .ok (.getfield 15, 3) := by decide +kernel
theorem dJ0_coder_7d493_10 : decode cJ0_coder_7d493 10 = .ok (.goto 4, 3) := by decide +kernel
theorem dJ0_coder_7d493_14 : decode cJ0_coder_7d493 14 = .ok (.ireturn, 1) := by decide +kernel
theorem dJ0_isLatin1_aae02_0 : decode cJ0_isLatin1_aae02 0 = .ok (.getstatic 38, 3) := by decide +kernel
theorem dJ0_isLatin1_aae02_3 : decode cJ0_isLatin1_aae02 3 = .ok (.ifCond .eq 14, 3) := by decide +kernel
theorem dJ0_isLatin1_aae02_6 : decode cJ0_isLatin1_aae02 6 = .ok (.aload_n 0, 1) := by decide +kernel
theorem dJ0_isLatin1_aae02_7 : decode cJ0_isLatin1_aae02 7 = .ok (.getfield 15, 3) := by decide +kernel
theorem dJ0_isLatin1_aae02_10 : decode cJ0_isLatin1_aae02 10 = .ok (.ifCond .ne 7, 3) := by decide +kernel
theorem dJ0_isLatin1_aae02_13 : decode cJ0_isLatin1_aae02 13 = .ok (.iconst 1, 1) := by decide +kernel
theorem dJ0_isLatin1_aae02_14 : decode cJ0_isLatin1_aae02 14 = .ok (.goto 4, 3) := by decide +kernel
theorem dJ0_isLatin1_aae02_18 : decode cJ0_isLatin1_aae02 18 = .ok (.ireturn, 1) := by decide +kernel
theorem dJ0_checkIndex_df160_0 : decode cJ0_checkIndex_df160 0 = .ok (.iload_n 0, 1) := by decide +kernel
theorem dJ0_checkIndex_df160_1 : decode cJ0_checkIndex_df160 1 = .ok (.iload_n 1, 1) := by decide +kernel
theorem dJ0_checkIndex_df160_2 : decode cJ0_checkIndex_df160 2 = .ok (.getstatic 1053, 3) := by decide +kernel
theorem dJ0_checkIndex_df160_5 : decode cJ0_checkIndex_df160 5 = .ok (.invokestatic 1059, 3) := by decide +kernel
theorem dJ0_checkIndex_df160_8 : decode cJ0_checkIndex_df160 8 = .ok (.pop, 1) := by decide +kernel
theorem dJ0_checkIndex_df160_9 : decode cJ0_checkIndex_df160 9 = .ok (.return_, 1) := by decide +kernel
theorem dJ1_charAt_3b067_0 : decode cJ1_charAt_3b067 0 = .ok (.iload_n 1, 1) := by decide +kernel
theorem dJ1_charAt_3b067_1 : decode cJ1_charAt_3b067 1 = .ok (.aload_n 0, 1) := by decide +kernel
theorem dJ1_charAt_3b067_2 : decode cJ1_charAt_3b067 2 = .ok (.arraylength, 1) := by decide +kernel
theorem dJ1_charAt_3b067_3 : decode cJ1_charAt_3b067 3 = .ok (.invokestatic 9, 3) := by decide +kernel
theorem dJ1_charAt_3b067_6 : decode cJ1_charAt_3b067 6 = .ok (.aload_n 0, 1) := by decide +kernel
theorem dJ1_charAt_3b067_7 : decode cJ1_charAt_3b067 7 = .ok (.iload_n 1, 1) := by decide +kernel
theorem dJ1_charAt_3b067_8 : decode cJ1_charAt_3b067 8 = .ok (.baload, 1) := by decide +kernel
theorem dJ1_charAt_3b067_9 : decode cJ1_charAt_3b067 9 = .ok (.sipush 255, 3) := by decide +kernel
theorem dJ1_charAt_3b067_12 : decode cJ1_charAt_3b067 12 = .ok (.iand, 1) := by decide +kernel
theorem dJ1_charAt_3b067_13 : decode cJ1_charAt_3b067 13 = .ok (.i2c, 1) := by decide +kernel
theorem dJ1_charAt_3b067_14 : decode cJ1_charAt_3b067 14 = .ok (.ireturn, 1) := by decide +kernel
theorem dJ3_checkIndex_8e157_0 : decode cJ3_checkIndex_8e157 0 = .ok (.iload_n 0, 1) := by decide +kernel
theorem dJ3_checkIndex_8e157_1 : decode cJ3_checkIndex_8e157 1 = .ok (.ifCond .lt 8, 3) := by decide +kernel
theorem dJ3_checkIndex_8e157_4 : decode cJ3_checkIndex_8e157 4 = .ok (.iload_n 0, 1) := by decide +kernel
theorem dJ3_checkIndex_8e157_5 : decode cJ3_checkIndex_8e157 5 = .ok (.iload_n 1, 1) := by decide +kernel
theorem dJ3_checkIndex_8e157_6 : decode cJ3_checkIndex_8e157 6 = .ok (.if_icmp .lt 10, 3) := by decide +kernel
theorem dJ3_checkIndex_8e157_16 : decode cJ3_checkIndex_8e157 16 = .ok (.iload_n 0, 1) := by decide +kernel
theorem dJ3_checkIndex_8e157_17 : decode cJ3_checkIndex_8e157 17 = .ok (.ireturn, 1) := by decide +kernel
theorem dL_law_0 : decode cL_law 0 = .ok (.new 7, 3) := by decide +kernel
theorem dL_law_3 : decode cL_law 3 = .ok (.dup, 1) := by decide +kernel
theorem dL_law_4 : decode cL_law 4 = .ok (.invokespecial 9, 3) := by decide +kernel
theorem dL_law_7 : decode cL_law 7 = .ok (.astore_n 1, 1) := by decide +kernel
theorem dL_law_8 : decode cL_law 8 = .ok (.new 10, 3) := by decide +kernel
theorem dL_law_11 : decode cL_law 11 = .ok (.dup, 1) := by decide +kernel
theorem dL_law_12 : decode cL_law 12 = .ok (.invokespecial 12, 3) := by decide +kernel
theorem dL_law_15 : decode cL_law 15 = .ok (.astore_n 2, 1) := by decide +kernel
theorem dL_law_16 : decode cL_law 16 = .ok (.iconst 0, 1) := by decide +kernel
theorem dL_law_17 : decode cL_law 17 = .ok (.istore_n 3, 1) := by decide +kernel
theorem dL_law_18 : decode cL_law 18 = .ok (.iload_n 3, 1) := by decide +kernel
theorem dL_law_19 : decode cL_law 19 = .ok (.aload_n 0, 1) := by decide +kernel
theorem dL_law_20 : decode cL_law 20 = .ok (.arraylength, 1) := by decide +kernel
theorem dL_law_21 : decode cL_law 21 = .ok (.bipush 6, 2) := by decide +kernel
theorem dL_law_23 : decode cL_law 23 = .ok (.isub, 1) := by decide +kernel
theorem dL_law_24 : decode cL_law 24 = .ok (.if_icmp .gt 349, 3) := by decide +kernel
theorem dL_law_27 : decode cL_law 27 = .ok (.aload_n 0, 1) := by decide +kernel
theorem dL_law_28 : decode cL_law 28 = .ok (.iload_n 3, 1) := by decide +kernel
theorem dL_law_29 : decode cL_law 29 = .ok (.iaload, 1) := by decide +kernel
theorem dL_law_30 : decode cL_law 30 = .ok (.bipush 15, 2) := by decide +kernel
theorem dL_law_32 : decode cL_law 32 = .ok (.iand, 1) := by decide +kernel
theorem dL_law_33 : decode cL_law 33 = .ok (.tableswitch 334 0 8 #[51, 114, 137, 196, 219, 242, 275, 288, 311], 51) := by decide +kernel
theorem dL_law_84 : decode cL_law 84 = .ok (.aload_n 1, 1) := by decide +kernel
theorem dL_law_85 : decode cL_law 85 = .ok (.aload_n 0, 1) := by decide +kernel
theorem dL_law_86 : decode cL_law 86 = .ok (.iload_n 3, 1) := by decide +kernel
theorem dL_law_87 : decode cL_law 87 = .ok (.iconst 1, 1) := by decide +kernel
theorem dL_law_88 : decode cL_law 88 = .ok (.iadd, 1) := by decide +kernel
theorem dL_law_89 : decode cL_law 89 = .ok (.iaload, 1) := by decide +kernel
theorem dL_law_90 : decode cL_law 90 = .ok (.aload_n 0, 1) := by decide +kernel
theorem dL_law_91 : decode cL_law 91 = .ok (.iload_n 3, 1) := by decide +kernel
theorem dL_law_92 : decode cL_law 92 = .ok (.iconst 2, 1) := by decide +kernel
theorem dL_law_93 : decode cL_law 93 = .ok (.iadd, 1) := by decide +kernel
theorem dL_law_94 : decode cL_law 94 = .ok (.iaload, 1) := by decide +kernel
theorem dL_law_95 : decode cL_law 95 = .ok (.aload_n 0, 1) := by decide +kernel
theorem dL_law_96 : decode cL_law 96 = .ok (.iload_n 3, 1) := by decide +kernel
theorem dL_law_97 : decode cL_law 97 = .ok (.iconst 3, 1) := by decide +kernel
theorem dL_law_98 : decode cL_law 98 = .ok (.iadd, 1) := by decide +kernel
theorem dL_law_99 : decode cL_law 99 = .ok (.iaload, 1) := by decide +kernel
theorem dL_law_100 : decode cL_law 100 = .ok (.aload_n 0, 1) := by decide +kernel
theorem dL_law_101 : decode cL_law 101 = .ok (.iload_n 3, 1) := by decide +kernel
theorem dL_law_102 : decode cL_law 102 = .ok (.iconst 4, 1) := by decide +kernel
theorem dL_law_103 : decode cL_law 103 = .ok (.iadd, 1) := by decide +kernel
theorem dL_law_104 : decode cL_law 104 = .ok (.iaload, 1) := by decide +kernel
theorem dL_law_105 : decode cL_law 105 = .ok (.aload_n 0, 1) := by decide +kernel
theorem dL_law_106 : decode cL_law 106 = .ok (.iload_n 3, 1) := by decide +kernel
theorem dL_law_107 : decode cL_law 107 = .ok (.iconst 5, 1) := by decide +kernel
theorem dL_law_108 : decode cL_law 108 = .ok (.iadd, 1) := by decide +kernel
theorem dL_law_109 : decode cL_law 109 = .ok (.iaload, 1) := by decide +kernel
theorem dL_law_110 : decode cL_law 110 = .ok (.invokevirtual 13, 3) := by decide +kernel
theorem dL_law_113 : decode cL_law 113 = .ok (.aload_n 2, 1) := by decide +kernel
theorem dL_law_114 : decode cL_law 114 = .ok (.aload_n 0, 1) := by decide +kernel
theorem dL_law_115 : decode cL_law 115 = .ok (.iload_n 3, 1) := by decide +kernel
theorem dL_law_116 : decode cL_law 116 = .ok (.iconst 1, 1) := by decide +kernel
theorem dL_law_117 : decode cL_law 117 = .ok (.iadd, 1) := by decide +kernel
theorem dL_law_118 : decode cL_law 118 = .ok (.iaload, 1) := by decide +kernel
theorem dL_law_119 : decode cL_law 119 = .ok (.aload_n 0, 1) := by decide +kernel
theorem dL_law_120 : decode cL_law 120 = .ok (.iload_n 3, 1) := by decide +kernel
theorem dL_law_121 : decode cL_law 121 = .ok (.iconst 2, 1) := by decide +kernel
theorem dL_law_122 : decode cL_law 122 = .ok (.iadd, 1) := by decide +kernel
theorem dL_law_123 : decode cL_law 123 = .ok (.iaload, 1) := by decide +kernel
theorem dL_law_124 : decode cL_law 124 = .ok (.aload_n 0, 1) := by decide +kernel
theorem dL_law_125 : decode cL_law 125 = .ok (.iload_n 3, 1) := by decide +kernel
theorem dL_law_126 : decode cL_law 126 = .ok (.iconst 3, 1) := by decide +kernel
theorem dL_law_127 : decode cL_law 127 = .ok (.iadd, 1) := by decide +kernel
theorem dL_law_128 : decode cL_law 128 = .ok (.iaload, 1) := by decide +kernel
theorem dL_law_129 : decode cL_law 129 = .ok (.aload_n 0, 1) := by decide +kernel
theorem dL_law_130 : decode cL_law 130 = .ok (.iload_n 3, 1) := by decide +kernel
theorem dL_law_131 : decode cL_law 131 = .ok (.iconst 4, 1) := by decide +kernel
theorem dL_law_132 : decode cL_law 132 = .ok (.iadd, 1) := by decide +kernel
theorem dL_law_133 : decode cL_law 133 = .ok (.iaload, 1) := by decide +kernel
theorem dL_law_134 : decode cL_law 134 = .ok (.aload_n 0, 1) := by decide +kernel
theorem dL_law_135 : decode cL_law 135 = .ok (.iload_n 3, 1) := by decide +kernel
theorem dL_law_136 : decode cL_law 136 = .ok (.iconst 5, 1) := by decide +kernel
theorem dL_law_137 : decode cL_law 137 = .ok (.iadd, 1) := by decide +kernel
theorem dL_law_138 : decode cL_law 138 = .ok (.iaload, 1) := by decide +kernel
theorem dL_law_139 : decode cL_law 139 = .ok (.invokevirtual 17, 3) := by decide +kernel
theorem dL_law_142 : decode cL_law 142 = .ok (.if_icmp .eq 225, 3) := by decide +kernel
theorem dL_law_147 : decode cL_law 147 = .ok (.aload_n 1, 1) := by decide +kernel
theorem dL_law_148 : decode cL_law 148 = .ok (.aload_n 0, 1) := by decide +kernel
theorem dL_law_149 : decode cL_law 149 = .ok (.iload_n 3, 1) := by decide +kernel
theorem dL_law_150 : decode cL_law 150 = .ok (.iconst 1, 1) := by decide +kernel
theorem dL_law_151 : decode cL_law 151 = .ok (.iadd, 1) := by decide +kernel
theorem dL_law_152 : decode cL_law 152 = .ok (.iaload, 1) := by decide +kernel
theorem dL_law_153 : decode cL_law 153 = .ok (.invokevirtual 18, 3) := by decide +kernel
theorem dL_law_156 : decode cL_law 156 = .ok (.aload_n 2, 1) := by decide +kernel
theorem dL_law_157 : decode cL_law 157 = .ok (.aload_n 0, 1) := by decide +kernel
theorem dL_law_158 : decode cL_law 158 = .ok (.iload_n 3, 1) := by decide +kernel
theorem dL_law_159 : decode cL_law 159 = .ok (.iconst 1, 1) := by decide +kernel
theorem dL_law_160 : decode cL_law 160 = .ok (.iadd, 1) := by decide +kernel
theorem dL_law_161 : decode cL_law 161 = .ok (.iaload, 1) := by decide +kernel
theorem dL_law_162 : decode cL_law 162 = .ok (.invokevirtual 22, 3) := by decide +kernel
theorem dL_law_165 : decode cL_law 165 = .ok (.if_icmp .eq 202, 3) := by decide +kernel
theorem dL_law_170 : decode cL_law 170 = .ok (.aload_n 1, 1) := by decide +kernel
theorem dL_law_171 : decode cL_law 171 = .ok (.aload_n 0, 1) := by decide +kernel
theorem dL_law_172 : decode cL_law 172 = .ok (.iload_n 3, 1) := by decide +kernel
theorem dL_law_173 : decode cL_law 173 = .ok (.iconst 1, 1) := by decide +kernel
theorem dL_law_174 : decode cL_law 174 = .ok (.iadd, 1) := by decide +kernel
theorem dL_law_175 : decode cL_law 175 = .ok (.iaload, 1) := by decide +kernel
theorem dL_law_176 : decode cL_law 176 = .ok (.aload_n 0, 1) := by decide +kernel
theorem dL_law_177 : decode cL_law 177 = .ok (.iload_n 3, 1) := by decide +kernel
theorem dL_law_178 : decode cL_law 178 = .ok (.iconst 2, 1) := by decide +kernel
theorem dL_law_179 : decode cL_law 179 = .ok (.iadd, 1) := by decide +kernel
theorem dL_law_180 : decode cL_law 180 = .ok (.iaload, 1) := by decide +kernel
theorem dL_law_181 : decode cL_law 181 = .ok (.aload_n 0, 1) := by decide +kernel
theorem dL_law_182 : decode cL_law 182 = .ok (.iload_n 3, 1) := by decide +kernel
theorem dL_law_183 : decode cL_law 183 = .ok (.iconst 3, 1) := by decide +kernel
theorem dL_law_184 : decode cL_law 184 = .ok (.iadd, 1) := by decide +kernel
theorem dL_law_185 : decode cL_law 185 = .ok (.iaload, 1) := by decide +kernel
theorem dL_law_186 : decode cL_law 186 = .ok (.ifCond .eq 7, 3) := by decide +kernel
theorem dL_law_189 : decode cL_law 189 = .ok (.iconst 1, 1) := by decide +kernel
theorem dL_law_190 : decode cL_law 190 = .ok (.goto 4, 3) := by decide +kernel
theorem dL_law_193 : decode cL_law 193 = .ok (.iconst 0, 1) := by decide +kernel
theorem dL_law_194 : decode cL_law 194 = .ok (.invokevirtual 23, 3) := by decide +kernel
theorem dL_law_197 : decode cL_law 197 = .ok (.aload_n 2, 1) := by decide +kernel
theorem dL_law_198 : decode cL_law 198 = .ok (.aload_n 0, 1) := by decide +kernel
theorem dL_law_199 : decode cL_law 199 = .ok (.iload_n 3, 1) := by decide +kernel
theorem dL_law_200 : decode cL_law 200 = .ok (.iconst 1, 1) := by decide +kernel
theorem dL_law_201 : decode cL_law 201 = .ok (.iadd, 1) := by decide +kernel
theorem dL_law_202 : decode cL_law 202 = .ok (.iaload, 1) := by decide +kernel
theorem dL_law_203 : decode cL_law 203 = .ok (.aload_n 0, 1) := by decide +kernel
theorem dL_law_204 : decode cL_law 204 = .ok (.iload_n 3, 1) := by decide +kernel
theorem dL_law_205 : decode cL_law 205 = .ok (.iconst 2, 1) := by decide +kernel
theorem dL_law_206 : decode cL_law 206 = .ok (.iadd, 1) := by decide +kernel
theorem dL_law_207 : decode cL_law 207 = .ok (.iaload, 1) := by decide +kernel
theorem dL_law_208 : decode cL_law 208 = .ok (.aload_n 0, 1) := by decide +kernel
theorem dL_law_209 : decode cL_law 209 = .ok (.iload_n 3, 1) := by decide +kernel
theorem dL_law_210 : decode cL_law 210 = .ok (.iconst 3, 1) := by decide +kernel
theorem dL_law_211 : decode cL_law 211 = .ok (.iadd, 1) := by decide +kernel
theorem dL_law_212 : decode cL_law 212 = .ok (.iaload, 1) := by decide +kernel
theorem dL_law_213 : decode cL_law 213 = .ok (.ifCond .eq 7, 3) := by decide +kernel
theorem dL_law_216 : decode cL_law 216 = .ok (.iconst 1, 1) := by decide +kernel
theorem dL_law_217 : decode cL_law 217 = .ok (.goto 4, 3) := by decide +kernel
theorem dL_law_220 : decode cL_law 220 = .ok (.iconst 0, 1) := by decide +kernel
theorem dL_law_221 : decode cL_law 221 = .ok (.invokevirtual 27, 3) := by decide +kernel
theorem dL_law_224 : decode cL_law 224 = .ok (.if_icmp .eq 143, 3) := by decide +kernel
theorem dL_law_229 : decode cL_law 229 = .ok (.aload_n 1, 1) := by decide +kernel
theorem dL_law_230 : decode cL_law 230 = .ok (.aload_n 0, 1) := by decide +kernel
theorem dL_law_231 : decode cL_law 231 = .ok (.iload_n 3, 1) := by decide +kernel
theorem dL_law_232 : decode cL_law 232 = .ok (.iconst 1, 1) := by decide +kernel
theorem dL_law_233 : decode cL_law 233 = .ok (.iadd, 1) := by decide +kernel
theorem dL_law_234 : decode cL_law 234 = .ok (.iaload, 1) := by decide +kernel
theorem dL_law_235 : decode cL_law 235 = .ok (.invokevirtual 28, 3) := by decide +kernel
theorem dL_law_238 : decode cL_law 238 = .ok (.aload_n 2, 1) := by decide +kernel
theorem dL_law_239 : decode cL_law 239 = .ok (.aload_n 0, 1) := by decide +kernel
theorem dL_law_240 : decode cL_law 240 = .ok (.iload_n 3, 1) := by decide +kernel
theorem dL_law_241 : decode cL_law 241 = .ok (.iconst 1, 1) := by decide +kernel
theorem dL_law_242 : decode cL_law 242 = .ok (.iadd, 1) := by decide +kernel
theorem dL_law_243 : decode cL_law 243 = .ok (.iaload, 1) := by decide +kernel
theorem dL_law_244 : decode cL_law 244 = .ok (.invokevirtual 31, 3) := by decide +kernel
theorem dL_law_247 : decode cL_law 247 = .ok (.if_icmp .eq 120, 3) := by decide +kernel
theorem dL_law_252 : decode cL_law 252 = .ok (.aload_n 1, 1) := by decide +kernel
theorem dL_law_253 : decode cL_law 253 = .ok (.aload_n 0, 1) := by decide +kernel
theorem dL_law_254 : decode cL_law 254 = .ok (.iload_n 3, 1) := by decide +kernel
theorem dL_law_255 : decode cL_law 255 = .ok (.iconst 1, 1) := by decide +kernel
theorem dL_law_256 : decode cL_law 256 = .ok (.iadd, 1) := by decide +kernel
theorem dL_law_257 : decode cL_law 257 = .ok (.iaload, 1) := by decide +kernel
theorem dL_law_258 : decode cL_law 258 = .ok (.invokevirtual 32, 3) := by decide +kernel
theorem dL_law_261 : decode cL_law 261 = .ok (.aload_n 2, 1) := by decide +kernel
theorem dL_law_262 : decode cL_law 262 = .ok (.aload_n 0, 1) := by decide +kernel
theorem dL_law_263 : decode cL_law 263 = .ok (.iload_n 3, 1) := by decide +kernel
theorem dL_law_264 : decode cL_law 264 = .ok (.iconst 1, 1) := by decide +kernel
theorem dL_law_265 : decode cL_law 265 = .ok (.iadd, 1) := by decide +kernel
theorem dL_law_266 : decode cL_law 266 = .ok (.iaload, 1) := by decide +kernel
theorem dL_law_267 : decode cL_law 267 = .ok (.invokevirtual 35, 3) := by decide +kernel
theorem dL_law_270 : decode cL_law 270 = .ok (.if_icmp .eq 97, 3) := by decide +kernel
theorem dL_law_275 : decode cL_law 275 = .ok (.aload_n 1, 1) := by decide +kernel
theorem dL_law_276 : decode cL_law 276 = .ok (.aload_n 0, 1) := by decide +kernel
theorem dL_law_277 : decode cL_law 277 = .ok (.iload_n 3, 1) := by decide +kernel
theorem dL_law_278 : decode cL_law 278 = .ok (.iconst 1, 1) := by decide +kernel
theorem dL_law_279 : decode cL_law 279 = .ok (.iadd, 1) := by decide +kernel
theorem dL_law_280 : decode cL_law 280 = .ok (.iaload, 1) := by decide +kernel
theorem dL_law_281 : decode cL_law 281 = .ok (.aload_n 0, 1) := by decide +kernel
theorem dL_law_282 : decode cL_law 282 = .ok (.iload_n 3, 1) := by decide +kernel
theorem dL_law_283 : decode cL_law 283 = .ok (.iconst 2, 1) := by decide +kernel
theorem dL_law_284 : decode cL_law 284 = .ok (.iadd, 1) := by decide +kernel
theorem dL_law_285 : decode cL_law 285 = .ok (.iaload, 1) := by decide +kernel
theorem dL_law_286 : decode cL_law 286 = .ok (.invokevirtual 36, 3) := by decide +kernel
theorem dL_law_289 : decode cL_law 289 = .ok (.aload_n 2, 1) := by decide +kernel
theorem dL_law_290 : decode cL_law 290 = .ok (.aload_n 0, 1) := by decide +kernel
theorem dL_law_291 : decode cL_law 291 = .ok (.iload_n 3, 1) := by decide +kernel
theorem dL_law_292 : decode cL_law 292 = .ok (.iconst 1, 1) := by decide +kernel
theorem dL_law_293 : decode cL_law 293 = .ok (.iadd, 1) := by decide +kernel
theorem dL_law_294 : decode cL_law 294 = .ok (.iaload, 1) := by decide +kernel
theorem dL_law_295 : decode cL_law 295 = .ok (.aload_n 0, 1) := by decide +kernel
theorem dL_law_296 : decode cL_law 296 = .ok (.iload_n 3, 1) := by decide +kernel
theorem dL_law_297 : decode cL_law 297 = .ok (.iconst 2, 1) := by decide +kernel
theorem dL_law_298 : decode cL_law 298 = .ok (.iadd, 1) := by decide +kernel
theorem dL_law_299 : decode cL_law 299 = .ok (.iaload, 1) := by decide +kernel
theorem dL_law_300 : decode cL_law 300 = .ok (.invokevirtual 40, 3) := by decide +kernel
theorem dL_law_303 : decode cL_law 303 = .ok (.if_icmp .eq 64, 3) := by decide +kernel
theorem dL_law_308 : decode cL_law 308 = .ok (.aload_n 1, 1) := by decide +kernel
theorem dL_law_309 : decode cL_law 309 = .ok (.invokevirtual 41, 3) := by decide +kernel
theorem dL_law_312 : decode cL_law 312 = .ok (.aload_n 2, 1) := by decide +kernel
theorem dL_law_313 : decode cL_law 313 = .ok (.invokevirtual 45, 3) := by decide +kernel
theorem dL_law_316 : decode cL_law 316 = .ok (.if_icmp .eq 51, 3) := by decide +kernel
theorem dL_law_321 : decode cL_law 321 = .ok (.aload_n 1, 1) := by decide +kernel
theorem dL_law_322 : decode cL_law 322 = .ok (.aload_n 0, 1) := by decide +kernel
theorem dL_law_323 : decode cL_law 323 = .ok (.iload_n 3, 1) := by decide +kernel
theorem dL_law_324 : decode cL_law 324 = .ok (.iconst 1, 1) := by decide +kernel
theorem dL_law_325 : decode cL_law 325 = .ok (.iadd, 1) := by decide +kernel
theorem dL_law_326 : decode cL_law 326 = .ok (.iaload, 1) := by decide +kernel
theorem dL_law_327 : decode cL_law 327 = .ok (.invokevirtual 46, 3) := by decide +kernel
theorem dL_law_330 : decode cL_law 330 = .ok (.aload_n 2, 1) := by decide +kernel
theorem dL_law_331 : decode cL_law 331 = .ok (.aload_n 0, 1) := by decide +kernel
theorem dL_law_332 : decode cL_law 332 = .ok (.iload_n 3, 1) := by decide +kernel
theorem dL_law_333 : decode cL_law 333 = .ok (.iconst 1, 1) := by decide +kernel
theorem dL_law_334 : decode cL_law 334 = .ok (.iadd, 1) := by decide +kernel
theorem dL_law_335 : decode cL_law 335 = .ok (.iaload, 1) := by decide +kernel
theorem dL_law_336 : decode cL_law 336 = .ok (.invokevirtual 49, 3) := by decide +kernel
theorem dL_law_339 : decode cL_law 339 = .ok (.if_icmp .eq 28, 3) := by decide +kernel
theorem dL_law_344 : decode cL_law 344 = .ok (.aload_n 1, 1) := by decide +kernel
theorem dL_law_345 : decode cL_law 345 = .ok (.aload_n 0, 1) := by decide +kernel
theorem dL_law_346 : decode cL_law 346 = .ok (.iload_n 3, 1) := by decide +kernel
theorem dL_law_347 : decode cL_law 347 = .ok (.iconst 1, 1) := by decide +kernel
theorem dL_law_348 : decode cL_law 348 = .ok (.iadd, 1) := by decide +kernel
theorem dL_law_349 : decode cL_law 349 = .ok (.iaload, 1) := by decide +kernel
theorem dL_law_350 : decode cL_law 350 = .ok (.invokevirtual 50, 3) := by decide +kernel
theorem dL_law_353 : decode cL_law 353 = .ok (.aload_n 2, 1) := by decide +kernel
theorem dL_law_354 : decode cL_law 354 = .ok (.aload_n 0, 1) := by decide +kernel
theorem dL_law_355 : decode cL_law 355 = .ok (.iload_n 3, 1) := by decide +kernel
theorem dL_law_356 : decode cL_law 356 = .ok (.iconst 1, 1) := by decide +kernel
theorem dL_law_357 : decode cL_law 357 = .ok (.iadd, 1) := by decide +kernel
theorem dL_law_358 : decode cL_law 358 = .ok (.iaload, 1) := by decide +kernel
theorem dL_law_359 : decode cL_law 359 = .ok (.invokevirtual 53, 3) := by decide +kernel
theorem dL_law_362 : decode cL_law 362 = .ok (.if_icmp .eq 5, 3) := by decide +kernel
theorem dL_law_367 : decode cL_law 367 = .ok (.iinc 3 6, 3) := by decide +kernel
theorem dL_law_370 : decode cL_law 370 = .ok (.goto (-352), 3) := by decide +kernel
theorem dL_law_373 : decode cL_law 373 = .ok (.iconst 1, 1) := by decide +kernel
theorem dL_law_374 : decode cL_law 374 = .ok (.ireturn, 1) := by decide +kernel
abbrev vwCl : List vw_C := [(RX0, TX0, 5), (RX1, TX1, 12), (RX2, TX2, 12), (RX3, TX3, 13), (RX4, TX4, 13), (RX5, TX5, 11), (RX6, TX6, 15), (RX7, TX7, 12), (RX8, TX8, 7), (RX9, TX9, 8), (RX10, TX10, 19), (RX11, TX11, 122)]

theorem dX5_init_15 : decode cX5_init 15 = .ok (.aload_n 3, 1) := by decide +kernel
theorem dX5_init_16 : decode cX5_init 16 = .ok (.putfield 19, 3) := by decide +kernel
theorem dX5_init_19 : decode cX5_init 19 = .ok (.return_, 1) := by decide +kernel
theorem dX5_readProgram_0 : decode cX5_readProgram 0 = .ok (.aload_n 0, 1) := by decide +kernel
theorem dX5_readProgram_1 : decode cX5_readProgram 1 = .ok (.iload_n 1, 1) := by decide +kernel
theorem dX5_readProgram_2 : decode cX5_readProgram 2 = .ok (.invokevirtual 23, 3) := by decide +kernel
theorem dX5_readProgram_5 : decode cX5_readProgram 5 = .ok (.iconst 0, 1) := by decide +kernel
theorem dX5_readProgram_6 : decode cX5_readProgram 6 = .ok (.istore_n 2, 1) := by decide +kernel
theorem dX5_readProgram_7 : decode cX5_readProgram 7 = .ok (.iload_n 2, 1) := by decide +kernel
theorem dX5_readProgram_8 : decode cX5_readProgram 8 = .ok (.bipush 16, 2) := by decide +kernel
theorem dX5_readProgram_10 : decode cX5_readProgram 10 = .ok (.if_icmp .gt 34, 3) := by decide +kernel
theorem dX5_readProgram_13 : decode cX5_readProgram 13 = .ok (.aload_n 0, 1) := by decide +kernel
theorem dX5_readProgram_14 : decode cX5_readProgram 14 = .ok (.getfield 27, 3) := by decide +kernel
theorem dX5_readProgram_17 : decode cX5_readProgram 17 = .ok (.sipush 270, 3) := by decide +kernel
theorem dX5_readProgram_20 : decode cX5_readProgram 20 = .ok (.if_icmp .ne 24, 3) := by decide +kernel
theorem dX5_readProgram_44 : decode cX5_readProgram 44 = .ok (.aload_n 0, 1) := by decide +kernel
theorem dX5_readProgram_45 : decode cX5_readProgram 45 = .ok (.getfield 27, 3) := by decide +kernel
theorem dX5_readProgram_48 : decode cX5_readProgram 48 = .ok (.sipush 260, 3) := by decide +kernel
theorem dX5_readProgram_51 : decode cX5_readProgram 51 = .ok (.if_icmp .eq 8, 3) := by decide +kernel
theorem dX5_readProgram_59 : decode cX5_readProgram 59 = .ok (.return_, 1) := by decide +kernel
theorem dX5_readQuestion_0 : decode cX5_readQuestion 0 = .ok (.aload_n 0, 1) := by decide +kernel
theorem dX5_readQuestion_1 : decode cX5_readQuestion 1 = .ok (.iload_n 1, 1) := by decide +kernel
theorem dX5_readQuestion_2 : decode cX5_readQuestion 2 = .ok (.invokevirtual 23, 3) := by decide +kernel
theorem dX5_readQuestion_5 : decode cX5_readQuestion 5 = .ok (.aload_n 0, 1) := by decide +kernel
theorem dX5_readQuestion_6 : decode cX5_readQuestion 6 = .ok (.invokevirtual 40, 3) := by decide +kernel
theorem dX5_readQuestion_9 : decode cX5_readQuestion 9 = .ok (.aload_n 0, 1) := by decide +kernel
theorem dX5_readQuestion_10 : decode cX5_readQuestion 10 = .ok (.getfield 27, 3) := by decide +kernel
theorem dX5_readQuestion_13 : decode cX5_readQuestion 13 = .ok (.sipush 260, 3) := by decide +kernel
theorem dX5_readQuestion_16 : decode cX5_readQuestion 16 = .ok (.if_icmp .eq 8, 3) := by decide +kernel
theorem dX5_readQuestion_19 : decode cX5_readQuestion 19 = .ok (.aload_n 0, 1) := by decide +kernel
theorem dX5_readQuestion_20 : decode cX5_readQuestion 20 = .ok (.iconst 1, 1) := by decide +kernel
theorem dX5_readQuestion_21 : decode cX5_readQuestion 21 = .ok (.invokevirtual 37, 3) := by decide +kernel
theorem dX5_readQuestion_24 : decode cX5_readQuestion 24 = .ok (.aload_n 0, 1) := by decide +kernel
theorem dX5_readQuestion_25 : decode cX5_readQuestion 25 = .ok (.getfield 15, 3) := by decide +kernel
theorem dX5_readQuestion_28 : decode cX5_readQuestion 28 = .ok (.bipush 13, 2) := by decide +kernel
theorem dX5_readQuestion_30 : decode cX5_readQuestion 30 = .ok (.iload_n 1, 1) := by decide +kernel
theorem dX5_readQuestion_31 : decode cX5_readQuestion 31 = .ok (.invokevirtual 45, 3) := by decide +kernel
theorem dX5_readQuestion_34 : decode cX5_readQuestion 34 = .ok (.pop, 1) := by decide +kernel
theorem dX5_readQuestion_35 : decode cX5_readQuestion 35 = .ok (.return_, 1) := by decide +kernel
theorem dX5_start_0 : decode cX5_start 0 = .ok (.aload_n 0, 1) := by decide +kernel
theorem dX5_start_1 : decode cX5_start 1 = .ok (.iconst 0, 1) := by decide +kernel
theorem dX5_start_2 : decode cX5_start 2 = .ok (.putfield 49, 3) := by decide +kernel
theorem dX5_start_5 : decode cX5_start 5 = .ok (.aload_n 0, 1) := by decide +kernel
theorem dX5_start_6 : decode cX5_start 6 = .ok (.iconst 0, 1) := by decide +kernel
theorem dX5_start_7 : decode cX5_start 7 = .ok (.putfield 52, 3) := by decide +kernel
theorem dX5_start_10 : decode cX5_start 10 = .ok (.aload_n 0, 1) := by decide +kernel
theorem dX5_start_11 : decode cX5_start 11 = .ok (.iconst 0, 1) := by decide +kernel
theorem dX5_start_12 : decode cX5_start 12 = .ok (.putfield 55, 3) := by decide +kernel
theorem dX5_start_15 : decode cX5_start 15 = .ok (.aload_n 0, 1) := by decide +kernel
theorem dX5_start_16 : decode cX5_start 16 = .ok (.iconst (-1), 1) := by decide +kernel
theorem dX5_start_17 : decode cX5_start 17 = .ok (.putfield 58, 3) := by decide +kernel
theorem dX5_start_20 : decode cX5_start 20 = .ok (.aload_n 0, 1) := by decide +kernel
theorem dX5_start_21 : decode cX5_start 21 = .ok (.getfield 9, 3) := by decide +kernel
theorem dX5_start_24 : decode cX5_start 24 = .ok (.iload_n 1, 1) := by decide +kernel
theorem dX5_start_25 : decode cX5_start 25 = .ok (.invokevirtual 61, 3) := by decide +kernel
theorem dX5_start_28 : decode cX5_start 28 = .ok (.aload_n 0, 1) := by decide +kernel
theorem dX5_start_29 : decode cX5_start 29 = .ok (.aload_n 0, 1) := by decide +kernel
theorem dX5_start_30 : decode cX5_start 30 = .ok (.getfield 9, 3) := by decide +kernel
theorem dX5_start_33 : decode cX5_start 33 = .ok (.getfield 64, 3) := by decide +kernel
theorem dX5_start_36 : decode cX5_start 36 = .ok (.iconst 0, 1) := by decide +kernel
theorem dX5_start_37 : decode cX5_start 37 = .ok (.iaload, 1) := by decide +kernel
theorem dX5_start_38 : decode cX5_start 38 = .ok (.putfield 27, 3) := by decide +kernel
theorem dX5_start_41 : decode cX5_start 41 = .ok (.aload_n 0, 1) := by decide +kernel
theorem dX5_start_42 : decode cX5_start 42 = .ok (.aload_n 0, 1) := by decide +kernel
theorem dX5_start_43 : decode cX5_start 43 = .ok (.getfield 9, 3) := by decide +kernel
theorem dX5_start_46 : decode cX5_start 46 = .ok (.getfield 68, 3) := by decide +kernel
theorem dX5_start_49 : decode cX5_start 49 = .ok (.iconst 0, 1) := by decide +kernel
theorem dX5_start_50 : decode cX5_start 50 = .ok (.iaload, 1) := by decide +kernel
theorem dX5_start_51 : decode cX5_start 51 = .ok (.putfield 71, 3) := by decide +kernel
theorem dX5_start_54 : decode cX5_start 54 = .ok (.return_, 1) := by decide +kernel
theorem dX5_fail_0 : decode cX5_fail 0 = .ok (.aload_n 0, 1) := by decide +kernel
theorem dX5_fail_1 : decode cX5_fail 1 = .ok (.getfield 55, 3) := by decide +kernel
theorem dX5_fail_4 : decode cX5_fail 4 = .ok (.ifCond .ne 21, 3) := by decide +kernel
theorem dX5_fail_7 : decode cX5_fail 7 = .ok (.aload_n 0, 1) := by decide +kernel
theorem dX5_fail_8 : decode cX5_fail 8 = .ok (.iload_n 1, 1) := by decide +kernel
theorem dX5_fail_9 : decode cX5_fail 9 = .ok (.putfield 55, 3) := by decide +kernel
theorem dX5_fail_12 : decode cX5_fail 12 = .ok (.aload_n 0, 1) := by decide +kernel
theorem dX5_fail_13 : decode cX5_fail 13 = .ok (.aload_n 0, 1) := by decide +kernel
theorem dX5_fail_14 : decode cX5_fail 14 = .ok (.getfield 71, 3) := by decide +kernel
theorem dX5_fail_17 : decode cX5_fail 17 = .ok (.putfield 58, 3) := by decide +kernel
theorem dX5_fail_20 : decode cX5_fail 20 = .ok (.aload_n 0, 1) := by decide +kernel
theorem dX5_fail_21 : decode cX5_fail 21 = .ok (.iconst (-1), 1) := by decide +kernel
theorem dX5_fail_22 : decode cX5_fail 22 = .ok (.putfield 27, 3) := by decide +kernel
theorem dX5_fail_25 : decode cX5_fail 25 = .ok (.return_, 1) := by decide +kernel
theorem dX5_readE_0 : decode cX5_readE 0 = .ok (.aload_n 0, 1) := by decide +kernel
theorem dX5_readE_1 : decode cX5_readE 1 = .ok (.getfield 27, 3) := by decide +kernel
theorem dX5_readE_4 : decode cX5_readE 4 = .ok (.tableswitch 83 271 278 #[48, 55, 62, 83, 69, 83, 83, 76], 48) := by decide +kernel
theorem dX5_readE_87 : decode cX5_readE 87 = .ok (.aload_n 0, 1) := by decide +kernel
theorem dX5_readE_88 : decode cX5_readE 88 = .ok (.invokevirtual 151, 3) := by decide +kernel
theorem dX5_readE_91 : decode cX5_readE 91 = .ok (.return_, 1) := by decide +kernel
theorem dX5_readC_0 : decode cX5_readC 0 = .ok (.aload_n 0, 1) := by decide +kernel
theorem dX5_readC_1 : decode cX5_readC 1 = .ok (.getfield 15, 3) := by decide +kernel
theorem dX5_readC_4 : decode cX5_readC 4 = .ok (.getfield 154, 3) := by decide +kernel
theorem dX5_readC_7 : decode cX5_readC 7 = .ok (.istore_n 1, 1) := by decide +kernel
theorem dX5_readC_8 : decode cX5_readC 8 = .ok (.iload_n 1, 1) := by decide +kernel
theorem dX5_readC_9 : decode cX5_readC 9 = .ok (.istore_n 2, 1) := by decide +kernel
theorem dX5_readC_10 : decode cX5_readC 10 = .ok (.iload_n 1, 1) := by decide +kernel
theorem dX5_readC_11 : decode cX5_readC 11 = .ok (.istore_n 3, 1) := by decide +kernel
theorem dX5_readC_12 : decode cX5_readC 12 = .ok (.iconst (-1), 1) := by decide +kernel
theorem dX5_readC_13 : decode cX5_readC 13 = .ok (.istore 4, 2) := by decide +kernel
theorem dX5_readC_15 : decode cX5_readC 15 = .ok (.iconst (-1), 1) := by decide +kernel
theorem dX5_readC_16 : decode cX5_readC 16 = .ok (.istore 5, 2) := by decide +kernel
theorem dX5_readC_18 : decode cX5_readC 18 = .ok (.iconst (-1), 1) := by decide +kernel
theorem dX5_readC_19 : decode cX5_readC 19 = .ok (.istore 6, 2) := by decide +kernel
theorem dX5_readC_21 : decode cX5_readC 21 = .ok (.iconst (-1), 1) := by decide +kernel
theorem dX5_readC_22 : decode cX5_readC 22 = .ok (.istore 7, 2) := by decide +kernel
theorem dX5_readC_24 : decode cX5_readC 24 = .ok (.iconst (-1), 1) := by decide +kernel
theorem dX5_readC_25 : decode cX5_readC 25 = .ok (.istore 8, 2) := by decide +kernel
theorem dX5_readC_27 : decode cX5_readC 27 = .ok (.iconst (-1), 1) := by decide +kernel
theorem dX5_readC_28 : decode cX5_readC 28 = .ok (.istore 9, 2) := by decide +kernel
theorem dX5_readC_30 : decode cX5_readC 30 = .ok (.iconst 1, 1) := by decide +kernel
theorem dX5_readC_31 : decode cX5_readC 31 = .ok (.istore 10, 2) := by decide +kernel
theorem dX5_readC_33 : decode cX5_readC 33 = .ok (.iconst 0, 1) := by decide +kernel
theorem dX5_readC_34 : decode cX5_readC 34 = .ok (.istore 11, 2) := by decide +kernel
theorem dX5_readC_36 : decode cX5_readC 36 = .ok (.iload 11, 2) := by decide +kernel
theorem dX5_readC_38 : decode cX5_readC 38 = .ok (.sipush 800, 3) := by decide +kernel
theorem dX5_readC_41 : decode cX5_readC 41 = .ok (.if_icmp .gt 191, 3) := by decide +kernel
theorem dX5_readC_44 : decode cX5_readC 44 = .ok (.iload 10, 2) := by decide +kernel
theorem dX5_readC_46 : decode cX5_readC 46 = .ok (.ifCond .eq 186, 3) := by decide +kernel
theorem dX5_readC_49 : decode cX5_readC 49 = .ok (.aload_n 0, 1) := by decide +kernel
theorem dX5_readC_50 : decode cX5_readC 50 = .ok (.invokevirtual 164, 3) := by decide +kernel
theorem dX5_readC_53 : decode cX5_readC 53 = .ok (.aload_n 0, 1) := by decide +kernel
theorem dX5_readC_54 : decode cX5_readC 54 = .ok (.iload 8, 2) := by decide +kernel
theorem dX5_readC_56 : decode cX5_readC 56 = .ok (.iload 9, 2) := by decide +kernel
theorem dX5_readC_58 : decode cX5_readC 58 = .ok (.iload_n 3, 1) := by decide +kernel
theorem dX5_readC_59 : decode cX5_readC 59 = .ok (.invokevirtual 167, 3) := by decide +kernel
theorem dX5_readC_62 : decode cX5_readC 62 = .ok (.iconst (-1), 1) := by decide +kernel
theorem dX5_readC_63 : decode cX5_readC 63 = .ok (.istore 8, 2) := by decide +kernel
theorem dX5_readC_65 : decode cX5_readC 65 = .ok (.aload_n 0, 1) := by decide +kernel
theorem dX5_readC_66 : decode cX5_readC 66 = .ok (.getfield 27, 3) := by decide +kernel
theorem dX5_readC_69 : decode cX5_readC 69 = .ok (.istore 12, 2) := by decide +kernel
theorem dX5_readC_71 : decode cX5_readC 71 = .ok (.aload_n 0, 1) := by decide +kernel
theorem dX5_readC_72 : decode cX5_readC 72 = .ok (.getfield 71, 3) := by decide +kernel
theorem dX5_readC_75 : decode cX5_readC 75 = .ok (.istore 13, 2) := by decide +kernel
theorem dX5_readC_77 : decode cX5_readC 77 = .ok (.iload 12, 2) := by decide +kernel
theorem dX5_readC_79 : decode cX5_readC 79 = .ok (.bipush 42, 2) := by decide +kernel
theorem dX5_readC_81 : decode cX5_readC 81 = .ok (.if_icmp .eq 17, 3) := by decide +kernel
theorem dX5_readC_84 : decode cX5_readC 84 = .ok (.iload 12, 2) := by decide +kernel
theorem dX5_readC_86 : decode cX5_readC 86 = .ok (.bipush 47, 2) := by decide +kernel
theorem dX5_readC_88 : decode cX5_readC 88 = .ok (.if_icmp .eq 10, 3) := by decide +kernel
theorem dX5_readC_91 : decode cX5_readC 91 = .ok (.iload 12, 2) := by decide +kernel
theorem dX5_readC_93 : decode cX5_readC 93 = .ok (.bipush 37, 2) := by decide +kernel
theorem dX5_readC_95 : decode cX5_readC 95 = .ok (.if_icmp .ne 18, 3) := by decide +kernel
theorem dX5_readC_113 : decode cX5_readC 113 = .ok (.aload_n 0, 1) := by decide +kernel
theorem dX5_readC_114 : decode cX5_readC 114 = .ok (.iload 6, 2) := by decide +kernel
theorem dX5_readC_116 : decode cX5_readC 116 = .ok (.iload 7, 2) := by decide +kernel
theorem dX5_readC_118 : decode cX5_readC 118 = .ok (.iload_n 2, 1) := by decide +kernel
theorem dX5_readC_119 : decode cX5_readC 119 = .ok (.invokevirtual 167, 3) := by decide +kernel
theorem dX5_readC_122 : decode cX5_readC 122 = .ok (.iconst (-1), 1) := by decide +kernel
theorem dX5_readC_123 : decode cX5_readC 123 = .ok (.istore 6, 2) := by decide +kernel
theorem dX5_readC_125 : decode cX5_readC 125 = .ok (.iload 12, 2) := by decide +kernel
theorem dX5_readC_127 : decode cX5_readC 127 = .ok (.bipush 43, 2) := by decide +kernel
theorem dX5_readC_129 : decode cX5_readC 129 = .ok (.if_icmp .eq 10, 3) := by decide +kernel
theorem dX5_readC_132 : decode cX5_readC 132 = .ok (.iload 12, 2) := by decide +kernel
theorem dX5_readC_134 : decode cX5_readC 134 = .ok (.bipush 45, 2) := by decide +kernel
theorem dX5_readC_136 : decode cX5_readC 136 = .ok (.if_icmp .ne 26, 3) := by decide +kernel
theorem dX5_readC_162 : decode cX5_readC 162 = .ok (.aload_n 0, 1) := by decide +kernel
theorem dX5_readC_163 : decode cX5_readC 163 = .ok (.iload 4, 2) := by decide +kernel
theorem dX5_readC_165 : decode cX5_readC 165 = .ok (.iload 5, 2) := by decide +kernel
theorem dX5_readC_167 : decode cX5_readC 167 = .ok (.iload_n 1, 1) := by decide +kernel
theorem dX5_readC_168 : decode cX5_readC 168 = .ok (.invokevirtual 167, 3) := by decide +kernel
theorem dX5_readC_171 : decode cX5_readC 171 = .ok (.iload 4, 2) := by decide +kernel
theorem dX5_readC_173 : decode cX5_readC 173 = .ok (.iconst (-1), 1) := by decide +kernel
theorem dX5_readC_174 : decode cX5_readC 174 = .ok (.if_icmp .ne 22, 3) := by decide +kernel
theorem dX5_readC_177 : decode cX5_readC 177 = .ok (.iload 12, 2) := by decide +kernel
theorem dX5_readC_179 : decode cX5_readC 179 = .ok (.sipush 256, 3) := by decide +kernel
theorem dX5_readC_182 : decode cX5_readC 182 = .ok (.if_icmp .eq 10, 3) := by decide +kernel
theorem dX5_readC_185 : decode cX5_readC 185 = .ok (.iload 12, 2) := by decide +kernel
theorem dX5_readC_187 : decode cX5_readC 187 = .ok (.bipush 60, 2) := by decide +kernel
theorem dX5_readC_189 : decode cX5_readC 189 = .ok (.if_icmp .ne 7, 3) := by decide +kernel
theorem dX5_readC_196 : decode cX5_readC 196 = .ok (.iconst 0, 1) := by decide +kernel
theorem dX5_readC_197 : decode cX5_readC 197 = .ok (.istore 10, 2) := by decide +kernel
theorem dX5_readC_199 : decode cX5_readC 199 = .ok (.iload 10, 2) := by decide +kernel
theorem dX5_readC_201 : decode cX5_readC 201 = .ok (.ifCond .eq 25, 3) := by decide +kernel
theorem dX5_readC_226 : decode cX5_readC 226 = .ok (.iinc 11 1, 3) := by decide +kernel
theorem dX5_readC_229 : decode cX5_readC 229 = .ok (.goto (-193), 3) := by decide +kernel
theorem dX5_readC_232 : decode cX5_readC 232 = .ok (.return_, 1) := by decide +kernel
theorem dX5_joinSign_0 : decode cX5_joinSign 0 = .ok (.iload_n 1, 1) := by decide +kernel
theorem dX5_joinSign_1 : decode cX5_joinSign 1 = .ok (.iconst (-1), 1) := by decide +kernel
theorem dX5_joinSign_2 : decode cX5_joinSign 2 = .ok (.if_icmp .eq 26, 3) := by decide +kernel
theorem dX5_joinSign_28 : decode cX5_joinSign 28 = .ok (.return_, 1) := by decide +kernel
theorem dX5_readA_0 : decode cX5_readA 0 = .ok (.aload_n 0, 1) := by decide +kernel
theorem dX5_readA_1 : decode cX5_readA 1 = .ok (.getfield 15, 3) := by decide +kernel
theorem dX5_readA_4 : decode cX5_readA 4 = .ok (.getfield 154, 3) := by decide +kernel
theorem dX5_readA_7 : decode cX5_readA 7 = .ok (.istore_n 1, 1) := by decide +kernel
theorem dX5_readA_8 : decode cX5_readA 8 = .ok (.aload_n 0, 1) := by decide +kernel
theorem dX5_readA_9 : decode cX5_readA 9 = .ok (.invokevirtual 171, 3) := by decide +kernel
theorem dX5_readA_12 : decode cX5_readA 12 = .ok (.iconst 0, 1) := by decide +kernel
theorem dX5_readA_13 : decode cX5_readA 13 = .ok (.istore_n 2, 1) := by decide +kernel
theorem dX5_readA_14 : decode cX5_readA 14 = .ok (.iload_n 2, 1) := by decide +kernel
theorem dX5_readA_15 : decode cX5_readA 15 = .ok (.sipush 800, 3) := by decide +kernel
theorem dX5_readA_18 : decode cX5_readA 18 = .ok (.if_icmp .gt 37, 3) := by decide +kernel
theorem dX5_readA_21 : decode cX5_readA 21 = .ok (.aload_n 0, 1) := by decide +kernel
theorem dX5_readA_22 : decode cX5_readA 22 = .ok (.invokevirtual 174, 3) := by decide +kernel
theorem dX5_readA_25 : decode cX5_readA 25 = .ok (.ifCond .eq 30, 3) := by decide +kernel
theorem dX5_readA_55 : decode cX5_readA 55 = .ok (.return_, 1) := by decide +kernel
theorem dX5_beginsU_0 : decode cX5_beginsU 0 = .ok (.aload_n 0, 1) := by decide +kernel
theorem dX5_beginsU_1 : decode cX5_beginsU 1 = .ok (.getfield 27, 3) := by decide +kernel
theorem dX5_beginsU_4 : decode cX5_beginsU 4 = .ok (.lookupswitch 102 #[(40, 100), (123, 100), (126, 100), (258, 100), (259, 100), (279, 100), (280, 100), (281, 100), (282, 100), (283, 100), (284, 100)], 100) := by decide +kernel
theorem dX5_beginsU_106 : decode cX5_beginsU 106 = .ok (.iconst 0, 1) := by decide +kernel
theorem dX5_beginsU_107 : decode cX5_beginsU 107 = .ok (.ireturn, 1) := by decide +kernel
theorem dX5_readU_0 : decode cX5_readU 0 = .ok (.aload_n 0, 1) := by decide +kernel
theorem dX5_readU_1 : decode cX5_readU 1 = .ok (.getfield 27, 3) := by decide +kernel
theorem dX5_readU_4 : decode cX5_readU 4 = .ok (.lookupswitch 209 #[(40, 152), (123, 159), (126, 166), (258, 138), (259, 100), (279, 173), (280, 182), (281, 191), (282, 200), (283, 120), (284, 129)], 100) := by decide +kernel
theorem dX5_readU_213 : decode cX5_readU 213 = .ok (.aload_n 0, 1) := by decide +kernel
theorem dX5_readU_214 : decode cX5_readU 214 = .ok (.iconst 1, 1) := by decide +kernel
theorem dX5_readU_215 : decode cX5_readU 215 = .ok (.invokevirtual 37, 3) := by decide +kernel
theorem dX5_readU_218 : decode cX5_readU 218 = .ok (.return_, 1) := by decide +kernel
theorem dX6_init_0 : decode cX6_init 0 = .ok (.aload_n 0, 1) := by decide +kernel
theorem dX6_init_1 : decode cX6_init 1 = .ok (.invokespecial 3, 3) := by decide +kernel
theorem dX6_init_4 : decode cX6_init 4 = .ok (.aload_n 0, 1) := by decide +kernel
theorem dX6_init_5 : decode cX6_init 5 = .ok (.sipush 512, 3) := by decide +kernel
theorem dX6_init_8 : decode cX6_init 8 = .ok (.newarray .int, 2) := by decide +kernel
theorem dX6_init_10 : decode cX6_init 10 = .ok (.putfield 11, 3) := by decide +kernel
theorem dX6_init_13 : decode cX6_init 13 = .ok (.aload_n 0, 1) := by decide +kernel
theorem dX6_init_14 : decode cX6_init 14 = .ok (.sipush 512, 3) := by decide +kernel
theorem dX6_init_17 : decode cX6_init 17 = .ok (.newarray .int, 2) := by decide +kernel
theorem dX6_init_19 : decode cX6_init 19 = .ok (.putfield 15, 3) := by decide +kernel
theorem dX6_init_22 : decode cX6_init 22 = .ok (.aload_n 0, 1) := by decide +kernel
theorem dX6_init_23 : decode cX6_init 23 = .ok (.sipush 2918, 3) := by decide +kernel
theorem dX6_init_26 : decode cX6_init 26 = .ok (.newarray .int, 2) := by decide +kernel
theorem dX6_init_28 : decode cX6_init 28 = .ok (.putfield 18, 3) := by decide +kernel
theorem dX6_init_31 : decode cX6_init 31 = .ok (.aload_n 0, 1) := by decide +kernel
theorem dX6_init_32 : decode cX6_init 32 = .ok (.sipush 2918, 3) := by decide +kernel
theorem dX6_init_35 : decode cX6_init 35 = .ok (.newarray .int, 2) := by decide +kernel
theorem dX6_init_37 : decode cX6_init 37 = .ok (.putfield 21, 3) := by decide +kernel
theorem dX6_init_40 : decode cX6_init 40 = .ok (.aload_n 0, 1) := by decide +kernel
theorem dX6_init_41 : decode cX6_init 41 = .ok (.sipush 2918, 3) := by decide +kernel
theorem dX6_init_44 : decode cX6_init 44 = .ok (.newarray .int, 2) := by decide +kernel
theorem dX6_init_46 : decode cX6_init 46 = .ok (.putfield 24, 3) := by decide +kernel
theorem dX6_init_49 : decode cX6_init 49 = .ok (.aload_n 0, 1) := by decide +kernel
theorem dX6_init_50 : decode cX6_init 50 = .ok (.sipush 2918, 3) := by decide +kernel
theorem dX6_init_53 : decode cX6_init 53 = .ok (.newarray .int, 2) := by decide +kernel
theorem dX6_init_55 : decode cX6_init 55 = .ok (.putfield 27, 3) := by decide +kernel
theorem dX6_init_58 : decode cX6_init 58 = .ok (.aload_n 0, 1) := by decide +kernel
theorem dX6_init_59 : decode cX6_init 59 = .ok (.sipush 510, 3) := by decide +kernel
theorem dX6_init_62 : decode cX6_init 62 = .ok (.newarray .int, 2) := by decide +kernel
theorem dX6_init_64 : decode cX6_init 64 = .ok (.putfield 30, 3) := by decide +kernel
theorem dX6_init_67 : decode cX6_init 67 = .ok (.aload_n 0, 1) := by decide +kernel
theorem dX6_init_68 : decode cX6_init 68 = .ok (.sipush 510, 3) := by decide +kernel
theorem dX6_init_71 : decode cX6_init 71 = .ok (.newarray .int, 2) := by decide +kernel
theorem dX6_init_73 : decode cX6_init 73 = .ok (.putfield 33, 3) := by decide +kernel
theorem dX6_init_76 : decode cX6_init 76 = .ok (.aload_n 0, 1) := by decide +kernel
theorem dX6_init_77 : decode cX6_init 77 = .ok (.sipush 510, 3) := by decide +kernel
theorem dX6_init_80 : decode cX6_init 80 = .ok (.newarray .int, 2) := by decide +kernel
theorem dX6_init_82 : decode cX6_init 82 = .ok (.putfield 36, 3) := by decide +kernel
theorem dX6_init_85 : decode cX6_init 85 = .ok (.aload_n 0, 1) := by decide +kernel
theorem dX6_init_86 : decode cX6_init 86 = .ok (.sipush 510, 3) := by decide +kernel
theorem dX6_init_89 : decode cX6_init 89 = .ok (.newarray .int, 2) := by decide +kernel
theorem dX6_init_91 : decode cX6_init 91 = .ok (.putfield 39, 3) := by decide +kernel
theorem dX6_init_94 : decode cX6_init 94 = .ok (.return_, 1) := by decide +kernel
theorem dX7_init_0 : decode cX7_init 0 = .ok (.aload_n 0, 1) := by decide +kernel
theorem dX7_init_1 : decode cX7_init 1 = .ok (.invokespecial 3, 3) := by decide +kernel
theorem dX7_init_4 : decode cX7_init 4 = .ok (.aload_n 0, 1) := by decide +kernel
theorem dX7_init_5 : decode cX7_init 5 = .ok (.sipush 512, 3) := by decide +kernel
theorem dX7_init_8 : decode cX7_init 8 = .ok (.newarray .int, 2) := by decide +kernel
theorem dX7_init_10 : decode cX7_init 10 = .ok (.putfield 11, 3) := by decide +kernel
theorem dX7_init_13 : decode cX7_init 13 = .ok (.aload_n 0, 1) := by decide +kernel
theorem dX7_init_14 : decode cX7_init 14 = .ok (.sipush 512, 3) := by decide +kernel
theorem dX7_init_17 : decode cX7_init 17 = .ok (.newarray .long, 2) := by decide +kernel
theorem dX7_init_19 : decode cX7_init 19 = .ok (.putfield 15, 3) := by decide +kernel
theorem dX7_init_22 : decode cX7_init 22 = .ok (.aload_n 0, 1) := by decide +kernel
theorem dX7_init_23 : decode cX7_init 23 = .ok (.sipush 512, 3) := by decide +kernel
theorem dX7_init_26 : decode cX7_init 26 = .ok (.newarray .int, 2) := by decide +kernel
theorem dX7_init_28 : decode cX7_init 28 = .ok (.putfield 19, 3) := by decide +kernel
theorem dX7_init_31 : decode cX7_init 31 = .ok (.aload_n 0, 1) := by decide +kernel
theorem dX7_init_32 : decode cX7_init 32 = .ok (.sipush 512, 3) := by decide +kernel
theorem dX7_init_35 : decode cX7_init 35 = .ok (.newarray .int, 2) := by decide +kernel
theorem dX7_init_37 : decode cX7_init 37 = .ok (.putfield 22, 3) := by decide +kernel
theorem dX7_init_40 : decode cX7_init 40 = .ok (.aload_n 0, 1) := by decide +kernel
theorem dX7_init_41 : decode cX7_init 41 = .ok (.sipush 512, 3) := by decide +kernel
theorem dX7_init_44 : decode cX7_init 44 = .ok (.newarray .int, 2) := by decide +kernel
theorem dX7_init_46 : decode cX7_init 46 = .ok (.putfield 25, 3) := by decide +kernel
theorem dX7_init_49 : decode cX7_init 49 = .ok (.aload_n 0, 1) := by decide +kernel
theorem dX7_init_50 : decode cX7_init 50 = .ok (.aload_n 1, 1) := by decide +kernel
theorem dX7_init_51 : decode cX7_init 51 = .ok (.putfield 28, 3) := by decide +kernel
theorem dX7_init_54 : decode cX7_init 54 = .ok (.aload_n 0, 1) := by decide +kernel
theorem dX7_init_55 : decode cX7_init 55 = .ok (.aload_n 2, 1) := by decide +kernel
theorem dX7_init_56 : decode cX7_init 56 = .ok (.putfield 32, 3) := by decide +kernel
theorem dX7_init_59 : decode cX7_init 59 = .ok (.return_, 1) := by decide +kernel
theorem dX7_check_0 : decode cX7_check 0 = .ok (.aload_n 0, 1) := by decide +kernel
theorem dX7_check_1 : decode cX7_check 1 = .ok (.iconst 0, 1) := by decide +kernel
theorem dX7_check_2 : decode cX7_check 2 = .ok (.putfield 36, 3) := by decide +kernel
theorem dX7_check_5 : decode cX7_check 5 = .ok (.aload_n 0, 1) := by decide +kernel
theorem dX7_check_6 : decode cX7_check 6 = .ok (.iconst 0, 1) := by decide +kernel
theorem dX7_check_7 : decode cX7_check 7 = .ok (.putfield 40, 3) := by decide +kernel
theorem dX7_check_10 : decode cX7_check 10 = .ok (.aload_n 0, 1) := by decide +kernel
theorem dX7_check_11 : decode cX7_check 11 = .ok (.iconst 0, 1) := by decide +kernel
theorem dX7_check_12 : decode cX7_check 12 = .ok (.putfield 43, 3) := by decide +kernel
theorem dX7_check_15 : decode cX7_check 15 = .ok (.aload_n 0, 1) := by decide +kernel
theorem dX7_check_16 : decode cX7_check 16 = .ok (.iconst 0, 1) := by decide +kernel
theorem dX7_check_17 : decode cX7_check 17 = .ok (.putfield 46, 3) := by decide +kernel
theorem dX7_check_20 : decode cX7_check 20 = .ok (.aload_n 0, 1) := by decide +kernel
theorem dX7_check_21 : decode cX7_check 21 = .ok (.iconst (-1), 1) := by decide +kernel
theorem dX7_check_22 : decode cX7_check 22 = .ok (.putfield 49, 3) := by decide +kernel
theorem dX7_check_25 : decode cX7_check 25 = .ok (.iload_n 1, 1) := by decide +kernel
theorem dX7_check_26 : decode cX7_check 26 = .ok (.istore_n 3, 1) := by decide +kernel
theorem dX7_check_27 : decode cX7_check 27 = .ok (.iload_n 3, 1) := by decide +kernel
theorem dX7_check_28 : decode cX7_check 28 = .ok (.iload_n 2, 1) := by decide +kernel
theorem dX7_check_29 : decode cX7_check 29 = .ok (.if_icmp .ge 66, 3) := by decide +kernel
theorem dX7_check_95 : decode cX7_check 95 = .ok (.return_, 1) := by decide +kernel
theorem dX8_init_0 : decode cX8_init 0 = .ok (.aload_n 0, 1) := by decide +kernel
theorem dX8_init_1 : decode cX8_init 1 = .ok (.invokespecial 5, 3) := by decide +kernel
theorem dX8_init_4 : decode cX8_init 4 = .ok (.aload_n 0, 1) := by decide +kernel
theorem dX8_init_5 : decode cX8_init 5 = .ok (.sipush 3602, 3) := by decide +kernel
theorem dX8_init_8 : decode cX8_init 8 = .ok (.newarray .int, 2) := by decide +kernel
theorem dX8_init_10 : decode cX8_init 10 = .ok (.putfield 11, 3) := by decide +kernel
theorem dX8_init_13 : decode cX8_init 13 = .ok (.aload_n 0, 1) := by decide +kernel
theorem dX8_init_14 : decode cX8_init 14 = .ok (.sipush 3602, 3) := by decide +kernel
theorem dX8_init_17 : decode cX8_init 17 = .ok (.newarray .int, 2) := by decide +kernel
theorem dX8_init_19 : decode cX8_init 19 = .ok (.putfield 15, 3) := by decide +kernel
theorem dX8_init_22 : decode cX8_init 22 = .ok (.aload_n 0, 1) := by decide +kernel
theorem dX8_init_23 : decode cX8_init 23 = .ok (.sipush 3602, 3) := by decide +kernel
theorem dX8_init_26 : decode cX8_init 26 = .ok (.newarray .int, 2) := by decide +kernel
theorem dX8_init_28 : decode cX8_init 28 = .ok (.putfield 18, 3) := by decide +kernel
theorem dX8_init_31 : decode cX8_init 31 = .ok (.aload_n 0, 1) := by decide +kernel
theorem dX8_init_32 : decode cX8_init 32 = .ok (.sipush 3602, 3) := by decide +kernel
theorem dX8_init_35 : decode cX8_init 35 = .ok (.newarray .int, 2) := by decide +kernel
theorem dX8_init_37 : decode cX8_init 37 = .ok (.putfield 21, 3) := by decide +kernel
theorem dX8_init_40 : decode cX8_init 40 = .ok (.aload_n 0, 1) := by decide +kernel
theorem dX8_init_41 : decode cX8_init 41 = .ok (.sipush 3602, 3) := by decide +kernel
theorem dX8_init_44 : decode cX8_init 44 = .ok (.newarray .boolean, 2) := by decide +kernel
theorem dX8_init_46 : decode cX8_init 46 = .ok (.putfield 24, 3) := by decide +kernel
theorem dX8_init_49 : decode cX8_init 49 = .ok (.aload_n 0, 1) := by decide +kernel
theorem dX8_init_50 : decode cX8_init 50 = .ok (.iconst 2, 1) := by decide +kernel
theorem dX8_init_51 : decode cX8_init 51 = .ok (.putfield 28, 3) := by decide +kernel
theorem dX8_init_54 : decode cX8_init 54 = .ok (.aload_n 0, 1) := by decide +kernel
theorem dX8_init_55 : decode cX8_init 55 = .ok (.sipush 1802, 3) := by decide +kernel
theorem dX8_init_58 : decode cX8_init 58 = .ok (.putfield 32, 3) := by decide +kernel
theorem dX8_init_61 : decode cX8_init 61 = .ok (.aload_n 0, 1) := by decide +kernel
theorem dX8_init_62 : decode cX8_init 62 = .ok (.getfield 11, 3) := by decide +kernel
theorem dX8_init_65 : decode cX8_init 65 = .ok (.iconst 1, 1) := by decide +kernel
theorem dX8_init_66 : decode cX8_init 66 = .ok (.iconst 1, 1) := by decide +kernel
theorem dX8_init_67 : decode cX8_init 67 = .ok (.iastore, 1) := by decide +kernel
theorem dX8_init_68 : decode cX8_init 68 = .ok (.aload_n 0, 1) := by decide +kernel
theorem dX8_init_69 : decode cX8_init 69 = .ok (.getfield 21, 3) := by decide +kernel
theorem dX8_init_72 : decode cX8_init 72 = .ok (.iconst 0, 1) := by decide +kernel
theorem dX8_init_73 : decode cX8_init 73 = .ok (.iconst 1, 1) := by decide +kernel
theorem dX8_init_74 : decode cX8_init 74 = .ok (.iastore, 1) := by decide +kernel
theorem dX8_init_75 : decode cX8_init 75 = .ok (.aload_n 0, 1) := by decide +kernel
theorem dX8_init_76 : decode cX8_init 76 = .ok (.getfield 21, 3) := by decide +kernel
theorem dX8_init_79 : decode cX8_init 79 = .ok (.iconst 1, 1) := by decide +kernel
theorem dX8_init_80 : decode cX8_init 80 = .ok (.iconst 1, 1) := by decide +kernel
theorem dX8_init_81 : decode cX8_init 81 = .ok (.iastore, 1) := by decide +kernel
theorem dX8_init_82 : decode cX8_init 82 = .ok (.aload_n 0, 1) := by decide +kernel
theorem dX8_init_83 : decode cX8_init 83 = .ok (.getfield 24, 3) := by decide +kernel
theorem dX8_init_86 : decode cX8_init 86 = .ok (.iconst 0, 1) := by decide +kernel
theorem dX8_init_87 : decode cX8_init 87 = .ok (.iconst 1, 1) := by decide +kernel
theorem dX8_init_88 : decode cX8_init 88 = .ok (.bastore, 1) := by decide +kernel
theorem dX8_init_89 : decode cX8_init 89 = .ok (.aload_n 0, 1) := by decide +kernel
theorem dX8_init_90 : decode cX8_init 90 = .ok (.getfield 24, 3) := by decide +kernel
theorem dX8_init_93 : decode cX8_init 93 = .ok (.iconst 1, 1) := by decide +kernel
theorem dX8_init_94 : decode cX8_init 94 = .ok (.iconst 1, 1) := by decide +kernel
theorem dX8_init_95 : decode cX8_init 95 = .ok (.bastore, 1) := by decide +kernel
theorem dX8_init_96 : decode cX8_init 96 = .ok (.return_, 1) := by decide +kernel
theorem dX8_startHalf_0 : decode cX8_startHalf 0 = .ok (.aload_n 0, 1) := by decide +kernel
theorem dX8_startHalf_1 : decode cX8_startHalf 1 = .ok (.iload_n 1, 1) := by decide +kernel
theorem dX8_startHalf_2 : decode cX8_startHalf 2 = .ok (.ifCond .ne 7, 3) := by decide +kernel
theorem dX8_startHalf_9 : decode cX8_startHalf 9 = .ok (.sipush 1802, 3) := by decide +kernel
theorem dX8_startHalf_12 : decode cX8_startHalf 12 = .ok (.putfield 28, 3) := by decide +kernel
theorem dX8_startHalf_15 : decode cX8_startHalf 15 = .ok (.aload_n 0, 1) := by decide +kernel
theorem dX8_startHalf_16 : decode cX8_startHalf 16 = .ok (.aload_n 0, 1) := by decide +kernel
theorem dX8_startHalf_17 : decode cX8_startHalf 17 = .ok (.getfield 28, 3) := by decide +kernel
theorem dX8_startHalf_20 : decode cX8_startHalf 20 = .ok (.sipush 1800, 3) := by decide +kernel
theorem dX8_startHalf_23 : decode cX8_startHalf 23 = .ok (.iadd, 1) := by decide +kernel
theorem dX8_startHalf_24 : decode cX8_startHalf 24 = .ok (.putfield 32, 3) := by decide +kernel
theorem dX8_startHalf_27 : decode cX8_startHalf 27 = .ok (.return_, 1) := by decide +kernel
theorem dX9_init_0 : decode cX9_init 0 = .ok (.aload_n 0, 1) := by decide +kernel
theorem dX9_init_1 : decode cX9_init 1 = .ok (.invokespecial 3, 3) := by decide +kernel
theorem dX9_init_4 : decode cX9_init 4 = .ok (.aload_n 0, 1) := by decide +kernel
theorem dX9_init_5 : decode cX9_init 5 = .ok (.iload_n 1, 1) := by decide +kernel
theorem dX9_init_6 : decode cX9_init 6 = .ok (.newarray .byte, 2) := by decide +kernel
theorem dX9_init_8 : decode cX9_init 8 = .ok (.putfield 9, 3) := by decide +kernel
theorem dX9_init_11 : decode cX9_init 11 = .ok (.aload_n 0, 1) := by decide +kernel
theorem dX9_init_12 : decode cX9_init 12 = .ok (.aload_n 2, 1) := by decide +kernel
theorem dX9_init_13 : decode cX9_init 13 = .ok (.putfield 15, 3) := by decide +kernel
theorem dX9_init_16 : decode cX9_init 16 = .ok (.aload_n 0, 1) := by decide +kernel
theorem dX9_init_17 : decode cX9_init 17 = .ok (.aload_n 3, 1) := by decide +kernel
theorem dX9_init_18 : decode cX9_init 18 = .ok (.putfield 19, 3) := by decide +kernel
theorem dX9_init_21 : decode cX9_init 21 = .ok (.aload_n 0, 1) := by decide +kernel
theorem dX9_init_22 : decode cX9_init 22 = .ok (.aload 4, 2) := by decide +kernel
theorem dX9_init_24 : decode cX9_init 24 = .ok (.putfield 23, 3) := by decide +kernel
theorem dX9_init_27 : decode cX9_init 27 = .ok (.aload_n 0, 1) := by decide +kernel
theorem dX9_init_28 : decode cX9_init 28 = .ok (.aload 5, 2) := by decide +kernel
theorem dX9_init_30 : decode cX9_init 30 = .ok (.putfield 27, 3) := by decide +kernel
theorem dX9_init_33 : decode cX9_init 33 = .ok (.return_, 1) := by decide +kernel
theorem dX10_init_0 : decode cX10_init 0 = .ok (.aload_n 0, 1) := by decide +kernel
theorem dX10_init_1 : decode cX10_init 1 = .ok (.invokespecial 1, 3) := by decide +kernel
theorem dX10_init_4 : decode cX10_init 4 = .ok (.aload_n 0, 1) := by decide +kernel
theorem dX10_init_5 : decode cX10_init 5 = .ok (.sipush 3000, 3) := by decide +kernel
theorem dX10_init_8 : decode cX10_init 8 = .ok (.newarray .byte, 2) := by decide +kernel
theorem dX10_init_10 : decode cX10_init 10 = .ok (.putfield 9, 3) := by decide +kernel
theorem dX10_init_13 : decode cX10_init 13 = .ok (.aload_n 0, 1) := by decide +kernel
theorem dX10_init_14 : decode cX10_init 14 = .ok (.new 13, 3) := by decide +kernel
theorem dX10_init_17 : decode cX10_init 17 = .ok (.dup, 1) := by decide +kernel
theorem dX10_init_18 : decode cX10_init 18 = .ok (.invokespecial 15, 3) := by decide +kernel
theorem dX10_init_21 : decode cX10_init 21 = .ok (.putfield 16, 3) := by decide +kernel
theorem dX10_init_24 : decode cX10_init 24 = .ok (.aload_n 0, 1) := by decide +kernel
theorem dX10_init_25 : decode cX10_init 25 = .ok (.new 20, 3) := by decide +kernel
theorem dX10_init_28 : decode cX10_init 28 = .ok (.dup, 1) := by decide +kernel
theorem dX10_init_29 : decode cX10_init 29 = .ok (.invokespecial 22, 3) := by decide +kernel
theorem dX10_init_32 : decode cX10_init 32 = .ok (.putfield 23, 3) := by decide +kernel
theorem dX10_init_35 : decode cX10_init 35 = .ok (.aload_n 0, 1) := by decide +kernel
theorem dX10_init_36 : decode cX10_init 36 = .ok (.new 27, 3) := by decide +kernel
theorem dX10_init_39 : decode cX10_init 39 = .ok (.dup, 1) := by decide +kernel
theorem dX10_init_40 : decode cX10_init 40 = .ok (.invokespecial 29, 3) := by decide +kernel
theorem dX10_init_43 : decode cX10_init 43 = .ok (.putfield 30, 3) := by decide +kernel
theorem dX10_init_46 : decode cX10_init 46 = .ok (.aload_n 0, 1) := by decide +kernel
theorem dX10_init_47 : decode cX10_init 47 = .ok (.new 34, 3) := by decide +kernel
theorem dX10_init_50 : decode cX10_init 50 = .ok (.dup, 1) := by decide +kernel
theorem dX10_init_51 : decode cX10_init 51 = .ok (.invokespecial 36, 3) := by decide +kernel
theorem dX10_init_54 : decode cX10_init 54 = .ok (.putfield 37, 3) := by decide +kernel
theorem dX10_init_57 : decode cX10_init 57 = .ok (.aload_n 0, 1) := by decide +kernel
theorem dX10_init_58 : decode cX10_init 58 = .ok (.new 41, 3) := by decide +kernel
theorem dX10_init_61 : decode cX10_init 61 = .ok (.dup, 1) := by decide +kernel
theorem dX10_init_62 : decode cX10_init 62 = .ok (.new 43, 3) := by decide +kernel
theorem dX10_init_65 : decode cX10_init 65 = .ok (.dup, 1) := by decide +kernel
theorem dX10_init_66 : decode cX10_init 66 = .ok (.aload_n 0, 1) := by decide +kernel
theorem dX10_init_67 : decode cX10_init 67 = .ok (.getfield 9, 3) := by decide +kernel
theorem dX10_init_70 : decode cX10_init 70 = .ok (.invokespecial 45, 3) := by decide +kernel
theorem dX10_init_73 : decode cX10_init 73 = .ok (.aload_n 0, 1) := by decide +kernel
theorem dX10_init_74 : decode cX10_init 74 = .ok (.getfield 23, 3) := by decide +kernel
theorem dX10_init_77 : decode cX10_init 77 = .ok (.aload_n 0, 1) := by decide +kernel
theorem dX10_init_78 : decode cX10_init 78 = .ok (.getfield 16, 3) := by decide +kernel
theorem dX10_init_81 : decode cX10_init 81 = .ok (.invokespecial 48, 3) := by decide +kernel
theorem dX10_init_84 : decode cX10_init 84 = .ok (.putfield 51, 3) := by decide +kernel
theorem dX10_init_87 : decode cX10_init 87 = .ok (.aload_n 0, 1) := by decide +kernel
theorem dX10_init_88 : decode cX10_init 88 = .ok (.new 55, 3) := by decide +kernel
theorem dX10_init_91 : decode cX10_init 91 = .ok (.dup, 1) := by decide +kernel
theorem dX10_init_92 : decode cX10_init 92 = .ok (.aload_n 0, 1) := by decide +kernel
theorem dX10_init_93 : decode cX10_init 93 = .ok (.getfield 23, 3) := by decide +kernel
theorem dX10_init_96 : decode cX10_init 96 = .ok (.aload_n 0, 1) := by decide +kernel
theorem dX10_init_97 : decode cX10_init 97 = .ok (.getfield 16, 3) := by decide +kernel
theorem dX10_init_100 : decode cX10_init 100 = .ok (.invokespecial 57, 3) := by decide +kernel
theorem dX10_init_103 : decode cX10_init 103 = .ok (.putfield 60, 3) := by decide +kernel
theorem dX10_init_106 : decode cX10_init 106 = .ok (.aload_n 0, 1) := by decide +kernel
theorem dX10_init_107 : decode cX10_init 107 = .ok (.new 64, 3) := by decide +kernel
theorem dX10_init_110 : decode cX10_init 110 = .ok (.dup, 1) := by decide +kernel
theorem dX10_init_111 : decode cX10_init 111 = .ok (.aload_n 0, 1) := by decide +kernel
theorem dX10_init_112 : decode cX10_init 112 = .ok (.getfield 23, 3) := by decide +kernel
theorem dX10_init_115 : decode cX10_init 115 = .ok (.aload_n 0, 1) := by decide +kernel
theorem dX10_init_116 : decode cX10_init 116 = .ok (.getfield 30, 3) := by decide +kernel
theorem dX10_init_119 : decode cX10_init 119 = .ok (.aload_n 0, 1) := by decide +kernel
theorem dX10_init_120 : decode cX10_init 120 = .ok (.getfield 37, 3) := by decide +kernel
theorem dX10_init_123 : decode cX10_init 123 = .ok (.invokespecial 66, 3) := by decide +kernel
theorem dX10_init_126 : decode cX10_init 126 = .ok (.putfield 69, 3) := by decide +kernel
theorem dX10_init_129 : decode cX10_init 129 = .ok (.aload_n 0, 1) := by decide +kernel
theorem dX10_init_130 : decode cX10_init 130 = .ok (.new 73, 3) := by decide +kernel
theorem dX10_init_133 : decode cX10_init 133 = .ok (.dup, 1) := by decide +kernel
theorem dX10_init_134 : decode cX10_init 134 = .ok (.aload_n 0, 1) := by decide +kernel
theorem dX10_init_135 : decode cX10_init 135 = .ok (.getfield 23, 3) := by decide +kernel
theorem dX10_init_138 : decode cX10_init 138 = .ok (.aload_n 0, 1) := by decide +kernel
theorem dX10_init_139 : decode cX10_init 139 = .ok (.getfield 37, 3) := by decide +kernel
theorem dX10_init_142 : decode cX10_init 142 = .ok (.aload_n 0, 1) := by decide +kernel
theorem dX10_init_143 : decode cX10_init 143 = .ok (.getfield 69, 3) := by decide +kernel
theorem dX10_init_146 : decode cX10_init 146 = .ok (.invokespecial 75, 3) := by decide +kernel
theorem dX10_init_149 : decode cX10_init 149 = .ok (.putfield 78, 3) := by decide +kernel
theorem dX10_init_152 : decode cX10_init 152 = .ok (.aload_n 0, 1) := by decide +kernel
theorem dX10_init_153 : decode cX10_init 153 = .ok (.new 82, 3) := by decide +kernel
theorem dX10_init_156 : decode cX10_init 156 = .ok (.dup, 1) := by decide +kernel
theorem dX10_init_157 : decode cX10_init 157 = .ok (.sipush 20000, 3) := by decide +kernel
theorem dX10_init_160 : decode cX10_init 160 = .ok (.aload_n 0, 1) := by decide +kernel
theorem dX10_init_161 : decode cX10_init 161 = .ok (.getfield 23, 3) := by decide +kernel
theorem dX10_init_164 : decode cX10_init 164 = .ok (.aload_n 0, 1) := by decide +kernel
theorem dX10_init_165 : decode cX10_init 165 = .ok (.getfield 16, 3) := by decide +kernel
theorem dX10_init_168 : decode cX10_init 168 = .ok (.aload_n 0, 1) := by decide +kernel
theorem dX10_init_169 : decode cX10_init 169 = .ok (.getfield 30, 3) := by decide +kernel
theorem dX10_init_172 : decode cX10_init 172 = .ok (.aload_n 0, 1) := by decide +kernel
theorem dX10_init_173 : decode cX10_init 173 = .ok (.getfield 37, 3) := by decide +kernel
theorem dX10_init_176 : decode cX10_init 176 = .ok (.invokespecial 84, 3) := by decide +kernel
theorem dX10_init_179 : decode cX10_init 179 = .ok (.putfield 87, 3) := by decide +kernel
theorem dX10_init_182 : decode cX10_init 182 = .ok (.aload_n 0, 1) := by decide +kernel
theorem dX10_init_183 : decode cX10_init 183 = .ok (.new 82, 3) := by decide +kernel
theorem dX10_init_186 : decode cX10_init 186 = .ok (.dup, 1) := by decide +kernel
theorem dX10_init_187 : decode cX10_init 187 = .ok (.sipush 20000, 3) := by decide +kernel
theorem dX10_init_190 : decode cX10_init 190 = .ok (.aload_n 0, 1) := by decide +kernel
theorem dX10_init_191 : decode cX10_init 191 = .ok (.getfield 23, 3) := by decide +kernel
theorem dX10_init_194 : decode cX10_init 194 = .ok (.aload_n 0, 1) := by decide +kernel
theorem dX10_init_195 : decode cX10_init 195 = .ok (.getfield 16, 3) := by decide +kernel
theorem dX10_init_198 : decode cX10_init 198 = .ok (.aload_n 0, 1) := by decide +kernel
theorem dX10_init_199 : decode cX10_init 199 = .ok (.getfield 30, 3) := by decide +kernel
theorem dX10_init_202 : decode cX10_init 202 = .ok (.aload_n 0, 1) := by decide +kernel
theorem dX10_init_203 : decode cX10_init 203 = .ok (.getfield 37, 3) := by decide +kernel
theorem dX10_init_206 : decode cX10_init 206 = .ok (.invokespecial 84, 3) := by decide +kernel
theorem dX10_init_209 : decode cX10_init 209 = .ok (.putfield 91, 3) := by decide +kernel
theorem dX10_init_212 : decode cX10_init 212 = .ok (.aload_n 0, 1) := by decide +kernel
theorem dX10_init_213 : decode cX10_init 213 = .ok (.new 82, 3) := by decide +kernel
theorem dX10_init_216 : decode cX10_init 216 = .ok (.dup, 1) := by decide +kernel
theorem dX10_init_217 : decode cX10_init 217 = .ok (.sipush 1000, 3) := by decide +kernel
theorem dX10_init_220 : decode cX10_init 220 = .ok (.aload_n 0, 1) := by decide +kernel
theorem dX10_init_221 : decode cX10_init 221 = .ok (.getfield 23, 3) := by decide +kernel
theorem dX10_init_224 : decode cX10_init 224 = .ok (.aload_n 0, 1) := by decide +kernel
theorem dX10_init_225 : decode cX10_init 225 = .ok (.getfield 16, 3) := by decide +kernel
theorem dX10_init_228 : decode cX10_init 228 = .ok (.aload_n 0, 1) := by decide +kernel
theorem dX10_init_229 : decode cX10_init 229 = .ok (.getfield 30, 3) := by decide +kernel
theorem dX10_init_232 : decode cX10_init 232 = .ok (.aload_n 0, 1) := by decide +kernel
theorem dX10_init_233 : decode cX10_init 233 = .ok (.getfield 37, 3) := by decide +kernel
theorem dX10_init_236 : decode cX10_init 236 = .ok (.invokespecial 84, 3) := by decide +kernel
theorem dX10_init_239 : decode cX10_init 239 = .ok (.putfield 94, 3) := by decide +kernel
theorem dX10_init_242 : decode cX10_init 242 = .ok (.aload_n 0, 1) := by decide +kernel
theorem dX10_init_243 : decode cX10_init 243 = .ok (.bipush 8, 2) := by decide +kernel
theorem dX10_init_245 : decode cX10_init 245 = .ok (.newarray .int, 2) := by decide +kernel
theorem dX10_init_247 : decode cX10_init 247 = .ok (.dup, 1) := by decide +kernel
theorem dX10_init_248 : decode cX10_init 248 = .ok (.iconst 0, 1) := by decide +kernel
theorem dX10_init_249 : decode cX10_init 249 = .ok (.iconst (-1), 1) := by decide +kernel
theorem dX10_init_250 : decode cX10_init 250 = .ok (.iastore, 1) := by decide +kernel
theorem dX10_init_251 : decode cX10_init 251 = .ok (.dup, 1) := by decide +kernel
theorem dX10_init_252 : decode cX10_init 252 = .ok (.iconst 1, 1) := by decide +kernel
theorem dX10_init_253 : decode cX10_init 253 = .ok (.iconst 0, 1) := by decide +kernel
theorem dX10_init_254 : decode cX10_init 254 = .ok (.iastore, 1) := by decide +kernel
theorem dX10_init_255 : decode cX10_init 255 = .ok (.dup, 1) := by decide +kernel
theorem dX10_init_256 : decode cX10_init 256 = .ok (.iconst 2, 1) := by decide +kernel
theorem dX10_init_257 : decode cX10_init 257 = .ok (.iconst 0, 1) := by decide +kernel
theorem dX10_init_258 : decode cX10_init 258 = .ok (.iastore, 1) := by decide +kernel
theorem dX10_init_259 : decode cX10_init 259 = .ok (.dup, 1) := by decide +kernel
theorem dX10_init_260 : decode cX10_init 260 = .ok (.iconst 3, 1) := by decide +kernel
theorem dX10_init_261 : decode cX10_init 261 = .ok (.iconst 0, 1) := by decide +kernel
theorem dX10_init_262 : decode cX10_init 262 = .ok (.iastore, 1) := by decide +kernel
theorem dX10_init_263 : decode cX10_init 263 = .ok (.dup, 1) := by decide +kernel
theorem dX10_init_264 : decode cX10_init 264 = .ok (.iconst 4, 1) := by decide +kernel
theorem dX10_init_265 : decode cX10_init 265 = .ok (.iconst (-1), 1) := by decide +kernel
theorem dX10_init_266 : decode cX10_init 266 = .ok (.iastore, 1) := by decide +kernel
theorem dX10_init_267 : decode cX10_init 267 = .ok (.dup, 1) := by decide +kernel
theorem dX10_init_268 : decode cX10_init 268 = .ok (.iconst 5, 1) := by decide +kernel
theorem dX10_init_269 : decode cX10_init 269 = .ok (.iconst 0, 1) := by decide +kernel
theorem dX10_init_270 : decode cX10_init 270 = .ok (.iastore, 1) := by decide +kernel
theorem dX10_init_271 : decode cX10_init 271 = .ok (.dup, 1) := by decide +kernel
theorem dX10_init_272 : decode cX10_init 272 = .ok (.bipush 6, 2) := by decide +kernel
theorem dX10_init_274 : decode cX10_init 274 = .ok (.iconst 0, 1) := by decide +kernel
theorem dX10_init_275 : decode cX10_init 275 = .ok (.iastore, 1) := by decide +kernel
theorem dX10_init_276 : decode cX10_init 276 = .ok (.dup, 1) := by decide +kernel
theorem dX10_init_277 : decode cX10_init 277 = .ok (.bipush 7, 2) := by decide +kernel
theorem dX10_init_279 : decode cX10_init 279 = .ok (.iconst 0, 1) := by decide +kernel
theorem dX10_init_280 : decode cX10_init 280 = .ok (.iastore, 1) := by decide +kernel
theorem dX10_init_281 : decode cX10_init 281 = .ok (.putfield 97, 3) := by decide +kernel
theorem dX10_init_284 : decode cX10_init 284 = .ok (.aload_n 0, 1) := by decide +kernel
theorem dX10_init_285 : decode cX10_init 285 = .ok (.iconst (-1), 1) := by decide +kernel
theorem dX10_init_286 : decode cX10_init 286 = .ok (.putfield 101, 3) := by decide +kernel
theorem dX10_init_289 : decode cX10_init 289 = .ok (.return_, 1) := by decide +kernel
theorem dX10_feed_0 : decode cX10_feed 0 = .ok (.aload_n 0, 1) := by decide +kernel
theorem dX10_feed_1 : decode cX10_feed 1 = .ok (.getfield 105, 3) := by decide +kernel
theorem dX10_feed_4 : decode cX10_feed 4 = .ok (.bipush 20, 2) := by decide +kernel
theorem dX10_feed_6 : decode cX10_feed 6 = .ok (.iadd, 1) := by decide +kernel
theorem dX10_feed_7 : decode cX10_feed 7 = .ok (.sipush 3000, 3) := by decide +kernel
theorem dX10_feed_10 : decode cX10_feed 10 = .ok (.if_icmp .le 5, 3) := by decide +kernel
theorem dX10_feed_15 : decode cX10_feed 15 = .ok (.aload_n 0, 1) := by decide +kernel
theorem dX10_feed_16 : decode cX10_feed 16 = .ok (.iload_n 1, 1) := by decide +kernel
theorem dX10_feed_17 : decode cX10_feed 17 = .ok (.invokevirtual 108, 3) := by decide +kernel
theorem dX10_feed_20 : decode cX10_feed 20 = .ok (.aload_n 0, 1) := by decide +kernel
theorem dX10_feed_21 : decode cX10_feed 21 = .ok (.iload_n 2, 1) := by decide +kernel
theorem dX10_feed_22 : decode cX10_feed 22 = .ok (.invokevirtual 108, 3) := by decide +kernel
theorem dX10_feed_25 : decode cX10_feed 25 = .ok (.aload_n 0, 1) := by decide +kernel
theorem dX10_feed_26 : decode cX10_feed 26 = .ok (.iload_n 3, 1) := by decide +kernel
theorem dX10_feed_27 : decode cX10_feed 27 = .ok (.invokevirtual 108, 3) := by decide +kernel
theorem dX10_feed_30 : decode cX10_feed 30 = .ok (.aload_n 0, 1) := by decide +kernel
theorem dX10_feed_31 : decode cX10_feed 31 = .ok (.iload 4, 2) := by decide +kernel
theorem dX10_feed_33 : decode cX10_feed 33 = .ok (.invokevirtual 108, 3) := by decide +kernel
theorem dX10_feed_36 : decode cX10_feed 36 = .ok (.aload_n 0, 1) := by decide +kernel
theorem dX10_feed_37 : decode cX10_feed 37 = .ok (.iload 5, 2) := by decide +kernel
theorem dX10_feed_39 : decode cX10_feed 39 = .ok (.invokevirtual 108, 3) := by decide +kernel
theorem dX10_feed_42 : decode cX10_feed 42 = .ok (.aload_n 0, 1) := by decide +kernel
theorem dX10_feed_43 : decode cX10_feed 43 = .ok (.getfield 105, 3) := by decide +kernel
theorem dX10_feed_46 : decode cX10_feed 46 = .ok (.ireturn, 1) := by decide +kernel
theorem dX10_load_0 : decode cX10_load 0 = .ok (.iload_n 1, 1) := by decide +kernel
theorem dX10_load_1 : decode cX10_load 1 = .ok (.ifCond .lt 11, 3) := by decide +kernel
theorem dX10_load_4 : decode cX10_load 4 = .ok (.iload_n 1, 1) := by decide +kernel
theorem dX10_load_5 : decode cX10_load 5 = .ok (.aload_n 0, 1) := by decide +kernel
theorem dX10_load_6 : decode cX10_load 6 = .ok (.getfield 105, 3) := by decide +kernel
theorem dX10_load_9 : decode cX10_load 9 = .ok (.if_icmp .le 6, 3) := by decide +kernel
theorem dX10_load_12 : decode cX10_load 12 = .ok (.bipush (-2), 2) := by decide +kernel
theorem dX10_load_14 : decode cX10_load 14 = .ok (.ireturn, 1) := by decide +kernel
theorem dX10_load_15 : decode cX10_load 15 = .ok (.aload_n 0, 1) := by decide +kernel
theorem dX10_load_16 : decode cX10_load 16 = .ok (.iconst 0, 1) := by decide +kernel
theorem dX10_load_17 : decode cX10_load 17 = .ok (.putfield 105, 3) := by decide +kernel
theorem dX10_load_20 : decode cX10_load 20 = .ok (.aload_n 0, 1) := by decide +kernel
theorem dX10_load_21 : decode cX10_load 21 = .ok (.getfield 23, 3) := by decide +kernel
theorem dX10_load_24 : decode cX10_load 24 = .ok (.getfield 112, 3) := by decide +kernel
theorem dX10_load_27 : decode cX10_load 27 = .ok (.istore_n 2, 1) := by decide +kernel
theorem dX10_load_28 : decode cX10_load 28 = .ok (.aload_n 0, 1) := by decide +kernel
theorem dX10_load_29 : decode cX10_load 29 = .ok (.invokevirtual 115, 3) := by decide +kernel
theorem dX10_load_32 : decode cX10_load 32 = .ok (.istore_n 3, 1) := by decide +kernel
theorem dX10_load_33 : decode cX10_load 33 = .ok (.aload_n 0, 1) := by decide +kernel
theorem dX10_load_34 : decode cX10_load 34 = .ok (.getfield 23, 3) := by decide +kernel
theorem dX10_load_37 : decode cX10_load 37 = .ok (.iconst 1, 1) := by decide +kernel
theorem dX10_load_38 : decode cX10_load 38 = .ok (.iload_n 2, 1) := by decide +kernel
theorem dX10_load_39 : decode cX10_load 39 = .ok (.isub, 1) := by decide +kernel
theorem dX10_load_40 : decode cX10_load 40 = .ok (.invokevirtual 119, 3) := by decide +kernel
theorem dX10_load_43 : decode cX10_load 43 = .ok (.aload_n 0, 1) := by decide +kernel
theorem dX10_load_44 : decode cX10_load 44 = .ok (.getfield 51, 3) := by decide +kernel
theorem dX10_load_47 : decode cX10_load 47 = .ok (.iload_n 1, 1) := by decide +kernel
theorem dX10_load_48 : decode cX10_load 48 = .ok (.invokevirtual 122, 3) := by decide +kernel
theorem dX10_load_51 : decode cX10_load 51 = .ok (.aload_n 0, 1) := by decide +kernel
theorem dX10_load_52 : decode cX10_load 52 = .ok (.iload_n 3, 1) := by decide +kernel
theorem dX10_load_53 : decode cX10_load 53 = .ok (.invokevirtual 125, 3) := by decide +kernel
theorem dX10_load_56 : decode cX10_load 56 = .ok (.ifCond .ne 13, 3) := by decide +kernel
theorem dX10_load_69 : decode cX10_load 69 = .ok (.aload_n 0, 1) := by decide +kernel
theorem dX10_load_70 : decode cX10_load 70 = .ok (.getfield 23, 3) := by decide +kernel
theorem dX10_load_73 : decode cX10_load 73 = .ok (.getfield 129, 3) := by decide +kernel
theorem dX10_load_76 : decode cX10_load 76 = .ok (.aload_n 0, 1) := by decide +kernel
theorem dX10_load_77 : decode cX10_load 77 = .ok (.getfield 23, 3) := by decide +kernel
theorem dX10_load_80 : decode cX10_load 80 = .ok (.getfield 112, 3) := by decide +kernel
theorem dX10_load_83 : decode cX10_load 83 = .ok (.iaload, 1) := by decide +kernel
theorem dX10_load_84 : decode cX10_load 84 = .ok (.ireturn, 1) := by decide +kernel
theorem dX10_ask_0 : decode cX10_ask 0 = .ok (.iload_n 1, 1) := by decide +kernel
theorem dX10_ask_1 : decode cX10_ask 1 = .ok (.ifCond .lt 22, 3) := by decide +kernel
theorem dX10_ask_4 : decode cX10_ask 4 = .ok (.iload_n 1, 1) := by decide +kernel
theorem dX10_ask_5 : decode cX10_ask 5 = .ok (.aload_n 0, 1) := by decide +kernel
theorem dX10_ask_6 : decode cX10_ask 6 = .ok (.getfield 105, 3) := by decide +kernel
theorem dX10_ask_9 : decode cX10_ask 9 = .ok (.if_icmp .gt 14, 3) := by decide +kernel
theorem dX10_ask_12 : decode cX10_ask 12 = .ok (.iload_n 2, 1) := by decide +kernel
theorem dX10_ask_13 : decode cX10_ask 13 = .ok (.ifCond .lt 10, 3) := by decide +kernel
theorem dX10_ask_16 : decode cX10_ask 16 = .ok (.iload_n 2, 1) := by decide +kernel
theorem dX10_ask_17 : decode cX10_ask 17 = .ok (.sipush 500, 3) := by decide +kernel
theorem dX10_ask_20 : decode cX10_ask 20 = .ok (.if_icmp .le 6, 3) := by decide +kernel
theorem dX10_ask_23 : decode cX10_ask 23 = .ok (.bipush (-2), 2) := by decide +kernel
theorem dX10_ask_25 : decode cX10_ask 25 = .ok (.ireturn, 1) := by decide +kernel
theorem dX10_ask_26 : decode cX10_ask 26 = .ok (.aload_n 0, 1) := by decide +kernel
theorem dX10_ask_27 : decode cX10_ask 27 = .ok (.iconst 0, 1) := by decide +kernel
theorem dX10_ask_28 : decode cX10_ask 28 = .ok (.putfield 105, 3) := by decide +kernel
theorem dX10_ask_31 : decode cX10_ask 31 = .ok (.aload_n 0, 1) := by decide +kernel
theorem dX10_ask_32 : decode cX10_ask 32 = .ok (.invokevirtual 115, 3) := by decide +kernel
theorem dX10_ask_35 : decode cX10_ask 35 = .ok (.istore 4, 2) := by decide +kernel
theorem dX10_ask_37 : decode cX10_ask 37 = .ok (.aload_n 0, 1) := by decide +kernel
theorem dX10_ask_38 : decode cX10_ask 38 = .ok (.getfield 51, 3) := by decide +kernel
theorem dX10_ask_41 : decode cX10_ask 41 = .ok (.iload_n 1, 1) := by decide +kernel
theorem dX10_ask_42 : decode cX10_ask 42 = .ok (.invokevirtual 132, 3) := by decide +kernel
theorem dX10_ask_45 : decode cX10_ask 45 = .ok (.aload_n 0, 1) := by decide +kernel
theorem dX10_ask_46 : decode cX10_ask 46 = .ok (.iload 4, 2) := by decide +kernel
theorem dX10_ask_48 : decode cX10_ask 48 = .ok (.invokevirtual 125, 3) := by decide +kernel
theorem dX10_ask_51 : decode cX10_ask 51 = .ok (.ifCond .ne 5, 3) := by decide +kernel
theorem dX10_ask_54 : decode cX10_ask 54 = .ok (.iconst (-1), 1) := by decide +kernel
theorem dX10_ask_55 : decode cX10_ask 55 = .ok (.ireturn, 1) := by decide +kernel
theorem dX10_fault_0 : decode cX10_fault 0 = .ok (.iload_n 1, 1) := by decide +kernel
theorem dX10_fault_1 : decode cX10_fault 1 = .ok (.ifCond .ne 8, 3) := by decide +kernel
theorem dX10_fault_4 : decode cX10_fault 4 = .ok (.aload_n 0, 1) := by decide +kernel
theorem dX10_fault_5 : decode cX10_fault 5 = .ok (.getfield 156, 3) := by decide +kernel
theorem dX10_fault_8 : decode cX10_fault 8 = .ok (.ireturn, 1) := by decide +kernel
theorem dX10_fault_9 : decode cX10_fault 9 = .ok (.iload_n 1, 1) := by decide +kernel
theorem dX10_fault_10 : decode cX10_fault 10 = .ok (.iconst 1, 1) := by decide +kernel
theorem dX10_fault_11 : decode cX10_fault 11 = .ok (.if_icmp .ne 10, 3) := by decide +kernel
theorem dX10_fault_14 : decode cX10_fault 14 = .ok (.aload_n 0, 1) := by decide +kernel
theorem dX10_fault_15 : decode cX10_fault 15 = .ok (.getfield 101, 3) := by decide +kernel
theorem dX10_fault_18 : decode cX10_fault 18 = .ok (.goto 4, 3) := by decide +kernel
theorem dX10_fault_21 : decode cX10_fault 21 = .ok (.iconst (-1), 1) := by decide +kernel
theorem dX10_fault_22 : decode cX10_fault 22 = .ok (.ireturn, 1) := by decide +kernel
theorem dX10_told_0 : decode cX10_told 0 = .ok (.iload_n 1, 1) := by decide +kernel
theorem dX10_told_1 : decode cX10_told 1 = .ok (.ifCond .lt 21, 3) := by decide +kernel
theorem dX10_told_4 : decode cX10_told 4 = .ok (.iload_n 1, 1) := by decide +kernel
theorem dX10_told_5 : decode cX10_told 5 = .ok (.aload_n 0, 1) := by decide +kernel
theorem dX10_told_6 : decode cX10_told 6 = .ok (.getfield 97, 3) := by decide +kernel
theorem dX10_told_9 : decode cX10_told 9 = .ok (.arraylength, 1) := by decide +kernel
theorem dX10_told_10 : decode cX10_told 10 = .ok (.if_icmp .ge 12, 3) := by decide +kernel
theorem dX10_told_13 : decode cX10_told 13 = .ok (.aload_n 0, 1) := by decide +kernel
theorem dX10_told_14 : decode cX10_told 14 = .ok (.getfield 97, 3) := by decide +kernel
theorem dX10_told_17 : decode cX10_told 17 = .ok (.iload_n 1, 1) := by decide +kernel
theorem dX10_told_18 : decode cX10_told 18 = .ok (.iaload, 1) := by decide +kernel
theorem dX10_told_19 : decode cX10_told 19 = .ok (.goto 4, 3) := by decide +kernel
theorem dX10_told_22 : decode cX10_told 22 = .ok (.iconst (-1), 1) := by decide +kernel
theorem dX10_told_23 : decode cX10_told 23 = .ok (.ireturn, 1) := by decide +kernel
theorem dX10_type_0 : decode cX10_type 0 = .ok (.iload_n 1, 1) := by decide +kernel
theorem dX10_type_1 : decode cX10_type 1 = .ok (.ifCond .ne 29, 3) := by decide +kernel
theorem dX10_type_4 : decode cX10_type 4 = .ok (.aload_n 0, 1) := by decide +kernel
theorem dX10_type_5 : decode cX10_type 5 = .ok (.getfield 159, 3) := by decide +kernel
theorem dX10_type_8 : decode cX10_type 8 = .ok (.ifCond .eq 22, 3) := by decide +kernel
theorem dX10_type_30 : decode cX10_type 30 = .ok (.iload_n 1, 1) := by decide +kernel
theorem dX10_type_31 : decode cX10_type 31 = .ok (.iconst 1, 1) := by decide +kernel
theorem dX10_type_32 : decode cX10_type 32 = .ok (.if_icmp .ne 65, 3) := by decide +kernel
theorem dX10_type_35 : decode cX10_type 35 = .ok (.iload_n 2, 1) := by decide +kernel
theorem dX10_type_36 : decode cX10_type 36 = .ok (.ifCond .lt 61, 3) := by decide +kernel
theorem dX10_type_39 : decode cX10_type 39 = .ok (.iload_n 2, 1) := by decide +kernel
theorem dX10_type_40 : decode cX10_type 40 = .ok (.aload_n 0, 1) := by decide +kernel
theorem dX10_type_41 : decode cX10_type 41 = .ok (.getfield 23, 3) := by decide +kernel
theorem dX10_type_44 : decode cX10_type 44 = .ok (.getfield 129, 3) := by decide +kernel
theorem dX10_type_47 : decode cX10_type 47 = .ok (.aload_n 0, 1) := by decide +kernel
theorem dX10_type_48 : decode cX10_type 48 = .ok (.getfield 23, 3) := by decide +kernel
theorem dX10_type_51 : decode cX10_type 51 = .ok (.getfield 112, 3) := by decide +kernel
theorem dX10_type_54 : decode cX10_type 54 = .ok (.iaload, 1) := by decide +kernel
theorem dX10_type_55 : decode cX10_type 55 = .ok (.if_icmp .ge 42, 3) := by decide +kernel
theorem dX10_type_97 : decode cX10_type 97 = .ok (.iconst (-1), 1) := by decide +kernel
theorem dX10_type_98 : decode cX10_type 98 = .ok (.ireturn, 1) := by decide +kernel
theorem dX10_value_0 : decode cX10_value 0 = .ok (.aload_n 0, 1) := by decide +kernel
theorem dX10_value_1 : decode cX10_value 1 = .ok (.getfield 142, 3) := by decide +kernel
theorem dX10_value_4 : decode cX10_value 4 = .ok (.ifCond .eq 13, 3) := by decide +kernel
theorem dX10_value_17 : decode cX10_value 17 = .ok (.iconst (-1), 1) := by decide +kernel
theorem dX10_value_18 : decode cX10_value 18 = .ok (.ireturn, 1) := by decide +kernel
theorem dX10_out_0 : decode cX10_out 0 = .ok (.iload_n 1, 1) := by decide +kernel
theorem dX10_out_1 : decode cX10_out 1 = .ok (.ifCond .lt 26, 3) := by decide +kernel
theorem dX10_out_4 : decode cX10_out 4 = .ok (.iload_n 1, 1) := by decide +kernel
theorem dX10_out_5 : decode cX10_out 5 = .ok (.aload_n 0, 1) := by decide +kernel
theorem dX10_out_6 : decode cX10_out 6 = .ok (.getfield 87, 3) := by decide +kernel
theorem dX10_out_9 : decode cX10_out 9 = .ok (.getfield 166, 3) := by decide +kernel
theorem dX10_out_12 : decode cX10_out 12 = .ok (.if_icmp .ge 15, 3) := by decide +kernel

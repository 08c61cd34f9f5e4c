theorem dX8_atom0_110 : decode cX8_atom0 110 = .ok (.aload_n 0, 1) := by decide +kernel
theorem dX8_atom0_111 : decode cX8_atom0 111 = .ok (.getfield 155, 3) := by decide +kernel
theorem dX8_atom0_114 : decode cX8_atom0 114 = .ok (.l2i, 1) := by decide +kernel
theorem dX8_atom0_115 : decode cX8_atom0 115 = .ok (.istore_n 1, 1) := by decide +kernel
theorem dX8_atom0_116 : decode cX8_atom0 116 = .ok (.aload_n 0, 1) := by decide +kernel
theorem dX8_atom0_117 : decode cX8_atom0 117 = .ok (.invokevirtual 176, 3) := by decide +kernel
theorem dX8_atom0_120 : decode cX8_atom0 120 = .ok (.goto 41, 3) := by decide +kernel
theorem dX8_atom0_123 : decode cX8_atom0 123 = .ok (.aload_n 0, 1) := by decide +kernel
theorem dX8_atom0_124 : decode cX8_atom0 124 = .ok (.getfield 159, 3) := by decide +kernel
theorem dX8_atom0_127 : decode cX8_atom0 127 = .ok (.ifCond .ne 30, 3) := by decide +kernel
theorem dX8_atom0_130 : decode cX8_atom0 130 = .ok (.aload_n 0, 1) := by decide +kernel
theorem dX8_atom0_131 : decode cX8_atom0 131 = .ok (.getfield 144, 3) := by decide +kernel
theorem dX8_atom0_134 : decode cX8_atom0 134 = .ok (.iconst 1, 1) := by decide +kernel
theorem dX8_atom0_135 : decode cX8_atom0 135 = .ok (.if_icmp .ne 22, 3) := by decide +kernel
theorem dX8_atom0_138 : decode cX8_atom0 138 = .ok (.aload_n 0, 1) := by decide +kernel
theorem dX8_atom0_139 : decode cX8_atom0 139 = .ok (.invokevirtual 208, 3) := by decide +kernel
theorem dX8_atom0_142 : decode cX8_atom0 142 = .ok (.istore_n 1, 1) := by decide +kernel
theorem dX8_atom0_143 : decode cX8_atom0 143 = .ok (.aload_n 0, 1) := by decide +kernel
theorem dX8_atom0_144 : decode cX8_atom0 144 = .ok (.getfield 159, 3) := by decide +kernel
theorem dX8_atom0_147 : decode cX8_atom0 147 = .ok (.ifCond .ne 14, 3) := by decide +kernel
theorem dX8_atom0_150 : decode cX8_atom0 150 = .ok (.aload_n 0, 1) := by decide +kernel
theorem dX8_atom0_151 : decode cX8_atom0 151 = .ok (.invokevirtual 176, 3) := by decide +kernel
theorem dX8_atom0_154 : decode cX8_atom0 154 = .ok (.goto 7, 3) := by decide +kernel
theorem dX8_atom0_157 : decode cX8_atom0 157 = .ok (.aload_n 0, 1) := by decide +kernel
theorem dX8_atom0_158 : decode cX8_atom0 158 = .ok (.invokevirtual 173, 3) := by decide +kernel
theorem dX8_atom0_161 : decode cX8_atom0 161 = .ok (.iload_n 1, 1) := by decide +kernel
theorem dX8_atom0_162 : decode cX8_atom0 162 = .ok (.ireturn, 1) := by decide +kernel
theorem dX8_term0_0 : decode cX8_term0 0 = .ok (.aload_n 0, 1) := by decide +kernel
theorem dX8_term0_1 : decode cX8_term0 1 = .ok (.invokevirtual 306, 3) := by decide +kernel
theorem dX8_term0_4 : decode cX8_term0 4 = .ok (.istore_n 1, 1) := by decide +kernel
theorem dX8_term0_5 : decode cX8_term0 5 = .ok (.aload_n 0, 1) := by decide +kernel
theorem dX8_term0_6 : decode cX8_term0 6 = .ok (.bipush 42, 2) := by decide +kernel
theorem dX8_term0_8 : decode cX8_term0 8 = .ok (.invokevirtual 201, 3) := by decide +kernel
theorem dX8_term0_11 : decode cX8_term0 11 = .ok (.ifCond .eq 17, 3) := by decide +kernel
theorem dX8_term0_14 : decode cX8_term0 14 = .ok (.aload_n 0, 1) := by decide +kernel
theorem dX8_term0_15 : decode cX8_term0 15 = .ok (.invokevirtual 176, 3) := by decide +kernel
theorem dX8_term0_18 : decode cX8_term0 18 = .ok (.iload_n 1, 1) := by decide +kernel
theorem dX8_term0_19 : decode cX8_term0 19 = .ok (.aload_n 0, 1) := by decide +kernel
theorem dX8_term0_20 : decode cX8_term0 20 = .ok (.invokevirtual 306, 3) := by decide +kernel
theorem dX8_term0_23 : decode cX8_term0 23 = .ok (.imul, 1) := by decide +kernel
theorem dX8_term0_24 : decode cX8_term0 24 = .ok (.istore_n 1, 1) := by decide +kernel
theorem dX8_term0_25 : decode cX8_term0 25 = .ok (.goto (-20), 3) := by decide +kernel
theorem dX8_term0_28 : decode cX8_term0 28 = .ok (.iload_n 1, 1) := by decide +kernel
theorem dX8_term0_29 : decode cX8_term0 29 = .ok (.ireturn, 1) := by decide +kernel
theorem dX8_added0_0 : decode cX8_added0 0 = .ok (.aload_n 0, 1) := by decide +kernel
theorem dX8_added0_1 : decode cX8_added0 1 = .ok (.invokevirtual 309, 3) := by decide +kernel
theorem dX8_added0_4 : decode cX8_added0 4 = .ok (.istore_n 1, 1) := by decide +kernel
theorem dX8_added0_5 : decode cX8_added0 5 = .ok (.aload_n 0, 1) := by decide +kernel
theorem dX8_added0_6 : decode cX8_added0 6 = .ok (.bipush 43, 2) := by decide +kernel
theorem dX8_added0_8 : decode cX8_added0 8 = .ok (.invokevirtual 201, 3) := by decide +kernel
theorem dX8_added0_11 : decode cX8_added0 11 = .ok (.ifCond .ne 12, 3) := by decide +kernel
theorem dX8_added0_14 : decode cX8_added0 14 = .ok (.aload_n 0, 1) := by decide +kernel
theorem dX8_added0_15 : decode cX8_added0 15 = .ok (.bipush 45, 2) := by decide +kernel
theorem dX8_added0_17 : decode cX8_added0 17 = .ok (.invokevirtual 201, 3) := by decide +kernel
theorem dX8_added0_20 : decode cX8_added0 20 = .ok (.ifCond .eq 46, 3) := by decide +kernel
theorem dX8_added0_23 : decode cX8_added0 23 = .ok (.aload_n 0, 1) := by decide +kernel
theorem dX8_added0_24 : decode cX8_added0 24 = .ok (.getfield 155, 3) := by decide +kernel
theorem dX8_added0_27 : decode cX8_added0 27 = .ok (.ldc2_w 218, 3) := by decide +kernel
theorem dX8_added0_30 : decode cX8_added0 30 = .ok (.lcmp, 1) := by decide +kernel
theorem dX8_added0_31 : decode cX8_added0 31 = .ok (.ifCond .ne 7, 3) := by decide +kernel
theorem dX8_added0_34 : decode cX8_added0 34 = .ok (.iconst 1, 1) := by decide +kernel
theorem dX8_added0_35 : decode cX8_added0 35 = .ok (.goto 4, 3) := by decide +kernel
theorem dX8_added0_38 : decode cX8_added0 38 = .ok (.iconst 0, 1) := by decide +kernel
theorem dX8_added0_39 : decode cX8_added0 39 = .ok (.istore_n 2, 1) := by decide +kernel
theorem dX8_added0_40 : decode cX8_added0 40 = .ok (.aload_n 0, 1) := by decide +kernel
theorem dX8_added0_41 : decode cX8_added0 41 = .ok (.invokevirtual 176, 3) := by decide +kernel
theorem dX8_added0_44 : decode cX8_added0 44 = .ok (.aload_n 0, 1) := by decide +kernel
theorem dX8_added0_45 : decode cX8_added0 45 = .ok (.invokevirtual 309, 3) := by decide +kernel
theorem dX8_added0_48 : decode cX8_added0 48 = .ok (.istore_n 3, 1) := by decide +kernel
theorem dX8_added0_49 : decode cX8_added0 49 = .ok (.iload_n 2, 1) := by decide +kernel
theorem dX8_added0_50 : decode cX8_added0 50 = .ok (.ifCond .eq 9, 3) := by decide +kernel
theorem dX8_added0_53 : decode cX8_added0 53 = .ok (.iload_n 1, 1) := by decide +kernel
theorem dX8_added0_54 : decode cX8_added0 54 = .ok (.iload_n 3, 1) := by decide +kernel
theorem dX8_added0_55 : decode cX8_added0 55 = .ok (.iadd, 1) := by decide +kernel
theorem dX8_added0_56 : decode cX8_added0 56 = .ok (.goto 6, 3) := by decide +kernel
theorem dX8_added0_59 : decode cX8_added0 59 = .ok (.iload_n 1, 1) := by decide +kernel
theorem dX8_added0_60 : decode cX8_added0 60 = .ok (.iload_n 3, 1) := by decide +kernel
theorem dX8_added0_61 : decode cX8_added0 61 = .ok (.isub, 1) := by decide +kernel
theorem dX8_added0_62 : decode cX8_added0 62 = .ok (.istore_n 1, 1) := by decide +kernel
theorem dX8_added0_63 : decode cX8_added0 63 = .ok (.goto (-58), 3) := by decide +kernel
theorem dX8_added0_66 : decode cX8_added0 66 = .ok (.iload_n 1, 1) := by decide +kernel
theorem dX8_added0_67 : decode cX8_added0 67 = .ok (.ireturn, 1) := by decide +kernel
theorem dX8_not0_0 : decode cX8_not0 0 = .ok (.aload_n 0, 1) := by decide +kernel
theorem dX8_not0_1 : decode cX8_not0 1 = .ok (.bipush 110, 2) := by decide +kernel
theorem dX8_not0_3 : decode cX8_not0 3 = .ok (.bipush 111, 2) := by decide +kernel
theorem dX8_not0_5 : decode cX8_not0 5 = .ok (.bipush 116, 2) := by decide +kernel
theorem dX8_not0_7 : decode cX8_not0 7 = .ok (.iconst 0, 1) := by decide +kernel
theorem dX8_not0_8 : decode cX8_not0 8 = .ok (.iconst 0, 1) := by decide +kernel
theorem dX8_not0_9 : decode cX8_not0 9 = .ok (.iconst 0, 1) := by decide +kernel
theorem dX8_not0_10 : decode cX8_not0 10 = .ok (.iconst 0, 1) := by decide +kernel
theorem dX8_not0_11 : decode cX8_not0 11 = .ok (.iconst 0, 1) := by decide +kernel
theorem dX8_not0_12 : decode cX8_not0 12 = .ok (.invokevirtual 179, 3) := by decide +kernel
theorem dX8_not0_15 : decode cX8_not0 15 = .ok (.ifCond .eq 37, 3) := by decide +kernel
theorem dX8_not0_18 : decode cX8_not0 18 = .ok (.aload_n 0, 1) := by decide +kernel
theorem dX8_not0_19 : decode cX8_not0 19 = .ok (.invokevirtual 204, 3) := by decide +kernel
theorem dX8_not0_22 : decode cX8_not0 22 = .ok (.ifCond .ne 5, 3) := by decide +kernel
theorem dX8_not0_25 : decode cX8_not0 25 = .ok (.iconst 0, 1) := by decide +kernel
theorem dX8_not0_26 : decode cX8_not0 26 = .ok (.ireturn, 1) := by decide +kernel
theorem dX8_not0_27 : decode cX8_not0 27 = .ok (.aload_n 0, 1) := by decide +kernel
theorem dX8_not0_28 : decode cX8_not0 28 = .ok (.invokevirtual 297, 3) := by decide +kernel
theorem dX8_not0_31 : decode cX8_not0 31 = .ok (.istore_n 1, 1) := by decide +kernel
theorem dX8_not0_32 : decode cX8_not0 32 = .ok (.aload_n 0, 1) := by decide +kernel
theorem dX8_not0_33 : decode cX8_not0 33 = .ok (.dup, 1) := by decide +kernel
theorem dX8_not0_34 : decode cX8_not0 34 = .ok (.getfield 170, 3) := by decide +kernel
theorem dX8_not0_37 : decode cX8_not0 37 = .ok (.iconst 1, 1) := by decide +kernel
theorem dX8_not0_38 : decode cX8_not0 38 = .ok (.isub, 1) := by decide +kernel
theorem dX8_not0_39 : decode cX8_not0 39 = .ok (.putfield 170, 3) := by decide +kernel
theorem dX8_not0_42 : decode cX8_not0 42 = .ok (.iload_n 1, 1) := by decide +kernel
theorem dX8_not0_43 : decode cX8_not0 43 = .ok (.ifCond .ne 7, 3) := by decide +kernel
theorem dX8_not0_46 : decode cX8_not0 46 = .ok (.iconst 1, 1) := by decide +kernel
theorem dX8_not0_47 : decode cX8_not0 47 = .ok (.goto 4, 3) := by decide +kernel
theorem dX8_not0_50 : decode cX8_not0 50 = .ok (.iconst 0, 1) := by decide +kernel
theorem dX8_not0_51 : decode cX8_not0 51 = .ok (.ireturn, 1) := by decide +kernel
theorem dX8_not0_52 : decode cX8_not0 52 = .ok (.aload_n 0, 1) := by decide +kernel
theorem dX8_not0_53 : decode cX8_not0 53 = .ok (.invokevirtual 312, 3) := by decide +kernel
theorem dX8_not0_56 : decode cX8_not0 56 = .ok (.istore_n 1, 1) := by decide +kernel
theorem dX8_not0_57 : decode cX8_not0 57 = .ok (.aload_n 0, 1) := by decide +kernel
theorem dX8_not0_58 : decode cX8_not0 58 = .ok (.bipush 60, 2) := by decide +kernel
theorem dX8_not0_60 : decode cX8_not0 60 = .ok (.invokevirtual 201, 3) := by decide +kernel
theorem dX8_not0_63 : decode cX8_not0 63 = .ok (.ifCond .ne 14, 3) := by decide +kernel
theorem dX8_not0_66 : decode cX8_not0 66 = .ok (.aload_n 0, 1) := by decide +kernel
theorem dX8_not0_67 : decode cX8_not0 67 = .ok (.bipush 61, 2) := by decide +kernel
theorem dX8_not0_69 : decode cX8_not0 69 = .ok (.invokevirtual 201, 3) := by decide +kernel
theorem dX8_not0_72 : decode cX8_not0 72 = .ok (.ifCond .ne 5, 3) := by decide +kernel
theorem dX8_not0_75 : decode cX8_not0 75 = .ok (.iload_n 1, 1) := by decide +kernel
theorem dX8_not0_76 : decode cX8_not0 76 = .ok (.ireturn, 1) := by decide +kernel
theorem dX8_not0_77 : decode cX8_not0 77 = .ok (.aload_n 0, 1) := by decide +kernel
theorem dX8_not0_78 : decode cX8_not0 78 = .ok (.getfield 155, 3) := by decide +kernel
theorem dX8_not0_81 : decode cX8_not0 81 = .ok (.ldc2_w 223, 3) := by decide +kernel
theorem dX8_not0_84 : decode cX8_not0 84 = .ok (.lcmp, 1) := by decide +kernel
theorem dX8_not0_85 : decode cX8_not0 85 = .ok (.ifCond .ne 7, 3) := by decide +kernel
theorem dX8_not0_88 : decode cX8_not0 88 = .ok (.iconst 1, 1) := by decide +kernel
theorem dX8_not0_89 : decode cX8_not0 89 = .ok (.goto 4, 3) := by decide +kernel
theorem dX8_not0_92 : decode cX8_not0 92 = .ok (.iconst 0, 1) := by decide +kernel
theorem dX8_not0_93 : decode cX8_not0 93 = .ok (.istore_n 2, 1) := by decide +kernel
theorem dX8_not0_94 : decode cX8_not0 94 = .ok (.aload_n 0, 1) := by decide +kernel
theorem dX8_not0_95 : decode cX8_not0 95 = .ok (.invokevirtual 176, 3) := by decide +kernel
theorem dX8_not0_98 : decode cX8_not0 98 = .ok (.aload_n 0, 1) := by decide +kernel
theorem dX8_not0_99 : decode cX8_not0 99 = .ok (.invokevirtual 312, 3) := by decide +kernel
theorem dX8_not0_102 : decode cX8_not0 102 = .ok (.istore_n 3, 1) := by decide +kernel
theorem dX8_not0_103 : decode cX8_not0 103 = .ok (.iload_n 2, 1) := by decide +kernel
theorem dX8_not0_104 : decode cX8_not0 104 = .ok (.ifCond .eq 11, 3) := by decide +kernel
theorem dX8_not0_107 : decode cX8_not0 107 = .ok (.iload_n 1, 1) := by decide +kernel
theorem dX8_not0_108 : decode cX8_not0 108 = .ok (.iload_n 3, 1) := by decide +kernel
theorem dX8_not0_109 : decode cX8_not0 109 = .ok (.if_icmp .ge 15, 3) := by decide +kernel
theorem dX8_not0_112 : decode cX8_not0 112 = .ok (.goto 8, 3) := by decide +kernel
theorem dX8_not0_115 : decode cX8_not0 115 = .ok (.iload_n 1, 1) := by decide +kernel
theorem dX8_not0_116 : decode cX8_not0 116 = .ok (.iload_n 3, 1) := by decide +kernel
theorem dX8_not0_117 : decode cX8_not0 117 = .ok (.if_icmp .ne 7, 3) := by decide +kernel
theorem dX8_not0_120 : decode cX8_not0 120 = .ok (.iconst 1, 1) := by decide +kernel
theorem dX8_not0_121 : decode cX8_not0 121 = .ok (.goto 4, 3) := by decide +kernel
theorem dX8_not0_124 : decode cX8_not0 124 = .ok (.iconst 0, 1) := by decide +kernel
theorem dX8_not0_125 : decode cX8_not0 125 = .ok (.ireturn, 1) := by decide +kernel
theorem dX8_both0_0 : decode cX8_both0 0 = .ok (.aload_n 0, 1) := by decide +kernel
theorem dX8_both0_1 : decode cX8_both0 1 = .ok (.invokevirtual 315, 3) := by decide +kernel
theorem dX8_both0_4 : decode cX8_both0 4 = .ok (.istore_n 1, 1) := by decide +kernel
theorem dX8_both0_5 : decode cX8_both0 5 = .ok (.aload_n 0, 1) := by decide +kernel
theorem dX8_both0_6 : decode cX8_both0 6 = .ok (.bipush 97, 2) := by decide +kernel
theorem dX8_both0_8 : decode cX8_both0 8 = .ok (.bipush 110, 2) := by decide +kernel
theorem dX8_both0_10 : decode cX8_both0 10 = .ok (.bipush 100, 2) := by decide +kernel
theorem dX8_both0_12 : decode cX8_both0 12 = .ok (.iconst 0, 1) := by decide +kernel
theorem dX8_both0_13 : decode cX8_both0 13 = .ok (.iconst 0, 1) := by decide +kernel
theorem dX8_both0_14 : decode cX8_both0 14 = .ok (.iconst 0, 1) := by decide +kernel
theorem dX8_both0_15 : decode cX8_both0 15 = .ok (.iconst 0, 1) := by decide +kernel
theorem dX8_both0_16 : decode cX8_both0 16 = .ok (.iconst 0, 1) := by decide +kernel
theorem dX8_both0_17 : decode cX8_both0 17 = .ok (.invokevirtual 179, 3) := by decide +kernel
theorem dX8_both0_20 : decode cX8_both0 20 = .ok (.ifCond .eq 29, 3) := by decide +kernel
theorem dX8_both0_23 : decode cX8_both0 23 = .ok (.aload_n 0, 1) := by decide +kernel
theorem dX8_both0_24 : decode cX8_both0 24 = .ok (.invokevirtual 176, 3) := by decide +kernel
theorem dX8_both0_27 : decode cX8_both0 27 = .ok (.aload_n 0, 1) := by decide +kernel
theorem dX8_both0_28 : decode cX8_both0 28 = .ok (.invokevirtual 315, 3) := by decide +kernel
theorem dX8_both0_31 : decode cX8_both0 31 = .ok (.istore_n 2, 1) := by decide +kernel
theorem dX8_both0_32 : decode cX8_both0 32 = .ok (.iload_n 1, 1) := by decide +kernel
theorem dX8_both0_33 : decode cX8_both0 33 = .ok (.ifCond .eq 11, 3) := by decide +kernel
theorem dX8_both0_36 : decode cX8_both0 36 = .ok (.iload_n 2, 1) := by decide +kernel
theorem dX8_both0_37 : decode cX8_both0 37 = .ok (.ifCond .eq 7, 3) := by decide +kernel
theorem dX8_both0_40 : decode cX8_both0 40 = .ok (.iconst 1, 1) := by decide +kernel
theorem dX8_both0_41 : decode cX8_both0 41 = .ok (.goto 4, 3) := by decide +kernel
theorem dX8_both0_44 : decode cX8_both0 44 = .ok (.iconst 0, 1) := by decide +kernel
theorem dX8_both0_45 : decode cX8_both0 45 = .ok (.istore_n 1, 1) := by decide +kernel
theorem dX8_both0_46 : decode cX8_both0 46 = .ok (.goto (-41), 3) := by decide +kernel
theorem dX8_both0_49 : decode cX8_both0 49 = .ok (.iload_n 1, 1) := by decide +kernel
theorem dX8_both0_50 : decode cX8_both0 50 = .ok (.ireturn, 1) := by decide +kernel
theorem dX8_either0_0 : decode cX8_either0 0 = .ok (.aload_n 0, 1) := by decide +kernel
theorem dX8_either0_1 : decode cX8_either0 1 = .ok (.invokevirtual 318, 3) := by decide +kernel
theorem dX8_either0_4 : decode cX8_either0 4 = .ok (.istore_n 1, 1) := by decide +kernel
theorem dX8_either0_5 : decode cX8_either0 5 = .ok (.aload_n 0, 1) := by decide +kernel
theorem dX8_either0_6 : decode cX8_either0 6 = .ok (.bipush 111, 2) := by decide +kernel
theorem dX8_either0_8 : decode cX8_either0 8 = .ok (.bipush 114, 2) := by decide +kernel
theorem dX8_either0_10 : decode cX8_either0 10 = .ok (.iconst 0, 1) := by decide +kernel
theorem dX8_either0_11 : decode cX8_either0 11 = .ok (.iconst 0, 1) := by decide +kernel
theorem dX8_either0_12 : decode cX8_either0 12 = .ok (.iconst 0, 1) := by decide +kernel
theorem dX8_either0_13 : decode cX8_either0 13 = .ok (.iconst 0, 1) := by decide +kernel
theorem dX8_either0_14 : decode cX8_either0 14 = .ok (.iconst 0, 1) := by decide +kernel
theorem dX8_either0_15 : decode cX8_either0 15 = .ok (.iconst 0, 1) := by decide +kernel
theorem dX8_either0_16 : decode cX8_either0 16 = .ok (.invokevirtual 179, 3) := by decide +kernel
theorem dX8_either0_19 : decode cX8_either0 19 = .ok (.ifCond .eq 29, 3) := by decide +kernel
theorem dX8_either0_22 : decode cX8_either0 22 = .ok (.aload_n 0, 1) := by decide +kernel
theorem dX8_either0_23 : decode cX8_either0 23 = .ok (.invokevirtual 176, 3) := by decide +kernel
theorem dX8_either0_26 : decode cX8_either0 26 = .ok (.aload_n 0, 1) := by decide +kernel
theorem dX8_either0_27 : decode cX8_either0 27 = .ok (.invokevirtual 318, 3) := by decide +kernel
theorem dX8_either0_30 : decode cX8_either0 30 = .ok (.istore_n 2, 1) := by decide +kernel
theorem dX8_either0_31 : decode cX8_either0 31 = .ok (.iload_n 1, 1) := by decide +kernel
theorem dX8_either0_32 : decode cX8_either0 32 = .ok (.ifCond .ne 7, 3) := by decide +kernel
theorem dX8_either0_35 : decode cX8_either0 35 = .ok (.iload_n 2, 1) := by decide +kernel
theorem dX8_either0_36 : decode cX8_either0 36 = .ok (.ifCond .eq 7, 3) := by decide +kernel
theorem dX8_either0_39 : decode cX8_either0 39 = .ok (.iconst 1, 1) := by decide +kernel
theorem dX8_either0_40 : decode cX8_either0 40 = .ok (.goto 4, 3) := by decide +kernel
theorem dX8_either0_43 : decode cX8_either0 43 = .ok (.iconst 0, 1) := by decide +kernel
theorem dX8_either0_44 : decode cX8_either0 44 = .ok (.istore_n 1, 1) := by decide +kernel
theorem dX8_either0_45 : decode cX8_either0 45 = .ok (.goto (-40), 3) := by decide +kernel
theorem dX8_either0_48 : decode cX8_either0 48 = .ok (.iload_n 1, 1) := by decide +kernel
theorem dX8_either0_49 : decode cX8_either0 49 = .ok (.ireturn, 1) := by decide +kernel
theorem dX8_part_0 : decode cX8_part 0 = .ok (.iload_n 1, 1) := by decide +kernel
theorem dX8_part_1 : decode cX8_part 1 = .ok (.ifCond .ne 7, 3) := by decide +kernel
theorem dX8_part_4 : decode cX8_part 4 = .ok (.aload_n 0, 1) := by decide +kernel
theorem dX8_part_5 : decode cX8_part 5 = .ok (.invokevirtual 173, 3) := by decide +kernel
theorem dX8_part_8 : decode cX8_part 8 = .ok (.aload_n 0, 1) := by decide +kernel
theorem dX8_part_9 : decode cX8_part 9 = .ok (.getfield 159, 3) := by decide +kernel
theorem dX8_part_12 : decode cX8_part 12 = .ok (.ifCond .ne 7, 3) := by decide +kernel
theorem dX8_part_15 : decode cX8_part 15 = .ok (.aload_n 0, 1) := by decide +kernel
theorem dX8_part_16 : decode cX8_part 16 = .ok (.invokevirtual 176, 3) := by decide +kernel
theorem dX8_part_19 : decode cX8_part 19 = .ok (.aload_n 0, 1) := by decide +kernel
theorem dX8_part_20 : decode cX8_part 20 = .ok (.getfield 159, 3) := by decide +kernel
theorem dX8_part_23 : decode cX8_part 23 = .ok (.ifCond .eq 7, 3) := by decide +kernel
theorem dX8_part_26 : decode cX8_part 26 = .ok (.iconst 0, 1) := by decide +kernel
theorem dX8_part_27 : decode cX8_part 27 = .ok (.goto 7, 3) := by decide +kernel
theorem dX8_part_30 : decode cX8_part 30 = .ok (.aload_n 0, 1) := by decide +kernel
theorem dX8_part_31 : decode cX8_part 31 = .ok (.invokevirtual 321, 3) := by decide +kernel
theorem dX8_part_34 : decode cX8_part 34 = .ok (.istore_n 2, 1) := by decide +kernel
theorem dX8_part_35 : decode cX8_part 35 = .ok (.aload_n 0, 1) := by decide +kernel
theorem dX8_part_36 : decode cX8_part 36 = .ok (.bipush 59, 2) := by decide +kernel
theorem dX8_part_38 : decode cX8_part 38 = .ok (.invokevirtual 201, 3) := by decide +kernel
theorem dX8_part_41 : decode cX8_part 41 = .ok (.ifCond .ne 7, 3) := by decide +kernel
theorem dX8_part_44 : decode cX8_part 44 = .ok (.aload_n 0, 1) := by decide +kernel
theorem dX8_part_45 : decode cX8_part 45 = .ok (.invokevirtual 173, 3) := by decide +kernel
theorem dX8_part_48 : decode cX8_part 48 = .ok (.aload_n 0, 1) := by decide +kernel
theorem dX8_part_49 : decode cX8_part 49 = .ok (.getfield 159, 3) := by decide +kernel
theorem dX8_part_52 : decode cX8_part 52 = .ok (.ifCond .ne 7, 3) := by decide +kernel
theorem dX8_part_55 : decode cX8_part 55 = .ok (.aload_n 0, 1) := by decide +kernel
theorem dX8_part_56 : decode cX8_part 56 = .ok (.invokevirtual 176, 3) := by decide +kernel
theorem dX8_part_59 : decode cX8_part 59 = .ok (.iload_n 2, 1) := by decide +kernel
theorem dX8_part_60 : decode cX8_part 60 = .ok (.ireturn, 1) := by decide +kernel
theorem dX8_read_0 : decode cX8_read 0 = .ok (.aload_n 0, 1) := by decide +kernel
theorem dX8_read_1 : decode cX8_read 1 = .ok (.sipush 160, 3) := by decide +kernel
theorem dX8_read_4 : decode cX8_read 4 = .ok (.iload_n 1, 1) := by decide +kernel
theorem dX8_read_5 : decode cX8_read 5 = .ok (.imul, 1) := by decide +kernel
theorem dX8_read_6 : decode cX8_read 6 = .ok (.putfield 132, 3) := by decide +kernel
theorem dX8_read_9 : decode cX8_read 9 = .ok (.aload_n 0, 1) := by decide +kernel
theorem dX8_read_10 : decode cX8_read 10 = .ok (.aload_n 0, 1) := by decide +kernel
theorem dX8_read_11 : decode cX8_read 11 = .ok (.getfield 17, 3) := by decide +kernel
theorem dX8_read_14 : decode cX8_read 14 = .ok (.iload_n 1, 1) := by decide +kernel
theorem dX8_read_15 : decode cX8_read 15 = .ok (.iaload, 1) := by decide +kernel
theorem dX8_read_16 : decode cX8_read 16 = .ok (.putfield 129, 3) := by decide +kernel
theorem dX8_read_19 : decode cX8_read 19 = .ok (.aload_n 0, 1) := by decide +kernel
theorem dX8_read_20 : decode cX8_read 20 = .ok (.iconst 0, 1) := by decide +kernel
theorem dX8_read_21 : decode cX8_read 21 = .ok (.putfield 135, 3) := by decide +kernel
theorem dX8_read_24 : decode cX8_read 24 = .ok (.aload_n 0, 1) := by decide +kernel
theorem dX8_read_25 : decode cX8_read 25 = .ok (.iconst 0, 1) := by decide +kernel
theorem dX8_read_26 : decode cX8_read 26 = .ok (.putfield 170, 3) := by decide +kernel
theorem dX8_read_29 : decode cX8_read 29 = .ok (.aload_n 0, 1) := by decide +kernel
theorem dX8_read_30 : decode cX8_read 30 = .ok (.iconst 0, 1) := by decide +kernel
theorem dX8_read_31 : decode cX8_read 31 = .ok (.putfield 159, 3) := by decide +kernel
theorem dX8_read_34 : decode cX8_read 34 = .ok (.aload_n 0, 1) := by decide +kernel
theorem dX8_read_35 : decode cX8_read 35 = .ok (.invokevirtual 176, 3) := by decide +kernel
theorem dX8_read_38 : decode cX8_read 38 = .ok (.aload_n 0, 1) := by decide +kernel
theorem dX8_read_39 : decode cX8_read 39 = .ok (.aload_n 0, 1) := by decide +kernel
theorem dX8_read_40 : decode cX8_read 40 = .ok (.bipush 115, 2) := by decide +kernel
theorem dX8_read_42 : decode cX8_read 42 = .ok (.bipush 105, 2) := by decide +kernel
theorem dX8_read_44 : decode cX8_read 44 = .ok (.bipush 103, 2) := by decide +kernel
theorem dX8_read_46 : decode cX8_read 46 = .ok (.bipush 104, 2) := by decide +kernel
theorem dX8_read_48 : decode cX8_read 48 = .ok (.bipush 115, 2) := by decide +kernel
theorem dX8_read_50 : decode cX8_read 50 = .ok (.iconst 0, 1) := by decide +kernel
theorem dX8_read_51 : decode cX8_read 51 = .ok (.iconst 0, 1) := by decide +kernel
theorem dX8_read_52 : decode cX8_read 52 = .ok (.iconst 0, 1) := by decide +kernel
theorem dX8_read_53 : decode cX8_read 53 = .ok (.invokevirtual 179, 3) := by decide +kernel
theorem dX8_read_56 : decode cX8_read 56 = .ok (.invokevirtual 324, 3) := by decide +kernel
theorem dX8_read_59 : decode cX8_read 59 = .ok (.istore_n 3, 1) := by decide +kernel
theorem dX8_read_60 : decode cX8_read 60 = .ok (.aload_n 0, 1) := by decide +kernel
theorem dX8_read_61 : decode cX8_read 61 = .ok (.getfield 159, 3) := by decide +kernel
theorem dX8_read_64 : decode cX8_read 64 = .ok (.ifCond .eq 7, 3) := by decide +kernel
theorem dX8_read_67 : decode cX8_read 67 = .ok (.iconst 0, 1) := by decide +kernel
theorem dX8_read_68 : decode cX8_read 68 = .ok (.goto 24, 3) := by decide +kernel
theorem dX8_read_71 : decode cX8_read 71 = .ok (.aload_n 0, 1) := by decide +kernel
theorem dX8_read_72 : decode cX8_read 72 = .ok (.aload_n 0, 1) := by decide +kernel
theorem dX8_read_73 : decode cX8_read 73 = .ok (.bipush 109, 2) := by decide +kernel
theorem dX8_read_75 : decode cX8_read 75 = .ok (.bipush 111, 2) := by decide +kernel
theorem dX8_read_77 : decode cX8_read 77 = .ok (.bipush 111, 2) := by decide +kernel
theorem dX8_read_79 : decode cX8_read 79 = .ok (.bipush 100, 2) := by decide +kernel
theorem dX8_read_81 : decode cX8_read 81 = .ok (.bipush 115, 2) := by decide +kernel
theorem dX8_read_83 : decode cX8_read 83 = .ok (.iconst 0, 1) := by decide +kernel
theorem dX8_read_84 : decode cX8_read 84 = .ok (.iconst 0, 1) := by decide +kernel
theorem dX8_read_85 : decode cX8_read 85 = .ok (.iconst 0, 1) := by decide +kernel
theorem dX8_read_86 : decode cX8_read 86 = .ok (.invokevirtual 179, 3) := by decide +kernel
theorem dX8_read_89 : decode cX8_read 89 = .ok (.invokevirtual 324, 3) := by decide +kernel
theorem dX8_read_92 : decode cX8_read 92 = .ok (.istore 4, 2) := by decide +kernel
theorem dX8_read_94 : decode cX8_read 94 = .ok (.aload_n 0, 1) := by decide +kernel
theorem dX8_read_95 : decode cX8_read 95 = .ok (.getfield 159, 3) := by decide +kernel
theorem dX8_read_98 : decode cX8_read 98 = .ok (.ifCond .eq 7, 3) := by decide +kernel
theorem dX8_read_101 : decode cX8_read 101 = .ok (.iconst 0, 1) := by decide +kernel
theorem dX8_read_102 : decode cX8_read 102 = .ok (.goto 23, 3) := by decide +kernel
theorem dX8_read_105 : decode cX8_read 105 = .ok (.aload_n 0, 1) := by decide +kernel
theorem dX8_read_106 : decode cX8_read 106 = .ok (.aload_n 0, 1) := by decide +kernel
theorem dX8_read_107 : decode cX8_read 107 = .ok (.bipush 112, 2) := by decide +kernel
theorem dX8_read_109 : decode cX8_read 109 = .ok (.bipush 97, 2) := by decide +kernel
theorem dX8_read_111 : decode cX8_read 111 = .ok (.bipush 121, 2) := by decide +kernel
theorem dX8_read_113 : decode cX8_read 113 = .ok (.bipush 115, 2) := by decide +kernel
theorem dX8_read_115 : decode cX8_read 115 = .ok (.iconst 0, 1) := by decide +kernel
theorem dX8_read_116 : decode cX8_read 116 = .ok (.iconst 0, 1) := by decide +kernel
theorem dX8_read_117 : decode cX8_read 117 = .ok (.iconst 0, 1) := by decide +kernel
theorem dX8_read_118 : decode cX8_read 118 = .ok (.iconst 0, 1) := by decide +kernel
theorem dX8_read_119 : decode cX8_read 119 = .ok (.invokevirtual 179, 3) := by decide +kernel
theorem dX8_read_122 : decode cX8_read 122 = .ok (.invokevirtual 324, 3) := by decide +kernel
theorem dX8_read_125 : decode cX8_read 125 = .ok (.istore 5, 2) := by decide +kernel
theorem dX8_read_127 : decode cX8_read 127 = .ok (.aload_n 0, 1) := by decide +kernel
theorem dX8_read_128 : decode cX8_read 128 = .ok (.getfield 159, 3) := by decide +kernel
theorem dX8_read_131 : decode cX8_read 131 = .ok (.ifCond .ne 14, 3) := by decide +kernel
theorem dX8_read_134 : decode cX8_read 134 = .ok (.aload_n 0, 1) := by decide +kernel
theorem dX8_read_135 : decode cX8_read 135 = .ok (.getfield 144, 3) := by decide +kernel
theorem dX8_read_138 : decode cX8_read 138 = .ok (.ifCond .eq 7, 3) := by decide +kernel
theorem dX8_read_141 : decode cX8_read 141 = .ok (.aload_n 0, 1) := by decide +kernel
theorem dX8_read_142 : decode cX8_read 142 = .ok (.invokevirtual 173, 3) := by decide +kernel
theorem dX8_read_145 : decode cX8_read 145 = .ok (.iload_n 2, 1) := by decide +kernel
theorem dX8_read_146 : decode cX8_read 146 = .ok (.ifCond .ne 7, 3) := by decide +kernel
theorem dX8_read_149 : decode cX8_read 149 = .ok (.iload_n 3, 1) := by decide +kernel
theorem dX8_read_150 : decode cX8_read 150 = .ok (.goto 15, 3) := by decide +kernel
theorem dX8_read_153 : decode cX8_read 153 = .ok (.iload_n 2, 1) := by decide +kernel
theorem dX8_read_154 : decode cX8_read 154 = .ok (.iconst 1, 1) := by decide +kernel
theorem dX8_read_155 : decode cX8_read 155 = .ok (.if_icmp .ne 8, 3) := by decide +kernel
theorem dX8_read_158 : decode cX8_read 158 = .ok (.iload 4, 2) := by decide +kernel
theorem dX8_read_160 : decode cX8_read 160 = .ok (.goto 5, 3) := by decide +kernel
theorem dX8_read_163 : decode cX8_read 163 = .ok (.iload 5, 2) := by decide +kernel
theorem dX8_read_165 : decode cX8_read 165 = .ok (.ireturn, 1) := by decide +kernel
theorem dX8_text_0 : decode cX8_text 0 = .ok (.aload_n 0, 1) := by decide +kernel
theorem dX8_text_1 : decode cX8_text 1 = .ok (.getfield 64, 3) := by decide +kernel
theorem dX8_text_4 : decode cX8_text 4 = .ok (.bipush 6, 2) := by decide +kernel
theorem dX8_text_6 : decode cX8_text 6 = .ok (.if_icmp .ne 6, 3) := by decide +kernel
theorem dX8_text_9 : decode cX8_text 9 = .ok (.bipush (-4), 2) := by decide +kernel
theorem dX8_text_11 : decode cX8_text 11 = .ok (.ireturn, 1) := by decide +kernel
theorem dX8_text_12 : decode cX8_text 12 = .ok (.iconst 0, 1) := by decide +kernel
theorem dX8_text_13 : decode cX8_text 13 = .ok (.istore_n 1, 1) := by decide +kernel
theorem dX8_text_14 : decode cX8_text 14 = .ok (.iload_n 1, 1) := by decide +kernel
theorem dX8_text_15 : decode cX8_text 15 = .ok (.aload_n 0, 1) := by decide +kernel
theorem dX8_text_16 : decode cX8_text 16 = .ok (.getfield 126, 3) := by decide +kernel
theorem dX8_text_19 : decode cX8_text 19 = .ok (.if_icmp .ge 30, 3) := by decide +kernel
theorem dX8_text_22 : decode cX8_text 22 = .ok (.aload_n 0, 1) := by decide +kernel
theorem dX8_text_23 : decode cX8_text 23 = .ok (.getfield 13, 3) := by decide +kernel
theorem dX8_text_26 : decode cX8_text 26 = .ok (.sipush 160, 3) := by decide +kernel
theorem dX8_text_29 : decode cX8_text 29 = .ok (.aload_n 0, 1) := by decide +kernel
theorem dX8_text_30 : decode cX8_text 30 = .ok (.getfield 64, 3) := by decide +kernel
theorem dX8_text_33 : decode cX8_text 33 = .ok (.imul, 1) := by decide +kernel
theorem dX8_text_34 : decode cX8_text 34 = .ok (.iload_n 1, 1) := by decide +kernel
theorem dX8_text_35 : decode cX8_text 35 = .ok (.iadd, 1) := by decide +kernel
theorem dX8_text_36 : decode cX8_text 36 = .ok (.aload_n 0, 1) := by decide +kernel
theorem dX8_text_37 : decode cX8_text 37 = .ok (.getfield 20, 3) := by decide +kernel
theorem dX8_text_40 : decode cX8_text 40 = .ok (.iload_n 1, 1) := by decide +kernel
theorem dX8_text_41 : decode cX8_text 41 = .ok (.iaload, 1) := by decide +kernel
theorem dX8_text_42 : decode cX8_text 42 = .ok (.iastore, 1) := by decide +kernel
theorem dX8_text_43 : decode cX8_text 43 = .ok (.iinc 1 1, 3) := by decide +kernel
theorem dX8_text_46 : decode cX8_text 46 = .ok (.goto (-32), 3) := by decide +kernel
theorem dX8_text_49 : decode cX8_text 49 = .ok (.aload_n 0, 1) := by decide +kernel
theorem dX8_text_50 : decode cX8_text 50 = .ok (.getfield 17, 3) := by decide +kernel
theorem dX8_text_53 : decode cX8_text 53 = .ok (.aload_n 0, 1) := by decide +kernel
theorem dX8_text_54 : decode cX8_text 54 = .ok (.getfield 64, 3) := by decide +kernel
theorem dX8_text_57 : decode cX8_text 57 = .ok (.aload_n 0, 1) := by decide +kernel
theorem dX8_text_58 : decode cX8_text 58 = .ok (.getfield 126, 3) := by decide +kernel
theorem dX8_text_61 : decode cX8_text 61 = .ok (.iastore, 1) := by decide +kernel
theorem dX8_text_62 : decode cX8_text 62 = .ok (.aload_n 0, 1) := by decide +kernel
theorem dX8_text_63 : decode cX8_text 63 = .ok (.iconst 0, 1) := by decide +kernel
theorem dX8_text_64 : decode cX8_text 64 = .ok (.putfield 126, 3) := by decide +kernel
theorem dX8_text_67 : decode cX8_text 67 = .ok (.aload_n 0, 1) := by decide +kernel
theorem dX8_text_68 : decode cX8_text 68 = .ok (.aload_n 0, 1) := by decide +kernel
theorem dX8_text_69 : decode cX8_text 69 = .ok (.getfield 64, 3) := by decide +kernel
theorem dX8_text_72 : decode cX8_text 72 = .ok (.iconst 0, 1) := by decide +kernel
theorem dX8_text_73 : decode cX8_text 73 = .ok (.invokevirtual 328, 3) := by decide +kernel
theorem dX8_text_76 : decode cX8_text 76 = .ok (.istore_n 1, 1) := by decide +kernel
theorem dX8_text_77 : decode cX8_text 77 = .ok (.aload_n 0, 1) := by decide +kernel
theorem dX8_text_78 : decode cX8_text 78 = .ok (.getfield 159, 3) := by decide +kernel
theorem dX8_text_81 : decode cX8_text 81 = .ok (.ifCond .eq 11, 3) := by decide +kernel
theorem dX8_text_84 : decode cX8_text 84 = .ok (.bipush (-100), 2) := by decide +kernel
theorem dX8_text_86 : decode cX8_text 86 = .ok (.aload_n 0, 1) := by decide +kernel
theorem dX8_text_87 : decode cX8_text 87 = .ok (.getfield 163, 3) := by decide +kernel
theorem dX8_text_90 : decode cX8_text 90 = .ok (.isub, 1) := by decide +kernel
theorem dX8_text_91 : decode cX8_text 91 = .ok (.ireturn, 1) := by decide +kernel
theorem dX8_text_92 : decode cX8_text 92 = .ok (.aload_n 0, 1) := by decide +kernel
theorem dX8_text_93 : decode cX8_text 93 = .ok (.dup, 1) := by decide +kernel
theorem dX8_text_94 : decode cX8_text 94 = .ok (.getfield 64, 3) := by decide +kernel
theorem dX8_text_97 : decode cX8_text 97 = .ok (.iconst 1, 1) := by decide +kernel
theorem dX8_text_98 : decode cX8_text 98 = .ok (.iadd, 1) := by decide +kernel
theorem dX8_text_99 : decode cX8_text 99 = .ok (.putfield 64, 3) := by decide +kernel
theorem dX8_text_102 : decode cX8_text 102 = .ok (.aload_n 0, 1) := by decide +kernel
theorem dX8_text_103 : decode cX8_text 103 = .ok (.getfield 64, 3) := by decide +kernel
theorem dX8_text_106 : decode cX8_text 106 = .ok (.iconst 1, 1) := by decide +kernel
theorem dX8_text_107 : decode cX8_text 107 = .ok (.isub, 1) := by decide +kernel
theorem dX8_text_108 : decode cX8_text 108 = .ok (.ireturn, 1) := by decide +kernel
theorem dX8_force_0 : decode cX8_force 0 = .ok (.iload_n 1, 1) := by decide +kernel
theorem dX8_force_1 : decode cX8_force 1 = .ok (.i2l, 1) := by decide +kernel
theorem dX8_force_2 : decode cX8_force 2 = .ok (.lconst 0, 1) := by decide +kernel
theorem dX8_force_3 : decode cX8_force 3 = .ok (.aload_n 0, 1) := by decide +kernel
theorem dX8_force_4 : decode cX8_force 4 = .ok (.getfield 64, 3) := by decide +kernel
theorem dX8_force_7 : decode cX8_force 7 = .ok (.iconst 1, 1) := by decide +kernel
theorem dX8_force_8 : decode cX8_force 8 = .ok (.isub, 1) := by decide +kernel
theorem dX8_force_9 : decode cX8_force 9 = .ok (.i2l, 1) := by decide +kernel
theorem dX8_force_10 : decode cX8_force 10 = .ok (.invokestatic 70, 3) := by decide +kernel
theorem dX8_force_13 : decode cX8_force 13 = .ok (.ifCond .ne 6, 3) := by decide +kernel
theorem dX8_force_16 : decode cX8_force 16 = .ok (.bipush (-2), 2) := by decide +kernel
theorem dX8_force_18 : decode cX8_force 18 = .ok (.ireturn, 1) := by decide +kernel
theorem dX8_force_19 : decode cX8_force 19 = .ok (.aload_n 0, 1) := by decide +kernel
theorem dX8_force_20 : decode cX8_force 20 = .ok (.getfield 98, 3) := by decide +kernel
theorem dX8_force_23 : decode cX8_force 23 = .ok (.istore_n 2, 1) := by decide +kernel
theorem dX8_force_24 : decode cX8_force 24 = .ok (.aload_n 0, 1) := by decide +kernel
theorem dX8_force_25 : decode cX8_force 25 = .ok (.iload_n 1, 1) := by decide +kernel
theorem dX8_force_26 : decode cX8_force 26 = .ok (.putfield 98, 3) := by decide +kernel
theorem dX8_force_29 : decode cX8_force 29 = .ok (.iload_n 2, 1) := by decide +kernel
theorem dX8_force_30 : decode cX8_force 30 = .ok (.ireturn, 1) := by decide +kernel
theorem dX8_isIn_0 : decode cX8_isIn 0 = .ok (.iload_n 1, 1) := by decide +kernel
theorem dX8_isIn_1 : decode cX8_isIn 1 = .ok (.aload_n 0, 1) := by decide +kernel
theorem dX8_isIn_2 : decode cX8_isIn 2 = .ok (.getfield 29, 3) := by decide +kernel
theorem dX8_isIn_5 : decode cX8_isIn 5 = .ok (.if_icmp .eq 24, 3) := by decide +kernel
theorem dX8_isIn_8 : decode cX8_isIn 8 = .ok (.aload_n 0, 1) := by decide +kernel
theorem dX8_isIn_9 : decode cX8_isIn 9 = .ok (.getfield 26, 3) := by decide +kernel
theorem dX8_isIn_12 : decode cX8_isIn 12 = .ok (.iconst 4, 1) := by decide +kernel
theorem dX8_isIn_13 : decode cX8_isIn 13 = .ok (.iload_n 1, 1) := by decide +kernel
theorem dX8_isIn_14 : decode cX8_isIn 14 = .ok (.imul, 1) := by decide +kernel
theorem dX8_isIn_15 : decode cX8_isIn 15 = .ok (.iconst 3, 1) := by decide +kernel
theorem dX8_isIn_16 : decode cX8_isIn 16 = .ok (.iadd, 1) := by decide +kernel
theorem dX8_isIn_17 : decode cX8_isIn 17 = .ok (.iaload, 1) := by decide +kernel
theorem dX8_isIn_18 : decode cX8_isIn 18 = .ok (.iload_n 2, 1) := by decide +kernel
theorem dX8_isIn_19 : decode cX8_isIn 19 = .ok (.ishr, 1) := by decide +kernel
theorem dX8_isIn_20 : decode cX8_isIn 20 = .ok (.iconst 1, 1) := by decide +kernel
theorem dX8_isIn_21 : decode cX8_isIn 21 = .ok (.iand, 1) := by decide +kernel
theorem dX8_isIn_22 : decode cX8_isIn 22 = .ok (.ifCond .ne 7, 3) := by decide +kernel
theorem dX8_isIn_25 : decode cX8_isIn 25 = .ok (.iconst 1, 1) := by decide +kernel
theorem dX8_isIn_26 : decode cX8_isIn 26 = .ok (.goto 4, 3) := by decide +kernel
theorem dX8_isIn_29 : decode cX8_isIn 29 = .ok (.iconst 0, 1) := by decide +kernel
theorem dX8_isIn_30 : decode cX8_isIn 30 = .ok (.ireturn, 1) := by decide +kernel
theorem dX8_beside_0 : decode cX8_beside 0 = .ok (.iconst 0, 1) := by decide +kernel
theorem dX8_beside_1 : decode cX8_beside 1 = .ok (.istore 4, 2) := by decide +kernel
theorem dX8_beside_3 : decode cX8_beside 3 = .ok (.iconst 0, 1) := by decide +kernel
theorem dX8_beside_4 : decode cX8_beside 4 = .ok (.istore 5, 2) := by decide +kernel
theorem dX8_beside_6 : decode cX8_beside 6 = .ok (.iload 5, 2) := by decide +kernel
theorem dX8_beside_8 : decode cX8_beside 8 = .ok (.aload_n 0, 1) := by decide +kernel
theorem dX8_beside_9 : decode cX8_beside 9 = .ok (.getfield 67, 3) := by decide +kernel
theorem dX8_beside_12 : decode cX8_beside 12 = .ok (.if_icmp .ge 74, 3) := by decide +kernel
theorem dX8_beside_15 : decode cX8_beside 15 = .ok (.iload 4, 2) := by decide +kernel
theorem dX8_beside_17 : decode cX8_beside 17 = .ok (.iload 5, 2) := by decide +kernel
theorem dX8_beside_19 : decode cX8_beside 19 = .ok (.iload_n 1, 1) := by decide +kernel
theorem dX8_beside_20 : decode cX8_beside 20 = .ok (.if_icmp .eq 56, 3) := by decide +kernel
theorem dX8_beside_23 : decode cX8_beside 23 = .ok (.aload_n 0, 1) := by decide +kernel
theorem dX8_beside_24 : decode cX8_beside 24 = .ok (.iload 5, 2) := by decide +kernel
theorem dX8_beside_26 : decode cX8_beside 26 = .ok (.iload_n 2, 1) := by decide +kernel
theorem dX8_beside_27 : decode cX8_beside 27 = .ok (.invokevirtual 331, 3) := by decide +kernel
theorem dX8_beside_30 : decode cX8_beside 30 = .ok (.ifCond .eq 46, 3) := by decide +kernel
theorem dX8_beside_33 : decode cX8_beside 33 = .ok (.aload_n 0, 1) := by decide +kernel
theorem dX8_beside_34 : decode cX8_beside 34 = .ok (.getfield 26, 3) := by decide +kernel
theorem dX8_beside_37 : decode cX8_beside 37 = .ok (.iconst 4, 1) := by decide +kernel
theorem dX8_beside_38 : decode cX8_beside 38 = .ok (.iload 5, 2) := by decide +kernel
theorem dX8_beside_40 : decode cX8_beside 40 = .ok (.imul, 1) := by decide +kernel
theorem dX8_beside_41 : decode cX8_beside 41 = .ok (.iconst 1, 1) := by decide +kernel
theorem dX8_beside_42 : decode cX8_beside 42 = .ok (.iadd, 1) := by decide +kernel
theorem dX8_beside_43 : decode cX8_beside 43 = .ok (.iaload, 1) := by decide +kernel
theorem dX8_beside_44 : decode cX8_beside 44 = .ok (.aload_n 0, 1) := by decide +kernel
theorem dX8_beside_45 : decode cX8_beside 45 = .ok (.getfield 26, 3) := by decide +kernel
theorem dX8_beside_48 : decode cX8_beside 48 = .ok (.iconst 4, 1) := by decide +kernel
theorem dX8_beside_49 : decode cX8_beside 49 = .ok (.iload_n 1, 1) := by decide +kernel
theorem dX8_beside_50 : decode cX8_beside 50 = .ok (.imul, 1) := by decide +kernel
theorem dX8_beside_51 : decode cX8_beside 51 = .ok (.iconst 1, 1) := by decide +kernel
theorem dX8_beside_52 : decode cX8_beside 52 = .ok (.iadd, 1) := by decide +kernel
theorem dX8_beside_53 : decode cX8_beside 53 = .ok (.iaload, 1) := by decide +kernel
theorem dX8_beside_54 : decode cX8_beside 54 = .ok (.if_icmp .ne 22, 3) := by decide +kernel
theorem dX8_beside_57 : decode cX8_beside 57 = .ok (.iload_n 3, 1) := by decide +kernel
theorem dX8_beside_58 : decode cX8_beside 58 = .ok (.ifCond .eq 14, 3) := by decide +kernel
theorem dX8_beside_61 : decode cX8_beside 61 = .ok (.aload_n 0, 1) := by decide +kernel
theorem dX8_beside_62 : decode cX8_beside 62 = .ok (.getfield 23, 3) := by decide +kernel
theorem dX8_beside_65 : decode cX8_beside 65 = .ok (.iload 5, 2) := by decide +kernel
theorem dX8_beside_67 : decode cX8_beside 67 = .ok (.iaload, 1) := by decide +kernel
theorem dX8_beside_68 : decode cX8_beside 68 = .ok (.iconst 5, 1) := by decide +kernel
theorem dX8_beside_69 : decode cX8_beside 69 = .ok (.if_icmp .ne 7, 3) := by decide +kernel
theorem dX8_beside_72 : decode cX8_beside 72 = .ok (.iconst 1, 1) := by decide +kernel
theorem dX8_beside_73 : decode cX8_beside 73 = .ok (.goto 4, 3) := by decide +kernel
theorem dX8_beside_76 : decode cX8_beside 76 = .ok (.iconst 0, 1) := by decide +kernel
theorem dX8_beside_77 : decode cX8_beside 77 = .ok (.iadd, 1) := by decide +kernel
theorem dX8_beside_78 : decode cX8_beside 78 = .ok (.istore 4, 2) := by decide +kernel
theorem dX8_beside_80 : decode cX8_beside 80 = .ok (.iinc 5 1, 3) := by decide +kernel
theorem dX8_beside_83 : decode cX8_beside 83 = .ok (.goto (-77), 3) := by decide +kernel
theorem dX8_beside_86 : decode cX8_beside 86 = .ok (.iload 4, 2) := by decide +kernel
theorem dX8_beside_88 : decode cX8_beside 88 = .ok (.ireturn, 1) := by decide +kernel
theorem dX8_looks_0 : decode cX8_looks 0 = .ok (.aload_n 0, 1) := by decide +kernel
theorem dX8_looks_1 : decode cX8_looks 1 = .ok (.iload_n 3, 1) := by decide +kernel
theorem dX8_looks_2 : decode cX8_looks 2 = .ok (.putfield 183, 3) := by decide +kernel
theorem dX8_looks_5 : decode cX8_looks 5 = .ok (.aload_n 0, 1) := by decide +kernel
theorem dX8_looks_6 : decode cX8_looks 6 = .ok (.iload_n 2, 1) := by decide +kernel
theorem dX8_looks_7 : decode cX8_looks 7 = .ok (.putfield 186, 3) := by decide +kernel
theorem dX8_looks_10 : decode cX8_looks 10 = .ok (.aload_n 0, 1) := by decide +kernel
theorem dX8_looks_11 : decode cX8_looks 11 = .ok (.aload_n 0, 1) := by decide +kernel
theorem dX8_looks_12 : decode cX8_looks 12 = .ok (.getfield 26, 3) := by decide +kernel
theorem dX8_looks_15 : decode cX8_looks 15 = .ok (.iconst 4, 1) := by decide +kernel
theorem dX8_looks_16 : decode cX8_looks 16 = .ok (.iload_n 1, 1) := by decide +kernel
theorem dX8_looks_17 : decode cX8_looks 17 = .ok (.imul, 1) := by decide +kernel
theorem dX8_looks_18 : decode cX8_looks 18 = .ok (.iaload, 1) := by decide +kernel
theorem dX8_looks_19 : decode cX8_looks 19 = .ok (.putfield 189, 3) := by decide +kernel
theorem dX8_looks_22 : decode cX8_looks 22 = .ok (.aload_n 0, 1) := by decide +kernel
theorem dX8_looks_23 : decode cX8_looks 23 = .ok (.aload_n 0, 1) := by decide +kernel
theorem dX8_looks_24 : decode cX8_looks 24 = .ok (.iload_n 1, 1) := by decide +kernel
theorem dX8_looks_25 : decode cX8_looks 25 = .ok (.iload_n 2, 1) := by decide +kernel
theorem dX8_looks_26 : decode cX8_looks 26 = .ok (.iconst 0, 1) := by decide +kernel
theorem dX8_looks_27 : decode cX8_looks 27 = .ok (.invokevirtual 334, 3) := by decide +kernel
theorem dX8_looks_30 : decode cX8_looks 30 = .ok (.putfield 192, 3) := by decide +kernel
theorem dX8_looks_33 : decode cX8_looks 33 = .ok (.aload_n 0, 1) := by decide +kernel
theorem dX8_looks_34 : decode cX8_looks 34 = .ok (.aload_n 0, 1) := by decide +kernel
theorem dX8_looks_35 : decode cX8_looks 35 = .ok (.getfield 26, 3) := by decide +kernel
theorem dX8_looks_38 : decode cX8_looks 38 = .ok (.iconst 4, 1) := by decide +kernel
theorem dX8_looks_39 : decode cX8_looks 39 = .ok (.iload_n 1, 1) := by decide +kernel
theorem dX8_looks_40 : decode cX8_looks 40 = .ok (.imul, 1) := by decide +kernel
theorem dX8_looks_41 : decode cX8_looks 41 = .ok (.iconst 1, 1) := by decide +kernel
theorem dX8_looks_42 : decode cX8_looks 42 = .ok (.iadd, 1) := by decide +kernel
theorem dX8_looks_43 : decode cX8_looks 43 = .ok (.iaload, 1) := by decide +kernel
theorem dX8_looks_44 : decode cX8_looks 44 = .ok (.putfield 195, 3) := by decide +kernel
theorem dX8_looks_47 : decode cX8_looks 47 = .ok (.aload_n 0, 1) := by decide +kernel
theorem dX8_looks_48 : decode cX8_looks 48 = .ok (.aload_n 0, 1) := by decide +kernel
theorem dX8_looks_49 : decode cX8_looks 49 = .ok (.iload_n 1, 1) := by decide +kernel
theorem dX8_looks_50 : decode cX8_looks 50 = .ok (.iload_n 2, 1) := by decide +kernel
theorem dX8_looks_51 : decode cX8_looks 51 = .ok (.iconst 1, 1) := by decide +kernel
theorem dX8_looks_52 : decode cX8_looks 52 = .ok (.invokevirtual 334, 3) := by decide +kernel
theorem dX8_looks_55 : decode cX8_looks 55 = .ok (.putfield 198, 3) := by decide +kernel
theorem dX8_looks_58 : decode cX8_looks 58 = .ok (.return_, 1) := by decide +kernel
theorem dX8_sighsOf_0 : decode cX8_sighsOf 0 = .ok (.aload_n 0, 1) := by decide +kernel
theorem dX8_sighsOf_1 : decode cX8_sighsOf 1 = .ok (.getfield 23, 3) := by decide +kernel
theorem dX8_sighsOf_4 : decode cX8_sighsOf 4 = .ok (.iload_n 1, 1) := by decide +kernel
theorem dX8_sighsOf_5 : decode cX8_sighsOf 5 = .ok (.iaload, 1) := by decide +kernel
theorem dX8_sighsOf_6 : decode cX8_sighsOf 6 = .ok (.istore_n 3, 1) := by decide +kernel
theorem dX8_sighsOf_7 : decode cX8_sighsOf 7 = .ok (.aload_n 0, 1) := by decide +kernel
theorem dX8_sighsOf_8 : decode cX8_sighsOf 8 = .ok (.aload_n 0, 1) := by decide +kernel
theorem dX8_sighsOf_9 : decode cX8_sighsOf 9 = .ok (.getfield 98, 3) := by decide +kernel
theorem dX8_sighsOf_12 : decode cX8_sighsOf 12 = .ok (.iconst 0, 1) := by decide +kernel
theorem dX8_sighsOf_13 : decode cX8_sighsOf 13 = .ok (.invokevirtual 328, 3) := by decide +kernel
theorem dX8_sighsOf_16 : decode cX8_sighsOf 16 = .ok (.iconst 0, 1) := by decide +kernel
theorem dX8_sighsOf_17 : decode cX8_sighsOf 17 = .ok (.bipush 99, 2) := by decide +kernel
theorem dX8_sighsOf_19 : decode cX8_sighsOf 19 = .ok (.invokestatic 338, 3) := by decide +kernel
theorem dX8_sighsOf_22 : decode cX8_sighsOf 22 = .ok (.istore 4, 2) := by decide +kernel
theorem dX8_sighsOf_24 : decode cX8_sighsOf 24 = .ok (.iload_n 3, 1) := by decide +kernel
theorem dX8_sighsOf_25 : decode cX8_sighsOf 25 = .ok (.iconst 1, 1) := by decide +kernel
theorem dX8_sighsOf_26 : decode cX8_sighsOf 26 = .ok (.if_icmp .eq 8, 3) := by decide +kernel
theorem dX8_sighsOf_29 : decode cX8_sighsOf 29 = .ok (.iload_n 3, 1) := by decide +kernel
theorem dX8_sighsOf_30 : decode cX8_sighsOf 30 = .ok (.iconst 3, 1) := by decide +kernel
theorem dX8_sighsOf_31 : decode cX8_sighsOf 31 = .ok (.if_icmp .ne 40, 3) := by decide +kernel
theorem dX8_sighsOf_34 : decode cX8_sighsOf 34 = .ok (.aload_n 0, 1) := by decide +kernel
theorem dX8_sighsOf_35 : decode cX8_sighsOf 35 = .ok (.getfield 95, 3) := by decide +kernel
theorem dX8_sighsOf_38 : decode cX8_sighsOf 38 = .ok (.bipush 10, 2) := by decide +kernel
theorem dX8_sighsOf_40 : decode cX8_sighsOf 40 = .ok (.aload_n 0, 1) := by decide +kernel
theorem dX8_sighsOf_41 : decode cX8_sighsOf 41 = .ok (.getfield 26, 3) := by decide +kernel
theorem dX8_sighsOf_44 : decode cX8_sighsOf 44 = .ok (.iconst 4, 1) := by decide +kernel
theorem dX8_sighsOf_45 : decode cX8_sighsOf 45 = .ok (.iload_n 1, 1) := by decide +kernel
theorem dX8_sighsOf_46 : decode cX8_sighsOf 46 = .ok (.imul, 1) := by decide +kernel
theorem dX8_sighsOf_47 : decode cX8_sighsOf 47 = .ok (.iaload, 1) := by decide +kernel
theorem dX8_sighsOf_48 : decode cX8_sighsOf 48 = .ok (.imul, 1) := by decide +kernel
theorem dX8_sighsOf_49 : decode cX8_sighsOf 49 = .ok (.if_icmp .ge 7, 3) := by decide +kernel
theorem dX8_sighsOf_52 : decode cX8_sighsOf 52 = .ok (.iconst 0, 1) := by decide +kernel
theorem dX8_sighsOf_53 : decode cX8_sighsOf 53 = .ok (.goto 17, 3) := by decide +kernel
theorem dX8_sighsOf_56 : decode cX8_sighsOf 56 = .ok (.iload_n 3, 1) := by decide +kernel
theorem dX8_sighsOf_57 : decode cX8_sighsOf 57 = .ok (.iconst 3, 1) := by decide +kernel
theorem dX8_sighsOf_58 : decode cX8_sighsOf 58 = .ok (.if_icmp .ne 10, 3) := by decide +kernel
theorem dX8_sighsOf_61 : decode cX8_sighsOf 61 = .ok (.iload 4, 2) := by decide +kernel
theorem dX8_sighsOf_63 : decode cX8_sighsOf 63 = .ok (.iconst 2, 1) := by decide +kernel
theorem dX8_sighsOf_64 : decode cX8_sighsOf 64 = .ok (.idiv, 1) := by decide +kernel
theorem dX8_sighsOf_65 : decode cX8_sighsOf 65 = .ok (.goto 5, 3) := by decide +kernel
theorem dX8_sighsOf_68 : decode cX8_sighsOf 68 = .ok (.iload 4, 2) := by decide +kernel
theorem dX8_sighsOf_70 : decode cX8_sighsOf 70 = .ok (.ireturn, 1) := by decide +kernel
theorem dX8_sighsOf_71 : decode cX8_sighsOf 71 = .ok (.iload_n 3, 1) := by decide +kernel
theorem dX8_sighsOf_72 : decode cX8_sighsOf 72 = .ok (.iconst 2, 1) := by decide +kernel
theorem dX8_sighsOf_73 : decode cX8_sighsOf 73 = .ok (.if_icmp .eq 14, 3) := by decide +kernel
theorem dX8_sighsOf_76 : decode cX8_sighsOf 76 = .ok (.iload_n 3, 1) := by decide +kernel
theorem dX8_sighsOf_77 : decode cX8_sighsOf 77 = .ok (.iconst 4, 1) := by decide +kernel
theorem dX8_sighsOf_78 : decode cX8_sighsOf 78 = .ok (.if_icmp .ne 16, 3) := by decide +kernel
theorem dX8_sighsOf_81 : decode cX8_sighsOf 81 = .ok (.iload_n 2, 1) := by decide +kernel
theorem dX8_sighsOf_82 : decode cX8_sighsOf 82 = .ok (.bipush 6, 2) := by decide +kernel
theorem dX8_sighsOf_84 : decode cX8_sighsOf 84 = .ok (.if_icmp .ge 10, 3) := by decide +kernel
theorem dX8_sighsOf_87 : decode cX8_sighsOf 87 = .ok (.iconst 3, 1) := by decide +kernel
theorem dX8_sighsOf_88 : decode cX8_sighsOf 88 = .ok (.iload 4, 2) := by decide +kernel
theorem dX8_sighsOf_90 : decode cX8_sighsOf 90 = .ok (.imul, 1) := by decide +kernel
theorem dX8_sighsOf_91 : decode cX8_sighsOf 91 = .ok (.goto 13, 3) := by decide +kernel
theorem dX8_sighsOf_94 : decode cX8_sighsOf 94 = .ok (.iload_n 3, 1) := by decide +kernel
theorem dX8_sighsOf_95 : decode cX8_sighsOf 95 = .ok (.ifCond .ne 8, 3) := by decide +kernel
theorem dX8_sighsOf_98 : decode cX8_sighsOf 98 = .ok (.iload 4, 2) := by decide +kernel
theorem dX8_sighsOf_100 : decode cX8_sighsOf 100 = .ok (.goto 4, 3) := by decide +kernel
theorem dX8_sighsOf_103 : decode cX8_sighsOf 103 = .ok (.iconst 0, 1) := by decide +kernel
theorem dX8_sighsOf_104 : decode cX8_sighsOf 104 = .ok (.ireturn, 1) := by decide +kernel
theorem dX8_swaysOf_0 : decode cX8_swaysOf 0 = .ok (.aload_n 0, 1) := by decide +kernel
theorem dX8_swaysOf_1 : decode cX8_swaysOf 1 = .ok (.getfield 23, 3) := by decide +kernel
theorem dX8_swaysOf_4 : decode cX8_swaysOf 4 = .ok (.iload_n 1, 1) := by decide +kernel
theorem dX8_swaysOf_5 : decode cX8_swaysOf 5 = .ok (.iaload, 1) := by decide +kernel
theorem dX8_swaysOf_6 : decode cX8_swaysOf 6 = .ok (.istore_n 2, 1) := by decide +kernel
theorem dX8_swaysOf_7 : decode cX8_swaysOf 7 = .ok (.aload_n 0, 1) := by decide +kernel
theorem dX8_swaysOf_8 : decode cX8_swaysOf 8 = .ok (.aload_n 0, 1) := by decide +kernel
theorem dX8_swaysOf_9 : decode cX8_swaysOf 9 = .ok (.getfield 98, 3) := by decide +kernel
theorem dX8_swaysOf_12 : decode cX8_swaysOf 12 = .ok (.iconst 1, 1) := by decide +kernel
theorem dX8_swaysOf_13 : decode cX8_swaysOf 13 = .ok (.invokevirtual 328, 3) := by decide +kernel
theorem dX8_swaysOf_16 : decode cX8_swaysOf 16 = .ok (.bipush (-9), 2) := by decide +kernel
theorem dX8_swaysOf_18 : decode cX8_swaysOf 18 = .ok (.bipush 9, 2) := by decide +kernel
theorem dX8_swaysOf_20 : decode cX8_swaysOf 20 = .ok (.invokestatic 338, 3) := by decide +kernel
theorem dX8_swaysOf_23 : decode cX8_swaysOf 23 = .ok (.istore_n 3, 1) := by decide +kernel
theorem dX8_swaysOf_24 : decode cX8_swaysOf 24 = .ok (.iload_n 3, 1) := by decide +kernel
theorem dX8_swaysOf_25 : decode cX8_swaysOf 25 = .ok (.aload_n 0, 1) := by decide +kernel
theorem dX8_swaysOf_26 : decode cX8_swaysOf 26 = .ok (.getfield 198, 3) := by decide +kernel
theorem dX8_swaysOf_29 : decode cX8_swaysOf 29 = .ok (.iadd, 1) := by decide +kernel
theorem dX8_swaysOf_30 : decode cX8_swaysOf 30 = .ok (.istore 4, 2) := by decide +kernel
theorem dX8_swaysOf_32 : decode cX8_swaysOf 32 = .ok (.iload_n 2, 1) := by decide +kernel
theorem dX8_swaysOf_33 : decode cX8_swaysOf 33 = .ok (.ifCond .ne 8, 3) := by decide +kernel
theorem dX8_swaysOf_36 : decode cX8_swaysOf 36 = .ok (.iload 4, 2) := by decide +kernel
theorem dX8_swaysOf_38 : decode cX8_swaysOf 38 = .ok (.goto 57, 3) := by decide +kernel
theorem dX8_swaysOf_41 : decode cX8_swaysOf 41 = .ok (.iload_n 2, 1) := by decide +kernel
theorem dX8_swaysOf_42 : decode cX8_swaysOf 42 = .ok (.iconst 1, 1) := by decide +kernel
theorem dX8_swaysOf_43 : decode cX8_swaysOf 43 = .ok (.if_icmp .ne 7, 3) := by decide +kernel
theorem dX8_swaysOf_46 : decode cX8_swaysOf 46 = .ok (.iload_n 3, 1) := by decide +kernel
theorem dX8_swaysOf_47 : decode cX8_swaysOf 47 = .ok (.goto 48, 3) := by decide +kernel
theorem dX8_swaysOf_50 : decode cX8_swaysOf 50 = .ok (.iload_n 2, 1) := by decide +kernel
theorem dX8_swaysOf_51 : decode cX8_swaysOf 51 = .ok (.iconst 2, 1) := by decide +kernel
theorem dX8_swaysOf_52 : decode cX8_swaysOf 52 = .ok (.if_icmp .ne 10, 3) := by decide +kernel
theorem dX8_swaysOf_55 : decode cX8_swaysOf 55 = .ok (.iconst 2, 1) := by decide +kernel
theorem dX8_swaysOf_56 : decode cX8_swaysOf 56 = .ok (.iload 4, 2) := by decide +kernel
theorem dX8_swaysOf_58 : decode cX8_swaysOf 58 = .ok (.imul, 1) := by decide +kernel
theorem dX8_swaysOf_59 : decode cX8_swaysOf 59 = .ok (.goto 36, 3) := by decide +kernel
theorem dX8_swaysOf_62 : decode cX8_swaysOf 62 = .ok (.iload_n 2, 1) := by decide +kernel
theorem dX8_swaysOf_63 : decode cX8_swaysOf 63 = .ok (.iconst 3, 1) := by decide +kernel
theorem dX8_swaysOf_64 : decode cX8_swaysOf 64 = .ok (.if_icmp .ne 9, 3) := by decide +kernel
theorem dX8_swaysOf_67 : decode cX8_swaysOf 67 = .ok (.iload_n 3, 1) := by decide +kernel
theorem dX8_swaysOf_68 : decode cX8_swaysOf 68 = .ok (.iconst 1, 1) := by decide +kernel
theorem dX8_swaysOf_69 : decode cX8_swaysOf 69 = .ok (.isub, 1) := by decide +kernel
theorem dX8_swaysOf_70 : decode cX8_swaysOf 70 = .ok (.goto 25, 3) := by decide +kernel
theorem dX8_swaysOf_73 : decode cX8_swaysOf 73 = .ok (.iload_n 2, 1) := by decide +kernel
theorem dX8_swaysOf_74 : decode cX8_swaysOf 74 = .ok (.iconst 4, 1) := by decide +kernel
theorem dX8_swaysOf_75 : decode cX8_swaysOf 75 = .ok (.if_icmp .ne 19, 3) := by decide +kernel
theorem dX8_swaysOf_78 : decode cX8_swaysOf 78 = .ok (.iconst 2, 1) := by decide +kernel
theorem dX8_swaysOf_79 : decode cX8_swaysOf 79 = .ok (.iload 4, 2) := by decide +kernel
theorem dX8_swaysOf_81 : decode cX8_swaysOf 81 = .ok (.imul, 1) := by decide +kernel
theorem dX8_swaysOf_82 : decode cX8_swaysOf 82 = .ok (.aload_n 0, 1) := by decide +kernel
theorem dX8_swaysOf_83 : decode cX8_swaysOf 83 = .ok (.getfield 26, 3) := by decide +kernel
theorem dX8_swaysOf_86 : decode cX8_swaysOf 86 = .ok (.iconst 4, 1) := by decide +kernel
theorem dX8_swaysOf_87 : decode cX8_swaysOf 87 = .ok (.iload_n 1, 1) := by decide +kernel
theorem dX8_swaysOf_88 : decode cX8_swaysOf 88 = .ok (.imul, 1) := by decide +kernel
theorem dX8_swaysOf_89 : decode cX8_swaysOf 89 = .ok (.iaload, 1) := by decide +kernel
theorem dX8_swaysOf_90 : decode cX8_swaysOf 90 = .ok (.iadd, 1) := by decide +kernel
theorem dX8_swaysOf_91 : decode cX8_swaysOf 91 = .ok (.goto 4, 3) := by decide +kernel
theorem dX8_swaysOf_94 : decode cX8_swaysOf 94 = .ok (.iconst 0, 1) := by decide +kernel
theorem dX8_swaysOf_95 : decode cX8_swaysOf 95 = .ok (.ireturn, 1) := by decide +kernel
theorem dX8_gathers_0 : decode cX8_gathers 0 = .ok (.iconst 0, 1) := by decide +kernel
theorem dX8_gathers_1 : decode cX8_gathers 1 = .ok (.istore_n 1, 1) := by decide +kernel
theorem dX8_gathers_2 : decode cX8_gathers 2 = .ok (.iload_n 1, 1) := by decide +kernel
theorem dX8_gathers_3 : decode cX8_gathers 3 = .ok (.aload_n 0, 1) := by decide +kernel
theorem dX8_gathers_4 : decode cX8_gathers 4 = .ok (.getfield 67, 3) := by decide +kernel
theorem dX8_gathers_7 : decode cX8_gathers 7 = .ok (.if_icmp .ge 113, 3) := by decide +kernel
theorem dX8_gathers_10 : decode cX8_gathers 10 = .ok (.aload_n 0, 1) := by decide +kernel
theorem dX8_gathers_11 : decode cX8_gathers 11 = .ok (.getfield 26, 3) := by decide +kernel
theorem dX8_gathers_14 : decode cX8_gathers 14 = .ok (.iconst 4, 1) := by decide +kernel
theorem dX8_gathers_15 : decode cX8_gathers 15 = .ok (.iload_n 1, 1) := by decide +kernel
theorem dX8_gathers_16 : decode cX8_gathers 16 = .ok (.imul, 1) := by decide +kernel
theorem dX8_gathers_17 : decode cX8_gathers 17 = .ok (.iconst 2, 1) := by decide +kernel
theorem dX8_gathers_18 : decode cX8_gathers 18 = .ok (.iadd, 1) := by decide +kernel
theorem dX8_gathers_19 : decode cX8_gathers 19 = .ok (.iaload, 1) := by decide +kernel
theorem dX8_gathers_20 : decode cX8_gathers 20 = .ok (.istore_n 2, 1) := by decide +kernel
theorem dX8_gathers_21 : decode cX8_gathers 21 = .ok (.iconst 0, 1) := by decide +kernel
theorem dX8_gathers_22 : decode cX8_gathers 22 = .ok (.istore_n 3, 1) := by decide +kernel
theorem dX8_gathers_23 : decode cX8_gathers 23 = .ok (.iload_n 3, 1) := by decide +kernel
theorem dX8_gathers_24 : decode cX8_gathers 24 = .ok (.bipush 6, 2) := by decide +kernel
theorem dX8_gathers_26 : decode cX8_gathers 26 = .ok (.if_icmp .ge 88, 3) := by decide +kernel
theorem dX8_gathers_29 : decode cX8_gathers 29 = .ok (.aload_n 0, 1) := by decide +kernel
theorem dX8_gathers_30 : decode cX8_gathers 30 = .ok (.getfield 32, 3) := by decide +kernel
theorem dX8_gathers_33 : decode cX8_gathers 33 = .ok (.bipush 6, 2) := by decide +kernel
theorem dX8_gathers_35 : decode cX8_gathers 35 = .ok (.iload_n 1, 1) := by decide +kernel
theorem dX8_gathers_36 : decode cX8_gathers 36 = .ok (.imul, 1) := by decide +kernel
theorem dX8_gathers_37 : decode cX8_gathers 37 = .ok (.iload_n 3, 1) := by decide +kernel
theorem dX8_gathers_38 : decode cX8_gathers 38 = .ok (.iadd, 1) := by decide +kernel
theorem dX8_gathers_39 : decode cX8_gathers 39 = .ok (.iload_n 2, 1) := by decide +kernel
theorem dX8_gathers_40 : decode cX8_gathers 40 = .ok (.iastore, 1) := by decide +kernel
theorem dX8_gathers_41 : decode cX8_gathers 41 = .ok (.aload_n 0, 1) := by decide +kernel
theorem dX8_gathers_42 : decode cX8_gathers 42 = .ok (.getfield 35, 3) := by decide +kernel
theorem dX8_gathers_45 : decode cX8_gathers 45 = .ok (.bipush 6, 2) := by decide +kernel
theorem dX8_gathers_47 : decode cX8_gathers 47 = .ok (.iload_n 1, 1) := by decide +kernel
theorem dX8_gathers_48 : decode cX8_gathers 48 = .ok (.imul, 1) := by decide +kernel
theorem dX8_gathers_49 : decode cX8_gathers 49 = .ok (.iload_n 3, 1) := by decide +kernel
theorem dX8_gathers_50 : decode cX8_gathers 50 = .ok (.iadd, 1) := by decide +kernel
theorem dX8_gathers_51 : decode cX8_gathers 51 = .ok (.iconst 0, 1) := by decide +kernel
theorem dX8_gathers_52 : decode cX8_gathers 52 = .ok (.iastore, 1) := by decide +kernel
theorem dX8_gathers_53 : decode cX8_gathers 53 = .ok (.iconst 1, 1) := by decide +kernel
theorem dX8_gathers_54 : decode cX8_gathers 54 = .ok (.istore 4, 2) := by decide +kernel
theorem dX8_gathers_56 : decode cX8_gathers 56 = .ok (.aload_n 0, 1) := by decide +kernel
theorem dX8_gathers_57 : decode cX8_gathers 57 = .ok (.iload_n 1, 1) := by decide +kernel
theorem dX8_gathers_58 : decode cX8_gathers 58 = .ok (.iload_n 3, 1) := by decide +kernel
theorem dX8_gathers_59 : decode cX8_gathers 59 = .ok (.invokevirtual 331, 3) := by decide +kernel
theorem dX8_gathers_62 : decode cX8_gathers 62 = .ok (.ifCond .eq 34, 3) := by decide +kernel
theorem dX8_gathers_65 : decode cX8_gathers 65 = .ok (.aload_n 0, 1) := by decide +kernel
theorem dX8_gathers_66 : decode cX8_gathers 66 = .ok (.iload_n 1, 1) := by decide +kernel
theorem dX8_gathers_67 : decode cX8_gathers 67 = .ok (.iload_n 3, 1) := by decide +kernel
theorem dX8_gathers_68 : decode cX8_gathers 68 = .ok (.iload_n 2, 1) := by decide +kernel
theorem dX8_gathers_69 : decode cX8_gathers 69 = .ok (.invokevirtual 342, 3) := by decide +kernel
theorem dX8_gathers_72 : decode cX8_gathers 72 = .ok (.aload_n 0, 1) := by decide +kernel
theorem dX8_gathers_73 : decode cX8_gathers 73 = .ok (.getfield 35, 3) := by decide +kernel
theorem dX8_gathers_76 : decode cX8_gathers 76 = .ok (.bipush 6, 2) := by decide +kernel
theorem dX8_gathers_78 : decode cX8_gathers 78 = .ok (.iload_n 1, 1) := by decide +kernel
theorem dX8_gathers_79 : decode cX8_gathers 79 = .ok (.imul, 1) := by decide +kernel
theorem dX8_gathers_80 : decode cX8_gathers 80 = .ok (.iload_n 3, 1) := by decide +kernel
theorem dX8_gathers_81 : decode cX8_gathers 81 = .ok (.iadd, 1) := by decide +kernel
theorem dX8_gathers_82 : decode cX8_gathers 82 = .ok (.aload_n 0, 1) := by decide +kernel
theorem dX8_gathers_83 : decode cX8_gathers 83 = .ok (.iload_n 1, 1) := by decide +kernel
theorem dX8_gathers_84 : decode cX8_gathers 84 = .ok (.iload_n 2, 1) := by decide +kernel
theorem dX8_gathers_85 : decode cX8_gathers 85 = .ok (.invokevirtual 345, 3) := by decide +kernel
theorem dX8_gathers_88 : decode cX8_gathers 88 = .ok (.iastore, 1) := by decide +kernel
theorem dX8_gathers_89 : decode cX8_gathers 89 = .ok (.aload_n 0, 1) := by decide +kernel
theorem dX8_gathers_90 : decode cX8_gathers 90 = .ok (.iload_n 1, 1) := by decide +kernel
theorem dX8_gathers_91 : decode cX8_gathers 91 = .ok (.invokevirtual 348, 3) := by decide +kernel
theorem dX8_gathers_94 : decode cX8_gathers 94 = .ok (.istore 4, 2) := by decide +kernel
theorem dX8_gathers_96 : decode cX8_gathers 96 = .ok (.iload_n 2, 1) := by decide +kernel
theorem dX8_gathers_97 : decode cX8_gathers 97 = .ok (.iload 4, 2) := by decide +kernel
theorem dX8_gathers_99 : decode cX8_gathers 99 = .ok (.iadd, 1) := by decide +kernel
theorem dX8_gathers_100 : decode cX8_gathers 100 = .ok (.bipush (-20), 2) := by decide +kernel
theorem dX8_gathers_102 : decode cX8_gathers 102 = .ok (.bipush 20, 2) := by decide +kernel
theorem dX8_gathers_104 : decode cX8_gathers 104 = .ok (.invokestatic 338, 3) := by decide +kernel
theorem dX8_gathers_107 : decode cX8_gathers 107 = .ok (.istore_n 2, 1) := by decide +kernel
theorem dX8_gathers_108 : decode cX8_gathers 108 = .ok (.iinc 3 1, 3) := by decide +kernel
theorem dX8_gathers_111 : decode cX8_gathers 111 = .ok (.goto (-88), 3) := by decide +kernel
theorem dX8_gathers_114 : decode cX8_gathers 114 = .ok (.iinc 1 1, 3) := by decide +kernel
theorem dX8_gathers_117 : decode cX8_gathers 117 = .ok (.goto (-115), 3) := by decide +kernel
theorem dX8_gathers_120 : decode cX8_gathers 120 = .ok (.return_, 1) := by decide +kernel
theorem dX8_reedOf_0 : decode cX8_reedOf 0 = .ok (.iconst 0, 1) := by decide +kernel
theorem dX8_reedOf_1 : decode cX8_reedOf 1 = .ok (.istore_n 3, 1) := by decide +kernel
theorem dX8_reedOf_2 : decode cX8_reedOf 2 = .ok (.iconst 0, 1) := by decide +kernel
theorem dX8_reedOf_3 : decode cX8_reedOf 3 = .ok (.istore 4, 2) := by decide +kernel
theorem dX8_reedOf_5 : decode cX8_reedOf 5 = .ok (.iload 4, 2) := by decide +kernel
theorem dX8_reedOf_7 : decode cX8_reedOf 7 = .ok (.aload_n 0, 1) := by decide +kernel
theorem dX8_reedOf_8 : decode cX8_reedOf 8 = .ok (.getfield 67, 3) := by decide +kernel
theorem dX8_reedOf_11 : decode cX8_reedOf 11 = .ok (.if_icmp .ge 43, 3) := by decide +kernel
theorem dX8_reedOf_14 : decode cX8_reedOf 14 = .ok (.iload_n 3, 1) := by decide +kernel
theorem dX8_reedOf_15 : decode cX8_reedOf 15 = .ok (.aload_n 0, 1) := by decide +kernel
theorem dX8_reedOf_16 : decode cX8_reedOf 16 = .ok (.getfield 26, 3) := by decide +kernel
theorem dX8_reedOf_19 : decode cX8_reedOf 19 = .ok (.iconst 4, 1) := by decide +kernel
theorem dX8_reedOf_20 : decode cX8_reedOf 20 = .ok (.iload 4, 2) := by decide +kernel
theorem dX8_reedOf_22 : decode cX8_reedOf 22 = .ok (.imul, 1) := by decide +kernel
theorem dX8_reedOf_23 : decode cX8_reedOf 23 = .ok (.iconst 1, 1) := by decide +kernel
theorem dX8_reedOf_24 : decode cX8_reedOf 24 = .ok (.iadd, 1) := by decide +kernel
theorem dX8_reedOf_25 : decode cX8_reedOf 25 = .ok (.iaload, 1) := by decide +kernel
theorem dX8_reedOf_26 : decode cX8_reedOf 26 = .ok (.iload_n 1, 1) := by decide +kernel
theorem dX8_reedOf_27 : decode cX8_reedOf 27 = .ok (.if_icmp .ne 18, 3) := by decide +kernel
theorem dX8_reedOf_30 : decode cX8_reedOf 30 = .ok (.aload_n 0, 1) := by decide +kernel
theorem dX8_reedOf_31 : decode cX8_reedOf 31 = .ok (.getfield 35, 3) := by decide +kernel
theorem dX8_reedOf_34 : decode cX8_reedOf 34 = .ok (.bipush 6, 2) := by decide +kernel
theorem dX8_reedOf_36 : decode cX8_reedOf 36 = .ok (.iload 4, 2) := by decide +kernel
theorem dX8_reedOf_38 : decode cX8_reedOf 38 = .ok (.imul, 1) := by decide +kernel
theorem dX8_reedOf_39 : decode cX8_reedOf 39 = .ok (.iload_n 2, 1) := by decide +kernel
theorem dX8_reedOf_40 : decode cX8_reedOf 40 = .ok (.iadd, 1) := by decide +kernel
theorem dX8_reedOf_41 : decode cX8_reedOf 41 = .ok (.iaload, 1) := by decide +kernel
theorem dX8_reedOf_42 : decode cX8_reedOf 42 = .ok (.goto 4, 3) := by decide +kernel
theorem dX8_reedOf_45 : decode cX8_reedOf 45 = .ok (.iconst 0, 1) := by decide +kernel
theorem dX8_reedOf_46 : decode cX8_reedOf 46 = .ok (.iadd, 1) := by decide +kernel
theorem dX8_reedOf_47 : decode cX8_reedOf 47 = .ok (.istore_n 3, 1) := by decide +kernel
theorem dX8_reedOf_48 : decode cX8_reedOf 48 = .ok (.iinc 4 1, 3) := by decide +kernel
theorem dX8_reedOf_51 : decode cX8_reedOf 51 = .ok (.goto (-46), 3) := by decide +kernel
theorem dX8_reedOf_54 : decode cX8_reedOf 54 = .ok (.iload_n 3, 1) := by decide +kernel
theorem dX8_reedOf_55 : decode cX8_reedOf 55 = .ok (.ireturn, 1) := by decide +kernel
theorem dX8_reed_0 : decode cX8_reed 0 = .ok (.iload_n 1, 1) := by decide +kernel
theorem dX8_reed_1 : decode cX8_reed 1 = .ok (.invokestatic 105, 3) := by decide +kernel
theorem dX8_reed_4 : decode cX8_reed 4 = .ok (.ifCond .eq 15, 3) := by decide +kernel
theorem dX8_reed_7 : decode cX8_reed 7 = .ok (.iload_n 2, 1) := by decide +kernel
theorem dX8_reed_8 : decode cX8_reed 8 = .ok (.i2l, 1) := by decide +kernel
theorem dX8_reed_9 : decode cX8_reed 9 = .ok (.lconst 0, 1) := by decide +kernel
theorem dX8_reed_10 : decode cX8_reed 10 = .ok (.ldc2_w 101, 3) := by decide +kernel
theorem dX8_reed_13 : decode cX8_reed 13 = .ok (.invokestatic 70, 3) := by decide +kernel
theorem dX8_reed_16 : decode cX8_reed 16 = .ok (.ifCond .ne 6, 3) := by decide +kernel
theorem dX8_reed_19 : decode cX8_reed 19 = .ok (.bipush (-2), 2) := by decide +kernel
theorem dX8_reed_21 : decode cX8_reed 21 = .ok (.ireturn, 1) := by decide +kernel
theorem dX8_reed_22 : decode cX8_reed 22 = .ok (.aload_n 0, 1) := by decide +kernel
theorem dX8_reed_23 : decode cX8_reed 23 = .ok (.invokevirtual 118, 3) := by decide +kernel
theorem dX8_reed_26 : decode cX8_reed 26 = .ok (.aload_n 0, 1) := by decide +kernel
theorem dX8_reed_27 : decode cX8_reed 27 = .ok (.iload_n 1, 1) := by decide +kernel
theorem dX8_reed_28 : decode cX8_reed 28 = .ok (.iload_n 2, 1) := by decide +kernel
theorem dX8_reed_29 : decode cX8_reed 29 = .ok (.invokevirtual 351, 3) := by decide +kernel
theorem dX8_reed_32 : decode cX8_reed 32 = .ok (.ireturn, 1) := by decide +kernel
theorem dX8_dueOf_0 : decode cX8_dueOf 0 = .ok (.iconst 0, 1) := by decide +kernel
theorem dX8_dueOf_1 : decode cX8_dueOf 1 = .ok (.istore_n 2, 1) := by decide +kernel
theorem dX8_dueOf_2 : decode cX8_dueOf 2 = .ok (.iconst 0, 1) := by decide +kernel
theorem dX8_dueOf_3 : decode cX8_dueOf 3 = .ok (.istore_n 3, 1) := by decide +kernel
theorem dX8_dueOf_4 : decode cX8_dueOf 4 = .ok (.iconst 0, 1) := by decide +kernel
theorem dX8_dueOf_5 : decode cX8_dueOf 5 = .ok (.istore 4, 2) := by decide +kernel
theorem dX8_dueOf_7 : decode cX8_dueOf 7 = .ok (.iload 4, 2) := by decide +kernel
theorem dX8_dueOf_9 : decode cX8_dueOf 9 = .ok (.aload_n 0, 1) := by decide +kernel
theorem dX8_dueOf_10 : decode cX8_dueOf 10 = .ok (.getfield 67, 3) := by decide +kernel
theorem dX8_dueOf_13 : decode cX8_dueOf 13 = .ok (.if_icmp .ge 81, 3) := by decide +kernel
theorem dX8_dueOf_16 : decode cX8_dueOf 16 = .ok (.iload 4, 2) := by decide +kernel
theorem dX8_dueOf_18 : decode cX8_dueOf 18 = .ok (.aload_n 0, 1) := by decide +kernel
theorem dX8_dueOf_19 : decode cX8_dueOf 19 = .ok (.getfield 29, 3) := by decide +kernel
theorem dX8_dueOf_22 : decode cX8_dueOf 22 = .ok (.if_icmp .eq 66, 3) := by decide +kernel
theorem dX8_dueOf_25 : decode cX8_dueOf 25 = .ok (.aload_n 0, 1) := by decide +kernel
theorem dX8_dueOf_26 : decode cX8_dueOf 26 = .ok (.getfield 26, 3) := by decide +kernel
theorem dX8_dueOf_29 : decode cX8_dueOf 29 = .ok (.iconst 4, 1) := by decide +kernel
theorem dX8_dueOf_30 : decode cX8_dueOf 30 = .ok (.iload 4, 2) := by decide +kernel
theorem dX8_dueOf_32 : decode cX8_dueOf 32 = .ok (.imul, 1) := by decide +kernel
theorem dX8_dueOf_33 : decode cX8_dueOf 33 = .ok (.iconst 1, 1) := by decide +kernel
theorem dX8_dueOf_34 : decode cX8_dueOf 34 = .ok (.iadd, 1) := by decide +kernel
theorem dX8_dueOf_35 : decode cX8_dueOf 35 = .ok (.iaload, 1) := by decide +kernel
theorem dX8_dueOf_36 : decode cX8_dueOf 36 = .ok (.iload_n 1, 1) := by decide +kernel
theorem dX8_dueOf_37 : decode cX8_dueOf 37 = .ok (.if_icmp .ne 51, 3) := by decide +kernel
theorem dX8_dueOf_40 : decode cX8_dueOf 40 = .ok (.iinc 3 1, 3) := by decide +kernel
theorem dX8_dueOf_43 : decode cX8_dueOf 43 = .ok (.iconst 0, 1) := by decide +kernel
theorem dX8_dueOf_44 : decode cX8_dueOf 44 = .ok (.istore 5, 2) := by decide +kernel
theorem dX8_dueOf_46 : decode cX8_dueOf 46 = .ok (.iload 5, 2) := by decide +kernel
theorem dX8_dueOf_48 : decode cX8_dueOf 48 = .ok (.bipush 6, 2) := by decide +kernel
theorem dX8_dueOf_50 : decode cX8_dueOf 50 = .ok (.if_icmp .ge 38, 3) := by decide +kernel
theorem dX8_dueOf_53 : decode cX8_dueOf 53 = .ok (.iload_n 2, 1) := by decide +kernel
theorem dX8_dueOf_54 : decode cX8_dueOf 54 = .ok (.aload_n 0, 1) := by decide +kernel
theorem dX8_dueOf_55 : decode cX8_dueOf 55 = .ok (.iload 4, 2) := by decide +kernel
theorem dX8_dueOf_57 : decode cX8_dueOf 57 = .ok (.invokevirtual 121, 3) := by decide +kernel
theorem dX8_dueOf_60 : decode cX8_dueOf 60 = .ok (.ifCond .eq 7, 3) := by decide +kernel
theorem dX8_dueOf_63 : decode cX8_dueOf 63 = .ok (.iconst 0, 1) := by decide +kernel
theorem dX8_dueOf_64 : decode cX8_dueOf 64 = .ok (.goto 16, 3) := by decide +kernel
theorem dX8_dueOf_67 : decode cX8_dueOf 67 = .ok (.aload_n 0, 1) := by decide +kernel
theorem dX8_dueOf_68 : decode cX8_dueOf 68 = .ok (.getfield 35, 3) := by decide +kernel
theorem dX8_dueOf_71 : decode cX8_dueOf 71 = .ok (.bipush 6, 2) := by decide +kernel
theorem dX8_dueOf_73 : decode cX8_dueOf 73 = .ok (.iload 4, 2) := by decide +kernel
theorem dX8_dueOf_75 : decode cX8_dueOf 75 = .ok (.imul, 1) := by decide +kernel
theorem dX8_dueOf_76 : decode cX8_dueOf 76 = .ok (.iload 5, 2) := by decide +kernel
theorem dX8_dueOf_78 : decode cX8_dueOf 78 = .ok (.iadd, 1) := by decide +kernel
theorem dX8_dueOf_79 : decode cX8_dueOf 79 = .ok (.iaload, 1) := by decide +kernel
theorem dX8_dueOf_80 : decode cX8_dueOf 80 = .ok (.iadd, 1) := by decide +kernel
theorem dX8_dueOf_81 : decode cX8_dueOf 81 = .ok (.istore_n 2, 1) := by decide +kernel
theorem dX8_dueOf_82 : decode cX8_dueOf 82 = .ok (.iinc 5 1, 3) := by decide +kernel
theorem dX8_dueOf_85 : decode cX8_dueOf 85 = .ok (.goto (-39), 3) := by decide +kernel
theorem dX8_dueOf_88 : decode cX8_dueOf 88 = .ok (.iinc 4 1, 3) := by decide +kernel
theorem dX8_dueOf_91 : decode cX8_dueOf 91 = .ok (.goto (-84), 3) := by decide +kernel
theorem dX8_dueOf_94 : decode cX8_dueOf 94 = .ok (.aload_n 0, 1) := by decide +kernel
theorem dX8_dueOf_95 : decode cX8_dueOf 95 = .ok (.iload_n 2, 1) := by decide +kernel
theorem dX8_dueOf_96 : decode cX8_dueOf 96 = .ok (.putfield 183, 3) := by decide +kernel
theorem dX8_dueOf_99 : decode cX8_dueOf 99 = .ok (.aload_n 0, 1) := by decide +kernel
theorem dX8_dueOf_100 : decode cX8_dueOf 100 = .ok (.bipush 6, 2) := by decide +kernel
theorem dX8_dueOf_102 : decode cX8_dueOf 102 = .ok (.putfield 186, 3) := by decide +kernel
theorem dX8_dueOf_105 : decode cX8_dueOf 105 = .ok (.aload_n 0, 1) := by decide +kernel
theorem dX8_dueOf_106 : decode cX8_dueOf 106 = .ok (.iconst 0, 1) := by decide +kernel
theorem dX8_dueOf_107 : decode cX8_dueOf 107 = .ok (.putfield 189, 3) := by decide +kernel
theorem dX8_dueOf_110 : decode cX8_dueOf 110 = .ok (.aload_n 0, 1) := by decide +kernel
theorem dX8_dueOf_111 : decode cX8_dueOf 111 = .ok (.iload_n 3, 1) := by decide +kernel
theorem dX8_dueOf_112 : decode cX8_dueOf 112 = .ok (.putfield 192, 3) := by decide +kernel
theorem dX8_dueOf_115 : decode cX8_dueOf 115 = .ok (.aload_n 0, 1) := by decide +kernel
theorem dX8_dueOf_116 : decode cX8_dueOf 116 = .ok (.iload_n 1, 1) := by decide +kernel
theorem dX8_dueOf_117 : decode cX8_dueOf 117 = .ok (.putfield 195, 3) := by decide +kernel
theorem dX8_dueOf_120 : decode cX8_dueOf 120 = .ok (.aload_n 0, 1) := by decide +kernel
theorem dX8_dueOf_121 : decode cX8_dueOf 121 = .ok (.iconst 0, 1) := by decide +kernel
theorem dX8_dueOf_122 : decode cX8_dueOf 122 = .ok (.putfield 198, 3) := by decide +kernel
theorem dX8_dueOf_125 : decode cX8_dueOf 125 = .ok (.aload_n 0, 1) := by decide +kernel
theorem dX8_dueOf_126 : decode cX8_dueOf 126 = .ok (.aload_n 0, 1) := by decide +kernel
theorem dX8_dueOf_127 : decode cX8_dueOf 127 = .ok (.getfield 98, 3) := by decide +kernel
theorem dX8_dueOf_130 : decode cX8_dueOf 130 = .ok (.iconst 2, 1) := by decide +kernel
theorem dX8_dueOf_131 : decode cX8_dueOf 131 = .ok (.invokevirtual 328, 3) := by decide +kernel
theorem dX8_dueOf_134 : decode cX8_dueOf 134 = .ok (.iconst 0, 1) := by decide +kernel
theorem dX8_dueOf_135 : decode cX8_dueOf 135 = .ok (.sipush 9999, 3) := by decide +kernel
theorem dX8_dueOf_138 : decode cX8_dueOf 138 = .ok (.invokestatic 338, 3) := by decide +kernel
theorem dX8_dueOf_141 : decode cX8_dueOf 141 = .ok (.ireturn, 1) := by decide +kernel
theorem dX8_allDue_0 : decode cX8_allDue 0 = .ok (.aload_n 0, 1) := by decide +kernel
theorem dX8_allDue_1 : decode cX8_allDue 1 = .ok (.invokevirtual 118, 3) := by decide +kernel
theorem dX8_allDue_4 : decode cX8_allDue 4 = .ok (.iconst 0, 1) := by decide +kernel
theorem dX8_allDue_5 : decode cX8_allDue 5 = .ok (.istore_n 1, 1) := by decide +kernel
theorem dX8_allDue_6 : decode cX8_allDue 6 = .ok (.iconst 0, 1) := by decide +kernel
theorem dX8_allDue_7 : decode cX8_allDue 7 = .ok (.istore_n 2, 1) := by decide +kernel
theorem dX8_allDue_8 : decode cX8_allDue 8 = .ok (.iload_n 2, 1) := by decide +kernel
theorem dX8_allDue_9 : decode cX8_allDue 9 = .ok (.iconst 5, 1) := by decide +kernel
theorem dX8_allDue_10 : decode cX8_allDue 10 = .ok (.if_icmp .ge 17, 3) := by decide +kernel
theorem dX8_allDue_13 : decode cX8_allDue 13 = .ok (.iload_n 1, 1) := by decide +kernel
theorem dX8_allDue_14 : decode cX8_allDue 14 = .ok (.aload_n 0, 1) := by decide +kernel
theorem dX8_allDue_15 : decode cX8_allDue 15 = .ok (.iload_n 2, 1) := by decide +kernel
theorem dX8_allDue_16 : decode cX8_allDue 16 = .ok (.invokevirtual 354, 3) := by decide +kernel
theorem dX8_allDue_19 : decode cX8_allDue 19 = .ok (.iadd, 1) := by decide +kernel
theorem dX8_allDue_20 : decode cX8_allDue 20 = .ok (.istore_n 1, 1) := by decide +kernel
theorem dX8_allDue_21 : decode cX8_allDue 21 = .ok (.iinc 2 1, 3) := by decide +kernel
theorem dX8_allDue_24 : decode cX8_allDue 24 = .ok (.goto (-16), 3) := by decide +kernel
theorem dX8_allDue_27 : decode cX8_allDue 27 = .ok (.iload_n 1, 1) := by decide +kernel
theorem dX8_allDue_28 : decode cX8_allDue 28 = .ok (.ireturn, 1) := by decide +kernel
theorem dX8_due_0 : decode cX8_due 0 = .ok (.iload_n 1, 1) := by decide +kernel
theorem dX8_due_1 : decode cX8_due 1 = .ok (.iconst (-1), 1) := by decide +kernel
theorem dX8_due_2 : decode cX8_due 2 = .ok (.if_icmp .ne 8, 3) := by decide +kernel
theorem dX8_due_5 : decode cX8_due 5 = .ok (.aload_n 0, 1) := by decide +kernel
theorem dX8_due_6 : decode cX8_due 6 = .ok (.invokevirtual 357, 3) := by decide +kernel
theorem dX8_due_9 : decode cX8_due 9 = .ok (.ireturn, 1) := by decide +kernel
theorem dX8_due_10 : decode cX8_due 10 = .ok (.iload_n 1, 1) := by decide +kernel
theorem dX8_due_11 : decode cX8_due 11 = .ok (.invokestatic 105, 3) := by decide +kernel
theorem dX8_due_14 : decode cX8_due 14 = .ok (.ifCond .ne 6, 3) := by decide +kernel
theorem dX8_due_17 : decode cX8_due 17 = .ok (.bipush (-2), 2) := by decide +kernel
theorem dX8_due_19 : decode cX8_due 19 = .ok (.ireturn, 1) := by decide +kernel
theorem dX8_due_20 : decode cX8_due 20 = .ok (.aload_n 0, 1) := by decide +kernel
theorem dX8_due_21 : decode cX8_due 21 = .ok (.invokevirtual 118, 3) := by decide +kernel
theorem dX8_due_24 : decode cX8_due 24 = .ok (.aload_n 0, 1) := by decide +kernel
theorem dX8_due_25 : decode cX8_due 25 = .ok (.iload_n 1, 1) := by decide +kernel
theorem dX8_due_26 : decode cX8_due 26 = .ok (.invokevirtual 354, 3) := by decide +kernel
theorem dX8_due_29 : decode cX8_due 29 = .ok (.ireturn, 1) := by decide +kernel
theorem dX8_night_0 : decode cX8_night 0 = .ok (.aload_n 0, 1) := by decide +kernel
theorem dX8_night_1 : decode cX8_night 1 = .ok (.getfield 95, 3) := by decide +kernel
theorem dX8_night_4 : decode cX8_night 4 = .ok (.sipush 999, 3) := by decide +kernel
theorem dX8_night_7 : decode cX8_night 7 = .ok (.if_icmp .ne 6, 3) := by decide +kernel
theorem dX8_night_10 : decode cX8_night 10 = .ok (.bipush (-3), 2) := by decide +kernel
theorem dX8_night_12 : decode cX8_night 12 = .ok (.ireturn, 1) := by decide +kernel
theorem dX8_night_13 : decode cX8_night 13 = .ok (.aload_n 0, 1) := by decide +kernel
theorem dX8_night_14 : decode cX8_night 14 = .ok (.invokevirtual 357, 3) := by decide +kernel
theorem dX8_night_17 : decode cX8_night 17 = .ok (.istore_n 1, 1) := by decide +kernel
theorem dX8_night_18 : decode cX8_night 18 = .ok (.aload_n 0, 1) := by decide +kernel
theorem dX8_night_19 : decode cX8_night 19 = .ok (.aload_n 0, 1) := by decide +kernel
theorem dX8_night_20 : decode cX8_night 20 = .ok (.getfield 360, 3) := by decide +kernel
theorem dX8_night_23 : decode cX8_night 23 = .ok (.iload_n 1, 1) := by decide +kernel
theorem dX8_night_24 : decode cX8_night 24 = .ok (.iadd, 1) := by decide +kernel
theorem dX8_night_25 : decode cX8_night 25 = .ok (.iconst 0, 1) := by decide +kernel
theorem dX8_night_26 : decode cX8_night 26 = .ok (.ldc_w 363, 3) := by decide +kernel
theorem dX8_night_29 : decode cX8_night 29 = .ok (.invokestatic 338, 3) := by decide +kernel
theorem dX8_night_32 : decode cX8_night 32 = .ok (.putfield 360, 3) := by decide +kernel
theorem dX8_night_35 : decode cX8_night 35 = .ok (.aload_n 0, 1) := by decide +kernel
theorem dX8_night_36 : decode cX8_night 36 = .ok (.dup, 1) := by decide +kernel
theorem dX8_night_37 : decode cX8_night 37 = .ok (.getfield 95, 3) := by decide +kernel
theorem dX8_night_40 : decode cX8_night 40 = .ok (.iconst 1, 1) := by decide +kernel
theorem dX8_night_41 : decode cX8_night 41 = .ok (.iadd, 1) := by decide +kernel
theorem dX8_night_42 : decode cX8_night 42 = .ok (.putfield 95, 3) := by decide +kernel
theorem dX8_night_45 : decode cX8_night 45 = .ok (.iload_n 1, 1) := by decide +kernel
theorem dX8_night_46 : decode cX8_night 46 = .ok (.ireturn, 1) := by decide +kernel
theorem dX8_loudest_0 : decode cX8_loudest 0 = .ok (.iload_n 1, 1) := by decide +kernel
theorem dX8_loudest_1 : decode cX8_loudest 1 = .ok (.i2l, 1) := by decide +kernel
theorem dX8_loudest_2 : decode cX8_loudest 2 = .ok (.lconst 0, 1) := by decide +kernel
theorem dX8_loudest_3 : decode cX8_loudest 3 = .ok (.lconst 1, 1) := by decide +kernel
theorem dX8_loudest_4 : decode cX8_loudest 4 = .ok (.invokestatic 70, 3) := by decide +kernel
theorem dX8_loudest_7 : decode cX8_loudest 7 = .ok (.ifCond .ne 6, 3) := by decide +kernel
theorem dX8_loudest_10 : decode cX8_loudest 10 = .ok (.bipush (-2), 2) := by decide +kernel
theorem dX8_loudest_12 : decode cX8_loudest 12 = .ok (.ireturn, 1) := by decide +kernel
theorem dX8_loudest_13 : decode cX8_loudest 13 = .ok (.aload_n 0, 1) := by decide +kernel
theorem dX8_loudest_14 : decode cX8_loudest 14 = .ok (.invokevirtual 118, 3) := by decide +kernel
theorem dX8_loudest_17 : decode cX8_loudest 17 = .ok (.iconst 0, 1) := by decide +kernel
theorem dX8_loudest_18 : decode cX8_loudest 18 = .ok (.istore_n 2, 1) := by decide +kernel
theorem dX8_loudest_19 : decode cX8_loudest 19 = .ok (.aload_n 0, 1) := by decide +kernel
theorem dX8_loudest_20 : decode cX8_loudest 20 = .ok (.iconst 0, 1) := by decide +kernel
theorem dX8_loudest_21 : decode cX8_loudest 21 = .ok (.iconst 0, 1) := by decide +kernel
theorem dX8_loudest_22 : decode cX8_loudest 22 = .ok (.invokevirtual 351, 3) := by decide +kernel
theorem dX8_loudest_25 : decode cX8_loudest 25 = .ok (.istore_n 3, 1) := by decide +kernel
theorem dX8_loudest_26 : decode cX8_loudest 26 = .ok (.iconst 1, 1) := by decide +kernel
theorem dX8_loudest_27 : decode cX8_loudest 27 = .ok (.istore 4, 2) := by decide +kernel
theorem dX8_loudest_29 : decode cX8_loudest 29 = .ok (.iload 4, 2) := by decide +kernel
theorem dX8_loudest_31 : decode cX8_loudest 31 = .ok (.bipush 30, 2) := by decide +kernel
theorem dX8_loudest_33 : decode cX8_loudest 33 = .ok (.if_icmp .ge 49, 3) := by decide +kernel
theorem dX8_loudest_36 : decode cX8_loudest 36 = .ok (.aload_n 0, 1) := by decide +kernel
theorem dX8_loudest_37 : decode cX8_loudest 37 = .ok (.iload 4, 2) := by decide +kernel
theorem dX8_loudest_39 : decode cX8_loudest 39 = .ok (.bipush 6, 2) := by decide +kernel
theorem dX8_loudest_41 : decode cX8_loudest 41 = .ok (.idiv, 1) := by decide +kernel
theorem dX8_loudest_42 : decode cX8_loudest 42 = .ok (.iload 4, 2) := by decide +kernel
theorem dX8_loudest_44 : decode cX8_loudest 44 = .ok (.bipush 6, 2) := by decide +kernel
theorem dX8_loudest_46 : decode cX8_loudest 46 = .ok (.irem, 1) := by decide +kernel
theorem dX8_loudest_47 : decode cX8_loudest 47 = .ok (.invokevirtual 351, 3) := by decide +kernel
theorem dX8_loudest_50 : decode cX8_loudest 50 = .ok (.istore 5, 2) := by decide +kernel
theorem dX8_loudest_52 : decode cX8_loudest 52 = .ok (.iload 5, 2) := by decide +kernel
theorem dX8_loudest_54 : decode cX8_loudest 54 = .ok (.iload_n 3, 1) := by decide +kernel
theorem dX8_loudest_55 : decode cX8_loudest 55 = .ok (.if_icmp .le 21, 3) := by decide +kernel
theorem dX8_loudest_58 : decode cX8_loudest 58 = .ok (.bipush 10, 2) := by decide +kernel
theorem dX8_loudest_60 : decode cX8_loudest 60 = .ok (.iload 4, 2) := by decide +kernel
theorem dX8_loudest_62 : decode cX8_loudest 62 = .ok (.bipush 6, 2) := by decide +kernel
theorem dX8_loudest_64 : decode cX8_loudest 64 = .ok (.idiv, 1) := by decide +kernel
theorem dX8_loudest_65 : decode cX8_loudest 65 = .ok (.imul, 1) := by decide +kernel
theorem dX8_loudest_66 : decode cX8_loudest 66 = .ok (.iload 4, 2) := by decide +kernel
theorem dX8_loudest_68 : decode cX8_loudest 68 = .ok (.bipush 6, 2) := by decide +kernel
theorem dX8_loudest_70 : decode cX8_loudest 70 = .ok (.irem, 1) := by decide +kernel
theorem dX8_loudest_71 : decode cX8_loudest 71 = .ok (.iadd, 1) := by decide +kernel
theorem dX8_loudest_72 : decode cX8_loudest 72 = .ok (.istore_n 2, 1) := by decide +kernel
theorem dX8_loudest_73 : decode cX8_loudest 73 = .ok (.iload 5, 2) := by decide +kernel
theorem dX8_loudest_75 : decode cX8_loudest 75 = .ok (.istore_n 3, 1) := by decide +kernel
theorem dX8_loudest_76 : decode cX8_loudest 76 = .ok (.iinc 4 1, 3) := by decide +kernel
theorem dX8_loudest_79 : decode cX8_loudest 79 = .ok (.goto (-50), 3) := by decide +kernel
theorem dX8_loudest_82 : decode cX8_loudest 82 = .ok (.iload_n 1, 1) := by decide +kernel
theorem dX8_loudest_83 : decode cX8_loudest 83 = .ok (.ifCond .ne 7, 3) := by decide +kernel
theorem dX8_loudest_86 : decode cX8_loudest 86 = .ok (.iload_n 2, 1) := by decide +kernel
theorem dX8_loudest_87 : decode cX8_loudest 87 = .ok (.goto 4, 3) := by decide +kernel
theorem dX8_loudest_90 : decode cX8_loudest 90 = .ok (.iload_n 3, 1) := by decide +kernel
theorem dX8_loudest_91 : decode cX8_loudest 91 = .ok (.ireturn, 1) := by decide +kernel
theorem dX8_cost_0 : decode cX8_cost 0 = .ok (.aload_n 0, 1) := by decide +kernel
theorem dX8_cost_1 : decode cX8_cost 1 = .ok (.iload_n 1, 1) := by decide +kernel
theorem dX8_cost_2 : decode cX8_cost 2 = .ok (.invokevirtual 76, 3) := by decide +kernel
theorem dX8_cost_5 : decode cX8_cost 5 = .ok (.ifCond .ne 7, 3) := by decide +kernel
theorem dX8_cost_8 : decode cX8_cost 8 = .ok (.ldc_w 364, 3) := by decide +kernel
theorem dX8_cost_11 : decode cX8_cost 11 = .ok (.ireturn, 1) := by decide +kernel
theorem dX8_cost_12 : decode cX8_cost 12 = .ok (.aload_n 0, 1) := by decide +kernel
theorem dX8_cost_13 : decode cX8_cost 13 = .ok (.invokevirtual 357, 3) := by decide +kernel
theorem dX8_cost_16 : decode cX8_cost 16 = .ok (.istore_n 2, 1) := by decide +kernel
theorem dX8_cost_17 : decode cX8_cost 17 = .ok (.aload_n 0, 1) := by decide +kernel
theorem dX8_cost_18 : decode cX8_cost 18 = .ok (.iload_n 1, 1) := by decide +kernel
theorem dX8_cost_19 : decode cX8_cost 19 = .ok (.putfield 29, 3) := by decide +kernel
theorem dX8_cost_22 : decode cX8_cost 22 = .ok (.aload_n 0, 1) := by decide +kernel
theorem dX8_cost_23 : decode cX8_cost 23 = .ok (.invokevirtual 357, 3) := by decide +kernel
theorem dX8_cost_26 : decode cX8_cost 26 = .ok (.istore_n 3, 1) := by decide +kernel
theorem dX8_cost_27 : decode cX8_cost 27 = .ok (.aload_n 0, 1) := by decide +kernel
theorem dX8_cost_28 : decode cX8_cost 28 = .ok (.iconst (-1), 1) := by decide +kernel
theorem dX8_cost_29 : decode cX8_cost 29 = .ok (.putfield 29, 3) := by decide +kernel
theorem dX8_cost_32 : decode cX8_cost 32 = .ok (.iload_n 2, 1) := by decide +kernel
theorem dX8_cost_33 : decode cX8_cost 33 = .ok (.iload_n 3, 1) := by decide +kernel
theorem dX8_cost_34 : decode cX8_cost 34 = .ok (.isub, 1) := by decide +kernel
theorem dX8_cost_35 : decode cX8_cost 35 = .ok (.ireturn, 1) := by decide +kernel
theorem dX8_begins_0 : decode cX8_begins 0 = .ok (.aload_n 0, 1) := by decide +kernel
theorem dX8_begins_1 : decode cX8_begins 1 = .ok (.iconst (-1), 1) := by decide +kernel
theorem dX8_begins_2 : decode cX8_begins 2 = .ok (.putfield 365, 3) := by decide +kernel
theorem dX8_begins_5 : decode cX8_begins 5 = .ok (.aload_n 0, 1) := by decide +kernel
theorem dX8_begins_6 : decode cX8_begins 6 = .ok (.aload_n 0, 1) := by decide +kernel
theorem dX8_begins_7 : decode cX8_begins 7 = .ok (.invokevirtual 357, 3) := by decide +kernel
theorem dX8_begins_10 : decode cX8_begins 10 = .ok (.putfield 368, 3) := by decide +kernel
theorem dX8_begins_13 : decode cX8_begins 13 = .ok (.return_, 1) := by decide +kernel
theorem dX8_looksAt_0 : decode cX8_looksAt 0 = .ok (.aload_n 0, 1) := by decide +kernel
theorem dX8_looksAt_1 : decode cX8_looksAt 1 = .ok (.invokevirtual 357, 3) := by decide +kernel
theorem dX8_looksAt_4 : decode cX8_looksAt 4 = .ok (.istore_n 2, 1) := by decide +kernel
theorem dX8_looksAt_5 : decode cX8_looksAt 5 = .ok (.iload_n 2, 1) := by decide +kernel
theorem dX8_looksAt_6 : decode cX8_looksAt 6 = .ok (.aload_n 0, 1) := by decide +kernel
theorem dX8_looksAt_7 : decode cX8_looksAt 7 = .ok (.getfield 368, 3) := by decide +kernel
theorem dX8_looksAt_10 : decode cX8_looksAt 10 = .ok (.if_icmp .ge 13, 3) := by decide +kernel
theorem dX8_looksAt_13 : decode cX8_looksAt 13 = .ok (.aload_n 0, 1) := by decide +kernel
theorem dX8_looksAt_14 : decode cX8_looksAt 14 = .ok (.iload_n 1, 1) := by decide +kernel
theorem dX8_looksAt_15 : decode cX8_looksAt 15 = .ok (.putfield 365, 3) := by decide +kernel
theorem dX8_looksAt_18 : decode cX8_looksAt 18 = .ok (.aload_n 0, 1) := by decide +kernel
theorem dX8_looksAt_19 : decode cX8_looksAt 19 = .ok (.iload_n 2, 1) := by decide +kernel
theorem dX8_looksAt_20 : decode cX8_looksAt 20 = .ok (.putfield 368, 3) := by decide +kernel
theorem dX8_looksAt_23 : decode cX8_looksAt 23 = .ok (.return_, 1) := by decide +kernel
theorem dX8_moves_0 : decode cX8_moves 0 = .ok (.aload_n 0, 1) := by decide +kernel
theorem dX8_moves_1 : decode cX8_moves 1 = .ok (.invokevirtual 371, 3) := by decide +kernel
theorem dX8_moves_4 : decode cX8_moves 4 = .ok (.iconst 0, 1) := by decide +kernel
theorem dX8_moves_5 : decode cX8_moves 5 = .ok (.istore_n 2, 1) := by decide +kernel
theorem dX8_moves_6 : decode cX8_moves 6 = .ok (.iload_n 2, 1) := by decide +kernel
theorem dX8_moves_7 : decode cX8_moves 7 = .ok (.aload_n 0, 1) := by decide +kernel
theorem dX8_moves_8 : decode cX8_moves 8 = .ok (.getfield 67, 3) := by decide +kernel
theorem dX8_moves_11 : decode cX8_moves 11 = .ok (.if_icmp .ge 83, 3) := by decide +kernel
theorem dX8_moves_14 : decode cX8_moves 14 = .ok (.aload_n 0, 1) := by decide +kernel
theorem dX8_moves_15 : decode cX8_moves 15 = .ok (.getfield 26, 3) := by decide +kernel
theorem dX8_moves_18 : decode cX8_moves 18 = .ok (.iconst 4, 1) := by decide +kernel
theorem dX8_moves_19 : decode cX8_moves 19 = .ok (.iload_n 2, 1) := by decide +kernel
theorem dX8_moves_20 : decode cX8_moves 20 = .ok (.imul, 1) := by decide +kernel
theorem dX8_moves_21 : decode cX8_moves 21 = .ok (.iconst 1, 1) := by decide +kernel
theorem dX8_moves_22 : decode cX8_moves 22 = .ok (.iadd, 1) := by decide +kernel
theorem dX8_moves_23 : decode cX8_moves 23 = .ok (.iaload, 1) := by decide +kernel
theorem dX8_moves_24 : decode cX8_moves 24 = .ok (.istore_n 3, 1) := by decide +kernel
theorem dX8_moves_25 : decode cX8_moves 25 = .ok (.iconst 0, 1) := by decide +kernel
theorem dX8_moves_26 : decode cX8_moves 26 = .ok (.istore 4, 2) := by decide +kernel
theorem dX8_moves_28 : decode cX8_moves 28 = .ok (.iload 4, 2) := by decide +kernel
theorem dX8_moves_30 : decode cX8_moves 30 = .ok (.iconst 5, 1) := by decide +kernel
theorem dX8_moves_31 : decode cX8_moves 31 = .ok (.if_icmp .ge 46, 3) := by decide +kernel
theorem dX8_moves_34 : decode cX8_moves 34 = .ok (.iload_n 1, 1) := by decide +kernel
theorem dX8_moves_35 : decode cX8_moves 35 = .ok (.ifCond .eq 13, 3) := by decide +kernel
theorem dX8_moves_38 : decode cX8_moves 38 = .ok (.aload_n 0, 1) := by decide +kernel
theorem dX8_moves_39 : decode cX8_moves 39 = .ok (.getfield 23, 3) := by decide +kernel
theorem dX8_moves_42 : decode cX8_moves 42 = .ok (.iload_n 2, 1) := by decide +kernel
theorem dX8_moves_43 : decode cX8_moves 43 = .ok (.iaload, 1) := by decide +kernel
theorem dX8_moves_44 : decode cX8_moves 44 = .ok (.iconst 5, 1) := by decide +kernel
theorem dX8_moves_45 : decode cX8_moves 45 = .ok (.if_icmp .ne 32, 3) := by decide +kernel
theorem dX8_moves_48 : decode cX8_moves 48 = .ok (.aload_n 0, 1) := by decide +kernel
theorem dX8_moves_49 : decode cX8_moves 49 = .ok (.getfield 26, 3) := by decide +kernel
theorem dX8_moves_52 : decode cX8_moves 52 = .ok (.iconst 4, 1) := by decide +kernel
theorem dX8_moves_53 : decode cX8_moves 53 = .ok (.iload_n 2, 1) := by decide +kernel
theorem dX8_moves_54 : decode cX8_moves 54 = .ok (.imul, 1) := by decide +kernel
theorem dX8_moves_55 : decode cX8_moves 55 = .ok (.iconst 1, 1) := by decide +kernel
theorem dX8_moves_56 : decode cX8_moves 56 = .ok (.iadd, 1) := by decide +kernel
theorem dX8_moves_57 : decode cX8_moves 57 = .ok (.iload 4, 2) := by decide +kernel
theorem dX8_moves_59 : decode cX8_moves 59 = .ok (.iastore, 1) := by decide +kernel
theorem dX8_moves_60 : decode cX8_moves 60 = .ok (.aload_n 0, 1) := by decide +kernel
theorem dX8_moves_61 : decode cX8_moves 61 = .ok (.bipush 10, 2) := by decide +kernel
theorem dX8_moves_63 : decode cX8_moves 63 = .ok (.iload_n 2, 1) := by decide +kernel
theorem dX8_moves_64 : decode cX8_moves 64 = .ok (.imul, 1) := by decide +kernel
theorem dX8_moves_65 : decode cX8_moves 65 = .ok (.iload 4, 2) := by decide +kernel
theorem dX8_moves_67 : decode cX8_moves 67 = .ok (.iadd, 1) := by decide +kernel
theorem dX8_moves_68 : decode cX8_moves 68 = .ok (.invokevirtual 374, 3) := by decide +kernel
theorem dX8_moves_71 : decode cX8_moves 71 = .ok (.iinc 4 1, 3) := by decide +kernel
theorem dX8_moves_74 : decode cX8_moves 74 = .ok (.goto (-46), 3) := by decide +kernel
theorem dX8_moves_77 : decode cX8_moves 77 = .ok (.aload_n 0, 1) := by decide +kernel
theorem dX8_moves_78 : decode cX8_moves 78 = .ok (.getfield 26, 3) := by decide +kernel
theorem dX8_moves_81 : decode cX8_moves 81 = .ok (.iconst 4, 1) := by decide +kernel
theorem dX8_moves_82 : decode cX8_moves 82 = .ok (.iload_n 2, 1) := by decide +kernel
theorem dX8_moves_83 : decode cX8_moves 83 = .ok (.imul, 1) := by decide +kernel
theorem dX8_moves_84 : decode cX8_moves 84 = .ok (.iconst 1, 1) := by decide +kernel
theorem dX8_moves_85 : decode cX8_moves 85 = .ok (.iadd, 1) := by decide +kernel
theorem dX8_moves_86 : decode cX8_moves 86 = .ok (.iload_n 3, 1) := by decide +kernel
theorem dX8_moves_87 : decode cX8_moves 87 = .ok (.iastore, 1) := by decide +kernel
theorem dX8_moves_88 : decode cX8_moves 88 = .ok (.iinc 2 1, 3) := by decide +kernel
theorem dX8_moves_91 : decode cX8_moves 91 = .ok (.goto (-85), 3) := by decide +kernel
theorem dX8_moves_94 : decode cX8_moves 94 = .ok (.return_, 1) := by decide +kernel
theorem dX8_cheer_0 : decode cX8_cheer 0 = .ok (.iload_n 1, 1) := by decide +kernel
theorem dX8_cheer_1 : decode cX8_cheer 1 = .ok (.i2l, 1) := by decide +kernel
theorem dX8_cheer_2 : decode cX8_cheer 2 = .ok (.lconst 0, 1) := by decide +kernel
theorem dX8_cheer_3 : decode cX8_cheer 3 = .ok (.lconst 1, 1) := by decide +kernel
theorem dX8_cheer_4 : decode cX8_cheer 4 = .ok (.invokestatic 70, 3) := by decide +kernel
theorem dX8_cheer_7 : decode cX8_cheer 7 = .ok (.ifCond .ne 6, 3) := by decide +kernel
theorem dX8_cheer_10 : decode cX8_cheer 10 = .ok (.bipush (-2), 2) := by decide +kernel
theorem dX8_cheer_12 : decode cX8_cheer 12 = .ok (.ireturn, 1) := by decide +kernel
theorem dX8_cheer_13 : decode cX8_cheer 13 = .ok (.aload_n 0, 1) := by decide +kernel
theorem dX8_cheer_14 : decode cX8_cheer 14 = .ok (.iconst 1, 1) := by decide +kernel
theorem dX8_cheer_15 : decode cX8_cheer 15 = .ok (.invokevirtual 378, 3) := by decide +kernel
theorem dX8_cheer_18 : decode cX8_cheer 18 = .ok (.iload_n 1, 1) := by decide +kernel
theorem dX8_cheer_19 : decode cX8_cheer 19 = .ok (.ifCond .ne 10, 3) := by decide +kernel
theorem dX8_cheer_22 : decode cX8_cheer 22 = .ok (.aload_n 0, 1) := by decide +kernel
theorem dX8_cheer_23 : decode cX8_cheer 23 = .ok (.getfield 365, 3) := by decide +kernel
theorem dX8_cheer_26 : decode cX8_cheer 26 = .ok (.goto 7, 3) := by decide +kernel
theorem dX8_cheer_29 : decode cX8_cheer 29 = .ok (.aload_n 0, 1) := by decide +kernel
theorem dX8_cheer_30 : decode cX8_cheer 30 = .ok (.getfield 368, 3) := by decide +kernel
theorem dX8_cheer_33 : decode cX8_cheer 33 = .ok (.ireturn, 1) := by decide +kernel
theorem dX8_move_0 : decode cX8_move 0 = .ok (.iload_n 1, 1) := by decide +kernel
theorem dX8_move_1 : decode cX8_move 1 = .ok (.i2l, 1) := by decide +kernel
theorem dX8_move_2 : decode cX8_move 2 = .ok (.lconst 0, 1) := by decide +kernel
theorem dX8_move_3 : decode cX8_move 3 = .ok (.lconst 1, 1) := by decide +kernel
theorem dX8_move_4 : decode cX8_move 4 = .ok (.invokestatic 70, 3) := by decide +kernel
theorem dX8_move_7 : decode cX8_move 7 = .ok (.ifCond .ne 6, 3) := by decide +kernel
theorem dX8_move_10 : decode cX8_move 10 = .ok (.bipush (-2), 2) := by decide +kernel
theorem dX8_move_12 : decode cX8_move 12 = .ok (.ireturn, 1) := by decide +kernel
theorem dX8_move_13 : decode cX8_move 13 = .ok (.aload_n 0, 1) := by decide +kernel
theorem dX8_move_14 : decode cX8_move 14 = .ok (.iconst 0, 1) := by decide +kernel
theorem dX8_move_15 : decode cX8_move 15 = .ok (.invokevirtual 378, 3) := by decide +kernel
theorem dX8_move_18 : decode cX8_move 18 = .ok (.iload_n 1, 1) := by decide +kernel
theorem dX8_move_19 : decode cX8_move 19 = .ok (.ifCond .ne 10, 3) := by decide +kernel
theorem dX8_move_22 : decode cX8_move 22 = .ok (.aload_n 0, 1) := by decide +kernel
theorem dX8_move_23 : decode cX8_move 23 = .ok (.getfield 365, 3) := by decide +kernel
theorem dX8_move_26 : decode cX8_move 26 = .ok (.goto 7, 3) := by decide +kernel
theorem dX8_move_29 : decode cX8_move 29 = .ok (.aload_n 0, 1) := by decide +kernel
theorem dX8_move_30 : decode cX8_move 30 = .ok (.getfield 368, 3) := by decide +kernel
theorem dX8_move_33 : decode cX8_move 33 = .ok (.ireturn, 1) := by decide +kernel
theorem dX8_cart_0 : decode cX8_cart 0 = .ok (.iload_n 1, 1) := by decide +kernel
theorem dX8_cart_1 : decode cX8_cart 1 = .ok (.i2l, 1) := by decide +kernel
theorem dX8_cart_2 : decode cX8_cart 2 = .ok (.lconst 0, 1) := by decide +kernel
theorem dX8_cart_3 : decode cX8_cart 3 = .ok (.lconst 1, 1) := by decide +kernel
theorem dX8_cart_4 : decode cX8_cart 4 = .ok (.invokestatic 70, 3) := by decide +kernel
theorem dX8_cart_7 : decode cX8_cart 7 = .ok (.ifCond .ne 6, 3) := by decide +kernel
theorem dX8_cart_10 : decode cX8_cart 10 = .ok (.bipush (-2), 2) := by decide +kernel
theorem dX8_cart_12 : decode cX8_cart 12 = .ok (.ireturn, 1) := by decide +kernel
theorem dX8_cart_13 : decode cX8_cart 13 = .ok (.aload_n 0, 1) := by decide +kernel
theorem dX8_cart_14 : decode cX8_cart 14 = .ok (.invokevirtual 371, 3) := by decide +kernel
theorem dX8_cart_17 : decode cX8_cart 17 = .ok (.iconst 0, 1) := by decide +kernel
theorem dX8_cart_18 : decode cX8_cart 18 = .ok (.istore_n 2, 1) := by decide +kernel
theorem dX8_cart_19 : decode cX8_cart 19 = .ok (.iload_n 2, 1) := by decide +kernel
theorem dX8_cart_20 : decode cX8_cart 20 = .ok (.aload_n 0, 1) := by decide +kernel
theorem dX8_cart_21 : decode cX8_cart 21 = .ok (.getfield 67, 3) := by decide +kernel
theorem dX8_cart_24 : decode cX8_cart 24 = .ok (.if_icmp .ge 74, 3) := by decide +kernel
theorem dX8_cart_27 : decode cX8_cart 27 = .ok (.aload_n 0, 1) := by decide +kernel
theorem dX8_cart_28 : decode cX8_cart 28 = .ok (.getfield 26, 3) := by decide +kernel
theorem dX8_cart_31 : decode cX8_cart 31 = .ok (.iconst 4, 1) := by decide +kernel
theorem dX8_cart_32 : decode cX8_cart 32 = .ok (.iload_n 2, 1) := by decide +kernel
theorem dX8_cart_33 : decode cX8_cart 33 = .ok (.imul, 1) := by decide +kernel
theorem dX8_cart_34 : decode cX8_cart 34 = .ok (.iconst 3, 1) := by decide +kernel
theorem dX8_cart_35 : decode cX8_cart 35 = .ok (.iadd, 1) := by decide +kernel
theorem dX8_cart_36 : decode cX8_cart 36 = .ok (.iaload, 1) := by decide +kernel
theorem dX8_cart_37 : decode cX8_cart 37 = .ok (.istore_n 3, 1) := by decide +kernel
theorem dX8_cart_38 : decode cX8_cart 38 = .ok (.iconst 0, 1) := by decide +kernel
theorem dX8_cart_39 : decode cX8_cart 39 = .ok (.istore 4, 2) := by decide +kernel
theorem dX8_cart_41 : decode cX8_cart 41 = .ok (.iload 4, 2) := by decide +kernel
theorem dX8_cart_43 : decode cX8_cart 43 = .ok (.bipush 6, 2) := by decide +kernel
theorem dX8_cart_45 : decode cX8_cart 45 = .ok (.if_icmp .ge 36, 3) := by decide +kernel
theorem dX8_cart_48 : decode cX8_cart 48 = .ok (.aload_n 0, 1) := by decide +kernel
theorem dX8_cart_49 : decode cX8_cart 49 = .ok (.getfield 26, 3) := by decide +kernel
theorem dX8_cart_52 : decode cX8_cart 52 = .ok (.iconst 4, 1) := by decide +kernel
theorem dX8_cart_53 : decode cX8_cart 53 = .ok (.iload_n 2, 1) := by decide +kernel
theorem dX8_cart_54 : decode cX8_cart 54 = .ok (.imul, 1) := by decide +kernel
theorem dX8_cart_55 : decode cX8_cart 55 = .ok (.iconst 3, 1) := by decide +kernel
theorem dX8_cart_56 : decode cX8_cart 56 = .ok (.iadd, 1) := by decide +kernel
theorem dX8_cart_57 : decode cX8_cart 57 = .ok (.iload_n 3, 1) := by decide +kernel
theorem dX8_cart_58 : decode cX8_cart 58 = .ok (.iconst 1, 1) := by decide +kernel
theorem dX8_cart_59 : decode cX8_cart 59 = .ok (.iload 4, 2) := by decide +kernel
theorem dX8_cart_61 : decode cX8_cart 61 = .ok (.ishl, 1) := by decide +kernel
theorem dX8_cart_62 : decode cX8_cart 62 = .ok (.ior, 1) := by decide +kernel
theorem dX8_cart_63 : decode cX8_cart 63 = .ok (.iastore, 1) := by decide +kernel
theorem dX8_cart_64 : decode cX8_cart 64 = .ok (.aload_n 0, 1) := by decide +kernel
theorem dX8_cart_65 : decode cX8_cart 65 = .ok (.bipush 10, 2) := by decide +kernel
theorem dX8_cart_67 : decode cX8_cart 67 = .ok (.iload_n 2, 1) := by decide +kernel
theorem dX8_cart_68 : decode cX8_cart 68 = .ok (.imul, 1) := by decide +kernel
theorem dX8_cart_69 : decode cX8_cart 69 = .ok (.iload 4, 2) := by decide +kernel
theorem dX8_cart_71 : decode cX8_cart 71 = .ok (.iadd, 1) := by decide +kernel
theorem dX8_cart_72 : decode cX8_cart 72 = .ok (.invokevirtual 374, 3) := by decide +kernel
theorem dX8_cart_75 : decode cX8_cart 75 = .ok (.iinc 4 1, 3) := by decide +kernel
theorem dX8_cart_78 : decode cX8_cart 78 = .ok (.goto (-37), 3) := by decide +kernel
theorem dX8_cart_81 : decode cX8_cart 81 = .ok (.aload_n 0, 1) := by decide +kernel
theorem dX8_cart_82 : decode cX8_cart 82 = .ok (.getfield 26, 3) := by decide +kernel
theorem dX8_cart_85 : decode cX8_cart 85 = .ok (.iconst 4, 1) := by decide +kernel
theorem dX8_cart_86 : decode cX8_cart 86 = .ok (.iload_n 2, 1) := by decide +kernel
theorem dX8_cart_87 : decode cX8_cart 87 = .ok (.imul, 1) := by decide +kernel
theorem dX8_cart_88 : decode cX8_cart 88 = .ok (.iconst 3, 1) := by decide +kernel
theorem dX8_cart_89 : decode cX8_cart 89 = .ok (.iadd, 1) := by decide +kernel
theorem dX8_cart_90 : decode cX8_cart 90 = .ok (.iload_n 3, 1) := by decide +kernel
theorem dX8_cart_91 : decode cX8_cart 91 = .ok (.iastore, 1) := by decide +kernel
theorem dX8_cart_92 : decode cX8_cart 92 = .ok (.iinc 2 1, 3) := by decide +kernel
theorem dX8_cart_95 : decode cX8_cart 95 = .ok (.goto (-76), 3) := by decide +kernel
theorem dX8_cart_98 : decode cX8_cart 98 = .ok (.iload_n 1, 1) := by decide +kernel
theorem dX8_cart_99 : decode cX8_cart 99 = .ok (.ifCond .ne 10, 3) := by decide +kernel
theorem dX8_cart_102 : decode cX8_cart 102 = .ok (.aload_n 0, 1) := by decide +kernel
theorem dX8_cart_103 : decode cX8_cart 103 = .ok (.getfield 365, 3) := by decide +kernel
theorem dX8_cart_106 : decode cX8_cart 106 = .ok (.goto 7, 3) := by decide +kernel
theorem dX8_cart_109 : decode cX8_cart 109 = .ok (.aload_n 0, 1) := by decide +kernel
theorem dX8_cart_110 : decode cX8_cart 110 = .ok (.getfield 368, 3) := by decide +kernel
theorem dX8_cart_113 : decode cX8_cart 113 = .ok (.ireturn, 1) := by decide +kernel
theorem dX8_change_0 : decode cX8_change 0 = .ok (.iload_n 1, 1) := by decide +kernel
theorem dX8_change_1 : decode cX8_change 1 = .ok (.i2l, 1) := by decide +kernel
theorem dX8_change_2 : decode cX8_change 2 = .ok (.lconst 0, 1) := by decide +kernel
theorem dX8_change_3 : decode cX8_change 3 = .ok (.lconst 1, 1) := by decide +kernel
theorem dX8_change_4 : decode cX8_change 4 = .ok (.invokestatic 70, 3) := by decide +kernel
theorem dX8_change_7 : decode cX8_change 7 = .ok (.ifCond .ne 6, 3) := by decide +kernel
theorem dX8_change_10 : decode cX8_change 10 = .ok (.bipush (-2), 2) := by decide +kernel
theorem dX8_change_12 : decode cX8_change 12 = .ok (.ireturn, 1) := by decide +kernel
theorem dX8_change_13 : decode cX8_change 13 = .ok (.aload_n 0, 1) := by decide +kernel
theorem dX8_change_14 : decode cX8_change 14 = .ok (.invokevirtual 371, 3) := by decide +kernel
theorem dX8_change_17 : decode cX8_change 17 = .ok (.iconst 0, 1) := by decide +kernel
theorem dX8_change_18 : decode cX8_change 18 = .ok (.istore_n 2, 1) := by decide +kernel
theorem dX8_change_19 : decode cX8_change 19 = .ok (.iload_n 2, 1) := by decide +kernel
theorem dX8_change_20 : decode cX8_change 20 = .ok (.aload_n 0, 1) := by decide +kernel
theorem dX8_change_21 : decode cX8_change 21 = .ok (.getfield 67, 3) := by decide +kernel
theorem dX8_change_24 : decode cX8_change 24 = .ok (.if_icmp .ge 109, 3) := by decide +kernel
theorem dX8_change_27 : decode cX8_change 27 = .ok (.iload_n 2, 1) := by decide +kernel
theorem dX8_change_28 : decode cX8_change 28 = .ok (.iconst 1, 1) := by decide +kernel
theorem dX8_change_29 : decode cX8_change 29 = .ok (.iadd, 1) := by decide +kernel
theorem dX8_change_30 : decode cX8_change 30 = .ok (.istore_n 3, 1) := by decide +kernel
theorem dX8_change_31 : decode cX8_change 31 = .ok (.iload_n 3, 1) := by decide +kernel
theorem dX8_change_32 : decode cX8_change 32 = .ok (.aload_n 0, 1) := by decide +kernel
theorem dX8_change_33 : decode cX8_change 33 = .ok (.getfield 67, 3) := by decide +kernel
theorem dX8_change_36 : decode cX8_change 36 = .ok (.if_icmp .ge 91, 3) := by decide +kernel
theorem dX8_change_39 : decode cX8_change 39 = .ok (.aload_n 0, 1) := by decide +kernel
theorem dX8_change_40 : decode cX8_change 40 = .ok (.getfield 26, 3) := by decide +kernel
theorem dX8_change_43 : decode cX8_change 43 = .ok (.iconst 4, 1) := by decide +kernel
theorem dX8_change_44 : decode cX8_change 44 = .ok (.iload_n 2, 1) := by decide +kernel
theorem dX8_change_45 : decode cX8_change 45 = .ok (.imul, 1) := by decide +kernel
theorem dX8_change_46 : decode cX8_change 46 = .ok (.iconst 1, 1) := by decide +kernel
theorem dX8_change_47 : decode cX8_change 47 = .ok (.iadd, 1) := by decide +kernel
theorem dX8_change_48 : decode cX8_change 48 = .ok (.iaload, 1) := by decide +kernel
theorem dX8_change_49 : decode cX8_change 49 = .ok (.istore 4, 2) := by decide +kernel
theorem dX8_change_51 : decode cX8_change 51 = .ok (.aload_n 0, 1) := by decide +kernel
theorem dX8_change_52 : decode cX8_change 52 = .ok (.getfield 26, 3) := by decide +kernel
theorem dX8_change_55 : decode cX8_change 55 = .ok (.iconst 4, 1) := by decide +kernel
theorem dX8_change_56 : decode cX8_change 56 = .ok (.iload_n 3, 1) := by decide +kernel
theorem dX8_change_57 : decode cX8_change 57 = .ok (.imul, 1) := by decide +kernel
theorem dX8_change_58 : decode cX8_change 58 = .ok (.iconst 1, 1) := by decide +kernel
theorem dX8_change_59 : decode cX8_change 59 = .ok (.iadd, 1) := by decide +kernel
theorem dX8_change_60 : decode cX8_change 60 = .ok (.iaload, 1) := by decide +kernel
theorem dX8_change_61 : decode cX8_change 61 = .ok (.istore 5, 2) := by decide +kernel
theorem dX8_change_63 : decode cX8_change 63 = .ok (.aload_n 0, 1) := by decide +kernel
theorem dX8_change_64 : decode cX8_change 64 = .ok (.getfield 26, 3) := by decide +kernel
theorem dX8_change_67 : decode cX8_change 67 = .ok (.iconst 4, 1) := by decide +kernel
theorem dX8_change_68 : decode cX8_change 68 = .ok (.iload_n 2, 1) := by decide +kernel
theorem dX8_change_69 : decode cX8_change 69 = .ok (.imul, 1) := by decide +kernel
theorem dX8_change_70 : decode cX8_change 70 = .ok (.iconst 1, 1) := by decide +kernel
theorem dX8_change_71 : decode cX8_change 71 = .ok (.iadd, 1) := by decide +kernel
theorem dX8_change_72 : decode cX8_change 72 = .ok (.iload 5, 2) := by decide +kernel
theorem dX8_change_74 : decode cX8_change 74 = .ok (.iastore, 1) := by decide +kernel
theorem dX8_change_75 : decode cX8_change 75 = .ok (.aload_n 0, 1) := by decide +kernel
theorem dX8_change_76 : decode cX8_change 76 = .ok (.getfield 26, 3) := by decide +kernel
theorem dX8_change_79 : decode cX8_change 79 = .ok (.iconst 4, 1) := by decide +kernel
theorem dX8_change_80 : decode cX8_change 80 = .ok (.iload_n 3, 1) := by decide +kernel
theorem dX8_change_81 : decode cX8_change 81 = .ok (.imul, 1) := by decide +kernel
theorem dX8_change_82 : decode cX8_change 82 = .ok (.iconst 1, 1) := by decide +kernel
theorem dX8_change_83 : decode cX8_change 83 = .ok (.iadd, 1) := by decide +kernel
theorem dX8_change_84 : decode cX8_change 84 = .ok (.iload 4, 2) := by decide +kernel
theorem dX8_change_86 : decode cX8_change 86 = .ok (.iastore, 1) := by decide +kernel
theorem dX8_change_87 : decode cX8_change 87 = .ok (.aload_n 0, 1) := by decide +kernel
theorem dX8_change_88 : decode cX8_change 88 = .ok (.bipush 10, 2) := by decide +kernel
theorem dX8_change_90 : decode cX8_change 90 = .ok (.iload_n 2, 1) := by decide +kernel
theorem dX8_change_91 : decode cX8_change 91 = .ok (.imul, 1) := by decide +kernel
theorem dX8_change_92 : decode cX8_change 92 = .ok (.iload_n 3, 1) := by decide +kernel
theorem dX8_change_93 : decode cX8_change 93 = .ok (.iadd, 1) := by decide +kernel
theorem dX8_change_94 : decode cX8_change 94 = .ok (.invokevirtual 374, 3) := by decide +kernel
theorem dX8_change_97 : decode cX8_change 97 = .ok (.aload_n 0, 1) := by decide +kernel
theorem dX8_change_98 : decode cX8_change 98 = .ok (.getfield 26, 3) := by decide +kernel
theorem dX8_change_101 : decode cX8_change 101 = .ok (.iconst 4, 1) := by decide +kernel
theorem dX8_change_102 : decode cX8_change 102 = .ok (.iload_n 2, 1) := by decide +kernel
theorem dX8_change_103 : decode cX8_change 103 = .ok (.imul, 1) := by decide +kernel
theorem dX8_change_104 : decode cX8_change 104 = .ok (.iconst 1, 1) := by decide +kernel
theorem dX8_change_105 : decode cX8_change 105 = .ok (.iadd, 1) := by decide +kernel
theorem dX8_change_106 : decode cX8_change 106 = .ok (.iload 4, 2) := by decide +kernel
theorem dX8_change_108 : decode cX8_change 108 = .ok (.iastore, 1) := by decide +kernel
theorem dX8_change_109 : decode cX8_change 109 = .ok (.aload_n 0, 1) := by decide +kernel
theorem dX8_change_110 : decode cX8_change 110 = .ok (.getfield 26, 3) := by decide +kernel
theorem dX8_change_113 : decode cX8_change 113 = .ok (.iconst 4, 1) := by decide +kernel
theorem dX8_change_114 : decode cX8_change 114 = .ok (.iload_n 3, 1) := by decide +kernel
theorem dX8_change_115 : decode cX8_change 115 = .ok (.imul, 1) := by decide +kernel
theorem dX8_change_116 : decode cX8_change 116 = .ok (.iconst 1, 1) := by decide +kernel
theorem dX8_change_117 : decode cX8_change 117 = .ok (.iadd, 1) := by decide +kernel
theorem dX8_change_118 : decode cX8_change 118 = .ok (.iload 5, 2) := by decide +kernel
theorem dX8_change_120 : decode cX8_change 120 = .ok (.iastore, 1) := by decide +kernel
theorem dX8_change_121 : decode cX8_change 121 = .ok (.iinc 3 1, 3) := by decide +kernel
theorem dX8_change_124 : decode cX8_change 124 = .ok (.goto (-93), 3) := by decide +kernel
theorem dX8_change_127 : decode cX8_change 127 = .ok (.iinc 2 1, 3) := by decide +kernel
theorem dX8_change_130 : decode cX8_change 130 = .ok (.goto (-111), 3) := by decide +kernel
theorem dX8_change_133 : decode cX8_change 133 = .ok (.iload_n 1, 1) := by decide +kernel
theorem dX8_change_134 : decode cX8_change 134 = .ok (.ifCond .ne 10, 3) := by decide +kernel
theorem dX8_change_137 : decode cX8_change 137 = .ok (.aload_n 0, 1) := by decide +kernel
theorem dX8_change_138 : decode cX8_change 138 = .ok (.getfield 365, 3) := by decide +kernel
theorem dX8_change_141 : decode cX8_change 141 = .ok (.goto 7, 3) := by decide +kernel
theorem dX8_change_144 : decode cX8_change 144 = .ok (.aload_n 0, 1) := by decide +kernel
theorem dX8_change_145 : decode cX8_change 145 = .ok (.getfield 368, 3) := by decide +kernel
theorem dX8_change_148 : decode cX8_change 148 = .ok (.ireturn, 1) := by decide +kernel
theorem dX8_bitsOf_0 : decode cX8_bitsOf 0 = .ok (.iconst 0, 1) := by decide +kernel
theorem dX8_bitsOf_1 : decode cX8_bitsOf 1 = .ok (.istore_n 1, 1) := by decide +kernel
theorem dX8_bitsOf_2 : decode cX8_bitsOf 2 = .ok (.iload_n 0, 1) := by decide +kernel
theorem dX8_bitsOf_3 : decode cX8_bitsOf 3 = .ok (.istore_n 2, 1) := by decide +kernel
theorem dX8_bitsOf_4 : decode cX8_bitsOf 4 = .ok (.iload_n 2, 1) := by decide +kernel
theorem dX8_bitsOf_5 : decode cX8_bitsOf 5 = .ok (.ifCond .eq 15, 3) := by decide +kernel
theorem dX8_bitsOf_8 : decode cX8_bitsOf 8 = .ok (.iinc 1 1, 3) := by decide +kernel
theorem dX8_bitsOf_11 : decode cX8_bitsOf 11 = .ok (.iload_n 2, 1) := by decide +kernel
theorem dX8_bitsOf_12 : decode cX8_bitsOf 12 = .ok (.iload_n 2, 1) := by decide +kernel
theorem dX8_bitsOf_13 : decode cX8_bitsOf 13 = .ok (.iconst 1, 1) := by decide +kernel
theorem dX8_bitsOf_14 : decode cX8_bitsOf 14 = .ok (.isub, 1) := by decide +kernel
theorem dX8_bitsOf_15 : decode cX8_bitsOf 15 = .ok (.iand, 1) := by decide +kernel
theorem dX8_bitsOf_16 : decode cX8_bitsOf 16 = .ok (.istore_n 2, 1) := by decide +kernel
theorem dX8_bitsOf_17 : decode cX8_bitsOf 17 = .ok (.goto (-13), 3) := by decide +kernel
theorem dX8_bitsOf_20 : decode cX8_bitsOf 20 = .ok (.iload_n 1, 1) := by decide +kernel
theorem dX8_bitsOf_21 : decode cX8_bitsOf 21 = .ok (.ireturn, 1) := by decide +kernel
theorem dX8_few_0 : decode cX8_few 0 = .ok (.aload_n 0, 1) := by decide +kernel
theorem dX8_few_1 : decode cX8_few 1 = .ok (.iload_n 1, 1) := by decide +kernel
theorem dX8_few_2 : decode cX8_few 2 = .ok (.invokevirtual 76, 3) := by decide +kernel
theorem dX8_few_5 : decode cX8_few 5 = .ok (.ifCond .eq 15, 3) := by decide +kernel
theorem dX8_few_8 : decode cX8_few 8 = .ok (.iload_n 2, 1) := by decide +kernel
theorem dX8_few_9 : decode cX8_few 9 = .ok (.i2l, 1) := by decide +kernel
theorem dX8_few_10 : decode cX8_few 10 = .ok (.lconst 0, 1) := by decide +kernel
theorem dX8_few_11 : decode cX8_few 11 = .ok (.ldc2_w 382, 3) := by decide +kernel
theorem dX8_few_14 : decode cX8_few 14 = .ok (.invokestatic 70, 3) := by decide +kernel
theorem dX8_few_17 : decode cX8_few 17 = .ok (.ifCond .ne 6, 3) := by decide +kernel
theorem dX8_few_20 : decode cX8_few 20 = .ok (.bipush (-2), 2) := by decide +kernel
theorem dX8_few_22 : decode cX8_few 22 = .ok (.ireturn, 1) := by decide +kernel
theorem dX8_few_23 : decode cX8_few 23 = .ok (.aload_n 0, 1) := by decide +kernel
theorem dX8_few_24 : decode cX8_few 24 = .ok (.getfield 26, 3) := by decide +kernel
theorem dX8_few_27 : decode cX8_few 27 = .ok (.iconst 4, 1) := by decide +kernel
theorem dX8_few_28 : decode cX8_few 28 = .ok (.iload_n 1, 1) := by decide +kernel
theorem dX8_few_29 : decode cX8_few 29 = .ok (.imul, 1) := by decide +kernel
theorem dX8_few_30 : decode cX8_few 30 = .ok (.iconst 3, 1) := by decide +kernel
theorem dX8_few_31 : decode cX8_few 31 = .ok (.iadd, 1) := by decide +kernel
theorem dX8_few_32 : decode cX8_few 32 = .ok (.iaload, 1) := by decide +kernel
theorem dX8_few_33 : decode cX8_few 33 = .ok (.istore_n 3, 1) := by decide +kernel
theorem dX8_few_34 : decode cX8_few 34 = .ok (.iconst (-1), 1) := by decide +kernel
theorem dX8_few_35 : decode cX8_few 35 = .ok (.istore 4, 2) := by decide +kernel
theorem dX8_few_37 : decode cX8_few 37 = .ok (.iconst 0, 1) := by decide +kernel
theorem dX8_few_38 : decode cX8_few 38 = .ok (.istore 5, 2) := by decide +kernel
theorem dX8_few_40 : decode cX8_few 40 = .ok (.iload 5, 2) := by decide +kernel
theorem dX8_few_42 : decode cX8_few 42 = .ok (.bipush 64, 2) := by decide +kernel
theorem dX8_few_44 : decode cX8_few 44 = .ok (.if_icmp .ge 71, 3) := by decide +kernel
theorem dX8_few_47 : decode cX8_few 47 = .ok (.iload 4, 2) := by decide +kernel
theorem dX8_few_49 : decode cX8_few 49 = .ok (.iconst (-1), 1) := by decide +kernel
theorem dX8_few_50 : decode cX8_few 50 = .ok (.if_icmp .eq 16, 3) := by decide +kernel
theorem dX8_few_53 : decode cX8_few 53 = .ok (.iload 5, 2) := by decide +kernel
theorem dX8_few_55 : decode cX8_few 55 = .ok (.invokestatic 384, 3) := by decide +kernel
theorem dX8_few_58 : decode cX8_few 58 = .ok (.iload 4, 2) := by decide +kernel
theorem dX8_few_60 : decode cX8_few 60 = .ok (.invokestatic 384, 3) := by decide +kernel
theorem dX8_few_63 : decode cX8_few 63 = .ok (.if_icmp .ge 46, 3) := by decide +kernel
theorem dX8_few_66 : decode cX8_few 66 = .ok (.aload_n 0, 1) := by decide +kernel
theorem dX8_few_67 : decode cX8_few 67 = .ok (.getfield 26, 3) := by decide +kernel
theorem dX8_few_70 : decode cX8_few 70 = .ok (.iconst 4, 1) := by decide +kernel
theorem dX8_few_71 : decode cX8_few 71 = .ok (.iload_n 1, 1) := by decide +kernel
theorem dX8_few_72 : decode cX8_few 72 = .ok (.imul, 1) := by decide +kernel
theorem dX8_few_73 : decode cX8_few 73 = .ok (.iconst 3, 1) := by decide +kernel
theorem dX8_few_74 : decode cX8_few 74 = .ok (.iadd, 1) := by decide +kernel
theorem dX8_few_75 : decode cX8_few 75 = .ok (.iload 5, 2) := by decide +kernel
theorem dX8_few_77 : decode cX8_few 77 = .ok (.iastore, 1) := by decide +kernel
theorem dX8_few_78 : decode cX8_few 78 = .ok (.aload_n 0, 1) := by decide +kernel
theorem dX8_few_79 : decode cX8_few 79 = .ok (.invokevirtual 118, 3) := by decide +kernel
theorem dX8_few_82 : decode cX8_few 82 = .ok (.aload_n 0, 1) := by decide +kernel
theorem dX8_few_83 : decode cX8_few 83 = .ok (.aload_n 0, 1) := by decide +kernel
theorem dX8_few_84 : decode cX8_few 84 = .ok (.getfield 26, 3) := by decide +kernel
theorem dX8_few_87 : decode cX8_few 87 = .ok (.iconst 4, 1) := by decide +kernel
theorem dX8_few_88 : decode cX8_few 88 = .ok (.iload_n 1, 1) := by decide +kernel
theorem dX8_few_89 : decode cX8_few 89 = .ok (.imul, 1) := by decide +kernel
theorem dX8_few_90 : decode cX8_few 90 = .ok (.iconst 1, 1) := by decide +kernel
theorem dX8_few_91 : decode cX8_few 91 = .ok (.iadd, 1) := by decide +kernel
theorem dX8_few_92 : decode cX8_few 92 = .ok (.iaload, 1) := by decide +kernel
theorem dX8_few_93 : decode cX8_few 93 = .ok (.invokevirtual 354, 3) := by decide +kernel
theorem dX8_few_96 : decode cX8_few 96 = .ok (.iload_n 2, 1) := by decide +kernel
theorem dX8_few_97 : decode cX8_few 97 = .ok (.if_icmp .gt 8, 3) := by decide +kernel
theorem dX8_few_100 : decode cX8_few 100 = .ok (.iload 5, 2) := by decide +kernel
theorem dX8_few_102 : decode cX8_few 102 = .ok (.goto 5, 3) := by decide +kernel
theorem dX8_few_105 : decode cX8_few 105 = .ok (.iload 4, 2) := by decide +kernel
theorem dX8_few_107 : decode cX8_few 107 = .ok (.istore 4, 2) := by decide +kernel
theorem dX8_few_109 : decode cX8_few 109 = .ok (.iinc 5 1, 3) := by decide +kernel
theorem dX8_few_112 : decode cX8_few 112 = .ok (.goto (-72), 3) := by decide +kernel
theorem dX8_few_115 : decode cX8_few 115 = .ok (.aload_n 0, 1) := by decide +kernel
theorem dX8_few_116 : decode cX8_few 116 = .ok (.getfield 26, 3) := by decide +kernel
theorem dX8_few_119 : decode cX8_few 119 = .ok (.iconst 4, 1) := by decide +kernel
theorem dX8_few_120 : decode cX8_few 120 = .ok (.iload_n 1, 1) := by decide +kernel
theorem dX8_few_121 : decode cX8_few 121 = .ok (.imul, 1) := by decide +kernel
theorem dX8_few_122 : decode cX8_few 122 = .ok (.iconst 3, 1) := by decide +kernel
theorem dX8_few_123 : decode cX8_few 123 = .ok (.iadd, 1) := by decide +kernel
theorem dX8_few_124 : decode cX8_few 124 = .ok (.iload_n 3, 1) := by decide +kernel
theorem dX8_few_125 : decode cX8_few 125 = .ok (.iastore, 1) := by decide +kernel
theorem dX8_few_126 : decode cX8_few 126 = .ok (.iload 4, 2) := by decide +kernel
theorem dX8_few_128 : decode cX8_few 128 = .ok (.ireturn, 1) := by decide +kernel
theorem dX8_firstOther_0 : decode cX8_firstOther 0 = .ok (.aload_n 0, 1) := by decide +kernel
theorem dX8_firstOther_1 : decode cX8_firstOther 1 = .ok (.invokevirtual 118, 3) := by decide +kernel
theorem dX8_firstOther_4 : decode cX8_firstOther 4 = .ok (.iconst 0, 1) := by decide +kernel
theorem dX8_firstOther_5 : decode cX8_firstOther 5 = .ok (.istore_n 3, 1) := by decide +kernel
theorem dX8_firstOther_6 : decode cX8_firstOther 6 = .ok (.iload_n 3, 1) := by decide +kernel
theorem dX8_firstOther_7 : decode cX8_firstOther 7 = .ok (.bipush 6, 2) := by decide +kernel
theorem dX8_firstOther_9 : decode cX8_firstOther 9 = .ok (.if_icmp .ge 31, 3) := by decide +kernel
theorem dX8_firstOther_12 : decode cX8_firstOther 12 = .ok (.aload_n 0, 1) := by decide +kernel
theorem dX8_firstOther_13 : decode cX8_firstOther 13 = .ok (.iload_n 2, 1) := by decide +kernel
theorem dX8_firstOther_14 : decode cX8_firstOther 14 = .ok (.iload_n 3, 1) := by decide +kernel
theorem dX8_firstOther_15 : decode cX8_firstOther 15 = .ok (.invokevirtual 351, 3) := by decide +kernel
theorem dX8_firstOther_18 : decode cX8_firstOther 18 = .ok (.aload_n 0, 1) := by decide +kernel
theorem dX8_firstOther_19 : decode cX8_firstOther 19 = .ok (.getfield 57, 3) := by decide +kernel
theorem dX8_firstOther_22 : decode cX8_firstOther 22 = .ok (.bipush 40, 2) := by decide +kernel
theorem dX8_firstOther_24 : decode cX8_firstOther 24 = .ok (.iload_n 1, 1) := by decide +kernel
theorem dX8_firstOther_25 : decode cX8_firstOther 25 = .ok (.imul, 1) := by decide +kernel
theorem dX8_firstOther_26 : decode cX8_firstOther 26 = .ok (.iload_n 3, 1) := by decide +kernel
theorem dX8_firstOther_27 : decode cX8_firstOther 27 = .ok (.iadd, 1) := by decide +kernel
theorem dX8_firstOther_28 : decode cX8_firstOther 28 = .ok (.iaload, 1) := by decide +kernel
theorem dX8_firstOther_29 : decode cX8_firstOther 29 = .ok (.if_icmp .eq 5, 3) := by decide +kernel
theorem dX8_firstOther_32 : decode cX8_firstOther 32 = .ok (.iload_n 3, 1) := by decide +kernel
theorem dX8_firstOther_33 : decode cX8_firstOther 33 = .ok (.ireturn, 1) := by decide +kernel
theorem dX8_firstOther_34 : decode cX8_firstOther 34 = .ok (.iinc 3 1, 3) := by decide +kernel
theorem dX8_firstOther_37 : decode cX8_firstOther 37 = .ok (.goto (-31), 3) := by decide +kernel
theorem dX8_firstOther_40 : decode cX8_firstOther 40 = .ok (.iconst (-1), 1) := by decide +kernel
theorem dX8_firstOther_41 : decode cX8_firstOther 41 = .ok (.ireturn, 1) := by decide +kernel
theorem dX8_tells_0 : decode cX8_tells 0 = .ok (.iload_n 1, 1) := by decide +kernel
theorem dX8_tells_1 : decode cX8_tells 1 = .ok (.invokestatic 387, 3) := by decide +kernel
theorem dX8_tells_4 : decode cX8_tells 4 = .ok (.ifCond .eq 37, 3) := by decide +kernel
theorem dX8_tells_7 : decode cX8_tells 7 = .ok (.iload_n 2, 1) := by decide +kernel
theorem dX8_tells_8 : decode cX8_tells 8 = .ok (.invokestatic 105, 3) := by decide +kernel
theorem dX8_tells_11 : decode cX8_tells 11 = .ok (.ifCond .eq 30, 3) := by decide +kernel
theorem dX8_tells_14 : decode cX8_tells 14 = .ok (.iload 4, 2) := by decide +kernel
theorem dX8_tells_16 : decode cX8_tells 16 = .ok (.i2l, 1) := by decide +kernel
theorem dX8_tells_17 : decode cX8_tells 17 = .ok (.lconst 0, 1) := by decide +kernel
theorem dX8_tells_18 : decode cX8_tells 18 = .ok (.ldc2_w 390, 3) := by decide +kernel
theorem dX8_tells_21 : decode cX8_tells 21 = .ok (.invokestatic 70, 3) := by decide +kernel
theorem dX8_tells_24 : decode cX8_tells 24 = .ok (.ifCond .eq 17, 3) := by decide +kernel
theorem dX8_tells_27 : decode cX8_tells 27 = .ok (.iload 4, 2) := by decide +kernel
theorem dX8_tells_29 : decode cX8_tells 29 = .ok (.iconst 1, 1) := by decide +kernel
theorem dX8_tells_30 : decode cX8_tells 30 = .ok (.if_icmp .le 14, 3) := by decide +kernel
theorem dX8_tells_33 : decode cX8_tells 33 = .ok (.aload_n 0, 1) := by decide +kernel
theorem dX8_tells_34 : decode cX8_tells 34 = .ok (.iload_n 3, 1) := by decide +kernel
theorem dX8_tells_35 : decode cX8_tells 35 = .ok (.invokevirtual 76, 3) := by decide +kernel
theorem dX8_tells_38 : decode cX8_tells 38 = .ok (.ifCond .ne 6, 3) := by decide +kernel
theorem dX8_tells_41 : decode cX8_tells 41 = .ok (.bipush (-2), 2) := by decide +kernel
theorem dX8_tells_43 : decode cX8_tells 43 = .ok (.ireturn, 1) := by decide +kernel
theorem dX8_tells_44 : decode cX8_tells 44 = .ok (.aload_n 0, 1) := by decide +kernel
theorem dX8_tells_45 : decode cX8_tells 45 = .ok (.getfield 47, 3) := by decide +kernel
theorem dX8_tells_48 : decode cX8_tells 48 = .ok (.iload_n 1, 1) := by decide +kernel
theorem dX8_tells_49 : decode cX8_tells 49 = .ok (.baload, 1) := by decide +kernel
theorem dX8_tells_50 : decode cX8_tells 50 = .ok (.ifCond .ne 6, 3) := by decide +kernel
theorem dX8_tells_53 : decode cX8_tells 53 = .ok (.bipush (-11), 2) := by decide +kernel
theorem dX8_tells_55 : decode cX8_tells 55 = .ok (.ireturn, 1) := by decide +kernel
theorem dX8_tells_56 : decode cX8_tells 56 = .ok (.aload_n 0, 1) := by decide +kernel
theorem dX8_tells_57 : decode cX8_tells 57 = .ok (.getfield 54, 3) := by decide +kernel
theorem dX8_tells_60 : decode cX8_tells 60 = .ok (.iload_n 1, 1) := by decide +kernel
theorem dX8_tells_61 : decode cX8_tells 61 = .ok (.iaload, 1) := by decide +kernel
theorem dX8_tells_62 : decode cX8_tells 62 = .ok (.bipush 6, 2) := by decide +kernel
theorem dX8_tells_64 : decode cX8_tells 64 = .ok (.if_icmp .eq 6, 3) := by decide +kernel
theorem dX8_tells_67 : decode cX8_tells 67 = .ok (.bipush (-2), 2) := by decide +kernel
theorem dX8_tells_69 : decode cX8_tells 69 = .ok (.ireturn, 1) := by decide +kernel
theorem dX8_tells_70 : decode cX8_tells 70 = .ok (.iload 4, 2) := by decide +kernel
theorem dX8_tells_72 : decode cX8_tells 72 = .ok (.ifCond .ne 10, 3) := by decide +kernel
theorem dX8_tells_75 : decode cX8_tells 75 = .ok (.aload_n 0, 1) := by decide +kernel
theorem dX8_tells_76 : decode cX8_tells 76 = .ok (.iload_n 1, 1) := by decide +kernel
theorem dX8_tells_77 : decode cX8_tells 77 = .ok (.iload_n 2, 1) := by decide +kernel
theorem dX8_tells_78 : decode cX8_tells 78 = .ok (.invokevirtual 392, 3) := by decide +kernel
theorem dX8_tells_81 : decode cX8_tells 81 = .ok (.ireturn, 1) := by decide +kernel
theorem dX8_tells_82 : decode cX8_tells 82 = .ok (.iload 4, 2) := by decide +kernel
theorem dX8_tells_84 : decode cX8_tells 84 = .ok (.iconst 1, 1) := by decide +kernel
theorem dX8_tells_85 : decode cX8_tells 85 = .ok (.if_icmp .ne 8, 3) := by decide +kernel
theorem dX8_tells_88 : decode cX8_tells 88 = .ok (.bipush 6, 2) := by decide +kernel
theorem dX8_tells_90 : decode cX8_tells 90 = .ok (.goto 38, 3) := by decide +kernel
theorem dX8_tells_93 : decode cX8_tells 93 = .ok (.iload 4, 2) := by decide +kernel
theorem dX8_tells_95 : decode cX8_tells 95 = .ok (.iconst 2, 1) := by decide +kernel
theorem dX8_tells_96 : decode cX8_tells 96 = .ok (.if_icmp .ne 7, 3) := by decide +kernel
theorem dX8_tells_99 : decode cX8_tells 99 = .ok (.iconst 5, 1) := by decide +kernel
theorem dX8_tells_100 : decode cX8_tells 100 = .ok (.goto 28, 3) := by decide +kernel
theorem dX8_tells_103 : decode cX8_tells 103 = .ok (.iload 4, 2) := by decide +kernel
theorem dX8_tells_105 : decode cX8_tells 105 = .ok (.iconst 5, 1) := by decide +kernel
theorem dX8_tells_106 : decode cX8_tells 106 = .ok (.if_icmp .ge 10, 3) := by decide +kernel
theorem dX8_tells_109 : decode cX8_tells 109 = .ok (.iload 4, 2) := by decide +kernel
theorem dX8_tells_111 : decode cX8_tells 111 = .ok (.iconst 2, 1) := by decide +kernel
theorem dX8_tells_112 : decode cX8_tells 112 = .ok (.isub, 1) := by decide +kernel
theorem dX8_tells_113 : decode cX8_tells 113 = .ok (.goto 15, 3) := by decide +kernel
theorem dX8_tells_116 : decode cX8_tells 116 = .ok (.iload 4, 2) := by decide +kernel
theorem dX8_tells_118 : decode cX8_tells 118 = .ok (.bipush 7, 2) := by decide +kernel
theorem dX8_tells_120 : decode cX8_tells 120 = .ok (.if_icmp .ge 7, 3) := by decide +kernel
theorem dX8_tells_123 : decode cX8_tells 123 = .ok (.iconst 3, 1) := by decide +kernel
theorem dX8_tells_124 : decode cX8_tells 124 = .ok (.goto 4, 3) := by decide +kernel
theorem dX8_tells_127 : decode cX8_tells 127 = .ok (.iconst 4, 1) := by decide +kernel
theorem dX8_tells_128 : decode cX8_tells 128 = .ok (.istore 5, 2) := by decide +kernel
theorem dX8_tells_130 : decode cX8_tells 130 = .ok (.iload 5, 2) := by decide +kernel
theorem dX8_tells_132 : decode cX8_tells 132 = .ok (.bipush 6, 2) := by decide +kernel
theorem dX8_tells_134 : decode cX8_tells 134 = .ok (.if_icmp .ne 10, 3) := by decide +kernel
theorem dX8_tells_137 : decode cX8_tells 137 = .ok (.aload_n 0, 1) := by decide +kernel
theorem dX8_tells_138 : decode cX8_tells 138 = .ok (.getfield 98, 3) := by decide +kernel
theorem dX8_tells_141 : decode cX8_tells 141 = .ok (.goto 10, 3) := by decide +kernel
theorem dX8_tells_144 : decode cX8_tells 144 = .ok (.aload_n 0, 1) := by decide +kernel
theorem dX8_tells_145 : decode cX8_tells 145 = .ok (.iload_n 3, 1) := by decide +kernel
theorem dX8_tells_146 : decode cX8_tells 146 = .ok (.iload 5, 2) := by decide +kernel
theorem dX8_tells_148 : decode cX8_tells 148 = .ok (.invokevirtual 87, 3) := by decide +kernel
theorem dX8_tells_151 : decode cX8_tells 151 = .ok (.istore 6, 2) := by decide +kernel
theorem dX8_tells_153 : decode cX8_tells 153 = .ok (.iload 5, 2) := by decide +kernel
theorem dX8_tells_155 : decode cX8_tells 155 = .ok (.bipush 6, 2) := by decide +kernel
theorem dX8_tells_157 : decode cX8_tells 157 = .ok (.if_icmp .ne 12, 3) := by decide +kernel
theorem dX8_tells_160 : decode cX8_tells 160 = .ok (.aload_n 0, 1) := by decide +kernel
theorem dX8_tells_161 : decode cX8_tells 161 = .ok (.getfield 64, 3) := by decide +kernel
theorem dX8_tells_164 : decode cX8_tells 164 = .ok (.iconst 1, 1) := by decide +kernel
theorem dX8_tells_165 : decode cX8_tells 165 = .ok (.isub, 1) := by decide +kernel
theorem dX8_tells_166 : decode cX8_tells 166 = .ok (.goto 18, 3) := by decide +kernel
theorem dX8_tells_169 : decode cX8_tells 169 = .ok (.iload 5, 2) := by decide +kernel
theorem dX8_tells_171 : decode cX8_tells 171 = .ok (.iconst 5, 1) := by decide +kernel
theorem dX8_tells_172 : decode cX8_tells 172 = .ok (.if_icmp .ne 7, 3) := by decide +kernel
theorem dX8_tells_175 : decode cX8_tells 175 = .ok (.iconst 5, 1) := by decide +kernel
theorem dX8_tells_176 : decode cX8_tells 176 = .ok (.goto 8, 3) := by decide +kernel
theorem dX8_tells_179 : decode cX8_tells 179 = .ok (.iload 5, 2) := by decide +kernel
theorem dX8_tells_181 : decode cX8_tells 181 = .ok (.invokestatic 84, 3) := by decide +kernel
theorem dX8_tells_184 : decode cX8_tells 184 = .ok (.istore 7, 2) := by decide +kernel
theorem dX8_tells_186 : decode cX8_tells 186 = .ok (.iconst 0, 1) := by decide +kernel
theorem dX8_tells_187 : decode cX8_tells 187 = .ok (.istore 8, 2) := by decide +kernel
theorem dX8_tells_189 : decode cX8_tells 189 = .ok (.iconst 0, 1) := by decide +kernel
theorem dX8_tells_190 : decode cX8_tells 190 = .ok (.istore 9, 2) := by decide +kernel
theorem dX8_tells_192 : decode cX8_tells 192 = .ok (.iload 4, 2) := by decide +kernel
theorem dX8_tells_194 : decode cX8_tells 194 = .ok (.bipush 6, 2) := by decide +kernel
theorem dX8_tells_196 : decode cX8_tells 196 = .ok (.if_icmp .ne 8, 3) := by decide +kernel
theorem dX8_tells_199 : decode cX8_tells 199 = .ok (.bipush (-100), 2) := by decide +kernel
theorem dX8_tells_201 : decode cX8_tells 201 = .ok (.goto 4, 3) := by decide +kernel
theorem dX8_tells_204 : decode cX8_tells 204 = .ok (.iconst (-1), 1) := by decide +kernel
theorem dX8_tells_205 : decode cX8_tells 205 = .ok (.istore 10, 2) := by decide +kernel
theorem dX8_tells_207 : decode cX8_tells 207 = .ok (.iload 7, 2) := by decide +kernel
theorem dX8_tells_209 : decode cX8_tells 209 = .ok (.istore 11, 2) := by decide +kernel
theorem dX8_tells_211 : decode cX8_tells 211 = .ok (.iload 11, 2) := by decide +kernel
theorem dX8_tells_213 : decode cX8_tells 213 = .ok (.iload 5, 2) := by decide +kernel
theorem dX8_tells_215 : decode cX8_tells 215 = .ok (.bipush 6, 2) := by decide +kernel
theorem dX8_tells_217 : decode cX8_tells 217 = .ok (.if_icmp .ge 11, 3) := by decide +kernel
theorem dX8_tells_220 : decode cX8_tells 220 = .ok (.iload 5, 2) := by decide +kernel
theorem dX8_tells_222 : decode cX8_tells 222 = .ok (.invokestatic 80, 3) := by decide +kernel
theorem dX8_tells_225 : decode cX8_tells 225 = .ok (.goto 4, 3) := by decide +kernel
theorem dX8_tells_228 : decode cX8_tells 228 = .ok (.iconst 0, 1) := by decide +kernel
theorem dX8_tells_229 : decode cX8_tells 229 = .ok (.if_icmp .lt 54, 3) := by decide +kernel
theorem dX8_tells_232 : decode cX8_tells 232 = .ok (.aload_n 0, 1) := by decide +kernel
theorem dX8_tells_233 : decode cX8_tells 233 = .ok (.iload 5, 2) := by decide +kernel
theorem dX8_tells_235 : decode cX8_tells 235 = .ok (.iload_n 3, 1) := by decide +kernel
theorem dX8_tells_236 : decode cX8_tells 236 = .ok (.iload 11, 2) := by decide +kernel
theorem dX8_tells_238 : decode cX8_tells 238 = .ok (.invokevirtual 91, 3) := by decide +kernel
theorem dX8_tells_241 : decode cX8_tells 241 = .ok (.aload_n 0, 1) := by decide +kernel
theorem dX8_tells_242 : decode cX8_tells 242 = .ok (.iload_n 1, 1) := by decide +kernel
theorem dX8_tells_243 : decode cX8_tells 243 = .ok (.iload_n 2, 1) := by decide +kernel
theorem dX8_tells_244 : decode cX8_tells 244 = .ok (.invokevirtual 392, 3) := by decide +kernel
theorem dX8_tells_247 : decode cX8_tells 247 = .ok (.iconst (-1), 1) := by decide +kernel
theorem dX8_tells_248 : decode cX8_tells 248 = .ok (.if_icmp .ne 29, 3) := by decide +kernel
theorem dX8_tells_251 : decode cX8_tells 251 = .ok (.iload 8, 2) := by decide +kernel
theorem dX8_tells_253 : decode cX8_tells 253 = .ok (.iload 4, 2) := by decide +kernel
theorem dX8_tells_255 : decode cX8_tells 255 = .ok (.iconst 5, 1) := by decide +kernel
theorem dX8_tells_256 : decode cX8_tells 256 = .ok (.if_icmp .ge 10, 3) := by decide +kernel
theorem dX8_tells_259 : decode cX8_tells 259 = .ok (.iconst 1, 1) := by decide +kernel
theorem dX8_tells_260 : decode cX8_tells 260 = .ok (.iload 11, 2) := by decide +kernel
theorem dX8_tells_262 : decode cX8_tells 262 = .ok (.ishl, 1) := by decide +kernel
theorem dX8_tells_263 : decode cX8_tells 263 = .ok (.goto 4, 3) := by decide +kernel
theorem dX8_tells_266 : decode cX8_tells 266 = .ok (.iconst 0, 1) := by decide +kernel
theorem dX8_tells_267 : decode cX8_tells 267 = .ok (.ior, 1) := by decide +kernel
theorem dX8_tells_268 : decode cX8_tells 268 = .ok (.istore 8, 2) := by decide +kernel
theorem dX8_tells_270 : decode cX8_tells 270 = .ok (.iinc 9 1, 3) := by decide +kernel
theorem dX8_tells_273 : decode cX8_tells 273 = .ok (.iload 11, 2) := by decide +kernel
theorem dX8_tells_275 : decode cX8_tells 275 = .ok (.istore 10, 2) := by decide +kernel
theorem dX8_tells_277 : decode cX8_tells 277 = .ok (.iinc 11 (-1), 3) := by decide +kernel
theorem dX8_tells_280 : decode cX8_tells 280 = .ok (.goto (-69), 3) := by decide +kernel
theorem dX8_tells_283 : decode cX8_tells 283 = .ok (.aload_n 0, 1) := by decide +kernel
theorem dX8_tells_284 : decode cX8_tells 284 = .ok (.iload 5, 2) := by decide +kernel
theorem dX8_tells_286 : decode cX8_tells 286 = .ok (.iload_n 3, 1) := by decide +kernel
theorem dX8_tells_287 : decode cX8_tells 287 = .ok (.iload 6, 2) := by decide +kernel
theorem dX8_tells_289 : decode cX8_tells 289 = .ok (.invokevirtual 91, 3) := by decide +kernel
theorem dX8_tells_292 : decode cX8_tells 292 = .ok (.iload 4, 2) := by decide +kernel
theorem dX8_tells_294 : decode cX8_tells 294 = .ok (.iconst 5, 1) := by decide +kernel
theorem dX8_tells_295 : decode cX8_tells 295 = .ok (.if_icmp .ge 8, 3) := by decide +kernel
theorem dX8_tells_298 : decode cX8_tells 298 = .ok (.iload 8, 2) := by decide +kernel
theorem dX8_tells_300 : decode cX8_tells 300 = .ok (.goto 18, 3) := by decide +kernel
theorem dX8_tells_303 : decode cX8_tells 303 = .ok (.iload 4, 2) := by decide +kernel
theorem dX8_tells_305 : decode cX8_tells 305 = .ok (.iconst 2, 1) := by decide +kernel
theorem dX8_tells_306 : decode cX8_tells 306 = .ok (.irem, 1) := by decide +kernel
theorem dX8_tells_307 : decode cX8_tells 307 = .ok (.iconst 1, 1) := by decide +kernel
theorem dX8_tells_308 : decode cX8_tells 308 = .ok (.if_icmp .ne 8, 3) := by decide +kernel
theorem dX8_tells_311 : decode cX8_tells 311 = .ok (.iload 9, 2) := by decide +kernel
theorem dX8_tells_313 : decode cX8_tells 313 = .ok (.goto 5, 3) := by decide +kernel
theorem dX8_tells_316 : decode cX8_tells 316 = .ok (.iload 10, 2) := by decide +kernel
theorem dX8_tells_318 : decode cX8_tells 318 = .ok (.ireturn, 1) := by decide +kernel
theorem dX8_film_0 : decode cX8_film 0 = .ok (.iload_n 1, 1) := by decide +kernel
theorem dX8_film_1 : decode cX8_film 1 = .ok (.invokestatic 387, 3) := by decide +kernel
theorem dX8_film_4 : decode cX8_film 4 = .ok (.ifCond .eq 10, 3) := by decide +kernel
theorem dX8_film_7 : decode cX8_film 7 = .ok (.iload_n 2, 1) := by decide +kernel
theorem dX8_film_8 : decode cX8_film 8 = .ok (.invokestatic 105, 3) := by decide +kernel
theorem dX8_film_11 : decode cX8_film 11 = .ok (.ifCond .ne 6, 3) := by decide +kernel
theorem dX8_film_14 : decode cX8_film 14 = .ok (.bipush (-2), 2) := by decide +kernel
theorem dX8_film_16 : decode cX8_film 16 = .ok (.ireturn, 1) := by decide +kernel
theorem dX8_film_17 : decode cX8_film 17 = .ok (.aload_n 0, 1) := by decide +kernel
theorem dX8_film_18 : decode cX8_film 18 = .ok (.invokevirtual 118, 3) := by decide +kernel
theorem dX8_film_21 : decode cX8_film 21 = .ok (.aload_n 0, 1) := by decide +kernel
theorem dX8_film_22 : decode cX8_film 22 = .ok (.iload_n 1, 1) := by decide +kernel
theorem dX8_film_23 : decode cX8_film 23 = .ok (.iconst 2, 1) := by decide +kernel
theorem dX8_film_24 : decode cX8_film 24 = .ok (.bipush 6, 2) := by decide +kernel
theorem dX8_film_26 : decode cX8_film 26 = .ok (.invokevirtual 395, 3) := by decide +kernel
theorem dX8_film_29 : decode cX8_film 29 = .ok (.pop, 1) := by decide +kernel
theorem dX8_film_30 : decode cX8_film 30 = .ok (.iconst 0, 1) := by decide +kernel
theorem dX8_film_31 : decode cX8_film 31 = .ok (.istore_n 3, 1) := by decide +kernel
theorem dX8_film_32 : decode cX8_film 32 = .ok (.iload_n 3, 1) := by decide +kernel
theorem dX8_film_33 : decode cX8_film 33 = .ok (.bipush 6, 2) := by decide +kernel
theorem dX8_film_35 : decode cX8_film 35 = .ok (.if_icmp .ge 26, 3) := by decide +kernel
theorem dX8_film_38 : decode cX8_film 38 = .ok (.aload_n 0, 1) := by decide +kernel
theorem dX8_film_39 : decode cX8_film 39 = .ok (.getfield 57, 3) := by decide +kernel
theorem dX8_film_42 : decode cX8_film 42 = .ok (.bipush 40, 2) := by decide +kernel
theorem dX8_film_44 : decode cX8_film 44 = .ok (.iload_n 1, 1) := by decide +kernel
theorem dX8_film_45 : decode cX8_film 45 = .ok (.imul, 1) := by decide +kernel
theorem dX8_film_46 : decode cX8_film 46 = .ok (.iload_n 3, 1) := by decide +kernel
theorem dX8_film_47 : decode cX8_film 47 = .ok (.iadd, 1) := by decide +kernel
theorem dX8_film_48 : decode cX8_film 48 = .ok (.aload_n 0, 1) := by decide +kernel
theorem dX8_film_49 : decode cX8_film 49 = .ok (.iload_n 2, 1) := by decide +kernel
theorem dX8_film_50 : decode cX8_film 50 = .ok (.iload_n 3, 1) := by decide +kernel
theorem dX8_film_51 : decode cX8_film 51 = .ok (.invokevirtual 351, 3) := by decide +kernel
theorem dX8_film_54 : decode cX8_film 54 = .ok (.iastore, 1) := by decide +kernel
theorem dX8_film_55 : decode cX8_film 55 = .ok (.iinc 3 1, 3) := by decide +kernel
theorem dX8_film_58 : decode cX8_film 58 = .ok (.goto (-26), 3) := by decide +kernel
theorem dX8_film_61 : decode cX8_film 61 = .ok (.bipush 6, 2) := by decide +kernel
theorem dX8_film_63 : decode cX8_film 63 = .ok (.ireturn, 1) := by decide +kernel
theorem dX8_draws_0 : decode cX8_draws 0 = .ok (.iload_n 1, 1) := by decide +kernel
theorem dX8_draws_1 : decode cX8_draws 1 = .ok (.istore_n 2, 1) := by decide +kernel
theorem dX8_draws_2 : decode cX8_draws 2 = .ok (.iconst 0, 1) := by decide +kernel
theorem dX8_draws_3 : decode cX8_draws 3 = .ok (.istore_n 3, 1) := by decide +kernel
theorem dX8_draws_4 : decode cX8_draws 4 = .ok (.iload_n 3, 1) := by decide +kernel
theorem dX8_draws_5 : decode cX8_draws 5 = .ok (.aload_n 0, 1) := by decide +kernel
theorem dX8_draws_6 : decode cX8_draws 6 = .ok (.getfield 67, 3) := by decide +kernel
theorem dX8_draws_9 : decode cX8_draws 9 = .ok (.if_icmp .ge 55, 3) := by decide +kernel
theorem dX8_draws_12 : decode cX8_draws 12 = .ok (.aload_n 0, 1) := by decide +kernel
theorem dX8_draws_13 : decode cX8_draws 13 = .ok (.getfield 38, 3) := by decide +kernel
theorem dX8_draws_16 : decode cX8_draws 16 = .ok (.iload_n 3, 1) := by decide +kernel
theorem dX8_draws_17 : decode cX8_draws 17 = .ok (.aload_n 0, 1) := by decide +kernel
theorem dX8_draws_18 : decode cX8_draws 18 = .ok (.getfield 26, 3) := by decide +kernel
theorem dX8_draws_21 : decode cX8_draws 21 = .ok (.iconst 4, 1) := by decide +kernel
theorem dX8_draws_22 : decode cX8_draws 22 = .ok (.iload_n 3, 1) := by decide +kernel
theorem dX8_draws_23 : decode cX8_draws 23 = .ok (.imul, 1) := by decide +kernel
theorem dX8_draws_24 : decode cX8_draws 24 = .ok (.iconst 2, 1) := by decide +kernel
theorem dX8_draws_25 : decode cX8_draws 25 = .ok (.iadd, 1) := by decide +kernel
theorem dX8_draws_26 : decode cX8_draws 26 = .ok (.iaload, 1) := by decide +kernel
theorem dX8_draws_27 : decode cX8_draws 27 = .ok (.iastore, 1) := by decide +kernel
theorem dX8_draws_28 : decode cX8_draws 28 = .ok (.iload_n 2, 1) := by decide +kernel
theorem dX8_draws_29 : decode cX8_draws 29 = .ok (.ldc_w 398, 3) := by decide +kernel
theorem dX8_draws_32 : decode cX8_draws 32 = .ok (.imul, 1) := by decide +kernel
theorem dX8_draws_33 : decode cX8_draws 33 = .ok (.sipush 12345, 3) := by decide +kernel
theorem dX8_draws_36 : decode cX8_draws 36 = .ok (.iadd, 1) := by decide +kernel
theorem dX8_draws_37 : decode cX8_draws 37 = .ok (.istore_n 2, 1) := by decide +kernel
theorem dX8_draws_38 : decode cX8_draws 38 = .ok (.aload_n 0, 1) := by decide +kernel
theorem dX8_draws_39 : decode cX8_draws 39 = .ok (.getfield 26, 3) := by decide +kernel
theorem dX8_draws_42 : decode cX8_draws 42 = .ok (.iconst 4, 1) := by decide +kernel
theorem dX8_draws_43 : decode cX8_draws 43 = .ok (.iload_n 3, 1) := by decide +kernel
theorem dX8_draws_44 : decode cX8_draws 44 = .ok (.imul, 1) := by decide +kernel
theorem dX8_draws_45 : decode cX8_draws 45 = .ok (.iconst 2, 1) := by decide +kernel
theorem dX8_draws_46 : decode cX8_draws 46 = .ok (.iadd, 1) := by decide +kernel
theorem dX8_draws_47 : decode cX8_draws 47 = .ok (.iload_n 2, 1) := by decide +kernel
theorem dX8_draws_48 : decode cX8_draws 48 = .ok (.bipush 9, 2) := by decide +kernel
theorem dX8_draws_50 : decode cX8_draws 50 = .ok (.iushr, 1) := by decide +kernel
theorem dX8_draws_51 : decode cX8_draws 51 = .ok (.bipush 41, 2) := by decide +kernel
theorem dX8_draws_53 : decode cX8_draws 53 = .ok (.irem, 1) := by decide +kernel
theorem dX8_draws_54 : decode cX8_draws 54 = .ok (.bipush 20, 2) := by decide +kernel
theorem dX8_draws_56 : decode cX8_draws 56 = .ok (.isub, 1) := by decide +kernel
theorem dX8_draws_57 : decode cX8_draws 57 = .ok (.iastore, 1) := by decide +kernel
theorem dX8_draws_58 : decode cX8_draws 58 = .ok (.iinc 3 1, 3) := by decide +kernel
theorem dX8_draws_61 : decode cX8_draws 61 = .ok (.goto (-57), 3) := by decide +kernel
theorem dX8_draws_64 : decode cX8_draws 64 = .ok (.aload_n 0, 1) := by decide +kernel
theorem dX8_draws_65 : decode cX8_draws 65 = .ok (.invokevirtual 357, 3) := by decide +kernel
theorem dX8_draws_68 : decode cX8_draws 68 = .ok (.istore_n 3, 1) := by decide +kernel
theorem dX8_draws_69 : decode cX8_draws 69 = .ok (.iconst 0, 1) := by decide +kernel
theorem dX8_draws_70 : decode cX8_draws 70 = .ok (.istore 4, 2) := by decide +kernel
theorem dX8_draws_72 : decode cX8_draws 72 = .ok (.iload 4, 2) := by decide +kernel
theorem dX8_draws_74 : decode cX8_draws 74 = .ok (.aload_n 0, 1) := by decide +kernel
theorem dX8_draws_75 : decode cX8_draws 75 = .ok (.getfield 67, 3) := by decide +kernel
theorem dX8_draws_78 : decode cX8_draws 78 = .ok (.if_icmp .ge 27, 3) := by decide +kernel
theorem dX8_draws_81 : decode cX8_draws 81 = .ok (.aload_n 0, 1) := by decide +kernel
theorem dX8_draws_82 : decode cX8_draws 82 = .ok (.getfield 26, 3) := by decide +kernel
theorem dX8_draws_85 : decode cX8_draws 85 = .ok (.iconst 4, 1) := by decide +kernel
theorem dX8_draws_86 : decode cX8_draws 86 = .ok (.iload 4, 2) := by decide +kernel
theorem dX8_draws_88 : decode cX8_draws 88 = .ok (.imul, 1) := by decide +kernel
theorem dX8_draws_89 : decode cX8_draws 89 = .ok (.iconst 2, 1) := by decide +kernel
theorem dX8_draws_90 : decode cX8_draws 90 = .ok (.iadd, 1) := by decide +kernel
theorem dX8_draws_91 : decode cX8_draws 91 = .ok (.aload_n 0, 1) := by decide +kernel
theorem dX8_draws_92 : decode cX8_draws 92 = .ok (.getfield 38, 3) := by decide +kernel
theorem dX8_draws_95 : decode cX8_draws 95 = .ok (.iload 4, 2) := by decide +kernel
theorem dX8_draws_97 : decode cX8_draws 97 = .ok (.iaload, 1) := by decide +kernel
theorem dX8_draws_98 : decode cX8_draws 98 = .ok (.iastore, 1) := by decide +kernel
theorem dX8_draws_99 : decode cX8_draws 99 = .ok (.iinc 4 1, 3) := by decide +kernel
theorem dX8_draws_102 : decode cX8_draws 102 = .ok (.goto (-30), 3) := by decide +kernel
theorem dX8_draws_105 : decode cX8_draws 105 = .ok (.iload_n 3, 1) := by decide +kernel
theorem dX8_draws_106 : decode cX8_draws 106 = .ok (.ireturn, 1) := by decide +kernel
theorem dX8_drawn_0 : decode cX8_drawn 0 = .ok (.aload_n 0, 1) := by decide +kernel
theorem dX8_drawn_1 : decode cX8_drawn 1 = .ok (.iload_n 1, 1) := by decide +kernel
theorem dX8_drawn_2 : decode cX8_drawn 2 = .ok (.invokevirtual 399, 3) := by decide +kernel
theorem dX8_drawn_5 : decode cX8_drawn 5 = .ok (.ireturn, 1) := by decide +kernel
theorem dX8_chance_0 : decode cX8_chance 0 = .ok (.iload_n 2, 1) := by decide +kernel
theorem dX8_chance_1 : decode cX8_chance 1 = .ok (.i2l, 1) := by decide +kernel
theorem dX8_chance_2 : decode cX8_chance 2 = .ok (.lconst 1, 1) := by decide +kernel
theorem dX8_chance_3 : decode cX8_chance 3 = .ok (.ldc2_w 112, 3) := by decide +kernel
theorem dX8_chance_6 : decode cX8_chance 6 = .ok (.invokestatic 70, 3) := by decide +kernel
theorem dX8_chance_9 : decode cX8_chance 9 = .ok (.ifCond .eq 13, 3) := by decide +kernel
theorem dX8_chance_12 : decode cX8_chance 12 = .ok (.iload_n 3, 1) := by decide +kernel
theorem dX8_chance_13 : decode cX8_chance 13 = .ok (.i2l, 1) := by decide +kernel
theorem dX8_chance_14 : decode cX8_chance 14 = .ok (.lconst 0, 1) := by decide +kernel
theorem dX8_chance_15 : decode cX8_chance 15 = .ok (.lconst 1, 1) := by decide +kernel
theorem dX8_chance_16 : decode cX8_chance 16 = .ok (.invokestatic 70, 3) := by decide +kernel
theorem dX8_chance_19 : decode cX8_chance 19 = .ok (.ifCond .ne 7, 3) := by decide +kernel
theorem dX8_chance_22 : decode cX8_chance 22 = .ok (.ldc2_w 402, 3) := by decide +kernel
theorem dX8_chance_25 : decode cX8_chance 25 = .ok (.lreturn, 1) := by decide +kernel
theorem dX8_chance_26 : decode cX8_chance 26 = .ok (.aload_n 0, 1) := by decide +kernel
theorem dX8_chance_27 : decode cX8_chance 27 = .ok (.invokevirtual 357, 3) := by decide +kernel
theorem dX8_chance_30 : decode cX8_chance 30 = .ok (.istore 4, 2) := by decide +kernel
theorem dX8_chance_32 : decode cX8_chance 32 = .ok (.lconst 0, 1) := by decide +kernel
theorem dX8_chance_33 : decode cX8_chance 33 = .ok (.lstore 5, 2) := by decide +kernel
theorem dX8_chance_35 : decode cX8_chance 35 = .ok (.iconst 0, 1) := by decide +kernel
theorem dX8_chance_36 : decode cX8_chance 36 = .ok (.istore 7, 2) := by decide +kernel
theorem dX8_chance_38 : decode cX8_chance 38 = .ok (.iload 7, 2) := by decide +kernel
theorem dX8_chance_40 : decode cX8_chance 40 = .ok (.iload_n 2, 1) := by decide +kernel
theorem dX8_chance_41 : decode cX8_chance 41 = .ok (.if_icmp .ge 32, 3) := by decide +kernel
theorem dX8_chance_44 : decode cX8_chance 44 = .ok (.lload 5, 2) := by decide +kernel
theorem dX8_chance_46 : decode cX8_chance 46 = .ok (.aload_n 0, 1) := by decide +kernel
theorem dX8_chance_47 : decode cX8_chance 47 = .ok (.iload_n 1, 1) := by decide +kernel
theorem dX8_chance_48 : decode cX8_chance 48 = .ok (.iload 7, 2) := by decide +kernel
theorem dX8_chance_50 : decode cX8_chance 50 = .ok (.iadd, 1) := by decide +kernel
theorem dX8_chance_51 : decode cX8_chance 51 = .ok (.invokevirtual 399, 3) := by decide +kernel
theorem dX8_chance_54 : decode cX8_chance 54 = .ok (.iload 4, 2) := by decide +kernel
theorem dX8_chance_56 : decode cX8_chance 56 = .ok (.if_icmp .le 7, 3) := by decide +kernel
theorem dX8_chance_59 : decode cX8_chance 59 = .ok (.lconst 1, 1) := by decide +kernel
theorem dX8_chance_60 : decode cX8_chance 60 = .ok (.goto 4, 3) := by decide +kernel
theorem dX8_chance_63 : decode cX8_chance 63 = .ok (.lconst 0, 1) := by decide +kernel
theorem dX8_chance_64 : decode cX8_chance 64 = .ok (.ladd, 1) := by decide +kernel
theorem dX8_chance_65 : decode cX8_chance 65 = .ok (.lstore 5, 2) := by decide +kernel
theorem dX8_chance_67 : decode cX8_chance 67 = .ok (.iinc 7 1, 3) := by decide +kernel
theorem dX8_chance_70 : decode cX8_chance 70 = .ok (.goto (-32), 3) := by decide +kernel
theorem dX8_chance_73 : decode cX8_chance 73 = .ok (.lload 5, 2) := by decide +kernel
theorem dX8_chance_75 : decode cX8_chance 75 = .ok (.lstore 7, 2) := by decide +kernel
theorem dX8_chance_77 : decode cX8_chance 77 = .ok (.iload_n 2, 1) := by decide +kernel
theorem dX8_chance_78 : decode cX8_chance 78 = .ok (.i2l, 1) := by decide +kernel
theorem dX8_chance_79 : decode cX8_chance 79 = .ok (.lstore 9, 2) := by decide +kernel
theorem dX8_chance_81 : decode cX8_chance 81 = .ok (.lload 9, 2) := by decide +kernel
theorem dX8_chance_83 : decode cX8_chance 83 = .ok (.lconst 0, 1) := by decide +kernel
theorem dX8_chance_84 : decode cX8_chance 84 = .ok (.lcmp, 1) := by decide +kernel
theorem dX8_chance_85 : decode cX8_chance 85 = .ok (.ifCond .eq 21, 3) := by decide +kernel
theorem dX8_chance_88 : decode cX8_chance 88 = .ok (.lload 7, 2) := by decide +kernel
theorem dX8_chance_90 : decode cX8_chance 90 = .ok (.lload 9, 2) := by decide +kernel
theorem dX8_chance_92 : decode cX8_chance 92 = .ok (.lrem, 1) := by decide +kernel
theorem dX8_chance_93 : decode cX8_chance 93 = .ok (.lstore 11, 2) := by decide +kernel
theorem dX8_chance_95 : decode cX8_chance 95 = .ok (.lload 9, 2) := by decide +kernel
theorem dX8_chance_97 : decode cX8_chance 97 = .ok (.lstore 7, 2) := by decide +kernel
theorem dX8_chance_99 : decode cX8_chance 99 = .ok (.lload 11, 2) := by decide +kernel
theorem dX8_chance_101 : decode cX8_chance 101 = .ok (.lstore 9, 2) := by decide +kernel
theorem dX8_chance_103 : decode cX8_chance 103 = .ok (.goto (-22), 3) := by decide +kernel
theorem dX8_chance_106 : decode cX8_chance 106 = .ok (.iload_n 3, 1) := by decide +kernel
theorem dX8_chance_107 : decode cX8_chance 107 = .ok (.ifCond .ne 11, 3) := by decide +kernel
theorem dX8_chance_110 : decode cX8_chance 110 = .ok (.lload 5, 2) := by decide +kernel
theorem dX8_chance_112 : decode cX8_chance 112 = .ok (.lload 7, 2) := by decide +kernel
theorem dX8_chance_114 : decode cX8_chance 114 = .ok (.ldiv, 1) := by decide +kernel
theorem dX8_chance_115 : decode cX8_chance 115 = .ok (.goto 8, 3) := by decide +kernel
theorem dX8_chance_118 : decode cX8_chance 118 = .ok (.iload_n 2, 1) := by decide +kernel
theorem dX8_chance_119 : decode cX8_chance 119 = .ok (.i2l, 1) := by decide +kernel
theorem dX8_chance_120 : decode cX8_chance 120 = .ok (.lload 7, 2) := by decide +kernel
theorem dX8_chance_122 : decode cX8_chance 122 = .ok (.ldiv, 1) := by decide +kernel
theorem dX8_chance_123 : decode cX8_chance 123 = .ok (.lreturn, 1) := by decide +kernel
theorem dX8_image_0 : decode cX8_image 0 = .ok (.iconst 0, 1) := by decide +kernel
theorem dX8_image_1 : decode cX8_image 1 = .ok (.istore_n 1, 1) := by decide +kernel
theorem dX8_image_2 : decode cX8_image 2 = .ok (.iload_n 1, 1) := by decide +kernel
theorem dX8_image_3 : decode cX8_image 3 = .ok (.bipush 32, 2) := by decide +kernel
theorem dX8_image_5 : decode cX8_image 5 = .ok (.if_icmp .ge 21, 3) := by decide +kernel
theorem dX8_image_8 : decode cX8_image 8 = .ok (.aload_n 0, 1) := by decide +kernel
theorem dX8_image_9 : decode cX8_image 9 = .ok (.getfield 41, 3) := by decide +kernel
theorem dX8_image_12 : decode cX8_image 12 = .ok (.iload_n 1, 1) := by decide +kernel
theorem dX8_image_13 : decode cX8_image 13 = .ok (.aload_n 0, 1) := by decide +kernel
theorem dX8_image_14 : decode cX8_image 14 = .ok (.getfield 26, 3) := by decide +kernel
theorem dX8_image_17 : decode cX8_image 17 = .ok (.iload_n 1, 1) := by decide +kernel
theorem dX8_image_18 : decode cX8_image 18 = .ok (.iaload, 1) := by decide +kernel
theorem dX8_image_19 : decode cX8_image 19 = .ok (.iastore, 1) := by decide +kernel
theorem dX8_image_20 : decode cX8_image 20 = .ok (.iinc 1 1, 3) := by decide +kernel
theorem dX8_image_23 : decode cX8_image 23 = .ok (.goto (-21), 3) := by decide +kernel
theorem dX8_image_26 : decode cX8_image 26 = .ok (.aload_n 0, 1) := by decide +kernel
theorem dX8_image_27 : decode cX8_image 27 = .ok (.aload_n 0, 1) := by decide +kernel
theorem dX8_image_28 : decode cX8_image 28 = .ok (.getfield 67, 3) := by decide +kernel
theorem dX8_image_31 : decode cX8_image 31 = .ok (.putfield 44, 3) := by decide +kernel
theorem dX8_image_34 : decode cX8_image 34 = .ok (.aload_n 0, 1) := by decide +kernel
theorem dX8_image_35 : decode cX8_image 35 = .ok (.aload_n 0, 1) := by decide +kernel
theorem dX8_image_36 : decode cX8_image 36 = .ok (.getfield 95, 3) := by decide +kernel
theorem dX8_image_39 : decode cX8_image 39 = .ok (.putfield 404, 3) := by decide +kernel
theorem dX8_image_42 : decode cX8_image 42 = .ok (.aload_n 0, 1) := by decide +kernel
theorem dX8_image_43 : decode cX8_image 43 = .ok (.aload_n 0, 1) := by decide +kernel
theorem dX8_image_44 : decode cX8_image 44 = .ok (.getfield 360, 3) := by decide +kernel
theorem dX8_image_47 : decode cX8_image 47 = .ok (.putfield 407, 3) := by decide +kernel
theorem dX8_image_50 : decode cX8_image 50 = .ok (.aload_n 0, 1) := by decide +kernel
theorem dX8_image_51 : decode cX8_image 51 = .ok (.aload_n 0, 1) := by decide +kernel
theorem dX8_image_52 : decode cX8_image 52 = .ok (.getfield 98, 3) := by decide +kernel
theorem dX8_image_55 : decode cX8_image 55 = .ok (.putfield 410, 3) := by decide +kernel
theorem dX8_image_58 : decode cX8_image 58 = .ok (.aload_n 0, 1) := by decide +kernel
theorem dX8_image_59 : decode cX8_image 59 = .ok (.getfield 67, 3) := by decide +kernel
theorem dX8_image_62 : decode cX8_image 62 = .ok (.ireturn, 1) := by decide +kernel
theorem dX8_back_0 : decode cX8_back 0 = .ok (.aload_n 0, 1) := by decide +kernel
theorem dX8_back_1 : decode cX8_back 1 = .ok (.getfield 44, 3) := by decide +kernel
theorem dX8_back_4 : decode cX8_back 4 = .ok (.iconst (-1), 1) := by decide +kernel
theorem dX8_back_5 : decode cX8_back 5 = .ok (.if_icmp .ne 6, 3) := by decide +kernel
theorem dX8_back_8 : decode cX8_back 8 = .ok (.bipush (-3), 2) := by decide +kernel
theorem dX8_back_10 : decode cX8_back 10 = .ok (.ireturn, 1) := by decide +kernel
theorem dX8_back_11 : decode cX8_back 11 = .ok (.iconst 0, 1) := by decide +kernel
theorem dX8_back_12 : decode cX8_back 12 = .ok (.istore_n 1, 1) := by decide +kernel
theorem dX8_back_13 : decode cX8_back 13 = .ok (.iload_n 1, 1) := by decide +kernel
theorem dX8_back_14 : decode cX8_back 14 = .ok (.bipush 32, 2) := by decide +kernel
theorem dX8_back_16 : decode cX8_back 16 = .ok (.if_icmp .ge 21, 3) := by decide +kernel
theorem dX8_back_19 : decode cX8_back 19 = .ok (.aload_n 0, 1) := by decide +kernel
theorem dX8_back_20 : decode cX8_back 20 = .ok (.getfield 26, 3) := by decide +kernel
theorem dX8_back_23 : decode cX8_back 23 = .ok (.iload_n 1, 1) := by decide +kernel
theorem dX8_back_24 : decode cX8_back 24 = .ok (.aload_n 0, 1) := by decide +kernel
theorem dX8_back_25 : decode cX8_back 25 = .ok (.getfield 41, 3) := by decide +kernel
theorem dX8_back_28 : decode cX8_back 28 = .ok (.iload_n 1, 1) := by decide +kernel
theorem dX8_back_29 : decode cX8_back 29 = .ok (.iaload, 1) := by decide +kernel
theorem dX8_back_30 : decode cX8_back 30 = .ok (.iastore, 1) := by decide +kernel
theorem dX8_back_31 : decode cX8_back 31 = .ok (.iinc 1 1, 3) := by decide +kernel
theorem dX8_back_34 : decode cX8_back 34 = .ok (.goto (-21), 3) := by decide +kernel
theorem dX8_back_37 : decode cX8_back 37 = .ok (.aload_n 0, 1) := by decide +kernel
theorem dX8_back_38 : decode cX8_back 38 = .ok (.aload_n 0, 1) := by decide +kernel
theorem dX8_back_39 : decode cX8_back 39 = .ok (.getfield 44, 3) := by decide +kernel
theorem dX8_back_42 : decode cX8_back 42 = .ok (.putfield 67, 3) := by decide +kernel
theorem dX8_back_45 : decode cX8_back 45 = .ok (.aload_n 0, 1) := by decide +kernel
theorem dX8_back_46 : decode cX8_back 46 = .ok (.aload_n 0, 1) := by decide +kernel
theorem dX8_back_47 : decode cX8_back 47 = .ok (.getfield 404, 3) := by decide +kernel
theorem dX8_back_50 : decode cX8_back 50 = .ok (.putfield 95, 3) := by decide +kernel
theorem dX8_back_53 : decode cX8_back 53 = .ok (.aload_n 0, 1) := by decide +kernel
theorem dX8_back_54 : decode cX8_back 54 = .ok (.aload_n 0, 1) := by decide +kernel
theorem dX8_back_55 : decode cX8_back 55 = .ok (.getfield 407, 3) := by decide +kernel
theorem dX8_back_58 : decode cX8_back 58 = .ok (.putfield 360, 3) := by decide +kernel
theorem dX8_back_61 : decode cX8_back 61 = .ok (.aload_n 0, 1) := by decide +kernel
theorem dX8_back_62 : decode cX8_back 62 = .ok (.aload_n 0, 1) := by decide +kernel
theorem dX8_back_63 : decode cX8_back 63 = .ok (.getfield 410, 3) := by decide +kernel
theorem dX8_back_66 : decode cX8_back 66 = .ok (.putfield 98, 3) := by decide +kernel
theorem dX8_back_69 : decode cX8_back 69 = .ok (.aload_n 0, 1) := by decide +kernel
theorem dX8_back_70 : decode cX8_back 70 = .ok (.getfield 67, 3) := by decide +kernel
theorem dX8_back_73 : decode cX8_back 73 = .ok (.ireturn, 1) := by decide +kernel
theorem dX8_count_0 : decode cX8_count 0 = .ok (.iload_n 1, 1) := by decide +kernel
theorem dX8_count_1 : decode cX8_count 1 = .ok (.i2l, 1) := by decide +kernel
theorem dX8_count_2 : decode cX8_count 2 = .ok (.lconst 0, 1) := by decide +kernel
theorem dX8_count_3 : decode cX8_count 3 = .ok (.ldc2_w 116, 3) := by decide +kernel
theorem dX8_count_6 : decode cX8_count 6 = .ok (.invokestatic 70, 3) := by decide +kernel
theorem dX8_count_9 : decode cX8_count 9 = .ok (.ifCond .ne 6, 3) := by decide +kernel
theorem dX8_count_12 : decode cX8_count 12 = .ok (.bipush (-2), 2) := by decide +kernel
theorem dX8_count_14 : decode cX8_count 14 = .ok (.ireturn, 1) := by decide +kernel
theorem dX8_count_15 : decode cX8_count 15 = .ok (.iload_n 1, 1) := by decide +kernel
theorem dX8_count_16 : decode cX8_count 16 = .ok (.iconst 1, 1) := by decide +kernel
theorem dX8_count_17 : decode cX8_count 17 = .ok (.if_icmp .le 56, 3) := by decide +kernel
theorem dX8_count_20 : decode cX8_count 20 = .ok (.iload_n 1, 1) := by decide +kernel
theorem dX8_count_21 : decode cX8_count 21 = .ok (.iconst 2, 1) := by decide +kernel
theorem dX8_count_22 : decode cX8_count 22 = .ok (.if_icmp .ne 10, 3) := by decide +kernel
theorem dX8_count_25 : decode cX8_count 25 = .ok (.aload_n 0, 1) := by decide +kernel
theorem dX8_count_26 : decode cX8_count 26 = .ok (.getfield 95, 3) := by decide +kernel
theorem dX8_count_29 : decode cX8_count 29 = .ok (.goto 43, 3) := by decide +kernel
theorem dX8_count_32 : decode cX8_count 32 = .ok (.iload_n 1, 1) := by decide +kernel
theorem dX8_count_33 : decode cX8_count 33 = .ok (.iconst 3, 1) := by decide +kernel
theorem dX8_count_34 : decode cX8_count 34 = .ok (.if_icmp .ne 10, 3) := by decide +kernel
theorem dX8_count_37 : decode cX8_count 37 = .ok (.aload_n 0, 1) := by decide +kernel
theorem dX8_count_38 : decode cX8_count 38 = .ok (.getfield 360, 3) := by decide +kernel
theorem dX8_count_41 : decode cX8_count 41 = .ok (.goto 31, 3) := by decide +kernel
theorem dX8_count_44 : decode cX8_count 44 = .ok (.iload_n 1, 1) := by decide +kernel
theorem dX8_count_45 : decode cX8_count 45 = .ok (.iconst 4, 1) := by decide +kernel
theorem dX8_count_46 : decode cX8_count 46 = .ok (.if_icmp .ne 10, 3) := by decide +kernel
theorem dX8_count_49 : decode cX8_count 49 = .ok (.aload_n 0, 1) := by decide +kernel
theorem dX8_count_50 : decode cX8_count 50 = .ok (.getfield 64, 3) := by decide +kernel
theorem dX8_count_53 : decode cX8_count 53 = .ok (.goto 19, 3) := by decide +kernel
theorem dX8_count_56 : decode cX8_count 56 = .ok (.iload_n 1, 1) := by decide +kernel
theorem dX8_count_57 : decode cX8_count 57 = .ok (.iconst 5, 1) := by decide +kernel
theorem dX8_count_58 : decode cX8_count 58 = .ok (.if_icmp .ne 10, 3) := by decide +kernel
theorem dX8_count_61 : decode cX8_count 61 = .ok (.aload_n 0, 1) := by decide +kernel
theorem dX8_count_62 : decode cX8_count 62 = .ok (.getfield 126, 3) := by decide +kernel
theorem dX8_count_65 : decode cX8_count 65 = .ok (.goto 7, 3) := by decide +kernel
theorem dX8_count_68 : decode cX8_count 68 = .ok (.aload_n 0, 1) := by decide +kernel
theorem dX8_count_69 : decode cX8_count 69 = .ok (.getfield 98, 3) := by decide +kernel
theorem dX8_count_72 : decode cX8_count 72 = .ok (.ireturn, 1) := by decide +kernel
theorem dX8_count_73 : decode cX8_count 73 = .ok (.iconst 0, 1) := by decide +kernel
theorem dX8_count_74 : decode cX8_count 74 = .ok (.istore_n 2, 1) := by decide +kernel
theorem dX8_count_75 : decode cX8_count 75 = .ok (.iconst 0, 1) := by decide +kernel
theorem dX8_count_76 : decode cX8_count 76 = .ok (.istore_n 3, 1) := by decide +kernel
theorem dX8_count_77 : decode cX8_count 77 = .ok (.iload_n 3, 1) := by decide +kernel
theorem dX8_count_78 : decode cX8_count 78 = .ok (.aload_n 0, 1) := by decide +kernel
theorem dX8_count_79 : decode cX8_count 79 = .ok (.getfield 67, 3) := by decide +kernel
theorem dX8_count_82 : decode cX8_count 82 = .ok (.if_icmp .ge 31, 3) := by decide +kernel
theorem dX8_count_85 : decode cX8_count 85 = .ok (.iload_n 2, 1) := by decide +kernel
theorem dX8_count_86 : decode cX8_count 86 = .ok (.iload_n 1, 1) := by decide +kernel
theorem dX8_count_87 : decode cX8_count 87 = .ok (.ifCond .eq 13, 3) := by decide +kernel
theorem dX8_count_90 : decode cX8_count 90 = .ok (.aload_n 0, 1) := by decide +kernel
theorem dX8_count_91 : decode cX8_count 91 = .ok (.getfield 23, 3) := by decide +kernel
theorem dX8_count_94 : decode cX8_count 94 = .ok (.iload_n 3, 1) := by decide +kernel
theorem dX8_count_95 : decode cX8_count 95 = .ok (.iaload, 1) := by decide +kernel
theorem dX8_count_96 : decode cX8_count 96 = .ok (.iconst 5, 1) := by decide +kernel
theorem dX8_count_97 : decode cX8_count 97 = .ok (.if_icmp .ne 7, 3) := by decide +kernel
theorem dX8_count_100 : decode cX8_count 100 = .ok (.iconst 1, 1) := by decide +kernel
theorem dX8_count_101 : decode cX8_count 101 = .ok (.goto 4, 3) := by decide +kernel
theorem dX8_count_104 : decode cX8_count 104 = .ok (.iconst 0, 1) := by decide +kernel
theorem dX8_count_105 : decode cX8_count 105 = .ok (.iadd, 1) := by decide +kernel
theorem dX8_count_106 : decode cX8_count 106 = .ok (.istore_n 2, 1) := by decide +kernel
theorem dX8_count_107 : decode cX8_count 107 = .ok (.iinc 3 1, 3) := by decide +kernel
theorem dX8_count_110 : decode cX8_count 110 = .ok (.goto (-33), 3) := by decide +kernel
theorem dX8_count_113 : decode cX8_count 113 = .ok (.iload_n 2, 1) := by decide +kernel
theorem dX8_count_114 : decode cX8_count 114 = .ok (.ireturn, 1) := by decide +kernel
theorem dX8_isSheet_0 : decode cX8_isSheet 0 = .ok (.iload_n 0, 1) := by decide +kernel
theorem dX8_isSheet_1 : decode cX8_isSheet 1 = .ok (.i2l, 1) := by decide +kernel
theorem dX8_isSheet_2 : decode cX8_isSheet 2 = .ok (.lconst 0, 1) := by decide +kernel
theorem dX8_isSheet_3 : decode cX8_isSheet 3 = .ok (.ldc2_w 413, 3) := by decide +kernel
theorem dX8_isSheet_6 : decode cX8_isSheet 6 = .ok (.invokestatic 70, 3) := by decide +kernel
theorem dX8_isSheet_9 : decode cX8_isSheet 9 = .ok (.ireturn, 1) := by decide +kernel
theorem dX8_sheet_0 : decode cX8_sheet 0 = .ok (.iload_n 1, 1) := by decide +kernel
theorem dX8_sheet_1 : decode cX8_sheet 1 = .ok (.invokestatic 387, 3) := by decide +kernel
theorem dX8_sheet_4 : decode cX8_sheet 4 = .ok (.ifCond .eq 27, 3) := by decide +kernel
theorem dX8_sheet_7 : decode cX8_sheet 7 = .ok (.iload_n 2, 1) := by decide +kernel
theorem dX8_sheet_8 : decode cX8_sheet 8 = .ok (.i2l, 1) := by decide +kernel
theorem dX8_sheet_9 : decode cX8_sheet 9 = .ok (.ldc2_w 415, 3) := by decide +kernel
theorem dX8_sheet_12 : decode cX8_sheet 12 = .ok (.ldc2_w 417, 3) := by decide +kernel
theorem dX8_sheet_15 : decode cX8_sheet 15 = .ok (.invokestatic 70, 3) := by decide +kernel
theorem dX8_sheet_18 : decode cX8_sheet 18 = .ok (.ifCond .eq 13, 3) := by decide +kernel
theorem dX8_sheet_21 : decode cX8_sheet 21 = .ok (.iload_n 2, 1) := by decide +kernel
theorem dX8_sheet_22 : decode cX8_sheet 22 = .ok (.ifCond .lt 12, 3) := by decide +kernel
theorem dX8_sheet_25 : decode cX8_sheet 25 = .ok (.iload_n 3, 1) := by decide +kernel
theorem dX8_sheet_26 : decode cX8_sheet 26 = .ok (.bipush 40, 2) := by decide +kernel
theorem dX8_sheet_28 : decode cX8_sheet 28 = .ok (.if_icmp .le 6, 3) := by decide +kernel
theorem dX8_sheet_31 : decode cX8_sheet 31 = .ok (.bipush (-2), 2) := by decide +kernel
theorem dX8_sheet_33 : decode cX8_sheet 33 = .ok (.ireturn, 1) := by decide +kernel
theorem dX8_sheet_34 : decode cX8_sheet 34 = .ok (.iload_n 2, 1) := by decide +kernel
theorem dX8_sheet_35 : decode cX8_sheet 35 = .ok (.ifCond .lt 10, 3) := by decide +kernel
theorem dX8_sheet_38 : decode cX8_sheet 38 = .ok (.iload_n 3, 1) := by decide +kernel
theorem dX8_sheet_39 : decode cX8_sheet 39 = .ok (.ifCond .ge 6, 3) := by decide +kernel
theorem dX8_sheet_42 : decode cX8_sheet 42 = .ok (.bipush (-14), 2) := by decide +kernel
theorem dX8_sheet_44 : decode cX8_sheet 44 = .ok (.ireturn, 1) := by decide +kernel
theorem dX8_sheet_45 : decode cX8_sheet 45 = .ok (.aload_n 0, 1) := by decide +kernel
theorem dX8_sheet_46 : decode cX8_sheet 46 = .ok (.getfield 47, 3) := by decide +kernel
theorem dX8_sheet_49 : decode cX8_sheet 49 = .ok (.iload_n 1, 1) := by decide +kernel
theorem dX8_sheet_50 : decode cX8_sheet 50 = .ok (.iload_n 2, 1) := by decide +kernel
theorem dX8_sheet_51 : decode cX8_sheet 51 = .ok (.ifCond .lt 7, 3) := by decide +kernel
theorem dX8_sheet_54 : decode cX8_sheet 54 = .ok (.iconst 1, 1) := by decide +kernel
theorem dX8_sheet_55 : decode cX8_sheet 55 = .ok (.goto 4, 3) := by decide +kernel
theorem dX8_sheet_58 : decode cX8_sheet 58 = .ok (.iconst 0, 1) := by decide +kernel
theorem dX8_sheet_59 : decode cX8_sheet 59 = .ok (.bastore, 1) := by decide +kernel
theorem dX8_sheet_60 : decode cX8_sheet 60 = .ok (.aload_n 0, 1) := by decide +kernel
theorem dX8_sheet_61 : decode cX8_sheet 61 = .ok (.getfield 51, 3) := by decide +kernel
theorem dX8_sheet_64 : decode cX8_sheet 64 = .ok (.iload_n 1, 1) := by decide +kernel
theorem dX8_sheet_65 : decode cX8_sheet 65 = .ok (.iload_n 2, 1) := by decide +kernel
theorem dX8_sheet_66 : decode cX8_sheet 66 = .ok (.iastore, 1) := by decide +kernel
theorem dX8_sheet_67 : decode cX8_sheet 67 = .ok (.aload_n 0, 1) := by decide +kernel
theorem dX8_sheet_68 : decode cX8_sheet 68 = .ok (.getfield 54, 3) := by decide +kernel
theorem dX8_sheet_71 : decode cX8_sheet 71 = .ok (.iload_n 1, 1) := by decide +kernel
theorem dX8_sheet_72 : decode cX8_sheet 72 = .ok (.iload_n 3, 1) := by decide +kernel
theorem dX8_sheet_73 : decode cX8_sheet 73 = .ok (.iastore, 1) := by decide +kernel
theorem dX8_sheet_74 : decode cX8_sheet 74 = .ok (.iconst 0, 1) := by decide +kernel
theorem dX8_sheet_75 : decode cX8_sheet 75 = .ok (.istore 4, 2) := by decide +kernel
theorem dX8_sheet_77 : decode cX8_sheet 77 = .ok (.iload 4, 2) := by decide +kernel
theorem dX8_sheet_79 : decode cX8_sheet 79 = .ok (.iload_n 3, 1) := by decide +kernel
theorem dX8_sheet_80 : decode cX8_sheet 80 = .ok (.if_icmp .ge 26, 3) := by decide +kernel
theorem dX8_sheet_83 : decode cX8_sheet 83 = .ok (.iload_n 2, 1) := by decide +kernel
theorem dX8_sheet_84 : decode cX8_sheet 84 = .ok (.ifCond .lt 22, 3) := by decide +kernel
theorem dX8_sheet_87 : decode cX8_sheet 87 = .ok (.aload_n 0, 1) := by decide +kernel
theorem dX8_sheet_88 : decode cX8_sheet 88 = .ok (.getfield 57, 3) := by decide +kernel
theorem dX8_sheet_91 : decode cX8_sheet 91 = .ok (.bipush 40, 2) := by decide +kernel
theorem dX8_sheet_93 : decode cX8_sheet 93 = .ok (.iload_n 1, 1) := by decide +kernel
theorem dX8_sheet_94 : decode cX8_sheet 94 = .ok (.imul, 1) := by decide +kernel
theorem dX8_sheet_95 : decode cX8_sheet 95 = .ok (.iload 4, 2) := by decide +kernel
theorem dX8_sheet_97 : decode cX8_sheet 97 = .ok (.iadd, 1) := by decide +kernel
theorem dX8_sheet_98 : decode cX8_sheet 98 = .ok (.iconst 0, 1) := by decide +kernel
theorem dX8_sheet_99 : decode cX8_sheet 99 = .ok (.iastore, 1) := by decide +kernel
theorem dX8_sheet_100 : decode cX8_sheet 100 = .ok (.iinc 4 1, 3) := by decide +kernel
theorem dX8_sheet_103 : decode cX8_sheet 103 = .ok (.goto (-26), 3) := by decide +kernel
theorem dX8_sheet_106 : decode cX8_sheet 106 = .ok (.iconst 1, 1) := by decide +kernel
theorem dX8_sheet_107 : decode cX8_sheet 107 = .ok (.ireturn, 1) := by decide +kernel
theorem dX8_cell_0 : decode cX8_cell 0 = .ok (.iload_n 1, 1) := by decide +kernel
theorem dX8_cell_1 : decode cX8_cell 1 = .ok (.invokestatic 387, 3) := by decide +kernel
theorem dX8_cell_4 : decode cX8_cell 4 = .ok (.ifCond .ne 6, 3) := by decide +kernel
theorem dX8_cell_7 : decode cX8_cell 7 = .ok (.bipush (-2), 2) := by decide +kernel
theorem dX8_cell_9 : decode cX8_cell 9 = .ok (.ireturn, 1) := by decide +kernel
theorem dX8_cell_10 : decode cX8_cell 10 = .ok (.aload_n 0, 1) := by decide +kernel
theorem dX8_cell_11 : decode cX8_cell 11 = .ok (.getfield 47, 3) := by decide +kernel
theorem dX8_cell_14 : decode cX8_cell 14 = .ok (.iload_n 1, 1) := by decide +kernel
theorem dX8_cell_15 : decode cX8_cell 15 = .ok (.baload, 1) := by decide +kernel
theorem dX8_cell_16 : decode cX8_cell 16 = .ok (.ifCond .ne 6, 3) := by decide +kernel
theorem dX8_cell_19 : decode cX8_cell 19 = .ok (.bipush (-11), 2) := by decide +kernel
theorem dX8_cell_21 : decode cX8_cell 21 = .ok (.ireturn, 1) := by decide +kernel
theorem dX8_cell_22 : decode cX8_cell 22 = .ok (.iload_n 2, 1) := by decide +kernel
theorem dX8_cell_23 : decode cX8_cell 23 = .ok (.i2l, 1) := by decide +kernel
theorem dX8_cell_24 : decode cX8_cell 24 = .ok (.lconst 0, 1) := by decide +kernel
theorem dX8_cell_25 : decode cX8_cell 25 = .ok (.aload_n 0, 1) := by decide +kernel
theorem dX8_cell_26 : decode cX8_cell 26 = .ok (.getfield 54, 3) := by decide +kernel
theorem dX8_cell_29 : decode cX8_cell 29 = .ok (.iload_n 1, 1) := by decide +kernel
theorem dX8_cell_30 : decode cX8_cell 30 = .ok (.iaload, 1) := by decide +kernel
theorem dX8_cell_31 : decode cX8_cell 31 = .ok (.iconst 1, 1) := by decide +kernel
theorem dX8_cell_32 : decode cX8_cell 32 = .ok (.isub, 1) := by decide +kernel
theorem dX8_cell_33 : decode cX8_cell 33 = .ok (.i2l, 1) := by decide +kernel
theorem dX8_cell_34 : decode cX8_cell 34 = .ok (.invokestatic 70, 3) := by decide +kernel
theorem dX8_cell_37 : decode cX8_cell 37 = .ok (.ifCond .ne 6, 3) := by decide +kernel
theorem dX8_cell_40 : decode cX8_cell 40 = .ok (.bipush (-12), 2) := by decide +kernel
theorem dX8_cell_42 : decode cX8_cell 42 = .ok (.ireturn, 1) := by decide +kernel
theorem dX8_cell_43 : decode cX8_cell 43 = .ok (.aload_n 0, 1) := by decide +kernel
theorem dX8_cell_44 : decode cX8_cell 44 = .ok (.getfield 57, 3) := by decide +kernel
theorem dX8_cell_47 : decode cX8_cell 47 = .ok (.bipush 40, 2) := by decide +kernel
theorem dX8_cell_49 : decode cX8_cell 49 = .ok (.iload_n 1, 1) := by decide +kernel
theorem dX8_cell_50 : decode cX8_cell 50 = .ok (.imul, 1) := by decide +kernel
theorem dX8_cell_51 : decode cX8_cell 51 = .ok (.iload_n 2, 1) := by decide +kernel
theorem dX8_cell_52 : decode cX8_cell 52 = .ok (.iadd, 1) := by decide +kernel
theorem dX8_cell_53 : decode cX8_cell 53 = .ok (.aload_n 0, 1) := by decide +kernel
theorem dX8_cell_54 : decode cX8_cell 54 = .ok (.getfield 51, 3) := by decide +kernel
theorem dX8_cell_57 : decode cX8_cell 57 = .ok (.iload_n 1, 1) := by decide +kernel
theorem dX8_cell_58 : decode cX8_cell 58 = .ok (.iaload, 1) := by decide +kernel
theorem dX8_cell_59 : decode cX8_cell 59 = .ok (.ifCond .ne 8, 3) := by decide +kernel
theorem dX8_cell_62 : decode cX8_cell 62 = .ok (.iload_n 3, 1) := by decide +kernel
theorem dX8_cell_63 : decode cX8_cell 63 = .ok (.i2b, 1) := by decide +kernel
theorem dX8_cell_64 : decode cX8_cell 64 = .ok (.goto 19, 3) := by decide +kernel
theorem dX8_cell_67 : decode cX8_cell 67 = .ok (.aload_n 0, 1) := by decide +kernel
theorem dX8_cell_68 : decode cX8_cell 68 = .ok (.getfield 51, 3) := by decide +kernel
theorem dX8_cell_71 : decode cX8_cell 71 = .ok (.iload_n 1, 1) := by decide +kernel
theorem dX8_cell_72 : decode cX8_cell 72 = .ok (.iaload, 1) := by decide +kernel
theorem dX8_cell_73 : decode cX8_cell 73 = .ok (.iconst 1, 1) := by decide +kernel
theorem dX8_cell_74 : decode cX8_cell 74 = .ok (.if_icmp .ne 8, 3) := by decide +kernel
theorem dX8_cell_77 : decode cX8_cell 77 = .ok (.iload_n 3, 1) := by decide +kernel
theorem dX8_cell_78 : decode cX8_cell 78 = .ok (.i2s, 1) := by decide +kernel
theorem dX8_cell_79 : decode cX8_cell 79 = .ok (.goto 4, 3) := by decide +kernel
theorem dX8_cell_82 : decode cX8_cell 82 = .ok (.iload_n 3, 1) := by decide +kernel
theorem dX8_cell_83 : decode cX8_cell 83 = .ok (.iastore, 1) := by decide +kernel
theorem dX8_cell_84 : decode cX8_cell 84 = .ok (.iconst 1, 1) := by decide +kernel
theorem dX8_cell_85 : decode cX8_cell 85 = .ok (.ireturn, 1) := by decide +kernel
theorem dX8_copy_0 : decode cX8_copy 0 = .ok (.iload_n 1, 1) := by decide +kernel
theorem dX8_copy_1 : decode cX8_copy 1 = .ok (.invokestatic 387, 3) := by decide +kernel
theorem dX8_copy_4 : decode cX8_copy 4 = .ok (.ifCond .eq 10, 3) := by decide +kernel
theorem dX8_copy_7 : decode cX8_copy 7 = .ok (.iload_n 3, 1) := by decide +kernel
theorem dX8_copy_8 : decode cX8_copy 8 = .ok (.invokestatic 387, 3) := by decide +kernel
theorem dX8_copy_11 : decode cX8_copy 11 = .ok (.ifCond .ne 6, 3) := by decide +kernel
theorem dX8_copy_14 : decode cX8_copy 14 = .ok (.bipush (-2), 2) := by decide +kernel
theorem dX8_copy_16 : decode cX8_copy 16 = .ok (.ireturn, 1) := by decide +kernel
theorem dX8_copy_17 : decode cX8_copy 17 = .ok (.aload_n 0, 1) := by decide +kernel
theorem dX8_copy_18 : decode cX8_copy 18 = .ok (.getfield 47, 3) := by decide +kernel
theorem dX8_copy_21 : decode cX8_copy 21 = .ok (.iload_n 1, 1) := by decide +kernel
theorem dX8_copy_22 : decode cX8_copy 22 = .ok (.baload, 1) := by decide +kernel
theorem dX8_copy_23 : decode cX8_copy 23 = .ok (.ifCond .eq 12, 3) := by decide +kernel
theorem dX8_copy_26 : decode cX8_copy 26 = .ok (.aload_n 0, 1) := by decide +kernel
theorem dX8_copy_27 : decode cX8_copy 27 = .ok (.getfield 47, 3) := by decide +kernel
theorem dX8_copy_30 : decode cX8_copy 30 = .ok (.iload_n 3, 1) := by decide +kernel
theorem dX8_copy_31 : decode cX8_copy 31 = .ok (.baload, 1) := by decide +kernel
theorem dX8_copy_32 : decode cX8_copy 32 = .ok (.ifCond .ne 6, 3) := by decide +kernel
theorem dX8_copy_35 : decode cX8_copy 35 = .ok (.bipush (-11), 2) := by decide +kernel
theorem dX8_copy_37 : decode cX8_copy 37 = .ok (.ireturn, 1) := by decide +kernel
theorem dX8_copy_38 : decode cX8_copy 38 = .ok (.aload_n 0, 1) := by decide +kernel
theorem dX8_copy_39 : decode cX8_copy 39 = .ok (.getfield 51, 3) := by decide +kernel
theorem dX8_copy_42 : decode cX8_copy 42 = .ok (.iload_n 1, 1) := by decide +kernel
theorem dX8_copy_43 : decode cX8_copy 43 = .ok (.iaload, 1) := by decide +kernel
theorem dX8_copy_44 : decode cX8_copy 44 = .ok (.aload_n 0, 1) := by decide +kernel
theorem dX8_copy_45 : decode cX8_copy 45 = .ok (.getfield 51, 3) := by decide +kernel
theorem dX8_copy_48 : decode cX8_copy 48 = .ok (.iload_n 3, 1) := by decide +kernel
theorem dX8_copy_49 : decode cX8_copy 49 = .ok (.iaload, 1) := by decide +kernel
theorem dX8_copy_50 : decode cX8_copy 50 = .ok (.if_icmp .eq 6, 3) := by decide +kernel
theorem dX8_copy_53 : decode cX8_copy 53 = .ok (.bipush (-13), 2) := by decide +kernel
theorem dX8_copy_55 : decode cX8_copy 55 = .ok (.ireturn, 1) := by decide +kernel
theorem dX8_copy_56 : decode cX8_copy 56 = .ok (.iload 5, 2) := by decide +kernel
theorem dX8_copy_58 : decode cX8_copy 58 = .ok (.ifCond .lt 39, 3) := by decide +kernel
theorem dX8_copy_61 : decode cX8_copy 61 = .ok (.iload_n 2, 1) := by decide +kernel
theorem dX8_copy_62 : decode cX8_copy 62 = .ok (.ifCond .lt 35, 3) := by decide +kernel
theorem dX8_copy_65 : decode cX8_copy 65 = .ok (.iload 4, 2) := by decide +kernel
theorem dX8_copy_67 : decode cX8_copy 67 = .ok (.ifCond .lt 30, 3) := by decide +kernel
theorem dX8_copy_70 : decode cX8_copy 70 = .ok (.iload_n 2, 1) := by decide +kernel
theorem dX8_copy_71 : decode cX8_copy 71 = .ok (.aload_n 0, 1) := by decide +kernel
theorem dX8_copy_72 : decode cX8_copy 72 = .ok (.getfield 54, 3) := by decide +kernel
theorem dX8_copy_75 : decode cX8_copy 75 = .ok (.iload_n 1, 1) := by decide +kernel
theorem dX8_copy_76 : decode cX8_copy 76 = .ok (.iaload, 1) := by decide +kernel
theorem dX8_copy_77 : decode cX8_copy 77 = .ok (.iload 5, 2) := by decide +kernel
theorem dX8_copy_79 : decode cX8_copy 79 = .ok (.isub, 1) := by decide +kernel
theorem dX8_copy_80 : decode cX8_copy 80 = .ok (.if_icmp .gt 17, 3) := by decide +kernel
theorem dX8_copy_83 : decode cX8_copy 83 = .ok (.iload 4, 2) := by decide +kernel
theorem dX8_copy_85 : decode cX8_copy 85 = .ok (.aload_n 0, 1) := by decide +kernel
theorem dX8_copy_86 : decode cX8_copy 86 = .ok (.getfield 54, 3) := by decide +kernel
theorem dX8_copy_89 : decode cX8_copy 89 = .ok (.iload_n 3, 1) := by decide +kernel
theorem dX8_copy_90 : decode cX8_copy 90 = .ok (.iaload, 1) := by decide +kernel
theorem dX8_copy_91 : decode cX8_copy 91 = .ok (.iload 5, 2) := by decide +kernel
theorem dX8_copy_93 : decode cX8_copy 93 = .ok (.isub, 1) := by decide +kernel
theorem dX8_copy_94 : decode cX8_copy 94 = .ok (.if_icmp .le 6, 3) := by decide +kernel
theorem dX8_copy_97 : decode cX8_copy 97 = .ok (.bipush (-12), 2) := by decide +kernel
theorem dX8_copy_99 : decode cX8_copy 99 = .ok (.ireturn, 1) := by decide +kernel
theorem dX8_copy_100 : decode cX8_copy 100 = .ok (.iload_n 1, 1) := by decide +kernel
theorem dX8_copy_101 : decode cX8_copy 101 = .ok (.iload_n 3, 1) := by decide +kernel
theorem dX8_copy_102 : decode cX8_copy 102 = .ok (.if_icmp .ne 13, 3) := by decide +kernel
theorem dX8_copy_105 : decode cX8_copy 105 = .ok (.iload_n 2, 1) := by decide +kernel
theorem dX8_copy_106 : decode cX8_copy 106 = .ok (.iload 4, 2) := by decide +kernel
theorem dX8_copy_108 : decode cX8_copy 108 = .ok (.if_icmp .ge 7, 3) := by decide +kernel
theorem dX8_copy_111 : decode cX8_copy 111 = .ok (.iconst 1, 1) := by decide +kernel
theorem dX8_copy_112 : decode cX8_copy 112 = .ok (.goto 4, 3) := by decide +kernel
theorem dX8_copy_115 : decode cX8_copy 115 = .ok (.iconst 0, 1) := by decide +kernel
theorem dX8_copy_116 : decode cX8_copy 116 = .ok (.istore 6, 2) := by decide +kernel
theorem dX8_copy_118 : decode cX8_copy 118 = .ok (.iconst 0, 1) := by decide +kernel
theorem dX8_copy_119 : decode cX8_copy 119 = .ok (.istore 7, 2) := by decide +kernel
theorem dX8_copy_121 : decode cX8_copy 121 = .ok (.iload 7, 2) := by decide +kernel
theorem dX8_copy_123 : decode cX8_copy 123 = .ok (.iload 5, 2) := by decide +kernel
theorem dX8_copy_125 : decode cX8_copy 125 = .ok (.if_icmp .ge 57, 3) := by decide +kernel
theorem dX8_copy_128 : decode cX8_copy 128 = .ok (.iload 6, 2) := by decide +kernel
theorem dX8_copy_130 : decode cX8_copy 130 = .ok (.ifCond .eq 13, 3) := by decide +kernel
theorem dX8_copy_133 : decode cX8_copy 133 = .ok (.iload 5, 2) := by decide +kernel
theorem dX8_copy_135 : decode cX8_copy 135 = .ok (.iconst 1, 1) := by decide +kernel
theorem dX8_copy_136 : decode cX8_copy 136 = .ok (.isub, 1) := by decide +kernel
theorem dX8_copy_137 : decode cX8_copy 137 = .ok (.iload 7, 2) := by decide +kernel
theorem dX8_copy_139 : decode cX8_copy 139 = .ok (.isub, 1) := by decide +kernel
theorem dX8_copy_140 : decode cX8_copy 140 = .ok (.goto 5, 3) := by decide +kernel
theorem dX8_copy_143 : decode cX8_copy 143 = .ok (.iload 7, 2) := by decide +kernel
theorem dX8_copy_145 : decode cX8_copy 145 = .ok (.istore 8, 2) := by decide +kernel
theorem dX8_copy_147 : decode cX8_copy 147 = .ok (.aload_n 0, 1) := by decide +kernel
theorem dX8_copy_148 : decode cX8_copy 148 = .ok (.getfield 57, 3) := by decide +kernel
theorem dX8_copy_151 : decode cX8_copy 151 = .ok (.bipush 40, 2) := by decide +kernel
theorem dX8_copy_153 : decode cX8_copy 153 = .ok (.iload_n 3, 1) := by decide +kernel
theorem dX8_copy_154 : decode cX8_copy 154 = .ok (.imul, 1) := by decide +kernel
theorem dX8_copy_155 : decode cX8_copy 155 = .ok (.iload 4, 2) := by decide +kernel
theorem dX8_copy_157 : decode cX8_copy 157 = .ok (.iadd, 1) := by decide +kernel
theorem dX8_copy_158 : decode cX8_copy 158 = .ok (.iload 8, 2) := by decide +kernel
theorem dX8_copy_160 : decode cX8_copy 160 = .ok (.iadd, 1) := by decide +kernel
theorem dX8_copy_161 : decode cX8_copy 161 = .ok (.aload_n 0, 1) := by decide +kernel
theorem dX8_copy_162 : decode cX8_copy 162 = .ok (.getfield 57, 3) := by decide +kernel
theorem dX8_copy_165 : decode cX8_copy 165 = .ok (.bipush 40, 2) := by decide +kernel
theorem dX8_copy_167 : decode cX8_copy 167 = .ok (.iload_n 1, 1) := by decide +kernel
theorem dX8_copy_168 : decode cX8_copy 168 = .ok (.imul, 1) := by decide +kernel
theorem dX8_copy_169 : decode cX8_copy 169 = .ok (.iload_n 2, 1) := by decide +kernel
theorem dX8_copy_170 : decode cX8_copy 170 = .ok (.iadd, 1) := by decide +kernel
theorem dX8_copy_171 : decode cX8_copy 171 = .ok (.iload 8, 2) := by decide +kernel
theorem dX8_copy_173 : decode cX8_copy 173 = .ok (.iadd, 1) := by decide +kernel
theorem dX8_copy_174 : decode cX8_copy 174 = .ok (.iaload, 1) := by decide +kernel
theorem dX8_copy_175 : decode cX8_copy 175 = .ok (.iastore, 1) := by decide +kernel
theorem dX8_copy_176 : decode cX8_copy 176 = .ok (.iinc 7 1, 3) := by decide +kernel
theorem dX8_copy_179 : decode cX8_copy 179 = .ok (.goto (-58), 3) := by decide +kernel
theorem dX8_copy_182 : decode cX8_copy 182 = .ok (.iload 5, 2) := by decide +kernel
theorem dX8_copy_184 : decode cX8_copy 184 = .ok (.ireturn, 1) := by decide +kernel
theorem dX8_tenants_0 : decode cX8_tenants 0 = .ok (.iload_n 1, 1) := by decide +kernel
theorem dX8_tenants_1 : decode cX8_tenants 1 = .ok (.invokestatic 387, 3) := by decide +kernel
theorem dX8_tenants_4 : decode cX8_tenants 4 = .ok (.ifCond .eq 28, 3) := by decide +kernel
theorem dX8_tenants_7 : decode cX8_tenants 7 = .ok (.iload_n 2, 1) := by decide +kernel
theorem dX8_tenants_8 : decode cX8_tenants 8 = .ok (.i2l, 1) := by decide +kernel
theorem dX8_tenants_9 : decode cX8_tenants 9 = .ok (.lconst 0, 1) := by decide +kernel
theorem dX8_tenants_10 : decode cX8_tenants 10 = .ok (.ldc2_w 417, 3) := by decide +kernel
theorem dX8_tenants_13 : decode cX8_tenants 13 = .ok (.invokestatic 70, 3) := by decide +kernel
theorem dX8_tenants_16 : decode cX8_tenants 16 = .ok (.ifCond .eq 16, 3) := by decide +kernel
theorem dX8_tenants_19 : decode cX8_tenants 19 = .ok (.iload 4, 2) := by decide +kernel
theorem dX8_tenants_21 : decode cX8_tenants 21 = .ok (.i2l, 1) := by decide +kernel
theorem dX8_tenants_22 : decode cX8_tenants 22 = .ok (.lconst 0, 1) := by decide +kernel
theorem dX8_tenants_23 : decode cX8_tenants 23 = .ok (.ldc2_w 390, 3) := by decide +kernel
theorem dX8_tenants_26 : decode cX8_tenants 26 = .ok (.invokestatic 70, 3) := by decide +kernel
theorem dX8_tenants_29 : decode cX8_tenants 29 = .ok (.ifCond .ne 6, 3) := by decide +kernel
theorem dX8_tenants_32 : decode cX8_tenants 32 = .ok (.bipush (-2), 2) := by decide +kernel
theorem dX8_tenants_34 : decode cX8_tenants 34 = .ok (.ireturn, 1) := by decide +kernel
theorem dX8_tenants_35 : decode cX8_tenants 35 = .ok (.aload_n 0, 1) := by decide +kernel
theorem dX8_tenants_36 : decode cX8_tenants 36 = .ok (.getfield 47, 3) := by decide +kernel
theorem dX8_tenants_39 : decode cX8_tenants 39 = .ok (.iload_n 1, 1) := by decide +kernel
theorem dX8_tenants_40 : decode cX8_tenants 40 = .ok (.baload, 1) := by decide +kernel
theorem dX8_tenants_41 : decode cX8_tenants 41 = .ok (.ifCond .eq 16, 3) := by decide +kernel
theorem dX8_tenants_44 : decode cX8_tenants 44 = .ok (.aload_n 0, 1) := by decide +kernel
theorem dX8_tenants_45 : decode cX8_tenants 45 = .ok (.getfield 51, 3) := by decide +kernel
theorem dX8_tenants_48 : decode cX8_tenants 48 = .ok (.iload_n 1, 1) := by decide +kernel
theorem dX8_tenants_49 : decode cX8_tenants 49 = .ok (.iaload, 1) := by decide +kernel
theorem dX8_tenants_50 : decode cX8_tenants 50 = .ok (.iload_n 2, 1) := by decide +kernel
theorem dX8_tenants_51 : decode cX8_tenants 51 = .ok (.if_icmp .eq 6, 3) := by decide +kernel
theorem dX8_tenants_54 : decode cX8_tenants 54 = .ok (.bipush (-13), 2) := by decide +kernel
theorem dX8_tenants_56 : decode cX8_tenants 56 = .ok (.ireturn, 1) := by decide +kernel
theorem dX8_tenants_57 : decode cX8_tenants 57 = .ok (.aload_n 0, 1) := by decide +kernel
theorem dX8_tenants_58 : decode cX8_tenants 58 = .ok (.getfield 47, 3) := by decide +kernel
theorem dX8_tenants_61 : decode cX8_tenants 61 = .ok (.iload_n 1, 1) := by decide +kernel
theorem dX8_tenants_62 : decode cX8_tenants 62 = .ok (.baload, 1) := by decide +kernel
theorem dX8_tenants_63 : decode cX8_tenants 63 = .ok (.ifCond .ne 6, 3) := by decide +kernel
theorem dX8_tenants_66 : decode cX8_tenants 66 = .ok (.bipush (-11), 2) := by decide +kernel
theorem dX8_tenants_68 : decode cX8_tenants 68 = .ok (.ireturn, 1) := by decide +kernel
theorem dX8_tenants_69 : decode cX8_tenants 69 = .ok (.iconst 0, 1) := by decide +kernel
theorem dX8_tenants_70 : decode cX8_tenants 70 = .ok (.istore 5, 2) := by decide +kernel
theorem dX8_tenants_72 : decode cX8_tenants 72 = .ok (.iconst 0, 1) := by decide +kernel
theorem dX8_tenants_73 : decode cX8_tenants 73 = .ok (.istore 6, 2) := by decide +kernel
theorem dX8_tenants_75 : decode cX8_tenants 75 = .ok (.iload 6, 2) := by decide +kernel
theorem dX8_tenants_77 : decode cX8_tenants 77 = .ok (.iload 4, 2) := by decide +kernel
theorem dX8_tenants_79 : decode cX8_tenants 79 = .ok (.if_icmp .ge 88, 3) := by decide +kernel
theorem dX8_tenants_82 : decode cX8_tenants 82 = .ok (.iload_n 3, 1) := by decide +kernel
theorem dX8_tenants_83 : decode cX8_tenants 83 = .ok (.ifCond .lt 20, 3) := by decide +kernel
theorem dX8_tenants_86 : decode cX8_tenants 86 = .ok (.iload_n 3, 1) := by decide +kernel
theorem dX8_tenants_87 : decode cX8_tenants 87 = .ok (.aload_n 0, 1) := by decide +kernel
theorem dX8_tenants_88 : decode cX8_tenants 88 = .ok (.getfield 54, 3) := by decide +kernel
theorem dX8_tenants_91 : decode cX8_tenants 91 = .ok (.iload_n 1, 1) := by decide +kernel
theorem dX8_tenants_92 : decode cX8_tenants 92 = .ok (.iaload, 1) := by decide +kernel
theorem dX8_tenants_93 : decode cX8_tenants 93 = .ok (.iconst 3, 1) := by decide +kernel
theorem dX8_tenants_94 : decode cX8_tenants 94 = .ok (.iload 6, 2) := by decide +kernel
theorem dX8_tenants_96 : decode cX8_tenants 96 = .ok (.imul, 1) := by decide +kernel
theorem dX8_tenants_97 : decode cX8_tenants 97 = .ok (.isub, 1) := by decide +kernel
theorem dX8_tenants_98 : decode cX8_tenants 98 = .ok (.iconst 3, 1) := by decide +kernel
theorem dX8_tenants_99 : decode cX8_tenants 99 = .ok (.isub, 1) := by decide +kernel
theorem dX8_tenants_100 : decode cX8_tenants 100 = .ok (.if_icmp .le 6, 3) := by decide +kernel
theorem dX8_tenants_103 : decode cX8_tenants 103 = .ok (.bipush (-12), 2) := by decide +kernel
theorem dX8_tenants_105 : decode cX8_tenants 105 = .ok (.ireturn, 1) := by decide +kernel
theorem dX8_tenants_106 : decode cX8_tenants 106 = .ok (.bipush 40, 2) := by decide +kernel
theorem dX8_tenants_108 : decode cX8_tenants 108 = .ok (.iload_n 1, 1) := by decide +kernel
theorem dX8_tenants_109 : decode cX8_tenants 109 = .ok (.imul, 1) := by decide +kernel
theorem dX8_tenants_110 : decode cX8_tenants 110 = .ok (.iload_n 3, 1) := by decide +kernel
theorem dX8_tenants_111 : decode cX8_tenants 111 = .ok (.iadd, 1) := by decide +kernel
theorem dX8_tenants_112 : decode cX8_tenants 112 = .ok (.iconst 3, 1) := by decide +kernel
theorem dX8_tenants_113 : decode cX8_tenants 113 = .ok (.iload 6, 2) := by decide +kernel
theorem dX8_tenants_115 : decode cX8_tenants 115 = .ok (.imul, 1) := by decide +kernel
theorem dX8_tenants_116 : decode cX8_tenants 116 = .ok (.iadd, 1) := by decide +kernel
theorem dX8_tenants_117 : decode cX8_tenants 117 = .ok (.istore 7, 2) := by decide +kernel
theorem dX8_tenants_119 : decode cX8_tenants 119 = .ok (.iload 5, 2) := by decide +kernel
theorem dX8_tenants_121 : decode cX8_tenants 121 = .ok (.aload_n 0, 1) := by decide +kernel
theorem dX8_tenants_122 : decode cX8_tenants 122 = .ok (.aload_n 0, 1) := by decide +kernel
theorem dX8_tenants_123 : decode cX8_tenants 123 = .ok (.getfield 57, 3) := by decide +kernel
theorem dX8_tenants_126 : decode cX8_tenants 126 = .ok (.iload 7, 2) := by decide +kernel
theorem dX8_tenants_128 : decode cX8_tenants 128 = .ok (.iaload, 1) := by decide +kernel
theorem dX8_tenants_129 : decode cX8_tenants 129 = .ok (.aload_n 0, 1) := by decide +kernel
theorem dX8_tenants_130 : decode cX8_tenants 130 = .ok (.getfield 57, 3) := by decide +kernel
theorem dX8_tenants_133 : decode cX8_tenants 133 = .ok (.iload 7, 2) := by decide +kernel
theorem dX8_tenants_135 : decode cX8_tenants 135 = .ok (.iconst 1, 1) := by decide +kernel
theorem dX8_tenants_136 : decode cX8_tenants 136 = .ok (.iadd, 1) := by decide +kernel
theorem dX8_tenants_137 : decode cX8_tenants 137 = .ok (.iaload, 1) := by decide +kernel
theorem dX8_tenants_138 : decode cX8_tenants 138 = .ok (.aload_n 0, 1) := by decide +kernel
theorem dX8_tenants_139 : decode cX8_tenants 139 = .ok (.getfield 57, 3) := by decide +kernel
theorem dX8_tenants_142 : decode cX8_tenants 142 = .ok (.iload 7, 2) := by decide +kernel
theorem dX8_tenants_144 : decode cX8_tenants 144 = .ok (.iconst 2, 1) := by decide +kernel
theorem dX8_tenants_145 : decode cX8_tenants 145 = .ok (.iadd, 1) := by decide +kernel
theorem dX8_tenants_146 : decode cX8_tenants 146 = .ok (.iaload, 1) := by decide +kernel
theorem dX8_tenants_147 : decode cX8_tenants 147 = .ok (.invokevirtual 419, 3) := by decide +kernel
theorem dX8_tenants_150 : decode cX8_tenants 150 = .ok (.ifCond .lt 7, 3) := by decide +kernel
theorem dX8_tenants_153 : decode cX8_tenants 153 = .ok (.iconst 1, 1) := by decide +kernel
theorem dX8_tenants_154 : decode cX8_tenants 154 = .ok (.goto 4, 3) := by decide +kernel
theorem dX8_tenants_157 : decode cX8_tenants 157 = .ok (.iconst 0, 1) := by decide +kernel
theorem dX8_tenants_158 : decode cX8_tenants 158 = .ok (.iadd, 1) := by decide +kernel
theorem dX8_tenants_159 : decode cX8_tenants 159 = .ok (.istore 5, 2) := by decide +kernel
theorem dX8_tenants_161 : decode cX8_tenants 161 = .ok (.iinc 6 1, 3) := by decide +kernel
theorem dX8_tenants_164 : decode cX8_tenants 164 = .ok (.goto (-89), 3) := by decide +kernel
theorem dX8_tenants_167 : decode cX8_tenants 167 = .ok (.iload 5, 2) := by decide +kernel
theorem dX8_tenants_169 : decode cX8_tenants 169 = .ok (.ireturn, 1) := by decide +kernel
theorem dX8_over_0 : decode cX8_over 0 = .ok (.iload_n 0, 1) := by decide +kernel
theorem dX8_over_1 : decode cX8_over 1 = .ok (.ifCond .ne 7, 3) := by decide +kernel
theorem dX8_over_4 : decode cX8_over 4 = .ok (.iconst (-1), 1) := by decide +kernel
theorem dX8_over_5 : decode cX8_over 5 = .ok (.goto 22, 3) := by decide +kernel
theorem dX8_over_8 : decode cX8_over 8 = .ok (.iload_n 0, 1) := by decide +kernel
theorem dX8_over_9 : decode cX8_over 9 = .ok (.iconst 3, 1) := by decide +kernel
theorem dX8_over_10 : decode cX8_over 10 = .ok (.if_icmp .ne 7, 3) := by decide +kernel
theorem dX8_over_13 : decode cX8_over 13 = .ok (.iconst 1, 1) := by decide +kernel
theorem dX8_over_14 : decode cX8_over 14 = .ok (.goto 13, 3) := by decide +kernel
theorem dX8_over_17 : decode cX8_over 17 = .ok (.iload_n 0, 1) := by decide +kernel
theorem dX8_over_18 : decode cX8_over 18 = .ok (.iconst 4, 1) := by decide +kernel
theorem dX8_over_19 : decode cX8_over 19 = .ok (.if_icmp .ne 7, 3) := by decide +kernel
theorem dX8_over_22 : decode cX8_over 22 = .ok (.iconst 2, 1) := by decide +kernel
theorem dX8_over_23 : decode cX8_over 23 = .ok (.goto 4, 3) := by decide +kernel
theorem dX8_over_26 : decode cX8_over 26 = .ok (.iconst 0, 1) := by decide +kernel
theorem dX8_over_27 : decode cX8_over 27 = .ok (.ireturn, 1) := by decide +kernel
theorem dX8_taken_0 : decode cX8_taken 0 = .ok (.iload_n 2, 1) := by decide +kernel
theorem dX8_taken_1 : decode cX8_taken 1 = .ok (.i2l, 1) := by decide +kernel
theorem dX8_taken_2 : decode cX8_taken 2 = .ok (.lconst 0, 1) := by decide +kernel
theorem dX8_taken_3 : decode cX8_taken 3 = .ok (.ldc2_w 101, 3) := by decide +kernel
theorem dX8_taken_6 : decode cX8_taken 6 = .ok (.invokestatic 70, 3) := by decide +kernel
theorem dX8_taken_9 : decode cX8_taken 9 = .ok (.ifCond .ne 6, 3) := by decide +kernel
theorem dX8_taken_12 : decode cX8_taken 12 = .ok (.bipush (-2), 2) := by decide +kernel
theorem dX8_taken_14 : decode cX8_taken 14 = .ok (.ireturn, 1) := by decide +kernel
theorem dX8_taken_15 : decode cX8_taken 15 = .ok (.aload_n 0, 1) := by decide +kernel
theorem dX8_taken_16 : decode cX8_taken 16 = .ok (.iload_n 1, 1) := by decide +kernel
theorem dX8_taken_17 : decode cX8_taken 17 = .ok (.invokevirtual 76, 3) := by decide +kernel
theorem dX8_taken_20 : decode cX8_taken 20 = .ok (.ifCond .ne 6, 3) := by decide +kernel
theorem dX8_taken_23 : decode cX8_taken 23 = .ok (.bipush (-11), 2) := by decide +kernel
theorem dX8_taken_25 : decode cX8_taken 25 = .ok (.ireturn, 1) := by decide +kernel
theorem dX8_taken_26 : decode cX8_taken 26 = .ok (.aload_n 0, 1) := by decide +kernel
theorem dX8_taken_27 : decode cX8_taken 27 = .ok (.getfield 23, 3) := by decide +kernel
theorem dX8_taken_30 : decode cX8_taken 30 = .ok (.iload_n 1, 1) := by decide +kernel
theorem dX8_taken_31 : decode cX8_taken 31 = .ok (.iaload, 1) := by decide +kernel
theorem dX8_taken_32 : decode cX8_taken 32 = .ok (.istore_n 3, 1) := by decide +kernel
theorem dX8_taken_33 : decode cX8_taken 33 = .ok (.iload_n 3, 1) := by decide +kernel
theorem dX8_taken_34 : decode cX8_taken 34 = .ok (.iconst (-1), 1) := by decide +kernel
theorem dX8_taken_35 : decode cX8_taken 35 = .ok (.if_icmp .eq 16, 3) := by decide +kernel
theorem dX8_taken_38 : decode cX8_taken 38 = .ok (.iload_n 3, 1) := by decide +kernel
theorem dX8_taken_39 : decode cX8_taken 39 = .ok (.iload_n 2, 1) := by decide +kernel
theorem dX8_taken_40 : decode cX8_taken 40 = .ok (.if_icmp .eq 11, 3) := by decide +kernel
theorem dX8_taken_43 : decode cX8_taken 43 = .ok (.iload_n 3, 1) := by decide +kernel
theorem dX8_taken_44 : decode cX8_taken 44 = .ok (.invokestatic 422, 3) := by decide +kernel
theorem dX8_taken_47 : decode cX8_taken 47 = .ok (.istore_n 3, 1) := by decide +kernel
theorem dX8_taken_48 : decode cX8_taken 48 = .ok (.goto (-15), 3) := by decide +kernel
theorem dX8_taken_51 : decode cX8_taken 51 = .ok (.iload_n 3, 1) := by decide +kernel
theorem dX8_taken_52 : decode cX8_taken 52 = .ok (.iload_n 2, 1) := by decide +kernel
theorem dX8_taken_53 : decode cX8_taken 53 = .ok (.if_icmp .ne 14, 3) := by decide +kernel
theorem dX8_taken_56 : decode cX8_taken 56 = .ok (.aload_n 0, 1) := by decide +kernel
theorem dX8_taken_57 : decode cX8_taken 57 = .ok (.getfield 26, 3) := by decide +kernel
theorem dX8_taken_60 : decode cX8_taken 60 = .ok (.iconst 4, 1) := by decide +kernel
theorem dX8_taken_61 : decode cX8_taken 61 = .ok (.iload_n 1, 1) := by decide +kernel
theorem dX8_taken_62 : decode cX8_taken 62 = .ok (.imul, 1) := by decide +kernel
theorem dX8_taken_63 : decode cX8_taken 63 = .ok (.iaload, 1) := by decide +kernel
theorem dX8_taken_64 : decode cX8_taken 64 = .ok (.goto 5, 3) := by decide +kernel
theorem dX8_taken_67 : decode cX8_taken 67 = .ok (.bipush (-13), 2) := by decide +kernel
theorem dX8_taken_69 : decode cX8_taken 69 = .ok (.ireturn, 1) := by decide +kernel

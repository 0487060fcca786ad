theorem dX10_greatest_19 : decode cX10_greatest 19 = .ok (.iload_n 2, 1) := by decide +kernel
theorem dX10_greatest_20 : decode cX10_greatest 20 = .ok (.i2l, 1) := by decide +kernel
theorem dX10_greatest_21 : decode cX10_greatest 21 = .ok (.ladd, 1) := by decide +kernel
theorem dX10_greatest_22 : decode cX10_greatest 22 = .ok (.ldc2_w 34, 3) := by decide +kernel
theorem dX10_greatest_25 : decode cX10_greatest 25 = .ok (.lmul, 1) := by decide +kernel
theorem dX10_greatest_26 : decode cX10_greatest 26 = .ok (.iload_n 1, 1) := by decide +kernel
theorem dX10_greatest_27 : decode cX10_greatest 27 = .ok (.i2l, 1) := by decide +kernel
theorem dX10_greatest_28 : decode cX10_greatest 28 = .ok (.ladd, 1) := by decide +kernel
theorem dX10_greatest_29 : decode cX10_greatest 29 = .ok (.lstore 4, 2) := by decide +kernel
theorem dX10_greatest_31 : decode cX10_greatest 31 = .ok (.lload 4, 2) := by decide +kernel
theorem dX10_greatest_33 : decode cX10_greatest 33 = .ok (.ldc2_w 36, 3) := by decide +kernel
theorem dX10_greatest_36 : decode cX10_greatest 36 = .ok (.lmul, 1) := by decide +kernel
theorem dX10_greatest_37 : decode cX10_greatest 37 = .ok (.bipush 53, 2) := by decide +kernel
theorem dX10_greatest_39 : decode cX10_greatest 39 = .ok (.lushr, 1) := by decide +kernel
theorem dX10_greatest_40 : decode cX10_greatest 40 = .ok (.l2i, 1) := by decide +kernel
theorem dX10_greatest_41 : decode cX10_greatest 41 = .ok (.istore 6, 2) := by decide +kernel
theorem dX10_greatest_43 : decode cX10_greatest 43 = .ok (.aload_n 0, 1) := by decide +kernel
theorem dX10_greatest_44 : decode cX10_greatest 44 = .ok (.getfield 21, 3) := by decide +kernel
theorem dX10_greatest_47 : decode cX10_greatest 47 = .ok (.iload 6, 2) := by decide +kernel
theorem dX10_greatest_49 : decode cX10_greatest 49 = .ok (.laload, 1) := by decide +kernel
theorem dX10_greatest_50 : decode cX10_greatest 50 = .ok (.lload 4, 2) := by decide +kernel
theorem dX10_greatest_52 : decode cX10_greatest 52 = .ok (.lcmp, 1) := by decide +kernel
theorem dX10_greatest_53 : decode cX10_greatest 53 = .ok (.ifCond .eq 26, 3) := by decide +kernel
theorem dX10_greatest_56 : decode cX10_greatest 56 = .ok (.aload_n 0, 1) := by decide +kernel
theorem dX10_greatest_57 : decode cX10_greatest 57 = .ok (.getfield 24, 3) := by decide +kernel
theorem dX10_greatest_60 : decode cX10_greatest 60 = .ok (.iload 6, 2) := by decide +kernel
theorem dX10_greatest_62 : decode cX10_greatest 62 = .ok (.aload_n 0, 1) := by decide +kernel
theorem dX10_greatest_63 : decode cX10_greatest 63 = .ok (.iload_n 1, 1) := by decide +kernel
theorem dX10_greatest_64 : decode cX10_greatest 64 = .ok (.iload_n 2, 1) := by decide +kernel
theorem dX10_greatest_65 : decode cX10_greatest 65 = .ok (.iload_n 3, 1) := by decide +kernel
theorem dX10_greatest_66 : decode cX10_greatest 66 = .ok (.invokevirtual 38, 3) := by decide +kernel
theorem dX10_greatest_69 : decode cX10_greatest 69 = .ok (.iastore, 1) := by decide +kernel
theorem dX10_greatest_70 : decode cX10_greatest 70 = .ok (.aload_n 0, 1) := by decide +kernel
theorem dX10_greatest_71 : decode cX10_greatest 71 = .ok (.getfield 21, 3) := by decide +kernel
theorem dX10_greatest_74 : decode cX10_greatest 74 = .ok (.iload 6, 2) := by decide +kernel
theorem dX10_greatest_76 : decode cX10_greatest 76 = .ok (.lload 4, 2) := by decide +kernel
theorem dX10_greatest_78 : decode cX10_greatest 78 = .ok (.lastore, 1) := by decide +kernel
theorem dX10_greatest_79 : decode cX10_greatest 79 = .ok (.aload_n 0, 1) := by decide +kernel
theorem dX10_greatest_80 : decode cX10_greatest 80 = .ok (.getfield 24, 3) := by decide +kernel
theorem dX10_greatest_83 : decode cX10_greatest 83 = .ok (.iload 6, 2) := by decide +kernel
theorem dX10_greatest_85 : decode cX10_greatest 85 = .ok (.iaload, 1) := by decide +kernel
theorem dX10_greatest_86 : decode cX10_greatest 86 = .ok (.ireturn, 1) := by decide +kernel
theorem dX10_worked_0 : decode cX10_worked 0 = .ok (.aload_n 0, 1) := by decide +kernel
theorem dX10_worked_1 : decode cX10_worked 1 = .ok (.iconst 1, 1) := by decide +kernel
theorem dX10_worked_2 : decode cX10_worked 2 = .ok (.bipush 15, 2) := by decide +kernel
theorem dX10_worked_4 : decode cX10_worked 4 = .ok (.iload_n 1, 1) := by decide +kernel
theorem dX10_worked_5 : decode cX10_worked 5 = .ok (.bipush 14, 2) := by decide +kernel
theorem dX10_worked_7 : decode cX10_worked 7 = .ok (.imul, 1) := by decide +kernel
theorem dX10_worked_8 : decode cX10_worked 8 = .ok (.bipush 25, 2) := by decide +kernel
theorem dX10_worked_10 : decode cX10_worked 10 = .ok (.iadd, 1) := by decide +kernel
theorem dX10_worked_11 : decode cX10_worked 11 = .ok (.bipush 40, 2) := by decide +kernel
theorem dX10_worked_13 : decode cX10_worked 13 = .ok (.idiv, 1) := by decide +kernel
theorem dX10_worked_14 : decode cX10_worked 14 = .ok (.iconst 1, 1) := by decide +kernel
theorem dX10_worked_15 : decode cX10_worked 15 = .ok (.iadd, 1) := by decide +kernel
theorem dX10_worked_16 : decode cX10_worked 16 = .ok (.invokestatic 41, 3) := by decide +kernel
theorem dX10_worked_19 : decode cX10_worked 19 = .ok (.invokestatic 47, 3) := by decide +kernel
theorem dX10_worked_22 : decode cX10_worked 22 = .ok (.putfield 50, 3) := by decide +kernel
theorem dX10_worked_25 : decode cX10_worked 25 = .ok (.aload_n 0, 1) := by decide +kernel
theorem dX10_worked_26 : decode cX10_worked 26 = .ok (.aload_n 0, 1) := by decide +kernel
theorem dX10_worked_27 : decode cX10_worked 27 = .ok (.getfield 11, 3) := by decide +kernel
theorem dX10_worked_30 : decode cX10_worked 30 = .ok (.lconst 1, 1) := by decide +kernel
theorem dX10_worked_31 : decode cX10_worked 31 = .ok (.invokevirtual 54, 3) := by decide +kernel
theorem dX10_worked_34 : decode cX10_worked 34 = .ok (.aload_n 0, 1) := by decide +kernel
theorem dX10_worked_35 : decode cX10_worked 35 = .ok (.aload_n 0, 1) := by decide +kernel
theorem dX10_worked_36 : decode cX10_worked 36 = .ok (.getfield 15, 3) := by decide +kernel
theorem dX10_worked_39 : decode cX10_worked 39 = .ok (.ldc2_w 58, 3) := by decide +kernel
theorem dX10_worked_42 : decode cX10_worked 42 = .ok (.invokevirtual 54, 3) := by decide +kernel
theorem dX10_worked_45 : decode cX10_worked 45 = .ok (.iconst 0, 1) := by decide +kernel
theorem dX10_worked_46 : decode cX10_worked 46 = .ok (.istore 4, 2) := by decide +kernel
theorem dX10_worked_48 : decode cX10_worked 48 = .ok (.iload 4, 2) := by decide +kernel
theorem dX10_worked_50 : decode cX10_worked 50 = .ok (.iload_n 1, 1) := by decide +kernel
theorem dX10_worked_51 : decode cX10_worked 51 = .ok (.if_icmp .ge 29, 3) := by decide +kernel
theorem dX10_worked_54 : decode cX10_worked 54 = .ok (.aload_n 0, 1) := by decide +kernel
theorem dX10_worked_55 : decode cX10_worked 55 = .ok (.aload_n 0, 1) := by decide +kernel
theorem dX10_worked_56 : decode cX10_worked 56 = .ok (.getfield 11, 3) := by decide +kernel
theorem dX10_worked_59 : decode cX10_worked 59 = .ok (.iload_n 3, 1) := by decide +kernel
theorem dX10_worked_60 : decode cX10_worked 60 = .ok (.i2l, 1) := by decide +kernel
theorem dX10_worked_61 : decode cX10_worked 61 = .ok (.invokevirtual 60, 3) := by decide +kernel
theorem dX10_worked_64 : decode cX10_worked 64 = .ok (.aload_n 0, 1) := by decide +kernel
theorem dX10_worked_65 : decode cX10_worked 65 = .ok (.aload_n 0, 1) := by decide +kernel
theorem dX10_worked_66 : decode cX10_worked 66 = .ok (.getfield 15, 3) := by decide +kernel
theorem dX10_worked_69 : decode cX10_worked 69 = .ok (.iload_n 2, 1) := by decide +kernel
theorem dX10_worked_70 : decode cX10_worked 70 = .ok (.i2l, 1) := by decide +kernel
theorem dX10_worked_71 : decode cX10_worked 71 = .ok (.invokevirtual 60, 3) := by decide +kernel
theorem dX10_worked_74 : decode cX10_worked 74 = .ok (.iinc 4 1, 3) := by decide +kernel
theorem dX10_worked_77 : decode cX10_worked 77 = .ok (.goto (-29), 3) := by decide +kernel
theorem dX10_worked_80 : decode cX10_worked 80 = .ok (.aload_n 0, 1) := by decide +kernel
theorem dX10_worked_81 : decode cX10_worked 81 = .ok (.aload_n 0, 1) := by decide +kernel
theorem dX10_worked_82 : decode cX10_worked 82 = .ok (.getfield 18, 3) := by decide +kernel
theorem dX10_worked_85 : decode cX10_worked 85 = .ok (.lconst 0, 1) := by decide +kernel
theorem dX10_worked_86 : decode cX10_worked 86 = .ok (.invokevirtual 54, 3) := by decide +kernel
theorem dX10_worked_89 : decode cX10_worked 89 = .ok (.aload_n 0, 1) := by decide +kernel
theorem dX10_worked_90 : decode cX10_worked 90 = .ok (.aload_n 0, 1) := by decide +kernel
theorem dX10_worked_91 : decode cX10_worked 91 = .ok (.getfield 18, 3) := by decide +kernel
theorem dX10_worked_94 : decode cX10_worked 94 = .ok (.aload_n 0, 1) := by decide +kernel
theorem dX10_worked_95 : decode cX10_worked 95 = .ok (.getfield 15, 3) := by decide +kernel
theorem dX10_worked_98 : decode cX10_worked 98 = .ok (.invokevirtual 63, 3) := by decide +kernel
theorem dX10_worked_101 : decode cX10_worked 101 = .ok (.iload_n 1, 1) := by decide +kernel
theorem dX10_worked_102 : decode cX10_worked 102 = .ok (.istore 4, 2) := by decide +kernel
theorem dX10_worked_104 : decode cX10_worked 104 = .ok (.iconst 0, 1) := by decide +kernel
theorem dX10_worked_105 : decode cX10_worked 105 = .ok (.istore 5, 2) := by decide +kernel
theorem dX10_worked_107 : decode cX10_worked 107 = .ok (.iload 5, 2) := by decide +kernel
theorem dX10_worked_109 : decode cX10_worked 109 = .ok (.iload_n 1, 1) := by decide +kernel
theorem dX10_worked_110 : decode cX10_worked 110 = .ok (.if_icmp .ge 73, 3) := by decide +kernel
theorem dX10_worked_113 : decode cX10_worked 113 = .ok (.aload_n 0, 1) := by decide +kernel
theorem dX10_worked_114 : decode cX10_worked 114 = .ok (.aload_n 0, 1) := by decide +kernel
theorem dX10_worked_115 : decode cX10_worked 115 = .ok (.getfield 18, 3) := by decide +kernel
theorem dX10_worked_118 : decode cX10_worked 118 = .ok (.aload_n 0, 1) := by decide +kernel
theorem dX10_worked_119 : decode cX10_worked 119 = .ok (.getfield 11, 3) := by decide +kernel
theorem dX10_worked_122 : decode cX10_worked 122 = .ok (.invokevirtual 67, 3) := by decide +kernel
theorem dX10_worked_125 : decode cX10_worked 125 = .ok (.ifCond .eq 58, 3) := by decide +kernel
theorem dX10_worked_128 : decode cX10_worked 128 = .ok (.aload_n 0, 1) := by decide +kernel
theorem dX10_worked_129 : decode cX10_worked 129 = .ok (.aload_n 0, 1) := by decide +kernel
theorem dX10_worked_130 : decode cX10_worked 130 = .ok (.getfield 15, 3) := by decide +kernel
theorem dX10_worked_133 : decode cX10_worked 133 = .ok (.iload 4, 2) := by decide +kernel
theorem dX10_worked_135 : decode cX10_worked 135 = .ok (.i2l, 1) := by decide +kernel
theorem dX10_worked_136 : decode cX10_worked 136 = .ok (.iload_n 3, 1) := by decide +kernel
theorem dX10_worked_137 : decode cX10_worked 137 = .ok (.iload_n 2, 1) := by decide +kernel
theorem dX10_worked_138 : decode cX10_worked 138 = .ok (.isub, 1) := by decide +kernel
theorem dX10_worked_139 : decode cX10_worked 139 = .ok (.i2l, 1) := by decide +kernel
theorem dX10_worked_140 : decode cX10_worked 140 = .ok (.lmul, 1) := by decide +kernel
theorem dX10_worked_141 : decode cX10_worked 141 = .ok (.invokevirtual 60, 3) := by decide +kernel
theorem dX10_worked_144 : decode cX10_worked 144 = .ok (.aload_n 0, 1) := by decide +kernel
theorem dX10_worked_145 : decode cX10_worked 145 = .ok (.aload_n 0, 1) := by decide +kernel
theorem dX10_worked_146 : decode cX10_worked 146 = .ok (.getfield 15, 3) := by decide +kernel
theorem dX10_worked_149 : decode cX10_worked 149 = .ok (.iload_n 1, 1) := by decide +kernel
theorem dX10_worked_150 : decode cX10_worked 150 = .ok (.iload 4, 2) := by decide +kernel
theorem dX10_worked_152 : decode cX10_worked 152 = .ok (.isub, 1) := by decide +kernel
theorem dX10_worked_153 : decode cX10_worked 153 = .ok (.iconst 1, 1) := by decide +kernel
theorem dX10_worked_154 : decode cX10_worked 154 = .ok (.iadd, 1) := by decide +kernel
theorem dX10_worked_155 : decode cX10_worked 155 = .ok (.i2l, 1) := by decide +kernel
theorem dX10_worked_156 : decode cX10_worked 156 = .ok (.iload_n 2, 1) := by decide +kernel
theorem dX10_worked_157 : decode cX10_worked 157 = .ok (.i2l, 1) := by decide +kernel
theorem dX10_worked_158 : decode cX10_worked 158 = .ok (.lmul, 1) := by decide +kernel
theorem dX10_worked_159 : decode cX10_worked 159 = .ok (.invokevirtual 71, 3) := by decide +kernel
theorem dX10_worked_162 : decode cX10_worked 162 = .ok (.aload_n 0, 1) := by decide +kernel
theorem dX10_worked_163 : decode cX10_worked 163 = .ok (.aload_n 0, 1) := by decide +kernel
theorem dX10_worked_164 : decode cX10_worked 164 = .ok (.getfield 18, 3) := by decide +kernel
theorem dX10_worked_167 : decode cX10_worked 167 = .ok (.aload_n 0, 1) := by decide +kernel
theorem dX10_worked_168 : decode cX10_worked 168 = .ok (.getfield 15, 3) := by decide +kernel
theorem dX10_worked_171 : decode cX10_worked 171 = .ok (.invokevirtual 63, 3) := by decide +kernel
theorem dX10_worked_174 : decode cX10_worked 174 = .ok (.iinc 4 (-1), 3) := by decide +kernel
theorem dX10_worked_177 : decode cX10_worked 177 = .ok (.iinc 5 1, 3) := by decide +kernel
theorem dX10_worked_180 : decode cX10_worked 180 = .ok (.goto (-73), 3) := by decide +kernel
theorem dX10_worked_183 : decode cX10_worked 183 = .ok (.iload 4, 2) := by decide +kernel
theorem dX10_worked_185 : decode cX10_worked 185 = .ok (.ireturn, 1) := by decide +kernel
theorem dX10_setTo_0 : decode cX10_setTo 0 = .ok (.iconst 1, 1) := by decide +kernel
theorem dX10_setTo_1 : decode cX10_setTo 1 = .ok (.istore 4, 2) := by decide +kernel
theorem dX10_setTo_3 : decode cX10_setTo 3 = .ok (.iload 4, 2) := by decide +kernel
theorem dX10_setTo_5 : decode cX10_setTo 5 = .ok (.aload_n 0, 1) := by decide +kernel
theorem dX10_setTo_6 : decode cX10_setTo 6 = .ok (.getfield 50, 3) := by decide +kernel
theorem dX10_setTo_9 : decode cX10_setTo 9 = .ok (.if_icmp .ge 14, 3) := by decide +kernel
theorem dX10_setTo_12 : decode cX10_setTo 12 = .ok (.aload_n 1, 1) := by decide +kernel
theorem dX10_setTo_13 : decode cX10_setTo 13 = .ok (.iload 4, 2) := by decide +kernel
theorem dX10_setTo_15 : decode cX10_setTo 15 = .ok (.lconst 0, 1) := by decide +kernel
theorem dX10_setTo_16 : decode cX10_setTo 16 = .ok (.lastore, 1) := by decide +kernel
theorem dX10_setTo_17 : decode cX10_setTo 17 = .ok (.iinc 4 1, 3) := by decide +kernel
theorem dX10_setTo_20 : decode cX10_setTo 20 = .ok (.goto (-17), 3) := by decide +kernel
theorem dX10_setTo_23 : decode cX10_setTo 23 = .ok (.aload_n 1, 1) := by decide +kernel
theorem dX10_setTo_24 : decode cX10_setTo 24 = .ok (.iconst 0, 1) := by decide +kernel
theorem dX10_setTo_25 : decode cX10_setTo 25 = .ok (.lload_n 2, 1) := by decide +kernel
theorem dX10_setTo_26 : decode cX10_setTo 26 = .ok (.lastore, 1) := by decide +kernel
theorem dX10_setTo_27 : decode cX10_setTo 27 = .ok (.return_, 1) := by decide +kernel
theorem dX10_multiply_0 : decode cX10_multiply 0 = .ok (.lconst 0, 1) := by decide +kernel
theorem dX10_multiply_1 : decode cX10_multiply 1 = .ok (.lstore 4, 2) := by decide +kernel
theorem dX10_multiply_3 : decode cX10_multiply 3 = .ok (.iconst 0, 1) := by decide +kernel
theorem dX10_multiply_4 : decode cX10_multiply 4 = .ok (.istore 6, 2) := by decide +kernel
theorem dX10_multiply_6 : decode cX10_multiply 6 = .ok (.iload 6, 2) := by decide +kernel
theorem dX10_multiply_8 : decode cX10_multiply 8 = .ok (.aload_n 0, 1) := by decide +kernel
theorem dX10_multiply_9 : decode cX10_multiply 9 = .ok (.getfield 50, 3) := by decide +kernel
theorem dX10_multiply_12 : decode cX10_multiply 12 = .ok (.if_icmp .ge 37, 3) := by decide +kernel
theorem dX10_multiply_15 : decode cX10_multiply 15 = .ok (.lload 4, 2) := by decide +kernel
theorem dX10_multiply_17 : decode cX10_multiply 17 = .ok (.aload_n 1, 1) := by decide +kernel
theorem dX10_multiply_18 : decode cX10_multiply 18 = .ok (.iload 6, 2) := by decide +kernel
theorem dX10_multiply_20 : decode cX10_multiply 20 = .ok (.laload, 1) := by decide +kernel
theorem dX10_multiply_21 : decode cX10_multiply 21 = .ok (.lload_n 2, 1) := by decide +kernel
theorem dX10_multiply_22 : decode cX10_multiply 22 = .ok (.lmul, 1) := by decide +kernel
theorem dX10_multiply_23 : decode cX10_multiply 23 = .ok (.ladd, 1) := by decide +kernel
theorem dX10_multiply_24 : decode cX10_multiply 24 = .ok (.lstore 4, 2) := by decide +kernel
theorem dX10_multiply_26 : decode cX10_multiply 26 = .ok (.aload_n 1, 1) := by decide +kernel
theorem dX10_multiply_27 : decode cX10_multiply 27 = .ok (.iload 6, 2) := by decide +kernel
theorem dX10_multiply_29 : decode cX10_multiply 29 = .ok (.lload 4, 2) := by decide +kernel
theorem dX10_multiply_31 : decode cX10_multiply 31 = .ok (.ldc2_w 74, 3) := by decide +kernel
theorem dX10_multiply_34 : decode cX10_multiply 34 = .ok (.land, 1) := by decide +kernel
theorem dX10_multiply_35 : decode cX10_multiply 35 = .ok (.lastore, 1) := by decide +kernel
theorem dX10_multiply_36 : decode cX10_multiply 36 = .ok (.lload 4, 2) := by decide +kernel
theorem dX10_multiply_38 : decode cX10_multiply 38 = .ok (.bipush 40, 2) := by decide +kernel
theorem dX10_multiply_40 : decode cX10_multiply 40 = .ok (.lushr, 1) := by decide +kernel
theorem dX10_multiply_41 : decode cX10_multiply 41 = .ok (.lstore 4, 2) := by decide +kernel
theorem dX10_multiply_43 : decode cX10_multiply 43 = .ok (.iinc 6 1, 3) := by decide +kernel
theorem dX10_multiply_46 : decode cX10_multiply 46 = .ok (.goto (-40), 3) := by decide +kernel
theorem dX10_multiply_49 : decode cX10_multiply 49 = .ok (.return_, 1) := by decide +kernel
theorem dX10_divide_0 : decode cX10_divide 0 = .ok (.lload_n 2, 1) := by decide +kernel
theorem dX10_divide_1 : decode cX10_divide 1 = .ok (.lconst 1, 1) := by decide +kernel
theorem dX10_divide_2 : decode cX10_divide 2 = .ok (.lcmp, 1) := by decide +kernel
theorem dX10_divide_3 : decode cX10_divide 3 = .ok (.ifCond .ge 4, 3) := by decide +kernel
theorem dX10_divide_6 : decode cX10_divide 6 = .ok (.return_, 1) := by decide +kernel
theorem dX10_divide_7 : decode cX10_divide 7 = .ok (.lconst 0, 1) := by decide +kernel
theorem dX10_divide_8 : decode cX10_divide 8 = .ok (.lstore 4, 2) := by decide +kernel
theorem dX10_divide_10 : decode cX10_divide 10 = .ok (.aload_n 0, 1) := by decide +kernel
theorem dX10_divide_11 : decode cX10_divide 11 = .ok (.getfield 50, 3) := by decide +kernel
theorem dX10_divide_14 : decode cX10_divide 14 = .ok (.iconst 1, 1) := by decide +kernel
theorem dX10_divide_15 : decode cX10_divide 15 = .ok (.isub, 1) := by decide +kernel
theorem dX10_divide_16 : decode cX10_divide 16 = .ok (.istore 6, 2) := by decide +kernel
theorem dX10_divide_18 : decode cX10_divide 18 = .ok (.iload 6, 2) := by decide +kernel
theorem dX10_divide_20 : decode cX10_divide 20 = .ok (.ifCond .lt 35, 3) := by decide +kernel
theorem dX10_divide_23 : decode cX10_divide 23 = .ok (.lload 4, 2) := by decide +kernel
theorem dX10_divide_25 : decode cX10_divide 25 = .ok (.bipush 40, 2) := by decide +kernel
theorem dX10_divide_27 : decode cX10_divide 27 = .ok (.lshl, 1) := by decide +kernel
theorem dX10_divide_28 : decode cX10_divide 28 = .ok (.aload_n 1, 1) := by decide +kernel
theorem dX10_divide_29 : decode cX10_divide 29 = .ok (.iload 6, 2) := by decide +kernel
theorem dX10_divide_31 : decode cX10_divide 31 = .ok (.laload, 1) := by decide +kernel
theorem dX10_divide_32 : decode cX10_divide 32 = .ok (.ladd, 1) := by decide +kernel
theorem dX10_divide_33 : decode cX10_divide 33 = .ok (.lstore 4, 2) := by decide +kernel
theorem dX10_divide_35 : decode cX10_divide 35 = .ok (.aload_n 1, 1) := by decide +kernel
theorem dX10_divide_36 : decode cX10_divide 36 = .ok (.iload 6, 2) := by decide +kernel
theorem dX10_divide_38 : decode cX10_divide 38 = .ok (.lload 4, 2) := by decide +kernel
theorem dX10_divide_40 : decode cX10_divide 40 = .ok (.lload_n 2, 1) := by decide +kernel
theorem dX10_divide_41 : decode cX10_divide 41 = .ok (.ldiv, 1) := by decide +kernel
theorem dX10_divide_42 : decode cX10_divide 42 = .ok (.lastore, 1) := by decide +kernel
theorem dX10_divide_43 : decode cX10_divide 43 = .ok (.lload 4, 2) := by decide +kernel
theorem dX10_divide_45 : decode cX10_divide 45 = .ok (.lload_n 2, 1) := by decide +kernel
theorem dX10_divide_46 : decode cX10_divide 46 = .ok (.lrem, 1) := by decide +kernel
theorem dX10_divide_47 : decode cX10_divide 47 = .ok (.lstore 4, 2) := by decide +kernel
theorem dX10_divide_49 : decode cX10_divide 49 = .ok (.iinc 6 (-1), 3) := by decide +kernel
theorem dX10_divide_52 : decode cX10_divide 52 = .ok (.goto (-34), 3) := by decide +kernel
theorem dX10_divide_55 : decode cX10_divide 55 = .ok (.return_, 1) := by decide +kernel
theorem dX10_add_0 : decode cX10_add 0 = .ok (.lconst 0, 1) := by decide +kernel
theorem dX10_add_1 : decode cX10_add 1 = .ok (.lstore_n 3, 1) := by decide +kernel
theorem dX10_add_2 : decode cX10_add 2 = .ok (.iconst 0, 1) := by decide +kernel
theorem dX10_add_3 : decode cX10_add 3 = .ok (.istore 5, 2) := by decide +kernel
theorem dX10_add_5 : decode cX10_add 5 = .ok (.iload 5, 2) := by decide +kernel
theorem dX10_add_7 : decode cX10_add 7 = .ok (.aload_n 0, 1) := by decide +kernel
theorem dX10_add_8 : decode cX10_add 8 = .ok (.getfield 50, 3) := by decide +kernel
theorem dX10_add_11 : decode cX10_add 11 = .ok (.if_icmp .ge 35, 3) := by decide +kernel
theorem dX10_add_14 : decode cX10_add 14 = .ok (.lload_n 3, 1) := by decide +kernel
theorem dX10_add_15 : decode cX10_add 15 = .ok (.aload_n 1, 1) := by decide +kernel
theorem dX10_add_16 : decode cX10_add 16 = .ok (.iload 5, 2) := by decide +kernel
theorem dX10_add_18 : decode cX10_add 18 = .ok (.laload, 1) := by decide +kernel
theorem dX10_add_19 : decode cX10_add 19 = .ok (.aload_n 2, 1) := by decide +kernel
theorem dX10_add_20 : decode cX10_add 20 = .ok (.iload 5, 2) := by decide +kernel
theorem dX10_add_22 : decode cX10_add 22 = .ok (.laload, 1) := by decide +kernel
theorem dX10_add_23 : decode cX10_add 23 = .ok (.ladd, 1) := by decide +kernel
theorem dX10_add_24 : decode cX10_add 24 = .ok (.ladd, 1) := by decide +kernel
theorem dX10_add_25 : decode cX10_add 25 = .ok (.lstore_n 3, 1) := by decide +kernel
theorem dX10_add_26 : decode cX10_add 26 = .ok (.aload_n 1, 1) := by decide +kernel
theorem dX10_add_27 : decode cX10_add 27 = .ok (.iload 5, 2) := by decide +kernel
theorem dX10_add_29 : decode cX10_add 29 = .ok (.lload_n 3, 1) := by decide +kernel
theorem dX10_add_30 : decode cX10_add 30 = .ok (.ldc2_w 74, 3) := by decide +kernel
theorem dX10_add_33 : decode cX10_add 33 = .ok (.land, 1) := by decide +kernel
theorem dX10_add_34 : decode cX10_add 34 = .ok (.lastore, 1) := by decide +kernel
theorem dX10_add_35 : decode cX10_add 35 = .ok (.lload_n 3, 1) := by decide +kernel
theorem dX10_add_36 : decode cX10_add 36 = .ok (.bipush 40, 2) := by decide +kernel
theorem dX10_add_38 : decode cX10_add 38 = .ok (.lushr, 1) := by decide +kernel
theorem dX10_add_39 : decode cX10_add 39 = .ok (.lstore_n 3, 1) := by decide +kernel
theorem dX10_add_40 : decode cX10_add 40 = .ok (.iinc 5 1, 3) := by decide +kernel
theorem dX10_add_43 : decode cX10_add 43 = .ok (.goto (-38), 3) := by decide +kernel
theorem dX10_add_46 : decode cX10_add 46 = .ok (.return_, 1) := by decide +kernel
theorem dX10_isLess_0 : decode cX10_isLess 0 = .ok (.aload_n 0, 1) := by decide +kernel
theorem dX10_isLess_1 : decode cX10_isLess 1 = .ok (.getfield 50, 3) := by decide +kernel
theorem dX10_isLess_4 : decode cX10_isLess 4 = .ok (.iconst 1, 1) := by decide +kernel
theorem dX10_isLess_5 : decode cX10_isLess 5 = .ok (.isub, 1) := by decide +kernel
theorem dX10_isLess_6 : decode cX10_isLess 6 = .ok (.istore_n 3, 1) := by decide +kernel
theorem dX10_isLess_7 : decode cX10_isLess 7 = .ok (.iload_n 3, 1) := by decide +kernel
theorem dX10_isLess_8 : decode cX10_isLess 8 = .ok (.ifCond .lt 35, 3) := by decide +kernel
theorem dX10_isLess_11 : decode cX10_isLess 11 = .ok (.aload_n 1, 1) := by decide +kernel
theorem dX10_isLess_12 : decode cX10_isLess 12 = .ok (.iload_n 3, 1) := by decide +kernel
theorem dX10_isLess_13 : decode cX10_isLess 13 = .ok (.laload, 1) := by decide +kernel
theorem dX10_isLess_14 : decode cX10_isLess 14 = .ok (.aload_n 2, 1) := by decide +kernel
theorem dX10_isLess_15 : decode cX10_isLess 15 = .ok (.iload_n 3, 1) := by decide +kernel
theorem dX10_isLess_16 : decode cX10_isLess 16 = .ok (.laload, 1) := by decide +kernel
theorem dX10_isLess_17 : decode cX10_isLess 17 = .ok (.lcmp, 1) := by decide +kernel
theorem dX10_isLess_18 : decode cX10_isLess 18 = .ok (.ifCond .eq 19, 3) := by decide +kernel
theorem dX10_isLess_21 : decode cX10_isLess 21 = .ok (.aload_n 1, 1) := by decide +kernel
theorem dX10_isLess_22 : decode cX10_isLess 22 = .ok (.iload_n 3, 1) := by decide +kernel
theorem dX10_isLess_23 : decode cX10_isLess 23 = .ok (.laload, 1) := by decide +kernel
theorem dX10_isLess_24 : decode cX10_isLess 24 = .ok (.aload_n 2, 1) := by decide +kernel
theorem dX10_isLess_25 : decode cX10_isLess 25 = .ok (.iload_n 3, 1) := by decide +kernel
theorem dX10_isLess_26 : decode cX10_isLess 26 = .ok (.laload, 1) := by decide +kernel
theorem dX10_isLess_27 : decode cX10_isLess 27 = .ok (.lcmp, 1) := by decide +kernel
theorem dX10_isLess_28 : decode cX10_isLess 28 = .ok (.ifCond .ge 7, 3) := by decide +kernel
theorem dX10_isLess_31 : decode cX10_isLess 31 = .ok (.iconst 1, 1) := by decide +kernel
theorem dX10_isLess_32 : decode cX10_isLess 32 = .ok (.goto 4, 3) := by decide +kernel
theorem dX10_isLess_35 : decode cX10_isLess 35 = .ok (.iconst 0, 1) := by decide +kernel
theorem dX10_isLess_36 : decode cX10_isLess 36 = .ok (.ireturn, 1) := by decide +kernel
theorem dX10_isLess_37 : decode cX10_isLess 37 = .ok (.iinc 3 (-1), 3) := by decide +kernel
theorem dX10_isLess_40 : decode cX10_isLess 40 = .ok (.goto (-33), 3) := by decide +kernel
theorem dX10_isLess_43 : decode cX10_isLess 43 = .ok (.iconst 0, 1) := by decide +kernel
theorem dX10_isLess_44 : decode cX10_isLess 44 = .ok (.ireturn, 1) := by decide +kernel
theorem dX11_init_0 : decode cX11_init 0 = .ok (.aload_n 0, 1) := by decide +kernel
theorem dX11_init_1 : decode cX11_init 1 = .ok (.invokespecial 1, 3) := by decide +kernel
theorem dX11_init_4 : decode cX11_init 4 = .ok (.aload_n 0, 1) := by decide +kernel
theorem dX11_init_5 : decode cX11_init 5 = .ok (.sipush 700, 3) := by decide +kernel
theorem dX11_init_8 : decode cX11_init 8 = .ok (.newarray .byte, 2) := by decide +kernel
theorem dX11_init_10 : decode cX11_init 10 = .ok (.putfield 9, 3) := by decide +kernel
theorem dX11_init_13 : decode cX11_init 13 = .ok (.aload_n 0, 1) := by decide +kernel
theorem dX11_init_14 : decode cX11_init 14 = .ok (.new 13, 3) := by decide +kernel
theorem dX11_init_17 : decode cX11_init 17 = .ok (.dup, 1) := by decide +kernel
theorem dX11_init_18 : decode cX11_init 18 = .ok (.invokespecial 15, 3) := by decide +kernel
theorem dX11_init_21 : decode cX11_init 21 = .ok (.putfield 16, 3) := by decide +kernel
theorem dX11_init_24 : decode cX11_init 24 = .ok (.aload_n 0, 1) := by decide +kernel
theorem dX11_init_25 : decode cX11_init 25 = .ok (.new 20, 3) := by decide +kernel
theorem dX11_init_28 : decode cX11_init 28 = .ok (.dup, 1) := by decide +kernel
theorem dX11_init_29 : decode cX11_init 29 = .ok (.invokespecial 22, 3) := by decide +kernel
theorem dX11_init_32 : decode cX11_init 32 = .ok (.putfield 23, 3) := by decide +kernel
theorem dX11_init_35 : decode cX11_init 35 = .ok (.aload_n 0, 1) := by decide +kernel
theorem dX11_init_36 : decode cX11_init 36 = .ok (.new 27, 3) := by decide +kernel
theorem dX11_init_39 : decode cX11_init 39 = .ok (.dup, 1) := by decide +kernel
theorem dX11_init_40 : decode cX11_init 40 = .ok (.invokespecial 29, 3) := by decide +kernel
theorem dX11_init_43 : decode cX11_init 43 = .ok (.putfield 30, 3) := by decide +kernel
theorem dX11_init_46 : decode cX11_init 46 = .ok (.aload_n 0, 1) := by decide +kernel
theorem dX11_init_47 : decode cX11_init 47 = .ok (.sipush 200, 3) := by decide +kernel
theorem dX11_init_50 : decode cX11_init 50 = .ok (.newarray .int, 2) := by decide +kernel
theorem dX11_init_52 : decode cX11_init 52 = .ok (.putfield 34, 3) := by decide +kernel
theorem dX11_init_55 : decode cX11_init 55 = .ok (.aload_n 0, 1) := by decide +kernel
theorem dX11_init_56 : decode cX11_init 56 = .ok (.sipush 401, 3) := by decide +kernel
theorem dX11_init_59 : decode cX11_init 59 = .ok (.newarray .long, 2) := by decide +kernel
theorem dX11_init_61 : decode cX11_init 61 = .ok (.putfield 38, 3) := by decide +kernel
theorem dX11_init_64 : decode cX11_init 64 = .ok (.aload_n 0, 1) := by decide +kernel
theorem dX11_init_65 : decode cX11_init 65 = .ok (.sipush 401, 3) := by decide +kernel
theorem dX11_init_68 : decode cX11_init 68 = .ok (.newarray .long, 2) := by decide +kernel
theorem dX11_init_70 : decode cX11_init 70 = .ok (.putfield 42, 3) := by decide +kernel
theorem dX11_init_73 : decode cX11_init 73 = .ok (.aload_n 0, 1) := by decide +kernel
theorem dX11_init_74 : decode cX11_init 74 = .ok (.sipush 529, 3) := by decide +kernel
theorem dX11_init_77 : decode cX11_init 77 = .ok (.newarray .boolean, 2) := by decide +kernel
theorem dX11_init_79 : decode cX11_init 79 = .ok (.putfield 45, 3) := by decide +kernel
theorem dX11_init_82 : decode cX11_init 82 = .ok (.aload_n 0, 1) := by decide +kernel
theorem dX11_init_83 : decode cX11_init 83 = .ok (.new 49, 3) := by decide +kernel
theorem dX11_init_86 : decode cX11_init 86 = .ok (.dup, 1) := by decide +kernel
theorem dX11_init_87 : decode cX11_init 87 = .ok (.invokespecial 51, 3) := by decide +kernel
theorem dX11_init_90 : decode cX11_init 90 = .ok (.putfield 52, 3) := by decide +kernel
theorem dX11_init_93 : decode cX11_init 93 = .ok (.aload_n 0, 1) := by decide +kernel
theorem dX11_init_94 : decode cX11_init 94 = .ok (.new 56, 3) := by decide +kernel
theorem dX11_init_97 : decode cX11_init 97 = .ok (.dup, 1) := by decide +kernel
theorem dX11_init_98 : decode cX11_init 98 = .ok (.invokespecial 58, 3) := by decide +kernel
theorem dX11_init_101 : decode cX11_init 101 = .ok (.putfield 59, 3) := by decide +kernel
theorem dX11_init_104 : decode cX11_init 104 = .ok (.return_, 1) := by decide +kernel
theorem dX11_feed_0 : decode cX11_feed 0 = .ok (.aload_n 0, 1) := by decide +kernel
theorem dX11_feed_1 : decode cX11_feed 1 = .ok (.getfield 63, 3) := by decide +kernel
theorem dX11_feed_4 : decode cX11_feed 4 = .ok (.bipush 20, 2) := by decide +kernel
theorem dX11_feed_6 : decode cX11_feed 6 = .ok (.iadd, 1) := by decide +kernel
theorem dX11_feed_7 : decode cX11_feed 7 = .ok (.sipush 700, 3) := by decide +kernel
theorem dX11_feed_10 : decode cX11_feed 10 = .ok (.if_icmp .le 5, 3) := by decide +kernel
theorem dX11_feed_13 : decode cX11_feed 13 = .ok (.iconst (-1), 1) := by decide +kernel
theorem dX11_feed_14 : decode cX11_feed 14 = .ok (.ireturn, 1) := by decide +kernel
theorem dX11_feed_15 : decode cX11_feed 15 = .ok (.aload_n 0, 1) := by decide +kernel
theorem dX11_feed_16 : decode cX11_feed 16 = .ok (.iload_n 1, 1) := by decide +kernel
theorem dX11_feed_17 : decode cX11_feed 17 = .ok (.invokevirtual 67, 3) := by decide +kernel
theorem dX11_feed_20 : decode cX11_feed 20 = .ok (.aload_n 0, 1) := by decide +kernel
theorem dX11_feed_21 : decode cX11_feed 21 = .ok (.iload_n 2, 1) := by decide +kernel
theorem dX11_feed_22 : decode cX11_feed 22 = .ok (.invokevirtual 67, 3) := by decide +kernel
theorem dX11_feed_25 : decode cX11_feed 25 = .ok (.aload_n 0, 1) := by decide +kernel
theorem dX11_feed_26 : decode cX11_feed 26 = .ok (.iload_n 3, 1) := by decide +kernel
theorem dX11_feed_27 : decode cX11_feed 27 = .ok (.invokevirtual 67, 3) := by decide +kernel
theorem dX11_feed_30 : decode cX11_feed 30 = .ok (.aload_n 0, 1) := by decide +kernel
theorem dX11_feed_31 : decode cX11_feed 31 = .ok (.iload 4, 2) := by decide +kernel
theorem dX11_feed_33 : decode cX11_feed 33 = .ok (.invokevirtual 67, 3) := by decide +kernel
theorem dX11_feed_36 : decode cX11_feed 36 = .ok (.aload_n 0, 1) := by decide +kernel
theorem dX11_feed_37 : decode cX11_feed 37 = .ok (.iload 5, 2) := by decide +kernel
theorem dX11_feed_39 : decode cX11_feed 39 = .ok (.invokevirtual 67, 3) := by decide +kernel
theorem dX11_feed_42 : decode cX11_feed 42 = .ok (.aload_n 0, 1) := by decide +kernel
theorem dX11_feed_43 : decode cX11_feed 43 = .ok (.getfield 63, 3) := by decide +kernel
theorem dX11_feed_46 : decode cX11_feed 46 = .ok (.ireturn, 1) := by decide +kernel
theorem dX11_putBytes_0 : decode cX11_putBytes 0 = .ok (.bipush 24, 2) := by decide +kernel
theorem dX11_putBytes_2 : decode cX11_putBytes 2 = .ok (.istore_n 2, 1) := by decide +kernel
theorem dX11_putBytes_3 : decode cX11_putBytes 3 = .ok (.iload_n 2, 1) := by decide +kernel
theorem dX11_putBytes_4 : decode cX11_putBytes 4 = .ok (.ifCond .lt 44, 3) := by decide +kernel
theorem dX11_putBytes_7 : decode cX11_putBytes 7 = .ok (.aload_n 0, 1) := by decide +kernel
theorem dX11_putBytes_8 : decode cX11_putBytes 8 = .ok (.getfield 63, 3) := by decide +kernel
theorem dX11_putBytes_11 : decode cX11_putBytes 11 = .ok (.aload_n 0, 1) := by decide +kernel
theorem dX11_putBytes_12 : decode cX11_putBytes 12 = .ok (.getfield 9, 3) := by decide +kernel
theorem dX11_putBytes_15 : decode cX11_putBytes 15 = .ok (.arraylength, 1) := by decide +kernel
theorem dX11_putBytes_16 : decode cX11_putBytes 16 = .ok (.if_icmp .ge 32, 3) := by decide +kernel
theorem dX11_putBytes_19 : decode cX11_putBytes 19 = .ok (.aload_n 0, 1) := by decide +kernel
theorem dX11_putBytes_20 : decode cX11_putBytes 20 = .ok (.getfield 9, 3) := by decide +kernel
theorem dX11_putBytes_23 : decode cX11_putBytes 23 = .ok (.aload_n 0, 1) := by decide +kernel
theorem dX11_putBytes_24 : decode cX11_putBytes 24 = .ok (.getfield 63, 3) := by decide +kernel
theorem dX11_putBytes_27 : decode cX11_putBytes 27 = .ok (.iload_n 1, 1) := by decide +kernel
theorem dX11_putBytes_28 : decode cX11_putBytes 28 = .ok (.iload_n 2, 1) := by decide +kernel
theorem dX11_putBytes_29 : decode cX11_putBytes 29 = .ok (.ishr, 1) := by decide +kernel
theorem dX11_putBytes_30 : decode cX11_putBytes 30 = .ok (.i2b, 1) := by decide +kernel
theorem dX11_putBytes_31 : decode cX11_putBytes 31 = .ok (.bastore, 1) := by decide +kernel
theorem dX11_putBytes_32 : decode cX11_putBytes 32 = .ok (.aload_n 0, 1) := by decide +kernel
theorem dX11_putBytes_33 : decode cX11_putBytes 33 = .ok (.dup, 1) := by decide +kernel
theorem dX11_putBytes_34 : decode cX11_putBytes 34 = .ok (.getfield 63, 3) := by decide +kernel
theorem dX11_putBytes_37 : decode cX11_putBytes 37 = .ok (.iconst 1, 1) := by decide +kernel
theorem dX11_putBytes_38 : decode cX11_putBytes 38 = .ok (.iadd, 1) := by decide +kernel
theorem dX11_putBytes_39 : decode cX11_putBytes 39 = .ok (.putfield 63, 3) := by decide +kernel
theorem dX11_putBytes_42 : decode cX11_putBytes 42 = .ok (.iinc 2 (-8), 3) := by decide +kernel
theorem dX11_putBytes_45 : decode cX11_putBytes 45 = .ok (.goto (-42), 3) := by decide +kernel
theorem dX11_putBytes_48 : decode cX11_putBytes 48 = .ok (.return_, 1) := by decide +kernel
theorem dX11_room_0 : decode cX11_room 0 = .ok (.aload_n 0, 1) := by decide +kernel
theorem dX11_room_1 : decode cX11_room 1 = .ok (.iload_n 1, 1) := by decide +kernel
theorem dX11_room_2 : decode cX11_room 2 = .ok (.ifCond .lt 11, 3) := by decide +kernel
theorem dX11_room_5 : decode cX11_room 5 = .ok (.iload_n 1, 1) := by decide +kernel
theorem dX11_room_6 : decode cX11_room 6 = .ok (.aload_n 0, 1) := by decide +kernel
theorem dX11_room_7 : decode cX11_room 7 = .ok (.getfield 63, 3) := by decide +kernel
theorem dX11_room_10 : decode cX11_room 10 = .ok (.if_icmp .le 7, 3) := by decide +kernel
theorem dX11_room_13 : decode cX11_room 13 = .ok (.iconst 2, 1) := by decide +kernel
theorem dX11_room_14 : decode cX11_room 14 = .ok (.goto 4, 3) := by decide +kernel
theorem dX11_room_17 : decode cX11_room 17 = .ok (.iconst 0, 1) := by decide +kernel
theorem dX11_room_18 : decode cX11_room 18 = .ok (.invokevirtual 71, 3) := by decide +kernel
theorem dX11_room_21 : decode cX11_room 21 = .ok (.ifCond .ne 5, 3) := by decide +kernel
theorem dX11_room_24 : decode cX11_room 24 = .ok (.iconst (-1), 1) := by decide +kernel
theorem dX11_room_25 : decode cX11_room 25 = .ok (.ireturn, 1) := by decide +kernel
theorem dX11_room_26 : decode cX11_room 26 = .ok (.aload_n 0, 1) := by decide +kernel
theorem dX11_room_27 : decode cX11_room 27 = .ok (.iconst 0, 1) := by decide +kernel
theorem dX11_room_28 : decode cX11_room 28 = .ok (.putfield 63, 3) := by decide +kernel
theorem dX11_room_31 : decode cX11_room 31 = .ok (.aload_n 0, 1) := by decide +kernel
theorem dX11_room_32 : decode cX11_room 32 = .ok (.getfield 16, 3) := by decide +kernel
theorem dX11_room_35 : decode cX11_room 35 = .ok (.aload_n 0, 1) := by decide +kernel
theorem dX11_room_36 : decode cX11_room 36 = .ok (.getfield 9, 3) := by decide +kernel
theorem dX11_room_39 : decode cX11_room 39 = .ok (.iload_n 1, 1) := by decide +kernel
theorem dX11_room_40 : decode cX11_room 40 = .ok (.invokevirtual 75, 3) := by decide +kernel
theorem dX11_room_43 : decode cX11_room 43 = .ok (.istore_n 2, 1) := by decide +kernel
theorem dX11_room_44 : decode cX11_room 44 = .ok (.aload_n 0, 1) := by decide +kernel
theorem dX11_room_45 : decode cX11_room 45 = .ok (.aload_n 0, 1) := by decide +kernel
theorem dX11_room_46 : decode cX11_room 46 = .ok (.getfield 16, 3) := by decide +kernel
theorem dX11_room_49 : decode cX11_room 49 = .ok (.getfield 79, 3) := by decide +kernel
theorem dX11_room_52 : decode cX11_room 52 = .ok (.putfield 82, 3) := by decide +kernel
theorem dX11_room_55 : decode cX11_room 55 = .ok (.aload_n 0, 1) := by decide +kernel
theorem dX11_room_56 : decode cX11_room 56 = .ok (.aload_n 0, 1) := by decide +kernel
theorem dX11_room_57 : decode cX11_room 57 = .ok (.getfield 16, 3) := by decide +kernel
theorem dX11_room_60 : decode cX11_room 60 = .ok (.getfield 85, 3) := by decide +kernel
theorem dX11_room_63 : decode cX11_room 63 = .ok (.putfield 88, 3) := by decide +kernel
theorem dX11_room_66 : decode cX11_room 66 = .ok (.aload_n 0, 1) := by decide +kernel
theorem dX11_room_67 : decode cX11_room 67 = .ok (.iload_n 2, 1) := by decide +kernel
theorem dX11_room_68 : decode cX11_room 68 = .ok (.ifCond .eq 7, 3) := by decide +kernel
theorem dX11_room_71 : decode cX11_room 71 = .ok (.iconst 0, 1) := by decide +kernel
theorem dX11_room_72 : decode cX11_room 72 = .ok (.goto 4, 3) := by decide +kernel
theorem dX11_room_75 : decode cX11_room 75 = .ok (.iconst 4, 1) := by decide +kernel
theorem dX11_room_76 : decode cX11_room 76 = .ok (.invokevirtual 71, 3) := by decide +kernel
theorem dX11_room_79 : decode cX11_room 79 = .ok (.ifCond .ne 5, 3) := by decide +kernel
theorem dX11_room_82 : decode cX11_room 82 = .ok (.iconst (-1), 1) := by decide +kernel
theorem dX11_room_83 : decode cX11_room 83 = .ok (.ireturn, 1) := by decide +kernel
theorem dX11_room_84 : decode cX11_room 84 = .ok (.aload_n 0, 1) := by decide +kernel
theorem dX11_room_85 : decode cX11_room 85 = .ok (.getfield 52, 3) := by decide +kernel
theorem dX11_room_88 : decode cX11_room 88 = .ok (.astore_n 3, 1) := by decide +kernel
theorem dX11_room_89 : decode cX11_room 89 = .ok (.aload_n 0, 1) := by decide +kernel
theorem dX11_room_90 : decode cX11_room 90 = .ok (.aload_n 0, 1) := by decide +kernel
theorem dX11_room_91 : decode cX11_room 91 = .ok (.getfield 16, 3) := by decide +kernel
theorem dX11_room_94 : decode cX11_room 94 = .ok (.getfield 91, 3) := by decide +kernel
theorem dX11_room_97 : decode cX11_room 97 = .ok (.putfield 52, 3) := by decide +kernel
theorem dX11_room_100 : decode cX11_room 100 = .ok (.aload_n 0, 1) := by decide +kernel
theorem dX11_room_101 : decode cX11_room 101 = .ok (.getfield 16, 3) := by decide +kernel
theorem dX11_room_104 : decode cX11_room 104 = .ok (.aload_n 3, 1) := by decide +kernel
theorem dX11_room_105 : decode cX11_room 105 = .ok (.putfield 91, 3) := by decide +kernel
theorem dX11_room_108 : decode cX11_room 108 = .ok (.aload_n 0, 1) := by decide +kernel
theorem dX11_room_109 : decode cX11_room 109 = .ok (.getfield 52, 3) := by decide +kernel
theorem dX11_room_112 : decode cX11_room 112 = .ok (.invokevirtual 92, 3) := by decide +kernel
theorem dX11_room_115 : decode cX11_room 115 = .ok (.aload_n 0, 1) := by decide +kernel
theorem dX11_room_116 : decode cX11_room 116 = .ok (.getfield 23, 3) := by decide +kernel
theorem dX11_room_119 : decode cX11_room 119 = .ok (.invokevirtual 95, 3) := by decide +kernel
theorem dX11_room_122 : decode cX11_room 122 = .ok (.aload_n 0, 1) := by decide +kernel
theorem dX11_room_123 : decode cX11_room 123 = .ok (.iconst 0, 1) := by decide +kernel
theorem dX11_room_124 : decode cX11_room 124 = .ok (.putfield 98, 3) := by decide +kernel
theorem dX11_room_127 : decode cX11_room 127 = .ok (.aload_n 0, 1) := by decide +kernel
theorem dX11_room_128 : decode cX11_room 128 = .ok (.getfield 52, 3) := by decide +kernel
theorem dX11_room_131 : decode cX11_room 131 = .ok (.getfield 101, 3) := by decide +kernel
theorem dX11_room_134 : decode cX11_room 134 = .ok (.ireturn, 1) := by decide +kernel
theorem dX11_fault_0 : decode cX11_fault 0 = .ok (.aload_n 0, 1) := by decide +kernel
theorem dX11_fault_1 : decode cX11_fault 1 = .ok (.getfield 82, 3) := by decide +kernel
theorem dX11_fault_4 : decode cX11_fault 4 = .ok (.ireturn, 1) := by decide +kernel
theorem dX11_where_0 : decode cX11_where 0 = .ok (.aload_n 0, 1) := by decide +kernel
theorem dX11_where_1 : decode cX11_where 1 = .ok (.getfield 104, 3) := by decide +kernel
theorem dX11_where_4 : decode cX11_where 4 = .ok (.iconst 4, 1) := by decide +kernel
theorem dX11_where_5 : decode cX11_where 5 = .ok (.if_icmp .ne 10, 3) := by decide +kernel
theorem dX11_where_8 : decode cX11_where 8 = .ok (.aload_n 0, 1) := by decide +kernel
theorem dX11_where_9 : decode cX11_where 9 = .ok (.getfield 88, 3) := by decide +kernel
theorem dX11_where_12 : decode cX11_where 12 = .ok (.goto 4, 3) := by decide +kernel
theorem dX11_where_15 : decode cX11_where 15 = .ok (.iconst (-1), 1) := by decide +kernel
theorem dX11_where_16 : decode cX11_where 16 = .ok (.ireturn, 1) := by decide +kernel
theorem dX11_level_0 : decode cX11_level 0 = .ok (.aload_n 0, 1) := by decide +kernel
theorem dX11_level_1 : decode cX11_level 1 = .ok (.iload_n 1, 1) := by decide +kernel
theorem dX11_level_2 : decode cX11_level 2 = .ok (.invokevirtual 107, 3) := by decide +kernel
theorem dX11_level_5 : decode cX11_level 5 = .ok (.ifCond .eq 14, 3) := by decide +kernel
theorem dX11_level_8 : decode cX11_level 8 = .ok (.iload_n 2, 1) := by decide +kernel
theorem dX11_level_9 : decode cX11_level 9 = .ok (.ifCond .lt 10, 3) := by decide +kernel
theorem dX11_level_12 : decode cX11_level 12 = .ok (.iload_n 2, 1) := by decide +kernel
theorem dX11_level_13 : decode cX11_level 13 = .ok (.sipush 400, 3) := by decide +kernel
theorem dX11_level_16 : decode cX11_level 16 = .ok (.if_icmp .le 5, 3) := by decide +kernel
theorem dX11_level_19 : decode cX11_level 19 = .ok (.iconst (-1), 1) := by decide +kernel
theorem dX11_level_20 : decode cX11_level 20 = .ok (.ireturn, 1) := by decide +kernel
theorem dX11_level_21 : decode cX11_level 21 = .ok (.aload_n 0, 1) := by decide +kernel
theorem dX11_level_22 : decode cX11_level 22 = .ok (.getfield 52, 3) := by decide +kernel
theorem dX11_level_25 : decode cX11_level 25 = .ok (.getfield 110, 3) := by decide +kernel
theorem dX11_level_28 : decode cX11_level 28 = .ok (.iload_n 1, 1) := by decide +kernel
theorem dX11_level_29 : decode cX11_level 29 = .ok (.aaload, 1) := by decide +kernel
theorem dX11_level_30 : decode cX11_level 30 = .ok (.iload_n 2, 1) := by decide +kernel
theorem dX11_level_31 : decode cX11_level 31 = .ok (.invokevirtual 114, 3) := by decide +kernel
theorem dX11_level_34 : decode cX11_level 34 = .ok (.ireturn, 1) := by decide +kernel
theorem dX11_noise_0 : decode cX11_noise 0 = .ok (.aload_n 0, 1) := by decide +kernel
theorem dX11_noise_1 : decode cX11_noise 1 = .ok (.iload_n 1, 1) := by decide +kernel
theorem dX11_noise_2 : decode cX11_noise 2 = .ok (.invokevirtual 107, 3) := by decide +kernel
theorem dX11_noise_5 : decode cX11_noise 5 = .ok (.ifCond .ne 5, 3) := by decide +kernel
theorem dX11_noise_8 : decode cX11_noise 8 = .ok (.iconst (-1), 1) := by decide +kernel
theorem dX11_noise_9 : decode cX11_noise 9 = .ok (.ireturn, 1) := by decide +kernel
theorem dX11_noise_10 : decode cX11_noise 10 = .ok (.aload_n 0, 1) := by decide +kernel
theorem dX11_noise_11 : decode cX11_noise 11 = .ok (.getfield 52, 3) := by decide +kernel
theorem dX11_noise_14 : decode cX11_noise 14 = .ok (.getfield 110, 3) := by decide +kernel
theorem dX11_noise_17 : decode cX11_noise 17 = .ok (.iload_n 1, 1) := by decide +kernel
theorem dX11_noise_18 : decode cX11_noise 18 = .ok (.aaload, 1) := by decide +kernel
theorem dX11_noise_19 : decode cX11_noise 19 = .ok (.invokevirtual 120, 3) := by decide +kernel
theorem dX11_noise_22 : decode cX11_noise 22 = .ok (.iload_n 2, 1) := by decide +kernel
theorem dX11_noise_23 : decode cX11_noise 23 = .ok (.invokevirtual 124, 3) := by decide +kernel
theorem dX11_noise_26 : decode cX11_noise 26 = .ok (.ireturn, 1) := by decide +kernel
theorem dX11_sayer_0 : decode cX11_sayer 0 = .ok (.aload_n 0, 1) := by decide +kernel
theorem dX11_sayer_1 : decode cX11_sayer 1 = .ok (.iload_n 1, 1) := by decide +kernel
theorem dX11_sayer_2 : decode cX11_sayer 2 = .ok (.invokevirtual 129, 3) := by decide +kernel
theorem dX11_sayer_5 : decode cX11_sayer 5 = .ok (.ifCond .ne 7, 3) := by decide +kernel
theorem dX11_sayer_8 : decode cX11_sayer 8 = .ok (.sipush (-1000), 3) := by decide +kernel
theorem dX11_sayer_11 : decode cX11_sayer 11 = .ok (.ireturn, 1) := by decide +kernel
theorem dX11_sayer_12 : decode cX11_sayer 12 = .ok (.aload_n 0, 1) := by decide +kernel
theorem dX11_sayer_13 : decode cX11_sayer 13 = .ok (.getfield 52, 3) := by decide +kernel
theorem dX11_sayer_16 : decode cX11_sayer 16 = .ok (.getfield 132, 3) := by decide +kernel
theorem dX11_sayer_19 : decode cX11_sayer 19 = .ok (.iload_n 1, 1) := by decide +kernel
theorem dX11_sayer_20 : decode cX11_sayer 20 = .ok (.aaload, 1) := by decide +kernel
theorem dX11_sayer_21 : decode cX11_sayer 21 = .ok (.astore_n 3, 1) := by decide +kernel
theorem dX11_sayer_22 : decode cX11_sayer 22 = .ok (.iload_n 2, 1) := by decide +kernel
theorem dX11_sayer_23 : decode cX11_sayer 23 = .ok (.tableswitch 116 0 9 #[53, 58, 63, 68, 73, 79, 84, 89, 98, 111], 53) := by decide +kernel
theorem dX11_sayer_76 : decode cX11_sayer 76 = .ok (.aload_n 3, 1) := by decide +kernel
theorem dX11_sayer_77 : decode cX11_sayer 77 = .ok (.getfield 136, 3) := by decide +kernel
theorem dX11_sayer_80 : decode cX11_sayer 80 = .ok (.ireturn, 1) := by decide +kernel
theorem dX11_sayer_81 : decode cX11_sayer 81 = .ok (.aload_n 3, 1) := by decide +kernel
theorem dX11_sayer_82 : decode cX11_sayer 82 = .ok (.getfield 141, 3) := by decide +kernel
theorem dX11_sayer_85 : decode cX11_sayer 85 = .ok (.ireturn, 1) := by decide +kernel
theorem dX11_sayer_86 : decode cX11_sayer 86 = .ok (.aload_n 3, 1) := by decide +kernel
theorem dX11_sayer_87 : decode cX11_sayer 87 = .ok (.getfield 144, 3) := by decide +kernel
theorem dX11_sayer_90 : decode cX11_sayer 90 = .ok (.ireturn, 1) := by decide +kernel
theorem dX11_sayer_91 : decode cX11_sayer 91 = .ok (.aload_n 3, 1) := by decide +kernel
theorem dX11_sayer_92 : decode cX11_sayer 92 = .ok (.invokevirtual 147, 3) := by decide +kernel
theorem dX11_sayer_95 : decode cX11_sayer 95 = .ok (.ireturn, 1) := by decide +kernel
theorem dX11_sayer_96 : decode cX11_sayer 96 = .ok (.aload_n 0, 1) := by decide +kernel
theorem dX11_sayer_97 : decode cX11_sayer 97 = .ok (.aload_n 3, 1) := by decide +kernel
theorem dX11_sayer_98 : decode cX11_sayer 98 = .ok (.invokevirtual 151, 3) := by decide +kernel
theorem dX11_sayer_101 : decode cX11_sayer 101 = .ok (.ireturn, 1) := by decide +kernel
theorem dX11_sayer_102 : decode cX11_sayer 102 = .ok (.aload_n 3, 1) := by decide +kernel
theorem dX11_sayer_103 : decode cX11_sayer 103 = .ok (.getfield 155, 3) := by decide +kernel
theorem dX11_sayer_106 : decode cX11_sayer 106 = .ok (.ireturn, 1) := by decide +kernel
theorem dX11_sayer_107 : decode cX11_sayer 107 = .ok (.aload_n 3, 1) := by decide +kernel
theorem dX11_sayer_108 : decode cX11_sayer 108 = .ok (.getfield 158, 3) := by decide +kernel
theorem dX11_sayer_111 : decode cX11_sayer 111 = .ok (.ireturn, 1) := by decide +kernel
theorem dX11_sayer_112 : decode cX11_sayer 112 = .ok (.aload_n 0, 1) := by decide +kernel
theorem dX11_sayer_113 : decode cX11_sayer 113 = .ok (.aload_n 3, 1) := by decide +kernel
theorem dX11_sayer_114 : decode cX11_sayer 114 = .ok (.invokevirtual 161, 3) := by decide +kernel
theorem dX11_sayer_117 : decode cX11_sayer 117 = .ok (.getfield 165, 3) := by decide +kernel
theorem dX11_sayer_120 : decode cX11_sayer 120 = .ok (.ireturn, 1) := by decide +kernel
theorem dX11_sayer_121 : decode cX11_sayer 121 = .ok (.aload_n 3, 1) := by decide +kernel
theorem dX11_sayer_122 : decode cX11_sayer 122 = .ok (.getfield 168, 3) := by decide +kernel
theorem dX11_sayer_125 : decode cX11_sayer 125 = .ok (.ifCond .eq 7, 3) := by decide +kernel
theorem dX11_sayer_128 : decode cX11_sayer 128 = .ok (.iconst 1, 1) := by decide +kernel
theorem dX11_sayer_129 : decode cX11_sayer 129 = .ok (.goto 4, 3) := by decide +kernel
theorem dX11_sayer_132 : decode cX11_sayer 132 = .ok (.iconst 0, 1) := by decide +kernel
theorem dX11_sayer_133 : decode cX11_sayer 133 = .ok (.ireturn, 1) := by decide +kernel
theorem dX11_sayer_134 : decode cX11_sayer 134 = .ok (.aload_n 3, 1) := by decide +kernel
theorem dX11_sayer_135 : decode cX11_sayer 135 = .ok (.getfield 172, 3) := by decide +kernel
theorem dX11_sayer_138 : decode cX11_sayer 138 = .ok (.ireturn, 1) := by decide +kernel
theorem dX11_sayer_139 : decode cX11_sayer 139 = .ok (.sipush (-1000), 3) := by decide +kernel
theorem dX11_sayer_142 : decode cX11_sayer 142 = .ok (.ireturn, 1) := by decide +kernel
theorem dX11_rest_0 : decode cX11_rest 0 = .ok (.aload_n 0, 1) := by decide +kernel
theorem dX11_rest_1 : decode cX11_rest 1 = .ok (.aload_n 0, 1) := by decide +kernel
theorem dX11_rest_2 : decode cX11_rest 2 = .ok (.iload_n 1, 1) := by decide +kernel
theorem dX11_rest_3 : decode cX11_rest 3 = .ok (.invokevirtual 129, 3) := by decide +kernel
theorem dX11_rest_6 : decode cX11_rest 6 = .ok (.ifCond .eq 7, 3) := by decide +kernel
theorem dX11_rest_9 : decode cX11_rest 9 = .ok (.iconst 0, 1) := by decide +kernel
theorem dX11_rest_10 : decode cX11_rest 10 = .ok (.goto 4, 3) := by decide +kernel
theorem dX11_rest_13 : decode cX11_rest 13 = .ok (.iconst 1, 1) := by decide +kernel
theorem dX11_rest_14 : decode cX11_rest 14 = .ok (.invokevirtual 71, 3) := by decide +kernel
theorem dX11_rest_17 : decode cX11_rest 17 = .ok (.ifCond .ne 5, 3) := by decide +kernel
theorem dX11_rest_20 : decode cX11_rest 20 = .ok (.iconst 0, 1) := by decide +kernel
theorem dX11_rest_21 : decode cX11_rest 21 = .ok (.ireturn, 1) := by decide +kernel
theorem dX11_rest_22 : decode cX11_rest 22 = .ok (.aload_n 0, 1) := by decide +kernel
theorem dX11_rest_23 : decode cX11_rest 23 = .ok (.getfield 52, 3) := by decide +kernel
theorem dX11_rest_26 : decode cX11_rest 26 = .ok (.getfield 132, 3) := by decide +kernel
theorem dX11_rest_29 : decode cX11_rest 29 = .ok (.iload_n 1, 1) := by decide +kernel
theorem dX11_rest_30 : decode cX11_rest 30 = .ok (.aaload, 1) := by decide +kernel
theorem dX11_rest_31 : decode cX11_rest 31 = .ok (.iconst 0, 1) := by decide +kernel
theorem dX11_rest_32 : decode cX11_rest 32 = .ok (.putfield 158, 3) := by decide +kernel
theorem dX11_rest_35 : decode cX11_rest 35 = .ok (.iconst 1, 1) := by decide +kernel
theorem dX11_rest_36 : decode cX11_rest 36 = .ok (.ireturn, 1) := by decide +kernel
theorem dX11_odds_0 : decode cX11_odds 0 = .ok (.aload_n 0, 1) := by decide +kernel
theorem dX11_odds_1 : decode cX11_odds 1 = .ok (.iload_n 1, 1) := by decide +kernel
theorem dX11_odds_2 : decode cX11_odds 2 = .ok (.iload_n 2, 1) := by decide +kernel
theorem dX11_odds_3 : decode cX11_odds 3 = .ok (.iload_n 3, 1) := by decide +kernel
theorem dX11_odds_4 : decode cX11_odds 4 = .ok (.iload 4, 2) := by decide +kernel
theorem dX11_odds_6 : decode cX11_odds 6 = .ok (.iload 5, 2) := by decide +kernel
theorem dX11_odds_8 : decode cX11_odds 8 = .ok (.invokevirtual 175, 3) := by decide +kernel
theorem dX11_odds_11 : decode cX11_odds 11 = .ok (.ifCond .ne 5, 3) := by decide +kernel
theorem dX11_odds_14 : decode cX11_odds 14 = .ok (.iconst (-1), 1) := by decide +kernel
theorem dX11_odds_15 : decode cX11_odds 15 = .ok (.ireturn, 1) := by decide +kernel
theorem dX11_odds_16 : decode cX11_odds 16 = .ok (.aload_n 0, 1) := by decide +kernel
theorem dX11_odds_17 : decode cX11_odds 17 = .ok (.aload_n 0, 1) := by decide +kernel
theorem dX11_odds_18 : decode cX11_odds 18 = .ok (.getfield 59, 3) := by decide +kernel
theorem dX11_odds_21 : decode cX11_odds 21 = .ok (.getfield 179, 3) := by decide +kernel
theorem dX11_odds_24 : decode cX11_odds 24 = .ok (.invokevirtual 161, 3) := by decide +kernel
theorem dX11_odds_27 : decode cX11_odds 27 = .ok (.astore 8, 2) := by decide +kernel
theorem dX11_odds_29 : decode cX11_odds 29 = .ok (.iload 7, 2) := by decide +kernel
theorem dX11_odds_31 : decode cX11_odds 31 = .ok (.ifCond .eq 15, 3) := by decide +kernel
theorem dX11_odds_34 : decode cX11_odds 34 = .ok (.aload_n 0, 1) := by decide +kernel
theorem dX11_odds_35 : decode cX11_odds 35 = .ok (.getfield 59, 3) := by decide +kernel
theorem dX11_odds_38 : decode cX11_odds 38 = .ok (.aload 8, 2) := by decide +kernel
theorem dX11_odds_40 : decode cX11_odds 40 = .ok (.invokevirtual 183, 3) := by decide +kernel
theorem dX11_odds_43 : decode cX11_odds 43 = .ok (.goto 14, 3) := by decide +kernel
theorem dX11_odds_46 : decode cX11_odds 46 = .ok (.aload_n 0, 1) := by decide +kernel
theorem dX11_odds_47 : decode cX11_odds 47 = .ok (.getfield 59, 3) := by decide +kernel
theorem dX11_odds_50 : decode cX11_odds 50 = .ok (.aload 8, 2) := by decide +kernel
theorem dX11_odds_52 : decode cX11_odds 52 = .ok (.iload 6, 2) := by decide +kernel
theorem dX11_odds_54 : decode cX11_odds 54 = .ok (.invokevirtual 187, 3) := by decide +kernel
theorem dX11_odds_57 : decode cX11_odds 57 = .ok (.ireturn, 1) := by decide +kernel
theorem dX11_seed_0 : decode cX11_seed 0 = .ok (.aload_n 0, 1) := by decide +kernel
theorem dX11_seed_1 : decode cX11_seed 1 = .ok (.iload_n 1, 1) := by decide +kernel
theorem dX11_seed_2 : decode cX11_seed 2 = .ok (.ifCond .lt 9, 3) := by decide +kernel
theorem dX11_seed_5 : decode cX11_seed 5 = .ok (.iload_n 1, 1) := by decide +kernel
theorem dX11_seed_6 : decode cX11_seed 6 = .ok (.ldc 191, 2) := by decide +kernel
theorem dX11_seed_8 : decode cX11_seed 8 = .ok (.if_icmp .lt 7, 3) := by decide +kernel
theorem dX11_seed_11 : decode cX11_seed 11 = .ok (.iconst 2, 1) := by decide +kernel
theorem dX11_seed_12 : decode cX11_seed 12 = .ok (.goto 4, 3) := by decide +kernel
theorem dX11_seed_15 : decode cX11_seed 15 = .ok (.iconst 0, 1) := by decide +kernel
theorem dX11_seed_16 : decode cX11_seed 16 = .ok (.invokevirtual 71, 3) := by decide +kernel
theorem dX11_seed_19 : decode cX11_seed 19 = .ok (.ifCond .ne 5, 3) := by decide +kernel
theorem dX11_seed_22 : decode cX11_seed 22 = .ok (.iconst 0, 1) := by decide +kernel
theorem dX11_seed_23 : decode cX11_seed 23 = .ok (.ireturn, 1) := by decide +kernel
theorem dX11_seed_24 : decode cX11_seed 24 = .ok (.aload_n 0, 1) := by decide +kernel
theorem dX11_seed_25 : decode cX11_seed 25 = .ok (.iload_n 1, 1) := by decide +kernel
theorem dX11_seed_26 : decode cX11_seed 26 = .ok (.putfield 98, 3) := by decide +kernel
theorem dX11_seed_29 : decode cX11_seed 29 = .ok (.iconst 1, 1) := by decide +kernel
theorem dX11_seed_30 : decode cX11_seed 30 = .ok (.ireturn, 1) := by decide +kernel
theorem dX11_trial_0 : decode cX11_trial 0 = .ok (.aload_n 0, 1) := by decide +kernel
theorem dX11_trial_1 : decode cX11_trial 1 = .ok (.iload_n 1, 1) := by decide +kernel
theorem dX11_trial_2 : decode cX11_trial 2 = .ok (.iload_n 2, 1) := by decide +kernel
theorem dX11_trial_3 : decode cX11_trial 3 = .ok (.iload_n 3, 1) := by decide +kernel
theorem dX11_trial_4 : decode cX11_trial 4 = .ok (.iload 4, 2) := by decide +kernel
theorem dX11_trial_6 : decode cX11_trial 6 = .ok (.iload 5, 2) := by decide +kernel
theorem dX11_trial_8 : decode cX11_trial 8 = .ok (.invokevirtual 175, 3) := by decide +kernel
theorem dX11_trial_11 : decode cX11_trial 11 = .ok (.ifCond .eq 15, 3) := by decide +kernel
theorem dX11_trial_14 : decode cX11_trial 14 = .ok (.aload_n 0, 1) := by decide +kernel
theorem dX11_trial_15 : decode cX11_trial 15 = .ok (.aload_n 0, 1) := by decide +kernel
theorem dX11_trial_16 : decode cX11_trial 16 = .ok (.iconst 1, 1) := by decide +kernel
theorem dX11_trial_17 : decode cX11_trial 17 = .ok (.invokevirtual 192, 3) := by decide +kernel
theorem dX11_trial_20 : decode cX11_trial 20 = .ok (.invokevirtual 71, 3) := by decide +kernel
theorem dX11_trial_23 : decode cX11_trial 23 = .ok (.ifCond .ne 5, 3) := by decide +kernel
theorem dX11_trial_26 : decode cX11_trial 26 = .ok (.iconst (-1), 1) := by decide +kernel
theorem dX11_trial_27 : decode cX11_trial 27 = .ok (.ireturn, 1) := by decide +kernel
theorem dX11_trial_28 : decode cX11_trial 28 = .ok (.aload_n 0, 1) := by decide +kernel
theorem dX11_trial_29 : decode cX11_trial 29 = .ok (.invokevirtual 195, 3) := by decide +kernel
theorem dX11_trial_32 : decode cX11_trial 32 = .ok (.ireturn, 1) := by decide +kernel
theorem dX11_tell_0 : decode cX11_tell 0 = .ok (.aload_n 0, 1) := by decide +kernel
theorem dX11_tell_1 : decode cX11_tell 1 = .ok (.iload_n 1, 1) := by decide +kernel
theorem dX11_tell_2 : decode cX11_tell 2 = .ok (.iload_n 2, 1) := by decide +kernel
theorem dX11_tell_3 : decode cX11_tell 3 = .ok (.iload_n 3, 1) := by decide +kernel
theorem dX11_tell_4 : decode cX11_tell 4 = .ok (.iload 4, 2) := by decide +kernel
theorem dX11_tell_6 : decode cX11_tell 6 = .ok (.iload 5, 2) := by decide +kernel
theorem dX11_tell_8 : decode cX11_tell 8 = .ok (.invokevirtual 175, 3) := by decide +kernel
theorem dX11_tell_11 : decode cX11_tell 11 = .ok (.ifCond .eq 31, 3) := by decide +kernel
theorem dX11_tell_14 : decode cX11_tell 14 = .ok (.aload_n 0, 1) := by decide +kernel
theorem dX11_tell_15 : decode cX11_tell 15 = .ok (.aload_n 0, 1) := by decide +kernel
theorem dX11_tell_16 : decode cX11_tell 16 = .ok (.getfield 59, 3) := by decide +kernel
theorem dX11_tell_19 : decode cX11_tell 19 = .ok (.iload 6, 2) := by decide +kernel
theorem dX11_tell_21 : decode cX11_tell 21 = .ok (.invokevirtual 198, 3) := by decide +kernel
theorem dX11_tell_24 : decode cX11_tell 24 = .ok (.ifCond .eq 11, 3) := by decide +kernel
theorem dX11_tell_27 : decode cX11_tell 27 = .ok (.aload_n 0, 1) := by decide +kernel
theorem dX11_tell_28 : decode cX11_tell 28 = .ok (.iconst 1, 1) := by decide +kernel
theorem dX11_tell_29 : decode cX11_tell 29 = .ok (.invokevirtual 192, 3) := by decide +kernel
theorem dX11_tell_32 : decode cX11_tell 32 = .ok (.goto 4, 3) := by decide +kernel
theorem dX11_tell_35 : decode cX11_tell 35 = .ok (.iconst 2, 1) := by decide +kernel
theorem dX11_tell_36 : decode cX11_tell 36 = .ok (.invokevirtual 71, 3) := by decide +kernel
theorem dX11_tell_39 : decode cX11_tell 39 = .ok (.ifCond .ne 5, 3) := by decide +kernel
theorem dX11_tell_42 : decode cX11_tell 42 = .ok (.iconst (-1), 1) := by decide +kernel
theorem dX11_tell_43 : decode cX11_tell 43 = .ok (.ireturn, 1) := by decide +kernel
theorem dX11_tell_44 : decode cX11_tell 44 = .ok (.aload_n 0, 1) := by decide +kernel
theorem dX11_tell_45 : decode cX11_tell 45 = .ok (.iload 6, 2) := by decide +kernel
theorem dX11_tell_47 : decode cX11_tell 47 = .ok (.invokevirtual 201, 3) := by decide +kernel
theorem dX11_tell_50 : decode cX11_tell 50 = .ok (.aload_n 0, 1) := by decide +kernel
theorem dX11_tell_51 : decode cX11_tell 51 = .ok (.getfield 23, 3) := by decide +kernel
theorem dX11_tell_54 : decode cX11_tell 54 = .ok (.getfield 204, 3) := by decide +kernel
theorem dX11_tell_57 : decode cX11_tell 57 = .ok (.ireturn, 1) := by decide +kernel
theorem dX11_run_0 : decode cX11_run 0 = .ok (.aload_n 0, 1) := by decide +kernel
theorem dX11_run_1 : decode cX11_run 1 = .ok (.aload_n 0, 1) := by decide +kernel
theorem dX11_run_2 : decode cX11_run 2 = .ok (.iload_n 1, 1) := by decide +kernel
theorem dX11_run_3 : decode cX11_run 3 = .ok (.invokevirtual 207, 3) := by decide +kernel
theorem dX11_run_6 : decode cX11_run 6 = .ok (.ifCond .eq 15, 3) := by decide +kernel
theorem dX11_run_9 : decode cX11_run 9 = .ok (.aload_n 0, 1) := by decide +kernel
theorem dX11_run_10 : decode cX11_run 10 = .ok (.iload_n 2, 1) := by decide +kernel
theorem dX11_run_11 : decode cX11_run 11 = .ok (.invokevirtual 129, 3) := by decide +kernel
theorem dX11_run_14 : decode cX11_run 14 = .ok (.ifCond .eq 7, 3) := by decide +kernel
theorem dX11_run_17 : decode cX11_run 17 = .ok (.iconst 0, 1) := by decide +kernel
theorem dX11_run_18 : decode cX11_run 18 = .ok (.goto 4, 3) := by decide +kernel
theorem dX11_run_21 : decode cX11_run 21 = .ok (.iconst 1, 1) := by decide +kernel
theorem dX11_run_22 : decode cX11_run 22 = .ok (.invokevirtual 71, 3) := by decide +kernel
theorem dX11_run_25 : decode cX11_run 25 = .ok (.ifCond .ne 5, 3) := by decide +kernel
theorem dX11_run_28 : decode cX11_run 28 = .ok (.iconst (-1), 1) := by decide +kernel
theorem dX11_run_29 : decode cX11_run 29 = .ok (.ireturn, 1) := by decide +kernel
theorem dX11_run_30 : decode cX11_run 30 = .ok (.aload_n 0, 1) := by decide +kernel
theorem dX11_run_31 : decode cX11_run 31 = .ok (.getfield 52, 3) := by decide +kernel
theorem dX11_run_34 : decode cX11_run 34 = .ok (.getfield 210, 3) := by decide +kernel
theorem dX11_run_37 : decode cX11_run 37 = .ok (.iload_n 1, 1) := by decide +kernel
theorem dX11_run_38 : decode cX11_run 38 = .ok (.aaload, 1) := by decide +kernel
theorem dX11_run_39 : decode cX11_run 39 = .ok (.astore_n 3, 1) := by decide +kernel
theorem dX11_run_40 : decode cX11_run 40 = .ok (.aload_n 3, 1) := by decide +kernel
theorem dX11_run_41 : decode cX11_run 41 = .ok (.invokevirtual 214, 3) := by decide +kernel
theorem dX11_run_44 : decode cX11_run 44 = .ok (.aload_n 0, 1) := by decide +kernel
theorem dX11_run_45 : decode cX11_run 45 = .ok (.getfield 34, 3) := by decide +kernel
theorem dX11_run_48 : decode cX11_run 48 = .ok (.arraylength, 1) := by decide +kernel
theorem dX11_run_49 : decode cX11_run 49 = .ok (.invokestatic 219, 3) := by decide +kernel
theorem dX11_run_52 : decode cX11_run 52 = .ok (.istore 4, 2) := by decide +kernel
theorem dX11_run_54 : decode cX11_run 54 = .ok (.aload_n 0, 1) := by decide +kernel
theorem dX11_run_55 : decode cX11_run 55 = .ok (.aload_n 0, 1) := by decide +kernel
theorem dX11_run_56 : decode cX11_run 56 = .ok (.iload 4, 2) := by decide +kernel
theorem dX11_run_58 : decode cX11_run 58 = .ok (.invokevirtual 192, 3) := by decide +kernel
theorem dX11_run_61 : decode cX11_run 61 = .ok (.invokevirtual 71, 3) := by decide +kernel
theorem dX11_run_64 : decode cX11_run 64 = .ok (.ifCond .ne 5, 3) := by decide +kernel
theorem dX11_run_67 : decode cX11_run 67 = .ok (.iconst (-1), 1) := by decide +kernel
theorem dX11_run_68 : decode cX11_run 68 = .ok (.ireturn, 1) := by decide +kernel
theorem dX11_run_69 : decode cX11_run 69 = .ok (.aload_n 3, 1) := by decide +kernel
theorem dX11_run_70 : decode cX11_run 70 = .ok (.aload_n 0, 1) := by decide +kernel
theorem dX11_run_71 : decode cX11_run 71 = .ok (.getfield 34, 3) := by decide +kernel
theorem dX11_run_74 : decode cX11_run 74 = .ok (.invokevirtual 225, 3) := by decide +kernel
theorem dX11_run_77 : decode cX11_run 77 = .ok (.iconst 0, 1) := by decide +kernel
theorem dX11_run_78 : decode cX11_run 78 = .ok (.istore 5, 2) := by decide +kernel
theorem dX11_run_80 : decode cX11_run 80 = .ok (.iconst 0, 1) := by decide +kernel
theorem dX11_run_81 : decode cX11_run 81 = .ok (.istore 6, 2) := by decide +kernel
theorem dX11_run_83 : decode cX11_run 83 = .ok (.iload 6, 2) := by decide +kernel
theorem dX11_run_85 : decode cX11_run 85 = .ok (.iload 4, 2) := by decide +kernel
theorem dX11_run_87 : decode cX11_run 87 = .ok (.if_icmp .ge 52, 3) := by decide +kernel
theorem dX11_run_90 : decode cX11_run 90 = .ok (.aload_n 3, 1) := by decide +kernel
theorem dX11_run_91 : decode cX11_run 91 = .ok (.getfield 229, 3) := by decide +kernel
theorem dX11_run_94 : decode cX11_run 94 = .ok (.iconst 2, 1) := by decide +kernel
theorem dX11_run_95 : decode cX11_run 95 = .ok (.if_icmp .ne 21, 3) := by decide +kernel
theorem dX11_run_98 : decode cX11_run 98 = .ok (.aload_n 0, 1) := by decide +kernel
theorem dX11_run_99 : decode cX11_run 99 = .ok (.iload 6, 2) := by decide +kernel
theorem dX11_run_101 : decode cX11_run 101 = .ok (.iload 6, 2) := by decide +kernel
theorem dX11_run_103 : decode cX11_run 103 = .ok (.aload_n 0, 1) := by decide +kernel
theorem dX11_run_104 : decode cX11_run 104 = .ok (.iload 4, 2) := by decide +kernel
theorem dX11_run_106 : decode cX11_run 106 = .ok (.iload 6, 2) := by decide +kernel
theorem dX11_run_108 : decode cX11_run 108 = .ok (.isub, 1) := by decide +kernel
theorem dX11_run_109 : decode cX11_run 109 = .ok (.invokevirtual 232, 3) := by decide +kernel
theorem dX11_run_112 : decode cX11_run 112 = .ok (.iadd, 1) := by decide +kernel
theorem dX11_run_113 : decode cX11_run 113 = .ok (.invokevirtual 235, 3) := by decide +kernel
theorem dX11_run_116 : decode cX11_run 116 = .ok (.iload 5, 2) := by decide +kernel
theorem dX11_run_118 : decode cX11_run 118 = .ok (.aload_n 0, 1) := by decide +kernel
theorem dX11_run_119 : decode cX11_run 119 = .ok (.iload_n 2, 1) := by decide +kernel
theorem dX11_run_120 : decode cX11_run 120 = .ok (.aload_n 0, 1) := by decide +kernel
theorem dX11_run_121 : decode cX11_run 121 = .ok (.getfield 34, 3) := by decide +kernel
theorem dX11_run_124 : decode cX11_run 124 = .ok (.iload 6, 2) := by decide +kernel
theorem dX11_run_126 : decode cX11_run 126 = .ok (.iaload, 1) := by decide +kernel
theorem dX11_run_127 : decode cX11_run 127 = .ok (.invokevirtual 239, 3) := by decide +kernel
theorem dX11_run_130 : decode cX11_run 130 = .ok (.iadd, 1) := by decide +kernel
theorem dX11_run_131 : decode cX11_run 131 = .ok (.istore 5, 2) := by decide +kernel
theorem dX11_run_133 : decode cX11_run 133 = .ok (.iinc 6 1, 3) := by decide +kernel
theorem dX11_run_136 : decode cX11_run 136 = .ok (.goto (-53), 3) := by decide +kernel
theorem dX11_run_139 : decode cX11_run 139 = .ok (.iload 5, 2) := by decide +kernel
theorem dX11_run_141 : decode cX11_run 141 = .ok (.ireturn, 1) := by decide +kernel
theorem dX11_bringToFront_0 : decode cX11_bringToFront 0 = .ok (.iload_n 1, 1) := by decide +kernel
theorem dX11_bringToFront_1 : decode cX11_bringToFront 1 = .ok (.ifCond .lt 17, 3) := by decide +kernel
theorem dX11_bringToFront_4 : decode cX11_bringToFront 4 = .ok (.iload_n 2, 1) := by decide +kernel
theorem dX11_bringToFront_5 : decode cX11_bringToFront 5 = .ok (.iload_n 1, 1) := by decide +kernel
theorem dX11_bringToFront_6 : decode cX11_bringToFront 6 = .ok (.if_icmp .lt 12, 3) := by decide +kernel
theorem dX11_bringToFront_9 : decode cX11_bringToFront 9 = .ok (.iload_n 2, 1) := by decide +kernel
theorem dX11_bringToFront_10 : decode cX11_bringToFront 10 = .ok (.aload_n 0, 1) := by decide +kernel
theorem dX11_bringToFront_11 : decode cX11_bringToFront 11 = .ok (.getfield 34, 3) := by decide +kernel
theorem dX11_bringToFront_14 : decode cX11_bringToFront 14 = .ok (.arraylength, 1) := by decide +kernel
theorem dX11_bringToFront_15 : decode cX11_bringToFront 15 = .ok (.if_icmp .lt 4, 3) := by decide +kernel
theorem dX11_bringToFront_18 : decode cX11_bringToFront 18 = .ok (.return_, 1) := by decide +kernel
theorem dX11_bringToFront_19 : decode cX11_bringToFront 19 = .ok (.aload_n 0, 1) := by decide +kernel
theorem dX11_bringToFront_20 : decode cX11_bringToFront 20 = .ok (.getfield 34, 3) := by decide +kernel
theorem dX11_bringToFront_23 : decode cX11_bringToFront 23 = .ok (.iload_n 2, 1) := by decide +kernel
theorem dX11_bringToFront_24 : decode cX11_bringToFront 24 = .ok (.iaload, 1) := by decide +kernel
theorem dX11_bringToFront_25 : decode cX11_bringToFront 25 = .ok (.istore_n 3, 1) := by decide +kernel
theorem dX11_bringToFront_26 : decode cX11_bringToFront 26 = .ok (.iload_n 2, 1) := by decide +kernel
theorem dX11_bringToFront_27 : decode cX11_bringToFront 27 = .ok (.istore 4, 2) := by decide +kernel
theorem dX11_bringToFront_29 : decode cX11_bringToFront 29 = .ok (.iload 4, 2) := by decide +kernel
theorem dX11_bringToFront_31 : decode cX11_bringToFront 31 = .ok (.iload_n 1, 1) := by decide +kernel
theorem dX11_bringToFront_32 : decode cX11_bringToFront 32 = .ok (.if_icmp .le 25, 3) := by decide +kernel
theorem dX11_bringToFront_35 : decode cX11_bringToFront 35 = .ok (.aload_n 0, 1) := by decide +kernel
theorem dX11_bringToFront_36 : decode cX11_bringToFront 36 = .ok (.getfield 34, 3) := by decide +kernel
theorem dX11_bringToFront_39 : decode cX11_bringToFront 39 = .ok (.iload 4, 2) := by decide +kernel
theorem dX11_bringToFront_41 : decode cX11_bringToFront 41 = .ok (.aload_n 0, 1) := by decide +kernel
theorem dX11_bringToFront_42 : decode cX11_bringToFront 42 = .ok (.getfield 34, 3) := by decide +kernel
theorem dX11_bringToFront_45 : decode cX11_bringToFront 45 = .ok (.iload 4, 2) := by decide +kernel
theorem dX11_bringToFront_47 : decode cX11_bringToFront 47 = .ok (.iconst 1, 1) := by decide +kernel
theorem dX11_bringToFront_48 : decode cX11_bringToFront 48 = .ok (.isub, 1) := by decide +kernel
theorem dX11_bringToFront_49 : decode cX11_bringToFront 49 = .ok (.iaload, 1) := by decide +kernel
theorem dX11_bringToFront_50 : decode cX11_bringToFront 50 = .ok (.iastore, 1) := by decide +kernel
theorem dX11_bringToFront_51 : decode cX11_bringToFront 51 = .ok (.iinc 4 (-1), 3) := by decide +kernel
theorem dX11_bringToFront_54 : decode cX11_bringToFront 54 = .ok (.goto (-25), 3) := by decide +kernel
theorem dX11_bringToFront_57 : decode cX11_bringToFront 57 = .ok (.aload_n 0, 1) := by decide +kernel
theorem dX11_bringToFront_58 : decode cX11_bringToFront 58 = .ok (.getfield 34, 3) := by decide +kernel
theorem dX11_bringToFront_61 : decode cX11_bringToFront 61 = .ok (.iload_n 1, 1) := by decide +kernel
theorem dX11_bringToFront_62 : decode cX11_bringToFront 62 = .ok (.iload_n 3, 1) := by decide +kernel
theorem dX11_bringToFront_63 : decode cX11_bringToFront 63 = .ok (.iastore, 1) := by decide +kernel
theorem dX11_bringToFront_64 : decode cX11_bringToFront 64 = .ok (.return_, 1) := by decide +kernel
theorem dX11_climb_0 : decode cX11_climb 0 = .ok (.aload_n 0, 1) := by decide +kernel
theorem dX11_climb_1 : decode cX11_climb 1 = .ok (.aload_n 0, 1) := by decide +kernel
theorem dX11_climb_2 : decode cX11_climb 2 = .ok (.iload_n 1, 1) := by decide +kernel
theorem dX11_climb_3 : decode cX11_climb 3 = .ok (.invokevirtual 129, 3) := by decide +kernel
theorem dX11_climb_6 : decode cX11_climb 6 = .ok (.ifCond .eq 7, 3) := by decide +kernel
theorem dX11_climb_9 : decode cX11_climb 9 = .ok (.iconst 0, 1) := by decide +kernel
theorem dX11_climb_10 : decode cX11_climb 10 = .ok (.goto 4, 3) := by decide +kernel
theorem dX11_climb_13 : decode cX11_climb 13 = .ok (.iconst 1, 1) := by decide +kernel
theorem dX11_climb_14 : decode cX11_climb 14 = .ok (.invokevirtual 71, 3) := by decide +kernel
theorem dX11_climb_17 : decode cX11_climb 17 = .ok (.ifCond .eq 55, 3) := by decide +kernel
theorem dX11_climb_20 : decode cX11_climb 20 = .ok (.aload_n 0, 1) := by decide +kernel
theorem dX11_climb_21 : decode cX11_climb 21 = .ok (.iload_n 2, 1) := by decide +kernel
theorem dX11_climb_22 : decode cX11_climb 22 = .ok (.invokestatic 242, 3) := by decide +kernel
theorem dX11_climb_25 : decode cX11_climb 25 = .ok (.ifCond .eq 27, 3) := by decide +kernel
theorem dX11_climb_28 : decode cX11_climb 28 = .ok (.iload_n 3, 1) := by decide +kernel
theorem dX11_climb_29 : decode cX11_climb 29 = .ok (.invokestatic 242, 3) := by decide +kernel
theorem dX11_climb_32 : decode cX11_climb 32 = .ok (.ifCond .eq 20, 3) := by decide +kernel
theorem dX11_climb_35 : decode cX11_climb 35 = .ok (.iload 4, 2) := by decide +kernel
theorem dX11_climb_37 : decode cX11_climb 37 = .ok (.iconst 1, 1) := by decide +kernel
theorem dX11_climb_38 : decode cX11_climb 38 = .ok (.if_icmp .lt 14, 3) := by decide +kernel
theorem dX11_climb_41 : decode cX11_climb 41 = .ok (.iload 4, 2) := by decide +kernel
theorem dX11_climb_43 : decode cX11_climb 43 = .ok (.bipush 50, 2) := by decide +kernel
theorem dX11_climb_45 : decode cX11_climb 45 = .ok (.if_icmp .gt 7, 3) := by decide +kernel
theorem dX11_climb_48 : decode cX11_climb 48 = .ok (.iconst 0, 1) := by decide +kernel
theorem dX11_climb_49 : decode cX11_climb 49 = .ok (.goto 4, 3) := by decide +kernel
theorem dX11_climb_52 : decode cX11_climb 52 = .ok (.iconst 2, 1) := by decide +kernel
theorem dX11_climb_53 : decode cX11_climb 53 = .ok (.invokevirtual 71, 3) := by decide +kernel
theorem dX11_climb_56 : decode cX11_climb 56 = .ok (.ifCond .eq 16, 3) := by decide +kernel
theorem dX11_climb_59 : decode cX11_climb 59 = .ok (.aload_n 0, 1) := by decide +kernel
theorem dX11_climb_60 : decode cX11_climb 60 = .ok (.aload_n 0, 1) := by decide +kernel
theorem dX11_climb_61 : decode cX11_climb 61 = .ok (.iload 4, 2) := by decide +kernel
theorem dX11_climb_63 : decode cX11_climb 63 = .ok (.invokevirtual 192, 3) := by decide +kernel
theorem dX11_climb_66 : decode cX11_climb 66 = .ok (.invokevirtual 71, 3) := by decide +kernel
theorem dX11_climb_69 : decode cX11_climb 69 = .ok (.ifCond .ne 5, 3) := by decide +kernel
theorem dX11_climb_72 : decode cX11_climb 72 = .ok (.iconst (-1), 1) := by decide +kernel
theorem dX11_climb_73 : decode cX11_climb 73 = .ok (.ireturn, 1) := by decide +kernel
theorem dX11_climb_74 : decode cX11_climb 74 = .ok (.iload_n 2, 1) := by decide +kernel
theorem dX11_climb_75 : decode cX11_climb 75 = .ok (.istore 5, 2) := by decide +kernel
theorem dX11_climb_77 : decode cX11_climb 77 = .ok (.iconst 0, 1) := by decide +kernel
theorem dX11_climb_78 : decode cX11_climb 78 = .ok (.istore 6, 2) := by decide +kernel
theorem dX11_climb_80 : decode cX11_climb 80 = .ok (.iload 6, 2) := by decide +kernel
theorem dX11_climb_82 : decode cX11_climb 82 = .ok (.iload 4, 2) := by decide +kernel
theorem dX11_climb_84 : decode cX11_climb 84 = .ok (.if_icmp .ge 24, 3) := by decide +kernel
theorem dX11_climb_87 : decode cX11_climb 87 = .ok (.iload 5, 2) := by decide +kernel
theorem dX11_climb_89 : decode cX11_climb 89 = .ok (.aload_n 0, 1) := by decide +kernel
theorem dX11_climb_90 : decode cX11_climb 90 = .ok (.iload_n 1, 1) := by decide +kernel
theorem dX11_climb_91 : decode cX11_climb 91 = .ok (.iload 5, 2) := by decide +kernel
theorem dX11_climb_93 : decode cX11_climb 93 = .ok (.invokevirtual 239, 3) := by decide +kernel
theorem dX11_climb_96 : decode cX11_climb 96 = .ok (.iload_n 3, 1) := by decide +kernel
theorem dX11_climb_97 : decode cX11_climb 97 = .ok (.invokestatic 245, 3) := by decide +kernel
theorem dX11_climb_100 : decode cX11_climb 100 = .ok (.istore 5, 2) := by decide +kernel
theorem dX11_climb_102 : decode cX11_climb 102 = .ok (.iinc 6 1, 3) := by decide +kernel
theorem dX11_climb_105 : decode cX11_climb 105 = .ok (.goto (-25), 3) := by decide +kernel
theorem dX11_climb_108 : decode cX11_climb 108 = .ok (.iload 5, 2) := by decide +kernel
theorem dX11_climb_110 : decode cX11_climb 110 = .ok (.ireturn, 1) := by decide +kernel
theorem dX11_book_0 : decode cX11_book 0 = .ok (.aload_n 0, 1) := by decide +kernel
theorem dX11_book_1 : decode cX11_book 1 = .ok (.getfield 23, 3) := by decide +kernel
theorem dX11_book_4 : decode cX11_book 4 = .ok (.iload_n 1, 1) := by decide +kernel
theorem dX11_book_5 : decode cX11_book 5 = .ok (.iload_n 2, 1) := by decide +kernel
theorem dX11_book_6 : decode cX11_book 6 = .ok (.invokevirtual 249, 3) := by decide +kernel
theorem dX11_book_9 : decode cX11_book 9 = .ok (.ireturn, 1) := by decide +kernel
theorem dX11_count_0 : decode cX11_count 0 = .ok (.aload_n 0, 1) := by decide +kernel
theorem dX11_count_1 : decode cX11_count 1 = .ok (.iload_n 1, 1) := by decide +kernel
theorem dX11_count_2 : decode cX11_count 2 = .ok (.iload_n 2, 1) := by decide +kernel
theorem dX11_count_3 : decode cX11_count 3 = .ok (.iload_n 3, 1) := by decide +kernel
theorem dX11_count_4 : decode cX11_count 4 = .ok (.iload 4, 2) := by decide +kernel
theorem dX11_count_6 : decode cX11_count 6 = .ok (.iload 5, 2) := by decide +kernel
theorem dX11_count_8 : decode cX11_count 8 = .ok (.invokevirtual 175, 3) := by decide +kernel
theorem dX11_count_11 : decode cX11_count 11 = .ok (.ifCond .ne 5, 3) := by decide +kernel
theorem dX11_count_14 : decode cX11_count 14 = .ok (.iconst (-1), 1) := by decide +kernel
theorem dX11_count_15 : decode cX11_count 15 = .ok (.ireturn, 1) := by decide +kernel
theorem dX11_count_16 : decode cX11_count 16 = .ok (.aload_n 0, 1) := by decide +kernel
theorem dX11_count_17 : decode cX11_count 17 = .ok (.getfield 23, 3) := by decide +kernel
theorem dX11_count_20 : decode cX11_count 20 = .ok (.aload_n 0, 1) := by decide +kernel
theorem dX11_count_21 : decode cX11_count 21 = .ok (.getfield 59, 3) := by decide +kernel
theorem dX11_count_24 : decode cX11_count 24 = .ok (.iload 6, 2) := by decide +kernel
theorem dX11_count_26 : decode cX11_count 26 = .ok (.invokevirtual 252, 3) := by decide +kernel
theorem dX11_count_29 : decode cX11_count 29 = .ok (.ireturn, 1) := by decide +kernel
theorem dX11_drawn_0 : decode cX11_drawn 0 = .ok (.aload_n 0, 1) := by decide +kernel
theorem dX11_drawn_1 : decode cX11_drawn 1 = .ok (.bipush 75, 2) := by decide +kernel
theorem dX11_drawn_3 : decode cX11_drawn 3 = .ok (.aload_n 0, 1) := by decide +kernel
theorem dX11_drawn_4 : decode cX11_drawn 4 = .ok (.getfield 98, 3) := by decide +kernel
theorem dX11_drawn_7 : decode cX11_drawn 7 = .ok (.imul, 1) := by decide +kernel
theorem dX11_drawn_8 : decode cX11_drawn 8 = .ok (.bipush 74, 2) := by decide +kernel
theorem dX11_drawn_10 : decode cX11_drawn 10 = .ok (.iadd, 1) := by decide +kernel
theorem dX11_drawn_11 : decode cX11_drawn 11 = .ok (.ldc 191, 2) := by decide +kernel
theorem dX11_drawn_13 : decode cX11_drawn 13 = .ok (.irem, 1) := by decide +kernel
theorem dX11_drawn_14 : decode cX11_drawn 14 = .ok (.putfield 98, 3) := by decide +kernel
theorem dX11_drawn_17 : decode cX11_drawn 17 = .ok (.iload_n 1, 1) := by decide +kernel
theorem dX11_drawn_18 : decode cX11_drawn 18 = .ok (.iconst 1, 1) := by decide +kernel
theorem dX11_drawn_19 : decode cX11_drawn 19 = .ok (.if_icmp .ge 7, 3) := by decide +kernel
theorem dX11_drawn_22 : decode cX11_drawn 22 = .ok (.iconst 0, 1) := by decide +kernel
theorem dX11_drawn_23 : decode cX11_drawn 23 = .ok (.goto 9, 3) := by decide +kernel
theorem dX11_drawn_26 : decode cX11_drawn 26 = .ok (.aload_n 0, 1) := by decide +kernel
theorem dX11_drawn_27 : decode cX11_drawn 27 = .ok (.getfield 98, 3) := by decide +kernel
theorem dX11_drawn_30 : decode cX11_drawn 30 = .ok (.iload_n 1, 1) := by decide +kernel
theorem dX11_drawn_31 : decode cX11_drawn 31 = .ok (.irem, 1) := by decide +kernel
theorem dX11_drawn_32 : decode cX11_drawn 32 = .ok (.ireturn, 1) := by decide +kernel
theorem dX11_feelingDrawn_0 : decode cX11_feelingDrawn 0 = .ok (.iload_n 2, 1) := by decide +kernel
theorem dX11_feelingDrawn_1 : decode cX11_feelingDrawn 1 = .ok (.aload_n 0, 1) := by decide +kernel
theorem dX11_feelingDrawn_2 : decode cX11_feelingDrawn 2 = .ok (.getfield 59, 3) := by decide +kernel
theorem dX11_feelingDrawn_5 : decode cX11_feelingDrawn 5 = .ok (.invokevirtual 256, 3) := by decide +kernel
theorem dX11_feelingDrawn_8 : decode cX11_feelingDrawn 8 = .ok (.if_icmp .ge 27, 3) := by decide +kernel
theorem dX11_feelingDrawn_11 : decode cX11_feelingDrawn 11 = .ok (.aload_n 0, 1) := by decide +kernel
theorem dX11_feelingDrawn_12 : decode cX11_feelingDrawn 12 = .ok (.getfield 59, 3) := by decide +kernel
theorem dX11_feelingDrawn_15 : decode cX11_feelingDrawn 15 = .ok (.iload_n 2, 1) := by decide +kernel
theorem dX11_feelingDrawn_16 : decode cX11_feelingDrawn 16 = .ok (.invokevirtual 259, 3) := by decide +kernel
theorem dX11_feelingDrawn_19 : decode cX11_feelingDrawn 19 = .ok (.aload_n 1, 1) := by decide +kernel
theorem dX11_feelingDrawn_20 : decode cX11_feelingDrawn 20 = .ok (.aload_n 0, 1) := by decide +kernel
theorem dX11_feelingDrawn_21 : decode cX11_feelingDrawn 21 = .ok (.aload_n 1, 1) := by decide +kernel
theorem dX11_feelingDrawn_22 : decode cX11_feelingDrawn 22 = .ok (.getfield 165, 3) := by decide +kernel
theorem dX11_feelingDrawn_25 : decode cX11_feelingDrawn 25 = .ok (.invokevirtual 232, 3) := by decide +kernel
theorem dX11_feelingDrawn_28 : decode cX11_feelingDrawn 28 = .ok (.invokevirtual 262, 3) := by decide +kernel
theorem dX11_feelingDrawn_31 : decode cX11_feelingDrawn 31 = .ok (.iadd, 1) := by decide +kernel
theorem dX11_feelingDrawn_32 : decode cX11_feelingDrawn 32 = .ok (.goto 4, 3) := by decide +kernel
theorem dX11_feelingDrawn_35 : decode cX11_feelingDrawn 35 = .ok (.iconst 0, 1) := by decide +kernel
theorem dX11_feelingDrawn_36 : decode cX11_feelingDrawn 36 = .ok (.ireturn, 1) := by decide +kernel
theorem dX11_sayDrawn_0 : decode cX11_sayDrawn 0 = .ok (.aload_n 0, 1) := by decide +kernel
theorem dX11_sayDrawn_1 : decode cX11_sayDrawn 1 = .ok (.aload_n 0, 1) := by decide +kernel
theorem dX11_sayDrawn_2 : decode cX11_sayDrawn 2 = .ok (.getfield 59, 3) := by decide +kernel
theorem dX11_sayDrawn_5 : decode cX11_sayDrawn 5 = .ok (.getfield 179, 3) := by decide +kernel
theorem dX11_sayDrawn_8 : decode cX11_sayDrawn 8 = .ok (.invokevirtual 161, 3) := by decide +kernel
theorem dX11_sayDrawn_11 : decode cX11_sayDrawn 11 = .ok (.astore_n 1, 1) := by decide +kernel
theorem dX11_sayDrawn_12 : decode cX11_sayDrawn 12 = .ok (.aload_n 0, 1) := by decide +kernel
theorem dX11_sayDrawn_13 : decode cX11_sayDrawn 13 = .ok (.aload_n 1, 1) := by decide +kernel
theorem dX11_sayDrawn_14 : decode cX11_sayDrawn 14 = .ok (.iconst 0, 1) := by decide +kernel
theorem dX11_sayDrawn_15 : decode cX11_sayDrawn 15 = .ok (.invokevirtual 265, 3) := by decide +kernel
theorem dX11_sayDrawn_18 : decode cX11_sayDrawn 18 = .ok (.istore_n 2, 1) := by decide +kernel
theorem dX11_sayDrawn_19 : decode cX11_sayDrawn 19 = .ok (.aload_n 0, 1) := by decide +kernel
theorem dX11_sayDrawn_20 : decode cX11_sayDrawn 20 = .ok (.aload_n 1, 1) := by decide +kernel
theorem dX11_sayDrawn_21 : decode cX11_sayDrawn 21 = .ok (.iconst 1, 1) := by decide +kernel
theorem dX11_sayDrawn_22 : decode cX11_sayDrawn 22 = .ok (.invokevirtual 265, 3) := by decide +kernel
theorem dX11_sayDrawn_25 : decode cX11_sayDrawn 25 = .ok (.istore_n 3, 1) := by decide +kernel
theorem dX11_sayDrawn_26 : decode cX11_sayDrawn 26 = .ok (.aload_n 0, 1) := by decide +kernel
theorem dX11_sayDrawn_27 : decode cX11_sayDrawn 27 = .ok (.aload_n 1, 1) := by decide +kernel
theorem dX11_sayDrawn_28 : decode cX11_sayDrawn 28 = .ok (.iconst 2, 1) := by decide +kernel
theorem dX11_sayDrawn_29 : decode cX11_sayDrawn 29 = .ok (.invokevirtual 265, 3) := by decide +kernel
theorem dX11_sayDrawn_32 : decode cX11_sayDrawn 32 = .ok (.istore 4, 2) := by decide +kernel
theorem dX11_sayDrawn_34 : decode cX11_sayDrawn 34 = .ok (.aload_n 0, 1) := by decide +kernel
theorem dX11_sayDrawn_35 : decode cX11_sayDrawn 35 = .ok (.getfield 59, 3) := by decide +kernel
theorem dX11_sayDrawn_38 : decode cX11_sayDrawn 38 = .ok (.iload_n 2, 1) := by decide +kernel
theorem dX11_sayDrawn_39 : decode cX11_sayDrawn 39 = .ok (.iload_n 3, 1) := by decide +kernel
theorem dX11_sayDrawn_40 : decode cX11_sayDrawn 40 = .ok (.iload 4, 2) := by decide +kernel
theorem dX11_sayDrawn_42 : decode cX11_sayDrawn 42 = .ok (.invokevirtual 268, 3) := by decide +kernel
theorem dX11_sayDrawn_45 : decode cX11_sayDrawn 45 = .ok (.istore 5, 2) := by decide +kernel
theorem dX11_sayDrawn_47 : decode cX11_sayDrawn 47 = .ok (.aload_n 0, 1) := by decide +kernel
theorem dX11_sayDrawn_48 : decode cX11_sayDrawn 48 = .ok (.iload 5, 2) := by decide +kernel
theorem dX11_sayDrawn_50 : decode cX11_sayDrawn 50 = .ok (.invokevirtual 201, 3) := by decide +kernel
theorem dX11_sayDrawn_53 : decode cX11_sayDrawn 53 = .ok (.iload 5, 2) := by decide +kernel
theorem dX11_sayDrawn_55 : decode cX11_sayDrawn 55 = .ok (.ireturn, 1) := by decide +kernel
theorem dX11_sayAlone_0 : decode cX11_sayAlone 0 = .ok (.aload_n 0, 1) := by decide +kernel
theorem dX11_sayAlone_1 : decode cX11_sayAlone 1 = .ok (.getfield 59, 3) := by decide +kernel
theorem dX11_sayAlone_4 : decode cX11_sayAlone 4 = .ok (.iload_n 1, 1) := by decide +kernel
theorem dX11_sayAlone_5 : decode cX11_sayAlone 5 = .ok (.iconst 1, 1) := by decide +kernel
theorem dX11_sayAlone_6 : decode cX11_sayAlone 6 = .ok (.iload_n 2, 1) := by decide +kernel
theorem dX11_sayAlone_7 : decode cX11_sayAlone 7 = .ok (.iconst 0, 1) := by decide +kernel
theorem dX11_sayAlone_8 : decode cX11_sayAlone 8 = .ok (.iconst 0, 1) := by decide +kernel
theorem dX11_sayAlone_9 : decode cX11_sayAlone 9 = .ok (.invokevirtual 271, 3) := by decide +kernel
theorem dX11_sayAlone_12 : decode cX11_sayAlone 12 = .ok (.aload_n 0, 1) := by decide +kernel
theorem dX11_sayAlone_13 : decode cX11_sayAlone 13 = .ok (.aload_n 0, 1) := by decide +kernel
theorem dX11_sayAlone_14 : decode cX11_sayAlone 14 = .ok (.getfield 52, 3) := by decide +kernel
theorem dX11_sayAlone_17 : decode cX11_sayAlone 17 = .ok (.getfield 132, 3) := by decide +kernel
theorem dX11_sayAlone_20 : decode cX11_sayAlone 20 = .ok (.iload_n 1, 1) := by decide +kernel
theorem dX11_sayAlone_21 : decode cX11_sayAlone 21 = .ok (.aaload, 1) := by decide +kernel
theorem dX11_sayAlone_22 : decode cX11_sayAlone 22 = .ok (.invokevirtual 275, 3) := by decide +kernel
theorem dX11_sayAlone_25 : decode cX11_sayAlone 25 = .ok (.aload_n 0, 1) := by decide +kernel
theorem dX11_sayAlone_26 : decode cX11_sayAlone 26 = .ok (.invokevirtual 195, 3) := by decide +kernel
theorem dX11_sayAlone_29 : decode cX11_sayAlone 29 = .ok (.ireturn, 1) := by decide +kernel
theorem dX11_write_0 : decode cX11_write 0 = .ok (.aload_n 0, 1) := by decide +kernel
theorem dX11_write_1 : decode cX11_write 1 = .ok (.getfield 23, 3) := by decide +kernel
theorem dX11_write_4 : decode cX11_write 4 = .ok (.aload_n 0, 1) := by decide +kernel
theorem dX11_write_5 : decode cX11_write 5 = .ok (.getfield 59, 3) := by decide +kernel
theorem dX11_write_8 : decode cX11_write 8 = .ok (.iload_n 1, 1) := by decide +kernel
theorem dX11_write_9 : decode cX11_write 9 = .ok (.invokevirtual 279, 3) := by decide +kernel
theorem dX11_write_12 : decode cX11_write 12 = .ok (.aload_n 0, 1) := by decide +kernel
theorem dX11_write_13 : decode cX11_write 13 = .ok (.getfield 59, 3) := by decide +kernel
theorem dX11_write_16 : decode cX11_write 16 = .ok (.getfield 179, 3) := by decide +kernel
theorem dX11_write_19 : decode cX11_write 19 = .ok (.dup, 1) := by decide +kernel
theorem dX11_write_20 : decode cX11_write 20 = .ok (.getfield 155, 3) := by decide +kernel
theorem dX11_write_23 : decode cX11_write 23 = .ok (.iconst 1, 1) := by decide +kernel
theorem dX11_write_24 : decode cX11_write 24 = .ok (.iadd, 1) := by decide +kernel
theorem dX11_write_25 : decode cX11_write 25 = .ok (.putfield 155, 3) := by decide +kernel
theorem dX11_write_28 : decode cX11_write 28 = .ok (.aload_n 0, 1) := by decide +kernel
theorem dX11_write_29 : decode cX11_write 29 = .ok (.getfield 59, 3) := by decide +kernel
theorem dX11_write_32 : decode cX11_write 32 = .ok (.getfield 179, 3) := by decide +kernel
theorem dX11_write_35 : decode cX11_write 35 = .ok (.dup, 1) := by decide +kernel
theorem dX11_write_36 : decode cX11_write 36 = .ok (.getfield 158, 3) := by decide +kernel
theorem dX11_write_39 : decode cX11_write 39 = .ok (.iconst 1, 1) := by decide +kernel
theorem dX11_write_40 : decode cX11_write 40 = .ok (.iadd, 1) := by decide +kernel
theorem dX11_write_41 : decode cX11_write 41 = .ok (.putfield 158, 3) := by decide +kernel
theorem dX11_write_44 : decode cX11_write 44 = .ok (.return_, 1) := by decide +kernel
theorem dX11_stepped_0 : decode cX11_stepped 0 = .ok (.iload_n 1, 1) := by decide +kernel
theorem dX11_stepped_1 : decode cX11_stepped 1 = .ok (.iconst 1, 1) := by decide +kernel
theorem dX11_stepped_2 : decode cX11_stepped 2 = .ok (.if_icmp .ne 13, 3) := by decide +kernel
theorem dX11_stepped_5 : decode cX11_stepped 5 = .ok (.iconst 1, 1) := by decide +kernel
theorem dX11_stepped_6 : decode cX11_stepped 6 = .ok (.iload_n 0, 1) := by decide +kernel
theorem dX11_stepped_7 : decode cX11_stepped 7 = .ok (.iload_n 2, 1) := by decide +kernel
theorem dX11_stepped_8 : decode cX11_stepped 8 = .ok (.isub, 1) := by decide +kernel
theorem dX11_stepped_9 : decode cX11_stepped 9 = .ok (.invokestatic 282, 3) := by decide +kernel
theorem dX11_stepped_12 : decode cX11_stepped 12 = .ok (.goto 12, 3) := by decide +kernel
theorem dX11_stepped_15 : decode cX11_stepped 15 = .ok (.sipush 400, 3) := by decide +kernel
theorem dX11_stepped_18 : decode cX11_stepped 18 = .ok (.iload_n 0, 1) := by decide +kernel
theorem dX11_stepped_19 : decode cX11_stepped 19 = .ok (.iload_n 2, 1) := by decide +kernel
theorem dX11_stepped_20 : decode cX11_stepped 20 = .ok (.iadd, 1) := by decide +kernel
theorem dX11_stepped_21 : decode cX11_stepped 21 = .ok (.invokestatic 219, 3) := by decide +kernel
theorem dX11_stepped_24 : decode cX11_stepped 24 = .ok (.ireturn, 1) := by decide +kernel
theorem dX11_span_0 : decode cX11_span 0 = .ok (.aload_n 0, 1) := by decide +kernel
theorem dX11_span_1 : decode cX11_span 1 = .ok (.iload_n 1, 1) := by decide +kernel
theorem dX11_span_2 : decode cX11_span 2 = .ok (.iconst 1, 1) := by decide +kernel
theorem dX11_span_3 : decode cX11_span 3 = .ok (.if_icmp .lt 30, 3) := by decide +kernel
theorem dX11_span_6 : decode cX11_span 6 = .ok (.iload_n 1, 1) := by decide +kernel
theorem dX11_span_7 : decode cX11_span 7 = .ok (.bipush 40, 2) := by decide +kernel
theorem dX11_span_9 : decode cX11_span 9 = .ok (.if_icmp .gt 24, 3) := by decide +kernel
theorem dX11_span_12 : decode cX11_span 12 = .ok (.iload_n 3, 1) := by decide +kernel
theorem dX11_span_13 : decode cX11_span 13 = .ok (.iconst 1, 1) := by decide +kernel
theorem dX11_span_14 : decode cX11_span 14 = .ok (.if_icmp .lt 19, 3) := by decide +kernel
theorem dX11_span_17 : decode cX11_span 17 = .ok (.iload_n 3, 1) := by decide +kernel
theorem dX11_span_18 : decode cX11_span 18 = .ok (.sipush 10000, 3) := by decide +kernel
theorem dX11_span_21 : decode cX11_span 21 = .ok (.if_icmp .gt 12, 3) := by decide +kernel
theorem dX11_span_24 : decode cX11_span 24 = .ok (.iload_n 2, 1) := by decide +kernel
theorem dX11_span_25 : decode cX11_span 25 = .ok (.ifCond .lt 8, 3) := by decide +kernel
theorem dX11_span_28 : decode cX11_span 28 = .ok (.iload_n 2, 1) := by decide +kernel
theorem dX11_span_29 : decode cX11_span 29 = .ok (.iload_n 3, 1) := by decide +kernel
theorem dX11_span_30 : decode cX11_span 30 = .ok (.if_icmp .le 7, 3) := by decide +kernel
theorem dX11_span_33 : decode cX11_span 33 = .ok (.iconst 2, 1) := by decide +kernel
theorem dX11_span_34 : decode cX11_span 34 = .ok (.goto 4, 3) := by decide +kernel
theorem dX11_span_37 : decode cX11_span 37 = .ok (.iconst 0, 1) := by decide +kernel
theorem dX11_span_38 : decode cX11_span 38 = .ok (.invokevirtual 71, 3) := by decide +kernel
theorem dX11_span_41 : decode cX11_span 41 = .ok (.ifCond .ne 5, 3) := by decide +kernel
theorem dX11_span_44 : decode cX11_span 44 = .ok (.iconst (-1), 1) := by decide +kernel
theorem dX11_span_45 : decode cX11_span 45 = .ok (.ireturn, 1) := by decide +kernel
theorem dX11_span_46 : decode cX11_span 46 = .ok (.iload 4, 2) := by decide +kernel
theorem dX11_span_48 : decode cX11_span 48 = .ok (.ifCond .eq 16, 3) := by decide +kernel
theorem dX11_span_51 : decode cX11_span 51 = .ok (.aload_n 0, 1) := by decide +kernel
theorem dX11_span_52 : decode cX11_span 52 = .ok (.getfield 30, 3) := by decide +kernel
theorem dX11_span_55 : decode cX11_span 55 = .ok (.iload_n 1, 1) := by decide +kernel
theorem dX11_span_56 : decode cX11_span 56 = .ok (.iload_n 2, 1) := by decide +kernel
theorem dX11_span_57 : decode cX11_span 57 = .ok (.iload_n 3, 1) := by decide +kernel
theorem dX11_span_58 : decode cX11_span 58 = .ok (.invokevirtual 285, 3) := by decide +kernel
theorem dX11_span_61 : decode cX11_span 61 = .ok (.goto 13, 3) := by decide +kernel
theorem dX11_span_64 : decode cX11_span 64 = .ok (.aload_n 0, 1) := by decide +kernel
theorem dX11_span_65 : decode cX11_span 65 = .ok (.getfield 30, 3) := by decide +kernel
theorem dX11_span_68 : decode cX11_span 68 = .ok (.iload_n 1, 1) := by decide +kernel
theorem dX11_span_69 : decode cX11_span 69 = .ok (.iload_n 2, 1) := by decide +kernel
theorem dX11_span_70 : decode cX11_span 70 = .ok (.iload_n 3, 1) := by decide +kernel
theorem dX11_span_71 : decode cX11_span 71 = .ok (.invokevirtual 288, 3) := by decide +kernel
theorem dX11_span_74 : decode cX11_span 74 = .ok (.ireturn, 1) := by decide +kernel
theorem dX11_lets_0 : decode cX11_lets 0 = .ok (.aload_n 0, 1) := by decide +kernel
theorem dX11_lets_1 : decode cX11_lets 1 = .ok (.aload_n 0, 1) := by decide +kernel
theorem dX11_lets_2 : decode cX11_lets 2 = .ok (.iload_n 1, 1) := by decide +kernel
theorem dX11_lets_3 : decode cX11_lets 3 = .ok (.invokevirtual 129, 3) := by decide +kernel
theorem dX11_lets_6 : decode cX11_lets 6 = .ok (.ifCond .eq 15, 3) := by decide +kernel
theorem dX11_lets_9 : decode cX11_lets 9 = .ok (.aload_n 0, 1) := by decide +kernel
theorem dX11_lets_10 : decode cX11_lets 10 = .ok (.iload_n 2, 1) := by decide +kernel
theorem dX11_lets_11 : decode cX11_lets 11 = .ok (.invokevirtual 107, 3) := by decide +kernel
theorem dX11_lets_14 : decode cX11_lets 14 = .ok (.ifCond .eq 7, 3) := by decide +kernel
theorem dX11_lets_17 : decode cX11_lets 17 = .ok (.iconst 0, 1) := by decide +kernel
theorem dX11_lets_18 : decode cX11_lets 18 = .ok (.goto 4, 3) := by decide +kernel
theorem dX11_lets_21 : decode cX11_lets 21 = .ok (.iconst 1, 1) := by decide +kernel
theorem dX11_lets_22 : decode cX11_lets 22 = .ok (.invokevirtual 71, 3) := by decide +kernel
theorem dX11_lets_25 : decode cX11_lets 25 = .ok (.ifCond .eq 34, 3) := by decide +kernel
theorem dX11_lets_28 : decode cX11_lets 28 = .ok (.aload_n 0, 1) := by decide +kernel
theorem dX11_lets_29 : decode cX11_lets 29 = .ok (.iload_n 3, 1) := by decide +kernel
theorem dX11_lets_30 : decode cX11_lets 30 = .ok (.invokestatic 291, 3) := by decide +kernel
theorem dX11_lets_33 : decode cX11_lets 33 = .ok (.ifCond .eq 19, 3) := by decide +kernel
theorem dX11_lets_36 : decode cX11_lets 36 = .ok (.iload 4, 2) := by decide +kernel
theorem dX11_lets_38 : decode cX11_lets 38 = .ok (.invokestatic 291, 3) := by decide +kernel
theorem dX11_lets_41 : decode cX11_lets 41 = .ok (.ifCond .eq 11, 3) := by decide +kernel
theorem dX11_lets_44 : decode cX11_lets 44 = .ok (.aload_n 0, 1) := by decide +kernel
theorem dX11_lets_45 : decode cX11_lets 45 = .ok (.iload_n 1, 1) := by decide +kernel
theorem dX11_lets_46 : decode cX11_lets 46 = .ok (.invokevirtual 294, 3) := by decide +kernel
theorem dX11_lets_49 : decode cX11_lets 49 = .ok (.goto 4, 3) := by decide +kernel
theorem dX11_lets_52 : decode cX11_lets 52 = .ok (.iconst 2, 1) := by decide +kernel
theorem dX11_lets_53 : decode cX11_lets 53 = .ok (.invokevirtual 71, 3) := by decide +kernel
theorem dX11_lets_56 : decode cX11_lets 56 = .ok (.ifCond .ne 5, 3) := by decide +kernel
theorem dX11_lets_59 : decode cX11_lets 59 = .ok (.iconst (-1), 1) := by decide +kernel
theorem dX11_lets_60 : decode cX11_lets 60 = .ok (.ireturn, 1) := by decide +kernel
theorem dX11_lets_61 : decode cX11_lets 61 = .ok (.aload_n 0, 1) := by decide +kernel
theorem dX11_lets_62 : decode cX11_lets 62 = .ok (.getfield 23, 3) := by decide +kernel
theorem dX11_lets_65 : decode cX11_lets 65 = .ok (.getfield 297, 3) := by decide +kernel
theorem dX11_lets_68 : decode cX11_lets 68 = .ok (.astore 5, 2) := by decide +kernel
theorem dX11_lets_70 : decode cX11_lets 70 = .ok (.aload_n 0, 1) := by decide +kernel
theorem dX11_lets_71 : decode cX11_lets 71 = .ok (.getfield 52, 3) := by decide +kernel
theorem dX11_lets_74 : decode cX11_lets 74 = .ok (.getfield 110, 3) := by decide +kernel
theorem dX11_lets_77 : decode cX11_lets 77 = .ok (.iload_n 2, 1) := by decide +kernel
theorem dX11_lets_78 : decode cX11_lets 78 = .ok (.aaload, 1) := by decide +kernel
theorem dX11_lets_79 : decode cX11_lets 79 = .ok (.astore 6, 2) := by decide +kernel
theorem dX11_lets_81 : decode cX11_lets 81 = .ok (.aload 5, 2) := by decide +kernel
theorem dX11_lets_83 : decode cX11_lets 83 = .ok (.iload_n 1, 1) := by decide +kernel
theorem dX11_lets_84 : decode cX11_lets 84 = .ok (.aload 6, 2) := by decide +kernel
theorem dX11_lets_86 : decode cX11_lets 86 = .ok (.iload_n 3, 1) := by decide +kernel
theorem dX11_lets_87 : decode cX11_lets 87 = .ok (.aload_n 0, 1) := by decide +kernel
theorem dX11_lets_88 : decode cX11_lets 88 = .ok (.getfield 30, 3) := by decide +kernel
theorem dX11_lets_91 : decode cX11_lets 91 = .ok (.invokevirtual 301, 3) := by decide +kernel
theorem dX11_lets_94 : decode cX11_lets 94 = .ok (.ifCond .eq 36, 3) := by decide +kernel
theorem dX11_lets_97 : decode cX11_lets 97 = .ok (.aload 5, 2) := by decide +kernel
theorem dX11_lets_99 : decode cX11_lets 99 = .ok (.iload_n 1, 1) := by decide +kernel
theorem dX11_lets_100 : decode cX11_lets 100 = .ok (.aload 6, 2) := by decide +kernel
theorem dX11_lets_102 : decode cX11_lets 102 = .ok (.iload 4, 2) := by decide +kernel
theorem dX11_lets_104 : decode cX11_lets 104 = .ok (.aload_n 0, 1) := by decide +kernel
theorem dX11_lets_105 : decode cX11_lets 105 = .ok (.getfield 52, 3) := by decide +kernel
theorem dX11_lets_108 : decode cX11_lets 108 = .ok (.getfield 132, 3) := by decide +kernel
theorem dX11_lets_111 : decode cX11_lets 111 = .ok (.iload_n 1, 1) := by decide +kernel
theorem dX11_lets_112 : decode cX11_lets 112 = .ok (.aaload, 1) := by decide +kernel
theorem dX11_lets_113 : decode cX11_lets 113 = .ok (.getfield 168, 3) := by decide +kernel
theorem dX11_lets_116 : decode cX11_lets 116 = .ok (.aload_n 0, 1) := by decide +kernel
theorem dX11_lets_117 : decode cX11_lets 117 = .ok (.getfield 30, 3) := by decide +kernel
theorem dX11_lets_120 : decode cX11_lets 120 = .ok (.invokevirtual 307, 3) := by decide +kernel
theorem dX11_lets_123 : decode cX11_lets 123 = .ok (.ifCond .eq 7, 3) := by decide +kernel
theorem dX11_lets_126 : decode cX11_lets 126 = .ok (.iconst 1, 1) := by decide +kernel
theorem dX11_lets_127 : decode cX11_lets 127 = .ok (.goto 4, 3) := by decide +kernel
theorem dX11_lets_130 : decode cX11_lets 130 = .ok (.iconst 0, 1) := by decide +kernel
theorem dX11_lets_131 : decode cX11_lets 131 = .ok (.ireturn, 1) := by decide +kernel
theorem dX11_fits_0 : decode cX11_fits 0 = .ok (.aload_n 0, 1) := by decide +kernel
theorem dX11_fits_1 : decode cX11_fits 1 = .ok (.aload_n 0, 1) := by decide +kernel
theorem dX11_fits_2 : decode cX11_fits 2 = .ok (.iload_n 1, 1) := by decide +kernel
theorem dX11_fits_3 : decode cX11_fits 3 = .ok (.invokevirtual 129, 3) := by decide +kernel
theorem dX11_fits_6 : decode cX11_fits 6 = .ok (.ifCond .eq 11, 3) := by decide +kernel
theorem dX11_fits_9 : decode cX11_fits 9 = .ok (.aload_n 0, 1) := by decide +kernel
theorem dX11_fits_10 : decode cX11_fits 10 = .ok (.iload_n 1, 1) := by decide +kernel
theorem dX11_fits_11 : decode cX11_fits 11 = .ok (.invokevirtual 294, 3) := by decide +kernel
theorem dX11_fits_14 : decode cX11_fits 14 = .ok (.goto 4, 3) := by decide +kernel
theorem dX11_fits_17 : decode cX11_fits 17 = .ok (.iconst 1, 1) := by decide +kernel
theorem dX11_fits_18 : decode cX11_fits 18 = .ok (.invokevirtual 71, 3) := by decide +kernel
theorem dX11_fits_21 : decode cX11_fits 21 = .ok (.ifCond .ne 5, 3) := by decide +kernel
theorem dX11_fits_24 : decode cX11_fits 24 = .ok (.iconst (-1), 1) := by decide +kernel
theorem dX11_fits_25 : decode cX11_fits 25 = .ok (.ireturn, 1) := by decide +kernel
theorem dX11_fits_26 : decode cX11_fits 26 = .ok (.aload_n 0, 1) := by decide +kernel
theorem dX11_fits_27 : decode cX11_fits 27 = .ok (.iload_n 1, 1) := by decide +kernel
theorem dX11_fits_28 : decode cX11_fits 28 = .ok (.invokevirtual 311, 3) := by decide +kernel
theorem dX11_fits_31 : decode cX11_fits 31 = .ok (.ireturn, 1) := by decide +kernel
theorem dX11_fitAt_0 : decode cX11_fitAt 0 = .ok (.aload_n 0, 1) := by decide +kernel
theorem dX11_fitAt_1 : decode cX11_fitAt 1 = .ok (.aload_n 0, 1) := by decide +kernel
theorem dX11_fitAt_2 : decode cX11_fitAt 2 = .ok (.iload_n 1, 1) := by decide +kernel
theorem dX11_fitAt_3 : decode cX11_fitAt 3 = .ok (.invokevirtual 129, 3) := by decide +kernel
theorem dX11_fitAt_6 : decode cX11_fitAt 6 = .ok (.ifCond .eq 20, 3) := by decide +kernel
theorem dX11_fitAt_9 : decode cX11_fitAt 9 = .ok (.iload_n 3, 1) := by decide +kernel
theorem dX11_fitAt_10 : decode cX11_fitAt 10 = .ok (.ifCond .lt 16, 3) := by decide +kernel
theorem dX11_fitAt_13 : decode cX11_fitAt 13 = .ok (.iload_n 3, 1) := by decide +kernel
theorem dX11_fitAt_14 : decode cX11_fitAt 14 = .ok (.iconst 2, 1) := by decide +kernel
theorem dX11_fitAt_15 : decode cX11_fitAt 15 = .ok (.if_icmp .gt 11, 3) := by decide +kernel
theorem dX11_fitAt_18 : decode cX11_fitAt 18 = .ok (.aload_n 0, 1) := by decide +kernel
theorem dX11_fitAt_19 : decode cX11_fitAt 19 = .ok (.iload_n 1, 1) := by decide +kernel
theorem dX11_fitAt_20 : decode cX11_fitAt 20 = .ok (.invokevirtual 294, 3) := by decide +kernel
theorem dX11_fitAt_23 : decode cX11_fitAt 23 = .ok (.goto 4, 3) := by decide +kernel
theorem dX11_fitAt_26 : decode cX11_fitAt 26 = .ok (.iconst 1, 1) := by decide +kernel
theorem dX11_fitAt_27 : decode cX11_fitAt 27 = .ok (.invokevirtual 71, 3) := by decide +kernel
theorem dX11_fitAt_30 : decode cX11_fitAt 30 = .ok (.ifCond .eq 28, 3) := by decide +kernel
theorem dX11_fitAt_33 : decode cX11_fitAt 33 = .ok (.aload_n 0, 1) := by decide +kernel
theorem dX11_fitAt_34 : decode cX11_fitAt 34 = .ok (.iload_n 2, 1) := by decide +kernel
theorem dX11_fitAt_35 : decode cX11_fitAt 35 = .ok (.ifCond .lt 16, 3) := by decide +kernel
theorem dX11_fitAt_38 : decode cX11_fitAt 38 = .ok (.iload_n 2, 1) := by decide +kernel
theorem dX11_fitAt_39 : decode cX11_fitAt 39 = .ok (.aload_n 0, 1) := by decide +kernel
theorem dX11_fitAt_40 : decode cX11_fitAt 40 = .ok (.iload_n 1, 1) := by decide +kernel
theorem dX11_fitAt_41 : decode cX11_fitAt 41 = .ok (.invokevirtual 311, 3) := by decide +kernel
theorem dX11_fitAt_44 : decode cX11_fitAt 44 = .ok (.if_icmp .ge 7, 3) := by decide +kernel
theorem dX11_fitAt_47 : decode cX11_fitAt 47 = .ok (.iconst 0, 1) := by decide +kernel
theorem dX11_fitAt_48 : decode cX11_fitAt 48 = .ok (.goto 4, 3) := by decide +kernel
theorem dX11_fitAt_51 : decode cX11_fitAt 51 = .ok (.iconst 1, 1) := by decide +kernel
theorem dX11_fitAt_52 : decode cX11_fitAt 52 = .ok (.invokevirtual 71, 3) := by decide +kernel
theorem dX11_fitAt_55 : decode cX11_fitAt 55 = .ok (.ifCond .ne 7, 3) := by decide +kernel
theorem dX11_fitAt_58 : decode cX11_fitAt 58 = .ok (.sipush (-1000), 3) := by decide +kernel
theorem dX11_fitAt_61 : decode cX11_fitAt 61 = .ok (.ireturn, 1) := by decide +kernel
theorem dX11_fitAt_62 : decode cX11_fitAt 62 = .ok (.aload_n 0, 1) := by decide +kernel
theorem dX11_fitAt_63 : decode cX11_fitAt 63 = .ok (.getfield 23, 3) := by decide +kernel
theorem dX11_fitAt_66 : decode cX11_fitAt 66 = .ok (.getfield 297, 3) := by decide +kernel
theorem dX11_fitAt_69 : decode cX11_fitAt 69 = .ok (.astore 4, 2) := by decide +kernel
theorem dX11_fitAt_71 : decode cX11_fitAt 71 = .ok (.iload_n 2, 1) := by decide +kernel
theorem dX11_fitAt_72 : decode cX11_fitAt 72 = .ok (.istore 5, 2) := by decide +kernel
theorem dX11_fitAt_74 : decode cX11_fitAt 74 = .ok (.iconst 0, 1) := by decide +kernel
theorem dX11_fitAt_75 : decode cX11_fitAt 75 = .ok (.istore 6, 2) := by decide +kernel
theorem dX11_fitAt_77 : decode cX11_fitAt 77 = .ok (.aload_n 0, 1) := by decide +kernel
theorem dX11_fitAt_78 : decode cX11_fitAt 78 = .ok (.getfield 52, 3) := by decide +kernel
theorem dX11_fitAt_81 : decode cX11_fitAt 81 = .ok (.getfield 101, 3) := by decide +kernel
theorem dX11_fitAt_84 : decode cX11_fitAt 84 = .ok (.istore 7, 2) := by decide +kernel
theorem dX11_fitAt_86 : decode cX11_fitAt 86 = .ok (.iload 6, 2) := by decide +kernel
theorem dX11_fitAt_88 : decode cX11_fitAt 88 = .ok (.iload 7, 2) := by decide +kernel
theorem dX11_fitAt_90 : decode cX11_fitAt 90 = .ok (.if_icmp .ge 33, 3) := by decide +kernel
theorem dX11_fitAt_93 : decode cX11_fitAt 93 = .ok (.iload 5, 2) := by decide +kernel
theorem dX11_fitAt_95 : decode cX11_fitAt 95 = .ok (.aload 4, 2) := by decide +kernel
theorem dX11_fitAt_97 : decode cX11_fitAt 97 = .ok (.iload 6, 2) := by decide +kernel
theorem dX11_fitAt_99 : decode cX11_fitAt 99 = .ok (.invokevirtual 314, 3) := by decide +kernel
theorem dX11_fitAt_102 : decode cX11_fitAt 102 = .ok (.if_icmp .lt 21, 3) := by decide +kernel
theorem dX11_fitAt_105 : decode cX11_fitAt 105 = .ok (.iload 5, 2) := by decide +kernel
theorem dX11_fitAt_107 : decode cX11_fitAt 107 = .ok (.aload 4, 2) := by decide +kernel
theorem dX11_fitAt_109 : decode cX11_fitAt 109 = .ok (.iload 6, 2) := by decide +kernel
theorem dX11_fitAt_111 : decode cX11_fitAt 111 = .ok (.invokevirtual 314, 3) := by decide +kernel
theorem dX11_fitAt_114 : decode cX11_fitAt 114 = .ok (.isub, 1) := by decide +kernel
theorem dX11_fitAt_115 : decode cX11_fitAt 115 = .ok (.istore 5, 2) := by decide +kernel
theorem dX11_fitAt_117 : decode cX11_fitAt 117 = .ok (.iinc 6 1, 3) := by decide +kernel
theorem dX11_fitAt_120 : decode cX11_fitAt 120 = .ok (.goto (-34), 3) := by decide +kernel
theorem dX11_fitAt_123 : decode cX11_fitAt 123 = .ok (.iload_n 3, 1) := by decide +kernel
theorem dX11_fitAt_124 : decode cX11_fitAt 124 = .ok (.ifCond .ne 8, 3) := by decide +kernel
theorem dX11_fitAt_127 : decode cX11_fitAt 127 = .ok (.iload 6, 2) := by decide +kernel
theorem dX11_fitAt_129 : decode cX11_fitAt 129 = .ok (.goto 29, 3) := by decide +kernel
theorem dX11_fitAt_132 : decode cX11_fitAt 132 = .ok (.iload_n 3, 1) := by decide +kernel
theorem dX11_fitAt_133 : decode cX11_fitAt 133 = .ok (.iconst 1, 1) := by decide +kernel
theorem dX11_fitAt_134 : decode cX11_fitAt 134 = .ok (.if_icmp .ne 15, 3) := by decide +kernel
theorem dX11_fitAt_137 : decode cX11_fitAt 137 = .ok (.aload 4, 2) := by decide +kernel
theorem dX11_fitAt_139 : decode cX11_fitAt 139 = .ok (.iload 6, 2) := by decide +kernel
theorem dX11_fitAt_141 : decode cX11_fitAt 141 = .ok (.iload 5, 2) := by decide +kernel
theorem dX11_fitAt_143 : decode cX11_fitAt 143 = .ok (.invokevirtual 317, 3) := by decide +kernel
theorem dX11_fitAt_146 : decode cX11_fitAt 146 = .ok (.goto 12, 3) := by decide +kernel
theorem dX11_fitAt_149 : decode cX11_fitAt 149 = .ok (.aload 4, 2) := by decide +kernel
theorem dX11_fitAt_151 : decode cX11_fitAt 151 = .ok (.iload 6, 2) := by decide +kernel
theorem dX11_fitAt_153 : decode cX11_fitAt 153 = .ok (.iload 5, 2) := by decide +kernel
theorem dX11_fitAt_155 : decode cX11_fitAt 155 = .ok (.invokevirtual 320, 3) := by decide +kernel
theorem dX11_fitAt_158 : decode cX11_fitAt 158 = .ok (.ireturn, 1) := by decide +kernel
theorem dX11_verdict_0 : decode cX11_verdict 0 = .ok (.aload_n 0, 1) := by decide +kernel
theorem dX11_verdict_1 : decode cX11_verdict 1 = .ok (.aload_n 0, 1) := by decide +kernel
theorem dX11_verdict_2 : decode cX11_verdict 2 = .ok (.iload_n 1, 1) := by decide +kernel
theorem dX11_verdict_3 : decode cX11_verdict 3 = .ok (.invokevirtual 129, 3) := by decide +kernel
theorem dX11_verdict_6 : decode cX11_verdict 6 = .ok (.ifCond .eq 19, 3) := by decide +kernel
theorem dX11_verdict_9 : decode cX11_verdict 9 = .ok (.aload_n 0, 1) := by decide +kernel
theorem dX11_verdict_10 : decode cX11_verdict 10 = .ok (.iload_n 2, 1) := by decide +kernel
theorem dX11_verdict_11 : decode cX11_verdict 11 = .ok (.invokevirtual 107, 3) := by decide +kernel
theorem dX11_verdict_14 : decode cX11_verdict 14 = .ok (.ifCond .eq 11, 3) := by decide +kernel
theorem dX11_verdict_17 : decode cX11_verdict 17 = .ok (.aload_n 0, 1) := by decide +kernel
theorem dX11_verdict_18 : decode cX11_verdict 18 = .ok (.iload_n 1, 1) := by decide +kernel
theorem dX11_verdict_19 : decode cX11_verdict 19 = .ok (.invokevirtual 294, 3) := by decide +kernel
theorem dX11_verdict_22 : decode cX11_verdict 22 = .ok (.goto 4, 3) := by decide +kernel
theorem dX11_verdict_25 : decode cX11_verdict 25 = .ok (.iconst 1, 1) := by decide +kernel
theorem dX11_verdict_26 : decode cX11_verdict 26 = .ok (.invokevirtual 71, 3) := by decide +kernel
theorem dX11_verdict_29 : decode cX11_verdict 29 = .ok (.ifCond .ne 5, 3) := by decide +kernel
theorem dX11_verdict_32 : decode cX11_verdict 32 = .ok (.iconst (-1), 1) := by decide +kernel
theorem dX11_verdict_33 : decode cX11_verdict 33 = .ok (.ireturn, 1) := by decide +kernel
theorem dX11_verdict_34 : decode cX11_verdict 34 = .ok (.aload_n 0, 1) := by decide +kernel
theorem dX11_verdict_35 : decode cX11_verdict 35 = .ok (.iload_n 1, 1) := by decide +kernel
theorem dX11_verdict_36 : decode cX11_verdict 36 = .ok (.invokevirtual 311, 3) := by decide +kernel
theorem dX11_verdict_39 : decode cX11_verdict 39 = .ok (.istore_n 3, 1) := by decide +kernel
theorem dX11_verdict_40 : decode cX11_verdict 40 = .ok (.aload_n 0, 1) := by decide +kernel
theorem dX11_verdict_41 : decode cX11_verdict 41 = .ok (.getfield 23, 3) := by decide +kernel
theorem dX11_verdict_44 : decode cX11_verdict 44 = .ok (.getfield 297, 3) := by decide +kernel
theorem dX11_verdict_47 : decode cX11_verdict 47 = .ok (.iload_n 2, 1) := by decide +kernel
theorem dX11_verdict_48 : decode cX11_verdict 48 = .ok (.invokevirtual 314, 3) := by decide +kernel
theorem dX11_verdict_51 : decode cX11_verdict 51 = .ok (.istore 4, 2) := by decide +kernel
theorem dX11_verdict_53 : decode cX11_verdict 53 = .ok (.iload 4, 2) := by decide +kernel
theorem dX11_verdict_55 : decode cX11_verdict 55 = .ok (.ifCond .ne 7, 3) := by decide +kernel
theorem dX11_verdict_58 : decode cX11_verdict 58 = .ok (.iconst 0, 1) := by decide +kernel
theorem dX11_verdict_59 : decode cX11_verdict 59 = .ok (.goto 14, 3) := by decide +kernel
theorem dX11_verdict_62 : decode cX11_verdict 62 = .ok (.iload 4, 2) := by decide +kernel
theorem dX11_verdict_64 : decode cX11_verdict 64 = .ok (.iload_n 3, 1) := by decide +kernel
theorem dX11_verdict_65 : decode cX11_verdict 65 = .ok (.if_icmp .ne 7, 3) := by decide +kernel
theorem dX11_verdict_68 : decode cX11_verdict 68 = .ok (.iconst 2, 1) := by decide +kernel
theorem dX11_verdict_69 : decode cX11_verdict 69 = .ok (.goto 4, 3) := by decide +kernel
theorem dX11_verdict_72 : decode cX11_verdict 72 = .ok (.iconst 1, 1) := by decide +kernel
theorem dX11_verdict_73 : decode cX11_verdict 73 = .ok (.ireturn, 1) := by decide +kernel
theorem dX11_lineOf_0 : decode cX11_lineOf 0 = .ok (.aload_n 0, 1) := by decide +kernel
theorem dX11_lineOf_1 : decode cX11_lineOf 1 = .ok (.aload_n 0, 1) := by decide +kernel
theorem dX11_lineOf_2 : decode cX11_lineOf 2 = .ok (.iload_n 1, 1) := by decide +kernel
theorem dX11_lineOf_3 : decode cX11_lineOf 3 = .ok (.invokevirtual 129, 3) := by decide +kernel
theorem dX11_lineOf_6 : decode cX11_lineOf 6 = .ok (.ifCond .eq 19, 3) := by decide +kernel
theorem dX11_lineOf_9 : decode cX11_lineOf 9 = .ok (.aload_n 0, 1) := by decide +kernel
theorem dX11_lineOf_10 : decode cX11_lineOf 10 = .ok (.iload_n 2, 1) := by decide +kernel
theorem dX11_lineOf_11 : decode cX11_lineOf 11 = .ok (.invokevirtual 107, 3) := by decide +kernel
theorem dX11_lineOf_14 : decode cX11_lineOf 14 = .ok (.ifCond .eq 11, 3) := by decide +kernel
theorem dX11_lineOf_17 : decode cX11_lineOf 17 = .ok (.aload_n 0, 1) := by decide +kernel
theorem dX11_lineOf_18 : decode cX11_lineOf 18 = .ok (.iload_n 1, 1) := by decide +kernel
theorem dX11_lineOf_19 : decode cX11_lineOf 19 = .ok (.invokevirtual 294, 3) := by decide +kernel
theorem dX11_lineOf_22 : decode cX11_lineOf 22 = .ok (.goto 4, 3) := by decide +kernel
theorem dX11_lineOf_25 : decode cX11_lineOf 25 = .ok (.iconst 1, 1) := by decide +kernel
theorem dX11_lineOf_26 : decode cX11_lineOf 26 = .ok (.invokevirtual 71, 3) := by decide +kernel
theorem dX11_lineOf_29 : decode cX11_lineOf 29 = .ok (.ifCond .ne 7, 3) := by decide +kernel
theorem dX11_lineOf_32 : decode cX11_lineOf 32 = .ok (.sipush (-1000), 3) := by decide +kernel
theorem dX11_lineOf_35 : decode cX11_lineOf 35 = .ok (.ireturn, 1) := by decide +kernel
theorem dX11_lineOf_36 : decode cX11_lineOf 36 = .ok (.bipush (-50), 2) := by decide +kernel
theorem dX11_lineOf_38 : decode cX11_lineOf 38 = .ok (.istore 4, 2) := by decide +kernel
theorem dX11_lineOf_40 : decode cX11_lineOf 40 = .ok (.iload 4, 2) := by decide +kernel
theorem dX11_lineOf_42 : decode cX11_lineOf 42 = .ok (.bipush 50, 2) := by decide +kernel
theorem dX11_lineOf_44 : decode cX11_lineOf 44 = .ok (.if_icmp .gt 55, 3) := by decide +kernel
theorem dX11_lineOf_47 : decode cX11_lineOf 47 = .ok (.iload_n 3, 1) := by decide +kernel
theorem dX11_lineOf_48 : decode cX11_lineOf 48 = .ok (.ifCond .eq 9, 3) := by decide +kernel
theorem dX11_lineOf_51 : decode cX11_lineOf 51 = .ok (.iload 4, 2) := by decide +kernel
theorem dX11_lineOf_53 : decode cX11_lineOf 53 = .ok (.ineg, 1) := by decide +kernel
theorem dX11_lineOf_54 : decode cX11_lineOf 54 = .ok (.goto 5, 3) := by decide +kernel
theorem dX11_lineOf_57 : decode cX11_lineOf 57 = .ok (.iload 4, 2) := by decide +kernel
theorem dX11_lineOf_59 : decode cX11_lineOf 59 = .ok (.istore 5, 2) := by decide +kernel
theorem dX11_lineOf_61 : decode cX11_lineOf 61 = .ok (.aload_n 0, 1) := by decide +kernel
theorem dX11_lineOf_62 : decode cX11_lineOf 62 = .ok (.getfield 23, 3) := by decide +kernel
theorem dX11_lineOf_65 : decode cX11_lineOf 65 = .ok (.getfield 297, 3) := by decide +kernel
theorem dX11_lineOf_68 : decode cX11_lineOf 68 = .ok (.iload_n 1, 1) := by decide +kernel
theorem dX11_lineOf_69 : decode cX11_lineOf 69 = .ok (.aload_n 0, 1) := by decide +kernel
theorem dX11_lineOf_70 : decode cX11_lineOf 70 = .ok (.getfield 52, 3) := by decide +kernel
theorem dX11_lineOf_73 : decode cX11_lineOf 73 = .ok (.getfield 110, 3) := by decide +kernel
theorem dX11_lineOf_76 : decode cX11_lineOf 76 = .ok (.iload_n 2, 1) := by decide +kernel
theorem dX11_lineOf_77 : decode cX11_lineOf 77 = .ok (.aaload, 1) := by decide +kernel
theorem dX11_lineOf_78 : decode cX11_lineOf 78 = .ok (.iload 5, 2) := by decide +kernel
theorem dX11_lineOf_80 : decode cX11_lineOf 80 = .ok (.aload_n 0, 1) := by decide +kernel
theorem dX11_lineOf_81 : decode cX11_lineOf 81 = .ok (.getfield 30, 3) := by decide +kernel
theorem dX11_lineOf_84 : decode cX11_lineOf 84 = .ok (.invokevirtual 301, 3) := by decide +kernel
theorem dX11_lineOf_87 : decode cX11_lineOf 87 = .ok (.ifCond .eq 6, 3) := by decide +kernel
theorem dX11_lineOf_90 : decode cX11_lineOf 90 = .ok (.iload 5, 2) := by decide +kernel
theorem dX11_lineOf_92 : decode cX11_lineOf 92 = .ok (.ireturn, 1) := by decide +kernel
theorem dX11_lineOf_93 : decode cX11_lineOf 93 = .ok (.iinc 4 1, 3) := by decide +kernel
theorem dX11_lineOf_96 : decode cX11_lineOf 96 = .ok (.goto (-56), 3) := by decide +kernel
theorem dX11_lineOf_99 : decode cX11_lineOf 99 = .ok (.aload_n 0, 1) := by decide +kernel
theorem dX11_lineOf_100 : decode cX11_lineOf 100 = .ok (.bipush 6, 2) := by decide +kernel
theorem dX11_lineOf_102 : decode cX11_lineOf 102 = .ok (.putfield 104, 3) := by decide +kernel
theorem dX11_lineOf_105 : decode cX11_lineOf 105 = .ok (.sipush (-1000), 3) := by decide +kernel
theorem dX11_lineOf_108 : decode cX11_lineOf 108 = .ok (.ireturn, 1) := by decide +kernel
theorem dX11_secondOf_0 : decode cX11_secondOf 0 = .ok (.aload_n 0, 1) := by decide +kernel
theorem dX11_secondOf_1 : decode cX11_secondOf 1 = .ok (.aload_n 0, 1) := by decide +kernel
theorem dX11_secondOf_2 : decode cX11_secondOf 2 = .ok (.iload_n 1, 1) := by decide +kernel
theorem dX11_secondOf_3 : decode cX11_secondOf 3 = .ok (.invokevirtual 129, 3) := by decide +kernel
theorem dX11_secondOf_6 : decode cX11_secondOf 6 = .ok (.ifCond .eq 19, 3) := by decide +kernel
theorem dX11_secondOf_9 : decode cX11_secondOf 9 = .ok (.aload_n 0, 1) := by decide +kernel
theorem dX11_secondOf_10 : decode cX11_secondOf 10 = .ok (.iload_n 2, 1) := by decide +kernel
theorem dX11_secondOf_11 : decode cX11_secondOf 11 = .ok (.invokevirtual 107, 3) := by decide +kernel
theorem dX11_secondOf_14 : decode cX11_secondOf 14 = .ok (.ifCond .eq 11, 3) := by decide +kernel
theorem dX11_secondOf_17 : decode cX11_secondOf 17 = .ok (.aload_n 0, 1) := by decide +kernel
theorem dX11_secondOf_18 : decode cX11_secondOf 18 = .ok (.iload_n 1, 1) := by decide +kernel
theorem dX11_secondOf_19 : decode cX11_secondOf 19 = .ok (.invokevirtual 294, 3) := by decide +kernel
theorem dX11_secondOf_22 : decode cX11_secondOf 22 = .ok (.goto 4, 3) := by decide +kernel
theorem dX11_secondOf_25 : decode cX11_secondOf 25 = .ok (.iconst 1, 1) := by decide +kernel
theorem dX11_secondOf_26 : decode cX11_secondOf 26 = .ok (.invokevirtual 71, 3) := by decide +kernel
theorem dX11_secondOf_29 : decode cX11_secondOf 29 = .ok (.ifCond .ne 7, 3) := by decide +kernel
theorem dX11_secondOf_32 : decode cX11_secondOf 32 = .ok (.sipush (-1000), 3) := by decide +kernel
theorem dX11_secondOf_35 : decode cX11_secondOf 35 = .ok (.ireturn, 1) := by decide +kernel
theorem dX11_secondOf_36 : decode cX11_secondOf 36 = .ok (.aload_n 0, 1) := by decide +kernel
theorem dX11_secondOf_37 : decode cX11_secondOf 37 = .ok (.getfield 52, 3) := by decide +kernel
theorem dX11_secondOf_40 : decode cX11_secondOf 40 = .ok (.getfield 132, 3) := by decide +kernel
theorem dX11_secondOf_43 : decode cX11_secondOf 43 = .ok (.iload_n 1, 1) := by decide +kernel
theorem dX11_secondOf_44 : decode cX11_secondOf 44 = .ok (.aaload, 1) := by decide +kernel
theorem dX11_secondOf_45 : decode cX11_secondOf 45 = .ok (.getfield 168, 3) := by decide +kernel
theorem dX11_secondOf_48 : decode cX11_secondOf 48 = .ok (.istore 4, 2) := by decide +kernel
theorem dX11_secondOf_50 : decode cX11_secondOf 50 = .ok (.bipush (-50), 2) := by decide +kernel
theorem dX11_secondOf_52 : decode cX11_secondOf 52 = .ok (.istore 5, 2) := by decide +kernel
theorem dX11_secondOf_54 : decode cX11_secondOf 54 = .ok (.iload 5, 2) := by decide +kernel
theorem dX11_secondOf_56 : decode cX11_secondOf 56 = .ok (.bipush 50, 2) := by decide +kernel
theorem dX11_secondOf_58 : decode cX11_secondOf 58 = .ok (.if_icmp .gt 57, 3) := by decide +kernel
theorem dX11_secondOf_61 : decode cX11_secondOf 61 = .ok (.iload_n 3, 1) := by decide +kernel
theorem dX11_secondOf_62 : decode cX11_secondOf 62 = .ok (.ifCond .eq 9, 3) := by decide +kernel
theorem dX11_secondOf_65 : decode cX11_secondOf 65 = .ok (.iload 5, 2) := by decide +kernel
theorem dX11_secondOf_67 : decode cX11_secondOf 67 = .ok (.ineg, 1) := by decide +kernel
theorem dX11_secondOf_68 : decode cX11_secondOf 68 = .ok (.goto 5, 3) := by decide +kernel
theorem dX11_secondOf_71 : decode cX11_secondOf 71 = .ok (.iload 5, 2) := by decide +kernel
theorem dX11_secondOf_73 : decode cX11_secondOf 73 = .ok (.istore 6, 2) := by decide +kernel
theorem dX11_secondOf_75 : decode cX11_secondOf 75 = .ok (.aload_n 0, 1) := by decide +kernel
theorem dX11_secondOf_76 : decode cX11_secondOf 76 = .ok (.getfield 23, 3) := by decide +kernel
theorem dX11_secondOf_79 : decode cX11_secondOf 79 = .ok (.getfield 297, 3) := by decide +kernel
theorem dX11_secondOf_82 : decode cX11_secondOf 82 = .ok (.iload_n 1, 1) := by decide +kernel
theorem dX11_secondOf_83 : decode cX11_secondOf 83 = .ok (.aload_n 0, 1) := by decide +kernel
theorem dX11_secondOf_84 : decode cX11_secondOf 84 = .ok (.getfield 52, 3) := by decide +kernel
theorem dX11_secondOf_87 : decode cX11_secondOf 87 = .ok (.getfield 110, 3) := by decide +kernel
theorem dX11_secondOf_90 : decode cX11_secondOf 90 = .ok (.iload_n 2, 1) := by decide +kernel
theorem dX11_secondOf_91 : decode cX11_secondOf 91 = .ok (.aaload, 1) := by decide +kernel
theorem dX11_secondOf_92 : decode cX11_secondOf 92 = .ok (.iload 6, 2) := by decide +kernel
theorem dX11_secondOf_94 : decode cX11_secondOf 94 = .ok (.iload 4, 2) := by decide +kernel
theorem dX11_secondOf_96 : decode cX11_secondOf 96 = .ok (.aload_n 0, 1) := by decide +kernel
theorem dX11_secondOf_97 : decode cX11_secondOf 97 = .ok (.getfield 30, 3) := by decide +kernel
theorem dX11_secondOf_100 : decode cX11_secondOf 100 = .ok (.invokevirtual 307, 3) := by decide +kernel
theorem dX11_secondOf_103 : decode cX11_secondOf 103 = .ok (.ifCond .eq 6, 3) := by decide +kernel
theorem dX11_secondOf_106 : decode cX11_secondOf 106 = .ok (.iload 6, 2) := by decide +kernel
theorem dX11_secondOf_108 : decode cX11_secondOf 108 = .ok (.ireturn, 1) := by decide +kernel
theorem dX11_secondOf_109 : decode cX11_secondOf 109 = .ok (.iinc 5 1, 3) := by decide +kernel
theorem dX11_secondOf_112 : decode cX11_secondOf 112 = .ok (.goto (-58), 3) := by decide +kernel
theorem dX11_secondOf_115 : decode cX11_secondOf 115 = .ok (.aload_n 0, 1) := by decide +kernel
theorem dX11_secondOf_116 : decode cX11_secondOf 116 = .ok (.bipush 6, 2) := by decide +kernel
theorem dX11_secondOf_118 : decode cX11_secondOf 118 = .ok (.putfield 104, 3) := by decide +kernel
theorem dX11_secondOf_121 : decode cX11_secondOf 121 = .ok (.sipush (-1000), 3) := by decide +kernel
theorem dX11_secondOf_124 : decode cX11_secondOf 124 = .ok (.ireturn, 1) := by decide +kernel
theorem dX11_allFits_0 : decode cX11_allFits 0 = .ok (.iconst 0, 1) := by decide +kernel
theorem dX11_allFits_1 : decode cX11_allFits 1 = .ok (.istore_n 2, 1) := by decide +kernel
theorem dX11_allFits_2 : decode cX11_allFits 2 = .ok (.iconst 0, 1) := by decide +kernel
theorem dX11_allFits_3 : decode cX11_allFits 3 = .ok (.istore_n 3, 1) := by decide +kernel
theorem dX11_allFits_4 : decode cX11_allFits 4 = .ok (.iload_n 3, 1) := by decide +kernel
theorem dX11_allFits_5 : decode cX11_allFits 5 = .ok (.aload_n 0, 1) := by decide +kernel
theorem dX11_allFits_6 : decode cX11_allFits 6 = .ok (.getfield 52, 3) := by decide +kernel
theorem dX11_allFits_9 : decode cX11_allFits 9 = .ok (.getfield 101, 3) := by decide +kernel
theorem dX11_allFits_12 : decode cX11_allFits 12 = .ok (.if_icmp .ge 43, 3) := by decide +kernel
theorem dX11_allFits_15 : decode cX11_allFits 15 = .ok (.aload_n 0, 1) := by decide +kernel
theorem dX11_allFits_16 : decode cX11_allFits 16 = .ok (.getfield 23, 3) := by decide +kernel
theorem dX11_allFits_19 : decode cX11_allFits 19 = .ok (.getfield 297, 3) := by decide +kernel
theorem dX11_allFits_22 : decode cX11_allFits 22 = .ok (.iload_n 1, 1) := by decide +kernel
theorem dX11_allFits_23 : decode cX11_allFits 23 = .ok (.iload_n 3, 1) := by decide +kernel
theorem dX11_allFits_24 : decode cX11_allFits 24 = .ok (.aload_n 0, 1) := by decide +kernel
theorem dX11_allFits_25 : decode cX11_allFits 25 = .ok (.getfield 52, 3) := by decide +kernel
theorem dX11_allFits_28 : decode cX11_allFits 28 = .ok (.aload_n 0, 1) := by decide +kernel
theorem dX11_allFits_29 : decode cX11_allFits 29 = .ok (.getfield 30, 3) := by decide +kernel
theorem dX11_allFits_32 : decode cX11_allFits 32 = .ok (.invokevirtual 323, 3) := by decide +kernel
theorem dX11_allFits_35 : decode cX11_allFits 35 = .ok (.iload_n 2, 1) := by decide +kernel
theorem dX11_allFits_36 : decode cX11_allFits 36 = .ok (.aload_n 0, 1) := by decide +kernel
theorem dX11_allFits_37 : decode cX11_allFits 37 = .ok (.getfield 23, 3) := by decide +kernel
theorem dX11_allFits_40 : decode cX11_allFits 40 = .ok (.getfield 297, 3) := by decide +kernel
theorem dX11_allFits_43 : decode cX11_allFits 43 = .ok (.iload_n 3, 1) := by decide +kernel
theorem dX11_allFits_44 : decode cX11_allFits 44 = .ok (.invokevirtual 314, 3) := by decide +kernel
theorem dX11_allFits_47 : decode cX11_allFits 47 = .ok (.iadd, 1) := by decide +kernel
theorem dX11_allFits_48 : decode cX11_allFits 48 = .ok (.istore_n 2, 1) := by decide +kernel
theorem dX11_allFits_49 : decode cX11_allFits 49 = .ok (.iinc 3 1, 3) := by decide +kernel
theorem dX11_allFits_52 : decode cX11_allFits 52 = .ok (.goto (-48), 3) := by decide +kernel
theorem dX11_allFits_55 : decode cX11_allFits 55 = .ok (.iload_n 2, 1) := by decide +kernel
theorem dX11_allFits_56 : decode cX11_allFits 56 = .ok (.ireturn, 1) := by decide +kernel
theorem dX11_more_0 : decode cX11_more 0 = .ok (.aload_n 0, 1) := by decide +kernel
theorem dX11_more_1 : decode cX11_more 1 = .ok (.aload_n 0, 1) := by decide +kernel
theorem dX11_more_2 : decode cX11_more 2 = .ok (.iload_n 1, 1) := by decide +kernel
theorem dX11_more_3 : decode cX11_more 3 = .ok (.invokevirtual 129, 3) := by decide +kernel
theorem dX11_more_6 : decode cX11_more 6 = .ok (.ifCond .eq 7, 3) := by decide +kernel
theorem dX11_more_9 : decode cX11_more 9 = .ok (.iconst 0, 1) := by decide +kernel
theorem dX11_more_10 : decode cX11_more 10 = .ok (.goto 4, 3) := by decide +kernel
theorem dX11_more_13 : decode cX11_more 13 = .ok (.iconst 1, 1) := by decide +kernel
theorem dX11_more_14 : decode cX11_more 14 = .ok (.invokevirtual 71, 3) := by decide +kernel
theorem dX11_more_17 : decode cX11_more 17 = .ok (.ifCond .eq 29, 3) := by decide +kernel
theorem dX11_more_20 : decode cX11_more 20 = .ok (.aload_n 0, 1) := by decide +kernel
theorem dX11_more_21 : decode cX11_more 21 = .ok (.iload_n 2, 1) := by decide +kernel
theorem dX11_more_22 : decode cX11_more 22 = .ok (.invokestatic 242, 3) := by decide +kernel
theorem dX11_more_25 : decode cX11_more 25 = .ok (.ifCond .eq 14, 3) := by decide +kernel
theorem dX11_more_28 : decode cX11_more 28 = .ok (.iload_n 3, 1) := by decide +kernel
theorem dX11_more_29 : decode cX11_more 29 = .ok (.invokestatic 327, 3) := by decide +kernel
theorem dX11_more_32 : decode cX11_more 32 = .ok (.ifCond .eq 7, 3) := by decide +kernel
theorem dX11_more_35 : decode cX11_more 35 = .ok (.iconst 0, 1) := by decide +kernel
theorem dX11_more_36 : decode cX11_more 36 = .ok (.goto 4, 3) := by decide +kernel
theorem dX11_more_39 : decode cX11_more 39 = .ok (.iconst 2, 1) := by decide +kernel
theorem dX11_more_40 : decode cX11_more 40 = .ok (.invokevirtual 71, 3) := by decide +kernel
theorem dX11_more_43 : decode cX11_more 43 = .ok (.ifCond .ne 5, 3) := by decide +kernel
theorem dX11_more_46 : decode cX11_more 46 = .ok (.iconst (-1), 1) := by decide +kernel
theorem dX11_more_47 : decode cX11_more 47 = .ok (.ireturn, 1) := by decide +kernel
theorem dX11_more_48 : decode cX11_more 48 = .ok (.aload_n 0, 1) := by decide +kernel
theorem dX11_more_49 : decode cX11_more 49 = .ok (.aload_n 0, 1) := by decide +kernel
theorem dX11_more_50 : decode cX11_more 50 = .ok (.getfield 52, 3) := by decide +kernel
theorem dX11_more_53 : decode cX11_more 53 = .ok (.getfield 132, 3) := by decide +kernel
theorem dX11_more_56 : decode cX11_more 56 = .ok (.iload_n 1, 1) := by decide +kernel
theorem dX11_more_57 : decode cX11_more 57 = .ok (.aaload, 1) := by decide +kernel
theorem dX11_more_58 : decode cX11_more 58 = .ok (.iload_n 2, 1) := by decide +kernel
theorem dX11_more_59 : decode cX11_more 59 = .ok (.iload_n 3, 1) := by decide +kernel
theorem dX11_more_60 : decode cX11_more 60 = .ok (.invokevirtual 330, 3) := by decide +kernel
theorem dX11_more_63 : decode cX11_more 63 = .ok (.ireturn, 1) := by decide +kernel
theorem dX11_fails_0 : decode cX11_fails 0 = .ok (.iload_n 2, 1) := by decide +kernel
theorem dX11_fails_1 : decode cX11_fails 1 = .ok (.invokestatic 327, 3) := by decide +kernel
theorem dX11_fails_4 : decode cX11_fails 4 = .ok (.ifCond .eq 36, 3) := by decide +kernel
theorem dX11_fails_7 : decode cX11_fails 7 = .ok (.iload_n 3, 1) := by decide +kernel
theorem dX11_fails_8 : decode cX11_fails 8 = .ok (.invokestatic 242, 3) := by decide +kernel
theorem dX11_fails_11 : decode cX11_fails 11 = .ok (.ifCond .eq 29, 3) := by decide +kernel
theorem dX11_fails_14 : decode cX11_fails 14 = .ok (.iload 4, 2) := by decide +kernel
theorem dX11_fails_16 : decode cX11_fails 16 = .ok (.invokestatic 242, 3) := by decide +kernel
theorem dX11_fails_19 : decode cX11_fails 19 = .ok (.ifCond .eq 21, 3) := by decide +kernel
theorem dX11_fails_22 : decode cX11_fails 22 = .ok (.iload_n 3, 1) := by decide +kernel
theorem dX11_fails_23 : decode cX11_fails 23 = .ok (.iload 4, 2) := by decide +kernel
theorem dX11_fails_25 : decode cX11_fails 25 = .ok (.if_icmp .gt 15, 3) := by decide +kernel
theorem dX11_fails_28 : decode cX11_fails 28 = .ok (.iload 5, 2) := by decide +kernel
theorem dX11_fails_30 : decode cX11_fails 30 = .ok (.invokestatic 242, 3) := by decide +kernel
theorem dX11_fails_33 : decode cX11_fails 33 = .ok (.ifCond .eq 7, 3) := by decide +kernel
theorem dX11_fails_36 : decode cX11_fails 36 = .ok (.iconst 1, 1) := by decide +kernel
theorem dX11_fails_37 : decode cX11_fails 37 = .ok (.goto 4, 3) := by decide +kernel
theorem dX11_fails_40 : decode cX11_fails 40 = .ok (.iconst 0, 1) := by decide +kernel
theorem dX11_fails_41 : decode cX11_fails 41 = .ok (.istore 6, 2) := by decide +kernel
theorem dX11_fails_43 : decode cX11_fails 43 = .ok (.aload_n 0, 1) := by decide +kernel
theorem dX11_fails_44 : decode cX11_fails 44 = .ok (.aload_n 0, 1) := by decide +kernel
theorem dX11_fails_45 : decode cX11_fails 45 = .ok (.iload_n 1, 1) := by decide +kernel
theorem dX11_fails_46 : decode cX11_fails 46 = .ok (.invokevirtual 129, 3) := by decide +kernel
theorem dX11_fails_49 : decode cX11_fails 49 = .ok (.ifCond .eq 7, 3) := by decide +kernel
theorem dX11_fails_52 : decode cX11_fails 52 = .ok (.iconst 0, 1) := by decide +kernel
theorem dX11_fails_53 : decode cX11_fails 53 = .ok (.goto 4, 3) := by decide +kernel
theorem dX11_fails_56 : decode cX11_fails 56 = .ok (.iconst 1, 1) := by decide +kernel
theorem dX11_fails_57 : decode cX11_fails 57 = .ok (.invokevirtual 71, 3) := by decide +kernel
theorem dX11_fails_60 : decode cX11_fails 60 = .ok (.ifCond .eq 20, 3) := by decide +kernel
theorem dX11_fails_63 : decode cX11_fails 63 = .ok (.aload_n 0, 1) := by decide +kernel
theorem dX11_fails_64 : decode cX11_fails 64 = .ok (.iload 6, 2) := by decide +kernel
theorem dX11_fails_66 : decode cX11_fails 66 = .ok (.ifCond .eq 7, 3) := by decide +kernel
theorem dX11_fails_69 : decode cX11_fails 69 = .ok (.iconst 0, 1) := by decide +kernel
theorem dX11_fails_70 : decode cX11_fails 70 = .ok (.goto 4, 3) := by decide +kernel
theorem dX11_fails_73 : decode cX11_fails 73 = .ok (.iconst 2, 1) := by decide +kernel
theorem dX11_fails_74 : decode cX11_fails 74 = .ok (.invokevirtual 71, 3) := by decide +kernel
theorem dX11_fails_77 : decode cX11_fails 77 = .ok (.ifCond .ne 5, 3) := by decide +kernel
theorem dX11_fails_80 : decode cX11_fails 80 = .ok (.iconst (-1), 1) := by decide +kernel
theorem dX11_fails_81 : decode cX11_fails 81 = .ok (.ireturn, 1) := by decide +kernel
theorem dX11_fails_82 : decode cX11_fails 82 = .ok (.iload_n 3, 1) := by decide +kernel
theorem dX11_fails_83 : decode cX11_fails 83 = .ok (.istore 7, 2) := by decide +kernel
theorem dX11_fails_85 : decode cX11_fails 85 = .ok (.iload 7, 2) := by decide +kernel
theorem dX11_fails_87 : decode cX11_fails 87 = .ok (.iload 4, 2) := by decide +kernel
theorem dX11_fails_89 : decode cX11_fails 89 = .ok (.if_icmp .gt 70, 3) := by decide +kernel
theorem dX11_fails_92 : decode cX11_fails 92 = .ok (.iload 5, 2) := by decide +kernel
theorem dX11_fails_94 : decode cX11_fails 94 = .ok (.iconst 1, 1) := by decide +kernel
theorem dX11_fails_95 : decode cX11_fails 95 = .ok (.if_icmp .ge 7, 3) := by decide +kernel
theorem dX11_fails_98 : decode cX11_fails 98 = .ok (.iconst 1, 1) := by decide +kernel
theorem dX11_fails_99 : decode cX11_fails 99 = .ok (.goto 12, 3) := by decide +kernel
theorem dX11_fails_102 : decode cX11_fails 102 = .ok (.iconst 1, 1) := by decide +kernel
theorem dX11_fails_103 : decode cX11_fails 103 = .ok (.iload 7, 2) := by decide +kernel
theorem dX11_fails_105 : decode cX11_fails 105 = .ok (.iload 5, 2) := by decide +kernel
theorem dX11_fails_107 : decode cX11_fails 107 = .ok (.idiv, 1) := by decide +kernel
theorem dX11_fails_108 : decode cX11_fails 108 = .ok (.invokestatic 282, 3) := by decide +kernel
theorem dX11_fails_111 : decode cX11_fails 111 = .ok (.istore 8, 2) := by decide +kernel
theorem dX11_fails_113 : decode cX11_fails 113 = .ok (.aload_n 0, 1) := by decide +kernel
theorem dX11_fails_114 : decode cX11_fails 114 = .ok (.aload_n 0, 1) := by decide +kernel
theorem dX11_fails_115 : decode cX11_fails 115 = .ok (.getfield 52, 3) := by decide +kernel
theorem dX11_fails_118 : decode cX11_fails 118 = .ok (.getfield 132, 3) := by decide +kernel
theorem dX11_fails_121 : decode cX11_fails 121 = .ok (.iload_n 1, 1) := by decide +kernel
theorem dX11_fails_122 : decode cX11_fails 122 = .ok (.aaload, 1) := by decide +kernel
theorem dX11_fails_123 : decode cX11_fails 123 = .ok (.iload 7, 2) := by decide +kernel
theorem dX11_fails_125 : decode cX11_fails 125 = .ok (.iload_n 2, 1) := by decide +kernel
theorem dX11_fails_126 : decode cX11_fails 126 = .ok (.invokevirtual 330, 3) := by decide +kernel
theorem dX11_fails_129 : decode cX11_fails 129 = .ok (.istore 9, 2) := by decide +kernel
theorem dX11_fails_131 : decode cX11_fails 131 = .ok (.iload 9, 2) := by decide +kernel
theorem dX11_fails_133 : decode cX11_fails 133 = .ok (.bipush (-2), 2) := by decide +kernel
theorem dX11_fails_135 : decode cX11_fails 135 = .ok (.if_icmp .eq 15, 3) := by decide +kernel
theorem dX11_fails_138 : decode cX11_fails 138 = .ok (.iload 9, 2) := by decide +kernel
theorem dX11_fails_140 : decode cX11_fails 140 = .ok (.iload 8, 2) := by decide +kernel
theorem dX11_fails_142 : decode cX11_fails 142 = .ok (.isub, 1) := by decide +kernel
theorem dX11_fails_143 : decode cX11_fails 143 = .ok (.invokestatic 334, 3) := by decide +kernel
theorem dX11_fails_146 : decode cX11_fails 146 = .ok (.iconst 1, 1) := by decide +kernel
theorem dX11_fails_147 : decode cX11_fails 147 = .ok (.if_icmp .le 6, 3) := by decide +kernel
theorem dX11_fails_150 : decode cX11_fails 150 = .ok (.iload 7, 2) := by decide +kernel
theorem dX11_fails_152 : decode cX11_fails 152 = .ok (.ireturn, 1) := by decide +kernel
theorem dX11_fails_153 : decode cX11_fails 153 = .ok (.iinc 7 1, 3) := by decide +kernel
theorem dX11_fails_156 : decode cX11_fails 156 = .ok (.goto (-71), 3) := by decide +kernel
theorem dX11_fails_159 : decode cX11_fails 159 = .ok (.bipush (-2), 2) := by decide +kernel
theorem dX11_fails_161 : decode cX11_fails 161 = .ok (.ireturn, 1) := by decide +kernel
theorem dX11_steps_0 : decode cX11_steps 0 = .ok (.aload_n 0, 1) := by decide +kernel
theorem dX11_steps_1 : decode cX11_steps 1 = .ok (.aload_n 0, 1) := by decide +kernel
theorem dX11_steps_2 : decode cX11_steps 2 = .ok (.iload_n 1, 1) := by decide +kernel
theorem dX11_steps_3 : decode cX11_steps 3 = .ok (.invokevirtual 129, 3) := by decide +kernel
theorem dX11_steps_6 : decode cX11_steps 6 = .ok (.ifCond .eq 7, 3) := by decide +kernel
theorem dX11_steps_9 : decode cX11_steps 9 = .ok (.iconst 0, 1) := by decide +kernel
theorem dX11_steps_10 : decode cX11_steps 10 = .ok (.goto 4, 3) := by decide +kernel
theorem dX11_steps_13 : decode cX11_steps 13 = .ok (.iconst 1, 1) := by decide +kernel
theorem dX11_steps_14 : decode cX11_steps 14 = .ok (.invokevirtual 71, 3) := by decide +kernel
theorem dX11_steps_17 : decode cX11_steps 17 = .ok (.ifCond .eq 37, 3) := by decide +kernel
theorem dX11_steps_20 : decode cX11_steps 20 = .ok (.aload_n 0, 1) := by decide +kernel
theorem dX11_steps_21 : decode cX11_steps 21 = .ok (.iload_n 2, 1) := by decide +kernel
theorem dX11_steps_22 : decode cX11_steps 22 = .ok (.invokestatic 327, 3) := by decide +kernel
theorem dX11_steps_25 : decode cX11_steps 25 = .ok (.ifCond .eq 22, 3) := by decide +kernel
theorem dX11_steps_28 : decode cX11_steps 28 = .ok (.iload_n 3, 1) := by decide +kernel
theorem dX11_steps_29 : decode cX11_steps 29 = .ok (.invokestatic 242, 3) := by decide +kernel
theorem dX11_steps_32 : decode cX11_steps 32 = .ok (.ifCond .eq 15, 3) := by decide +kernel
theorem dX11_steps_35 : decode cX11_steps 35 = .ok (.iload 4, 2) := by decide +kernel
theorem dX11_steps_37 : decode cX11_steps 37 = .ok (.invokestatic 242, 3) := by decide +kernel
theorem dX11_steps_40 : decode cX11_steps 40 = .ok (.ifCond .eq 7, 3) := by decide +kernel
theorem dX11_steps_43 : decode cX11_steps 43 = .ok (.iconst 0, 1) := by decide +kernel
theorem dX11_steps_44 : decode cX11_steps 44 = .ok (.goto 4, 3) := by decide +kernel
theorem dX11_steps_47 : decode cX11_steps 47 = .ok (.iconst 2, 1) := by decide +kernel
theorem dX11_steps_48 : decode cX11_steps 48 = .ok (.invokevirtual 71, 3) := by decide +kernel
theorem dX11_steps_51 : decode cX11_steps 51 = .ok (.ifCond .ne 5, 3) := by decide +kernel
theorem dX11_steps_54 : decode cX11_steps 54 = .ok (.iconst (-1), 1) := by decide +kernel
theorem dX11_steps_55 : decode cX11_steps 55 = .ok (.ireturn, 1) := by decide +kernel
theorem dX11_steps_56 : decode cX11_steps 56 = .ok (.iload_n 3, 1) := by decide +kernel
theorem dX11_steps_57 : decode cX11_steps 57 = .ok (.istore 5, 2) := by decide +kernel
theorem dX11_steps_59 : decode cX11_steps 59 = .ok (.iconst 0, 1) := by decide +kernel
theorem dX11_steps_60 : decode cX11_steps 60 = .ok (.istore 6, 2) := by decide +kernel
theorem dX11_steps_62 : decode cX11_steps 62 = .ok (.iload 6, 2) := by decide +kernel
theorem dX11_steps_64 : decode cX11_steps 64 = .ok (.sipush 400, 3) := by decide +kernel
theorem dX11_steps_67 : decode cX11_steps 67 = .ok (.if_icmp .ge 54, 3) := by decide +kernel
theorem dX11_steps_70 : decode cX11_steps 70 = .ok (.aload_n 0, 1) := by decide +kernel
theorem dX11_steps_71 : decode cX11_steps 71 = .ok (.aload_n 0, 1) := by decide +kernel
theorem dX11_steps_72 : decode cX11_steps 72 = .ok (.getfield 52, 3) := by decide +kernel
theorem dX11_steps_75 : decode cX11_steps 75 = .ok (.getfield 132, 3) := by decide +kernel
theorem dX11_steps_78 : decode cX11_steps 78 = .ok (.iload_n 1, 1) := by decide +kernel
theorem dX11_steps_79 : decode cX11_steps 79 = .ok (.aaload, 1) := by decide +kernel
theorem dX11_steps_80 : decode cX11_steps 80 = .ok (.iload 5, 2) := by decide +kernel
theorem dX11_steps_82 : decode cX11_steps 82 = .ok (.iload_n 2, 1) := by decide +kernel
theorem dX11_steps_83 : decode cX11_steps 83 = .ok (.invokevirtual 330, 3) := by decide +kernel
theorem dX11_steps_86 : decode cX11_steps 86 = .ok (.istore 7, 2) := by decide +kernel
theorem dX11_steps_88 : decode cX11_steps 88 = .ok (.iload 7, 2) := by decide +kernel
theorem dX11_steps_90 : decode cX11_steps 90 = .ok (.bipush (-2), 2) := by decide +kernel
theorem dX11_steps_92 : decode cX11_steps 92 = .ok (.if_icmp .eq 13, 3) := by decide +kernel
theorem dX11_steps_95 : decode cX11_steps 95 = .ok (.iload 5, 2) := by decide +kernel
theorem dX11_steps_97 : decode cX11_steps 97 = .ok (.iload 7, 2) := by decide +kernel
theorem dX11_steps_99 : decode cX11_steps 99 = .ok (.iadd, 1) := by decide +kernel
theorem dX11_steps_100 : decode cX11_steps 100 = .ok (.iload 4, 2) := by decide +kernel
theorem dX11_steps_102 : decode cX11_steps 102 = .ok (.if_icmp .le 6, 3) := by decide +kernel
theorem dX11_steps_105 : decode cX11_steps 105 = .ok (.iload 6, 2) := by decide +kernel
theorem dX11_steps_107 : decode cX11_steps 107 = .ok (.ireturn, 1) := by decide +kernel
theorem dX11_steps_108 : decode cX11_steps 108 = .ok (.iload 5, 2) := by decide +kernel
theorem dX11_steps_110 : decode cX11_steps 110 = .ok (.iload 7, 2) := by decide +kernel
theorem dX11_steps_112 : decode cX11_steps 112 = .ok (.iadd, 1) := by decide +kernel
theorem dX11_steps_113 : decode cX11_steps 113 = .ok (.istore 5, 2) := by decide +kernel
theorem dX11_steps_115 : decode cX11_steps 115 = .ok (.iinc 6 1, 3) := by decide +kernel
theorem dX11_steps_118 : decode cX11_steps 118 = .ok (.goto (-56), 3) := by decide +kernel
theorem dX11_steps_121 : decode cX11_steps 121 = .ok (.sipush 400, 3) := by decide +kernel
theorem dX11_steps_124 : decode cX11_steps 124 = .ok (.ireturn, 1) := by decide +kernel
theorem dX11_felt_0 : decode cX11_felt 0 = .ok (.aload_n 0, 1) := by decide +kernel
theorem dX11_felt_1 : decode cX11_felt 1 = .ok (.aload_n 0, 1) := by decide +kernel
theorem dX11_felt_2 : decode cX11_felt 2 = .ok (.iload_n 1, 1) := by decide +kernel
theorem dX11_felt_3 : decode cX11_felt 3 = .ok (.invokevirtual 129, 3) := by decide +kernel
theorem dX11_felt_6 : decode cX11_felt 6 = .ok (.ifCond .eq 7, 3) := by decide +kernel
theorem dX11_felt_9 : decode cX11_felt 9 = .ok (.iconst 0, 1) := by decide +kernel
theorem dX11_felt_10 : decode cX11_felt 10 = .ok (.goto 4, 3) := by decide +kernel
theorem dX11_felt_13 : decode cX11_felt 13 = .ok (.iconst 1, 1) := by decide +kernel
theorem dX11_felt_14 : decode cX11_felt 14 = .ok (.invokevirtual 71, 3) := by decide +kernel
theorem dX11_felt_17 : decode cX11_felt 17 = .ok (.ifCond .eq 22, 3) := by decide +kernel
theorem dX11_felt_20 : decode cX11_felt 20 = .ok (.aload_n 0, 1) := by decide +kernel
theorem dX11_felt_21 : decode cX11_felt 21 = .ok (.iload_n 2, 1) := by decide +kernel
theorem dX11_felt_22 : decode cX11_felt 22 = .ok (.invokestatic 327, 3) := by decide +kernel
theorem dX11_felt_25 : decode cX11_felt 25 = .ok (.ifCond .eq 7, 3) := by decide +kernel
theorem dX11_felt_28 : decode cX11_felt 28 = .ok (.iconst 0, 1) := by decide +kernel
theorem dX11_felt_29 : decode cX11_felt 29 = .ok (.goto 4, 3) := by decide +kernel
theorem dX11_felt_32 : decode cX11_felt 32 = .ok (.iconst 2, 1) := by decide +kernel
theorem dX11_felt_33 : decode cX11_felt 33 = .ok (.invokevirtual 71, 3) := by decide +kernel
theorem dX11_felt_36 : decode cX11_felt 36 = .ok (.ifCond .ne 5, 3) := by decide +kernel
theorem dX11_felt_39 : decode cX11_felt 39 = .ok (.iconst (-1), 1) := by decide +kernel
theorem dX11_felt_40 : decode cX11_felt 40 = .ok (.ireturn, 1) := by decide +kernel
theorem dX11_felt_41 : decode cX11_felt 41 = .ok (.aload_n 0, 1) := by decide +kernel
theorem dX11_felt_42 : decode cX11_felt 42 = .ok (.getfield 52, 3) := by decide +kernel
theorem dX11_felt_45 : decode cX11_felt 45 = .ok (.getfield 132, 3) := by decide +kernel
theorem dX11_felt_48 : decode cX11_felt 48 = .ok (.iload_n 1, 1) := by decide +kernel
theorem dX11_felt_49 : decode cX11_felt 49 = .ok (.aaload, 1) := by decide +kernel
theorem dX11_felt_50 : decode cX11_felt 50 = .ok (.astore_n 3, 1) := by decide +kernel
theorem dX11_felt_51 : decode cX11_felt 51 = .ok (.aload_n 0, 1) := by decide +kernel
theorem dX11_felt_52 : decode cX11_felt 52 = .ok (.aload_n 3, 1) := by decide +kernel
theorem dX11_felt_53 : decode cX11_felt 53 = .ok (.invokevirtual 337, 3) := by decide +kernel
theorem dX11_felt_56 : decode cX11_felt 56 = .ok (.invokevirtual 120, 3) := by decide +kernel
theorem dX11_felt_59 : decode cX11_felt 59 = .ok (.astore 4, 2) := by decide +kernel
theorem dX11_felt_61 : decode cX11_felt 61 = .ok (.aload_n 0, 1) := by decide +kernel
theorem dX11_felt_62 : decode cX11_felt 62 = .ok (.aload_n 3, 1) := by decide +kernel
theorem dX11_felt_63 : decode cX11_felt 63 = .ok (.iconst 0, 1) := by decide +kernel
theorem dX11_felt_64 : decode cX11_felt 64 = .ok (.aload_n 3, 1) := by decide +kernel
theorem dX11_felt_65 : decode cX11_felt 65 = .ok (.getfield 141, 3) := by decide +kernel
theorem dX11_felt_68 : decode cX11_felt 68 = .ok (.invokevirtual 341, 3) := by decide +kernel
theorem dX11_felt_71 : decode cX11_felt 71 = .ok (.istore 5, 2) := by decide +kernel
theorem dX11_felt_73 : decode cX11_felt 73 = .ok (.iconst 1, 1) := by decide +kernel
theorem dX11_felt_74 : decode cX11_felt 74 = .ok (.istore 6, 2) := by decide +kernel
theorem dX11_felt_76 : decode cX11_felt 76 = .ok (.iload 6, 2) := by decide +kernel
theorem dX11_felt_78 : decode cX11_felt 78 = .ok (.sipush 400, 3) := by decide +kernel
theorem dX11_felt_81 : decode cX11_felt 81 = .ok (.if_icmp .gt 39, 3) := by decide +kernel
theorem dX11_felt_84 : decode cX11_felt 84 = .ok (.bipush 100, 2) := by decide +kernel
theorem dX11_felt_86 : decode cX11_felt 86 = .ok (.aload_n 0, 1) := by decide +kernel
theorem dX11_felt_87 : decode cX11_felt 87 = .ok (.aload_n 3, 1) := by decide +kernel
theorem dX11_felt_88 : decode cX11_felt 88 = .ok (.iload 6, 2) := by decide +kernel
theorem dX11_felt_90 : decode cX11_felt 90 = .ok (.aload_n 3, 1) := by decide +kernel
theorem dX11_felt_91 : decode cX11_felt 91 = .ok (.getfield 141, 3) := by decide +kernel
theorem dX11_felt_94 : decode cX11_felt 94 = .ok (.invokevirtual 341, 3) := by decide +kernel
theorem dX11_felt_97 : decode cX11_felt 97 = .ok (.iload 5, 2) := by decide +kernel
theorem dX11_felt_99 : decode cX11_felt 99 = .ok (.isub, 1) := by decide +kernel
theorem dX11_felt_100 : decode cX11_felt 100 = .ok (.imul, 1) := by decide +kernel
theorem dX11_felt_101 : decode cX11_felt 101 = .ok (.iload_n 2, 1) := by decide +kernel
theorem dX11_felt_102 : decode cX11_felt 102 = .ok (.aload 4, 2) := by decide +kernel
theorem dX11_felt_104 : decode cX11_felt 104 = .ok (.getfield 165, 3) := by decide +kernel
theorem dX11_felt_107 : decode cX11_felt 107 = .ok (.imul, 1) := by decide +kernel
theorem dX11_felt_108 : decode cX11_felt 108 = .ok (.if_icmp .lt 6, 3) := by decide +kernel
theorem dX11_felt_111 : decode cX11_felt 111 = .ok (.iload 6, 2) := by decide +kernel
theorem dX11_felt_113 : decode cX11_felt 113 = .ok (.ireturn, 1) := by decide +kernel
theorem dX11_felt_114 : decode cX11_felt 114 = .ok (.iinc 6 1, 3) := by decide +kernel
theorem dX11_felt_117 : decode cX11_felt 117 = .ok (.goto (-41), 3) := by decide +kernel
theorem dX11_felt_120 : decode cX11_felt 120 = .ok (.bipush (-2), 2) := by decide +kernel
theorem dX11_felt_122 : decode cX11_felt 122 = .ok (.ireturn, 1) := by decide +kernel
theorem dX11_needed_0 : decode cX11_needed 0 = .ok (.aload_n 0, 1) := by decide +kernel
theorem dX11_needed_1 : decode cX11_needed 1 = .ok (.aload_n 1, 1) := by decide +kernel
theorem dX11_needed_2 : decode cX11_needed 2 = .ok (.invokevirtual 337, 3) := by decide +kernel
theorem dX11_needed_5 : decode cX11_needed 5 = .ok (.astore 4, 2) := by decide +kernel
theorem dX11_needed_7 : decode cX11_needed 7 = .ok (.aload 4, 2) := by decide +kernel
theorem dX11_needed_9 : decode cX11_needed 9 = .ok (.invokevirtual 120, 3) := by decide +kernel
theorem dX11_needed_12 : decode cX11_needed 12 = .ok (.astore 5, 2) := by decide +kernel
theorem dX11_needed_14 : decode cX11_needed 14 = .ok (.aload 4, 2) := by decide +kernel
theorem dX11_needed_16 : decode cX11_needed 16 = .ok (.iload_n 2, 1) := by decide +kernel
theorem dX11_needed_17 : decode cX11_needed 17 = .ok (.invokevirtual 114, 3) := by decide +kernel
theorem dX11_needed_20 : decode cX11_needed 20 = .ok (.aload_n 1, 1) := by decide +kernel
theorem dX11_needed_21 : decode cX11_needed 21 = .ok (.getfield 144, 3) := by decide +kernel
theorem dX11_needed_24 : decode cX11_needed 24 = .ok (.isub, 1) := by decide +kernel
theorem dX11_needed_25 : decode cX11_needed 25 = .ok (.istore 6, 2) := by decide +kernel
theorem dX11_needed_27 : decode cX11_needed 27 = .ok (.iconst 1, 1) := by decide +kernel
theorem dX11_needed_28 : decode cX11_needed 28 = .ok (.istore 7, 2) := by decide +kernel
theorem dX11_needed_30 : decode cX11_needed 30 = .ok (.iload_n 2, 1) := by decide +kernel
theorem dX11_needed_31 : decode cX11_needed 31 = .ok (.iload 7, 2) := by decide +kernel
theorem dX11_needed_33 : decode cX11_needed 33 = .ok (.iadd, 1) := by decide +kernel
theorem dX11_needed_34 : decode cX11_needed 34 = .ok (.sipush 400, 3) := by decide +kernel
theorem dX11_needed_37 : decode cX11_needed 37 = .ok (.if_icmp .gt 51, 3) := by decide +kernel
theorem dX11_needed_40 : decode cX11_needed 40 = .ok (.aload 5, 2) := by decide +kernel
theorem dX11_needed_42 : decode cX11_needed 42 = .ok (.aload 4, 2) := by decide +kernel
theorem dX11_needed_44 : decode cX11_needed 44 = .ok (.iload_n 2, 1) := by decide +kernel
theorem dX11_needed_45 : decode cX11_needed 45 = .ok (.iload 7, 2) := by decide +kernel
theorem dX11_needed_47 : decode cX11_needed 47 = .ok (.iadd, 1) := by decide +kernel
theorem dX11_needed_48 : decode cX11_needed 48 = .ok (.invokevirtual 114, 3) := by decide +kernel
theorem dX11_needed_51 : decode cX11_needed 51 = .ok (.iload 6, 2) := by decide +kernel
theorem dX11_needed_53 : decode cX11_needed 53 = .ok (.isub, 1) := by decide +kernel
theorem dX11_needed_54 : decode cX11_needed 54 = .ok (.aload_n 1, 1) := by decide +kernel
theorem dX11_needed_55 : decode cX11_needed 55 = .ok (.getfield 168, 3) := by decide +kernel
theorem dX11_needed_58 : decode cX11_needed 58 = .ok (.iconst 1, 1) := by decide +kernel
theorem dX11_needed_59 : decode cX11_needed 59 = .ok (.invokevirtual 344, 3) := by decide +kernel
theorem dX11_needed_62 : decode cX11_needed 62 = .ok (.istore 8, 2) := by decide +kernel
theorem dX11_needed_64 : decode cX11_needed 64 = .ok (.bipush 100, 2) := by decide +kernel
theorem dX11_needed_66 : decode cX11_needed 66 = .ok (.iload 8, 2) := by decide +kernel
theorem dX11_needed_68 : decode cX11_needed 68 = .ok (.imul, 1) := by decide +kernel
theorem dX11_needed_69 : decode cX11_needed 69 = .ok (.iload_n 3, 1) := by decide +kernel
theorem dX11_needed_70 : decode cX11_needed 70 = .ok (.aload 5, 2) := by decide +kernel
theorem dX11_needed_72 : decode cX11_needed 72 = .ok (.invokevirtual 348, 3) := by decide +kernel
theorem dX11_needed_75 : decode cX11_needed 75 = .ok (.imul, 1) := by decide +kernel
theorem dX11_needed_76 : decode cX11_needed 76 = .ok (.if_icmp .lt 6, 3) := by decide +kernel
theorem dX11_needed_79 : decode cX11_needed 79 = .ok (.iload 7, 2) := by decide +kernel
theorem dX11_needed_81 : decode cX11_needed 81 = .ok (.ireturn, 1) := by decide +kernel
theorem dX11_needed_82 : decode cX11_needed 82 = .ok (.iinc 7 1, 3) := by decide +kernel
theorem dX11_needed_85 : decode cX11_needed 85 = .ok (.goto (-55), 3) := by decide +kernel
theorem dX11_needed_88 : decode cX11_needed 88 = .ok (.bipush (-2), 2) := by decide +kernel
theorem dX11_needed_90 : decode cX11_needed 90 = .ok (.ireturn, 1) := by decide +kernel
theorem dX11_freshOnes_0 : decode cX11_freshOnes 0 = .ok (.aload_n 0, 1) := by decide +kernel
theorem dX11_freshOnes_1 : decode cX11_freshOnes 1 = .ok (.aload_n 1, 1) := by decide +kernel
theorem dX11_freshOnes_2 : decode cX11_freshOnes 2 = .ok (.invokevirtual 337, 3) := by decide +kernel
theorem dX11_freshOnes_5 : decode cX11_freshOnes 5 = .ok (.astore 4, 2) := by decide +kernel
theorem dX11_freshOnes_7 : decode cX11_freshOnes 7 = .ok (.aload 4, 2) := by decide +kernel
theorem dX11_freshOnes_9 : decode cX11_freshOnes 9 = .ok (.invokevirtual 120, 3) := by decide +kernel
theorem dX11_freshOnes_12 : decode cX11_freshOnes 12 = .ok (.iload_n 3, 1) := by decide +kernel
theorem dX11_freshOnes_13 : decode cX11_freshOnes 13 = .ok (.aload 4, 2) := by decide +kernel
theorem dX11_freshOnes_15 : decode cX11_freshOnes 15 = .ok (.iload_n 2, 1) := by decide +kernel
theorem dX11_freshOnes_16 : decode cX11_freshOnes 16 = .ok (.invokevirtual 114, 3) := by decide +kernel
theorem dX11_freshOnes_19 : decode cX11_freshOnes 19 = .ok (.isub, 1) := by decide +kernel
theorem dX11_freshOnes_20 : decode cX11_freshOnes 20 = .ok (.invokevirtual 351, 3) := by decide +kernel
theorem dX11_freshOnes_23 : decode cX11_freshOnes 23 = .ok (.ireturn, 1) := by decide +kernel
theorem dX11_gain_0 : decode cX11_gain 0 = .ok (.aload_n 0, 1) := by decide +kernel
theorem dX11_gain_1 : decode cX11_gain 1 = .ok (.aload_n 0, 1) := by decide +kernel
theorem dX11_gain_2 : decode cX11_gain 2 = .ok (.iload_n 1, 1) := by decide +kernel
theorem dX11_gain_3 : decode cX11_gain 3 = .ok (.invokevirtual 354, 3) := by decide +kernel
theorem dX11_gain_6 : decode cX11_gain 6 = .ok (.ifCond .eq 15, 3) := by decide +kernel
theorem dX11_gain_9 : decode cX11_gain 9 = .ok (.aload_n 0, 1) := by decide +kernel
theorem dX11_gain_10 : decode cX11_gain 10 = .ok (.iload_n 2, 1) := by decide +kernel
theorem dX11_gain_11 : decode cX11_gain 11 = .ok (.invokevirtual 129, 3) := by decide +kernel
theorem dX11_gain_14 : decode cX11_gain 14 = .ok (.ifCond .eq 7, 3) := by decide +kernel
theorem dX11_gain_17 : decode cX11_gain 17 = .ok (.iconst 0, 1) := by decide +kernel
theorem dX11_gain_18 : decode cX11_gain 18 = .ok (.goto 4, 3) := by decide +kernel
theorem dX11_gain_21 : decode cX11_gain 21 = .ok (.iconst 1, 1) := by decide +kernel
theorem dX11_gain_22 : decode cX11_gain 22 = .ok (.invokevirtual 71, 3) := by decide +kernel
theorem dX11_gain_25 : decode cX11_gain 25 = .ok (.ifCond .eq 30, 3) := by decide +kernel
theorem dX11_gain_28 : decode cX11_gain 28 = .ok (.aload_n 0, 1) := by decide +kernel
theorem dX11_gain_29 : decode cX11_gain 29 = .ok (.iload_n 3, 1) := by decide +kernel
theorem dX11_gain_30 : decode cX11_gain 30 = .ok (.invokestatic 242, 3) := by decide +kernel
theorem dX11_gain_33 : decode cX11_gain 33 = .ok (.ifCond .eq 15, 3) := by decide +kernel
theorem dX11_gain_36 : decode cX11_gain 36 = .ok (.iload 4, 2) := by decide +kernel
theorem dX11_gain_38 : decode cX11_gain 38 = .ok (.invokestatic 291, 3) := by decide +kernel
theorem dX11_gain_41 : decode cX11_gain 41 = .ok (.ifCond .eq 7, 3) := by decide +kernel
theorem dX11_gain_44 : decode cX11_gain 44 = .ok (.iconst 0, 1) := by decide +kernel
theorem dX11_gain_45 : decode cX11_gain 45 = .ok (.goto 4, 3) := by decide +kernel
theorem dX11_gain_48 : decode cX11_gain 48 = .ok (.iconst 2, 1) := by decide +kernel
theorem dX11_gain_49 : decode cX11_gain 49 = .ok (.invokevirtual 71, 3) := by decide +kernel
theorem dX11_gain_52 : decode cX11_gain 52 = .ok (.ifCond .ne 7, 3) := by decide +kernel
theorem dX11_gain_55 : decode cX11_gain 55 = .ok (.ldc2_w 357, 3) := by decide +kernel
theorem dX11_gain_58 : decode cX11_gain 58 = .ok (.lreturn, 1) := by decide +kernel
theorem dX11_gain_59 : decode cX11_gain 59 = .ok (.aload_n 0, 1) := by decide +kernel
theorem dX11_gain_60 : decode cX11_gain 60 = .ok (.aload_n 0, 1) := by decide +kernel
theorem dX11_gain_61 : decode cX11_gain 61 = .ok (.getfield 52, 3) := by decide +kernel
theorem dX11_gain_64 : decode cX11_gain 64 = .ok (.getfield 359, 3) := by decide +kernel
theorem dX11_gain_67 : decode cX11_gain 67 = .ok (.iload_n 1, 1) := by decide +kernel
theorem dX11_gain_68 : decode cX11_gain 68 = .ok (.aaload, 1) := by decide +kernel
theorem dX11_gain_69 : decode cX11_gain 69 = .ok (.aload_n 0, 1) := by decide +kernel
theorem dX11_gain_70 : decode cX11_gain 70 = .ok (.getfield 52, 3) := by decide +kernel
theorem dX11_gain_73 : decode cX11_gain 73 = .ok (.getfield 132, 3) := by decide +kernel
theorem dX11_gain_76 : decode cX11_gain 76 = .ok (.iload_n 2, 1) := by decide +kernel
theorem dX11_gain_77 : decode cX11_gain 77 = .ok (.aaload, 1) := by decide +kernel
theorem dX11_gain_78 : decode cX11_gain 78 = .ok (.iload_n 3, 1) := by decide +kernel
theorem dX11_gain_79 : decode cX11_gain 79 = .ok (.iload 4, 2) := by decide +kernel
theorem dX11_gain_81 : decode cX11_gain 81 = .ok (.invokevirtual 363, 3) := by decide +kernel
theorem dX11_gain_84 : decode cX11_gain 84 = .ok (.lreturn, 1) := by decide +kernel
theorem dX11_best_0 : decode cX11_best 0 = .ok (.aload_n 0, 1) := by decide +kernel
theorem dX11_best_1 : decode cX11_best 1 = .ok (.aload_n 0, 1) := by decide +kernel
theorem dX11_best_2 : decode cX11_best 2 = .ok (.iload_n 1, 1) := by decide +kernel
theorem dX11_best_3 : decode cX11_best 3 = .ok (.invokevirtual 354, 3) := by decide +kernel
theorem dX11_best_6 : decode cX11_best 6 = .ok (.ifCond .eq 15, 3) := by decide +kernel
theorem dX11_best_9 : decode cX11_best 9 = .ok (.aload_n 0, 1) := by decide +kernel
theorem dX11_best_10 : decode cX11_best 10 = .ok (.iload_n 2, 1) := by decide +kernel
theorem dX11_best_11 : decode cX11_best 11 = .ok (.invokevirtual 129, 3) := by decide +kernel
theorem dX11_best_14 : decode cX11_best 14 = .ok (.ifCond .eq 7, 3) := by decide +kernel
theorem dX11_best_17 : decode cX11_best 17 = .ok (.iconst 0, 1) := by decide +kernel
theorem dX11_best_18 : decode cX11_best 18 = .ok (.goto 4, 3) := by decide +kernel
theorem dX11_best_21 : decode cX11_best 21 = .ok (.iconst 1, 1) := by decide +kernel
theorem dX11_best_22 : decode cX11_best 22 = .ok (.invokevirtual 71, 3) := by decide +kernel
theorem dX11_best_25 : decode cX11_best 25 = .ok (.ifCond .eq 22, 3) := by decide +kernel
theorem dX11_best_28 : decode cX11_best 28 = .ok (.aload_n 0, 1) := by decide +kernel
theorem dX11_best_29 : decode cX11_best 29 = .ok (.iload_n 3, 1) := by decide +kernel
theorem dX11_best_30 : decode cX11_best 30 = .ok (.invokestatic 242, 3) := by decide +kernel
theorem dX11_best_33 : decode cX11_best 33 = .ok (.ifCond .eq 7, 3) := by decide +kernel
theorem dX11_best_36 : decode cX11_best 36 = .ok (.iconst 0, 1) := by decide +kernel
theorem dX11_best_37 : decode cX11_best 37 = .ok (.goto 4, 3) := by decide +kernel
theorem dX11_best_40 : decode cX11_best 40 = .ok (.iconst 2, 1) := by decide +kernel
theorem dX11_best_41 : decode cX11_best 41 = .ok (.invokevirtual 71, 3) := by decide +kernel
theorem dX11_best_44 : decode cX11_best 44 = .ok (.ifCond .ne 7, 3) := by decide +kernel
theorem dX11_best_47 : decode cX11_best 47 = .ok (.sipush (-1000), 3) := by decide +kernel
theorem dX11_best_50 : decode cX11_best 50 = .ok (.ireturn, 1) := by decide +kernel
theorem dX11_best_51 : decode cX11_best 51 = .ok (.aload_n 0, 1) := by decide +kernel
theorem dX11_best_52 : decode cX11_best 52 = .ok (.aload_n 0, 1) := by decide +kernel
theorem dX11_best_53 : decode cX11_best 53 = .ok (.getfield 52, 3) := by decide +kernel
theorem dX11_best_56 : decode cX11_best 56 = .ok (.getfield 359, 3) := by decide +kernel
theorem dX11_best_59 : decode cX11_best 59 = .ok (.iload_n 1, 1) := by decide +kernel
theorem dX11_best_60 : decode cX11_best 60 = .ok (.aaload, 1) := by decide +kernel
theorem dX11_best_61 : decode cX11_best 61 = .ok (.aload_n 0, 1) := by decide +kernel
theorem dX11_best_62 : decode cX11_best 62 = .ok (.getfield 52, 3) := by decide +kernel
theorem dX11_best_65 : decode cX11_best 65 = .ok (.getfield 132, 3) := by decide +kernel
theorem dX11_best_68 : decode cX11_best 68 = .ok (.iload_n 2, 1) := by decide +kernel
theorem dX11_best_69 : decode cX11_best 69 = .ok (.aaload, 1) := by decide +kernel
theorem dX11_best_70 : decode cX11_best 70 = .ok (.iload_n 3, 1) := by decide +kernel
theorem dX11_best_71 : decode cX11_best 71 = .ok (.invokevirtual 367, 3) := by decide +kernel
theorem dX11_best_74 : decode cX11_best 74 = .ok (.ireturn, 1) := by decide +kernel
theorem dX11_moves_0 : decode cX11_moves 0 = .ok (.aload_n 0, 1) := by decide +kernel
theorem dX11_moves_1 : decode cX11_moves 1 = .ok (.aload_n 0, 1) := by decide +kernel
theorem dX11_moves_2 : decode cX11_moves 2 = .ok (.iload_n 1, 1) := by decide +kernel
theorem dX11_moves_3 : decode cX11_moves 3 = .ok (.invokevirtual 354, 3) := by decide +kernel
theorem dX11_moves_6 : decode cX11_moves 6 = .ok (.ifCond .eq 15, 3) := by decide +kernel
theorem dX11_moves_9 : decode cX11_moves 9 = .ok (.aload_n 0, 1) := by decide +kernel
theorem dX11_moves_10 : decode cX11_moves 10 = .ok (.iload_n 2, 1) := by decide +kernel
theorem dX11_moves_11 : decode cX11_moves 11 = .ok (.invokevirtual 129, 3) := by decide +kernel
theorem dX11_moves_14 : decode cX11_moves 14 = .ok (.ifCond .eq 7, 3) := by decide +kernel
theorem dX11_moves_17 : decode cX11_moves 17 = .ok (.iconst 0, 1) := by decide +kernel
theorem dX11_moves_18 : decode cX11_moves 18 = .ok (.goto 4, 3) := by decide +kernel
theorem dX11_moves_21 : decode cX11_moves 21 = .ok (.iconst 1, 1) := by decide +kernel
theorem dX11_moves_22 : decode cX11_moves 22 = .ok (.invokevirtual 71, 3) := by decide +kernel
theorem dX11_moves_25 : decode cX11_moves 25 = .ok (.ifCond .eq 22, 3) := by decide +kernel
theorem dX11_moves_28 : decode cX11_moves 28 = .ok (.aload_n 0, 1) := by decide +kernel
theorem dX11_moves_29 : decode cX11_moves 29 = .ok (.iload_n 3, 1) := by decide +kernel
theorem dX11_moves_30 : decode cX11_moves 30 = .ok (.invokestatic 242, 3) := by decide +kernel
theorem dX11_moves_33 : decode cX11_moves 33 = .ok (.ifCond .eq 7, 3) := by decide +kernel
theorem dX11_moves_36 : decode cX11_moves 36 = .ok (.iconst 0, 1) := by decide +kernel
theorem dX11_moves_37 : decode cX11_moves 37 = .ok (.goto 4, 3) := by decide +kernel
theorem dX11_moves_40 : decode cX11_moves 40 = .ok (.iconst 2, 1) := by decide +kernel
theorem dX11_moves_41 : decode cX11_moves 41 = .ok (.invokevirtual 71, 3) := by decide +kernel
theorem dX11_moves_44 : decode cX11_moves 44 = .ok (.ifCond .ne 7, 3) := by decide +kernel
theorem dX11_moves_47 : decode cX11_moves 47 = .ok (.sipush (-1000), 3) := by decide +kernel
theorem dX11_moves_50 : decode cX11_moves 50 = .ok (.ireturn, 1) := by decide +kernel
theorem dX11_moves_51 : decode cX11_moves 51 = .ok (.aload_n 0, 1) := by decide +kernel
theorem dX11_moves_52 : decode cX11_moves 52 = .ok (.getfield 52, 3) := by decide +kernel
theorem dX11_moves_55 : decode cX11_moves 55 = .ok (.getfield 132, 3) := by decide +kernel
theorem dX11_moves_58 : decode cX11_moves 58 = .ok (.iload_n 2, 1) := by decide +kernel
theorem dX11_moves_59 : decode cX11_moves 59 = .ok (.aaload, 1) := by decide +kernel
theorem dX11_moves_60 : decode cX11_moves 60 = .ok (.astore 4, 2) := by decide +kernel
theorem dX11_moves_62 : decode cX11_moves 62 = .ok (.aload 4, 2) := by decide +kernel
theorem dX11_moves_64 : decode cX11_moves 64 = .ok (.getfield 141, 3) := by decide +kernel
theorem dX11_moves_67 : decode cX11_moves 67 = .ok (.istore 5, 2) := by decide +kernel
theorem dX11_moves_69 : decode cX11_moves 69 = .ok (.aload 4, 2) := by decide +kernel
theorem dX11_moves_71 : decode cX11_moves 71 = .ok (.aload_n 0, 1) := by decide +kernel
theorem dX11_moves_72 : decode cX11_moves 72 = .ok (.aload_n 0, 1) := by decide +kernel
theorem dX11_moves_73 : decode cX11_moves 73 = .ok (.getfield 52, 3) := by decide +kernel
theorem dX11_moves_76 : decode cX11_moves 76 = .ok (.getfield 359, 3) := by decide +kernel
theorem dX11_moves_79 : decode cX11_moves 79 = .ok (.iload_n 1, 1) := by decide +kernel
theorem dX11_moves_80 : decode cX11_moves 80 = .ok (.aaload, 1) := by decide +kernel
theorem dX11_moves_81 : decode cX11_moves 81 = .ok (.aload 4, 2) := by decide +kernel
theorem dX11_moves_83 : decode cX11_moves 83 = .ok (.iload_n 3, 1) := by decide +kernel
theorem dX11_moves_84 : decode cX11_moves 84 = .ok (.invokevirtual 367, 3) := by decide +kernel
theorem dX11_moves_87 : decode cX11_moves 87 = .ok (.putfield 141, 3) := by decide +kernel
theorem dX11_moves_90 : decode cX11_moves 90 = .ok (.aload 4, 2) := by decide +kernel
theorem dX11_moves_92 : decode cX11_moves 92 = .ok (.getfield 141, 3) := by decide +kernel
theorem dX11_moves_95 : decode cX11_moves 95 = .ok (.iload 5, 2) := by decide +kernel
theorem dX11_moves_97 : decode cX11_moves 97 = .ok (.isub, 1) := by decide +kernel
theorem dX11_moves_98 : decode cX11_moves 98 = .ok (.ireturn, 1) := by decide +kernel
theorem dX11_gained_0 : decode cX11_gained 0 = .ok (.aload_n 0, 1) := by decide +kernel
theorem dX11_gained_1 : decode cX11_gained 1 = .ok (.aload_n 2, 1) := by decide +kernel
theorem dX11_gained_2 : decode cX11_gained 2 = .ok (.invokevirtual 337, 3) := by decide +kernel
theorem dX11_gained_5 : decode cX11_gained 5 = .ok (.invokevirtual 120, 3) := by decide +kernel
theorem dX11_gained_8 : decode cX11_gained 8 = .ok (.getfield 165, 3) := by decide +kernel
theorem dX11_gained_11 : decode cX11_gained 11 = .ok (.istore 5, 2) := by decide +kernel
theorem dX11_gained_13 : decode cX11_gained 13 = .ok (.aload_n 0, 1) := by decide +kernel
theorem dX11_gained_14 : decode cX11_gained 14 = .ok (.aload_n 2, 1) := by decide +kernel
theorem dX11_gained_15 : decode cX11_gained 15 = .ok (.iload_n 3, 1) := by decide +kernel
theorem dX11_gained_16 : decode cX11_gained 16 = .ok (.iload 4, 2) := by decide +kernel
theorem dX11_gained_18 : decode cX11_gained 18 = .ok (.invokevirtual 341, 3) := by decide +kernel
theorem dX11_gained_21 : decode cX11_gained 21 = .ok (.i2l, 1) := by decide +kernel
theorem dX11_gained_22 : decode cX11_gained 22 = .ok (.lstore 6, 2) := by decide +kernel
theorem dX11_gained_24 : decode cX11_gained 24 = .ok (.aload_n 0, 1) := by decide +kernel
theorem dX11_gained_25 : decode cX11_gained 25 = .ok (.aload_n 2, 1) := by decide +kernel
theorem dX11_gained_26 : decode cX11_gained 26 = .ok (.iconst 0, 1) := by decide +kernel
theorem dX11_gained_27 : decode cX11_gained 27 = .ok (.iload 4, 2) := by decide +kernel
theorem dX11_gained_29 : decode cX11_gained 29 = .ok (.invokevirtual 341, 3) := by decide +kernel
theorem dX11_gained_32 : decode cX11_gained 32 = .ok (.i2l, 1) := by decide +kernel
theorem dX11_gained_33 : decode cX11_gained 33 = .ok (.lstore 8, 2) := by decide +kernel
theorem dX11_gained_35 : decode cX11_gained 35 = .ok (.lload 6, 2) := by decide +kernel
theorem dX11_gained_37 : decode cX11_gained 37 = .ok (.aload_n 1, 1) := by decide +kernel
theorem dX11_gained_38 : decode cX11_gained 38 = .ok (.getfield 371, 3) := by decide +kernel
theorem dX11_gained_41 : decode cX11_gained 41 = .ok (.i2l, 1) := by decide +kernel
theorem dX11_gained_42 : decode cX11_gained 42 = .ok (.lmul, 1) := by decide +kernel
theorem dX11_gained_43 : decode cX11_gained 43 = .ok (.iload 5, 2) := by decide +kernel
theorem dX11_gained_45 : decode cX11_gained 45 = .ok (.i2l, 1) := by decide +kernel
theorem dX11_gained_46 : decode cX11_gained 46 = .ok (.lload 6, 2) := by decide +kernel
theorem dX11_gained_48 : decode cX11_gained 48 = .ok (.lsub, 1) := by decide +kernel
theorem dX11_gained_49 : decode cX11_gained 49 = .ok (.aload_n 1, 1) := by decide +kernel
theorem dX11_gained_50 : decode cX11_gained 50 = .ok (.getfield 376, 3) := by decide +kernel
theorem dX11_gained_53 : decode cX11_gained 53 = .ok (.i2l, 1) := by decide +kernel
theorem dX11_gained_54 : decode cX11_gained 54 = .ok (.lmul, 1) := by decide +kernel
theorem dX11_gained_55 : decode cX11_gained 55 = .ok (.ladd, 1) := by decide +kernel
theorem dX11_gained_56 : decode cX11_gained 56 = .ok (.lstore 10, 2) := by decide +kernel
theorem dX11_gained_58 : decode cX11_gained 58 = .ok (.lload 8, 2) := by decide +kernel
theorem dX11_gained_60 : decode cX11_gained 60 = .ok (.aload_n 1, 1) := by decide +kernel
theorem dX11_gained_61 : decode cX11_gained 61 = .ok (.getfield 379, 3) := by decide +kernel
theorem dX11_gained_64 : decode cX11_gained 64 = .ok (.i2l, 1) := by decide +kernel
theorem dX11_gained_65 : decode cX11_gained 65 = .ok (.lmul, 1) := by decide +kernel
theorem dX11_gained_66 : decode cX11_gained 66 = .ok (.iload 5, 2) := by decide +kernel
theorem dX11_gained_68 : decode cX11_gained 68 = .ok (.i2l, 1) := by decide +kernel
theorem dX11_gained_69 : decode cX11_gained 69 = .ok (.lload 8, 2) := by decide +kernel
theorem dX11_gained_71 : decode cX11_gained 71 = .ok (.lsub, 1) := by decide +kernel
theorem dX11_gained_72 : decode cX11_gained 72 = .ok (.aload_n 1, 1) := by decide +kernel
theorem dX11_gained_73 : decode cX11_gained 73 = .ok (.getfield 382, 3) := by decide +kernel
theorem dX11_gained_76 : decode cX11_gained 76 = .ok (.i2l, 1) := by decide +kernel
theorem dX11_gained_77 : decode cX11_gained 77 = .ok (.lmul, 1) := by decide +kernel
theorem dX11_gained_78 : decode cX11_gained 78 = .ok (.ladd, 1) := by decide +kernel
theorem dX11_gained_79 : decode cX11_gained 79 = .ok (.lstore 12, 2) := by decide +kernel
theorem dX11_gained_81 : decode cX11_gained 81 = .ok (.aload_n 1, 1) := by decide +kernel
theorem dX11_gained_82 : decode cX11_gained 82 = .ok (.getfield 385, 3) := by decide +kernel
theorem dX11_gained_85 : decode cX11_gained 85 = .ok (.i2l, 1) := by decide +kernel
theorem dX11_gained_86 : decode cX11_gained 86 = .ok (.lload 10, 2) := by decide +kernel
theorem dX11_gained_88 : decode cX11_gained 88 = .ok (.lmul, 1) := by decide +kernel
theorem dX11_gained_89 : decode cX11_gained 89 = .ok (.bipush 100, 2) := by decide +kernel
theorem dX11_gained_91 : decode cX11_gained 91 = .ok (.aload_n 1, 1) := by decide +kernel
theorem dX11_gained_92 : decode cX11_gained 92 = .ok (.getfield 385, 3) := by decide +kernel
theorem dX11_gained_95 : decode cX11_gained 95 = .ok (.isub, 1) := by decide +kernel
theorem dX11_gained_96 : decode cX11_gained 96 = .ok (.i2l, 1) := by decide +kernel
theorem dX11_gained_97 : decode cX11_gained 97 = .ok (.lload 12, 2) := by decide +kernel
theorem dX11_gained_99 : decode cX11_gained 99 = .ok (.lmul, 1) := by decide +kernel
theorem dX11_gained_100 : decode cX11_gained 100 = .ok (.ladd, 1) := by decide +kernel
theorem dX11_gained_101 : decode cX11_gained 101 = .ok (.lreturn, 1) := by decide +kernel
theorem dX11_bestLine_0 : decode cX11_bestLine 0 = .ok (.bipush (-50), 2) := by decide +kernel
theorem dX11_bestLine_2 : decode cX11_bestLine 2 = .ok (.istore 4, 2) := by decide +kernel
theorem dX11_bestLine_4 : decode cX11_bestLine 4 = .ok (.aload_n 0, 1) := by decide +kernel
theorem dX11_bestLine_5 : decode cX11_bestLine 5 = .ok (.aload_n 1, 1) := by decide +kernel
theorem dX11_bestLine_6 : decode cX11_bestLine 6 = .ok (.aload_n 2, 1) := by decide +kernel
theorem dX11_bestLine_7 : decode cX11_bestLine 7 = .ok (.iload_n 3, 1) := by decide +kernel
theorem dX11_bestLine_8 : decode cX11_bestLine 8 = .ok (.iload 4, 2) := by decide +kernel
theorem dX11_bestLine_10 : decode cX11_bestLine 10 = .ok (.invokevirtual 363, 3) := by decide +kernel
theorem dX11_bestLine_13 : decode cX11_bestLine 13 = .ok (.lstore 5, 2) := by decide +kernel
theorem dX11_bestLine_15 : decode cX11_bestLine 15 = .ok (.bipush (-49), 2) := by decide +kernel
theorem dX11_bestLine_17 : decode cX11_bestLine 17 = .ok (.istore 7, 2) := by decide +kernel
theorem dX11_bestLine_19 : decode cX11_bestLine 19 = .ok (.iload 7, 2) := by decide +kernel
theorem dX11_bestLine_21 : decode cX11_bestLine 21 = .ok (.bipush 50, 2) := by decide +kernel
theorem dX11_bestLine_23 : decode cX11_bestLine 23 = .ok (.if_icmp .gt 36, 3) := by decide +kernel
theorem dX11_bestLine_26 : decode cX11_bestLine 26 = .ok (.aload_n 0, 1) := by decide +kernel
theorem dX11_bestLine_27 : decode cX11_bestLine 27 = .ok (.aload_n 1, 1) := by decide +kernel
theorem dX11_bestLine_28 : decode cX11_bestLine 28 = .ok (.aload_n 2, 1) := by decide +kernel
theorem dX11_bestLine_29 : decode cX11_bestLine 29 = .ok (.iload_n 3, 1) := by decide +kernel
theorem dX11_bestLine_30 : decode cX11_bestLine 30 = .ok (.iload 7, 2) := by decide +kernel
theorem dX11_bestLine_32 : decode cX11_bestLine 32 = .ok (.invokevirtual 363, 3) := by decide +kernel
theorem dX11_bestLine_35 : decode cX11_bestLine 35 = .ok (.lstore 8, 2) := by decide +kernel
theorem dX11_bestLine_37 : decode cX11_bestLine 37 = .ok (.lload 8, 2) := by decide +kernel
theorem dX11_bestLine_39 : decode cX11_bestLine 39 = .ok (.lload 5, 2) := by decide +kernel
theorem dX11_bestLine_41 : decode cX11_bestLine 41 = .ok (.lcmp, 1) := by decide +kernel
theorem dX11_bestLine_42 : decode cX11_bestLine 42 = .ok (.ifCond .le 11, 3) := by decide +kernel
theorem dX11_bestLine_45 : decode cX11_bestLine 45 = .ok (.lload 8, 2) := by decide +kernel
theorem dX11_bestLine_47 : decode cX11_bestLine 47 = .ok (.lstore 5, 2) := by decide +kernel
theorem dX11_bestLine_49 : decode cX11_bestLine 49 = .ok (.iload 7, 2) := by decide +kernel
theorem dX11_bestLine_51 : decode cX11_bestLine 51 = .ok (.istore 4, 2) := by decide +kernel
theorem dX11_bestLine_53 : decode cX11_bestLine 53 = .ok (.iinc 7 1, 3) := by decide +kernel
theorem dX11_bestLine_56 : decode cX11_bestLine 56 = .ok (.goto (-37), 3) := by decide +kernel
theorem dX11_bestLine_59 : decode cX11_bestLine 59 = .ok (.iload 4, 2) := by decide +kernel
theorem dX11_bestLine_61 : decode cX11_bestLine 61 = .ok (.ireturn, 1) := by decide +kernel
theorem dX11_parted_0 : decode cX11_parted 0 = .ok (.aload_n 0, 1) := by decide +kernel
theorem dX11_parted_1 : decode cX11_parted 1 = .ok (.iload_n 1, 1) := by decide +kernel
theorem dX11_parted_2 : decode cX11_parted 2 = .ok (.invokevirtual 107, 3) := by decide +kernel
theorem dX11_parted_5 : decode cX11_parted 5 = .ok (.ifCond .eq 29, 3) := by decide +kernel
theorem dX11_parted_8 : decode cX11_parted 8 = .ok (.aload_n 0, 1) := by decide +kernel
theorem dX11_parted_9 : decode cX11_parted 9 = .ok (.iload_n 2, 1) := by decide +kernel
theorem dX11_parted_10 : decode cX11_parted 10 = .ok (.invokevirtual 107, 3) := by decide +kernel
theorem dX11_parted_13 : decode cX11_parted 13 = .ok (.ifCond .eq 21, 3) := by decide +kernel
theorem dX11_parted_16 : decode cX11_parted 16 = .ok (.iload_n 3, 1) := by decide +kernel
theorem dX11_parted_17 : decode cX11_parted 17 = .ok (.ifCond .eq 13, 3) := by decide +kernel
theorem dX11_parted_20 : decode cX11_parted 20 = .ok (.iload_n 3, 1) := by decide +kernel
theorem dX11_parted_21 : decode cX11_parted 21 = .ok (.iconst 1, 1) := by decide +kernel
theorem dX11_parted_22 : decode cX11_parted 22 = .ok (.if_icmp .eq 8, 3) := by decide +kernel
theorem dX11_parted_25 : decode cX11_parted 25 = .ok (.iload_n 3, 1) := by decide +kernel
theorem dX11_parted_26 : decode cX11_parted 26 = .ok (.iconst 3, 1) := by decide +kernel
theorem dX11_parted_27 : decode cX11_parted 27 = .ok (.if_icmp .ne 7, 3) := by decide +kernel
theorem dX11_parted_30 : decode cX11_parted 30 = .ok (.iconst 1, 1) := by decide +kernel
theorem dX11_parted_31 : decode cX11_parted 31 = .ok (.goto 4, 3) := by decide +kernel
theorem dX11_parted_34 : decode cX11_parted 34 = .ok (.iconst 0, 1) := by decide +kernel
theorem dX11_parted_35 : decode cX11_parted 35 = .ok (.istore 6, 2) := by decide +kernel
theorem dX11_parted_37 : decode cX11_parted 37 = .ok (.iload_n 3, 1) := by decide +kernel
theorem dX11_parted_38 : decode cX11_parted 38 = .ok (.iconst 1, 1) := by decide +kernel
theorem dX11_parted_39 : decode cX11_parted 39 = .ok (.if_icmp .ne 7, 3) := by decide +kernel
theorem dX11_parted_42 : decode cX11_parted 42 = .ok (.iconst 0, 1) := by decide +kernel
theorem dX11_parted_43 : decode cX11_parted 43 = .ok (.goto 4, 3) := by decide +kernel
theorem dX11_parted_46 : decode cX11_parted 46 = .ok (.iconst 1, 1) := by decide +kernel
theorem dX11_parted_47 : decode cX11_parted 47 = .ok (.istore 7, 2) := by decide +kernel
theorem dX11_parted_49 : decode cX11_parted 49 = .ok (.aload_n 0, 1) := by decide +kernel
theorem dX11_parted_50 : decode cX11_parted 50 = .ok (.iload 6, 2) := by decide +kernel
theorem dX11_parted_52 : decode cX11_parted 52 = .ok (.ifCond .eq 7, 3) := by decide +kernel
theorem dX11_parted_55 : decode cX11_parted 55 = .ok (.iconst 0, 1) := by decide +kernel
theorem dX11_parted_56 : decode cX11_parted 56 = .ok (.goto 4, 3) := by decide +kernel
theorem dX11_parted_59 : decode cX11_parted 59 = .ok (.iconst 1, 1) := by decide +kernel
theorem dX11_parted_60 : decode cX11_parted 60 = .ok (.invokevirtual 71, 3) := by decide +kernel
theorem dX11_parted_63 : decode cX11_parted 63 = .ok (.ifCond .eq 37, 3) := by decide +kernel
theorem dX11_parted_66 : decode cX11_parted 66 = .ok (.aload_n 0, 1) := by decide +kernel
theorem dX11_parted_67 : decode cX11_parted 67 = .ok (.iload 4, 2) := by decide +kernel
theorem dX11_parted_69 : decode cX11_parted 69 = .ok (.iload 7, 2) := by decide +kernel
theorem dX11_parted_71 : decode cX11_parted 71 = .ok (.if_icmp .lt 18, 3) := by decide +kernel
theorem dX11_parted_74 : decode cX11_parted 74 = .ok (.iload 5, 2) := by decide +kernel
theorem dX11_parted_76 : decode cX11_parted 76 = .ok (.sipush 400, 3) := by decide +kernel
theorem dX11_parted_79 : decode cX11_parted 79 = .ok (.if_icmp .gt 10, 3) := by decide +kernel
theorem dX11_parted_82 : decode cX11_parted 82 = .ok (.iload 4, 2) := by decide +kernel
theorem dX11_parted_84 : decode cX11_parted 84 = .ok (.iload 5, 2) := by decide +kernel
theorem dX11_parted_86 : decode cX11_parted 86 = .ok (.if_icmp .le 7, 3) := by decide +kernel
theorem dX11_parted_89 : decode cX11_parted 89 = .ok (.iconst 2, 1) := by decide +kernel
theorem dX11_parted_90 : decode cX11_parted 90 = .ok (.goto 4, 3) := by decide +kernel
theorem dX11_parted_93 : decode cX11_parted 93 = .ok (.iconst 0, 1) := by decide +kernel
theorem dX11_parted_94 : decode cX11_parted 94 = .ok (.invokevirtual 71, 3) := by decide +kernel
theorem dX11_parted_97 : decode cX11_parted 97 = .ok (.ifCond .ne 5, 3) := by decide +kernel
theorem dX11_parted_100 : decode cX11_parted 100 = .ok (.iconst (-1), 1) := by decide +kernel
theorem dX11_parted_101 : decode cX11_parted 101 = .ok (.ireturn, 1) := by decide +kernel
theorem dX11_parted_102 : decode cX11_parted 102 = .ok (.aload_n 0, 1) := by decide +kernel
theorem dX11_parted_103 : decode cX11_parted 103 = .ok (.getfield 52, 3) := by decide +kernel
theorem dX11_parted_106 : decode cX11_parted 106 = .ok (.getfield 110, 3) := by decide +kernel
theorem dX11_parted_109 : decode cX11_parted 109 = .ok (.iload_n 1, 1) := by decide +kernel
theorem dX11_parted_110 : decode cX11_parted 110 = .ok (.aaload, 1) := by decide +kernel
theorem dX11_parted_111 : decode cX11_parted 111 = .ok (.astore 8, 2) := by decide +kernel
theorem dX11_parted_113 : decode cX11_parted 113 = .ok (.aload_n 0, 1) := by decide +kernel
theorem dX11_parted_114 : decode cX11_parted 114 = .ok (.getfield 52, 3) := by decide +kernel
theorem dX11_parted_117 : decode cX11_parted 117 = .ok (.getfield 110, 3) := by decide +kernel
theorem dX11_parted_120 : decode cX11_parted 120 = .ok (.iload_n 2, 1) := by decide +kernel
theorem dX11_parted_121 : decode cX11_parted 121 = .ok (.aaload, 1) := by decide +kernel
theorem dX11_parted_122 : decode cX11_parted 122 = .ok (.astore 9, 2) := by decide +kernel
theorem dX11_parted_124 : decode cX11_parted 124 = .ok (.iload_n 3, 1) := by decide +kernel
theorem dX11_parted_125 : decode cX11_parted 125 = .ok (.ifCond .ne 16, 3) := by decide +kernel
theorem dX11_parted_128 : decode cX11_parted 128 = .ok (.aload_n 0, 1) := by decide +kernel
theorem dX11_parted_129 : decode cX11_parted 129 = .ok (.aload 8, 2) := by decide +kernel
theorem dX11_parted_131 : decode cX11_parted 131 = .ok (.aload 9, 2) := by decide +kernel
theorem dX11_parted_133 : decode cX11_parted 133 = .ok (.iload 4, 2) := by decide +kernel
theorem dX11_parted_135 : decode cX11_parted 135 = .ok (.iload 5, 2) := by decide +kernel
theorem dX11_parted_137 : decode cX11_parted 137 = .ok (.invokevirtual 388, 3) := by decide +kernel
theorem dX11_parted_140 : decode cX11_parted 140 = .ok (.ireturn, 1) := by decide +kernel
theorem dX11_parted_141 : decode cX11_parted 141 = .ok (.iload 4, 2) := by decide +kernel
theorem dX11_parted_143 : decode cX11_parted 143 = .ok (.istore 10, 2) := by decide +kernel
theorem dX11_parted_145 : decode cX11_parted 145 = .ok (.iload 10, 2) := by decide +kernel
theorem dX11_parted_147 : decode cX11_parted 147 = .ok (.iload 5, 2) := by decide +kernel
theorem dX11_parted_149 : decode cX11_parted 149 = .ok (.if_icmp .gt 48, 3) := by decide +kernel
theorem dX11_parted_152 : decode cX11_parted 152 = .ok (.iload_n 3, 1) := by decide +kernel
theorem dX11_parted_153 : decode cX11_parted 153 = .ok (.iconst 1, 1) := by decide +kernel
theorem dX11_parted_154 : decode cX11_parted 154 = .ok (.if_icmp .ne 18, 3) := by decide +kernel
theorem dX11_parted_157 : decode cX11_parted 157 = .ok (.aload 8, 2) := by decide +kernel
theorem dX11_parted_159 : decode cX11_parted 159 = .ok (.aload 9, 2) := by decide +kernel
theorem dX11_parted_161 : decode cX11_parted 161 = .ok (.iload 10, 2) := by decide +kernel
theorem dX11_parted_163 : decode cX11_parted 163 = .ok (.invokestatic 392, 3) := by decide +kernel
theorem dX11_parted_166 : decode cX11_parted 166 = .ok (.ifCond .eq 25, 3) := by decide +kernel
theorem dX11_parted_169 : decode cX11_parted 169 = .ok (.goto 15, 3) := by decide +kernel
theorem dX11_parted_172 : decode cX11_parted 172 = .ok (.aload 8, 2) := by decide +kernel
theorem dX11_parted_174 : decode cX11_parted 174 = .ok (.aload 9, 2) := by decide +kernel
theorem dX11_parted_176 : decode cX11_parted 176 = .ok (.iload 10, 2) := by decide +kernel
theorem dX11_parted_178 : decode cX11_parted 178 = .ok (.invokestatic 396, 3) := by decide +kernel
theorem dX11_parted_181 : decode cX11_parted 181 = .ok (.ifCond .eq 10, 3) := by decide +kernel
theorem dX11_parted_184 : decode cX11_parted 184 = .ok (.sipush 1000, 3) := by decide +kernel
theorem dX11_parted_187 : decode cX11_parted 187 = .ok (.iload 10, 2) := by decide +kernel
theorem dX11_parted_189 : decode cX11_parted 189 = .ok (.imul, 1) := by decide +kernel
theorem dX11_parted_190 : decode cX11_parted 190 = .ok (.ireturn, 1) := by decide +kernel
theorem dX11_parted_191 : decode cX11_parted 191 = .ok (.iinc 10 1, 3) := by decide +kernel
theorem dX11_parted_194 : decode cX11_parted 194 = .ok (.goto (-49), 3) := by decide +kernel
theorem dX11_parted_197 : decode cX11_parted 197 = .ok (.bipush (-2), 2) := by decide +kernel
theorem dX11_parted_199 : decode cX11_parted 199 = .ok (.ireturn, 1) := by decide +kernel
theorem dX11_fewest_0 : decode cX11_fewest 0 = .ok (.aload_n 0, 1) := by decide +kernel
theorem dX11_fewest_1 : decode cX11_fewest 1 = .ok (.aload_n 0, 1) := by decide +kernel
theorem dX11_fewest_2 : decode cX11_fewest 2 = .ok (.iload_n 1, 1) := by decide +kernel
theorem dX11_fewest_3 : decode cX11_fewest 3 = .ok (.invokevirtual 107, 3) := by decide +kernel
theorem dX11_fewest_6 : decode cX11_fewest 6 = .ok (.ifCond .eq 15, 3) := by decide +kernel
theorem dX11_fewest_9 : decode cX11_fewest 9 = .ok (.aload_n 0, 1) := by decide +kernel
theorem dX11_fewest_10 : decode cX11_fewest 10 = .ok (.iload_n 2, 1) := by decide +kernel
theorem dX11_fewest_11 : decode cX11_fewest 11 = .ok (.invokevirtual 107, 3) := by decide +kernel
theorem dX11_fewest_14 : decode cX11_fewest 14 = .ok (.ifCond .eq 7, 3) := by decide +kernel
theorem dX11_fewest_17 : decode cX11_fewest 17 = .ok (.iconst 0, 1) := by decide +kernel
theorem dX11_fewest_18 : decode cX11_fewest 18 = .ok (.goto 4, 3) := by decide +kernel
theorem dX11_fewest_21 : decode cX11_fewest 21 = .ok (.iconst 1, 1) := by decide +kernel
theorem dX11_fewest_22 : decode cX11_fewest 22 = .ok (.invokevirtual 71, 3) := by decide +kernel
theorem dX11_fewest_25 : decode cX11_fewest 25 = .ok (.ifCond .eq 30, 3) := by decide +kernel
theorem dX11_fewest_28 : decode cX11_fewest 28 = .ok (.aload_n 0, 1) := by decide +kernel
theorem dX11_fewest_29 : decode cX11_fewest 29 = .ok (.iload_n 3, 1) := by decide +kernel
theorem dX11_fewest_30 : decode cX11_fewest 30 = .ok (.invokestatic 242, 3) := by decide +kernel
theorem dX11_fewest_33 : decode cX11_fewest 33 = .ok (.ifCond .eq 15, 3) := by decide +kernel
theorem dX11_fewest_36 : decode cX11_fewest 36 = .ok (.iload 4, 2) := by decide +kernel
theorem dX11_fewest_38 : decode cX11_fewest 38 = .ok (.invokestatic 242, 3) := by decide +kernel
theorem dX11_fewest_41 : decode cX11_fewest 41 = .ok (.ifCond .eq 7, 3) := by decide +kernel
theorem dX11_fewest_44 : decode cX11_fewest 44 = .ok (.iconst 0, 1) := by decide +kernel
theorem dX11_fewest_45 : decode cX11_fewest 45 = .ok (.goto 4, 3) := by decide +kernel
theorem dX11_fewest_48 : decode cX11_fewest 48 = .ok (.iconst 2, 1) := by decide +kernel
theorem dX11_fewest_49 : decode cX11_fewest 49 = .ok (.invokevirtual 71, 3) := by decide +kernel
theorem dX11_fewest_52 : decode cX11_fewest 52 = .ok (.ifCond .ne 5, 3) := by decide +kernel
theorem dX11_fewest_55 : decode cX11_fewest 55 = .ok (.iconst (-1), 1) := by decide +kernel
theorem dX11_fewest_56 : decode cX11_fewest 56 = .ok (.ireturn, 1) := by decide +kernel
theorem dX11_fewest_57 : decode cX11_fewest 57 = .ok (.aload_n 0, 1) := by decide +kernel
theorem dX11_fewest_58 : decode cX11_fewest 58 = .ok (.getfield 52, 3) := by decide +kernel
theorem dX11_fewest_61 : decode cX11_fewest 61 = .ok (.getfield 110, 3) := by decide +kernel
theorem dX11_fewest_64 : decode cX11_fewest 64 = .ok (.iload_n 1, 1) := by decide +kernel
theorem dX11_fewest_65 : decode cX11_fewest 65 = .ok (.aaload, 1) := by decide +kernel
theorem dX11_fewest_66 : decode cX11_fewest 66 = .ok (.iload_n 3, 1) := by decide +kernel
theorem dX11_fewest_67 : decode cX11_fewest 67 = .ok (.iload 4, 2) := by decide +kernel
theorem dX11_fewest_69 : decode cX11_fewest 69 = .ok (.invokestatic 399, 3) := by decide +kernel
theorem dX11_fewest_72 : decode cX11_fewest 72 = .ok (.istore 5, 2) := by decide +kernel
theorem dX11_fewest_74 : decode cX11_fewest 74 = .ok (.aload_n 0, 1) := by decide +kernel
theorem dX11_fewest_75 : decode cX11_fewest 75 = .ok (.getfield 52, 3) := by decide +kernel
theorem dX11_fewest_78 : decode cX11_fewest 78 = .ok (.getfield 110, 3) := by decide +kernel
theorem dX11_fewest_81 : decode cX11_fewest 81 = .ok (.iload_n 1, 1) := by decide +kernel
theorem dX11_fewest_82 : decode cX11_fewest 82 = .ok (.aaload, 1) := by decide +kernel
theorem dX11_fewest_83 : decode cX11_fewest 83 = .ok (.invokevirtual 120, 3) := by decide +kernel
theorem dX11_fewest_86 : decode cX11_fewest 86 = .ok (.invokevirtual 348, 3) := by decide +kernel
theorem dX11_fewest_89 : decode cX11_fewest 89 = .ok (.istore 6, 2) := by decide +kernel
theorem dX11_fewest_91 : decode cX11_fewest 91 = .ok (.aload_n 0, 1) := by decide +kernel
theorem dX11_fewest_92 : decode cX11_fewest 92 = .ok (.getfield 52, 3) := by decide +kernel
theorem dX11_fewest_95 : decode cX11_fewest 95 = .ok (.getfield 110, 3) := by decide +kernel
theorem dX11_fewest_98 : decode cX11_fewest 98 = .ok (.iload_n 2, 1) := by decide +kernel
theorem dX11_fewest_99 : decode cX11_fewest 99 = .ok (.aaload, 1) := by decide +kernel
theorem dX11_fewest_100 : decode cX11_fewest 100 = .ok (.iload_n 3, 1) := by decide +kernel
theorem dX11_fewest_101 : decode cX11_fewest 101 = .ok (.iload 4, 2) := by decide +kernel
theorem dX11_fewest_103 : decode cX11_fewest 103 = .ok (.invokestatic 399, 3) := by decide +kernel
theorem dX11_fewest_106 : decode cX11_fewest 106 = .ok (.istore 7, 2) := by decide +kernel
theorem dX11_fewest_108 : decode cX11_fewest 108 = .ok (.aload_n 0, 1) := by decide +kernel
theorem dX11_fewest_109 : decode cX11_fewest 109 = .ok (.getfield 52, 3) := by decide +kernel
theorem dX11_fewest_112 : decode cX11_fewest 112 = .ok (.getfield 110, 3) := by decide +kernel
theorem dX11_fewest_115 : decode cX11_fewest 115 = .ok (.iload_n 2, 1) := by decide +kernel
theorem dX11_fewest_116 : decode cX11_fewest 116 = .ok (.aaload, 1) := by decide +kernel
theorem dX11_fewest_117 : decode cX11_fewest 117 = .ok (.invokevirtual 120, 3) := by decide +kernel
theorem dX11_fewest_120 : decode cX11_fewest 120 = .ok (.invokevirtual 348, 3) := by decide +kernel
theorem dX11_fewest_123 : decode cX11_fewest 123 = .ok (.istore 8, 2) := by decide +kernel
theorem dX11_fewest_125 : decode cX11_fewest 125 = .ok (.iconst 1, 1) := by decide +kernel
theorem dX11_fewest_126 : decode cX11_fewest 126 = .ok (.istore 9, 2) := by decide +kernel
theorem dX11_fewest_128 : decode cX11_fewest 128 = .ok (.iload 9, 2) := by decide +kernel
theorem dX11_fewest_130 : decode cX11_fewest 130 = .ok (.bipush 40, 2) := by decide +kernel
theorem dX11_fewest_132 : decode cX11_fewest 132 = .ok (.if_icmp .gt 70, 3) := by decide +kernel
theorem dX11_fewest_135 : decode cX11_fewest 135 = .ok (.aload_n 0, 1) := by decide +kernel
theorem dX11_fewest_136 : decode cX11_fewest 136 = .ok (.getfield 30, 3) := by decide +kernel
theorem dX11_fewest_139 : decode cX11_fewest 139 = .ok (.iload 9, 2) := by decide +kernel
theorem dX11_fewest_141 : decode cX11_fewest 141 = .ok (.iload 5, 2) := by decide +kernel
theorem dX11_fewest_143 : decode cX11_fewest 143 = .ok (.iload 6, 2) := by decide +kernel
theorem dX11_fewest_145 : decode cX11_fewest 145 = .ok (.invokevirtual 285, 3) := by decide +kernel
theorem dX11_fewest_148 : decode cX11_fewest 148 = .ok (.aload_n 0, 1) := by decide +kernel
theorem dX11_fewest_149 : decode cX11_fewest 149 = .ok (.getfield 30, 3) := by decide +kernel
theorem dX11_fewest_152 : decode cX11_fewest 152 = .ok (.iload 9, 2) := by decide +kernel
theorem dX11_fewest_154 : decode cX11_fewest 154 = .ok (.iload 7, 2) := by decide +kernel
theorem dX11_fewest_156 : decode cX11_fewest 156 = .ok (.iload 8, 2) := by decide +kernel
theorem dX11_fewest_158 : decode cX11_fewest 158 = .ok (.invokevirtual 288, 3) := by decide +kernel
theorem dX11_fewest_161 : decode cX11_fewest 161 = .ok (.if_icmp .lt 32, 3) := by decide +kernel
theorem dX11_fewest_164 : decode cX11_fewest 164 = .ok (.aload_n 0, 1) := by decide +kernel
theorem dX11_fewest_165 : decode cX11_fewest 165 = .ok (.getfield 30, 3) := by decide +kernel
theorem dX11_fewest_168 : decode cX11_fewest 168 = .ok (.iload 9, 2) := by decide +kernel
theorem dX11_fewest_170 : decode cX11_fewest 170 = .ok (.iload 7, 2) := by decide +kernel
theorem dX11_fewest_172 : decode cX11_fewest 172 = .ok (.iload 8, 2) := by decide +kernel
theorem dX11_fewest_174 : decode cX11_fewest 174 = .ok (.invokevirtual 285, 3) := by decide +kernel
theorem dX11_fewest_177 : decode cX11_fewest 177 = .ok (.aload_n 0, 1) := by decide +kernel
theorem dX11_fewest_178 : decode cX11_fewest 178 = .ok (.getfield 30, 3) := by decide +kernel
theorem dX11_fewest_181 : decode cX11_fewest 181 = .ok (.iload 9, 2) := by decide +kernel
theorem dX11_fewest_183 : decode cX11_fewest 183 = .ok (.iload 5, 2) := by decide +kernel
theorem dX11_fewest_185 : decode cX11_fewest 185 = .ok (.iload 6, 2) := by decide +kernel
theorem dX11_fewest_187 : decode cX11_fewest 187 = .ok (.invokevirtual 288, 3) := by decide +kernel
theorem dX11_fewest_190 : decode cX11_fewest 190 = .ok (.if_icmp .ge 6, 3) := by decide +kernel
theorem dX11_fewest_193 : decode cX11_fewest 193 = .ok (.iload 9, 2) := by decide +kernel
theorem dX11_fewest_195 : decode cX11_fewest 195 = .ok (.ireturn, 1) := by decide +kernel
theorem dX11_fewest_196 : decode cX11_fewest 196 = .ok (.iinc 9 1, 3) := by decide +kernel
theorem dX11_fewest_199 : decode cX11_fewest 199 = .ok (.goto (-71), 3) := by decide +kernel
theorem dX11_fewest_202 : decode cX11_fewest 202 = .ok (.bipush (-2), 2) := by decide +kernel
theorem dX11_fewest_204 : decode cX11_fewest 204 = .ok (.ireturn, 1) := by decide +kernel
theorem dX11_match_0 : decode cX11_match 0 = .ok (.aload_n 0, 1) := by decide +kernel
theorem dX11_match_1 : decode cX11_match 1 = .ok (.aload_n 0, 1) := by decide +kernel
theorem dX11_match_2 : decode cX11_match 2 = .ok (.iload_n 1, 1) := by decide +kernel
theorem dX11_match_3 : decode cX11_match 3 = .ok (.invokevirtual 107, 3) := by decide +kernel
theorem dX11_match_6 : decode cX11_match 6 = .ok (.ifCond .eq 15, 3) := by decide +kernel
theorem dX11_match_9 : decode cX11_match 9 = .ok (.aload_n 0, 1) := by decide +kernel
theorem dX11_match_10 : decode cX11_match 10 = .ok (.iload_n 3, 1) := by decide +kernel
theorem dX11_match_11 : decode cX11_match 11 = .ok (.invokevirtual 107, 3) := by decide +kernel
theorem dX11_match_14 : decode cX11_match 14 = .ok (.ifCond .eq 7, 3) := by decide +kernel
theorem dX11_match_17 : decode cX11_match 17 = .ok (.iconst 0, 1) := by decide +kernel
theorem dX11_match_18 : decode cX11_match 18 = .ok (.goto 4, 3) := by decide +kernel
theorem dX11_match_21 : decode cX11_match 21 = .ok (.iconst 1, 1) := by decide +kernel
theorem dX11_match_22 : decode cX11_match 22 = .ok (.invokevirtual 71, 3) := by decide +kernel
theorem dX11_match_25 : decode cX11_match 25 = .ok (.ifCond .eq 22, 3) := by decide +kernel
theorem dX11_match_28 : decode cX11_match 28 = .ok (.aload_n 0, 1) := by decide +kernel
theorem dX11_match_29 : decode cX11_match 29 = .ok (.iload_n 2, 1) := by decide +kernel
theorem dX11_match_30 : decode cX11_match 30 = .ok (.invokestatic 242, 3) := by decide +kernel
theorem dX11_match_33 : decode cX11_match 33 = .ok (.ifCond .eq 7, 3) := by decide +kernel
theorem dX11_match_36 : decode cX11_match 36 = .ok (.iconst 0, 1) := by decide +kernel
theorem dX11_match_37 : decode cX11_match 37 = .ok (.goto 4, 3) := by decide +kernel
theorem dX11_match_40 : decode cX11_match 40 = .ok (.iconst 2, 1) := by decide +kernel
theorem dX11_match_41 : decode cX11_match 41 = .ok (.invokevirtual 71, 3) := by decide +kernel
theorem dX11_match_44 : decode cX11_match 44 = .ok (.ifCond .ne 5, 3) := by decide +kernel
theorem dX11_match_47 : decode cX11_match 47 = .ok (.iconst (-1), 1) := by decide +kernel
theorem dX11_match_48 : decode cX11_match 48 = .ok (.ireturn, 1) := by decide +kernel
theorem dX11_match_49 : decode cX11_match 49 = .ok (.aload_n 0, 1) := by decide +kernel
theorem dX11_match_50 : decode cX11_match 50 = .ok (.iload_n 1, 1) := by decide +kernel
theorem dX11_match_51 : decode cX11_match 51 = .ok (.iload_n 2, 1) := by decide +kernel
theorem dX11_match_52 : decode cX11_match 52 = .ok (.iload_n 3, 1) := by decide +kernel
theorem dX11_match_53 : decode cX11_match 53 = .ok (.invokevirtual 403, 3) := by decide +kernel
theorem dX11_match_56 : decode cX11_match 56 = .ok (.ireturn, 1) := by decide +kernel
theorem dX11_closes_0 : decode cX11_closes 0 = .ok (.aload_n 0, 1) := by decide +kernel
theorem dX11_closes_1 : decode cX11_closes 1 = .ok (.aload_n 0, 1) := by decide +kernel
theorem dX11_closes_2 : decode cX11_closes 2 = .ok (.iload_n 1, 1) := by decide +kernel
theorem dX11_closes_3 : decode cX11_closes 3 = .ok (.invokevirtual 107, 3) := by decide +kernel
theorem dX11_closes_6 : decode cX11_closes 6 = .ok (.ifCond .eq 23, 3) := by decide +kernel
theorem dX11_closes_9 : decode cX11_closes 9 = .ok (.aload_n 0, 1) := by decide +kernel
theorem dX11_closes_10 : decode cX11_closes 10 = .ok (.iload_n 2, 1) := by decide +kernel
theorem dX11_closes_11 : decode cX11_closes 11 = .ok (.invokevirtual 107, 3) := by decide +kernel
theorem dX11_closes_14 : decode cX11_closes 14 = .ok (.ifCond .eq 15, 3) := by decide +kernel
theorem dX11_closes_17 : decode cX11_closes 17 = .ok (.aload_n 0, 1) := by decide +kernel
theorem dX11_closes_18 : decode cX11_closes 18 = .ok (.iload_n 3, 1) := by decide +kernel
theorem dX11_closes_19 : decode cX11_closes 19 = .ok (.invokevirtual 107, 3) := by decide +kernel
theorem dX11_closes_22 : decode cX11_closes 22 = .ok (.ifCond .eq 7, 3) := by decide +kernel
theorem dX11_closes_25 : decode cX11_closes 25 = .ok (.iconst 0, 1) := by decide +kernel
theorem dX11_closes_26 : decode cX11_closes 26 = .ok (.goto 4, 3) := by decide +kernel
theorem dX11_closes_29 : decode cX11_closes 29 = .ok (.iconst 1, 1) := by decide +kernel
theorem dX11_closes_30 : decode cX11_closes 30 = .ok (.invokevirtual 71, 3) := by decide +kernel
theorem dX11_closes_33 : decode cX11_closes 33 = .ok (.ifCond .eq 23, 3) := by decide +kernel
theorem dX11_closes_36 : decode cX11_closes 36 = .ok (.aload_n 0, 1) := by decide +kernel
theorem dX11_closes_37 : decode cX11_closes 37 = .ok (.iload 4, 2) := by decide +kernel
theorem dX11_closes_39 : decode cX11_closes 39 = .ok (.invokestatic 242, 3) := by decide +kernel
theorem dX11_closes_42 : decode cX11_closes 42 = .ok (.ifCond .eq 7, 3) := by decide +kernel
theorem dX11_closes_45 : decode cX11_closes 45 = .ok (.iconst 0, 1) := by decide +kernel
theorem dX11_closes_46 : decode cX11_closes 46 = .ok (.goto 4, 3) := by decide +kernel
theorem dX11_closes_49 : decode cX11_closes 49 = .ok (.iconst 2, 1) := by decide +kernel
theorem dX11_closes_50 : decode cX11_closes 50 = .ok (.invokevirtual 71, 3) := by decide +kernel
theorem dX11_closes_53 : decode cX11_closes 53 = .ok (.ifCond .ne 7, 3) := by decide +kernel
theorem dX11_closes_56 : decode cX11_closes 56 = .ok (.sipush (-1000), 3) := by decide +kernel
theorem dX11_closes_59 : decode cX11_closes 59 = .ok (.ireturn, 1) := by decide +kernel
theorem dX11_closes_60 : decode cX11_closes 60 = .ok (.aload_n 0, 1) := by decide +kernel
theorem dX11_closes_61 : decode cX11_closes 61 = .ok (.iload_n 1, 1) := by decide +kernel
theorem dX11_closes_62 : decode cX11_closes 62 = .ok (.iload 4, 2) := by decide +kernel
theorem dX11_closes_64 : decode cX11_closes 64 = .ok (.iload_n 2, 1) := by decide +kernel
theorem dX11_closes_65 : decode cX11_closes 65 = .ok (.invokevirtual 403, 3) := by decide +kernel
theorem dX11_closes_68 : decode cX11_closes 68 = .ok (.istore 5, 2) := by decide +kernel
theorem dX11_closes_70 : decode cX11_closes 70 = .ok (.aload_n 0, 1) := by decide +kernel
theorem dX11_closes_71 : decode cX11_closes 71 = .ok (.iload_n 2, 1) := by decide +kernel
theorem dX11_closes_72 : decode cX11_closes 72 = .ok (.iload 5, 2) := by decide +kernel
theorem dX11_closes_74 : decode cX11_closes 74 = .ok (.iload_n 3, 1) := by decide +kernel
theorem dX11_closes_75 : decode cX11_closes 75 = .ok (.invokevirtual 403, 3) := by decide +kernel
theorem dX11_closes_78 : decode cX11_closes 78 = .ok (.istore 6, 2) := by decide +kernel
theorem dX11_closes_80 : decode cX11_closes 80 = .ok (.aload_n 0, 1) := by decide +kernel
theorem dX11_closes_81 : decode cX11_closes 81 = .ok (.iload_n 3, 1) := by decide +kernel
theorem dX11_closes_82 : decode cX11_closes 82 = .ok (.iload 6, 2) := by decide +kernel
theorem dX11_closes_84 : decode cX11_closes 84 = .ok (.iload_n 1, 1) := by decide +kernel
theorem dX11_closes_85 : decode cX11_closes 85 = .ok (.invokevirtual 403, 3) := by decide +kernel
theorem dX11_closes_88 : decode cX11_closes 88 = .ok (.iload 4, 2) := by decide +kernel
theorem dX11_closes_90 : decode cX11_closes 90 = .ok (.isub, 1) := by decide +kernel
theorem dX11_closes_91 : decode cX11_closes 91 = .ok (.ireturn, 1) := by decide +kernel
theorem dX11_stair_0 : decode cX11_stair 0 = .ok (.iload_n 2, 1) := by decide +kernel
theorem dX11_stair_1 : decode cX11_stair 1 = .ok (.invokestatic 242, 3) := by decide +kernel
theorem dX11_stair_4 : decode cX11_stair 4 = .ok (.ifCond .eq 35, 3) := by decide +kernel
theorem dX11_stair_7 : decode cX11_stair 7 = .ok (.iload 5, 2) := by decide +kernel
theorem dX11_stair_9 : decode cX11_stair 9 = .ok (.invokestatic 242, 3) := by decide +kernel
theorem dX11_stair_12 : decode cX11_stair 12 = .ok (.ifCond .eq 27, 3) := by decide +kernel
theorem dX11_stair_15 : decode cX11_stair 15 = .ok (.iload_n 3, 1) := by decide +kernel
theorem dX11_stair_16 : decode cX11_stair 16 = .ok (.invokestatic 242, 3) := by decide +kernel
theorem dX11_stair_19 : decode cX11_stair 19 = .ok (.ifCond .eq 20, 3) := by decide +kernel
theorem dX11_stair_22 : decode cX11_stair 22 = .ok (.iload 4, 2) := by decide +kernel
theorem dX11_stair_24 : decode cX11_stair 24 = .ok (.iconst 1, 1) := by decide +kernel
theorem dX11_stair_25 : decode cX11_stair 25 = .ok (.if_icmp .lt 14, 3) := by decide +kernel
theorem dX11_stair_28 : decode cX11_stair 28 = .ok (.iload 4, 2) := by decide +kernel
theorem dX11_stair_30 : decode cX11_stair 30 = .ok (.bipush 9, 2) := by decide +kernel
theorem dX11_stair_32 : decode cX11_stair 32 = .ok (.if_icmp .gt 7, 3) := by decide +kernel
theorem dX11_stair_35 : decode cX11_stair 35 = .ok (.iconst 1, 1) := by decide +kernel
theorem dX11_stair_36 : decode cX11_stair 36 = .ok (.goto 4, 3) := by decide +kernel
theorem dX11_stair_39 : decode cX11_stair 39 = .ok (.iconst 0, 1) := by decide +kernel
theorem dX11_stair_40 : decode cX11_stair 40 = .ok (.istore 6, 2) := by decide +kernel
theorem dX11_stair_42 : decode cX11_stair 42 = .ok (.aload_n 0, 1) := by decide +kernel
theorem dX11_stair_43 : decode cX11_stair 43 = .ok (.aload_n 0, 1) := by decide +kernel
theorem dX11_stair_44 : decode cX11_stair 44 = .ok (.iload_n 1, 1) := by decide +kernel
theorem dX11_stair_45 : decode cX11_stair 45 = .ok (.invokevirtual 129, 3) := by decide +kernel
theorem dX11_stair_48 : decode cX11_stair 48 = .ok (.ifCond .eq 7, 3) := by decide +kernel
theorem dX11_stair_51 : decode cX11_stair 51 = .ok (.iconst 0, 1) := by decide +kernel
theorem dX11_stair_52 : decode cX11_stair 52 = .ok (.goto 4, 3) := by decide +kernel
theorem dX11_stair_55 : decode cX11_stair 55 = .ok (.iconst 1, 1) := by decide +kernel
theorem dX11_stair_56 : decode cX11_stair 56 = .ok (.invokevirtual 71, 3) := by decide +kernel
theorem dX11_stair_59 : decode cX11_stair 59 = .ok (.ifCond .eq 20, 3) := by decide +kernel
theorem dX11_stair_62 : decode cX11_stair 62 = .ok (.aload_n 0, 1) := by decide +kernel
theorem dX11_stair_63 : decode cX11_stair 63 = .ok (.iload 6, 2) := by decide +kernel
theorem dX11_stair_65 : decode cX11_stair 65 = .ok (.ifCond .eq 7, 3) := by decide +kernel
theorem dX11_stair_68 : decode cX11_stair 68 = .ok (.iconst 0, 1) := by decide +kernel
theorem dX11_stair_69 : decode cX11_stair 69 = .ok (.goto 4, 3) := by decide +kernel
theorem dX11_stair_72 : decode cX11_stair 72 = .ok (.iconst 2, 1) := by decide +kernel
theorem dX11_stair_73 : decode cX11_stair 73 = .ok (.invokevirtual 71, 3) := by decide +kernel
theorem dX11_stair_76 : decode cX11_stair 76 = .ok (.ifCond .ne 7, 3) := by decide +kernel
theorem dX11_stair_79 : decode cX11_stair 79 = .ok (.ldc2_w 406, 3) := by decide +kernel
theorem dX11_stair_82 : decode cX11_stair 82 = .ok (.lreturn, 1) := by decide +kernel
theorem dX11_stair_83 : decode cX11_stair 83 = .ok (.aload_n 0, 1) := by decide +kernel
theorem dX11_stair_84 : decode cX11_stair 84 = .ok (.getfield 38, 3) := by decide +kernel
theorem dX11_stair_87 : decode cX11_stair 87 = .ok (.lconst 0, 1) := by decide +kernel
theorem dX11_stair_88 : decode cX11_stair 88 = .ok (.invokestatic 408, 3) := by decide +kernel
theorem dX11_stair_91 : decode cX11_stair 91 = .ok (.aload_n 0, 1) := by decide +kernel
theorem dX11_stair_92 : decode cX11_stair 92 = .ok (.getfield 38, 3) := by decide +kernel
theorem dX11_stair_95 : decode cX11_stair 95 = .ok (.iload_n 2, 1) := by decide +kernel
theorem dX11_stair_96 : decode cX11_stair 96 = .ok (.lconst 1, 1) := by decide +kernel
theorem dX11_stair_97 : decode cX11_stair 97 = .ok (.lastore, 1) := by decide +kernel
theorem dX11_stair_98 : decode cX11_stair 98 = .ok (.iconst 0, 1) := by decide +kernel
theorem dX11_stair_99 : decode cX11_stair 99 = .ok (.istore 7, 2) := by decide +kernel
theorem dX11_stair_101 : decode cX11_stair 101 = .ok (.iload 7, 2) := by decide +kernel
theorem dX11_stair_103 : decode cX11_stair 103 = .ok (.iload 4, 2) := by decide +kernel
theorem dX11_stair_105 : decode cX11_stair 105 = .ok (.if_icmp .ge 23, 3) := by decide +kernel
theorem dX11_stair_108 : decode cX11_stair 108 = .ok (.aload_n 0, 1) := by decide +kernel
theorem dX11_stair_109 : decode cX11_stair 109 = .ok (.aload_n 0, 1) := by decide +kernel
theorem dX11_stair_110 : decode cX11_stair 110 = .ok (.getfield 52, 3) := by decide +kernel
theorem dX11_stair_113 : decode cX11_stair 113 = .ok (.getfield 132, 3) := by decide +kernel
theorem dX11_stair_116 : decode cX11_stair 116 = .ok (.iload_n 1, 1) := by decide +kernel
theorem dX11_stair_117 : decode cX11_stair 117 = .ok (.aaload, 1) := by decide +kernel
theorem dX11_stair_118 : decode cX11_stair 118 = .ok (.iload_n 3, 1) := by decide +kernel
theorem dX11_stair_119 : decode cX11_stair 119 = .ok (.invokevirtual 414, 3) := by decide +kernel
theorem dX11_stair_122 : decode cX11_stair 122 = .ok (.iinc 7 1, 3) := by decide +kernel
theorem dX11_stair_125 : decode cX11_stair 125 = .ok (.goto (-24), 3) := by decide +kernel
theorem dX11_stair_128 : decode cX11_stair 128 = .ok (.aload_n 0, 1) := by decide +kernel
theorem dX11_stair_129 : decode cX11_stair 129 = .ok (.getfield 38, 3) := by decide +kernel
theorem dX11_stair_132 : decode cX11_stair 132 = .ok (.iload 5, 2) := by decide +kernel
theorem dX11_stair_134 : decode cX11_stair 134 = .ok (.laload, 1) := by decide +kernel
theorem dX11_stair_135 : decode cX11_stair 135 = .ok (.lreturn, 1) := by decide +kernel
theorem dX11_spreadWays_0 : decode cX11_spreadWays 0 = .ok (.aload_n 0, 1) := by decide +kernel
theorem dX11_spreadWays_1 : decode cX11_spreadWays 1 = .ok (.aload_n 1, 1) := by decide +kernel
theorem dX11_spreadWays_2 : decode cX11_spreadWays 2 = .ok (.invokevirtual 337, 3) := by decide +kernel
theorem dX11_spreadWays_5 : decode cX11_spreadWays 5 = .ok (.invokevirtual 120, 3) := by decide +kernel
theorem dX11_spreadWays_8 : decode cX11_spreadWays 8 = .ok (.getfield 165, 3) := by decide +kernel
theorem dX11_spreadWays_11 : decode cX11_spreadWays 11 = .ok (.istore_n 3, 1) := by decide +kernel
theorem dX11_spreadWays_12 : decode cX11_spreadWays 12 = .ok (.aload_n 0, 1) := by decide +kernel
theorem dX11_spreadWays_13 : decode cX11_spreadWays 13 = .ok (.getfield 42, 3) := by decide +kernel
theorem dX11_spreadWays_16 : decode cX11_spreadWays 16 = .ok (.lconst 0, 1) := by decide +kernel
theorem dX11_spreadWays_17 : decode cX11_spreadWays 17 = .ok (.invokestatic 408, 3) := by decide +kernel
theorem dX11_spreadWays_20 : decode cX11_spreadWays 20 = .ok (.iconst 1, 1) := by decide +kernel
theorem dX11_spreadWays_21 : decode cX11_spreadWays 21 = .ok (.istore 4, 2) := by decide +kernel
theorem dX11_spreadWays_23 : decode cX11_spreadWays 23 = .ok (.iload 4, 2) := by decide +kernel
theorem dX11_spreadWays_25 : decode cX11_spreadWays 25 = .ok (.sipush 400, 3) := by decide +kernel
theorem dX11_spreadWays_28 : decode cX11_spreadWays 28 = .ok (.if_icmp .gt 88, 3) := by decide +kernel
theorem dX11_spreadWays_31 : decode cX11_spreadWays 31 = .ok (.aload_n 0, 1) := by decide +kernel
theorem dX11_spreadWays_32 : decode cX11_spreadWays 32 = .ok (.getfield 38, 3) := by decide +kernel
theorem dX11_spreadWays_35 : decode cX11_spreadWays 35 = .ok (.iload 4, 2) := by decide +kernel
theorem dX11_spreadWays_37 : decode cX11_spreadWays 37 = .ok (.laload, 1) := by decide +kernel
theorem dX11_spreadWays_38 : decode cX11_spreadWays 38 = .ok (.lconst 0, 1) := by decide +kernel
theorem dX11_spreadWays_39 : decode cX11_spreadWays 39 = .ok (.lcmp, 1) := by decide +kernel
theorem dX11_spreadWays_40 : decode cX11_spreadWays 40 = .ok (.ifCond .eq 70, 3) := by decide +kernel
theorem dX11_spreadWays_43 : decode cX11_spreadWays 43 = .ok (.aload_n 0, 1) := by decide +kernel
theorem dX11_spreadWays_44 : decode cX11_spreadWays 44 = .ok (.aload_n 1, 1) := by decide +kernel
theorem dX11_spreadWays_45 : decode cX11_spreadWays 45 = .ok (.iload 4, 2) := by decide +kernel
theorem dX11_spreadWays_47 : decode cX11_spreadWays 47 = .ok (.aload_n 1, 1) := by decide +kernel
theorem dX11_spreadWays_48 : decode cX11_spreadWays 48 = .ok (.getfield 141, 3) := by decide +kernel
theorem dX11_spreadWays_51 : decode cX11_spreadWays 51 = .ok (.invokevirtual 341, 3) := by decide +kernel
theorem dX11_spreadWays_54 : decode cX11_spreadWays 54 = .ok (.i2l, 1) := by decide +kernel
theorem dX11_spreadWays_55 : decode cX11_spreadWays 55 = .ok (.lstore 5, 2) := by decide +kernel
theorem dX11_spreadWays_57 : decode cX11_spreadWays 57 = .ok (.aload_n 0, 1) := by decide +kernel
theorem dX11_spreadWays_58 : decode cX11_spreadWays 58 = .ok (.getfield 42, 3) := by decide +kernel
theorem dX11_spreadWays_61 : decode cX11_spreadWays 61 = .ok (.iload 4, 2) := by decide +kernel
theorem dX11_spreadWays_63 : decode cX11_spreadWays 63 = .ok (.iconst 1, 1) := by decide +kernel
theorem dX11_spreadWays_64 : decode cX11_spreadWays 64 = .ok (.iload_n 2, 1) := by decide +kernel
theorem dX11_spreadWays_65 : decode cX11_spreadWays 65 = .ok (.invokestatic 245, 3) := by decide +kernel
theorem dX11_spreadWays_68 : decode cX11_spreadWays 68 = .ok (.dup2, 1) := by decide +kernel
theorem dX11_spreadWays_69 : decode cX11_spreadWays 69 = .ok (.laload, 1) := by decide +kernel
theorem dX11_spreadWays_70 : decode cX11_spreadWays 70 = .ok (.aload_n 0, 1) := by decide +kernel
theorem dX11_spreadWays_71 : decode cX11_spreadWays 71 = .ok (.getfield 38, 3) := by decide +kernel
theorem dX11_spreadWays_74 : decode cX11_spreadWays 74 = .ok (.iload 4, 2) := by decide +kernel
theorem dX11_spreadWays_76 : decode cX11_spreadWays 76 = .ok (.laload, 1) := by decide +kernel
theorem dX11_spreadWays_77 : decode cX11_spreadWays 77 = .ok (.lload 5, 2) := by decide +kernel
theorem dX11_spreadWays_79 : decode cX11_spreadWays 79 = .ok (.lmul, 1) := by decide +kernel
theorem dX11_spreadWays_80 : decode cX11_spreadWays 80 = .ok (.ladd, 1) := by decide +kernel
theorem dX11_spreadWays_81 : decode cX11_spreadWays 81 = .ok (.lastore, 1) := by decide +kernel
theorem dX11_spreadWays_82 : decode cX11_spreadWays 82 = .ok (.aload_n 0, 1) := by decide +kernel
theorem dX11_spreadWays_83 : decode cX11_spreadWays 83 = .ok (.getfield 42, 3) := by decide +kernel
theorem dX11_spreadWays_86 : decode cX11_spreadWays 86 = .ok (.iload 4, 2) := by decide +kernel
theorem dX11_spreadWays_88 : decode cX11_spreadWays 88 = .ok (.iconst 0, 1) := by decide +kernel
theorem dX11_spreadWays_89 : decode cX11_spreadWays 89 = .ok (.iload_n 2, 1) := by decide +kernel
theorem dX11_spreadWays_90 : decode cX11_spreadWays 90 = .ok (.invokestatic 245, 3) := by decide +kernel
theorem dX11_spreadWays_93 : decode cX11_spreadWays 93 = .ok (.dup2, 1) := by decide +kernel
theorem dX11_spreadWays_94 : decode cX11_spreadWays 94 = .ok (.laload, 1) := by decide +kernel
theorem dX11_spreadWays_95 : decode cX11_spreadWays 95 = .ok (.aload_n 0, 1) := by decide +kernel
theorem dX11_spreadWays_96 : decode cX11_spreadWays 96 = .ok (.getfield 38, 3) := by decide +kernel
theorem dX11_spreadWays_99 : decode cX11_spreadWays 99 = .ok (.iload 4, 2) := by decide +kernel
theorem dX11_spreadWays_101 : decode cX11_spreadWays 101 = .ok (.laload, 1) := by decide +kernel
theorem dX11_spreadWays_102 : decode cX11_spreadWays 102 = .ok (.iload_n 3, 1) := by decide +kernel
theorem dX11_spreadWays_103 : decode cX11_spreadWays 103 = .ok (.i2l, 1) := by decide +kernel
theorem dX11_spreadWays_104 : decode cX11_spreadWays 104 = .ok (.lload 5, 2) := by decide +kernel
theorem dX11_spreadWays_106 : decode cX11_spreadWays 106 = .ok (.lsub, 1) := by decide +kernel
theorem dX11_spreadWays_107 : decode cX11_spreadWays 107 = .ok (.lmul, 1) := by decide +kernel
theorem dX11_spreadWays_108 : decode cX11_spreadWays 108 = .ok (.ladd, 1) := by decide +kernel
theorem dX11_spreadWays_109 : decode cX11_spreadWays 109 = .ok (.lastore, 1) := by decide +kernel
theorem dX11_spreadWays_110 : decode cX11_spreadWays 110 = .ok (.iinc 4 1, 3) := by decide +kernel
theorem dX11_spreadWays_113 : decode cX11_spreadWays 113 = .ok (.goto (-90), 3) := by decide +kernel
theorem dX11_spreadWays_116 : decode cX11_spreadWays 116 = .ok (.aload_n 0, 1) := by decide +kernel
theorem dX11_spreadWays_117 : decode cX11_spreadWays 117 = .ok (.getfield 42, 3) := by decide +kernel
theorem dX11_spreadWays_120 : decode cX11_spreadWays 120 = .ok (.iconst 0, 1) := by decide +kernel
theorem dX11_spreadWays_121 : decode cX11_spreadWays 121 = .ok (.aload_n 0, 1) := by decide +kernel
theorem dX11_spreadWays_122 : decode cX11_spreadWays 122 = .ok (.getfield 38, 3) := by decide +kernel
theorem dX11_spreadWays_125 : decode cX11_spreadWays 125 = .ok (.iconst 0, 1) := by decide +kernel
theorem dX11_spreadWays_126 : decode cX11_spreadWays 126 = .ok (.aload_n 0, 1) := by decide +kernel
theorem dX11_spreadWays_127 : decode cX11_spreadWays 127 = .ok (.getfield 38, 3) := by decide +kernel
theorem dX11_spreadWays_130 : decode cX11_spreadWays 130 = .ok (.arraylength, 1) := by decide +kernel
theorem dX11_spreadWays_131 : decode cX11_spreadWays 131 = .ok (.invokestatic 418, 3) := by decide +kernel
theorem dX11_spreadWays_134 : decode cX11_spreadWays 134 = .ok (.return_, 1) := by decide +kernel
theorem dX11_matched_0 : decode cX11_matched 0 = .ok (.aload_n 0, 1) := by decide +kernel
theorem dX11_matched_1 : decode cX11_matched 1 = .ok (.getfield 52, 3) := by decide +kernel
theorem dX11_matched_4 : decode cX11_matched 4 = .ok (.getfield 110, 3) := by decide +kernel
theorem dX11_matched_7 : decode cX11_matched 7 = .ok (.iload_n 3, 1) := by decide +kernel
theorem dX11_matched_8 : decode cX11_matched 8 = .ok (.aaload, 1) := by decide +kernel
theorem dX11_matched_9 : decode cX11_matched 9 = .ok (.aload_n 0, 1) := by decide +kernel
theorem dX11_matched_10 : decode cX11_matched 10 = .ok (.getfield 52, 3) := by decide +kernel
theorem dX11_matched_13 : decode cX11_matched 13 = .ok (.getfield 110, 3) := by decide +kernel
theorem dX11_matched_16 : decode cX11_matched 16 = .ok (.iload_n 1, 1) := by decide +kernel
theorem dX11_matched_17 : decode cX11_matched 17 = .ok (.aaload, 1) := by decide +kernel
theorem dX11_matched_18 : decode cX11_matched 18 = .ok (.iload_n 2, 1) := by decide +kernel
theorem dX11_matched_19 : decode cX11_matched 19 = .ok (.invokevirtual 114, 3) := by decide +kernel
theorem dX11_matched_22 : decode cX11_matched 22 = .ok (.invokevirtual 424, 3) := by decide +kernel
theorem dX11_matched_25 : decode cX11_matched 25 = .ok (.ireturn, 1) := by decide +kernel
theorem dX11_pairOnes_0 : decode cX11_pairOnes 0 = .ok (.aload_n 0, 1) := by decide +kernel
theorem dX11_pairOnes_1 : decode cX11_pairOnes 1 = .ok (.invokevirtual 120, 3) := by decide +kernel
theorem dX11_pairOnes_4 : decode cX11_pairOnes 4 = .ok (.aload_n 0, 1) := by decide +kernel
theorem dX11_pairOnes_5 : decode cX11_pairOnes 5 = .ok (.iload_n 2, 1) := by decide +kernel
theorem dX11_pairOnes_6 : decode cX11_pairOnes 6 = .ok (.invokevirtual 114, 3) := by decide +kernel
theorem dX11_pairOnes_9 : decode cX11_pairOnes 9 = .ok (.aload_n 0, 1) := by decide +kernel
theorem dX11_pairOnes_10 : decode cX11_pairOnes 10 = .ok (.iload_n 1, 1) := by decide +kernel
theorem dX11_pairOnes_11 : decode cX11_pairOnes 11 = .ok (.invokevirtual 114, 3) := by decide +kernel
theorem dX11_pairOnes_14 : decode cX11_pairOnes 14 = .ok (.isub, 1) := by decide +kernel
theorem dX11_pairOnes_15 : decode cX11_pairOnes 15 = .ok (.iconst 0, 1) := by decide +kernel
theorem dX11_pairOnes_16 : decode cX11_pairOnes 16 = .ok (.iconst 1, 1) := by decide +kernel
theorem dX11_pairOnes_17 : decode cX11_pairOnes 17 = .ok (.invokevirtual 344, 3) := by decide +kernel
theorem dX11_pairOnes_20 : decode cX11_pairOnes 20 = .ok (.ireturn, 1) := by decide +kernel
theorem dX11_aloneParts_0 : decode cX11_aloneParts 0 = .ok (.aload_n 0, 1) := by decide +kernel
theorem dX11_aloneParts_1 : decode cX11_aloneParts 1 = .ok (.invokevirtual 120, 3) := by decide +kernel
theorem dX11_aloneParts_4 : decode cX11_aloneParts 4 = .ok (.astore_n 3, 1) := by decide +kernel
theorem dX11_aloneParts_5 : decode cX11_aloneParts 5 = .ok (.aload_n 1, 1) := by decide +kernel
theorem dX11_aloneParts_6 : decode cX11_aloneParts 6 = .ok (.invokevirtual 120, 3) := by decide +kernel
theorem dX11_aloneParts_9 : decode cX11_aloneParts 9 = .ok (.astore 4, 2) := by decide +kernel
theorem dX11_aloneParts_11 : decode cX11_aloneParts 11 = .ok (.aload_n 3, 1) := by decide +kernel
theorem dX11_aloneParts_12 : decode cX11_aloneParts 12 = .ok (.aload_n 0, 1) := by decide +kernel
theorem dX11_aloneParts_13 : decode cX11_aloneParts 13 = .ok (.iload_n 2, 1) := by decide +kernel
theorem dX11_aloneParts_14 : decode cX11_aloneParts 14 = .ok (.invokevirtual 114, 3) := by decide +kernel
theorem dX11_aloneParts_17 : decode cX11_aloneParts 17 = .ok (.iconst 1, 1) := by decide +kernel
theorem dX11_aloneParts_18 : decode cX11_aloneParts 18 = .ok (.invokevirtual 427, 3) := by decide +kernel
theorem dX11_aloneParts_21 : decode cX11_aloneParts 21 = .ok (.istore 5, 2) := by decide +kernel
theorem dX11_aloneParts_23 : decode cX11_aloneParts 23 = .ok (.aload 4, 2) := by decide +kernel
theorem dX11_aloneParts_25 : decode cX11_aloneParts 25 = .ok (.aload_n 1, 1) := by decide +kernel
theorem dX11_aloneParts_26 : decode cX11_aloneParts 26 = .ok (.iload_n 2, 1) := by decide +kernel
theorem dX11_aloneParts_27 : decode cX11_aloneParts 27 = .ok (.invokevirtual 114, 3) := by decide +kernel
theorem dX11_aloneParts_30 : decode cX11_aloneParts 30 = .ok (.iconst 1, 1) := by decide +kernel
theorem dX11_aloneParts_31 : decode cX11_aloneParts 31 = .ok (.invokevirtual 427, 3) := by decide +kernel
theorem dX11_aloneParts_34 : decode cX11_aloneParts 34 = .ok (.istore 6, 2) := by decide +kernel
theorem dX11_aloneParts_36 : decode cX11_aloneParts 36 = .ok (.iload 5, 2) := by decide +kernel
theorem dX11_aloneParts_38 : decode cX11_aloneParts 38 = .ok (.aload 4, 2) := by decide +kernel
theorem dX11_aloneParts_40 : decode cX11_aloneParts 40 = .ok (.getfield 165, 3) := by decide +kernel
theorem dX11_aloneParts_43 : decode cX11_aloneParts 43 = .ok (.imul, 1) := by decide +kernel
theorem dX11_aloneParts_44 : decode cX11_aloneParts 44 = .ok (.iload 6, 2) := by decide +kernel
theorem dX11_aloneParts_46 : decode cX11_aloneParts 46 = .ok (.aload_n 3, 1) := by decide +kernel
theorem dX11_aloneParts_47 : decode cX11_aloneParts 47 = .ok (.getfield 165, 3) := by decide +kernel
theorem dX11_aloneParts_50 : decode cX11_aloneParts 50 = .ok (.imul, 1) := by decide +kernel
theorem dX11_aloneParts_51 : decode cX11_aloneParts 51 = .ok (.if_icmp .eq 7, 3) := by decide +kernel
theorem dX11_aloneParts_54 : decode cX11_aloneParts 54 = .ok (.iconst 1, 1) := by decide +kernel
theorem dX11_aloneParts_55 : decode cX11_aloneParts 55 = .ok (.goto 4, 3) := by decide +kernel
theorem dX11_aloneParts_58 : decode cX11_aloneParts 58 = .ok (.iconst 0, 1) := by decide +kernel
theorem dX11_aloneParts_59 : decode cX11_aloneParts 59 = .ok (.ireturn, 1) := by decide +kernel
theorem dX11_numberParts_0 : decode cX11_numberParts 0 = .ok (.aload_n 0, 1) := by decide +kernel
theorem dX11_numberParts_1 : decode cX11_numberParts 1 = .ok (.invokevirtual 120, 3) := by decide +kernel
theorem dX11_numberParts_4 : decode cX11_numberParts 4 = .ok (.astore_n 3, 1) := by decide +kernel
theorem dX11_numberParts_5 : decode cX11_numberParts 5 = .ok (.aload_n 1, 1) := by decide +kernel
theorem dX11_numberParts_6 : decode cX11_numberParts 6 = .ok (.invokevirtual 120, 3) := by decide +kernel
theorem dX11_numberParts_9 : decode cX11_numberParts 9 = .ok (.astore 4, 2) := by decide +kernel
theorem dX11_numberParts_11 : decode cX11_numberParts 11 = .ok (.bipush (-5), 2) := by decide +kernel
theorem dX11_numberParts_13 : decode cX11_numberParts 13 = .ok (.istore 5, 2) := by decide +kernel
theorem dX11_numberParts_15 : decode cX11_numberParts 15 = .ok (.iload 5, 2) := by decide +kernel
theorem dX11_numberParts_17 : decode cX11_numberParts 17 = .ok (.iconst 5, 1) := by decide +kernel
theorem dX11_numberParts_18 : decode cX11_numberParts 18 = .ok (.if_icmp .gt 70, 3) := by decide +kernel
theorem dX11_numberParts_21 : decode cX11_numberParts 21 = .ok (.iconst 0, 1) := by decide +kernel
theorem dX11_numberParts_22 : decode cX11_numberParts 22 = .ok (.aload_n 0, 1) := by decide +kernel
theorem dX11_numberParts_23 : decode cX11_numberParts 23 = .ok (.iload_n 2, 1) := by decide +kernel
theorem dX11_numberParts_24 : decode cX11_numberParts 24 = .ok (.invokevirtual 114, 3) := by decide +kernel
theorem dX11_numberParts_27 : decode cX11_numberParts 27 = .ok (.iload 5, 2) := by decide +kernel
theorem dX11_numberParts_29 : decode cX11_numberParts 29 = .ok (.iadd, 1) := by decide +kernel
theorem dX11_numberParts_30 : decode cX11_numberParts 30 = .ok (.invokestatic 282, 3) := by decide +kernel
theorem dX11_numberParts_33 : decode cX11_numberParts 33 = .ok (.istore 6, 2) := by decide +kernel
theorem dX11_numberParts_35 : decode cX11_numberParts 35 = .ok (.aload_n 3, 1) := by decide +kernel
theorem dX11_numberParts_36 : decode cX11_numberParts 36 = .ok (.aload_n 0, 1) := by decide +kernel
theorem dX11_numberParts_37 : decode cX11_numberParts 37 = .ok (.iload_n 2, 1) := by decide +kernel
theorem dX11_numberParts_38 : decode cX11_numberParts 38 = .ok (.invokevirtual 114, 3) := by decide +kernel
theorem dX11_numberParts_41 : decode cX11_numberParts 41 = .ok (.iload 6, 2) := by decide +kernel
theorem dX11_numberParts_43 : decode cX11_numberParts 43 = .ok (.invokevirtual 430, 3) := by decide +kernel
theorem dX11_numberParts_46 : decode cX11_numberParts 46 = .ok (.istore 7, 2) := by decide +kernel
theorem dX11_numberParts_48 : decode cX11_numberParts 48 = .ok (.aload 4, 2) := by decide +kernel
theorem dX11_numberParts_50 : decode cX11_numberParts 50 = .ok (.aload_n 1, 1) := by decide +kernel
theorem dX11_numberParts_51 : decode cX11_numberParts 51 = .ok (.iload_n 2, 1) := by decide +kernel
theorem dX11_numberParts_52 : decode cX11_numberParts 52 = .ok (.invokevirtual 114, 3) := by decide +kernel
theorem dX11_numberParts_55 : decode cX11_numberParts 55 = .ok (.iload 6, 2) := by decide +kernel
theorem dX11_numberParts_57 : decode cX11_numberParts 57 = .ok (.invokevirtual 430, 3) := by decide +kernel
theorem dX11_numberParts_60 : decode cX11_numberParts 60 = .ok (.istore 8, 2) := by decide +kernel
theorem dX11_numberParts_62 : decode cX11_numberParts 62 = .ok (.iload 7, 2) := by decide +kernel
theorem dX11_numberParts_64 : decode cX11_numberParts 64 = .ok (.aload 4, 2) := by decide +kernel
theorem dX11_numberParts_66 : decode cX11_numberParts 66 = .ok (.getfield 165, 3) := by decide +kernel
theorem dX11_numberParts_69 : decode cX11_numberParts 69 = .ok (.imul, 1) := by decide +kernel
theorem dX11_numberParts_70 : decode cX11_numberParts 70 = .ok (.iload 8, 2) := by decide +kernel
theorem dX11_numberParts_72 : decode cX11_numberParts 72 = .ok (.aload_n 3, 1) := by decide +kernel
theorem dX11_numberParts_73 : decode cX11_numberParts 73 = .ok (.getfield 165, 3) := by decide +kernel
theorem dX11_numberParts_76 : decode cX11_numberParts 76 = .ok (.imul, 1) := by decide +kernel
theorem dX11_numberParts_77 : decode cX11_numberParts 77 = .ok (.if_icmp .eq 5, 3) := by decide +kernel
theorem dX11_numberParts_80 : decode cX11_numberParts 80 = .ok (.iconst 1, 1) := by decide +kernel
theorem dX11_numberParts_81 : decode cX11_numberParts 81 = .ok (.ireturn, 1) := by decide +kernel
theorem dX11_numberParts_82 : decode cX11_numberParts 82 = .ok (.iinc 5 1, 3) := by decide +kernel
theorem dX11_numberParts_85 : decode cX11_numberParts 85 = .ok (.goto (-70), 3) := by decide +kernel
theorem dX11_numberParts_88 : decode cX11_numberParts 88 = .ok (.iconst 0, 1) := by decide +kernel
theorem dX11_numberParts_89 : decode cX11_numberParts 89 = .ok (.ireturn, 1) := by decide +kernel
theorem dX11_pairParted_0 : decode cX11_pairParted 0 = .ok (.aload_n 0, 1) := by decide +kernel
theorem dX11_pairParted_1 : decode cX11_pairParted 1 = .ok (.aload_n 1, 1) := by decide +kernel
theorem dX11_pairParted_2 : decode cX11_pairParted 2 = .ok (.invokevirtual 120, 3) := by decide +kernel
theorem dX11_pairParted_5 : decode cX11_pairParted 5 = .ok (.aload_n 2, 1) := by decide +kernel
theorem dX11_pairParted_6 : decode cX11_pairParted 6 = .ok (.invokevirtual 120, 3) := by decide +kernel
theorem dX11_pairParted_9 : decode cX11_pairParted 9 = .ok (.invokevirtual 433, 3) := by decide +kernel
theorem dX11_pairParted_12 : decode cX11_pairParted 12 = .ok (.iload_n 3, 1) := by decide +kernel
theorem dX11_pairParted_13 : decode cX11_pairParted 13 = .ok (.istore 5, 2) := by decide +kernel
theorem dX11_pairParted_15 : decode cX11_pairParted 15 = .ok (.iload 5, 2) := by decide +kernel
theorem dX11_pairParted_17 : decode cX11_pairParted 17 = .ok (.iload 4, 2) := by decide +kernel
theorem dX11_pairParted_19 : decode cX11_pairParted 19 = .ok (.if_icmp .gt 80, 3) := by decide +kernel
theorem dX11_pairParted_22 : decode cX11_pairParted 22 = .ok (.iload_n 3, 1) := by decide +kernel
theorem dX11_pairParted_23 : decode cX11_pairParted 23 = .ok (.istore 6, 2) := by decide +kernel
theorem dX11_pairParted_25 : decode cX11_pairParted 25 = .ok (.iload 6, 2) := by decide +kernel
theorem dX11_pairParted_27 : decode cX11_pairParted 27 = .ok (.iload 4, 2) := by decide +kernel
theorem dX11_pairParted_29 : decode cX11_pairParted 29 = .ok (.if_icmp .gt 64, 3) := by decide +kernel
theorem dX11_pairParted_32 : decode cX11_pairParted 32 = .ok (.aload_n 1, 1) := by decide +kernel
theorem dX11_pairParted_33 : decode cX11_pairParted 33 = .ok (.iload 6, 2) := by decide +kernel
theorem dX11_pairParted_35 : decode cX11_pairParted 35 = .ok (.invokevirtual 114, 3) := by decide +kernel
theorem dX11_pairParted_38 : decode cX11_pairParted 38 = .ok (.aload_n 1, 1) := by decide +kernel
theorem dX11_pairParted_39 : decode cX11_pairParted 39 = .ok (.iload 5, 2) := by decide +kernel
theorem dX11_pairParted_41 : decode cX11_pairParted 41 = .ok (.invokevirtual 114, 3) := by decide +kernel
theorem dX11_pairParted_44 : decode cX11_pairParted 44 = .ok (.isub, 1) := by decide +kernel
theorem dX11_pairParted_45 : decode cX11_pairParted 45 = .ok (.istore 7, 2) := by decide +kernel
theorem dX11_pairParted_47 : decode cX11_pairParted 47 = .ok (.aload_n 2, 1) := by decide +kernel
theorem dX11_pairParted_48 : decode cX11_pairParted 48 = .ok (.iload 6, 2) := by decide +kernel
theorem dX11_pairParted_50 : decode cX11_pairParted 50 = .ok (.invokevirtual 114, 3) := by decide +kernel
theorem dX11_pairParted_53 : decode cX11_pairParted 53 = .ok (.aload_n 2, 1) := by decide +kernel
theorem dX11_pairParted_54 : decode cX11_pairParted 54 = .ok (.iload 5, 2) := by decide +kernel
theorem dX11_pairParted_56 : decode cX11_pairParted 56 = .ok (.invokevirtual 114, 3) := by decide +kernel
theorem dX11_pairParted_59 : decode cX11_pairParted 59 = .ok (.isub, 1) := by decide +kernel
theorem dX11_pairParted_60 : decode cX11_pairParted 60 = .ok (.istore 8, 2) := by decide +kernel
theorem dX11_pairParted_62 : decode cX11_pairParted 62 = .ok (.aload_n 0, 1) := by decide +kernel
theorem dX11_pairParted_63 : decode cX11_pairParted 63 = .ok (.getfield 45, 3) := by decide +kernel
theorem dX11_pairParted_66 : decode cX11_pairParted 66 = .ok (.iload 7, 2) := by decide +kernel
theorem dX11_pairParted_68 : decode cX11_pairParted 68 = .ok (.iload 8, 2) := by decide +kernel
theorem dX11_pairParted_70 : decode cX11_pairParted 70 = .ok (.invokestatic 437, 3) := by decide +kernel
theorem dX11_pairParted_73 : decode cX11_pairParted 73 = .ok (.baload, 1) := by decide +kernel
theorem dX11_pairParted_74 : decode cX11_pairParted 74 = .ok (.ifCond .ne 13, 3) := by decide +kernel
theorem dX11_pairParted_77 : decode cX11_pairParted 77 = .ok (.sipush 1000, 3) := by decide +kernel
theorem dX11_pairParted_80 : decode cX11_pairParted 80 = .ok (.iload 5, 2) := by decide +kernel
theorem dX11_pairParted_82 : decode cX11_pairParted 82 = .ok (.imul, 1) := by decide +kernel
theorem dX11_pairParted_83 : decode cX11_pairParted 83 = .ok (.iload 6, 2) := by decide +kernel
theorem dX11_pairParted_85 : decode cX11_pairParted 85 = .ok (.iadd, 1) := by decide +kernel
theorem dX11_pairParted_86 : decode cX11_pairParted 86 = .ok (.ireturn, 1) := by decide +kernel
theorem dX11_pairParted_87 : decode cX11_pairParted 87 = .ok (.iinc 6 1, 3) := by decide +kernel
theorem dX11_pairParted_90 : decode cX11_pairParted 90 = .ok (.goto (-65), 3) := by decide +kernel
theorem dX11_pairParted_93 : decode cX11_pairParted 93 = .ok (.iinc 5 1, 3) := by decide +kernel
theorem dX11_pairParted_96 : decode cX11_pairParted 96 = .ok (.goto (-81), 3) := by decide +kernel
theorem dX11_pairParted_99 : decode cX11_pairParted 99 = .ok (.bipush (-2), 2) := by decide +kernel
theorem dX11_pairParted_101 : decode cX11_pairParted 101 = .ok (.ireturn, 1) := by decide +kernel
theorem dX11_compareLeads_0 : decode cX11_compareLeads 0 = .ok (.bipush (-11), 2) := by decide +kernel
theorem dX11_compareLeads_2 : decode cX11_compareLeads 2 = .ok (.istore_n 3, 1) := by decide +kernel
theorem dX11_compareLeads_3 : decode cX11_compareLeads 3 = .ok (.iload_n 3, 1) := by decide +kernel
theorem dX11_compareLeads_4 : decode cX11_compareLeads 4 = .ok (.bipush 11, 2) := by decide +kernel
theorem dX11_compareLeads_6 : decode cX11_compareLeads 6 = .ok (.if_icmp .gt 112, 3) := by decide +kernel
theorem dX11_compareLeads_9 : decode cX11_compareLeads 9 = .ok (.bipush (-11), 2) := by decide +kernel
theorem dX11_compareLeads_11 : decode cX11_compareLeads 11 = .ok (.istore 4, 2) := by decide +kernel
theorem dX11_compareLeads_13 : decode cX11_compareLeads 13 = .ok (.iload 4, 2) := by decide +kernel
theorem dX11_compareLeads_15 : decode cX11_compareLeads 15 = .ok (.bipush 11, 2) := by decide +kernel
theorem dX11_compareLeads_17 : decode cX11_compareLeads 17 = .ok (.if_icmp .gt 95, 3) := by decide +kernel
theorem dX11_compareLeads_20 : decode cX11_compareLeads 20 = .ok (.iconst 1, 1) := by decide +kernel
theorem dX11_compareLeads_21 : decode cX11_compareLeads 21 = .ok (.istore 5, 2) := by decide +kernel
theorem dX11_compareLeads_23 : decode cX11_compareLeads 23 = .ok (.iconst 0, 1) := by decide +kernel
theorem dX11_compareLeads_24 : decode cX11_compareLeads 24 = .ok (.istore 6, 2) := by decide +kernel
theorem dX11_compareLeads_26 : decode cX11_compareLeads 26 = .ok (.iload 6, 2) := by decide +kernel
theorem dX11_compareLeads_28 : decode cX11_compareLeads 28 = .ok (.iconst 1, 1) := by decide +kernel
theorem dX11_compareLeads_29 : decode cX11_compareLeads 29 = .ok (.if_icmp .gt 64, 3) := by decide +kernel
theorem dX11_compareLeads_32 : decode cX11_compareLeads 32 = .ok (.aload_n 1, 1) := by decide +kernel
theorem dX11_compareLeads_33 : decode cX11_compareLeads 33 = .ok (.iload_n 3, 1) := by decide +kernel
theorem dX11_compareLeads_34 : decode cX11_compareLeads 34 = .ok (.iconst 0, 1) := by decide +kernel
theorem dX11_compareLeads_35 : decode cX11_compareLeads 35 = .ok (.iload 6, 2) := by decide +kernel
theorem dX11_compareLeads_37 : decode cX11_compareLeads 37 = .ok (.invokevirtual 344, 3) := by decide +kernel
theorem dX11_compareLeads_40 : decode cX11_compareLeads 40 = .ok (.i2l, 1) := by decide +kernel
theorem dX11_compareLeads_41 : decode cX11_compareLeads 41 = .ok (.aload_n 2, 1) := by decide +kernel
theorem dX11_compareLeads_42 : decode cX11_compareLeads 42 = .ok (.invokevirtual 348, 3) := by decide +kernel
theorem dX11_compareLeads_45 : decode cX11_compareLeads 45 = .ok (.i2l, 1) := by decide +kernel
theorem dX11_compareLeads_46 : decode cX11_compareLeads 46 = .ok (.lmul, 1) := by decide +kernel
theorem dX11_compareLeads_47 : decode cX11_compareLeads 47 = .ok (.lstore 7, 2) := by decide +kernel
theorem dX11_compareLeads_49 : decode cX11_compareLeads 49 = .ok (.aload_n 2, 1) := by decide +kernel
theorem dX11_compareLeads_50 : decode cX11_compareLeads 50 = .ok (.iload 4, 2) := by decide +kernel
theorem dX11_compareLeads_52 : decode cX11_compareLeads 52 = .ok (.iconst 0, 1) := by decide +kernel
theorem dX11_compareLeads_53 : decode cX11_compareLeads 53 = .ok (.iload 6, 2) := by decide +kernel
theorem dX11_compareLeads_55 : decode cX11_compareLeads 55 = .ok (.invokevirtual 344, 3) := by decide +kernel
theorem dX11_compareLeads_58 : decode cX11_compareLeads 58 = .ok (.i2l, 1) := by decide +kernel
theorem dX11_compareLeads_59 : decode cX11_compareLeads 59 = .ok (.aload_n 1, 1) := by decide +kernel
theorem dX11_compareLeads_60 : decode cX11_compareLeads 60 = .ok (.invokevirtual 348, 3) := by decide +kernel
theorem dX11_compareLeads_63 : decode cX11_compareLeads 63 = .ok (.i2l, 1) := by decide +kernel
theorem dX11_compareLeads_64 : decode cX11_compareLeads 64 = .ok (.lmul, 1) := by decide +kernel
theorem dX11_compareLeads_65 : decode cX11_compareLeads 65 = .ok (.lstore 9, 2) := by decide +kernel
theorem dX11_compareLeads_67 : decode cX11_compareLeads 67 = .ok (.iload 5, 2) := by decide +kernel
theorem dX11_compareLeads_69 : decode cX11_compareLeads 69 = .ok (.ifCond .eq 15, 3) := by decide +kernel
theorem dX11_compareLeads_72 : decode cX11_compareLeads 72 = .ok (.lload 7, 2) := by decide +kernel
theorem dX11_compareLeads_74 : decode cX11_compareLeads 74 = .ok (.lload 9, 2) := by decide +kernel
theorem dX11_compareLeads_76 : decode cX11_compareLeads 76 = .ok (.lcmp, 1) := by decide +kernel
theorem dX11_compareLeads_77 : decode cX11_compareLeads 77 = .ok (.ifCond .ne 7, 3) := by decide +kernel
theorem dX11_compareLeads_80 : decode cX11_compareLeads 80 = .ok (.iconst 1, 1) := by decide +kernel
theorem dX11_compareLeads_81 : decode cX11_compareLeads 81 = .ok (.goto 4, 3) := by decide +kernel
theorem dX11_compareLeads_84 : decode cX11_compareLeads 84 = .ok (.iconst 0, 1) := by decide +kernel
theorem dX11_compareLeads_85 : decode cX11_compareLeads 85 = .ok (.istore 5, 2) := by decide +kernel
theorem dX11_compareLeads_87 : decode cX11_compareLeads 87 = .ok (.iinc 6 1, 3) := by decide +kernel
theorem dX11_compareLeads_90 : decode cX11_compareLeads 90 = .ok (.goto (-64), 3) := by decide +kernel
theorem dX11_compareLeads_93 : decode cX11_compareLeads 93 = .ok (.aload_n 0, 1) := by decide +kernel
theorem dX11_compareLeads_94 : decode cX11_compareLeads 94 = .ok (.getfield 45, 3) := by decide +kernel
theorem dX11_compareLeads_97 : decode cX11_compareLeads 97 = .ok (.iload_n 3, 1) := by decide +kernel
theorem dX11_compareLeads_98 : decode cX11_compareLeads 98 = .ok (.iload 4, 2) := by decide +kernel
theorem dX11_compareLeads_100 : decode cX11_compareLeads 100 = .ok (.invokestatic 437, 3) := by decide +kernel
theorem dX11_compareLeads_103 : decode cX11_compareLeads 103 = .ok (.iload 5, 2) := by decide +kernel
theorem dX11_compareLeads_105 : decode cX11_compareLeads 105 = .ok (.bastore, 1) := by decide +kernel
theorem dX11_compareLeads_106 : decode cX11_compareLeads 106 = .ok (.iinc 4 1, 3) := by decide +kernel
theorem dX11_compareLeads_109 : decode cX11_compareLeads 109 = .ok (.goto (-96), 3) := by decide +kernel
theorem dX11_compareLeads_112 : decode cX11_compareLeads 112 = .ok (.iinc 3 1, 3) := by decide +kernel
theorem dX11_compareLeads_115 : decode cX11_compareLeads 115 = .ok (.goto (-112), 3) := by decide +kernel
theorem dX11_compareLeads_118 : decode cX11_compareLeads 118 = .ok (.return_, 1) := by decide +kernel
theorem dX11_leadPlace_0 : decode cX11_leadPlace 0 = .ok (.bipush 11, 2) := by decide +kernel
theorem dX11_leadPlace_2 : decode cX11_leadPlace 2 = .ok (.istore_n 2, 1) := by decide +kernel
theorem dX11_leadPlace_3 : decode cX11_leadPlace 3 = .ok (.iload_n 2, 1) := by decide +kernel
theorem dX11_leadPlace_4 : decode cX11_leadPlace 4 = .ok (.ineg, 1) := by decide +kernel
theorem dX11_leadPlace_5 : decode cX11_leadPlace 5 = .ok (.iload_n 2, 1) := by decide +kernel
theorem dX11_leadPlace_6 : decode cX11_leadPlace 6 = .ok (.iload_n 0, 1) := by decide +kernel
theorem dX11_leadPlace_7 : decode cX11_leadPlace 7 = .ok (.invokestatic 219, 3) := by decide +kernel
theorem dX11_leadPlace_10 : decode cX11_leadPlace 10 = .ok (.invokestatic 282, 3) := by decide +kernel
theorem dX11_leadPlace_13 : decode cX11_leadPlace 13 = .ok (.iload_n 2, 1) := by decide +kernel
theorem dX11_leadPlace_14 : decode cX11_leadPlace 14 = .ok (.iadd, 1) := by decide +kernel
theorem dX11_leadPlace_15 : decode cX11_leadPlace 15 = .ok (.istore_n 3, 1) := by decide +kernel
theorem dX11_leadPlace_16 : decode cX11_leadPlace 16 = .ok (.iload_n 2, 1) := by decide +kernel
theorem dX11_leadPlace_17 : decode cX11_leadPlace 17 = .ok (.ineg, 1) := by decide +kernel
theorem dX11_leadPlace_18 : decode cX11_leadPlace 18 = .ok (.iload_n 2, 1) := by decide +kernel
theorem dX11_leadPlace_19 : decode cX11_leadPlace 19 = .ok (.iload_n 1, 1) := by decide +kernel
theorem dX11_leadPlace_20 : decode cX11_leadPlace 20 = .ok (.invokestatic 219, 3) := by decide +kernel
theorem dX11_leadPlace_23 : decode cX11_leadPlace 23 = .ok (.invokestatic 282, 3) := by decide +kernel
theorem dX11_leadPlace_26 : decode cX11_leadPlace 26 = .ok (.iload_n 2, 1) := by decide +kernel
theorem dX11_leadPlace_27 : decode cX11_leadPlace 27 = .ok (.iadd, 1) := by decide +kernel
theorem dX11_leadPlace_28 : decode cX11_leadPlace 28 = .ok (.istore 4, 2) := by decide +kernel
theorem dX11_leadPlace_30 : decode cX11_leadPlace 30 = .ok (.iload_n 3, 1) := by decide +kernel
theorem dX11_leadPlace_31 : decode cX11_leadPlace 31 = .ok (.iconst 2, 1) := by decide +kernel
theorem dX11_leadPlace_32 : decode cX11_leadPlace 32 = .ok (.iload_n 2, 1) := by decide +kernel
theorem dX11_leadPlace_33 : decode cX11_leadPlace 33 = .ok (.imul, 1) := by decide +kernel
theorem dX11_leadPlace_34 : decode cX11_leadPlace 34 = .ok (.iconst 1, 1) := by decide +kernel
theorem dX11_leadPlace_35 : decode cX11_leadPlace 35 = .ok (.iadd, 1) := by decide +kernel
theorem dX11_leadPlace_36 : decode cX11_leadPlace 36 = .ok (.imul, 1) := by decide +kernel
theorem dX11_leadPlace_37 : decode cX11_leadPlace 37 = .ok (.iload 4, 2) := by decide +kernel
theorem dX11_leadPlace_39 : decode cX11_leadPlace 39 = .ok (.iadd, 1) := by decide +kernel
theorem dX11_leadPlace_40 : decode cX11_leadPlace 40 = .ok (.ireturn, 1) := by decide +kernel
theorem dX11_image_0 : decode cX11_image 0 = .ok (.aload_n 0, 1) := by decide +kernel
theorem dX11_image_1 : decode cX11_image 1 = .ok (.aload_n 0, 1) := by decide +kernel
theorem dX11_image_2 : decode cX11_image 2 = .ok (.iload_n 1, 1) := by decide +kernel
theorem dX11_image_3 : decode cX11_image 3 = .ok (.invokevirtual 129, 3) := by decide +kernel
theorem dX11_image_6 : decode cX11_image 6 = .ok (.ifCond .eq 7, 3) := by decide +kernel
theorem dX11_image_9 : decode cX11_image 9 = .ok (.iconst 0, 1) := by decide +kernel
theorem dX11_image_10 : decode cX11_image 10 = .ok (.goto 4, 3) := by decide +kernel
theorem dX11_image_13 : decode cX11_image 13 = .ok (.iconst 1, 1) := by decide +kernel
theorem dX11_image_14 : decode cX11_image 14 = .ok (.invokevirtual 71, 3) := by decide +kernel
theorem dX11_image_17 : decode cX11_image 17 = .ok (.ifCond .eq 33, 3) := by decide +kernel
theorem dX11_image_20 : decode cX11_image 20 = .ok (.aload_n 0, 1) := by decide +kernel
theorem dX11_image_21 : decode cX11_image 21 = .ok (.aload_n 0, 1) := by decide +kernel
theorem dX11_image_22 : decode cX11_image 22 = .ok (.getfield 52, 3) := by decide +kernel
theorem dX11_image_25 : decode cX11_image 25 = .ok (.getfield 132, 3) := by decide +kernel
theorem dX11_image_28 : decode cX11_image 28 = .ok (.iload_n 1, 1) := by decide +kernel
theorem dX11_image_29 : decode cX11_image 29 = .ok (.aaload, 1) := by decide +kernel
theorem dX11_image_30 : decode cX11_image 30 = .ok (.getfield 155, 3) := by decide +kernel
theorem dX11_image_33 : decode cX11_image 33 = .ok (.sipush 4096, 3) := by decide +kernel
theorem dX11_image_36 : decode cX11_image 36 = .ok (.if_icmp .lt 7, 3) := by decide +kernel
theorem dX11_image_39 : decode cX11_image 39 = .ok (.iconst 3, 1) := by decide +kernel
theorem dX11_image_40 : decode cX11_image 40 = .ok (.goto 4, 3) := by decide +kernel
theorem dX11_image_43 : decode cX11_image 43 = .ok (.iconst 0, 1) := by decide +kernel
theorem dX11_image_44 : decode cX11_image 44 = .ok (.invokevirtual 71, 3) := by decide +kernel
theorem dX11_image_47 : decode cX11_image 47 = .ok (.ifCond .ne 7, 3) := by decide +kernel
theorem dX11_image_50 : decode cX11_image 50 = .ok (.ldc2_w 406, 3) := by decide +kernel
theorem dX11_image_53 : decode cX11_image 53 = .ok (.lreturn, 1) := by decide +kernel
theorem dX11_image_54 : decode cX11_image 54 = .ok (.aload_n 0, 1) := by decide +kernel
theorem dX11_image_55 : decode cX11_image 55 = .ok (.getfield 52, 3) := by decide +kernel
theorem dX11_image_58 : decode cX11_image 58 = .ok (.getfield 132, 3) := by decide +kernel
theorem dX11_image_61 : decode cX11_image 61 = .ok (.iload_n 1, 1) := by decide +kernel
theorem dX11_image_62 : decode cX11_image 62 = .ok (.aaload, 1) := by decide +kernel
theorem dX11_image_63 : decode cX11_image 63 = .ok (.astore_n 2, 1) := by decide +kernel
theorem dX11_image_64 : decode cX11_image 64 = .ok (.aload_n 0, 1) := by decide +kernel
theorem dX11_image_65 : decode cX11_image 65 = .ok (.getfield 98, 3) := by decide +kernel
theorem dX11_image_68 : decode cX11_image 68 = .ok (.i2l, 1) := by decide +kernel
theorem dX11_image_69 : decode cX11_image 69 = .ok (.ldc2_w 440, 3) := by decide +kernel
theorem dX11_image_72 : decode cX11_image 72 = .ok (.aload_n 2, 1) := by decide +kernel
theorem dX11_image_73 : decode cX11_image 73 = .ok (.getfield 158, 3) := by decide +kernel
theorem dX11_image_76 : decode cX11_image 76 = .ok (.i2l, 1) := by decide +kernel
theorem dX11_image_77 : decode cX11_image 77 = .ok (.ldc2_w 442, 3) := by decide +kernel
theorem dX11_image_80 : decode cX11_image 80 = .ok (.aload_n 2, 1) := by decide +kernel
theorem dX11_image_81 : decode cX11_image 81 = .ok (.getfield 155, 3) := by decide +kernel
theorem dX11_image_84 : decode cX11_image 84 = .ok (.i2l, 1) := by decide +kernel
theorem dX11_image_85 : decode cX11_image 85 = .ok (.lmul, 1) := by decide +kernel
theorem dX11_image_86 : decode cX11_image 86 = .ok (.ladd, 1) := by decide +kernel
theorem dX11_image_87 : decode cX11_image 87 = .ok (.lmul, 1) := by decide +kernel
theorem dX11_image_88 : decode cX11_image 88 = .ok (.ladd, 1) := by decide +kernel
theorem dX11_image_89 : decode cX11_image 89 = .ok (.lreturn, 1) := by decide +kernel
theorem dX11_restore_0 : decode cX11_restore 0 = .ok (.lload_n 2, 1) := by decide +kernel
theorem dX11_restore_1 : decode cX11_restore 1 = .ok (.ldc2_w 440, 3) := by decide +kernel
theorem dX11_restore_4 : decode cX11_restore 4 = .ok (.ldiv, 1) := by decide +kernel
theorem dX11_restore_5 : decode cX11_restore 5 = .ok (.lstore 4, 2) := by decide +kernel
theorem dX11_restore_7 : decode cX11_restore 7 = .ok (.lload 4, 2) := by decide +kernel
theorem dX11_restore_9 : decode cX11_restore 9 = .ok (.ldc2_w 442, 3) := by decide +kernel
theorem dX11_restore_12 : decode cX11_restore 12 = .ok (.ldiv, 1) := by decide +kernel
theorem dX11_restore_13 : decode cX11_restore 13 = .ok (.lstore 6, 2) := by decide +kernel
theorem dX11_restore_15 : decode cX11_restore 15 = .ok (.lload 4, 2) := by decide +kernel
theorem dX11_restore_17 : decode cX11_restore 17 = .ok (.ldc2_w 442, 3) := by decide +kernel
theorem dX11_restore_20 : decode cX11_restore 20 = .ok (.lrem, 1) := by decide +kernel
theorem dX11_restore_21 : decode cX11_restore 21 = .ok (.lstore 8, 2) := by decide +kernel
theorem dX11_restore_23 : decode cX11_restore 23 = .ok (.aload_n 0, 1) := by decide +kernel
theorem dX11_restore_24 : decode cX11_restore 24 = .ok (.aload_n 0, 1) := by decide +kernel
theorem dX11_restore_25 : decode cX11_restore 25 = .ok (.iload_n 1, 1) := by decide +kernel
theorem dX11_restore_26 : decode cX11_restore 26 = .ok (.invokevirtual 129, 3) := by decide +kernel
theorem dX11_restore_29 : decode cX11_restore 29 = .ok (.ifCond .eq 7, 3) := by decide +kernel
theorem dX11_restore_32 : decode cX11_restore 32 = .ok (.iconst 0, 1) := by decide +kernel
theorem dX11_restore_33 : decode cX11_restore 33 = .ok (.goto 4, 3) := by decide +kernel
theorem dX11_restore_36 : decode cX11_restore 36 = .ok (.iconst 1, 1) := by decide +kernel
theorem dX11_restore_37 : decode cX11_restore 37 = .ok (.invokevirtual 71, 3) := by decide +kernel
theorem dX11_restore_40 : decode cX11_restore 40 = .ok (.ifCond .eq 38, 3) := by decide +kernel
theorem dX11_restore_43 : decode cX11_restore 43 = .ok (.aload_n 0, 1) := by decide +kernel
theorem dX11_restore_44 : decode cX11_restore 44 = .ok (.lload_n 2, 1) := by decide +kernel
theorem dX11_restore_45 : decode cX11_restore 45 = .ok (.lconst 0, 1) := by decide +kernel
theorem dX11_restore_46 : decode cX11_restore 46 = .ok (.lcmp, 1) := by decide +kernel
theorem dX11_restore_47 : decode cX11_restore 47 = .ok (.ifCond .lt 20, 3) := by decide +kernel
theorem dX11_restore_50 : decode cX11_restore 50 = .ok (.lload 8, 2) := by decide +kernel
theorem dX11_restore_52 : decode cX11_restore 52 = .ok (.lload 6, 2) := by decide +kernel
theorem dX11_restore_54 : decode cX11_restore 54 = .ok (.lcmp, 1) := by decide +kernel
theorem dX11_restore_55 : decode cX11_restore 55 = .ok (.ifCond .gt 12, 3) := by decide +kernel
theorem dX11_restore_58 : decode cX11_restore 58 = .ok (.lload 6, 2) := by decide +kernel
theorem dX11_restore_60 : decode cX11_restore 60 = .ok (.ldc2_w 442, 3) := by decide +kernel
theorem dX11_restore_63 : decode cX11_restore 63 = .ok (.lcmp, 1) := by decide +kernel
theorem dX11_restore_64 : decode cX11_restore 64 = .ok (.ifCond .lt 7, 3) := by decide +kernel
theorem dX11_restore_67 : decode cX11_restore 67 = .ok (.iconst 2, 1) := by decide +kernel
theorem dX11_restore_68 : decode cX11_restore 68 = .ok (.goto 4, 3) := by decide +kernel
theorem dX11_restore_71 : decode cX11_restore 71 = .ok (.iconst 0, 1) := by decide +kernel
theorem dX11_restore_72 : decode cX11_restore 72 = .ok (.invokevirtual 71, 3) := by decide +kernel
theorem dX11_restore_75 : decode cX11_restore 75 = .ok (.ifCond .ne 5, 3) := by decide +kernel
theorem dX11_restore_78 : decode cX11_restore 78 = .ok (.iconst 0, 1) := by decide +kernel
theorem dX11_restore_79 : decode cX11_restore 79 = .ok (.ireturn, 1) := by decide +kernel
theorem dX11_restore_80 : decode cX11_restore 80 = .ok (.aload_n 0, 1) := by decide +kernel
theorem dX11_restore_81 : decode cX11_restore 81 = .ok (.lload_n 2, 1) := by decide +kernel
theorem dX11_restore_82 : decode cX11_restore 82 = .ok (.ldc2_w 440, 3) := by decide +kernel
theorem dX11_restore_85 : decode cX11_restore 85 = .ok (.lrem, 1) := by decide +kernel
theorem dX11_restore_86 : decode cX11_restore 86 = .ok (.l2i, 1) := by decide +kernel
theorem dX11_restore_87 : decode cX11_restore 87 = .ok (.putfield 98, 3) := by decide +kernel
theorem dX11_restore_90 : decode cX11_restore 90 = .ok (.aload_n 0, 1) := by decide +kernel
theorem dX11_restore_91 : decode cX11_restore 91 = .ok (.getfield 52, 3) := by decide +kernel
theorem dX11_restore_94 : decode cX11_restore 94 = .ok (.getfield 132, 3) := by decide +kernel
theorem dX11_restore_97 : decode cX11_restore 97 = .ok (.iload_n 1, 1) := by decide +kernel
theorem dX11_restore_98 : decode cX11_restore 98 = .ok (.aaload, 1) := by decide +kernel
theorem dX11_restore_99 : decode cX11_restore 99 = .ok (.lload 6, 2) := by decide +kernel
theorem dX11_restore_101 : decode cX11_restore 101 = .ok (.l2i, 1) := by decide +kernel
theorem dX11_restore_102 : decode cX11_restore 102 = .ok (.putfield 155, 3) := by decide +kernel
theorem dX11_restore_105 : decode cX11_restore 105 = .ok (.aload_n 0, 1) := by decide +kernel
theorem dX11_restore_106 : decode cX11_restore 106 = .ok (.getfield 52, 3) := by decide +kernel
theorem dX11_restore_109 : decode cX11_restore 109 = .ok (.getfield 132, 3) := by decide +kernel
theorem dX11_restore_112 : decode cX11_restore 112 = .ok (.iload_n 1, 1) := by decide +kernel
theorem dX11_restore_113 : decode cX11_restore 113 = .ok (.aaload, 1) := by decide +kernel
theorem dX11_restore_114 : decode cX11_restore 114 = .ok (.lload 8, 2) := by decide +kernel
theorem dX11_restore_116 : decode cX11_restore 116 = .ok (.l2i, 1) := by decide +kernel
theorem dX11_restore_117 : decode cX11_restore 117 = .ok (.putfield 158, 3) := by decide +kernel
theorem dX11_restore_120 : decode cX11_restore 120 = .ok (.iconst 1, 1) := by decide +kernel
theorem dX11_restore_121 : decode cX11_restore 121 = .ok (.ireturn, 1) := by decide +kernel
theorem dX11_clear_0 : decode cX11_clear 0 = .ok (.aload_n 0, 1) := by decide +kernel
theorem dX11_clear_1 : decode cX11_clear 1 = .ok (.getfield 23, 3) := by decide +kernel
theorem dX11_clear_4 : decode cX11_clear 4 = .ok (.getfield 204, 3) := by decide +kernel
theorem dX11_clear_7 : decode cX11_clear 7 = .ok (.istore_n 1, 1) := by decide +kernel
theorem dX11_clear_8 : decode cX11_clear 8 = .ok (.aload_n 0, 1) := by decide +kernel
theorem dX11_clear_9 : decode cX11_clear 9 = .ok (.getfield 23, 3) := by decide +kernel
theorem dX11_clear_12 : decode cX11_clear 12 = .ok (.invokevirtual 95, 3) := by decide +kernel
theorem dX11_clear_15 : decode cX11_clear 15 = .ok (.iload_n 1, 1) := by decide +kernel
theorem dX11_clear_16 : decode cX11_clear 16 = .ok (.ireturn, 1) := by decide +kernel
theorem dX11_led_0 : decode cX11_led 0 = .ok (.aload_n 0, 1) := by decide +kernel
theorem dX11_led_1 : decode cX11_led 1 = .ok (.iload_n 1, 1) := by decide +kernel
theorem dX11_led_2 : decode cX11_led 2 = .ok (.invokevirtual 129, 3) := by decide +kernel
theorem dX11_led_5 : decode cX11_led 5 = .ok (.ifCond .eq 15, 3) := by decide +kernel
theorem dX11_led_8 : decode cX11_led 8 = .ok (.aload_n 0, 1) := by decide +kernel
theorem dX11_led_9 : decode cX11_led 9 = .ok (.getfield 23, 3) := by decide +kernel
theorem dX11_led_12 : decode cX11_led 12 = .ok (.iload_n 1, 1) := by decide +kernel
theorem dX11_led_13 : decode cX11_led 13 = .ok (.iload_n 2, 1) := by decide +kernel
theorem dX11_led_14 : decode cX11_led 14 = .ok (.invokevirtual 444, 3) := by decide +kernel
theorem dX11_led_17 : decode cX11_led 17 = .ok (.goto 4, 3) := by decide +kernel
theorem dX11_led_20 : decode cX11_led 20 = .ok (.iconst (-1), 1) := by decide +kernel
theorem dX11_led_21 : decode cX11_led 21 = .ok (.istore_n 3, 1) := by decide +kernel
theorem dX11_led_22 : decode cX11_led 22 = .ok (.iload_n 3, 1) := by decide +kernel
theorem dX11_led_23 : decode cX11_led 23 = .ok (.ifCond .ge 14, 3) := by decide +kernel
theorem dX11_led_26 : decode cX11_led 26 = .ok (.new 447, 3) := by decide +kernel
theorem dX11_led_29 : decode cX11_led 29 = .ok (.dup, 1) := by decide +kernel
theorem dX11_led_30 : decode cX11_led 30 = .ok (.ldc_w 449, 3) := by decide +kernel
theorem dX11_led_33 : decode cX11_led 33 = .ok (.invokespecial 451, 3) := by decide +kernel
theorem dX11_led_36 : decode cX11_led 36 = .ok (.athrow, 1) := by decide +kernel
theorem dX11_led_37 : decode cX11_led 37 = .ok (.aload_n 0, 1) := by decide +kernel
theorem dX11_led_38 : decode cX11_led 38 = .ok (.getfield 23, 3) := by decide +kernel
theorem dX11_led_41 : decode cX11_led 41 = .ok (.iload_n 3, 1) := by decide +kernel
theorem dX11_led_42 : decode cX11_led 42 = .ok (.iconst 5, 1) := by decide +kernel
theorem dX11_led_43 : decode cX11_led 43 = .ok (.invokevirtual 249, 3) := by decide +kernel
theorem dX11_led_46 : decode cX11_led 46 = .ok (.ireturn, 1) := by decide +kernel
theorem dX11_size_0 : decode cX11_size 0 = .ok (.iload_n 1, 1) := by decide +kernel
theorem dX11_size_1 : decode cX11_size 1 = .ok (.tableswitch 93 0 6 #[43, 51, 59, 67, 75, 83, 88], 43) := by decide +kernel
theorem dX11_size_44 : decode cX11_size 44 = .ok (.aload_n 0, 1) := by decide +kernel
theorem dX11_size_45 : decode cX11_size 45 = .ok (.getfield 52, 3) := by decide +kernel
theorem dX11_size_48 : decode cX11_size 48 = .ok (.getfield 101, 3) := by decide +kernel
theorem dX11_size_51 : decode cX11_size 51 = .ok (.ireturn, 1) := by decide +kernel
theorem dX11_size_52 : decode cX11_size 52 = .ok (.aload_n 0, 1) := by decide +kernel
theorem dX11_size_53 : decode cX11_size 53 = .ok (.getfield 52, 3) := by decide +kernel
theorem dX11_size_56 : decode cX11_size 56 = .ok (.getfield 454, 3) := by decide +kernel
theorem dX11_size_59 : decode cX11_size 59 = .ok (.ireturn, 1) := by decide +kernel
theorem dX11_size_60 : decode cX11_size 60 = .ok (.aload_n 0, 1) := by decide +kernel
theorem dX11_size_61 : decode cX11_size 61 = .ok (.getfield 52, 3) := by decide +kernel
theorem dX11_size_64 : decode cX11_size 64 = .ok (.getfield 457, 3) := by decide +kernel
theorem dX11_size_67 : decode cX11_size 67 = .ok (.ireturn, 1) := by decide +kernel
theorem dX11_size_68 : decode cX11_size 68 = .ok (.aload_n 0, 1) := by decide +kernel
theorem dX11_size_69 : decode cX11_size 69 = .ok (.getfield 52, 3) := by decide +kernel
theorem dX11_size_72 : decode cX11_size 72 = .ok (.getfield 460, 3) := by decide +kernel
theorem dX11_size_75 : decode cX11_size 75 = .ok (.ireturn, 1) := by decide +kernel
theorem dX11_size_76 : decode cX11_size 76 = .ok (.aload_n 0, 1) := by decide +kernel
theorem dX11_size_77 : decode cX11_size 77 = .ok (.getfield 23, 3) := by decide +kernel
theorem dX11_size_80 : decode cX11_size 80 = .ok (.getfield 204, 3) := by decide +kernel
theorem dX11_size_83 : decode cX11_size 83 = .ok (.ireturn, 1) := by decide +kernel
theorem dX11_size_84 : decode cX11_size 84 = .ok (.aload_n 0, 1) := by decide +kernel
theorem dX11_size_85 : decode cX11_size 85 = .ok (.getfield 98, 3) := by decide +kernel
theorem dX11_size_88 : decode cX11_size 88 = .ok (.ireturn, 1) := by decide +kernel
theorem dX11_size_89 : decode cX11_size 89 = .ok (.aload_n 0, 1) := by decide +kernel
theorem dX11_size_90 : decode cX11_size 90 = .ok (.getfield 63, 3) := by decide +kernel
theorem dX11_size_93 : decode cX11_size 93 = .ok (.ireturn, 1) := by decide +kernel
theorem dX11_size_94 : decode cX11_size 94 = .ok (.iconst (-1), 1) := by decide +kernel
theorem dX11_size_95 : decode cX11_size 95 = .ok (.ireturn, 1) := by decide +kernel
theorem dX11_trouble_0 : decode cX11_trouble 0 = .ok (.aload_n 0, 1) := by decide +kernel
theorem dX11_trouble_1 : decode cX11_trouble 1 = .ok (.getfield 104, 3) := by decide +kernel
theorem dX11_trouble_4 : decode cX11_trouble 4 = .ok (.ireturn, 1) := by decide +kernel
theorem dX11_passes_0 : decode cX11_passes 0 = .ok (.aload_n 0, 1) := by decide +kernel
theorem dX11_passes_1 : decode cX11_passes 1 = .ok (.iload_n 1, 1) := by decide +kernel
theorem dX11_passes_2 : decode cX11_passes 2 = .ok (.putfield 104, 3) := by decide +kernel
theorem dX11_passes_5 : decode cX11_passes 5 = .ok (.iload_n 1, 1) := by decide +kernel
theorem dX11_passes_6 : decode cX11_passes 6 = .ok (.ifCond .ne 7, 3) := by decide +kernel
theorem dX11_passes_9 : decode cX11_passes 9 = .ok (.iconst 1, 1) := by decide +kernel
theorem dX11_passes_10 : decode cX11_passes 10 = .ok (.goto 4, 3) := by decide +kernel
theorem dX11_passes_13 : decode cX11_passes 13 = .ok (.iconst 0, 1) := by decide +kernel
theorem dX11_passes_14 : decode cX11_passes 14 = .ok (.ireturn, 1) := by decide +kernel
theorem dX11_isSense_0 : decode cX11_isSense 0 = .ok (.iload_n 1, 1) := by decide +kernel
theorem dX11_isSense_1 : decode cX11_isSense 1 = .ok (.ifCond .lt 18, 3) := by decide +kernel
theorem dX11_isSense_4 : decode cX11_isSense 4 = .ok (.iload_n 1, 1) := by decide +kernel
theorem dX11_isSense_5 : decode cX11_isSense 5 = .ok (.aload_n 0, 1) := by decide +kernel
theorem dX11_isSense_6 : decode cX11_isSense 6 = .ok (.getfield 52, 3) := by decide +kernel
theorem dX11_isSense_9 : decode cX11_isSense 9 = .ok (.getfield 101, 3) := by decide +kernel
theorem dX11_isSense_12 : decode cX11_isSense 12 = .ok (.if_icmp .ge 7, 3) := by decide +kernel
theorem dX11_isSense_15 : decode cX11_isSense 15 = .ok (.iconst 1, 1) := by decide +kernel
theorem dX11_isSense_16 : decode cX11_isSense 16 = .ok (.goto 4, 3) := by decide +kernel
theorem dX11_isSense_19 : decode cX11_isSense 19 = .ok (.iconst 0, 1) := by decide +kernel
theorem dX11_isSense_20 : decode cX11_isSense 20 = .ok (.ireturn, 1) := by decide +kernel
theorem dX11_isSayer_0 : decode cX11_isSayer 0 = .ok (.iload_n 1, 1) := by decide +kernel
theorem dX11_isSayer_1 : decode cX11_isSayer 1 = .ok (.ifCond .lt 18, 3) := by decide +kernel
theorem dX11_isSayer_4 : decode cX11_isSayer 4 = .ok (.iload_n 1, 1) := by decide +kernel
theorem dX11_isSayer_5 : decode cX11_isSayer 5 = .ok (.aload_n 0, 1) := by decide +kernel
theorem dX11_isSayer_6 : decode cX11_isSayer 6 = .ok (.getfield 52, 3) := by decide +kernel
theorem dX11_isSayer_9 : decode cX11_isSayer 9 = .ok (.getfield 454, 3) := by decide +kernel
theorem dX11_isSayer_12 : decode cX11_isSayer 12 = .ok (.if_icmp .ge 7, 3) := by decide +kernel
theorem dX11_isSayer_15 : decode cX11_isSayer 15 = .ok (.iconst 1, 1) := by decide +kernel
theorem dX11_isSayer_16 : decode cX11_isSayer 16 = .ok (.goto 4, 3) := by decide +kernel
theorem dX11_isSayer_19 : decode cX11_isSayer 19 = .ok (.iconst 0, 1) := by decide +kernel
theorem dX11_isSayer_20 : decode cX11_isSayer 20 = .ok (.ireturn, 1) := by decide +kernel
theorem dX11_isPlan_0 : decode cX11_isPlan 0 = .ok (.iload_n 1, 1) := by decide +kernel
theorem dX11_isPlan_1 : decode cX11_isPlan 1 = .ok (.ifCond .lt 18, 3) := by decide +kernel
theorem dX11_isPlan_4 : decode cX11_isPlan 4 = .ok (.iload_n 1, 1) := by decide +kernel
theorem dX11_isPlan_5 : decode cX11_isPlan 5 = .ok (.aload_n 0, 1) := by decide +kernel
theorem dX11_isPlan_6 : decode cX11_isPlan 6 = .ok (.getfield 52, 3) := by decide +kernel
theorem dX11_isPlan_9 : decode cX11_isPlan 9 = .ok (.getfield 457, 3) := by decide +kernel
theorem dX11_isPlan_12 : decode cX11_isPlan 12 = .ok (.if_icmp .ge 7, 3) := by decide +kernel
theorem dX11_isPlan_15 : decode cX11_isPlan 15 = .ok (.iconst 1, 1) := by decide +kernel
theorem dX11_isPlan_16 : decode cX11_isPlan 16 = .ok (.goto 4, 3) := by decide +kernel
theorem dX11_isPlan_19 : decode cX11_isPlan 19 = .ok (.iconst 0, 1) := by decide +kernel
theorem dX11_isPlan_20 : decode cX11_isPlan 20 = .ok (.ireturn, 1) := by decide +kernel
theorem dX11_isPay_0 : decode cX11_isPay 0 = .ok (.iload_n 1, 1) := by decide +kernel
theorem dX11_isPay_1 : decode cX11_isPay 1 = .ok (.ifCond .lt 18, 3) := by decide +kernel
theorem dX11_isPay_4 : decode cX11_isPay 4 = .ok (.iload_n 1, 1) := by decide +kernel
theorem dX11_isPay_5 : decode cX11_isPay 5 = .ok (.aload_n 0, 1) := by decide +kernel
theorem dX11_isPay_6 : decode cX11_isPay 6 = .ok (.getfield 52, 3) := by decide +kernel
theorem dX11_isPay_9 : decode cX11_isPay 9 = .ok (.getfield 460, 3) := by decide +kernel
theorem dX11_isPay_12 : decode cX11_isPay 12 = .ok (.if_icmp .ge 7, 3) := by decide +kernel
theorem dX11_isPay_15 : decode cX11_isPay 15 = .ok (.iconst 1, 1) := by decide +kernel
theorem dX11_isPay_16 : decode cX11_isPay 16 = .ok (.goto 4, 3) := by decide +kernel
theorem dX11_isPay_19 : decode cX11_isPay 19 = .ok (.iconst 0, 1) := by decide +kernel
theorem dX11_isPay_20 : decode cX11_isPay 20 = .ok (.ireturn, 1) := by decide +kernel
theorem dX11_isSize_0 : decode cX11_isSize 0 = .ok (.iload_n 0, 1) := by decide +kernel
theorem dX11_isSize_1 : decode cX11_isSize 1 = .ok (.iconst 1, 1) := by decide +kernel
theorem dX11_isSize_2 : decode cX11_isSize 2 = .ok (.if_icmp .lt 14, 3) := by decide +kernel
theorem dX11_isSize_5 : decode cX11_isSize 5 = .ok (.iload_n 0, 1) := by decide +kernel
theorem dX11_isSize_6 : decode cX11_isSize 6 = .ok (.sipush 400, 3) := by decide +kernel
theorem dX11_isSize_9 : decode cX11_isSize 9 = .ok (.if_icmp .gt 7, 3) := by decide +kernel
theorem dX11_isSize_12 : decode cX11_isSize 12 = .ok (.iconst 1, 1) := by decide +kernel
theorem dX11_isSize_13 : decode cX11_isSize 13 = .ok (.goto 4, 3) := by decide +kernel
theorem dX11_isSize_16 : decode cX11_isSize 16 = .ok (.iconst 0, 1) := by decide +kernel
theorem dX11_isSize_17 : decode cX11_isSize 17 = .ok (.ireturn, 1) := by decide +kernel
theorem dX11_isPercent_0 : decode cX11_isPercent 0 = .ok (.iload_n 0, 1) := by decide +kernel
theorem dX11_isPercent_1 : decode cX11_isPercent 1 = .ok (.iconst 1, 1) := by decide +kernel
theorem dX11_isPercent_2 : decode cX11_isPercent 2 = .ok (.if_icmp .lt 13, 3) := by decide +kernel
theorem dX11_isPercent_5 : decode cX11_isPercent 5 = .ok (.iload_n 0, 1) := by decide +kernel
theorem dX11_isPercent_6 : decode cX11_isPercent 6 = .ok (.bipush 100, 2) := by decide +kernel
theorem dX11_isPercent_8 : decode cX11_isPercent 8 = .ok (.if_icmp .gt 7, 3) := by decide +kernel
theorem dX11_isPercent_11 : decode cX11_isPercent 11 = .ok (.iconst 1, 1) := by decide +kernel
theorem dX11_isPercent_12 : decode cX11_isPercent 12 = .ok (.goto 4, 3) := by decide +kernel
theorem dX11_isPercent_15 : decode cX11_isPercent 15 = .ok (.iconst 0, 1) := by decide +kernel
theorem dX11_isPercent_16 : decode cX11_isPercent 16 = .ok (.ireturn, 1) := by decide +kernel
theorem dX11_isFar_0 : decode cX11_isFar 0 = .ok (.iload_n 0, 1) := by decide +kernel
theorem dX11_isFar_1 : decode cX11_isFar 1 = .ok (.bipush (-50), 2) := by decide +kernel
theorem dX11_isFar_3 : decode cX11_isFar 3 = .ok (.if_icmp .lt 13, 3) := by decide +kernel
theorem dX11_isFar_6 : decode cX11_isFar 6 = .ok (.iload_n 0, 1) := by decide +kernel
theorem dX11_isFar_7 : decode cX11_isFar 7 = .ok (.bipush 50, 2) := by decide +kernel
theorem dX11_isFar_9 : decode cX11_isFar 9 = .ok (.if_icmp .gt 7, 3) := by decide +kernel
theorem dX11_isFar_12 : decode cX11_isFar 12 = .ok (.iconst 1, 1) := by decide +kernel
theorem dX11_isFar_13 : decode cX11_isFar 13 = .ok (.goto 4, 3) := by decide +kernel
theorem dX11_isFar_16 : decode cX11_isFar 16 = .ok (.iconst 0, 1) := by decide +kernel
theorem dX11_isFar_17 : decode cX11_isFar 17 = .ok (.ireturn, 1) := by decide +kernel
theorem dX11_whyNoRoom_0 : decode cX11_whyNoRoom 0 = .ok (.aload_n 0, 1) := by decide +kernel
theorem dX11_whyNoRoom_1 : decode cX11_whyNoRoom 1 = .ok (.getfield 23, 3) := by decide +kernel
theorem dX11_whyNoRoom_4 : decode cX11_whyNoRoom 4 = .ok (.iload_n 1, 1) := by decide +kernel
theorem dX11_whyNoRoom_5 : decode cX11_whyNoRoom 5 = .ok (.invokevirtual 463, 3) := by decide +kernel
theorem dX11_whyNoRoom_8 : decode cX11_whyNoRoom 8 = .ok (.ifCond .eq 7, 3) := by decide +kernel
theorem dX11_whyNoRoom_11 : decode cX11_whyNoRoom 11 = .ok (.iconst 0, 1) := by decide +kernel
theorem dX11_whyNoRoom_12 : decode cX11_whyNoRoom 12 = .ok (.goto 4, 3) := by decide +kernel
theorem dX11_whyNoRoom_15 : decode cX11_whyNoRoom 15 = .ok (.iconst 3, 1) := by decide +kernel
theorem dX11_whyNoRoom_16 : decode cX11_whyNoRoom 16 = .ok (.ireturn, 1) := by decide +kernel
theorem dX11_whyNotJudged_0 : decode cX11_whyNotJudged 0 = .ok (.aload_n 0, 1) := by decide +kernel
theorem dX11_whyNotJudged_1 : decode cX11_whyNotJudged 1 = .ok (.getfield 23, 3) := by decide +kernel
theorem dX11_whyNotJudged_4 : decode cX11_whyNotJudged 4 = .ok (.getfield 297, 3) := by decide +kernel
theorem dX11_whyNotJudged_7 : decode cX11_whyNotJudged 7 = .ok (.iload_n 1, 1) := by decide +kernel
theorem dX11_whyNotJudged_8 : decode cX11_whyNotJudged 8 = .ok (.invokevirtual 466, 3) := by decide +kernel
theorem dX11_whyNotJudged_11 : decode cX11_whyNotJudged 11 = .ok (.ifCond .eq 7, 3) := by decide +kernel
theorem dX11_whyNotJudged_14 : decode cX11_whyNotJudged 14 = .ok (.iconst 3, 1) := by decide +kernel
theorem dX11_whyNotJudged_15 : decode cX11_whyNotJudged 15 = .ok (.goto 4, 3) := by decide +kernel
theorem dX11_whyNotJudged_18 : decode cX11_whyNotJudged 18 = .ok (.iconst 0, 1) := by decide +kernel
theorem dX11_whyNotJudged_19 : decode cX11_whyNotJudged 19 = .ok (.ireturn, 1) := by decide +kernel
theorem dX11_asks_0 : decode cX11_asks 0 = .ok (.aload_n 0, 1) := by decide +kernel
theorem dX11_asks_1 : decode cX11_asks 1 = .ok (.iload_n 1, 1) := by decide +kernel
theorem dX11_asks_2 : decode cX11_asks 2 = .ok (.invokevirtual 129, 3) := by decide +kernel
theorem dX11_asks_5 : decode cX11_asks 5 = .ok (.ifCond .eq 30, 3) := by decide +kernel
theorem dX11_asks_8 : decode cX11_asks 8 = .ok (.iload_n 2, 1) := by decide +kernel
theorem dX11_asks_9 : decode cX11_asks 9 = .ok (.ifCond .lt 26, 3) := by decide +kernel
theorem dX11_asks_12 : decode cX11_asks 12 = .ok (.iload_n 2, 1) := by decide +kernel
theorem dX11_asks_13 : decode cX11_asks 13 = .ok (.iconst 5, 1) := by decide +kernel
theorem dX11_asks_14 : decode cX11_asks 14 = .ok (.if_icmp .gt 21, 3) := by decide +kernel
theorem dX11_asks_17 : decode cX11_asks 17 = .ok (.iload_n 2, 1) := by decide +kernel
theorem dX11_asks_18 : decode cX11_asks 18 = .ok (.iconst 4, 1) := by decide +kernel
theorem dX11_asks_19 : decode cX11_asks 19 = .ok (.if_icmp .ne 12, 3) := by decide +kernel
theorem dX11_asks_22 : decode cX11_asks 22 = .ok (.aload_n 0, 1) := by decide +kernel
theorem dX11_asks_23 : decode cX11_asks 23 = .ok (.iload 4, 2) := by decide +kernel
theorem dX11_asks_25 : decode cX11_asks 25 = .ok (.invokevirtual 107, 3) := by decide +kernel
theorem dX11_asks_28 : decode cX11_asks 28 = .ok (.ifCond .eq 7, 3) := by decide +kernel
theorem dX11_asks_31 : decode cX11_asks 31 = .ok (.iconst 1, 1) := by decide +kernel
theorem dX11_asks_32 : decode cX11_asks 32 = .ok (.goto 4, 3) := by decide +kernel
theorem dX11_asks_35 : decode cX11_asks 35 = .ok (.iconst 0, 1) := by decide +kernel
theorem dX11_asks_36 : decode cX11_asks 36 = .ok (.istore 6, 2) := by decide +kernel
theorem dX11_asks_38 : decode cX11_asks 38 = .ok (.aload_n 0, 1) := by decide +kernel
theorem dX11_asks_39 : decode cX11_asks 39 = .ok (.iload 6, 2) := by decide +kernel
theorem dX11_asks_41 : decode cX11_asks 41 = .ok (.ifCond .eq 7, 3) := by decide +kernel
theorem dX11_asks_44 : decode cX11_asks 44 = .ok (.iconst 0, 1) := by decide +kernel
theorem dX11_asks_45 : decode cX11_asks 45 = .ok (.goto 4, 3) := by decide +kernel
theorem dX11_asks_48 : decode cX11_asks 48 = .ok (.iconst 1, 1) := by decide +kernel
theorem dX11_asks_49 : decode cX11_asks 49 = .ok (.invokevirtual 71, 3) := by decide +kernel
theorem dX11_asks_52 : decode cX11_asks 52 = .ok (.ifCond .ne 5, 3) := by decide +kernel
theorem dX11_asks_55 : decode cX11_asks 55 = .ok (.iconst 0, 1) := by decide +kernel
theorem dX11_asks_56 : decode cX11_asks 56 = .ok (.ireturn, 1) := by decide +kernel
theorem dX11_asks_57 : decode cX11_asks 57 = .ok (.aload_n 0, 1) := by decide +kernel
theorem dX11_asks_58 : decode cX11_asks 58 = .ok (.getfield 59, 3) := by decide +kernel
theorem dX11_asks_61 : decode cX11_asks 61 = .ok (.iload_n 1, 1) := by decide +kernel
theorem dX11_asks_62 : decode cX11_asks 62 = .ok (.iload_n 2, 1) := by decide +kernel
theorem dX11_asks_63 : decode cX11_asks 63 = .ok (.iload_n 3, 1) := by decide +kernel
theorem dX11_asks_64 : decode cX11_asks 64 = .ok (.iload 4, 2) := by decide +kernel
theorem dX11_asks_66 : decode cX11_asks 66 = .ok (.iload 5, 2) := by decide +kernel
theorem dX11_asks_68 : decode cX11_asks 68 = .ok (.invokevirtual 271, 3) := by decide +kernel
theorem dX11_asks_71 : decode cX11_asks 71 = .ok (.aload_n 0, 1) := by decide +kernel
theorem dX11_asks_72 : decode cX11_asks 72 = .ok (.aload_n 0, 1) := by decide +kernel
theorem dX11_asks_73 : decode cX11_asks 73 = .ok (.getfield 52, 3) := by decide +kernel
theorem dX11_asks_76 : decode cX11_asks 76 = .ok (.getfield 132, 3) := by decide +kernel
theorem dX11_asks_79 : decode cX11_asks 79 = .ok (.iload_n 1, 1) := by decide +kernel
theorem dX11_asks_80 : decode cX11_asks 80 = .ok (.aaload, 1) := by decide +kernel
theorem dX11_asks_81 : decode cX11_asks 81 = .ok (.invokevirtual 275, 3) := by decide +kernel
theorem dX11_asks_84 : decode cX11_asks 84 = .ok (.aload_n 0, 1) := by decide +kernel
theorem dX11_asks_85 : decode cX11_asks 85 = .ok (.aload_n 0, 1) := by decide +kernel
theorem dX11_asks_86 : decode cX11_asks 86 = .ok (.getfield 59, 3) := by decide +kernel
theorem dX11_asks_89 : decode cX11_asks 89 = .ok (.invokevirtual 469, 3) := by decide +kernel
theorem dX11_asks_92 : decode cX11_asks 92 = .ok (.ifCond .eq 7, 3) := by decide +kernel
theorem dX11_asks_95 : decode cX11_asks 95 = .ok (.iconst 0, 1) := by decide +kernel
theorem dX11_asks_96 : decode cX11_asks 96 = .ok (.goto 4, 3) := by decide +kernel
theorem dX11_asks_99 : decode cX11_asks 99 = .ok (.iconst 2, 1) := by decide +kernel
theorem dX11_asks_100 : decode cX11_asks 100 = .ok (.invokevirtual 71, 3) := by decide +kernel
theorem dX11_asks_103 : decode cX11_asks 103 = .ok (.ireturn, 1) := by decide +kernel
theorem dX11_askOf_0 : decode cX11_askOf 0 = .ok (.aload_n 0, 1) := by decide +kernel
theorem dX11_askOf_1 : decode cX11_askOf 1 = .ok (.getfield 59, 3) := by decide +kernel
theorem dX11_askOf_4 : decode cX11_askOf 4 = .ok (.aload_n 1, 1) := by decide +kernel
theorem dX11_askOf_5 : decode cX11_askOf 5 = .ok (.putfield 179, 3) := by decide +kernel
theorem dX11_askOf_8 : decode cX11_askOf 8 = .ok (.aload_n 0, 1) := by decide +kernel
theorem dX11_askOf_9 : decode cX11_askOf 9 = .ok (.getfield 59, 3) := by decide +kernel
theorem dX11_askOf_12 : decode cX11_askOf 12 = .ok (.aload_n 0, 1) := by decide +kernel
theorem dX11_askOf_13 : decode cX11_askOf 13 = .ok (.aload_n 1, 1) := by decide +kernel
theorem dX11_askOf_14 : decode cX11_askOf 14 = .ok (.invokevirtual 337, 3) := by decide +kernel
theorem dX11_askOf_17 : decode cX11_askOf 17 = .ok (.putfield 473, 3) := by decide +kernel
theorem dX11_askOf_20 : decode cX11_askOf 20 = .ok (.aload_n 0, 1) := by decide +kernel
theorem dX11_askOf_21 : decode cX11_askOf 21 = .ok (.getfield 59, 3) := by decide +kernel
theorem dX11_askOf_24 : decode cX11_askOf 24 = .ok (.aload_n 0, 1) := by decide +kernel
theorem dX11_askOf_25 : decode cX11_askOf 25 = .ok (.aload_n 0, 1) := by decide +kernel
theorem dX11_askOf_26 : decode cX11_askOf 26 = .ok (.getfield 59, 3) := by decide +kernel
theorem dX11_askOf_29 : decode cX11_askOf 29 = .ok (.getfield 476, 3) := by decide +kernel
theorem dX11_askOf_32 : decode cX11_askOf 32 = .ok (.invokevirtual 107, 3) := by decide +kernel
theorem dX11_askOf_35 : decode cX11_askOf 35 = .ok (.ifCond .eq 21, 3) := by decide +kernel
theorem dX11_askOf_38 : decode cX11_askOf 38 = .ok (.aload_n 0, 1) := by decide +kernel
theorem dX11_askOf_39 : decode cX11_askOf 39 = .ok (.getfield 52, 3) := by decide +kernel
theorem dX11_askOf_42 : decode cX11_askOf 42 = .ok (.getfield 110, 3) := by decide +kernel
theorem dX11_askOf_45 : decode cX11_askOf 45 = .ok (.aload_n 0, 1) := by decide +kernel
theorem dX11_askOf_46 : decode cX11_askOf 46 = .ok (.getfield 59, 3) := by decide +kernel
theorem dX11_askOf_49 : decode cX11_askOf 49 = .ok (.getfield 476, 3) := by decide +kernel
theorem dX11_askOf_52 : decode cX11_askOf 52 = .ok (.aaload, 1) := by decide +kernel
theorem dX11_askOf_53 : decode cX11_askOf 53 = .ok (.goto 10, 3) := by decide +kernel
theorem dX11_askOf_56 : decode cX11_askOf 56 = .ok (.aload_n 0, 1) := by decide +kernel
theorem dX11_askOf_57 : decode cX11_askOf 57 = .ok (.getfield 59, 3) := by decide +kernel
theorem dX11_askOf_60 : decode cX11_askOf 60 = .ok (.getfield 473, 3) := by decide +kernel
theorem dX11_askOf_63 : decode cX11_askOf 63 = .ok (.putfield 479, 3) := by decide +kernel
theorem dX11_askOf_66 : decode cX11_askOf 66 = .ok (.return_, 1) := by decide +kernel
theorem dX11_senseOf_0 : decode cX11_senseOf 0 = .ok (.aload_n 0, 1) := by decide +kernel
theorem dX11_senseOf_1 : decode cX11_senseOf 1 = .ok (.aload_n 1, 1) := by decide +kernel
theorem dX11_senseOf_2 : decode cX11_senseOf 2 = .ok (.getfield 136, 3) := by decide +kernel
theorem dX11_senseOf_5 : decode cX11_senseOf 5 = .ok (.invokevirtual 107, 3) := by decide +kernel
theorem dX11_senseOf_8 : decode cX11_senseOf 8 = .ok (.ifCond .eq 18, 3) := by decide +kernel
theorem dX11_senseOf_11 : decode cX11_senseOf 11 = .ok (.aload_n 0, 1) := by decide +kernel
theorem dX11_senseOf_12 : decode cX11_senseOf 12 = .ok (.getfield 52, 3) := by decide +kernel
theorem dX11_senseOf_15 : decode cX11_senseOf 15 = .ok (.getfield 110, 3) := by decide +kernel
theorem dX11_senseOf_18 : decode cX11_senseOf 18 = .ok (.aload_n 1, 1) := by decide +kernel
theorem dX11_senseOf_19 : decode cX11_senseOf 19 = .ok (.getfield 136, 3) := by decide +kernel
theorem dX11_senseOf_22 : decode cX11_senseOf 22 = .ok (.aaload, 1) := by decide +kernel
theorem dX11_senseOf_23 : decode cX11_senseOf 23 = .ok (.goto 12, 3) := by decide +kernel
theorem dX11_senseOf_26 : decode cX11_senseOf 26 = .ok (.aload_n 0, 1) := by decide +kernel
theorem dX11_senseOf_27 : decode cX11_senseOf 27 = .ok (.getfield 52, 3) := by decide +kernel
theorem dX11_senseOf_30 : decode cX11_senseOf 30 = .ok (.getfield 110, 3) := by decide +kernel
theorem dX11_senseOf_33 : decode cX11_senseOf 33 = .ok (.iconst 0, 1) := by decide +kernel
theorem dX11_senseOf_34 : decode cX11_senseOf 34 = .ok (.aaload, 1) := by decide +kernel
theorem dX11_senseOf_35 : decode cX11_senseOf 35 = .ok (.areturn, 1) := by decide +kernel
theorem dX11_leftOut_0 : decode cX11_leftOut 0 = .ok (.aload_n 1, 1) := by decide +kernel
theorem dX11_leftOut_1 : decode cX11_leftOut 1 = .ok (.aload_n 0, 1) := by decide +kernel
theorem dX11_leftOut_2 : decode cX11_leftOut 2 = .ok (.aload_n 1, 1) := by decide +kernel
theorem dX11_leftOut_3 : decode cX11_leftOut 3 = .ok (.invokevirtual 337, 3) := by decide +kernel
theorem dX11_leftOut_6 : decode cX11_leftOut 6 = .ok (.getfield 482, 3) := by decide +kernel
theorem dX11_leftOut_9 : decode cX11_leftOut 9 = .ok (.iconst 1, 1) := by decide +kernel
theorem dX11_leftOut_10 : decode cX11_leftOut 10 = .ok (.isub, 1) := by decide +kernel
theorem dX11_leftOut_11 : decode cX11_leftOut 11 = .ok (.invokevirtual 485, 3) := by decide +kernel
theorem dX11_leftOut_14 : decode cX11_leftOut 14 = .ok (.ireturn, 1) := by decide +kernel
theorem dX11_noiseOf_0 : decode cX11_noiseOf 0 = .ok (.aload_n 0, 1) := by decide +kernel
theorem dX11_noiseOf_1 : decode cX11_noiseOf 1 = .ok (.aload_n 1, 1) := by decide +kernel
theorem dX11_noiseOf_2 : decode cX11_noiseOf 2 = .ok (.invokevirtual 337, 3) := by decide +kernel
theorem dX11_noiseOf_5 : decode cX11_noiseOf 5 = .ok (.aload_n 0, 1) := by decide +kernel
theorem dX11_noiseOf_6 : decode cX11_noiseOf 6 = .ok (.aload_n 1, 1) := by decide +kernel
theorem dX11_noiseOf_7 : decode cX11_noiseOf 7 = .ok (.invokevirtual 151, 3) := by decide +kernel
theorem dX11_noiseOf_10 : decode cX11_noiseOf 10 = .ok (.invokevirtual 488, 3) := by decide +kernel
theorem dX11_noiseOf_13 : decode cX11_noiseOf 13 = .ok (.areturn, 1) := by decide +kernel
theorem dX12_init_0 : decode cX12_init 0 = .ok (.aload_n 0, 1) := by decide +kernel
theorem dX12_init_1 : decode cX12_init 1 = .ok (.invokespecial 1, 3) := by decide +kernel
theorem dX12_init_4 : decode cX12_init 4 = .ok (.aload_n 0, 1) := by decide +kernel
theorem dX12_init_5 : decode cX12_init 5 = .ok (.sipush 700, 3) := by decide +kernel
theorem dX12_init_8 : decode cX12_init 8 = .ok (.newarray .int, 2) := by decide +kernel
theorem dX12_init_10 : decode cX12_init 10 = .ok (.putfield 7, 3) := by decide +kernel
theorem dX12_init_13 : decode cX12_init 13 = .ok (.aload_n 0, 1) := by decide +kernel
theorem dX12_init_14 : decode cX12_init 14 = .ok (.iconst (-1), 1) := by decide +kernel
theorem dX12_init_15 : decode cX12_init 15 = .ok (.putfield 13, 3) := by decide +kernel
theorem dX12_init_18 : decode cX12_init 18 = .ok (.aload_n 0, 1) := by decide +kernel
theorem dX12_init_19 : decode cX12_init 19 = .ok (.bipush 8, 2) := by decide +kernel
theorem dX12_init_21 : decode cX12_init 21 = .ok (.newarray .int, 2) := by decide +kernel
theorem dX12_init_23 : decode cX12_init 23 = .ok (.putfield 17, 3) := by decide +kernel
theorem dX12_init_26 : decode cX12_init 26 = .ok (.aload_n 0, 1) := by decide +kernel
theorem dX12_init_27 : decode cX12_init 27 = .ok (.sipush 463, 3) := by decide +kernel
theorem dX12_init_30 : decode cX12_init 30 = .ok (.newarray .int, 2) := by decide +kernel
theorem dX12_init_32 : decode cX12_init 32 = .ok (.putfield 20, 3) := by decide +kernel
theorem dX12_init_35 : decode cX12_init 35 = .ok (.aload_n 0, 1) := by decide +kernel
theorem dX12_init_36 : decode cX12_init 36 = .ok (.sipush 463, 3) := by decide +kernel
theorem dX12_init_39 : decode cX12_init 39 = .ok (.newarray .int, 2) := by decide +kernel
theorem dX12_init_41 : decode cX12_init 41 = .ok (.putfield 23, 3) := by decide +kernel
theorem dX12_init_44 : decode cX12_init 44 = .ok (.aload_n 0, 1) := by decide +kernel
theorem dX12_init_45 : decode cX12_init 45 = .ok (.sipush 2406, 3) := by decide +kernel
theorem dX12_init_48 : decode cX12_init 48 = .ok (.newarray .int, 2) := by decide +kernel
theorem dX12_init_50 : decode cX12_init 50 = .ok (.putfield 26, 3) := by decide +kernel
theorem dX12_init_53 : decode cX12_init 53 = .ok (.aload_n 0, 1) := by decide +kernel
theorem dX12_init_54 : decode cX12_init 54 = .ok (.bipush 6, 2) := by decide +kernel
theorem dX12_init_56 : decode cX12_init 56 = .ok (.newarray .int, 2) := by decide +kernel
theorem dX12_init_58 : decode cX12_init 58 = .ok (.putfield 29, 3) := by decide +kernel
theorem dX12_init_61 : decode cX12_init 61 = .ok (.aload_n 0, 1) := by decide +kernel
theorem dX12_init_62 : decode cX12_init 62 = .ok (.bipush 6, 2) := by decide +kernel
theorem dX12_init_64 : decode cX12_init 64 = .ok (.newarray .int, 2) := by decide +kernel
theorem dX12_init_66 : decode cX12_init 66 = .ok (.putfield 32, 3) := by decide +kernel
theorem dX12_init_69 : decode cX12_init 69 = .ok (.aload_n 0, 1) := by decide +kernel
theorem dX12_init_70 : decode cX12_init 70 = .ok (.sipush 1000, 3) := by decide +kernel
theorem dX12_init_73 : decode cX12_init 73 = .ok (.newarray .int, 2) := by decide +kernel
theorem dX12_init_75 : decode cX12_init 75 = .ok (.putfield 35, 3) := by decide +kernel
theorem dX12_init_78 : decode cX12_init 78 = .ok (.aload_n 0, 1) := by decide +kernel
theorem dX12_init_79 : decode cX12_init 79 = .ok (.sipush 1000, 3) := by decide +kernel
theorem dX12_init_82 : decode cX12_init 82 = .ok (.newarray .int, 2) := by decide +kernel
theorem dX12_init_84 : decode cX12_init 84 = .ok (.putfield 38, 3) := by decide +kernel
theorem dX12_init_87 : decode cX12_init 87 = .ok (.aload_n 0, 1) := by decide +kernel
theorem dX12_init_88 : decode cX12_init 88 = .ok (.sipush 1000, 3) := by decide +kernel
theorem dX12_init_91 : decode cX12_init 91 = .ok (.newarray .int, 2) := by decide +kernel
theorem dX12_init_93 : decode cX12_init 93 = .ok (.putfield 41, 3) := by decide +kernel
theorem dX12_init_96 : decode cX12_init 96 = .ok (.aload_n 0, 1) := by decide +kernel
theorem dX12_init_97 : decode cX12_init 97 = .ok (.sipush 1000, 3) := by decide +kernel
theorem dX12_init_100 : decode cX12_init 100 = .ok (.newarray .int, 2) := by decide +kernel
theorem dX12_init_102 : decode cX12_init 102 = .ok (.putfield 44, 3) := by decide +kernel
theorem dX12_init_105 : decode cX12_init 105 = .ok (.aload_n 0, 1) := by decide +kernel
theorem dX12_init_106 : decode cX12_init 106 = .ok (.sipush 1000, 3) := by decide +kernel
theorem dX12_init_109 : decode cX12_init 109 = .ok (.newarray .int, 2) := by decide +kernel
theorem dX12_init_111 : decode cX12_init 111 = .ok (.putfield 47, 3) := by decide +kernel
theorem dX12_init_114 : decode cX12_init 114 = .ok (.aload_n 0, 1) := by decide +kernel
theorem dX12_init_115 : decode cX12_init 115 = .ok (.sipush 1000, 3) := by decide +kernel
theorem dX12_init_118 : decode cX12_init 118 = .ok (.newarray .int, 2) := by decide +kernel
theorem dX12_init_120 : decode cX12_init 120 = .ok (.putfield 50, 3) := by decide +kernel
theorem dX12_init_123 : decode cX12_init 123 = .ok (.aload_n 0, 1) := by decide +kernel
theorem dX12_init_124 : decode cX12_init 124 = .ok (.sipush 200, 3) := by decide +kernel
theorem dX12_init_127 : decode cX12_init 127 = .ok (.newarray .int, 2) := by decide +kernel
theorem dX12_init_129 : decode cX12_init 129 = .ok (.putfield 53, 3) := by decide +kernel
theorem dX12_init_132 : decode cX12_init 132 = .ok (.aload_n 0, 1) := by decide +kernel
theorem dX12_init_133 : decode cX12_init 133 = .ok (.bipush 24, 2) := by decide +kernel
theorem dX12_init_135 : decode cX12_init 135 = .ok (.newarray .int, 2) := by decide +kernel
theorem dX12_init_137 : decode cX12_init 137 = .ok (.putfield 56, 3) := by decide +kernel
theorem dX12_init_140 : decode cX12_init 140 = .ok (.aload_n 0, 1) := by decide +kernel
theorem dX12_init_141 : decode cX12_init 141 = .ok (.bipush 24, 2) := by decide +kernel
theorem dX12_init_143 : decode cX12_init 143 = .ok (.newarray .int, 2) := by decide +kernel
theorem dX12_init_145 : decode cX12_init 145 = .ok (.putfield 59, 3) := by decide +kernel
theorem dX12_init_148 : decode cX12_init 148 = .ok (.aload_n 0, 1) := by decide +kernel
theorem dX12_init_149 : decode cX12_init 149 = .ok (.bipush 24, 2) := by decide +kernel
theorem dX12_init_151 : decode cX12_init 151 = .ok (.newarray .int, 2) := by decide +kernel
theorem dX12_init_153 : decode cX12_init 153 = .ok (.putfield 62, 3) := by decide +kernel
theorem dX12_init_156 : decode cX12_init 156 = .ok (.aload_n 0, 1) := by decide +kernel
theorem dX12_init_157 : decode cX12_init 157 = .ok (.bipush 24, 2) := by decide +kernel
theorem dX12_init_159 : decode cX12_init 159 = .ok (.newarray .int, 2) := by decide +kernel
theorem dX12_init_161 : decode cX12_init 161 = .ok (.putfield 65, 3) := by decide +kernel
theorem dX12_init_164 : decode cX12_init 164 = .ok (.aload_n 0, 1) := by decide +kernel
theorem dX12_init_165 : decode cX12_init 165 = .ok (.bipush 24, 2) := by decide +kernel
theorem dX12_init_167 : decode cX12_init 167 = .ok (.newarray .int, 2) := by decide +kernel
theorem dX12_init_169 : decode cX12_init 169 = .ok (.putfield 68, 3) := by decide +kernel
theorem dX12_init_172 : decode cX12_init 172 = .ok (.aload_n 0, 1) := by decide +kernel
theorem dX12_init_173 : decode cX12_init 173 = .ok (.sipush 1000, 3) := by decide +kernel
theorem dX12_init_176 : decode cX12_init 176 = .ok (.newarray .int, 2) := by decide +kernel
theorem dX12_init_178 : decode cX12_init 178 = .ok (.putfield 71, 3) := by decide +kernel
theorem dX12_init_181 : decode cX12_init 181 = .ok (.aload_n 0, 1) := by decide +kernel
theorem dX12_init_182 : decode cX12_init 182 = .ok (.sipush 1000, 3) := by decide +kernel
theorem dX12_init_185 : decode cX12_init 185 = .ok (.newarray .int, 2) := by decide +kernel
theorem dX12_init_187 : decode cX12_init 187 = .ok (.putfield 74, 3) := by decide +kernel
theorem dX12_init_190 : decode cX12_init 190 = .ok (.aload_n 0, 1) := by decide +kernel
theorem dX12_init_191 : decode cX12_init 191 = .ok (.sipush 1000, 3) := by decide +kernel
theorem dX12_init_194 : decode cX12_init 194 = .ok (.newarray .int, 2) := by decide +kernel
theorem dX12_init_196 : decode cX12_init 196 = .ok (.putfield 77, 3) := by decide +kernel
theorem dX12_init_199 : decode cX12_init 199 = .ok (.aload_n 0, 1) := by decide +kernel
theorem dX12_init_200 : decode cX12_init 200 = .ok (.sipush 1000, 3) := by decide +kernel
theorem dX12_init_203 : decode cX12_init 203 = .ok (.newarray .int, 2) := by decide +kernel
theorem dX12_init_205 : decode cX12_init 205 = .ok (.putfield 80, 3) := by decide +kernel
theorem dX12_init_208 : decode cX12_init 208 = .ok (.aload_n 0, 1) := by decide +kernel
theorem dX12_init_209 : decode cX12_init 209 = .ok (.sipush 3000, 3) := by decide +kernel
theorem dX12_init_212 : decode cX12_init 212 = .ok (.newarray .int, 2) := by decide +kernel
theorem dX12_init_214 : decode cX12_init 214 = .ok (.putfield 83, 3) := by decide +kernel
theorem dX12_init_217 : decode cX12_init 217 = .ok (.aload_n 0, 1) := by decide +kernel
theorem dX12_init_218 : decode cX12_init 218 = .ok (.iconst 3, 1) := by decide +kernel
theorem dX12_init_219 : decode cX12_init 219 = .ok (.newarray .int, 2) := by decide +kernel
theorem dX12_init_221 : decode cX12_init 221 = .ok (.putfield 86, 3) := by decide +kernel
theorem dX12_init_224 : decode cX12_init 224 = .ok (.aload_n 0, 1) := by decide +kernel
theorem dX12_init_225 : decode cX12_init 225 = .ok (.bipush 126, 2) := by decide +kernel
theorem dX12_init_227 : decode cX12_init 227 = .ok (.newarray .boolean, 2) := by decide +kernel
theorem dX12_init_229 : decode cX12_init 229 = .ok (.putfield 89, 3) := by decide +kernel
theorem dX12_init_232 : decode cX12_init 232 = .ok (.aload_n 0, 1) := by decide +kernel
theorem dX12_init_233 : decode cX12_init 233 = .ok (.bipush 66, 2) := by decide +kernel
theorem dX12_init_235 : decode cX12_init 235 = .ok (.newarray .boolean, 2) := by decide +kernel
theorem dX12_init_237 : decode cX12_init 237 = .ok (.putfield 93, 3) := by decide +kernel
theorem dX12_init_240 : decode cX12_init 240 = .ok (.aload_n 0, 1) := by decide +kernel
theorem dX12_init_241 : decode cX12_init 241 = .ok (.sipush 401, 3) := by decide +kernel
theorem dX12_init_244 : decode cX12_init 244 = .ok (.newarray .long, 2) := by decide +kernel
theorem dX12_init_246 : decode cX12_init 246 = .ok (.putfield 96, 3) := by decide +kernel
theorem dX12_init_249 : decode cX12_init 249 = .ok (.aload_n 0, 1) := by decide +kernel
theorem dX12_init_250 : decode cX12_init 250 = .ok (.sipush 401, 3) := by decide +kernel
theorem dX12_init_253 : decode cX12_init 253 = .ok (.newarray .long, 2) := by decide +kernel
theorem dX12_init_255 : decode cX12_init 255 = .ok (.putfield 100, 3) := by decide +kernel
theorem dX12_init_258 : decode cX12_init 258 = .ok (.return_, 1) := by decide +kernel
theorem dX12_thrown_0 : decode cX12_thrown 0 = .ok (.aload_n 0, 1) := by decide +kernel
theorem dX12_thrown_1 : decode cX12_thrown 1 = .ok (.getfield 103, 3) := by decide +kernel
theorem dX12_thrown_4 : decode cX12_thrown 4 = .ok (.ireturn, 1) := by decide +kernel
theorem dX12_good_0 : decode cX12_good 0 = .ok (.aload_n 0, 1) := by decide +kernel
theorem dX12_good_1 : decode cX12_good 1 = .ok (.iconst 0, 1) := by decide +kernel
theorem dX12_good_2 : decode cX12_good 2 = .ok (.putfield 103, 3) := by decide +kernel
theorem dX12_good_5 : decode cX12_good 5 = .ok (.aload_n 0, 1) := by decide +kernel
theorem dX12_good_6 : decode cX12_good 6 = .ok (.iconst 0, 1) := by decide +kernel
theorem dX12_good_7 : decode cX12_good 7 = .ok (.putfield 106, 3) := by decide +kernel
theorem dX12_good_10 : decode cX12_good 10 = .ok (.return_, 1) := by decide +kernel
theorem dX12_no_0 : decode cX12_no 0 = .ok (.aload_n 0, 1) := by decide +kernel
theorem dX12_no_1 : decode cX12_no 1 = .ok (.iload_n 1, 1) := by decide +kernel
theorem dX12_no_2 : decode cX12_no 2 = .ok (.putfield 106, 3) := by decide +kernel
theorem dX12_no_5 : decode cX12_no 5 = .ok (.iconst (-1), 1) := by decide +kernel
theorem dX12_no_6 : decode cX12_no 6 = .ok (.ireturn, 1) := by decide +kernel
theorem dX12_not_0 : decode cX12_not 0 = .ok (.aload_n 0, 1) := by decide +kernel
theorem dX12_not_1 : decode cX12_not 1 = .ok (.iload_n 1, 1) := by decide +kernel
theorem dX12_not_2 : decode cX12_not 2 = .ok (.putfield 106, 3) := by decide +kernel
theorem dX12_not_5 : decode cX12_not 5 = .ok (.sipush (-1000), 3) := by decide +kernel
theorem dX12_not_8 : decode cX12_not 8 = .ok (.ireturn, 1) := by decide +kernel
theorem dX12_none_0 : decode cX12_none 0 = .ok (.aload_n 0, 1) := by decide +kernel
theorem dX12_none_1 : decode cX12_none 1 = .ok (.iload_n 1, 1) := by decide +kernel
theorem dX12_none_2 : decode cX12_none 2 = .ok (.putfield 106, 3) := by decide +kernel
theorem dX12_none_5 : decode cX12_none 5 = .ok (.ldc2_w 109, 3) := by decide +kernel
theorem dX12_none_8 : decode cX12_none 8 = .ok (.lreturn, 1) := by decide +kernel
theorem dX12_isNot_0 : decode cX12_isNot 0 = .ok (.aload_n 0, 1) := by decide +kernel
theorem dX12_isNot_1 : decode cX12_isNot 1 = .ok (.iload_n 1, 1) := by decide +kernel
theorem dX12_isNot_2 : decode cX12_isNot 2 = .ok (.putfield 106, 3) := by decide +kernel
theorem dX12_isNot_5 : decode cX12_isNot 5 = .ok (.iconst 0, 1) := by decide +kernel
theorem dX12_isNot_6 : decode cX12_isNot 6 = .ok (.ireturn, 1) := by decide +kernel
theorem dX12_within_0 : decode cX12_within 0 = .ok (.iload_n 0, 1) := by decide +kernel
theorem dX12_within_1 : decode cX12_within 1 = .ok (.iload_n 1, 1) := by decide +kernel
theorem dX12_within_2 : decode cX12_within 2 = .ok (.if_icmp .lt 12, 3) := by decide +kernel
theorem dX12_within_5 : decode cX12_within 5 = .ok (.iload_n 0, 1) := by decide +kernel
theorem dX12_within_6 : decode cX12_within 6 = .ok (.iload_n 2, 1) := by decide +kernel
theorem dX12_within_7 : decode cX12_within 7 = .ok (.if_icmp .gt 7, 3) := by decide +kernel
theorem dX12_within_10 : decode cX12_within 10 = .ok (.iconst 1, 1) := by decide +kernel
theorem dX12_within_11 : decode cX12_within 11 = .ok (.goto 4, 3) := by decide +kernel
theorem dX12_within_14 : decode cX12_within 14 = .ok (.iconst 0, 1) := by decide +kernel
theorem dX12_within_15 : decode cX12_within 15 = .ok (.ireturn, 1) := by decide +kernel
theorem dX12_feed_0 : decode cX12_feed 0 = .ok (.aload_n 0, 1) := by decide +kernel
theorem dX12_feed_1 : decode cX12_feed 1 = .ok (.iconst 0, 1) := by decide +kernel
theorem dX12_feed_2 : decode cX12_feed 2 = .ok (.putfield 103, 3) := by decide +kernel
theorem dX12_feed_5 : decode cX12_feed 5 = .ok (.aload_n 0, 1) := by decide +kernel
theorem dX12_feed_6 : decode cX12_feed 6 = .ok (.getfield 111, 3) := by decide +kernel
theorem dX12_feed_9 : decode cX12_feed 9 = .ok (.bipush 20, 2) := by decide +kernel
theorem dX12_feed_11 : decode cX12_feed 11 = .ok (.iadd, 1) := by decide +kernel
theorem dX12_feed_12 : decode cX12_feed 12 = .ok (.sipush 700, 3) := by decide +kernel
theorem dX12_feed_15 : decode cX12_feed 15 = .ok (.if_icmp .le 5, 3) := by decide +kernel
theorem dX12_feed_18 : decode cX12_feed 18 = .ok (.iconst (-1), 1) := by decide +kernel
theorem dX12_feed_19 : decode cX12_feed 19 = .ok (.ireturn, 1) := by decide +kernel
theorem dX12_feed_20 : decode cX12_feed 20 = .ok (.iconst 0, 1) := by decide +kernel
theorem dX12_feed_21 : decode cX12_feed 21 = .ok (.istore 6, 2) := by decide +kernel
theorem dX12_feed_23 : decode cX12_feed 23 = .ok (.iload 6, 2) := by decide +kernel
theorem dX12_feed_25 : decode cX12_feed 25 = .ok (.bipush 20, 2) := by decide +kernel
theorem dX12_feed_27 : decode cX12_feed 27 = .ok (.if_icmp .ge 93, 3) := by decide +kernel
theorem dX12_feed_30 : decode cX12_feed 30 = .ok (.iload 6, 2) := by decide +kernel
theorem dX12_feed_32 : decode cX12_feed 32 = .ok (.iconst 4, 1) := by decide +kernel
theorem dX12_feed_33 : decode cX12_feed 33 = .ok (.if_icmp .ge 7, 3) := by decide +kernel
theorem dX12_feed_36 : decode cX12_feed 36 = .ok (.iload_n 1, 1) := by decide +kernel
theorem dX12_feed_37 : decode cX12_feed 37 = .ok (.goto 39, 3) := by decide +kernel
theorem dX12_feed_40 : decode cX12_feed 40 = .ok (.iload 6, 2) := by decide +kernel
theorem dX12_feed_42 : decode cX12_feed 42 = .ok (.bipush 8, 2) := by decide +kernel
theorem dX12_feed_44 : decode cX12_feed 44 = .ok (.if_icmp .ge 7, 3) := by decide +kernel
theorem dX12_feed_47 : decode cX12_feed 47 = .ok (.iload_n 2, 1) := by decide +kernel
theorem dX12_feed_48 : decode cX12_feed 48 = .ok (.goto 28, 3) := by decide +kernel
theorem dX12_feed_51 : decode cX12_feed 51 = .ok (.iload 6, 2) := by decide +kernel
theorem dX12_feed_53 : decode cX12_feed 53 = .ok (.bipush 12, 2) := by decide +kernel
theorem dX12_feed_55 : decode cX12_feed 55 = .ok (.if_icmp .ge 7, 3) := by decide +kernel
theorem dX12_feed_58 : decode cX12_feed 58 = .ok (.iload_n 3, 1) := by decide +kernel
theorem dX12_feed_59 : decode cX12_feed 59 = .ok (.goto 17, 3) := by decide +kernel
theorem dX12_feed_62 : decode cX12_feed 62 = .ok (.iload 6, 2) := by decide +kernel
theorem dX12_feed_64 : decode cX12_feed 64 = .ok (.bipush 16, 2) := by decide +kernel
theorem dX12_feed_66 : decode cX12_feed 66 = .ok (.if_icmp .ge 8, 3) := by decide +kernel
theorem dX12_feed_69 : decode cX12_feed 69 = .ok (.iload 4, 2) := by decide +kernel
theorem dX12_feed_71 : decode cX12_feed 71 = .ok (.goto 5, 3) := by decide +kernel
theorem dX12_feed_74 : decode cX12_feed 74 = .ok (.iload 5, 2) := by decide +kernel
theorem dX12_feed_76 : decode cX12_feed 76 = .ok (.istore 7, 2) := by decide +kernel
theorem dX12_feed_78 : decode cX12_feed 78 = .ok (.aload_n 0, 1) := by decide +kernel
theorem dX12_feed_79 : decode cX12_feed 79 = .ok (.getfield 7, 3) := by decide +kernel
theorem dX12_feed_82 : decode cX12_feed 82 = .ok (.aload_n 0, 1) := by decide +kernel
theorem dX12_feed_83 : decode cX12_feed 83 = .ok (.getfield 111, 3) := by decide +kernel
theorem dX12_feed_86 : decode cX12_feed 86 = .ok (.iload 7, 2) := by decide +kernel
theorem dX12_feed_88 : decode cX12_feed 88 = .ok (.bipush 24, 2) := by decide +kernel
theorem dX12_feed_90 : decode cX12_feed 90 = .ok (.bipush 8, 2) := by decide +kernel
theorem dX12_feed_92 : decode cX12_feed 92 = .ok (.iload 6, 2) := by decide +kernel
theorem dX12_feed_94 : decode cX12_feed 94 = .ok (.iconst 4, 1) := by decide +kernel
theorem dX12_feed_95 : decode cX12_feed 95 = .ok (.irem, 1) := by decide +kernel
theorem dX12_feed_96 : decode cX12_feed 96 = .ok (.imul, 1) := by decide +kernel
theorem dX12_feed_97 : decode cX12_feed 97 = .ok (.isub, 1) := by decide +kernel
theorem dX12_feed_98 : decode cX12_feed 98 = .ok (.ishr, 1) := by decide +kernel
theorem dX12_feed_99 : decode cX12_feed 99 = .ok (.sipush 255, 3) := by decide +kernel
theorem dX12_feed_102 : decode cX12_feed 102 = .ok (.iand, 1) := by decide +kernel
theorem dX12_feed_103 : decode cX12_feed 103 = .ok (.iastore, 1) := by decide +kernel
theorem dX12_feed_104 : decode cX12_feed 104 = .ok (.aload_n 0, 1) := by decide +kernel
theorem dX12_feed_105 : decode cX12_feed 105 = .ok (.dup, 1) := by decide +kernel
theorem dX12_feed_106 : decode cX12_feed 106 = .ok (.getfield 111, 3) := by decide +kernel
theorem dX12_feed_109 : decode cX12_feed 109 = .ok (.iconst 1, 1) := by decide +kernel
theorem dX12_feed_110 : decode cX12_feed 110 = .ok (.iadd, 1) := by decide +kernel
theorem dX12_feed_111 : decode cX12_feed 111 = .ok (.putfield 111, 3) := by decide +kernel
theorem dX12_feed_114 : decode cX12_feed 114 = .ok (.iinc 6 1, 3) := by decide +kernel
theorem dX12_feed_117 : decode cX12_feed 117 = .ok (.goto (-94), 3) := by decide +kernel
theorem dX12_feed_120 : decode cX12_feed 120 = .ok (.aload_n 0, 1) := by decide +kernel
theorem dX12_feed_121 : decode cX12_feed 121 = .ok (.getfield 111, 3) := by decide +kernel
theorem dX12_feed_124 : decode cX12_feed 124 = .ok (.ireturn, 1) := by decide +kernel
theorem dX12_look_0 : decode cX12_look 0 = .ok (.iload_n 1, 1) := by decide +kernel
theorem dX12_look_1 : decode cX12_look 1 = .ok (.aload_n 0, 1) := by decide +kernel
theorem dX12_look_2 : decode cX12_look 2 = .ok (.getfield 114, 3) := by decide +kernel
theorem dX12_look_5 : decode cX12_look 5 = .ok (.if_icmp .ge 12, 3) := by decide +kernel
theorem dX12_look_8 : decode cX12_look 8 = .ok (.aload_n 0, 1) := by decide +kernel
theorem dX12_look_9 : decode cX12_look 9 = .ok (.getfield 7, 3) := by decide +kernel
theorem dX12_look_12 : decode cX12_look 12 = .ok (.iload_n 1, 1) := by decide +kernel
theorem dX12_look_13 : decode cX12_look 13 = .ok (.iaload, 1) := by decide +kernel
theorem dX12_look_14 : decode cX12_look 14 = .ok (.goto 4, 3) := by decide +kernel
theorem dX12_look_17 : decode cX12_look 17 = .ok (.iconst (-1), 1) := by decide +kernel
theorem dX12_look_18 : decode cX12_look 18 = .ok (.ireturn, 1) := by decide +kernel
theorem dX12_isSmall_0 : decode cX12_isSmall 0 = .ok (.iload_n 0, 1) := by decide +kernel
theorem dX12_isSmall_1 : decode cX12_isSmall 1 = .ok (.bipush 97, 2) := by decide +kernel
theorem dX12_isSmall_3 : decode cX12_isSmall 3 = .ok (.if_icmp .lt 13, 3) := by decide +kernel
theorem dX12_isSmall_6 : decode cX12_isSmall 6 = .ok (.iload_n 0, 1) := by decide +kernel
theorem dX12_isSmall_7 : decode cX12_isSmall 7 = .ok (.bipush 122, 2) := by decide +kernel
theorem dX12_isSmall_9 : decode cX12_isSmall 9 = .ok (.if_icmp .gt 7, 3) := by decide +kernel
theorem dX12_isSmall_12 : decode cX12_isSmall 12 = .ok (.iconst 1, 1) := by decide +kernel
theorem dX12_isSmall_13 : decode cX12_isSmall 13 = .ok (.goto 4, 3) := by decide +kernel
theorem dX12_isSmall_16 : decode cX12_isSmall 16 = .ok (.iconst 0, 1) := by decide +kernel
theorem dX12_isSmall_17 : decode cX12_isSmall 17 = .ok (.ireturn, 1) := by decide +kernel
theorem dX12_isDigit_0 : decode cX12_isDigit 0 = .ok (.iload_n 0, 1) := by decide +kernel
theorem dX12_isDigit_1 : decode cX12_isDigit 1 = .ok (.bipush 48, 2) := by decide +kernel
theorem dX12_isDigit_3 : decode cX12_isDigit 3 = .ok (.if_icmp .lt 13, 3) := by decide +kernel
theorem dX12_isDigit_6 : decode cX12_isDigit 6 = .ok (.iload_n 0, 1) := by decide +kernel
theorem dX12_isDigit_7 : decode cX12_isDigit 7 = .ok (.bipush 57, 2) := by decide +kernel
theorem dX12_isDigit_9 : decode cX12_isDigit 9 = .ok (.if_icmp .gt 7, 3) := by decide +kernel
theorem dX12_isDigit_12 : decode cX12_isDigit 12 = .ok (.iconst 1, 1) := by decide +kernel
theorem dX12_isDigit_13 : decode cX12_isDigit 13 = .ok (.goto 4, 3) := by decide +kernel
theorem dX12_isDigit_16 : decode cX12_isDigit 16 = .ok (.iconst 0, 1) := by decide +kernel
theorem dX12_isDigit_17 : decode cX12_isDigit 17 = .ok (.ireturn, 1) := by decide +kernel
theorem dX12_next_0 : decode cX12_next 0 = .ok (.aload_n 0, 1) := by decide +kernel
theorem dX12_next_1 : decode cX12_next 1 = .ok (.getfield 117, 3) := by decide +kernel
theorem dX12_next_4 : decode cX12_next 4 = .ok (.istore_n 1, 1) := by decide +kernel
theorem dX12_next_5 : decode cX12_next 5 = .ok (.aload_n 0, 1) := by decide +kernel
theorem dX12_next_6 : decode cX12_next 6 = .ok (.iload_n 1, 1) := by decide +kernel
theorem dX12_next_7 : decode cX12_next 7 = .ok (.invokevirtual 120, 3) := by decide +kernel
theorem dX12_next_10 : decode cX12_next 10 = .ok (.bipush 32, 2) := by decide +kernel
theorem dX12_next_12 : decode cX12_next 12 = .ok (.if_icmp .ne 9, 3) := by decide +kernel
theorem dX12_next_15 : decode cX12_next 15 = .ok (.iinc 1 1, 3) := by decide +kernel
theorem dX12_next_18 : decode cX12_next 18 = .ok (.goto (-13), 3) := by decide +kernel
theorem dX12_next_21 : decode cX12_next 21 = .ok (.aload_n 0, 1) := by decide +kernel
theorem dX12_next_22 : decode cX12_next 22 = .ok (.iload_n 1, 1) := by decide +kernel
theorem dX12_next_23 : decode cX12_next 23 = .ok (.putfield 124, 3) := by decide +kernel
theorem dX12_next_26 : decode cX12_next 26 = .ok (.aload_n 0, 1) := by decide +kernel
theorem dX12_next_27 : decode cX12_next 27 = .ok (.iload_n 1, 1) := by decide +kernel
theorem dX12_next_28 : decode cX12_next 28 = .ok (.invokevirtual 120, 3) := by decide +kernel
theorem dX12_next_31 : decode cX12_next 31 = .ok (.istore_n 2, 1) := by decide +kernel
theorem dX12_next_32 : decode cX12_next 32 = .ok (.aload_n 0, 1) := by decide +kernel
theorem dX12_next_33 : decode cX12_next 33 = .ok (.iconst 0, 1) := by decide +kernel
theorem dX12_next_34 : decode cX12_next 34 = .ok (.putfield 127, 3) := by decide +kernel
theorem dX12_next_37 : decode cX12_next 37 = .ok (.aload_n 0, 1) := by decide +kernel
theorem dX12_next_38 : decode cX12_next 38 = .ok (.iconst 0, 1) := by decide +kernel
theorem dX12_next_39 : decode cX12_next 39 = .ok (.putfield 130, 3) := by decide +kernel
theorem dX12_next_42 : decode cX12_next 42 = .ok (.iload_n 2, 1) := by decide +kernel
theorem dX12_next_43 : decode cX12_next 43 = .ok (.iconst (-1), 1) := by decide +kernel
theorem dX12_next_44 : decode cX12_next 44 = .ok (.if_icmp .ne 16, 3) := by decide +kernel
theorem dX12_next_47 : decode cX12_next 47 = .ok (.aload_n 0, 1) := by decide +kernel
theorem dX12_next_48 : decode cX12_next 48 = .ok (.iconst 0, 1) := by decide +kernel
theorem dX12_next_49 : decode cX12_next 49 = .ok (.putfield 133, 3) := by decide +kernel
theorem dX12_next_52 : decode cX12_next 52 = .ok (.aload_n 0, 1) := by decide +kernel
theorem dX12_next_53 : decode cX12_next 53 = .ok (.iload_n 1, 1) := by decide +kernel
theorem dX12_next_54 : decode cX12_next 54 = .ok (.putfield 117, 3) := by decide +kernel
theorem dX12_next_57 : decode cX12_next 57 = .ok (.goto 196, 3) := by decide +kernel
theorem dX12_next_60 : decode cX12_next 60 = .ok (.iload_n 2, 1) := by decide +kernel
theorem dX12_next_61 : decode cX12_next 61 = .ok (.invokestatic 136, 3) := by decide +kernel
theorem dX12_next_64 : decode cX12_next 64 = .ok (.ifCond .eq 79, 3) := by decide +kernel
theorem dX12_next_67 : decode cX12_next 67 = .ok (.aload_n 0, 1) := by decide +kernel
theorem dX12_next_68 : decode cX12_next 68 = .ok (.iload_n 1, 1) := by decide +kernel
theorem dX12_next_69 : decode cX12_next 69 = .ok (.invokevirtual 120, 3) := by decide +kernel
theorem dX12_next_72 : decode cX12_next 72 = .ok (.invokestatic 136, 3) := by decide +kernel
theorem dX12_next_75 : decode cX12_next 75 = .ok (.ifCond .eq 42, 3) := by decide +kernel
theorem dX12_next_78 : decode cX12_next 78 = .ok (.aload_n 0, 1) := by decide +kernel
theorem dX12_next_79 : decode cX12_next 79 = .ok (.getfield 127, 3) := by decide +kernel
theorem dX12_next_82 : decode cX12_next 82 = .ok (.bipush 8, 2) := by decide +kernel
theorem dX12_next_84 : decode cX12_next 84 = .ok (.if_icmp .ge 17, 3) := by decide +kernel
theorem dX12_next_87 : decode cX12_next 87 = .ok (.aload_n 0, 1) := by decide +kernel
theorem dX12_next_88 : decode cX12_next 88 = .ok (.getfield 17, 3) := by decide +kernel
theorem dX12_next_91 : decode cX12_next 91 = .ok (.aload_n 0, 1) := by decide +kernel
theorem dX12_next_92 : decode cX12_next 92 = .ok (.getfield 127, 3) := by decide +kernel
theorem dX12_next_95 : decode cX12_next 95 = .ok (.aload_n 0, 1) := by decide +kernel
theorem dX12_next_96 : decode cX12_next 96 = .ok (.iload_n 1, 1) := by decide +kernel
theorem dX12_next_97 : decode cX12_next 97 = .ok (.invokevirtual 120, 3) := by decide +kernel
theorem dX12_next_100 : decode cX12_next 100 = .ok (.iastore, 1) := by decide +kernel
theorem dX12_next_101 : decode cX12_next 101 = .ok (.aload_n 0, 1) := by decide +kernel
theorem dX12_next_102 : decode cX12_next 102 = .ok (.dup, 1) := by decide +kernel
theorem dX12_next_103 : decode cX12_next 103 = .ok (.getfield 127, 3) := by decide +kernel
theorem dX12_next_106 : decode cX12_next 106 = .ok (.iconst 1, 1) := by decide +kernel
theorem dX12_next_107 : decode cX12_next 107 = .ok (.iadd, 1) := by decide +kernel
theorem dX12_next_108 : decode cX12_next 108 = .ok (.putfield 127, 3) := by decide +kernel
theorem dX12_next_111 : decode cX12_next 111 = .ok (.iinc 1 1, 3) := by decide +kernel
theorem dX12_next_114 : decode cX12_next 114 = .ok (.goto (-47), 3) := by decide +kernel
theorem dX12_next_117 : decode cX12_next 117 = .ok (.aload_n 0, 1) := by decide +kernel
theorem dX12_next_118 : decode cX12_next 118 = .ok (.iload_n 1, 1) := by decide +kernel
theorem dX12_next_119 : decode cX12_next 119 = .ok (.putfield 117, 3) := by decide +kernel
theorem dX12_next_122 : decode cX12_next 122 = .ok (.aload_n 0, 1) := by decide +kernel
theorem dX12_next_123 : decode cX12_next 123 = .ok (.aload_n 0, 1) := by decide +kernel
theorem dX12_next_124 : decode cX12_next 124 = .ok (.getfield 127, 3) := by decide +kernel
theorem dX12_next_127 : decode cX12_next 127 = .ok (.bipush 8, 2) := by decide +kernel
theorem dX12_next_129 : decode cX12_next 129 = .ok (.if_icmp .le 7, 3) := by decide +kernel
theorem dX12_next_132 : decode cX12_next 132 = .ok (.iconst 1, 1) := by decide +kernel
theorem dX12_next_133 : decode cX12_next 133 = .ok (.goto 4, 3) := by decide +kernel
theorem dX12_next_136 : decode cX12_next 136 = .ok (.iconst 2, 1) := by decide +kernel
theorem dX12_next_137 : decode cX12_next 137 = .ok (.putfield 133, 3) := by decide +kernel
theorem dX12_next_140 : decode cX12_next 140 = .ok (.goto 113, 3) := by decide +kernel
theorem dX12_next_143 : decode cX12_next 143 = .ok (.iload_n 2, 1) := by decide +kernel
theorem dX12_next_144 : decode cX12_next 144 = .ok (.invokestatic 140, 3) := by decide +kernel
theorem dX12_next_147 : decode cX12_next 147 = .ok (.ifCond .eq 72, 3) := by decide +kernel
theorem dX12_next_150 : decode cX12_next 150 = .ok (.iconst 0, 1) := by decide +kernel
theorem dX12_next_151 : decode cX12_next 151 = .ok (.istore_n 3, 1) := by decide +kernel
theorem dX12_next_152 : decode cX12_next 152 = .ok (.aload_n 0, 1) := by decide +kernel
theorem dX12_next_153 : decode cX12_next 153 = .ok (.iload_n 1, 1) := by decide +kernel
theorem dX12_next_154 : decode cX12_next 154 = .ok (.invokevirtual 120, 3) := by decide +kernel
theorem dX12_next_157 : decode cX12_next 157 = .ok (.invokestatic 140, 3) := by decide +kernel
theorem dX12_next_160 : decode cX12_next 160 = .ok (.ifCond .eq 37, 3) := by decide +kernel
theorem dX12_next_163 : decode cX12_next 163 = .ok (.iload_n 3, 1) := by decide +kernel
theorem dX12_next_164 : decode cX12_next 164 = .ok (.iconst 3, 1) := by decide +kernel
theorem dX12_next_165 : decode cX12_next 165 = .ok (.if_icmp .ge 23, 3) := by decide +kernel
theorem dX12_next_168 : decode cX12_next 168 = .ok (.aload_n 0, 1) := by decide +kernel
theorem dX12_next_169 : decode cX12_next 169 = .ok (.bipush 10, 2) := by decide +kernel
theorem dX12_next_171 : decode cX12_next 171 = .ok (.aload_n 0, 1) := by decide +kernel
theorem dX12_next_172 : decode cX12_next 172 = .ok (.getfield 130, 3) := by decide +kernel
theorem dX12_next_175 : decode cX12_next 175 = .ok (.imul, 1) := by decide +kernel
theorem dX12_next_176 : decode cX12_next 176 = .ok (.aload_n 0, 1) := by decide +kernel
theorem dX12_next_177 : decode cX12_next 177 = .ok (.iload_n 1, 1) := by decide +kernel
theorem dX12_next_178 : decode cX12_next 178 = .ok (.invokevirtual 120, 3) := by decide +kernel
theorem dX12_next_181 : decode cX12_next 181 = .ok (.iadd, 1) := by decide +kernel
theorem dX12_next_182 : decode cX12_next 182 = .ok (.bipush 48, 2) := by decide +kernel
theorem dX12_next_184 : decode cX12_next 184 = .ok (.isub, 1) := by decide +kernel
theorem dX12_next_185 : decode cX12_next 185 = .ok (.putfield 130, 3) := by decide +kernel
theorem dX12_next_188 : decode cX12_next 188 = .ok (.iinc 3 1, 3) := by decide +kernel
theorem dX12_next_191 : decode cX12_next 191 = .ok (.iinc 1 1, 3) := by decide +kernel
theorem dX12_next_194 : decode cX12_next 194 = .ok (.goto (-42), 3) := by decide +kernel
theorem dX12_next_197 : decode cX12_next 197 = .ok (.aload_n 0, 1) := by decide +kernel
theorem dX12_next_198 : decode cX12_next 198 = .ok (.iload_n 1, 1) := by decide +kernel
theorem dX12_next_199 : decode cX12_next 199 = .ok (.putfield 117, 3) := by decide +kernel
theorem dX12_next_202 : decode cX12_next 202 = .ok (.aload_n 0, 1) := by decide +kernel
theorem dX12_next_203 : decode cX12_next 203 = .ok (.iload_n 3, 1) := by decide +kernel
theorem dX12_next_204 : decode cX12_next 204 = .ok (.iconst 3, 1) := by decide +kernel
theorem dX12_next_205 : decode cX12_next 205 = .ok (.if_icmp .le 7, 3) := by decide +kernel
theorem dX12_next_208 : decode cX12_next 208 = .ok (.iconst 1, 1) := by decide +kernel
theorem dX12_next_209 : decode cX12_next 209 = .ok (.goto 4, 3) := by decide +kernel
theorem dX12_next_212 : decode cX12_next 212 = .ok (.iconst 3, 1) := by decide +kernel
theorem dX12_next_213 : decode cX12_next 213 = .ok (.putfield 133, 3) := by decide +kernel
theorem dX12_next_216 : decode cX12_next 216 = .ok (.goto 37, 3) := by decide +kernel
theorem dX12_next_219 : decode cX12_next 219 = .ok (.aload_n 0, 1) := by decide +kernel
theorem dX12_next_220 : decode cX12_next 220 = .ok (.iload_n 1, 1) := by decide +kernel
theorem dX12_next_221 : decode cX12_next 221 = .ok (.iconst 1, 1) := by decide +kernel
theorem dX12_next_222 : decode cX12_next 222 = .ok (.iadd, 1) := by decide +kernel
theorem dX12_next_223 : decode cX12_next 223 = .ok (.putfield 117, 3) := by decide +kernel
theorem dX12_next_226 : decode cX12_next 226 = .ok (.aload_n 0, 1) := by decide +kernel
theorem dX12_next_227 : decode cX12_next 227 = .ok (.iload_n 2, 1) := by decide +kernel
theorem dX12_next_228 : decode cX12_next 228 = .ok (.bipush 59, 2) := by decide +kernel
theorem dX12_next_230 : decode cX12_next 230 = .ok (.if_icmp .eq 15, 3) := by decide +kernel
theorem dX12_next_233 : decode cX12_next 233 = .ok (.iload_n 2, 1) := by decide +kernel
theorem dX12_next_234 : decode cX12_next 234 = .ok (.bipush 44, 2) := by decide +kernel
theorem dX12_next_236 : decode cX12_next 236 = .ok (.if_icmp .eq 9, 3) := by decide +kernel
theorem dX12_next_239 : decode cX12_next 239 = .ok (.iload_n 2, 1) := by decide +kernel
theorem dX12_next_240 : decode cX12_next 240 = .ok (.bipush 47, 2) := by decide +kernel
theorem dX12_next_242 : decode cX12_next 242 = .ok (.if_icmp .ne 7, 3) := by decide +kernel
theorem dX12_next_245 : decode cX12_next 245 = .ok (.iload_n 2, 1) := by decide +kernel
theorem dX12_next_246 : decode cX12_next 246 = .ok (.goto 4, 3) := by decide +kernel
theorem dX12_next_249 : decode cX12_next 249 = .ok (.iconst 1, 1) := by decide +kernel
theorem dX12_next_250 : decode cX12_next 250 = .ok (.putfield 133, 3) := by decide +kernel
theorem dX12_next_253 : decode cX12_next 253 = .ok (.return_, 1) := by decide +kernel
theorem dX12_wrong_0 : decode cX12_wrong 0 = .ok (.aload_n 0, 1) := by decide +kernel
theorem dX12_wrong_1 : decode cX12_wrong 1 = .ok (.getfield 143, 3) := by decide +kernel
theorem dX12_wrong_4 : decode cX12_wrong 4 = .ok (.ifCond .eq 4, 3) := by decide +kernel
theorem dX12_wrong_7 : decode cX12_wrong 7 = .ok (.return_, 1) := by decide +kernel
theorem dX12_wrong_8 : decode cX12_wrong 8 = .ok (.aload_n 0, 1) := by decide +kernel
theorem dX12_wrong_9 : decode cX12_wrong 9 = .ok (.iconst 1, 1) := by decide +kernel
theorem dX12_wrong_10 : decode cX12_wrong 10 = .ok (.putfield 143, 3) := by decide +kernel
theorem dX12_wrong_13 : decode cX12_wrong 13 = .ok (.aload_n 0, 1) := by decide +kernel
theorem dX12_wrong_14 : decode cX12_wrong 14 = .ok (.iload_n 1, 1) := by decide +kernel
theorem dX12_wrong_15 : decode cX12_wrong 15 = .ok (.putfield 147, 3) := by decide +kernel
theorem dX12_wrong_18 : decode cX12_wrong 18 = .ok (.aload_n 0, 1) := by decide +kernel
theorem dX12_wrong_19 : decode cX12_wrong 19 = .ok (.iload_n 2, 1) := by decide +kernel
theorem dX12_wrong_20 : decode cX12_wrong 20 = .ok (.putfield 13, 3) := by decide +kernel
theorem dX12_wrong_23 : decode cX12_wrong 23 = .ok (.return_, 1) := by decide +kernel
theorem dX12_isWord_0 : decode cX12_isWord 0 = .ok (.aload_n 0, 1) := by decide +kernel
theorem dX12_isWord_1 : decode cX12_isWord 1 = .ok (.getfield 143, 3) := by decide +kernel
theorem dX12_isWord_4 : decode cX12_isWord 4 = .ok (.ifCond .ne 22, 3) := by decide +kernel
theorem dX12_isWord_7 : decode cX12_isWord 7 = .ok (.aload_n 0, 1) := by decide +kernel
theorem dX12_isWord_8 : decode cX12_isWord 8 = .ok (.getfield 133, 3) := by decide +kernel
theorem dX12_isWord_11 : decode cX12_isWord 11 = .ok (.iconst 2, 1) := by decide +kernel
theorem dX12_isWord_12 : decode cX12_isWord 12 = .ok (.if_icmp .ne 14, 3) := by decide +kernel
theorem dX12_isWord_15 : decode cX12_isWord 15 = .ok (.aload_n 0, 1) := by decide +kernel
theorem dX12_isWord_16 : decode cX12_isWord 16 = .ok (.getfield 127, 3) := by decide +kernel
theorem dX12_isWord_19 : decode cX12_isWord 19 = .ok (.aload_n 1, 1) := by decide +kernel
theorem dX12_isWord_20 : decode cX12_isWord 20 = .ok (.invokevirtual 150, 3) := by decide +kernel
theorem dX12_isWord_23 : decode cX12_isWord 23 = .ok (.if_icmp .eq 5, 3) := by decide +kernel
theorem dX12_isWord_26 : decode cX12_isWord 26 = .ok (.iconst 0, 1) := by decide +kernel
theorem dX12_isWord_27 : decode cX12_isWord 27 = .ok (.ireturn, 1) := by decide +kernel
theorem dX12_isWord_28 : decode cX12_isWord 28 = .ok (.iconst 1, 1) := by decide +kernel
theorem dX12_isWord_29 : decode cX12_isWord 29 = .ok (.istore_n 2, 1) := by decide +kernel
theorem dX12_isWord_30 : decode cX12_isWord 30 = .ok (.iconst 0, 1) := by decide +kernel
theorem dX12_isWord_31 : decode cX12_isWord 31 = .ok (.istore_n 3, 1) := by decide +kernel
theorem dX12_isWord_32 : decode cX12_isWord 32 = .ok (.iload_n 3, 1) := by decide +kernel
theorem dX12_isWord_33 : decode cX12_isWord 33 = .ok (.aload_n 0, 1) := by decide +kernel
theorem dX12_isWord_34 : decode cX12_isWord 34 = .ok (.getfield 127, 3) := by decide +kernel
theorem dX12_isWord_37 : decode cX12_isWord 37 = .ok (.if_icmp .ge 33, 3) := by decide +kernel
theorem dX12_isWord_40 : decode cX12_isWord 40 = .ok (.iload_n 2, 1) := by decide +kernel
theorem dX12_isWord_41 : decode cX12_isWord 41 = .ok (.ifCond .eq 21, 3) := by decide +kernel
theorem dX12_isWord_44 : decode cX12_isWord 44 = .ok (.aload_n 0, 1) := by decide +kernel
theorem dX12_isWord_45 : decode cX12_isWord 45 = .ok (.getfield 17, 3) := by decide +kernel
theorem dX12_isWord_48 : decode cX12_isWord 48 = .ok (.iload_n 3, 1) := by decide +kernel
theorem dX12_isWord_49 : decode cX12_isWord 49 = .ok (.iaload, 1) := by decide +kernel
theorem dX12_isWord_50 : decode cX12_isWord 50 = .ok (.aload_n 1, 1) := by decide +kernel
theorem dX12_isWord_51 : decode cX12_isWord 51 = .ok (.iload_n 3, 1) := by decide +kernel
theorem dX12_isWord_52 : decode cX12_isWord 52 = .ok (.invokevirtual 156, 3) := by decide +kernel
theorem dX12_isWord_55 : decode cX12_isWord 55 = .ok (.if_icmp .ne 7, 3) := by decide +kernel
theorem dX12_isWord_58 : decode cX12_isWord 58 = .ok (.iconst 1, 1) := by decide +kernel
theorem dX12_isWord_59 : decode cX12_isWord 59 = .ok (.goto 4, 3) := by decide +kernel
theorem dX12_isWord_62 : decode cX12_isWord 62 = .ok (.iconst 0, 1) := by decide +kernel
theorem dX12_isWord_63 : decode cX12_isWord 63 = .ok (.istore_n 2, 1) := by decide +kernel
theorem dX12_isWord_64 : decode cX12_isWord 64 = .ok (.iinc 3 1, 3) := by decide +kernel
theorem dX12_isWord_67 : decode cX12_isWord 67 = .ok (.goto (-35), 3) := by decide +kernel
theorem dX12_isWord_70 : decode cX12_isWord 70 = .ok (.iload_n 2, 1) := by decide +kernel
theorem dX12_isWord_71 : decode cX12_isWord 71 = .ok (.ireturn, 1) := by decide +kernel
theorem dX12_takes_0 : decode cX12_takes 0 = .ok (.aload_n 0, 1) := by decide +kernel
theorem dX12_takes_1 : decode cX12_takes 1 = .ok (.aload_n 1, 1) := by decide +kernel
theorem dX12_takes_2 : decode cX12_takes 2 = .ok (.invokevirtual 160, 3) := by decide +kernel
theorem dX12_takes_5 : decode cX12_takes 5 = .ok (.ifCond .ne 5, 3) := by decide +kernel
theorem dX12_takes_8 : decode cX12_takes 8 = .ok (.iconst 0, 1) := by decide +kernel
theorem dX12_takes_9 : decode cX12_takes 9 = .ok (.ireturn, 1) := by decide +kernel
theorem dX12_takes_10 : decode cX12_takes 10 = .ok (.aload_n 0, 1) := by decide +kernel
theorem dX12_takes_11 : decode cX12_takes 11 = .ok (.invokevirtual 164, 3) := by decide +kernel
theorem dX12_takes_14 : decode cX12_takes 14 = .ok (.iconst 1, 1) := by decide +kernel
theorem dX12_takes_15 : decode cX12_takes 15 = .ok (.ireturn, 1) := by decide +kernel
theorem dX12_must_0 : decode cX12_must 0 = .ok (.aload_n 0, 1) := by decide +kernel
theorem dX12_must_1 : decode cX12_must 1 = .ok (.getfield 143, 3) := by decide +kernel
theorem dX12_must_4 : decode cX12_must 4 = .ok (.ifCond .ne 20, 3) := by decide +kernel
theorem dX12_must_7 : decode cX12_must 7 = .ok (.aload_n 0, 1) := by decide +kernel
theorem dX12_must_8 : decode cX12_must 8 = .ok (.aload_n 1, 1) := by decide +kernel
theorem dX12_must_9 : decode cX12_must 9 = .ok (.invokevirtual 167, 3) := by decide +kernel
theorem dX12_must_12 : decode cX12_must 12 = .ok (.ifCond .ne 12, 3) := by decide +kernel
theorem dX12_must_15 : decode cX12_must 15 = .ok (.aload_n 0, 1) := by decide +kernel
theorem dX12_must_16 : decode cX12_must 16 = .ok (.iconst 1, 1) := by decide +kernel
theorem dX12_must_17 : decode cX12_must 17 = .ok (.aload_n 0, 1) := by decide +kernel
theorem dX12_must_18 : decode cX12_must 18 = .ok (.getfield 124, 3) := by decide +kernel
theorem dX12_must_21 : decode cX12_must 21 = .ok (.invokevirtual 170, 3) := by decide +kernel
theorem dX12_must_24 : decode cX12_must 24 = .ok (.return_, 1) := by decide +kernel
theorem dX12_mustName_0 : decode cX12_mustName 0 = .ok (.aload_n 0, 1) := by decide +kernel
theorem dX12_mustName_1 : decode cX12_mustName 1 = .ok (.ldc 174, 2) := by decide +kernel
theorem dX12_mustName_3 : decode cX12_mustName 3 = .ok (.invokevirtual 160, 3) := by decide +kernel
theorem dX12_mustName_6 : decode cX12_mustName 6 = .ok (.ifCond .ne 102, 3) := by decide +kernel
theorem dX12_mustName_9 : decode cX12_mustName 9 = .ok (.aload_n 0, 1) := by decide +kernel
theorem dX12_mustName_10 : decode cX12_mustName 10 = .ok (.ldc 176, 2) := by decide +kernel
theorem dX12_mustName_12 : decode cX12_mustName 12 = .ok (.invokevirtual 160, 3) := by decide +kernel
theorem dX12_mustName_15 : decode cX12_mustName 15 = .ok (.ifCond .ne 93, 3) := by decide +kernel
theorem dX12_mustName_18 : decode cX12_mustName 18 = .ok (.aload_n 0, 1) := by decide +kernel
theorem dX12_mustName_19 : decode cX12_mustName 19 = .ok (.ldc 178, 2) := by decide +kernel
theorem dX12_mustName_21 : decode cX12_mustName 21 = .ok (.invokevirtual 160, 3) := by decide +kernel
theorem dX12_mustName_24 : decode cX12_mustName 24 = .ok (.ifCond .ne 84, 3) := by decide +kernel
theorem dX12_mustName_27 : decode cX12_mustName 27 = .ok (.aload_n 0, 1) := by decide +kernel
theorem dX12_mustName_28 : decode cX12_mustName 28 = .ok (.ldc 180, 2) := by decide +kernel
theorem dX12_mustName_30 : decode cX12_mustName 30 = .ok (.invokevirtual 160, 3) := by decide +kernel
theorem dX12_mustName_33 : decode cX12_mustName 33 = .ok (.ifCond .ne 75, 3) := by decide +kernel
theorem dX12_mustName_36 : decode cX12_mustName 36 = .ok (.aload_n 0, 1) := by decide +kernel
theorem dX12_mustName_37 : decode cX12_mustName 37 = .ok (.ldc 182, 2) := by decide +kernel
theorem dX12_mustName_39 : decode cX12_mustName 39 = .ok (.invokevirtual 160, 3) := by decide +kernel
theorem dX12_mustName_42 : decode cX12_mustName 42 = .ok (.ifCond .ne 66, 3) := by decide +kernel
theorem dX12_mustName_45 : decode cX12_mustName 45 = .ok (.aload_n 0, 1) := by decide +kernel
theorem dX12_mustName_46 : decode cX12_mustName 46 = .ok (.ldc 183, 2) := by decide +kernel
theorem dX12_mustName_48 : decode cX12_mustName 48 = .ok (.invokevirtual 160, 3) := by decide +kernel
theorem dX12_mustName_51 : decode cX12_mustName 51 = .ok (.ifCond .ne 57, 3) := by decide +kernel
theorem dX12_mustName_54 : decode cX12_mustName 54 = .ok (.aload_n 0, 1) := by decide +kernel
theorem dX12_mustName_55 : decode cX12_mustName 55 = .ok (.ldc 185, 2) := by decide +kernel
theorem dX12_mustName_57 : decode cX12_mustName 57 = .ok (.invokevirtual 160, 3) := by decide +kernel
theorem dX12_mustName_60 : decode cX12_mustName 60 = .ok (.ifCond .ne 48, 3) := by decide +kernel
theorem dX12_mustName_63 : decode cX12_mustName 63 = .ok (.aload_n 0, 1) := by decide +kernel
theorem dX12_mustName_64 : decode cX12_mustName 64 = .ok (.ldc 187, 2) := by decide +kernel
theorem dX12_mustName_66 : decode cX12_mustName 66 = .ok (.invokevirtual 160, 3) := by decide +kernel
theorem dX12_mustName_69 : decode cX12_mustName 69 = .ok (.ifCond .ne 39, 3) := by decide +kernel
theorem dX12_mustName_72 : decode cX12_mustName 72 = .ok (.aload_n 0, 1) := by decide +kernel
theorem dX12_mustName_73 : decode cX12_mustName 73 = .ok (.ldc 189, 2) := by decide +kernel
theorem dX12_mustName_75 : decode cX12_mustName 75 = .ok (.invokevirtual 160, 3) := by decide +kernel
theorem dX12_mustName_78 : decode cX12_mustName 78 = .ok (.ifCond .ne 30, 3) := by decide +kernel
theorem dX12_mustName_81 : decode cX12_mustName 81 = .ok (.aload_n 0, 1) := by decide +kernel
theorem dX12_mustName_82 : decode cX12_mustName 82 = .ok (.ldc 191, 2) := by decide +kernel
theorem dX12_mustName_84 : decode cX12_mustName 84 = .ok (.invokevirtual 160, 3) := by decide +kernel
theorem dX12_mustName_87 : decode cX12_mustName 87 = .ok (.ifCond .ne 21, 3) := by decide +kernel
theorem dX12_mustName_90 : decode cX12_mustName 90 = .ok (.aload_n 0, 1) := by decide +kernel
theorem dX12_mustName_91 : decode cX12_mustName 91 = .ok (.ldc 193, 2) := by decide +kernel
theorem dX12_mustName_93 : decode cX12_mustName 93 = .ok (.invokevirtual 160, 3) := by decide +kernel
theorem dX12_mustName_96 : decode cX12_mustName 96 = .ok (.ifCond .ne 12, 3) := by decide +kernel
theorem dX12_mustName_99 : decode cX12_mustName 99 = .ok (.aload_n 0, 1) := by decide +kernel
theorem dX12_mustName_100 : decode cX12_mustName 100 = .ok (.ldc 195, 2) := by decide +kernel
theorem dX12_mustName_102 : decode cX12_mustName 102 = .ok (.invokevirtual 160, 3) := by decide +kernel
theorem dX12_mustName_105 : decode cX12_mustName 105 = .ok (.ifCond .eq 7, 3) := by decide +kernel
theorem dX12_mustName_108 : decode cX12_mustName 108 = .ok (.iconst 1, 1) := by decide +kernel
theorem dX12_mustName_109 : decode cX12_mustName 109 = .ok (.goto 4, 3) := by decide +kernel
theorem dX12_mustName_112 : decode cX12_mustName 112 = .ok (.iconst 0, 1) := by decide +kernel
theorem dX12_mustName_113 : decode cX12_mustName 113 = .ok (.istore_n 1, 1) := by decide +kernel
theorem dX12_mustName_114 : decode cX12_mustName 114 = .ok (.aload_n 0, 1) := by decide +kernel
theorem dX12_mustName_115 : decode cX12_mustName 115 = .ok (.getfield 133, 3) := by decide +kernel
theorem dX12_mustName_118 : decode cX12_mustName 118 = .ok (.iconst 2, 1) := by decide +kernel
theorem dX12_mustName_119 : decode cX12_mustName 119 = .ok (.if_icmp .ne 7, 3) := by decide +kernel
theorem dX12_mustName_122 : decode cX12_mustName 122 = .ok (.iload_n 1, 1) := by decide +kernel
theorem dX12_mustName_123 : decode cX12_mustName 123 = .ok (.ifCond .eq 12, 3) := by decide +kernel
theorem dX12_mustName_126 : decode cX12_mustName 126 = .ok (.aload_n 0, 1) := by decide +kernel
theorem dX12_mustName_127 : decode cX12_mustName 127 = .ok (.iconst 1, 1) := by decide +kernel
theorem dX12_mustName_128 : decode cX12_mustName 128 = .ok (.aload_n 0, 1) := by decide +kernel
theorem dX12_mustName_129 : decode cX12_mustName 129 = .ok (.getfield 124, 3) := by decide +kernel
theorem dX12_mustName_132 : decode cX12_mustName 132 = .ok (.invokevirtual 170, 3) := by decide +kernel
theorem dX12_mustName_135 : decode cX12_mustName 135 = .ok (.return_, 1) := by decide +kernel
theorem dX12_find_0 : decode cX12_find 0 = .ok (.iconst (-1), 1) := by decide +kernel
theorem dX12_find_1 : decode cX12_find 1 = .ok (.istore_n 1, 1) := by decide +kernel
theorem dX12_find_2 : decode cX12_find 2 = .ok (.iconst 0, 1) := by decide +kernel
theorem dX12_find_3 : decode cX12_find 3 = .ok (.istore_n 2, 1) := by decide +kernel
theorem dX12_find_4 : decode cX12_find 4 = .ok (.iload_n 2, 1) := by decide +kernel
theorem dX12_find_5 : decode cX12_find 5 = .ok (.aload_n 0, 1) := by decide +kernel
theorem dX12_find_6 : decode cX12_find 6 = .ok (.getfield 23, 3) := by decide +kernel
theorem dX12_find_9 : decode cX12_find 9 = .ok (.sipush 242, 3) := by decide +kernel
theorem dX12_find_12 : decode cX12_find 12 = .ok (.iaload, 1) := by decide +kernel
theorem dX12_find_13 : decode cX12_find 13 = .ok (.if_icmp .ge 96, 3) := by decide +kernel
theorem dX12_find_16 : decode cX12_find 16 = .ok (.aload_n 0, 1) := by decide +kernel
theorem dX12_find_17 : decode cX12_find 17 = .ok (.getfield 23, 3) := by decide +kernel
theorem dX12_find_20 : decode cX12_find 20 = .ok (.sipush 283, 3) := by decide +kernel
theorem dX12_find_23 : decode cX12_find 23 = .ok (.iload_n 2, 1) := by decide +kernel
theorem dX12_find_24 : decode cX12_find 24 = .ok (.iadd, 1) := by decide +kernel
theorem dX12_find_25 : decode cX12_find 25 = .ok (.iaload, 1) := by decide +kernel
theorem dX12_find_26 : decode cX12_find 26 = .ok (.aload_n 0, 1) := by decide +kernel
theorem dX12_find_27 : decode cX12_find 27 = .ok (.getfield 127, 3) := by decide +kernel
theorem dX12_find_30 : decode cX12_find 30 = .ok (.if_icmp .ne 7, 3) := by decide +kernel
theorem dX12_find_33 : decode cX12_find 33 = .ok (.iconst 1, 1) := by decide +kernel
theorem dX12_find_34 : decode cX12_find 34 = .ok (.goto 4, 3) := by decide +kernel
theorem dX12_find_37 : decode cX12_find 37 = .ok (.iconst 0, 1) := by decide +kernel
theorem dX12_find_38 : decode cX12_find 38 = .ok (.istore_n 3, 1) := by decide +kernel
theorem dX12_find_39 : decode cX12_find 39 = .ok (.iconst 0, 1) := by decide +kernel
theorem dX12_find_40 : decode cX12_find 40 = .ok (.istore 4, 2) := by decide +kernel
theorem dX12_find_42 : decode cX12_find 42 = .ok (.iload 4, 2) := by decide +kernel
theorem dX12_find_44 : decode cX12_find 44 = .ok (.aload_n 0, 1) := by decide +kernel
theorem dX12_find_45 : decode cX12_find 45 = .ok (.getfield 127, 3) := by decide +kernel
theorem dX12_find_48 : decode cX12_find 48 = .ok (.if_icmp .ge 45, 3) := by decide +kernel
theorem dX12_find_51 : decode cX12_find 51 = .ok (.iload_n 3, 1) := by decide +kernel
theorem dX12_find_52 : decode cX12_find 52 = .ok (.ifCond .eq 41, 3) := by decide +kernel
theorem dX12_find_55 : decode cX12_find 55 = .ok (.aload_n 0, 1) := by decide +kernel
theorem dX12_find_56 : decode cX12_find 56 = .ok (.getfield 23, 3) := by decide +kernel
theorem dX12_find_59 : decode cX12_find 59 = .ok (.sipush 303, 3) := by decide +kernel
theorem dX12_find_62 : decode cX12_find 62 = .ok (.bipush 8, 2) := by decide +kernel
theorem dX12_find_64 : decode cX12_find 64 = .ok (.iload_n 2, 1) := by decide +kernel
theorem dX12_find_65 : decode cX12_find 65 = .ok (.imul, 1) := by decide +kernel
theorem dX12_find_66 : decode cX12_find 66 = .ok (.iadd, 1) := by decide +kernel
theorem dX12_find_67 : decode cX12_find 67 = .ok (.iload 4, 2) := by decide +kernel
theorem dX12_find_69 : decode cX12_find 69 = .ok (.iadd, 1) := by decide +kernel
theorem dX12_find_70 : decode cX12_find 70 = .ok (.iaload, 1) := by decide +kernel
theorem dX12_find_71 : decode cX12_find 71 = .ok (.aload_n 0, 1) := by decide +kernel
theorem dX12_find_72 : decode cX12_find 72 = .ok (.getfield 17, 3) := by decide +kernel
theorem dX12_find_75 : decode cX12_find 75 = .ok (.iload 4, 2) := by decide +kernel
theorem dX12_find_77 : decode cX12_find 77 = .ok (.iaload, 1) := by decide +kernel
theorem dX12_find_78 : decode cX12_find 78 = .ok (.if_icmp .ne 7, 3) := by decide +kernel
theorem dX12_find_81 : decode cX12_find 81 = .ok (.iconst 1, 1) := by decide +kernel
theorem dX12_find_82 : decode cX12_find 82 = .ok (.goto 4, 3) := by decide +kernel
theorem dX12_find_85 : decode cX12_find 85 = .ok (.iconst 0, 1) := by decide +kernel
theorem dX12_find_86 : decode cX12_find 86 = .ok (.istore_n 3, 1) := by decide +kernel
theorem dX12_find_87 : decode cX12_find 87 = .ok (.iinc 4 1, 3) := by decide +kernel
theorem dX12_find_90 : decode cX12_find 90 = .ok (.goto (-48), 3) := by decide +kernel
theorem dX12_find_93 : decode cX12_find 93 = .ok (.iload_n 3, 1) := by decide +kernel
theorem dX12_find_94 : decode cX12_find 94 = .ok (.ifCond .eq 7, 3) := by decide +kernel
theorem dX12_find_97 : decode cX12_find 97 = .ok (.iload_n 2, 1) := by decide +kernel
theorem dX12_find_98 : decode cX12_find 98 = .ok (.goto 4, 3) := by decide +kernel
theorem dX12_find_101 : decode cX12_find 101 = .ok (.iload_n 1, 1) := by decide +kernel
theorem dX12_find_102 : decode cX12_find 102 = .ok (.istore_n 1, 1) := by decide +kernel
theorem dX12_find_103 : decode cX12_find 103 = .ok (.iinc 2 1, 3) := by decide +kernel
theorem dX12_find_106 : decode cX12_find 106 = .ok (.goto (-102), 3) := by decide +kernel
theorem dX12_find_109 : decode cX12_find 109 = .ok (.iload_n 1, 1) := by decide +kernel
theorem dX12_find_110 : decode cX12_find 110 = .ok (.ireturn, 1) := by decide +kernel
theorem dX12_newName_0 : decode cX12_newName 0 = .ok (.aload_n 0, 1) := by decide +kernel
theorem dX12_newName_1 : decode cX12_newName 1 = .ok (.invokevirtual 197, 3) := by decide +kernel
theorem dX12_newName_4 : decode cX12_newName 4 = .ok (.aload_n 0, 1) := by decide +kernel
theorem dX12_newName_5 : decode cX12_newName 5 = .ok (.getfield 143, 3) := by decide +kernel
theorem dX12_newName_8 : decode cX12_newName 8 = .ok (.ifCond .ne 19, 3) := by decide +kernel
theorem dX12_newName_11 : decode cX12_newName 11 = .ok (.aload_n 0, 1) := by decide +kernel
theorem dX12_newName_12 : decode cX12_newName 12 = .ok (.invokevirtual 200, 3) := by decide +kernel
theorem dX12_newName_15 : decode cX12_newName 15 = .ok (.ifCond .lt 12, 3) := by decide +kernel
theorem dX12_newName_18 : decode cX12_newName 18 = .ok (.aload_n 0, 1) := by decide +kernel
theorem dX12_newName_19 : decode cX12_newName 19 = .ok (.iconst 3, 1) := by decide +kernel
theorem dX12_newName_20 : decode cX12_newName 20 = .ok (.aload_n 0, 1) := by decide +kernel
theorem dX12_newName_21 : decode cX12_newName 21 = .ok (.getfield 124, 3) := by decide +kernel
theorem dX12_newName_24 : decode cX12_newName 24 = .ok (.invokevirtual 170, 3) := by decide +kernel
theorem dX12_newName_27 : decode cX12_newName 27 = .ok (.aload_n 0, 1) := by decide +kernel
theorem dX12_newName_28 : decode cX12_newName 28 = .ok (.getfield 143, 3) := by decide +kernel
theorem dX12_newName_31 : decode cX12_newName 31 = .ok (.ifCond .eq 4, 3) := by decide +kernel
theorem dX12_newName_34 : decode cX12_newName 34 = .ok (.return_, 1) := by decide +kernel
theorem dX12_newName_35 : decode cX12_newName 35 = .ok (.aload_n 0, 1) := by decide +kernel
theorem dX12_newName_36 : decode cX12_newName 36 = .ok (.getfield 23, 3) := by decide +kernel
theorem dX12_newName_39 : decode cX12_newName 39 = .ok (.sipush 242, 3) := by decide +kernel
theorem dX12_newName_42 : decode cX12_newName 42 = .ok (.iaload, 1) := by decide +kernel
theorem dX12_newName_43 : decode cX12_newName 43 = .ok (.istore_n 3, 1) := by decide +kernel
theorem dX12_newName_44 : decode cX12_newName 44 = .ok (.iconst 0, 1) := by decide +kernel
theorem dX12_newName_45 : decode cX12_newName 45 = .ok (.istore 4, 2) := by decide +kernel
theorem dX12_newName_47 : decode cX12_newName 47 = .ok (.iload 4, 2) := by decide +kernel
theorem dX12_newName_49 : decode cX12_newName 49 = .ok (.aload_n 0, 1) := by decide +kernel
theorem dX12_newName_50 : decode cX12_newName 50 = .ok (.getfield 127, 3) := by decide +kernel
theorem dX12_newName_53 : decode cX12_newName 53 = .ok (.if_icmp .ge 32, 3) := by decide +kernel
theorem dX12_newName_56 : decode cX12_newName 56 = .ok (.aload_n 0, 1) := by decide +kernel
theorem dX12_newName_57 : decode cX12_newName 57 = .ok (.getfield 23, 3) := by decide +kernel
theorem dX12_newName_60 : decode cX12_newName 60 = .ok (.sipush 303, 3) := by decide +kernel
theorem dX12_newName_63 : decode cX12_newName 63 = .ok (.bipush 8, 2) := by decide +kernel
theorem dX12_newName_65 : decode cX12_newName 65 = .ok (.iload_n 3, 1) := by decide +kernel
theorem dX12_newName_66 : decode cX12_newName 66 = .ok (.imul, 1) := by decide +kernel
theorem dX12_newName_67 : decode cX12_newName 67 = .ok (.iadd, 1) := by decide +kernel
theorem dX12_newName_68 : decode cX12_newName 68 = .ok (.iload 4, 2) := by decide +kernel
theorem dX12_newName_70 : decode cX12_newName 70 = .ok (.iadd, 1) := by decide +kernel
theorem dX12_newName_71 : decode cX12_newName 71 = .ok (.aload_n 0, 1) := by decide +kernel
theorem dX12_newName_72 : decode cX12_newName 72 = .ok (.getfield 17, 3) := by decide +kernel
theorem dX12_newName_75 : decode cX12_newName 75 = .ok (.iload 4, 2) := by decide +kernel
theorem dX12_newName_77 : decode cX12_newName 77 = .ok (.iaload, 1) := by decide +kernel
theorem dX12_newName_78 : decode cX12_newName 78 = .ok (.iastore, 1) := by decide +kernel
theorem dX12_newName_79 : decode cX12_newName 79 = .ok (.iinc 4 1, 3) := by decide +kernel
theorem dX12_newName_82 : decode cX12_newName 82 = .ok (.goto (-35), 3) := by decide +kernel
theorem dX12_newName_85 : decode cX12_newName 85 = .ok (.aload_n 0, 1) := by decide +kernel
theorem dX12_newName_86 : decode cX12_newName 86 = .ok (.getfield 23, 3) := by decide +kernel
theorem dX12_newName_89 : decode cX12_newName 89 = .ok (.sipush 283, 3) := by decide +kernel
theorem dX12_newName_92 : decode cX12_newName 92 = .ok (.iload_n 3, 1) := by decide +kernel
theorem dX12_newName_93 : decode cX12_newName 93 = .ok (.iadd, 1) := by decide +kernel
theorem dX12_newName_94 : decode cX12_newName 94 = .ok (.aload_n 0, 1) := by decide +kernel
theorem dX12_newName_95 : decode cX12_newName 95 = .ok (.getfield 127, 3) := by decide +kernel
theorem dX12_newName_98 : decode cX12_newName 98 = .ok (.iastore, 1) := by decide +kernel
theorem dX12_newName_99 : decode cX12_newName 99 = .ok (.aload_n 0, 1) := by decide +kernel
theorem dX12_newName_100 : decode cX12_newName 100 = .ok (.getfield 23, 3) := by decide +kernel
theorem dX12_newName_103 : decode cX12_newName 103 = .ok (.sipush 243, 3) := by decide +kernel
theorem dX12_newName_106 : decode cX12_newName 106 = .ok (.iload_n 3, 1) := by decide +kernel
theorem dX12_newName_107 : decode cX12_newName 107 = .ok (.iadd, 1) := by decide +kernel
theorem dX12_newName_108 : decode cX12_newName 108 = .ok (.iload_n 1, 1) := by decide +kernel
theorem dX12_newName_109 : decode cX12_newName 109 = .ok (.iastore, 1) := by decide +kernel
theorem dX12_newName_110 : decode cX12_newName 110 = .ok (.aload_n 0, 1) := by decide +kernel
theorem dX12_newName_111 : decode cX12_newName 111 = .ok (.getfield 23, 3) := by decide +kernel
theorem dX12_newName_114 : decode cX12_newName 114 = .ok (.sipush 263, 3) := by decide +kernel
theorem dX12_newName_117 : decode cX12_newName 117 = .ok (.iload_n 3, 1) := by decide +kernel
theorem dX12_newName_118 : decode cX12_newName 118 = .ok (.iadd, 1) := by decide +kernel
theorem dX12_newName_119 : decode cX12_newName 119 = .ok (.iload_n 2, 1) := by decide +kernel
theorem dX12_newName_120 : decode cX12_newName 120 = .ok (.iastore, 1) := by decide +kernel
theorem dX12_newName_121 : decode cX12_newName 121 = .ok (.aload_n 0, 1) := by decide +kernel
theorem dX12_newName_122 : decode cX12_newName 122 = .ok (.getfield 23, 3) := by decide +kernel
theorem dX12_newName_125 : decode cX12_newName 125 = .ok (.sipush 242, 3) := by decide +kernel
theorem dX12_newName_128 : decode cX12_newName 128 = .ok (.dup2, 1) := by decide +kernel
theorem dX12_newName_129 : decode cX12_newName 129 = .ok (.iaload, 1) := by decide +kernel
theorem dX12_newName_130 : decode cX12_newName 130 = .ok (.iconst 1, 1) := by decide +kernel
theorem dX12_newName_131 : decode cX12_newName 131 = .ok (.iadd, 1) := by decide +kernel
theorem dX12_newName_132 : decode cX12_newName 132 = .ok (.iastore, 1) := by decide +kernel
theorem dX12_newName_133 : decode cX12_newName 133 = .ok (.aload_n 0, 1) := by decide +kernel
theorem dX12_newName_134 : decode cX12_newName 134 = .ok (.invokevirtual 164, 3) := by decide +kernel
theorem dX12_newName_137 : decode cX12_newName 137 = .ok (.return_, 1) := by decide +kernel
theorem dX12_number_0 : decode cX12_number 0 = .ok (.aload_n 0, 1) := by decide +kernel
theorem dX12_number_1 : decode cX12_number 1 = .ok (.getfield 143, 3) := by decide +kernel
theorem dX12_number_4 : decode cX12_number 4 = .ok (.ifCond .eq 5, 3) := by decide +kernel
theorem dX12_number_7 : decode cX12_number 7 = .ok (.iload_n 1, 1) := by decide +kernel
theorem dX12_number_8 : decode cX12_number 8 = .ok (.ireturn, 1) := by decide +kernel
theorem dX12_number_9 : decode cX12_number 9 = .ok (.aload_n 0, 1) := by decide +kernel
theorem dX12_number_10 : decode cX12_number 10 = .ok (.getfield 133, 3) := by decide +kernel
theorem dX12_number_13 : decode cX12_number 13 = .ok (.iconst 3, 1) := by decide +kernel
theorem dX12_number_14 : decode cX12_number 14 = .ok (.if_icmp .eq 14, 3) := by decide +kernel
theorem dX12_number_17 : decode cX12_number 17 = .ok (.aload_n 0, 1) := by decide +kernel
theorem dX12_number_18 : decode cX12_number 18 = .ok (.iconst 1, 1) := by decide +kernel
theorem dX12_number_19 : decode cX12_number 19 = .ok (.aload_n 0, 1) := by decide +kernel
theorem dX12_number_20 : decode cX12_number 20 = .ok (.getfield 124, 3) := by decide +kernel
theorem dX12_number_23 : decode cX12_number 23 = .ok (.invokevirtual 170, 3) := by decide +kernel
theorem dX12_number_26 : decode cX12_number 26 = .ok (.iload_n 1, 1) := by decide +kernel
theorem dX12_number_27 : decode cX12_number 27 = .ok (.ireturn, 1) := by decide +kernel
theorem dX12_number_28 : decode cX12_number 28 = .ok (.aload_n 0, 1) := by decide +kernel
theorem dX12_number_29 : decode cX12_number 29 = .ok (.getfield 130, 3) := by decide +kernel
theorem dX12_number_32 : decode cX12_number 32 = .ok (.istore_n 3, 1) := by decide +kernel
theorem dX12_number_33 : decode cX12_number 33 = .ok (.iload_n 3, 1) := by decide +kernel
theorem dX12_number_34 : decode cX12_number 34 = .ok (.iload_n 1, 1) := by decide +kernel
theorem dX12_number_35 : decode cX12_number 35 = .ok (.iload_n 2, 1) := by decide +kernel
theorem dX12_number_36 : decode cX12_number 36 = .ok (.invokestatic 203, 3) := by decide +kernel
theorem dX12_number_39 : decode cX12_number 39 = .ok (.ifCond .ne 14, 3) := by decide +kernel
theorem dX12_number_42 : decode cX12_number 42 = .ok (.aload_n 0, 1) := by decide +kernel
theorem dX12_number_43 : decode cX12_number 43 = .ok (.iconst 4, 1) := by decide +kernel
theorem dX12_number_44 : decode cX12_number 44 = .ok (.aload_n 0, 1) := by decide +kernel
theorem dX12_number_45 : decode cX12_number 45 = .ok (.getfield 124, 3) := by decide +kernel
theorem dX12_number_48 : decode cX12_number 48 = .ok (.invokevirtual 170, 3) := by decide +kernel
theorem dX12_number_51 : decode cX12_number 51 = .ok (.iload_n 1, 1) := by decide +kernel
theorem dX12_number_52 : decode cX12_number 52 = .ok (.ireturn, 1) := by decide +kernel
theorem dX12_number_53 : decode cX12_number 53 = .ok (.aload_n 0, 1) := by decide +kernel
theorem dX12_number_54 : decode cX12_number 54 = .ok (.invokevirtual 164, 3) := by decide +kernel

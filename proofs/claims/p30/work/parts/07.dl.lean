theorem dL_cell_0 : decode cL_cell 0 = .ok (.iload_n 1, 1) := by decide +kernel
theorem dL_cell_1 : decode cL_cell 1 = .ok (.aload_n 0, 1) := by decide +kernel
theorem dL_cell_2 : decode cL_cell 2 = .ok (.arraylength, 1) := by decide +kernel
theorem dL_cell_3 : decode cL_cell 3 = .ok (.if_icmp .ge 9, 3) := by decide +kernel
theorem dL_cell_6 : decode cL_cell 6 = .ok (.aload_n 0, 1) := by decide +kernel
theorem dL_cell_7 : decode cL_cell 7 = .ok (.iload_n 1, 1) := by decide +kernel
theorem dL_cell_8 : decode cL_cell 8 = .ok (.iaload, 1) := by decide +kernel
theorem dL_cell_9 : decode cL_cell 9 = .ok (.goto 11, 3) := by decide +kernel
theorem dL_cell_12 : decode cL_cell 12 = .ok (.ldc 7, 2) := by decide +kernel
theorem dL_cell_14 : decode cL_cell 14 = .ok (.iload_n 1, 1) := by decide +kernel
theorem dL_cell_15 : decode cL_cell 15 = .ok (.imul, 1) := by decide +kernel
theorem dL_cell_16 : decode cL_cell 16 = .ok (.sipush 8460, 3) := by decide +kernel
theorem dL_cell_19 : decode cL_cell 19 = .ok (.iadd, 1) := by decide +kernel
theorem dL_cell_20 : decode cL_cell 20 = .ok (.ldc 8, 2) := by decide +kernel
theorem dL_cell_22 : decode cL_cell 22 = .ok (.iand, 1) := by decide +kernel
theorem dL_cell_23 : decode cL_cell 23 = .ok (.ireturn, 1) := by decide +kernel
theorem dL_isAhead_0 : decode cL_isAhead 0 = .ok (.aload_n 0, 1) := by decide +kernel
theorem dL_isAhead_1 : decode cL_isAhead 1 = .ok (.iload_n 1, 1) := by decide +kernel
theorem dL_isAhead_2 : decode cL_isAhead 2 = .ok (.iconst 2, 1) := by decide +kernel
theorem dL_isAhead_3 : decode cL_isAhead 3 = .ok (.invokevirtual 9, 3) := by decide +kernel
theorem dL_isAhead_6 : decode cL_isAhead 6 = .ok (.aload_n 0, 1) := by decide +kernel
theorem dL_isAhead_7 : decode cL_isAhead 7 = .ok (.iload_n 2, 1) := by decide +kernel
theorem dL_isAhead_8 : decode cL_isAhead 8 = .ok (.iconst 2, 1) := by decide +kernel
theorem dL_isAhead_9 : decode cL_isAhead 9 = .ok (.invokevirtual 9, 3) := by decide +kernel
theorem dL_isAhead_12 : decode cL_isAhead 12 = .ok (.isub, 1) := by decide +kernel
theorem dL_isAhead_13 : decode cL_isAhead 13 = .ok (.istore_n 3, 1) := by decide +kernel
theorem dL_isAhead_14 : decode cL_isAhead 14 = .ok (.aload_n 0, 1) := by decide +kernel
theorem dL_isAhead_15 : decode cL_isAhead 15 = .ok (.iload_n 2, 1) := by decide +kernel
theorem dL_isAhead_16 : decode cL_isAhead 16 = .ok (.iconst 3, 1) := by decide +kernel
theorem dL_isAhead_17 : decode cL_isAhead 17 = .ok (.invokevirtual 9, 3) := by decide +kernel
theorem dL_isAhead_20 : decode cL_isAhead 20 = .ok (.aload_n 0, 1) := by decide +kernel
theorem dL_isAhead_21 : decode cL_isAhead 21 = .ok (.iload_n 1, 1) := by decide +kernel
theorem dL_isAhead_22 : decode cL_isAhead 22 = .ok (.iconst 3, 1) := by decide +kernel
theorem dL_isAhead_23 : decode cL_isAhead 23 = .ok (.invokevirtual 9, 3) := by decide +kernel
theorem dL_isAhead_26 : decode cL_isAhead 26 = .ok (.isub, 1) := by decide +kernel
theorem dL_isAhead_27 : decode cL_isAhead 27 = .ok (.istore 4, 2) := by decide +kernel
theorem dL_isAhead_29 : decode cL_isAhead 29 = .ok (.aload_n 0, 1) := by decide +kernel
theorem dL_isAhead_30 : decode cL_isAhead 30 = .ok (.iload_n 2, 1) := by decide +kernel
theorem dL_isAhead_31 : decode cL_isAhead 31 = .ok (.bipush 6, 2) := by decide +kernel
theorem dL_isAhead_33 : decode cL_isAhead 33 = .ok (.invokevirtual 9, 3) := by decide +kernel
theorem dL_isAhead_36 : decode cL_isAhead 36 = .ok (.aload_n 0, 1) := by decide +kernel
theorem dL_isAhead_37 : decode cL_isAhead 37 = .ok (.iload_n 1, 1) := by decide +kernel
theorem dL_isAhead_38 : decode cL_isAhead 38 = .ok (.bipush 6, 2) := by decide +kernel
theorem dL_isAhead_40 : decode cL_isAhead 40 = .ok (.invokevirtual 9, 3) := by decide +kernel
theorem dL_isAhead_43 : decode cL_isAhead 43 = .ok (.isub, 1) := by decide +kernel
theorem dL_isAhead_44 : decode cL_isAhead 44 = .ok (.istore 5, 2) := by decide +kernel
theorem dL_isAhead_46 : decode cL_isAhead 46 = .ok (.iload_n 3, 1) := by decide +kernel
theorem dL_isAhead_47 : decode cL_isAhead 47 = .ok (.ifCond .eq 15, 3) := by decide +kernel
theorem dL_isAhead_50 : decode cL_isAhead 50 = .ok (.iload_n 3, 1) := by decide +kernel
theorem dL_isAhead_51 : decode cL_isAhead 51 = .ok (.ifCond .le 7, 3) := by decide +kernel
theorem dL_isAhead_54 : decode cL_isAhead 54 = .ok (.iconst 1, 1) := by decide +kernel
theorem dL_isAhead_55 : decode cL_isAhead 55 = .ok (.goto 63, 3) := by decide +kernel
theorem dL_isAhead_58 : decode cL_isAhead 58 = .ok (.iconst 0, 1) := by decide +kernel
theorem dL_isAhead_59 : decode cL_isAhead 59 = .ok (.goto 59, 3) := by decide +kernel
theorem dL_isAhead_62 : decode cL_isAhead 62 = .ok (.iload 4, 2) := by decide +kernel
theorem dL_isAhead_64 : decode cL_isAhead 64 = .ok (.ifCond .eq 16, 3) := by decide +kernel
theorem dL_isAhead_67 : decode cL_isAhead 67 = .ok (.iload 4, 2) := by decide +kernel
theorem dL_isAhead_69 : decode cL_isAhead 69 = .ok (.ifCond .le 7, 3) := by decide +kernel
theorem dL_isAhead_72 : decode cL_isAhead 72 = .ok (.iconst 1, 1) := by decide +kernel
theorem dL_isAhead_73 : decode cL_isAhead 73 = .ok (.goto 45, 3) := by decide +kernel
theorem dL_isAhead_76 : decode cL_isAhead 76 = .ok (.iconst 0, 1) := by decide +kernel
theorem dL_isAhead_77 : decode cL_isAhead 77 = .ok (.goto 41, 3) := by decide +kernel
theorem dL_isAhead_80 : decode cL_isAhead 80 = .ok (.iload 5, 2) := by decide +kernel
theorem dL_isAhead_82 : decode cL_isAhead 82 = .ok (.ifCond .eq 16, 3) := by decide +kernel
theorem dL_isAhead_85 : decode cL_isAhead 85 = .ok (.iload 5, 2) := by decide +kernel
theorem dL_isAhead_87 : decode cL_isAhead 87 = .ok (.ifCond .le 7, 3) := by decide +kernel
theorem dL_isAhead_90 : decode cL_isAhead 90 = .ok (.iconst 1, 1) := by decide +kernel
theorem dL_isAhead_91 : decode cL_isAhead 91 = .ok (.goto 27, 3) := by decide +kernel
theorem dL_isAhead_94 : decode cL_isAhead 94 = .ok (.iconst 0, 1) := by decide +kernel
theorem dL_isAhead_95 : decode cL_isAhead 95 = .ok (.goto 23, 3) := by decide +kernel
theorem dL_isAhead_98 : decode cL_isAhead 98 = .ok (.aload_n 0, 1) := by decide +kernel
theorem dL_isAhead_99 : decode cL_isAhead 99 = .ok (.iload_n 1, 1) := by decide +kernel
theorem dL_isAhead_100 : decode cL_isAhead 100 = .ok (.iconst 0, 1) := by decide +kernel
theorem dL_isAhead_101 : decode cL_isAhead 101 = .ok (.invokevirtual 9, 3) := by decide +kernel
theorem dL_isAhead_104 : decode cL_isAhead 104 = .ok (.aload_n 0, 1) := by decide +kernel
theorem dL_isAhead_105 : decode cL_isAhead 105 = .ok (.iload_n 2, 1) := by decide +kernel
theorem dL_isAhead_106 : decode cL_isAhead 106 = .ok (.iconst 0, 1) := by decide +kernel
theorem dL_isAhead_107 : decode cL_isAhead 107 = .ok (.invokevirtual 9, 3) := by decide +kernel
theorem dL_isAhead_110 : decode cL_isAhead 110 = .ok (.if_icmp .ge 7, 3) := by decide +kernel
theorem dL_isAhead_113 : decode cL_isAhead 113 = .ok (.iconst 1, 1) := by decide +kernel
theorem dL_isAhead_114 : decode cL_isAhead 114 = .ok (.goto 4, 3) := by decide +kernel
theorem dL_isAhead_117 : decode cL_isAhead 117 = .ok (.iconst 0, 1) := by decide +kernel
theorem dL_isAhead_118 : decode cL_isAhead 118 = .ok (.ireturn, 1) := by decide +kernel
theorem dL_areGuests_0 : decode cL_areGuests 0 = .ok (.aload_n 0, 1) := by decide +kernel
theorem dL_areGuests_1 : decode cL_areGuests 1 = .ok (.bipush 11, 2) := by decide +kernel
theorem dL_areGuests_3 : decode cL_areGuests 3 = .ok (.invokevirtual 15, 3) := by decide +kernel
theorem dL_areGuests_6 : decode cL_areGuests 6 = .ok (.istore_n 1, 1) := by decide +kernel
theorem dL_areGuests_7 : decode cL_areGuests 7 = .ok (.iconst 0, 1) := by decide +kernel
theorem dL_areGuests_8 : decode cL_areGuests 8 = .ok (.istore_n 2, 1) := by decide +kernel
theorem dL_areGuests_9 : decode cL_areGuests 9 = .ok (.iconst 0, 1) := by decide +kernel
theorem dL_areGuests_10 : decode cL_areGuests 10 = .ok (.istore_n 3, 1) := by decide +kernel
theorem dL_areGuests_11 : decode cL_areGuests 11 = .ok (.iconst 0, 1) := by decide +kernel
theorem dL_areGuests_12 : decode cL_areGuests 12 = .ok (.istore 4, 2) := by decide +kernel
theorem dL_areGuests_14 : decode cL_areGuests 14 = .ok (.aload_n 0, 1) := by decide +kernel
theorem dL_areGuests_15 : decode cL_areGuests 15 = .ok (.bipush 9, 2) := by decide +kernel
theorem dL_areGuests_17 : decode cL_areGuests 17 = .ok (.iconst 0, 1) := by decide +kernel
theorem dL_areGuests_18 : decode cL_areGuests 18 = .ok (.invokevirtual 9, 3) := by decide +kernel
theorem dL_areGuests_21 : decode cL_areGuests 21 = .ok (.iconst (-1), 1) := by decide +kernel
theorem dL_areGuests_22 : decode cL_areGuests 22 = .ok (.if_icmp .ne 42, 3) := by decide +kernel
theorem dL_areGuests_25 : decode cL_areGuests 25 = .ok (.aload_n 0, 1) := by decide +kernel
theorem dL_areGuests_26 : decode cL_areGuests 26 = .ok (.aload_n 0, 1) := by decide +kernel
theorem dL_areGuests_27 : decode cL_areGuests 27 = .ok (.iconst 1, 1) := by decide +kernel
theorem dL_areGuests_28 : decode cL_areGuests 28 = .ok (.invokevirtual 15, 3) := by decide +kernel
theorem dL_areGuests_31 : decode cL_areGuests 31 = .ok (.invokevirtual 19, 3) := by decide +kernel
theorem dL_areGuests_34 : decode cL_areGuests 34 = .ok (.iconst (-1), 1) := by decide +kernel
theorem dL_areGuests_35 : decode cL_areGuests 35 = .ok (.if_icmp .ne 29, 3) := by decide +kernel
theorem dL_areGuests_38 : decode cL_areGuests 38 = .ok (.aload_n 0, 1) := by decide +kernel
theorem dL_areGuests_39 : decode cL_areGuests 39 = .ok (.aload_n 0, 1) := by decide +kernel
theorem dL_areGuests_40 : decode cL_areGuests 40 = .ok (.iconst 1, 1) := by decide +kernel
theorem dL_areGuests_41 : decode cL_areGuests 41 = .ok (.invokevirtual 15, 3) := by decide +kernel
theorem dL_areGuests_44 : decode cL_areGuests 44 = .ok (.invokevirtual 22, 3) := by decide +kernel
theorem dL_areGuests_47 : decode cL_areGuests 47 = .ok (.iconst (-1), 1) := by decide +kernel
theorem dL_areGuests_48 : decode cL_areGuests 48 = .ok (.if_icmp .ne 16, 3) := by decide +kernel
theorem dL_areGuests_51 : decode cL_areGuests 51 = .ok (.aload_n 0, 1) := by decide +kernel
theorem dL_areGuests_52 : decode cL_areGuests 52 = .ok (.iconst (-1), 1) := by decide +kernel
theorem dL_areGuests_53 : decode cL_areGuests 53 = .ok (.invokevirtual 19, 3) := by decide +kernel
theorem dL_areGuests_56 : decode cL_areGuests 56 = .ok (.iconst (-1), 1) := by decide +kernel
theorem dL_areGuests_57 : decode cL_areGuests 57 = .ok (.if_icmp .ne 7, 3) := by decide +kernel
theorem dL_areGuests_60 : decode cL_areGuests 60 = .ok (.iconst 1, 1) := by decide +kernel
theorem dL_areGuests_61 : decode cL_areGuests 61 = .ok (.goto 4, 3) := by decide +kernel
theorem dL_areGuests_64 : decode cL_areGuests 64 = .ok (.iconst 0, 1) := by decide +kernel
theorem dL_areGuests_65 : decode cL_areGuests 65 = .ok (.istore 5, 2) := by decide +kernel
theorem dL_areGuests_67 : decode cL_areGuests 67 = .ok (.iconst 0, 1) := by decide +kernel
theorem dL_areGuests_68 : decode cL_areGuests 68 = .ok (.istore 6, 2) := by decide +kernel
theorem dL_areGuests_70 : decode cL_areGuests 70 = .ok (.iload 6, 2) := by decide +kernel
theorem dL_areGuests_72 : decode cL_areGuests 72 = .ok (.bipush 9, 2) := by decide +kernel
theorem dL_areGuests_74 : decode cL_areGuests 74 = .ok (.if_icmp .ge 382, 3) := by decide +kernel
theorem dL_areGuests_77 : decode cL_areGuests 77 = .ok (.iload 5, 2) := by decide +kernel
theorem dL_areGuests_79 : decode cL_areGuests 79 = .ok (.ifCond .eq 377, 3) := by decide +kernel
theorem dL_areGuests_82 : decode cL_areGuests 82 = .ok (.iload_n 1, 1) := by decide +kernel
theorem dL_areGuests_83 : decode cL_areGuests 83 = .ok (.iload 6, 2) := by decide +kernel
theorem dL_areGuests_85 : decode cL_areGuests 85 = .ok (.ishr, 1) := by decide +kernel
theorem dL_areGuests_86 : decode cL_areGuests 86 = .ok (.iconst 1, 1) := by decide +kernel
theorem dL_areGuests_87 : decode cL_areGuests 87 = .ok (.iand, 1) := by decide +kernel
theorem dL_areGuests_88 : decode cL_areGuests 88 = .ok (.ifCond .ne 34, 3) := by decide +kernel
theorem dL_areGuests_91 : decode cL_areGuests 91 = .ok (.aload_n 0, 1) := by decide +kernel
theorem dL_areGuests_92 : decode cL_areGuests 92 = .ok (.iload 6, 2) := by decide +kernel
theorem dL_areGuests_94 : decode cL_areGuests 94 = .ok (.iconst 0, 1) := by decide +kernel
theorem dL_areGuests_95 : decode cL_areGuests 95 = .ok (.invokevirtual 9, 3) := by decide +kernel
theorem dL_areGuests_98 : decode cL_areGuests 98 = .ok (.iconst (-1), 1) := by decide +kernel
theorem dL_areGuests_99 : decode cL_areGuests 99 = .ok (.if_icmp .ne 17, 3) := by decide +kernel
theorem dL_areGuests_102 : decode cL_areGuests 102 = .ok (.aload_n 0, 1) := by decide +kernel
theorem dL_areGuests_103 : decode cL_areGuests 103 = .ok (.iload 6, 2) := by decide +kernel
theorem dL_areGuests_105 : decode cL_areGuests 105 = .ok (.invokevirtual 25, 3) := by decide +kernel
theorem dL_areGuests_108 : decode cL_areGuests 108 = .ok (.iconst (-1), 1) := by decide +kernel
theorem dL_areGuests_109 : decode cL_areGuests 109 = .ok (.if_icmp .ne 7, 3) := by decide +kernel
theorem dL_areGuests_112 : decode cL_areGuests 112 = .ok (.iconst 1, 1) := by decide +kernel
theorem dL_areGuests_113 : decode cL_areGuests 113 = .ok (.goto 4, 3) := by decide +kernel
theorem dL_areGuests_116 : decode cL_areGuests 116 = .ok (.iconst 0, 1) := by decide +kernel
theorem dL_areGuests_117 : decode cL_areGuests 117 = .ok (.istore 5, 2) := by decide +kernel
theorem dL_areGuests_119 : decode cL_areGuests 119 = .ok (.goto 331, 3) := by decide +kernel
theorem dL_areGuests_122 : decode cL_areGuests 122 = .ok (.iconst 0, 1) := by decide +kernel
theorem dL_areGuests_123 : decode cL_areGuests 123 = .ok (.istore 7, 2) := by decide +kernel
theorem dL_areGuests_125 : decode cL_areGuests 125 = .ok (.iconst 0, 1) := by decide +kernel
theorem dL_areGuests_126 : decode cL_areGuests 126 = .ok (.istore 8, 2) := by decide +kernel
theorem dL_areGuests_128 : decode cL_areGuests 128 = .ok (.iconst 0, 1) := by decide +kernel
theorem dL_areGuests_129 : decode cL_areGuests 129 = .ok (.istore 9, 2) := by decide +kernel
theorem dL_areGuests_131 : decode cL_areGuests 131 = .ok (.iinc 2 1, 3) := by decide +kernel
theorem dL_areGuests_134 : decode cL_areGuests 134 = .ok (.iconst 0, 1) := by decide +kernel
theorem dL_areGuests_135 : decode cL_areGuests 135 = .ok (.istore 10, 2) := by decide +kernel
theorem dL_areGuests_137 : decode cL_areGuests 137 = .ok (.iload 10, 2) := by decide +kernel
theorem dL_areGuests_139 : decode cL_areGuests 139 = .ok (.bipush 9, 2) := by decide +kernel
theorem dL_areGuests_141 : decode cL_areGuests 141 = .ok (.if_icmp .ge 73, 3) := by decide +kernel
theorem dL_areGuests_144 : decode cL_areGuests 144 = .ok (.iload_n 1, 1) := by decide +kernel
theorem dL_areGuests_145 : decode cL_areGuests 145 = .ok (.iload 10, 2) := by decide +kernel
theorem dL_areGuests_147 : decode cL_areGuests 147 = .ok (.ishr, 1) := by decide +kernel
theorem dL_areGuests_148 : decode cL_areGuests 148 = .ok (.iconst 1, 1) := by decide +kernel
theorem dL_areGuests_149 : decode cL_areGuests 149 = .ok (.iand, 1) := by decide +kernel
theorem dL_areGuests_150 : decode cL_areGuests 150 = .ok (.iconst 1, 1) := by decide +kernel
theorem dL_areGuests_151 : decode cL_areGuests 151 = .ok (.if_icmp .ne 57, 3) := by decide +kernel
theorem dL_areGuests_154 : decode cL_areGuests 154 = .ok (.iload 10, 2) := by decide +kernel
theorem dL_areGuests_156 : decode cL_areGuests 156 = .ok (.iload 6, 2) := by decide +kernel
theorem dL_areGuests_158 : decode cL_areGuests 158 = .ok (.if_icmp .eq 50, 3) := by decide +kernel
theorem dL_areGuests_161 : decode cL_areGuests 161 = .ok (.iload 7, 2) := by decide +kernel
theorem dL_areGuests_163 : decode cL_areGuests 163 = .ok (.aload_n 0, 1) := by decide +kernel
theorem dL_areGuests_164 : decode cL_areGuests 164 = .ok (.iload 6, 2) := by decide +kernel
theorem dL_areGuests_166 : decode cL_areGuests 166 = .ok (.iload 10, 2) := by decide +kernel
theorem dL_areGuests_168 : decode cL_areGuests 168 = .ok (.invokevirtual 28, 3) := by decide +kernel
theorem dL_areGuests_171 : decode cL_areGuests 171 = .ok (.iadd, 1) := by decide +kernel
theorem dL_areGuests_172 : decode cL_areGuests 172 = .ok (.istore 7, 2) := by decide +kernel
theorem dL_areGuests_174 : decode cL_areGuests 174 = .ok (.iload 8, 2) := by decide +kernel
theorem dL_areGuests_176 : decode cL_areGuests 176 = .ok (.aload_n 0, 1) := by decide +kernel
theorem dL_areGuests_177 : decode cL_areGuests 177 = .ok (.iload 10, 2) := by decide +kernel
theorem dL_areGuests_179 : decode cL_areGuests 179 = .ok (.iload 6, 2) := by decide +kernel
theorem dL_areGuests_181 : decode cL_areGuests 181 = .ok (.invokevirtual 28, 3) := by decide +kernel
theorem dL_areGuests_184 : decode cL_areGuests 184 = .ok (.iadd, 1) := by decide +kernel
theorem dL_areGuests_185 : decode cL_areGuests 185 = .ok (.istore 8, 2) := by decide +kernel
theorem dL_areGuests_187 : decode cL_areGuests 187 = .ok (.iload 9, 2) := by decide +kernel
theorem dL_areGuests_189 : decode cL_areGuests 189 = .ok (.aload_n 0, 1) := by decide +kernel
theorem dL_areGuests_190 : decode cL_areGuests 190 = .ok (.iload 10, 2) := by decide +kernel
theorem dL_areGuests_192 : decode cL_areGuests 192 = .ok (.iload 6, 2) := by decide +kernel
theorem dL_areGuests_194 : decode cL_areGuests 194 = .ok (.invokestatic 31, 3) := by decide +kernel
theorem dL_areGuests_197 : decode cL_areGuests 197 = .ok (.ifCond .eq 7, 3) := by decide +kernel
theorem dL_areGuests_200 : decode cL_areGuests 200 = .ok (.iconst 1, 1) := by decide +kernel
theorem dL_areGuests_201 : decode cL_areGuests 201 = .ok (.goto 4, 3) := by decide +kernel
theorem dL_areGuests_204 : decode cL_areGuests 204 = .ok (.iconst 0, 1) := by decide +kernel
theorem dL_areGuests_205 : decode cL_areGuests 205 = .ok (.iadd, 1) := by decide +kernel
theorem dL_areGuests_206 : decode cL_areGuests 206 = .ok (.istore 9, 2) := by decide +kernel
theorem dL_areGuests_208 : decode cL_areGuests 208 = .ok (.iinc 10 1, 3) := by decide +kernel
theorem dL_areGuests_211 : decode cL_areGuests 211 = .ok (.goto (-74), 3) := by decide +kernel
theorem dL_areGuests_214 : decode cL_areGuests 214 = .ok (.aload_n 0, 1) := by decide +kernel
theorem dL_areGuests_215 : decode cL_areGuests 215 = .ok (.iload 6, 2) := by decide +kernel
theorem dL_areGuests_217 : decode cL_areGuests 217 = .ok (.iconst 3, 1) := by decide +kernel
theorem dL_areGuests_218 : decode cL_areGuests 218 = .ok (.invokevirtual 9, 3) := by decide +kernel
theorem dL_areGuests_221 : decode cL_areGuests 221 = .ok (.aload_n 0, 1) := by decide +kernel
theorem dL_areGuests_222 : decode cL_areGuests 222 = .ok (.bipush 15, 2) := by decide +kernel
theorem dL_areGuests_224 : decode cL_areGuests 224 = .ok (.invokevirtual 15, 3) := by decide +kernel
theorem dL_areGuests_227 : decode cL_areGuests 227 = .ok (.if_icmp .lt 7, 3) := by decide +kernel
theorem dL_areGuests_230 : decode cL_areGuests 230 = .ok (.iconst 1, 1) := by decide +kernel
theorem dL_areGuests_231 : decode cL_areGuests 231 = .ok (.goto 19, 3) := by decide +kernel
theorem dL_areGuests_234 : decode cL_areGuests 234 = .ok (.iload 7, 2) := by decide +kernel
theorem dL_areGuests_236 : decode cL_areGuests 236 = .ok (.aload_n 0, 1) := by decide +kernel
theorem dL_areGuests_237 : decode cL_areGuests 237 = .ok (.bipush 14, 2) := by decide +kernel
theorem dL_areGuests_239 : decode cL_areGuests 239 = .ok (.invokevirtual 15, 3) := by decide +kernel
theorem dL_areGuests_242 : decode cL_areGuests 242 = .ok (.if_icmp .lt 7, 3) := by decide +kernel
theorem dL_areGuests_245 : decode cL_areGuests 245 = .ok (.iconst 2, 1) := by decide +kernel
theorem dL_areGuests_246 : decode cL_areGuests 246 = .ok (.goto 4, 3) := by decide +kernel
theorem dL_areGuests_249 : decode cL_areGuests 249 = .ok (.iconst 0, 1) := by decide +kernel
theorem dL_areGuests_250 : decode cL_areGuests 250 = .ok (.istore 10, 2) := by decide +kernel
theorem dL_areGuests_252 : decode cL_areGuests 252 = .ok (.iload_n 3, 1) := by decide +kernel
theorem dL_areGuests_253 : decode cL_areGuests 253 = .ok (.iload 7, 2) := by decide +kernel
theorem dL_areGuests_255 : decode cL_areGuests 255 = .ok (.iadd, 1) := by decide +kernel
theorem dL_areGuests_256 : decode cL_areGuests 256 = .ok (.istore_n 3, 1) := by decide +kernel
theorem dL_areGuests_257 : decode cL_areGuests 257 = .ok (.iload 4, 2) := by decide +kernel
theorem dL_areGuests_259 : decode cL_areGuests 259 = .ok (.iload 10, 2) := by decide +kernel
theorem dL_areGuests_261 : decode cL_areGuests 261 = .ok (.ifCond .le 10, 3) := by decide +kernel
theorem dL_areGuests_264 : decode cL_areGuests 264 = .ok (.iconst 1, 1) := by decide +kernel
theorem dL_areGuests_265 : decode cL_areGuests 265 = .ok (.iload 6, 2) := by decide +kernel
theorem dL_areGuests_267 : decode cL_areGuests 267 = .ok (.ishl, 1) := by decide +kernel
theorem dL_areGuests_268 : decode cL_areGuests 268 = .ok (.goto 4, 3) := by decide +kernel
theorem dL_areGuests_271 : decode cL_areGuests 271 = .ok (.iconst 0, 1) := by decide +kernel
theorem dL_areGuests_272 : decode cL_areGuests 272 = .ok (.ior, 1) := by decide +kernel
theorem dL_areGuests_273 : decode cL_areGuests 273 = .ok (.istore 4, 2) := by decide +kernel
theorem dL_areGuests_275 : decode cL_areGuests 275 = .ok (.aload_n 0, 1) := by decide +kernel
theorem dL_areGuests_276 : decode cL_areGuests 276 = .ok (.aload_n 0, 1) := by decide +kernel
theorem dL_areGuests_277 : decode cL_areGuests 277 = .ok (.iload 6, 2) := by decide +kernel
theorem dL_areGuests_279 : decode cL_areGuests 279 = .ok (.iconst 0, 1) := by decide +kernel
theorem dL_areGuests_280 : decode cL_areGuests 280 = .ok (.invokevirtual 9, 3) := by decide +kernel
theorem dL_areGuests_283 : decode cL_areGuests 283 = .ok (.invokevirtual 19, 3) := by decide +kernel
theorem dL_areGuests_286 : decode cL_areGuests 286 = .ok (.iload 6, 2) := by decide +kernel
theorem dL_areGuests_288 : decode cL_areGuests 288 = .ok (.if_icmp .ne 91, 3) := by decide +kernel
theorem dL_areGuests_291 : decode cL_areGuests 291 = .ok (.aload_n 0, 1) := by decide +kernel
theorem dL_areGuests_292 : decode cL_areGuests 292 = .ok (.iload 9, 2) := by decide +kernel
theorem dL_areGuests_294 : decode cL_areGuests 294 = .ok (.invokevirtual 22, 3) := by decide +kernel
theorem dL_areGuests_297 : decode cL_areGuests 297 = .ok (.iload 6, 2) := by decide +kernel
theorem dL_areGuests_299 : decode cL_areGuests 299 = .ok (.if_icmp .ne 80, 3) := by decide +kernel
theorem dL_areGuests_302 : decode cL_areGuests 302 = .ok (.aload_n 0, 1) := by decide +kernel
theorem dL_areGuests_303 : decode cL_areGuests 303 = .ok (.iload 6, 2) := by decide +kernel
theorem dL_areGuests_305 : decode cL_areGuests 305 = .ok (.bipush 9, 2) := by decide +kernel
theorem dL_areGuests_307 : decode cL_areGuests 307 = .ok (.invokevirtual 9, 3) := by decide +kernel
theorem dL_areGuests_310 : decode cL_areGuests 310 = .ok (.iload 9, 2) := by decide +kernel
theorem dL_areGuests_312 : decode cL_areGuests 312 = .ok (.if_icmp .ne 67, 3) := by decide +kernel
theorem dL_areGuests_315 : decode cL_areGuests 315 = .ok (.aload_n 0, 1) := by decide +kernel
theorem dL_areGuests_316 : decode cL_areGuests 316 = .ok (.iload 6, 2) := by decide +kernel
theorem dL_areGuests_318 : decode cL_areGuests 318 = .ok (.bipush 6, 2) := by decide +kernel
theorem dL_areGuests_320 : decode cL_areGuests 320 = .ok (.invokevirtual 9, 3) := by decide +kernel
theorem dL_areGuests_323 : decode cL_areGuests 323 = .ok (.iload 7, 2) := by decide +kernel
theorem dL_areGuests_325 : decode cL_areGuests 325 = .ok (.if_icmp .ne 54, 3) := by decide +kernel
theorem dL_areGuests_328 : decode cL_areGuests 328 = .ok (.aload_n 0, 1) := by decide +kernel
theorem dL_areGuests_329 : decode cL_areGuests 329 = .ok (.iload 6, 2) := by decide +kernel
theorem dL_areGuests_331 : decode cL_areGuests 331 = .ok (.bipush 7, 2) := by decide +kernel
theorem dL_areGuests_333 : decode cL_areGuests 333 = .ok (.invokevirtual 9, 3) := by decide +kernel
theorem dL_areGuests_336 : decode cL_areGuests 336 = .ok (.iload 8, 2) := by decide +kernel
theorem dL_areGuests_338 : decode cL_areGuests 338 = .ok (.if_icmp .ne 41, 3) := by decide +kernel
theorem dL_areGuests_341 : decode cL_areGuests 341 = .ok (.aload_n 0, 1) := by decide +kernel
theorem dL_areGuests_342 : decode cL_areGuests 342 = .ok (.iload 6, 2) := by decide +kernel
theorem dL_areGuests_344 : decode cL_areGuests 344 = .ok (.invokevirtual 25, 3) := by decide +kernel
theorem dL_areGuests_347 : decode cL_areGuests 347 = .ok (.iload 10, 2) := by decide +kernel
theorem dL_areGuests_349 : decode cL_areGuests 349 = .ok (.if_icmp .ne 30, 3) := by decide +kernel
theorem dL_areGuests_352 : decode cL_areGuests 352 = .ok (.aload_n 0, 1) := by decide +kernel
theorem dL_areGuests_353 : decode cL_areGuests 353 = .ok (.iload 6, 2) := by decide +kernel
theorem dL_areGuests_355 : decode cL_areGuests 355 = .ok (.iload 6, 2) := by decide +kernel
theorem dL_areGuests_357 : decode cL_areGuests 357 = .ok (.invokevirtual 28, 3) := by decide +kernel
theorem dL_areGuests_360 : decode cL_areGuests 360 = .ok (.bipush (-2), 2) := by decide +kernel
theorem dL_areGuests_362 : decode cL_areGuests 362 = .ok (.if_icmp .ne 17, 3) := by decide +kernel
theorem dL_areGuests_365 : decode cL_areGuests 365 = .ok (.aload_n 0, 1) := by decide +kernel
theorem dL_areGuests_366 : decode cL_areGuests 366 = .ok (.iload 6, 2) := by decide +kernel
theorem dL_areGuests_368 : decode cL_areGuests 368 = .ok (.iconst 2, 1) := by decide +kernel
theorem dL_areGuests_369 : decode cL_areGuests 369 = .ok (.invokevirtual 9, 3) := by decide +kernel
theorem dL_areGuests_372 : decode cL_areGuests 372 = .ok (.ifCond .lt 7, 3) := by decide +kernel
theorem dL_areGuests_375 : decode cL_areGuests 375 = .ok (.iconst 1, 1) := by decide +kernel
theorem dL_areGuests_376 : decode cL_areGuests 376 = .ok (.goto 4, 3) := by decide +kernel
theorem dL_areGuests_379 : decode cL_areGuests 379 = .ok (.iconst 0, 1) := by decide +kernel
theorem dL_areGuests_380 : decode cL_areGuests 380 = .ok (.istore 5, 2) := by decide +kernel
theorem dL_areGuests_382 : decode cL_areGuests 382 = .ok (.iload 5, 2) := by decide +kernel
theorem dL_areGuests_384 : decode cL_areGuests 384 = .ok (.ifCond .eq 63, 3) := by decide +kernel
theorem dL_areGuests_387 : decode cL_areGuests 387 = .ok (.aload_n 0, 1) := by decide +kernel
theorem dL_areGuests_388 : decode cL_areGuests 388 = .ok (.iload 6, 2) := by decide +kernel
theorem dL_areGuests_390 : decode cL_areGuests 390 = .ok (.iload 9, 2) := by decide +kernel
theorem dL_areGuests_392 : decode cL_areGuests 392 = .ok (.invokevirtual 37, 3) := by decide +kernel
theorem dL_areGuests_395 : decode cL_areGuests 395 = .ok (.ifCond .ne 52, 3) := by decide +kernel
theorem dL_areGuests_398 : decode cL_areGuests 398 = .ok (.iload 9, 2) := by decide +kernel
theorem dL_areGuests_400 : decode cL_areGuests 400 = .ok (.ifCond .eq 16, 3) := by decide +kernel
theorem dL_areGuests_403 : decode cL_areGuests 403 = .ok (.aload_n 0, 1) := by decide +kernel
theorem dL_areGuests_404 : decode cL_areGuests 404 = .ok (.iload 6, 2) := by decide +kernel
theorem dL_areGuests_406 : decode cL_areGuests 406 = .ok (.iload 9, 2) := by decide +kernel
theorem dL_areGuests_408 : decode cL_areGuests 408 = .ok (.iconst 1, 1) := by decide +kernel
theorem dL_areGuests_409 : decode cL_areGuests 409 = .ok (.isub, 1) := by decide +kernel
theorem dL_areGuests_410 : decode cL_areGuests 410 = .ok (.invokevirtual 37, 3) := by decide +kernel
theorem dL_areGuests_413 : decode cL_areGuests 413 = .ok (.ifCond .eq 34, 3) := by decide +kernel
theorem dL_areGuests_416 : decode cL_areGuests 416 = .ok (.aload_n 0, 1) := by decide +kernel
theorem dL_areGuests_417 : decode cL_areGuests 417 = .ok (.iload 6, 2) := by decide +kernel
theorem dL_areGuests_419 : decode cL_areGuests 419 = .ok (.invokevirtual 40, 3) := by decide +kernel
theorem dL_areGuests_422 : decode cL_areGuests 422 = .ok (.iload 9, 2) := by decide +kernel
theorem dL_areGuests_424 : decode cL_areGuests 424 = .ok (.if_icmp .lt 23, 3) := by decide +kernel
theorem dL_areGuests_427 : decode cL_areGuests 427 = .ok (.aload_n 0, 1) := by decide +kernel
theorem dL_areGuests_428 : decode cL_areGuests 428 = .ok (.aload_n 0, 1) := by decide +kernel
theorem dL_areGuests_429 : decode cL_areGuests 429 = .ok (.iload 6, 2) := by decide +kernel
theorem dL_areGuests_431 : decode cL_areGuests 431 = .ok (.iconst 2, 1) := by decide +kernel
theorem dL_areGuests_432 : decode cL_areGuests 432 = .ok (.invokevirtual 9, 3) := by decide +kernel
theorem dL_areGuests_435 : decode cL_areGuests 435 = .ok (.invokevirtual 43, 3) := by decide +kernel
theorem dL_areGuests_438 : decode cL_areGuests 438 = .ok (.iload 9, 2) := by decide +kernel
theorem dL_areGuests_440 : decode cL_areGuests 440 = .ok (.if_icmp .le 7, 3) := by decide +kernel
theorem dL_areGuests_443 : decode cL_areGuests 443 = .ok (.iconst 1, 1) := by decide +kernel
theorem dL_areGuests_444 : decode cL_areGuests 444 = .ok (.goto 4, 3) := by decide +kernel
theorem dL_areGuests_447 : decode cL_areGuests 447 = .ok (.iconst 0, 1) := by decide +kernel
theorem dL_areGuests_448 : decode cL_areGuests 448 = .ok (.istore 5, 2) := by decide +kernel
theorem dL_areGuests_450 : decode cL_areGuests 450 = .ok (.iinc 6 1, 3) := by decide +kernel
theorem dL_areGuests_453 : decode cL_areGuests 453 = .ok (.goto (-383), 3) := by decide +kernel
theorem dL_areGuests_456 : decode cL_areGuests 456 = .ok (.iload 5, 2) := by decide +kernel
theorem dL_areGuests_458 : decode cL_areGuests 458 = .ok (.ifCond .eq 85, 3) := by decide +kernel
theorem dL_areGuests_461 : decode cL_areGuests 461 = .ok (.iload_n 2, 1) := by decide +kernel
theorem dL_areGuests_462 : decode cL_areGuests 462 = .ok (.aload_n 0, 1) := by decide +kernel
theorem dL_areGuests_463 : decode cL_areGuests 463 = .ok (.iconst 1, 1) := by decide +kernel
theorem dL_areGuests_464 : decode cL_areGuests 464 = .ok (.invokevirtual 15, 3) := by decide +kernel
theorem dL_areGuests_467 : decode cL_areGuests 467 = .ok (.if_icmp .ne 76, 3) := by decide +kernel
theorem dL_areGuests_470 : decode cL_areGuests 470 = .ok (.iload_n 3, 1) := by decide +kernel
theorem dL_areGuests_471 : decode cL_areGuests 471 = .ok (.aload_n 0, 1) := by decide +kernel
theorem dL_areGuests_472 : decode cL_areGuests 472 = .ok (.iconst 4, 1) := by decide +kernel
theorem dL_areGuests_473 : decode cL_areGuests 473 = .ok (.invokevirtual 15, 3) := by decide +kernel
theorem dL_areGuests_476 : decode cL_areGuests 476 = .ok (.if_icmp .ne 67, 3) := by decide +kernel
theorem dL_areGuests_479 : decode cL_areGuests 479 = .ok (.iload 4, 2) := by decide +kernel
theorem dL_areGuests_481 : decode cL_areGuests 481 = .ok (.aload_n 0, 1) := by decide +kernel
theorem dL_areGuests_482 : decode cL_areGuests 482 = .ok (.bipush 12, 2) := by decide +kernel
theorem dL_areGuests_484 : decode cL_areGuests 484 = .ok (.invokevirtual 15, 3) := by decide +kernel
theorem dL_areGuests_487 : decode cL_areGuests 487 = .ok (.if_icmp .ne 56, 3) := by decide +kernel
theorem dL_areGuests_490 : decode cL_areGuests 490 = .ok (.aload_n 0, 1) := by decide +kernel
theorem dL_areGuests_491 : decode cL_areGuests 491 = .ok (.bipush 8, 2) := by decide +kernel
theorem dL_areGuests_493 : decode cL_areGuests 493 = .ok (.invokevirtual 15, 3) := by decide +kernel
theorem dL_areGuests_496 : decode cL_areGuests 496 = .ok (.iload_n 3, 1) := by decide +kernel
theorem dL_areGuests_497 : decode cL_areGuests 497 = .ok (.aload_n 0, 1) := by decide +kernel
theorem dL_areGuests_498 : decode cL_areGuests 498 = .ok (.iconst 5, 1) := by decide +kernel
theorem dL_areGuests_499 : decode cL_areGuests 499 = .ok (.invokevirtual 15, 3) := by decide +kernel
theorem dL_areGuests_502 : decode cL_areGuests 502 = .ok (.iadd, 1) := by decide +kernel
theorem dL_areGuests_503 : decode cL_areGuests 503 = .ok (.aload_n 0, 1) := by decide +kernel
theorem dL_areGuests_504 : decode cL_areGuests 504 = .ok (.bipush 6, 2) := by decide +kernel
theorem dL_areGuests_506 : decode cL_areGuests 506 = .ok (.invokevirtual 15, 3) := by decide +kernel
theorem dL_areGuests_509 : decode cL_areGuests 509 = .ok (.iadd, 1) := by decide +kernel
theorem dL_areGuests_510 : decode cL_areGuests 510 = .ok (.aload_n 0, 1) := by decide +kernel
theorem dL_areGuests_511 : decode cL_areGuests 511 = .ok (.bipush 7, 2) := by decide +kernel
theorem dL_areGuests_513 : decode cL_areGuests 513 = .ok (.invokevirtual 15, 3) := by decide +kernel
theorem dL_areGuests_516 : decode cL_areGuests 516 = .ok (.iadd, 1) := by decide +kernel
theorem dL_areGuests_517 : decode cL_areGuests 517 = .ok (.if_icmp .ne 26, 3) := by decide +kernel
theorem dL_areGuests_520 : decode cL_areGuests 520 = .ok (.aload_n 0, 1) := by decide +kernel
theorem dL_areGuests_521 : decode cL_areGuests 521 = .ok (.iconst 0, 1) := by decide +kernel
theorem dL_areGuests_522 : decode cL_areGuests 522 = .ok (.invokevirtual 43, 3) := by decide +kernel
theorem dL_areGuests_525 : decode cL_areGuests 525 = .ok (.iload_n 2, 1) := by decide +kernel
theorem dL_areGuests_526 : decode cL_areGuests 526 = .ok (.if_icmp .ne 17, 3) := by decide +kernel
theorem dL_areGuests_529 : decode cL_areGuests 529 = .ok (.aload_n 0, 1) := by decide +kernel
theorem dL_areGuests_530 : decode cL_areGuests 530 = .ok (.iconst (-1), 1) := by decide +kernel
theorem dL_areGuests_531 : decode cL_areGuests 531 = .ok (.invokevirtual 43, 3) := by decide +kernel
theorem dL_areGuests_534 : decode cL_areGuests 534 = .ok (.bipush (-2), 2) := by decide +kernel
theorem dL_areGuests_536 : decode cL_areGuests 536 = .ok (.if_icmp .ne 7, 3) := by decide +kernel
theorem dL_areGuests_539 : decode cL_areGuests 539 = .ok (.iconst 1, 1) := by decide +kernel
theorem dL_areGuests_540 : decode cL_areGuests 540 = .ok (.goto 4, 3) := by decide +kernel
theorem dL_areGuests_543 : decode cL_areGuests 543 = .ok (.iconst 0, 1) := by decide +kernel
theorem dL_areGuests_544 : decode cL_areGuests 544 = .ok (.ireturn, 1) := by decide +kernel
theorem dL_isRound_0 : decode cL_isRound 0 = .ok (.aload_n 0, 1) := by decide +kernel
theorem dL_isRound_1 : decode cL_isRound 1 = .ok (.iconst 0, 1) := by decide +kernel
theorem dL_isRound_2 : decode cL_isRound 2 = .ok (.invokevirtual 46, 3) := by decide +kernel
theorem dL_isRound_5 : decode cL_isRound 5 = .ok (.istore_n 1, 1) := by decide +kernel
theorem dL_isRound_6 : decode cL_isRound 6 = .ok (.aload_n 0, 1) := by decide +kernel
theorem dL_isRound_7 : decode cL_isRound 7 = .ok (.iconst 1, 1) := by decide +kernel
theorem dL_isRound_8 : decode cL_isRound 8 = .ok (.invokevirtual 46, 3) := by decide +kernel
theorem dL_isRound_11 : decode cL_isRound 11 = .ok (.istore_n 2, 1) := by decide +kernel
theorem dL_isRound_12 : decode cL_isRound 12 = .ok (.aload_n 0, 1) := by decide +kernel
theorem dL_isRound_13 : decode cL_isRound 13 = .ok (.iconst 2, 1) := by decide +kernel
theorem dL_isRound_14 : decode cL_isRound 14 = .ok (.invokevirtual 46, 3) := by decide +kernel
theorem dL_isRound_17 : decode cL_isRound 17 = .ok (.istore_n 3, 1) := by decide +kernel
theorem dL_isRound_18 : decode cL_isRound 18 = .ok (.aload_n 0, 1) := by decide +kernel
theorem dL_isRound_19 : decode cL_isRound 19 = .ok (.iconst 0, 1) := by decide +kernel
theorem dL_isRound_20 : decode cL_isRound 20 = .ok (.invokevirtual 15, 3) := by decide +kernel
theorem dL_isRound_23 : decode cL_isRound 23 = .ok (.istore 4, 2) := by decide +kernel
theorem dL_isRound_25 : decode cL_isRound 25 = .ok (.aload_n 0, 1) := by decide +kernel
theorem dL_isRound_26 : decode cL_isRound 26 = .ok (.iconst 3, 1) := by decide +kernel
theorem dL_isRound_27 : decode cL_isRound 27 = .ok (.invokevirtual 15, 3) := by decide +kernel
theorem dL_isRound_30 : decode cL_isRound 30 = .ok (.istore 5, 2) := by decide +kernel
theorem dL_isRound_32 : decode cL_isRound 32 = .ok (.aload_n 0, 1) := by decide +kernel
theorem dL_isRound_33 : decode cL_isRound 33 = .ok (.iconst 2, 1) := by decide +kernel
theorem dL_isRound_34 : decode cL_isRound 34 = .ok (.invokevirtual 15, 3) := by decide +kernel
theorem dL_isRound_37 : decode cL_isRound 37 = .ok (.istore 6, 2) := by decide +kernel
theorem dL_isRound_39 : decode cL_isRound 39 = .ok (.aload_n 0, 1) := by decide +kernel
theorem dL_isRound_40 : decode cL_isRound 40 = .ok (.invokevirtual 49, 3) := by decide +kernel
theorem dL_isRound_43 : decode cL_isRound 43 = .ok (.istore 7, 2) := by decide +kernel
theorem dL_isRound_45 : decode cL_isRound 45 = .ok (.aload_n 0, 1) := by decide +kernel
theorem dL_isRound_46 : decode cL_isRound 46 = .ok (.iconst 1, 1) := by decide +kernel
theorem dL_isRound_47 : decode cL_isRound 47 = .ok (.invokevirtual 15, 3) := by decide +kernel
theorem dL_isRound_50 : decode cL_isRound 50 = .ok (.ifCond .ne 22, 3) := by decide +kernel
theorem dL_isRound_53 : decode cL_isRound 53 = .ok (.iload 7, 2) := by decide +kernel
theorem dL_isRound_55 : decode cL_isRound 55 = .ok (.bipush (-5), 2) := by decide +kernel
theorem dL_isRound_57 : decode cL_isRound 57 = .ok (.if_icmp .ne 13, 3) := by decide +kernel
theorem dL_isRound_60 : decode cL_isRound 60 = .ok (.iload_n 1, 1) := by decide +kernel
theorem dL_isRound_61 : decode cL_isRound 61 = .ok (.bipush (-5), 2) := by decide +kernel
theorem dL_isRound_63 : decode cL_isRound 63 = .ok (.if_icmp .ne 7, 3) := by decide +kernel
theorem dL_isRound_66 : decode cL_isRound 66 = .ok (.iconst 1, 1) := by decide +kernel
theorem dL_isRound_67 : decode cL_isRound 67 = .ok (.goto 4, 3) := by decide +kernel
theorem dL_isRound_70 : decode cL_isRound 70 = .ok (.iconst 0, 1) := by decide +kernel
theorem dL_isRound_71 : decode cL_isRound 71 = .ok (.ireturn, 1) := by decide +kernel
theorem dL_isRound_72 : decode cL_isRound 72 = .ok (.iload 7, 2) := by decide +kernel
theorem dL_isRound_74 : decode cL_isRound 74 = .ok (.iload_n 1, 1) := by decide +kernel
theorem dL_isRound_75 : decode cL_isRound 75 = .ok (.if_icmp .ne 71, 3) := by decide +kernel
theorem dL_isRound_78 : decode cL_isRound 78 = .ok (.iload_n 2, 1) := by decide +kernel
theorem dL_isRound_79 : decode cL_isRound 79 = .ok (.iload_n 1, 1) := by decide +kernel
theorem dL_isRound_80 : decode cL_isRound 80 = .ok (.aload_n 0, 1) := by decide +kernel
theorem dL_isRound_81 : decode cL_isRound 81 = .ok (.bipush 13, 2) := by decide +kernel
theorem dL_isRound_83 : decode cL_isRound 83 = .ok (.invokevirtual 15, 3) := by decide +kernel
theorem dL_isRound_86 : decode cL_isRound 86 = .ok (.imul, 1) := by decide +kernel
theorem dL_isRound_87 : decode cL_isRound 87 = .ok (.if_icmp .ne 59, 3) := by decide +kernel
theorem dL_isRound_90 : decode cL_isRound 90 = .ok (.aload_n 0, 1) := by decide +kernel
theorem dL_isRound_91 : decode cL_isRound 91 = .ok (.iconst 0, 1) := by decide +kernel
theorem dL_isRound_92 : decode cL_isRound 92 = .ok (.invokevirtual 15, 3) := by decide +kernel
theorem dL_isRound_95 : decode cL_isRound 95 = .ok (.iload 4, 2) := by decide +kernel
theorem dL_isRound_97 : decode cL_isRound 97 = .ok (.iload_n 2, 1) := by decide +kernel
theorem dL_isRound_98 : decode cL_isRound 98 = .ok (.iadd, 1) := by decide +kernel
theorem dL_isRound_99 : decode cL_isRound 99 = .ok (.if_icmp .ne 47, 3) := by decide +kernel
theorem dL_isRound_102 : decode cL_isRound 102 = .ok (.aload_n 0, 1) := by decide +kernel
theorem dL_isRound_103 : decode cL_isRound 103 = .ok (.iconst 3, 1) := by decide +kernel
theorem dL_isRound_104 : decode cL_isRound 104 = .ok (.invokevirtual 15, 3) := by decide +kernel
theorem dL_isRound_107 : decode cL_isRound 107 = .ok (.iload 5, 2) := by decide +kernel
theorem dL_isRound_109 : decode cL_isRound 109 = .ok (.iload_n 1, 1) := by decide +kernel
theorem dL_isRound_110 : decode cL_isRound 110 = .ok (.iadd, 1) := by decide +kernel
theorem dL_isRound_111 : decode cL_isRound 111 = .ok (.if_icmp .ne 35, 3) := by decide +kernel
theorem dL_isRound_114 : decode cL_isRound 114 = .ok (.aload_n 0, 1) := by decide +kernel
theorem dL_isRound_115 : decode cL_isRound 115 = .ok (.iconst 2, 1) := by decide +kernel
theorem dL_isRound_116 : decode cL_isRound 116 = .ok (.invokevirtual 15, 3) := by decide +kernel
theorem dL_isRound_119 : decode cL_isRound 119 = .ok (.iload 6, 2) := by decide +kernel
theorem dL_isRound_121 : decode cL_isRound 121 = .ok (.iconst 1, 1) := by decide +kernel
theorem dL_isRound_122 : decode cL_isRound 122 = .ok (.iadd, 1) := by decide +kernel
theorem dL_isRound_123 : decode cL_isRound 123 = .ok (.if_icmp .ne 23, 3) := by decide +kernel
theorem dL_isRound_126 : decode cL_isRound 126 = .ok (.aload_n 0, 1) := by decide +kernel
theorem dL_isRound_127 : decode cL_isRound 127 = .ok (.iconst 0, 1) := by decide +kernel
theorem dL_isRound_128 : decode cL_isRound 128 = .ok (.invokevirtual 19, 3) := by decide +kernel
theorem dL_isRound_131 : decode cL_isRound 131 = .ok (.iload_n 3, 1) := by decide +kernel
theorem dL_isRound_132 : decode cL_isRound 132 = .ok (.if_icmp .ne 14, 3) := by decide +kernel
theorem dL_isRound_135 : decode cL_isRound 135 = .ok (.aload_n 0, 1) := by decide +kernel
theorem dL_isRound_136 : decode cL_isRound 136 = .ok (.invokevirtual 53, 3) := by decide +kernel
theorem dL_isRound_139 : decode cL_isRound 139 = .ok (.ifCond .ne 7, 3) := by decide +kernel
theorem dL_isRound_142 : decode cL_isRound 142 = .ok (.iconst 1, 1) := by decide +kernel
theorem dL_isRound_143 : decode cL_isRound 143 = .ok (.goto 4, 3) := by decide +kernel
theorem dL_isRound_146 : decode cL_isRound 146 = .ok (.iconst 0, 1) := by decide +kernel
theorem dL_isRound_147 : decode cL_isRound 147 = .ok (.istore 8, 2) := by decide +kernel
theorem dL_isRound_149 : decode cL_isRound 149 = .ok (.iconst 0, 1) := by decide +kernel
theorem dL_isRound_150 : decode cL_isRound 150 = .ok (.istore 9, 2) := by decide +kernel
theorem dL_isRound_152 : decode cL_isRound 152 = .ok (.iload 9, 2) := by decide +kernel
theorem dL_isRound_154 : decode cL_isRound 154 = .ok (.aload_n 0, 1) := by decide +kernel
theorem dL_isRound_155 : decode cL_isRound 155 = .ok (.iconst 1, 1) := by decide +kernel
theorem dL_isRound_156 : decode cL_isRound 156 = .ok (.invokevirtual 15, 3) := by decide +kernel
theorem dL_isRound_159 : decode cL_isRound 159 = .ok (.if_icmp .ge 53, 3) := by decide +kernel
theorem dL_isRound_162 : decode cL_isRound 162 = .ok (.iload 8, 2) := by decide +kernel
theorem dL_isRound_164 : decode cL_isRound 164 = .ok (.ifCond .eq 48, 3) := by decide +kernel
theorem dL_isRound_167 : decode cL_isRound 167 = .ok (.aload_n 0, 1) := by decide +kernel
theorem dL_isRound_168 : decode cL_isRound 168 = .ok (.iload 9, 2) := by decide +kernel
theorem dL_isRound_170 : decode cL_isRound 170 = .ok (.invokevirtual 22, 3) := by decide +kernel
theorem dL_isRound_173 : decode cL_isRound 173 = .ok (.aload_n 0, 1) := by decide +kernel
theorem dL_isRound_174 : decode cL_isRound 174 = .ok (.iload 9, 2) := by decide +kernel
theorem dL_isRound_176 : decode cL_isRound 176 = .ok (.invokevirtual 19, 3) := by decide +kernel
theorem dL_isRound_179 : decode cL_isRound 179 = .ok (.if_icmp .ne 24, 3) := by decide +kernel
theorem dL_isRound_182 : decode cL_isRound 182 = .ok (.aload_n 0, 1) := by decide +kernel
theorem dL_isRound_183 : decode cL_isRound 183 = .ok (.aload_n 0, 1) := by decide +kernel
theorem dL_isRound_184 : decode cL_isRound 184 = .ok (.iload 9, 2) := by decide +kernel
theorem dL_isRound_186 : decode cL_isRound 186 = .ok (.invokevirtual 19, 3) := by decide +kernel
theorem dL_isRound_189 : decode cL_isRound 189 = .ok (.bipush 9, 2) := by decide +kernel
theorem dL_isRound_191 : decode cL_isRound 191 = .ok (.invokevirtual 9, 3) := by decide +kernel
theorem dL_isRound_194 : decode cL_isRound 194 = .ok (.iload 9, 2) := by decide +kernel
theorem dL_isRound_196 : decode cL_isRound 196 = .ok (.if_icmp .ne 7, 3) := by decide +kernel
theorem dL_isRound_199 : decode cL_isRound 199 = .ok (.iconst 1, 1) := by decide +kernel
theorem dL_isRound_200 : decode cL_isRound 200 = .ok (.goto 4, 3) := by decide +kernel
theorem dL_isRound_203 : decode cL_isRound 203 = .ok (.iconst 0, 1) := by decide +kernel
theorem dL_isRound_204 : decode cL_isRound 204 = .ok (.istore 8, 2) := by decide +kernel
theorem dL_isRound_206 : decode cL_isRound 206 = .ok (.iinc 9 1, 3) := by decide +kernel
theorem dL_isRound_209 : decode cL_isRound 209 = .ok (.goto (-57), 3) := by decide +kernel
theorem dL_isRound_212 : decode cL_isRound 212 = .ok (.iload 8, 2) := by decide +kernel
theorem dL_isRound_214 : decode cL_isRound 214 = .ok (.ireturn, 1) := by decide +kernel
theorem dL_acts_0 : decode cL_acts 0 = .ok (.iload_n 1, 1) := by decide +kernel
theorem dL_acts_1 : decode cL_acts 1 = .ok (.iconst 4, 1) := by decide +kernel
theorem dL_acts_2 : decode cL_acts 2 = .ok (.ishr, 1) := by decide +kernel
theorem dL_acts_3 : decode cL_acts 3 = .ok (.bipush 9, 2) := by decide +kernel
theorem dL_acts_5 : decode cL_acts 5 = .ok (.irem, 1) := by decide +kernel
theorem dL_acts_6 : decode cL_acts 6 = .ok (.istore_n 2, 1) := by decide +kernel
theorem dL_acts_7 : decode cL_acts 7 = .ok (.iload_n 1, 1) := by decide +kernel
theorem dL_acts_8 : decode cL_acts 8 = .ok (.bipush 8, 2) := by decide +kernel
theorem dL_acts_10 : decode cL_acts 10 = .ok (.ishr, 1) := by decide +kernel
theorem dL_acts_11 : decode cL_acts 11 = .ok (.bipush 9, 2) := by decide +kernel
theorem dL_acts_13 : decode cL_acts 13 = .ok (.irem, 1) := by decide +kernel
theorem dL_acts_14 : decode cL_acts 14 = .ok (.istore_n 3, 1) := by decide +kernel
theorem dL_acts_15 : decode cL_acts 15 = .ok (.aload_n 0, 1) := by decide +kernel
theorem dL_acts_16 : decode cL_acts 16 = .ok (.iload_n 2, 1) := by decide +kernel
theorem dL_acts_17 : decode cL_acts 17 = .ok (.iconst 0, 1) := by decide +kernel
theorem dL_acts_18 : decode cL_acts 18 = .ok (.invokevirtual 9, 3) := by decide +kernel
theorem dL_acts_21 : decode cL_acts 21 = .ok (.istore 4, 2) := by decide +kernel
theorem dL_acts_23 : decode cL_acts 23 = .ok (.aload_n 0, 1) := by decide +kernel
theorem dL_acts_24 : decode cL_acts 24 = .ok (.iload_n 2, 1) := by decide +kernel
theorem dL_acts_25 : decode cL_acts 25 = .ok (.iconst 2, 1) := by decide +kernel
theorem dL_acts_26 : decode cL_acts 26 = .ok (.invokevirtual 9, 3) := by decide +kernel
theorem dL_acts_29 : decode cL_acts 29 = .ok (.istore 5, 2) := by decide +kernel
theorem dL_acts_31 : decode cL_acts 31 = .ok (.aload_n 0, 1) := by decide +kernel
theorem dL_acts_32 : decode cL_acts 32 = .ok (.iconst 1, 1) := by decide +kernel
theorem dL_acts_33 : decode cL_acts 33 = .ok (.invokevirtual 15, 3) := by decide +kernel
theorem dL_acts_36 : decode cL_acts 36 = .ok (.istore 6, 2) := by decide +kernel
theorem dL_acts_38 : decode cL_acts 38 = .ok (.aload_n 0, 1) := by decide +kernel
theorem dL_acts_39 : decode cL_acts 39 = .ok (.iload_n 2, 1) := by decide +kernel
theorem dL_acts_40 : decode cL_acts 40 = .ok (.iload_n 3, 1) := by decide +kernel
theorem dL_acts_41 : decode cL_acts 41 = .ok (.invokevirtual 28, 3) := by decide +kernel
theorem dL_acts_44 : decode cL_acts 44 = .ok (.istore 7, 2) := by decide +kernel
theorem dL_acts_46 : decode cL_acts 46 = .ok (.iload_n 1, 1) := by decide +kernel
theorem dL_acts_47 : decode cL_acts 47 = .ok (.bipush 12, 2) := by decide +kernel
theorem dL_acts_49 : decode cL_acts 49 = .ok (.irem, 1) := by decide +kernel
theorem dL_acts_50 : decode cL_acts 50 = .ok (.tableswitch 677 0 9 #[54, 54, 54, 163, 265, 325, 418, 418, 578, 583], 54) := by decide +kernel
theorem dL_acts_104 : decode cL_acts 104 = .ok (.aload_n 0, 1) := by decide +kernel
theorem dL_acts_105 : decode cL_acts 105 = .ok (.iconst 1, 1) := by decide +kernel
theorem dL_acts_106 : decode cL_acts 106 = .ok (.iload_n 1, 1) := by decide +kernel
theorem dL_acts_107 : decode cL_acts 107 = .ok (.bipush 12, 2) := by decide +kernel
theorem dL_acts_109 : decode cL_acts 109 = .ok (.ishr, 1) := by decide +kernel
theorem dL_acts_110 : decode cL_acts 110 = .ok (.bipush 30, 2) := by decide +kernel
theorem dL_acts_112 : decode cL_acts 112 = .ok (.irem, 1) := by decide +kernel
theorem dL_acts_113 : decode cL_acts 113 = .ok (.iadd, 1) := by decide +kernel
theorem dL_acts_114 : decode cL_acts 114 = .ok (.invokevirtual 56, 3) := by decide +kernel
theorem dL_acts_117 : decode cL_acts 117 = .ok (.istore 8, 2) := by decide +kernel
theorem dL_acts_119 : decode cL_acts 119 = .ok (.iload 6, 2) := by decide +kernel
theorem dL_acts_121 : decode cL_acts 121 = .ok (.bipush 9, 2) := by decide +kernel
theorem dL_acts_123 : decode cL_acts 123 = .ok (.if_icmp .ne 18, 3) := by decide +kernel
theorem dL_acts_126 : decode cL_acts 126 = .ok (.iload 8, 2) := by decide +kernel
theorem dL_acts_128 : decode cL_acts 128 = .ok (.bipush (-4), 2) := by decide +kernel
theorem dL_acts_130 : decode cL_acts 130 = .ok (.if_icmp .ne 7, 3) := by decide +kernel
theorem dL_acts_133 : decode cL_acts 133 = .ok (.iconst 1, 1) := by decide +kernel
theorem dL_acts_134 : decode cL_acts 134 = .ok (.goto 78, 3) := by decide +kernel
theorem dL_acts_137 : decode cL_acts 137 = .ok (.iconst 0, 1) := by decide +kernel
theorem dL_acts_138 : decode cL_acts 138 = .ok (.goto 74, 3) := by decide +kernel
theorem dL_acts_141 : decode cL_acts 141 = .ok (.iload 8, 2) := by decide +kernel
theorem dL_acts_143 : decode cL_acts 143 = .ok (.ifCond .lt 68, 3) := by decide +kernel
theorem dL_acts_146 : decode cL_acts 146 = .ok (.aload_n 0, 1) := by decide +kernel
theorem dL_acts_147 : decode cL_acts 147 = .ok (.iload 8, 2) := by decide +kernel
theorem dL_acts_149 : decode cL_acts 149 = .ok (.iconst 0, 1) := by decide +kernel
theorem dL_acts_150 : decode cL_acts 150 = .ok (.invokevirtual 9, 3) := by decide +kernel
theorem dL_acts_153 : decode cL_acts 153 = .ok (.iload 6, 2) := by decide +kernel
theorem dL_acts_155 : decode cL_acts 155 = .ok (.if_icmp .ne 56, 3) := by decide +kernel
theorem dL_acts_158 : decode cL_acts 158 = .ok (.aload_n 0, 1) := by decide +kernel
theorem dL_acts_159 : decode cL_acts 159 = .ok (.iload 8, 2) := by decide +kernel
theorem dL_acts_161 : decode cL_acts 161 = .ok (.iconst 1, 1) := by decide +kernel
theorem dL_acts_162 : decode cL_acts 162 = .ok (.invokevirtual 9, 3) := by decide +kernel
theorem dL_acts_165 : decode cL_acts 165 = .ok (.iconst 1, 1) := by decide +kernel
theorem dL_acts_166 : decode cL_acts 166 = .ok (.iload_n 1, 1) := by decide +kernel
theorem dL_acts_167 : decode cL_acts 167 = .ok (.bipush 12, 2) := by decide +kernel
theorem dL_acts_169 : decode cL_acts 169 = .ok (.ishr, 1) := by decide +kernel
theorem dL_acts_170 : decode cL_acts 170 = .ok (.bipush 30, 2) := by decide +kernel
theorem dL_acts_172 : decode cL_acts 172 = .ok (.irem, 1) := by decide +kernel
theorem dL_acts_173 : decode cL_acts 173 = .ok (.iadd, 1) := by decide +kernel
theorem dL_acts_174 : decode cL_acts 174 = .ok (.if_icmp .ne 37, 3) := by decide +kernel
theorem dL_acts_177 : decode cL_acts 177 = .ok (.aload_n 0, 1) := by decide +kernel
theorem dL_acts_178 : decode cL_acts 178 = .ok (.iload 8, 2) := by decide +kernel
theorem dL_acts_180 : decode cL_acts 180 = .ok (.iconst 2, 1) := by decide +kernel
theorem dL_acts_181 : decode cL_acts 181 = .ok (.invokevirtual 9, 3) := by decide +kernel
theorem dL_acts_184 : decode cL_acts 184 = .ok (.ifCond .ne 27, 3) := by decide +kernel
theorem dL_acts_187 : decode cL_acts 187 = .ok (.aload_n 0, 1) := by decide +kernel
theorem dL_acts_188 : decode cL_acts 188 = .ok (.iload 8, 2) := by decide +kernel
theorem dL_acts_190 : decode cL_acts 190 = .ok (.bipush 6, 2) := by decide +kernel
theorem dL_acts_192 : decode cL_acts 192 = .ok (.invokevirtual 9, 3) := by decide +kernel
theorem dL_acts_195 : decode cL_acts 195 = .ok (.aload_n 0, 1) := by decide +kernel
theorem dL_acts_196 : decode cL_acts 196 = .ok (.iload 8, 2) := by decide +kernel
theorem dL_acts_198 : decode cL_acts 198 = .ok (.bipush 7, 2) := by decide +kernel
theorem dL_acts_200 : decode cL_acts 200 = .ok (.invokevirtual 9, 3) := by decide +kernel
theorem dL_acts_203 : decode cL_acts 203 = .ok (.iadd, 1) := by decide +kernel
theorem dL_acts_204 : decode cL_acts 204 = .ok (.ifCond .ne 7, 3) := by decide +kernel
theorem dL_acts_207 : decode cL_acts 207 = .ok (.iconst 1, 1) := by decide +kernel
theorem dL_acts_208 : decode cL_acts 208 = .ok (.goto 4, 3) := by decide +kernel
theorem dL_acts_211 : decode cL_acts 211 = .ok (.iconst 0, 1) := by decide +kernel
theorem dL_acts_212 : decode cL_acts 212 = .ok (.ireturn, 1) := by decide +kernel
theorem dL_acts_213 : decode cL_acts 213 = .ok (.aload_n 0, 1) := by decide +kernel
theorem dL_acts_214 : decode cL_acts 214 = .ok (.bipush 6, 2) := by decide +kernel
theorem dL_acts_216 : decode cL_acts 216 = .ok (.invokevirtual 15, 3) := by decide +kernel
theorem dL_acts_219 : decode cL_acts 219 = .ok (.aload_n 0, 1) := by decide +kernel
theorem dL_acts_220 : decode cL_acts 220 = .ok (.iload_n 2, 1) := by decide +kernel
theorem dL_acts_221 : decode cL_acts 221 = .ok (.bipush 6, 2) := by decide +kernel
theorem dL_acts_223 : decode cL_acts 223 = .ok (.invokevirtual 9, 3) := by decide +kernel
theorem dL_acts_226 : decode cL_acts 226 = .ok (.iadd, 1) := by decide +kernel
theorem dL_acts_227 : decode cL_acts 227 = .ok (.aload_n 0, 1) := by decide +kernel
theorem dL_acts_228 : decode cL_acts 228 = .ok (.iload_n 2, 1) := by decide +kernel
theorem dL_acts_229 : decode cL_acts 229 = .ok (.bipush 7, 2) := by decide +kernel
theorem dL_acts_231 : decode cL_acts 231 = .ok (.invokevirtual 9, 3) := by decide +kernel
theorem dL_acts_234 : decode cL_acts 234 = .ok (.iadd, 1) := by decide +kernel
theorem dL_acts_235 : decode cL_acts 235 = .ok (.istore 9, 2) := by decide +kernel
theorem dL_acts_237 : decode cL_acts 237 = .ok (.iload_n 1, 1) := by decide +kernel
theorem dL_acts_238 : decode cL_acts 238 = .ok (.bipush 12, 2) := by decide +kernel
theorem dL_acts_240 : decode cL_acts 240 = .ok (.ishr, 1) := by decide +kernel
theorem dL_acts_241 : decode cL_acts 241 = .ok (.iconst 4, 1) := by decide +kernel
theorem dL_acts_242 : decode cL_acts 242 = .ok (.irem, 1) := by decide +kernel
theorem dL_acts_243 : decode cL_acts 243 = .ok (.ifCond .le 8, 3) := by decide +kernel
theorem dL_acts_246 : decode cL_acts 246 = .ok (.bipush (-9), 2) := by decide +kernel
theorem dL_acts_248 : decode cL_acts 248 = .ok (.goto 8, 3) := by decide +kernel
theorem dL_acts_251 : decode cL_acts 251 = .ok (.aload_n 0, 1) := by decide +kernel
theorem dL_acts_252 : decode cL_acts 252 = .ok (.iload_n 2, 1) := by decide +kernel
theorem dL_acts_253 : decode cL_acts 253 = .ok (.invokevirtual 59, 3) := by decide +kernel
theorem dL_acts_256 : decode cL_acts 256 = .ok (.istore 10, 2) := by decide +kernel
theorem dL_acts_258 : decode cL_acts 258 = .ok (.iload 10, 2) := by decide +kernel
theorem dL_acts_260 : decode cL_acts 260 = .ok (.bipush (-9), 2) := by decide +kernel
theorem dL_acts_262 : decode cL_acts 262 = .ok (.if_icmp .eq 47, 3) := by decide +kernel
theorem dL_acts_265 : decode cL_acts 265 = .ok (.iload 4, 2) := by decide +kernel
theorem dL_acts_267 : decode cL_acts 267 = .ok (.ifCond .ge 12, 3) := by decide +kernel
theorem dL_acts_270 : decode cL_acts 270 = .ok (.iload 10, 2) := by decide +kernel
theorem dL_acts_272 : decode cL_acts 272 = .ok (.iconst (-1), 1) := by decide +kernel
theorem dL_acts_273 : decode cL_acts 273 = .ok (.if_icmp .ne 40, 3) := by decide +kernel
theorem dL_acts_276 : decode cL_acts 276 = .ok (.goto 33, 3) := by decide +kernel
theorem dL_acts_279 : decode cL_acts 279 = .ok (.iload 10, 2) := by decide +kernel
theorem dL_acts_281 : decode cL_acts 281 = .ok (.iload 4, 2) := by decide +kernel
theorem dL_acts_283 : decode cL_acts 283 = .ok (.if_icmp .ne 30, 3) := by decide +kernel
theorem dL_acts_286 : decode cL_acts 286 = .ok (.aload_n 0, 1) := by decide +kernel
theorem dL_acts_287 : decode cL_acts 287 = .ok (.iconst 1, 1) := by decide +kernel
theorem dL_acts_288 : decode cL_acts 288 = .ok (.invokevirtual 15, 3) := by decide +kernel
theorem dL_acts_291 : decode cL_acts 291 = .ok (.iload 6, 2) := by decide +kernel
theorem dL_acts_293 : decode cL_acts 293 = .ok (.iconst 1, 1) := by decide +kernel
theorem dL_acts_294 : decode cL_acts 294 = .ok (.isub, 1) := by decide +kernel
theorem dL_acts_295 : decode cL_acts 295 = .ok (.if_icmp .ne 18, 3) := by decide +kernel
theorem dL_acts_298 : decode cL_acts 298 = .ok (.aload_n 0, 1) := by decide +kernel
theorem dL_acts_299 : decode cL_acts 299 = .ok (.bipush 6, 2) := by decide +kernel
theorem dL_acts_301 : decode cL_acts 301 = .ok (.invokevirtual 15, 3) := by decide +kernel
theorem dL_acts_304 : decode cL_acts 304 = .ok (.iload 9, 2) := by decide +kernel
theorem dL_acts_306 : decode cL_acts 306 = .ok (.if_icmp .ne 7, 3) := by decide +kernel
theorem dL_acts_309 : decode cL_acts 309 = .ok (.iconst 1, 1) := by decide +kernel
theorem dL_acts_310 : decode cL_acts 310 = .ok (.goto 4, 3) := by decide +kernel
theorem dL_acts_313 : decode cL_acts 313 = .ok (.iconst 0, 1) := by decide +kernel
theorem dL_acts_314 : decode cL_acts 314 = .ok (.ireturn, 1) := by decide +kernel
theorem dL_acts_315 : decode cL_acts 315 = .ok (.aload_n 0, 1) := by decide +kernel
theorem dL_acts_316 : decode cL_acts 316 = .ok (.bipush 9, 2) := by decide +kernel
theorem dL_acts_318 : decode cL_acts 318 = .ok (.invokevirtual 15, 3) := by decide +kernel
theorem dL_acts_321 : decode cL_acts 321 = .ok (.istore 11, 2) := by decide +kernel
theorem dL_acts_323 : decode cL_acts 323 = .ok (.aload_n 0, 1) := by decide +kernel
theorem dL_acts_324 : decode cL_acts 324 = .ok (.iload_n 2, 1) := by decide +kernel
theorem dL_acts_325 : decode cL_acts 325 = .ok (.invokevirtual 62, 3) := by decide +kernel
theorem dL_acts_328 : decode cL_acts 328 = .ok (.iload 4, 2) := by decide +kernel
theorem dL_acts_330 : decode cL_acts 330 = .ok (.ifCond .ge 7, 3) := by decide +kernel
theorem dL_acts_333 : decode cL_acts 333 = .ok (.iconst (-1), 1) := by decide +kernel
theorem dL_acts_334 : decode cL_acts 334 = .ok (.goto 5, 3) := by decide +kernel
theorem dL_acts_337 : decode cL_acts 337 = .ok (.iload 5, 2) := by decide +kernel
theorem dL_acts_339 : decode cL_acts 339 = .ok (.if_icmp .ne 34, 3) := by decide +kernel
theorem dL_acts_342 : decode cL_acts 342 = .ok (.iload 4, 2) := by decide +kernel
theorem dL_acts_344 : decode cL_acts 344 = .ok (.ifCond .lt 25, 3) := by decide +kernel
theorem dL_acts_347 : decode cL_acts 347 = .ok (.aload_n 0, 1) := by decide +kernel
theorem dL_acts_348 : decode cL_acts 348 = .ok (.iload_n 2, 1) := by decide +kernel
theorem dL_acts_349 : decode cL_acts 349 = .ok (.iconst 2, 1) := by decide +kernel
theorem dL_acts_350 : decode cL_acts 350 = .ok (.invokevirtual 9, 3) := by decide +kernel
theorem dL_acts_353 : decode cL_acts 353 = .ok (.ifCond .ne 20, 3) := by decide +kernel
theorem dL_acts_356 : decode cL_acts 356 = .ok (.aload_n 0, 1) := by decide +kernel
theorem dL_acts_357 : decode cL_acts 357 = .ok (.bipush 9, 2) := by decide +kernel
theorem dL_acts_359 : decode cL_acts 359 = .ok (.invokevirtual 15, 3) := by decide +kernel
theorem dL_acts_362 : decode cL_acts 362 = .ok (.iload 11, 2) := by decide +kernel
theorem dL_acts_364 : decode cL_acts 364 = .ok (.iconst 1, 1) := by decide +kernel
theorem dL_acts_365 : decode cL_acts 365 = .ok (.iadd, 1) := by decide +kernel
theorem dL_acts_366 : decode cL_acts 366 = .ok (.if_icmp .ne 7, 3) := by decide +kernel
theorem dL_acts_369 : decode cL_acts 369 = .ok (.iconst 1, 1) := by decide +kernel
theorem dL_acts_370 : decode cL_acts 370 = .ok (.goto 4, 3) := by decide +kernel
theorem dL_acts_373 : decode cL_acts 373 = .ok (.iconst 0, 1) := by decide +kernel
theorem dL_acts_374 : decode cL_acts 374 = .ok (.ireturn, 1) := by decide +kernel
theorem dL_acts_375 : decode cL_acts 375 = .ok (.aload_n 0, 1) := by decide +kernel
theorem dL_acts_376 : decode cL_acts 376 = .ok (.iconst 5, 1) := by decide +kernel
theorem dL_acts_377 : decode cL_acts 377 = .ok (.invokevirtual 15, 3) := by decide +kernel
theorem dL_acts_380 : decode cL_acts 380 = .ok (.istore 12, 2) := by decide +kernel
theorem dL_acts_382 : decode cL_acts 382 = .ok (.aload_n 0, 1) := by decide +kernel
theorem dL_acts_383 : decode cL_acts 383 = .ok (.iload_n 2, 1) := by decide +kernel
theorem dL_acts_384 : decode cL_acts 384 = .ok (.iload_n 3, 1) := by decide +kernel
theorem dL_acts_385 : decode cL_acts 385 = .ok (.invokevirtual 65, 3) := by decide +kernel
theorem dL_acts_388 : decode cL_acts 388 = .ok (.istore 13, 2) := by decide +kernel
theorem dL_acts_390 : decode cL_acts 390 = .ok (.iload 7, 2) := by decide +kernel
theorem dL_acts_392 : decode cL_acts 392 = .ok (.ifCond .ge 18, 3) := by decide +kernel
theorem dL_acts_395 : decode cL_acts 395 = .ok (.iload 13, 2) := by decide +kernel
theorem dL_acts_397 : decode cL_acts 397 = .ok (.iload 7, 2) := by decide +kernel
theorem dL_acts_399 : decode cL_acts 399 = .ok (.if_icmp .ne 7, 3) := by decide +kernel
theorem dL_acts_402 : decode cL_acts 402 = .ok (.iconst 1, 1) := by decide +kernel
theorem dL_acts_403 : decode cL_acts 403 = .ok (.goto 64, 3) := by decide +kernel
theorem dL_acts_406 : decode cL_acts 406 = .ok (.iconst 0, 1) := by decide +kernel
theorem dL_acts_407 : decode cL_acts 407 = .ok (.goto 60, 3) := by decide +kernel
theorem dL_acts_410 : decode cL_acts 410 = .ok (.iload 7, 2) := by decide +kernel
theorem dL_acts_412 : decode cL_acts 412 = .ok (.ifCond .ne 18, 3) := by decide +kernel
theorem dL_acts_415 : decode cL_acts 415 = .ok (.iload 13, 2) := by decide +kernel
theorem dL_acts_417 : decode cL_acts 417 = .ok (.bipush (-5), 2) := by decide +kernel
theorem dL_acts_419 : decode cL_acts 419 = .ok (.if_icmp .ne 7, 3) := by decide +kernel
theorem dL_acts_422 : decode cL_acts 422 = .ok (.iconst 1, 1) := by decide +kernel
theorem dL_acts_423 : decode cL_acts 423 = .ok (.goto 44, 3) := by decide +kernel
theorem dL_acts_426 : decode cL_acts 426 = .ok (.iconst 0, 1) := by decide +kernel
theorem dL_acts_427 : decode cL_acts 427 = .ok (.goto 40, 3) := by decide +kernel
theorem dL_acts_430 : decode cL_acts 430 = .ok (.iload 13, 2) := by decide +kernel
theorem dL_acts_432 : decode cL_acts 432 = .ok (.iload 7, 2) := by decide +kernel
theorem dL_acts_434 : decode cL_acts 434 = .ok (.iconst 1, 1) := by decide +kernel
theorem dL_acts_435 : decode cL_acts 435 = .ok (.isub, 1) := by decide +kernel
theorem dL_acts_436 : decode cL_acts 436 = .ok (.if_icmp .ne 30, 3) := by decide +kernel
theorem dL_acts_439 : decode cL_acts 439 = .ok (.aload_n 0, 1) := by decide +kernel
theorem dL_acts_440 : decode cL_acts 440 = .ok (.iconst 5, 1) := by decide +kernel
theorem dL_acts_441 : decode cL_acts 441 = .ok (.invokevirtual 15, 3) := by decide +kernel
theorem dL_acts_444 : decode cL_acts 444 = .ok (.iload 12, 2) := by decide +kernel
theorem dL_acts_446 : decode cL_acts 446 = .ok (.iconst 1, 1) := by decide +kernel
theorem dL_acts_447 : decode cL_acts 447 = .ok (.iadd, 1) := by decide +kernel
theorem dL_acts_448 : decode cL_acts 448 = .ok (.if_icmp .ne 18, 3) := by decide +kernel
theorem dL_acts_451 : decode cL_acts 451 = .ok (.aload_n 0, 1) := by decide +kernel
theorem dL_acts_452 : decode cL_acts 452 = .ok (.iload_n 2, 1) := by decide +kernel
theorem dL_acts_453 : decode cL_acts 453 = .ok (.iload_n 3, 1) := by decide +kernel
theorem dL_acts_454 : decode cL_acts 454 = .ok (.invokevirtual 28, 3) := by decide +kernel
theorem dL_acts_457 : decode cL_acts 457 = .ok (.iload 13, 2) := by decide +kernel
theorem dL_acts_459 : decode cL_acts 459 = .ok (.if_icmp .ne 7, 3) := by decide +kernel
theorem dL_acts_462 : decode cL_acts 462 = .ok (.iconst 1, 1) := by decide +kernel
theorem dL_acts_463 : decode cL_acts 463 = .ok (.goto 4, 3) := by decide +kernel
theorem dL_acts_466 : decode cL_acts 466 = .ok (.iconst 0, 1) := by decide +kernel
theorem dL_acts_467 : decode cL_acts 467 = .ok (.ireturn, 1) := by decide +kernel
theorem dL_acts_468 : decode cL_acts 468 = .ok (.aload_n 0, 1) := by decide +kernel
theorem dL_acts_469 : decode cL_acts 469 = .ok (.iload_n 3, 1) := by decide +kernel
theorem dL_acts_470 : decode cL_acts 470 = .ok (.iload_n 2, 1) := by decide +kernel
theorem dL_acts_471 : decode cL_acts 471 = .ok (.invokevirtual 28, 3) := by decide +kernel
theorem dL_acts_474 : decode cL_acts 474 = .ok (.istore 14, 2) := by decide +kernel
theorem dL_acts_476 : decode cL_acts 476 = .ok (.aload_n 0, 1) := by decide +kernel
theorem dL_acts_477 : decode cL_acts 477 = .ok (.iload_n 3, 1) := by decide +kernel
theorem dL_acts_478 : decode cL_acts 478 = .ok (.invokevirtual 25, 3) := by decide +kernel
theorem dL_acts_481 : decode cL_acts 481 = .ok (.istore 15, 2) := by decide +kernel
theorem dL_acts_483 : decode cL_acts 483 = .ok (.aload_n 0, 1) := by decide +kernel
theorem dL_acts_484 : decode cL_acts 484 = .ok (.bipush 7, 2) := by decide +kernel
theorem dL_acts_486 : decode cL_acts 486 = .ok (.invokevirtual 15, 3) := by decide +kernel
theorem dL_acts_489 : decode cL_acts 489 = .ok (.istore 16, 2) := by decide +kernel
theorem dL_acts_491 : decode cL_acts 491 = .ok (.aload_n 0, 1) := by decide +kernel
theorem dL_acts_492 : decode cL_acts 492 = .ok (.iload_n 3, 1) := by decide +kernel
theorem dL_acts_493 : decode cL_acts 493 = .ok (.iconst 3, 1) := by decide +kernel
theorem dL_acts_494 : decode cL_acts 494 = .ok (.invokevirtual 9, 3) := by decide +kernel
theorem dL_acts_497 : decode cL_acts 497 = .ok (.istore 17, 2) := by decide +kernel
theorem dL_acts_499 : decode cL_acts 499 = .ok (.aload_n 0, 1) := by decide +kernel
theorem dL_acts_500 : decode cL_acts 500 = .ok (.iload_n 2, 1) := by decide +kernel
theorem dL_acts_501 : decode cL_acts 501 = .ok (.iload_n 3, 1) := by decide +kernel
theorem dL_acts_502 : decode cL_acts 502 = .ok (.invokevirtual 68, 3) := by decide +kernel
theorem dL_acts_505 : decode cL_acts 505 = .ok (.istore 18, 2) := by decide +kernel
theorem dL_acts_507 : decode cL_acts 507 = .ok (.iload 14, 2) := by decide +kernel
theorem dL_acts_509 : decode cL_acts 509 = .ok (.iconst 2, 1) := by decide +kernel
theorem dL_acts_510 : decode cL_acts 510 = .ok (.iadd, 1) := by decide +kernel
theorem dL_acts_511 : decode cL_acts 511 = .ok (.iload 7, 2) := by decide +kernel
theorem dL_acts_513 : decode cL_acts 513 = .ok (.if_icmp .ge 10, 3) := by decide +kernel
theorem dL_acts_516 : decode cL_acts 516 = .ok (.iload 14, 2) := by decide +kernel
theorem dL_acts_518 : decode cL_acts 518 = .ok (.iconst 2, 1) := by decide +kernel
theorem dL_acts_519 : decode cL_acts 519 = .ok (.iadd, 1) := by decide +kernel
theorem dL_acts_520 : decode cL_acts 520 = .ok (.goto 5, 3) := by decide +kernel
theorem dL_acts_523 : decode cL_acts 523 = .ok (.iload 7, 2) := by decide +kernel
theorem dL_acts_525 : decode cL_acts 525 = .ok (.istore 19, 2) := by decide +kernel
theorem dL_acts_527 : decode cL_acts 527 = .ok (.iload 7, 2) := by decide +kernel
theorem dL_acts_529 : decode cL_acts 529 = .ok (.ifCond .ge 18, 3) := by decide +kernel
theorem dL_acts_532 : decode cL_acts 532 = .ok (.iload 18, 2) := by decide +kernel
theorem dL_acts_534 : decode cL_acts 534 = .ok (.iload 7, 2) := by decide +kernel
theorem dL_acts_536 : decode cL_acts 536 = .ok (.if_icmp .ne 7, 3) := by decide +kernel
theorem dL_acts_539 : decode cL_acts 539 = .ok (.iconst 1, 1) := by decide +kernel
theorem dL_acts_540 : decode cL_acts 540 = .ok (.goto 87, 3) := by decide +kernel
theorem dL_acts_543 : decode cL_acts 543 = .ok (.iconst 0, 1) := by decide +kernel
theorem dL_acts_544 : decode cL_acts 544 = .ok (.goto 83, 3) := by decide +kernel
theorem dL_acts_547 : decode cL_acts 547 = .ok (.iload 15, 2) := by decide +kernel
theorem dL_acts_549 : decode cL_acts 549 = .ok (.ifCond .le 18, 3) := by decide +kernel
theorem dL_acts_552 : decode cL_acts 552 = .ok (.iload 18, 2) := by decide +kernel
theorem dL_acts_554 : decode cL_acts 554 = .ok (.bipush (-5), 2) := by decide +kernel
theorem dL_acts_556 : decode cL_acts 556 = .ok (.if_icmp .ne 7, 3) := by decide +kernel
theorem dL_acts_559 : decode cL_acts 559 = .ok (.iconst 1, 1) := by decide +kernel
theorem dL_acts_560 : decode cL_acts 560 = .ok (.goto 67, 3) := by decide +kernel
theorem dL_acts_563 : decode cL_acts 563 = .ok (.iconst 0, 1) := by decide +kernel
theorem dL_acts_564 : decode cL_acts 564 = .ok (.goto 63, 3) := by decide +kernel
theorem dL_acts_567 : decode cL_acts 567 = .ok (.iload 18, 2) := by decide +kernel
theorem dL_acts_569 : decode cL_acts 569 = .ok (.iload 14, 2) := by decide +kernel
theorem dL_acts_571 : decode cL_acts 571 = .ok (.iconst 2, 1) := by decide +kernel
theorem dL_acts_572 : decode cL_acts 572 = .ok (.iadd, 1) := by decide +kernel
theorem dL_acts_573 : decode cL_acts 573 = .ok (.iload 19, 2) := by decide +kernel
theorem dL_acts_575 : decode cL_acts 575 = .ok (.isub, 1) := by decide +kernel
theorem dL_acts_576 : decode cL_acts 576 = .ok (.if_icmp .ne 50, 3) := by decide +kernel
theorem dL_acts_579 : decode cL_acts 579 = .ok (.aload_n 0, 1) := by decide +kernel
theorem dL_acts_580 : decode cL_acts 580 = .ok (.iload_n 2, 1) := by decide +kernel
theorem dL_acts_581 : decode cL_acts 581 = .ok (.iload_n 3, 1) := by decide +kernel
theorem dL_acts_582 : decode cL_acts 582 = .ok (.invokevirtual 28, 3) := by decide +kernel
theorem dL_acts_585 : decode cL_acts 585 = .ok (.iload 7, 2) := by decide +kernel
theorem dL_acts_587 : decode cL_acts 587 = .ok (.iload 19, 2) := by decide +kernel
theorem dL_acts_589 : decode cL_acts 589 = .ok (.isub, 1) := by decide +kernel
theorem dL_acts_590 : decode cL_acts 590 = .ok (.if_icmp .ne 36, 3) := by decide +kernel
theorem dL_acts_593 : decode cL_acts 593 = .ok (.aload_n 0, 1) := by decide +kernel
theorem dL_acts_594 : decode cL_acts 594 = .ok (.bipush 7, 2) := by decide +kernel
theorem dL_acts_596 : decode cL_acts 596 = .ok (.invokevirtual 15, 3) := by decide +kernel
theorem dL_acts_599 : decode cL_acts 599 = .ok (.iload 16, 2) := by decide +kernel
theorem dL_acts_601 : decode cL_acts 601 = .ok (.iconst 2, 1) := by decide +kernel
theorem dL_acts_602 : decode cL_acts 602 = .ok (.iload 19, 2) := by decide +kernel
theorem dL_acts_604 : decode cL_acts 604 = .ok (.imul, 1) := by decide +kernel
theorem dL_acts_605 : decode cL_acts 605 = .ok (.iadd, 1) := by decide +kernel
theorem dL_acts_606 : decode cL_acts 606 = .ok (.if_icmp .ne 20, 3) := by decide +kernel
theorem dL_acts_609 : decode cL_acts 609 = .ok (.aload_n 0, 1) := by decide +kernel
theorem dL_acts_610 : decode cL_acts 610 = .ok (.iload_n 3, 1) := by decide +kernel
theorem dL_acts_611 : decode cL_acts 611 = .ok (.iconst 3, 1) := by decide +kernel
theorem dL_acts_612 : decode cL_acts 612 = .ok (.invokevirtual 9, 3) := by decide +kernel
theorem dL_acts_615 : decode cL_acts 615 = .ok (.iload 17, 2) := by decide +kernel
theorem dL_acts_617 : decode cL_acts 617 = .ok (.iconst 1, 1) := by decide +kernel
theorem dL_acts_618 : decode cL_acts 618 = .ok (.iadd, 1) := by decide +kernel
theorem dL_acts_619 : decode cL_acts 619 = .ok (.if_icmp .ne 7, 3) := by decide +kernel
theorem dL_acts_622 : decode cL_acts 622 = .ok (.iconst 1, 1) := by decide +kernel
theorem dL_acts_623 : decode cL_acts 623 = .ok (.goto 4, 3) := by decide +kernel
theorem dL_acts_626 : decode cL_acts 626 = .ok (.iconst 0, 1) := by decide +kernel
theorem dL_acts_627 : decode cL_acts 627 = .ok (.ireturn, 1) := by decide +kernel
theorem dL_acts_628 : decode cL_acts 628 = .ok (.aload_n 0, 1) := by decide +kernel
theorem dL_acts_629 : decode cL_acts 629 = .ok (.invokestatic 71, 3) := by decide +kernel
theorem dL_acts_632 : decode cL_acts 632 = .ok (.ireturn, 1) := by decide +kernel
theorem dL_acts_633 : decode cL_acts 633 = .ok (.iload_n 1, 1) := by decide +kernel
theorem dL_acts_634 : decode cL_acts 634 = .ok (.iconst 4, 1) := by decide +kernel
theorem dL_acts_635 : decode cL_acts 635 = .ok (.ishr, 1) := by decide +kernel
theorem dL_acts_636 : decode cL_acts 636 = .ok (.iconst 4, 1) := by decide +kernel
theorem dL_acts_637 : decode cL_acts 637 = .ok (.irem, 1) := by decide +kernel
theorem dL_acts_638 : decode cL_acts 638 = .ok (.istore 20, 2) := by decide +kernel
theorem dL_acts_640 : decode cL_acts 640 = .ok (.iconst 1, 1) := by decide +kernel
theorem dL_acts_641 : decode cL_acts 641 = .ok (.iload_n 1, 1) := by decide +kernel
theorem dL_acts_642 : decode cL_acts 642 = .ok (.bipush 8, 2) := by decide +kernel
theorem dL_acts_644 : decode cL_acts 644 = .ok (.ishr, 1) := by decide +kernel
theorem dL_acts_645 : decode cL_acts 645 = .ok (.iload 20, 2) := by decide +kernel
theorem dL_acts_647 : decode cL_acts 647 = .ok (.ifCond .ne 8, 3) := by decide +kernel
theorem dL_acts_650 : decode cL_acts 650 = .ok (.bipush 9, 2) := by decide +kernel
theorem dL_acts_652 : decode cL_acts 652 = .ok (.goto 27, 3) := by decide +kernel
theorem dL_acts_655 : decode cL_acts 655 = .ok (.iload 20, 2) := by decide +kernel
theorem dL_acts_657 : decode cL_acts 657 = .ok (.iconst 1, 1) := by decide +kernel
theorem dL_acts_658 : decode cL_acts 658 = .ok (.if_icmp .ne 8, 3) := by decide +kernel
theorem dL_acts_661 : decode cL_acts 661 = .ok (.bipush 20, 2) := by decide +kernel
theorem dL_acts_663 : decode cL_acts 663 = .ok (.goto 16, 3) := by decide +kernel
theorem dL_acts_666 : decode cL_acts 666 = .ok (.iload 20, 2) := by decide +kernel
theorem dL_acts_668 : decode cL_acts 668 = .ok (.iconst 2, 1) := by decide +kernel
theorem dL_acts_669 : decode cL_acts 669 = .ok (.if_icmp .ne 8, 3) := by decide +kernel
theorem dL_acts_672 : decode cL_acts 672 = .ok (.bipush 30, 2) := by decide +kernel
theorem dL_acts_674 : decode cL_acts 674 = .ok (.goto 5, 3) := by decide +kernel
theorem dL_acts_677 : decode cL_acts 677 = .ok (.bipush 9, 2) := by decide +kernel
theorem dL_acts_679 : decode cL_acts 679 = .ok (.irem, 1) := by decide +kernel
theorem dL_acts_680 : decode cL_acts 680 = .ok (.iadd, 1) := by decide +kernel
theorem dL_acts_681 : decode cL_acts 681 = .ok (.istore 21, 2) := by decide +kernel
theorem dL_acts_683 : decode cL_acts 683 = .ok (.aload_n 0, 1) := by decide +kernel
theorem dL_acts_684 : decode cL_acts 684 = .ok (.bipush 13, 2) := by decide +kernel
theorem dL_acts_686 : decode cL_acts 686 = .ok (.iload 20, 2) := by decide +kernel
theorem dL_acts_688 : decode cL_acts 688 = .ok (.iadd, 1) := by decide +kernel
theorem dL_acts_689 : decode cL_acts 689 = .ok (.invokevirtual 15, 3) := by decide +kernel
theorem dL_acts_692 : decode cL_acts 692 = .ok (.istore 22, 2) := by decide +kernel
theorem dL_acts_694 : decode cL_acts 694 = .ok (.aload_n 0, 1) := by decide +kernel
theorem dL_acts_695 : decode cL_acts 695 = .ok (.iload 20, 2) := by decide +kernel
theorem dL_acts_697 : decode cL_acts 697 = .ok (.iload 21, 2) := by decide +kernel
theorem dL_acts_699 : decode cL_acts 699 = .ok (.invokevirtual 75, 3) := by decide +kernel
theorem dL_acts_702 : decode cL_acts 702 = .ok (.iload 22, 2) := by decide +kernel
theorem dL_acts_704 : decode cL_acts 704 = .ok (.if_icmp .ne 21, 3) := by decide +kernel
theorem dL_acts_707 : decode cL_acts 707 = .ok (.aload_n 0, 1) := by decide +kernel
theorem dL_acts_708 : decode cL_acts 708 = .ok (.bipush 13, 2) := by decide +kernel
theorem dL_acts_710 : decode cL_acts 710 = .ok (.iload 20, 2) := by decide +kernel
theorem dL_acts_712 : decode cL_acts 712 = .ok (.iadd, 1) := by decide +kernel
theorem dL_acts_713 : decode cL_acts 713 = .ok (.invokevirtual 15, 3) := by decide +kernel
theorem dL_acts_716 : decode cL_acts 716 = .ok (.iload 21, 2) := by decide +kernel
theorem dL_acts_718 : decode cL_acts 718 = .ok (.if_icmp .ne 7, 3) := by decide +kernel
theorem dL_acts_721 : decode cL_acts 721 = .ok (.iconst 1, 1) := by decide +kernel
theorem dL_acts_722 : decode cL_acts 722 = .ok (.goto 4, 3) := by decide +kernel
theorem dL_acts_725 : decode cL_acts 725 = .ok (.iconst 0, 1) := by decide +kernel
theorem dL_acts_726 : decode cL_acts 726 = .ok (.ireturn, 1) := by decide +kernel
theorem dL_acts_727 : decode cL_acts 727 = .ok (.iconst 1, 1) := by decide +kernel
theorem dL_acts_728 : decode cL_acts 728 = .ok (.iload_n 1, 1) := by decide +kernel
theorem dL_acts_729 : decode cL_acts 729 = .ok (.iconst 4, 1) := by decide +kernel
theorem dL_acts_730 : decode cL_acts 730 = .ok (.ishr, 1) := by decide +kernel
theorem dL_acts_731 : decode cL_acts 731 = .ok (.bipush 40, 2) := by decide +kernel
theorem dL_acts_733 : decode cL_acts 733 = .ok (.irem, 1) := by decide +kernel
theorem dL_acts_734 : decode cL_acts 734 = .ok (.iadd, 1) := by decide +kernel
theorem dL_acts_735 : decode cL_acts 735 = .ok (.istore 23, 2) := by decide +kernel
theorem dL_acts_737 : decode cL_acts 737 = .ok (.aload_n 0, 1) := by decide +kernel
theorem dL_acts_738 : decode cL_acts 738 = .ok (.iconst 0, 1) := by decide +kernel
theorem dL_acts_739 : decode cL_acts 739 = .ok (.invokevirtual 15, 3) := by decide +kernel
theorem dL_acts_742 : decode cL_acts 742 = .ok (.istore 24, 2) := by decide +kernel
theorem dL_acts_744 : decode cL_acts 744 = .ok (.aload_n 0, 1) := by decide +kernel
theorem dL_acts_745 : decode cL_acts 745 = .ok (.bipush 10, 2) := by decide +kernel
theorem dL_acts_747 : decode cL_acts 747 = .ok (.invokevirtual 15, 3) := by decide +kernel
theorem dL_acts_750 : decode cL_acts 750 = .ok (.istore 25, 2) := by decide +kernel
theorem dL_acts_752 : decode cL_acts 752 = .ok (.aload_n 0, 1) := by decide +kernel
theorem dL_acts_753 : decode cL_acts 753 = .ok (.iload 23, 2) := by decide +kernel
theorem dL_acts_755 : decode cL_acts 755 = .ok (.invokevirtual 78, 3) := by decide +kernel
theorem dL_acts_758 : decode cL_acts 758 = .ok (.aload_n 0, 1) := by decide +kernel
theorem dL_acts_759 : decode cL_acts 759 = .ok (.bipush 10, 2) := by decide +kernel
theorem dL_acts_761 : decode cL_acts 761 = .ok (.invokevirtual 15, 3) := by decide +kernel
theorem dL_acts_764 : decode cL_acts 764 = .ok (.iload 25, 2) := by decide +kernel
theorem dL_acts_766 : decode cL_acts 766 = .ok (.isub, 1) := by decide +kernel
theorem dL_acts_767 : decode cL_acts 767 = .ok (.if_icmp .ne 20, 3) := by decide +kernel
theorem dL_acts_770 : decode cL_acts 770 = .ok (.aload_n 0, 1) := by decide +kernel
theorem dL_acts_771 : decode cL_acts 771 = .ok (.iconst 0, 1) := by decide +kernel
theorem dL_acts_772 : decode cL_acts 772 = .ok (.invokevirtual 15, 3) := by decide +kernel
theorem dL_acts_775 : decode cL_acts 775 = .ok (.iload 24, 2) := by decide +kernel
theorem dL_acts_777 : decode cL_acts 777 = .ok (.iload 23, 2) := by decide +kernel
theorem dL_acts_779 : decode cL_acts 779 = .ok (.iadd, 1) := by decide +kernel
theorem dL_acts_780 : decode cL_acts 780 = .ok (.if_icmp .ne 7, 3) := by decide +kernel
theorem dL_acts_783 : decode cL_acts 783 = .ok (.iconst 1, 1) := by decide +kernel
theorem dL_acts_784 : decode cL_acts 784 = .ok (.goto 4, 3) := by decide +kernel
theorem dL_acts_787 : decode cL_acts 787 = .ok (.iconst 0, 1) := by decide +kernel
theorem dL_acts_788 : decode cL_acts 788 = .ok (.ireturn, 1) := by decide +kernel
theorem dL_law_0 : decode cL_law 0 = .ok (.new 10, 3) := by decide +kernel
theorem dL_law_3 : decode cL_law 3 = .ok (.dup, 1) := by decide +kernel
theorem dL_law_4 : decode cL_law 4 = .ok (.invokespecial 81, 3) := by decide +kernel
theorem dL_law_7 : decode cL_law 7 = .ok (.astore_n 1, 1) := by decide +kernel
theorem dL_law_8 : decode cL_law 8 = .ok (.aload_n 1, 1) := by decide +kernel
theorem dL_law_9 : decode cL_law 9 = .ok (.invokevirtual 82, 3) := by decide +kernel
theorem dL_law_12 : decode cL_law 12 = .ok (.bipush (-5), 2) := by decide +kernel
theorem dL_law_14 : decode cL_law 14 = .ok (.if_icmp .ne 58, 3) := by decide +kernel
theorem dL_law_17 : decode cL_law 17 = .ok (.aload_n 1, 1) := by decide +kernel
theorem dL_law_18 : decode cL_law 18 = .ok (.iconst 0, 1) := by decide +kernel
theorem dL_law_19 : decode cL_law 19 = .ok (.invokevirtual 85, 3) := by decide +kernel
theorem dL_law_22 : decode cL_law 22 = .ok (.bipush (-5), 2) := by decide +kernel
theorem dL_law_24 : decode cL_law 24 = .ok (.if_icmp .ne 48, 3) := by decide +kernel
theorem dL_law_27 : decode cL_law 27 = .ok (.aload_n 1, 1) := by decide +kernel
theorem dL_law_28 : decode cL_law 28 = .ok (.invokevirtual 49, 3) := by decide +kernel
theorem dL_law_31 : decode cL_law 31 = .ok (.bipush (-5), 2) := by decide +kernel
theorem dL_law_33 : decode cL_law 33 = .ok (.if_icmp .ne 39, 3) := by decide +kernel
theorem dL_law_36 : decode cL_law 36 = .ok (.aload_n 1, 1) := by decide +kernel
theorem dL_law_37 : decode cL_law 37 = .ok (.invokevirtual 88, 3) := by decide +kernel
theorem dL_law_40 : decode cL_law 40 = .ok (.ifCond .ne 32, 3) := by decide +kernel
theorem dL_law_43 : decode cL_law 43 = .ok (.aload_n 1, 1) := by decide +kernel
theorem dL_law_44 : decode cL_law 44 = .ok (.invokevirtual 53, 3) := by decide +kernel
theorem dL_law_47 : decode cL_law 47 = .ok (.ifCond .ne 25, 3) := by decide +kernel
theorem dL_law_50 : decode cL_law 50 = .ok (.aload_n 1, 1) := by decide +kernel
theorem dL_law_51 : decode cL_law 51 = .ok (.iconst 5, 1) := by decide +kernel
theorem dL_law_52 : decode cL_law 52 = .ok (.invokevirtual 56, 3) := by decide +kernel
theorem dL_law_55 : decode cL_law 55 = .ok (.ifCond .ne 17, 3) := by decide +kernel
theorem dL_law_58 : decode cL_law 58 = .ok (.aload_n 1, 1) := by decide +kernel
theorem dL_law_59 : decode cL_law 59 = .ok (.bipush 7, 2) := by decide +kernel
theorem dL_law_61 : decode cL_law 61 = .ok (.invokevirtual 56, 3) := by decide +kernel
theorem dL_law_64 : decode cL_law 64 = .ok (.iconst 1, 1) := by decide +kernel
theorem dL_law_65 : decode cL_law 65 = .ok (.if_icmp .ne 7, 3) := by decide +kernel
theorem dL_law_68 : decode cL_law 68 = .ok (.iconst 1, 1) := by decide +kernel
theorem dL_law_69 : decode cL_law 69 = .ok (.goto 4, 3) := by decide +kernel
theorem dL_law_72 : decode cL_law 72 = .ok (.iconst 0, 1) := by decide +kernel
theorem dL_law_73 : decode cL_law 73 = .ok (.istore_n 2, 1) := by decide +kernel
theorem dL_law_74 : decode cL_law 74 = .ok (.iconst 0, 1) := by decide +kernel
theorem dL_law_75 : decode cL_law 75 = .ok (.istore_n 3, 1) := by decide +kernel
theorem dL_law_76 : decode cL_law 76 = .ok (.iload_n 3, 1) := by decide +kernel
theorem dL_law_77 : decode cL_law 77 = .ok (.bipush 44, 2) := by decide +kernel
theorem dL_law_79 : decode cL_law 79 = .ok (.if_icmp .ge 45, 3) := by decide +kernel
theorem dL_law_82 : decode cL_law 82 = .ok (.iload_n 2, 1) := by decide +kernel
theorem dL_law_83 : decode cL_law 83 = .ok (.ifCond .eq 41, 3) := by decide +kernel
theorem dL_law_86 : decode cL_law 86 = .ok (.aload_n 1, 1) := by decide +kernel
theorem dL_law_87 : decode cL_law 87 = .ok (.aload_n 0, 1) := by decide +kernel
theorem dL_law_88 : decode cL_law 88 = .ok (.iload_n 3, 1) := by decide +kernel
theorem dL_law_89 : decode cL_law 89 = .ok (.invokestatic 91, 3) := by decide +kernel
theorem dL_law_92 : decode cL_law 92 = .ok (.invokestatic 95, 3) := by decide +kernel
theorem dL_law_95 : decode cL_law 95 = .ok (.ifCond .eq 21, 3) := by decide +kernel
theorem dL_law_98 : decode cL_law 98 = .ok (.iload_n 3, 1) := by decide +kernel
theorem dL_law_99 : decode cL_law 99 = .ok (.bipush 11, 2) := by decide +kernel
theorem dL_law_101 : decode cL_law 101 = .ok (.irem, 1) := by decide +kernel
theorem dL_law_102 : decode cL_law 102 = .ok (.ifCond .gt 10, 3) := by decide +kernel
theorem dL_law_105 : decode cL_law 105 = .ok (.aload_n 1, 1) := by decide +kernel
theorem dL_law_106 : decode cL_law 106 = .ok (.invokestatic 99, 3) := by decide +kernel
theorem dL_law_109 : decode cL_law 109 = .ok (.ifCond .eq 7, 3) := by decide +kernel
theorem dL_law_112 : decode cL_law 112 = .ok (.iconst 1, 1) := by decide +kernel
theorem dL_law_113 : decode cL_law 113 = .ok (.goto 4, 3) := by decide +kernel
theorem dL_law_116 : decode cL_law 116 = .ok (.iconst 0, 1) := by decide +kernel
theorem dL_law_117 : decode cL_law 117 = .ok (.istore_n 2, 1) := by decide +kernel
theorem dL_law_118 : decode cL_law 118 = .ok (.iinc 3 1, 3) := by decide +kernel
theorem dL_law_121 : decode cL_law 121 = .ok (.goto (-45), 3) := by decide +kernel
theorem dL_law_124 : decode cL_law 124 = .ok (.aload_n 1, 1) := by decide +kernel
theorem dL_law_125 : decode cL_law 125 = .ok (.iconst 1, 1) := by decide +kernel
theorem dL_law_126 : decode cL_law 126 = .ok (.invokevirtual 102, 3) := by decide +kernel
theorem dL_law_129 : decode cL_law 129 = .ok (.istore_n 3, 1) := by decide +kernel
theorem dL_law_130 : decode cL_law 130 = .ok (.aload_n 1, 1) := by decide +kernel
theorem dL_law_131 : decode cL_law 131 = .ok (.invokevirtual 88, 3) := by decide +kernel
theorem dL_law_134 : decode cL_law 134 = .ok (.istore 4, 2) := by decide +kernel
theorem dL_law_136 : decode cL_law 136 = .ok (.aload_n 1, 1) := by decide +kernel
theorem dL_law_137 : decode cL_law 137 = .ok (.bipush 11, 2) := by decide +kernel
theorem dL_law_139 : decode cL_law 139 = .ok (.invokevirtual 15, 3) := by decide +kernel
theorem dL_law_142 : decode cL_law 142 = .ok (.istore 5, 2) := by decide +kernel
theorem dL_law_144 : decode cL_law 144 = .ok (.iload_n 2, 1) := by decide +kernel
theorem dL_law_145 : decode cL_law 145 = .ok (.ifCond .eq 73, 3) := by decide +kernel
theorem dL_law_148 : decode cL_law 148 = .ok (.aload_n 1, 1) := by decide +kernel
theorem dL_law_149 : decode cL_law 149 = .ok (.invokestatic 99, 3) := by decide +kernel
theorem dL_law_152 : decode cL_law 152 = .ok (.ifCond .eq 66, 3) := by decide +kernel
theorem dL_law_155 : decode cL_law 155 = .ok (.iload_n 3, 1) := by decide +kernel
theorem dL_law_156 : decode cL_law 156 = .ok (.aload_n 1, 1) := by decide +kernel
theorem dL_law_157 : decode cL_law 157 = .ok (.iconst 1, 1) := by decide +kernel
theorem dL_law_158 : decode cL_law 158 = .ok (.invokevirtual 15, 3) := by decide +kernel
theorem dL_law_161 : decode cL_law 161 = .ok (.if_icmp .ne 57, 3) := by decide +kernel
theorem dL_law_164 : decode cL_law 164 = .ok (.iload 4, 2) := by decide +kernel
theorem dL_law_166 : decode cL_law 166 = .ok (.iload 5, 2) := by decide +kernel
theorem dL_law_168 : decode cL_law 168 = .ok (.iconst (-1), 1) := by decide +kernel
theorem dL_law_169 : decode cL_law 169 = .ok (.ixor, 1) := by decide +kernel
theorem dL_law_170 : decode cL_law 170 = .ok (.iand, 1) := by decide +kernel
theorem dL_law_171 : decode cL_law 171 = .ok (.ifCond .ne 47, 3) := by decide +kernel
theorem dL_law_174 : decode cL_law 174 = .ok (.iload_n 3, 1) := by decide +kernel
theorem dL_law_175 : decode cL_law 175 = .ok (.ifCond .ne 7, 3) := by decide +kernel
theorem dL_law_178 : decode cL_law 178 = .ok (.iconst 1, 1) := by decide +kernel
theorem dL_law_179 : decode cL_law 179 = .ok (.goto 4, 3) := by decide +kernel
theorem dL_law_182 : decode cL_law 182 = .ok (.iconst 0, 1) := by decide +kernel
theorem dL_law_183 : decode cL_law 183 = .ok (.iload 4, 2) := by decide +kernel
theorem dL_law_185 : decode cL_law 185 = .ok (.ifCond .ne 7, 3) := by decide +kernel
theorem dL_law_188 : decode cL_law 188 = .ok (.iconst 1, 1) := by decide +kernel
theorem dL_law_189 : decode cL_law 189 = .ok (.goto 4, 3) := by decide +kernel
theorem dL_law_192 : decode cL_law 192 = .ok (.iconst 0, 1) := by decide +kernel
theorem dL_law_193 : decode cL_law 193 = .ok (.if_icmp .ne 25, 3) := by decide +kernel
theorem dL_law_196 : decode cL_law 196 = .ok (.iload_n 3, 1) := by decide +kernel
theorem dL_law_197 : decode cL_law 197 = .ok (.ifCond .eq 17, 3) := by decide +kernel
theorem dL_law_200 : decode cL_law 200 = .ok (.iload 4, 2) := by decide +kernel
theorem dL_law_202 : decode cL_law 202 = .ok (.aload_n 1, 1) := by decide +kernel
theorem dL_law_203 : decode cL_law 203 = .ok (.iconst 0, 1) := by decide +kernel
theorem dL_law_204 : decode cL_law 204 = .ok (.invokevirtual 22, 3) := by decide +kernel
theorem dL_law_207 : decode cL_law 207 = .ok (.ishr, 1) := by decide +kernel
theorem dL_law_208 : decode cL_law 208 = .ok (.iconst 1, 1) := by decide +kernel
theorem dL_law_209 : decode cL_law 209 = .ok (.iand, 1) := by decide +kernel
theorem dL_law_210 : decode cL_law 210 = .ok (.iconst 1, 1) := by decide +kernel
theorem dL_law_211 : decode cL_law 211 = .ok (.if_icmp .ne 7, 3) := by decide +kernel
theorem dL_law_214 : decode cL_law 214 = .ok (.iconst 1, 1) := by decide +kernel
theorem dL_law_215 : decode cL_law 215 = .ok (.goto 4, 3) := by decide +kernel
theorem dL_law_218 : decode cL_law 218 = .ok (.iconst 0, 1) := by decide +kernel
theorem dL_law_219 : decode cL_law 219 = .ok (.istore_n 2, 1) := by decide +kernel
theorem dL_law_220 : decode cL_law 220 = .ok (.iconst 0, 1) := by decide +kernel
theorem dL_law_221 : decode cL_law 221 = .ok (.istore 6, 2) := by decide +kernel
theorem dL_law_223 : decode cL_law 223 = .ok (.iload 6, 2) := by decide +kernel
theorem dL_law_225 : decode cL_law 225 = .ok (.bipush 9, 2) := by decide +kernel
theorem dL_law_227 : decode cL_law 227 = .ok (.if_icmp .ge 80, 3) := by decide +kernel
theorem dL_law_230 : decode cL_law 230 = .ok (.iload_n 2, 1) := by decide +kernel
theorem dL_law_231 : decode cL_law 231 = .ok (.ifCond .eq 76, 3) := by decide +kernel
theorem dL_law_234 : decode cL_law 234 = .ok (.iload 5, 2) := by decide +kernel
theorem dL_law_236 : decode cL_law 236 = .ok (.iload 6, 2) := by decide +kernel
theorem dL_law_238 : decode cL_law 238 = .ok (.ishr, 1) := by decide +kernel
theorem dL_law_239 : decode cL_law 239 = .ok (.iconst 1, 1) := by decide +kernel
theorem dL_law_240 : decode cL_law 240 = .ok (.iand, 1) := by decide +kernel
theorem dL_law_241 : decode cL_law 241 = .ok (.iconst 1, 1) := by decide +kernel
theorem dL_law_242 : decode cL_law 242 = .ok (.if_icmp .ne 13, 3) := by decide +kernel
theorem dL_law_245 : decode cL_law 245 = .ok (.aload_n 1, 1) := by decide +kernel
theorem dL_law_246 : decode cL_law 246 = .ok (.iload 6, 2) := by decide +kernel
theorem dL_law_248 : decode cL_law 248 = .ok (.iconst 0, 1) := by decide +kernel
theorem dL_law_249 : decode cL_law 249 = .ok (.invokevirtual 37, 3) := by decide +kernel
theorem dL_law_252 : decode cL_law 252 = .ok (.goto 5, 3) := by decide +kernel
theorem dL_law_255 : decode cL_law 255 = .ok (.bipush (-6), 2) := by decide +kernel
theorem dL_law_257 : decode cL_law 257 = .ok (.istore 7, 2) := by decide +kernel
theorem dL_law_259 : decode cL_law 259 = .ok (.iload 7, 2) := by decide +kernel
theorem dL_law_261 : decode cL_law 261 = .ok (.ifCond .lt 14, 3) := by decide +kernel
theorem dL_law_264 : decode cL_law 264 = .ok (.iload 7, 2) := by decide +kernel
theorem dL_law_266 : decode cL_law 266 = .ok (.bipush 100, 2) := by decide +kernel
theorem dL_law_268 : decode cL_law 268 = .ok (.if_icmp .gt 7, 3) := by decide +kernel
theorem dL_law_271 : decode cL_law 271 = .ok (.iconst 1, 1) := by decide +kernel
theorem dL_law_272 : decode cL_law 272 = .ok (.goto 4, 3) := by decide +kernel
theorem dL_law_275 : decode cL_law 275 = .ok (.iconst 0, 1) := by decide +kernel
theorem dL_law_276 : decode cL_law 276 = .ok (.iload 4, 2) := by decide +kernel
theorem dL_law_278 : decode cL_law 278 = .ok (.iload 6, 2) := by decide +kernel
theorem dL_law_280 : decode cL_law 280 = .ok (.ishr, 1) := by decide +kernel
theorem dL_law_281 : decode cL_law 281 = .ok (.iconst 1, 1) := by decide +kernel
theorem dL_law_282 : decode cL_law 282 = .ok (.iand, 1) := by decide +kernel
theorem dL_law_283 : decode cL_law 283 = .ok (.iconst 1, 1) := by decide +kernel
theorem dL_law_284 : decode cL_law 284 = .ok (.if_icmp .ne 7, 3) := by decide +kernel
theorem dL_law_287 : decode cL_law 287 = .ok (.iconst 1, 1) := by decide +kernel
theorem dL_law_288 : decode cL_law 288 = .ok (.goto 4, 3) := by decide +kernel
theorem dL_law_291 : decode cL_law 291 = .ok (.iconst 0, 1) := by decide +kernel
theorem dL_law_292 : decode cL_law 292 = .ok (.if_icmp .ne 7, 3) := by decide +kernel
theorem dL_law_295 : decode cL_law 295 = .ok (.iconst 1, 1) := by decide +kernel
theorem dL_law_296 : decode cL_law 296 = .ok (.goto 4, 3) := by decide +kernel
theorem dL_law_299 : decode cL_law 299 = .ok (.iconst 0, 1) := by decide +kernel
theorem dL_law_300 : decode cL_law 300 = .ok (.istore_n 2, 1) := by decide +kernel
theorem dL_law_301 : decode cL_law 301 = .ok (.iinc 6 1, 3) := by decide +kernel
theorem dL_law_304 : decode cL_law 304 = .ok (.goto (-81), 3) := by decide +kernel
theorem dL_law_307 : decode cL_law 307 = .ok (.iload_n 2, 1) := by decide +kernel
theorem dL_law_308 : decode cL_law 308 = .ok (.ifCond .eq 48, 3) := by decide +kernel
theorem dL_law_311 : decode cL_law 311 = .ok (.aload_n 1, 1) := by decide +kernel
theorem dL_law_312 : decode cL_law 312 = .ok (.invokestatic 71, 3) := by decide +kernel
theorem dL_law_315 : decode cL_law 315 = .ok (.ifCond .eq 41, 3) := by decide +kernel
theorem dL_law_318 : decode cL_law 318 = .ok (.aload_n 1, 1) := by decide +kernel
theorem dL_law_319 : decode cL_law 319 = .ok (.invokestatic 99, 3) := by decide +kernel
theorem dL_law_322 : decode cL_law 322 = .ok (.ifCond .eq 34, 3) := by decide +kernel
theorem dL_law_325 : decode cL_law 325 = .ok (.aload_n 1, 1) := by decide +kernel
theorem dL_law_326 : decode cL_law 326 = .ok (.iconst 1, 1) := by decide +kernel
theorem dL_law_327 : decode cL_law 327 = .ok (.invokevirtual 85, 3) := by decide +kernel
theorem dL_law_330 : decode cL_law 330 = .ok (.iload_n 3, 1) := by decide +kernel
theorem dL_law_331 : decode cL_law 331 = .ok (.if_icmp .ne 25, 3) := by decide +kernel
theorem dL_law_334 : decode cL_law 334 = .ok (.aload_n 1, 1) := by decide +kernel
theorem dL_law_335 : decode cL_law 335 = .ok (.bipush 11, 2) := by decide +kernel
theorem dL_law_337 : decode cL_law 337 = .ok (.invokevirtual 15, 3) := by decide +kernel
theorem dL_law_340 : decode cL_law 340 = .ok (.iload 5, 2) := by decide +kernel
theorem dL_law_342 : decode cL_law 342 = .ok (.if_icmp .ne 14, 3) := by decide +kernel
theorem dL_law_345 : decode cL_law 345 = .ok (.aload_n 1, 1) := by decide +kernel
theorem dL_law_346 : decode cL_law 346 = .ok (.invokevirtual 82, 3) := by decide +kernel
theorem dL_law_349 : decode cL_law 349 = .ok (.ifCond .lt 7, 3) := by decide +kernel
theorem dL_law_352 : decode cL_law 352 = .ok (.iconst 1, 1) := by decide +kernel
theorem dL_law_353 : decode cL_law 353 = .ok (.goto 4, 3) := by decide +kernel
theorem dL_law_356 : decode cL_law 356 = .ok (.iconst 0, 1) := by decide +kernel
theorem dL_law_357 : decode cL_law 357 = .ok (.ireturn, 1) := by decide +kernel

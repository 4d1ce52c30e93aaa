theorem dL_asks_0 : decode cL_asks 0 = .ok (.iload_n 1, 1) := by decide +kernel
theorem dL_asks_1 : decode cL_asks 1 = .ok (.ifCond .ne 12, 3) := by decide +kernel
theorem dL_asks_4 : decode cL_asks 4 = .ok (.aload_n 0, 1) := by decide +kernel
theorem dL_asks_5 : decode cL_asks 5 = .ok (.iload_n 2, 1) := by decide +kernel
theorem dL_asks_6 : decode cL_asks 6 = .ok (.iload_n 3, 1) := by decide +kernel
theorem dL_asks_7 : decode cL_asks 7 = .ok (.invokevirtual 10, 3) := by decide +kernel
theorem dL_asks_10 : decode cL_asks 10 = .ok (.goto 137, 3) := by decide +kernel
theorem dL_asks_13 : decode cL_asks 13 = .ok (.iload_n 1, 1) := by decide +kernel
theorem dL_asks_14 : decode cL_asks 14 = .ok (.iconst 1, 1) := by decide +kernel
theorem dL_asks_15 : decode cL_asks 15 = .ok (.if_icmp .ne 11, 3) := by decide +kernel
theorem dL_asks_18 : decode cL_asks 18 = .ok (.aload_n 0, 1) := by decide +kernel
theorem dL_asks_19 : decode cL_asks 19 = .ok (.iload_n 2, 1) := by decide +kernel
theorem dL_asks_20 : decode cL_asks 20 = .ok (.invokevirtual 16, 3) := by decide +kernel
theorem dL_asks_23 : decode cL_asks 23 = .ok (.goto 124, 3) := by decide +kernel
theorem dL_asks_26 : decode cL_asks 26 = .ok (.iload_n 1, 1) := by decide +kernel
theorem dL_asks_27 : decode cL_asks 27 = .ok (.iconst 2, 1) := by decide +kernel
theorem dL_asks_28 : decode cL_asks 28 = .ok (.if_icmp .ne 27, 3) := by decide +kernel
theorem dL_asks_31 : decode cL_asks 31 = .ok (.aload_n 0, 1) := by decide +kernel
theorem dL_asks_32 : decode cL_asks 32 = .ok (.iload_n 2, 1) := by decide +kernel
theorem dL_asks_33 : decode cL_asks 33 = .ok (.iload_n 3, 1) := by decide +kernel
theorem dL_asks_34 : decode cL_asks 34 = .ok (.iconst 3, 1) := by decide +kernel
theorem dL_asks_35 : decode cL_asks 35 = .ok (.iload 4, 2) := by decide +kernel
theorem dL_asks_37 : decode cL_asks 37 = .ok (.iconst 4, 1) := by decide +kernel
theorem dL_asks_38 : decode cL_asks 38 = .ok (.irem, 1) := by decide +kernel
theorem dL_asks_39 : decode cL_asks 39 = .ok (.iadd, 1) := by decide +kernel
theorem dL_asks_40 : decode cL_asks 40 = .ok (.iconst 1, 1) := by decide +kernel
theorem dL_asks_41 : decode cL_asks 41 = .ok (.iload 4, 2) := by decide +kernel
theorem dL_asks_43 : decode cL_asks 43 = .ok (.iconst 4, 1) := by decide +kernel
theorem dL_asks_44 : decode cL_asks 44 = .ok (.idiv, 1) := by decide +kernel
theorem dL_asks_45 : decode cL_asks 45 = .ok (.bipush 10, 2) := by decide +kernel
theorem dL_asks_47 : decode cL_asks 47 = .ok (.irem, 1) := by decide +kernel
theorem dL_asks_48 : decode cL_asks 48 = .ok (.iadd, 1) := by decide +kernel
theorem dL_asks_49 : decode cL_asks 49 = .ok (.invokevirtual 20, 3) := by decide +kernel
theorem dL_asks_52 : decode cL_asks 52 = .ok (.goto 95, 3) := by decide +kernel
theorem dL_asks_55 : decode cL_asks 55 = .ok (.iload_n 1, 1) := by decide +kernel
theorem dL_asks_56 : decode cL_asks 56 = .ok (.iconst 3, 1) := by decide +kernel
theorem dL_asks_57 : decode cL_asks 57 = .ok (.if_icmp .ne 14, 3) := by decide +kernel
theorem dL_asks_60 : decode cL_asks 60 = .ok (.aload_n 0, 1) := by decide +kernel
theorem dL_asks_61 : decode cL_asks 61 = .ok (.iload_n 2, 1) := by decide +kernel
theorem dL_asks_62 : decode cL_asks 62 = .ok (.iload_n 3, 1) := by decide +kernel
theorem dL_asks_63 : decode cL_asks 63 = .ok (.iload 4, 2) := by decide +kernel
theorem dL_asks_65 : decode cL_asks 65 = .ok (.invokevirtual 24, 3) := by decide +kernel
theorem dL_asks_68 : decode cL_asks 68 = .ok (.goto 79, 3) := by decide +kernel
theorem dL_asks_71 : decode cL_asks 71 = .ok (.iload_n 1, 1) := by decide +kernel
theorem dL_asks_72 : decode cL_asks 72 = .ok (.iconst 4, 1) := by decide +kernel
theorem dL_asks_73 : decode cL_asks 73 = .ok (.if_icmp .ne 11, 3) := by decide +kernel
theorem dL_asks_76 : decode cL_asks 76 = .ok (.aload_n 0, 1) := by decide +kernel
theorem dL_asks_77 : decode cL_asks 77 = .ok (.iload_n 2, 1) := by decide +kernel
theorem dL_asks_78 : decode cL_asks 78 = .ok (.invokevirtual 28, 3) := by decide +kernel
theorem dL_asks_81 : decode cL_asks 81 = .ok (.goto 66, 3) := by decide +kernel
theorem dL_asks_84 : decode cL_asks 84 = .ok (.iload_n 1, 1) := by decide +kernel
theorem dL_asks_85 : decode cL_asks 85 = .ok (.iconst 5, 1) := by decide +kernel
theorem dL_asks_86 : decode cL_asks 86 = .ok (.if_icmp .ne 11, 3) := by decide +kernel
theorem dL_asks_89 : decode cL_asks 89 = .ok (.aload_n 0, 1) := by decide +kernel
theorem dL_asks_90 : decode cL_asks 90 = .ok (.iload_n 2, 1) := by decide +kernel
theorem dL_asks_91 : decode cL_asks 91 = .ok (.invokevirtual 31, 3) := by decide +kernel
theorem dL_asks_94 : decode cL_asks 94 = .ok (.goto 53, 3) := by decide +kernel
theorem dL_asks_97 : decode cL_asks 97 = .ok (.iload_n 1, 1) := by decide +kernel
theorem dL_asks_98 : decode cL_asks 98 = .ok (.bipush 6, 2) := by decide +kernel
theorem dL_asks_100 : decode cL_asks 100 = .ok (.if_icmp .ne 12, 3) := by decide +kernel
theorem dL_asks_103 : decode cL_asks 103 = .ok (.aload_n 0, 1) := by decide +kernel
theorem dL_asks_104 : decode cL_asks 104 = .ok (.iload_n 2, 1) := by decide +kernel
theorem dL_asks_105 : decode cL_asks 105 = .ok (.iload_n 3, 1) := by decide +kernel
theorem dL_asks_106 : decode cL_asks 106 = .ok (.invokevirtual 34, 3) := by decide +kernel
theorem dL_asks_109 : decode cL_asks 109 = .ok (.goto 38, 3) := by decide +kernel
theorem dL_asks_112 : decode cL_asks 112 = .ok (.iload_n 1, 1) := by decide +kernel
theorem dL_asks_113 : decode cL_asks 113 = .ok (.bipush 7, 2) := by decide +kernel
theorem dL_asks_115 : decode cL_asks 115 = .ok (.if_icmp .ne 11, 3) := by decide +kernel
theorem dL_asks_118 : decode cL_asks 118 = .ok (.aload_n 0, 1) := by decide +kernel
theorem dL_asks_119 : decode cL_asks 119 = .ok (.iload_n 2, 1) := by decide +kernel
theorem dL_asks_120 : decode cL_asks 120 = .ok (.invokevirtual 37, 3) := by decide +kernel
theorem dL_asks_123 : decode cL_asks 123 = .ok (.goto 24, 3) := by decide +kernel
theorem dL_asks_126 : decode cL_asks 126 = .ok (.iload_n 1, 1) := by decide +kernel
theorem dL_asks_127 : decode cL_asks 127 = .ok (.bipush 8, 2) := by decide +kernel
theorem dL_asks_129 : decode cL_asks 129 = .ok (.if_icmp .ne 12, 3) := by decide +kernel
theorem dL_asks_132 : decode cL_asks 132 = .ok (.aload_n 0, 1) := by decide +kernel
theorem dL_asks_133 : decode cL_asks 133 = .ok (.iload_n 2, 1) := by decide +kernel
theorem dL_asks_134 : decode cL_asks 134 = .ok (.iload_n 3, 1) := by decide +kernel
theorem dL_asks_135 : decode cL_asks 135 = .ok (.invokevirtual 40, 3) := by decide +kernel
theorem dL_asks_138 : decode cL_asks 138 = .ok (.goto 9, 3) := by decide +kernel
theorem dL_asks_141 : decode cL_asks 141 = .ok (.aload_n 0, 1) := by decide +kernel
theorem dL_asks_142 : decode cL_asks 142 = .ok (.iload_n 2, 1) := by decide +kernel
theorem dL_asks_143 : decode cL_asks 143 = .ok (.iload_n 3, 1) := by decide +kernel
theorem dL_asks_144 : decode cL_asks 144 = .ok (.invokevirtual 43, 3) := by decide +kernel
theorem dL_asks_147 : decode cL_asks 147 = .ok (.ireturn, 1) := by decide +kernel
theorem dL_asks_148 : decode cL_asks 148 = .ok (.astore 5, 2) := by decide +kernel
theorem dL_asks_150 : decode cL_asks 150 = .ok (.ldc 48, 2) := by decide +kernel
theorem dL_asks_152 : decode cL_asks 152 = .ok (.ireturn, 1) := by decide +kernel
theorem dL_asks_153 : decode cL_asks 153 = .ok (.astore 5, 2) := by decide +kernel
theorem dL_asks_155 : decode cL_asks 155 = .ok (.ldc 51, 2) := by decide +kernel
theorem dL_asks_157 : decode cL_asks 157 = .ok (.ireturn, 1) := by decide +kernel
theorem dL_asks_158 : decode cL_asks 158 = .ok (.astore 5, 2) := by decide +kernel
theorem dL_asks_160 : decode cL_asks 160 = .ok (.ldc 54, 2) := by decide +kernel
theorem dL_asks_162 : decode cL_asks 162 = .ok (.ireturn, 1) := by decide +kernel
theorem dL_isWord_0 : decode cL_isWord 0 = .ok (.iconst 0, 1) := by decide +kernel
theorem dL_isWord_1 : decode cL_isWord 1 = .ok (.istore 4, 2) := by decide +kernel
theorem dL_isWord_3 : decode cL_isWord 3 = .ok (.iconst 1, 1) := by decide +kernel
theorem dL_isWord_4 : decode cL_isWord 4 = .ok (.istore 5, 2) := by decide +kernel
theorem dL_isWord_6 : decode cL_isWord 6 = .ok (.aload_n 0, 1) := by decide +kernel
theorem dL_isWord_7 : decode cL_isWord 7 = .ok (.iload_n 1, 1) := by decide +kernel
theorem dL_isWord_8 : decode cL_isWord 8 = .ok (.iload_n 2, 1) := by decide +kernel
theorem dL_isWord_9 : decode cL_isWord 9 = .ok (.iload 5, 2) := by decide +kernel
theorem dL_isWord_11 : decode cL_isWord 11 = .ok (.invokevirtual 55, 3) := by decide +kernel
theorem dL_isWord_14 : decode cL_isWord 14 = .ok (.bipush 48, 2) := by decide +kernel
theorem dL_isWord_16 : decode cL_isWord 16 = .ok (.if_icmp .lt 48, 3) := by decide +kernel
theorem dL_isWord_19 : decode cL_isWord 19 = .ok (.aload_n 0, 1) := by decide +kernel
theorem dL_isWord_20 : decode cL_isWord 20 = .ok (.iload_n 1, 1) := by decide +kernel
theorem dL_isWord_21 : decode cL_isWord 21 = .ok (.iload_n 2, 1) := by decide +kernel
theorem dL_isWord_22 : decode cL_isWord 22 = .ok (.iload 5, 2) := by decide +kernel
theorem dL_isWord_24 : decode cL_isWord 24 = .ok (.invokevirtual 55, 3) := by decide +kernel
theorem dL_isWord_27 : decode cL_isWord 27 = .ok (.bipush 57, 2) := by decide +kernel
theorem dL_isWord_29 : decode cL_isWord 29 = .ok (.if_icmp .gt 35, 3) := by decide +kernel
theorem dL_isWord_32 : decode cL_isWord 32 = .ok (.iload 5, 2) := by decide +kernel
theorem dL_isWord_34 : decode cL_isWord 34 = .ok (.bipush 12, 2) := by decide +kernel
theorem dL_isWord_36 : decode cL_isWord 36 = .ok (.if_icmp .ge 28, 3) := by decide +kernel
theorem dL_isWord_39 : decode cL_isWord 39 = .ok (.bipush 10, 2) := by decide +kernel
theorem dL_isWord_41 : decode cL_isWord 41 = .ok (.iload 4, 2) := by decide +kernel
theorem dL_isWord_43 : decode cL_isWord 43 = .ok (.imul, 1) := by decide +kernel
theorem dL_isWord_44 : decode cL_isWord 44 = .ok (.aload_n 0, 1) := by decide +kernel
theorem dL_isWord_45 : decode cL_isWord 45 = .ok (.iload_n 1, 1) := by decide +kernel
theorem dL_isWord_46 : decode cL_isWord 46 = .ok (.iload_n 2, 1) := by decide +kernel
theorem dL_isWord_47 : decode cL_isWord 47 = .ok (.iload 5, 2) := by decide +kernel
theorem dL_isWord_49 : decode cL_isWord 49 = .ok (.invokevirtual 55, 3) := by decide +kernel
theorem dL_isWord_52 : decode cL_isWord 52 = .ok (.iadd, 1) := by decide +kernel
theorem dL_isWord_53 : decode cL_isWord 53 = .ok (.bipush 48, 2) := by decide +kernel
theorem dL_isWord_55 : decode cL_isWord 55 = .ok (.isub, 1) := by decide +kernel
theorem dL_isWord_56 : decode cL_isWord 56 = .ok (.istore 4, 2) := by decide +kernel
theorem dL_isWord_58 : decode cL_isWord 58 = .ok (.iinc 5 1, 3) := by decide +kernel
theorem dL_isWord_61 : decode cL_isWord 61 = .ok (.goto (-55), 3) := by decide +kernel
theorem dL_isWord_64 : decode cL_isWord 64 = .ok (.aload_n 0, 1) := by decide +kernel
theorem dL_isWord_65 : decode cL_isWord 65 = .ok (.iload_n 1, 1) := by decide +kernel
theorem dL_isWord_66 : decode cL_isWord 66 = .ok (.iload_n 2, 1) := by decide +kernel
theorem dL_isWord_67 : decode cL_isWord 67 = .ok (.iload 5, 2) := by decide +kernel
theorem dL_isWord_69 : decode cL_isWord 69 = .ok (.iconst 2, 1) := by decide +kernel
theorem dL_isWord_70 : decode cL_isWord 70 = .ok (.iadd, 1) := by decide +kernel
theorem dL_isWord_71 : decode cL_isWord 71 = .ok (.invokevirtual 55, 3) := by decide +kernel
theorem dL_isWord_74 : decode cL_isWord 74 = .ok (.bipush 48, 2) := by decide +kernel
theorem dL_isWord_76 : decode cL_isWord 76 = .ok (.isub, 1) := by decide +kernel
theorem dL_isWord_77 : decode cL_isWord 77 = .ok (.istore 6, 2) := by decide +kernel
theorem dL_isWord_79 : decode cL_isWord 79 = .ok (.aload_n 0, 1) := by decide +kernel
theorem dL_isWord_80 : decode cL_isWord 80 = .ok (.iload_n 1, 1) := by decide +kernel
theorem dL_isWord_81 : decode cL_isWord 81 = .ok (.iload_n 2, 1) := by decide +kernel
theorem dL_isWord_82 : decode cL_isWord 82 = .ok (.iconst 0, 1) := by decide +kernel
theorem dL_isWord_83 : decode cL_isWord 83 = .ok (.invokevirtual 55, 3) := by decide +kernel
theorem dL_isWord_86 : decode cL_isWord 86 = .ok (.iload_n 3, 1) := by decide +kernel
theorem dL_isWord_87 : decode cL_isWord 87 = .ok (.ifCond .eq 8, 3) := by decide +kernel
theorem dL_isWord_90 : decode cL_isWord 90 = .ok (.bipush 109, 2) := by decide +kernel
theorem dL_isWord_92 : decode cL_isWord 92 = .ok (.goto 5, 3) := by decide +kernel
theorem dL_isWord_95 : decode cL_isWord 95 = .ok (.bipush 101, 2) := by decide +kernel
theorem dL_isWord_97 : decode cL_isWord 97 = .ok (.if_icmp .ne 114, 3) := by decide +kernel
theorem dL_isWord_100 : decode cL_isWord 100 = .ok (.iload 4, 2) := by decide +kernel
theorem dL_isWord_102 : decode cL_isWord 102 = .ok (.aload_n 0, 1) := by decide +kernel
theorem dL_isWord_103 : decode cL_isWord 103 = .ok (.iload_n 1, 1) := by decide +kernel
theorem dL_isWord_104 : decode cL_isWord 104 = .ok (.iload_n 2, 1) := by decide +kernel
theorem dL_isWord_105 : decode cL_isWord 105 = .ok (.invokevirtual 43, 3) := by decide +kernel
theorem dL_isWord_108 : decode cL_isWord 108 = .ok (.if_icmp .ne 103, 3) := by decide +kernel
theorem dL_isWord_111 : decode cL_isWord 111 = .ok (.iload 4, 2) := by decide +kernel
theorem dL_isWord_113 : decode cL_isWord 113 = .ok (.aload_n 0, 1) := by decide +kernel
theorem dL_isWord_114 : decode cL_isWord 114 = .ok (.iload_n 1, 1) := by decide +kernel
theorem dL_isWord_115 : decode cL_isWord 115 = .ok (.iload_n 2, 1) := by decide +kernel
theorem dL_isWord_116 : decode cL_isWord 116 = .ok (.invokevirtual 59, 3) := by decide +kernel
theorem dL_isWord_119 : decode cL_isWord 119 = .ok (.if_icmp .ne 92, 3) := by decide +kernel
theorem dL_isWord_122 : decode cL_isWord 122 = .ok (.iload 5, 2) := by decide +kernel
theorem dL_isWord_124 : decode cL_isWord 124 = .ok (.iconst 2, 1) := by decide +kernel
theorem dL_isWord_125 : decode cL_isWord 125 = .ok (.if_icmp .eq 15, 3) := by decide +kernel
theorem dL_isWord_128 : decode cL_isWord 128 = .ok (.aload_n 0, 1) := by decide +kernel
theorem dL_isWord_129 : decode cL_isWord 129 = .ok (.iload_n 1, 1) := by decide +kernel
theorem dL_isWord_130 : decode cL_isWord 130 = .ok (.iload_n 2, 1) := by decide +kernel
theorem dL_isWord_131 : decode cL_isWord 131 = .ok (.iconst 1, 1) := by decide +kernel
theorem dL_isWord_132 : decode cL_isWord 132 = .ok (.invokevirtual 55, 3) := by decide +kernel
theorem dL_isWord_135 : decode cL_isWord 135 = .ok (.bipush 48, 2) := by decide +kernel
theorem dL_isWord_137 : decode cL_isWord 137 = .ok (.if_icmp .eq 74, 3) := by decide +kernel
theorem dL_isWord_140 : decode cL_isWord 140 = .ok (.aload_n 0, 1) := by decide +kernel
theorem dL_isWord_141 : decode cL_isWord 141 = .ok (.iload_n 1, 1) := by decide +kernel
theorem dL_isWord_142 : decode cL_isWord 142 = .ok (.iload_n 2, 1) := by decide +kernel
theorem dL_isWord_143 : decode cL_isWord 143 = .ok (.iload 5, 2) := by decide +kernel
theorem dL_isWord_145 : decode cL_isWord 145 = .ok (.invokevirtual 55, 3) := by decide +kernel
theorem dL_isWord_148 : decode cL_isWord 148 = .ok (.bipush 47, 2) := by decide +kernel
theorem dL_isWord_150 : decode cL_isWord 150 = .ok (.if_icmp .ne 61, 3) := by decide +kernel
theorem dL_isWord_153 : decode cL_isWord 153 = .ok (.aload_n 0, 1) := by decide +kernel
theorem dL_isWord_154 : decode cL_isWord 154 = .ok (.iload_n 1, 1) := by decide +kernel
theorem dL_isWord_155 : decode cL_isWord 155 = .ok (.iload_n 2, 1) := by decide +kernel
theorem dL_isWord_156 : decode cL_isWord 156 = .ok (.iload 5, 2) := by decide +kernel
theorem dL_isWord_158 : decode cL_isWord 158 = .ok (.iconst 1, 1) := by decide +kernel
theorem dL_isWord_159 : decode cL_isWord 159 = .ok (.iadd, 1) := by decide +kernel
theorem dL_isWord_160 : decode cL_isWord 160 = .ok (.invokevirtual 55, 3) := by decide +kernel
theorem dL_isWord_163 : decode cL_isWord 163 = .ok (.bipush 115, 2) := by decide +kernel
theorem dL_isWord_165 : decode cL_isWord 165 = .ok (.if_icmp .ne 46, 3) := by decide +kernel
theorem dL_isWord_168 : decode cL_isWord 168 = .ok (.iload 6, 2) := by decide +kernel
theorem dL_isWord_170 : decode cL_isWord 170 = .ok (.ifCond .lt 41, 3) := by decide +kernel
theorem dL_isWord_173 : decode cL_isWord 173 = .ok (.iload 6, 2) := by decide +kernel
theorem dL_isWord_175 : decode cL_isWord 175 = .ok (.iconst 4, 1) := by decide +kernel
theorem dL_isWord_176 : decode cL_isWord 176 = .ok (.if_icmp .ge 35, 3) := by decide +kernel
theorem dL_isWord_179 : decode cL_isWord 179 = .ok (.aload_n 0, 1) := by decide +kernel
theorem dL_isWord_180 : decode cL_isWord 180 = .ok (.iload_n 1, 1) := by decide +kernel
theorem dL_isWord_181 : decode cL_isWord 181 = .ok (.iload_n 2, 1) := by decide +kernel
theorem dL_isWord_182 : decode cL_isWord 182 = .ok (.iload 5, 2) := by decide +kernel
theorem dL_isWord_184 : decode cL_isWord 184 = .ok (.iconst 3, 1) := by decide +kernel
theorem dL_isWord_185 : decode cL_isWord 185 = .ok (.iadd, 1) := by decide +kernel
theorem dL_isWord_186 : decode cL_isWord 186 = .ok (.invokevirtual 55, 3) := by decide +kernel
theorem dL_isWord_189 : decode cL_isWord 189 = .ok (.bipush 32, 2) := by decide +kernel
theorem dL_isWord_191 : decode cL_isWord 191 = .ok (.if_icmp .ne 20, 3) := by decide +kernel
theorem dL_isWord_194 : decode cL_isWord 194 = .ok (.aload_n 0, 1) := by decide +kernel
theorem dL_isWord_195 : decode cL_isWord 195 = .ok (.iload_n 1, 1) := by decide +kernel
theorem dL_isWord_196 : decode cL_isWord 196 = .ok (.iload_n 2, 1) := by decide +kernel
theorem dL_isWord_197 : decode cL_isWord 197 = .ok (.ldc 9, 2) := by decide +kernel
theorem dL_isWord_199 : decode cL_isWord 199 = .ok (.invokevirtual 55, 3) := by decide +kernel
theorem dL_isWord_202 : decode cL_isWord 202 = .ok (.bipush 32, 2) := by decide +kernel
theorem dL_isWord_204 : decode cL_isWord 204 = .ok (.if_icmp .ne 7, 3) := by decide +kernel
theorem dL_isWord_207 : decode cL_isWord 207 = .ok (.iconst 1, 1) := by decide +kernel
theorem dL_isWord_208 : decode cL_isWord 208 = .ok (.goto 4, 3) := by decide +kernel
theorem dL_isWord_211 : decode cL_isWord 211 = .ok (.iconst 0, 1) := by decide +kernel
theorem dL_isWord_212 : decode cL_isWord 212 = .ok (.ireturn, 1) := by decide +kernel
theorem dL_shows_0 : decode cL_shows 0 = .ok (.iload_n 0, 1) := by decide +kernel
theorem dL_shows_1 : decode cL_shows 1 = .ok (.iconst 3, 1) := by decide +kernel
theorem dL_shows_2 : decode cL_shows 2 = .ok (.if_icmp .ne 9, 3) := by decide +kernel
theorem dL_shows_5 : decode cL_shows 5 = .ok (.sipush 1000, 3) := by decide +kernel
theorem dL_shows_8 : decode cL_shows 8 = .ok (.goto 26, 3) := by decide +kernel
theorem dL_shows_11 : decode cL_shows 11 = .ok (.iload_n 0, 1) := by decide +kernel
theorem dL_shows_12 : decode cL_shows 12 = .ok (.iconst 4, 1) := by decide +kernel
theorem dL_shows_13 : decode cL_shows 13 = .ok (.if_icmp .ne 9, 3) := by decide +kernel
theorem dL_shows_16 : decode cL_shows 16 = .ok (.sipush 10000, 3) := by decide +kernel
theorem dL_shows_19 : decode cL_shows 19 = .ok (.goto 15, 3) := by decide +kernel
theorem dL_shows_22 : decode cL_shows 22 = .ok (.iload_n 0, 1) := by decide +kernel
theorem dL_shows_23 : decode cL_shows 23 = .ok (.iconst 5, 1) := by decide +kernel
theorem dL_shows_24 : decode cL_shows 24 = .ok (.if_icmp .ne 8, 3) := by decide +kernel
theorem dL_shows_27 : decode cL_shows 27 = .ok (.ldc 82, 2) := by decide +kernel
theorem dL_shows_29 : decode cL_shows 29 = .ok (.goto 5, 3) := by decide +kernel
theorem dL_shows_32 : decode cL_shows 32 = .ok (.ldc 83, 2) := by decide +kernel
theorem dL_shows_34 : decode cL_shows 34 = .ok (.ireturn, 1) := by decide +kernel
theorem dL_isSpread_0 : decode cL_isSpread 0 = .ok (.lconst 0, 1) := by decide +kernel
theorem dL_isSpread_1 : decode cL_isSpread 1 = .ok (.lstore 5, 2) := by decide +kernel
theorem dL_isSpread_3 : decode cL_isSpread 3 = .ok (.iconst 1, 1) := by decide +kernel
theorem dL_isSpread_4 : decode cL_isSpread 4 = .ok (.istore 7, 2) := by decide +kernel
theorem dL_isSpread_6 : decode cL_isSpread 6 = .ok (.iload_n 2, 1) := by decide +kernel
theorem dL_isSpread_7 : decode cL_isSpread 7 = .ok (.istore 8, 2) := by decide +kernel
theorem dL_isSpread_9 : decode cL_isSpread 9 = .ok (.iload 8, 2) := by decide +kernel
theorem dL_isSpread_11 : decode cL_isSpread 11 = .ok (.iload_n 3, 1) := by decide +kernel
theorem dL_isSpread_12 : decode cL_isSpread 12 = .ok (.if_icmp .ge 57, 3) := by decide +kernel
theorem dL_isSpread_15 : decode cL_isSpread 15 = .ok (.lload 5, 2) := by decide +kernel
theorem dL_isSpread_17 : decode cL_isSpread 17 = .ok (.aload_n 0, 1) := by decide +kernel
theorem dL_isSpread_18 : decode cL_isSpread 18 = .ok (.iload_n 1, 1) := by decide +kernel
theorem dL_isSpread_19 : decode cL_isSpread 19 = .ok (.iload 8, 2) := by decide +kernel
theorem dL_isSpread_21 : decode cL_isSpread 21 = .ok (.invokevirtual 43, 3) := by decide +kernel
theorem dL_isSpread_24 : decode cL_isSpread 24 = .ok (.i2l, 1) := by decide +kernel
theorem dL_isSpread_25 : decode cL_isSpread 25 = .ok (.ladd, 1) := by decide +kernel
theorem dL_isSpread_26 : decode cL_isSpread 26 = .ok (.lstore 5, 2) := by decide +kernel
theorem dL_isSpread_28 : decode cL_isSpread 28 = .ok (.iload 7, 2) := by decide +kernel
theorem dL_isSpread_30 : decode cL_isSpread 30 = .ok (.ifCond .eq 30, 3) := by decide +kernel
theorem dL_isSpread_33 : decode cL_isSpread 33 = .ok (.aload_n 0, 1) := by decide +kernel
theorem dL_isSpread_34 : decode cL_isSpread 34 = .ok (.iload_n 1, 1) := by decide +kernel
theorem dL_isSpread_35 : decode cL_isSpread 35 = .ok (.iload 8, 2) := by decide +kernel
theorem dL_isSpread_37 : decode cL_isSpread 37 = .ok (.invokevirtual 43, 3) := by decide +kernel
theorem dL_isSpread_40 : decode cL_isSpread 40 = .ok (.ifCond .lt 20, 3) := by decide +kernel
theorem dL_isSpread_43 : decode cL_isSpread 43 = .ok (.aload_n 0, 1) := by decide +kernel
theorem dL_isSpread_44 : decode cL_isSpread 44 = .ok (.iload_n 1, 1) := by decide +kernel
theorem dL_isSpread_45 : decode cL_isSpread 45 = .ok (.iload 8, 2) := by decide +kernel
theorem dL_isSpread_47 : decode cL_isSpread 47 = .ok (.iconst 0, 1) := by decide +kernel
theorem dL_isSpread_48 : decode cL_isSpread 48 = .ok (.invokevirtual 55, 3) := by decide +kernel
theorem dL_isSpread_51 : decode cL_isSpread 51 = .ok (.bipush 109, 2) := by decide +kernel
theorem dL_isSpread_53 : decode cL_isSpread 53 = .ok (.if_icmp .ne 7, 3) := by decide +kernel
theorem dL_isSpread_56 : decode cL_isSpread 56 = .ok (.iconst 1, 1) := by decide +kernel
theorem dL_isSpread_57 : decode cL_isSpread 57 = .ok (.goto 4, 3) := by decide +kernel
theorem dL_isSpread_60 : decode cL_isSpread 60 = .ok (.iconst 0, 1) := by decide +kernel
theorem dL_isSpread_61 : decode cL_isSpread 61 = .ok (.istore 7, 2) := by decide +kernel
theorem dL_isSpread_63 : decode cL_isSpread 63 = .ok (.iinc 8 1, 3) := by decide +kernel
theorem dL_isSpread_66 : decode cL_isSpread 66 = .ok (.goto (-57), 3) := by decide +kernel
theorem dL_isSpread_69 : decode cL_isSpread 69 = .ok (.iload 7, 2) := by decide +kernel
theorem dL_isSpread_71 : decode cL_isSpread 71 = .ok (.ifCond .eq 16, 3) := by decide +kernel
theorem dL_isSpread_74 : decode cL_isSpread 74 = .ok (.lload 5, 2) := by decide +kernel
theorem dL_isSpread_76 : decode cL_isSpread 76 = .ok (.iload 4, 2) := by decide +kernel
theorem dL_isSpread_78 : decode cL_isSpread 78 = .ok (.i2l, 1) := by decide +kernel
theorem dL_isSpread_79 : decode cL_isSpread 79 = .ok (.lcmp, 1) := by decide +kernel
theorem dL_isSpread_80 : decode cL_isSpread 80 = .ok (.ifCond .ne 7, 3) := by decide +kernel
theorem dL_isSpread_83 : decode cL_isSpread 83 = .ok (.iconst 1, 1) := by decide +kernel
theorem dL_isSpread_84 : decode cL_isSpread 84 = .ok (.goto 4, 3) := by decide +kernel
theorem dL_isSpread_87 : decode cL_isSpread 87 = .ok (.iconst 0, 1) := by decide +kernel
theorem dL_isSpread_88 : decode cL_isSpread 88 = .ok (.ireturn, 1) := by decide +kernel
theorem dL_confirms_0 : decode cL_confirms 0 = .ok (.iload_n 1, 1) := by decide +kernel
theorem dL_confirms_1 : decode cL_confirms 1 = .ok (.aload_n 2, 1) := by decide +kernel
theorem dL_confirms_2 : decode cL_confirms 2 = .ok (.iconst 0, 1) := by decide +kernel
theorem dL_confirms_3 : decode cL_confirms 3 = .ok (.iaload, 1) := by decide +kernel
theorem dL_confirms_4 : decode cL_confirms 4 = .ok (.irem, 1) := by decide +kernel
theorem dL_confirms_5 : decode cL_confirms 5 = .ok (.istore 4, 2) := by decide +kernel
theorem dL_confirms_7 : decode cL_confirms 7 = .ok (.aload_n 3, 1) := by decide +kernel
theorem dL_confirms_8 : decode cL_confirms 8 = .ok (.bipush 6, 2) := by decide +kernel
theorem dL_confirms_10 : decode cL_confirms 10 = .ok (.iload 4, 2) := by decide +kernel
theorem dL_confirms_12 : decode cL_confirms 12 = .ok (.imul, 1) := by decide +kernel
theorem dL_confirms_13 : decode cL_confirms 13 = .ok (.iconst 5, 1) := by decide +kernel
theorem dL_confirms_14 : decode cL_confirms 14 = .ok (.iadd, 1) := by decide +kernel
theorem dL_confirms_15 : decode cL_confirms 15 = .ok (.iaload, 1) := by decide +kernel
theorem dL_confirms_16 : decode cL_confirms 16 = .ok (.istore 5, 2) := by decide +kernel
theorem dL_confirms_18 : decode cL_confirms 18 = .ok (.aload_n 3, 1) := by decide +kernel
theorem dL_confirms_19 : decode cL_confirms 19 = .ok (.bipush 6, 2) := by decide +kernel
theorem dL_confirms_21 : decode cL_confirms 21 = .ok (.iload 4, 2) := by decide +kernel
theorem dL_confirms_23 : decode cL_confirms 23 = .ok (.imul, 1) := by decide +kernel
theorem dL_confirms_24 : decode cL_confirms 24 = .ok (.iaload, 1) := by decide +kernel
theorem dL_confirms_25 : decode cL_confirms 25 = .ok (.istore 6, 2) := by decide +kernel
theorem dL_confirms_27 : decode cL_confirms 27 = .ok (.aload_n 0, 1) := by decide +kernel
theorem dL_confirms_28 : decode cL_confirms 28 = .ok (.iconst 1, 1) := by decide +kernel
theorem dL_confirms_29 : decode cL_confirms 29 = .ok (.iload 4, 2) := by decide +kernel
theorem dL_confirms_31 : decode cL_confirms 31 = .ok (.iconst 0, 1) := by decide +kernel
theorem dL_confirms_32 : decode cL_confirms 32 = .ok (.iconst 0, 1) := by decide +kernel
theorem dL_confirms_33 : decode cL_confirms 33 = .ok (.invokestatic 72, 3) := by decide +kernel
theorem dL_confirms_36 : decode cL_confirms 36 = .ok (.istore 7, 2) := by decide +kernel
theorem dL_confirms_38 : decode cL_confirms 38 = .ok (.iload 5, 2) := by decide +kernel
theorem dL_confirms_40 : decode cL_confirms 40 = .ok (.ifCond .ge 16, 3) := by decide +kernel
theorem dL_confirms_43 : decode cL_confirms 43 = .ok (.iload 7, 2) := by decide +kernel
theorem dL_confirms_45 : decode cL_confirms 45 = .ok (.ldc 54, 2) := by decide +kernel
theorem dL_confirms_47 : decode cL_confirms 47 = .ok (.if_icmp .ne 7, 3) := by decide +kernel
theorem dL_confirms_50 : decode cL_confirms 50 = .ok (.iconst 1, 1) := by decide +kernel
theorem dL_confirms_51 : decode cL_confirms 51 = .ok (.goto 4, 3) := by decide +kernel
theorem dL_confirms_54 : decode cL_confirms 54 = .ok (.iconst 0, 1) := by decide +kernel
theorem dL_confirms_55 : decode cL_confirms 55 = .ok (.ireturn, 1) := by decide +kernel
theorem dL_confirms_56 : decode cL_confirms 56 = .ok (.aload_n 3, 1) := by decide +kernel
theorem dL_confirms_57 : decode cL_confirms 57 = .ok (.bipush 6, 2) := by decide +kernel
theorem dL_confirms_59 : decode cL_confirms 59 = .ok (.iload 4, 2) := by decide +kernel
theorem dL_confirms_61 : decode cL_confirms 61 = .ok (.imul, 1) := by decide +kernel
theorem dL_confirms_62 : decode cL_confirms 62 = .ok (.iload 5, 2) := by decide +kernel
theorem dL_confirms_64 : decode cL_confirms 64 = .ok (.iastore, 1) := by decide +kernel
theorem dL_confirms_65 : decode cL_confirms 65 = .ok (.aload_n 3, 1) := by decide +kernel
theorem dL_confirms_66 : decode cL_confirms 66 = .ok (.bipush 6, 2) := by decide +kernel
theorem dL_confirms_68 : decode cL_confirms 68 = .ok (.iload 4, 2) := by decide +kernel
theorem dL_confirms_70 : decode cL_confirms 70 = .ok (.imul, 1) := by decide +kernel
theorem dL_confirms_71 : decode cL_confirms 71 = .ok (.iconst 1, 1) := by decide +kernel
theorem dL_confirms_72 : decode cL_confirms 72 = .ok (.iadd, 1) := by decide +kernel
theorem dL_confirms_73 : decode cL_confirms 73 = .ok (.aload_n 3, 1) := by decide +kernel
theorem dL_confirms_74 : decode cL_confirms 74 = .ok (.bipush 6, 2) := by decide +kernel
theorem dL_confirms_76 : decode cL_confirms 76 = .ok (.iload 4, 2) := by decide +kernel
theorem dL_confirms_78 : decode cL_confirms 78 = .ok (.imul, 1) := by decide +kernel
theorem dL_confirms_79 : decode cL_confirms 79 = .ok (.iconst 1, 1) := by decide +kernel
theorem dL_confirms_80 : decode cL_confirms 80 = .ok (.iadd, 1) := by decide +kernel
theorem dL_confirms_81 : decode cL_confirms 81 = .ok (.iaload, 1) := by decide +kernel
theorem dL_confirms_82 : decode cL_confirms 82 = .ok (.iload 7, 2) := by decide +kernel
theorem dL_confirms_84 : decode cL_confirms 84 = .ok (.aload_n 3, 1) := by decide +kernel
theorem dL_confirms_85 : decode cL_confirms 85 = .ok (.bipush 6, 2) := by decide +kernel
theorem dL_confirms_87 : decode cL_confirms 87 = .ok (.iload 4, 2) := by decide +kernel
theorem dL_confirms_89 : decode cL_confirms 89 = .ok (.imul, 1) := by decide +kernel
theorem dL_confirms_90 : decode cL_confirms 90 = .ok (.iconst 3, 1) := by decide +kernel
theorem dL_confirms_91 : decode cL_confirms 91 = .ok (.iadd, 1) := by decide +kernel
theorem dL_confirms_92 : decode cL_confirms 92 = .ok (.iaload, 1) := by decide +kernel
theorem dL_confirms_93 : decode cL_confirms 93 = .ok (.idiv, 1) := by decide +kernel
theorem dL_confirms_94 : decode cL_confirms 94 = .ok (.iadd, 1) := by decide +kernel
theorem dL_confirms_95 : decode cL_confirms 95 = .ok (.aload_n 3, 1) := by decide +kernel
theorem dL_confirms_96 : decode cL_confirms 96 = .ok (.bipush 6, 2) := by decide +kernel
theorem dL_confirms_98 : decode cL_confirms 98 = .ok (.iload 4, 2) := by decide +kernel
theorem dL_confirms_100 : decode cL_confirms 100 = .ok (.imul, 1) := by decide +kernel
theorem dL_confirms_101 : decode cL_confirms 101 = .ok (.iconst 2, 1) := by decide +kernel
theorem dL_confirms_102 : decode cL_confirms 102 = .ok (.iadd, 1) := by decide +kernel
theorem dL_confirms_103 : decode cL_confirms 103 = .ok (.iaload, 1) := by decide +kernel
theorem dL_confirms_104 : decode cL_confirms 104 = .ok (.invokestatic 84, 3) := by decide +kernel
theorem dL_confirms_107 : decode cL_confirms 107 = .ok (.irem, 1) := by decide +kernel
theorem dL_confirms_108 : decode cL_confirms 108 = .ok (.iastore, 1) := by decide +kernel
theorem dL_confirms_109 : decode cL_confirms 109 = .ok (.aload_n 3, 1) := by decide +kernel
theorem dL_confirms_110 : decode cL_confirms 110 = .ok (.bipush 6, 2) := by decide +kernel
theorem dL_confirms_112 : decode cL_confirms 112 = .ok (.iload 4, 2) := by decide +kernel
theorem dL_confirms_114 : decode cL_confirms 114 = .ok (.imul, 1) := by decide +kernel
theorem dL_confirms_115 : decode cL_confirms 115 = .ok (.iconst 4, 1) := by decide +kernel
theorem dL_confirms_116 : decode cL_confirms 116 = .ok (.iadd, 1) := by decide +kernel
theorem dL_confirms_117 : decode cL_confirms 117 = .ok (.dup2, 1) := by decide +kernel
theorem dL_confirms_118 : decode cL_confirms 118 = .ok (.iaload, 1) := by decide +kernel
theorem dL_confirms_119 : decode cL_confirms 119 = .ok (.iconst 1, 1) := by decide +kernel
theorem dL_confirms_120 : decode cL_confirms 120 = .ok (.iadd, 1) := by decide +kernel
theorem dL_confirms_121 : decode cL_confirms 121 = .ok (.iastore, 1) := by decide +kernel
theorem dL_confirms_122 : decode cL_confirms 122 = .ok (.aload_n 3, 1) := by decide +kernel
theorem dL_confirms_123 : decode cL_confirms 123 = .ok (.bipush 6, 2) := by decide +kernel
theorem dL_confirms_125 : decode cL_confirms 125 = .ok (.iload 4, 2) := by decide +kernel
theorem dL_confirms_127 : decode cL_confirms 127 = .ok (.imul, 1) := by decide +kernel
theorem dL_confirms_128 : decode cL_confirms 128 = .ok (.iconst 5, 1) := by decide +kernel
theorem dL_confirms_129 : decode cL_confirms 129 = .ok (.iadd, 1) := by decide +kernel
theorem dL_confirms_130 : decode cL_confirms 130 = .ok (.iconst (-1), 1) := by decide +kernel
theorem dL_confirms_131 : decode cL_confirms 131 = .ok (.iastore, 1) := by decide +kernel
theorem dL_confirms_132 : decode cL_confirms 132 = .ok (.iload 7, 2) := by decide +kernel
theorem dL_confirms_134 : decode cL_confirms 134 = .ok (.ifCond .lt 36, 3) := by decide +kernel
theorem dL_confirms_137 : decode cL_confirms 137 = .ok (.aload_n 0, 1) := by decide +kernel
theorem dL_confirms_138 : decode cL_confirms 138 = .ok (.iload 4, 2) := by decide +kernel
theorem dL_confirms_140 : decode cL_confirms 140 = .ok (.iload 6, 2) := by decide +kernel
theorem dL_confirms_142 : decode cL_confirms 142 = .ok (.iload 5, 2) := by decide +kernel
theorem dL_confirms_144 : decode cL_confirms 144 = .ok (.iload 7, 2) := by decide +kernel
theorem dL_confirms_146 : decode cL_confirms 146 = .ok (.invokestatic 87, 3) := by decide +kernel
theorem dL_confirms_149 : decode cL_confirms 149 = .ok (.ifCond .eq 21, 3) := by decide +kernel
theorem dL_confirms_152 : decode cL_confirms 152 = .ok (.aload_n 0, 1) := by decide +kernel
theorem dL_confirms_153 : decode cL_confirms 153 = .ok (.iconst 1, 1) := by decide +kernel
theorem dL_confirms_154 : decode cL_confirms 154 = .ok (.iload 4, 2) := by decide +kernel
theorem dL_confirms_156 : decode cL_confirms 156 = .ok (.iconst 0, 1) := by decide +kernel
theorem dL_confirms_157 : decode cL_confirms 157 = .ok (.iconst 0, 1) := by decide +kernel
theorem dL_confirms_158 : decode cL_confirms 158 = .ok (.invokestatic 72, 3) := by decide +kernel
theorem dL_confirms_161 : decode cL_confirms 161 = .ok (.ldc 54, 2) := by decide +kernel
theorem dL_confirms_163 : decode cL_confirms 163 = .ok (.if_icmp .ne 7, 3) := by decide +kernel
theorem dL_confirms_166 : decode cL_confirms 166 = .ok (.iconst 1, 1) := by decide +kernel
theorem dL_confirms_167 : decode cL_confirms 167 = .ok (.goto 4, 3) := by decide +kernel
theorem dL_confirms_170 : decode cL_confirms 170 = .ok (.iconst 0, 1) := by decide +kernel
theorem dL_confirms_171 : decode cL_confirms 171 = .ok (.ireturn, 1) := by decide +kernel
theorem dL_changes_0 : decode cL_changes 0 = .ok (.iload_n 1, 1) := by decide +kernel
theorem dL_changes_1 : decode cL_changes 1 = .ok (.aload_n 3, 1) := by decide +kernel
theorem dL_changes_2 : decode cL_changes 2 = .ok (.iconst 0, 1) := by decide +kernel
theorem dL_changes_3 : decode cL_changes 3 = .ok (.iaload, 1) := by decide +kernel
theorem dL_changes_4 : decode cL_changes 4 = .ok (.irem, 1) := by decide +kernel
theorem dL_changes_5 : decode cL_changes 5 = .ok (.istore 4, 2) := by decide +kernel
theorem dL_changes_7 : decode cL_changes 7 = .ok (.iload_n 1, 1) := by decide +kernel
theorem dL_changes_8 : decode cL_changes 8 = .ok (.bipush 8, 2) := by decide +kernel
theorem dL_changes_10 : decode cL_changes 10 = .ok (.idiv, 1) := by decide +kernel
theorem dL_changes_11 : decode cL_changes 11 = .ok (.iconst 4, 1) := by decide +kernel
theorem dL_changes_12 : decode cL_changes 12 = .ok (.irem, 1) := by decide +kernel
theorem dL_changes_13 : decode cL_changes 13 = .ok (.istore 5, 2) := by decide +kernel
theorem dL_changes_15 : decode cL_changes 15 = .ok (.aload_n 0, 1) := by decide +kernel
theorem dL_changes_16 : decode cL_changes 16 = .ok (.iload 4, 2) := by decide +kernel
theorem dL_changes_18 : decode cL_changes 18 = .ok (.iconst 3, 1) := by decide +kernel
theorem dL_changes_19 : decode cL_changes 19 = .ok (.invokevirtual 69, 3) := by decide +kernel
theorem dL_changes_22 : decode cL_changes 22 = .ok (.istore 6, 2) := by decide +kernel
theorem dL_changes_24 : decode cL_changes 24 = .ok (.iload 5, 2) := by decide +kernel
theorem dL_changes_26 : decode cL_changes 26 = .ok (.iconst 2, 1) := by decide +kernel
theorem dL_changes_27 : decode cL_changes 27 = .ok (.if_icmp .ge 84, 3) := by decide +kernel
theorem dL_changes_30 : decode cL_changes 30 = .ok (.aload_n 3, 1) := by decide +kernel
theorem dL_changes_31 : decode cL_changes 31 = .ok (.iconst 1, 1) := by decide +kernel
theorem dL_changes_32 : decode cL_changes 32 = .ok (.iaload, 1) := by decide +kernel
theorem dL_changes_33 : decode cL_changes 33 = .ok (.iconst 1, 1) := by decide +kernel
theorem dL_changes_34 : decode cL_changes 34 = .ok (.iadd, 1) := by decide +kernel
theorem dL_changes_35 : decode cL_changes 35 = .ok (.iload_n 2, 1) := by decide +kernel
theorem dL_changes_36 : decode cL_changes 36 = .ok (.iconst 4, 1) := by decide +kernel
theorem dL_changes_37 : decode cL_changes 37 = .ok (.idiv, 1) := by decide +kernel
theorem dL_changes_38 : decode cL_changes 38 = .ok (.bipush 9, 2) := by decide +kernel
theorem dL_changes_40 : decode cL_changes 40 = .ok (.irem, 1) := by decide +kernel
theorem dL_changes_41 : decode cL_changes 41 = .ok (.iadd, 1) := by decide +kernel
theorem dL_changes_42 : decode cL_changes 42 = .ok (.istore 7, 2) := by decide +kernel
theorem dL_changes_44 : decode cL_changes 44 = .ok (.aload_n 0, 1) := by decide +kernel
theorem dL_changes_45 : decode cL_changes 45 = .ok (.iconst 3, 1) := by decide +kernel
theorem dL_changes_46 : decode cL_changes 46 = .ok (.iload 4, 2) := by decide +kernel
theorem dL_changes_48 : decode cL_changes 48 = .ok (.iload_n 2, 1) := by decide +kernel
theorem dL_changes_49 : decode cL_changes 49 = .ok (.iconst 4, 1) := by decide +kernel
theorem dL_changes_50 : decode cL_changes 50 = .ok (.irem, 1) := by decide +kernel
theorem dL_changes_51 : decode cL_changes 51 = .ok (.iload 7, 2) := by decide +kernel
theorem dL_changes_53 : decode cL_changes 53 = .ok (.invokestatic 72, 3) := by decide +kernel
theorem dL_changes_56 : decode cL_changes 56 = .ok (.istore 8, 2) := by decide +kernel
theorem dL_changes_58 : decode cL_changes 58 = .ok (.iload 8, 2) := by decide +kernel
theorem dL_changes_60 : decode cL_changes 60 = .ok (.iload_n 2, 1) := by decide +kernel
theorem dL_changes_61 : decode cL_changes 61 = .ok (.iconst 4, 1) := by decide +kernel
theorem dL_changes_62 : decode cL_changes 62 = .ok (.irem, 1) := by decide +kernel
theorem dL_changes_63 : decode cL_changes 63 = .ok (.iload 6, 2) := by decide +kernel
theorem dL_changes_65 : decode cL_changes 65 = .ok (.if_icmp .ne 8, 3) := by decide +kernel
theorem dL_changes_68 : decode cL_changes 68 = .ok (.ldc 54, 2) := by decide +kernel
theorem dL_changes_70 : decode cL_changes 70 = .ok (.goto 5, 3) := by decide +kernel
theorem dL_changes_73 : decode cL_changes 73 = .ok (.iload 6, 2) := by decide +kernel
theorem dL_changes_75 : decode cL_changes 75 = .ok (.if_icmp .eq 30, 3) := by decide +kernel
theorem dL_changes_78 : decode cL_changes 78 = .ok (.iload 8, 2) := by decide +kernel
theorem dL_changes_80 : decode cL_changes 80 = .ok (.ldc 54, 2) := by decide +kernel
theorem dL_changes_82 : decode cL_changes 82 = .ok (.if_icmp .ne 27, 3) := by decide +kernel
theorem dL_changes_85 : decode cL_changes 85 = .ok (.aload_n 0, 1) := by decide +kernel
theorem dL_changes_86 : decode cL_changes 86 = .ok (.iconst 3, 1) := by decide +kernel
theorem dL_changes_87 : decode cL_changes 87 = .ok (.iload 4, 2) := by decide +kernel
theorem dL_changes_89 : decode cL_changes 89 = .ok (.iload 6, 2) := by decide +kernel
theorem dL_changes_91 : decode cL_changes 91 = .ok (.iconst 1, 1) := by decide +kernel
theorem dL_changes_92 : decode cL_changes 92 = .ok (.iadd, 1) := by decide +kernel
theorem dL_changes_93 : decode cL_changes 93 = .ok (.iconst 4, 1) := by decide +kernel
theorem dL_changes_94 : decode cL_changes 94 = .ok (.irem, 1) := by decide +kernel
theorem dL_changes_95 : decode cL_changes 95 = .ok (.iload 7, 2) := by decide +kernel
theorem dL_changes_97 : decode cL_changes 97 = .ok (.invokestatic 72, 3) := by decide +kernel
theorem dL_changes_100 : decode cL_changes 100 = .ok (.ldc 54, 2) := by decide +kernel
theorem dL_changes_102 : decode cL_changes 102 = .ok (.if_icmp .ne 7, 3) := by decide +kernel
theorem dL_changes_105 : decode cL_changes 105 = .ok (.iconst 1, 1) := by decide +kernel
theorem dL_changes_106 : decode cL_changes 106 = .ok (.goto 4, 3) := by decide +kernel
theorem dL_changes_109 : decode cL_changes 109 = .ok (.iconst 0, 1) := by decide +kernel
theorem dL_changes_110 : decode cL_changes 110 = .ok (.ireturn, 1) := by decide +kernel
theorem dL_changes_111 : decode cL_changes 111 = .ok (.iload 5, 2) := by decide +kernel
theorem dL_changes_113 : decode cL_changes 113 = .ok (.iconst 2, 1) := by decide +kernel
theorem dL_changes_114 : decode cL_changes 114 = .ok (.if_icmp .ne 61, 3) := by decide +kernel
theorem dL_changes_117 : decode cL_changes 117 = .ok (.aload_n 0, 1) := by decide +kernel
theorem dL_changes_118 : decode cL_changes 118 = .ok (.iconst 4, 1) := by decide +kernel
theorem dL_changes_119 : decode cL_changes 119 = .ok (.iload 4, 2) := by decide +kernel
theorem dL_changes_121 : decode cL_changes 121 = .ok (.iconst 0, 1) := by decide +kernel
theorem dL_changes_122 : decode cL_changes 122 = .ok (.iconst 0, 1) := by decide +kernel
theorem dL_changes_123 : decode cL_changes 123 = .ok (.invokestatic 72, 3) := by decide +kernel
theorem dL_changes_126 : decode cL_changes 126 = .ok (.istore 7, 2) := by decide +kernel
theorem dL_changes_128 : decode cL_changes 128 = .ok (.iload 7, 2) := by decide +kernel
theorem dL_changes_130 : decode cL_changes 130 = .ok (.ldc 54, 2) := by decide +kernel
theorem dL_changes_132 : decode cL_changes 132 = .ok (.if_icmp .eq 37, 3) := by decide +kernel
theorem dL_changes_135 : decode cL_changes 135 = .ok (.iload 7, 2) := by decide +kernel
theorem dL_changes_137 : decode cL_changes 137 = .ok (.aload_n 3, 1) := by decide +kernel
theorem dL_changes_138 : decode cL_changes 138 = .ok (.iconst 1, 1) := by decide +kernel
theorem dL_changes_139 : decode cL_changes 139 = .ok (.iaload, 1) := by decide +kernel
theorem dL_changes_140 : decode cL_changes 140 = .ok (.if_icmp .le 33, 3) := by decide +kernel
theorem dL_changes_143 : decode cL_changes 143 = .ok (.aload_n 0, 1) := by decide +kernel
theorem dL_changes_144 : decode cL_changes 144 = .ok (.iconst 4, 1) := by decide +kernel
theorem dL_changes_145 : decode cL_changes 145 = .ok (.iload 4, 2) := by decide +kernel
theorem dL_changes_147 : decode cL_changes 147 = .ok (.iconst 0, 1) := by decide +kernel
theorem dL_changes_148 : decode cL_changes 148 = .ok (.iconst 0, 1) := by decide +kernel
theorem dL_changes_149 : decode cL_changes 149 = .ok (.invokestatic 72, 3) := by decide +kernel
theorem dL_changes_152 : decode cL_changes 152 = .ok (.ldc 54, 2) := by decide +kernel
theorem dL_changes_154 : decode cL_changes 154 = .ok (.if_icmp .ne 19, 3) := by decide +kernel
theorem dL_changes_157 : decode cL_changes 157 = .ok (.aload_n 0, 1) := by decide +kernel
theorem dL_changes_158 : decode cL_changes 158 = .ok (.iload 4, 2) := by decide +kernel
theorem dL_changes_160 : decode cL_changes 160 = .ok (.iconst 3, 1) := by decide +kernel
theorem dL_changes_161 : decode cL_changes 161 = .ok (.invokevirtual 69, 3) := by decide +kernel
theorem dL_changes_164 : decode cL_changes 164 = .ok (.iload 6, 2) := by decide +kernel
theorem dL_changes_166 : decode cL_changes 166 = .ok (.if_icmp .ne 7, 3) := by decide +kernel
theorem dL_changes_169 : decode cL_changes 169 = .ok (.iconst 1, 1) := by decide +kernel
theorem dL_changes_170 : decode cL_changes 170 = .ok (.goto 4, 3) := by decide +kernel
theorem dL_changes_173 : decode cL_changes 173 = .ok (.iconst 0, 1) := by decide +kernel
theorem dL_changes_174 : decode cL_changes 174 = .ok (.ireturn, 1) := by decide +kernel
theorem dL_changes_175 : decode cL_changes 175 = .ok (.aload_n 0, 1) := by decide +kernel
theorem dL_changes_176 : decode cL_changes 176 = .ok (.iconst 5, 1) := by decide +kernel
theorem dL_changes_177 : decode cL_changes 177 = .ok (.iload 4, 2) := by decide +kernel
theorem dL_changes_179 : decode cL_changes 179 = .ok (.iconst 0, 1) := by decide +kernel
theorem dL_changes_180 : decode cL_changes 180 = .ok (.iconst 0, 1) := by decide +kernel
theorem dL_changes_181 : decode cL_changes 181 = .ok (.invokestatic 72, 3) := by decide +kernel
theorem dL_changes_184 : decode cL_changes 184 = .ok (.istore 7, 2) := by decide +kernel
theorem dL_changes_186 : decode cL_changes 186 = .ok (.iload 7, 2) := by decide +kernel
theorem dL_changes_188 : decode cL_changes 188 = .ok (.ldc 54, 2) := by decide +kernel
theorem dL_changes_190 : decode cL_changes 190 = .ok (.if_icmp .eq 42, 3) := by decide +kernel
theorem dL_changes_193 : decode cL_changes 193 = .ok (.iload 7, 2) := by decide +kernel
theorem dL_changes_195 : decode cL_changes 195 = .ok (.ifCond .le 41, 3) := by decide +kernel
theorem dL_changes_198 : decode cL_changes 198 = .ok (.iload 7, 2) := by decide +kernel
theorem dL_changes_200 : decode cL_changes 200 = .ok (.aload_n 3, 1) := by decide +kernel
theorem dL_changes_201 : decode cL_changes 201 = .ok (.iconst 1, 1) := by decide +kernel
theorem dL_changes_202 : decode cL_changes 202 = .ok (.iaload, 1) := by decide +kernel
theorem dL_changes_203 : decode cL_changes 203 = .ok (.if_icmp .gt 33, 3) := by decide +kernel
theorem dL_changes_206 : decode cL_changes 206 = .ok (.aload_n 0, 1) := by decide +kernel
theorem dL_changes_207 : decode cL_changes 207 = .ok (.iload 4, 2) := by decide +kernel
theorem dL_changes_209 : decode cL_changes 209 = .ok (.iconst 3, 1) := by decide +kernel
theorem dL_changes_210 : decode cL_changes 210 = .ok (.invokevirtual 69, 3) := by decide +kernel
theorem dL_changes_213 : decode cL_changes 213 = .ok (.iload 6, 2) := by decide +kernel
theorem dL_changes_215 : decode cL_changes 215 = .ok (.if_icmp .eq 21, 3) := by decide +kernel
theorem dL_changes_218 : decode cL_changes 218 = .ok (.aload_n 0, 1) := by decide +kernel
theorem dL_changes_219 : decode cL_changes 219 = .ok (.iconst 5, 1) := by decide +kernel
theorem dL_changes_220 : decode cL_changes 220 = .ok (.iload 4, 2) := by decide +kernel
theorem dL_changes_222 : decode cL_changes 222 = .ok (.iconst 0, 1) := by decide +kernel
theorem dL_changes_223 : decode cL_changes 223 = .ok (.iconst 0, 1) := by decide +kernel
theorem dL_changes_224 : decode cL_changes 224 = .ok (.invokestatic 72, 3) := by decide +kernel
theorem dL_changes_227 : decode cL_changes 227 = .ok (.ldc 54, 2) := by decide +kernel
theorem dL_changes_229 : decode cL_changes 229 = .ok (.if_icmp .ne 7, 3) := by decide +kernel
theorem dL_changes_232 : decode cL_changes 232 = .ok (.iconst 1, 1) := by decide +kernel
theorem dL_changes_233 : decode cL_changes 233 = .ok (.goto 4, 3) := by decide +kernel
theorem dL_changes_236 : decode cL_changes 236 = .ok (.iconst 0, 1) := by decide +kernel
theorem dL_changes_237 : decode cL_changes 237 = .ok (.ireturn, 1) := by decide +kernel
theorem dL_bills_0 : decode cL_bills 0 = .ok (.iload_n 1, 1) := by decide +kernel
theorem dL_bills_1 : decode cL_bills 1 = .ok (.aload_n 3, 1) := by decide +kernel
theorem dL_bills_2 : decode cL_bills 2 = .ok (.iconst 0, 1) := by decide +kernel
theorem dL_bills_3 : decode cL_bills 3 = .ok (.iaload, 1) := by decide +kernel
theorem dL_bills_4 : decode cL_bills 4 = .ok (.irem, 1) := by decide +kernel
theorem dL_bills_5 : decode cL_bills 5 = .ok (.istore 4, 2) := by decide +kernel
theorem dL_bills_7 : decode cL_bills 7 = .ok (.aload_n 0, 1) := by decide +kernel
theorem dL_bills_8 : decode cL_bills 8 = .ok (.iload 4, 2) := by decide +kernel
theorem dL_bills_10 : decode cL_bills 10 = .ok (.invokevirtual 66, 3) := by decide +kernel
theorem dL_bills_13 : decode cL_bills 13 = .ok (.lstore 5, 2) := by decide +kernel
theorem dL_bills_15 : decode cL_bills 15 = .ok (.iload_n 1, 1) := by decide +kernel
theorem dL_bills_16 : decode cL_bills 16 = .ok (.bipush 8, 2) := by decide +kernel
theorem dL_bills_18 : decode cL_bills 18 = .ok (.idiv, 1) := by decide +kernel
theorem dL_bills_19 : decode cL_bills 19 = .ok (.iconst 3, 1) := by decide +kernel
theorem dL_bills_20 : decode cL_bills 20 = .ok (.irem, 1) := by decide +kernel
theorem dL_bills_21 : decode cL_bills 21 = .ok (.ifCond .ne 168, 3) := by decide +kernel
theorem dL_bills_24 : decode cL_bills 24 = .ok (.iload_n 2, 1) := by decide +kernel
theorem dL_bills_25 : decode cL_bills 25 = .ok (.sipush 3000, 3) := by decide +kernel
theorem dL_bills_28 : decode cL_bills 28 = .ok (.irem, 1) := by decide +kernel
theorem dL_bills_29 : decode cL_bills 29 = .ok (.istore 7, 2) := by decide +kernel
theorem dL_bills_31 : decode cL_bills 31 = .ok (.aload_n 0, 1) := by decide +kernel
theorem dL_bills_32 : decode cL_bills 32 = .ok (.bipush 6, 2) := by decide +kernel
theorem dL_bills_34 : decode cL_bills 34 = .ok (.iload 4, 2) := by decide +kernel
theorem dL_bills_36 : decode cL_bills 36 = .ok (.bipush 97, 2) := by decide +kernel
theorem dL_bills_38 : decode cL_bills 38 = .ok (.iload 7, 2) := by decide +kernel
theorem dL_bills_40 : decode cL_bills 40 = .ok (.imul, 1) := by decide +kernel
theorem dL_bills_41 : decode cL_bills 41 = .ok (.iload 7, 2) := by decide +kernel
theorem dL_bills_43 : decode cL_bills 43 = .ok (.bipush 97, 2) := by decide +kernel
theorem dL_bills_45 : decode cL_bills 45 = .ok (.irem, 1) := by decide +kernel
theorem dL_bills_46 : decode cL_bills 46 = .ok (.iadd, 1) := by decide +kernel
theorem dL_bills_47 : decode cL_bills 47 = .ok (.iconst 0, 1) := by decide +kernel
theorem dL_bills_48 : decode cL_bills 48 = .ok (.invokestatic 72, 3) := by decide +kernel
theorem dL_bills_51 : decode cL_bills 51 = .ok (.istore 8, 2) := by decide +kernel
theorem dL_bills_53 : decode cL_bills 53 = .ok (.aload_n 0, 1) := by decide +kernel
theorem dL_bills_54 : decode cL_bills 54 = .ok (.bipush 6, 2) := by decide +kernel
theorem dL_bills_56 : decode cL_bills 56 = .ok (.iload 4, 2) := by decide +kernel
theorem dL_bills_58 : decode cL_bills 58 = .ok (.bipush 97, 2) := by decide +kernel
theorem dL_bills_60 : decode cL_bills 60 = .ok (.iload 7, 2) := by decide +kernel
theorem dL_bills_62 : decode cL_bills 62 = .ok (.imul, 1) := by decide +kernel
theorem dL_bills_63 : decode cL_bills 63 = .ok (.iload 7, 2) := by decide +kernel
theorem dL_bills_65 : decode cL_bills 65 = .ok (.bipush 97, 2) := by decide +kernel
theorem dL_bills_67 : decode cL_bills 67 = .ok (.irem, 1) := by decide +kernel
theorem dL_bills_68 : decode cL_bills 68 = .ok (.iadd, 1) := by decide +kernel
theorem dL_bills_69 : decode cL_bills 69 = .ok (.iconst 0, 1) := by decide +kernel
theorem dL_bills_70 : decode cL_bills 70 = .ok (.invokestatic 72, 3) := by decide +kernel
theorem dL_bills_73 : decode cL_bills 73 = .ok (.ldc 54, 2) := by decide +kernel
theorem dL_bills_75 : decode cL_bills 75 = .ok (.if_icmp .ne 34, 3) := by decide +kernel
theorem dL_bills_78 : decode cL_bills 78 = .ok (.aload_n 0, 1) := by decide +kernel
theorem dL_bills_79 : decode cL_bills 79 = .ok (.bipush 6, 2) := by decide +kernel
theorem dL_bills_81 : decode cL_bills 81 = .ok (.iload 4, 2) := by decide +kernel
theorem dL_bills_83 : decode cL_bills 83 = .ok (.bipush 97, 2) := by decide +kernel
theorem dL_bills_85 : decode cL_bills 85 = .ok (.iload 7, 2) := by decide +kernel
theorem dL_bills_87 : decode cL_bills 87 = .ok (.imul, 1) := by decide +kernel
theorem dL_bills_88 : decode cL_bills 88 = .ok (.iload 7, 2) := by decide +kernel
theorem dL_bills_90 : decode cL_bills 90 = .ok (.iconst 1, 1) := by decide +kernel
theorem dL_bills_91 : decode cL_bills 91 = .ok (.iadd, 1) := by decide +kernel
theorem dL_bills_92 : decode cL_bills 92 = .ok (.bipush 97, 2) := by decide +kernel
theorem dL_bills_94 : decode cL_bills 94 = .ok (.irem, 1) := by decide +kernel
theorem dL_bills_95 : decode cL_bills 95 = .ok (.iadd, 1) := by decide +kernel
theorem dL_bills_96 : decode cL_bills 96 = .ok (.iconst 0, 1) := by decide +kernel
theorem dL_bills_97 : decode cL_bills 97 = .ok (.invokestatic 72, 3) := by decide +kernel
theorem dL_bills_100 : decode cL_bills 100 = .ok (.ldc 51, 2) := by decide +kernel
theorem dL_bills_102 : decode cL_bills 102 = .ok (.if_icmp .ne 7, 3) := by decide +kernel
theorem dL_bills_105 : decode cL_bills 105 = .ok (.iconst 1, 1) := by decide +kernel
theorem dL_bills_106 : decode cL_bills 106 = .ok (.goto 4, 3) := by decide +kernel
theorem dL_bills_109 : decode cL_bills 109 = .ok (.iconst 0, 1) := by decide +kernel
theorem dL_bills_110 : decode cL_bills 110 = .ok (.istore 9, 2) := by decide +kernel
theorem dL_bills_112 : decode cL_bills 112 = .ok (.aload_n 3, 1) := by decide +kernel
theorem dL_bills_113 : decode cL_bills 113 = .ok (.iconst 2, 1) := by decide +kernel
theorem dL_bills_114 : decode cL_bills 114 = .ok (.dup2, 1) := by decide +kernel
theorem dL_bills_115 : decode cL_bills 115 = .ok (.iaload, 1) := by decide +kernel
theorem dL_bills_116 : decode cL_bills 116 = .ok (.iload 8, 2) := by decide +kernel
theorem dL_bills_118 : decode cL_bills 118 = .ok (.ifCond .le 8, 3) := by decide +kernel
theorem dL_bills_121 : decode cL_bills 121 = .ok (.iload 8, 2) := by decide +kernel
theorem dL_bills_123 : decode cL_bills 123 = .ok (.goto 4, 3) := by decide +kernel
theorem dL_bills_126 : decode cL_bills 126 = .ok (.iconst 0, 1) := by decide +kernel
theorem dL_bills_127 : decode cL_bills 127 = .ok (.iadd, 1) := by decide +kernel
theorem dL_bills_128 : decode cL_bills 128 = .ok (.iastore, 1) := by decide +kernel
theorem dL_bills_129 : decode cL_bills 129 = .ok (.iload 9, 2) := by decide +kernel
theorem dL_bills_131 : decode cL_bills 131 = .ok (.ifCond .eq 56, 3) := by decide +kernel
theorem dL_bills_134 : decode cL_bills 134 = .ok (.iload 8, 2) := by decide +kernel
theorem dL_bills_136 : decode cL_bills 136 = .ok (.ldc 54, 2) := by decide +kernel
theorem dL_bills_138 : decode cL_bills 138 = .ok (.if_icmp .ne 18, 3) := by decide +kernel
theorem dL_bills_141 : decode cL_bills 141 = .ok (.aload_n 0, 1) := by decide +kernel
theorem dL_bills_142 : decode cL_bills 142 = .ok (.iload 4, 2) := by decide +kernel
theorem dL_bills_144 : decode cL_bills 144 = .ok (.invokevirtual 66, 3) := by decide +kernel
theorem dL_bills_147 : decode cL_bills 147 = .ok (.lload 5, 2) := by decide +kernel
theorem dL_bills_149 : decode cL_bills 149 = .ok (.lcmp, 1) := by decide +kernel
theorem dL_bills_150 : decode cL_bills 150 = .ok (.ifCond .ne 37, 3) := by decide +kernel
theorem dL_bills_153 : decode cL_bills 153 = .ok (.goto 30, 3) := by decide +kernel
theorem dL_bills_156 : decode cL_bills 156 = .ok (.iload 8, 2) := by decide +kernel
theorem dL_bills_158 : decode cL_bills 158 = .ok (.iload 7, 2) := by decide +kernel
theorem dL_bills_160 : decode cL_bills 160 = .ok (.sipush 1000, 3) := by decide +kernel
theorem dL_bills_163 : decode cL_bills 163 = .ok (.irem, 1) := by decide +kernel
theorem dL_bills_164 : decode cL_bills 164 = .ok (.if_icmp .ne 23, 3) := by decide +kernel
theorem dL_bills_167 : decode cL_bills 167 = .ok (.aload_n 0, 1) := by decide +kernel
theorem dL_bills_168 : decode cL_bills 168 = .ok (.iload 4, 2) := by decide +kernel
theorem dL_bills_170 : decode cL_bills 170 = .ok (.invokevirtual 66, 3) := by decide +kernel
theorem dL_bills_173 : decode cL_bills 173 = .ok (.lload 5, 2) := by decide +kernel
theorem dL_bills_175 : decode cL_bills 175 = .ok (.iload 8, 2) := by decide +kernel
theorem dL_bills_177 : decode cL_bills 177 = .ok (.i2l, 1) := by decide +kernel
theorem dL_bills_178 : decode cL_bills 178 = .ok (.lsub, 1) := by decide +kernel
theorem dL_bills_179 : decode cL_bills 179 = .ok (.lcmp, 1) := by decide +kernel
theorem dL_bills_180 : decode cL_bills 180 = .ok (.ifCond .ne 7, 3) := by decide +kernel
theorem dL_bills_183 : decode cL_bills 183 = .ok (.iconst 1, 1) := by decide +kernel
theorem dL_bills_184 : decode cL_bills 184 = .ok (.goto 4, 3) := by decide +kernel
theorem dL_bills_187 : decode cL_bills 187 = .ok (.iconst 0, 1) := by decide +kernel
theorem dL_bills_188 : decode cL_bills 188 = .ok (.ireturn, 1) := by decide +kernel
theorem dL_bills_189 : decode cL_bills 189 = .ok (.aload_n 0, 1) := by decide +kernel
theorem dL_bills_190 : decode cL_bills 190 = .ok (.iload 4, 2) := by decide +kernel
theorem dL_bills_192 : decode cL_bills 192 = .ok (.invokevirtual 91, 3) := by decide +kernel
theorem dL_bills_195 : decode cL_bills 195 = .ok (.lstore 7, 2) := by decide +kernel
theorem dL_bills_197 : decode cL_bills 197 = .ok (.aload_n 0, 1) := by decide +kernel
theorem dL_bills_198 : decode cL_bills 198 = .ok (.iload 4, 2) := by decide +kernel
theorem dL_bills_200 : decode cL_bills 200 = .ok (.invokevirtual 66, 3) := by decide +kernel
theorem dL_bills_203 : decode cL_bills 203 = .ok (.lload 5, 2) := by decide +kernel
theorem dL_bills_205 : decode cL_bills 205 = .ok (.lload 7, 2) := by decide +kernel
theorem dL_bills_207 : decode cL_bills 207 = .ok (.ladd, 1) := by decide +kernel
theorem dL_bills_208 : decode cL_bills 208 = .ok (.lcmp, 1) := by decide +kernel
theorem dL_bills_209 : decode cL_bills 209 = .ok (.ifCond .ne 18, 3) := by decide +kernel
theorem dL_bills_212 : decode cL_bills 212 = .ok (.aload_n 0, 1) := by decide +kernel
theorem dL_bills_213 : decode cL_bills 213 = .ok (.iload 4, 2) := by decide +kernel
theorem dL_bills_215 : decode cL_bills 215 = .ok (.invokevirtual 91, 3) := by decide +kernel
theorem dL_bills_218 : decode cL_bills 218 = .ok (.lconst 0, 1) := by decide +kernel
theorem dL_bills_219 : decode cL_bills 219 = .ok (.lcmp, 1) := by decide +kernel
theorem dL_bills_220 : decode cL_bills 220 = .ok (.ifCond .ne 7, 3) := by decide +kernel
theorem dL_bills_223 : decode cL_bills 223 = .ok (.iconst 1, 1) := by decide +kernel
theorem dL_bills_224 : decode cL_bills 224 = .ok (.goto 4, 3) := by decide +kernel
theorem dL_bills_227 : decode cL_bills 227 = .ok (.iconst 0, 1) := by decide +kernel
theorem dL_bills_228 : decode cL_bills 228 = .ok (.ireturn, 1) := by decide +kernel
theorem dL_settles_0 : decode cL_settles 0 = .ok (.aload_n 3, 1) := by decide +kernel
theorem dL_settles_1 : decode cL_settles 1 = .ok (.iconst 1, 1) := by decide +kernel
theorem dL_settles_2 : decode cL_settles 2 = .ok (.iaload, 1) := by decide +kernel
theorem dL_settles_3 : decode cL_settles 3 = .ok (.ifCond .ne 23, 3) := by decide +kernel
theorem dL_settles_6 : decode cL_settles 6 = .ok (.aload_n 0, 1) := by decide +kernel
theorem dL_settles_7 : decode cL_settles 7 = .ok (.bipush 7, 2) := by decide +kernel
theorem dL_settles_9 : decode cL_settles 9 = .ok (.iconst 0, 1) := by decide +kernel
theorem dL_settles_10 : decode cL_settles 10 = .ok (.iconst 0, 1) := by decide +kernel
theorem dL_settles_11 : decode cL_settles 11 = .ok (.iconst 0, 1) := by decide +kernel
theorem dL_settles_12 : decode cL_settles 12 = .ok (.invokestatic 72, 3) := by decide +kernel
theorem dL_settles_15 : decode cL_settles 15 = .ok (.ldc 48, 2) := by decide +kernel
theorem dL_settles_17 : decode cL_settles 17 = .ok (.if_icmp .ne 7, 3) := by decide +kernel
theorem dL_settles_20 : decode cL_settles 20 = .ok (.iconst 1, 1) := by decide +kernel
theorem dL_settles_21 : decode cL_settles 21 = .ok (.goto 4, 3) := by decide +kernel
theorem dL_settles_24 : decode cL_settles 24 = .ok (.iconst 0, 1) := by decide +kernel
theorem dL_settles_25 : decode cL_settles 25 = .ok (.ireturn, 1) := by decide +kernel
theorem dL_settles_26 : decode cL_settles 26 = .ok (.aload_n 3, 1) := by decide +kernel
theorem dL_settles_27 : decode cL_settles 27 = .ok (.iconst 1, 1) := by decide +kernel
theorem dL_settles_28 : decode cL_settles 28 = .ok (.iaload, 1) := by decide +kernel
theorem dL_settles_29 : decode cL_settles 29 = .ok (.iconst 1, 1) := by decide +kernel
theorem dL_settles_30 : decode cL_settles 30 = .ok (.isub, 1) := by decide +kernel
theorem dL_settles_31 : decode cL_settles 31 = .ok (.iload_n 1, 1) := by decide +kernel
theorem dL_settles_32 : decode cL_settles 32 = .ok (.aload_n 3, 1) := by decide +kernel
theorem dL_settles_33 : decode cL_settles 33 = .ok (.iconst 1, 1) := by decide +kernel
theorem dL_settles_34 : decode cL_settles 34 = .ok (.iaload, 1) := by decide +kernel
theorem dL_settles_35 : decode cL_settles 35 = .ok (.irem, 1) := by decide +kernel
theorem dL_settles_36 : decode cL_settles 36 = .ok (.bipush 12, 2) := by decide +kernel
theorem dL_settles_38 : decode cL_settles 38 = .ok (.irem, 1) := by decide +kernel
theorem dL_settles_39 : decode cL_settles 39 = .ok (.isub, 1) := by decide +kernel
theorem dL_settles_40 : decode cL_settles 40 = .ok (.istore 5, 2) := by decide +kernel
theorem dL_settles_42 : decode cL_settles 42 = .ok (.iload_n 2, 1) := by decide +kernel
theorem dL_settles_43 : decode cL_settles 43 = .ok (.sipush 3000, 3) := by decide +kernel
theorem dL_settles_46 : decode cL_settles 46 = .ok (.irem, 1) := by decide +kernel
theorem dL_settles_47 : decode cL_settles 47 = .ok (.istore 6, 2) := by decide +kernel
theorem dL_settles_49 : decode cL_settles 49 = .ok (.aload_n 0, 1) := by decide +kernel
theorem dL_settles_50 : decode cL_settles 50 = .ok (.bipush 8, 2) := by decide +kernel
theorem dL_settles_52 : decode cL_settles 52 = .ok (.iload 5, 2) := by decide +kernel
theorem dL_settles_54 : decode cL_settles 54 = .ok (.iload 6, 2) := by decide +kernel
theorem dL_settles_56 : decode cL_settles 56 = .ok (.iconst 0, 1) := by decide +kernel
theorem dL_settles_57 : decode cL_settles 57 = .ok (.invokestatic 72, 3) := by decide +kernel
theorem dL_settles_60 : decode cL_settles 60 = .ok (.istore 7, 2) := by decide +kernel
theorem dL_settles_62 : decode cL_settles 62 = .ok (.iload 7, 2) := by decide +kernel
theorem dL_settles_64 : decode cL_settles 64 = .ok (.ifCond .lt 7, 3) := by decide +kernel
theorem dL_settles_67 : decode cL_settles 67 = .ok (.iconst 1, 1) := by decide +kernel
theorem dL_settles_68 : decode cL_settles 68 = .ok (.goto 4, 3) := by decide +kernel
theorem dL_settles_71 : decode cL_settles 71 = .ok (.iconst 0, 1) := by decide +kernel
theorem dL_settles_72 : decode cL_settles 72 = .ok (.istore 8, 2) := by decide +kernel
theorem dL_settles_74 : decode cL_settles 74 = .ok (.aload_n 0, 1) := by decide +kernel
theorem dL_settles_75 : decode cL_settles 75 = .ok (.bipush 7, 2) := by decide +kernel
theorem dL_settles_77 : decode cL_settles 77 = .ok (.iload 5, 2) := by decide +kernel
theorem dL_settles_79 : decode cL_settles 79 = .ok (.iconst 0, 1) := by decide +kernel
theorem dL_settles_80 : decode cL_settles 80 = .ok (.iconst 0, 1) := by decide +kernel
theorem dL_settles_81 : decode cL_settles 81 = .ok (.invokestatic 72, 3) := by decide +kernel
theorem dL_settles_84 : decode cL_settles 84 = .ok (.istore 9, 2) := by decide +kernel
theorem dL_settles_86 : decode cL_settles 86 = .ok (.lconst 0, 1) := by decide +kernel
theorem dL_settles_87 : decode cL_settles 87 = .ok (.lstore 10, 2) := by decide +kernel
theorem dL_settles_89 : decode cL_settles 89 = .ok (.lconst 0, 1) := by decide +kernel
theorem dL_settles_90 : decode cL_settles 90 = .ok (.lstore 12, 2) := by decide +kernel
theorem dL_settles_92 : decode cL_settles 92 = .ok (.iconst 0, 1) := by decide +kernel
theorem dL_settles_93 : decode cL_settles 93 = .ok (.istore 14, 2) := by decide +kernel
theorem dL_settles_95 : decode cL_settles 95 = .ok (.iload 14, 2) := by decide +kernel
theorem dL_settles_97 : decode cL_settles 97 = .ok (.aload_n 3, 1) := by decide +kernel
theorem dL_settles_98 : decode cL_settles 98 = .ok (.iconst 0, 1) := by decide +kernel
theorem dL_settles_99 : decode cL_settles 99 = .ok (.iaload, 1) := by decide +kernel
theorem dL_settles_100 : decode cL_settles 100 = .ok (.if_icmp .ge 37, 3) := by decide +kernel
theorem dL_settles_103 : decode cL_settles 103 = .ok (.lload 10, 2) := by decide +kernel
theorem dL_settles_105 : decode cL_settles 105 = .ok (.aload 4, 2) := by decide +kernel
theorem dL_settles_107 : decode cL_settles 107 = .ok (.iload 14, 2) := by decide +kernel
theorem dL_settles_109 : decode cL_settles 109 = .ok (.iaload, 1) := by decide +kernel
theorem dL_settles_110 : decode cL_settles 110 = .ok (.iload 5, 2) := by decide +kernel
theorem dL_settles_112 : decode cL_settles 112 = .ok (.if_icmp .gt 15, 3) := by decide +kernel
theorem dL_settles_115 : decode cL_settles 115 = .ok (.aload_n 0, 1) := by decide +kernel
theorem dL_settles_116 : decode cL_settles 116 = .ok (.iload 14, 2) := by decide +kernel
theorem dL_settles_118 : decode cL_settles 118 = .ok (.iload 5, 2) := by decide +kernel
theorem dL_settles_120 : decode cL_settles 120 = .ok (.invokevirtual 43, 3) := by decide +kernel
theorem dL_settles_123 : decode cL_settles 123 = .ok (.i2l, 1) := by decide +kernel
theorem dL_settles_124 : decode cL_settles 124 = .ok (.goto 4, 3) := by decide +kernel
theorem dL_settles_127 : decode cL_settles 127 = .ok (.lconst 0, 1) := by decide +kernel
theorem dL_settles_128 : decode cL_settles 128 = .ok (.ladd, 1) := by decide +kernel
theorem dL_settles_129 : decode cL_settles 129 = .ok (.lstore 10, 2) := by decide +kernel
theorem dL_settles_131 : decode cL_settles 131 = .ok (.iinc 14 1, 3) := by decide +kernel
theorem dL_settles_134 : decode cL_settles 134 = .ok (.goto (-39), 3) := by decide +kernel
theorem dL_settles_137 : decode cL_settles 137 = .ok (.iconst 0, 1) := by decide +kernel
theorem dL_settles_138 : decode cL_settles 138 = .ok (.istore 14, 2) := by decide +kernel
theorem dL_settles_140 : decode cL_settles 140 = .ok (.iload 14, 2) := by decide +kernel
theorem dL_settles_142 : decode cL_settles 142 = .ok (.iconst 4, 1) := by decide +kernel
theorem dL_settles_143 : decode cL_settles 143 = .ok (.if_icmp .ge 23, 3) := by decide +kernel
theorem dL_settles_146 : decode cL_settles 146 = .ok (.lload 12, 2) := by decide +kernel
theorem dL_settles_148 : decode cL_settles 148 = .ok (.aload_n 0, 1) := by decide +kernel
theorem dL_settles_149 : decode cL_settles 149 = .ok (.iload 5, 2) := by decide +kernel
theorem dL_settles_151 : decode cL_settles 151 = .ok (.iload 14, 2) := by decide +kernel
theorem dL_settles_153 : decode cL_settles 153 = .ok (.invokevirtual 94, 3) := by decide +kernel
theorem dL_settles_156 : decode cL_settles 156 = .ok (.i2l, 1) := by decide +kernel
theorem dL_settles_157 : decode cL_settles 157 = .ok (.ladd, 1) := by decide +kernel
theorem dL_settles_158 : decode cL_settles 158 = .ok (.lstore 12, 2) := by decide +kernel
theorem dL_settles_160 : decode cL_settles 160 = .ok (.iinc 14 1, 3) := by decide +kernel
theorem dL_settles_163 : decode cL_settles 163 = .ok (.goto (-23), 3) := by decide +kernel
theorem dL_settles_166 : decode cL_settles 166 = .ok (.iload 9, 2) := by decide +kernel
theorem dL_settles_168 : decode cL_settles 168 = .ok (.ldc 54, 2) := by decide +kernel
theorem dL_settles_170 : decode cL_settles 170 = .ok (.if_icmp .ne 16, 3) := by decide +kernel
theorem dL_settles_173 : decode cL_settles 173 = .ok (.iload 8, 2) := by decide +kernel
theorem dL_settles_175 : decode cL_settles 175 = .ok (.ifCond .ne 7, 3) := by decide +kernel
theorem dL_settles_178 : decode cL_settles 178 = .ok (.iconst 1, 1) := by decide +kernel
theorem dL_settles_179 : decode cL_settles 179 = .ok (.goto 79, 3) := by decide +kernel
theorem dL_settles_182 : decode cL_settles 182 = .ok (.iconst 0, 1) := by decide +kernel
theorem dL_settles_183 : decode cL_settles 183 = .ok (.goto 75, 3) := by decide +kernel
theorem dL_settles_186 : decode cL_settles 186 = .ok (.iload 9, 2) := by decide +kernel
theorem dL_settles_188 : decode cL_settles 188 = .ok (.ifCond .le 69, 3) := by decide +kernel
theorem dL_settles_191 : decode cL_settles 191 = .ok (.iload 9, 2) := by decide +kernel
theorem dL_settles_193 : decode cL_settles 193 = .ok (.iconst 4, 1) := by decide +kernel
theorem dL_settles_194 : decode cL_settles 194 = .ok (.if_icmp .ge 63, 3) := by decide +kernel
theorem dL_settles_197 : decode cL_settles 197 = .ok (.iload 8, 2) := by decide +kernel
theorem dL_settles_199 : decode cL_settles 199 = .ok (.iload 9, 2) := by decide +kernel
theorem dL_settles_201 : decode cL_settles 201 = .ok (.iconst 1, 1) := by decide +kernel
theorem dL_settles_202 : decode cL_settles 202 = .ok (.if_icmp .ne 7, 3) := by decide +kernel
theorem dL_settles_205 : decode cL_settles 205 = .ok (.iconst 1, 1) := by decide +kernel
theorem dL_settles_206 : decode cL_settles 206 = .ok (.goto 4, 3) := by decide +kernel
theorem dL_settles_209 : decode cL_settles 209 = .ok (.iconst 0, 1) := by decide +kernel
theorem dL_settles_210 : decode cL_settles 210 = .ok (.if_icmp .ne 47, 3) := by decide +kernel
theorem dL_settles_213 : decode cL_settles 213 = .ok (.aload_n 0, 1) := by decide +kernel
theorem dL_settles_214 : decode cL_settles 214 = .ok (.bipush 8, 2) := by decide +kernel
theorem dL_settles_216 : decode cL_settles 216 = .ok (.iload 5, 2) := by decide +kernel
theorem dL_settles_218 : decode cL_settles 218 = .ok (.iconst 5, 1) := by decide +kernel
theorem dL_settles_219 : decode cL_settles 219 = .ok (.iconst 0, 1) := by decide +kernel
theorem dL_settles_220 : decode cL_settles 220 = .ok (.invokestatic 72, 3) := by decide +kernel
theorem dL_settles_223 : decode cL_settles 223 = .ok (.ldc 54, 2) := by decide +kernel
theorem dL_settles_225 : decode cL_settles 225 = .ok (.if_icmp .ne 32, 3) := by decide +kernel
theorem dL_settles_228 : decode cL_settles 228 = .ok (.iload 8, 2) := by decide +kernel
theorem dL_settles_230 : decode cL_settles 230 = .ok (.ifCond .eq 23, 3) := by decide +kernel
theorem dL_settles_233 : decode cL_settles 233 = .ok (.lload 12, 2) := by decide +kernel
theorem dL_settles_235 : decode cL_settles 235 = .ok (.lload 10, 2) := by decide +kernel
theorem dL_settles_237 : decode cL_settles 237 = .ok (.lconst 0, 1) := by decide +kernel
theorem dL_settles_238 : decode cL_settles 238 = .ok (.lcmp, 1) := by decide +kernel
theorem dL_settles_239 : decode cL_settles 239 = .ok (.ifCond .ne 7, 3) := by decide +kernel
theorem dL_settles_242 : decode cL_settles 242 = .ok (.lconst 0, 1) := by decide +kernel
theorem dL_settles_243 : decode cL_settles 243 = .ok (.goto 6, 3) := by decide +kernel
theorem dL_settles_246 : decode cL_settles 246 = .ok (.iload 6, 2) := by decide +kernel
theorem dL_settles_248 : decode cL_settles 248 = .ok (.i2l, 1) := by decide +kernel
theorem dL_settles_249 : decode cL_settles 249 = .ok (.lcmp, 1) := by decide +kernel
theorem dL_settles_250 : decode cL_settles 250 = .ok (.ifCond .ne 7, 3) := by decide +kernel
theorem dL_settles_253 : decode cL_settles 253 = .ok (.iconst 1, 1) := by decide +kernel
theorem dL_settles_254 : decode cL_settles 254 = .ok (.goto 4, 3) := by decide +kernel
theorem dL_settles_257 : decode cL_settles 257 = .ok (.iconst 0, 1) := by decide +kernel
theorem dL_settles_258 : decode cL_settles 258 = .ok (.ireturn, 1) := by decide +kernel
theorem dL_law_0 : decode cL_law 0 = .ok (.aload_n 0, 1) := by decide +kernel
theorem dL_law_1 : decode cL_law 1 = .ok (.iconst 0, 1) := by decide +kernel
theorem dL_law_2 : decode cL_law 2 = .ok (.invokestatic 139, 3) := by decide +kernel
theorem dL_law_5 : decode cL_law 5 = .ok (.ifCond .eq 27, 3) := by decide +kernel
theorem dL_law_8 : decode cL_law 8 = .ok (.aload_n 0, 1) := by decide +kernel
theorem dL_law_9 : decode cL_law 9 = .ok (.sipush 180, 3) := by decide +kernel
theorem dL_law_12 : decode cL_law 12 = .ok (.invokestatic 139, 3) := by decide +kernel
theorem dL_law_15 : decode cL_law 15 = .ok (.ifCond .eq 17, 3) := by decide +kernel
theorem dL_law_18 : decode cL_law 18 = .ok (.aload_n 0, 1) := by decide +kernel
theorem dL_law_19 : decode cL_law 19 = .ok (.sipush 360, 3) := by decide +kernel
theorem dL_law_22 : decode cL_law 22 = .ok (.invokestatic 139, 3) := by decide +kernel
theorem dL_law_25 : decode cL_law 25 = .ok (.ifCond .eq 7, 3) := by decide +kernel
theorem dL_law_28 : decode cL_law 28 = .ok (.iconst 1, 1) := by decide +kernel
theorem dL_law_29 : decode cL_law 29 = .ok (.goto 4, 3) := by decide +kernel
theorem dL_law_32 : decode cL_law 32 = .ok (.iconst 0, 1) := by decide +kernel
theorem dL_law_33 : decode cL_law 33 = .ok (.ireturn, 1) := by decide +kernel

theorem d_Mo_fixed_0 : decode b_Mo_fixed 0 = .ok (.aload_n 0, 1) := by decide +kernel
theorem d_Mo_fixed_1 : decode b_Mo_fixed 1 = .ok (.lload_n 1, 1) := by decide +kernel
theorem d_Mo_fixed_2 : decode b_Mo_fixed 2 = .ok (.iload_n 3, 1) := by decide +kernel
theorem d_Mo_fixed_3 : decode b_Mo_fixed 3 = .ok (.ifCond .eq 15, 3) := by decide +kernel
theorem d_Mo_fixed_6 : decode b_Mo_fixed 6 = .ok (.lload_n 1, 1) := by decide +kernel
theorem d_Mo_fixed_7 : decode b_Mo_fixed 7 = .ok (.iload_n 3, 1) := by decide +kernel
theorem d_Mo_fixed_8 : decode b_Mo_fixed 8 = .ok (.invokestatic 122, 3) := by decide +kernel
theorem d_Mo_fixed_11 : decode b_Mo_fixed 11 = .ok (.ifCond .ne 7, 3) := by decide +kernel
theorem d_Mo_fixed_14 : decode b_Mo_fixed 14 = .ok (.iconst 1, 1) := by decide +kernel
theorem d_Mo_fixed_15 : decode b_Mo_fixed 15 = .ok (.goto 4, 3) := by decide +kernel
theorem d_Mo_fixed_18 : decode b_Mo_fixed 18 = .ok (.iconst 0, 1) := by decide +kernel
theorem d_Mo_fixed_19 : decode b_Mo_fixed 19 = .ok (.invokevirtual 126, 3) := by decide +kernel
theorem d_Mo_fixed_22 : decode b_Mo_fixed 22 = .ok (.aload_n 0, 1) := by decide +kernel
theorem d_Mo_fixed_23 : decode b_Mo_fixed 23 = .ok (.lload_n 1, 1) := by decide +kernel
theorem d_Mo_fixed_24 : decode b_Mo_fixed 24 = .ok (.iload_n 3, 1) := by decide +kernel
theorem d_Mo_fixed_25 : decode b_Mo_fixed 25 = .ok (.invokestatic 122, 3) := by decide +kernel
theorem d_Mo_fixed_28 : decode b_Mo_fixed 28 = .ok (.ifCond .ne 27, 3) := by decide +kernel
theorem d_Mo_fixed_31 : decode b_Mo_fixed 31 = .ok (.iload 4, 2) := by decide +kernel
theorem d_Mo_fixed_33 : decode b_Mo_fixed 33 = .ok (.ifCond .lt 22, 3) := by decide +kernel
theorem d_Mo_fixed_36 : decode b_Mo_fixed 36 = .ok (.iload 4, 2) := by decide +kernel
theorem d_Mo_fixed_38 : decode b_Mo_fixed 38 = .ok (.sipush 1100, 3) := by decide +kernel
theorem d_Mo_fixed_41 : decode b_Mo_fixed 41 = .ok (.if_icmp .gt 14, 3) := by decide +kernel
theorem d_Mo_fixed_44 : decode b_Mo_fixed 44 = .ok (.iload 5, 2) := by decide +kernel
theorem d_Mo_fixed_46 : decode b_Mo_fixed 46 = .ok (.ifCond .lt 9, 3) := by decide +kernel
theorem d_Mo_fixed_49 : decode b_Mo_fixed 49 = .ok (.iload 5, 2) := by decide +kernel
theorem d_Mo_fixed_51 : decode b_Mo_fixed 51 = .ok (.iconst 3, 1) := by decide +kernel
theorem d_Mo_fixed_52 : decode b_Mo_fixed 52 = .ok (.if_icmp .le 7, 3) := by decide +kernel
theorem d_Mo_fixed_55 : decode b_Mo_fixed 55 = .ok (.iconst 1, 1) := by decide +kernel
theorem d_Mo_fixed_56 : decode b_Mo_fixed 56 = .ok (.goto 15, 3) := by decide +kernel
theorem d_Mo_fixed_59 : decode b_Mo_fixed 59 = .ok (.aload_n 0, 1) := by decide +kernel
theorem d_Mo_fixed_60 : decode b_Mo_fixed 60 = .ok (.invokevirtual 130, 3) := by decide +kernel
theorem d_Mo_fixed_63 : decode b_Mo_fixed 63 = .ok (.ifCond .ne 7, 3) := by decide +kernel
theorem d_Mo_fixed_66 : decode b_Mo_fixed 66 = .ok (.iconst 2, 1) := by decide +kernel
theorem d_Mo_fixed_67 : decode b_Mo_fixed 67 = .ok (.goto 4, 3) := by decide +kernel
theorem d_Mo_fixed_70 : decode b_Mo_fixed 70 = .ok (.iconst 0, 1) := by decide +kernel
theorem d_Mo_fixed_71 : decode b_Mo_fixed 71 = .ok (.putfield 31, 3) := by decide +kernel
theorem d_Mo_fixed_74 : decode b_Mo_fixed 74 = .ok (.aload_n 0, 1) := by decide +kernel
theorem d_Mo_fixed_75 : decode b_Mo_fixed 75 = .ok (.getfield 31, 3) := by decide +kernel
theorem d_Mo_fixed_78 : decode b_Mo_fixed 78 = .ok (.ifCond .le 5, 3) := by decide +kernel
theorem d_Mo_fixed_81 : decode b_Mo_fixed 81 = .ok (.iconst 0, 1) := by decide +kernel
theorem d_Mo_fixed_82 : decode b_Mo_fixed 82 = .ok (.ireturn, 1) := by decide +kernel
theorem d_Mo_fixed_83 : decode b_Mo_fixed 83 = .ok (.aload_n 0, 1) := by decide +kernel
theorem d_Mo_fixed_84 : decode b_Mo_fixed 84 = .ok (.invokevirtual 162, 3) := by decide +kernel
theorem d_Mo_fixed_87 : decode b_Mo_fixed 87 = .ok (.iload 4, 2) := by decide +kernel
theorem d_Mo_fixed_89 : decode b_Mo_fixed 89 = .ok (.sipush 1080, 3) := by decide +kernel
theorem d_Mo_fixed_92 : decode b_Mo_fixed 92 = .ok (.if_icmp .le 7, 3) := by decide +kernel
theorem d_Mo_fixed_95 : decode b_Mo_fixed 95 = .ok (.iconst 0, 1) := by decide +kernel
theorem d_Mo_fixed_96 : decode b_Mo_fixed 96 = .ok (.goto 9, 3) := by decide +kernel
theorem d_Mo_fixed_99 : decode b_Mo_fixed 99 = .ok (.sipush 1080, 3) := by decide +kernel
theorem d_Mo_fixed_102 : decode b_Mo_fixed 102 = .ok (.iload 4, 2) := by decide +kernel
theorem d_Mo_fixed_104 : decode b_Mo_fixed 104 = .ok (.isub, 1) := by decide +kernel
theorem d_Mo_fixed_105 : decode b_Mo_fixed 105 = .ok (.istore 6, 2) := by decide +kernel
theorem d_Mo_fixed_107 : decode b_Mo_fixed 107 = .ok (.aload_n 0, 1) := by decide +kernel
theorem d_Mo_fixed_108 : decode b_Mo_fixed 108 = .ok (.iload 6, 2) := by decide +kernel
theorem d_Mo_fixed_110 : decode b_Mo_fixed 110 = .ok (.aload_n 0, 1) := by decide +kernel
theorem d_Mo_fixed_111 : decode b_Mo_fixed 111 = .ok (.iload 6, 2) := by decide +kernel
theorem d_Mo_fixed_113 : decode b_Mo_fixed 113 = .ok (.iload 5, 2) := by decide +kernel
theorem d_Mo_fixed_115 : decode b_Mo_fixed 115 = .ok (.invokevirtual 165, 3) := by decide +kernel
theorem d_Mo_fixed_118 : decode b_Mo_fixed 118 = .ok (.invokevirtual 81, 3) := by decide +kernel
theorem d_Mo_fixed_121 : decode b_Mo_fixed 121 = .ok (.aload_n 0, 1) := by decide +kernel
theorem d_Mo_fixed_122 : decode b_Mo_fixed 122 = .ok (.invokevirtual 113, 3) := by decide +kernel
theorem d_Mo_fixed_125 : decode b_Mo_fixed 125 = .ok (.sipush 1403, 3) := by decide +kernel
theorem d_Mo_fixed_128 : decode b_Mo_fixed 128 = .ok (.istore 7, 2) := by decide +kernel
theorem d_Mo_fixed_130 : decode b_Mo_fixed 130 = .ok (.iload 7, 2) := by decide +kernel
theorem d_Mo_fixed_132 : decode b_Mo_fixed 132 = .ok (.sipush 1080, 3) := by decide +kernel
theorem d_Mo_fixed_135 : decode b_Mo_fixed 135 = .ok (.if_icmp .le 19, 3) := by decide +kernel
theorem d_Mo_fixed_138 : decode b_Mo_fixed 138 = .ok (.aload_n 0, 1) := by decide +kernel
theorem d_Mo_fixed_139 : decode b_Mo_fixed 139 = .ok (.getfield 25, 3) := by decide +kernel
theorem d_Mo_fixed_142 : decode b_Mo_fixed 142 = .ok (.iload 7, 2) := by decide +kernel
theorem d_Mo_fixed_144 : decode b_Mo_fixed 144 = .ok (.iaload, 1) := by decide +kernel
theorem d_Mo_fixed_145 : decode b_Mo_fixed 145 = .ok (.ifCond .ne 9, 3) := by decide +kernel
theorem d_Mo_fixed_148 : decode b_Mo_fixed 148 = .ok (.iinc 7 (-1), 3) := by decide +kernel
theorem d_Mo_fixed_151 : decode b_Mo_fixed 151 = .ok (.goto (-21), 3) := by decide +kernel
theorem d_Mo_fixed_154 : decode b_Mo_fixed 154 = .ok (.iload 7, 2) := by decide +kernel
theorem d_Mo_fixed_156 : decode b_Mo_fixed 156 = .ok (.sipush 1080, 3) := by decide +kernel
theorem d_Mo_fixed_159 : decode b_Mo_fixed 159 = .ok (.isub, 1) := by decide +kernel
theorem d_Mo_fixed_160 : decode b_Mo_fixed 160 = .ok (.istore 8, 2) := by decide +kernel
theorem d_Mo_fixed_162 : decode b_Mo_fixed 162 = .ok (.iload 8, 2) := by decide +kernel
theorem d_Mo_fixed_164 : decode b_Mo_fixed 164 = .ok (.ifCond .lt 22, 3) := by decide +kernel
theorem d_Mo_fixed_167 : decode b_Mo_fixed 167 = .ok (.aload_n 0, 1) := by decide +kernel
theorem d_Mo_fixed_168 : decode b_Mo_fixed 168 = .ok (.bipush 48, 2) := by decide +kernel
theorem d_Mo_fixed_170 : decode b_Mo_fixed 170 = .ok (.aload_n 0, 1) := by decide +kernel
theorem d_Mo_fixed_171 : decode b_Mo_fixed 171 = .ok (.iload 8, 2) := by decide +kernel
theorem d_Mo_fixed_173 : decode b_Mo_fixed 173 = .ok (.invokevirtual 169, 3) := by decide +kernel
theorem d_Mo_fixed_176 : decode b_Mo_fixed 176 = .ok (.iadd, 1) := by decide +kernel
theorem d_Mo_fixed_177 : decode b_Mo_fixed 177 = .ok (.invokevirtual 110, 3) := by decide +kernel
theorem d_Mo_fixed_180 : decode b_Mo_fixed 180 = .ok (.iinc 8 (-1), 3) := by decide +kernel
theorem d_Mo_fixed_183 : decode b_Mo_fixed 183 = .ok (.goto (-21), 3) := by decide +kernel
theorem d_Mo_fixed_186 : decode b_Mo_fixed 186 = .ok (.iload 4, 2) := by decide +kernel
theorem d_Mo_fixed_188 : decode b_Mo_fixed 188 = .ok (.ifCond .le 9, 3) := by decide +kernel
theorem d_Mo_fixed_191 : decode b_Mo_fixed 191 = .ok (.aload_n 0, 1) := by decide +kernel
theorem d_Mo_fixed_192 : decode b_Mo_fixed 192 = .ok (.bipush 46, 2) := by decide +kernel
theorem d_Mo_fixed_194 : decode b_Mo_fixed 194 = .ok (.invokevirtual 110, 3) := by decide +kernel
theorem d_Mo_fixed_197 : decode b_Mo_fixed 197 = .ok (.iconst (-1), 1) := by decide +kernel
theorem d_Mo_fixed_198 : decode b_Mo_fixed 198 = .ok (.istore 8, 2) := by decide +kernel
theorem d_Mo_fixed_200 : decode b_Mo_fixed 200 = .ok (.iload 8, 2) := by decide +kernel
theorem d_Mo_fixed_202 : decode b_Mo_fixed 202 = .ok (.iload 4, 2) := by decide +kernel
theorem d_Mo_fixed_204 : decode b_Mo_fixed 204 = .ok (.ineg, 1) := by decide +kernel
theorem d_Mo_fixed_205 : decode b_Mo_fixed 205 = .ok (.if_icmp .lt 22, 3) := by decide +kernel
theorem d_Mo_fixed_208 : decode b_Mo_fixed 208 = .ok (.aload_n 0, 1) := by decide +kernel
theorem d_Mo_fixed_209 : decode b_Mo_fixed 209 = .ok (.bipush 48, 2) := by decide +kernel
theorem d_Mo_fixed_211 : decode b_Mo_fixed 211 = .ok (.aload_n 0, 1) := by decide +kernel
theorem d_Mo_fixed_212 : decode b_Mo_fixed 212 = .ok (.iload 8, 2) := by decide +kernel
theorem d_Mo_fixed_214 : decode b_Mo_fixed 214 = .ok (.invokevirtual 169, 3) := by decide +kernel
theorem d_Mo_fixed_217 : decode b_Mo_fixed 217 = .ok (.iadd, 1) := by decide +kernel
theorem d_Mo_fixed_218 : decode b_Mo_fixed 218 = .ok (.invokevirtual 110, 3) := by decide +kernel
theorem d_Mo_fixed_221 : decode b_Mo_fixed 221 = .ok (.iinc 8 (-1), 3) := by decide +kernel
theorem d_Mo_fixed_224 : decode b_Mo_fixed 224 = .ok (.goto (-24), 3) := by decide +kernel
theorem d_Mo_fixed_227 : decode b_Mo_fixed 227 = .ok (.aload_n 0, 1) := by decide +kernel
theorem d_Mo_fixed_228 : decode b_Mo_fixed 228 = .ok (.getfield 107, 3) := by decide +kernel
theorem d_Mo_fixed_231 : decode b_Mo_fixed 231 = .ok (.ireturn, 1) := by decide +kernel
theorem d_Mo_scientific_0 : decode b_Mo_scientific 0 = .ok (.aload_n 0, 1) := by decide +kernel
theorem d_Mo_scientific_1 : decode b_Mo_scientific 1 = .ok (.lload_n 1, 1) := by decide +kernel
theorem d_Mo_scientific_2 : decode b_Mo_scientific 2 = .ok (.iload_n 3, 1) := by decide +kernel
theorem d_Mo_scientific_3 : decode b_Mo_scientific 3 = .ok (.ifCond .eq 15, 3) := by decide +kernel
theorem d_Mo_scientific_6 : decode b_Mo_scientific 6 = .ok (.lload_n 1, 1) := by decide +kernel
theorem d_Mo_scientific_7 : decode b_Mo_scientific 7 = .ok (.iload_n 3, 1) := by decide +kernel
theorem d_Mo_scientific_8 : decode b_Mo_scientific 8 = .ok (.invokestatic 122, 3) := by decide +kernel
theorem d_Mo_scientific_11 : decode b_Mo_scientific 11 = .ok (.ifCond .ne 7, 3) := by decide +kernel
theorem d_Mo_scientific_14 : decode b_Mo_scientific 14 = .ok (.iconst 1, 1) := by decide +kernel
theorem d_Mo_scientific_15 : decode b_Mo_scientific 15 = .ok (.goto 4, 3) := by decide +kernel
theorem d_Mo_scientific_18 : decode b_Mo_scientific 18 = .ok (.iconst 0, 1) := by decide +kernel
theorem d_Mo_scientific_19 : decode b_Mo_scientific 19 = .ok (.invokevirtual 126, 3) := by decide +kernel
theorem d_Mo_scientific_22 : decode b_Mo_scientific 22 = .ok (.aload_n 0, 1) := by decide +kernel
theorem d_Mo_scientific_23 : decode b_Mo_scientific 23 = .ok (.lload_n 1, 1) := by decide +kernel
theorem d_Mo_scientific_24 : decode b_Mo_scientific 24 = .ok (.iload_n 3, 1) := by decide +kernel
theorem d_Mo_scientific_25 : decode b_Mo_scientific 25 = .ok (.invokestatic 122, 3) := by decide +kernel
theorem d_Mo_scientific_28 : decode b_Mo_scientific 28 = .ok (.ifCond .ne 28, 3) := by decide +kernel
theorem d_Mo_scientific_31 : decode b_Mo_scientific 31 = .ok (.iload 4, 2) := by decide +kernel
theorem d_Mo_scientific_33 : decode b_Mo_scientific 33 = .ok (.iconst 1, 1) := by decide +kernel
theorem d_Mo_scientific_34 : decode b_Mo_scientific 34 = .ok (.if_icmp .lt 22, 3) := by decide +kernel
theorem d_Mo_scientific_37 : decode b_Mo_scientific 37 = .ok (.iload 4, 2) := by decide +kernel
theorem d_Mo_scientific_39 : decode b_Mo_scientific 39 = .ok (.sipush 800, 3) := by decide +kernel
theorem d_Mo_scientific_42 : decode b_Mo_scientific 42 = .ok (.if_icmp .gt 14, 3) := by decide +kernel
theorem d_Mo_scientific_45 : decode b_Mo_scientific 45 = .ok (.iload 5, 2) := by decide +kernel
theorem d_Mo_scientific_47 : decode b_Mo_scientific 47 = .ok (.ifCond .lt 9, 3) := by decide +kernel
theorem d_Mo_scientific_50 : decode b_Mo_scientific 50 = .ok (.iload 5, 2) := by decide +kernel
theorem d_Mo_scientific_52 : decode b_Mo_scientific 52 = .ok (.iconst 3, 1) := by decide +kernel
theorem d_Mo_scientific_53 : decode b_Mo_scientific 53 = .ok (.if_icmp .le 7, 3) := by decide +kernel
theorem d_Mo_scientific_56 : decode b_Mo_scientific 56 = .ok (.iconst 1, 1) := by decide +kernel
theorem d_Mo_scientific_57 : decode b_Mo_scientific 57 = .ok (.goto 15, 3) := by decide +kernel
theorem d_Mo_scientific_60 : decode b_Mo_scientific 60 = .ok (.aload_n 0, 1) := by decide +kernel
theorem d_Mo_scientific_61 : decode b_Mo_scientific 61 = .ok (.invokevirtual 130, 3) := by decide +kernel
theorem d_Mo_scientific_64 : decode b_Mo_scientific 64 = .ok (.ifCond .ne 7, 3) := by decide +kernel
theorem d_Mo_scientific_67 : decode b_Mo_scientific 67 = .ok (.iconst 2, 1) := by decide +kernel
theorem d_Mo_scientific_68 : decode b_Mo_scientific 68 = .ok (.goto 4, 3) := by decide +kernel
theorem d_Mo_scientific_71 : decode b_Mo_scientific 71 = .ok (.iconst 0, 1) := by decide +kernel
theorem d_Mo_scientific_72 : decode b_Mo_scientific 72 = .ok (.putfield 31, 3) := by decide +kernel
theorem d_Mo_scientific_75 : decode b_Mo_scientific 75 = .ok (.aload_n 0, 1) := by decide +kernel
theorem d_Mo_scientific_76 : decode b_Mo_scientific 76 = .ok (.getfield 31, 3) := by decide +kernel
theorem d_Mo_scientific_79 : decode b_Mo_scientific 79 = .ok (.ifCond .le 5, 3) := by decide +kernel
theorem d_Mo_scientific_82 : decode b_Mo_scientific 82 = .ok (.iconst 0, 1) := by decide +kernel
theorem d_Mo_scientific_83 : decode b_Mo_scientific 83 = .ok (.ireturn, 1) := by decide +kernel
theorem d_Mo_scientific_84 : decode b_Mo_scientific 84 = .ok (.aload_n 0, 1) := by decide +kernel
theorem d_Mo_scientific_85 : decode b_Mo_scientific 85 = .ok (.invokevirtual 162, 3) := by decide +kernel
theorem d_Mo_scientific_88 : decode b_Mo_scientific 88 = .ok (.aload_n 0, 1) := by decide +kernel
theorem d_Mo_scientific_89 : decode b_Mo_scientific 89 = .ok (.getfield 52, 3) := by decide +kernel
theorem d_Mo_scientific_92 : decode b_Mo_scientific 92 = .ok (.lconst 0, 1) := by decide +kernel
theorem d_Mo_scientific_93 : decode b_Mo_scientific 93 = .ok (.lcmp, 1) := by decide +kernel
theorem d_Mo_scientific_94 : decode b_Mo_scientific 94 = .ok (.ifCond .ne 9, 3) := by decide +kernel
theorem d_Mo_scientific_97 : decode b_Mo_scientific 97 = .ok (.sipush 1080, 3) := by decide +kernel
theorem d_Mo_scientific_100 : decode b_Mo_scientific 100 = .ok (.goto 7, 3) := by decide +kernel
theorem d_Mo_scientific_103 : decode b_Mo_scientific 103 = .ok (.aload_n 0, 1) := by decide +kernel
theorem d_Mo_scientific_104 : decode b_Mo_scientific 104 = .ok (.invokevirtual 77, 3) := by decide +kernel
theorem d_Mo_scientific_107 : decode b_Mo_scientific 107 = .ok (.istore 6, 2) := by decide +kernel
theorem d_Mo_scientific_109 : decode b_Mo_scientific 109 = .ok (.iload 6, 2) := by decide +kernel
theorem d_Mo_scientific_111 : decode b_Mo_scientific 111 = .ok (.iload 4, 2) := by decide +kernel
theorem d_Mo_scientific_113 : decode b_Mo_scientific 113 = .ok (.isub, 1) := by decide +kernel
theorem d_Mo_scientific_114 : decode b_Mo_scientific 114 = .ok (.iconst 1, 1) := by decide +kernel
theorem d_Mo_scientific_115 : decode b_Mo_scientific 115 = .ok (.iadd, 1) := by decide +kernel
theorem d_Mo_scientific_116 : decode b_Mo_scientific 116 = .ok (.ifCond .ge 7, 3) := by decide +kernel
theorem d_Mo_scientific_119 : decode b_Mo_scientific 119 = .ok (.iconst 0, 1) := by decide +kernel
theorem d_Mo_scientific_120 : decode b_Mo_scientific 120 = .ok (.goto 10, 3) := by decide +kernel
theorem d_Mo_scientific_123 : decode b_Mo_scientific 123 = .ok (.iload 6, 2) := by decide +kernel
theorem d_Mo_scientific_125 : decode b_Mo_scientific 125 = .ok (.iload 4, 2) := by decide +kernel
theorem d_Mo_scientific_127 : decode b_Mo_scientific 127 = .ok (.isub, 1) := by decide +kernel
theorem d_Mo_scientific_128 : decode b_Mo_scientific 128 = .ok (.iconst 1, 1) := by decide +kernel
theorem d_Mo_scientific_129 : decode b_Mo_scientific 129 = .ok (.iadd, 1) := by decide +kernel
theorem d_Mo_scientific_130 : decode b_Mo_scientific 130 = .ok (.istore 7, 2) := by decide +kernel
theorem d_Mo_scientific_132 : decode b_Mo_scientific 132 = .ok (.aload_n 0, 1) := by decide +kernel
theorem d_Mo_scientific_133 : decode b_Mo_scientific 133 = .ok (.iload 7, 2) := by decide +kernel
theorem d_Mo_scientific_135 : decode b_Mo_scientific 135 = .ok (.aload_n 0, 1) := by decide +kernel
theorem d_Mo_scientific_136 : decode b_Mo_scientific 136 = .ok (.iload 7, 2) := by decide +kernel
theorem d_Mo_scientific_138 : decode b_Mo_scientific 138 = .ok (.iload 5, 2) := by decide +kernel
theorem d_Mo_scientific_140 : decode b_Mo_scientific 140 = .ok (.invokevirtual 165, 3) := by decide +kernel
theorem d_Mo_scientific_143 : decode b_Mo_scientific 143 = .ok (.invokevirtual 81, 3) := by decide +kernel
theorem d_Mo_scientific_146 : decode b_Mo_scientific 146 = .ok (.aload_n 0, 1) := by decide +kernel
theorem d_Mo_scientific_147 : decode b_Mo_scientific 147 = .ok (.getfield 25, 3) := by decide +kernel
theorem d_Mo_scientific_150 : decode b_Mo_scientific 150 = .ok (.iload 6, 2) := by decide +kernel
theorem d_Mo_scientific_152 : decode b_Mo_scientific 152 = .ok (.iconst 1, 1) := by decide +kernel
theorem d_Mo_scientific_153 : decode b_Mo_scientific 153 = .ok (.iadd, 1) := by decide +kernel
theorem d_Mo_scientific_154 : decode b_Mo_scientific 154 = .ok (.iaload, 1) := by decide +kernel
theorem d_Mo_scientific_155 : decode b_Mo_scientific 155 = .ok (.iconst 1, 1) := by decide +kernel
theorem d_Mo_scientific_156 : decode b_Mo_scientific 156 = .ok (.if_icmp .ne 19, 3) := by decide +kernel
theorem d_Mo_scientific_159 : decode b_Mo_scientific 159 = .ok (.aload_n 0, 1) := by decide +kernel
theorem d_Mo_scientific_160 : decode b_Mo_scientific 160 = .ok (.getfield 52, 3) := by decide +kernel
theorem d_Mo_scientific_163 : decode b_Mo_scientific 163 = .ok (.lconst 0, 1) := by decide +kernel
theorem d_Mo_scientific_164 : decode b_Mo_scientific 164 = .ok (.lcmp, 1) := by decide +kernel
theorem d_Mo_scientific_165 : decode b_Mo_scientific 165 = .ok (.ifCond .eq 10, 3) := by decide +kernel
theorem d_Mo_scientific_168 : decode b_Mo_scientific 168 = .ok (.iload 6, 2) := by decide +kernel
theorem d_Mo_scientific_170 : decode b_Mo_scientific 170 = .ok (.iconst 1, 1) := by decide +kernel
theorem d_Mo_scientific_171 : decode b_Mo_scientific 171 = .ok (.iadd, 1) := by decide +kernel
theorem d_Mo_scientific_172 : decode b_Mo_scientific 172 = .ok (.goto 5, 3) := by decide +kernel
theorem d_Mo_scientific_175 : decode b_Mo_scientific 175 = .ok (.iload 6, 2) := by decide +kernel
theorem d_Mo_scientific_177 : decode b_Mo_scientific 177 = .ok (.istore 6, 2) := by decide +kernel
theorem d_Mo_scientific_179 : decode b_Mo_scientific 179 = .ok (.aload_n 0, 1) := by decide +kernel
theorem d_Mo_scientific_180 : decode b_Mo_scientific 180 = .ok (.invokevirtual 113, 3) := by decide +kernel
theorem d_Mo_scientific_183 : decode b_Mo_scientific 183 = .ok (.iconst 0, 1) := by decide +kernel
theorem d_Mo_scientific_184 : decode b_Mo_scientific 184 = .ok (.istore 8, 2) := by decide +kernel
theorem d_Mo_scientific_186 : decode b_Mo_scientific 186 = .ok (.iload 8, 2) := by decide +kernel
theorem d_Mo_scientific_188 : decode b_Mo_scientific 188 = .ok (.iload 4, 2) := by decide +kernel
theorem d_Mo_scientific_190 : decode b_Mo_scientific 190 = .ok (.if_icmp .ge 46, 3) := by decide +kernel
theorem d_Mo_scientific_193 : decode b_Mo_scientific 193 = .ok (.aload_n 0, 1) := by decide +kernel
theorem d_Mo_scientific_194 : decode b_Mo_scientific 194 = .ok (.bipush 48, 2) := by decide +kernel
theorem d_Mo_scientific_196 : decode b_Mo_scientific 196 = .ok (.aload_n 0, 1) := by decide +kernel
theorem d_Mo_scientific_197 : decode b_Mo_scientific 197 = .ok (.iload 6, 2) := by decide +kernel
theorem d_Mo_scientific_199 : decode b_Mo_scientific 199 = .ok (.sipush 1080, 3) := by decide +kernel
theorem d_Mo_scientific_202 : decode b_Mo_scientific 202 = .ok (.isub, 1) := by decide +kernel
theorem d_Mo_scientific_203 : decode b_Mo_scientific 203 = .ok (.iload 8, 2) := by decide +kernel
theorem d_Mo_scientific_205 : decode b_Mo_scientific 205 = .ok (.isub, 1) := by decide +kernel
theorem d_Mo_scientific_206 : decode b_Mo_scientific 206 = .ok (.invokevirtual 169, 3) := by decide +kernel
theorem d_Mo_scientific_209 : decode b_Mo_scientific 209 = .ok (.iadd, 1) := by decide +kernel
theorem d_Mo_scientific_210 : decode b_Mo_scientific 210 = .ok (.invokevirtual 110, 3) := by decide +kernel
theorem d_Mo_scientific_213 : decode b_Mo_scientific 213 = .ok (.iload 8, 2) := by decide +kernel
theorem d_Mo_scientific_215 : decode b_Mo_scientific 215 = .ok (.ifCond .ne 15, 3) := by decide +kernel
theorem d_Mo_scientific_218 : decode b_Mo_scientific 218 = .ok (.iload 4, 2) := by decide +kernel
theorem d_Mo_scientific_220 : decode b_Mo_scientific 220 = .ok (.iconst 1, 1) := by decide +kernel
theorem d_Mo_scientific_221 : decode b_Mo_scientific 221 = .ok (.if_icmp .le 9, 3) := by decide +kernel
theorem d_Mo_scientific_224 : decode b_Mo_scientific 224 = .ok (.aload_n 0, 1) := by decide +kernel
theorem d_Mo_scientific_225 : decode b_Mo_scientific 225 = .ok (.bipush 46, 2) := by decide +kernel
theorem d_Mo_scientific_227 : decode b_Mo_scientific 227 = .ok (.invokevirtual 110, 3) := by decide +kernel
theorem d_Mo_scientific_230 : decode b_Mo_scientific 230 = .ok (.iinc 8 1, 3) := by decide +kernel
theorem d_Mo_scientific_233 : decode b_Mo_scientific 233 = .ok (.goto (-47), 3) := by decide +kernel
theorem d_Mo_scientific_236 : decode b_Mo_scientific 236 = .ok (.iload 6, 2) := by decide +kernel
theorem d_Mo_scientific_238 : decode b_Mo_scientific 238 = .ok (.sipush 1080, 3) := by decide +kernel
theorem d_Mo_scientific_241 : decode b_Mo_scientific 241 = .ok (.isub, 1) := by decide +kernel
theorem d_Mo_scientific_242 : decode b_Mo_scientific 242 = .ok (.istore 8, 2) := by decide +kernel
theorem d_Mo_scientific_244 : decode b_Mo_scientific 244 = .ok (.aload_n 0, 1) := by decide +kernel
theorem d_Mo_scientific_245 : decode b_Mo_scientific 245 = .ok (.bipush 101, 2) := by decide +kernel
theorem d_Mo_scientific_247 : decode b_Mo_scientific 247 = .ok (.invokevirtual 110, 3) := by decide +kernel
theorem d_Mo_scientific_250 : decode b_Mo_scientific 250 = .ok (.aload_n 0, 1) := by decide +kernel
theorem d_Mo_scientific_251 : decode b_Mo_scientific 251 = .ok (.iload 8, 2) := by decide +kernel
theorem d_Mo_scientific_253 : decode b_Mo_scientific 253 = .ok (.ifCond .ge 8, 3) := by decide +kernel
theorem d_Mo_scientific_256 : decode b_Mo_scientific 256 = .ok (.bipush 45, 2) := by decide +kernel
theorem d_Mo_scientific_258 : decode b_Mo_scientific 258 = .ok (.goto 5, 3) := by decide +kernel
theorem d_Mo_scientific_261 : decode b_Mo_scientific 261 = .ok (.bipush 43, 2) := by decide +kernel
theorem d_Mo_scientific_263 : decode b_Mo_scientific 263 = .ok (.invokevirtual 110, 3) := by decide +kernel
theorem d_Mo_scientific_266 : decode b_Mo_scientific 266 = .ok (.iload 8, 2) := by decide +kernel
theorem d_Mo_scientific_268 : decode b_Mo_scientific 268 = .ok (.ifCond .ge 9, 3) := by decide +kernel
theorem d_Mo_scientific_271 : decode b_Mo_scientific 271 = .ok (.iload 8, 2) := by decide +kernel
theorem d_Mo_scientific_273 : decode b_Mo_scientific 273 = .ok (.ineg, 1) := by decide +kernel
theorem d_Mo_scientific_274 : decode b_Mo_scientific 274 = .ok (.goto 5, 3) := by decide +kernel
theorem d_Mo_scientific_277 : decode b_Mo_scientific 277 = .ok (.iload 8, 2) := by decide +kernel
theorem d_Mo_scientific_279 : decode b_Mo_scientific 279 = .ok (.istore 8, 2) := by decide +kernel
theorem d_Mo_scientific_281 : decode b_Mo_scientific 281 = .ok (.iload 8, 2) := by decide +kernel
theorem d_Mo_scientific_283 : decode b_Mo_scientific 283 = .ok (.bipush 10, 2) := by decide +kernel
theorem d_Mo_scientific_285 : decode b_Mo_scientific 285 = .ok (.if_icmp .ge 9, 3) := by decide +kernel
theorem d_Mo_scientific_288 : decode b_Mo_scientific 288 = .ok (.aload_n 0, 1) := by decide +kernel
theorem d_Mo_scientific_289 : decode b_Mo_scientific 289 = .ok (.bipush 48, 2) := by decide +kernel
theorem d_Mo_scientific_291 : decode b_Mo_scientific 291 = .ok (.invokevirtual 110, 3) := by decide +kernel
theorem d_Mo_scientific_294 : decode b_Mo_scientific 294 = .ok (.aload_n 0, 1) := by decide +kernel
theorem d_Mo_scientific_295 : decode b_Mo_scientific 295 = .ok (.iload 8, 2) := by decide +kernel
theorem d_Mo_scientific_297 : decode b_Mo_scientific 297 = .ok (.invokevirtual 149, 3) := by decide +kernel
theorem d_Mo_scientific_300 : decode b_Mo_scientific 300 = .ok (.aload_n 0, 1) := by decide +kernel
theorem d_Mo_scientific_301 : decode b_Mo_scientific 301 = .ok (.getfield 107, 3) := by decide +kernel
theorem d_Mo_scientific_304 : decode b_Mo_scientific 304 = .ok (.ireturn, 1) := by decide +kernel
abbrev Qc_Mo_fixed_w (D : va_G) (h0 : Nat) (th : Int) (au : Nat) (al : Nat) (av : Nat) (ao : Nat) (ah : Nat) (ar : Nat) (ap : Nat) (t : List Nat) (ng : Bool) (me : Nat) (mf : Nat) (mb : Nat) (mm : Nat) (ms : Nat) (mt : Int) (mq : Nat) (mz : Int) (b : Nat) (nw : Bool) (z1 : Int) (z2 : Int) (A : Nat → Prop) : Array Value → State → Outcome → State → Prop := va_Qi (fun (r : Int32) (u : Unit) => r = iZ (0)) (fun (u : Unit) t9 => cpost D A [(h0, .inr (5, [.int (iZ (th4 b nw z1 z2 0 1100)), .ref au, .ref al, .ref av, .ref ao, .ref ah, .ref ar, .ref ap, .int (iZ ((((t).length : Nat) : Int))), .int (bZ (fN b (okN b nw) = true)), .int (iZ (((fE b (okN b nw) : Nat) : Int))), .long (lN (fF b (okN b nw))), .int (iZ (((fP (okN b nw) : Nat) : Int))), .int (iZ (((fMo (okN b nw) : Nat) : Int))), .long (lN (fM b (okN b nw))), .int (iZ (fW b (okN b nw))), .long (lN (mq)), .int (iZ (mz))]))] [] t9) A
set_option maxHeartbeats 4000000 in
set_option maxRecDepth 100000 in
theorem lp_Mo_fixed_w_71 {p : Program} {l : Launch} {e : Env} {s : State} {m : MethodId} {args : Array Value} {below : List Frame} {meth : Method} {c : Code} {A : Nat → Prop} {D : va_G} {Z : Nat → Nat} (h0 : Nat) (th : Int) (au : Nat) (al : Nat) (av : Nat) (ao : Nat) (ah : Nat) (ar : Nat) (ap : Nat) (t : List Nat) (ng : Bool) (me : Nat) (mf : Nat) (mb : Nat) (mm : Nat) (ms : Nat) (mt : Int) (mq : Nat) (mz : Int) (b : Nat) (nw : Bool) (z1 : Int) (z2 : Int) (hb9 : b < 18446744073709551616) (hz1 : -2147483648 ≤ z1 ∧ z1 < 2147483648) (hz2 : -2147483648 ≤ z2 ∧ z2 < 2147483648) (hno : ¬ th4 b nw z1 z2 0 1100 = 0) (C0 : cxA p s m args meth c b_Mo_fixed 9 R_Mo (some .int)) (hA : ∀ q : Nat, s.heap.size ≤ q → A q) (hE : Ev Z A s s.heap) : ∀ (N : Nat)  (H : Heap) (locs : List Loc) (ls : Array Slot), 0 < N → va_K D classes [] s → va_P D classes [(h0, .inr (5, [.int (iZ (th)), .ref au, .ref al, .ref av, .ref ao, .ref ah, .ref ar, .ref ap, .int (iZ ((((t).length : Nat) : Int))), .int (bZ (fN b (okN b nw) = true)), .int (iZ (((fE b (okN b nw) : Nat) : Int))), .long (lN (fF b (okN b nw))), .int (iZ (((fP (okN b nw) : Nat) : Int))), .int (iZ (((fMo (okN b nw) : Nat) : Int))), .long (lN (fM b (okN b nw))), .int (iZ (fW b (okN b nw))), .long (lN (mq)), .int (iZ (mz))]))] H → va_D A [(h0, .inr (5, [.int (iZ (th)), .ref au, .ref al, .ref av, .ref ao, .ref ah, .ref ar, .ref ap, .int (iZ ((((t).length : Nat) : Int))), .int (bZ (fN b (okN b nw) = true)), .int (iZ (((fE b (okN b nw) : Nat) : Int))), .long (lN (fF b (okN b nw))), .int (iZ (((fP (okN b nw) : Nat) : Int))), .int (iZ (((fMo (okN b nw) : Nat) : Int))), .long (lN (fM b (okN b nw))), .int (iZ (fW b (okN b nw))), .long (lN (mq)), .int (iZ (mz))]))] → va_S A s.heap H locs → lv_has ls 9 [(0, .ref h0)] → W p l e ({ frames := 1, cells := 0, slots := 0, locals := 23 } : Room) s m args below meth c H locs 0 0 (MQ below (Qc_Mo_fixed_w D h0 th au al av ao ah ar ap t ng me mf mb mm ms mt mq mz b nw z1 z2 A) args s 0 0 A) (F0 m 71 ls [.int (iZ (th4 b nw z1 z2 0 1100)), .ref h0]) := by
  obtain ⟨hx, hb, hml, hown, hts, hr, hlocks⟩ := id C0
  intro N
  induction N with
  | zero => intro  H locs ls hN; exact absurd hN (Nat.not_lt_zero _)
  | succ N ih =>
    intro  H locs ls hN  hK hP hD hS hl
    have htr := th4_in b nw z1 z2 0 1100
    have hfe := fE_lt b (okN b nw)
    have hmo := fMo_lt (okN b nw)
    refine va_put (D := D) (ci := 5) (v := .int (iZ (th4 b nw z1 z2 0 1100))) (ty := .int) (C := R_Mo) (T := F_Mo) (N := 18) hx hb hts i_Mo t_Mo t_Mo_ok n_Mo hown hK hP hD hS 0 rfl rfl 0 (by decide) (hts _ kw_304_) (fun _ h9 => h9) rfl (by decide +kernel) rfl rfl (Nat.le_of_ble_eq_true rfl) d_Mo_fixed_71 (fun H locs hP hD hS => ?_)
    have hP : va_P D classes [(h0, .inr (5, [.int (iZ (th4 b nw z1 z2 0 1100)), .ref au, .ref al, .ref av, .ref ao, .ref ah, .ref ar, .ref ap, .int (iZ ((((t).length : Nat) : Int))), .int (bZ (fN b (okN b nw) = true)), .int (iZ (((fE b (okN b nw) : Nat) : Int))), .long (lN (fF b (okN b nw))), .int (iZ (((fP (okN b nw) : Nat) : Int))), .int (iZ (((fMo (okN b nw) : Nat) : Int))), .long (lN (fM b (okN b nw))), .int (iZ (fW b (okN b nw))), .long (lN (mq)), .int (iZ (mz))]))] H := hP
    have hD : va_D A [(h0, .inr (5, [.int (iZ (th4 b nw z1 z2 0 1100)), .ref au, .ref al, .ref av, .ref ao, .ref ah, .ref ar, .ref ap, .int (iZ ((((t).length : Nat) : Int))), .int (bZ (fN b (okN b nw) = true)), .int (iZ (((fE b (okN b nw) : Nat) : Int))), .long (lN (fF b (okN b nw))), .int (iZ (((fP (okN b nw) : Nat) : Int))), .int (iZ (((fMo (okN b nw) : Nat) : Int))), .long (lN (fM b (okN b nw))), .int (iZ (fW b (okN b nw))), .long (lN (mq)), .int (iZ (mz))]))] := hD
    refine lv_aload_n hx hb d_Mo_fixed_74 rfl (lv_at hl 0 rfl) ?_
    refine va_get (D := D) (ci := 5) (v := .int (iZ (th4 b nw z1 z2 0 1100))) (C := R_Mo) (T := F_Mo) (N := 18) hx hb hts i_Mo hown hK hP 0 rfl rfl 0 (by decide) (hts _ kw_304_) (fun _ h9 => h9) rfl d_Mo_fixed_75 ?_
    refine zv_if_le (tgt := 83) hx hb d_Mo_fixed_78 (by decide) (by omega) (fun c78 => absurd c78 (by omega)) (fun c78 => ?_)
    refine lv_iconst (v := iZ (0)) hx hb d_Mo_fixed_81 rfl ?_
    exact ew_i () hx hb hr hlocks d_Mo_fixed_82 (show iZ (0) = iZ (0) from rfl) (hP.sub (ws' := [(h0, .inr (5, [.int (iZ (th4 b nw z1 z2 0 1100)), .ref au, .ref al, .ref av, .ref ao, .ref ah, .ref ar, .ref ap, .int (iZ ((((t).length : Nat) : Int))), .int (bZ (fN b (okN b nw) = true)), .int (iZ (((fE b (okN b nw) : Nat) : Int))), .long (lN (fF b (okN b nw))), .int (iZ (((fP (okN b nw) : Nat) : Int))), .int (iZ (((fMo (okN b nw) : Nat) : Int))), .long (lN (fM b (okN b nw))), .int (iZ (fW b (okN b nw))), .long (lN (mq)), .int (iZ (mz))]))]) [0] rfl) (hD.sub (ws' := [(h0, .inr (5, [.int (iZ (th4 b nw z1 z2 0 1100)), .ref au, .ref al, .ref av, .ref ao, .ref ah, .ref ar, .ref ap, .int (iZ ((((t).length : Nat) : Int))), .int (bZ (fN b (okN b nw) = true)), .int (iZ (((fE b (okN b nw) : Nat) : Int))), .long (lN (fF b (okN b nw))), .int (iZ (((fP (okN b nw) : Nat) : Int))), .int (iZ (((fMo (okN b nw) : Nat) : Int))), .long (lN (fM b (okN b nw))), .int (iZ (fW b (okN b nw))), .long (lN (mq)), .int (iZ (mz))]))]) [0] (by decide) rfl) (hK.sub (tys' := []) [] rfl) hS (Nat.le_of_ble_eq_true rfl) (Nat.le_of_ble_eq_true rfl)
set_option maxHeartbeats 4000000 in
set_option maxRecDepth 100000 in
theorem lp_Mo_fixed_w_19 {p : Program} {l : Launch} {e : Env} {s : State} {m : MethodId} {args : Array Value} {below : List Frame} {meth : Method} {c : Code} {A : Nat → Prop} {D : va_G} {Z : Nat → Nat} (h0 : Nat) (th : Int) (au : Nat) (al : Nat) (av : Nat) (ao : Nat) (ah : Nat) (ar : Nat) (ap : Nat) (t : List Nat) (ng : Bool) (me : Nat) (mf : Nat) (mb : Nat) (mm : Nat) (ms : Nat) (mt : Int) (mq : Nat) (mz : Int) (b : Nat) (nw : Bool) (z1 : Int) (z2 : Int) (hb9 : b < 18446744073709551616) (hz1 : -2147483648 ≤ z1 ∧ z1 < 2147483648) (hz2 : -2147483648 ≤ z2 ∧ z2 < 2147483648) (hno : ¬ th4 b nw z1 z2 0 1100 = 0) (C0 : cxA p s m args meth c b_Mo_fixed 9 R_Mo (some .int)) (hA : ∀ q : Nat, s.heap.size ≤ q → A q) (hE : Ev Z A s s.heap) : ∀ (N : Nat)  (H : Heap) (locs : List Loc) (ls : Array Slot), 0 < N → va_K D classes [] s → va_P D classes [(h0, .inr (5, [.int (iZ (th)), .ref au, .ref al, .ref av, .ref ao, .ref ah, .ref ar, .ref ap, .int (iZ ((((t).length : Nat) : Int))), .int (bZ (ng = true)), .int (iZ (((me : Nat) : Int))), .long (lN (mf)), .int (iZ (((mb : Nat) : Int))), .int (iZ (((mm : Nat) : Int))), .long (lN (ms)), .int (iZ (mt)), .long (lN (mq)), .int (iZ (mz))]))] H → va_D A [(h0, .inr (5, [.int (iZ (th)), .ref au, .ref al, .ref av, .ref ao, .ref ah, .ref ar, .ref ap, .int (iZ ((((t).length : Nat) : Int))), .int (bZ (ng = true)), .int (iZ (((me : Nat) : Int))), .long (lN (mf)), .int (iZ (((mb : Nat) : Int))), .int (iZ (((mm : Nat) : Int))), .long (lN (ms)), .int (iZ (mt)), .long (lN (mq)), .int (iZ (mz))]))] → va_S A s.heap H locs → lv_has ls 9 [(0, .ref h0), (1, .long (lN (b))), (3, .int (bZ (nw = true))), (4, .int (iZ (z1))), (5, .int (iZ (z2)))] → W p l e ({ frames := 1, cells := 0, slots := 0, locals := 23 } : Room) s m args below meth c H locs 0 0 (MQ below (Qc_Mo_fixed_w D h0 th au al av ao ah ar ap t ng me mf mb mm ms mt mq mz b nw z1 z2 A) args s 0 0 A) (F0 m 19 ls [.int (bZ (okN b nw = true)), .long (lN (b)), .ref h0]) := by
  obtain ⟨hx, hb, hml, hown, hts, hr, hlocks⟩ := id C0
  intro N
  induction N with
  | zero => intro  H locs ls hN; exact absurd hN (Nat.not_lt_zero _)
  | succ N ih =>
    intro  H locs ls hN  hK hP hD hS hl
    have htr := th4_in b nw z1 z2 0 1100
    have hfe := fE_lt b (okN b nw)
    have hmo := fMo_lt (okN b nw)
    refine kw_v (wr := []) (tr := []) (kr_V (C0 := R_Mo) (ci := 5) (i0 := 0) (As := [.long (lN (b)), .int (bZ (okN b nw = true))]) (rest := []) C0 (c_Mo_open l D Z _ h0 th au al av ao ah ar ap t ng me mf mb mm ms mt mq mz b (okN b nw) (by assumption) (okN_ok)) q_y_Mo_open kw_366_ kw_367_ kw_368_ kw_314_ hd_y_Mo_open rfl rfl ⟨Nat.le_of_ble_eq_true rfl, Nat.le_of_ble_eq_true rfl⟩ (hP.sub (ws' := [(h0, .inr (5, [.int (iZ (th)), .ref au, .ref al, .ref av, .ref ao, .ref ah, .ref ar, .ref ap, .int (iZ ((((t).length : Nat) : Int))), .int (bZ (ng = true)), .int (iZ (((me : Nat) : Int))), .long (lN (mf)), .int (iZ (((mb : Nat) : Int))), .int (iZ (((mm : Nat) : Int))), .long (lN (ms)), .int (iZ (mt)), .long (lN (mq)), .int (iZ (mz))]))]) [0] rfl) (hD.sub (ws' := [(h0, .inr (5, [.int (iZ (th)), .ref au, .ref al, .ref av, .ref ao, .ref ah, .ref ar, .ref ap, .int (iZ ((((t).length : Nat) : Int))), .int (bZ (ng = true)), .int (iZ (((me : Nat) : Int))), .long (lN (mf)), .int (iZ (((mb : Nat) : Int))), .int (iZ (((mm : Nat) : Int))), .long (lN (ms)), .int (iZ (mt)), .long (lN (mq)), .int (iZ (mz))]))]) [0] (by decide) rfl) (hK.sub (tys' := []) [] rfl) hE hS (va_free (wc := [(h0, .inr (5, [.int (iZ (th)), .ref au, .ref al, .ref av, .ref ao, .ref ah, .ref ar, .ref ap, .int (iZ ((((t).length : Nat) : Int))), .int (bZ (ng = true)), .int (iZ (((me : Nat) : Int))), .long (lN (mf)), .int (iZ (((mb : Nat) : Int))), .int (iZ (((mm : Nat) : Int))), .long (lN (ms)), .int (iZ (mt)), .long (lN (mq)), .int (iZ (mz))]))]) hD hS hA [0] rfl) rfl rfl rfl hl.1 rfl (Nat.le_of_ble_eq_true rfl) d_Mo_fixed_19 ⟨Nat.le_of_ble_eq_true rfl, Nat.le_of_ble_eq_true rfl⟩) hP hD hK hS hA [0] [] [] rfl rfl (by decide) (by decide) rfl (fun u H locs hpost hP hD hK hS => ?_)
    have hP : va_P D classes [(h0, .inr (5, [.int (iZ (th)), .ref au, .ref al, .ref av, .ref ao, .ref ah, .ref ar, .ref ap, .int (iZ ((((t).length : Nat) : Int))), .int (bZ (fN b (okN b nw) = true)), .int (iZ (((fE b (okN b nw) : Nat) : Int))), .long (lN (fF b (okN b nw))), .int (iZ (((fP (okN b nw) : Nat) : Int))), .int (iZ (((fMo (okN b nw) : Nat) : Int))), .long (lN (fM b (okN b nw))), .int (iZ (fW b (okN b nw))), .long (lN (mq)), .int (iZ (mz))]))] H := hP
    have hD : va_D A [(h0, .inr (5, [.int (iZ (th)), .ref au, .ref al, .ref av, .ref ao, .ref ah, .ref ar, .ref ap, .int (iZ ((((t).length : Nat) : Int))), .int (bZ (fN b (okN b nw) = true)), .int (iZ (((fE b (okN b nw) : Nat) : Int))), .long (lN (fF b (okN b nw))), .int (iZ (((fP (okN b nw) : Nat) : Int))), .int (iZ (((fMo (okN b nw) : Nat) : Int))), .long (lN (fM b (okN b nw))), .int (iZ (fW b (okN b nw))), .long (lN (mq)), .int (iZ (mz))]))] := hD
    have hK : va_K D classes [] s := hK
    refine lv_aload_n hx hb d_Mo_fixed_22 rfl (lv_at hl 0 rfl) ?_
    refine lv_lload_n hx hb d_Mo_fixed_23 rfl (lv_at hl 1 rfl) ?_
    refine lv_iload_n hx hb d_Mo_fixed_24 rfl (lv_at hl 2 rfl) ?_
    refine kg_i (kr_S (As := [.long (lN (b)), .int (bZ (nw = true))]) (rest := [.ref h0]) C0 (c_Mo_isWrong l D Z _ b nw (by assumption)) q_y_Mo_isWrong kw_365_ kw_364_ kw_314_ hd_y_Mo_isWrong rfl rfl ⟨Nat.le_of_ble_eq_true rfl, Nat.le_of_ble_eq_true rfl⟩ (hP.sub (ws' := []) [] rfl) (hD.sub (ws' := []) [] (by decide) rfl) (hK.sub (tys' := []) [] rfl) hE hS (va_free (wc := []) hD hS hA [] rfl) rfl hl.1 rfl (Nat.le_of_ble_eq_true rfl) d_Mo_fixed_25 ⟨Nat.le_of_ble_eq_true rfl, Nat.le_of_ble_eq_true rfl⟩) (fun r hr1 => ?_)
    obtain rfl : r = bZ (nw = true ∧ ¬ b < 4294967296) := hr1
    refine bv_if_ne (tgt := 55) hx hb d_Mo_fixed_28 (by decide) (fun c28 => ?_) (fun c28 => ?_)
    · refine lv_iconst (v := iZ (1)) hx hb d_Mo_fixed_55 rfl ?_
      refine zv_top (y := iZ (th4 b nw z1 z2 0 1100)) (congrArg iZ (by unfold th4; rw [if_pos]; first | exact Or.inl (by assumption) | exact Or.inr (by omega))) ?_
      refine lv_goto (tgt := 71) hx hb d_Mo_fixed_56 (by decide) ?_
      exact lp_Mo_fixed_w_71 h0 th au al av ao ah ar ap t ng me mf mb mm ms mt mq mz b nw z1 z2 hb9 hz1 hz2 hno C0 hA hE (0 + 1)  _ _ _ (Nat.lt_succ_self _)  (hK.sub [] rfl) (hP.sub [0] rfl) (hD.sub [0] (by decide) rfl) hS (lv_sub hl [0] rfl)
    · refine lv_iload hx hb d_Mo_fixed_31 (lv_at hl 3 rfl) ?_
      refine zv_if_lt (tgt := 55) hx hb d_Mo_fixed_33 (by decide) (by omega) (fun c33 => ?_) (fun c33 => ?_)
      · refine lv_iconst (v := iZ (1)) hx hb d_Mo_fixed_55 rfl ?_
        refine zv_top (y := iZ (th4 b nw z1 z2 0 1100)) (congrArg iZ (by unfold th4; rw [if_pos]; first | exact Or.inl (by assumption) | exact Or.inr (by omega))) ?_
        refine lv_goto (tgt := 71) hx hb d_Mo_fixed_56 (by decide) ?_
        exact lp_Mo_fixed_w_71 h0 th au al av ao ah ar ap t ng me mf mb mm ms mt mq mz b nw z1 z2 hb9 hz1 hz2 hno C0 hA hE (0 + 1)  _ _ _ (Nat.lt_succ_self _)  (hK.sub [] rfl) (hP.sub [0] rfl) (hD.sub [0] (by decide) rfl) hS (lv_sub hl [0] rfl)
      · refine lv_iload hx hb d_Mo_fixed_36 (lv_at hl 3 rfl) ?_
        refine lv_sipush (v := iZ (1100)) hx hb d_Mo_fixed_38 (by decide) ?_
        refine zv_icmp_gt (tgt := 55) hx hb d_Mo_fixed_41 (by decide) (by omega) (by omega) (fun c41 => ?_) (fun c41 => ?_)
        · refine lv_iconst (v := iZ (1)) hx hb d_Mo_fixed_55 rfl ?_
          refine zv_top (y := iZ (th4 b nw z1 z2 0 1100)) (congrArg iZ (by unfold th4; rw [if_pos]; first | exact Or.inl (by assumption) | exact Or.inr (by omega))) ?_
          refine lv_goto (tgt := 71) hx hb d_Mo_fixed_56 (by decide) ?_
          exact lp_Mo_fixed_w_71 h0 th au al av ao ah ar ap t ng me mf mb mm ms mt mq mz b nw z1 z2 hb9 hz1 hz2 hno C0 hA hE (0 + 1)  _ _ _ (Nat.lt_succ_self _)  (hK.sub [] rfl) (hP.sub [0] rfl) (hD.sub [0] (by decide) rfl) hS (lv_sub hl [0] rfl)
        · refine lv_iload hx hb d_Mo_fixed_44 (lv_at hl 4 rfl) ?_
          refine zv_if_lt (tgt := 55) hx hb d_Mo_fixed_46 (by decide) (by omega) (fun c46 => ?_) (fun c46 => ?_)
          · refine lv_iconst (v := iZ (1)) hx hb d_Mo_fixed_55 rfl ?_
            refine zv_top (y := iZ (th4 b nw z1 z2 0 1100)) (congrArg iZ (by unfold th4; rw [if_pos]; first | exact Or.inl (by assumption) | exact Or.inr (by omega))) ?_
            refine lv_goto (tgt := 71) hx hb d_Mo_fixed_56 (by decide) ?_
            exact lp_Mo_fixed_w_71 h0 th au al av ao ah ar ap t ng me mf mb mm ms mt mq mz b nw z1 z2 hb9 hz1 hz2 hno C0 hA hE (0 + 1)  _ _ _ (Nat.lt_succ_self _)  (hK.sub [] rfl) (hP.sub [0] rfl) (hD.sub [0] (by decide) rfl) hS (lv_sub hl [0] rfl)
          · refine lv_iload hx hb d_Mo_fixed_49 (lv_at hl 4 rfl) ?_
            refine lv_iconst (v := iZ (3)) hx hb d_Mo_fixed_51 rfl ?_
            refine zv_icmp_le (tgt := 59) hx hb d_Mo_fixed_52 (by decide) (by omega) (by omega) (fun c52 => ?_) (fun c52 => ?_)
            · refine lv_aload_n hx hb d_Mo_fixed_59 rfl (lv_at hl 0 rfl) ?_
              refine kg_i (kr_V (C0 := R_Mo) (ci := 5) (i0 := 0) (As := []) (rest := [.ref h0]) C0 (c_Mo_isFinite l D Z _ h0 th au al av ao ah ar ap t (fN b (okN b nw)) (fE b (okN b nw)) (fF b (okN b nw)) (fP (okN b nw)) (fMo (okN b nw)) (fM b (okN b nw)) (fW b (okN b nw)) mq mz (by omega) (by omega)) q_y_Mo_isFinite kw_369_ kw_370_ kw_371_ kw_314_ hd_y_Mo_isFinite rfl rfl ⟨Nat.le_of_ble_eq_true rfl, Nat.le_of_ble_eq_true rfl⟩ (hP.sub (ws' := [(h0, .inr (5, [.int (iZ (th)), .ref au, .ref al, .ref av, .ref ao, .ref ah, .ref ar, .ref ap, .int (iZ ((((t).length : Nat) : Int))), .int (bZ ((fN b (okN b nw)) = true)), .int (iZ ((((fE b (okN b nw)) : Nat) : Int))), .long (lN ((fF b (okN b nw)))), .int (iZ ((((fP (okN b nw)) : Nat) : Int))), .int (iZ ((((fMo (okN b nw)) : Nat) : Int))), .long (lN ((fM b (okN b nw)))), .int (iZ ((fW b (okN b nw)))), .long (lN (mq)), .int (iZ (mz))]))]) [0] rfl) (hD.sub (ws' := [(h0, .inr (5, [.int (iZ (th)), .ref au, .ref al, .ref av, .ref ao, .ref ah, .ref ar, .ref ap, .int (iZ ((((t).length : Nat) : Int))), .int (bZ ((fN b (okN b nw)) = true)), .int (iZ ((((fE b (okN b nw)) : Nat) : Int))), .long (lN ((fF b (okN b nw)))), .int (iZ ((((fP (okN b nw)) : Nat) : Int))), .int (iZ ((((fMo (okN b nw)) : Nat) : Int))), .long (lN ((fM b (okN b nw)))), .int (iZ ((fW b (okN b nw)))), .long (lN (mq)), .int (iZ (mz))]))]) [0] (by decide) rfl) (hK.sub (tys' := []) [] rfl) hE hS (va_free (wc := [(h0, .inr (5, [.int (iZ (th)), .ref au, .ref al, .ref av, .ref ao, .ref ah, .ref ar, .ref ap, .int (iZ ((((t).length : Nat) : Int))), .int (bZ ((fN b (okN b nw)) = true)), .int (iZ ((((fE b (okN b nw)) : Nat) : Int))), .long (lN ((fF b (okN b nw)))), .int (iZ ((((fP (okN b nw)) : Nat) : Int))), .int (iZ ((((fMo (okN b nw)) : Nat) : Int))), .long (lN ((fM b (okN b nw)))), .int (iZ ((fW b (okN b nw)))), .long (lN (mq)), .int (iZ (mz))]))]) hD hS hA [0] rfl) rfl rfl rfl hl.1 rfl (Nat.le_of_ble_eq_true rfl) d_Mo_fixed_60 ⟨Nat.le_of_ble_eq_true rfl, Nat.le_of_ble_eq_true rfl⟩) (fun r hr1 => ?_)
              obtain rfl : r = bZ ((fE b (okN b nw)) < (fMo (okN b nw))) := hr1
              refine bv_if_ne (tgt := 70) hx hb d_Mo_fixed_63 (by decide) (fun c63 => ?_) (fun c63 => ?_)
              · refine lv_iconst (v := iZ (0)) hx hb d_Mo_fixed_70 rfl ?_
                refine zv_top (y := iZ (th4 b nw z1 z2 0 1100)) (congrArg iZ (th4_0 (by assumption) (by omega) (by assumption)).symm) ?_
                exact lp_Mo_fixed_w_71 h0 th au al av ao ah ar ap t ng me mf mb mm ms mt mq mz b nw z1 z2 hb9 hz1 hz2 hno C0 hA hE (0 + 1)  _ _ _ (Nat.lt_succ_self _)  (hK.sub [] rfl) (hP.sub [0] rfl) (hD.sub [0] (by decide) rfl) hS (lv_sub hl [0] rfl)
              · refine lv_iconst (v := iZ (2)) hx hb d_Mo_fixed_66 rfl ?_
                refine zv_top (y := iZ (th4 b nw z1 z2 0 1100)) (congrArg iZ (th4_2 (by assumption) (by omega) (by assumption)).symm) ?_
                refine lv_goto (tgt := 71) hx hb d_Mo_fixed_67 (by decide) ?_
                exact lp_Mo_fixed_w_71 h0 th au al av ao ah ar ap t ng me mf mb mm ms mt mq mz b nw z1 z2 hb9 hz1 hz2 hno C0 hA hE (0 + 1)  _ _ _ (Nat.lt_succ_self _)  (hK.sub [] rfl) (hP.sub [0] rfl) (hD.sub [0] (by decide) rfl) hS (lv_sub hl [0] rfl)
            · refine lv_iconst (v := iZ (1)) hx hb d_Mo_fixed_55 rfl ?_
              refine zv_top (y := iZ (th4 b nw z1 z2 0 1100)) (congrArg iZ (by unfold th4; rw [if_pos]; first | exact Or.inl (by assumption) | exact Or.inr (by omega))) ?_
              refine lv_goto (tgt := 71) hx hb d_Mo_fixed_56 (by decide) ?_
              exact lp_Mo_fixed_w_71 h0 th au al av ao ah ar ap t ng me mf mb mm ms mt mq mz b nw z1 z2 hb9 hz1 hz2 hno C0 hA hE (0 + 1)  _ _ _ (Nat.lt_succ_self _)  (hK.sub [] rfl) (hP.sub [0] rfl) (hD.sub [0] (by decide) rfl) hS (lv_sub hl [0] rfl)
set_option maxHeartbeats 4000000 in
set_option maxRecDepth 100000 in
theorem c_Mo_fixed_w (l : Launch) (D : va_G) (Z : Nat → Nat) (hz9 : Nat) (h0 : Nat) (th : Int) (au : Nat) (al : Nat) (av : Nat) (ao : Nat) (ah : Nat) (ar : Nat) (ap : Nat) (t : List Nat) (ng : Bool) (me : Nat) (mf : Nat) (mb : Nat) (mm : Nat) (ms : Nat) (mt : Int) (mq : Nat) (mz : Int) (b : Nat) (nw : Bool) (z1 : Int) (z2 : Int) (hb9 : b < 18446744073709551616) (hz1 : -2147483648 ≤ z1 ∧ z1 < 2147483648) (hz2 : -2147483648 ≤ z2 ∧ z2 < 2147483648) (hno : ¬ th4 b nw z1 z2 0 1100 = 0) : Met l y_Mo_fixed (.code y_Mo_fixed b_Mo_fixed 9 (some .int) :: gT) ({ frames := 1, cells := 0, slots := 0, locals := 23 } : Room) (va_Pc [.ref h0, .long (lN (b)), .int (bZ (nw = true)), .int (iZ (z1)), .int (iZ (z2))] (cpre D Z [(h0, .inr (5, [.int (iZ (th)), .ref au, .ref al, .ref av, .ref ao, .ref ah, .ref ar, .ref ap, .int (iZ ((((t).length : Nat) : Int))), .int (bZ (ng = true)), .int (iZ (((me : Nat) : Int))), .long (lN (mf)), .int (iZ (((mb : Nat) : Int))), .int (iZ (((mm : Nat) : Int))), .long (lN (ms)), .int (iZ (mt)), .long (lN (mq)), .int (iZ (mz))]))] [] hz9)) (Qc_Mo_fixed_w D h0 th au al av ao ah ar ap t ng me mf mb mm ms mt mq mz b nw z1 z2 (va_A [(h0, .inr (5, [.int (iZ (th)), .ref au, .ref al, .ref av, .ref ao, .ref ah, .ref ar, .ref ap, .int (iZ ((((t).length : Nat) : Int))), .int (bZ (ng = true)), .int (iZ (((me : Nat) : Int))), .long (lN (mf)), .int (iZ (((mb : Nat) : Int))), .int (iZ (((mm : Nat) : Int))), .long (lN (ms)), .int (iZ (mt)), .long (lN (mq)), .int (iZ (mz))]))] hz9)) 0 0 (va_A [(h0, .inr (5, [.int (iZ (th)), .ref au, .ref al, .ref av, .ref ao, .ref ah, .ref ar, .ref ap, .int (iZ ((((t).length : Nat) : Int))), .int (bZ (ng = true)), .int (iZ (((me : Nat) : Int))), .long (lN (mf)), .int (iZ (((mb : Nat) : Int))), .int (iZ (((mm : Nat) : Int))), .long (lN (ms)), .int (iZ (mt)), .long (lN (mq)), .int (iZ (mz))]))] hz9) := by
  refine met_go (Qf := Qc_Mo_fixed_w D h0 th au al av ao ah ar ap t ng me mf mb mm ms mt mq mz b nw z1 z2) (ff := fun A => A) (by decide) ?_
  intro p e s m below meth c A C0 hin hsz9 hA hE hK hP hD
  obtain ⟨hx, hb, hml, hown, hts, hr, hlocks⟩ := id C0
  have hS : va_S A s.heap s.heap [] := va_S.rf
  have hl := lv_entry [.ref h0, .long (lN (b)), .int (bZ (nw = true)), .int (iZ (z1)), .int (iZ (z2))] (n := 9) (Nat.le_of_ble_eq_true rfl)
  rw [lg_entry_eq]
  generalize (lg_sl [.ref h0, .long (lN (b)), .int (bZ (nw = true)), .int (iZ (z1)), .int (iZ (z2))] ++ List.replicate (9 - (lg_sl [.ref h0, .long (lN (b)), .int (bZ (nw = true)), .int (iZ (z1)), .int (iZ (z2))]).length) Slot.unset).toArray = ls at hl ⊢
  have hl : lv_has ls 9 [(0, .ref h0), (1, .long (lN (b))), (3, .int (bZ (nw = true))), (4, .int (iZ (z1))), (5, .int (iZ (z2)))] := hl
  refine lv_aload_n hx hb d_Mo_fixed_0 rfl (lv_at hl 0 rfl) ?_
  refine lv_lload_n hx hb d_Mo_fixed_1 rfl (lv_at hl 1 rfl) ?_
  refine lv_iload_n hx hb d_Mo_fixed_2 rfl (lv_at hl 2 rfl) ?_
  refine bv_if_eq (tgt := 18) hx hb d_Mo_fixed_3 (by decide) (fun c3 => ?_) (fun c3 => ?_)
  · refine lv_iconst (v := iZ (0)) hx hb d_Mo_fixed_18 rfl ?_
    refine zv_top (y := bZ (okN b nw = true)) ((bZ_f (by unfold okN; rw [Bool.and_eq_true]; intro q; first | exact c3 q.1 | exact c11.2 (of_decide_eq_true q.2))).symm) ?_
    exact lp_Mo_fixed_w_19 h0 th au al av ao ah ar ap t ng me mf mb mm ms mt mq mz b nw z1 z2 hb9 hz1 hz2 hno C0 hA hE (0 + 1)  _ _ _ (Nat.lt_succ_self _)  (hK.sub [] rfl) (hP.sub [0] rfl) (hD.sub [0] (by decide) rfl) hS (lv_sub hl [0, 1, 2, 3, 4] rfl)
  · refine lv_lload_n hx hb d_Mo_fixed_6 rfl (lv_at hl 1 rfl) ?_
    refine lv_iload_n hx hb d_Mo_fixed_7 rfl (lv_at hl 2 rfl) ?_
    refine kg_i (kr_S (As := [.long (lN (b)), .int (bZ (nw = true))]) (rest := [.long (lN (b)), .ref h0]) C0 (c_Mo_isWrong l D Z _ b nw (by assumption)) q_y_Mo_isWrong kw_365_ kw_364_ kw_314_ hd_y_Mo_isWrong rfl rfl ⟨Nat.le_of_ble_eq_true rfl, Nat.le_of_ble_eq_true rfl⟩ (hP.sub (ws' := []) [] rfl) (hD.sub (ws' := []) [] (by decide) rfl) (hK.sub (tys' := []) [] rfl) hE hS (va_free (wc := []) hD hS hA [] rfl) rfl hl.1 rfl (Nat.le_of_ble_eq_true rfl) d_Mo_fixed_8 ⟨Nat.le_of_ble_eq_true rfl, Nat.le_of_ble_eq_true rfl⟩) (fun r hr1 => ?_)
    obtain rfl : r = bZ (nw = true ∧ ¬ b < 4294967296) := hr1
    refine bv_if_ne (tgt := 18) hx hb d_Mo_fixed_11 (by decide) (fun c11 => ?_) (fun c11 => ?_)
    · refine lv_iconst (v := iZ (0)) hx hb d_Mo_fixed_18 rfl ?_
      refine zv_top (y := bZ (okN b nw = true)) ((bZ_f (by unfold okN; rw [Bool.and_eq_true]; intro q; first | exact c3 q.1 | exact c11.2 (of_decide_eq_true q.2))).symm) ?_
      exact lp_Mo_fixed_w_19 h0 th au al av ao ah ar ap t ng me mf mb mm ms mt mq mz b nw z1 z2 hb9 hz1 hz2 hno C0 hA hE (0 + 1)  _ _ _ (Nat.lt_succ_self _)  (hK.sub [] rfl) (hP.sub [0] rfl) (hD.sub [0] (by decide) rfl) hS (lv_sub hl [0, 1, 2, 3, 4] rfl)
    · refine lv_iconst (v := iZ (1)) hx hb d_Mo_fixed_14 rfl ?_
      refine zv_top (y := bZ (okN b nw = true)) ((bZ_t (by unfold okN; rw [c3, decide_eq_true (Classical.not_not.mp (fun q => c11 ⟨c3, q⟩))]; rfl)).symm) ?_
      refine lv_goto (tgt := 19) hx hb d_Mo_fixed_15 (by decide) ?_
      exact lp_Mo_fixed_w_19 h0 th au al av ao ah ar ap t ng me mf mb mm ms mt mq mz b nw z1 z2 hb9 hz1 hz2 hno C0 hA hE (0 + 1)  _ _ _ (Nat.lt_succ_self _)  (hK.sub [] rfl) (hP.sub [0] rfl) (hD.sub [0] (by decide) rfl) hS (lv_sub hl [0, 1, 2, 3, 4] rfl)
abbrev Qc_Mo_scientific_w (D : va_G) (h0 : Nat) (th : Int) (au : Nat) (al : Nat) (av : Nat) (ao : Nat) (ah : Nat) (ar : Nat) (ap : Nat) (t : List Nat) (ng : Bool) (me : Nat) (mf : Nat) (mb : Nat) (mm : Nat) (ms : Nat) (mt : Int) (mq : Nat) (mz : Int) (b : Nat) (nw : Bool) (z1 : Int) (z2 : Int) (A : Nat → Prop) : Array Value → State → Outcome → State → Prop := va_Qi (fun (r : Int32) (u : Unit) => r = iZ (0)) (fun (u : Unit) t9 => cpost D A [(h0, .inr (5, [.int (iZ (th4 b nw z1 z2 1 800)), .ref au, .ref al, .ref av, .ref ao, .ref ah, .ref ar, .ref ap, .int (iZ ((((t).length : Nat) : Int))), .int (bZ (fN b (okN b nw) = true)), .int (iZ (((fE b (okN b nw) : Nat) : Int))), .long (lN (fF b (okN b nw))), .int (iZ (((fP (okN b nw) : Nat) : Int))), .int (iZ (((fMo (okN b nw) : Nat) : Int))), .long (lN (fM b (okN b nw))), .int (iZ (fW b (okN b nw))), .long (lN (mq)), .int (iZ (mz))]))] [] t9) A
set_option maxHeartbeats 4000000 in
set_option maxRecDepth 100000 in
theorem lp_Mo_scientific_w_72 {p : Program} {l : Launch} {e : Env} {s : State} {m : MethodId} {args : Array Value} {below : List Frame} {meth : Method} {c : Code} {A : Nat → Prop} {D : va_G} {Z : Nat → Nat} (h0 : Nat) (th : Int) (au : Nat) (al : Nat) (av : Nat) (ao : Nat) (ah : Nat) (ar : Nat) (ap : Nat) (t : List Nat) (ng : Bool) (me : Nat) (mf : Nat) (mb : Nat) (mm : Nat) (ms : Nat) (mt : Int) (mq : Nat) (mz : Int) (b : Nat) (nw : Bool) (z1 : Int) (z2 : Int) (hb9 : b < 18446744073709551616) (hz1 : -2147483648 ≤ z1 ∧ z1 < 2147483648) (hz2 : -2147483648 ≤ z2 ∧ z2 < 2147483648) (hno : ¬ th4 b nw z1 z2 1 800 = 0) (C0 : cxA p s m args meth c b_Mo_scientific 9 R_Mo (some .int)) (hA : ∀ q : Nat, s.heap.size ≤ q → A q) (hE : Ev Z A s s.heap) : ∀ (N : Nat)  (H : Heap) (locs : List Loc) (ls : Array Slot), 0 < N → va_K D classes [] s → va_P D classes [(h0, .inr (5, [.int (iZ (th)), .ref au, .ref al, .ref av, .ref ao, .ref ah, .ref ar, .ref ap, .int (iZ ((((t).length : Nat) : Int))), .int (bZ (fN b (okN b nw) = true)), .int (iZ (((fE b (okN b nw) : Nat) : Int))), .long (lN (fF b (okN b nw))), .int (iZ (((fP (okN b nw) : Nat) : Int))), .int (iZ (((fMo (okN b nw) : Nat) : Int))), .long (lN (fM b (okN b nw))), .int (iZ (fW b (okN b nw))), .long (lN (mq)), .int (iZ (mz))]))] H → va_D A [(h0, .inr (5, [.int (iZ (th)), .ref au, .ref al, .ref av, .ref ao, .ref ah, .ref ar, .ref ap, .int (iZ ((((t).length : Nat) : Int))), .int (bZ (fN b (okN b nw) = true)), .int (iZ (((fE b (okN b nw) : Nat) : Int))), .long (lN (fF b (okN b nw))), .int (iZ (((fP (okN b nw) : Nat) : Int))), .int (iZ (((fMo (okN b nw) : Nat) : Int))), .long (lN (fM b (okN b nw))), .int (iZ (fW b (okN b nw))), .long (lN (mq)), .int (iZ (mz))]))] → va_S A s.heap H locs → lv_has ls 9 [(0, .ref h0)] → W p l e ({ frames := 1, cells := 0, slots := 0, locals := 23 } : Room) s m args below meth c H locs 0 0 (MQ below (Qc_Mo_scientific_w D h0 th au al av ao ah ar ap t ng me mf mb mm ms mt mq mz b nw z1 z2 A) args s 0 0 A) (F0 m 72 ls [.int (iZ (th4 b nw z1 z2 1 800)), .ref h0]) := by
  obtain ⟨hx, hb, hml, hown, hts, hr, hlocks⟩ := id C0
  intro N
  induction N with
  | zero => intro  H locs ls hN; exact absurd hN (Nat.not_lt_zero _)
  | succ N ih =>
    intro  H locs ls hN  hK hP hD hS hl
    have htr := th4_in b nw z1 z2 1 800
    have hfe := fE_lt b (okN b nw)
    have hmo := fMo_lt (okN b nw)
    refine va_put (D := D) (ci := 5) (v := .int (iZ (th4 b nw z1 z2 1 800))) (ty := .int) (C := R_Mo) (T := F_Mo) (N := 18) hx hb hts i_Mo t_Mo t_Mo_ok n_Mo hown hK hP hD hS 0 rfl rfl 0 (by decide) (hts _ kw_304_) (fun _ h9 => h9) rfl (by decide +kernel) rfl rfl (Nat.le_of_ble_eq_true rfl) d_Mo_scientific_72 (fun H locs hP hD hS => ?_)
    have hP : va_P D classes [(h0, .inr (5, [.int (iZ (th4 b nw z1 z2 1 800)), .ref au, .ref al, .ref av, .ref ao, .ref ah, .ref ar, .ref ap, .int (iZ ((((t).length : Nat) : Int))), .int (bZ (fN b (okN b nw) = true)), .int (iZ (((fE b (okN b nw) : Nat) : Int))), .long (lN (fF b (okN b nw))), .int (iZ (((fP (okN b nw) : Nat) : Int))), .int (iZ (((fMo (okN b nw) : Nat) : Int))), .long (lN (fM b (okN b nw))), .int (iZ (fW b (okN b nw))), .long (lN (mq)), .int (iZ (mz))]))] H := hP
    have hD : va_D A [(h0, .inr (5, [.int (iZ (th4 b nw z1 z2 1 800)), .ref au, .ref al, .ref av, .ref ao, .ref ah, .ref ar, .ref ap, .int (iZ ((((t).length : Nat) : Int))), .int (bZ (fN b (okN b nw) = true)), .int (iZ (((fE b (okN b nw) : Nat) : Int))), .long (lN (fF b (okN b nw))), .int (iZ (((fP (okN b nw) : Nat) : Int))), .int (iZ (((fMo (okN b nw) : Nat) : Int))), .long (lN (fM b (okN b nw))), .int (iZ (fW b (okN b nw))), .long (lN (mq)), .int (iZ (mz))]))] := hD
    refine lv_aload_n hx hb d_Mo_scientific_75 rfl (lv_at hl 0 rfl) ?_
    refine va_get (D := D) (ci := 5) (v := .int (iZ (th4 b nw z1 z2 1 800))) (C := R_Mo) (T := F_Mo) (N := 18) hx hb hts i_Mo hown hK hP 0 rfl rfl 0 (by decide) (hts _ kw_304_) (fun _ h9 => h9) rfl d_Mo_scientific_76 ?_
    refine zv_if_le (tgt := 84) hx hb d_Mo_scientific_79 (by decide) (by omega) (fun c79 => absurd c79 (by omega)) (fun c79 => ?_)
    refine lv_iconst (v := iZ (0)) hx hb d_Mo_scientific_82 rfl ?_
    exact ew_i () hx hb hr hlocks d_Mo_scientific_83 (show iZ (0) = iZ (0) from rfl) (hP.sub (ws' := [(h0, .inr (5, [.int (iZ (th4 b nw z1 z2 1 800)), .ref au, .ref al, .ref av, .ref ao, .ref ah, .ref ar, .ref ap, .int (iZ ((((t).length : Nat) : Int))), .int (bZ (fN b (okN b nw) = true)), .int (iZ (((fE b (okN b nw) : Nat) : Int))), .long (lN (fF b (okN b nw))), .int (iZ (((fP (okN b nw) : Nat) : Int))), .int (iZ (((fMo (okN b nw) : Nat) : Int))), .long (lN (fM b (okN b nw))), .int (iZ (fW b (okN b nw))), .long (lN (mq)), .int (iZ (mz))]))]) [0] rfl) (hD.sub (ws' := [(h0, .inr (5, [.int (iZ (th4 b nw z1 z2 1 800)), .ref au, .ref al, .ref av, .ref ao, .ref ah, .ref ar, .ref ap, .int (iZ ((((t).length : Nat) : Int))), .int (bZ (fN b (okN b nw) = true)), .int (iZ (((fE b (okN b nw) : Nat) : Int))), .long (lN (fF b (okN b nw))), .int (iZ (((fP (okN b nw) : Nat) : Int))), .int (iZ (((fMo (okN b nw) : Nat) : Int))), .long (lN (fM b (okN b nw))), .int (iZ (fW b (okN b nw))), .long (lN (mq)), .int (iZ (mz))]))]) [0] (by decide) rfl) (hK.sub (tys' := []) [] rfl) hS (Nat.le_of_ble_eq_true rfl) (Nat.le_of_ble_eq_true rfl)
set_option maxHeartbeats 4000000 in
set_option maxRecDepth 100000 in
theorem lp_Mo_scientific_w_19 {p : Program} {l : Launch} {e : Env} {s : State} {m : MethodId} {args : Array Value} {below : List Frame} {meth : Method} {c : Code} {A : Nat → Prop} {D : va_G} {Z : Nat → Nat} (h0 : Nat) (th : Int) (au : Nat) (al : Nat) (av : Nat) (ao : Nat) (ah : Nat) (ar : Nat) (ap : Nat) (t : List Nat) (ng : Bool) (me : Nat) (mf : Nat) (mb : Nat) (mm : Nat) (ms : Nat) (mt : Int) (mq : Nat) (mz : Int) (b : Nat) (nw : Bool) (z1 : Int) (z2 : Int) (hb9 : b < 18446744073709551616) (hz1 : -2147483648 ≤ z1 ∧ z1 < 2147483648) (hz2 : -2147483648 ≤ z2 ∧ z2 < 2147483648) (hno : ¬ th4 b nw z1 z2 1 800 = 0) (C0 : cxA p s m args meth c b_Mo_scientific 9 R_Mo (some .int)) (hA : ∀ q : Nat, s.heap.size ≤ q → A q) (hE : Ev Z A s s.heap) : ∀ (N : Nat)  (H : Heap) (locs : List Loc) (ls : Array Slot), 0 < N → va_K D classes [] s → va_P D classes [(h0, .inr (5, [.int (iZ (th)), .ref au, .ref al, .ref av, .ref ao, .ref ah, .ref ar, .ref ap, .int (iZ ((((t).length : Nat) : Int))), .int (bZ (ng = true)), .int (iZ (((me : Nat) : Int))), .long (lN (mf)), .int (iZ (((mb : Nat) : Int))), .int (iZ (((mm : Nat) : Int))), .long (lN (ms)), .int (iZ (mt)), .long (lN (mq)), .int (iZ (mz))]))] H → va_D A [(h0, .inr (5, [.int (iZ (th)), .ref au, .ref al, .ref av, .ref ao, .ref ah, .ref ar, .ref ap, .int (iZ ((((t).length : Nat) : Int))), .int (bZ (ng = true)), .int (iZ (((me : Nat) : Int))), .long (lN (mf)), .int (iZ (((mb : Nat) : Int))), .int (iZ (((mm : Nat) : Int))), .long (lN (ms)), .int (iZ (mt)), .long (lN (mq)), .int (iZ (mz))]))] → va_S A s.heap H locs → lv_has ls 9 [(0, .ref h0), (1, .long (lN (b))), (3, .int (bZ (nw = true))), (4, .int (iZ (z1))), (5, .int (iZ (z2)))] → W p l e ({ frames := 1, cells := 0, slots := 0, locals := 23 } : Room) s m args below meth c H locs 0 0 (MQ below (Qc_Mo_scientific_w D h0 th au al av ao ah ar ap t ng me mf mb mm ms mt mq mz b nw z1 z2 A) args s 0 0 A) (F0 m 19 ls [.int (bZ (okN b nw = true)), .long (lN (b)), .ref h0]) := by
  obtain ⟨hx, hb, hml, hown, hts, hr, hlocks⟩ := id C0
  intro N
  induction N with
  | zero => intro  H locs ls hN; exact absurd hN (Nat.not_lt_zero _)
  | succ N ih =>
    intro  H locs ls hN  hK hP hD hS hl
    have htr := th4_in b nw z1 z2 1 800
    have hfe := fE_lt b (okN b nw)
    have hmo := fMo_lt (okN b nw)
    refine kw_v (wr := []) (tr := []) (kr_V (C0 := R_Mo) (ci := 5) (i0 := 0) (As := [.long (lN (b)), .int (bZ (okN b nw = true))]) (rest := []) C0 (c_Mo_open l D Z _ h0 th au al av ao ah ar ap t ng me mf mb mm ms mt mq mz b (okN b nw) (by assumption) (okN_ok)) q_y_Mo_open kw_366_ kw_367_ kw_368_ kw_314_ hd_y_Mo_open rfl rfl ⟨Nat.le_of_ble_eq_true rfl, Nat.le_of_ble_eq_true rfl⟩ (hP.sub (ws' := [(h0, .inr (5, [.int (iZ (th)), .ref au, .ref al, .ref av, .ref ao, .ref ah, .ref ar, .ref ap, .int (iZ ((((t).length : Nat) : Int))), .int (bZ (ng = true)), .int (iZ (((me : Nat) : Int))), .long (lN (mf)), .int (iZ (((mb : Nat) : Int))), .int (iZ (((mm : Nat) : Int))), .long (lN (ms)), .int (iZ (mt)), .long (lN (mq)), .int (iZ (mz))]))]) [0] rfl) (hD.sub (ws' := [(h0, .inr (5, [.int (iZ (th)), .ref au, .ref al, .ref av, .ref ao, .ref ah, .ref ar, .ref ap, .int (iZ ((((t).length : Nat) : Int))), .int (bZ (ng = true)), .int (iZ (((me : Nat) : Int))), .long (lN (mf)), .int (iZ (((mb : Nat) : Int))), .int (iZ (((mm : Nat) : Int))), .long (lN (ms)), .int (iZ (mt)), .long (lN (mq)), .int (iZ (mz))]))]) [0] (by decide) rfl) (hK.sub (tys' := []) [] rfl) hE hS (va_free (wc := [(h0, .inr (5, [.int (iZ (th)), .ref au, .ref al, .ref av, .ref ao, .ref ah, .ref ar, .ref ap, .int (iZ ((((t).length : Nat) : Int))), .int (bZ (ng = true)), .int (iZ (((me : Nat) : Int))), .long (lN (mf)), .int (iZ (((mb : Nat) : Int))), .int (iZ (((mm : Nat) : Int))), .long (lN (ms)), .int (iZ (mt)), .long (lN (mq)), .int (iZ (mz))]))]) hD hS hA [0] rfl) rfl rfl rfl hl.1 rfl (Nat.le_of_ble_eq_true rfl) d_Mo_scientific_19 ⟨Nat.le_of_ble_eq_true rfl, Nat.le_of_ble_eq_true rfl⟩) hP hD hK hS hA [0] [] [] rfl rfl (by decide) (by decide) rfl (fun u H locs hpost hP hD hK hS => ?_)
    have hP : va_P D classes [(h0, .inr (5, [.int (iZ (th)), .ref au, .ref al, .ref av, .ref ao, .ref ah, .ref ar, .ref ap, .int (iZ ((((t).length : Nat) : Int))), .int (bZ (fN b (okN b nw) = true)), .int (iZ (((fE b (okN b nw) : Nat) : Int))), .long (lN (fF b (okN b nw))), .int (iZ (((fP (okN b nw) : Nat) : Int))), .int (iZ (((fMo (okN b nw) : Nat) : Int))), .long (lN (fM b (okN b nw))), .int (iZ (fW b (okN b nw))), .long (lN (mq)), .int (iZ (mz))]))] H := hP
    have hD : va_D A [(h0, .inr (5, [.int (iZ (th)), .ref au, .ref al, .ref av, .ref ao, .ref ah, .ref ar, .ref ap, .int (iZ ((((t).length : Nat) : Int))), .int (bZ (fN b (okN b nw) = true)), .int (iZ (((fE b (okN b nw) : Nat) : Int))), .long (lN (fF b (okN b nw))), .int (iZ (((fP (okN b nw) : Nat) : Int))), .int (iZ (((fMo (okN b nw) : Nat) : Int))), .long (lN (fM b (okN b nw))), .int (iZ (fW b (okN b nw))), .long (lN (mq)), .int (iZ (mz))]))] := hD
    have hK : va_K D classes [] s := hK
    refine lv_aload_n hx hb d_Mo_scientific_22 rfl (lv_at hl 0 rfl) ?_
    refine lv_lload_n hx hb d_Mo_scientific_23 rfl (lv_at hl 1 rfl) ?_
    refine lv_iload_n hx hb d_Mo_scientific_24 rfl (lv_at hl 2 rfl) ?_
    refine kg_i (kr_S (As := [.long (lN (b)), .int (bZ (nw = true))]) (rest := [.ref h0]) C0 (c_Mo_isWrong l D Z _ b nw (by assumption)) q_y_Mo_isWrong kw_365_ kw_364_ kw_314_ hd_y_Mo_isWrong rfl rfl ⟨Nat.le_of_ble_eq_true rfl, Nat.le_of_ble_eq_true rfl⟩ (hP.sub (ws' := []) [] rfl) (hD.sub (ws' := []) [] (by decide) rfl) (hK.sub (tys' := []) [] rfl) hE hS (va_free (wc := []) hD hS hA [] rfl) rfl hl.1 rfl (Nat.le_of_ble_eq_true rfl) d_Mo_scientific_25 ⟨Nat.le_of_ble_eq_true rfl, Nat.le_of_ble_eq_true rfl⟩) (fun r hr1 => ?_)
    obtain rfl : r = bZ (nw = true ∧ ¬ b < 4294967296) := hr1
    refine bv_if_ne (tgt := 56) hx hb d_Mo_scientific_28 (by decide) (fun c28 => ?_) (fun c28 => ?_)
    · refine lv_iconst (v := iZ (1)) hx hb d_Mo_scientific_56 rfl ?_
      refine zv_top (y := iZ (th4 b nw z1 z2 1 800)) (congrArg iZ (by unfold th4; rw [if_pos]; first | exact Or.inl (by assumption) | exact Or.inr (by omega))) ?_
      refine lv_goto (tgt := 72) hx hb d_Mo_scientific_57 (by decide) ?_
      exact lp_Mo_scientific_w_72 h0 th au al av ao ah ar ap t ng me mf mb mm ms mt mq mz b nw z1 z2 hb9 hz1 hz2 hno C0 hA hE (0 + 1)  _ _ _ (Nat.lt_succ_self _)  (hK.sub [] rfl) (hP.sub [0] rfl) (hD.sub [0] (by decide) rfl) hS (lv_sub hl [0] rfl)
    · refine lv_iload hx hb d_Mo_scientific_31 (lv_at hl 3 rfl) ?_
      refine lv_iconst (v := iZ (1)) hx hb d_Mo_scientific_33 rfl ?_
      refine zv_icmp_lt (tgt := 56) hx hb d_Mo_scientific_34 (by decide) (by omega) (by omega) (fun c34 => ?_) (fun c34 => ?_)
      · refine lv_iconst (v := iZ (1)) hx hb d_Mo_scientific_56 rfl ?_
        refine zv_top (y := iZ (th4 b nw z1 z2 1 800)) (congrArg iZ (by unfold th4; rw [if_pos]; first | exact Or.inl (by assumption) | exact Or.inr (by omega))) ?_
        refine lv_goto (tgt := 72) hx hb d_Mo_scientific_57 (by decide) ?_
        exact lp_Mo_scientific_w_72 h0 th au al av ao ah ar ap t ng me mf mb mm ms mt mq mz b nw z1 z2 hb9 hz1 hz2 hno C0 hA hE (0 + 1)  _ _ _ (Nat.lt_succ_self _)  (hK.sub [] rfl) (hP.sub [0] rfl) (hD.sub [0] (by decide) rfl) hS (lv_sub hl [0] rfl)
      · refine lv_iload hx hb d_Mo_scientific_37 (lv_at hl 3 rfl) ?_
        refine lv_sipush (v := iZ (800)) hx hb d_Mo_scientific_39 (by decide) ?_
        refine zv_icmp_gt (tgt := 56) hx hb d_Mo_scientific_42 (by decide) (by omega) (by omega) (fun c42 => ?_) (fun c42 => ?_)
        · refine lv_iconst (v := iZ (1)) hx hb d_Mo_scientific_56 rfl ?_
          refine zv_top (y := iZ (th4 b nw z1 z2 1 800)) (congrArg iZ (by unfold th4; rw [if_pos]; first | exact Or.inl (by assumption) | exact Or.inr (by omega))) ?_
          refine lv_goto (tgt := 72) hx hb d_Mo_scientific_57 (by decide) ?_
          exact lp_Mo_scientific_w_72 h0 th au al av ao ah ar ap t ng me mf mb mm ms mt mq mz b nw z1 z2 hb9 hz1 hz2 hno C0 hA hE (0 + 1)  _ _ _ (Nat.lt_succ_self _)  (hK.sub [] rfl) (hP.sub [0] rfl) (hD.sub [0] (by decide) rfl) hS (lv_sub hl [0] rfl)
        · refine lv_iload hx hb d_Mo_scientific_45 (lv_at hl 4 rfl) ?_
          refine zv_if_lt (tgt := 56) hx hb d_Mo_scientific_47 (by decide) (by omega) (fun c47 => ?_) (fun c47 => ?_)
          · refine lv_iconst (v := iZ (1)) hx hb d_Mo_scientific_56 rfl ?_
            refine zv_top (y := iZ (th4 b nw z1 z2 1 800)) (congrArg iZ (by unfold th4; rw [if_pos]; first | exact Or.inl (by assumption) | exact Or.inr (by omega))) ?_
            refine lv_goto (tgt := 72) hx hb d_Mo_scientific_57 (by decide) ?_
            exact lp_Mo_scientific_w_72 h0 th au al av ao ah ar ap t ng me mf mb mm ms mt mq mz b nw z1 z2 hb9 hz1 hz2 hno C0 hA hE (0 + 1)  _ _ _ (Nat.lt_succ_self _)  (hK.sub [] rfl) (hP.sub [0] rfl) (hD.sub [0] (by decide) rfl) hS (lv_sub hl [0] rfl)
          · refine lv_iload hx hb d_Mo_scientific_50 (lv_at hl 4 rfl) ?_
            refine lv_iconst (v := iZ (3)) hx hb d_Mo_scientific_52 rfl ?_
            refine zv_icmp_le (tgt := 60) hx hb d_Mo_scientific_53 (by decide) (by omega) (by omega) (fun c53 => ?_) (fun c53 => ?_)
            · refine lv_aload_n hx hb d_Mo_scientific_60 rfl (lv_at hl 0 rfl) ?_
              refine kg_i (kr_V (C0 := R_Mo) (ci := 5) (i0 := 0) (As := []) (rest := [.ref h0]) C0 (c_Mo_isFinite l D Z _ h0 th au al av ao ah ar ap t (fN b (okN b nw)) (fE b (okN b nw)) (fF b (okN b nw)) (fP (okN b nw)) (fMo (okN b nw)) (fM b (okN b nw)) (fW b (okN b nw)) mq mz (by omega) (by omega)) q_y_Mo_isFinite kw_369_ kw_370_ kw_371_ kw_314_ hd_y_Mo_isFinite rfl rfl ⟨Nat.le_of_ble_eq_true rfl, Nat.le_of_ble_eq_true rfl⟩ (hP.sub (ws' := [(h0, .inr (5, [.int (iZ (th)), .ref au, .ref al, .ref av, .ref ao, .ref ah, .ref ar, .ref ap, .int (iZ ((((t).length : Nat) : Int))), .int (bZ ((fN b (okN b nw)) = true)), .int (iZ ((((fE b (okN b nw)) : Nat) : Int))), .long (lN ((fF b (okN b nw)))), .int (iZ ((((fP (okN b nw)) : Nat) : Int))), .int (iZ ((((fMo (okN b nw)) : Nat) : Int))), .long (lN ((fM b (okN b nw)))), .int (iZ ((fW b (okN b nw)))), .long (lN (mq)), .int (iZ (mz))]))]) [0] rfl) (hD.sub (ws' := [(h0, .inr (5, [.int (iZ (th)), .ref au, .ref al, .ref av, .ref ao, .ref ah, .ref ar, .ref ap, .int (iZ ((((t).length : Nat) : Int))), .int (bZ ((fN b (okN b nw)) = true)), .int (iZ ((((fE b (okN b nw)) : Nat) : Int))), .long (lN ((fF b (okN b nw)))), .int (iZ ((((fP (okN b nw)) : Nat) : Int))), .int (iZ ((((fMo (okN b nw)) : Nat) : Int))), .long (lN ((fM b (okN b nw)))), .int (iZ ((fW b (okN b nw)))), .long (lN (mq)), .int (iZ (mz))]))]) [0] (by decide) rfl) (hK.sub (tys' := []) [] rfl) hE hS (va_free (wc := [(h0, .inr (5, [.int (iZ (th)), .ref au, .ref al, .ref av, .ref ao, .ref ah, .ref ar, .ref ap, .int (iZ ((((t).length : Nat) : Int))), .int (bZ ((fN b (okN b nw)) = true)), .int (iZ ((((fE b (okN b nw)) : Nat) : Int))), .long (lN ((fF b (okN b nw)))), .int (iZ ((((fP (okN b nw)) : Nat) : Int))), .int (iZ ((((fMo (okN b nw)) : Nat) : Int))), .long (lN ((fM b (okN b nw)))), .int (iZ ((fW b (okN b nw)))), .long (lN (mq)), .int (iZ (mz))]))]) hD hS hA [0] rfl) rfl rfl rfl hl.1 rfl (Nat.le_of_ble_eq_true rfl) d_Mo_scientific_61 ⟨Nat.le_of_ble_eq_true rfl, Nat.le_of_ble_eq_true rfl⟩) (fun r hr1 => ?_)
              obtain rfl : r = bZ ((fE b (okN b nw)) < (fMo (okN b nw))) := hr1
              refine bv_if_ne (tgt := 71) hx hb d_Mo_scientific_64 (by decide) (fun c64 => ?_) (fun c64 => ?_)
              · refine lv_iconst (v := iZ (0)) hx hb d_Mo_scientific_71 rfl ?_
                refine zv_top (y := iZ (th4 b nw z1 z2 1 800)) (congrArg iZ (th4_0 (by assumption) (by omega) (by assumption)).symm) ?_
                exact lp_Mo_scientific_w_72 h0 th au al av ao ah ar ap t ng me mf mb mm ms mt mq mz b nw z1 z2 hb9 hz1 hz2 hno C0 hA hE (0 + 1)  _ _ _ (Nat.lt_succ_self _)  (hK.sub [] rfl) (hP.sub [0] rfl) (hD.sub [0] (by decide) rfl) hS (lv_sub hl [0] rfl)
              · refine lv_iconst (v := iZ (2)) hx hb d_Mo_scientific_67 rfl ?_
                refine zv_top (y := iZ (th4 b nw z1 z2 1 800)) (congrArg iZ (th4_2 (by assumption) (by omega) (by assumption)).symm) ?_
                refine lv_goto (tgt := 72) hx hb d_Mo_scientific_68 (by decide) ?_
                exact lp_Mo_scientific_w_72 h0 th au al av ao ah ar ap t ng me mf mb mm ms mt mq mz b nw z1 z2 hb9 hz1 hz2 hno C0 hA hE (0 + 1)  _ _ _ (Nat.lt_succ_self _)  (hK.sub [] rfl) (hP.sub [0] rfl) (hD.sub [0] (by decide) rfl) hS (lv_sub hl [0] rfl)
            · refine lv_iconst (v := iZ (1)) hx hb d_Mo_scientific_56 rfl ?_
              refine zv_top (y := iZ (th4 b nw z1 z2 1 800)) (congrArg iZ (by unfold th4; rw [if_pos]; first | exact Or.inl (by assumption) | exact Or.inr (by omega))) ?_
              refine lv_goto (tgt := 72) hx hb d_Mo_scientific_57 (by decide) ?_
              exact lp_Mo_scientific_w_72 h0 th au al av ao ah ar ap t ng me mf mb mm ms mt mq mz b nw z1 z2 hb9 hz1 hz2 hno C0 hA hE (0 + 1)  _ _ _ (Nat.lt_succ_self _)  (hK.sub [] rfl) (hP.sub [0] rfl) (hD.sub [0] (by decide) rfl) hS (lv_sub hl [0] rfl)
set_option maxHeartbeats 4000000 in
set_option maxRecDepth 100000 in
theorem c_Mo_scientific_w (l : Launch) (D : va_G) (Z : Nat → Nat) (hz9 : Nat) (h0 : Nat) (th : Int) (au : Nat) (al : Nat) (av : Nat) (ao : Nat) (ah : Nat) (ar : Nat) (ap : Nat) (t : List Nat) (ng : Bool) (me : Nat) (mf : Nat) (mb : Nat) (mm : Nat) (ms : Nat) (mt : Int) (mq : Nat) (mz : Int) (b : Nat) (nw : Bool) (z1 : Int) (z2 : Int) (hb9 : b < 18446744073709551616) (hz1 : -2147483648 ≤ z1 ∧ z1 < 2147483648) (hz2 : -2147483648 ≤ z2 ∧ z2 < 2147483648) (hno : ¬ th4 b nw z1 z2 1 800 = 0) : Met l y_Mo_scientific (.code y_Mo_scientific b_Mo_scientific 9 (some .int) :: gT) ({ frames := 1, cells := 0, slots := 0, locals := 23 } : Room) (va_Pc [.ref h0, .long (lN (b)), .int (bZ (nw = true)), .int (iZ (z1)), .int (iZ (z2))] (cpre D Z [(h0, .inr (5, [.int (iZ (th)), .ref au, .ref al, .ref av, .ref ao, .ref ah, .ref ar, .ref ap, .int (iZ ((((t).length : Nat) : Int))), .int (bZ (ng = true)), .int (iZ (((me : Nat) : Int))), .long (lN (mf)), .int (iZ (((mb : Nat) : Int))), .int (iZ (((mm : Nat) : Int))), .long (lN (ms)), .int (iZ (mt)), .long (lN (mq)), .int (iZ (mz))]))] [] hz9)) (Qc_Mo_scientific_w D h0 th au al av ao ah ar ap t ng me mf mb mm ms mt mq mz b nw z1 z2 (va_A [(h0, .inr (5, [.int (iZ (th)), .ref au, .ref al, .ref av, .ref ao, .ref ah, .ref ar, .ref ap, .int (iZ ((((t).length : Nat) : Int))), .int (bZ (ng = true)), .int (iZ (((me : Nat) : Int))), .long (lN (mf)), .int (iZ (((mb : Nat) : Int))), .int (iZ (((mm : Nat) : Int))), .long (lN (ms)), .int (iZ (mt)), .long (lN (mq)), .int (iZ (mz))]))] hz9)) 0 0 (va_A [(h0, .inr (5, [.int (iZ (th)), .ref au, .ref al, .ref av, .ref ao, .ref ah, .ref ar, .ref ap, .int (iZ ((((t).length : Nat) : Int))), .int (bZ (ng = true)), .int (iZ (((me : Nat) : Int))), .long (lN (mf)), .int (iZ (((mb : Nat) : Int))), .int (iZ (((mm : Nat) : Int))), .long (lN (ms)), .int (iZ (mt)), .long (lN (mq)), .int (iZ (mz))]))] hz9) := by
  refine met_go (Qf := Qc_Mo_scientific_w D h0 th au al av ao ah ar ap t ng me mf mb mm ms mt mq mz b nw z1 z2) (ff := fun A => A) (by decide) ?_
  intro p e s m below meth c A C0 hin hsz9 hA hE hK hP hD
  obtain ⟨hx, hb, hml, hown, hts, hr, hlocks⟩ := id C0
  have hS : va_S A s.heap s.heap [] := va_S.rf
  have hl := lv_entry [.ref h0, .long (lN (b)), .int (bZ (nw = true)), .int (iZ (z1)), .int (iZ (z2))] (n := 9) (Nat.le_of_ble_eq_true rfl)
  rw [lg_entry_eq]
  generalize (lg_sl [.ref h0, .long (lN (b)), .int (bZ (nw = true)), .int (iZ (z1)), .int (iZ (z2))] ++ List.replicate (9 - (lg_sl [.ref h0, .long (lN (b)), .int (bZ (nw = true)), .int (iZ (z1)), .int (iZ (z2))]).length) Slot.unset).toArray = ls at hl ⊢
  have hl : lv_has ls 9 [(0, .ref h0), (1, .long (lN (b))), (3, .int (bZ (nw = true))), (4, .int (iZ (z1))), (5, .int (iZ (z2)))] := hl
  refine lv_aload_n hx hb d_Mo_scientific_0 rfl (lv_at hl 0 rfl) ?_
  refine lv_lload_n hx hb d_Mo_scientific_1 rfl (lv_at hl 1 rfl) ?_
  refine lv_iload_n hx hb d_Mo_scientific_2 rfl (lv_at hl 2 rfl) ?_
  refine bv_if_eq (tgt := 18) hx hb d_Mo_scientific_3 (by decide) (fun c3 => ?_) (fun c3 => ?_)
  · refine lv_iconst (v := iZ (0)) hx hb d_Mo_scientific_18 rfl ?_
    refine zv_top (y := bZ (okN b nw = true)) ((bZ_f (by unfold okN; rw [Bool.and_eq_true]; intro q; first | exact c3 q.1 | exact c11.2 (of_decide_eq_true q.2))).symm) ?_
    exact lp_Mo_scientific_w_19 h0 th au al av ao ah ar ap t ng me mf mb mm ms mt mq mz b nw z1 z2 hb9 hz1 hz2 hno C0 hA hE (0 + 1)  _ _ _ (Nat.lt_succ_self _)  (hK.sub [] rfl) (hP.sub [0] rfl) (hD.sub [0] (by decide) rfl) hS (lv_sub hl [0, 1, 2, 3, 4] rfl)
  · refine lv_lload_n hx hb d_Mo_scientific_6 rfl (lv_at hl 1 rfl) ?_
    refine lv_iload_n hx hb d_Mo_scientific_7 rfl (lv_at hl 2 rfl) ?_
    refine kg_i (kr_S (As := [.long (lN (b)), .int (bZ (nw = true))]) (rest := [.long (lN (b)), .ref h0]) C0 (c_Mo_isWrong l D Z _ b nw (by assumption)) q_y_Mo_isWrong kw_365_ kw_364_ kw_314_ hd_y_Mo_isWrong rfl rfl ⟨Nat.le_of_ble_eq_true rfl, Nat.le_of_ble_eq_true rfl⟩ (hP.sub (ws' := []) [] rfl) (hD.sub (ws' := []) [] (by decide) rfl) (hK.sub (tys' := []) [] rfl) hE hS (va_free (wc := []) hD hS hA [] rfl) rfl hl.1 rfl (Nat.le_of_ble_eq_true rfl) d_Mo_scientific_8 ⟨Nat.le_of_ble_eq_true rfl, Nat.le_of_ble_eq_true rfl⟩) (fun r hr1 => ?_)
    obtain rfl : r = bZ (nw = true ∧ ¬ b < 4294967296) := hr1
    refine bv_if_ne (tgt := 18) hx hb d_Mo_scientific_11 (by decide) (fun c11 => ?_) (fun c11 => ?_)
    · refine lv_iconst (v := iZ (0)) hx hb d_Mo_scientific_18 rfl ?_
      refine zv_top (y := bZ (okN b nw = true)) ((bZ_f (by unfold okN; rw [Bool.and_eq_true]; intro q; first | exact c3 q.1 | exact c11.2 (of_decide_eq_true q.2))).symm) ?_
      exact lp_Mo_scientific_w_19 h0 th au al av ao ah ar ap t ng me mf mb mm ms mt mq mz b nw z1 z2 hb9 hz1 hz2 hno C0 hA hE (0 + 1)  _ _ _ (Nat.lt_succ_self _)  (hK.sub [] rfl) (hP.sub [0] rfl) (hD.sub [0] (by decide) rfl) hS (lv_sub hl [0, 1, 2, 3, 4] rfl)
    · refine lv_iconst (v := iZ (1)) hx hb d_Mo_scientific_14 rfl ?_
      refine zv_top (y := bZ (okN b nw = true)) ((bZ_t (by unfold okN; rw [c3, decide_eq_true (Classical.not_not.mp (fun q => c11 ⟨c3, q⟩))]; rfl)).symm) ?_
      refine lv_goto (tgt := 19) hx hb d_Mo_scientific_15 (by decide) ?_
      exact lp_Mo_scientific_w_19 h0 th au al av ao ah ar ap t ng me mf mb mm ms mt mq mz b nw z1 z2 hb9 hz1 hz2 hno C0 hA hE (0 + 1)  _ _ _ (Nat.lt_succ_self _)  (hK.sub [] rfl) (hP.sub [0] rfl) (hD.sub [0] (by decide) rfl) hS (lv_sub hl [0, 1, 2, 3, 4] rfl)

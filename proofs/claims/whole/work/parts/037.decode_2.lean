theorem d_PatternBook_Declet_read_30 : decode b_PatternBook_Declet_read 30 = .ok (.invokestatic 9, 3) := by decide +kernel
theorem d_PatternBook_Declet_read_33 : decode b_PatternBook_Declet_read 33 = .ok (.ireturn, 1) := by decide +kernel
theorem d_PatternBook_Declet_read_34 : decode b_PatternBook_Declet_read 34 = .ok (.iload_n 3, 1) := by decide +kernel
theorem d_PatternBook_Declet_read_35 : decode b_PatternBook_Declet_read 35 = .ok (.iconst 1, 1) := by decide +kernel
theorem d_PatternBook_Declet_read_36 : decode b_PatternBook_Declet_read 36 = .ok (.iand, 1) := by decide +kernel
theorem d_PatternBook_Declet_read_37 : decode b_PatternBook_Declet_read 37 = .ok (.istore 4, 2) := by decide +kernel
theorem d_PatternBook_Declet_read_39 : decode b_PatternBook_Declet_read 39 = .ok (.iload_n 3, 1) := by decide +kernel
theorem d_PatternBook_Declet_read_40 : decode b_PatternBook_Declet_read 40 = .ok (.iconst 1, 1) := by decide +kernel
theorem d_PatternBook_Declet_read_41 : decode b_PatternBook_Declet_read 41 = .ok (.ishr, 1) := by decide +kernel
theorem d_PatternBook_Declet_read_42 : decode b_PatternBook_Declet_read 42 = .ok (.tableswitch 73 0 2 #[26, 37, 55], 26) := by decide +kernel
theorem d_PatternBook_Declet_read_68 : decode b_PatternBook_Declet_read 68 = .ok (.iload_n 1, 1) := by decide +kernel
theorem d_PatternBook_Declet_read_69 : decode b_PatternBook_Declet_read 69 = .ok (.iload_n 2, 1) := by decide +kernel
theorem d_PatternBook_Declet_read_70 : decode b_PatternBook_Declet_read 70 = .ok (.bipush 8, 2) := by decide +kernel
theorem d_PatternBook_Declet_read_72 : decode b_PatternBook_Declet_read 72 = .ok (.iload 4, 2) := by decide +kernel
theorem d_PatternBook_Declet_read_74 : decode b_PatternBook_Declet_read 74 = .ok (.iadd, 1) := by decide +kernel
theorem d_PatternBook_Declet_read_75 : decode b_PatternBook_Declet_read 75 = .ok (.invokestatic 9, 3) := by decide +kernel
theorem d_PatternBook_Declet_read_78 : decode b_PatternBook_Declet_read 78 = .ok (.ireturn, 1) := by decide +kernel
theorem d_PatternBook_Declet_read_79 : decode b_PatternBook_Declet_read 79 = .ok (.iload_n 1, 1) := by decide +kernel
theorem d_PatternBook_Declet_read_80 : decode b_PatternBook_Declet_read 80 = .ok (.bipush 8, 2) := by decide +kernel
theorem d_PatternBook_Declet_read_82 : decode b_PatternBook_Declet_read 82 = .ok (.iload_n 2, 1) := by decide +kernel
theorem d_PatternBook_Declet_read_83 : decode b_PatternBook_Declet_read 83 = .ok (.iconst 1, 1) := by decide +kernel
theorem d_PatternBook_Declet_read_84 : decode b_PatternBook_Declet_read 84 = .ok (.iand, 1) := by decide +kernel
theorem d_PatternBook_Declet_read_85 : decode b_PatternBook_Declet_read 85 = .ok (.iadd, 1) := by decide +kernel
theorem d_PatternBook_Declet_read_86 : decode b_PatternBook_Declet_read 86 = .ok (.iload_n 2, 1) := by decide +kernel
theorem d_PatternBook_Declet_read_87 : decode b_PatternBook_Declet_read 87 = .ok (.bipush 6, 2) := by decide +kernel
theorem d_PatternBook_Declet_read_89 : decode b_PatternBook_Declet_read 89 = .ok (.iand, 1) := by decide +kernel
theorem d_PatternBook_Declet_read_90 : decode b_PatternBook_Declet_read 90 = .ok (.iload 4, 2) := by decide +kernel
theorem d_PatternBook_Declet_read_92 : decode b_PatternBook_Declet_read 92 = .ok (.iadd, 1) := by decide +kernel
theorem d_PatternBook_Declet_read_93 : decode b_PatternBook_Declet_read 93 = .ok (.invokestatic 9, 3) := by decide +kernel
theorem d_PatternBook_Declet_read_96 : decode b_PatternBook_Declet_read 96 = .ok (.ireturn, 1) := by decide +kernel
theorem d_PatternBook_Declet_read_97 : decode b_PatternBook_Declet_read 97 = .ok (.bipush 8, 2) := by decide +kernel
theorem d_PatternBook_Declet_read_99 : decode b_PatternBook_Declet_read 99 = .ok (.iload_n 1, 1) := by decide +kernel
theorem d_PatternBook_Declet_read_100 : decode b_PatternBook_Declet_read 100 = .ok (.iconst 1, 1) := by decide +kernel
theorem d_PatternBook_Declet_read_101 : decode b_PatternBook_Declet_read 101 = .ok (.iand, 1) := by decide +kernel
theorem d_PatternBook_Declet_read_102 : decode b_PatternBook_Declet_read 102 = .ok (.iadd, 1) := by decide +kernel
theorem d_PatternBook_Declet_read_103 : decode b_PatternBook_Declet_read 103 = .ok (.iload_n 2, 1) := by decide +kernel
theorem d_PatternBook_Declet_read_104 : decode b_PatternBook_Declet_read 104 = .ok (.iload_n 1, 1) := by decide +kernel
theorem d_PatternBook_Declet_read_105 : decode b_PatternBook_Declet_read 105 = .ok (.bipush 6, 2) := by decide +kernel
theorem d_PatternBook_Declet_read_107 : decode b_PatternBook_Declet_read 107 = .ok (.iand, 1) := by decide +kernel
theorem d_PatternBook_Declet_read_108 : decode b_PatternBook_Declet_read 108 = .ok (.iload 4, 2) := by decide +kernel
theorem d_PatternBook_Declet_read_110 : decode b_PatternBook_Declet_read 110 = .ok (.iadd, 1) := by decide +kernel
theorem d_PatternBook_Declet_read_111 : decode b_PatternBook_Declet_read 111 = .ok (.invokestatic 9, 3) := by decide +kernel
theorem d_PatternBook_Declet_read_114 : decode b_PatternBook_Declet_read 114 = .ok (.ireturn, 1) := by decide +kernel
theorem d_PatternBook_Declet_read_115 : decode b_PatternBook_Declet_read 115 = .ok (.iload_n 1, 1) := by decide +kernel
theorem d_PatternBook_Declet_read_116 : decode b_PatternBook_Declet_read 116 = .ok (.iload_n 2, 1) := by decide +kernel
theorem d_PatternBook_Declet_read_117 : decode b_PatternBook_Declet_read 117 = .ok (.iload 4, 2) := by decide +kernel
theorem d_PatternBook_Declet_read_119 : decode b_PatternBook_Declet_read 119 = .ok (.invokestatic 13, 3) := by decide +kernel
theorem d_PatternBook_Declet_read_122 : decode b_PatternBook_Declet_read 122 = .ok (.ireturn, 1) := by decide +kernel
theorem d_PatternBook_Declet_write_0 : decode b_PatternBook_Declet_write 0 = .ok (.iload_n 0, 1) := by decide +kernel
theorem d_PatternBook_Declet_write_1 : decode b_PatternBook_Declet_write 1 = .ok (.bipush 100, 2) := by decide +kernel
theorem d_PatternBook_Declet_write_3 : decode b_PatternBook_Declet_write 3 = .ok (.idiv, 1) := by decide +kernel
theorem d_PatternBook_Declet_write_4 : decode b_PatternBook_Declet_write 4 = .ok (.istore_n 1, 1) := by decide +kernel
theorem d_PatternBook_Declet_write_5 : decode b_PatternBook_Declet_write 5 = .ok (.iload_n 0, 1) := by decide +kernel
theorem d_PatternBook_Declet_write_6 : decode b_PatternBook_Declet_write 6 = .ok (.bipush 10, 2) := by decide +kernel
theorem d_PatternBook_Declet_write_8 : decode b_PatternBook_Declet_write 8 = .ok (.idiv, 1) := by decide +kernel
theorem d_PatternBook_Declet_write_9 : decode b_PatternBook_Declet_write 9 = .ok (.bipush 10, 2) := by decide +kernel
theorem d_PatternBook_Declet_write_11 : decode b_PatternBook_Declet_write 11 = .ok (.irem, 1) := by decide +kernel
theorem d_PatternBook_Declet_write_12 : decode b_PatternBook_Declet_write 12 = .ok (.istore_n 2, 1) := by decide +kernel
theorem d_PatternBook_Declet_write_13 : decode b_PatternBook_Declet_write 13 = .ok (.iload_n 0, 1) := by decide +kernel
theorem d_PatternBook_Declet_write_14 : decode b_PatternBook_Declet_write 14 = .ok (.bipush 10, 2) := by decide +kernel
theorem d_PatternBook_Declet_write_16 : decode b_PatternBook_Declet_write 16 = .ok (.irem, 1) := by decide +kernel
theorem d_PatternBook_Declet_write_17 : decode b_PatternBook_Declet_write 17 = .ok (.istore_n 3, 1) := by decide +kernel
theorem d_PatternBook_Declet_write_18 : decode b_PatternBook_Declet_write 18 = .ok (.iload_n 1, 1) := by decide +kernel
theorem d_PatternBook_Declet_write_19 : decode b_PatternBook_Declet_write 19 = .ok (.iconst 1, 1) := by decide +kernel
theorem d_PatternBook_Declet_write_20 : decode b_PatternBook_Declet_write 20 = .ok (.iand, 1) := by decide +kernel
theorem d_PatternBook_Declet_write_21 : decode b_PatternBook_Declet_write 21 = .ok (.istore 4, 2) := by decide +kernel
theorem d_PatternBook_Declet_write_23 : decode b_PatternBook_Declet_write 23 = .ok (.iload_n 2, 1) := by decide +kernel
theorem d_PatternBook_Declet_write_24 : decode b_PatternBook_Declet_write 24 = .ok (.iconst 1, 1) := by decide +kernel
theorem d_PatternBook_Declet_write_25 : decode b_PatternBook_Declet_write 25 = .ok (.iand, 1) := by decide +kernel
theorem d_PatternBook_Declet_write_26 : decode b_PatternBook_Declet_write 26 = .ok (.istore 5, 2) := by decide +kernel
theorem d_PatternBook_Declet_write_28 : decode b_PatternBook_Declet_write 28 = .ok (.iload_n 3, 1) := by decide +kernel
theorem d_PatternBook_Declet_write_29 : decode b_PatternBook_Declet_write 29 = .ok (.iconst 1, 1) := by decide +kernel
theorem d_PatternBook_Declet_write_30 : decode b_PatternBook_Declet_write 30 = .ok (.iand, 1) := by decide +kernel
theorem d_PatternBook_Declet_write_31 : decode b_PatternBook_Declet_write 31 = .ok (.istore 6, 2) := by decide +kernel
theorem d_PatternBook_Declet_write_33 : decode b_PatternBook_Declet_write 33 = .ok (.iload_n 1, 1) := by decide +kernel
theorem d_PatternBook_Declet_write_34 : decode b_PatternBook_Declet_write 34 = .ok (.bipush 8, 2) := by decide +kernel
theorem d_PatternBook_Declet_write_36 : decode b_PatternBook_Declet_write 36 = .ok (.iand, 1) := by decide +kernel
theorem d_PatternBook_Declet_write_37 : decode b_PatternBook_Declet_write 37 = .ok (.iconst 1, 1) := by decide +kernel
theorem d_PatternBook_Declet_write_38 : decode b_PatternBook_Declet_write 38 = .ok (.ishr, 1) := by decide +kernel
theorem d_PatternBook_Declet_write_39 : decode b_PatternBook_Declet_write 39 = .ok (.iload_n 2, 1) := by decide +kernel
theorem d_PatternBook_Declet_write_40 : decode b_PatternBook_Declet_write 40 = .ok (.bipush 8, 2) := by decide +kernel
theorem d_PatternBook_Declet_write_42 : decode b_PatternBook_Declet_write 42 = .ok (.iand, 1) := by decide +kernel
theorem d_PatternBook_Declet_write_43 : decode b_PatternBook_Declet_write 43 = .ok (.iconst 2, 1) := by decide +kernel
theorem d_PatternBook_Declet_write_44 : decode b_PatternBook_Declet_write 44 = .ok (.ishr, 1) := by decide +kernel
theorem d_PatternBook_Declet_write_45 : decode b_PatternBook_Declet_write 45 = .ok (.ior, 1) := by decide +kernel
theorem d_PatternBook_Declet_write_46 : decode b_PatternBook_Declet_write 46 = .ok (.iload_n 3, 1) := by decide +kernel
theorem d_PatternBook_Declet_write_47 : decode b_PatternBook_Declet_write 47 = .ok (.bipush 8, 2) := by decide +kernel
theorem d_PatternBook_Declet_write_49 : decode b_PatternBook_Declet_write 49 = .ok (.iand, 1) := by decide +kernel
theorem d_PatternBook_Declet_write_50 : decode b_PatternBook_Declet_write 50 = .ok (.iconst 3, 1) := by decide +kernel
theorem d_PatternBook_Declet_write_51 : decode b_PatternBook_Declet_write 51 = .ok (.ishr, 1) := by decide +kernel
theorem d_PatternBook_Declet_write_52 : decode b_PatternBook_Declet_write 52 = .ok (.ior, 1) := by decide +kernel
theorem d_PatternBook_Declet_write_53 : decode b_PatternBook_Declet_write 53 = .ok (.tableswitch 147 0 6 #[43, 50, 61, 133, 78, 113, 95], 43) := by decide +kernel
theorem d_PatternBook_Declet_write_96 : decode b_PatternBook_Declet_write 96 = .ok (.iload_n 1, 1) := by decide +kernel
theorem d_PatternBook_Declet_write_97 : decode b_PatternBook_Declet_write 97 = .ok (.iload_n 2, 1) := by decide +kernel
theorem d_PatternBook_Declet_write_98 : decode b_PatternBook_Declet_write 98 = .ok (.iload_n 3, 1) := by decide +kernel
theorem d_PatternBook_Declet_write_99 : decode b_PatternBook_Declet_write 99 = .ok (.invokestatic 16, 3) := by decide +kernel
theorem d_PatternBook_Declet_write_102 : decode b_PatternBook_Declet_write 102 = .ok (.ireturn, 1) := by decide +kernel
theorem d_PatternBook_Declet_write_103 : decode b_PatternBook_Declet_write 103 = .ok (.iload_n 1, 1) := by decide +kernel
theorem d_PatternBook_Declet_write_104 : decode b_PatternBook_Declet_write 104 = .ok (.iload_n 2, 1) := by decide +kernel
theorem d_PatternBook_Declet_write_105 : decode b_PatternBook_Declet_write 105 = .ok (.bipush 8, 2) := by decide +kernel
theorem d_PatternBook_Declet_write_107 : decode b_PatternBook_Declet_write 107 = .ok (.iload 6, 2) := by decide +kernel
theorem d_PatternBook_Declet_write_109 : decode b_PatternBook_Declet_write 109 = .ok (.ior, 1) := by decide +kernel
theorem d_PatternBook_Declet_write_110 : decode b_PatternBook_Declet_write 110 = .ok (.invokestatic 16, 3) := by decide +kernel
theorem d_PatternBook_Declet_write_113 : decode b_PatternBook_Declet_write 113 = .ok (.ireturn, 1) := by decide +kernel
theorem d_PatternBook_Declet_write_114 : decode b_PatternBook_Declet_write 114 = .ok (.iload_n 1, 1) := by decide +kernel
theorem d_PatternBook_Declet_write_115 : decode b_PatternBook_Declet_write 115 = .ok (.iload_n 3, 1) := by decide +kernel
theorem d_PatternBook_Declet_write_116 : decode b_PatternBook_Declet_write 116 = .ok (.bipush 6, 2) := by decide +kernel
theorem d_PatternBook_Declet_write_118 : decode b_PatternBook_Declet_write 118 = .ok (.iand, 1) := by decide +kernel
theorem d_PatternBook_Declet_write_119 : decode b_PatternBook_Declet_write 119 = .ok (.iload 5, 2) := by decide +kernel
theorem d_PatternBook_Declet_write_121 : decode b_PatternBook_Declet_write 121 = .ok (.ior, 1) := by decide +kernel
theorem d_PatternBook_Declet_write_122 : decode b_PatternBook_Declet_write 122 = .ok (.bipush 10, 2) := by decide +kernel
theorem d_PatternBook_Declet_write_124 : decode b_PatternBook_Declet_write 124 = .ok (.iload 6, 2) := by decide +kernel
theorem d_PatternBook_Declet_write_126 : decode b_PatternBook_Declet_write 126 = .ok (.ior, 1) := by decide +kernel
theorem d_PatternBook_Declet_write_127 : decode b_PatternBook_Declet_write 127 = .ok (.invokestatic 16, 3) := by decide +kernel
theorem d_PatternBook_Declet_write_130 : decode b_PatternBook_Declet_write 130 = .ok (.ireturn, 1) := by decide +kernel
theorem d_PatternBook_Declet_write_131 : decode b_PatternBook_Declet_write 131 = .ok (.iload_n 3, 1) := by decide +kernel
theorem d_PatternBook_Declet_write_132 : decode b_PatternBook_Declet_write 132 = .ok (.bipush 6, 2) := by decide +kernel
theorem d_PatternBook_Declet_write_134 : decode b_PatternBook_Declet_write 134 = .ok (.iand, 1) := by decide +kernel
theorem d_PatternBook_Declet_write_135 : decode b_PatternBook_Declet_write 135 = .ok (.iload 4, 2) := by decide +kernel
theorem d_PatternBook_Declet_write_137 : decode b_PatternBook_Declet_write 137 = .ok (.ior, 1) := by decide +kernel
theorem d_PatternBook_Declet_write_138 : decode b_PatternBook_Declet_write 138 = .ok (.iload_n 2, 1) := by decide +kernel
theorem d_PatternBook_Declet_write_139 : decode b_PatternBook_Declet_write 139 = .ok (.bipush 12, 2) := by decide +kernel
theorem d_PatternBook_Declet_write_141 : decode b_PatternBook_Declet_write 141 = .ok (.iload 6, 2) := by decide +kernel
theorem d_PatternBook_Declet_write_143 : decode b_PatternBook_Declet_write 143 = .ok (.ior, 1) := by decide +kernel
theorem d_PatternBook_Declet_write_144 : decode b_PatternBook_Declet_write 144 = .ok (.invokestatic 16, 3) := by decide +kernel
theorem d_PatternBook_Declet_write_147 : decode b_PatternBook_Declet_write 147 = .ok (.ireturn, 1) := by decide +kernel
theorem d_PatternBook_Declet_write_148 : decode b_PatternBook_Declet_write 148 = .ok (.iload_n 3, 1) := by decide +kernel
theorem d_PatternBook_Declet_write_149 : decode b_PatternBook_Declet_write 149 = .ok (.bipush 6, 2) := by decide +kernel
theorem d_PatternBook_Declet_write_151 : decode b_PatternBook_Declet_write 151 = .ok (.iand, 1) := by decide +kernel
theorem d_PatternBook_Declet_write_152 : decode b_PatternBook_Declet_write 152 = .ok (.iload 4, 2) := by decide +kernel
theorem d_PatternBook_Declet_write_154 : decode b_PatternBook_Declet_write 154 = .ok (.ior, 1) := by decide +kernel
theorem d_PatternBook_Declet_write_155 : decode b_PatternBook_Declet_write 155 = .ok (.iload 5, 2) := by decide +kernel
theorem d_PatternBook_Declet_write_157 : decode b_PatternBook_Declet_write 157 = .ok (.bipush 14, 2) := by decide +kernel
theorem d_PatternBook_Declet_write_159 : decode b_PatternBook_Declet_write 159 = .ok (.iload 6, 2) := by decide +kernel
theorem d_PatternBook_Declet_write_161 : decode b_PatternBook_Declet_write 161 = .ok (.ior, 1) := by decide +kernel
theorem d_PatternBook_Declet_write_162 : decode b_PatternBook_Declet_write 162 = .ok (.invokestatic 16, 3) := by decide +kernel
theorem d_PatternBook_Declet_write_165 : decode b_PatternBook_Declet_write 165 = .ok (.ireturn, 1) := by decide +kernel
theorem d_PatternBook_Declet_write_166 : decode b_PatternBook_Declet_write 166 = .ok (.iload_n 2, 1) := by decide +kernel
theorem d_PatternBook_Declet_write_167 : decode b_PatternBook_Declet_write 167 = .ok (.bipush 6, 2) := by decide +kernel
theorem d_PatternBook_Declet_write_169 : decode b_PatternBook_Declet_write 169 = .ok (.iand, 1) := by decide +kernel
theorem d_PatternBook_Declet_write_170 : decode b_PatternBook_Declet_write 170 = .ok (.iload 4, 2) := by decide +kernel
theorem d_PatternBook_Declet_write_172 : decode b_PatternBook_Declet_write 172 = .ok (.ior, 1) := by decide +kernel
theorem d_PatternBook_Declet_write_173 : decode b_PatternBook_Declet_write 173 = .ok (.iconst 2, 1) := by decide +kernel
theorem d_PatternBook_Declet_write_174 : decode b_PatternBook_Declet_write 174 = .ok (.iload 5, 2) := by decide +kernel
theorem d_PatternBook_Declet_write_176 : decode b_PatternBook_Declet_write 176 = .ok (.ior, 1) := by decide +kernel
theorem d_PatternBook_Declet_write_177 : decode b_PatternBook_Declet_write 177 = .ok (.bipush 14, 2) := by decide +kernel
theorem d_PatternBook_Declet_write_179 : decode b_PatternBook_Declet_write 179 = .ok (.iload 6, 2) := by decide +kernel
theorem d_PatternBook_Declet_write_181 : decode b_PatternBook_Declet_write 181 = .ok (.ior, 1) := by decide +kernel
theorem d_PatternBook_Declet_write_182 : decode b_PatternBook_Declet_write 182 = .ok (.invokestatic 16, 3) := by decide +kernel
theorem d_PatternBook_Declet_write_185 : decode b_PatternBook_Declet_write 185 = .ok (.ireturn, 1) := by decide +kernel
theorem d_PatternBook_Declet_write_186 : decode b_PatternBook_Declet_write 186 = .ok (.iload_n 1, 1) := by decide +kernel
theorem d_PatternBook_Declet_write_187 : decode b_PatternBook_Declet_write 187 = .ok (.iconst 4, 1) := by decide +kernel
theorem d_PatternBook_Declet_write_188 : decode b_PatternBook_Declet_write 188 = .ok (.iload 5, 2) := by decide +kernel
theorem d_PatternBook_Declet_write_190 : decode b_PatternBook_Declet_write 190 = .ok (.ior, 1) := by decide +kernel
theorem d_PatternBook_Declet_write_191 : decode b_PatternBook_Declet_write 191 = .ok (.bipush 14, 2) := by decide +kernel
theorem d_PatternBook_Declet_write_193 : decode b_PatternBook_Declet_write 193 = .ok (.iload 6, 2) := by decide +kernel
theorem d_PatternBook_Declet_write_195 : decode b_PatternBook_Declet_write 195 = .ok (.ior, 1) := by decide +kernel
theorem d_PatternBook_Declet_write_196 : decode b_PatternBook_Declet_write 196 = .ok (.invokestatic 16, 3) := by decide +kernel
theorem d_PatternBook_Declet_write_199 : decode b_PatternBook_Declet_write 199 = .ok (.ireturn, 1) := by decide +kernel
theorem d_PatternBook_Declet_write_200 : decode b_PatternBook_Declet_write 200 = .ok (.iload 4, 2) := by decide +kernel
theorem d_PatternBook_Declet_write_202 : decode b_PatternBook_Declet_write 202 = .ok (.bipush 6, 2) := by decide +kernel
theorem d_PatternBook_Declet_write_204 : decode b_PatternBook_Declet_write 204 = .ok (.iload 5, 2) := by decide +kernel
theorem d_PatternBook_Declet_write_206 : decode b_PatternBook_Declet_write 206 = .ok (.ior, 1) := by decide +kernel
theorem d_PatternBook_Declet_write_207 : decode b_PatternBook_Declet_write 207 = .ok (.bipush 14, 2) := by decide +kernel
theorem d_PatternBook_Declet_write_209 : decode b_PatternBook_Declet_write 209 = .ok (.iload 6, 2) := by decide +kernel
theorem d_PatternBook_Declet_write_211 : decode b_PatternBook_Declet_write 211 = .ok (.ior, 1) := by decide +kernel
theorem d_PatternBook_Declet_write_212 : decode b_PatternBook_Declet_write 212 = .ok (.invokestatic 16, 3) := by decide +kernel
theorem d_PatternBook_Declet_write_215 : decode b_PatternBook_Declet_write 215 = .ok (.ireturn, 1) := by decide +kernel
theorem d_PatternBook_Binary_hasNumber_0 : decode b_PatternBook_Binary_hasNumber 0 = .ok (.aload_n 1, 1) := by decide +kernel
theorem d_PatternBook_Binary_hasNumber_1 : decode b_PatternBook_Binary_hasNumber 1 = .ok (.getfield 28, 3) := by decide +kernel
theorem d_PatternBook_Binary_hasNumber_4 : decode b_PatternBook_Binary_hasNumber 4 = .ok (.aload_n 0, 1) := by decide +kernel
theorem d_PatternBook_Binary_hasNumber_5 : decode b_PatternBook_Binary_hasNumber 5 = .ok (.getfield 9, 3) := by decide +kernel
theorem d_PatternBook_Binary_hasNumber_8 : decode b_PatternBook_Binary_hasNumber 8 = .ok (.invokevirtual 34, 3) := by decide +kernel
theorem d_PatternBook_Binary_hasNumber_11 : decode b_PatternBook_Binary_hasNumber 11 = .ok (.ifCond .eq 20, 3) := by decide +kernel
theorem d_PatternBook_Binary_hasNumber_14 : decode b_PatternBook_Binary_hasNumber 14 = .ok (.aload_n 1, 1) := by decide +kernel
theorem d_PatternBook_Binary_hasNumber_15 : decode b_PatternBook_Binary_hasNumber 15 = .ok (.getfield 38, 3) := by decide +kernel
theorem d_PatternBook_Binary_hasNumber_18 : decode b_PatternBook_Binary_hasNumber 18 = .ok (.aload_n 0, 1) := by decide +kernel
theorem d_PatternBook_Binary_hasNumber_19 : decode b_PatternBook_Binary_hasNumber 19 = .ok (.getfield 41, 3) := by decide +kernel
theorem d_PatternBook_Binary_hasNumber_22 : decode b_PatternBook_Binary_hasNumber 22 = .ok (.if_icmp .ne 7, 3) := by decide +kernel
theorem d_PatternBook_Binary_hasNumber_25 : decode b_PatternBook_Binary_hasNumber 25 = .ok (.iconst 1, 1) := by decide +kernel
theorem d_PatternBook_Binary_hasNumber_26 : decode b_PatternBook_Binary_hasNumber 26 = .ok (.goto 4, 3) := by decide +kernel
theorem d_PatternBook_Binary_hasNumber_29 : decode b_PatternBook_Binary_hasNumber 29 = .ok (.iconst 0, 1) := by decide +kernel
theorem d_PatternBook_Binary_hasNumber_30 : decode b_PatternBook_Binary_hasNumber 30 = .ok (.ireturn, 1) := by decide +kernel
theorem d_PatternBook_Binary_hasNumber_31 : decode b_PatternBook_Binary_hasNumber 31 = .ok (.aload_n 1, 1) := by decide +kernel
theorem d_PatternBook_Binary_hasNumber_32 : decode b_PatternBook_Binary_hasNumber 32 = .ok (.getfield 28, 3) := by decide +kernel
theorem d_PatternBook_Binary_hasNumber_35 : decode b_PatternBook_Binary_hasNumber 35 = .ok (.aload_n 0, 1) := by decide +kernel
theorem d_PatternBook_Binary_hasNumber_36 : decode b_PatternBook_Binary_hasNumber 36 = .ok (.getfield 44, 3) := by decide +kernel
theorem d_PatternBook_Binary_hasNumber_39 : decode b_PatternBook_Binary_hasNumber 39 = .ok (.invokevirtual 34, 3) := by decide +kernel
theorem d_PatternBook_Binary_hasNumber_42 : decode b_PatternBook_Binary_hasNumber 42 = .ok (.ireturn, 1) := by decide +kernel
theorem d_PatternBook_Binary_hasNan_0 : decode b_PatternBook_Binary_hasNan 0 = .ok (.aload_n 1, 1) := by decide +kernel
theorem d_PatternBook_Binary_hasNan_1 : decode b_PatternBook_Binary_hasNan 1 = .ok (.getfield 47, 3) := by decide +kernel
theorem d_PatternBook_Binary_hasNan_4 : decode b_PatternBook_Binary_hasNan 4 = .ok (.iconst 3, 1) := by decide +kernel
theorem d_PatternBook_Binary_hasNan_5 : decode b_PatternBook_Binary_hasNan 5 = .ok (.if_icmp .ne 17, 3) := by decide +kernel
theorem d_PatternBook_Binary_hasNan_8 : decode b_PatternBook_Binary_hasNan 8 = .ok (.aload_n 1, 1) := by decide +kernel
theorem d_PatternBook_Binary_hasNan_9 : decode b_PatternBook_Binary_hasNan 9 = .ok (.getfield 28, 3) := by decide +kernel
theorem d_PatternBook_Binary_hasNan_12 : decode b_PatternBook_Binary_hasNan 12 = .ok (.invokevirtual 50, 3) := by decide +kernel
theorem d_PatternBook_Binary_hasNan_15 : decode b_PatternBook_Binary_hasNan 15 = .ok (.ifCond .eq 7, 3) := by decide +kernel
theorem d_PatternBook_Binary_hasNan_18 : decode b_PatternBook_Binary_hasNan 18 = .ok (.iconst 1, 1) := by decide +kernel
theorem d_PatternBook_Binary_hasNan_19 : decode b_PatternBook_Binary_hasNan 19 = .ok (.goto 4, 3) := by decide +kernel
theorem d_PatternBook_Binary_hasNan_22 : decode b_PatternBook_Binary_hasNan 22 = .ok (.iconst 0, 1) := by decide +kernel
theorem d_PatternBook_Binary_hasNan_23 : decode b_PatternBook_Binary_hasNan 23 = .ok (.istore_n 2, 1) := by decide +kernel
theorem d_PatternBook_Binary_hasNan_24 : decode b_PatternBook_Binary_hasNan 24 = .ok (.aload_n 1, 1) := by decide +kernel
theorem d_PatternBook_Binary_hasNan_25 : decode b_PatternBook_Binary_hasNan 25 = .ok (.getfield 28, 3) := by decide +kernel
theorem d_PatternBook_Binary_hasNan_28 : decode b_PatternBook_Binary_hasNan 28 = .ok (.aload_n 0, 1) := by decide +kernel
theorem d_PatternBook_Binary_hasNan_29 : decode b_PatternBook_Binary_hasNan 29 = .ok (.getfield 9, 3) := by decide +kernel
theorem d_PatternBook_Binary_hasNan_32 : decode b_PatternBook_Binary_hasNan 32 = .ok (.iconst 1, 1) := by decide +kernel
theorem d_PatternBook_Binary_hasNan_33 : decode b_PatternBook_Binary_hasNan 33 = .ok (.isub, 1) := by decide +kernel
theorem d_PatternBook_Binary_hasNan_34 : decode b_PatternBook_Binary_hasNan 34 = .ok (.invokevirtual 34, 3) := by decide +kernel
theorem d_PatternBook_Binary_hasNan_37 : decode b_PatternBook_Binary_hasNan 37 = .ok (.ifCond .eq 11, 3) := by decide +kernel
theorem d_PatternBook_Binary_hasNan_40 : decode b_PatternBook_Binary_hasNan 40 = .ok (.iload_n 2, 1) := by decide +kernel
theorem d_PatternBook_Binary_hasNan_41 : decode b_PatternBook_Binary_hasNan 41 = .ok (.ifCond .ne 7, 3) := by decide +kernel
theorem d_PatternBook_Binary_hasNan_44 : decode b_PatternBook_Binary_hasNan 44 = .ok (.iconst 1, 1) := by decide +kernel
theorem d_PatternBook_Binary_hasNan_45 : decode b_PatternBook_Binary_hasNan 45 = .ok (.goto 4, 3) := by decide +kernel
theorem d_PatternBook_Binary_hasNan_48 : decode b_PatternBook_Binary_hasNan 48 = .ok (.iconst 0, 1) := by decide +kernel
theorem d_PatternBook_Binary_hasNan_49 : decode b_PatternBook_Binary_hasNan 49 = .ok (.ireturn, 1) := by decide +kernel
theorem d_PatternBook_Binary_readSpecial_0 : decode b_PatternBook_Binary_readSpecial 0 = .ok (.aload_n 1, 1) := by decide +kernel
theorem d_PatternBook_Binary_readSpecial_1 : decode b_PatternBook_Binary_readSpecial 1 = .ok (.getfield 28, 3) := by decide +kernel
theorem d_PatternBook_Binary_readSpecial_4 : decode b_PatternBook_Binary_readSpecial 4 = .ok (.invokevirtual 50, 3) := by decide +kernel
theorem d_PatternBook_Binary_readSpecial_7 : decode b_PatternBook_Binary_readSpecial 7 = .ok (.ifCond .eq 10, 3) := by decide +kernel
theorem d_PatternBook_Binary_readSpecial_10 : decode b_PatternBook_Binary_readSpecial 10 = .ok (.aload_n 1, 1) := by decide +kernel
theorem d_PatternBook_Binary_readSpecial_11 : decode b_PatternBook_Binary_readSpecial 11 = .ok (.iconst 1, 1) := by decide +kernel
theorem d_PatternBook_Binary_readSpecial_12 : decode b_PatternBook_Binary_readSpecial 12 = .ok (.iconst 0, 1) := by decide +kernel
theorem d_PatternBook_Binary_readSpecial_13 : decode b_PatternBook_Binary_readSpecial 13 = .ok (.invokevirtual 70, 3) := by decide +kernel
theorem d_PatternBook_Binary_readSpecial_16 : decode b_PatternBook_Binary_readSpecial 16 = .ok (.return_, 1) := by decide +kernel
theorem d_PatternBook_Binary_readSpecial_17 : decode b_PatternBook_Binary_readSpecial 17 = .ok (.aload_n 1, 1) := by decide +kernel
theorem d_PatternBook_Binary_readSpecial_18 : decode b_PatternBook_Binary_readSpecial 18 = .ok (.getfield 28, 3) := by decide +kernel
theorem d_PatternBook_Binary_readSpecial_21 : decode b_PatternBook_Binary_readSpecial 21 = .ok (.aload_n 0, 1) := by decide +kernel
theorem d_PatternBook_Binary_readSpecial_22 : decode b_PatternBook_Binary_readSpecial 22 = .ok (.getfield 9, 3) := by decide +kernel
theorem d_PatternBook_Binary_readSpecial_25 : decode b_PatternBook_Binary_readSpecial 25 = .ok (.iconst 1, 1) := by decide +kernel
theorem d_PatternBook_Binary_readSpecial_26 : decode b_PatternBook_Binary_readSpecial 26 = .ok (.isub, 1) := by decide +kernel
theorem d_PatternBook_Binary_readSpecial_27 : decode b_PatternBook_Binary_readSpecial 27 = .ok (.iconst 1, 1) := by decide +kernel
theorem d_PatternBook_Binary_readSpecial_28 : decode b_PatternBook_Binary_readSpecial 28 = .ok (.invokevirtual 54, 3) := by decide +kernel
theorem d_PatternBook_Binary_readSpecial_31 : decode b_PatternBook_Binary_readSpecial 31 = .ok (.lconst 1, 1) := by decide +kernel
theorem d_PatternBook_Binary_readSpecial_32 : decode b_PatternBook_Binary_readSpecial 32 = .ok (.lcmp, 1) := by decide +kernel
theorem d_PatternBook_Binary_readSpecial_33 : decode b_PatternBook_Binary_readSpecial 33 = .ok (.ifCond .ne 7, 3) := by decide +kernel
theorem d_PatternBook_Binary_readSpecial_36 : decode b_PatternBook_Binary_readSpecial 36 = .ok (.iconst 1, 1) := by decide +kernel
theorem d_PatternBook_Binary_readSpecial_37 : decode b_PatternBook_Binary_readSpecial 37 = .ok (.goto 4, 3) := by decide +kernel
theorem d_PatternBook_Binary_readSpecial_40 : decode b_PatternBook_Binary_readSpecial 40 = .ok (.iconst 0, 1) := by decide +kernel
theorem d_PatternBook_Binary_readSpecial_41 : decode b_PatternBook_Binary_readSpecial 41 = .ok (.istore_n 2, 1) := by decide +kernel
theorem d_PatternBook_Binary_readSpecial_42 : decode b_PatternBook_Binary_readSpecial 42 = .ok (.aload_n 1, 1) := by decide +kernel
theorem d_PatternBook_Binary_readSpecial_43 : decode b_PatternBook_Binary_readSpecial 43 = .ok (.getfield 28, 3) := by decide +kernel
theorem d_PatternBook_Binary_readSpecial_46 : decode b_PatternBook_Binary_readSpecial 46 = .ok (.aload_n 0, 1) := by decide +kernel
theorem d_PatternBook_Binary_readSpecial_47 : decode b_PatternBook_Binary_readSpecial 47 = .ok (.getfield 9, 3) := by decide +kernel
theorem d_PatternBook_Binary_readSpecial_50 : decode b_PatternBook_Binary_readSpecial 50 = .ok (.iconst 1, 1) := by decide +kernel
theorem d_PatternBook_Binary_readSpecial_51 : decode b_PatternBook_Binary_readSpecial 51 = .ok (.isub, 1) := by decide +kernel
theorem d_PatternBook_Binary_readSpecial_52 : decode b_PatternBook_Binary_readSpecial 52 = .ok (.invokevirtual 62, 3) := by decide +kernel
theorem d_PatternBook_Binary_readSpecial_55 : decode b_PatternBook_Binary_readSpecial 55 = .ok (.aload_n 1, 1) := by decide +kernel
theorem d_PatternBook_Binary_readSpecial_56 : decode b_PatternBook_Binary_readSpecial 56 = .ok (.iload_n 2, 1) := by decide +kernel
theorem d_PatternBook_Binary_readSpecial_57 : decode b_PatternBook_Binary_readSpecial 57 = .ok (.ifCond .eq 7, 3) := by decide +kernel
theorem d_PatternBook_Binary_readSpecial_60 : decode b_PatternBook_Binary_readSpecial 60 = .ok (.iconst 2, 1) := by decide +kernel
theorem d_PatternBook_Binary_readSpecial_61 : decode b_PatternBook_Binary_readSpecial 61 = .ok (.goto 4, 3) := by decide +kernel
theorem d_PatternBook_Binary_readSpecial_64 : decode b_PatternBook_Binary_readSpecial 64 = .ok (.iconst 3, 1) := by decide +kernel
theorem d_PatternBook_Binary_readSpecial_65 : decode b_PatternBook_Binary_readSpecial 65 = .ok (.iconst 0, 1) := by decide +kernel
theorem d_PatternBook_Binary_readSpecial_66 : decode b_PatternBook_Binary_readSpecial 66 = .ok (.invokevirtual 70, 3) := by decide +kernel
theorem d_PatternBook_Binary_readSpecial_69 : decode b_PatternBook_Binary_readSpecial 69 = .ok (.return_, 1) := by decide +kernel
theorem d_PatternBook_Binary_readUnsigned_0 : decode b_PatternBook_Binary_readUnsigned 0 = .ok (.aload_n 1, 1) := by decide +kernel
theorem d_PatternBook_Binary_readUnsigned_1 : decode b_PatternBook_Binary_readUnsigned 1 = .ok (.aload_n 0, 1) := by decide +kernel
theorem d_PatternBook_Binary_readUnsigned_2 : decode b_PatternBook_Binary_readUnsigned 2 = .ok (.getfield 9, 3) := by decide +kernel
theorem d_PatternBook_Binary_readUnsigned_5 : decode b_PatternBook_Binary_readUnsigned 5 = .ok (.aload_n 0, 1) := by decide +kernel
theorem d_PatternBook_Binary_readUnsigned_6 : decode b_PatternBook_Binary_readUnsigned 6 = .ok (.getfield 15, 3) := by decide +kernel
theorem d_PatternBook_Binary_readUnsigned_9 : decode b_PatternBook_Binary_readUnsigned 9 = .ok (.invokevirtual 54, 3) := by decide +kernel
theorem d_PatternBook_Binary_readUnsigned_12 : decode b_PatternBook_Binary_readUnsigned 12 = .ok (.lstore_n 3, 1) := by decide +kernel
theorem d_PatternBook_Binary_readUnsigned_13 : decode b_PatternBook_Binary_readUnsigned 13 = .ok (.aload_n 2, 1) := by decide +kernel
theorem d_PatternBook_Binary_readUnsigned_14 : decode b_PatternBook_Binary_readUnsigned 14 = .ok (.getfield 28, 3) := by decide +kernel
theorem d_PatternBook_Binary_readUnsigned_17 : decode b_PatternBook_Binary_readUnsigned 17 = .ok (.aload_n 1, 1) := by decide +kernel
theorem d_PatternBook_Binary_readUnsigned_18 : decode b_PatternBook_Binary_readUnsigned 18 = .ok (.invokevirtual 58, 3) := by decide +kernel
theorem d_PatternBook_Binary_readUnsigned_21 : decode b_PatternBook_Binary_readUnsigned 21 = .ok (.aload_n 2, 1) := by decide +kernel
theorem d_PatternBook_Binary_readUnsigned_22 : decode b_PatternBook_Binary_readUnsigned 22 = .ok (.getfield 28, 3) := by decide +kernel
theorem d_PatternBook_Binary_readUnsigned_25 : decode b_PatternBook_Binary_readUnsigned 25 = .ok (.aload_n 0, 1) := by decide +kernel
theorem d_PatternBook_Binary_readUnsigned_26 : decode b_PatternBook_Binary_readUnsigned 26 = .ok (.getfield 9, 3) := by decide +kernel
theorem d_PatternBook_Binary_readUnsigned_29 : decode b_PatternBook_Binary_readUnsigned 29 = .ok (.invokevirtual 62, 3) := by decide +kernel
theorem d_PatternBook_Binary_readUnsigned_32 : decode b_PatternBook_Binary_readUnsigned 32 = .ok (.lload_n 3, 1) := by decide +kernel
theorem d_PatternBook_Binary_readUnsigned_33 : decode b_PatternBook_Binary_readUnsigned 33 = .ok (.aload_n 0, 1) := by decide +kernel
theorem d_PatternBook_Binary_readUnsigned_34 : decode b_PatternBook_Binary_readUnsigned 34 = .ok (.getfield 24, 3) := by decide +kernel
theorem d_PatternBook_Binary_readUnsigned_37 : decode b_PatternBook_Binary_readUnsigned 37 = .ok (.lcmp, 1) := by decide +kernel
theorem d_PatternBook_Binary_readUnsigned_38 : decode b_PatternBook_Binary_readUnsigned 38 = .ok (.ifCond .ne 11, 3) := by decide +kernel
theorem d_PatternBook_Binary_readUnsigned_41 : decode b_PatternBook_Binary_readUnsigned 41 = .ok (.aload_n 0, 1) := by decide +kernel
theorem d_PatternBook_Binary_readUnsigned_42 : decode b_PatternBook_Binary_readUnsigned 42 = .ok (.aload_n 2, 1) := by decide +kernel
theorem d_PatternBook_Binary_readUnsigned_43 : decode b_PatternBook_Binary_readUnsigned 43 = .ok (.invokevirtual 66, 3) := by decide +kernel
theorem d_PatternBook_Binary_readUnsigned_46 : decode b_PatternBook_Binary_readUnsigned 46 = .ok (.goto 47, 3) := by decide +kernel
theorem d_PatternBook_Binary_readUnsigned_49 : decode b_PatternBook_Binary_readUnsigned 49 = .ok (.lload_n 3, 1) := by decide +kernel
theorem d_PatternBook_Binary_readUnsigned_50 : decode b_PatternBook_Binary_readUnsigned 50 = .ok (.lconst 0, 1) := by decide +kernel
theorem d_PatternBook_Binary_readUnsigned_51 : decode b_PatternBook_Binary_readUnsigned 51 = .ok (.lcmp, 1) := by decide +kernel
theorem d_PatternBook_Binary_readUnsigned_52 : decode b_PatternBook_Binary_readUnsigned 52 = .ok (.ifCond .ne 15, 3) := by decide +kernel
theorem d_PatternBook_Binary_readUnsigned_55 : decode b_PatternBook_Binary_readUnsigned 55 = .ok (.aload_n 2, 1) := by decide +kernel
theorem d_PatternBook_Binary_readUnsigned_56 : decode b_PatternBook_Binary_readUnsigned 56 = .ok (.iconst 0, 1) := by decide +kernel
theorem d_PatternBook_Binary_readUnsigned_57 : decode b_PatternBook_Binary_readUnsigned 57 = .ok (.aload_n 0, 1) := by decide +kernel
theorem d_PatternBook_Binary_readUnsigned_58 : decode b_PatternBook_Binary_readUnsigned 58 = .ok (.getfield 41, 3) := by decide +kernel
theorem d_PatternBook_Binary_readUnsigned_61 : decode b_PatternBook_Binary_readUnsigned 61 = .ok (.invokevirtual 70, 3) := by decide +kernel
theorem d_PatternBook_Binary_readUnsigned_64 : decode b_PatternBook_Binary_readUnsigned 64 = .ok (.goto 29, 3) := by decide +kernel
theorem d_PatternBook_Binary_readUnsigned_67 : decode b_PatternBook_Binary_readUnsigned 67 = .ok (.aload_n 2, 1) := by decide +kernel
theorem d_PatternBook_Binary_readUnsigned_68 : decode b_PatternBook_Binary_readUnsigned 68 = .ok (.getfield 28, 3) := by decide +kernel
theorem d_PatternBook_Binary_readUnsigned_71 : decode b_PatternBook_Binary_readUnsigned 71 = .ok (.aload_n 0, 1) := by decide +kernel
theorem d_PatternBook_Binary_readUnsigned_72 : decode b_PatternBook_Binary_readUnsigned 72 = .ok (.getfield 9, 3) := by decide +kernel
theorem d_PatternBook_Binary_readUnsigned_75 : decode b_PatternBook_Binary_readUnsigned 75 = .ok (.lconst 1, 1) := by decide +kernel
theorem d_PatternBook_Binary_readUnsigned_76 : decode b_PatternBook_Binary_readUnsigned 76 = .ok (.invokevirtual 74, 3) := by decide +kernel
theorem d_PatternBook_Binary_readUnsigned_79 : decode b_PatternBook_Binary_readUnsigned 79 = .ok (.aload_n 2, 1) := by decide +kernel
theorem d_PatternBook_Binary_readUnsigned_80 : decode b_PatternBook_Binary_readUnsigned 80 = .ok (.iconst 0, 1) := by decide +kernel
theorem d_PatternBook_Binary_readUnsigned_81 : decode b_PatternBook_Binary_readUnsigned 81 = .ok (.lload_n 3, 1) := by decide +kernel
theorem d_PatternBook_Binary_readUnsigned_82 : decode b_PatternBook_Binary_readUnsigned 82 = .ok (.l2i, 1) := by decide +kernel
theorem d_PatternBook_Binary_readUnsigned_83 : decode b_PatternBook_Binary_readUnsigned 83 = .ok (.iconst 1, 1) := by decide +kernel
theorem d_PatternBook_Binary_readUnsigned_84 : decode b_PatternBook_Binary_readUnsigned 84 = .ok (.isub, 1) := by decide +kernel
theorem d_PatternBook_Binary_readUnsigned_85 : decode b_PatternBook_Binary_readUnsigned 85 = .ok (.aload_n 0, 1) := by decide +kernel
theorem d_PatternBook_Binary_readUnsigned_86 : decode b_PatternBook_Binary_readUnsigned 86 = .ok (.getfield 41, 3) := by decide +kernel
theorem d_PatternBook_Binary_readUnsigned_89 : decode b_PatternBook_Binary_readUnsigned 89 = .ok (.iadd, 1) := by decide +kernel
theorem d_PatternBook_Binary_readUnsigned_90 : decode b_PatternBook_Binary_readUnsigned 90 = .ok (.invokevirtual 70, 3) := by decide +kernel
theorem d_PatternBook_Binary_readUnsigned_93 : decode b_PatternBook_Binary_readUnsigned 93 = .ok (.return_, 1) := by decide +kernel
theorem d_PatternBook_Binary_fieldOf_0 : decode b_PatternBook_Binary_fieldOf 0 = .ok (.aload_n 1, 1) := by decide +kernel
theorem d_PatternBook_Binary_fieldOf_1 : decode b_PatternBook_Binary_fieldOf 1 = .ok (.getfield 47, 3) := by decide +kernel
theorem d_PatternBook_Binary_fieldOf_4 : decode b_PatternBook_Binary_fieldOf 4 = .ok (.ifCond .eq 8, 3) := by decide +kernel
theorem d_PatternBook_Binary_fieldOf_7 : decode b_PatternBook_Binary_fieldOf 7 = .ok (.aload_n 0, 1) := by decide +kernel
theorem d_PatternBook_Binary_fieldOf_8 : decode b_PatternBook_Binary_fieldOf 8 = .ok (.getfield 24, 3) := by decide +kernel
theorem d_PatternBook_Binary_fieldOf_11 : decode b_PatternBook_Binary_fieldOf 11 = .ok (.lreturn, 1) := by decide +kernel
theorem d_PatternBook_Binary_fieldOf_12 : decode b_PatternBook_Binary_fieldOf 12 = .ok (.aload_n 1, 1) := by decide +kernel
theorem d_PatternBook_Binary_fieldOf_13 : decode b_PatternBook_Binary_fieldOf 13 = .ok (.getfield 28, 3) := by decide +kernel
theorem d_PatternBook_Binary_fieldOf_16 : decode b_PatternBook_Binary_fieldOf 16 = .ok (.aload_n 0, 1) := by decide +kernel
theorem d_PatternBook_Binary_fieldOf_17 : decode b_PatternBook_Binary_fieldOf 17 = .ok (.getfield 9, 3) := by decide +kernel
theorem d_PatternBook_Binary_fieldOf_20 : decode b_PatternBook_Binary_fieldOf 20 = .ok (.invokevirtual 34, 3) := by decide +kernel
theorem d_PatternBook_Binary_fieldOf_23 : decode b_PatternBook_Binary_fieldOf 23 = .ok (.ifCond .eq 5, 3) := by decide +kernel
theorem d_PatternBook_Binary_fieldOf_26 : decode b_PatternBook_Binary_fieldOf 26 = .ok (.lconst 0, 1) := by decide +kernel
theorem d_PatternBook_Binary_fieldOf_27 : decode b_PatternBook_Binary_fieldOf 27 = .ok (.lreturn, 1) := by decide +kernel
theorem d_PatternBook_Binary_fieldOf_28 : decode b_PatternBook_Binary_fieldOf 28 = .ok (.aload_n 1, 1) := by decide +kernel
theorem d_PatternBook_Binary_fieldOf_29 : decode b_PatternBook_Binary_fieldOf 29 = .ok (.getfield 38, 3) := by decide +kernel
theorem d_PatternBook_Binary_fieldOf_32 : decode b_PatternBook_Binary_fieldOf 32 = .ok (.aload_n 0, 1) := by decide +kernel
theorem d_PatternBook_Binary_fieldOf_33 : decode b_PatternBook_Binary_fieldOf 33 = .ok (.getfield 41, 3) := by decide +kernel
theorem d_PatternBook_Binary_fieldOf_36 : decode b_PatternBook_Binary_fieldOf 36 = .ok (.isub, 1) := by decide +kernel
theorem d_PatternBook_Binary_fieldOf_37 : decode b_PatternBook_Binary_fieldOf 37 = .ok (.iconst 1, 1) := by decide +kernel
theorem d_PatternBook_Binary_fieldOf_38 : decode b_PatternBook_Binary_fieldOf 38 = .ok (.iadd, 1) := by decide +kernel
theorem d_PatternBook_Binary_fieldOf_39 : decode b_PatternBook_Binary_fieldOf 39 = .ok (.i2l, 1) := by decide +kernel
theorem d_PatternBook_Binary_fieldOf_40 : decode b_PatternBook_Binary_fieldOf 40 = .ok (.lreturn, 1) := by decide +kernel
theorem d_PatternBook_Binary_writeUnsigned_0 : decode b_PatternBook_Binary_writeUnsigned 0 = .ok (.aload_n 2, 1) := by decide +kernel
theorem d_PatternBook_Binary_writeUnsigned_1 : decode b_PatternBook_Binary_writeUnsigned 1 = .ok (.aload_n 1, 1) := by decide +kernel
theorem d_PatternBook_Binary_writeUnsigned_2 : decode b_PatternBook_Binary_writeUnsigned 2 = .ok (.getfield 28, 3) := by decide +kernel
theorem d_PatternBook_Binary_writeUnsigned_5 : decode b_PatternBook_Binary_writeUnsigned 5 = .ok (.invokevirtual 58, 3) := by decide +kernel
theorem d_PatternBook_Binary_writeUnsigned_8 : decode b_PatternBook_Binary_writeUnsigned 8 = .ok (.aload_n 2, 1) := by decide +kernel
theorem d_PatternBook_Binary_writeUnsigned_9 : decode b_PatternBook_Binary_writeUnsigned 9 = .ok (.aload_n 0, 1) := by decide +kernel
theorem d_PatternBook_Binary_writeUnsigned_10 : decode b_PatternBook_Binary_writeUnsigned 10 = .ok (.getfield 9, 3) := by decide +kernel
theorem d_PatternBook_Binary_writeUnsigned_13 : decode b_PatternBook_Binary_writeUnsigned 13 = .ok (.invokevirtual 62, 3) := by decide +kernel
theorem d_PatternBook_Binary_writeUnsigned_16 : decode b_PatternBook_Binary_writeUnsigned 16 = .ok (.aload_n 2, 1) := by decide +kernel
theorem d_PatternBook_Binary_writeUnsigned_17 : decode b_PatternBook_Binary_writeUnsigned 17 = .ok (.aload_n 0, 1) := by decide +kernel
theorem d_PatternBook_Binary_writeUnsigned_18 : decode b_PatternBook_Binary_writeUnsigned 18 = .ok (.getfield 9, 3) := by decide +kernel
theorem d_PatternBook_Binary_writeUnsigned_21 : decode b_PatternBook_Binary_writeUnsigned 21 = .ok (.aload_n 0, 1) := by decide +kernel
theorem d_PatternBook_Binary_writeUnsigned_22 : decode b_PatternBook_Binary_writeUnsigned 22 = .ok (.aload_n 1, 1) := by decide +kernel
theorem d_PatternBook_Binary_writeUnsigned_23 : decode b_PatternBook_Binary_writeUnsigned 23 = .ok (.invokevirtual 78, 3) := by decide +kernel
theorem d_PatternBook_Binary_writeUnsigned_26 : decode b_PatternBook_Binary_writeUnsigned 26 = .ok (.invokevirtual 74, 3) := by decide +kernel
theorem d_PatternBook_Binary_writeUnsigned_29 : decode b_PatternBook_Binary_writeUnsigned 29 = .ok (.aload_n 1, 1) := by decide +kernel
theorem d_PatternBook_Binary_writeUnsigned_30 : decode b_PatternBook_Binary_writeUnsigned 30 = .ok (.getfield 47, 3) := by decide +kernel
theorem d_PatternBook_Binary_writeUnsigned_33 : decode b_PatternBook_Binary_writeUnsigned 33 = .ok (.iconst 2, 1) := by decide +kernel
theorem d_PatternBook_Binary_writeUnsigned_34 : decode b_PatternBook_Binary_writeUnsigned 34 = .ok (.if_icmp .ne 14, 3) := by decide +kernel
theorem d_PatternBook_Binary_writeUnsigned_37 : decode b_PatternBook_Binary_writeUnsigned 37 = .ok (.aload_n 2, 1) := by decide +kernel
theorem d_PatternBook_Binary_writeUnsigned_38 : decode b_PatternBook_Binary_writeUnsigned 38 = .ok (.aload_n 0, 1) := by decide +kernel
theorem d_PatternBook_Binary_writeUnsigned_39 : decode b_PatternBook_Binary_writeUnsigned 39 = .ok (.getfield 9, 3) := by decide +kernel
theorem d_PatternBook_Binary_writeUnsigned_42 : decode b_PatternBook_Binary_writeUnsigned 42 = .ok (.iconst 1, 1) := by decide +kernel
theorem d_PatternBook_Binary_writeUnsigned_43 : decode b_PatternBook_Binary_writeUnsigned 43 = .ok (.isub, 1) := by decide +kernel
theorem d_PatternBook_Binary_writeUnsigned_44 : decode b_PatternBook_Binary_writeUnsigned 44 = .ok (.lconst 1, 1) := by decide +kernel
theorem d_PatternBook_Binary_writeUnsigned_45 : decode b_PatternBook_Binary_writeUnsigned 45 = .ok (.invokevirtual 74, 3) := by decide +kernel
theorem d_PatternBook_Binary_writeUnsigned_48 : decode b_PatternBook_Binary_writeUnsigned 48 = .ok (.return_, 1) := by decide +kernel
theorem d_PatternBook_Format_has_0 : decode b_PatternBook_Format_has 0 = .ok (.aload_n 1, 1) := by decide +kernel
theorem d_PatternBook_Format_has_1 : decode b_PatternBook_Format_has 1 = .ok (.getfield 60, 3) := by decide +kernel
theorem d_PatternBook_Format_has_4 : decode b_PatternBook_Format_has 4 = .ok (.lookupswitch 66 #[(0, 28), (1, 64)], 28) := by decide +kernel
theorem d_PatternBook_Format_has_32 : decode b_PatternBook_Format_has 32 = .ok (.aload_n 1, 1) := by decide +kernel
theorem d_PatternBook_Format_has_33 : decode b_PatternBook_Format_has 33 = .ok (.getfield 63, 3) := by decide +kernel
theorem d_PatternBook_Format_has_36 : decode b_PatternBook_Format_has 36 = .ok (.aload_n 0, 1) := by decide +kernel
theorem d_PatternBook_Format_has_37 : decode b_PatternBook_Format_has 37 = .ok (.getfield 18, 3) := by decide +kernel
theorem d_PatternBook_Format_has_40 : decode b_PatternBook_Format_has 40 = .ok (.if_icmp .lt 26, 3) := by decide +kernel
theorem d_PatternBook_Format_has_43 : decode b_PatternBook_Format_has 43 = .ok (.aload_n 1, 1) := by decide +kernel
theorem d_PatternBook_Format_has_44 : decode b_PatternBook_Format_has 44 = .ok (.getfield 63, 3) := by decide +kernel
theorem d_PatternBook_Format_has_47 : decode b_PatternBook_Format_has 47 = .ok (.aload_n 0, 1) := by decide +kernel
theorem d_PatternBook_Format_has_48 : decode b_PatternBook_Format_has 48 = .ok (.getfield 21, 3) := by decide +kernel
theorem d_PatternBook_Format_has_51 : decode b_PatternBook_Format_has 51 = .ok (.if_icmp .gt 15, 3) := by decide +kernel
theorem d_PatternBook_Format_has_54 : decode b_PatternBook_Format_has 54 = .ok (.aload_n 0, 1) := by decide +kernel
theorem d_PatternBook_Format_has_55 : decode b_PatternBook_Format_has 55 = .ok (.aload_n 1, 1) := by decide +kernel
theorem d_PatternBook_Format_has_56 : decode b_PatternBook_Format_has 56 = .ok (.invokevirtual 66, 3) := by decide +kernel
theorem d_PatternBook_Format_has_59 : decode b_PatternBook_Format_has 59 = .ok (.ifCond .eq 7, 3) := by decide +kernel
theorem d_PatternBook_Format_has_62 : decode b_PatternBook_Format_has 62 = .ok (.iconst 1, 1) := by decide +kernel
theorem d_PatternBook_Format_has_63 : decode b_PatternBook_Format_has 63 = .ok (.goto 4, 3) := by decide +kernel
theorem d_PatternBook_Format_has_66 : decode b_PatternBook_Format_has 66 = .ok (.iconst 0, 1) := by decide +kernel
theorem d_PatternBook_Format_has_67 : decode b_PatternBook_Format_has 67 = .ok (.ireturn, 1) := by decide +kernel
theorem d_PatternBook_Format_has_68 : decode b_PatternBook_Format_has 68 = .ok (.iconst 1, 1) := by decide +kernel
theorem d_PatternBook_Format_has_69 : decode b_PatternBook_Format_has 69 = .ok (.ireturn, 1) := by decide +kernel
theorem d_PatternBook_Format_has_70 : decode b_PatternBook_Format_has 70 = .ok (.aload_n 0, 1) := by decide +kernel
theorem d_PatternBook_Format_has_71 : decode b_PatternBook_Format_has 71 = .ok (.aload_n 1, 1) := by decide +kernel
theorem d_PatternBook_Format_has_72 : decode b_PatternBook_Format_has 72 = .ok (.invokevirtual 69, 3) := by decide +kernel
theorem d_PatternBook_Format_has_75 : decode b_PatternBook_Format_has 75 = .ok (.ireturn, 1) := by decide +kernel
theorem d_PatternBook_Format_cut_0 : decode b_PatternBook_Format_cut 0 = .ok (.aload 5, 2) := by decide +kernel
theorem d_PatternBook_Format_cut_2 : decode b_PatternBook_Format_cut 2 = .ok (.lload_n 1, 1) := by decide +kernel
theorem d_PatternBook_Format_cut_3 : decode b_PatternBook_Format_cut 3 = .ok (.lload_n 3, 1) := by decide +kernel
theorem d_PatternBook_Format_cut_4 : decode b_PatternBook_Format_cut 4 = .ok (.invokevirtual 24, 3) := by decide +kernel
theorem d_PatternBook_Format_cut_7 : decode b_PatternBook_Format_cut 7 = .ok (.aload 5, 2) := by decide +kernel
theorem d_PatternBook_Format_cut_9 : decode b_PatternBook_Format_cut 9 = .ok (.aload_n 0, 1) := by decide +kernel
theorem d_PatternBook_Format_cut_10 : decode b_PatternBook_Format_cut 10 = .ok (.getfield 9, 3) := by decide +kernel
theorem d_PatternBook_Format_cut_13 : decode b_PatternBook_Format_cut 13 = .ok (.invokevirtual 30, 3) := by decide +kernel
theorem d_PatternBook_Format_cut_16 : decode b_PatternBook_Format_cut 16 = .ok (.return_, 1) := by decide +kernel
theorem d_PatternBook_Format_read_0 : decode b_PatternBook_Format_read 0 = .ok (.aload_n 2, 1) := by decide +kernel
theorem d_PatternBook_Format_read_1 : decode b_PatternBook_Format_read 1 = .ok (.aload_n 1, 1) := by decide +kernel
theorem d_PatternBook_Format_read_2 : decode b_PatternBook_Format_read 2 = .ok (.aload_n 0, 1) := by decide +kernel
theorem d_PatternBook_Format_read_3 : decode b_PatternBook_Format_read 3 = .ok (.getfield 9, 3) := by decide +kernel
theorem d_PatternBook_Format_read_6 : decode b_PatternBook_Format_read 6 = .ok (.iconst 1, 1) := by decide +kernel
theorem d_PatternBook_Format_read_7 : decode b_PatternBook_Format_read 7 = .ok (.isub, 1) := by decide +kernel
theorem d_PatternBook_Format_read_8 : decode b_PatternBook_Format_read 8 = .ok (.iconst 1, 1) := by decide +kernel
theorem d_PatternBook_Format_read_9 : decode b_PatternBook_Format_read 9 = .ok (.invokevirtual 34, 3) := by decide +kernel
theorem d_PatternBook_Format_read_12 : decode b_PatternBook_Format_read 12 = .ok (.lconst 1, 1) := by decide +kernel
theorem d_PatternBook_Format_read_13 : decode b_PatternBook_Format_read 13 = .ok (.lcmp, 1) := by decide +kernel
theorem d_PatternBook_Format_read_14 : decode b_PatternBook_Format_read 14 = .ok (.ifCond .ne 7, 3) := by decide +kernel
theorem d_PatternBook_Format_read_17 : decode b_PatternBook_Format_read 17 = .ok (.iconst 1, 1) := by decide +kernel
theorem d_PatternBook_Format_read_18 : decode b_PatternBook_Format_read 18 = .ok (.goto 4, 3) := by decide +kernel
theorem d_PatternBook_Format_read_21 : decode b_PatternBook_Format_read 21 = .ok (.iconst 0, 1) := by decide +kernel
theorem d_PatternBook_Format_read_22 : decode b_PatternBook_Format_read 22 = .ok (.putfield 38, 3) := by decide +kernel
theorem d_PatternBook_Format_read_25 : decode b_PatternBook_Format_read 25 = .ok (.aload_n 0, 1) := by decide +kernel
theorem d_PatternBook_Format_read_26 : decode b_PatternBook_Format_read 26 = .ok (.aload_n 1, 1) := by decide +kernel
theorem d_PatternBook_Format_read_27 : decode b_PatternBook_Format_read 27 = .ok (.aload_n 2, 1) := by decide +kernel
theorem d_PatternBook_Format_read_28 : decode b_PatternBook_Format_read 28 = .ok (.invokevirtual 44, 3) := by decide +kernel
theorem d_PatternBook_Format_read_31 : decode b_PatternBook_Format_read 31 = .ok (.return_, 1) := by decide +kernel
theorem d_PatternBook_Format_write_0 : decode b_PatternBook_Format_write 0 = .ok (.aload_n 0, 1) := by decide +kernel
theorem d_PatternBook_Format_write_1 : decode b_PatternBook_Format_write 1 = .ok (.aload_n 1, 1) := by decide +kernel
theorem d_PatternBook_Format_write_2 : decode b_PatternBook_Format_write 2 = .ok (.invokevirtual 48, 3) := by decide +kernel
theorem d_PatternBook_Format_write_5 : decode b_PatternBook_Format_write 5 = .ok (.ifCond .ne 5, 3) := by decide +kernel
theorem d_PatternBook_Format_write_8 : decode b_PatternBook_Format_write 8 = .ok (.iconst 0, 1) := by decide +kernel
theorem d_PatternBook_Format_write_9 : decode b_PatternBook_Format_write 9 = .ok (.ireturn, 1) := by decide +kernel
theorem d_PatternBook_Format_write_10 : decode b_PatternBook_Format_write 10 = .ok (.aload_n 2, 1) := by decide +kernel
theorem d_PatternBook_Format_write_11 : decode b_PatternBook_Format_write 11 = .ok (.lconst 0, 1) := by decide +kernel
theorem d_PatternBook_Format_write_12 : decode b_PatternBook_Format_write 12 = .ok (.lconst 0, 1) := by decide +kernel
theorem d_PatternBook_Format_write_13 : decode b_PatternBook_Format_write 13 = .ok (.invokevirtual 24, 3) := by decide +kernel
theorem d_PatternBook_Format_write_16 : decode b_PatternBook_Format_write 16 = .ok (.aload_n 0, 1) := by decide +kernel
theorem d_PatternBook_Format_write_17 : decode b_PatternBook_Format_write 17 = .ok (.aload_n 1, 1) := by decide +kernel
theorem d_PatternBook_Format_write_18 : decode b_PatternBook_Format_write 18 = .ok (.aload_n 2, 1) := by decide +kernel
theorem d_PatternBook_Format_write_19 : decode b_PatternBook_Format_write 19 = .ok (.invokevirtual 52, 3) := by decide +kernel
theorem d_PatternBook_Format_write_22 : decode b_PatternBook_Format_write 22 = .ok (.aload_n 1, 1) := by decide +kernel
theorem d_PatternBook_Format_write_23 : decode b_PatternBook_Format_write 23 = .ok (.getfield 38, 3) := by decide +kernel
theorem d_PatternBook_Format_write_26 : decode b_PatternBook_Format_write 26 = .ok (.ifCond .eq 14, 3) := by decide +kernel
theorem d_PatternBook_Format_write_29 : decode b_PatternBook_Format_write 29 = .ok (.aload_n 2, 1) := by decide +kernel
theorem d_PatternBook_Format_write_30 : decode b_PatternBook_Format_write 30 = .ok (.aload_n 0, 1) := by decide +kernel
theorem d_PatternBook_Format_write_31 : decode b_PatternBook_Format_write 31 = .ok (.getfield 9, 3) := by decide +kernel
theorem d_PatternBook_Format_write_34 : decode b_PatternBook_Format_write 34 = .ok (.iconst 1, 1) := by decide +kernel
theorem d_PatternBook_Format_write_35 : decode b_PatternBook_Format_write 35 = .ok (.isub, 1) := by decide +kernel
theorem d_PatternBook_Format_write_36 : decode b_PatternBook_Format_write 36 = .ok (.lconst 1, 1) := by decide +kernel
theorem d_PatternBook_Format_write_37 : decode b_PatternBook_Format_write 37 = .ok (.invokevirtual 56, 3) := by decide +kernel
theorem d_PatternBook_Format_write_40 : decode b_PatternBook_Format_write 40 = .ok (.iconst 1, 1) := by decide +kernel
theorem d_PatternBook_Format_write_41 : decode b_PatternBook_Format_write 41 = .ok (.ireturn, 1) := by decide +kernel
theorem d_PatternBook_Decimal_beginsWithOnes_0 : decode b_PatternBook_Decimal_beginsWithOnes 0 = .ok (.lload_n 1, 1) := by decide +kernel
theorem d_PatternBook_Decimal_beginsWithOnes_1 : decode b_PatternBook_Decimal_beginsWithOnes 1 = .ok (.aload_n 0, 1) := by decide +kernel
theorem d_PatternBook_Decimal_beginsWithOnes_2 : decode b_PatternBook_Decimal_beginsWithOnes 2 = .ok (.getfield 18, 3) := by decide +kernel
theorem d_PatternBook_Decimal_beginsWithOnes_5 : decode b_PatternBook_Decimal_beginsWithOnes 5 = .ok (.iconst 2, 1) := by decide +kernel
theorem d_PatternBook_Decimal_beginsWithOnes_6 : decode b_PatternBook_Decimal_beginsWithOnes 6 = .ok (.isub, 1) := by decide +kernel
theorem d_PatternBook_Decimal_beginsWithOnes_7 : decode b_PatternBook_Decimal_beginsWithOnes 7 = .ok (.lushr, 1) := by decide +kernel
theorem d_PatternBook_Decimal_beginsWithOnes_8 : decode b_PatternBook_Decimal_beginsWithOnes 8 = .ok (.ldc2_w 100, 3) := by decide +kernel
theorem d_PatternBook_Decimal_beginsWithOnes_11 : decode b_PatternBook_Decimal_beginsWithOnes 11 = .ok (.lcmp, 1) := by decide +kernel
theorem d_PatternBook_Decimal_beginsWithOnes_12 : decode b_PatternBook_Decimal_beginsWithOnes 12 = .ok (.ifCond .ne 7, 3) := by decide +kernel
theorem d_PatternBook_Decimal_beginsWithOnes_15 : decode b_PatternBook_Decimal_beginsWithOnes 15 = .ok (.iconst 1, 1) := by decide +kernel
theorem d_PatternBook_Decimal_beginsWithOnes_16 : decode b_PatternBook_Decimal_beginsWithOnes 16 = .ok (.goto 4, 3) := by decide +kernel
theorem d_PatternBook_Decimal_beginsWithOnes_19 : decode b_PatternBook_Decimal_beginsWithOnes 19 = .ok (.iconst 0, 1) := by decide +kernel
theorem d_PatternBook_Decimal_beginsWithOnes_20 : decode b_PatternBook_Decimal_beginsWithOnes 20 = .ok (.ireturn, 1) := by decide +kernel
theorem d_PatternBook_PlainDecimal_fieldOf_0 : decode b_PatternBook_PlainDecimal_fieldOf 0 = .ok (.aload_n 0, 1) := by decide +kernel
theorem d_PatternBook_PlainDecimal_fieldOf_1 : decode b_PatternBook_PlainDecimal_fieldOf 1 = .ok (.lload_n 1, 1) := by decide +kernel
theorem d_PatternBook_PlainDecimal_fieldOf_2 : decode b_PatternBook_PlainDecimal_fieldOf 2 = .ok (.invokevirtual 7, 3) := by decide +kernel
theorem d_PatternBook_PlainDecimal_fieldOf_5 : decode b_PatternBook_PlainDecimal_fieldOf 5 = .ok (.ifCond .eq 17, 3) := by decide +kernel
theorem d_PatternBook_PlainDecimal_fieldOf_8 : decode b_PatternBook_PlainDecimal_fieldOf 8 = .ok (.lload_n 1, 1) := by decide +kernel
theorem d_PatternBook_PlainDecimal_fieldOf_9 : decode b_PatternBook_PlainDecimal_fieldOf 9 = .ok (.iconst 1, 1) := by decide +kernel
theorem d_PatternBook_PlainDecimal_fieldOf_10 : decode b_PatternBook_PlainDecimal_fieldOf 10 = .ok (.lushr, 1) := by decide +kernel
theorem d_PatternBook_PlainDecimal_fieldOf_11 : decode b_PatternBook_PlainDecimal_fieldOf 11 = .ok (.aload_n 0, 1) := by decide +kernel
theorem d_PatternBook_PlainDecimal_fieldOf_12 : decode b_PatternBook_PlainDecimal_fieldOf 12 = .ok (.getfield 13, 3) := by decide +kernel
theorem d_PatternBook_PlainDecimal_fieldOf_15 : decode b_PatternBook_PlainDecimal_fieldOf 15 = .ok (.iconst 3, 1) := by decide +kernel
theorem d_PatternBook_PlainDecimal_fieldOf_16 : decode b_PatternBook_PlainDecimal_fieldOf 16 = .ok (.isub, 1) := by decide +kernel
theorem d_PatternBook_PlainDecimal_fieldOf_17 : decode b_PatternBook_PlainDecimal_fieldOf 17 = .ok (.invokestatic 17, 3) := by decide +kernel
theorem d_PatternBook_PlainDecimal_fieldOf_20 : decode b_PatternBook_PlainDecimal_fieldOf 20 = .ok (.land, 1) := by decide +kernel
theorem d_PatternBook_PlainDecimal_fieldOf_21 : decode b_PatternBook_PlainDecimal_fieldOf 21 = .ok (.lreturn, 1) := by decide +kernel
theorem d_PatternBook_PlainDecimal_fieldOf_22 : decode b_PatternBook_PlainDecimal_fieldOf 22 = .ok (.lload_n 1, 1) := by decide +kernel
theorem d_PatternBook_PlainDecimal_fieldOf_23 : decode b_PatternBook_PlainDecimal_fieldOf 23 = .ok (.iconst 3, 1) := by decide +kernel
theorem d_PatternBook_PlainDecimal_fieldOf_24 : decode b_PatternBook_PlainDecimal_fieldOf 24 = .ok (.lushr, 1) := by decide +kernel
theorem d_PatternBook_PlainDecimal_fieldOf_25 : decode b_PatternBook_PlainDecimal_fieldOf 25 = .ok (.lreturn, 1) := by decide +kernel
theorem d_PatternBook_PlainDecimal_leadOf_0 : decode b_PatternBook_PlainDecimal_leadOf 0 = .ok (.aload_n 0, 1) := by decide +kernel
theorem d_PatternBook_PlainDecimal_leadOf_1 : decode b_PatternBook_PlainDecimal_leadOf 1 = .ok (.lload_n 1, 1) := by decide +kernel
theorem d_PatternBook_PlainDecimal_leadOf_2 : decode b_PatternBook_PlainDecimal_leadOf 2 = .ok (.invokevirtual 7, 3) := by decide +kernel
theorem d_PatternBook_PlainDecimal_leadOf_5 : decode b_PatternBook_PlainDecimal_leadOf 5 = .ok (.ifCond .eq 11, 3) := by decide +kernel
theorem d_PatternBook_PlainDecimal_leadOf_8 : decode b_PatternBook_PlainDecimal_leadOf 8 = .ok (.bipush 8, 2) := by decide +kernel
theorem d_PatternBook_PlainDecimal_leadOf_10 : decode b_PatternBook_PlainDecimal_leadOf 10 = .ok (.lload_n 1, 1) := by decide +kernel
theorem d_PatternBook_PlainDecimal_leadOf_11 : decode b_PatternBook_PlainDecimal_leadOf 11 = .ok (.lconst 1, 1) := by decide +kernel
theorem d_PatternBook_PlainDecimal_leadOf_12 : decode b_PatternBook_PlainDecimal_leadOf 12 = .ok (.land, 1) := by decide +kernel
theorem d_PatternBook_PlainDecimal_leadOf_13 : decode b_PatternBook_PlainDecimal_leadOf 13 = .ok (.l2i, 1) := by decide +kernel
theorem d_PatternBook_PlainDecimal_leadOf_14 : decode b_PatternBook_PlainDecimal_leadOf 14 = .ok (.iadd, 1) := by decide +kernel
theorem d_PatternBook_PlainDecimal_leadOf_15 : decode b_PatternBook_PlainDecimal_leadOf 15 = .ok (.ireturn, 1) := by decide +kernel
theorem d_PatternBook_PlainDecimal_leadOf_16 : decode b_PatternBook_PlainDecimal_leadOf 16 = .ok (.lload_n 1, 1) := by decide +kernel
theorem d_PatternBook_PlainDecimal_leadOf_17 : decode b_PatternBook_PlainDecimal_leadOf 17 = .ok (.ldc2_w 23, 3) := by decide +kernel
theorem d_PatternBook_PlainDecimal_leadOf_20 : decode b_PatternBook_PlainDecimal_leadOf 20 = .ok (.land, 1) := by decide +kernel
theorem d_PatternBook_PlainDecimal_leadOf_21 : decode b_PatternBook_PlainDecimal_leadOf 21 = .ok (.l2i, 1) := by decide +kernel
theorem d_PatternBook_PlainDecimal_leadOf_22 : decode b_PatternBook_PlainDecimal_leadOf 22 = .ok (.ireturn, 1) := by decide +kernel
theorem d_PatternBook_PlainDecimal_headOf_0 : decode b_PatternBook_PlainDecimal_headOf 0 = .ok (.iload_n 3, 1) := by decide +kernel
theorem d_PatternBook_PlainDecimal_headOf_1 : decode b_PatternBook_PlainDecimal_headOf 1 = .ok (.bipush 8, 2) := by decide +kernel
theorem d_PatternBook_PlainDecimal_headOf_3 : decode b_PatternBook_PlainDecimal_headOf 3 = .ok (.if_icmp .ge 10, 3) := by decide +kernel
theorem d_PatternBook_PlainDecimal_headOf_6 : decode b_PatternBook_PlainDecimal_headOf 6 = .ok (.lload_n 1, 1) := by decide +kernel
theorem d_PatternBook_PlainDecimal_headOf_7 : decode b_PatternBook_PlainDecimal_headOf 7 = .ok (.iconst 3, 1) := by decide +kernel
theorem d_PatternBook_PlainDecimal_headOf_8 : decode b_PatternBook_PlainDecimal_headOf 8 = .ok (.lshl, 1) := by decide +kernel
theorem d_PatternBook_PlainDecimal_headOf_9 : decode b_PatternBook_PlainDecimal_headOf 9 = .ok (.iload_n 3, 1) := by decide +kernel
theorem d_PatternBook_PlainDecimal_headOf_10 : decode b_PatternBook_PlainDecimal_headOf 10 = .ok (.i2l, 1) := by decide +kernel
theorem d_PatternBook_PlainDecimal_headOf_11 : decode b_PatternBook_PlainDecimal_headOf 11 = .ok (.lor, 1) := by decide +kernel
theorem d_PatternBook_PlainDecimal_headOf_12 : decode b_PatternBook_PlainDecimal_headOf 12 = .ok (.lreturn, 1) := by decide +kernel
theorem d_PatternBook_PlainDecimal_headOf_13 : decode b_PatternBook_PlainDecimal_headOf 13 = .ok (.ldc2_w 25, 3) := by decide +kernel
theorem d_PatternBook_PlainDecimal_headOf_16 : decode b_PatternBook_PlainDecimal_headOf 16 = .ok (.aload_n 0, 1) := by decide +kernel
theorem d_PatternBook_PlainDecimal_headOf_17 : decode b_PatternBook_PlainDecimal_headOf 17 = .ok (.getfield 13, 3) := by decide +kernel
theorem d_PatternBook_PlainDecimal_headOf_20 : decode b_PatternBook_PlainDecimal_headOf 20 = .ok (.iconst 2, 1) := by decide +kernel

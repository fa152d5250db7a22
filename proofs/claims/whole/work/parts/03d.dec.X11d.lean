theorem dX11_answer_0 : decode cX11_answer 0 = .ok (.aload_n 0, 1) := by decide +kernel
theorem dX11_answer_1 : decode cX11_answer 1 = .ok (.iload_n 1, 1) := by decide +kernel
theorem dX11_answer_2 : decode cX11_answer 2 = .ok (.iload_n 2, 1) := by decide +kernel
theorem dX11_answer_3 : decode cX11_answer 3 = .ok (.invokevirtual 336, 3) := by decide +kernel
theorem dX11_answer_6 : decode cX11_answer 6 = .ok (.ifCond .ne 5, 3) := by decide +kernel
theorem dX11_answer_9 : decode cX11_answer 9 = .ok (.iconst 0, 1) := by decide +kernel
theorem dX11_answer_10 : decode cX11_answer 10 = .ok (.ireturn, 1) := by decide +kernel
theorem dX11_answer_11 : decode cX11_answer 11 = .ok (.bipush 20, 2) := by decide +kernel
theorem dX11_answer_13 : decode cX11_answer 13 = .ok (.iload_n 1, 1) := by decide +kernel
theorem dX11_answer_14 : decode cX11_answer 14 = .ok (.imul, 1) := by decide +kernel
theorem dX11_answer_15 : decode cX11_answer 15 = .ok (.iload_n 2, 1) := by decide +kernel
theorem dX11_answer_16 : decode cX11_answer 16 = .ok (.iadd, 1) := by decide +kernel
theorem dX11_answer_17 : decode cX11_answer 17 = .ok (.istore 5, 2) := by decide +kernel
theorem dX11_answer_19 : decode cX11_answer 19 = .ok (.iconst 2, 1) := by decide +kernel
theorem dX11_answer_20 : decode cX11_answer 20 = .ok (.iload 5, 2) := by decide +kernel
theorem dX11_answer_22 : decode cX11_answer 22 = .ok (.imul, 1) := by decide +kernel
theorem dX11_answer_23 : decode cX11_answer 23 = .ok (.iload_n 3, 1) := by decide +kernel
theorem dX11_answer_24 : decode cX11_answer 24 = .ok (.ifCond .eq 7, 3) := by decide +kernel
theorem dX11_answer_27 : decode cX11_answer 27 = .ok (.iconst 0, 1) := by decide +kernel
theorem dX11_answer_28 : decode cX11_answer 28 = .ok (.goto 4, 3) := by decide +kernel
theorem dX11_answer_31 : decode cX11_answer 31 = .ok (.iconst 1, 1) := by decide +kernel
theorem dX11_answer_32 : decode cX11_answer 32 = .ok (.iadd, 1) := by decide +kernel
theorem dX11_answer_33 : decode cX11_answer 33 = .ok (.istore 6, 2) := by decide +kernel
theorem dX11_answer_35 : decode cX11_answer 35 = .ok (.aload_n 0, 1) := by decide +kernel
theorem dX11_answer_36 : decode cX11_answer 36 = .ok (.getfield 73, 3) := by decide +kernel
theorem dX11_answer_39 : decode cX11_answer 39 = .ok (.iload 5, 2) := by decide +kernel
theorem dX11_answer_41 : decode cX11_answer 41 = .ok (.iaload, 1) := by decide +kernel
theorem dX11_answer_42 : decode cX11_answer 42 = .ok (.iconst 3, 1) := by decide +kernel
theorem dX11_answer_43 : decode cX11_answer 43 = .ok (.if_icmp .eq 5, 3) := by decide +kernel
theorem dX11_answer_46 : decode cX11_answer 46 = .ok (.iconst (-1), 1) := by decide +kernel
theorem dX11_answer_47 : decode cX11_answer 47 = .ok (.ireturn, 1) := by decide +kernel
theorem dX11_answer_48 : decode cX11_answer 48 = .ok (.aload_n 0, 1) := by decide +kernel
theorem dX11_answer_49 : decode cX11_answer 49 = .ok (.getfield 109, 3) := by decide +kernel
theorem dX11_answer_52 : decode cX11_answer 52 = .ok (.iload 6, 2) := by decide +kernel
theorem dX11_answer_54 : decode cX11_answer 54 = .ok (.baload, 1) := by decide +kernel
theorem dX11_answer_55 : decode cX11_answer 55 = .ok (.ifCond .eq 6, 3) := by decide +kernel
theorem dX11_answer_58 : decode cX11_answer 58 = .ok (.bipush (-2), 2) := by decide +kernel
theorem dX11_answer_60 : decode cX11_answer 60 = .ok (.ireturn, 1) := by decide +kernel
theorem dX11_answer_61 : decode cX11_answer 61 = .ok (.aload_n 0, 1) := by decide +kernel
theorem dX11_answer_62 : decode cX11_answer 62 = .ok (.getfield 109, 3) := by decide +kernel
theorem dX11_answer_65 : decode cX11_answer 65 = .ok (.iload 6, 2) := by decide +kernel
theorem dX11_answer_67 : decode cX11_answer 67 = .ok (.iconst 1, 1) := by decide +kernel
theorem dX11_answer_68 : decode cX11_answer 68 = .ok (.bastore, 1) := by decide +kernel
theorem dX11_answer_69 : decode cX11_answer 69 = .ok (.aload_n 0, 1) := by decide +kernel
theorem dX11_answer_70 : decode cX11_answer 70 = .ok (.getfield 106, 3) := by decide +kernel
theorem dX11_answer_73 : decode cX11_answer 73 = .ok (.iload 6, 2) := by decide +kernel
theorem dX11_answer_75 : decode cX11_answer 75 = .ok (.iload 4, 2) := by decide +kernel
theorem dX11_answer_77 : decode cX11_answer 77 = .ok (.iastore, 1) := by decide +kernel
theorem dX11_answer_78 : decode cX11_answer 78 = .ok (.aload_n 0, 1) := by decide +kernel
theorem dX11_answer_79 : decode cX11_answer 79 = .ok (.getfield 109, 3) := by decide +kernel
theorem dX11_answer_82 : decode cX11_answer 82 = .ok (.iconst 2, 1) := by decide +kernel
theorem dX11_answer_83 : decode cX11_answer 83 = .ok (.iload 5, 2) := by decide +kernel
theorem dX11_answer_85 : decode cX11_answer 85 = .ok (.imul, 1) := by decide +kernel
theorem dX11_answer_86 : decode cX11_answer 86 = .ok (.baload, 1) := by decide +kernel
theorem dX11_answer_87 : decode cX11_answer 87 = .ok (.ifCond .eq 17, 3) := by decide +kernel
theorem dX11_answer_90 : decode cX11_answer 90 = .ok (.aload_n 0, 1) := by decide +kernel
theorem dX11_answer_91 : decode cX11_answer 91 = .ok (.getfield 109, 3) := by decide +kernel
theorem dX11_answer_94 : decode cX11_answer 94 = .ok (.iconst 2, 1) := by decide +kernel
theorem dX11_answer_95 : decode cX11_answer 95 = .ok (.iload 5, 2) := by decide +kernel
theorem dX11_answer_97 : decode cX11_answer 97 = .ok (.imul, 1) := by decide +kernel
theorem dX11_answer_98 : decode cX11_answer 98 = .ok (.iconst 1, 1) := by decide +kernel
theorem dX11_answer_99 : decode cX11_answer 99 = .ok (.iadd, 1) := by decide +kernel
theorem dX11_answer_100 : decode cX11_answer 100 = .ok (.baload, 1) := by decide +kernel
theorem dX11_answer_101 : decode cX11_answer 101 = .ok (.ifCond .ne 5, 3) := by decide +kernel
theorem dX11_answer_104 : decode cX11_answer 104 = .ok (.iconst 1, 1) := by decide +kernel
theorem dX11_answer_105 : decode cX11_answer 105 = .ok (.ireturn, 1) := by decide +kernel
theorem dX11_answer_106 : decode cX11_answer 106 = .ok (.aload_n 0, 1) := by decide +kernel
theorem dX11_answer_107 : decode cX11_answer 107 = .ok (.getfield 94, 3) := by decide +kernel
theorem dX11_answer_110 : decode cX11_answer 110 = .ok (.iload 5, 2) := by decide +kernel
theorem dX11_answer_112 : decode cX11_answer 112 = .ok (.iaload, 1) := by decide +kernel
theorem dX11_answer_113 : decode cX11_answer 113 = .ok (.aload_n 0, 1) := by decide +kernel
theorem dX11_answer_114 : decode cX11_answer 114 = .ok (.getfield 100, 3) := by decide +kernel
theorem dX11_answer_117 : decode cX11_answer 117 = .ok (.iload 5, 2) := by decide +kernel
theorem dX11_answer_119 : decode cX11_answer 119 = .ok (.iaload, 1) := by decide +kernel
theorem dX11_answer_120 : decode cX11_answer 120 = .ok (.iadd, 1) := by decide +kernel
theorem dX11_answer_121 : decode cX11_answer 121 = .ok (.iconst 2, 1) := by decide +kernel
theorem dX11_answer_122 : decode cX11_answer 122 = .ok (.idiv, 1) := by decide +kernel
theorem dX11_answer_123 : decode cX11_answer 123 = .ok (.istore 7, 2) := by decide +kernel
theorem dX11_answer_125 : decode cX11_answer 125 = .ok (.aload_n 0, 1) := by decide +kernel
theorem dX11_answer_126 : decode cX11_answer 126 = .ok (.getfield 106, 3) := by decide +kernel
theorem dX11_answer_129 : decode cX11_answer 129 = .ok (.iconst 2, 1) := by decide +kernel
theorem dX11_answer_130 : decode cX11_answer 130 = .ok (.iload 5, 2) := by decide +kernel
theorem dX11_answer_132 : decode cX11_answer 132 = .ok (.imul, 1) := by decide +kernel
theorem dX11_answer_133 : decode cX11_answer 133 = .ok (.iaload, 1) := by decide +kernel
theorem dX11_answer_134 : decode cX11_answer 134 = .ok (.aload_n 0, 1) := by decide +kernel
theorem dX11_answer_135 : decode cX11_answer 135 = .ok (.getfield 106, 3) := by decide +kernel
theorem dX11_answer_138 : decode cX11_answer 138 = .ok (.iconst 2, 1) := by decide +kernel
theorem dX11_answer_139 : decode cX11_answer 139 = .ok (.iload 5, 2) := by decide +kernel
theorem dX11_answer_141 : decode cX11_answer 141 = .ok (.imul, 1) := by decide +kernel
theorem dX11_answer_142 : decode cX11_answer 142 = .ok (.iconst 1, 1) := by decide +kernel
theorem dX11_answer_143 : decode cX11_answer 143 = .ok (.iadd, 1) := by decide +kernel
theorem dX11_answer_144 : decode cX11_answer 144 = .ok (.iaload, 1) := by decide +kernel
theorem dX11_answer_145 : decode cX11_answer 145 = .ok (.if_icmp .ne 31, 3) := by decide +kernel
theorem dX11_answer_148 : decode cX11_answer 148 = .ok (.aload_n 0, 1) := by decide +kernel
theorem dX11_answer_149 : decode cX11_answer 149 = .ok (.getfield 94, 3) := by decide +kernel
theorem dX11_answer_152 : decode cX11_answer 152 = .ok (.iload 5, 2) := by decide +kernel
theorem dX11_answer_154 : decode cX11_answer 154 = .ok (.iload 7, 2) := by decide +kernel
theorem dX11_answer_156 : decode cX11_answer 156 = .ok (.iastore, 1) := by decide +kernel
theorem dX11_answer_157 : decode cX11_answer 157 = .ok (.aload_n 0, 1) := by decide +kernel
theorem dX11_answer_158 : decode cX11_answer 158 = .ok (.getfield 97, 3) := by decide +kernel
theorem dX11_answer_161 : decode cX11_answer 161 = .ok (.iload 5, 2) := by decide +kernel
theorem dX11_answer_163 : decode cX11_answer 163 = .ok (.aload_n 0, 1) := by decide +kernel
theorem dX11_answer_164 : decode cX11_answer 164 = .ok (.getfield 106, 3) := by decide +kernel
theorem dX11_answer_167 : decode cX11_answer 167 = .ok (.iconst 2, 1) := by decide +kernel
theorem dX11_answer_168 : decode cX11_answer 168 = .ok (.iload 5, 2) := by decide +kernel
theorem dX11_answer_170 : decode cX11_answer 170 = .ok (.imul, 1) := by decide +kernel
theorem dX11_answer_171 : decode cX11_answer 171 = .ok (.iaload, 1) := by decide +kernel
theorem dX11_answer_172 : decode cX11_answer 172 = .ok (.iastore, 1) := by decide +kernel
theorem dX11_answer_173 : decode cX11_answer 173 = .ok (.goto 52, 3) := by decide +kernel
theorem dX11_answer_176 : decode cX11_answer 176 = .ok (.aload_n 0, 1) := by decide +kernel
theorem dX11_answer_177 : decode cX11_answer 177 = .ok (.getfield 100, 3) := by decide +kernel
theorem dX11_answer_180 : decode cX11_answer 180 = .ok (.iload 5, 2) := by decide +kernel
theorem dX11_answer_182 : decode cX11_answer 182 = .ok (.iload 7, 2) := by decide +kernel
theorem dX11_answer_184 : decode cX11_answer 184 = .ok (.iastore, 1) := by decide +kernel
theorem dX11_answer_185 : decode cX11_answer 185 = .ok (.aload_n 0, 1) := by decide +kernel
theorem dX11_answer_186 : decode cX11_answer 186 = .ok (.getfield 103, 3) := by decide +kernel
theorem dX11_answer_189 : decode cX11_answer 189 = .ok (.iconst 2, 1) := by decide +kernel
theorem dX11_answer_190 : decode cX11_answer 190 = .ok (.iload 5, 2) := by decide +kernel
theorem dX11_answer_192 : decode cX11_answer 192 = .ok (.imul, 1) := by decide +kernel
theorem dX11_answer_193 : decode cX11_answer 193 = .ok (.aload_n 0, 1) := by decide +kernel
theorem dX11_answer_194 : decode cX11_answer 194 = .ok (.getfield 106, 3) := by decide +kernel
theorem dX11_answer_197 : decode cX11_answer 197 = .ok (.iconst 2, 1) := by decide +kernel
theorem dX11_answer_198 : decode cX11_answer 198 = .ok (.iload 5, 2) := by decide +kernel
theorem dX11_answer_200 : decode cX11_answer 200 = .ok (.imul, 1) := by decide +kernel
theorem dX11_answer_201 : decode cX11_answer 201 = .ok (.iaload, 1) := by decide +kernel
theorem dX11_answer_202 : decode cX11_answer 202 = .ok (.iastore, 1) := by decide +kernel
theorem dX11_answer_203 : decode cX11_answer 203 = .ok (.aload_n 0, 1) := by decide +kernel
theorem dX11_answer_204 : decode cX11_answer 204 = .ok (.getfield 103, 3) := by decide +kernel
theorem dX11_answer_207 : decode cX11_answer 207 = .ok (.iconst 2, 1) := by decide +kernel
theorem dX11_answer_208 : decode cX11_answer 208 = .ok (.iload 5, 2) := by decide +kernel
theorem dX11_answer_210 : decode cX11_answer 210 = .ok (.imul, 1) := by decide +kernel
theorem dX11_answer_211 : decode cX11_answer 211 = .ok (.iconst 1, 1) := by decide +kernel
theorem dX11_answer_212 : decode cX11_answer 212 = .ok (.iadd, 1) := by decide +kernel
theorem dX11_answer_213 : decode cX11_answer 213 = .ok (.aload_n 0, 1) := by decide +kernel
theorem dX11_answer_214 : decode cX11_answer 214 = .ok (.getfield 106, 3) := by decide +kernel
theorem dX11_answer_217 : decode cX11_answer 217 = .ok (.iconst 2, 1) := by decide +kernel
theorem dX11_answer_218 : decode cX11_answer 218 = .ok (.iload 5, 2) := by decide +kernel
theorem dX11_answer_220 : decode cX11_answer 220 = .ok (.imul, 1) := by decide +kernel
theorem dX11_answer_221 : decode cX11_answer 221 = .ok (.iconst 1, 1) := by decide +kernel
theorem dX11_answer_222 : decode cX11_answer 222 = .ok (.iadd, 1) := by decide +kernel
theorem dX11_answer_223 : decode cX11_answer 223 = .ok (.iaload, 1) := by decide +kernel
theorem dX11_answer_224 : decode cX11_answer 224 = .ok (.iastore, 1) := by decide +kernel
theorem dX11_answer_225 : decode cX11_answer 225 = .ok (.aload_n 0, 1) := by decide +kernel
theorem dX11_answer_226 : decode cX11_answer 226 = .ok (.iload 5, 2) := by decide +kernel
theorem dX11_answer_228 : decode cX11_answer 228 = .ok (.invokevirtual 349, 3) := by decide +kernel
theorem dX11_answer_231 : decode cX11_answer 231 = .ok (.aload_n 0, 1) := by decide +kernel
theorem dX11_answer_232 : decode cX11_answer 232 = .ok (.getfield 100, 3) := by decide +kernel
theorem dX11_answer_235 : decode cX11_answer 235 = .ok (.iload 5, 2) := by decide +kernel
theorem dX11_answer_237 : decode cX11_answer 237 = .ok (.iaload, 1) := by decide +kernel
theorem dX11_answer_238 : decode cX11_answer 238 = .ok (.aload_n 0, 1) := by decide +kernel
theorem dX11_answer_239 : decode cX11_answer 239 = .ok (.getfield 94, 3) := by decide +kernel
theorem dX11_answer_242 : decode cX11_answer 242 = .ok (.iload 5, 2) := by decide +kernel
theorem dX11_answer_244 : decode cX11_answer 244 = .ok (.iaload, 1) := by decide +kernel
theorem dX11_answer_245 : decode cX11_answer 245 = .ok (.isub, 1) := by decide +kernel
theorem dX11_answer_246 : decode cX11_answer 246 = .ok (.iconst 1, 1) := by decide +kernel
theorem dX11_answer_247 : decode cX11_answer 247 = .ok (.if_icmp .le 5, 3) := by decide +kernel
theorem dX11_answer_250 : decode cX11_answer 250 = .ok (.iconst 1, 1) := by decide +kernel
theorem dX11_answer_251 : decode cX11_answer 251 = .ok (.ireturn, 1) := by decide +kernel
theorem dX11_answer_252 : decode cX11_answer 252 = .ok (.aload_n 0, 1) := by decide +kernel
theorem dX11_answer_253 : decode cX11_answer 253 = .ok (.iload 5, 2) := by decide +kernel
theorem dX11_answer_255 : decode cX11_answer 255 = .ok (.invokevirtual 352, 3) := by decide +kernel
theorem dX11_answer_258 : decode cX11_answer 258 = .ok (.iconst 2, 1) := by decide +kernel
theorem dX11_answer_259 : decode cX11_answer 259 = .ok (.ireturn, 1) := by decide +kernel
theorem dX11_judges_0 : decode cX11_judges 0 = .ok (.iload_n 1, 1) := by decide +kernel
theorem dX11_judges_1 : decode cX11_judges 1 = .ok (.bipush 20, 2) := by decide +kernel
theorem dX11_judges_3 : decode cX11_judges 3 = .ok (.idiv, 1) := by decide +kernel
theorem dX11_judges_4 : decode cX11_judges 4 = .ok (.istore_n 2, 1) := by decide +kernel
theorem dX11_judges_5 : decode cX11_judges 5 = .ok (.aload_n 0, 1) := by decide +kernel
theorem dX11_judges_6 : decode cX11_judges 6 = .ok (.iload_n 2, 1) := by decide +kernel
theorem dX11_judges_7 : decode cX11_judges 7 = .ok (.aload_n 0, 1) := by decide +kernel
theorem dX11_judges_8 : decode cX11_judges 8 = .ok (.getfield 94, 3) := by decide +kernel
theorem dX11_judges_11 : decode cX11_judges 11 = .ok (.iload_n 1, 1) := by decide +kernel
theorem dX11_judges_12 : decode cX11_judges 12 = .ok (.iaload, 1) := by decide +kernel
theorem dX11_judges_13 : decode cX11_judges 13 = .ok (.invokevirtual 324, 3) := by decide +kernel
theorem dX11_judges_16 : decode cX11_judges 16 = .ok (.aload_n 0, 1) := by decide +kernel
theorem dX11_judges_17 : decode cX11_judges 17 = .ok (.getfield 97, 3) := by decide +kernel
theorem dX11_judges_20 : decode cX11_judges 20 = .ok (.iload_n 1, 1) := by decide +kernel
theorem dX11_judges_21 : decode cX11_judges 21 = .ok (.iaload, 1) := by decide +kernel
theorem dX11_judges_22 : decode cX11_judges 22 = .ok (.if_icmp .eq 11, 3) := by decide +kernel
theorem dX11_judges_25 : decode cX11_judges 25 = .ok (.aload_n 0, 1) := by decide +kernel
theorem dX11_judges_26 : decode cX11_judges 26 = .ok (.iload_n 1, 1) := by decide +kernel
theorem dX11_judges_27 : decode cX11_judges 27 = .ok (.iconst 1, 1) := by decide +kernel
theorem dX11_judges_28 : decode cX11_judges 28 = .ok (.iconst 1, 1) := by decide +kernel
theorem dX11_judges_29 : decode cX11_judges 29 = .ok (.invokevirtual 355, 3) := by decide +kernel
theorem dX11_judges_32 : decode cX11_judges 32 = .ok (.return_, 1) := by decide +kernel
theorem dX11_judges_33 : decode cX11_judges 33 = .ok (.aload_n 0, 1) := by decide +kernel
theorem dX11_judges_34 : decode cX11_judges 34 = .ok (.iload_n 2, 1) := by decide +kernel
theorem dX11_judges_35 : decode cX11_judges 35 = .ok (.aload_n 0, 1) := by decide +kernel
theorem dX11_judges_36 : decode cX11_judges 36 = .ok (.getfield 100, 3) := by decide +kernel
theorem dX11_judges_39 : decode cX11_judges 39 = .ok (.iload_n 1, 1) := by decide +kernel
theorem dX11_judges_40 : decode cX11_judges 40 = .ok (.iaload, 1) := by decide +kernel
theorem dX11_judges_41 : decode cX11_judges 41 = .ok (.invokevirtual 324, 3) := by decide +kernel
theorem dX11_judges_44 : decode cX11_judges 44 = .ok (.istore_n 3, 1) := by decide +kernel
theorem dX11_judges_45 : decode cX11_judges 45 = .ok (.aload_n 0, 1) := by decide +kernel
theorem dX11_judges_46 : decode cX11_judges 46 = .ok (.iload_n 1, 1) := by decide +kernel
theorem dX11_judges_47 : decode cX11_judges 47 = .ok (.aload_n 0, 1) := by decide +kernel
theorem dX11_judges_48 : decode cX11_judges 48 = .ok (.getfield 103, 3) := by decide +kernel
theorem dX11_judges_51 : decode cX11_judges 51 = .ok (.iconst 2, 1) := by decide +kernel
theorem dX11_judges_52 : decode cX11_judges 52 = .ok (.iload_n 1, 1) := by decide +kernel
theorem dX11_judges_53 : decode cX11_judges 53 = .ok (.imul, 1) := by decide +kernel
theorem dX11_judges_54 : decode cX11_judges 54 = .ok (.iaload, 1) := by decide +kernel
theorem dX11_judges_55 : decode cX11_judges 55 = .ok (.iload_n 3, 1) := by decide +kernel
theorem dX11_judges_56 : decode cX11_judges 56 = .ok (.if_icmp .eq 7, 3) := by decide +kernel
theorem dX11_judges_59 : decode cX11_judges 59 = .ok (.iconst 1, 1) := by decide +kernel
theorem dX11_judges_60 : decode cX11_judges 60 = .ok (.goto 4, 3) := by decide +kernel
theorem dX11_judges_63 : decode cX11_judges 63 = .ok (.iconst 0, 1) := by decide +kernel
theorem dX11_judges_64 : decode cX11_judges 64 = .ok (.aload_n 0, 1) := by decide +kernel
theorem dX11_judges_65 : decode cX11_judges 65 = .ok (.getfield 103, 3) := by decide +kernel
theorem dX11_judges_68 : decode cX11_judges 68 = .ok (.iconst 2, 1) := by decide +kernel
theorem dX11_judges_69 : decode cX11_judges 69 = .ok (.iload_n 1, 1) := by decide +kernel
theorem dX11_judges_70 : decode cX11_judges 70 = .ok (.imul, 1) := by decide +kernel
theorem dX11_judges_71 : decode cX11_judges 71 = .ok (.iconst 1, 1) := by decide +kernel
theorem dX11_judges_72 : decode cX11_judges 72 = .ok (.iadd, 1) := by decide +kernel
theorem dX11_judges_73 : decode cX11_judges 73 = .ok (.iaload, 1) := by decide +kernel
theorem dX11_judges_74 : decode cX11_judges 74 = .ok (.iload_n 3, 1) := by decide +kernel
theorem dX11_judges_75 : decode cX11_judges 75 = .ok (.if_icmp .eq 7, 3) := by decide +kernel
theorem dX11_judges_78 : decode cX11_judges 78 = .ok (.iconst 1, 1) := by decide +kernel
theorem dX11_judges_79 : decode cX11_judges 79 = .ok (.goto 4, 3) := by decide +kernel
theorem dX11_judges_82 : decode cX11_judges 82 = .ok (.iconst 0, 1) := by decide +kernel
theorem dX11_judges_83 : decode cX11_judges 83 = .ok (.invokevirtual 355, 3) := by decide +kernel
theorem dX11_judges_86 : decode cX11_judges 86 = .ok (.return_, 1) := by decide +kernel
theorem dX11_over_0 : decode cX11_over 0 = .ok (.aload_n 0, 1) := by decide +kernel
theorem dX11_over_1 : decode cX11_over 1 = .ok (.getfield 76, 3) := by decide +kernel
theorem dX11_over_4 : decode cX11_over 4 = .ok (.iload_n 1, 1) := by decide +kernel
theorem dX11_over_5 : decode cX11_over 5 = .ok (.iaload, 1) := by decide +kernel
theorem dX11_over_6 : decode cX11_over 6 = .ok (.istore 4, 2) := by decide +kernel
theorem dX11_over_8 : decode cX11_over 8 = .ok (.aload_n 0, 1) := by decide +kernel
theorem dX11_over_9 : decode cX11_over 9 = .ok (.getfield 91, 3) := by decide +kernel
theorem dX11_over_12 : decode cX11_over 12 = .ok (.iload_n 1, 1) := by decide +kernel
theorem dX11_over_13 : decode cX11_over 13 = .ok (.iaload, 1) := by decide +kernel
theorem dX11_over_14 : decode cX11_over 14 = .ok (.istore 5, 2) := by decide +kernel
theorem dX11_over_16 : decode cX11_over 16 = .ok (.aload_n 0, 1) := by decide +kernel
theorem dX11_over_17 : decode cX11_over 17 = .ok (.getfield 82, 3) := by decide +kernel
theorem dX11_over_20 : decode cX11_over 20 = .ok (.iload_n 1, 1) := by decide +kernel
theorem dX11_over_21 : decode cX11_over 21 = .ok (.iaload, 1) := by decide +kernel
theorem dX11_over_22 : decode cX11_over 22 = .ok (.istore 6, 2) := by decide +kernel
theorem dX11_over_24 : decode cX11_over 24 = .ok (.iload 6, 2) := by decide +kernel
theorem dX11_over_26 : decode cX11_over 26 = .ok (.aload_n 0, 1) := by decide +kernel
theorem dX11_over_27 : decode cX11_over 27 = .ok (.getfield 70, 3) := by decide +kernel
theorem dX11_over_30 : decode cX11_over 30 = .ok (.imul, 1) := by decide +kernel
theorem dX11_over_31 : decode cX11_over 31 = .ok (.bipush 100, 2) := by decide +kernel
theorem dX11_over_33 : decode cX11_over 33 = .ok (.idiv, 1) := by decide +kernel
theorem dX11_over_34 : decode cX11_over 34 = .ok (.istore 7, 2) := by decide +kernel
theorem dX11_over_36 : decode cX11_over 36 = .ok (.aload_n 0, 1) := by decide +kernel
theorem dX11_over_37 : decode cX11_over 37 = .ok (.getfield 121, 3) := by decide +kernel
theorem dX11_over_40 : decode cX11_over 40 = .ok (.iload 4, 2) := by decide +kernel
theorem dX11_over_42 : decode cX11_over 42 = .ok (.dup2, 1) := by decide +kernel
theorem dX11_over_43 : decode cX11_over 43 = .ok (.iaload, 1) := by decide +kernel
theorem dX11_over_44 : decode cX11_over 44 = .ok (.iload_n 2, 1) := by decide +kernel
theorem dX11_over_45 : decode cX11_over 45 = .ok (.ifCond .eq 7, 3) := by decide +kernel
theorem dX11_over_48 : decode cX11_over 48 = .ok (.iconst 1, 1) := by decide +kernel
theorem dX11_over_49 : decode cX11_over 49 = .ok (.goto 4, 3) := by decide +kernel
theorem dX11_over_52 : decode cX11_over 52 = .ok (.iconst 0, 1) := by decide +kernel
theorem dX11_over_53 : decode cX11_over 53 = .ok (.iadd, 1) := by decide +kernel
theorem dX11_over_54 : decode cX11_over 54 = .ok (.iastore, 1) := by decide +kernel
theorem dX11_over_55 : decode cX11_over 55 = .ok (.aload_n 0, 1) := by decide +kernel
theorem dX11_over_56 : decode cX11_over 56 = .ok (.getfield 121, 3) := by decide +kernel
theorem dX11_over_59 : decode cX11_over 59 = .ok (.iload 5, 2) := by decide +kernel
theorem dX11_over_61 : decode cX11_over 61 = .ok (.dup2, 1) := by decide +kernel
theorem dX11_over_62 : decode cX11_over 62 = .ok (.iaload, 1) := by decide +kernel
theorem dX11_over_63 : decode cX11_over 63 = .ok (.iload_n 3, 1) := by decide +kernel
theorem dX11_over_64 : decode cX11_over 64 = .ok (.ifCond .eq 7, 3) := by decide +kernel
theorem dX11_over_67 : decode cX11_over 67 = .ok (.iconst 1, 1) := by decide +kernel
theorem dX11_over_68 : decode cX11_over 68 = .ok (.goto 4, 3) := by decide +kernel
theorem dX11_over_71 : decode cX11_over 71 = .ok (.iconst 0, 1) := by decide +kernel
theorem dX11_over_72 : decode cX11_over 72 = .ok (.iadd, 1) := by decide +kernel
theorem dX11_over_73 : decode cX11_over 73 = .ok (.iastore, 1) := by decide +kernel
theorem dX11_over_74 : decode cX11_over 74 = .ok (.iload_n 2, 1) := by decide +kernel
theorem dX11_over_75 : decode cX11_over 75 = .ok (.ifCond .eq 23, 3) := by decide +kernel
theorem dX11_over_78 : decode cX11_over 78 = .ok (.iload_n 3, 1) := by decide +kernel
theorem dX11_over_79 : decode cX11_over 79 = .ok (.ifCond .eq 19, 3) := by decide +kernel
theorem dX11_over_82 : decode cX11_over 82 = .ok (.aload_n 0, 1) := by decide +kernel
theorem dX11_over_83 : decode cX11_over 83 = .ok (.dup, 1) := by decide +kernel
theorem dX11_over_84 : decode cX11_over 84 = .ok (.getfield 359, 3) := by decide +kernel
theorem dX11_over_87 : decode cX11_over 87 = .ok (.iconst 2, 1) := by decide +kernel
theorem dX11_over_88 : decode cX11_over 88 = .ok (.iload 6, 2) := by decide +kernel
theorem dX11_over_90 : decode cX11_over 90 = .ok (.imul, 1) := by decide +kernel
theorem dX11_over_91 : decode cX11_over 91 = .ok (.iadd, 1) := by decide +kernel
theorem dX11_over_92 : decode cX11_over 92 = .ok (.putfield 359, 3) := by decide +kernel
theorem dX11_over_95 : decode cX11_over 95 = .ok (.goto 41, 3) := by decide +kernel
theorem dX11_over_98 : decode cX11_over 98 = .ok (.aload_n 0, 1) := by decide +kernel
theorem dX11_over_99 : decode cX11_over 99 = .ok (.getfield 115, 3) := by decide +kernel
theorem dX11_over_102 : decode cX11_over 102 = .ok (.iload_n 2, 1) := by decide +kernel
theorem dX11_over_103 : decode cX11_over 103 = .ok (.ifCond .eq 8, 3) := by decide +kernel
theorem dX11_over_106 : decode cX11_over 106 = .ok (.iload 5, 2) := by decide +kernel
theorem dX11_over_108 : decode cX11_over 108 = .ok (.goto 5, 3) := by decide +kernel
theorem dX11_over_111 : decode cX11_over 111 = .ok (.iload 4, 2) := by decide +kernel
theorem dX11_over_113 : decode cX11_over 113 = .ok (.dup2, 1) := by decide +kernel
theorem dX11_over_114 : decode cX11_over 114 = .ok (.iaload, 1) := by decide +kernel
theorem dX11_over_115 : decode cX11_over 115 = .ok (.iload 6, 2) := by decide +kernel
theorem dX11_over_117 : decode cX11_over 117 = .ok (.iload 7, 2) := by decide +kernel
theorem dX11_over_119 : decode cX11_over 119 = .ok (.iadd, 1) := by decide +kernel
theorem dX11_over_120 : decode cX11_over 120 = .ok (.iadd, 1) := by decide +kernel
theorem dX11_over_121 : decode cX11_over 121 = .ok (.iastore, 1) := by decide +kernel
theorem dX11_over_122 : decode cX11_over 122 = .ok (.aload_n 0, 1) := by decide +kernel
theorem dX11_over_123 : decode cX11_over 123 = .ok (.dup, 1) := by decide +kernel
theorem dX11_over_124 : decode cX11_over 124 = .ok (.getfield 359, 3) := by decide +kernel
theorem dX11_over_127 : decode cX11_over 127 = .ok (.iload 6, 2) := by decide +kernel
theorem dX11_over_129 : decode cX11_over 129 = .ok (.iload 7, 2) := by decide +kernel
theorem dX11_over_131 : decode cX11_over 131 = .ok (.isub, 1) := by decide +kernel
theorem dX11_over_132 : decode cX11_over 132 = .ok (.iadd, 1) := by decide +kernel
theorem dX11_over_133 : decode cX11_over 133 = .ok (.putfield 359, 3) := by decide +kernel
theorem dX11_over_136 : decode cX11_over 136 = .ok (.aload_n 0, 1) := by decide +kernel
theorem dX11_over_137 : decode cX11_over 137 = .ok (.getfield 82, 3) := by decide +kernel
theorem dX11_over_140 : decode cX11_over 140 = .ok (.iload_n 1, 1) := by decide +kernel
theorem dX11_over_141 : decode cX11_over 141 = .ok (.iconst 0, 1) := by decide +kernel
theorem dX11_over_142 : decode cX11_over 142 = .ok (.iastore, 1) := by decide +kernel
theorem dX11_over_143 : decode cX11_over 143 = .ok (.iload_n 2, 1) := by decide +kernel
theorem dX11_over_144 : decode cX11_over 144 = .ok (.ifCond .eq 11, 3) := by decide +kernel
theorem dX11_over_147 : decode cX11_over 147 = .ok (.aload_n 0, 1) := by decide +kernel
theorem dX11_over_148 : decode cX11_over 148 = .ok (.iload_n 1, 1) := by decide +kernel
theorem dX11_over_149 : decode cX11_over 149 = .ok (.invokevirtual 362, 3) := by decide +kernel
theorem dX11_over_152 : decode cX11_over 152 = .ok (.goto 8, 3) := by decide +kernel
theorem dX11_over_155 : decode cX11_over 155 = .ok (.aload_n 0, 1) := by decide +kernel
theorem dX11_over_156 : decode cX11_over 156 = .ok (.iload_n 1, 1) := by decide +kernel
theorem dX11_over_157 : decode cX11_over 157 = .ok (.invokevirtual 365, 3) := by decide +kernel
theorem dX11_over_160 : decode cX11_over 160 = .ok (.return_, 1) := by decide +kernel
theorem dX11_frees_0 : decode cX11_frees 0 = .ok (.aload_n 0, 1) := by decide +kernel
theorem dX11_frees_1 : decode cX11_frees 1 = .ok (.getfield 73, 3) := by decide +kernel
theorem dX11_frees_4 : decode cX11_frees 4 = .ok (.iload_n 1, 1) := by decide +kernel
theorem dX11_frees_5 : decode cX11_frees 5 = .ok (.iconst 0, 1) := by decide +kernel
theorem dX11_frees_6 : decode cX11_frees 6 = .ok (.iastore, 1) := by decide +kernel
theorem dX11_frees_7 : decode cX11_frees 7 = .ok (.aload_n 0, 1) := by decide +kernel
theorem dX11_frees_8 : decode cX11_frees 8 = .ok (.getfield 36, 3) := by decide +kernel
theorem dX11_frees_11 : decode cX11_frees 11 = .ok (.iload_n 1, 1) := by decide +kernel
theorem dX11_frees_12 : decode cX11_frees 12 = .ok (.bipush 20, 2) := by decide +kernel
theorem dX11_frees_14 : decode cX11_frees 14 = .ok (.idiv, 1) := by decide +kernel
theorem dX11_frees_15 : decode cX11_frees 15 = .ok (.dup2, 1) := by decide +kernel
theorem dX11_frees_16 : decode cX11_frees 16 = .ok (.iaload, 1) := by decide +kernel
theorem dX11_frees_17 : decode cX11_frees 17 = .ok (.aload_n 0, 1) := by decide +kernel
theorem dX11_frees_18 : decode cX11_frees 18 = .ok (.getfield 79, 3) := by decide +kernel
theorem dX11_frees_21 : decode cX11_frees 21 = .ok (.iload_n 1, 1) := by decide +kernel
theorem dX11_frees_22 : decode cX11_frees 22 = .ok (.iaload, 1) := by decide +kernel
theorem dX11_frees_23 : decode cX11_frees 23 = .ok (.iadd, 1) := by decide +kernel
theorem dX11_frees_24 : decode cX11_frees 24 = .ok (.iastore, 1) := by decide +kernel
theorem dX11_frees_25 : decode cX11_frees 25 = .ok (.aload_n 0, 1) := by decide +kernel
theorem dX11_frees_26 : decode cX11_frees 26 = .ok (.getfield 79, 3) := by decide +kernel
theorem dX11_frees_29 : decode cX11_frees 29 = .ok (.iload_n 1, 1) := by decide +kernel
theorem dX11_frees_30 : decode cX11_frees 30 = .ok (.iconst 0, 1) := by decide +kernel
theorem dX11_frees_31 : decode cX11_frees 31 = .ok (.iastore, 1) := by decide +kernel
theorem dX11_frees_32 : decode cX11_frees 32 = .ok (.aload_n 0, 1) := by decide +kernel
theorem dX11_frees_33 : decode cX11_frees 33 = .ok (.getfield 82, 3) := by decide +kernel
theorem dX11_frees_36 : decode cX11_frees 36 = .ok (.iload_n 1, 1) := by decide +kernel
theorem dX11_frees_37 : decode cX11_frees 37 = .ok (.iconst 0, 1) := by decide +kernel
theorem dX11_frees_38 : decode cX11_frees 38 = .ok (.iastore, 1) := by decide +kernel
theorem dX11_frees_39 : decode cX11_frees 39 = .ok (.aload_n 0, 1) := by decide +kernel
theorem dX11_frees_40 : decode cX11_frees 40 = .ok (.getfield 88, 3) := by decide +kernel
theorem dX11_frees_43 : decode cX11_frees 43 = .ok (.iload_n 1, 1) := by decide +kernel
theorem dX11_frees_44 : decode cX11_frees 44 = .ok (.iconst 0, 1) := by decide +kernel
theorem dX11_frees_45 : decode cX11_frees 45 = .ok (.iastore, 1) := by decide +kernel
theorem dX11_frees_46 : decode cX11_frees 46 = .ok (.aload_n 0, 1) := by decide +kernel
theorem dX11_frees_47 : decode cX11_frees 47 = .ok (.getfield 112, 3) := by decide +kernel
theorem dX11_frees_50 : decode cX11_frees 50 = .ok (.iload_n 1, 1) := by decide +kernel
theorem dX11_frees_51 : decode cX11_frees 51 = .ok (.dup2, 1) := by decide +kernel
theorem dX11_frees_52 : decode cX11_frees 52 = .ok (.iaload, 1) := by decide +kernel
theorem dX11_frees_53 : decode cX11_frees 53 = .ok (.iconst 1, 1) := by decide +kernel
theorem dX11_frees_54 : decode cX11_frees 54 = .ok (.iadd, 1) := by decide +kernel
theorem dX11_frees_55 : decode cX11_frees 55 = .ok (.iastore, 1) := by decide +kernel
theorem dX11_frees_56 : decode cX11_frees 56 = .ok (.return_, 1) := by decide +kernel
theorem dX11_voided_0 : decode cX11_voided 0 = .ok (.aload_n 0, 1) := by decide +kernel
theorem dX11_voided_1 : decode cX11_voided 1 = .ok (.iload_n 1, 1) := by decide +kernel
theorem dX11_voided_2 : decode cX11_voided 2 = .ok (.invokevirtual 368, 3) := by decide +kernel
theorem dX11_voided_5 : decode cX11_voided 5 = .ok (.iload_n 1, 1) := by decide +kernel
theorem dX11_voided_6 : decode cX11_voided 6 = .ok (.bipush 20, 2) := by decide +kernel
theorem dX11_voided_8 : decode cX11_voided 8 = .ok (.idiv, 1) := by decide +kernel
theorem dX11_voided_9 : decode cX11_voided 9 = .ok (.bipush 20, 2) := by decide +kernel
theorem dX11_voided_11 : decode cX11_voided 11 = .ok (.imul, 1) := by decide +kernel
theorem dX11_voided_12 : decode cX11_voided 12 = .ok (.aload_n 0, 1) := by decide +kernel
theorem dX11_voided_13 : decode cX11_voided 13 = .ok (.getfield 55, 3) := by decide +kernel
theorem dX11_voided_16 : decode cX11_voided 16 = .ok (.iload_n 1, 1) := by decide +kernel
theorem dX11_voided_17 : decode cX11_voided 17 = .ok (.bipush 20, 2) := by decide +kernel
theorem dX11_voided_19 : decode cX11_voided 19 = .ok (.idiv, 1) := by decide +kernel
theorem dX11_voided_20 : decode cX11_voided 20 = .ok (.iaload, 1) := by decide +kernel
theorem dX11_voided_21 : decode cX11_voided 21 = .ok (.iadd, 1) := by decide +kernel
theorem dX11_voided_22 : decode cX11_voided 22 = .ok (.istore_n 2, 1) := by decide +kernel
theorem dX11_voided_23 : decode cX11_voided 23 = .ok (.iload_n 1, 1) := by decide +kernel
theorem dX11_voided_24 : decode cX11_voided 24 = .ok (.iconst 1, 1) := by decide +kernel
theorem dX11_voided_25 : decode cX11_voided 25 = .ok (.iadd, 1) := by decide +kernel
theorem dX11_voided_26 : decode cX11_voided 26 = .ok (.istore_n 3, 1) := by decide +kernel
theorem dX11_voided_27 : decode cX11_voided 27 = .ok (.iload_n 3, 1) := by decide +kernel
theorem dX11_voided_28 : decode cX11_voided 28 = .ok (.iload_n 2, 1) := by decide +kernel
theorem dX11_voided_29 : decode cX11_voided 29 = .ok (.if_icmp .ge 104, 3) := by decide +kernel
theorem dX11_voided_32 : decode cX11_voided 32 = .ok (.aload_n 0, 1) := by decide +kernel
theorem dX11_voided_33 : decode cX11_voided 33 = .ok (.getfield 73, 3) := by decide +kernel
theorem dX11_voided_36 : decode cX11_voided 36 = .ok (.iload_n 3, 1) := by decide +kernel
theorem dX11_voided_37 : decode cX11_voided 37 = .ok (.iaload, 1) := by decide +kernel
theorem dX11_voided_38 : decode cX11_voided 38 = .ok (.iconst 2, 1) := by decide +kernel
theorem dX11_voided_39 : decode cX11_voided 39 = .ok (.if_icmp .eq 23, 3) := by decide +kernel
theorem dX11_voided_42 : decode cX11_voided 42 = .ok (.aload_n 0, 1) := by decide +kernel
theorem dX11_voided_43 : decode cX11_voided 43 = .ok (.getfield 73, 3) := by decide +kernel
theorem dX11_voided_46 : decode cX11_voided 46 = .ok (.iload_n 3, 1) := by decide +kernel
theorem dX11_voided_47 : decode cX11_voided 47 = .ok (.iaload, 1) := by decide +kernel
theorem dX11_voided_48 : decode cX11_voided 48 = .ok (.iconst 3, 1) := by decide +kernel
theorem dX11_voided_49 : decode cX11_voided 49 = .ok (.if_icmp .eq 13, 3) := by decide +kernel
theorem dX11_voided_52 : decode cX11_voided 52 = .ok (.aload_n 0, 1) := by decide +kernel
theorem dX11_voided_53 : decode cX11_voided 53 = .ok (.getfield 73, 3) := by decide +kernel
theorem dX11_voided_56 : decode cX11_voided 56 = .ok (.iload_n 3, 1) := by decide +kernel
theorem dX11_voided_57 : decode cX11_voided 57 = .ok (.iaload, 1) := by decide +kernel
theorem dX11_voided_58 : decode cX11_voided 58 = .ok (.iconst 5, 1) := by decide +kernel
theorem dX11_voided_59 : decode cX11_voided 59 = .ok (.if_icmp .ne 74, 3) := by decide +kernel
theorem dX11_voided_62 : decode cX11_voided 62 = .ok (.aload_n 0, 1) := by decide +kernel
theorem dX11_voided_63 : decode cX11_voided 63 = .ok (.getfield 73, 3) := by decide +kernel
theorem dX11_voided_66 : decode cX11_voided 66 = .ok (.iload_n 3, 1) := by decide +kernel
theorem dX11_voided_67 : decode cX11_voided 67 = .ok (.iaload, 1) := by decide +kernel
theorem dX11_voided_68 : decode cX11_voided 68 = .ok (.iconst 5, 1) := by decide +kernel
theorem dX11_voided_69 : decode cX11_voided 69 = .ok (.if_icmp .eq 23, 3) := by decide +kernel
theorem dX11_voided_72 : decode cX11_voided 72 = .ok (.aload_n 0, 1) := by decide +kernel
theorem dX11_voided_73 : decode cX11_voided 73 = .ok (.getfield 115, 3) := by decide +kernel
theorem dX11_voided_76 : decode cX11_voided 76 = .ok (.aload_n 0, 1) := by decide +kernel
theorem dX11_voided_77 : decode cX11_voided 77 = .ok (.getfield 76, 3) := by decide +kernel
theorem dX11_voided_80 : decode cX11_voided 80 = .ok (.iload_n 3, 1) := by decide +kernel
theorem dX11_voided_81 : decode cX11_voided 81 = .ok (.iaload, 1) := by decide +kernel
theorem dX11_voided_82 : decode cX11_voided 82 = .ok (.dup2, 1) := by decide +kernel
theorem dX11_voided_83 : decode cX11_voided 83 = .ok (.iaload, 1) := by decide +kernel
theorem dX11_voided_84 : decode cX11_voided 84 = .ok (.aload_n 0, 1) := by decide +kernel
theorem dX11_voided_85 : decode cX11_voided 85 = .ok (.getfield 82, 3) := by decide +kernel
theorem dX11_voided_88 : decode cX11_voided 88 = .ok (.iload_n 3, 1) := by decide +kernel
theorem dX11_voided_89 : decode cX11_voided 89 = .ok (.iaload, 1) := by decide +kernel
theorem dX11_voided_90 : decode cX11_voided 90 = .ok (.iadd, 1) := by decide +kernel
theorem dX11_voided_91 : decode cX11_voided 91 = .ok (.iastore, 1) := by decide +kernel
theorem dX11_voided_92 : decode cX11_voided 92 = .ok (.aload_n 0, 1) := by decide +kernel
theorem dX11_voided_93 : decode cX11_voided 93 = .ok (.getfield 73, 3) := by decide +kernel
theorem dX11_voided_96 : decode cX11_voided 96 = .ok (.iload_n 3, 1) := by decide +kernel
theorem dX11_voided_97 : decode cX11_voided 97 = .ok (.iaload, 1) := by decide +kernel
theorem dX11_voided_98 : decode cX11_voided 98 = .ok (.iconst 3, 1) := by decide +kernel
theorem dX11_voided_99 : decode cX11_voided 99 = .ok (.if_icmp .ne 23, 3) := by decide +kernel
theorem dX11_voided_102 : decode cX11_voided 102 = .ok (.aload_n 0, 1) := by decide +kernel
theorem dX11_voided_103 : decode cX11_voided 103 = .ok (.getfield 115, 3) := by decide +kernel
theorem dX11_voided_106 : decode cX11_voided 106 = .ok (.aload_n 0, 1) := by decide +kernel
theorem dX11_voided_107 : decode cX11_voided 107 = .ok (.getfield 91, 3) := by decide +kernel
theorem dX11_voided_110 : decode cX11_voided 110 = .ok (.iload_n 3, 1) := by decide +kernel
theorem dX11_voided_111 : decode cX11_voided 111 = .ok (.iaload, 1) := by decide +kernel
theorem dX11_voided_112 : decode cX11_voided 112 = .ok (.dup2, 1) := by decide +kernel
theorem dX11_voided_113 : decode cX11_voided 113 = .ok (.iaload, 1) := by decide +kernel
theorem dX11_voided_114 : decode cX11_voided 114 = .ok (.aload_n 0, 1) := by decide +kernel
theorem dX11_voided_115 : decode cX11_voided 115 = .ok (.getfield 82, 3) := by decide +kernel
theorem dX11_voided_118 : decode cX11_voided 118 = .ok (.iload_n 3, 1) := by decide +kernel
theorem dX11_voided_119 : decode cX11_voided 119 = .ok (.iaload, 1) := by decide +kernel
theorem dX11_voided_120 : decode cX11_voided 120 = .ok (.iadd, 1) := by decide +kernel
theorem dX11_voided_121 : decode cX11_voided 121 = .ok (.iastore, 1) := by decide +kernel
theorem dX11_voided_122 : decode cX11_voided 122 = .ok (.aload_n 0, 1) := by decide +kernel
theorem dX11_voided_123 : decode cX11_voided 123 = .ok (.iload_n 3, 1) := by decide +kernel
theorem dX11_voided_124 : decode cX11_voided 124 = .ok (.invokevirtual 368, 3) := by decide +kernel
theorem dX11_voided_127 : decode cX11_voided 127 = .ok (.iinc 3 1, 3) := by decide +kernel
theorem dX11_voided_130 : decode cX11_voided 130 = .ok (.goto (-103), 3) := by decide +kernel
theorem dX11_voided_133 : decode cX11_voided 133 = .ok (.return_, 1) := by decide +kernel
theorem dX11_stays_0 : decode cX11_stays 0 = .ok (.iload_n 1, 1) := by decide +kernel
theorem dX11_stays_1 : decode cX11_stays 1 = .ok (.bipush 20, 2) := by decide +kernel
theorem dX11_stays_3 : decode cX11_stays 3 = .ok (.idiv, 1) := by decide +kernel
theorem dX11_stays_4 : decode cX11_stays 4 = .ok (.bipush 20, 2) := by decide +kernel
theorem dX11_stays_6 : decode cX11_stays 6 = .ok (.imul, 1) := by decide +kernel
theorem dX11_stays_7 : decode cX11_stays 7 = .ok (.istore_n 2, 1) := by decide +kernel
theorem dX11_stays_8 : decode cX11_stays 8 = .ok (.iload_n 2, 1) := by decide +kernel
theorem dX11_stays_9 : decode cX11_stays 9 = .ok (.aload_n 0, 1) := by decide +kernel
theorem dX11_stays_10 : decode cX11_stays 10 = .ok (.getfield 55, 3) := by decide +kernel
theorem dX11_stays_13 : decode cX11_stays 13 = .ok (.iload_n 1, 1) := by decide +kernel
theorem dX11_stays_14 : decode cX11_stays 14 = .ok (.bipush 20, 2) := by decide +kernel
theorem dX11_stays_16 : decode cX11_stays 16 = .ok (.idiv, 1) := by decide +kernel
theorem dX11_stays_17 : decode cX11_stays 17 = .ok (.iaload, 1) := by decide +kernel
theorem dX11_stays_18 : decode cX11_stays 18 = .ok (.iadd, 1) := by decide +kernel
theorem dX11_stays_19 : decode cX11_stays 19 = .ok (.istore_n 3, 1) := by decide +kernel
theorem dX11_stays_20 : decode cX11_stays 20 = .ok (.aload_n 0, 1) := by decide +kernel
theorem dX11_stays_21 : decode cX11_stays 21 = .ok (.getfield 73, 3) := by decide +kernel
theorem dX11_stays_24 : decode cX11_stays 24 = .ok (.iload_n 1, 1) := by decide +kernel
theorem dX11_stays_25 : decode cX11_stays 25 = .ok (.iconst 5, 1) := by decide +kernel
theorem dX11_stays_26 : decode cX11_stays 26 = .ok (.iastore, 1) := by decide +kernel
theorem dX11_stays_27 : decode cX11_stays 27 = .ok (.iload_n 1, 1) := by decide +kernel
theorem dX11_stays_28 : decode cX11_stays 28 = .ok (.iload_n 2, 1) := by decide +kernel
theorem dX11_stays_29 : decode cX11_stays 29 = .ok (.if_icmp .le 16, 3) := by decide +kernel
theorem dX11_stays_32 : decode cX11_stays 32 = .ok (.aload_n 0, 1) := by decide +kernel
theorem dX11_stays_33 : decode cX11_stays 33 = .ok (.getfield 73, 3) := by decide +kernel
theorem dX11_stays_36 : decode cX11_stays 36 = .ok (.iload_n 1, 1) := by decide +kernel
theorem dX11_stays_37 : decode cX11_stays 37 = .ok (.iconst 1, 1) := by decide +kernel
theorem dX11_stays_38 : decode cX11_stays 38 = .ok (.isub, 1) := by decide +kernel
theorem dX11_stays_39 : decode cX11_stays 39 = .ok (.iaload, 1) := by decide +kernel
theorem dX11_stays_40 : decode cX11_stays 40 = .ok (.iconst 4, 1) := by decide +kernel
theorem dX11_stays_41 : decode cX11_stays 41 = .ok (.if_icmp .eq 4, 3) := by decide +kernel
theorem dX11_stays_44 : decode cX11_stays 44 = .ok (.return_, 1) := by decide +kernel
theorem dX11_stays_45 : decode cX11_stays 45 = .ok (.iload_n 1, 1) := by decide +kernel
theorem dX11_stays_46 : decode cX11_stays 46 = .ok (.istore 4, 2) := by decide +kernel
theorem dX11_stays_48 : decode cX11_stays 48 = .ok (.iload 4, 2) := by decide +kernel
theorem dX11_stays_50 : decode cX11_stays 50 = .ok (.iload_n 3, 1) := by decide +kernel
theorem dX11_stays_51 : decode cX11_stays 51 = .ok (.if_icmp .ge 74, 3) := by decide +kernel
theorem dX11_stays_54 : decode cX11_stays 54 = .ok (.aload_n 0, 1) := by decide +kernel
theorem dX11_stays_55 : decode cX11_stays 55 = .ok (.getfield 73, 3) := by decide +kernel
theorem dX11_stays_58 : decode cX11_stays 58 = .ok (.iload 4, 2) := by decide +kernel
theorem dX11_stays_60 : decode cX11_stays 60 = .ok (.iaload, 1) := by decide +kernel
theorem dX11_stays_61 : decode cX11_stays 61 = .ok (.iconst 5, 1) := by decide +kernel
theorem dX11_stays_62 : decode cX11_stays 62 = .ok (.if_icmp .ne 63, 3) := by decide +kernel
theorem dX11_stays_65 : decode cX11_stays 65 = .ok (.aload_n 0, 1) := by decide +kernel
theorem dX11_stays_66 : decode cX11_stays 66 = .ok (.getfield 73, 3) := by decide +kernel
theorem dX11_stays_69 : decode cX11_stays 69 = .ok (.iload 4, 2) := by decide +kernel
theorem dX11_stays_71 : decode cX11_stays 71 = .ok (.iconst 4, 1) := by decide +kernel
theorem dX11_stays_72 : decode cX11_stays 72 = .ok (.iastore, 1) := by decide +kernel
theorem dX11_stays_73 : decode cX11_stays 73 = .ok (.aload_n 0, 1) := by decide +kernel
theorem dX11_stays_74 : decode cX11_stays 74 = .ok (.getfield 115, 3) := by decide +kernel
theorem dX11_stays_77 : decode cX11_stays 77 = .ok (.aload_n 0, 1) := by decide +kernel
theorem dX11_stays_78 : decode cX11_stays 78 = .ok (.getfield 76, 3) := by decide +kernel
theorem dX11_stays_81 : decode cX11_stays 81 = .ok (.iload 4, 2) := by decide +kernel
theorem dX11_stays_83 : decode cX11_stays 83 = .ok (.iaload, 1) := by decide +kernel
theorem dX11_stays_84 : decode cX11_stays 84 = .ok (.dup2, 1) := by decide +kernel
theorem dX11_stays_85 : decode cX11_stays 85 = .ok (.iaload, 1) := by decide +kernel
theorem dX11_stays_86 : decode cX11_stays 86 = .ok (.aload_n 0, 1) := by decide +kernel
theorem dX11_stays_87 : decode cX11_stays 87 = .ok (.getfield 79, 3) := by decide +kernel
theorem dX11_stays_90 : decode cX11_stays 90 = .ok (.iload 4, 2) := by decide +kernel
theorem dX11_stays_92 : decode cX11_stays 92 = .ok (.iaload, 1) := by decide +kernel
theorem dX11_stays_93 : decode cX11_stays 93 = .ok (.iadd, 1) := by decide +kernel
theorem dX11_stays_94 : decode cX11_stays 94 = .ok (.iastore, 1) := by decide +kernel
theorem dX11_stays_95 : decode cX11_stays 95 = .ok (.aload_n 0, 1) := by decide +kernel
theorem dX11_stays_96 : decode cX11_stays 96 = .ok (.getfield 79, 3) := by decide +kernel
theorem dX11_stays_99 : decode cX11_stays 99 = .ok (.iload 4, 2) := by decide +kernel
theorem dX11_stays_101 : decode cX11_stays 101 = .ok (.iconst 0, 1) := by decide +kernel
theorem dX11_stays_102 : decode cX11_stays 102 = .ok (.iastore, 1) := by decide +kernel
theorem dX11_stays_103 : decode cX11_stays 103 = .ok (.aload_n 0, 1) := by decide +kernel
theorem dX11_stays_104 : decode cX11_stays 104 = .ok (.getfield 118, 3) := by decide +kernel
theorem dX11_stays_107 : decode cX11_stays 107 = .ok (.aload_n 0, 1) := by decide +kernel
theorem dX11_stays_108 : decode cX11_stays 108 = .ok (.getfield 76, 3) := by decide +kernel
theorem dX11_stays_111 : decode cX11_stays 111 = .ok (.iload 4, 2) := by decide +kernel
theorem dX11_stays_113 : decode cX11_stays 113 = .ok (.iaload, 1) := by decide +kernel
theorem dX11_stays_114 : decode cX11_stays 114 = .ok (.dup2, 1) := by decide +kernel
theorem dX11_stays_115 : decode cX11_stays 115 = .ok (.iaload, 1) := by decide +kernel
theorem dX11_stays_116 : decode cX11_stays 116 = .ok (.iconst 1, 1) := by decide +kernel
theorem dX11_stays_117 : decode cX11_stays 117 = .ok (.iadd, 1) := by decide +kernel
theorem dX11_stays_118 : decode cX11_stays 118 = .ok (.iastore, 1) := by decide +kernel
theorem dX11_stays_119 : decode cX11_stays 119 = .ok (.iinc 4 1, 3) := by decide +kernel
theorem dX11_stays_122 : decode cX11_stays 122 = .ok (.goto (-74), 3) := by decide +kernel
theorem dX11_stays_125 : decode cX11_stays 125 = .ok (.return_, 1) := by decide +kernel
theorem dX11_piece_0 : decode cX11_piece 0 = .ok (.aload_n 0, 1) := by decide +kernel
theorem dX11_piece_1 : decode cX11_piece 1 = .ok (.iload_n 1, 1) := by decide +kernel
theorem dX11_piece_2 : decode cX11_piece 2 = .ok (.iload_n 2, 1) := by decide +kernel
theorem dX11_piece_3 : decode cX11_piece 3 = .ok (.invokevirtual 336, 3) := by decide +kernel
theorem dX11_piece_6 : decode cX11_piece 6 = .ok (.ifCond .eq 26, 3) := by decide +kernel
theorem dX11_piece_9 : decode cX11_piece 9 = .ok (.aload_n 0, 1) := by decide +kernel
theorem dX11_piece_10 : decode cX11_piece 10 = .ok (.iload_n 3, 1) := by decide +kernel
theorem dX11_piece_11 : decode cX11_piece 11 = .ok (.iconst 0, 1) := by decide +kernel
theorem dX11_piece_12 : decode cX11_piece 12 = .ok (.bipush 9, 2) := by decide +kernel
theorem dX11_piece_14 : decode cX11_piece 14 = .ok (.invokestatic 276, 3) := by decide +kernel
theorem dX11_piece_17 : decode cX11_piece 17 = .ok (.ifCond .ne 7, 3) := by decide +kernel
theorem dX11_piece_20 : decode cX11_piece 20 = .ok (.iconst 1, 1) := by decide +kernel
theorem dX11_piece_21 : decode cX11_piece 21 = .ok (.goto 4, 3) := by decide +kernel
theorem dX11_piece_24 : decode cX11_piece 24 = .ok (.iconst 0, 1) := by decide +kernel
theorem dX11_piece_25 : decode cX11_piece 25 = .ok (.iconst 2, 1) := by decide +kernel
theorem dX11_piece_26 : decode cX11_piece 26 = .ok (.invokevirtual 280, 3) := by decide +kernel
theorem dX11_piece_29 : decode cX11_piece 29 = .ok (.ifCond .eq 5, 3) := by decide +kernel
theorem dX11_piece_32 : decode cX11_piece 32 = .ok (.iconst 0, 1) := by decide +kernel
theorem dX11_piece_33 : decode cX11_piece 33 = .ok (.ireturn, 1) := by decide +kernel
theorem dX11_piece_34 : decode cX11_piece 34 = .ok (.bipush 20, 2) := by decide +kernel
theorem dX11_piece_36 : decode cX11_piece 36 = .ok (.iload_n 1, 1) := by decide +kernel
theorem dX11_piece_37 : decode cX11_piece 37 = .ok (.imul, 1) := by decide +kernel
theorem dX11_piece_38 : decode cX11_piece 38 = .ok (.iload_n 2, 1) := by decide +kernel
theorem dX11_piece_39 : decode cX11_piece 39 = .ok (.iadd, 1) := by decide +kernel
theorem dX11_piece_40 : decode cX11_piece 40 = .ok (.istore 4, 2) := by decide +kernel
theorem dX11_piece_42 : decode cX11_piece 42 = .ok (.aload_n 0, 1) := by decide +kernel
theorem dX11_piece_43 : decode cX11_piece 43 = .ok (.getfield 73, 3) := by decide +kernel
theorem dX11_piece_46 : decode cX11_piece 46 = .ok (.iload 4, 2) := by decide +kernel
theorem dX11_piece_48 : decode cX11_piece 48 = .ok (.iaload, 1) := by decide +kernel
theorem dX11_piece_49 : decode cX11_piece 49 = .ok (.iconst 3, 1) := by decide +kernel
theorem dX11_piece_50 : decode cX11_piece 50 = .ok (.if_icmp .ne 7, 3) := by decide +kernel
theorem dX11_piece_53 : decode cX11_piece 53 = .ok (.iconst 1, 1) := by decide +kernel
theorem dX11_piece_54 : decode cX11_piece 54 = .ok (.goto 4, 3) := by decide +kernel
theorem dX11_piece_57 : decode cX11_piece 57 = .ok (.iconst 0, 1) := by decide +kernel
theorem dX11_piece_58 : decode cX11_piece 58 = .ok (.istore 5, 2) := by decide +kernel
theorem dX11_piece_60 : decode cX11_piece 60 = .ok (.iload_n 3, 1) := by decide +kernel
theorem dX11_piece_61 : decode cX11_piece 61 = .ok (.tableswitch 181 0 8 #[51, 59, 81, 88, 95, 112, 129, 146, 173], 51) := by decide +kernel
theorem dX11_piece_112 : decode cX11_piece 112 = .ok (.aload_n 0, 1) := by decide +kernel
theorem dX11_piece_113 : decode cX11_piece 113 = .ok (.getfield 73, 3) := by decide +kernel
theorem dX11_piece_116 : decode cX11_piece 116 = .ok (.iload 4, 2) := by decide +kernel
theorem dX11_piece_118 : decode cX11_piece 118 = .ok (.iaload, 1) := by decide +kernel
theorem dX11_piece_119 : decode cX11_piece 119 = .ok (.ireturn, 1) := by decide +kernel
theorem dX11_piece_120 : decode cX11_piece 120 = .ok (.aload_n 0, 1) := by decide +kernel
theorem dX11_piece_121 : decode cX11_piece 121 = .ok (.getfield 73, 3) := by decide +kernel
theorem dX11_piece_124 : decode cX11_piece 124 = .ok (.iload 4, 2) := by decide +kernel
theorem dX11_piece_126 : decode cX11_piece 126 = .ok (.iaload, 1) := by decide +kernel
theorem dX11_piece_127 : decode cX11_piece 127 = .ok (.ifCond .ne 7, 3) := by decide +kernel
theorem dX11_piece_130 : decode cX11_piece 130 = .ok (.iconst (-1), 1) := by decide +kernel
theorem dX11_piece_131 : decode cX11_piece 131 = .ok (.goto 10, 3) := by decide +kernel
theorem dX11_piece_134 : decode cX11_piece 134 = .ok (.aload_n 0, 1) := by decide +kernel
theorem dX11_piece_135 : decode cX11_piece 135 = .ok (.getfield 76, 3) := by decide +kernel
theorem dX11_piece_138 : decode cX11_piece 138 = .ok (.iload 4, 2) := by decide +kernel
theorem dX11_piece_140 : decode cX11_piece 140 = .ok (.iaload, 1) := by decide +kernel
theorem dX11_piece_141 : decode cX11_piece 141 = .ok (.ireturn, 1) := by decide +kernel
theorem dX11_piece_142 : decode cX11_piece 142 = .ok (.aload_n 0, 1) := by decide +kernel
theorem dX11_piece_143 : decode cX11_piece 143 = .ok (.iload 4, 2) := by decide +kernel
theorem dX11_piece_145 : decode cX11_piece 145 = .ok (.invokevirtual 327, 3) := by decide +kernel
theorem dX11_piece_148 : decode cX11_piece 148 = .ok (.ireturn, 1) := by decide +kernel
theorem dX11_piece_149 : decode cX11_piece 149 = .ok (.aload_n 0, 1) := by decide +kernel
theorem dX11_piece_150 : decode cX11_piece 150 = .ok (.iload 4, 2) := by decide +kernel
theorem dX11_piece_152 : decode cX11_piece 152 = .ok (.invokevirtual 346, 3) := by decide +kernel
theorem dX11_piece_155 : decode cX11_piece 155 = .ok (.ireturn, 1) := by decide +kernel
theorem dX11_piece_156 : decode cX11_piece 156 = .ok (.iload 5, 2) := by decide +kernel
theorem dX11_piece_158 : decode cX11_piece 158 = .ok (.ifCond .eq 13, 3) := by decide +kernel
theorem dX11_piece_161 : decode cX11_piece 161 = .ok (.aload_n 0, 1) := by decide +kernel
theorem dX11_piece_162 : decode cX11_piece 162 = .ok (.getfield 91, 3) := by decide +kernel
theorem dX11_piece_165 : decode cX11_piece 165 = .ok (.iload 4, 2) := by decide +kernel
theorem dX11_piece_167 : decode cX11_piece 167 = .ok (.iaload, 1) := by decide +kernel
theorem dX11_piece_168 : decode cX11_piece 168 = .ok (.goto 4, 3) := by decide +kernel
theorem dX11_piece_171 : decode cX11_piece 171 = .ok (.iconst (-1), 1) := by decide +kernel
theorem dX11_piece_172 : decode cX11_piece 172 = .ok (.ireturn, 1) := by decide +kernel
theorem dX11_piece_173 : decode cX11_piece 173 = .ok (.iload 5, 2) := by decide +kernel
theorem dX11_piece_175 : decode cX11_piece 175 = .ok (.ifCond .eq 13, 3) := by decide +kernel
theorem dX11_piece_178 : decode cX11_piece 178 = .ok (.aload_n 0, 1) := by decide +kernel
theorem dX11_piece_179 : decode cX11_piece 179 = .ok (.getfield 94, 3) := by decide +kernel
theorem dX11_piece_182 : decode cX11_piece 182 = .ok (.iload 4, 2) := by decide +kernel
theorem dX11_piece_184 : decode cX11_piece 184 = .ok (.iaload, 1) := by decide +kernel
theorem dX11_piece_185 : decode cX11_piece 185 = .ok (.goto 4, 3) := by decide +kernel
theorem dX11_piece_188 : decode cX11_piece 188 = .ok (.iconst (-1), 1) := by decide +kernel
theorem dX11_piece_189 : decode cX11_piece 189 = .ok (.ireturn, 1) := by decide +kernel
theorem dX11_piece_190 : decode cX11_piece 190 = .ok (.iload 5, 2) := by decide +kernel
theorem dX11_piece_192 : decode cX11_piece 192 = .ok (.ifCond .eq 13, 3) := by decide +kernel
theorem dX11_piece_195 : decode cX11_piece 195 = .ok (.aload_n 0, 1) := by decide +kernel
theorem dX11_piece_196 : decode cX11_piece 196 = .ok (.getfield 100, 3) := by decide +kernel
theorem dX11_piece_199 : decode cX11_piece 199 = .ok (.iload 4, 2) := by decide +kernel
theorem dX11_piece_201 : decode cX11_piece 201 = .ok (.iaload, 1) := by decide +kernel
theorem dX11_piece_202 : decode cX11_piece 202 = .ok (.goto 4, 3) := by decide +kernel
theorem dX11_piece_205 : decode cX11_piece 205 = .ok (.iconst (-1), 1) := by decide +kernel
theorem dX11_piece_206 : decode cX11_piece 206 = .ok (.ireturn, 1) := by decide +kernel
theorem dX11_piece_207 : decode cX11_piece 207 = .ok (.iload 5, 2) := by decide +kernel
theorem dX11_piece_209 : decode cX11_piece 209 = .ok (.ifCond .eq 23, 3) := by decide +kernel
theorem dX11_piece_212 : decode cX11_piece 212 = .ok (.aload_n 0, 1) := by decide +kernel
theorem dX11_piece_213 : decode cX11_piece 213 = .ok (.getfield 94, 3) := by decide +kernel
theorem dX11_piece_216 : decode cX11_piece 216 = .ok (.iload 4, 2) := by decide +kernel
theorem dX11_piece_218 : decode cX11_piece 218 = .ok (.iaload, 1) := by decide +kernel
theorem dX11_piece_219 : decode cX11_piece 219 = .ok (.aload_n 0, 1) := by decide +kernel
theorem dX11_piece_220 : decode cX11_piece 220 = .ok (.getfield 100, 3) := by decide +kernel
theorem dX11_piece_223 : decode cX11_piece 223 = .ok (.iload 4, 2) := by decide +kernel
theorem dX11_piece_225 : decode cX11_piece 225 = .ok (.iaload, 1) := by decide +kernel
theorem dX11_piece_226 : decode cX11_piece 226 = .ok (.iadd, 1) := by decide +kernel
theorem dX11_piece_227 : decode cX11_piece 227 = .ok (.iconst 2, 1) := by decide +kernel
theorem dX11_piece_228 : decode cX11_piece 228 = .ok (.idiv, 1) := by decide +kernel
theorem dX11_piece_229 : decode cX11_piece 229 = .ok (.goto 4, 3) := by decide +kernel
theorem dX11_piece_232 : decode cX11_piece 232 = .ok (.iconst (-1), 1) := by decide +kernel
theorem dX11_piece_233 : decode cX11_piece 233 = .ok (.ireturn, 1) := by decide +kernel
theorem dX11_piece_234 : decode cX11_piece 234 = .ok (.aload_n 0, 1) := by decide +kernel
theorem dX11_piece_235 : decode cX11_piece 235 = .ok (.getfield 112, 3) := by decide +kernel
theorem dX11_piece_238 : decode cX11_piece 238 = .ok (.iload 4, 2) := by decide +kernel
theorem dX11_piece_240 : decode cX11_piece 240 = .ok (.iaload, 1) := by decide +kernel
theorem dX11_piece_241 : decode cX11_piece 241 = .ok (.ireturn, 1) := by decide +kernel
theorem dX11_piece_242 : decode cX11_piece 242 = .ok (.aload_n 0, 1) := by decide +kernel
theorem dX11_piece_243 : decode cX11_piece 243 = .ok (.getfield 73, 3) := by decide +kernel
theorem dX11_piece_246 : decode cX11_piece 246 = .ok (.iload 4, 2) := by decide +kernel
theorem dX11_piece_248 : decode cX11_piece 248 = .ok (.iaload, 1) := by decide +kernel
theorem dX11_piece_249 : decode cX11_piece 249 = .ok (.ifCond .eq 14, 3) := by decide +kernel
theorem dX11_piece_252 : decode cX11_piece 252 = .ok (.aload_n 0, 1) := by decide +kernel
theorem dX11_piece_253 : decode cX11_piece 253 = .ok (.getfield 73, 3) := by decide +kernel
theorem dX11_piece_256 : decode cX11_piece 256 = .ok (.iload 4, 2) := by decide +kernel
theorem dX11_piece_258 : decode cX11_piece 258 = .ok (.iaload, 1) := by decide +kernel
theorem dX11_piece_259 : decode cX11_piece 259 = .ok (.iconst 1, 1) := by decide +kernel
theorem dX11_piece_260 : decode cX11_piece 260 = .ok (.if_icmp .ne 7, 3) := by decide +kernel
theorem dX11_piece_263 : decode cX11_piece 263 = .ok (.iconst 0, 1) := by decide +kernel
theorem dX11_piece_264 : decode cX11_piece 264 = .ok (.goto 10, 3) := by decide +kernel
theorem dX11_piece_267 : decode cX11_piece 267 = .ok (.aload_n 0, 1) := by decide +kernel
theorem dX11_piece_268 : decode cX11_piece 268 = .ok (.getfield 88, 3) := by decide +kernel
theorem dX11_piece_271 : decode cX11_piece 271 = .ok (.iload 4, 2) := by decide +kernel
theorem dX11_piece_273 : decode cX11_piece 273 = .ok (.iaload, 1) := by decide +kernel
theorem dX11_piece_274 : decode cX11_piece 274 = .ok (.ireturn, 1) := by decide +kernel
theorem dX11_passes_0 : decode cX11_passes 0 = .ok (.aload_n 0, 1) := by decide +kernel
theorem dX11_passes_1 : decode cX11_passes 1 = .ok (.getfield 73, 3) := by decide +kernel
theorem dX11_passes_4 : decode cX11_passes 4 = .ok (.iload_n 1, 1) := by decide +kernel
theorem dX11_passes_5 : decode cX11_passes 5 = .ok (.iaload, 1) := by decide +kernel
theorem dX11_passes_6 : decode cX11_passes 6 = .ok (.iconst 1, 1) := by decide +kernel
theorem dX11_passes_7 : decode cX11_passes 7 = .ok (.if_icmp .ne 54, 3) := by decide +kernel
theorem dX11_passes_10 : decode cX11_passes 10 = .ok (.aload_n 0, 1) := by decide +kernel
theorem dX11_passes_11 : decode cX11_passes 11 = .ok (.getfield 85, 3) := by decide +kernel
theorem dX11_passes_14 : decode cX11_passes 14 = .ok (.iload_n 1, 1) := by decide +kernel
theorem dX11_passes_15 : decode cX11_passes 15 = .ok (.iaload, 1) := by decide +kernel
theorem dX11_passes_16 : decode cX11_passes 16 = .ok (.aload_n 0, 1) := by decide +kernel
theorem dX11_passes_17 : decode cX11_passes 17 = .ok (.getfield 340, 3) := by decide +kernel
theorem dX11_passes_20 : decode cX11_passes 20 = .ok (.if_icmp .ge 41, 3) := by decide +kernel
theorem dX11_passes_23 : decode cX11_passes 23 = .ok (.aload_n 0, 1) := by decide +kernel
theorem dX11_passes_24 : decode cX11_passes 24 = .ok (.dup, 1) := by decide +kernel
theorem dX11_passes_25 : decode cX11_passes 25 = .ok (.getfield 359, 3) := by decide +kernel
theorem dX11_passes_28 : decode cX11_passes 28 = .ok (.aload_n 0, 1) := by decide +kernel
theorem dX11_passes_29 : decode cX11_passes 29 = .ok (.getfield 82, 3) := by decide +kernel
theorem dX11_passes_32 : decode cX11_passes 32 = .ok (.iload_n 1, 1) := by decide +kernel
theorem dX11_passes_33 : decode cX11_passes 33 = .ok (.iaload, 1) := by decide +kernel
theorem dX11_passes_34 : decode cX11_passes 34 = .ok (.iadd, 1) := by decide +kernel
theorem dX11_passes_35 : decode cX11_passes 35 = .ok (.putfield 359, 3) := by decide +kernel
theorem dX11_passes_38 : decode cX11_passes 38 = .ok (.aload_n 0, 1) := by decide +kernel
theorem dX11_passes_39 : decode cX11_passes 39 = .ok (.getfield 121, 3) := by decide +kernel
theorem dX11_passes_42 : decode cX11_passes 42 = .ok (.aload_n 0, 1) := by decide +kernel
theorem dX11_passes_43 : decode cX11_passes 43 = .ok (.getfield 76, 3) := by decide +kernel
theorem dX11_passes_46 : decode cX11_passes 46 = .ok (.iload_n 1, 1) := by decide +kernel
theorem dX11_passes_47 : decode cX11_passes 47 = .ok (.iaload, 1) := by decide +kernel
theorem dX11_passes_48 : decode cX11_passes 48 = .ok (.dup2, 1) := by decide +kernel
theorem dX11_passes_49 : decode cX11_passes 49 = .ok (.iaload, 1) := by decide +kernel
theorem dX11_passes_50 : decode cX11_passes 50 = .ok (.iconst 1, 1) := by decide +kernel
theorem dX11_passes_51 : decode cX11_passes 51 = .ok (.iadd, 1) := by decide +kernel
theorem dX11_passes_52 : decode cX11_passes 52 = .ok (.iastore, 1) := by decide +kernel
theorem dX11_passes_53 : decode cX11_passes 53 = .ok (.aload_n 0, 1) := by decide +kernel
theorem dX11_passes_54 : decode cX11_passes 54 = .ok (.iload_n 1, 1) := by decide +kernel
theorem dX11_passes_55 : decode cX11_passes 55 = .ok (.invokevirtual 368, 3) := by decide +kernel
theorem dX11_passes_58 : decode cX11_passes 58 = .ok (.goto 133, 3) := by decide +kernel
theorem dX11_passes_61 : decode cX11_passes 61 = .ok (.aload_n 0, 1) := by decide +kernel
theorem dX11_passes_62 : decode cX11_passes 62 = .ok (.getfield 73, 3) := by decide +kernel
theorem dX11_passes_65 : decode cX11_passes 65 = .ok (.iload_n 1, 1) := by decide +kernel
theorem dX11_passes_66 : decode cX11_passes 66 = .ok (.iaload, 1) := by decide +kernel
theorem dX11_passes_67 : decode cX11_passes 67 = .ok (.iconst 2, 1) := by decide +kernel
theorem dX11_passes_68 : decode cX11_passes 68 = .ok (.if_icmp .ne 56, 3) := by decide +kernel
theorem dX11_passes_71 : decode cX11_passes 71 = .ok (.aload_n 0, 1) := by decide +kernel
theorem dX11_passes_72 : decode cX11_passes 72 = .ok (.getfield 340, 3) := by decide +kernel
theorem dX11_passes_75 : decode cX11_passes 75 = .ok (.aload_n 0, 1) := by decide +kernel
theorem dX11_passes_76 : decode cX11_passes 76 = .ok (.getfield 85, 3) := by decide +kernel
theorem dX11_passes_79 : decode cX11_passes 79 = .ok (.iload_n 1, 1) := by decide +kernel
theorem dX11_passes_80 : decode cX11_passes 80 = .ok (.iaload, 1) := by decide +kernel
theorem dX11_passes_81 : decode cX11_passes 81 = .ok (.isub, 1) := by decide +kernel
theorem dX11_passes_82 : decode cX11_passes 82 = .ok (.aload_n 0, 1) := by decide +kernel
theorem dX11_passes_83 : decode cX11_passes 83 = .ok (.getfield 64, 3) := by decide +kernel
theorem dX11_passes_86 : decode cX11_passes 86 = .ok (.if_icmp .lt 38, 3) := by decide +kernel
theorem dX11_passes_89 : decode cX11_passes 89 = .ok (.aload_n 0, 1) := by decide +kernel
theorem dX11_passes_90 : decode cX11_passes 90 = .ok (.getfield 115, 3) := by decide +kernel
theorem dX11_passes_93 : decode cX11_passes 93 = .ok (.aload_n 0, 1) := by decide +kernel
theorem dX11_passes_94 : decode cX11_passes 94 = .ok (.getfield 76, 3) := by decide +kernel
theorem dX11_passes_97 : decode cX11_passes 97 = .ok (.iload_n 1, 1) := by decide +kernel
theorem dX11_passes_98 : decode cX11_passes 98 = .ok (.iaload, 1) := by decide +kernel
theorem dX11_passes_99 : decode cX11_passes 99 = .ok (.dup2, 1) := by decide +kernel
theorem dX11_passes_100 : decode cX11_passes 100 = .ok (.iaload, 1) := by decide +kernel
theorem dX11_passes_101 : decode cX11_passes 101 = .ok (.aload_n 0, 1) := by decide +kernel
theorem dX11_passes_102 : decode cX11_passes 102 = .ok (.getfield 82, 3) := by decide +kernel
theorem dX11_passes_105 : decode cX11_passes 105 = .ok (.iload_n 1, 1) := by decide +kernel
theorem dX11_passes_106 : decode cX11_passes 106 = .ok (.iaload, 1) := by decide +kernel
theorem dX11_passes_107 : decode cX11_passes 107 = .ok (.iadd, 1) := by decide +kernel
theorem dX11_passes_108 : decode cX11_passes 108 = .ok (.iastore, 1) := by decide +kernel
theorem dX11_passes_109 : decode cX11_passes 109 = .ok (.aload_n 0, 1) := by decide +kernel
theorem dX11_passes_110 : decode cX11_passes 110 = .ok (.getfield 82, 3) := by decide +kernel
theorem dX11_passes_113 : decode cX11_passes 113 = .ok (.iload_n 1, 1) := by decide +kernel
theorem dX11_passes_114 : decode cX11_passes 114 = .ok (.iconst 0, 1) := by decide +kernel
theorem dX11_passes_115 : decode cX11_passes 115 = .ok (.iastore, 1) := by decide +kernel
theorem dX11_passes_116 : decode cX11_passes 116 = .ok (.aload_n 0, 1) := by decide +kernel
theorem dX11_passes_117 : decode cX11_passes 117 = .ok (.iload_n 1, 1) := by decide +kernel
theorem dX11_passes_118 : decode cX11_passes 118 = .ok (.invokevirtual 365, 3) := by decide +kernel
theorem dX11_passes_121 : decode cX11_passes 121 = .ok (.goto 70, 3) := by decide +kernel
theorem dX11_passes_124 : decode cX11_passes 124 = .ok (.aload_n 0, 1) := by decide +kernel
theorem dX11_passes_125 : decode cX11_passes 125 = .ok (.getfield 73, 3) := by decide +kernel
theorem dX11_passes_128 : decode cX11_passes 128 = .ok (.iload_n 1, 1) := by decide +kernel
theorem dX11_passes_129 : decode cX11_passes 129 = .ok (.iaload, 1) := by decide +kernel
theorem dX11_passes_130 : decode cX11_passes 130 = .ok (.iconst 3, 1) := by decide +kernel
theorem dX11_passes_131 : decode cX11_passes 131 = .ok (.if_icmp .ne 60, 3) := by decide +kernel
theorem dX11_passes_134 : decode cX11_passes 134 = .ok (.aload_n 0, 1) := by decide +kernel
theorem dX11_passes_135 : decode cX11_passes 135 = .ok (.getfield 340, 3) := by decide +kernel
theorem dX11_passes_138 : decode cX11_passes 138 = .ok (.aload_n 0, 1) := by decide +kernel
theorem dX11_passes_139 : decode cX11_passes 139 = .ok (.getfield 85, 3) := by decide +kernel
theorem dX11_passes_142 : decode cX11_passes 142 = .ok (.iload_n 1, 1) := by decide +kernel
theorem dX11_passes_143 : decode cX11_passes 143 = .ok (.iaload, 1) := by decide +kernel
theorem dX11_passes_144 : decode cX11_passes 144 = .ok (.isub, 1) := by decide +kernel
theorem dX11_passes_145 : decode cX11_passes 145 = .ok (.aload_n 0, 1) := by decide +kernel
theorem dX11_passes_146 : decode cX11_passes 146 = .ok (.getfield 67, 3) := by decide +kernel
theorem dX11_passes_149 : decode cX11_passes 149 = .ok (.if_icmp .lt 42, 3) := by decide +kernel
theorem dX11_passes_152 : decode cX11_passes 152 = .ok (.aload_n 0, 1) := by decide +kernel
theorem dX11_passes_153 : decode cX11_passes 153 = .ok (.iload_n 1, 1) := by decide +kernel
theorem dX11_passes_154 : decode cX11_passes 154 = .ok (.aload_n 0, 1) := by decide +kernel
theorem dX11_passes_155 : decode cX11_passes 155 = .ok (.getfield 109, 3) := by decide +kernel
theorem dX11_passes_158 : decode cX11_passes 158 = .ok (.iconst 2, 1) := by decide +kernel
theorem dX11_passes_159 : decode cX11_passes 159 = .ok (.iload_n 1, 1) := by decide +kernel
theorem dX11_passes_160 : decode cX11_passes 160 = .ok (.imul, 1) := by decide +kernel
theorem dX11_passes_161 : decode cX11_passes 161 = .ok (.baload, 1) := by decide +kernel
theorem dX11_passes_162 : decode cX11_passes 162 = .ok (.ifCond .ne 7, 3) := by decide +kernel
theorem dX11_passes_165 : decode cX11_passes 165 = .ok (.iconst 1, 1) := by decide +kernel
theorem dX11_passes_166 : decode cX11_passes 166 = .ok (.goto 4, 3) := by decide +kernel
theorem dX11_passes_169 : decode cX11_passes 169 = .ok (.iconst 0, 1) := by decide +kernel
theorem dX11_passes_170 : decode cX11_passes 170 = .ok (.aload_n 0, 1) := by decide +kernel
theorem dX11_passes_171 : decode cX11_passes 171 = .ok (.getfield 109, 3) := by decide +kernel
theorem dX11_passes_174 : decode cX11_passes 174 = .ok (.iconst 2, 1) := by decide +kernel
theorem dX11_passes_175 : decode cX11_passes 175 = .ok (.iload_n 1, 1) := by decide +kernel
theorem dX11_passes_176 : decode cX11_passes 176 = .ok (.imul, 1) := by decide +kernel
theorem dX11_passes_177 : decode cX11_passes 177 = .ok (.iconst 1, 1) := by decide +kernel
theorem dX11_passes_178 : decode cX11_passes 178 = .ok (.iadd, 1) := by decide +kernel
theorem dX11_passes_179 : decode cX11_passes 179 = .ok (.baload, 1) := by decide +kernel
theorem dX11_passes_180 : decode cX11_passes 180 = .ok (.ifCond .ne 7, 3) := by decide +kernel
theorem dX11_passes_183 : decode cX11_passes 183 = .ok (.iconst 1, 1) := by decide +kernel
theorem dX11_passes_184 : decode cX11_passes 184 = .ok (.goto 4, 3) := by decide +kernel
theorem dX11_passes_187 : decode cX11_passes 187 = .ok (.iconst 0, 1) := by decide +kernel
theorem dX11_passes_188 : decode cX11_passes 188 = .ok (.invokevirtual 355, 3) := by decide +kernel
theorem dX11_passes_191 : decode cX11_passes 191 = .ok (.return_, 1) := by decide +kernel
theorem dX11_tick_0 : decode cX11_tick 0 = .ok (.aload_n 0, 1) := by decide +kernel
theorem dX11_tick_1 : decode cX11_tick 1 = .ok (.iconst 0, 1) := by decide +kernel
theorem dX11_tick_2 : decode cX11_tick 2 = .ok (.putfield 151, 3) := by decide +kernel
theorem dX11_tick_5 : decode cX11_tick 5 = .ok (.aload_n 0, 1) := by decide +kernel
theorem dX11_tick_6 : decode cX11_tick 6 = .ok (.iload_n 1, 1) := by decide +kernel
theorem dX11_tick_7 : decode cX11_tick 7 = .ok (.iconst 0, 1) := by decide +kernel
theorem dX11_tick_8 : decode cX11_tick 8 = .ok (.sipush 1000, 3) := by decide +kernel
theorem dX11_tick_11 : decode cX11_tick 11 = .ok (.invokestatic 276, 3) := by decide +kernel
theorem dX11_tick_14 : decode cX11_tick 14 = .ok (.ifCond .ne 7, 3) := by decide +kernel
theorem dX11_tick_17 : decode cX11_tick 17 = .ok (.iconst 1, 1) := by decide +kernel
theorem dX11_tick_18 : decode cX11_tick 18 = .ok (.goto 4, 3) := by decide +kernel
theorem dX11_tick_21 : decode cX11_tick 21 = .ok (.iconst 0, 1) := by decide +kernel
theorem dX11_tick_22 : decode cX11_tick 22 = .ok (.iconst 1, 1) := by decide +kernel
theorem dX11_tick_23 : decode cX11_tick 23 = .ok (.invokevirtual 280, 3) := by decide +kernel
theorem dX11_tick_26 : decode cX11_tick 26 = .ok (.ifCond .ne 28, 3) := by decide +kernel
theorem dX11_tick_29 : decode cX11_tick 29 = .ok (.aload_n 0, 1) := by decide +kernel
theorem dX11_tick_30 : decode cX11_tick 30 = .ok (.aload_n 0, 1) := by decide +kernel
theorem dX11_tick_31 : decode cX11_tick 31 = .ok (.getfield 340, 3) := by decide +kernel
theorem dX11_tick_34 : decode cX11_tick 34 = .ok (.iload_n 1, 1) := by decide +kernel
theorem dX11_tick_35 : decode cX11_tick 35 = .ok (.iadd, 1) := by decide +kernel
theorem dX11_tick_36 : decode cX11_tick 36 = .ok (.ldc_w 371, 3) := by decide +kernel
theorem dX11_tick_39 : decode cX11_tick 39 = .ok (.if_icmp .le 7, 3) := by decide +kernel
theorem dX11_tick_42 : decode cX11_tick 42 = .ok (.iconst 1, 1) := by decide +kernel
theorem dX11_tick_43 : decode cX11_tick 43 = .ok (.goto 4, 3) := by decide +kernel
theorem dX11_tick_46 : decode cX11_tick 46 = .ok (.iconst 0, 1) := by decide +kernel
theorem dX11_tick_47 : decode cX11_tick 47 = .ok (.iconst 2, 1) := by decide +kernel
theorem dX11_tick_48 : decode cX11_tick 48 = .ok (.invokevirtual 280, 3) := by decide +kernel
theorem dX11_tick_51 : decode cX11_tick 51 = .ok (.ifCond .eq 5, 3) := by decide +kernel
theorem dX11_tick_54 : decode cX11_tick 54 = .ok (.iconst 0, 1) := by decide +kernel
theorem dX11_tick_55 : decode cX11_tick 55 = .ok (.ireturn, 1) := by decide +kernel
theorem dX11_tick_56 : decode cX11_tick 56 = .ok (.iconst 0, 1) := by decide +kernel
theorem dX11_tick_57 : decode cX11_tick 57 = .ok (.istore_n 2, 1) := by decide +kernel
theorem dX11_tick_58 : decode cX11_tick 58 = .ok (.iload_n 2, 1) := by decide +kernel
theorem dX11_tick_59 : decode cX11_tick 59 = .ok (.iload_n 1, 1) := by decide +kernel
theorem dX11_tick_60 : decode cX11_tick 60 = .ok (.if_icmp .ge 66, 3) := by decide +kernel
theorem dX11_tick_63 : decode cX11_tick 63 = .ok (.aload_n 0, 1) := by decide +kernel
theorem dX11_tick_64 : decode cX11_tick 64 = .ok (.dup, 1) := by decide +kernel
theorem dX11_tick_65 : decode cX11_tick 65 = .ok (.getfield 340, 3) := by decide +kernel
theorem dX11_tick_68 : decode cX11_tick 68 = .ok (.iconst 1, 1) := by decide +kernel
theorem dX11_tick_69 : decode cX11_tick 69 = .ok (.iadd, 1) := by decide +kernel
theorem dX11_tick_70 : decode cX11_tick 70 = .ok (.putfield 340, 3) := by decide +kernel
theorem dX11_tick_73 : decode cX11_tick 73 = .ok (.iconst 0, 1) := by decide +kernel
theorem dX11_tick_74 : decode cX11_tick 74 = .ok (.istore_n 3, 1) := by decide +kernel
theorem dX11_tick_75 : decode cX11_tick 75 = .ok (.iload_n 3, 1) := by decide +kernel
theorem dX11_tick_76 : decode cX11_tick 76 = .ok (.aload_n 0, 1) := by decide +kernel
theorem dX11_tick_77 : decode cX11_tick 77 = .ok (.getfield 205, 3) := by decide +kernel
theorem dX11_tick_80 : decode cX11_tick 80 = .ok (.if_icmp .ge 40, 3) := by decide +kernel
theorem dX11_tick_83 : decode cX11_tick 83 = .ok (.iconst 0, 1) := by decide +kernel
theorem dX11_tick_84 : decode cX11_tick 84 = .ok (.istore 4, 2) := by decide +kernel
theorem dX11_tick_86 : decode cX11_tick 86 = .ok (.iload 4, 2) := by decide +kernel
theorem dX11_tick_88 : decode cX11_tick 88 = .ok (.aload_n 0, 1) := by decide +kernel
theorem dX11_tick_89 : decode cX11_tick 89 = .ok (.getfield 55, 3) := by decide +kernel
theorem dX11_tick_92 : decode cX11_tick 92 = .ok (.iload_n 3, 1) := by decide +kernel
theorem dX11_tick_93 : decode cX11_tick 93 = .ok (.iaload, 1) := by decide +kernel
theorem dX11_tick_94 : decode cX11_tick 94 = .ok (.if_icmp .ge 20, 3) := by decide +kernel
theorem dX11_tick_97 : decode cX11_tick 97 = .ok (.aload_n 0, 1) := by decide +kernel
theorem dX11_tick_98 : decode cX11_tick 98 = .ok (.bipush 20, 2) := by decide +kernel
theorem dX11_tick_100 : decode cX11_tick 100 = .ok (.iload_n 3, 1) := by decide +kernel
theorem dX11_tick_101 : decode cX11_tick 101 = .ok (.imul, 1) := by decide +kernel
theorem dX11_tick_102 : decode cX11_tick 102 = .ok (.iload 4, 2) := by decide +kernel
theorem dX11_tick_104 : decode cX11_tick 104 = .ok (.iadd, 1) := by decide +kernel
theorem dX11_tick_105 : decode cX11_tick 105 = .ok (.invokevirtual 372, 3) := by decide +kernel
theorem dX11_tick_108 : decode cX11_tick 108 = .ok (.iinc 4 1, 3) := by decide +kernel
theorem dX11_tick_111 : decode cX11_tick 111 = .ok (.goto (-25), 3) := by decide +kernel
theorem dX11_tick_114 : decode cX11_tick 114 = .ok (.iinc 3 1, 3) := by decide +kernel
theorem dX11_tick_117 : decode cX11_tick 117 = .ok (.goto (-42), 3) := by decide +kernel
theorem dX11_tick_120 : decode cX11_tick 120 = .ok (.iinc 2 1, 3) := by decide +kernel
theorem dX11_tick_123 : decode cX11_tick 123 = .ok (.goto (-65), 3) := by decide +kernel
theorem dX11_tick_126 : decode cX11_tick 126 = .ok (.aload_n 0, 1) := by decide +kernel
theorem dX11_tick_127 : decode cX11_tick 127 = .ok (.getfield 340, 3) := by decide +kernel
theorem dX11_tick_130 : decode cX11_tick 130 = .ok (.ireturn, 1) := by decide +kernel

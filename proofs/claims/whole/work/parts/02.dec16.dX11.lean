theorem dX11_costAt_0 : decode cX11_costAt 0 = .ok (.iload_n 2, 1) := by decide +kernel
theorem dX11_costAt_1 : decode cX11_costAt 1 = .ok (.aload_n 0, 1) := by decide +kernel
theorem dX11_costAt_2 : decode cX11_costAt 2 = .ok (.getfield 7, 3) := by decide +kernel
theorem dX11_costAt_5 : decode cX11_costAt 5 = .ok (.bipush 54, 2) := by decide +kernel
theorem dX11_costAt_7 : decode cX11_costAt 7 = .ok (.iconst 2, 1) := by decide +kernel
theorem dX11_costAt_8 : decode cX11_costAt 8 = .ok (.iload_n 1, 1) := by decide +kernel
theorem dX11_costAt_9 : decode cX11_costAt 9 = .ok (.imul, 1) := by decide +kernel
theorem dX11_costAt_10 : decode cX11_costAt 10 = .ok (.iadd, 1) := by decide +kernel
theorem dX11_costAt_11 : decode cX11_costAt 11 = .ok (.iaload, 1) := by decide +kernel
theorem dX11_costAt_12 : decode cX11_costAt 12 = .ok (.aload_n 0, 1) := by decide +kernel
theorem dX11_costAt_13 : decode cX11_costAt 13 = .ok (.getfield 7, 3) := by decide +kernel
theorem dX11_costAt_16 : decode cX11_costAt 16 = .ok (.bipush 54, 2) := by decide +kernel
theorem dX11_costAt_18 : decode cX11_costAt 18 = .ok (.iconst 2, 1) := by decide +kernel
theorem dX11_costAt_19 : decode cX11_costAt 19 = .ok (.iload_n 1, 1) := by decide +kernel
theorem dX11_costAt_20 : decode cX11_costAt 20 = .ok (.imul, 1) := by decide +kernel
theorem dX11_costAt_21 : decode cX11_costAt 21 = .ok (.iadd, 1) := by decide +kernel
theorem dX11_costAt_22 : decode cX11_costAt 22 = .ok (.iconst 1, 1) := by decide +kernel
theorem dX11_costAt_23 : decode cX11_costAt 23 = .ok (.iadd, 1) := by decide +kernel
theorem dX11_costAt_24 : decode cX11_costAt 24 = .ok (.iaload, 1) := by decide +kernel
theorem dX11_costAt_25 : decode cX11_costAt 25 = .ok (.invokestatic 58, 3) := by decide +kernel
theorem dX11_costAt_28 : decode cX11_costAt 28 = .ok (.ireturn, 1) := by decide +kernel
theorem dX11_costFrom_0 : decode cX11_costFrom 0 = .ok (.aload_n 0, 1) := by decide +kernel
theorem dX11_costFrom_1 : decode cX11_costFrom 1 = .ok (.getfield 23, 3) := by decide +kernel
theorem dX11_costFrom_4 : decode cX11_costFrom 4 = .ok (.bipush 8, 2) := by decide +kernel
theorem dX11_costFrom_6 : decode cX11_costFrom 6 = .ok (.iload_n 1, 1) := by decide +kernel
theorem dX11_costFrom_7 : decode cX11_costFrom 7 = .ok (.iconst 1, 1) := by decide +kernel
theorem dX11_costFrom_8 : decode cX11_costFrom 8 = .ok (.iadd, 1) := by decide +kernel
theorem dX11_costFrom_9 : decode cX11_costFrom 9 = .ok (.imul, 1) := by decide +kernel
theorem dX11_costFrom_10 : decode cX11_costFrom 10 = .ok (.aload_n 0, 1) := by decide +kernel
theorem dX11_costFrom_11 : decode cX11_costFrom 11 = .ok (.iload_n 2, 1) := by decide +kernel
theorem dX11_costFrom_12 : decode cX11_costFrom 12 = .ok (.iload_n 3, 1) := by decide +kernel
theorem dX11_costFrom_13 : decode cX11_costFrom 13 = .ok (.invokevirtual 88, 3) := by decide +kernel
theorem dX11_costFrom_16 : decode cX11_costFrom 16 = .ok (.iadd, 1) := by decide +kernel
theorem dX11_costFrom_17 : decode cX11_costFrom 17 = .ok (.iaload, 1) := by decide +kernel
theorem dX11_costFrom_18 : decode cX11_costFrom 18 = .ok (.istore 5, 2) := by decide +kernel
theorem dX11_costFrom_20 : decode cX11_costFrom 20 = .ok (.iload 5, 2) := by decide +kernel
theorem dX11_costFrom_22 : decode cX11_costFrom 22 = .ok (.ldc 57, 2) := by decide +kernel
theorem dX11_costFrom_24 : decode cX11_costFrom 24 = .ok (.if_icmp .ne 8, 3) := by decide +kernel
theorem dX11_costFrom_27 : decode cX11_costFrom 27 = .ok (.ldc 57, 2) := by decide +kernel
theorem dX11_costFrom_29 : decode cX11_costFrom 29 = .ok (.goto 22, 3) := by decide +kernel
theorem dX11_costFrom_32 : decode cX11_costFrom 32 = .ok (.iload 5, 2) := by decide +kernel
theorem dX11_costFrom_34 : decode cX11_costFrom 34 = .ok (.aload_n 0, 1) := by decide +kernel
theorem dX11_costFrom_35 : decode cX11_costFrom 35 = .ok (.iload_n 1, 1) := by decide +kernel
theorem dX11_costFrom_36 : decode cX11_costFrom 36 = .ok (.aload_n 0, 1) := by decide +kernel
theorem dX11_costFrom_37 : decode cX11_costFrom 37 = .ok (.iload_n 2, 1) := by decide +kernel
theorem dX11_costFrom_38 : decode cX11_costFrom 38 = .ok (.iload_n 3, 1) := by decide +kernel
theorem dX11_costFrom_39 : decode cX11_costFrom 39 = .ok (.invokevirtual 94, 3) := by decide +kernel
theorem dX11_costFrom_42 : decode cX11_costFrom 42 = .ok (.iload 4, 2) := by decide +kernel
theorem dX11_costFrom_44 : decode cX11_costFrom 44 = .ok (.invokestatic 62, 3) := by decide +kernel
theorem dX11_costFrom_47 : decode cX11_costFrom 47 = .ok (.invokevirtual 129, 3) := by decide +kernel
theorem dX11_costFrom_50 : decode cX11_costFrom 50 = .ok (.iadd, 1) := by decide +kernel
theorem dX11_costFrom_51 : decode cX11_costFrom 51 = .ok (.ireturn, 1) := by decide +kernel
theorem dX11_finds_0 : decode cX11_finds 0 = .ok (.iconst 0, 1) := by decide +kernel
theorem dX11_finds_1 : decode cX11_finds 1 = .ok (.istore_n 3, 1) := by decide +kernel
theorem dX11_finds_2 : decode cX11_finds 2 = .ok (.iload_n 3, 1) := by decide +kernel
theorem dX11_finds_3 : decode cX11_finds 3 = .ok (.aload_n 0, 1) := by decide +kernel
theorem dX11_finds_4 : decode cX11_finds 4 = .ok (.invokevirtual 73, 3) := by decide +kernel
theorem dX11_finds_7 : decode cX11_finds 7 = .ok (.if_icmp .ge 36, 3) := by decide +kernel
theorem dX11_finds_10 : decode cX11_finds 10 = .ok (.aload_n 0, 1) := by decide +kernel
theorem dX11_finds_11 : decode cX11_finds 11 = .ok (.getfield 23, 3) := by decide +kernel
theorem dX11_finds_14 : decode cX11_finds 14 = .ok (.bipush 8, 2) := by decide +kernel
theorem dX11_finds_16 : decode cX11_finds 16 = .ok (.iload_n 1, 1) := by decide +kernel
theorem dX11_finds_17 : decode cX11_finds 17 = .ok (.imul, 1) := by decide +kernel
theorem dX11_finds_18 : decode cX11_finds 18 = .ok (.iload_n 3, 1) := by decide +kernel
theorem dX11_finds_19 : decode cX11_finds 19 = .ok (.iadd, 1) := by decide +kernel
theorem dX11_finds_20 : decode cX11_finds 20 = .ok (.iload_n 2, 1) := by decide +kernel
theorem dX11_finds_21 : decode cX11_finds 21 = .ok (.iconst (-1), 1) := by decide +kernel
theorem dX11_finds_22 : decode cX11_finds 22 = .ok (.if_icmp .eq 8, 3) := by decide +kernel
theorem dX11_finds_25 : decode cX11_finds 25 = .ok (.iload_n 2, 1) := by decide +kernel
theorem dX11_finds_26 : decode cX11_finds 26 = .ok (.iload_n 3, 1) := by decide +kernel
theorem dX11_finds_27 : decode cX11_finds 27 = .ok (.if_icmp .ne 7, 3) := by decide +kernel
theorem dX11_finds_30 : decode cX11_finds 30 = .ok (.iconst 0, 1) := by decide +kernel
theorem dX11_finds_31 : decode cX11_finds 31 = .ok (.goto 5, 3) := by decide +kernel
theorem dX11_finds_34 : decode cX11_finds 34 = .ok (.ldc 57, 2) := by decide +kernel
theorem dX11_finds_36 : decode cX11_finds 36 = .ok (.iastore, 1) := by decide +kernel
theorem dX11_finds_37 : decode cX11_finds 37 = .ok (.iinc 3 1, 3) := by decide +kernel
theorem dX11_finds_40 : decode cX11_finds 40 = .ok (.goto (-38), 3) := by decide +kernel
theorem dX11_finds_43 : decode cX11_finds 43 = .ok (.iload_n 1, 1) := by decide +kernel
theorem dX11_finds_44 : decode cX11_finds 44 = .ok (.iconst 1, 1) := by decide +kernel
theorem dX11_finds_45 : decode cX11_finds 45 = .ok (.isub, 1) := by decide +kernel
theorem dX11_finds_46 : decode cX11_finds 46 = .ok (.istore_n 3, 1) := by decide +kernel
theorem dX11_finds_47 : decode cX11_finds 47 = .ok (.iload_n 3, 1) := by decide +kernel
theorem dX11_finds_48 : decode cX11_finds 48 = .ok (.ifCond .lt 94, 3) := by decide +kernel
theorem dX11_finds_51 : decode cX11_finds 51 = .ok (.iconst 0, 1) := by decide +kernel
theorem dX11_finds_52 : decode cX11_finds 52 = .ok (.istore 4, 2) := by decide +kernel
theorem dX11_finds_54 : decode cX11_finds 54 = .ok (.iload 4, 2) := by decide +kernel
theorem dX11_finds_56 : decode cX11_finds 56 = .ok (.aload_n 0, 1) := by decide +kernel
theorem dX11_finds_57 : decode cX11_finds 57 = .ok (.invokevirtual 73, 3) := by decide +kernel
theorem dX11_finds_60 : decode cX11_finds 60 = .ok (.if_icmp .ge 76, 3) := by decide +kernel
theorem dX11_finds_63 : decode cX11_finds 63 = .ok (.ldc 57, 2) := by decide +kernel
theorem dX11_finds_65 : decode cX11_finds 65 = .ok (.istore 5, 2) := by decide +kernel
theorem dX11_finds_67 : decode cX11_finds 67 = .ok (.iconst 0, 1) := by decide +kernel
theorem dX11_finds_68 : decode cX11_finds 68 = .ok (.istore 6, 2) := by decide +kernel
theorem dX11_finds_70 : decode cX11_finds 70 = .ok (.iload 6, 2) := by decide +kernel
theorem dX11_finds_72 : decode cX11_finds 72 = .ok (.bipush 8, 2) := by decide +kernel
theorem dX11_finds_74 : decode cX11_finds 74 = .ok (.if_icmp .ge 42, 3) := by decide +kernel
theorem dX11_finds_77 : decode cX11_finds 77 = .ok (.aload_n 0, 1) := by decide +kernel
theorem dX11_finds_78 : decode cX11_finds 78 = .ok (.iload_n 3, 1) := by decide +kernel
theorem dX11_finds_79 : decode cX11_finds 79 = .ok (.iload 4, 2) := by decide +kernel
theorem dX11_finds_81 : decode cX11_finds 81 = .ok (.iload 6, 2) := by decide +kernel
theorem dX11_finds_83 : decode cX11_finds 83 = .ok (.iconst 4, 1) := by decide +kernel
theorem dX11_finds_84 : decode cX11_finds 84 = .ok (.idiv, 1) := by decide +kernel
theorem dX11_finds_85 : decode cX11_finds 85 = .ok (.iload 6, 2) := by decide +kernel
theorem dX11_finds_87 : decode cX11_finds 87 = .ok (.iconst 4, 1) := by decide +kernel
theorem dX11_finds_88 : decode cX11_finds 88 = .ok (.irem, 1) := by decide +kernel
theorem dX11_finds_89 : decode cX11_finds 89 = .ok (.invokevirtual 132, 3) := by decide +kernel
theorem dX11_finds_92 : decode cX11_finds 92 = .ok (.istore 7, 2) := by decide +kernel
theorem dX11_finds_94 : decode cX11_finds 94 = .ok (.iload 7, 2) := by decide +kernel
theorem dX11_finds_96 : decode cX11_finds 96 = .ok (.iload 5, 2) := by decide +kernel
theorem dX11_finds_98 : decode cX11_finds 98 = .ok (.if_icmp .ge 8, 3) := by decide +kernel
theorem dX11_finds_101 : decode cX11_finds 101 = .ok (.iload 7, 2) := by decide +kernel
theorem dX11_finds_103 : decode cX11_finds 103 = .ok (.goto 5, 3) := by decide +kernel
theorem dX11_finds_106 : decode cX11_finds 106 = .ok (.iload 5, 2) := by decide +kernel
theorem dX11_finds_108 : decode cX11_finds 108 = .ok (.istore 5, 2) := by decide +kernel
theorem dX11_finds_110 : decode cX11_finds 110 = .ok (.iinc 6 1, 3) := by decide +kernel
theorem dX11_finds_113 : decode cX11_finds 113 = .ok (.goto (-43), 3) := by decide +kernel
theorem dX11_finds_116 : decode cX11_finds 116 = .ok (.aload_n 0, 1) := by decide +kernel
theorem dX11_finds_117 : decode cX11_finds 117 = .ok (.getfield 23, 3) := by decide +kernel
theorem dX11_finds_120 : decode cX11_finds 120 = .ok (.bipush 8, 2) := by decide +kernel
theorem dX11_finds_122 : decode cX11_finds 122 = .ok (.iload_n 3, 1) := by decide +kernel
theorem dX11_finds_123 : decode cX11_finds 123 = .ok (.imul, 1) := by decide +kernel
theorem dX11_finds_124 : decode cX11_finds 124 = .ok (.iload 4, 2) := by decide +kernel
theorem dX11_finds_126 : decode cX11_finds 126 = .ok (.iadd, 1) := by decide +kernel
theorem dX11_finds_127 : decode cX11_finds 127 = .ok (.iload 5, 2) := by decide +kernel
theorem dX11_finds_129 : decode cX11_finds 129 = .ok (.iastore, 1) := by decide +kernel
theorem dX11_finds_130 : decode cX11_finds 130 = .ok (.iinc 4 1, 3) := by decide +kernel
theorem dX11_finds_133 : decode cX11_finds 133 = .ok (.goto (-79), 3) := by decide +kernel
theorem dX11_finds_136 : decode cX11_finds 136 = .ok (.iinc 3 (-1), 3) := by decide +kernel
theorem dX11_finds_139 : decode cX11_finds 139 = .ok (.goto (-92), 3) := by decide +kernel
theorem dX11_finds_142 : decode cX11_finds 142 = .ok (.iconst 0, 1) := by decide +kernel
theorem dX11_finds_143 : decode cX11_finds 143 = .ok (.istore_n 3, 1) := by decide +kernel
theorem dX11_finds_144 : decode cX11_finds 144 = .ok (.iconst 0, 1) := by decide +kernel
theorem dX11_finds_145 : decode cX11_finds 145 = .ok (.istore 4, 2) := by decide +kernel
theorem dX11_finds_147 : decode cX11_finds 147 = .ok (.iload 4, 2) := by decide +kernel
theorem dX11_finds_149 : decode cX11_finds 149 = .ok (.iload_n 1, 1) := by decide +kernel
theorem dX11_finds_150 : decode cX11_finds 150 = .ok (.if_icmp .ge 99, 3) := by decide +kernel
theorem dX11_finds_153 : decode cX11_finds 153 = .ok (.aload_n 0, 1) := by decide +kernel
theorem dX11_finds_154 : decode cX11_finds 154 = .ok (.getfield 23, 3) := by decide +kernel
theorem dX11_finds_157 : decode cX11_finds 157 = .ok (.iconst 0, 1) := by decide +kernel
theorem dX11_finds_158 : decode cX11_finds 158 = .ok (.iaload, 1) := by decide +kernel
theorem dX11_finds_159 : decode cX11_finds 159 = .ok (.ldc 57, 2) := by decide +kernel
theorem dX11_finds_161 : decode cX11_finds 161 = .ok (.if_icmp .eq 88, 3) := by decide +kernel
theorem dX11_finds_164 : decode cX11_finds 164 = .ok (.iconst 0, 1) := by decide +kernel
theorem dX11_finds_165 : decode cX11_finds 165 = .ok (.istore 5, 2) := by decide +kernel
theorem dX11_finds_167 : decode cX11_finds 167 = .ok (.aload_n 0, 1) := by decide +kernel
theorem dX11_finds_168 : decode cX11_finds 168 = .ok (.iload 4, 2) := by decide +kernel
theorem dX11_finds_170 : decode cX11_finds 170 = .ok (.iload_n 3, 1) := by decide +kernel
theorem dX11_finds_171 : decode cX11_finds 171 = .ok (.iload 5, 2) := by decide +kernel
theorem dX11_finds_173 : decode cX11_finds 173 = .ok (.iconst 4, 1) := by decide +kernel
theorem dX11_finds_174 : decode cX11_finds 174 = .ok (.idiv, 1) := by decide +kernel
theorem dX11_finds_175 : decode cX11_finds 175 = .ok (.iload 5, 2) := by decide +kernel
theorem dX11_finds_177 : decode cX11_finds 177 = .ok (.iconst 4, 1) := by decide +kernel
theorem dX11_finds_178 : decode cX11_finds 178 = .ok (.irem, 1) := by decide +kernel
theorem dX11_finds_179 : decode cX11_finds 179 = .ok (.invokevirtual 132, 3) := by decide +kernel
theorem dX11_finds_182 : decode cX11_finds 182 = .ok (.aload_n 0, 1) := by decide +kernel
theorem dX11_finds_183 : decode cX11_finds 183 = .ok (.getfield 23, 3) := by decide +kernel
theorem dX11_finds_186 : decode cX11_finds 186 = .ok (.bipush 8, 2) := by decide +kernel
theorem dX11_finds_188 : decode cX11_finds 188 = .ok (.iload 4, 2) := by decide +kernel
theorem dX11_finds_190 : decode cX11_finds 190 = .ok (.imul, 1) := by decide +kernel
theorem dX11_finds_191 : decode cX11_finds 191 = .ok (.iload_n 3, 1) := by decide +kernel
theorem dX11_finds_192 : decode cX11_finds 192 = .ok (.iadd, 1) := by decide +kernel
theorem dX11_finds_193 : decode cX11_finds 193 = .ok (.iaload, 1) := by decide +kernel
theorem dX11_finds_194 : decode cX11_finds 194 = .ok (.if_icmp .eq 9, 3) := by decide +kernel
theorem dX11_finds_197 : decode cX11_finds 197 = .ok (.iinc 5 1, 3) := by decide +kernel
theorem dX11_finds_200 : decode cX11_finds 200 = .ok (.goto (-33), 3) := by decide +kernel
theorem dX11_finds_203 : decode cX11_finds 203 = .ok (.aload_n 0, 1) := by decide +kernel
theorem dX11_finds_204 : decode cX11_finds 204 = .ok (.getfield 26, 3) := by decide +kernel
theorem dX11_finds_207 : decode cX11_finds 207 = .ok (.iload 4, 2) := by decide +kernel
theorem dX11_finds_209 : decode cX11_finds 209 = .ok (.iload 5, 2) := by decide +kernel
theorem dX11_finds_211 : decode cX11_finds 211 = .ok (.iconst 4, 1) := by decide +kernel
theorem dX11_finds_212 : decode cX11_finds 212 = .ok (.idiv, 1) := by decide +kernel
theorem dX11_finds_213 : decode cX11_finds 213 = .ok (.iastore, 1) := by decide +kernel
theorem dX11_finds_214 : decode cX11_finds 214 = .ok (.aload_n 0, 1) := by decide +kernel
theorem dX11_finds_215 : decode cX11_finds 215 = .ok (.getfield 29, 3) := by decide +kernel
theorem dX11_finds_218 : decode cX11_finds 218 = .ok (.iload 4, 2) := by decide +kernel
theorem dX11_finds_220 : decode cX11_finds 220 = .ok (.iload 5, 2) := by decide +kernel
theorem dX11_finds_222 : decode cX11_finds 222 = .ok (.iconst 4, 1) := by decide +kernel
theorem dX11_finds_223 : decode cX11_finds 223 = .ok (.irem, 1) := by decide +kernel
theorem dX11_finds_224 : decode cX11_finds 224 = .ok (.iastore, 1) := by decide +kernel
theorem dX11_finds_225 : decode cX11_finds 225 = .ok (.aload_n 0, 1) := by decide +kernel
theorem dX11_finds_226 : decode cX11_finds 226 = .ok (.iload_n 3, 1) := by decide +kernel
theorem dX11_finds_227 : decode cX11_finds 227 = .ok (.iload 5, 2) := by decide +kernel
theorem dX11_finds_229 : decode cX11_finds 229 = .ok (.iconst 4, 1) := by decide +kernel
theorem dX11_finds_230 : decode cX11_finds 230 = .ok (.idiv, 1) := by decide +kernel
theorem dX11_finds_231 : decode cX11_finds 231 = .ok (.invokevirtual 88, 3) := by decide +kernel
theorem dX11_finds_234 : decode cX11_finds 234 = .ok (.istore_n 3, 1) := by decide +kernel
theorem dX11_finds_235 : decode cX11_finds 235 = .ok (.aload_n 0, 1) := by decide +kernel
theorem dX11_finds_236 : decode cX11_finds 236 = .ok (.getfield 32, 3) := by decide +kernel
theorem dX11_finds_239 : decode cX11_finds 239 = .ok (.iload 4, 2) := by decide +kernel
theorem dX11_finds_241 : decode cX11_finds 241 = .ok (.iload_n 3, 1) := by decide +kernel
theorem dX11_finds_242 : decode cX11_finds 242 = .ok (.iastore, 1) := by decide +kernel
theorem dX11_finds_243 : decode cX11_finds 243 = .ok (.iinc 4 1, 3) := by decide +kernel
theorem dX11_finds_246 : decode cX11_finds 246 = .ok (.goto (-99), 3) := by decide +kernel
theorem dX11_finds_249 : decode cX11_finds 249 = .ok (.aload_n 0, 1) := by decide +kernel
theorem dX11_finds_250 : decode cX11_finds 250 = .ok (.getfield 23, 3) := by decide +kernel
theorem dX11_finds_253 : decode cX11_finds 253 = .ok (.iconst 0, 1) := by decide +kernel
theorem dX11_finds_254 : decode cX11_finds 254 = .ok (.iaload, 1) := by decide +kernel
theorem dX11_finds_255 : decode cX11_finds 255 = .ok (.ireturn, 1) := by decide +kernel
theorem dX11_pointOf_0 : decode cX11_pointOf 0 = .ok (.aload_n 0, 1) := by decide +kernel
theorem dX11_pointOf_1 : decode cX11_pointOf 1 = .ok (.iload_n 1, 1) := by decide +kernel
theorem dX11_pointOf_2 : decode cX11_pointOf 2 = .ok (.ifCond .ne 7, 3) := by decide +kernel
theorem dX11_pointOf_5 : decode cX11_pointOf 5 = .ok (.iconst 0, 1) := by decide +kernel
theorem dX11_pointOf_6 : decode cX11_pointOf 6 = .ok (.goto 11, 3) := by decide +kernel
theorem dX11_pointOf_9 : decode cX11_pointOf 9 = .ok (.aload_n 0, 1) := by decide +kernel
theorem dX11_pointOf_10 : decode cX11_pointOf 10 = .ok (.getfield 32, 3) := by decide +kernel
theorem dX11_pointOf_13 : decode cX11_pointOf 13 = .ok (.iload_n 1, 1) := by decide +kernel
theorem dX11_pointOf_14 : decode cX11_pointOf 14 = .ok (.iconst 1, 1) := by decide +kernel
theorem dX11_pointOf_15 : decode cX11_pointOf 15 = .ok (.isub, 1) := by decide +kernel
theorem dX11_pointOf_16 : decode cX11_pointOf 16 = .ok (.iaload, 1) := by decide +kernel
theorem dX11_pointOf_17 : decode cX11_pointOf 17 = .ok (.aload_n 0, 1) := by decide +kernel
theorem dX11_pointOf_18 : decode cX11_pointOf 18 = .ok (.getfield 26, 3) := by decide +kernel
theorem dX11_pointOf_21 : decode cX11_pointOf 21 = .ok (.iload_n 1, 1) := by decide +kernel
theorem dX11_pointOf_22 : decode cX11_pointOf 22 = .ok (.iaload, 1) := by decide +kernel
theorem dX11_pointOf_23 : decode cX11_pointOf 23 = .ok (.invokevirtual 94, 3) := by decide +kernel
theorem dX11_pointOf_26 : decode cX11_pointOf 26 = .ok (.aload_n 0, 1) := by decide +kernel
theorem dX11_pointOf_27 : decode cX11_pointOf 27 = .ok (.getfield 29, 3) := by decide +kernel
theorem dX11_pointOf_30 : decode cX11_pointOf 30 = .ok (.iload_n 1, 1) := by decide +kernel
theorem dX11_pointOf_31 : decode cX11_pointOf 31 = .ok (.iaload, 1) := by decide +kernel
theorem dX11_pointOf_32 : decode cX11_pointOf 32 = .ok (.invokestatic 62, 3) := by decide +kernel
theorem dX11_pointOf_35 : decode cX11_pointOf 35 = .ok (.ireturn, 1) := by decide +kernel
theorem dX11_errors_0 : decode cX11_errors 0 = .ok (.aload_n 0, 1) := by decide +kernel
theorem dX11_errors_1 : decode cX11_errors 1 = .ok (.aload_n 0, 1) := by decide +kernel
theorem dX11_errors_2 : decode cX11_errors 2 = .ok (.getfield 7, 3) := by decide +kernel
theorem dX11_errors_5 : decode cX11_errors 5 = .ok (.iconst 5, 1) := by decide +kernel
theorem dX11_errors_6 : decode cX11_errors 6 = .ok (.iaload, 1) := by decide +kernel
theorem dX11_errors_7 : decode cX11_errors 7 = .ok (.aload_n 0, 1) := by decide +kernel
theorem dX11_errors_8 : decode cX11_errors 8 = .ok (.getfield 7, 3) := by decide +kernel
theorem dX11_errors_11 : decode cX11_errors 11 = .ok (.iconst 3, 1) := by decide +kernel
theorem dX11_errors_12 : decode cX11_errors 12 = .ok (.iaload, 1) := by decide +kernel
theorem dX11_errors_13 : decode cX11_errors 13 = .ok (.invokevirtual 136, 3) := by decide +kernel
theorem dX11_errors_16 : decode cX11_errors 16 = .ok (.ldc 57, 2) := by decide +kernel
theorem dX11_errors_18 : decode cX11_errors 18 = .ok (.if_icmp .ne 5, 3) := by decide +kernel
theorem dX11_errors_21 : decode cX11_errors 21 = .ok (.iconst 0, 1) := by decide +kernel
theorem dX11_errors_22 : decode cX11_errors 22 = .ok (.ireturn, 1) := by decide +kernel
theorem dX11_errors_23 : decode cX11_errors 23 = .ok (.iconst 0, 1) := by decide +kernel
theorem dX11_errors_24 : decode cX11_errors 24 = .ok (.istore_n 1, 1) := by decide +kernel
theorem dX11_errors_25 : decode cX11_errors 25 = .ok (.iconst 0, 1) := by decide +kernel
theorem dX11_errors_26 : decode cX11_errors 26 = .ok (.istore_n 2, 1) := by decide +kernel
theorem dX11_errors_27 : decode cX11_errors 27 = .ok (.iload_n 2, 1) := by decide +kernel
theorem dX11_errors_28 : decode cX11_errors 28 = .ok (.aload_n 0, 1) := by decide +kernel
theorem dX11_errors_29 : decode cX11_errors 29 = .ok (.getfield 7, 3) := by decide +kernel
theorem dX11_errors_32 : decode cX11_errors 32 = .ok (.iconst 5, 1) := by decide +kernel
theorem dX11_errors_33 : decode cX11_errors 33 = .ok (.iaload, 1) := by decide +kernel
theorem dX11_errors_34 : decode cX11_errors 34 = .ok (.if_icmp .ge 40, 3) := by decide +kernel
theorem dX11_errors_37 : decode cX11_errors 37 = .ok (.iload_n 2, 1) := by decide +kernel
theorem dX11_errors_38 : decode cX11_errors 38 = .ok (.aload_n 0, 1) := by decide +kernel
theorem dX11_errors_39 : decode cX11_errors 39 = .ok (.getfield 7, 3) := by decide +kernel
theorem dX11_errors_42 : decode cX11_errors 42 = .ok (.iconst 4, 1) := by decide +kernel
theorem dX11_errors_43 : decode cX11_errors 43 = .ok (.iaload, 1) := by decide +kernel
theorem dX11_errors_44 : decode cX11_errors 44 = .ok (.if_icmp .ge 30, 3) := by decide +kernel
theorem dX11_errors_47 : decode cX11_errors 47 = .ok (.iload_n 1, 1) := by decide +kernel
theorem dX11_errors_48 : decode cX11_errors 48 = .ok (.aload_n 0, 1) := by decide +kernel
theorem dX11_errors_49 : decode cX11_errors 49 = .ok (.iload_n 2, 1) := by decide +kernel
theorem dX11_errors_50 : decode cX11_errors 50 = .ok (.invokevirtual 139, 3) := by decide +kernel
theorem dX11_errors_53 : decode cX11_errors 53 = .ok (.aload_n 0, 1) := by decide +kernel
theorem dX11_errors_54 : decode cX11_errors 54 = .ok (.iload_n 2, 1) := by decide +kernel
theorem dX11_errors_55 : decode cX11_errors 55 = .ok (.invokevirtual 102, 3) := by decide +kernel
theorem dX11_errors_58 : decode cX11_errors 58 = .ok (.if_icmp .eq 7, 3) := by decide +kernel
theorem dX11_errors_61 : decode cX11_errors 61 = .ok (.iconst 1, 1) := by decide +kernel
theorem dX11_errors_62 : decode cX11_errors 62 = .ok (.goto 4, 3) := by decide +kernel
theorem dX11_errors_65 : decode cX11_errors 65 = .ok (.iconst 0, 1) := by decide +kernel
theorem dX11_errors_66 : decode cX11_errors 66 = .ok (.iadd, 1) := by decide +kernel
theorem dX11_errors_67 : decode cX11_errors 67 = .ok (.istore_n 1, 1) := by decide +kernel
theorem dX11_errors_68 : decode cX11_errors 68 = .ok (.iinc 2 1, 3) := by decide +kernel
theorem dX11_errors_71 : decode cX11_errors 71 = .ok (.goto (-44), 3) := by decide +kernel
theorem dX11_errors_74 : decode cX11_errors 74 = .ok (.iload_n 1, 1) := by decide +kernel
theorem dX11_errors_75 : decode cX11_errors 75 = .ok (.ireturn, 1) := by decide +kernel
theorem dX11_signs_0 : decode cX11_signs 0 = .ok (.aload_n 0, 1) := by decide +kernel
theorem dX11_signs_1 : decode cX11_signs 1 = .ok (.getfield 7, 3) := by decide +kernel
theorem dX11_signs_4 : decode cX11_signs 4 = .ok (.iconst 5, 1) := by decide +kernel
theorem dX11_signs_5 : decode cX11_signs 5 = .ok (.iaload, 1) := by decide +kernel
theorem dX11_signs_6 : decode cX11_signs 6 = .ok (.istore_n 1, 1) := by decide +kernel
theorem dX11_signs_7 : decode cX11_signs 7 = .ok (.aload_n 0, 1) := by decide +kernel
theorem dX11_signs_8 : decode cX11_signs 8 = .ok (.iload_n 1, 1) := by decide +kernel
theorem dX11_signs_9 : decode cX11_signs 9 = .ok (.aload_n 0, 1) := by decide +kernel
theorem dX11_signs_10 : decode cX11_signs 10 = .ok (.getfield 7, 3) := by decide +kernel
theorem dX11_signs_13 : decode cX11_signs 13 = .ok (.iconst 3, 1) := by decide +kernel
theorem dX11_signs_14 : decode cX11_signs 14 = .ok (.iaload, 1) := by decide +kernel
theorem dX11_signs_15 : decode cX11_signs 15 = .ok (.invokevirtual 136, 3) := by decide +kernel
theorem dX11_signs_18 : decode cX11_signs 18 = .ok (.ldc 57, 2) := by decide +kernel
theorem dX11_signs_20 : decode cX11_signs 20 = .ok (.if_icmp .eq 7, 3) := by decide +kernel
theorem dX11_signs_23 : decode cX11_signs 23 = .ok (.iload_n 1, 1) := by decide +kernel
theorem dX11_signs_24 : decode cX11_signs 24 = .ok (.ifCond .ne 7, 3) := by decide +kernel
theorem dX11_signs_27 : decode cX11_signs 27 = .ok (.iconst 0, 1) := by decide +kernel
theorem dX11_signs_28 : decode cX11_signs 28 = .ok (.goto 12, 3) := by decide +kernel
theorem dX11_signs_31 : decode cX11_signs 31 = .ok (.iconst 2, 1) := by decide +kernel
theorem dX11_signs_32 : decode cX11_signs 32 = .ok (.iload_n 1, 1) := by decide +kernel
theorem dX11_signs_33 : decode cX11_signs 33 = .ok (.imul, 1) := by decide +kernel
theorem dX11_signs_34 : decode cX11_signs 34 = .ok (.iload_n 1, 1) := by decide +kernel
theorem dX11_signs_35 : decode cX11_signs 35 = .ok (.iconst 1, 1) := by decide +kernel
theorem dX11_signs_36 : decode cX11_signs 36 = .ok (.isub, 1) := by decide +kernel
theorem dX11_signs_37 : decode cX11_signs 37 = .ok (.iconst 4, 1) := by decide +kernel
theorem dX11_signs_38 : decode cX11_signs 38 = .ok (.idiv, 1) := by decide +kernel
theorem dX11_signs_39 : decode cX11_signs 39 = .ok (.iadd, 1) := by decide +kernel
theorem dX11_signs_40 : decode cX11_signs 40 = .ok (.ireturn, 1) := by decide +kernel
theorem dX11_apartBy_0 : decode cX11_apartBy 0 = .ok (.aload_n 0, 1) := by decide +kernel
theorem dX11_apartBy_1 : decode cX11_apartBy 1 = .ok (.iload_n 1, 1) := by decide +kernel
theorem dX11_apartBy_2 : decode cX11_apartBy 2 = .ok (.iload_n 2, 1) := by decide +kernel
theorem dX11_apartBy_3 : decode cX11_apartBy 3 = .ok (.invokevirtual 94, 3) := by decide +kernel
theorem dX11_apartBy_6 : decode cX11_apartBy 6 = .ok (.istore 5, 2) := by decide +kernel
theorem dX11_apartBy_8 : decode cX11_apartBy 8 = .ok (.aload_n 0, 1) := by decide +kernel
theorem dX11_apartBy_9 : decode cX11_apartBy 9 = .ok (.iload_n 3, 1) := by decide +kernel
theorem dX11_apartBy_10 : decode cX11_apartBy 10 = .ok (.iload 4, 2) := by decide +kernel
theorem dX11_apartBy_12 : decode cX11_apartBy 12 = .ok (.invokevirtual 94, 3) := by decide +kernel
theorem dX11_apartBy_15 : decode cX11_apartBy 15 = .ok (.istore 6, 2) := by decide +kernel
theorem dX11_apartBy_17 : decode cX11_apartBy 17 = .ok (.iload 5, 2) := by decide +kernel
theorem dX11_apartBy_19 : decode cX11_apartBy 19 = .ok (.iload 6, 2) := by decide +kernel
theorem dX11_apartBy_21 : decode cX11_apartBy 21 = .ok (.if_icmp .ne 7, 3) := by decide +kernel
theorem dX11_apartBy_24 : decode cX11_apartBy 24 = .ok (.iconst 0, 1) := by decide +kernel
theorem dX11_apartBy_25 : decode cX11_apartBy 25 = .ok (.goto 10, 3) := by decide +kernel
theorem dX11_apartBy_28 : decode cX11_apartBy 28 = .ok (.iload 5, 2) := by decide +kernel
theorem dX11_apartBy_30 : decode cX11_apartBy 30 = .ok (.iload 6, 2) := by decide +kernel
theorem dX11_apartBy_32 : decode cX11_apartBy 32 = .ok (.invokestatic 142, 3) := by decide +kernel
theorem dX11_apartBy_35 : decode cX11_apartBy 35 = .ok (.ireturn, 1) := by decide +kernel
theorem dX11_free_0 : decode cX11_free 0 = .ok (.ldc 57, 2) := by decide +kernel
theorem dX11_free_2 : decode cX11_free 2 = .ok (.istore_n 1, 1) := by decide +kernel
theorem dX11_free_3 : decode cX11_free 3 = .ok (.iconst 0, 1) := by decide +kernel
theorem dX11_free_4 : decode cX11_free 4 = .ok (.istore_n 2, 1) := by decide +kernel
theorem dX11_free_5 : decode cX11_free 5 = .ok (.iload_n 2, 1) := by decide +kernel
theorem dX11_free_6 : decode cX11_free 6 = .ok (.iconst 4, 1) := by decide +kernel
theorem dX11_free_7 : decode cX11_free 7 = .ok (.if_icmp .ge 26, 3) := by decide +kernel
theorem dX11_free_10 : decode cX11_free 10 = .ok (.iload_n 2, 1) := by decide +kernel
theorem dX11_free_11 : decode cX11_free 11 = .ok (.iload_n 2, 1) := by decide +kernel
theorem dX11_free_12 : decode cX11_free 12 = .ok (.invokestatic 142, 3) := by decide +kernel
theorem dX11_free_15 : decode cX11_free 15 = .ok (.istore_n 3, 1) := by decide +kernel
theorem dX11_free_16 : decode cX11_free 16 = .ok (.iload_n 3, 1) := by decide +kernel
theorem dX11_free_17 : decode cX11_free 17 = .ok (.iload_n 1, 1) := by decide +kernel
theorem dX11_free_18 : decode cX11_free 18 = .ok (.if_icmp .ge 7, 3) := by decide +kernel
theorem dX11_free_21 : decode cX11_free 21 = .ok (.iload_n 3, 1) := by decide +kernel
theorem dX11_free_22 : decode cX11_free 22 = .ok (.goto 4, 3) := by decide +kernel
theorem dX11_free_25 : decode cX11_free 25 = .ok (.iload_n 1, 1) := by decide +kernel
theorem dX11_free_26 : decode cX11_free 26 = .ok (.istore_n 1, 1) := by decide +kernel
theorem dX11_free_27 : decode cX11_free 27 = .ok (.iinc 2 1, 3) := by decide +kernel
theorem dX11_free_30 : decode cX11_free 30 = .ok (.goto (-25), 3) := by decide +kernel
theorem dX11_free_33 : decode cX11_free 33 = .ok (.aload_n 0, 1) := by decide +kernel
theorem dX11_free_34 : decode cX11_free 34 = .ok (.invokevirtual 73, 3) := by decide +kernel
theorem dX11_free_37 : decode cX11_free 37 = .ok (.istore_n 2, 1) := by decide +kernel
theorem dX11_free_38 : decode cX11_free 38 = .ok (.iconst 0, 1) := by decide +kernel
theorem dX11_free_39 : decode cX11_free 39 = .ok (.istore_n 3, 1) := by decide +kernel
theorem dX11_free_40 : decode cX11_free 40 = .ok (.iload_n 3, 1) := by decide +kernel
theorem dX11_free_41 : decode cX11_free 41 = .ok (.bipush 64, 2) := by decide +kernel
theorem dX11_free_43 : decode cX11_free 43 = .ok (.if_icmp .ge 17, 3) := by decide +kernel
theorem dX11_free_46 : decode cX11_free 46 = .ok (.aload_n 0, 1) := by decide +kernel
theorem dX11_free_47 : decode cX11_free 47 = .ok (.getfield 35, 3) := by decide +kernel
theorem dX11_free_50 : decode cX11_free 50 = .ok (.iload_n 3, 1) := by decide +kernel
theorem dX11_free_51 : decode cX11_free 51 = .ok (.ldc 57, 2) := by decide +kernel
theorem dX11_free_53 : decode cX11_free 53 = .ok (.iastore, 1) := by decide +kernel
theorem dX11_free_54 : decode cX11_free 54 = .ok (.iinc 3 1, 3) := by decide +kernel
theorem dX11_free_57 : decode cX11_free 57 = .ok (.goto (-17), 3) := by decide +kernel
theorem dX11_free_60 : decode cX11_free 60 = .ok (.iconst 0, 1) := by decide +kernel
theorem dX11_free_61 : decode cX11_free 61 = .ok (.istore_n 3, 1) := by decide +kernel
theorem dX11_free_62 : decode cX11_free 62 = .ok (.iload_n 3, 1) := by decide +kernel
theorem dX11_free_63 : decode cX11_free 63 = .ok (.iload_n 2, 1) := by decide +kernel
theorem dX11_free_64 : decode cX11_free 64 = .ok (.if_icmp .ge 68, 3) := by decide +kernel
theorem dX11_free_67 : decode cX11_free 67 = .ok (.bipush 8, 2) := by decide +kernel
theorem dX11_free_69 : decode cX11_free 69 = .ok (.aload_n 0, 1) := by decide +kernel
theorem dX11_free_70 : decode cX11_free 70 = .ok (.iload_n 3, 1) := by decide +kernel
theorem dX11_free_71 : decode cX11_free 71 = .ok (.iconst 0, 1) := by decide +kernel
theorem dX11_free_72 : decode cX11_free 72 = .ok (.invokevirtual 88, 3) := by decide +kernel
theorem dX11_free_75 : decode cX11_free 75 = .ok (.imul, 1) := by decide +kernel
theorem dX11_free_76 : decode cX11_free 76 = .ok (.aload_n 0, 1) := by decide +kernel
theorem dX11_free_77 : decode cX11_free 77 = .ok (.iload_n 3, 1) := by decide +kernel
theorem dX11_free_78 : decode cX11_free 78 = .ok (.iconst 1, 1) := by decide +kernel
theorem dX11_free_79 : decode cX11_free 79 = .ok (.invokevirtual 88, 3) := by decide +kernel
theorem dX11_free_82 : decode cX11_free 82 = .ok (.iadd, 1) := by decide +kernel
theorem dX11_free_83 : decode cX11_free 83 = .ok (.istore 4, 2) := by decide +kernel
theorem dX11_free_85 : decode cX11_free 85 = .ok (.aload_n 0, 1) := by decide +kernel
theorem dX11_free_86 : decode cX11_free 86 = .ok (.iload_n 3, 1) := by decide +kernel
theorem dX11_free_87 : decode cX11_free 87 = .ok (.iconst 0, 1) := by decide +kernel
theorem dX11_free_88 : decode cX11_free 88 = .ok (.iload_n 3, 1) := by decide +kernel
theorem dX11_free_89 : decode cX11_free 89 = .ok (.iconst 1, 1) := by decide +kernel
theorem dX11_free_90 : decode cX11_free 90 = .ok (.invokevirtual 145, 3) := by decide +kernel
theorem dX11_free_93 : decode cX11_free 93 = .ok (.istore 5, 2) := by decide +kernel
theorem dX11_free_95 : decode cX11_free 95 = .ok (.aload_n 0, 1) := by decide +kernel
theorem dX11_free_96 : decode cX11_free 96 = .ok (.getfield 35, 3) := by decide +kernel
theorem dX11_free_99 : decode cX11_free 99 = .ok (.iload 4, 2) := by decide +kernel
theorem dX11_free_101 : decode cX11_free 101 = .ok (.iload 5, 2) := by decide +kernel
theorem dX11_free_103 : decode cX11_free 103 = .ok (.aload_n 0, 1) := by decide +kernel
theorem dX11_free_104 : decode cX11_free 104 = .ok (.getfield 35, 3) := by decide +kernel
theorem dX11_free_107 : decode cX11_free 107 = .ok (.iload 4, 2) := by decide +kernel
theorem dX11_free_109 : decode cX11_free 109 = .ok (.iaload, 1) := by decide +kernel
theorem dX11_free_110 : decode cX11_free 110 = .ok (.if_icmp .ge 8, 3) := by decide +kernel
theorem dX11_free_113 : decode cX11_free 113 = .ok (.iload 5, 2) := by decide +kernel
theorem dX11_free_115 : decode cX11_free 115 = .ok (.goto 10, 3) := by decide +kernel
theorem dX11_free_118 : decode cX11_free 118 = .ok (.aload_n 0, 1) := by decide +kernel
theorem dX11_free_119 : decode cX11_free 119 = .ok (.getfield 35, 3) := by decide +kernel
theorem dX11_free_122 : decode cX11_free 122 = .ok (.iload 4, 2) := by decide +kernel
theorem dX11_free_124 : decode cX11_free 124 = .ok (.iaload, 1) := by decide +kernel
theorem dX11_free_125 : decode cX11_free 125 = .ok (.iastore, 1) := by decide +kernel
theorem dX11_free_126 : decode cX11_free 126 = .ok (.iinc 3 1, 3) := by decide +kernel
theorem dX11_free_129 : decode cX11_free 129 = .ok (.goto (-67), 3) := by decide +kernel
theorem dX11_free_132 : decode cX11_free 132 = .ok (.iconst 2, 1) := by decide +kernel
theorem dX11_free_133 : decode cX11_free 133 = .ok (.istore_n 3, 1) := by decide +kernel
theorem dX11_free_134 : decode cX11_free 134 = .ok (.iload_n 3, 1) := by decide +kernel
theorem dX11_free_135 : decode cX11_free 135 = .ok (.bipush 30, 2) := by decide +kernel
theorem dX11_free_137 : decode cX11_free 137 = .ok (.if_icmp .gt 241, 3) := by decide +kernel
theorem dX11_free_140 : decode cX11_free 140 = .ok (.iconst 0, 1) := by decide +kernel
theorem dX11_free_141 : decode cX11_free 141 = .ok (.istore 4, 2) := by decide +kernel
theorem dX11_free_143 : decode cX11_free 143 = .ok (.iload 4, 2) := by decide +kernel
theorem dX11_free_145 : decode cX11_free 145 = .ok (.bipush 64, 2) := by decide +kernel

/-! the printed decode rows of EggHouseModel -/
theorem dX5_init_0 : decode cX5_init 0 = .ok (.aload_n 0, 1) := by decide +kernel
theorem dX5_init_1 : decode cX5_init 1 = .ok (.invokespecial 1, 3) := by decide +kernel
theorem dX5_init_4 : decode cX5_init 4 = .ok (.aload_n 0, 1) := by decide +kernel
theorem dX5_init_5 : decode cX5_init 5 = .ok (.sipush 600, 3) := by decide +kernel
theorem dX5_init_8 : decode cX5_init 8 = .ok (.newarray .int, 2) := by decide +kernel
theorem dX5_init_10 : decode cX5_init 10 = .ok (.putfield 7, 3) := by decide +kernel
theorem dX5_init_13 : decode cX5_init 13 = .ok (.aload_n 0, 1) := by decide +kernel
theorem dX5_init_14 : decode cX5_init 14 = .ok (.sipush 600, 3) := by decide +kernel
theorem dX5_init_17 : decode cX5_init 17 = .ok (.newarray .int, 2) := by decide +kernel
theorem dX5_init_19 : decode cX5_init 19 = .ok (.putfield 13, 3) := by decide +kernel
theorem dX5_init_22 : decode cX5_init 22 = .ok (.aload_n 0, 1) := by decide +kernel
theorem dX5_init_23 : decode cX5_init 23 = .ok (.sipush 600, 3) := by decide +kernel
theorem dX5_init_26 : decode cX5_init 26 = .ok (.newarray .int, 2) := by decide +kernel
theorem dX5_init_28 : decode cX5_init 28 = .ok (.putfield 16, 3) := by decide +kernel
theorem dX5_init_31 : decode cX5_init 31 = .ok (.aload_n 0, 1) := by decide +kernel
theorem dX5_init_32 : decode cX5_init 32 = .ok (.sipush 600, 3) := by decide +kernel
theorem dX5_init_35 : decode cX5_init 35 = .ok (.newarray .int, 2) := by decide +kernel
theorem dX5_init_37 : decode cX5_init 37 = .ok (.putfield 19, 3) := by decide +kernel
theorem dX5_init_40 : decode cX5_init 40 = .ok (.aload_n 0, 1) := by decide +kernel
theorem dX5_init_41 : decode cX5_init 41 = .ok (.sipush 600, 3) := by decide +kernel
theorem dX5_init_44 : decode cX5_init 44 = .ok (.newarray .int, 2) := by decide +kernel
theorem dX5_init_46 : decode cX5_init 46 = .ok (.putfield 22, 3) := by decide +kernel
theorem dX5_init_49 : decode cX5_init 49 = .ok (.aload_n 0, 1) := by decide +kernel
theorem dX5_init_50 : decode cX5_init 50 = .ok (.sipush 600, 3) := by decide +kernel
theorem dX5_init_53 : decode cX5_init 53 = .ok (.newarray .int, 2) := by decide +kernel
theorem dX5_init_55 : decode cX5_init 55 = .ok (.putfield 25, 3) := by decide +kernel
theorem dX5_init_58 : decode cX5_init 58 = .ok (.aload_n 0, 1) := by decide +kernel
theorem dX5_init_59 : decode cX5_init 59 = .ok (.sipush 600, 3) := by decide +kernel
theorem dX5_init_62 : decode cX5_init 62 = .ok (.newarray .int, 2) := by decide +kernel
theorem dX5_init_64 : decode cX5_init 64 = .ok (.putfield 28, 3) := by decide +kernel
theorem dX5_init_67 : decode cX5_init 67 = .ok (.aload_n 0, 1) := by decide +kernel
theorem dX5_init_68 : decode cX5_init 68 = .ok (.bipush 20, 2) := by decide +kernel
theorem dX5_init_70 : decode cX5_init 70 = .ok (.newarray .int, 2) := by decide +kernel
theorem dX5_init_72 : decode cX5_init 72 = .ok (.putfield 31, 3) := by decide +kernel
theorem dX5_init_75 : decode cX5_init 75 = .ok (.aload_n 0, 1) := by decide +kernel
theorem dX5_init_76 : decode cX5_init 76 = .ok (.bipush 16, 2) := by decide +kernel
theorem dX5_init_78 : decode cX5_init 78 = .ok (.newarray .int, 2) := by decide +kernel
theorem dX5_init_80 : decode cX5_init 80 = .ok (.putfield 34, 3) := by decide +kernel
theorem dX5_init_83 : decode cX5_init 83 = .ok (.aload_n 0, 1) := by decide +kernel
theorem dX5_init_84 : decode cX5_init 84 = .ok (.bipush 30, 2) := by decide +kernel
theorem dX5_init_86 : decode cX5_init 86 = .ok (.newarray .int, 2) := by decide +kernel
theorem dX5_init_88 : decode cX5_init 88 = .ok (.putfield 37, 3) := by decide +kernel
theorem dX5_init_91 : decode cX5_init 91 = .ok (.aload_n 0, 1) := by decide +kernel
theorem dX5_init_92 : decode cX5_init 92 = .ok (.bipush 30, 2) := by decide +kernel
theorem dX5_init_94 : decode cX5_init 94 = .ok (.newarray .int, 2) := by decide +kernel
theorem dX5_init_96 : decode cX5_init 96 = .ok (.putfield 40, 3) := by decide +kernel
theorem dX5_init_99 : decode cX5_init 99 = .ok (.aload_n 0, 1) := by decide +kernel
theorem dX5_init_100 : decode cX5_init 100 = .ok (.bipush 20, 2) := by decide +kernel
theorem dX5_init_102 : decode cX5_init 102 = .ok (.newarray .int, 2) := by decide +kernel
theorem dX5_init_104 : decode cX5_init 104 = .ok (.putfield 43, 3) := by decide +kernel
theorem dX5_init_107 : decode cX5_init 107 = .ok (.aload_n 0, 1) := by decide +kernel
theorem dX5_init_108 : decode cX5_init 108 = .ok (.iconst 4, 1) := by decide +kernel
theorem dX5_init_109 : decode cX5_init 109 = .ok (.newarray .int, 2) := by decide +kernel
theorem dX5_init_111 : decode cX5_init 111 = .ok (.dup, 1) := by decide +kernel
theorem dX5_init_112 : decode cX5_init 112 = .ok (.iconst 0, 1) := by decide +kernel
theorem dX5_init_113 : decode cX5_init 113 = .ok (.iconst 2, 1) := by decide +kernel
theorem dX5_init_114 : decode cX5_init 114 = .ok (.iastore, 1) := by decide +kernel
theorem dX5_init_115 : decode cX5_init 115 = .ok (.dup, 1) := by decide +kernel
theorem dX5_init_116 : decode cX5_init 116 = .ok (.iconst 1, 1) := by decide +kernel
theorem dX5_init_117 : decode cX5_init 117 = .ok (.iconst 3, 1) := by decide +kernel
theorem dX5_init_118 : decode cX5_init 118 = .ok (.iastore, 1) := by decide +kernel
theorem dX5_init_119 : decode cX5_init 119 = .ok (.dup, 1) := by decide +kernel
theorem dX5_init_120 : decode cX5_init 120 = .ok (.iconst 2, 1) := by decide +kernel
theorem dX5_init_121 : decode cX5_init 121 = .ok (.iconst 4, 1) := by decide +kernel
theorem dX5_init_122 : decode cX5_init 122 = .ok (.iastore, 1) := by decide +kernel
theorem dX5_init_123 : decode cX5_init 123 = .ok (.dup, 1) := by decide +kernel
theorem dX5_init_124 : decode cX5_init 124 = .ok (.iconst 3, 1) := by decide +kernel
theorem dX5_init_125 : decode cX5_init 125 = .ok (.iconst 5, 1) := by decide +kernel
theorem dX5_init_126 : decode cX5_init 126 = .ok (.iastore, 1) := by decide +kernel
theorem dX5_init_127 : decode cX5_init 127 = .ok (.putfield 46, 3) := by decide +kernel
theorem dX5_init_130 : decode cX5_init 130 = .ok (.aload_n 0, 1) := by decide +kernel
theorem dX5_init_131 : decode cX5_init 131 = .ok (.iconst 4, 1) := by decide +kernel
theorem dX5_init_132 : decode cX5_init 132 = .ok (.newarray .boolean, 2) := by decide +kernel
theorem dX5_init_134 : decode cX5_init 134 = .ok (.putfield 49, 3) := by decide +kernel
theorem dX5_init_137 : decode cX5_init 137 = .ok (.aload_n 0, 1) := by decide +kernel
theorem dX5_init_138 : decode cX5_init 138 = .ok (.iconst 4, 1) := by decide +kernel
theorem dX5_init_139 : decode cX5_init 139 = .ok (.newarray .int, 2) := by decide +kernel
theorem dX5_init_141 : decode cX5_init 141 = .ok (.putfield 53, 3) := by decide +kernel
theorem dX5_init_144 : decode cX5_init 144 = .ok (.aload_n 0, 1) := by decide +kernel
theorem dX5_init_145 : decode cX5_init 145 = .ok (.iconst 4, 1) := by decide +kernel
theorem dX5_init_146 : decode cX5_init 146 = .ok (.newarray .int, 2) := by decide +kernel
theorem dX5_init_148 : decode cX5_init 148 = .ok (.putfield 56, 3) := by decide +kernel
theorem dX5_init_151 : decode cX5_init 151 = .ok (.aload_n 0, 1) := by decide +kernel
theorem dX5_init_152 : decode cX5_init 152 = .ok (.bipush 24, 2) := by decide +kernel
theorem dX5_init_154 : decode cX5_init 154 = .ok (.newarray .int, 2) := by decide +kernel
theorem dX5_init_156 : decode cX5_init 156 = .ok (.putfield 59, 3) := by decide +kernel
theorem dX5_init_159 : decode cX5_init 159 = .ok (.aload_n 0, 1) := by decide +kernel
theorem dX5_init_160 : decode cX5_init 160 = .ok (.bipush 60, 2) := by decide +kernel
theorem dX5_init_162 : decode cX5_init 162 = .ok (.newarray .int, 2) := by decide +kernel
theorem dX5_init_164 : decode cX5_init 164 = .ok (.putfield 62, 3) := by decide +kernel
theorem dX5_init_167 : decode cX5_init 167 = .ok (.aload_n 0, 1) := by decide +kernel
theorem dX5_init_168 : decode cX5_init 168 = .ok (.bipush 60, 2) := by decide +kernel
theorem dX5_init_170 : decode cX5_init 170 = .ok (.newarray .int, 2) := by decide +kernel
theorem dX5_init_172 : decode cX5_init 172 = .ok (.putfield 65, 3) := by decide +kernel
theorem dX5_init_175 : decode cX5_init 175 = .ok (.aload_n 0, 1) := by decide +kernel
theorem dX5_init_176 : decode cX5_init 176 = .ok (.bipush 60, 2) := by decide +kernel
theorem dX5_init_178 : decode cX5_init 178 = .ok (.newarray .int, 2) := by decide +kernel
theorem dX5_init_180 : decode cX5_init 180 = .ok (.putfield 68, 3) := by decide +kernel
theorem dX5_init_183 : decode cX5_init 183 = .ok (.aload_n 0, 1) := by decide +kernel
theorem dX5_init_184 : decode cX5_init 184 = .ok (.bipush 60, 2) := by decide +kernel
theorem dX5_init_186 : decode cX5_init 186 = .ok (.newarray .int, 2) := by decide +kernel
theorem dX5_init_188 : decode cX5_init 188 = .ok (.putfield 71, 3) := by decide +kernel
theorem dX5_init_191 : decode cX5_init 191 = .ok (.aload_n 0, 1) := by decide +kernel
theorem dX5_init_192 : decode cX5_init 192 = .ok (.bipush 60, 2) := by decide +kernel
theorem dX5_init_194 : decode cX5_init 194 = .ok (.newarray .int, 2) := by decide +kernel
theorem dX5_init_196 : decode cX5_init 196 = .ok (.putfield 74, 3) := by decide +kernel
theorem dX5_init_199 : decode cX5_init 199 = .ok (.aload_n 0, 1) := by decide +kernel
theorem dX5_init_200 : decode cX5_init 200 = .ok (.bipush 60, 2) := by decide +kernel
theorem dX5_init_202 : decode cX5_init 202 = .ok (.newarray .int, 2) := by decide +kernel
theorem dX5_init_204 : decode cX5_init 204 = .ok (.putfield 77, 3) := by decide +kernel
theorem dX5_init_207 : decode cX5_init 207 = .ok (.aload_n 0, 1) := by decide +kernel
theorem dX5_init_208 : decode cX5_init 208 = .ok (.bipush 60, 2) := by decide +kernel
theorem dX5_init_210 : decode cX5_init 210 = .ok (.newarray .int, 2) := by decide +kernel
theorem dX5_init_212 : decode cX5_init 212 = .ok (.putfield 80, 3) := by decide +kernel
theorem dX5_init_215 : decode cX5_init 215 = .ok (.aload_n 0, 1) := by decide +kernel
theorem dX5_init_216 : decode cX5_init 216 = .ok (.bipush 60, 2) := by decide +kernel
theorem dX5_init_218 : decode cX5_init 218 = .ok (.newarray .boolean, 2) := by decide +kernel
theorem dX5_init_220 : decode cX5_init 220 = .ok (.putfield 83, 3) := by decide +kernel
theorem dX5_init_223 : decode cX5_init 223 = .ok (.aload_n 0, 1) := by decide +kernel
theorem dX5_init_224 : decode cX5_init 224 = .ok (.bipush 6, 2) := by decide +kernel
theorem dX5_init_226 : decode cX5_init 226 = .ok (.newarray .int, 2) := by decide +kernel
theorem dX5_init_228 : decode cX5_init 228 = .ok (.putfield 86, 3) := by decide +kernel
theorem dX5_init_231 : decode cX5_init 231 = .ok (.aload_n 0, 1) := by decide +kernel
theorem dX5_init_232 : decode cX5_init 232 = .ok (.bipush 6, 2) := by decide +kernel
theorem dX5_init_234 : decode cX5_init 234 = .ok (.newarray .int, 2) := by decide +kernel
theorem dX5_init_236 : decode cX5_init 236 = .ok (.putfield 89, 3) := by decide +kernel
theorem dX5_init_239 : decode cX5_init 239 = .ok (.aload_n 0, 1) := by decide +kernel
theorem dX5_init_240 : decode cX5_init 240 = .ok (.bipush 6, 2) := by decide +kernel
theorem dX5_init_242 : decode cX5_init 242 = .ok (.newarray .int, 2) := by decide +kernel
theorem dX5_init_244 : decode cX5_init 244 = .ok (.putfield 92, 3) := by decide +kernel
theorem dX5_init_247 : decode cX5_init 247 = .ok (.aload_n 0, 1) := by decide +kernel
theorem dX5_init_248 : decode cX5_init 248 = .ok (.bipush 6, 2) := by decide +kernel
theorem dX5_init_250 : decode cX5_init 250 = .ok (.newarray .boolean, 2) := by decide +kernel
theorem dX5_init_252 : decode cX5_init 252 = .ok (.putfield 95, 3) := by decide +kernel
theorem dX5_init_255 : decode cX5_init 255 = .ok (.aload_n 0, 1) := by decide +kernel
theorem dX5_init_256 : decode cX5_init 256 = .ok (.iconst 0, 1) := by decide +kernel
theorem dX5_init_257 : decode cX5_init 257 = .ok (.putfield 98, 3) := by decide +kernel
theorem dX5_init_260 : decode cX5_init 260 = .ok (.return_, 1) := by decide +kernel
theorem dX5_in_0 : decode cX5_in 0 = .ok (.iload_n 0, 1) := by decide +kernel
theorem dX5_in_1 : decode cX5_in 1 = .ok (.iload_n 1, 1) := by decide +kernel
theorem dX5_in_2 : decode cX5_in 2 = .ok (.if_icmp .lt 12, 3) := by decide +kernel
theorem dX5_in_5 : decode cX5_in 5 = .ok (.iload_n 0, 1) := by decide +kernel
theorem dX5_in_6 : decode cX5_in 6 = .ok (.iload_n 2, 1) := by decide +kernel
theorem dX5_in_7 : decode cX5_in 7 = .ok (.if_icmp .gt 7, 3) := by decide +kernel
theorem dX5_in_10 : decode cX5_in 10 = .ok (.iconst 1, 1) := by decide +kernel
theorem dX5_in_11 : decode cX5_in 11 = .ok (.goto 4, 3) := by decide +kernel
theorem dX5_in_14 : decode cX5_in 14 = .ok (.iconst 0, 1) := by decide +kernel
theorem dX5_in_15 : decode cX5_in 15 = .ok (.ireturn, 1) := by decide +kernel
theorem dX5_egg_0 : decode cX5_egg 0 = .ok (.iload_n 1, 1) := by decide +kernel
theorem dX5_egg_1 : decode cX5_egg 1 = .ok (.iconst 0, 1) := by decide +kernel
theorem dX5_egg_2 : decode cX5_egg 2 = .ok (.iconst 3, 1) := by decide +kernel
theorem dX5_egg_3 : decode cX5_egg 3 = .ok (.invokestatic 102, 3) := by decide +kernel
theorem dX5_egg_6 : decode cX5_egg 6 = .ok (.ifCond .eq 45, 3) := by decide +kernel
theorem dX5_egg_9 : decode cX5_egg 9 = .ok (.iload_n 2, 1) := by decide +kernel
theorem dX5_egg_10 : decode cX5_egg 10 = .ok (.bipush 30, 2) := by decide +kernel
theorem dX5_egg_12 : decode cX5_egg 12 = .ok (.bipush 90, 2) := by decide +kernel
theorem dX5_egg_14 : decode cX5_egg 14 = .ok (.invokestatic 102, 3) := by decide +kernel
theorem dX5_egg_17 : decode cX5_egg 17 = .ok (.ifCond .eq 34, 3) := by decide +kernel
theorem dX5_egg_20 : decode cX5_egg 20 = .ok (.iload_n 3, 1) := by decide +kernel
theorem dX5_egg_21 : decode cX5_egg 21 = .ok (.iconst 0, 1) := by decide +kernel
theorem dX5_egg_22 : decode cX5_egg 22 = .ok (.bipush 15, 2) := by decide +kernel
theorem dX5_egg_24 : decode cX5_egg 24 = .ok (.invokestatic 102, 3) := by decide +kernel
theorem dX5_egg_27 : decode cX5_egg 27 = .ok (.ifCond .eq 24, 3) := by decide +kernel
theorem dX5_egg_30 : decode cX5_egg 30 = .ok (.iload 4, 2) := by decide +kernel
theorem dX5_egg_32 : decode cX5_egg 32 = .ok (.iconst 0, 1) := by decide +kernel
theorem dX5_egg_33 : decode cX5_egg 33 = .ok (.bipush 9, 2) := by decide +kernel
theorem dX5_egg_35 : decode cX5_egg 35 = .ok (.invokestatic 102, 3) := by decide +kernel
theorem dX5_egg_38 : decode cX5_egg 38 = .ok (.ifCond .eq 13, 3) := by decide +kernel
theorem dX5_egg_41 : decode cX5_egg 41 = .ok (.iload 5, 2) := by decide +kernel
theorem dX5_egg_43 : decode cX5_egg 43 = .ok (.iconst 0, 1) := by decide +kernel
theorem dX5_egg_44 : decode cX5_egg 44 = .ok (.iconst 3, 1) := by decide +kernel
theorem dX5_egg_45 : decode cX5_egg 45 = .ok (.invokestatic 102, 3) := by decide +kernel
theorem dX5_egg_48 : decode cX5_egg 48 = .ok (.ifCond .ne 5, 3) := by decide +kernel
theorem dX5_egg_51 : decode cX5_egg 51 = .ok (.iconst (-1), 1) := by decide +kernel
theorem dX5_egg_52 : decode cX5_egg 52 = .ok (.ireturn, 1) := by decide +kernel
theorem dX5_egg_53 : decode cX5_egg 53 = .ok (.aload_n 0, 1) := by decide +kernel
theorem dX5_egg_54 : decode cX5_egg 54 = .ok (.getfield 106, 3) := by decide +kernel
theorem dX5_egg_57 : decode cX5_egg 57 = .ok (.bipush 20, 2) := by decide +kernel
theorem dX5_egg_59 : decode cX5_egg 59 = .ok (.if_icmp .ne 6, 3) := by decide +kernel
theorem dX5_egg_62 : decode cX5_egg 62 = .ok (.bipush (-3), 2) := by decide +kernel
theorem dX5_egg_64 : decode cX5_egg 64 = .ok (.ireturn, 1) := by decide +kernel
theorem dX5_egg_65 : decode cX5_egg 65 = .ok (.aload_n 0, 1) := by decide +kernel
theorem dX5_egg_66 : decode cX5_egg 66 = .ok (.getfield 7, 3) := by decide +kernel
theorem dX5_egg_69 : decode cX5_egg 69 = .ok (.aload_n 0, 1) := by decide +kernel
theorem dX5_egg_70 : decode cX5_egg 70 = .ok (.getfield 109, 3) := by decide +kernel
theorem dX5_egg_73 : decode cX5_egg 73 = .ok (.iload_n 1, 1) := by decide +kernel
theorem dX5_egg_74 : decode cX5_egg 74 = .ok (.iastore, 1) := by decide +kernel
theorem dX5_egg_75 : decode cX5_egg 75 = .ok (.aload_n 0, 1) := by decide +kernel
theorem dX5_egg_76 : decode cX5_egg 76 = .ok (.getfield 13, 3) := by decide +kernel
theorem dX5_egg_79 : decode cX5_egg 79 = .ok (.aload_n 0, 1) := by decide +kernel
theorem dX5_egg_80 : decode cX5_egg 80 = .ok (.getfield 109, 3) := by decide +kernel
theorem dX5_egg_83 : decode cX5_egg 83 = .ok (.iload_n 2, 1) := by decide +kernel
theorem dX5_egg_84 : decode cX5_egg 84 = .ok (.iastore, 1) := by decide +kernel
theorem dX5_egg_85 : decode cX5_egg 85 = .ok (.aload_n 0, 1) := by decide +kernel
theorem dX5_egg_86 : decode cX5_egg 86 = .ok (.getfield 16, 3) := by decide +kernel
theorem dX5_egg_89 : decode cX5_egg 89 = .ok (.aload_n 0, 1) := by decide +kernel
theorem dX5_egg_90 : decode cX5_egg 90 = .ok (.getfield 109, 3) := by decide +kernel
theorem dX5_egg_93 : decode cX5_egg 93 = .ok (.iload_n 3, 1) := by decide +kernel
theorem dX5_egg_94 : decode cX5_egg 94 = .ok (.iastore, 1) := by decide +kernel
theorem dX5_egg_95 : decode cX5_egg 95 = .ok (.aload_n 0, 1) := by decide +kernel
theorem dX5_egg_96 : decode cX5_egg 96 = .ok (.getfield 19, 3) := by decide +kernel
theorem dX5_egg_99 : decode cX5_egg 99 = .ok (.aload_n 0, 1) := by decide +kernel
theorem dX5_egg_100 : decode cX5_egg 100 = .ok (.getfield 109, 3) := by decide +kernel
theorem dX5_egg_103 : decode cX5_egg 103 = .ok (.iload 4, 2) := by decide +kernel
theorem dX5_egg_105 : decode cX5_egg 105 = .ok (.iastore, 1) := by decide +kernel
theorem dX5_egg_106 : decode cX5_egg 106 = .ok (.aload_n 0, 1) := by decide +kernel
theorem dX5_egg_107 : decode cX5_egg 107 = .ok (.getfield 22, 3) := by decide +kernel
theorem dX5_egg_110 : decode cX5_egg 110 = .ok (.aload_n 0, 1) := by decide +kernel
theorem dX5_egg_111 : decode cX5_egg 111 = .ok (.getfield 109, 3) := by decide +kernel
theorem dX5_egg_114 : decode cX5_egg 114 = .ok (.iload 5, 2) := by decide +kernel
theorem dX5_egg_116 : decode cX5_egg 116 = .ok (.iastore, 1) := by decide +kernel
theorem dX5_egg_117 : decode cX5_egg 117 = .ok (.aload_n 0, 1) := by decide +kernel
theorem dX5_egg_118 : decode cX5_egg 118 = .ok (.getfield 31, 3) := by decide +kernel
theorem dX5_egg_121 : decode cX5_egg 121 = .ok (.aload_n 0, 1) := by decide +kernel
theorem dX5_egg_122 : decode cX5_egg 122 = .ok (.getfield 106, 3) := by decide +kernel
theorem dX5_egg_125 : decode cX5_egg 125 = .ok (.aload_n 0, 1) := by decide +kernel
theorem dX5_egg_126 : decode cX5_egg 126 = .ok (.getfield 109, 3) := by decide +kernel
theorem dX5_egg_129 : decode cX5_egg 129 = .ok (.iastore, 1) := by decide +kernel
theorem dX5_egg_130 : decode cX5_egg 130 = .ok (.aload_n 0, 1) := by decide +kernel
theorem dX5_egg_131 : decode cX5_egg 131 = .ok (.dup, 1) := by decide +kernel
theorem dX5_egg_132 : decode cX5_egg 132 = .ok (.getfield 106, 3) := by decide +kernel
theorem dX5_egg_135 : decode cX5_egg 135 = .ok (.iconst 1, 1) := by decide +kernel
theorem dX5_egg_136 : decode cX5_egg 136 = .ok (.iadd, 1) := by decide +kernel
theorem dX5_egg_137 : decode cX5_egg 137 = .ok (.putfield 106, 3) := by decide +kernel
theorem dX5_egg_140 : decode cX5_egg 140 = .ok (.aload_n 0, 1) := by decide +kernel
theorem dX5_egg_141 : decode cX5_egg 141 = .ok (.getfield 43, 3) := by decide +kernel
theorem dX5_egg_144 : decode cX5_egg 144 = .ok (.bipush 16, 2) := by decide +kernel
theorem dX5_egg_146 : decode cX5_egg 146 = .ok (.iload_n 1, 1) := by decide +kernel
theorem dX5_egg_147 : decode cX5_egg 147 = .ok (.iadd, 1) := by decide +kernel
theorem dX5_egg_148 : decode cX5_egg 148 = .ok (.dup2, 1) := by decide +kernel
theorem dX5_egg_149 : decode cX5_egg 149 = .ok (.iaload, 1) := by decide +kernel
theorem dX5_egg_150 : decode cX5_egg 150 = .ok (.iconst 1, 1) := by decide +kernel
theorem dX5_egg_151 : decode cX5_egg 151 = .ok (.iadd, 1) := by decide +kernel
theorem dX5_egg_152 : decode cX5_egg 152 = .ok (.iastore, 1) := by decide +kernel
theorem dX5_egg_153 : decode cX5_egg 153 = .ok (.aload_n 0, 1) := by decide +kernel
theorem dX5_egg_154 : decode cX5_egg 154 = .ok (.dup, 1) := by decide +kernel
theorem dX5_egg_155 : decode cX5_egg 155 = .ok (.getfield 109, 3) := by decide +kernel
theorem dX5_egg_158 : decode cX5_egg 158 = .ok (.iconst 1, 1) := by decide +kernel
theorem dX5_egg_159 : decode cX5_egg 159 = .ok (.iadd, 1) := by decide +kernel
theorem dX5_egg_160 : decode cX5_egg 160 = .ok (.putfield 109, 3) := by decide +kernel
theorem dX5_egg_163 : decode cX5_egg 163 = .ok (.aload_n 0, 1) := by decide +kernel
theorem dX5_egg_164 : decode cX5_egg 164 = .ok (.getfield 109, 3) := by decide +kernel
theorem dX5_egg_167 : decode cX5_egg 167 = .ok (.iconst 1, 1) := by decide +kernel
theorem dX5_egg_168 : decode cX5_egg 168 = .ok (.isub, 1) := by decide +kernel
theorem dX5_egg_169 : decode cX5_egg 169 = .ok (.ireturn, 1) := by decide +kernel
theorem dX5_gradeBy_0 : decode cX5_gradeBy 0 = .ok (.iload_n 0, 1) := by decide +kernel
theorem dX5_gradeBy_1 : decode cX5_gradeBy 1 = .ok (.bipush 43, 2) := by decide +kernel
theorem dX5_gradeBy_3 : decode cX5_gradeBy 3 = .ok (.if_icmp .ge 7, 3) := by decide +kernel
theorem dX5_gradeBy_6 : decode cX5_gradeBy 6 = .ok (.iconst 0, 1) := by decide +kernel
theorem dX5_gradeBy_7 : decode cX5_gradeBy 7 = .ok (.goto 44, 3) := by decide +kernel
theorem dX5_gradeBy_10 : decode cX5_gradeBy 10 = .ok (.iload_n 0, 1) := by decide +kernel
theorem dX5_gradeBy_11 : decode cX5_gradeBy 11 = .ok (.bipush 48, 2) := by decide +kernel
theorem dX5_gradeBy_13 : decode cX5_gradeBy 13 = .ok (.if_icmp .ge 7, 3) := by decide +kernel
theorem dX5_gradeBy_16 : decode cX5_gradeBy 16 = .ok (.iconst 1, 1) := by decide +kernel
theorem dX5_gradeBy_17 : decode cX5_gradeBy 17 = .ok (.goto 34, 3) := by decide +kernel
theorem dX5_gradeBy_20 : decode cX5_gradeBy 20 = .ok (.iload_n 0, 1) := by decide +kernel
theorem dX5_gradeBy_21 : decode cX5_gradeBy 21 = .ok (.bipush 53, 2) := by decide +kernel
theorem dX5_gradeBy_23 : decode cX5_gradeBy 23 = .ok (.if_icmp .ge 7, 3) := by decide +kernel
theorem dX5_gradeBy_26 : decode cX5_gradeBy 26 = .ok (.iconst 2, 1) := by decide +kernel
theorem dX5_gradeBy_27 : decode cX5_gradeBy 27 = .ok (.goto 24, 3) := by decide +kernel
theorem dX5_gradeBy_30 : decode cX5_gradeBy 30 = .ok (.iload_n 0, 1) := by decide +kernel
theorem dX5_gradeBy_31 : decode cX5_gradeBy 31 = .ok (.bipush 58, 2) := by decide +kernel
theorem dX5_gradeBy_33 : decode cX5_gradeBy 33 = .ok (.if_icmp .ge 7, 3) := by decide +kernel
theorem dX5_gradeBy_36 : decode cX5_gradeBy 36 = .ok (.iconst 3, 1) := by decide +kernel
theorem dX5_gradeBy_37 : decode cX5_gradeBy 37 = .ok (.goto 14, 3) := by decide +kernel
theorem dX5_gradeBy_40 : decode cX5_gradeBy 40 = .ok (.iload_n 0, 1) := by decide +kernel
theorem dX5_gradeBy_41 : decode cX5_gradeBy 41 = .ok (.bipush 63, 2) := by decide +kernel
theorem dX5_gradeBy_43 : decode cX5_gradeBy 43 = .ok (.if_icmp .ge 7, 3) := by decide +kernel
theorem dX5_gradeBy_46 : decode cX5_gradeBy 46 = .ok (.iconst 4, 1) := by decide +kernel
theorem dX5_gradeBy_47 : decode cX5_gradeBy 47 = .ok (.goto 4, 3) := by decide +kernel
theorem dX5_gradeBy_50 : decode cX5_gradeBy 50 = .ok (.iconst 5, 1) := by decide +kernel
theorem dX5_gradeBy_51 : decode cX5_gradeBy 51 = .ok (.ireturn, 1) := by decide +kernel
theorem dX5_dull_0 : decode cX5_dull 0 = .ok (.iload_n 0, 1) := by decide +kernel
theorem dX5_dull_1 : decode cX5_dull 1 = .ok (.iconst 1, 1) := by decide +kernel
theorem dX5_dull_2 : decode cX5_dull 2 = .ok (.iand, 1) := by decide +kernel
theorem dX5_dull_3 : decode cX5_dull 3 = .ok (.iload_n 0, 1) := by decide +kernel
theorem dX5_dull_4 : decode cX5_dull 4 = .ok (.iconst 1, 1) := by decide +kernel
theorem dX5_dull_5 : decode cX5_dull 5 = .ok (.ishr, 1) := by decide +kernel
theorem dX5_dull_6 : decode cX5_dull 6 = .ok (.iconst 1, 1) := by decide +kernel
theorem dX5_dull_7 : decode cX5_dull 7 = .ok (.iand, 1) := by decide +kernel
theorem dX5_dull_8 : decode cX5_dull 8 = .ok (.iadd, 1) := by decide +kernel
theorem dX5_dull_9 : decode cX5_dull 9 = .ok (.iload_n 0, 1) := by decide +kernel
theorem dX5_dull_10 : decode cX5_dull 10 = .ok (.iconst 2, 1) := by decide +kernel
theorem dX5_dull_11 : decode cX5_dull 11 = .ok (.ishr, 1) := by decide +kernel
theorem dX5_dull_12 : decode cX5_dull 12 = .ok (.iconst 1, 1) := by decide +kernel
theorem dX5_dull_13 : decode cX5_dull 13 = .ok (.iand, 1) := by decide +kernel
theorem dX5_dull_14 : decode cX5_dull 14 = .ok (.iadd, 1) := by decide +kernel
theorem dX5_dull_15 : decode cX5_dull 15 = .ok (.iload_n 0, 1) := by decide +kernel
theorem dX5_dull_16 : decode cX5_dull 16 = .ok (.iconst 3, 1) := by decide +kernel
theorem dX5_dull_17 : decode cX5_dull 17 = .ok (.ishr, 1) := by decide +kernel
theorem dX5_dull_18 : decode cX5_dull 18 = .ok (.iconst 1, 1) := by decide +kernel
theorem dX5_dull_19 : decode cX5_dull 19 = .ok (.iand, 1) := by decide +kernel
theorem dX5_dull_20 : decode cX5_dull 20 = .ok (.iadd, 1) := by decide +kernel
theorem dX5_dull_21 : decode cX5_dull 21 = .ok (.ireturn, 1) := by decide +kernel
theorem dX5_whereTo_0 : decode cX5_whereTo 0 = .ok (.aload_n 0, 1) := by decide +kernel
theorem dX5_whereTo_1 : decode cX5_whereTo 1 = .ok (.dup, 1) := by decide +kernel
theorem dX5_whereTo_2 : decode cX5_whereTo 2 = .ok (.getfield 112, 3) := by decide +kernel
theorem dX5_whereTo_5 : decode cX5_whereTo 5 = .ok (.ldc2_w 116, 3) := by decide +kernel
theorem dX5_whereTo_8 : decode cX5_whereTo 8 = .ok (.ladd, 1) := by decide +kernel
theorem dX5_whereTo_9 : decode cX5_whereTo 9 = .ok (.putfield 112, 3) := by decide +kernel
theorem dX5_whereTo_12 : decode cX5_whereTo 12 = .ok (.aload_n 0, 1) := by decide +kernel
theorem dX5_whereTo_13 : decode cX5_whereTo 13 = .ok (.getfield 16, 3) := by decide +kernel
theorem dX5_whereTo_16 : decode cX5_whereTo 16 = .ok (.iload_n 1, 1) := by decide +kernel
theorem dX5_whereTo_17 : decode cX5_whereTo 17 = .ok (.iaload, 1) := by decide +kernel
theorem dX5_whereTo_18 : decode cX5_whereTo 18 = .ok (.invokestatic 118, 3) := by decide +kernel
theorem dX5_whereTo_21 : decode cX5_whereTo 21 = .ok (.iconst 1, 1) := by decide +kernel
theorem dX5_whereTo_22 : decode cX5_whereTo 22 = .ok (.if_icmp .le 5, 3) := by decide +kernel
theorem dX5_whereTo_25 : decode cX5_whereTo 25 = .ok (.iconst 3, 1) := by decide +kernel
theorem dX5_whereTo_26 : decode cX5_whereTo 26 = .ok (.ireturn, 1) := by decide +kernel
theorem dX5_whereTo_27 : decode cX5_whereTo 27 = .ok (.aload_n 0, 1) := by decide +kernel
theorem dX5_whereTo_28 : decode cX5_whereTo 28 = .ok (.dup, 1) := by decide +kernel
theorem dX5_whereTo_29 : decode cX5_whereTo 29 = .ok (.getfield 112, 3) := by decide +kernel
theorem dX5_whereTo_32 : decode cX5_whereTo 32 = .ok (.ldc2_w 122, 3) := by decide +kernel
theorem dX5_whereTo_35 : decode cX5_whereTo 35 = .ok (.ladd, 1) := by decide +kernel
theorem dX5_whereTo_36 : decode cX5_whereTo 36 = .ok (.putfield 112, 3) := by decide +kernel
theorem dX5_whereTo_39 : decode cX5_whereTo 39 = .ok (.aload_n 0, 1) := by decide +kernel
theorem dX5_whereTo_40 : decode cX5_whereTo 40 = .ok (.getfield 19, 3) := by decide +kernel
theorem dX5_whereTo_43 : decode cX5_whereTo 43 = .ok (.iload_n 1, 1) := by decide +kernel
theorem dX5_whereTo_44 : decode cX5_whereTo 44 = .ok (.iaload, 1) := by decide +kernel
theorem dX5_whereTo_45 : decode cX5_whereTo 45 = .ok (.iconst 4, 1) := by decide +kernel
theorem dX5_whereTo_46 : decode cX5_whereTo 46 = .ok (.if_icmp .le 5, 3) := by decide +kernel
theorem dX5_whereTo_49 : decode cX5_whereTo 49 = .ok (.iconst 2, 1) := by decide +kernel
theorem dX5_whereTo_50 : decode cX5_whereTo 50 = .ok (.ireturn, 1) := by decide +kernel
theorem dX5_whereTo_51 : decode cX5_whereTo 51 = .ok (.aload_n 0, 1) := by decide +kernel
theorem dX5_whereTo_52 : decode cX5_whereTo 52 = .ok (.dup, 1) := by decide +kernel
theorem dX5_whereTo_53 : decode cX5_whereTo 53 = .ok (.getfield 112, 3) := by decide +kernel
theorem dX5_whereTo_56 : decode cX5_whereTo 56 = .ok (.ldc2_w 124, 3) := by decide +kernel
theorem dX5_whereTo_59 : decode cX5_whereTo 59 = .ok (.ladd, 1) := by decide +kernel
theorem dX5_whereTo_60 : decode cX5_whereTo 60 = .ok (.putfield 112, 3) := by decide +kernel
theorem dX5_whereTo_63 : decode cX5_whereTo 63 = .ok (.aload_n 0, 1) := by decide +kernel
theorem dX5_whereTo_64 : decode cX5_whereTo 64 = .ok (.getfield 22, 3) := by decide +kernel
theorem dX5_whereTo_67 : decode cX5_whereTo 67 = .ok (.iload_n 1, 1) := by decide +kernel
theorem dX5_whereTo_68 : decode cX5_whereTo 68 = .ok (.iaload, 1) := by decide +kernel
theorem dX5_whereTo_69 : decode cX5_whereTo 69 = .ok (.iconst 1, 1) := by decide +kernel
theorem dX5_whereTo_70 : decode cX5_whereTo 70 = .ok (.if_icmp .le 5, 3) := by decide +kernel
theorem dX5_whereTo_73 : decode cX5_whereTo 73 = .ok (.iconst 1, 1) := by decide +kernel
theorem dX5_whereTo_74 : decode cX5_whereTo 74 = .ok (.ireturn, 1) := by decide +kernel
theorem dX5_whereTo_75 : decode cX5_whereTo 75 = .ok (.aload_n 0, 1) := by decide +kernel
theorem dX5_whereTo_76 : decode cX5_whereTo 76 = .ok (.dup, 1) := by decide +kernel
theorem dX5_whereTo_77 : decode cX5_whereTo 77 = .ok (.getfield 112, 3) := by decide +kernel
theorem dX5_whereTo_80 : decode cX5_whereTo 80 = .ok (.lconst 1, 1) := by decide +kernel
theorem dX5_whereTo_81 : decode cX5_whereTo 81 = .ok (.ladd, 1) := by decide +kernel
theorem dX5_whereTo_82 : decode cX5_whereTo 82 = .ok (.putfield 112, 3) := by decide +kernel
theorem dX5_whereTo_85 : decode cX5_whereTo 85 = .ok (.iconst 0, 1) := by decide +kernel
theorem dX5_whereTo_86 : decode cX5_whereTo 86 = .ok (.ireturn, 1) := by decide +kernel
theorem dX5_looks_0 : decode cX5_looks 0 = .ok (.aload_n 0, 1) := by decide +kernel
theorem dX5_looks_1 : decode cX5_looks 1 = .ok (.getfield 34, 3) := by decide +kernel
theorem dX5_looks_4 : decode cX5_looks 4 = .ok (.iconst 5, 1) := by decide +kernel
theorem dX5_looks_5 : decode cX5_looks 5 = .ok (.iaload, 1) := by decide +kernel
theorem dX5_looks_6 : decode cX5_looks 6 = .ok (.iconst 1, 1) := by decide +kernel
theorem dX5_looks_7 : decode cX5_looks 7 = .ok (.isub, 1) := by decide +kernel
theorem dX5_looks_8 : decode cX5_looks 8 = .ok (.istore_n 1, 1) := by decide +kernel
theorem dX5_looks_9 : decode cX5_looks 9 = .ok (.iload_n 1, 1) := by decide +kernel
theorem dX5_looks_10 : decode cX5_looks 10 = .ok (.ifCond .ge 7, 3) := by decide +kernel
theorem dX5_looks_13 : decode cX5_looks 13 = .ok (.iconst 0, 1) := by decide +kernel
theorem dX5_looks_14 : decode cX5_looks 14 = .ok (.goto 8, 3) := by decide +kernel
theorem dX5_looks_17 : decode cX5_looks 17 = .ok (.aload_n 0, 1) := by decide +kernel
theorem dX5_looks_18 : decode cX5_looks 18 = .ok (.iload_n 1, 1) := by decide +kernel
theorem dX5_looks_19 : decode cX5_looks 19 = .ok (.invokevirtual 126, 3) := by decide +kernel
theorem dX5_looks_22 : decode cX5_looks 22 = .ok (.istore_n 2, 1) := by decide +kernel
theorem dX5_looks_23 : decode cX5_looks 23 = .ok (.iload_n 2, 1) := by decide +kernel
theorem dX5_looks_24 : decode cX5_looks 24 = .ok (.ifCond .ne 4, 3) := by decide +kernel
theorem dX5_looks_27 : decode cX5_looks 27 = .ok (.return_, 1) := by decide +kernel
theorem dX5_looks_28 : decode cX5_looks 28 = .ok (.aload_n 0, 1) := by decide +kernel
theorem dX5_looks_29 : decode cX5_looks 29 = .ok (.getfield 34, 3) := by decide +kernel
theorem dX5_looks_32 : decode cX5_looks 32 = .ok (.iconst 5, 1) := by decide +kernel
theorem dX5_looks_33 : decode cX5_looks 33 = .ok (.iconst 0, 1) := by decide +kernel
theorem dX5_looks_34 : decode cX5_looks 34 = .ok (.iastore, 1) := by decide +kernel
theorem dX5_looks_35 : decode cX5_looks 35 = .ok (.iload_n 2, 1) := by decide +kernel
theorem dX5_looks_36 : decode cX5_looks 36 = .ok (.iconst 1, 1) := by decide +kernel
theorem dX5_looks_37 : decode cX5_looks 37 = .ok (.if_icmp .ne 68, 3) := by decide +kernel
theorem dX5_looks_40 : decode cX5_looks 40 = .ok (.aload_n 0, 1) := by decide +kernel
theorem dX5_looks_41 : decode cX5_looks 41 = .ok (.getfield 129, 3) := by decide +kernel
theorem dX5_looks_44 : decode cX5_looks 44 = .ok (.bipush 30, 2) := by decide +kernel
theorem dX5_looks_46 : decode cX5_looks 46 = .ok (.if_icmp .ge 59, 3) := by decide +kernel
theorem dX5_looks_49 : decode cX5_looks 49 = .ok (.aload_n 0, 1) := by decide +kernel
theorem dX5_looks_50 : decode cX5_looks 50 = .ok (.getfield 37, 3) := by decide +kernel
theorem dX5_looks_53 : decode cX5_looks 53 = .ok (.aload_n 0, 1) := by decide +kernel
theorem dX5_looks_54 : decode cX5_looks 54 = .ok (.getfield 129, 3) := by decide +kernel
theorem dX5_looks_57 : decode cX5_looks 57 = .ok (.iload_n 1, 1) := by decide +kernel
theorem dX5_looks_58 : decode cX5_looks 58 = .ok (.iastore, 1) := by decide +kernel
theorem dX5_looks_59 : decode cX5_looks 59 = .ok (.aload_n 0, 1) := by decide +kernel
theorem dX5_looks_60 : decode cX5_looks 60 = .ok (.getfield 40, 3) := by decide +kernel
theorem dX5_looks_63 : decode cX5_looks 63 = .ok (.aload_n 0, 1) := by decide +kernel
theorem dX5_looks_64 : decode cX5_looks 64 = .ok (.getfield 129, 3) := by decide +kernel
theorem dX5_looks_67 : decode cX5_looks 67 = .ok (.aload_n 0, 1) := by decide +kernel
theorem dX5_looks_68 : decode cX5_looks 68 = .ok (.getfield 98, 3) := by decide +kernel
theorem dX5_looks_71 : decode cX5_looks 71 = .ok (.bipush 8, 2) := by decide +kernel
theorem dX5_looks_73 : decode cX5_looks 73 = .ok (.iadd, 1) := by decide +kernel
theorem dX5_looks_74 : decode cX5_looks 74 = .ok (.iastore, 1) := by decide +kernel
theorem dX5_looks_75 : decode cX5_looks 75 = .ok (.aload_n 0, 1) := by decide +kernel
theorem dX5_looks_76 : decode cX5_looks 76 = .ok (.dup, 1) := by decide +kernel
theorem dX5_looks_77 : decode cX5_looks 77 = .ok (.getfield 129, 3) := by decide +kernel
theorem dX5_looks_80 : decode cX5_looks 80 = .ok (.iconst 1, 1) := by decide +kernel
theorem dX5_looks_81 : decode cX5_looks 81 = .ok (.iadd, 1) := by decide +kernel
theorem dX5_looks_82 : decode cX5_looks 82 = .ok (.putfield 129, 3) := by decide +kernel
theorem dX5_looks_85 : decode cX5_looks 85 = .ok (.aload_n 0, 1) := by decide +kernel
theorem dX5_looks_86 : decode cX5_looks 86 = .ok (.dup, 1) := by decide +kernel
theorem dX5_looks_87 : decode cX5_looks 87 = .ok (.getfield 132, 3) := by decide +kernel
theorem dX5_looks_90 : decode cX5_looks 90 = .ok (.iconst 1, 1) := by decide +kernel
theorem dX5_looks_91 : decode cX5_looks 91 = .ok (.iadd, 1) := by decide +kernel
theorem dX5_looks_92 : decode cX5_looks 92 = .ok (.putfield 132, 3) := by decide +kernel
theorem dX5_looks_95 : decode cX5_looks 95 = .ok (.aload_n 0, 1) := by decide +kernel
theorem dX5_looks_96 : decode cX5_looks 96 = .ok (.getfield 22, 3) := by decide +kernel
theorem dX5_looks_99 : decode cX5_looks 99 = .ok (.iload_n 1, 1) := by decide +kernel
theorem dX5_looks_100 : decode cX5_looks 100 = .ok (.iconst 0, 1) := by decide +kernel
theorem dX5_looks_101 : decode cX5_looks 101 = .ok (.iastore, 1) := by decide +kernel
theorem dX5_looks_102 : decode cX5_looks 102 = .ok (.goto 29, 3) := by decide +kernel
theorem dX5_looks_105 : decode cX5_looks 105 = .ok (.aload_n 0, 1) := by decide +kernel
theorem dX5_looks_106 : decode cX5_looks 106 = .ok (.getfield 43, 3) := by decide +kernel
theorem dX5_looks_109 : decode cX5_looks 109 = .ok (.iload_n 2, 1) := by decide +kernel
theorem dX5_looks_110 : decode cX5_looks 110 = .ok (.iconst 3, 1) := by decide +kernel
theorem dX5_looks_111 : decode cX5_looks 111 = .ok (.if_icmp .ne 7, 3) := by decide +kernel
theorem dX5_looks_114 : decode cX5_looks 114 = .ok (.iconst 4, 1) := by decide +kernel
theorem dX5_looks_115 : decode cX5_looks 115 = .ok (.goto 4, 3) := by decide +kernel
theorem dX5_looks_118 : decode cX5_looks 118 = .ok (.iconst 0, 1) := by decide +kernel
theorem dX5_looks_119 : decode cX5_looks 119 = .ok (.aload_n 0, 1) := by decide +kernel
theorem dX5_looks_120 : decode cX5_looks 120 = .ok (.getfield 7, 3) := by decide +kernel
theorem dX5_looks_123 : decode cX5_looks 123 = .ok (.iload_n 1, 1) := by decide +kernel
theorem dX5_looks_124 : decode cX5_looks 124 = .ok (.iaload, 1) := by decide +kernel
theorem dX5_looks_125 : decode cX5_looks 125 = .ok (.iadd, 1) := by decide +kernel
theorem dX5_looks_126 : decode cX5_looks 126 = .ok (.dup2, 1) := by decide +kernel
theorem dX5_looks_127 : decode cX5_looks 127 = .ok (.iaload, 1) := by decide +kernel
theorem dX5_looks_128 : decode cX5_looks 128 = .ok (.iconst 1, 1) := by decide +kernel
theorem dX5_looks_129 : decode cX5_looks 129 = .ok (.iadd, 1) := by decide +kernel
theorem dX5_looks_130 : decode cX5_looks 130 = .ok (.iastore, 1) := by decide +kernel
theorem dX5_looks_131 : decode cX5_looks 131 = .ok (.return_, 1) := by decide +kernel
theorem dX5_packs_0 : decode cX5_packs 0 = .ok (.aload_n 0, 1) := by decide +kernel
theorem dX5_packs_1 : decode cX5_packs 1 = .ok (.getfield 135, 3) := by decide +kernel
theorem dX5_packs_4 : decode cX5_packs 4 = .ok (.istore_n 2, 1) := by decide +kernel
theorem dX5_packs_5 : decode cX5_packs 5 = .ok (.aload_n 0, 1) := by decide +kernel
theorem dX5_packs_6 : decode cX5_packs 6 = .ok (.getfield 62, 3) := by decide +kernel
theorem dX5_packs_9 : decode cX5_packs 9 = .ok (.iload_n 2, 1) := by decide +kernel
theorem dX5_packs_10 : decode cX5_packs 10 = .ok (.aload_n 0, 1) := by decide +kernel
theorem dX5_packs_11 : decode cX5_packs 11 = .ok (.getfield 46, 3) := by decide +kernel
theorem dX5_packs_14 : decode cX5_packs 14 = .ok (.iload_n 1, 1) := by decide +kernel
theorem dX5_packs_15 : decode cX5_packs 15 = .ok (.iaload, 1) := by decide +kernel
theorem dX5_packs_16 : decode cX5_packs 16 = .ok (.iastore, 1) := by decide +kernel
theorem dX5_packs_17 : decode cX5_packs 17 = .ok (.aload_n 0, 1) := by decide +kernel
theorem dX5_packs_18 : decode cX5_packs 18 = .ok (.getfield 65, 3) := by decide +kernel
theorem dX5_packs_21 : decode cX5_packs 21 = .ok (.iload_n 2, 1) := by decide +kernel
theorem dX5_packs_22 : decode cX5_packs 22 = .ok (.iconst 0, 1) := by decide +kernel
theorem dX5_packs_23 : decode cX5_packs 23 = .ok (.iastore, 1) := by decide +kernel
theorem dX5_packs_24 : decode cX5_packs 24 = .ok (.aload_n 0, 1) := by decide +kernel
theorem dX5_packs_25 : decode cX5_packs 25 = .ok (.getfield 68, 3) := by decide +kernel
theorem dX5_packs_28 : decode cX5_packs 28 = .ok (.iload_n 2, 1) := by decide +kernel
theorem dX5_packs_29 : decode cX5_packs 29 = .ok (.aload_n 0, 1) := by decide +kernel
theorem dX5_packs_30 : decode cX5_packs 30 = .ok (.getfield 28, 3) := by decide +kernel
theorem dX5_packs_33 : decode cX5_packs 33 = .ok (.aload_n 0, 1) := by decide +kernel
theorem dX5_packs_34 : decode cX5_packs 34 = .ok (.getfield 59, 3) := by decide +kernel
theorem dX5_packs_37 : decode cX5_packs 37 = .ok (.bipush 6, 2) := by decide +kernel
theorem dX5_packs_39 : decode cX5_packs 39 = .ok (.iload_n 1, 1) := by decide +kernel
theorem dX5_packs_40 : decode cX5_packs 40 = .ok (.imul, 1) := by decide +kernel
theorem dX5_packs_41 : decode cX5_packs 41 = .ok (.iaload, 1) := by decide +kernel
theorem dX5_packs_42 : decode cX5_packs 42 = .ok (.iaload, 1) := by decide +kernel
theorem dX5_packs_43 : decode cX5_packs 43 = .ok (.iastore, 1) := by decide +kernel
theorem dX5_packs_44 : decode cX5_packs 44 = .ok (.aload_n 0, 1) := by decide +kernel
theorem dX5_packs_45 : decode cX5_packs 45 = .ok (.getfield 71, 3) := by decide +kernel
theorem dX5_packs_48 : decode cX5_packs 48 = .ok (.iload_n 2, 1) := by decide +kernel
theorem dX5_packs_49 : decode cX5_packs 49 = .ok (.aload_n 0, 1) := by decide +kernel
theorem dX5_packs_50 : decode cX5_packs 50 = .ok (.getfield 68, 3) := by decide +kernel
theorem dX5_packs_53 : decode cX5_packs 53 = .ok (.iload_n 2, 1) := by decide +kernel
theorem dX5_packs_54 : decode cX5_packs 54 = .ok (.iaload, 1) := by decide +kernel
theorem dX5_packs_55 : decode cX5_packs 55 = .ok (.iastore, 1) := by decide +kernel
theorem dX5_packs_56 : decode cX5_packs 56 = .ok (.aload_n 0, 1) := by decide +kernel
theorem dX5_packs_57 : decode cX5_packs 57 = .ok (.getfield 74, 3) := by decide +kernel
theorem dX5_packs_60 : decode cX5_packs 60 = .ok (.iload_n 2, 1) := by decide +kernel
theorem dX5_packs_61 : decode cX5_packs 61 = .ok (.iconst 0, 1) := by decide +kernel
theorem dX5_packs_62 : decode cX5_packs 62 = .ok (.iastore, 1) := by decide +kernel
theorem dX5_packs_63 : decode cX5_packs 63 = .ok (.aload_n 0, 1) := by decide +kernel
theorem dX5_packs_64 : decode cX5_packs 64 = .ok (.getfield 77, 3) := by decide +kernel
theorem dX5_packs_67 : decode cX5_packs 67 = .ok (.iload_n 2, 1) := by decide +kernel
theorem dX5_packs_68 : decode cX5_packs 68 = .ok (.iconst 0, 1) := by decide +kernel
theorem dX5_packs_69 : decode cX5_packs 69 = .ok (.iastore, 1) := by decide +kernel
theorem dX5_packs_70 : decode cX5_packs 70 = .ok (.iconst 0, 1) := by decide +kernel
theorem dX5_packs_71 : decode cX5_packs 71 = .ok (.istore_n 3, 1) := by decide +kernel
theorem dX5_packs_72 : decode cX5_packs 72 = .ok (.iload_n 3, 1) := by decide +kernel
theorem dX5_packs_73 : decode cX5_packs 73 = .ok (.bipush 6, 2) := by decide +kernel
theorem dX5_packs_75 : decode cX5_packs 75 = .ok (.if_icmp .ge 148, 3) := by decide +kernel
theorem dX5_packs_78 : decode cX5_packs 78 = .ok (.aload_n 0, 1) := by decide +kernel
theorem dX5_packs_79 : decode cX5_packs 79 = .ok (.getfield 59, 3) := by decide +kernel
theorem dX5_packs_82 : decode cX5_packs 82 = .ok (.bipush 6, 2) := by decide +kernel
theorem dX5_packs_84 : decode cX5_packs 84 = .ok (.iload_n 1, 1) := by decide +kernel
theorem dX5_packs_85 : decode cX5_packs 85 = .ok (.imul, 1) := by decide +kernel
theorem dX5_packs_86 : decode cX5_packs 86 = .ok (.iload_n 3, 1) := by decide +kernel
theorem dX5_packs_87 : decode cX5_packs 87 = .ok (.iadd, 1) := by decide +kernel
theorem dX5_packs_88 : decode cX5_packs 88 = .ok (.iaload, 1) := by decide +kernel
theorem dX5_packs_89 : decode cX5_packs 89 = .ok (.istore 4, 2) := by decide +kernel
theorem dX5_packs_91 : decode cX5_packs 91 = .ok (.aload_n 0, 1) := by decide +kernel
theorem dX5_packs_92 : decode cX5_packs 92 = .ok (.getfield 65, 3) := by decide +kernel
theorem dX5_packs_95 : decode cX5_packs 95 = .ok (.iload_n 2, 1) := by decide +kernel
theorem dX5_packs_96 : decode cX5_packs 96 = .ok (.dup2, 1) := by decide +kernel
theorem dX5_packs_97 : decode cX5_packs 97 = .ok (.iaload, 1) := by decide +kernel
theorem dX5_packs_98 : decode cX5_packs 98 = .ok (.iconst 1, 1) := by decide +kernel
theorem dX5_packs_99 : decode cX5_packs 99 = .ok (.aload_n 0, 1) := by decide +kernel
theorem dX5_packs_100 : decode cX5_packs 100 = .ok (.getfield 7, 3) := by decide +kernel
theorem dX5_packs_103 : decode cX5_packs 103 = .ok (.iload 4, 2) := by decide +kernel
theorem dX5_packs_105 : decode cX5_packs 105 = .ok (.iaload, 1) := by decide +kernel
theorem dX5_packs_106 : decode cX5_packs 106 = .ok (.ishl, 1) := by decide +kernel
theorem dX5_packs_107 : decode cX5_packs 107 = .ok (.ior, 1) := by decide +kernel
theorem dX5_packs_108 : decode cX5_packs 108 = .ok (.iastore, 1) := by decide +kernel
theorem dX5_packs_109 : decode cX5_packs 109 = .ok (.aload_n 0, 1) := by decide +kernel
theorem dX5_packs_110 : decode cX5_packs 110 = .ok (.getfield 68, 3) := by decide +kernel
theorem dX5_packs_113 : decode cX5_packs 113 = .ok (.iload_n 2, 1) := by decide +kernel
theorem dX5_packs_114 : decode cX5_packs 114 = .ok (.aload_n 0, 1) := by decide +kernel
theorem dX5_packs_115 : decode cX5_packs 115 = .ok (.getfield 28, 3) := by decide +kernel
theorem dX5_packs_118 : decode cX5_packs 118 = .ok (.iload 4, 2) := by decide +kernel
theorem dX5_packs_120 : decode cX5_packs 120 = .ok (.iaload, 1) := by decide +kernel
theorem dX5_packs_121 : decode cX5_packs 121 = .ok (.aload_n 0, 1) := by decide +kernel
theorem dX5_packs_122 : decode cX5_packs 122 = .ok (.getfield 68, 3) := by decide +kernel
theorem dX5_packs_125 : decode cX5_packs 125 = .ok (.iload_n 2, 1) := by decide +kernel
theorem dX5_packs_126 : decode cX5_packs 126 = .ok (.iaload, 1) := by decide +kernel
theorem dX5_packs_127 : decode cX5_packs 127 = .ok (.if_icmp .ge 13, 3) := by decide +kernel
theorem dX5_packs_130 : decode cX5_packs 130 = .ok (.aload_n 0, 1) := by decide +kernel
theorem dX5_packs_131 : decode cX5_packs 131 = .ok (.getfield 28, 3) := by decide +kernel
theorem dX5_packs_134 : decode cX5_packs 134 = .ok (.iload 4, 2) := by decide +kernel
theorem dX5_packs_136 : decode cX5_packs 136 = .ok (.iaload, 1) := by decide +kernel
theorem dX5_packs_137 : decode cX5_packs 137 = .ok (.goto 9, 3) := by decide +kernel
theorem dX5_packs_140 : decode cX5_packs 140 = .ok (.aload_n 0, 1) := by decide +kernel
theorem dX5_packs_141 : decode cX5_packs 141 = .ok (.getfield 68, 3) := by decide +kernel
theorem dX5_packs_144 : decode cX5_packs 144 = .ok (.iload_n 2, 1) := by decide +kernel
theorem dX5_packs_145 : decode cX5_packs 145 = .ok (.iaload, 1) := by decide +kernel
theorem dX5_packs_146 : decode cX5_packs 146 = .ok (.iastore, 1) := by decide +kernel
theorem dX5_packs_147 : decode cX5_packs 147 = .ok (.aload_n 0, 1) := by decide +kernel
theorem dX5_packs_148 : decode cX5_packs 148 = .ok (.getfield 71, 3) := by decide +kernel
theorem dX5_packs_151 : decode cX5_packs 151 = .ok (.iload_n 2, 1) := by decide +kernel
theorem dX5_packs_152 : decode cX5_packs 152 = .ok (.aload_n 0, 1) := by decide +kernel
theorem dX5_packs_153 : decode cX5_packs 153 = .ok (.getfield 28, 3) := by decide +kernel
theorem dX5_packs_156 : decode cX5_packs 156 = .ok (.iload 4, 2) := by decide +kernel
theorem dX5_packs_158 : decode cX5_packs 158 = .ok (.iaload, 1) := by decide +kernel
theorem dX5_packs_159 : decode cX5_packs 159 = .ok (.aload_n 0, 1) := by decide +kernel
theorem dX5_packs_160 : decode cX5_packs 160 = .ok (.getfield 71, 3) := by decide +kernel
theorem dX5_packs_163 : decode cX5_packs 163 = .ok (.iload_n 2, 1) := by decide +kernel
theorem dX5_packs_164 : decode cX5_packs 164 = .ok (.iaload, 1) := by decide +kernel
theorem dX5_packs_165 : decode cX5_packs 165 = .ok (.if_icmp .le 13, 3) := by decide +kernel
theorem dX5_packs_168 : decode cX5_packs 168 = .ok (.aload_n 0, 1) := by decide +kernel
theorem dX5_packs_169 : decode cX5_packs 169 = .ok (.getfield 28, 3) := by decide +kernel
theorem dX5_packs_172 : decode cX5_packs 172 = .ok (.iload 4, 2) := by decide +kernel
theorem dX5_packs_174 : decode cX5_packs 174 = .ok (.iaload, 1) := by decide +kernel
theorem dX5_packs_175 : decode cX5_packs 175 = .ok (.goto 9, 3) := by decide +kernel
theorem dX5_packs_178 : decode cX5_packs 178 = .ok (.aload_n 0, 1) := by decide +kernel
theorem dX5_packs_179 : decode cX5_packs 179 = .ok (.getfield 71, 3) := by decide +kernel
theorem dX5_packs_182 : decode cX5_packs 182 = .ok (.iload_n 2, 1) := by decide +kernel
theorem dX5_packs_183 : decode cX5_packs 183 = .ok (.iaload, 1) := by decide +kernel
theorem dX5_packs_184 : decode cX5_packs 184 = .ok (.iastore, 1) := by decide +kernel
theorem dX5_packs_185 : decode cX5_packs 185 = .ok (.aload_n 0, 1) := by decide +kernel
theorem dX5_packs_186 : decode cX5_packs 186 = .ok (.getfield 74, 3) := by decide +kernel
theorem dX5_packs_189 : decode cX5_packs 189 = .ok (.iload_n 2, 1) := by decide +kernel
theorem dX5_packs_190 : decode cX5_packs 190 = .ok (.dup2, 1) := by decide +kernel
theorem dX5_packs_191 : decode cX5_packs 191 = .ok (.iaload, 1) := by decide +kernel
theorem dX5_packs_192 : decode cX5_packs 192 = .ok (.aload_n 0, 1) := by decide +kernel
theorem dX5_packs_193 : decode cX5_packs 193 = .ok (.getfield 13, 3) := by decide +kernel
theorem dX5_packs_196 : decode cX5_packs 196 = .ok (.iload 4, 2) := by decide +kernel
theorem dX5_packs_198 : decode cX5_packs 198 = .ok (.iaload, 1) := by decide +kernel
theorem dX5_packs_199 : decode cX5_packs 199 = .ok (.iadd, 1) := by decide +kernel
theorem dX5_packs_200 : decode cX5_packs 200 = .ok (.iastore, 1) := by decide +kernel
theorem dX5_packs_201 : decode cX5_packs 201 = .ok (.aload_n 0, 1) := by decide +kernel
theorem dX5_packs_202 : decode cX5_packs 202 = .ok (.getfield 77, 3) := by decide +kernel
theorem dX5_packs_205 : decode cX5_packs 205 = .ok (.iload_n 2, 1) := by decide +kernel
theorem dX5_packs_206 : decode cX5_packs 206 = .ok (.dup2, 1) := by decide +kernel
theorem dX5_packs_207 : decode cX5_packs 207 = .ok (.iaload, 1) := by decide +kernel
theorem dX5_packs_208 : decode cX5_packs 208 = .ok (.aload_n 0, 1) := by decide +kernel
theorem dX5_packs_209 : decode cX5_packs 209 = .ok (.getfield 25, 3) := by decide +kernel
theorem dX5_packs_212 : decode cX5_packs 212 = .ok (.iload 4, 2) := by decide +kernel
theorem dX5_packs_214 : decode cX5_packs 214 = .ok (.iaload, 1) := by decide +kernel
theorem dX5_packs_215 : decode cX5_packs 215 = .ok (.iadd, 1) := by decide +kernel
theorem dX5_packs_216 : decode cX5_packs 216 = .ok (.iastore, 1) := by decide +kernel
theorem dX5_packs_217 : decode cX5_packs 217 = .ok (.iinc 3 1, 3) := by decide +kernel
theorem dX5_packs_220 : decode cX5_packs 220 = .ok (.goto (-148), 3) := by decide +kernel
theorem dX5_packs_223 : decode cX5_packs 223 = .ok (.aload_n 0, 1) := by decide +kernel
theorem dX5_packs_224 : decode cX5_packs 224 = .ok (.getfield 80, 3) := by decide +kernel
theorem dX5_packs_227 : decode cX5_packs 227 = .ok (.iload_n 2, 1) := by decide +kernel
theorem dX5_packs_228 : decode cX5_packs 228 = .ok (.bipush (-9), 2) := by decide +kernel
theorem dX5_packs_230 : decode cX5_packs 230 = .ok (.iastore, 1) := by decide +kernel
theorem dX5_packs_231 : decode cX5_packs 231 = .ok (.aload_n 0, 1) := by decide +kernel
theorem dX5_packs_232 : decode cX5_packs 232 = .ok (.getfield 83, 3) := by decide +kernel
theorem dX5_packs_235 : decode cX5_packs 235 = .ok (.iload_n 2, 1) := by decide +kernel
theorem dX5_packs_236 : decode cX5_packs 236 = .ok (.iconst 0, 1) := by decide +kernel
theorem dX5_packs_237 : decode cX5_packs 237 = .ok (.bastore, 1) := by decide +kernel
theorem dX5_packs_238 : decode cX5_packs 238 = .ok (.aload_n 0, 1) := by decide +kernel
theorem dX5_packs_239 : decode cX5_packs 239 = .ok (.getfield 56, 3) := by decide +kernel
theorem dX5_packs_242 : decode cX5_packs 242 = .ok (.iload_n 1, 1) := by decide +kernel
theorem dX5_packs_243 : decode cX5_packs 243 = .ok (.iconst 0, 1) := by decide +kernel
theorem dX5_packs_244 : decode cX5_packs 244 = .ok (.iastore, 1) := by decide +kernel
theorem dX5_packs_245 : decode cX5_packs 245 = .ok (.aload_n 0, 1) := by decide +kernel
theorem dX5_packs_246 : decode cX5_packs 246 = .ok (.dup, 1) := by decide +kernel
theorem dX5_packs_247 : decode cX5_packs 247 = .ok (.getfield 135, 3) := by decide +kernel
theorem dX5_packs_250 : decode cX5_packs 250 = .ok (.iconst 1, 1) := by decide +kernel
theorem dX5_packs_251 : decode cX5_packs 251 = .ok (.iadd, 1) := by decide +kernel
theorem dX5_packs_252 : decode cX5_packs 252 = .ok (.putfield 135, 3) := by decide +kernel
theorem dX5_packs_255 : decode cX5_packs 255 = .ok (.return_, 1) := by decide +kernel
theorem dX5_takes_0 : decode cX5_takes 0 = .ok (.bipush 8, 2) := by decide +kernel
theorem dX5_takes_2 : decode cX5_takes 2 = .ok (.iconst 2, 1) := by decide +kernel
theorem dX5_takes_3 : decode cX5_takes 3 = .ok (.iload_n 1, 1) := by decide +kernel
theorem dX5_takes_4 : decode cX5_takes 4 = .ok (.imul, 1) := by decide +kernel
theorem dX5_takes_5 : decode cX5_takes 5 = .ok (.iadd, 1) := by decide +kernel
theorem dX5_takes_6 : decode cX5_takes 6 = .ok (.istore_n 2, 1) := by decide +kernel
theorem dX5_takes_7 : decode cX5_takes 7 = .ok (.aload_n 0, 1) := by decide +kernel
theorem dX5_takes_8 : decode cX5_takes 8 = .ok (.getfield 34, 3) := by decide +kernel
theorem dX5_takes_11 : decode cX5_takes 11 = .ok (.iload_n 2, 1) := by decide +kernel
theorem dX5_takes_12 : decode cX5_takes 12 = .ok (.iaload, 1) := by decide +kernel
theorem dX5_takes_13 : decode cX5_takes 13 = .ok (.iconst 1, 1) := by decide +kernel
theorem dX5_takes_14 : decode cX5_takes 14 = .ok (.isub, 1) := by decide +kernel
theorem dX5_takes_15 : decode cX5_takes 15 = .ok (.istore_n 3, 1) := by decide +kernel
theorem dX5_takes_16 : decode cX5_takes 16 = .ok (.aload_n 0, 1) := by decide +kernel
theorem dX5_takes_17 : decode cX5_takes 17 = .ok (.getfield 53, 3) := by decide +kernel
theorem dX5_takes_20 : decode cX5_takes 20 = .ok (.iload_n 1, 1) := by decide +kernel
theorem dX5_takes_21 : decode cX5_takes 21 = .ok (.iaload, 1) := by decide +kernel
theorem dX5_takes_22 : decode cX5_takes 22 = .ok (.ifCond .le 14, 3) := by decide +kernel
theorem dX5_takes_25 : decode cX5_takes 25 = .ok (.aload_n 0, 1) := by decide +kernel
theorem dX5_takes_26 : decode cX5_takes 26 = .ok (.getfield 53, 3) := by decide +kernel
theorem dX5_takes_29 : decode cX5_takes 29 = .ok (.iload_n 1, 1) := by decide +kernel
theorem dX5_takes_30 : decode cX5_takes 30 = .ok (.dup2, 1) := by decide +kernel
theorem dX5_takes_31 : decode cX5_takes 31 = .ok (.iaload, 1) := by decide +kernel
theorem dX5_takes_32 : decode cX5_takes 32 = .ok (.iconst 1, 1) := by decide +kernel
theorem dX5_takes_33 : decode cX5_takes 33 = .ok (.isub, 1) := by decide +kernel
theorem dX5_takes_34 : decode cX5_takes 34 = .ok (.iastore, 1) := by decide +kernel
theorem dX5_takes_35 : decode cX5_takes 35 = .ok (.return_, 1) := by decide +kernel
theorem dX5_takes_36 : decode cX5_takes 36 = .ok (.iload_n 3, 1) := by decide +kernel
theorem dX5_takes_37 : decode cX5_takes 37 = .ok (.ifCond .lt 49, 3) := by decide +kernel
theorem dX5_takes_40 : decode cX5_takes 40 = .ok (.aload_n 0, 1) := by decide +kernel
theorem dX5_takes_41 : decode cX5_takes 41 = .ok (.getfield 49, 3) := by decide +kernel
theorem dX5_takes_44 : decode cX5_takes 44 = .ok (.iload_n 1, 1) := by decide +kernel
theorem dX5_takes_45 : decode cX5_takes 45 = .ok (.baload, 1) := by decide +kernel
theorem dX5_takes_46 : decode cX5_takes 46 = .ok (.ifCond .ne 40, 3) := by decide +kernel
theorem dX5_takes_49 : decode cX5_takes 49 = .ok (.aload_n 0, 1) := by decide +kernel
theorem dX5_takes_50 : decode cX5_takes 50 = .ok (.getfield 25, 3) := by decide +kernel
theorem dX5_takes_53 : decode cX5_takes 53 = .ok (.iload_n 3, 1) := by decide +kernel
theorem dX5_takes_54 : decode cX5_takes 54 = .ok (.iaload, 1) := by decide +kernel
theorem dX5_takes_55 : decode cX5_takes 55 = .ok (.invokestatic 138, 3) := by decide +kernel
theorem dX5_takes_58 : decode cX5_takes 58 = .ok (.aload_n 0, 1) := by decide +kernel
theorem dX5_takes_59 : decode cX5_takes 59 = .ok (.getfield 46, 3) := by decide +kernel
theorem dX5_takes_62 : decode cX5_takes 62 = .ok (.iload_n 1, 1) := by decide +kernel
theorem dX5_takes_63 : decode cX5_takes 63 = .ok (.iaload, 1) := by decide +kernel
theorem dX5_takes_64 : decode cX5_takes 64 = .ok (.if_icmp .ne 22, 3) := by decide +kernel
theorem dX5_takes_67 : decode cX5_takes 67 = .ok (.aload_n 0, 1) := by decide +kernel
theorem dX5_takes_68 : decode cX5_takes 68 = .ok (.getfield 56, 3) := by decide +kernel
theorem dX5_takes_71 : decode cX5_takes 71 = .ok (.iload_n 1, 1) := by decide +kernel
theorem dX5_takes_72 : decode cX5_takes 72 = .ok (.iaload, 1) := by decide +kernel
theorem dX5_takes_73 : decode cX5_takes 73 = .ok (.iconst 5, 1) := by decide +kernel
theorem dX5_takes_74 : decode cX5_takes 74 = .ok (.if_icmp .ne 13, 3) := by decide +kernel
theorem dX5_takes_77 : decode cX5_takes 77 = .ok (.aload_n 0, 1) := by decide +kernel
theorem dX5_takes_78 : decode cX5_takes 78 = .ok (.getfield 135, 3) := by decide +kernel
theorem dX5_takes_81 : decode cX5_takes 81 = .ok (.bipush 60, 2) := by decide +kernel
theorem dX5_takes_83 : decode cX5_takes 83 = .ok (.if_icmp .ne 4, 3) := by decide +kernel
theorem dX5_takes_86 : decode cX5_takes 86 = .ok (.return_, 1) := by decide +kernel
theorem dX5_takes_87 : decode cX5_takes 87 = .ok (.aload_n 0, 1) := by decide +kernel
theorem dX5_takes_88 : decode cX5_takes 88 = .ok (.getfield 34, 3) := by decide +kernel
theorem dX5_takes_91 : decode cX5_takes 91 = .ok (.iload_n 2, 1) := by decide +kernel
theorem dX5_takes_92 : decode cX5_takes 92 = .ok (.iconst 0, 1) := by decide +kernel
theorem dX5_takes_93 : decode cX5_takes 93 = .ok (.iastore, 1) := by decide +kernel
theorem dX5_takes_94 : decode cX5_takes 94 = .ok (.aload_n 0, 1) := by decide +kernel
theorem dX5_takes_95 : decode cX5_takes 95 = .ok (.getfield 59, 3) := by decide +kernel
theorem dX5_takes_98 : decode cX5_takes 98 = .ok (.bipush 6, 2) := by decide +kernel
theorem dX5_takes_100 : decode cX5_takes 100 = .ok (.iload_n 1, 1) := by decide +kernel
theorem dX5_takes_101 : decode cX5_takes 101 = .ok (.imul, 1) := by decide +kernel
theorem dX5_takes_102 : decode cX5_takes 102 = .ok (.aload_n 0, 1) := by decide +kernel
theorem dX5_takes_103 : decode cX5_takes 103 = .ok (.getfield 56, 3) := by decide +kernel
theorem dX5_takes_106 : decode cX5_takes 106 = .ok (.iload_n 1, 1) := by decide +kernel
theorem dX5_takes_107 : decode cX5_takes 107 = .ok (.iaload, 1) := by decide +kernel
theorem dX5_takes_108 : decode cX5_takes 108 = .ok (.iadd, 1) := by decide +kernel
theorem dX5_takes_109 : decode cX5_takes 109 = .ok (.iload_n 3, 1) := by decide +kernel
theorem dX5_takes_110 : decode cX5_takes 110 = .ok (.iastore, 1) := by decide +kernel
theorem dX5_takes_111 : decode cX5_takes 111 = .ok (.aload_n 0, 1) := by decide +kernel
theorem dX5_takes_112 : decode cX5_takes 112 = .ok (.getfield 56, 3) := by decide +kernel
theorem dX5_takes_115 : decode cX5_takes 115 = .ok (.iload_n 1, 1) := by decide +kernel
theorem dX5_takes_116 : decode cX5_takes 116 = .ok (.dup2, 1) := by decide +kernel
theorem dX5_takes_117 : decode cX5_takes 117 = .ok (.iaload, 1) := by decide +kernel
theorem dX5_takes_118 : decode cX5_takes 118 = .ok (.iconst 1, 1) := by decide +kernel
theorem dX5_takes_119 : decode cX5_takes 119 = .ok (.iadd, 1) := by decide +kernel
theorem dX5_takes_120 : decode cX5_takes 120 = .ok (.iastore, 1) := by decide +kernel
theorem dX5_takes_121 : decode cX5_takes 121 = .ok (.aload_n 0, 1) := by decide +kernel
theorem dX5_takes_122 : decode cX5_takes 122 = .ok (.getfield 53, 3) := by decide +kernel
theorem dX5_takes_125 : decode cX5_takes 125 = .ok (.iload_n 1, 1) := by decide +kernel
theorem dX5_takes_126 : decode cX5_takes 126 = .ok (.iconst 2, 1) := by decide +kernel
theorem dX5_takes_127 : decode cX5_takes 127 = .ok (.iastore, 1) := by decide +kernel
theorem dX5_takes_128 : decode cX5_takes 128 = .ok (.aload_n 0, 1) := by decide +kernel
theorem dX5_takes_129 : decode cX5_takes 129 = .ok (.getfield 43, 3) := by decide +kernel
theorem dX5_takes_132 : decode cX5_takes 132 = .ok (.bipush 12, 2) := by decide +kernel
theorem dX5_takes_134 : decode cX5_takes 134 = .ok (.aload_n 0, 1) := by decide +kernel
theorem dX5_takes_135 : decode cX5_takes 135 = .ok (.getfield 7, 3) := by decide +kernel
theorem dX5_takes_138 : decode cX5_takes 138 = .ok (.iload_n 3, 1) := by decide +kernel
theorem dX5_takes_139 : decode cX5_takes 139 = .ok (.iaload, 1) := by decide +kernel
theorem dX5_takes_140 : decode cX5_takes 140 = .ok (.iadd, 1) := by decide +kernel
theorem dX5_takes_141 : decode cX5_takes 141 = .ok (.dup2, 1) := by decide +kernel
theorem dX5_takes_142 : decode cX5_takes 142 = .ok (.iaload, 1) := by decide +kernel
theorem dX5_takes_143 : decode cX5_takes 143 = .ok (.iconst 1, 1) := by decide +kernel
theorem dX5_takes_144 : decode cX5_takes 144 = .ok (.iadd, 1) := by decide +kernel
theorem dX5_takes_145 : decode cX5_takes 145 = .ok (.iastore, 1) := by decide +kernel
theorem dX5_takes_146 : decode cX5_takes 146 = .ok (.aload_n 0, 1) := by decide +kernel
theorem dX5_takes_147 : decode cX5_takes 147 = .ok (.getfield 56, 3) := by decide +kernel
theorem dX5_takes_150 : decode cX5_takes 150 = .ok (.iload_n 1, 1) := by decide +kernel
theorem dX5_takes_151 : decode cX5_takes 151 = .ok (.iaload, 1) := by decide +kernel
theorem dX5_takes_152 : decode cX5_takes 152 = .ok (.bipush 6, 2) := by decide +kernel
theorem dX5_takes_154 : decode cX5_takes 154 = .ok (.if_icmp .ne 8, 3) := by decide +kernel
theorem dX5_takes_157 : decode cX5_takes 157 = .ok (.aload_n 0, 1) := by decide +kernel
theorem dX5_takes_158 : decode cX5_takes 158 = .ok (.iload_n 1, 1) := by decide +kernel
theorem dX5_takes_159 : decode cX5_takes 159 = .ok (.invokevirtual 141, 3) := by decide +kernel
theorem dX5_takes_162 : decode cX5_takes 162 = .ok (.return_, 1) := by decide +kernel
theorem dX5_dries_0 : decode cX5_dries 0 = .ok (.aload_n 0, 1) := by decide +kernel
theorem dX5_dries_1 : decode cX5_dries 1 = .ok (.getfield 129, 3) := by decide +kernel
theorem dX5_dries_4 : decode cX5_dries 4 = .ok (.ifCond .le 107, 3) := by decide +kernel
theorem dX5_dries_7 : decode cX5_dries 7 = .ok (.aload_n 0, 1) := by decide +kernel
theorem dX5_dries_8 : decode cX5_dries 8 = .ok (.getfield 40, 3) := by decide +kernel
theorem dX5_dries_11 : decode cX5_dries 11 = .ok (.iconst 0, 1) := by decide +kernel
theorem dX5_dries_12 : decode cX5_dries 12 = .ok (.iaload, 1) := by decide +kernel
theorem dX5_dries_13 : decode cX5_dries 13 = .ok (.aload_n 0, 1) := by decide +kernel
theorem dX5_dries_14 : decode cX5_dries 14 = .ok (.getfield 98, 3) := by decide +kernel
theorem dX5_dries_17 : decode cX5_dries 17 = .ok (.if_icmp .gt 94, 3) := by decide +kernel
theorem dX5_dries_20 : decode cX5_dries 20 = .ok (.aload_n 0, 1) := by decide +kernel
theorem dX5_dries_21 : decode cX5_dries 21 = .ok (.getfield 106, 3) := by decide +kernel
theorem dX5_dries_24 : decode cX5_dries 24 = .ok (.bipush 20, 2) := by decide +kernel
theorem dX5_dries_26 : decode cX5_dries 26 = .ok (.if_icmp .ge 85, 3) := by decide +kernel
theorem dX5_dries_29 : decode cX5_dries 29 = .ok (.aload_n 0, 1) := by decide +kernel
theorem dX5_dries_30 : decode cX5_dries 30 = .ok (.getfield 31, 3) := by decide +kernel
theorem dX5_dries_33 : decode cX5_dries 33 = .ok (.aload_n 0, 1) := by decide +kernel
theorem dX5_dries_34 : decode cX5_dries 34 = .ok (.getfield 106, 3) := by decide +kernel
theorem dX5_dries_37 : decode cX5_dries 37 = .ok (.aload_n 0, 1) := by decide +kernel
theorem dX5_dries_38 : decode cX5_dries 38 = .ok (.getfield 37, 3) := by decide +kernel
theorem dX5_dries_41 : decode cX5_dries 41 = .ok (.iconst 0, 1) := by decide +kernel
theorem dX5_dries_42 : decode cX5_dries 42 = .ok (.iaload, 1) := by decide +kernel
theorem dX5_dries_43 : decode cX5_dries 43 = .ok (.iastore, 1) := by decide +kernel
theorem dX5_dries_44 : decode cX5_dries 44 = .ok (.aload_n 0, 1) := by decide +kernel
theorem dX5_dries_45 : decode cX5_dries 45 = .ok (.dup, 1) := by decide +kernel
theorem dX5_dries_46 : decode cX5_dries 46 = .ok (.getfield 106, 3) := by decide +kernel
theorem dX5_dries_49 : decode cX5_dries 49 = .ok (.iconst 1, 1) := by decide +kernel
theorem dX5_dries_50 : decode cX5_dries 50 = .ok (.iadd, 1) := by decide +kernel
theorem dX5_dries_51 : decode cX5_dries 51 = .ok (.putfield 106, 3) := by decide +kernel
theorem dX5_dries_54 : decode cX5_dries 54 = .ok (.aload_n 0, 1) := by decide +kernel
theorem dX5_dries_55 : decode cX5_dries 55 = .ok (.dup, 1) := by decide +kernel
theorem dX5_dries_56 : decode cX5_dries 56 = .ok (.getfield 129, 3) := by decide +kernel
theorem dX5_dries_59 : decode cX5_dries 59 = .ok (.iconst 1, 1) := by decide +kernel
theorem dX5_dries_60 : decode cX5_dries 60 = .ok (.isub, 1) := by decide +kernel
theorem dX5_dries_61 : decode cX5_dries 61 = .ok (.putfield 129, 3) := by decide +kernel
theorem dX5_dries_64 : decode cX5_dries 64 = .ok (.iconst 0, 1) := by decide +kernel
theorem dX5_dries_65 : decode cX5_dries 65 = .ok (.istore_n 1, 1) := by decide +kernel
theorem dX5_dries_66 : decode cX5_dries 66 = .ok (.iload_n 1, 1) := by decide +kernel
theorem dX5_dries_67 : decode cX5_dries 67 = .ok (.aload_n 0, 1) := by decide +kernel
theorem dX5_dries_68 : decode cX5_dries 68 = .ok (.getfield 129, 3) := by decide +kernel
theorem dX5_dries_71 : decode cX5_dries 71 = .ok (.if_icmp .ge 37, 3) := by decide +kernel
theorem dX5_dries_74 : decode cX5_dries 74 = .ok (.aload_n 0, 1) := by decide +kernel
theorem dX5_dries_75 : decode cX5_dries 75 = .ok (.getfield 37, 3) := by decide +kernel
theorem dX5_dries_78 : decode cX5_dries 78 = .ok (.iload_n 1, 1) := by decide +kernel
theorem dX5_dries_79 : decode cX5_dries 79 = .ok (.aload_n 0, 1) := by decide +kernel
theorem dX5_dries_80 : decode cX5_dries 80 = .ok (.getfield 37, 3) := by decide +kernel
theorem dX5_dries_83 : decode cX5_dries 83 = .ok (.iload_n 1, 1) := by decide +kernel
theorem dX5_dries_84 : decode cX5_dries 84 = .ok (.iconst 1, 1) := by decide +kernel
theorem dX5_dries_85 : decode cX5_dries 85 = .ok (.iadd, 1) := by decide +kernel
theorem dX5_dries_86 : decode cX5_dries 86 = .ok (.iaload, 1) := by decide +kernel
theorem dX5_dries_87 : decode cX5_dries 87 = .ok (.iastore, 1) := by decide +kernel
theorem dX5_dries_88 : decode cX5_dries 88 = .ok (.aload_n 0, 1) := by decide +kernel
theorem dX5_dries_89 : decode cX5_dries 89 = .ok (.getfield 40, 3) := by decide +kernel
theorem dX5_dries_92 : decode cX5_dries 92 = .ok (.iload_n 1, 1) := by decide +kernel
theorem dX5_dries_93 : decode cX5_dries 93 = .ok (.aload_n 0, 1) := by decide +kernel
theorem dX5_dries_94 : decode cX5_dries 94 = .ok (.getfield 40, 3) := by decide +kernel
theorem dX5_dries_97 : decode cX5_dries 97 = .ok (.iload_n 1, 1) := by decide +kernel
theorem dX5_dries_98 : decode cX5_dries 98 = .ok (.iconst 1, 1) := by decide +kernel
theorem dX5_dries_99 : decode cX5_dries 99 = .ok (.iadd, 1) := by decide +kernel
theorem dX5_dries_100 : decode cX5_dries 100 = .ok (.iaload, 1) := by decide +kernel
theorem dX5_dries_101 : decode cX5_dries 101 = .ok (.iastore, 1) := by decide +kernel
theorem dX5_dries_102 : decode cX5_dries 102 = .ok (.iinc 1 1, 3) := by decide +kernel
theorem dX5_dries_105 : decode cX5_dries 105 = .ok (.goto (-39), 3) := by decide +kernel
theorem dX5_dries_108 : decode cX5_dries 108 = .ok (.goto (-108), 3) := by decide +kernel
theorem dX5_dries_111 : decode cX5_dries 111 = .ok (.return_, 1) := by decide +kernel
theorem dX5_oneTick_0 : decode cX5_oneTick 0 = .ok (.aload_n 0, 1) := by decide +kernel
theorem dX5_oneTick_1 : decode cX5_oneTick 1 = .ok (.getfield 34, 3) := by decide +kernel
theorem dX5_oneTick_4 : decode cX5_oneTick 4 = .ok (.bipush 15, 2) := by decide +kernel
theorem dX5_oneTick_6 : decode cX5_oneTick 6 = .ok (.iaload, 1) := by decide +kernel
theorem dX5_oneTick_7 : decode cX5_oneTick 7 = .ok (.iconst 1, 1) := by decide +kernel
theorem dX5_oneTick_8 : decode cX5_oneTick 8 = .ok (.isub, 1) := by decide +kernel
theorem dX5_oneTick_9 : decode cX5_oneTick 9 = .ok (.istore_n 1, 1) := by decide +kernel
theorem dX5_oneTick_10 : decode cX5_oneTick 10 = .ok (.iload_n 1, 1) := by decide +kernel
theorem dX5_oneTick_11 : decode cX5_oneTick 11 = .ok (.ifCond .lt 21, 3) := by decide +kernel
theorem dX5_oneTick_14 : decode cX5_oneTick 14 = .ok (.aload_n 0, 1) := by decide +kernel
theorem dX5_oneTick_15 : decode cX5_oneTick 15 = .ok (.getfield 43, 3) := by decide +kernel
theorem dX5_oneTick_18 : decode cX5_oneTick 18 = .ok (.bipush 8, 2) := by decide +kernel
theorem dX5_oneTick_20 : decode cX5_oneTick 20 = .ok (.aload_n 0, 1) := by decide +kernel
theorem dX5_oneTick_21 : decode cX5_oneTick 21 = .ok (.getfield 7, 3) := by decide +kernel
theorem dX5_oneTick_24 : decode cX5_oneTick 24 = .ok (.iload_n 1, 1) := by decide +kernel
theorem dX5_oneTick_25 : decode cX5_oneTick 25 = .ok (.iaload, 1) := by decide +kernel
theorem dX5_oneTick_26 : decode cX5_oneTick 26 = .ok (.iadd, 1) := by decide +kernel
theorem dX5_oneTick_27 : decode cX5_oneTick 27 = .ok (.dup2, 1) := by decide +kernel
theorem dX5_oneTick_28 : decode cX5_oneTick 28 = .ok (.iaload, 1) := by decide +kernel
theorem dX5_oneTick_29 : decode cX5_oneTick 29 = .ok (.iconst 1, 1) := by decide +kernel
theorem dX5_oneTick_30 : decode cX5_oneTick 30 = .ok (.iadd, 1) := by decide +kernel
theorem dX5_oneTick_31 : decode cX5_oneTick 31 = .ok (.iastore, 1) := by decide +kernel
theorem dX5_oneTick_32 : decode cX5_oneTick 32 = .ok (.bipush 15, 2) := by decide +kernel
theorem dX5_oneTick_34 : decode cX5_oneTick 34 = .ok (.istore_n 2, 1) := by decide +kernel
theorem dX5_oneTick_35 : decode cX5_oneTick 35 = .ok (.iload_n 2, 1) := by decide +kernel
theorem dX5_oneTick_36 : decode cX5_oneTick 36 = .ok (.ifCond .le 23, 3) := by decide +kernel
theorem dX5_oneTick_39 : decode cX5_oneTick 39 = .ok (.aload_n 0, 1) := by decide +kernel
theorem dX5_oneTick_40 : decode cX5_oneTick 40 = .ok (.getfield 34, 3) := by decide +kernel
theorem dX5_oneTick_43 : decode cX5_oneTick 43 = .ok (.iload_n 2, 1) := by decide +kernel
theorem dX5_oneTick_44 : decode cX5_oneTick 44 = .ok (.aload_n 0, 1) := by decide +kernel
theorem dX5_oneTick_45 : decode cX5_oneTick 45 = .ok (.getfield 34, 3) := by decide +kernel
theorem dX5_oneTick_48 : decode cX5_oneTick 48 = .ok (.iload_n 2, 1) := by decide +kernel
theorem dX5_oneTick_49 : decode cX5_oneTick 49 = .ok (.iconst 1, 1) := by decide +kernel
theorem dX5_oneTick_50 : decode cX5_oneTick 50 = .ok (.isub, 1) := by decide +kernel
theorem dX5_oneTick_51 : decode cX5_oneTick 51 = .ok (.iaload, 1) := by decide +kernel
theorem dX5_oneTick_52 : decode cX5_oneTick 52 = .ok (.iastore, 1) := by decide +kernel
theorem dX5_oneTick_53 : decode cX5_oneTick 53 = .ok (.iinc 2 (-1), 3) := by decide +kernel
theorem dX5_oneTick_56 : decode cX5_oneTick 56 = .ok (.goto (-21), 3) := by decide +kernel
theorem dX5_oneTick_59 : decode cX5_oneTick 59 = .ok (.aload_n 0, 1) := by decide +kernel
theorem dX5_oneTick_60 : decode cX5_oneTick 60 = .ok (.getfield 34, 3) := by decide +kernel
theorem dX5_oneTick_63 : decode cX5_oneTick 63 = .ok (.iconst 0, 1) := by decide +kernel
theorem dX5_oneTick_64 : decode cX5_oneTick 64 = .ok (.iconst 0, 1) := by decide +kernel
theorem dX5_oneTick_65 : decode cX5_oneTick 65 = .ok (.iastore, 1) := by decide +kernel
theorem dX5_oneTick_66 : decode cX5_oneTick 66 = .ok (.aload_n 0, 1) := by decide +kernel
theorem dX5_oneTick_67 : decode cX5_oneTick 67 = .ok (.getfield 34, 3) := by decide +kernel
theorem dX5_oneTick_70 : decode cX5_oneTick 70 = .ok (.iconst 2, 1) := by decide +kernel
theorem dX5_oneTick_71 : decode cX5_oneTick 71 = .ok (.iaload, 1) := by decide +kernel
theorem dX5_oneTick_72 : decode cX5_oneTick 72 = .ok (.iconst 1, 1) := by decide +kernel
theorem dX5_oneTick_73 : decode cX5_oneTick 73 = .ok (.isub, 1) := by decide +kernel
theorem dX5_oneTick_74 : decode cX5_oneTick 74 = .ok (.istore_n 2, 1) := by decide +kernel
theorem dX5_oneTick_75 : decode cX5_oneTick 75 = .ok (.iload_n 2, 1) := by decide +kernel
theorem dX5_oneTick_76 : decode cX5_oneTick 76 = .ok (.ifCond .lt 30, 3) := by decide +kernel
theorem dX5_oneTick_79 : decode cX5_oneTick 79 = .ok (.aload_n 0, 1) := by decide +kernel
theorem dX5_oneTick_80 : decode cX5_oneTick 80 = .ok (.getfield 25, 3) := by decide +kernel
theorem dX5_oneTick_83 : decode cX5_oneTick 83 = .ok (.iload_n 2, 1) := by decide +kernel
theorem dX5_oneTick_84 : decode cX5_oneTick 84 = .ok (.aload_n 0, 1) := by decide +kernel
theorem dX5_oneTick_85 : decode cX5_oneTick 85 = .ok (.getfield 13, 3) := by decide +kernel
theorem dX5_oneTick_88 : decode cX5_oneTick 88 = .ok (.iload_n 2, 1) := by decide +kernel
theorem dX5_oneTick_89 : decode cX5_oneTick 89 = .ok (.iaload, 1) := by decide +kernel
theorem dX5_oneTick_90 : decode cX5_oneTick 90 = .ok (.aload_n 0, 1) := by decide +kernel
theorem dX5_oneTick_91 : decode cX5_oneTick 91 = .ok (.getfield 144, 3) := by decide +kernel
theorem dX5_oneTick_94 : decode cX5_oneTick 94 = .ok (.iadd, 1) := by decide +kernel
theorem dX5_oneTick_95 : decode cX5_oneTick 95 = .ok (.iastore, 1) := by decide +kernel
theorem dX5_oneTick_96 : decode cX5_oneTick 96 = .ok (.aload_n 0, 1) := by decide +kernel
theorem dX5_oneTick_97 : decode cX5_oneTick 97 = .ok (.getfield 28, 3) := by decide +kernel
theorem dX5_oneTick_100 : decode cX5_oneTick 100 = .ok (.iload_n 2, 1) := by decide +kernel
theorem dX5_oneTick_101 : decode cX5_oneTick 101 = .ok (.aload_n 0, 1) := by decide +kernel
theorem dX5_oneTick_102 : decode cX5_oneTick 102 = .ok (.getfield 98, 3) := by decide +kernel
theorem dX5_oneTick_105 : decode cX5_oneTick 105 = .ok (.iastore, 1) := by decide +kernel
theorem dX5_oneTick_106 : decode cX5_oneTick 106 = .ok (.aload_n 0, 1) := by decide +kernel
theorem dX5_oneTick_107 : decode cX5_oneTick 107 = .ok (.invokevirtual 147, 3) := by decide +kernel
theorem dX5_oneTick_110 : decode cX5_oneTick 110 = .ok (.iconst 0, 1) := by decide +kernel
theorem dX5_oneTick_111 : decode cX5_oneTick 111 = .ok (.istore_n 3, 1) := by decide +kernel
theorem dX5_oneTick_112 : decode cX5_oneTick 112 = .ok (.iload_n 3, 1) := by decide +kernel
theorem dX5_oneTick_113 : decode cX5_oneTick 113 = .ok (.iconst 4, 1) := by decide +kernel
theorem dX5_oneTick_114 : decode cX5_oneTick 114 = .ok (.if_icmp .ge 14, 3) := by decide +kernel
theorem dX5_oneTick_117 : decode cX5_oneTick 117 = .ok (.aload_n 0, 1) := by decide +kernel
theorem dX5_oneTick_118 : decode cX5_oneTick 118 = .ok (.iload_n 3, 1) := by decide +kernel
theorem dX5_oneTick_119 : decode cX5_oneTick 119 = .ok (.invokevirtual 150, 3) := by decide +kernel
theorem dX5_oneTick_122 : decode cX5_oneTick 122 = .ok (.iinc 3 1, 3) := by decide +kernel
theorem dX5_oneTick_125 : decode cX5_oneTick 125 = .ok (.goto (-13), 3) := by decide +kernel
theorem dX5_oneTick_128 : decode cX5_oneTick 128 = .ok (.aload_n 0, 1) := by decide +kernel
theorem dX5_oneTick_129 : decode cX5_oneTick 129 = .ok (.invokevirtual 153, 3) := by decide +kernel
theorem dX5_oneTick_132 : decode cX5_oneTick 132 = .ok (.aload_n 0, 1) := by decide +kernel
theorem dX5_oneTick_133 : decode cX5_oneTick 133 = .ok (.getfield 106, 3) := by decide +kernel
theorem dX5_oneTick_136 : decode cX5_oneTick 136 = .ok (.ifCond .le 57, 3) := by decide +kernel
theorem dX5_oneTick_139 : decode cX5_oneTick 139 = .ok (.aload_n 0, 1) := by decide +kernel
theorem dX5_oneTick_140 : decode cX5_oneTick 140 = .ok (.getfield 34, 3) := by decide +kernel
theorem dX5_oneTick_143 : decode cX5_oneTick 143 = .ok (.iconst 0, 1) := by decide +kernel
theorem dX5_oneTick_144 : decode cX5_oneTick 144 = .ok (.aload_n 0, 1) := by decide +kernel
theorem dX5_oneTick_145 : decode cX5_oneTick 145 = .ok (.getfield 31, 3) := by decide +kernel
theorem dX5_oneTick_148 : decode cX5_oneTick 148 = .ok (.iconst 0, 1) := by decide +kernel
theorem dX5_oneTick_149 : decode cX5_oneTick 149 = .ok (.iaload, 1) := by decide +kernel
theorem dX5_oneTick_150 : decode cX5_oneTick 150 = .ok (.iconst 1, 1) := by decide +kernel
theorem dX5_oneTick_151 : decode cX5_oneTick 151 = .ok (.iadd, 1) := by decide +kernel
theorem dX5_oneTick_152 : decode cX5_oneTick 152 = .ok (.iastore, 1) := by decide +kernel
theorem dX5_oneTick_153 : decode cX5_oneTick 153 = .ok (.aload_n 0, 1) := by decide +kernel
theorem dX5_oneTick_154 : decode cX5_oneTick 154 = .ok (.dup, 1) := by decide +kernel
theorem dX5_oneTick_155 : decode cX5_oneTick 155 = .ok (.getfield 106, 3) := by decide +kernel
theorem dX5_oneTick_158 : decode cX5_oneTick 158 = .ok (.iconst 1, 1) := by decide +kernel
theorem dX5_oneTick_159 : decode cX5_oneTick 159 = .ok (.isub, 1) := by decide +kernel
theorem dX5_oneTick_160 : decode cX5_oneTick 160 = .ok (.putfield 106, 3) := by decide +kernel
theorem dX5_oneTick_163 : decode cX5_oneTick 163 = .ok (.iconst 0, 1) := by decide +kernel
theorem dX5_oneTick_164 : decode cX5_oneTick 164 = .ok (.istore_n 3, 1) := by decide +kernel
theorem dX5_oneTick_165 : decode cX5_oneTick 165 = .ok (.iload_n 3, 1) := by decide +kernel
theorem dX5_oneTick_166 : decode cX5_oneTick 166 = .ok (.aload_n 0, 1) := by decide +kernel
theorem dX5_oneTick_167 : decode cX5_oneTick 167 = .ok (.getfield 106, 3) := by decide +kernel
theorem dX5_oneTick_170 : decode cX5_oneTick 170 = .ok (.if_icmp .ge 23, 3) := by decide +kernel
theorem dX5_oneTick_173 : decode cX5_oneTick 173 = .ok (.aload_n 0, 1) := by decide +kernel
theorem dX5_oneTick_174 : decode cX5_oneTick 174 = .ok (.getfield 31, 3) := by decide +kernel
theorem dX5_oneTick_177 : decode cX5_oneTick 177 = .ok (.iload_n 3, 1) := by decide +kernel
theorem dX5_oneTick_178 : decode cX5_oneTick 178 = .ok (.aload_n 0, 1) := by decide +kernel
theorem dX5_oneTick_179 : decode cX5_oneTick 179 = .ok (.getfield 31, 3) := by decide +kernel
theorem dX5_oneTick_182 : decode cX5_oneTick 182 = .ok (.iload_n 3, 1) := by decide +kernel
theorem dX5_oneTick_183 : decode cX5_oneTick 183 = .ok (.iconst 1, 1) := by decide +kernel
theorem dX5_oneTick_184 : decode cX5_oneTick 184 = .ok (.iadd, 1) := by decide +kernel
theorem dX5_oneTick_185 : decode cX5_oneTick 185 = .ok (.iaload, 1) := by decide +kernel
theorem dX5_oneTick_186 : decode cX5_oneTick 186 = .ok (.iastore, 1) := by decide +kernel
theorem dX5_oneTick_187 : decode cX5_oneTick 187 = .ok (.iinc 3 1, 3) := by decide +kernel
theorem dX5_oneTick_190 : decode cX5_oneTick 190 = .ok (.goto (-25), 3) := by decide +kernel
theorem dX5_oneTick_193 : decode cX5_oneTick 193 = .ok (.aload_n 0, 1) := by decide +kernel
theorem dX5_oneTick_194 : decode cX5_oneTick 194 = .ok (.dup, 1) := by decide +kernel
theorem dX5_oneTick_195 : decode cX5_oneTick 195 = .ok (.getfield 98, 3) := by decide +kernel
theorem dX5_oneTick_198 : decode cX5_oneTick 198 = .ok (.iconst 1, 1) := by decide +kernel
theorem dX5_oneTick_199 : decode cX5_oneTick 199 = .ok (.iadd, 1) := by decide +kernel
theorem dX5_oneTick_200 : decode cX5_oneTick 200 = .ok (.putfield 98, 3) := by decide +kernel
theorem dX5_oneTick_203 : decode cX5_oneTick 203 = .ok (.return_, 1) := by decide +kernel
theorem dX5_tick_0 : decode cX5_tick 0 = .ok (.iload_n 1, 1) := by decide +kernel
theorem dX5_tick_1 : decode cX5_tick 1 = .ok (.iconst 1, 1) := by decide +kernel
theorem dX5_tick_2 : decode cX5_tick 2 = .ok (.bipush 40, 2) := by decide +kernel
theorem dX5_tick_4 : decode cX5_tick 4 = .ok (.invokestatic 102, 3) := by decide +kernel
theorem dX5_tick_7 : decode cX5_tick 7 = .ok (.ifCond .ne 5, 3) := by decide +kernel
theorem dX5_tick_10 : decode cX5_tick 10 = .ok (.iconst (-1), 1) := by decide +kernel
theorem dX5_tick_11 : decode cX5_tick 11 = .ok (.ireturn, 1) := by decide +kernel
theorem dX5_tick_12 : decode cX5_tick 12 = .ok (.iconst 0, 1) := by decide +kernel
theorem dX5_tick_13 : decode cX5_tick 13 = .ok (.istore_n 2, 1) := by decide +kernel
theorem dX5_tick_14 : decode cX5_tick 14 = .ok (.iload_n 2, 1) := by decide +kernel
theorem dX5_tick_15 : decode cX5_tick 15 = .ok (.iload_n 1, 1) := by decide +kernel
theorem dX5_tick_16 : decode cX5_tick 16 = .ok (.if_icmp .ge 13, 3) := by decide +kernel
theorem dX5_tick_19 : decode cX5_tick 19 = .ok (.aload_n 0, 1) := by decide +kernel
theorem dX5_tick_20 : decode cX5_tick 20 = .ok (.invokevirtual 156, 3) := by decide +kernel
theorem dX5_tick_23 : decode cX5_tick 23 = .ok (.iinc 2 1, 3) := by decide +kernel
theorem dX5_tick_26 : decode cX5_tick 26 = .ok (.goto (-12), 3) := by decide +kernel
theorem dX5_tick_29 : decode cX5_tick 29 = .ok (.aload_n 0, 1) := by decide +kernel
theorem dX5_tick_30 : decode cX5_tick 30 = .ok (.getfield 98, 3) := by decide +kernel
theorem dX5_tick_33 : decode cX5_tick 33 = .ok (.ireturn, 1) := by decide +kernel
theorem dX5_drift_0 : decode cX5_drift 0 = .ok (.iload_n 1, 1) := by decide +kernel
theorem dX5_drift_1 : decode cX5_drift 1 = .ok (.bipush (-9), 2) := by decide +kernel
theorem dX5_drift_3 : decode cX5_drift 3 = .ok (.bipush 9, 2) := by decide +kernel
theorem dX5_drift_5 : decode cX5_drift 5 = .ok (.invokestatic 102, 3) := by decide +kernel
theorem dX5_drift_8 : decode cX5_drift 8 = .ok (.ifCond .ne 7, 3) := by decide +kernel
theorem dX5_drift_11 : decode cX5_drift 11 = .ok (.sipush (-1000), 3) := by decide +kernel
theorem dX5_drift_14 : decode cX5_drift 14 = .ok (.ireturn, 1) := by decide +kernel
theorem dX5_drift_15 : decode cX5_drift 15 = .ok (.aload_n 0, 1) := by decide +kernel
theorem dX5_drift_16 : decode cX5_drift 16 = .ok (.getfield 144, 3) := by decide +kernel
theorem dX5_drift_19 : decode cX5_drift 19 = .ok (.istore_n 2, 1) := by decide +kernel
theorem dX5_drift_20 : decode cX5_drift 20 = .ok (.aload_n 0, 1) := by decide +kernel
theorem dX5_drift_21 : decode cX5_drift 21 = .ok (.iload_n 1, 1) := by decide +kernel
theorem dX5_drift_22 : decode cX5_drift 22 = .ok (.putfield 144, 3) := by decide +kernel
theorem dX5_drift_25 : decode cX5_drift 25 = .ok (.iload_n 2, 1) := by decide +kernel
theorem dX5_drift_26 : decode cX5_drift 26 = .ok (.ireturn, 1) := by decide +kernel
theorem dX5_isPacker_0 : decode cX5_isPacker 0 = .ok (.iload_n 0, 1) := by decide +kernel
theorem dX5_isPacker_1 : decode cX5_isPacker 1 = .ok (.iconst 0, 1) := by decide +kernel
theorem dX5_isPacker_2 : decode cX5_isPacker 2 = .ok (.iconst 3, 1) := by decide +kernel
theorem dX5_isPacker_3 : decode cX5_isPacker 3 = .ok (.invokestatic 102, 3) := by decide +kernel
theorem dX5_isPacker_6 : decode cX5_isPacker 6 = .ok (.ireturn, 1) := by decide +kernel
theorem dX5_grade_0 : decode cX5_grade 0 = .ok (.iload_n 1, 1) := by decide +kernel
theorem dX5_grade_1 : decode cX5_grade 1 = .ok (.invokestatic 159, 3) := by decide +kernel
theorem dX5_grade_4 : decode cX5_grade 4 = .ok (.ifCond .eq 12, 3) := by decide +kernel
theorem dX5_grade_7 : decode cX5_grade 7 = .ok (.iload_n 2, 1) := by decide +kernel
theorem dX5_grade_8 : decode cX5_grade 8 = .ok (.iconst 0, 1) := by decide +kernel
theorem dX5_grade_9 : decode cX5_grade 9 = .ok (.iconst 5, 1) := by decide +kernel
theorem dX5_grade_10 : decode cX5_grade 10 = .ok (.invokestatic 102, 3) := by decide +kernel
theorem dX5_grade_13 : decode cX5_grade 13 = .ok (.ifCond .ne 5, 3) := by decide +kernel
theorem dX5_grade_16 : decode cX5_grade 16 = .ok (.iconst (-1), 1) := by decide +kernel
theorem dX5_grade_17 : decode cX5_grade 17 = .ok (.ireturn, 1) := by decide +kernel
theorem dX5_grade_18 : decode cX5_grade 18 = .ok (.aload_n 0, 1) := by decide +kernel
theorem dX5_grade_19 : decode cX5_grade 19 = .ok (.getfield 56, 3) := by decide +kernel
theorem dX5_grade_22 : decode cX5_grade 22 = .ok (.iload_n 1, 1) := by decide +kernel
theorem dX5_grade_23 : decode cX5_grade 23 = .ok (.iaload, 1) := by decide +kernel
theorem dX5_grade_24 : decode cX5_grade 24 = .ok (.ifCond .le 6, 3) := by decide +kernel
theorem dX5_grade_27 : decode cX5_grade 27 = .ok (.bipush (-2), 2) := by decide +kernel
theorem dX5_grade_29 : decode cX5_grade 29 = .ok (.ireturn, 1) := by decide +kernel
theorem dX5_grade_30 : decode cX5_grade 30 = .ok (.aload_n 0, 1) := by decide +kernel
theorem dX5_grade_31 : decode cX5_grade 31 = .ok (.getfield 46, 3) := by decide +kernel
theorem dX5_grade_34 : decode cX5_grade 34 = .ok (.iload_n 1, 1) := by decide +kernel
theorem dX5_grade_35 : decode cX5_grade 35 = .ok (.iaload, 1) := by decide +kernel
theorem dX5_grade_36 : decode cX5_grade 36 = .ok (.istore_n 3, 1) := by decide +kernel
theorem dX5_grade_37 : decode cX5_grade 37 = .ok (.aload_n 0, 1) := by decide +kernel
theorem dX5_grade_38 : decode cX5_grade 38 = .ok (.getfield 46, 3) := by decide +kernel
theorem dX5_grade_41 : decode cX5_grade 41 = .ok (.iload_n 1, 1) := by decide +kernel
theorem dX5_grade_42 : decode cX5_grade 42 = .ok (.iload_n 2, 1) := by decide +kernel
theorem dX5_grade_43 : decode cX5_grade 43 = .ok (.iastore, 1) := by decide +kernel
theorem dX5_grade_44 : decode cX5_grade 44 = .ok (.iload_n 3, 1) := by decide +kernel
theorem dX5_grade_45 : decode cX5_grade 45 = .ok (.ireturn, 1) := by decide +kernel
theorem dX5_on_0 : decode cX5_on 0 = .ok (.iload_n 1, 1) := by decide +kernel
theorem dX5_on_1 : decode cX5_on 1 = .ok (.invokestatic 159, 3) := by decide +kernel
theorem dX5_on_4 : decode cX5_on 4 = .ok (.ifCond .ne 5, 3) := by decide +kernel
theorem dX5_on_7 : decode cX5_on 7 = .ok (.iconst (-1), 1) := by decide +kernel
theorem dX5_on_8 : decode cX5_on 8 = .ok (.ireturn, 1) := by decide +kernel
theorem dX5_on_9 : decode cX5_on 9 = .ok (.aload_n 0, 1) := by decide +kernel
theorem dX5_on_10 : decode cX5_on 10 = .ok (.getfield 49, 3) := by decide +kernel
theorem dX5_on_13 : decode cX5_on 13 = .ok (.iload_n 1, 1) := by decide +kernel
theorem dX5_on_14 : decode cX5_on 14 = .ok (.baload, 1) := by decide +kernel
theorem dX5_on_15 : decode cX5_on 15 = .ok (.ifCond .eq 7, 3) := by decide +kernel
theorem dX5_on_18 : decode cX5_on 18 = .ok (.iconst 0, 1) := by decide +kernel
theorem dX5_on_19 : decode cX5_on 19 = .ok (.goto 4, 3) := by decide +kernel
theorem dX5_on_22 : decode cX5_on 22 = .ok (.iconst 1, 1) := by decide +kernel
theorem dX5_on_23 : decode cX5_on 23 = .ok (.istore_n 3, 1) := by decide +kernel
theorem dX5_on_24 : decode cX5_on 24 = .ok (.aload_n 0, 1) := by decide +kernel
theorem dX5_on_25 : decode cX5_on 25 = .ok (.getfield 49, 3) := by decide +kernel
theorem dX5_on_28 : decode cX5_on 28 = .ok (.iload_n 1, 1) := by decide +kernel
theorem dX5_on_29 : decode cX5_on 29 = .ok (.iload_n 2, 1) := by decide +kernel
theorem dX5_on_30 : decode cX5_on 30 = .ok (.ifCond .ne 7, 3) := by decide +kernel
theorem dX5_on_33 : decode cX5_on 33 = .ok (.iconst 1, 1) := by decide +kernel
theorem dX5_on_34 : decode cX5_on 34 = .ok (.goto 4, 3) := by decide +kernel
theorem dX5_on_37 : decode cX5_on 37 = .ok (.iconst 0, 1) := by decide +kernel
theorem dX5_on_38 : decode cX5_on 38 = .ok (.bastore, 1) := by decide +kernel
theorem dX5_on_39 : decode cX5_on 39 = .ok (.iload_n 3, 1) := by decide +kernel
theorem dX5_on_40 : decode cX5_on 40 = .ok (.ireturn, 1) := by decide +kernel
theorem dX5_at_0 : decode cX5_at 0 = .ok (.iload_n 1, 1) := by decide +kernel
theorem dX5_at_1 : decode cX5_at 1 = .ok (.iconst 0, 1) := by decide +kernel
theorem dX5_at_2 : decode cX5_at 2 = .ok (.bipush 15, 2) := by decide +kernel
theorem dX5_at_4 : decode cX5_at 4 = .ok (.invokestatic 102, 3) := by decide +kernel
theorem dX5_at_7 : decode cX5_at 7 = .ok (.ifCond .eq 12, 3) := by decide +kernel
theorem dX5_at_10 : decode cX5_at 10 = .ok (.iload_n 2, 1) := by decide +kernel
theorem dX5_at_11 : decode cX5_at 11 = .ok (.iconst 0, 1) := by decide +kernel
theorem dX5_at_12 : decode cX5_at 12 = .ok (.iconst 4, 1) := by decide +kernel
theorem dX5_at_13 : decode cX5_at 13 = .ok (.invokestatic 102, 3) := by decide +kernel
theorem dX5_at_16 : decode cX5_at 16 = .ok (.ifCond .ne 5, 3) := by decide +kernel
theorem dX5_at_19 : decode cX5_at 19 = .ok (.iconst (-1), 1) := by decide +kernel
theorem dX5_at_20 : decode cX5_at 20 = .ok (.ireturn, 1) := by decide +kernel
theorem dX5_at_21 : decode cX5_at 21 = .ok (.aload_n 0, 1) := by decide +kernel
theorem dX5_at_22 : decode cX5_at 22 = .ok (.getfield 34, 3) := by decide +kernel
theorem dX5_at_25 : decode cX5_at 25 = .ok (.iload_n 1, 1) := by decide +kernel
theorem dX5_at_26 : decode cX5_at 26 = .ok (.iaload, 1) := by decide +kernel
theorem dX5_at_27 : decode cX5_at 27 = .ok (.iconst 1, 1) := by decide +kernel
theorem dX5_at_28 : decode cX5_at 28 = .ok (.isub, 1) := by decide +kernel
theorem dX5_at_29 : decode cX5_at 29 = .ok (.istore_n 3, 1) := by decide +kernel
theorem dX5_at_30 : decode cX5_at 30 = .ok (.iload_n 3, 1) := by decide +kernel
theorem dX5_at_31 : decode cX5_at 31 = .ok (.ifCond .ge 6, 3) := by decide +kernel
theorem dX5_at_34 : decode cX5_at 34 = .ok (.bipush (-9), 2) := by decide +kernel
theorem dX5_at_36 : decode cX5_at 36 = .ok (.ireturn, 1) := by decide +kernel
theorem dX5_at_37 : decode cX5_at 37 = .ok (.iload_n 2, 1) := by decide +kernel
theorem dX5_at_38 : decode cX5_at 38 = .ok (.tableswitch 62 0 3 #[30, 32, 39, 46], 30) := by decide +kernel
theorem dX5_at_68 : decode cX5_at 68 = .ok (.iload_n 3, 1) := by decide +kernel
theorem dX5_at_69 : decode cX5_at 69 = .ok (.ireturn, 1) := by decide +kernel
theorem dX5_at_70 : decode cX5_at 70 = .ok (.aload_n 0, 1) := by decide +kernel
theorem dX5_at_71 : decode cX5_at 71 = .ok (.getfield 7, 3) := by decide +kernel
theorem dX5_at_74 : decode cX5_at 74 = .ok (.iload_n 3, 1) := by decide +kernel
theorem dX5_at_75 : decode cX5_at 75 = .ok (.iaload, 1) := by decide +kernel
theorem dX5_at_76 : decode cX5_at 76 = .ok (.ireturn, 1) := by decide +kernel
theorem dX5_at_77 : decode cX5_at 77 = .ok (.aload_n 0, 1) := by decide +kernel
theorem dX5_at_78 : decode cX5_at 78 = .ok (.getfield 13, 3) := by decide +kernel
theorem dX5_at_81 : decode cX5_at 81 = .ok (.iload_n 3, 1) := by decide +kernel
theorem dX5_at_82 : decode cX5_at 82 = .ok (.iaload, 1) := by decide +kernel
theorem dX5_at_83 : decode cX5_at 83 = .ok (.ireturn, 1) := by decide +kernel
theorem dX5_at_84 : decode cX5_at 84 = .ok (.iload_n 1, 1) := by decide +kernel
theorem dX5_at_85 : decode cX5_at 85 = .ok (.iconst 2, 1) := by decide +kernel
theorem dX5_at_86 : decode cX5_at 86 = .ok (.if_icmp .ge 7, 3) := by decide +kernel
theorem dX5_at_89 : decode cX5_at 89 = .ok (.iconst 0, 1) := by decide +kernel
theorem dX5_at_90 : decode cX5_at 90 = .ok (.goto 9, 3) := by decide +kernel
theorem dX5_at_93 : decode cX5_at 93 = .ok (.aload_n 0, 1) := by decide +kernel
theorem dX5_at_94 : decode cX5_at 94 = .ok (.getfield 25, 3) := by decide +kernel
theorem dX5_at_97 : decode cX5_at 97 = .ok (.iload_n 3, 1) := by decide +kernel
theorem dX5_at_98 : decode cX5_at 98 = .ok (.iaload, 1) := by decide +kernel
theorem dX5_at_99 : decode cX5_at 99 = .ok (.ireturn, 1) := by decide +kernel
theorem dX5_at_100 : decode cX5_at 100 = .ok (.iload_n 1, 1) := by decide +kernel
theorem dX5_at_101 : decode cX5_at 101 = .ok (.iconst 2, 1) := by decide +kernel
theorem dX5_at_102 : decode cX5_at 102 = .ok (.if_icmp .ge 8, 3) := by decide +kernel
theorem dX5_at_105 : decode cX5_at 105 = .ok (.bipush (-9), 2) := by decide +kernel
theorem dX5_at_107 : decode cX5_at 107 = .ok (.goto 12, 3) := by decide +kernel
theorem dX5_at_110 : decode cX5_at 110 = .ok (.aload_n 0, 1) := by decide +kernel
theorem dX5_at_111 : decode cX5_at 111 = .ok (.getfield 25, 3) := by decide +kernel
theorem dX5_at_114 : decode cX5_at 114 = .ok (.iload_n 3, 1) := by decide +kernel
theorem dX5_at_115 : decode cX5_at 115 = .ok (.iaload, 1) := by decide +kernel
theorem dX5_at_116 : decode cX5_at 116 = .ok (.invokestatic 138, 3) := by decide +kernel
theorem dX5_at_119 : decode cX5_at 119 = .ok (.ireturn, 1) := by decide +kernel
theorem dX5_packer_0 : decode cX5_packer 0 = .ok (.iload_n 1, 1) := by decide +kernel
theorem dX5_packer_1 : decode cX5_packer 1 = .ok (.invokestatic 159, 3) := by decide +kernel
theorem dX5_packer_4 : decode cX5_packer 4 = .ok (.ifCond .ne 5, 3) := by decide +kernel
theorem dX5_packer_7 : decode cX5_packer 7 = .ok (.iconst (-1), 1) := by decide +kernel
theorem dX5_packer_8 : decode cX5_packer 8 = .ok (.ireturn, 1) := by decide +kernel
theorem dX5_packer_9 : decode cX5_packer 9 = .ok (.iconst 0, 1) := by decide +kernel
theorem dX5_packer_10 : decode cX5_packer 10 = .ok (.istore_n 3, 1) := by decide +kernel
theorem dX5_packer_11 : decode cX5_packer 11 = .ok (.iload_n 2, 1) := by decide +kernel
theorem dX5_packer_12 : decode cX5_packer 12 = .ok (.tableswitch 116 0 4 #[36, 43, 58, 65, 72], 36) := by decide +kernel
theorem dX5_packer_48 : decode cX5_packer 48 = .ok (.aload_n 0, 1) := by decide +kernel
theorem dX5_packer_49 : decode cX5_packer 49 = .ok (.getfield 46, 3) := by decide +kernel
theorem dX5_packer_52 : decode cX5_packer 52 = .ok (.iload_n 1, 1) := by decide +kernel
theorem dX5_packer_53 : decode cX5_packer 53 = .ok (.iaload, 1) := by decide +kernel
theorem dX5_packer_54 : decode cX5_packer 54 = .ok (.ireturn, 1) := by decide +kernel
theorem dX5_packer_55 : decode cX5_packer 55 = .ok (.aload_n 0, 1) := by decide +kernel
theorem dX5_packer_56 : decode cX5_packer 56 = .ok (.getfield 49, 3) := by decide +kernel
theorem dX5_packer_59 : decode cX5_packer 59 = .ok (.iload_n 1, 1) := by decide +kernel
theorem dX5_packer_60 : decode cX5_packer 60 = .ok (.baload, 1) := by decide +kernel
theorem dX5_packer_61 : decode cX5_packer 61 = .ok (.ifCond .eq 7, 3) := by decide +kernel
theorem dX5_packer_64 : decode cX5_packer 64 = .ok (.iconst 0, 1) := by decide +kernel
theorem dX5_packer_65 : decode cX5_packer 65 = .ok (.goto 4, 3) := by decide +kernel
theorem dX5_packer_68 : decode cX5_packer 68 = .ok (.iconst 1, 1) := by decide +kernel
theorem dX5_packer_69 : decode cX5_packer 69 = .ok (.ireturn, 1) := by decide +kernel
theorem dX5_packer_70 : decode cX5_packer 70 = .ok (.aload_n 0, 1) := by decide +kernel
theorem dX5_packer_71 : decode cX5_packer 71 = .ok (.getfield 56, 3) := by decide +kernel
theorem dX5_packer_74 : decode cX5_packer 74 = .ok (.iload_n 1, 1) := by decide +kernel
theorem dX5_packer_75 : decode cX5_packer 75 = .ok (.iaload, 1) := by decide +kernel
theorem dX5_packer_76 : decode cX5_packer 76 = .ok (.ireturn, 1) := by decide +kernel
theorem dX5_packer_77 : decode cX5_packer 77 = .ok (.aload_n 0, 1) := by decide +kernel
theorem dX5_packer_78 : decode cX5_packer 78 = .ok (.getfield 53, 3) := by decide +kernel
theorem dX5_packer_81 : decode cX5_packer 81 = .ok (.iload_n 1, 1) := by decide +kernel
theorem dX5_packer_82 : decode cX5_packer 82 = .ok (.iaload, 1) := by decide +kernel
theorem dX5_packer_83 : decode cX5_packer 83 = .ok (.ireturn, 1) := by decide +kernel
theorem dX5_packer_84 : decode cX5_packer 84 = .ok (.iconst 0, 1) := by decide +kernel
theorem dX5_packer_85 : decode cX5_packer 85 = .ok (.istore 4, 2) := by decide +kernel
theorem dX5_packer_87 : decode cX5_packer 87 = .ok (.iload 4, 2) := by decide +kernel
theorem dX5_packer_89 : decode cX5_packer 89 = .ok (.aload_n 0, 1) := by decide +kernel
theorem dX5_packer_90 : decode cX5_packer 90 = .ok (.getfield 56, 3) := by decide +kernel
theorem dX5_packer_93 : decode cX5_packer 93 = .ok (.iload_n 1, 1) := by decide +kernel
theorem dX5_packer_94 : decode cX5_packer 94 = .ok (.iaload, 1) := by decide +kernel
theorem dX5_packer_95 : decode cX5_packer 95 = .ok (.if_icmp .ge 31, 3) := by decide +kernel
theorem dX5_packer_98 : decode cX5_packer 98 = .ok (.iload_n 3, 1) := by decide +kernel
theorem dX5_packer_99 : decode cX5_packer 99 = .ok (.iconst 1, 1) := by decide +kernel
theorem dX5_packer_100 : decode cX5_packer 100 = .ok (.aload_n 0, 1) := by decide +kernel
theorem dX5_packer_101 : decode cX5_packer 101 = .ok (.getfield 7, 3) := by decide +kernel
theorem dX5_packer_104 : decode cX5_packer 104 = .ok (.aload_n 0, 1) := by decide +kernel
theorem dX5_packer_105 : decode cX5_packer 105 = .ok (.getfield 59, 3) := by decide +kernel
theorem dX5_packer_108 : decode cX5_packer 108 = .ok (.bipush 6, 2) := by decide +kernel
theorem dX5_packer_110 : decode cX5_packer 110 = .ok (.iload_n 1, 1) := by decide +kernel
theorem dX5_packer_111 : decode cX5_packer 111 = .ok (.imul, 1) := by decide +kernel
theorem dX5_packer_112 : decode cX5_packer 112 = .ok (.iload 4, 2) := by decide +kernel
theorem dX5_packer_114 : decode cX5_packer 114 = .ok (.iadd, 1) := by decide +kernel
theorem dX5_packer_115 : decode cX5_packer 115 = .ok (.iaload, 1) := by decide +kernel
theorem dX5_packer_116 : decode cX5_packer 116 = .ok (.iaload, 1) := by decide +kernel
theorem dX5_packer_117 : decode cX5_packer 117 = .ok (.ishl, 1) := by decide +kernel
theorem dX5_packer_118 : decode cX5_packer 118 = .ok (.ior, 1) := by decide +kernel
theorem dX5_packer_119 : decode cX5_packer 119 = .ok (.istore_n 3, 1) := by decide +kernel
theorem dX5_packer_120 : decode cX5_packer 120 = .ok (.iinc 4 1, 3) := by decide +kernel
theorem dX5_packer_123 : decode cX5_packer 123 = .ok (.goto (-36), 3) := by decide +kernel
theorem dX5_packer_126 : decode cX5_packer 126 = .ok (.iload_n 3, 1) := by decide +kernel
theorem dX5_packer_127 : decode cX5_packer 127 = .ok (.ireturn, 1) := by decide +kernel
theorem dX5_packer_128 : decode cX5_packer 128 = .ok (.iconst (-1), 1) := by decide +kernel
theorem dX5_packer_129 : decode cX5_packer 129 = .ok (.ireturn, 1) := by decide +kernel
theorem dX5_allBarns_0 : decode cX5_allBarns 0 = .ok (.aload_n 0, 1) := by decide +kernel
theorem dX5_allBarns_1 : decode cX5_allBarns 1 = .ok (.getfield 43, 3) := by decide +kernel
theorem dX5_allBarns_4 : decode cX5_allBarns 4 = .ok (.iload_n 1, 1) := by decide +kernel
theorem dX5_allBarns_5 : decode cX5_allBarns 5 = .ok (.iaload, 1) := by decide +kernel
theorem dX5_allBarns_6 : decode cX5_allBarns 6 = .ok (.aload_n 0, 1) := by decide +kernel
theorem dX5_allBarns_7 : decode cX5_allBarns 7 = .ok (.getfield 43, 3) := by decide +kernel
theorem dX5_allBarns_10 : decode cX5_allBarns 10 = .ok (.iload_n 1, 1) := by decide +kernel
theorem dX5_allBarns_11 : decode cX5_allBarns 11 = .ok (.iconst 1, 1) := by decide +kernel
theorem dX5_allBarns_12 : decode cX5_allBarns 12 = .ok (.iadd, 1) := by decide +kernel
theorem dX5_allBarns_13 : decode cX5_allBarns 13 = .ok (.iaload, 1) := by decide +kernel
theorem dX5_allBarns_14 : decode cX5_allBarns 14 = .ok (.iadd, 1) := by decide +kernel
theorem dX5_allBarns_15 : decode cX5_allBarns 15 = .ok (.aload_n 0, 1) := by decide +kernel
theorem dX5_allBarns_16 : decode cX5_allBarns 16 = .ok (.getfield 43, 3) := by decide +kernel
theorem dX5_allBarns_19 : decode cX5_allBarns 19 = .ok (.iload_n 1, 1) := by decide +kernel
theorem dX5_allBarns_20 : decode cX5_allBarns 20 = .ok (.iconst 2, 1) := by decide +kernel
theorem dX5_allBarns_21 : decode cX5_allBarns 21 = .ok (.iadd, 1) := by decide +kernel
theorem dX5_allBarns_22 : decode cX5_allBarns 22 = .ok (.iaload, 1) := by decide +kernel
theorem dX5_allBarns_23 : decode cX5_allBarns 23 = .ok (.iadd, 1) := by decide +kernel
theorem dX5_allBarns_24 : decode cX5_allBarns 24 = .ok (.aload_n 0, 1) := by decide +kernel
theorem dX5_allBarns_25 : decode cX5_allBarns 25 = .ok (.getfield 43, 3) := by decide +kernel
theorem dX5_allBarns_28 : decode cX5_allBarns 28 = .ok (.iload_n 1, 1) := by decide +kernel
theorem dX5_allBarns_29 : decode cX5_allBarns 29 = .ok (.iconst 3, 1) := by decide +kernel
theorem dX5_allBarns_30 : decode cX5_allBarns 30 = .ok (.iadd, 1) := by decide +kernel
theorem dX5_allBarns_31 : decode cX5_allBarns 31 = .ok (.iaload, 1) := by decide +kernel
theorem dX5_allBarns_32 : decode cX5_allBarns 32 = .ok (.iadd, 1) := by decide +kernel
theorem dX5_allBarns_33 : decode cX5_allBarns 33 = .ok (.ireturn, 1) := by decide +kernel
theorem dX5_count_0 : decode cX5_count 0 = .ok (.iconst 0, 1) := by decide +kernel
theorem dX5_count_1 : decode cX5_count 1 = .ok (.istore_n 2, 1) := by decide +kernel
theorem dX5_count_2 : decode cX5_count 2 = .ok (.iload_n 1, 1) := by decide +kernel
theorem dX5_count_3 : decode cX5_count 3 = .ok (.tableswitch 161 0 9 #[53, 58, 63, 96, 101, 107, 113, 120, 148, 156], 53) := by decide +kernel
theorem dX5_count_56 : decode cX5_count 56 = .ok (.aload_n 0, 1) := by decide +kernel
theorem dX5_count_57 : decode cX5_count 57 = .ok (.getfield 109, 3) := by decide +kernel
theorem dX5_count_60 : decode cX5_count 60 = .ok (.ireturn, 1) := by decide +kernel
theorem dX5_count_61 : decode cX5_count 61 = .ok (.aload_n 0, 1) := by decide +kernel
theorem dX5_count_62 : decode cX5_count 62 = .ok (.getfield 106, 3) := by decide +kernel
theorem dX5_count_65 : decode cX5_count 65 = .ok (.ireturn, 1) := by decide +kernel
theorem dX5_count_66 : decode cX5_count 66 = .ok (.iconst 0, 1) := by decide +kernel
theorem dX5_count_67 : decode cX5_count 67 = .ok (.istore_n 3, 1) := by decide +kernel
theorem dX5_count_68 : decode cX5_count 68 = .ok (.iload_n 3, 1) := by decide +kernel
theorem dX5_count_69 : decode cX5_count 69 = .ok (.bipush 16, 2) := by decide +kernel
theorem dX5_count_71 : decode cX5_count 71 = .ok (.if_icmp .ge 26, 3) := by decide +kernel
theorem dX5_count_74 : decode cX5_count 74 = .ok (.iload_n 2, 1) := by decide +kernel
theorem dX5_count_75 : decode cX5_count 75 = .ok (.aload_n 0, 1) := by decide +kernel
theorem dX5_count_76 : decode cX5_count 76 = .ok (.getfield 34, 3) := by decide +kernel
theorem dX5_count_79 : decode cX5_count 79 = .ok (.iload_n 3, 1) := by decide +kernel
theorem dX5_count_80 : decode cX5_count 80 = .ok (.iaload, 1) := by decide +kernel
theorem dX5_count_81 : decode cX5_count 81 = .ok (.ifCond .le 7, 3) := by decide +kernel
theorem dX5_count_84 : decode cX5_count 84 = .ok (.iconst 1, 1) := by decide +kernel
theorem dX5_count_85 : decode cX5_count 85 = .ok (.goto 4, 3) := by decide +kernel
theorem dX5_count_88 : decode cX5_count 88 = .ok (.iconst 0, 1) := by decide +kernel
theorem dX5_count_89 : decode cX5_count 89 = .ok (.iadd, 1) := by decide +kernel
theorem dX5_count_90 : decode cX5_count 90 = .ok (.istore_n 2, 1) := by decide +kernel
theorem dX5_count_91 : decode cX5_count 91 = .ok (.iinc 3 1, 3) := by decide +kernel
theorem dX5_count_94 : decode cX5_count 94 = .ok (.goto (-26), 3) := by decide +kernel
theorem dX5_count_97 : decode cX5_count 97 = .ok (.iload_n 2, 1) := by decide +kernel
theorem dX5_count_98 : decode cX5_count 98 = .ok (.ireturn, 1) := by decide +kernel
theorem dX5_count_99 : decode cX5_count 99 = .ok (.aload_n 0, 1) := by decide +kernel
theorem dX5_count_100 : decode cX5_count 100 = .ok (.getfield 129, 3) := by decide +kernel
theorem dX5_count_103 : decode cX5_count 103 = .ok (.ireturn, 1) := by decide +kernel
theorem dX5_count_104 : decode cX5_count 104 = .ok (.aload_n 0, 1) := by decide +kernel
theorem dX5_count_105 : decode cX5_count 105 = .ok (.iconst 0, 1) := by decide +kernel
theorem dX5_count_106 : decode cX5_count 106 = .ok (.invokevirtual 163, 3) := by decide +kernel
theorem dX5_count_109 : decode cX5_count 109 = .ok (.ireturn, 1) := by decide +kernel
theorem dX5_count_110 : decode cX5_count 110 = .ok (.aload_n 0, 1) := by decide +kernel
theorem dX5_count_111 : decode cX5_count 111 = .ok (.iconst 4, 1) := by decide +kernel
theorem dX5_count_112 : decode cX5_count 112 = .ok (.invokevirtual 163, 3) := by decide +kernel
theorem dX5_count_115 : decode cX5_count 115 = .ok (.ireturn, 1) := by decide +kernel
theorem dX5_count_116 : decode cX5_count 116 = .ok (.aload_n 0, 1) := by decide +kernel
theorem dX5_count_117 : decode cX5_count 117 = .ok (.bipush 8, 2) := by decide +kernel
theorem dX5_count_119 : decode cX5_count 119 = .ok (.invokevirtual 163, 3) := by decide +kernel
theorem dX5_count_122 : decode cX5_count 122 = .ok (.ireturn, 1) := by decide +kernel
theorem dX5_count_123 : decode cX5_count 123 = .ok (.aload_n 0, 1) := by decide +kernel
theorem dX5_count_124 : decode cX5_count 124 = .ok (.getfield 56, 3) := by decide +kernel
theorem dX5_count_127 : decode cX5_count 127 = .ok (.iconst 0, 1) := by decide +kernel
theorem dX5_count_128 : decode cX5_count 128 = .ok (.iaload, 1) := by decide +kernel
theorem dX5_count_129 : decode cX5_count 129 = .ok (.aload_n 0, 1) := by decide +kernel
theorem dX5_count_130 : decode cX5_count 130 = .ok (.getfield 56, 3) := by decide +kernel
theorem dX5_count_133 : decode cX5_count 133 = .ok (.iconst 1, 1) := by decide +kernel
theorem dX5_count_134 : decode cX5_count 134 = .ok (.iaload, 1) := by decide +kernel
theorem dX5_count_135 : decode cX5_count 135 = .ok (.iadd, 1) := by decide +kernel
theorem dX5_count_136 : decode cX5_count 136 = .ok (.aload_n 0, 1) := by decide +kernel
theorem dX5_count_137 : decode cX5_count 137 = .ok (.getfield 56, 3) := by decide +kernel
theorem dX5_count_140 : decode cX5_count 140 = .ok (.iconst 2, 1) := by decide +kernel
theorem dX5_count_141 : decode cX5_count 141 = .ok (.iaload, 1) := by decide +kernel
theorem dX5_count_142 : decode cX5_count 142 = .ok (.iadd, 1) := by decide +kernel
theorem dX5_count_143 : decode cX5_count 143 = .ok (.aload_n 0, 1) := by decide +kernel
theorem dX5_count_144 : decode cX5_count 144 = .ok (.getfield 56, 3) := by decide +kernel
theorem dX5_count_147 : decode cX5_count 147 = .ok (.iconst 3, 1) := by decide +kernel
theorem dX5_count_148 : decode cX5_count 148 = .ok (.iaload, 1) := by decide +kernel
theorem dX5_count_149 : decode cX5_count 149 = .ok (.iadd, 1) := by decide +kernel
theorem dX5_count_150 : decode cX5_count 150 = .ok (.ireturn, 1) := by decide +kernel
theorem dX5_count_151 : decode cX5_count 151 = .ok (.bipush 6, 2) := by decide +kernel
theorem dX5_count_153 : decode cX5_count 153 = .ok (.aload_n 0, 1) := by decide +kernel
theorem dX5_count_154 : decode cX5_count 154 = .ok (.getfield 135, 3) := by decide +kernel
theorem dX5_count_157 : decode cX5_count 157 = .ok (.imul, 1) := by decide +kernel
theorem dX5_count_158 : decode cX5_count 158 = .ok (.ireturn, 1) := by decide +kernel
theorem dX5_count_159 : decode cX5_count 159 = .ok (.aload_n 0, 1) := by decide +kernel
theorem dX5_count_160 : decode cX5_count 160 = .ok (.getfield 132, 3) := by decide +kernel
theorem dX5_count_163 : decode cX5_count 163 = .ok (.ireturn, 1) := by decide +kernel
theorem dX5_count_164 : decode cX5_count 164 = .ok (.iconst (-1), 1) := by decide +kernel
theorem dX5_count_165 : decode cX5_count 165 = .ok (.ireturn, 1) := by decide +kernel
theorem dX5_barn_0 : decode cX5_barn 0 = .ok (.iload_n 1, 1) := by decide +kernel
theorem dX5_barn_1 : decode cX5_barn 1 = .ok (.iconst 0, 1) := by decide +kernel
theorem dX5_barn_2 : decode cX5_barn 2 = .ok (.iconst 3, 1) := by decide +kernel
theorem dX5_barn_3 : decode cX5_barn 3 = .ok (.invokestatic 102, 3) := by decide +kernel
theorem dX5_barn_6 : decode cX5_barn 6 = .ok (.ifCond .eq 12, 3) := by decide +kernel
theorem dX5_barn_9 : decode cX5_barn 9 = .ok (.iload_n 2, 1) := by decide +kernel
theorem dX5_barn_10 : decode cX5_barn 10 = .ok (.iconst 0, 1) := by decide +kernel
theorem dX5_barn_11 : decode cX5_barn 11 = .ok (.iconst 4, 1) := by decide +kernel
theorem dX5_barn_12 : decode cX5_barn 12 = .ok (.invokestatic 102, 3) := by decide +kernel
theorem dX5_barn_15 : decode cX5_barn 15 = .ok (.ifCond .ne 5, 3) := by decide +kernel
theorem dX5_barn_18 : decode cX5_barn 18 = .ok (.iconst (-1), 1) := by decide +kernel
theorem dX5_barn_19 : decode cX5_barn 19 = .ok (.ireturn, 1) := by decide +kernel
theorem dX5_barn_20 : decode cX5_barn 20 = .ok (.iload_n 2, 1) := by decide +kernel
theorem dX5_barn_21 : decode cX5_barn 21 = .ok (.ifCond .ne 15, 3) := by decide +kernel
theorem dX5_barn_24 : decode cX5_barn 24 = .ok (.aload_n 0, 1) := by decide +kernel
theorem dX5_barn_25 : decode cX5_barn 25 = .ok (.getfield 43, 3) := by decide +kernel
theorem dX5_barn_28 : decode cX5_barn 28 = .ok (.bipush 16, 2) := by decide +kernel
theorem dX5_barn_30 : decode cX5_barn 30 = .ok (.iload_n 1, 1) := by decide +kernel
theorem dX5_barn_31 : decode cX5_barn 31 = .ok (.iadd, 1) := by decide +kernel
theorem dX5_barn_32 : decode cX5_barn 32 = .ok (.iaload, 1) := by decide +kernel
theorem dX5_barn_33 : decode cX5_barn 33 = .ok (.goto 15, 3) := by decide +kernel
theorem dX5_barn_36 : decode cX5_barn 36 = .ok (.aload_n 0, 1) := by decide +kernel
theorem dX5_barn_37 : decode cX5_barn 37 = .ok (.getfield 43, 3) := by decide +kernel
theorem dX5_barn_40 : decode cX5_barn 40 = .ok (.iconst 4, 1) := by decide +kernel
theorem dX5_barn_41 : decode cX5_barn 41 = .ok (.iload_n 2, 1) := by decide +kernel
theorem dX5_barn_42 : decode cX5_barn 42 = .ok (.iconst 1, 1) := by decide +kernel
theorem dX5_barn_43 : decode cX5_barn 43 = .ok (.isub, 1) := by decide +kernel
theorem dX5_barn_44 : decode cX5_barn 44 = .ok (.imul, 1) := by decide +kernel
theorem dX5_barn_45 : decode cX5_barn 45 = .ok (.iload_n 1, 1) := by decide +kernel
theorem dX5_barn_46 : decode cX5_barn 46 = .ok (.iadd, 1) := by decide +kernel
theorem dX5_barn_47 : decode cX5_barn 47 = .ok (.iaload, 1) := by decide +kernel
theorem dX5_barn_48 : decode cX5_barn 48 = .ok (.ireturn, 1) := by decide +kernel
theorem dX5_isPack_0 : decode cX5_isPack 0 = .ok (.iload_n 1, 1) := by decide +kernel
theorem dX5_isPack_1 : decode cX5_isPack 1 = .ok (.iconst 0, 1) := by decide +kernel
theorem dX5_isPack_2 : decode cX5_isPack 2 = .ok (.aload_n 0, 1) := by decide +kernel
theorem dX5_isPack_3 : decode cX5_isPack 3 = .ok (.getfield 135, 3) := by decide +kernel
theorem dX5_isPack_6 : decode cX5_isPack 6 = .ok (.iconst 1, 1) := by decide +kernel
theorem dX5_isPack_7 : decode cX5_isPack 7 = .ok (.isub, 1) := by decide +kernel
theorem dX5_isPack_8 : decode cX5_isPack 8 = .ok (.invokestatic 102, 3) := by decide +kernel
theorem dX5_isPack_11 : decode cX5_isPack 11 = .ok (.ireturn, 1) := by decide +kernel
theorem dX5_pack_0 : decode cX5_pack 0 = .ok (.aload_n 0, 1) := by decide +kernel
theorem dX5_pack_1 : decode cX5_pack 1 = .ok (.iload_n 1, 1) := by decide +kernel
theorem dX5_pack_2 : decode cX5_pack 2 = .ok (.invokevirtual 166, 3) := by decide +kernel
theorem dX5_pack_5 : decode cX5_pack 5 = .ok (.ifCond .ne 5, 3) := by decide +kernel
theorem dX5_pack_8 : decode cX5_pack 8 = .ok (.iconst (-1), 1) := by decide +kernel
theorem dX5_pack_9 : decode cX5_pack 9 = .ok (.ireturn, 1) := by decide +kernel
theorem dX5_pack_10 : decode cX5_pack 10 = .ok (.iload_n 2, 1) := by decide +kernel
theorem dX5_pack_11 : decode cX5_pack 11 = .ok (.tableswitch 109 0 7 #[45, 52, 59, 66, 73, 80, 95, 102], 45) := by decide +kernel
theorem dX5_pack_56 : decode cX5_pack 56 = .ok (.aload_n 0, 1) := by decide +kernel
theorem dX5_pack_57 : decode cX5_pack 57 = .ok (.getfield 62, 3) := by decide +kernel
theorem dX5_pack_60 : decode cX5_pack 60 = .ok (.iload_n 1, 1) := by decide +kernel
theorem dX5_pack_61 : decode cX5_pack 61 = .ok (.iaload, 1) := by decide +kernel
theorem dX5_pack_62 : decode cX5_pack 62 = .ok (.ireturn, 1) := by decide +kernel
theorem dX5_pack_63 : decode cX5_pack 63 = .ok (.aload_n 0, 1) := by decide +kernel
theorem dX5_pack_64 : decode cX5_pack 64 = .ok (.getfield 65, 3) := by decide +kernel
theorem dX5_pack_67 : decode cX5_pack 67 = .ok (.iload_n 1, 1) := by decide +kernel
theorem dX5_pack_68 : decode cX5_pack 68 = .ok (.iaload, 1) := by decide +kernel
theorem dX5_pack_69 : decode cX5_pack 69 = .ok (.ireturn, 1) := by decide +kernel
theorem dX5_pack_70 : decode cX5_pack 70 = .ok (.aload_n 0, 1) := by decide +kernel
theorem dX5_pack_71 : decode cX5_pack 71 = .ok (.getfield 68, 3) := by decide +kernel
theorem dX5_pack_74 : decode cX5_pack 74 = .ok (.iload_n 1, 1) := by decide +kernel
theorem dX5_pack_75 : decode cX5_pack 75 = .ok (.iaload, 1) := by decide +kernel
theorem dX5_pack_76 : decode cX5_pack 76 = .ok (.ireturn, 1) := by decide +kernel
theorem dX5_pack_77 : decode cX5_pack 77 = .ok (.aload_n 0, 1) := by decide +kernel
theorem dX5_pack_78 : decode cX5_pack 78 = .ok (.getfield 71, 3) := by decide +kernel
theorem dX5_pack_81 : decode cX5_pack 81 = .ok (.iload_n 1, 1) := by decide +kernel
theorem dX5_pack_82 : decode cX5_pack 82 = .ok (.iaload, 1) := by decide +kernel
theorem dX5_pack_83 : decode cX5_pack 83 = .ok (.ireturn, 1) := by decide +kernel
theorem dX5_pack_84 : decode cX5_pack 84 = .ok (.aload_n 0, 1) := by decide +kernel
theorem dX5_pack_85 : decode cX5_pack 85 = .ok (.getfield 80, 3) := by decide +kernel
theorem dX5_pack_88 : decode cX5_pack 88 = .ok (.iload_n 1, 1) := by decide +kernel
theorem dX5_pack_89 : decode cX5_pack 89 = .ok (.iaload, 1) := by decide +kernel
theorem dX5_pack_90 : decode cX5_pack 90 = .ok (.ireturn, 1) := by decide +kernel
theorem dX5_pack_91 : decode cX5_pack 91 = .ok (.aload_n 0, 1) := by decide +kernel
theorem dX5_pack_92 : decode cX5_pack 92 = .ok (.getfield 83, 3) := by decide +kernel
theorem dX5_pack_95 : decode cX5_pack 95 = .ok (.iload_n 1, 1) := by decide +kernel
theorem dX5_pack_96 : decode cX5_pack 96 = .ok (.baload, 1) := by decide +kernel
theorem dX5_pack_97 : decode cX5_pack 97 = .ok (.ifCond .eq 7, 3) := by decide +kernel
theorem dX5_pack_100 : decode cX5_pack 100 = .ok (.iconst 1, 1) := by decide +kernel
theorem dX5_pack_101 : decode cX5_pack 101 = .ok (.goto 4, 3) := by decide +kernel
theorem dX5_pack_104 : decode cX5_pack 104 = .ok (.iconst 0, 1) := by decide +kernel
theorem dX5_pack_105 : decode cX5_pack 105 = .ok (.ireturn, 1) := by decide +kernel
theorem dX5_pack_106 : decode cX5_pack 106 = .ok (.aload_n 0, 1) := by decide +kernel
theorem dX5_pack_107 : decode cX5_pack 107 = .ok (.getfield 74, 3) := by decide +kernel
theorem dX5_pack_110 : decode cX5_pack 110 = .ok (.iload_n 1, 1) := by decide +kernel
theorem dX5_pack_111 : decode cX5_pack 111 = .ok (.iaload, 1) := by decide +kernel
theorem dX5_pack_112 : decode cX5_pack 112 = .ok (.ireturn, 1) := by decide +kernel
theorem dX5_pack_113 : decode cX5_pack 113 = .ok (.aload_n 0, 1) := by decide +kernel
theorem dX5_pack_114 : decode cX5_pack 114 = .ok (.getfield 77, 3) := by decide +kernel
theorem dX5_pack_117 : decode cX5_pack 117 = .ok (.iload_n 1, 1) := by decide +kernel
theorem dX5_pack_118 : decode cX5_pack 118 = .ok (.iaload, 1) := by decide +kernel
theorem dX5_pack_119 : decode cX5_pack 119 = .ok (.ireturn, 1) := by decide +kernel
theorem dX5_pack_120 : decode cX5_pack 120 = .ok (.iconst (-1), 1) := by decide +kernel
theorem dX5_pack_121 : decode cX5_pack 121 = .ok (.ireturn, 1) := by decide +kernel
theorem dX5_isFree_0 : decode cX5_isFree 0 = .ok (.aload_n 0, 1) := by decide +kernel
theorem dX5_isFree_1 : decode cX5_isFree 1 = .ok (.getfield 80, 3) := by decide +kernel
theorem dX5_isFree_4 : decode cX5_isFree 4 = .ok (.iload_n 1, 1) := by decide +kernel
theorem dX5_isFree_5 : decode cX5_isFree 5 = .ok (.iaload, 1) := by decide +kernel
theorem dX5_isFree_6 : decode cX5_isFree 6 = .ok (.bipush (-9), 2) := by decide +kernel
theorem dX5_isFree_8 : decode cX5_isFree 8 = .ok (.if_icmp .ne 16, 3) := by decide +kernel
theorem dX5_isFree_11 : decode cX5_isFree 11 = .ok (.aload_n 0, 1) := by decide +kernel
theorem dX5_isFree_12 : decode cX5_isFree 12 = .ok (.getfield 83, 3) := by decide +kernel
theorem dX5_isFree_15 : decode cX5_isFree 15 = .ok (.iload_n 1, 1) := by decide +kernel
theorem dX5_isFree_16 : decode cX5_isFree 16 = .ok (.baload, 1) := by decide +kernel
theorem dX5_isFree_17 : decode cX5_isFree 17 = .ok (.ifCond .ne 7, 3) := by decide +kernel
theorem dX5_isFree_20 : decode cX5_isFree 20 = .ok (.iconst 1, 1) := by decide +kernel
theorem dX5_isFree_21 : decode cX5_isFree 21 = .ok (.goto 4, 3) := by decide +kernel
theorem dX5_isFree_24 : decode cX5_isFree 24 = .ok (.iconst 0, 1) := by decide +kernel
theorem dX5_isFree_25 : decode cX5_isFree 25 = .ok (.ireturn, 1) := by decide +kernel
theorem dX5_freeOf_0 : decode cX5_freeOf 0 = .ok (.iconst 0, 1) := by decide +kernel
theorem dX5_freeOf_1 : decode cX5_freeOf 1 = .ok (.istore_n 2, 1) := by decide +kernel
theorem dX5_freeOf_2 : decode cX5_freeOf 2 = .ok (.iconst 0, 1) := by decide +kernel
theorem dX5_freeOf_3 : decode cX5_freeOf 3 = .ok (.istore_n 3, 1) := by decide +kernel
theorem dX5_freeOf_4 : decode cX5_freeOf 4 = .ok (.iload_n 3, 1) := by decide +kernel
theorem dX5_freeOf_5 : decode cX5_freeOf 5 = .ok (.aload_n 0, 1) := by decide +kernel
theorem dX5_freeOf_6 : decode cX5_freeOf 6 = .ok (.getfield 135, 3) := by decide +kernel
theorem dX5_freeOf_9 : decode cX5_freeOf 9 = .ok (.if_icmp .ge 35, 3) := by decide +kernel
theorem dX5_freeOf_12 : decode cX5_freeOf 12 = .ok (.iload_n 2, 1) := by decide +kernel
theorem dX5_freeOf_13 : decode cX5_freeOf 13 = .ok (.aload_n 0, 1) := by decide +kernel
theorem dX5_freeOf_14 : decode cX5_freeOf 14 = .ok (.getfield 62, 3) := by decide +kernel
theorem dX5_freeOf_17 : decode cX5_freeOf 17 = .ok (.iload_n 3, 1) := by decide +kernel
theorem dX5_freeOf_18 : decode cX5_freeOf 18 = .ok (.iaload, 1) := by decide +kernel
theorem dX5_freeOf_19 : decode cX5_freeOf 19 = .ok (.iload_n 1, 1) := by decide +kernel
theorem dX5_freeOf_20 : decode cX5_freeOf 20 = .ok (.if_icmp .ne 15, 3) := by decide +kernel
theorem dX5_freeOf_23 : decode cX5_freeOf 23 = .ok (.aload_n 0, 1) := by decide +kernel
theorem dX5_freeOf_24 : decode cX5_freeOf 24 = .ok (.iload_n 3, 1) := by decide +kernel
theorem dX5_freeOf_25 : decode cX5_freeOf 25 = .ok (.invokevirtual 169, 3) := by decide +kernel
theorem dX5_freeOf_28 : decode cX5_freeOf 28 = .ok (.ifCond .eq 7, 3) := by decide +kernel
theorem dX5_freeOf_31 : decode cX5_freeOf 31 = .ok (.iconst 1, 1) := by decide +kernel
theorem dX5_freeOf_32 : decode cX5_freeOf 32 = .ok (.goto 4, 3) := by decide +kernel
theorem dX5_freeOf_35 : decode cX5_freeOf 35 = .ok (.iconst 0, 1) := by decide +kernel
theorem dX5_freeOf_36 : decode cX5_freeOf 36 = .ok (.iadd, 1) := by decide +kernel
theorem dX5_freeOf_37 : decode cX5_freeOf 37 = .ok (.istore_n 2, 1) := by decide +kernel
theorem dX5_freeOf_38 : decode cX5_freeOf 38 = .ok (.iinc 3 1, 3) := by decide +kernel
theorem dX5_freeOf_41 : decode cX5_freeOf 41 = .ok (.goto (-37), 3) := by decide +kernel
theorem dX5_freeOf_44 : decode cX5_freeOf 44 = .ok (.iload_n 2, 1) := by decide +kernel
theorem dX5_freeOf_45 : decode cX5_freeOf 45 = .ok (.ireturn, 1) := by decide +kernel
theorem dX5_free_0 : decode cX5_free 0 = .ok (.iload_n 1, 1) := by decide +kernel
theorem dX5_free_1 : decode cX5_free 1 = .ok (.iconst 0, 1) := by decide +kernel
theorem dX5_free_2 : decode cX5_free 2 = .ok (.iconst 5, 1) := by decide +kernel
theorem dX5_free_3 : decode cX5_free 3 = .ok (.invokestatic 102, 3) := by decide +kernel
theorem dX5_free_6 : decode cX5_free 6 = .ok (.ifCond .eq 11, 3) := by decide +kernel
theorem dX5_free_9 : decode cX5_free 9 = .ok (.aload_n 0, 1) := by decide +kernel
theorem dX5_free_10 : decode cX5_free 10 = .ok (.iload_n 1, 1) := by decide +kernel
theorem dX5_free_11 : decode cX5_free 11 = .ok (.invokevirtual 172, 3) := by decide +kernel
theorem dX5_free_14 : decode cX5_free 14 = .ok (.goto 4, 3) := by decide +kernel
theorem dX5_free_17 : decode cX5_free 17 = .ok (.iconst (-1), 1) := by decide +kernel
theorem dX5_free_18 : decode cX5_free 18 = .ok (.ireturn, 1) := by decide +kernel
theorem dX5_order_0 : decode cX5_order 0 = .ok (.iload_n 1, 1) := by decide +kernel
theorem dX5_order_1 : decode cX5_order 1 = .ok (.iconst 0, 1) := by decide +kernel
theorem dX5_order_2 : decode cX5_order 2 = .ok (.iconst 5, 1) := by decide +kernel
theorem dX5_order_3 : decode cX5_order 3 = .ok (.invokestatic 102, 3) := by decide +kernel
theorem dX5_order_6 : decode cX5_order 6 = .ok (.ifCond .eq 24, 3) := by decide +kernel
theorem dX5_order_9 : decode cX5_order 9 = .ok (.iload_n 2, 1) := by decide +kernel
theorem dX5_order_10 : decode cX5_order 10 = .ok (.iconst 1, 1) := by decide +kernel
theorem dX5_order_11 : decode cX5_order 11 = .ok (.bipush 9, 2) := by decide +kernel
theorem dX5_order_13 : decode cX5_order 13 = .ok (.invokestatic 102, 3) := by decide +kernel
theorem dX5_order_16 : decode cX5_order 16 = .ok (.ifCond .eq 14, 3) := by decide +kernel
theorem dX5_order_19 : decode cX5_order 19 = .ok (.iload_n 3, 1) := by decide +kernel
theorem dX5_order_20 : decode cX5_order 20 = .ok (.iconst 1, 1) := by decide +kernel
theorem dX5_order_21 : decode cX5_order 21 = .ok (.sipush 1000, 3) := by decide +kernel
theorem dX5_order_24 : decode cX5_order 24 = .ok (.invokestatic 102, 3) := by decide +kernel
theorem dX5_order_27 : decode cX5_order 27 = .ok (.ifCond .ne 5, 3) := by decide +kernel
theorem dX5_order_30 : decode cX5_order 30 = .ok (.iconst (-1), 1) := by decide +kernel
theorem dX5_order_31 : decode cX5_order 31 = .ok (.ireturn, 1) := by decide +kernel
theorem dX5_order_32 : decode cX5_order 32 = .ok (.aload_n 0, 1) := by decide +kernel
theorem dX5_order_33 : decode cX5_order 33 = .ok (.getfield 175, 3) := by decide +kernel
theorem dX5_order_36 : decode cX5_order 36 = .ok (.bipush 6, 2) := by decide +kernel
theorem dX5_order_38 : decode cX5_order 38 = .ok (.if_icmp .ne 6, 3) := by decide +kernel
theorem dX5_order_41 : decode cX5_order 41 = .ok (.bipush (-3), 2) := by decide +kernel
theorem dX5_order_43 : decode cX5_order 43 = .ok (.ireturn, 1) := by decide +kernel
theorem dX5_order_44 : decode cX5_order 44 = .ok (.aload_n 0, 1) := by decide +kernel
theorem dX5_order_45 : decode cX5_order 45 = .ok (.getfield 86, 3) := by decide +kernel
theorem dX5_order_48 : decode cX5_order 48 = .ok (.aload_n 0, 1) := by decide +kernel
theorem dX5_order_49 : decode cX5_order 49 = .ok (.getfield 175, 3) := by decide +kernel
theorem dX5_order_52 : decode cX5_order 52 = .ok (.iload_n 1, 1) := by decide +kernel
theorem dX5_order_53 : decode cX5_order 53 = .ok (.iastore, 1) := by decide +kernel
theorem dX5_order_54 : decode cX5_order 54 = .ok (.aload_n 0, 1) := by decide +kernel
theorem dX5_order_55 : decode cX5_order 55 = .ok (.getfield 89, 3) := by decide +kernel
theorem dX5_order_58 : decode cX5_order 58 = .ok (.aload_n 0, 1) := by decide +kernel
theorem dX5_order_59 : decode cX5_order 59 = .ok (.getfield 175, 3) := by decide +kernel
theorem dX5_order_62 : decode cX5_order 62 = .ok (.iload_n 2, 1) := by decide +kernel
theorem dX5_order_63 : decode cX5_order 63 = .ok (.iastore, 1) := by decide +kernel
theorem dX5_order_64 : decode cX5_order 64 = .ok (.aload_n 0, 1) := by decide +kernel
theorem dX5_order_65 : decode cX5_order 65 = .ok (.getfield 92, 3) := by decide +kernel
theorem dX5_order_68 : decode cX5_order 68 = .ok (.aload_n 0, 1) := by decide +kernel
theorem dX5_order_69 : decode cX5_order 69 = .ok (.getfield 175, 3) := by decide +kernel
theorem dX5_order_72 : decode cX5_order 72 = .ok (.iload_n 3, 1) := by decide +kernel
theorem dX5_order_73 : decode cX5_order 73 = .ok (.iastore, 1) := by decide +kernel
theorem dX5_order_74 : decode cX5_order 74 = .ok (.aload_n 0, 1) := by decide +kernel
theorem dX5_order_75 : decode cX5_order 75 = .ok (.getfield 95, 3) := by decide +kernel
theorem dX5_order_78 : decode cX5_order 78 = .ok (.aload_n 0, 1) := by decide +kernel
theorem dX5_order_79 : decode cX5_order 79 = .ok (.getfield 175, 3) := by decide +kernel
theorem dX5_order_82 : decode cX5_order 82 = .ok (.iconst 0, 1) := by decide +kernel
theorem dX5_order_83 : decode cX5_order 83 = .ok (.bastore, 1) := by decide +kernel
theorem dX5_order_84 : decode cX5_order 84 = .ok (.aload_n 0, 1) := by decide +kernel
theorem dX5_order_85 : decode cX5_order 85 = .ok (.dup, 1) := by decide +kernel
theorem dX5_order_86 : decode cX5_order 86 = .ok (.getfield 175, 3) := by decide +kernel
theorem dX5_order_89 : decode cX5_order 89 = .ok (.iconst 1, 1) := by decide +kernel
theorem dX5_order_90 : decode cX5_order 90 = .ok (.iadd, 1) := by decide +kernel
theorem dX5_order_91 : decode cX5_order 91 = .ok (.putfield 175, 3) := by decide +kernel
theorem dX5_order_94 : decode cX5_order 94 = .ok (.aload_n 0, 1) := by decide +kernel
theorem dX5_order_95 : decode cX5_order 95 = .ok (.getfield 175, 3) := by decide +kernel
theorem dX5_order_98 : decode cX5_order 98 = .ok (.iconst 1, 1) := by decide +kernel
theorem dX5_order_99 : decode cX5_order 99 = .ok (.isub, 1) := by decide +kernel
theorem dX5_order_100 : decode cX5_order 100 = .ok (.ireturn, 1) := by decide +kernel
theorem dX5_worthOf_0 : decode cX5_worthOf 0 = .ok (.iconst 0, 1) := by decide +kernel
theorem dX5_worthOf_1 : decode cX5_worthOf 1 = .ok (.istore_n 2, 1) := by decide +kernel
theorem dX5_worthOf_2 : decode cX5_worthOf 2 = .ok (.iconst 0, 1) := by decide +kernel
theorem dX5_worthOf_3 : decode cX5_worthOf 3 = .ok (.istore_n 3, 1) := by decide +kernel
theorem dX5_worthOf_4 : decode cX5_worthOf 4 = .ok (.iload_n 3, 1) := by decide +kernel
theorem dX5_worthOf_5 : decode cX5_worthOf 5 = .ok (.aload_n 0, 1) := by decide +kernel
theorem dX5_worthOf_6 : decode cX5_worthOf 6 = .ok (.getfield 175, 3) := by decide +kernel
theorem dX5_worthOf_9 : decode cX5_worthOf 9 = .ok (.if_icmp .ge 31, 3) := by decide +kernel
theorem dX5_worthOf_12 : decode cX5_worthOf 12 = .ok (.iload_n 2, 1) := by decide +kernel
theorem dX5_worthOf_13 : decode cX5_worthOf 13 = .ok (.iload_n 1, 1) := by decide +kernel
theorem dX5_worthOf_14 : decode cX5_worthOf 14 = .ok (.iload_n 3, 1) := by decide +kernel
theorem dX5_worthOf_15 : decode cX5_worthOf 15 = .ok (.ishr, 1) := by decide +kernel
theorem dX5_worthOf_16 : decode cX5_worthOf 16 = .ok (.iconst 1, 1) := by decide +kernel
theorem dX5_worthOf_17 : decode cX5_worthOf 17 = .ok (.iand, 1) := by decide +kernel
theorem dX5_worthOf_18 : decode cX5_worthOf 18 = .ok (.iconst 1, 1) := by decide +kernel
theorem dX5_worthOf_19 : decode cX5_worthOf 19 = .ok (.if_icmp .ne 12, 3) := by decide +kernel
theorem dX5_worthOf_22 : decode cX5_worthOf 22 = .ok (.aload_n 0, 1) := by decide +kernel
theorem dX5_worthOf_23 : decode cX5_worthOf 23 = .ok (.getfield 92, 3) := by decide +kernel
theorem dX5_worthOf_26 : decode cX5_worthOf 26 = .ok (.iload_n 3, 1) := by decide +kernel
theorem dX5_worthOf_27 : decode cX5_worthOf 27 = .ok (.iaload, 1) := by decide +kernel
theorem dX5_worthOf_28 : decode cX5_worthOf 28 = .ok (.goto 4, 3) := by decide +kernel
theorem dX5_worthOf_31 : decode cX5_worthOf 31 = .ok (.iconst 0, 1) := by decide +kernel
theorem dX5_worthOf_32 : decode cX5_worthOf 32 = .ok (.iadd, 1) := by decide +kernel
theorem dX5_worthOf_33 : decode cX5_worthOf 33 = .ok (.istore_n 2, 1) := by decide +kernel
theorem dX5_worthOf_34 : decode cX5_worthOf 34 = .ok (.iinc 3 1, 3) := by decide +kernel
theorem dX5_worthOf_37 : decode cX5_worthOf 37 = .ok (.goto (-33), 3) := by decide +kernel
theorem dX5_worthOf_40 : decode cX5_worthOf 40 = .ok (.iload_n 2, 1) := by decide +kernel
theorem dX5_worthOf_41 : decode cX5_worthOf 41 = .ok (.ireturn, 1) := by decide +kernel
theorem dX5_canServe_0 : decode cX5_canServe 0 = .ok (.iconst 1, 1) := by decide +kernel
theorem dX5_canServe_1 : decode cX5_canServe 1 = .ok (.istore_n 2, 1) := by decide +kernel
theorem dX5_canServe_2 : decode cX5_canServe 2 = .ok (.iconst 0, 1) := by decide +kernel
theorem dX5_canServe_3 : decode cX5_canServe 3 = .ok (.istore_n 3, 1) := by decide +kernel
theorem dX5_canServe_4 : decode cX5_canServe 4 = .ok (.iload_n 3, 1) := by decide +kernel
theorem dX5_canServe_5 : decode cX5_canServe 5 = .ok (.bipush 6, 2) := by decide +kernel
theorem dX5_canServe_7 : decode cX5_canServe 7 = .ok (.if_icmp .ge 87, 3) := by decide +kernel
theorem dX5_canServe_10 : decode cX5_canServe 10 = .ok (.iconst 0, 1) := by decide +kernel
theorem dX5_canServe_11 : decode cX5_canServe 11 = .ok (.istore 4, 2) := by decide +kernel
theorem dX5_canServe_13 : decode cX5_canServe 13 = .ok (.iconst 0, 1) := by decide +kernel
theorem dX5_canServe_14 : decode cX5_canServe 14 = .ok (.istore 5, 2) := by decide +kernel
theorem dX5_canServe_16 : decode cX5_canServe 16 = .ok (.iload 5, 2) := by decide +kernel
theorem dX5_canServe_18 : decode cX5_canServe 18 = .ok (.aload_n 0, 1) := by decide +kernel
theorem dX5_canServe_19 : decode cX5_canServe 19 = .ok (.getfield 175, 3) := by decide +kernel
theorem dX5_canServe_22 : decode cX5_canServe 22 = .ok (.if_icmp .ge 46, 3) := by decide +kernel
theorem dX5_canServe_25 : decode cX5_canServe 25 = .ok (.iload 4, 2) := by decide +kernel
theorem dX5_canServe_27 : decode cX5_canServe 27 = .ok (.iload_n 1, 1) := by decide +kernel
theorem dX5_canServe_28 : decode cX5_canServe 28 = .ok (.iload 5, 2) := by decide +kernel
theorem dX5_canServe_30 : decode cX5_canServe 30 = .ok (.ishr, 1) := by decide +kernel
theorem dX5_canServe_31 : decode cX5_canServe 31 = .ok (.iconst 1, 1) := by decide +kernel
theorem dX5_canServe_32 : decode cX5_canServe 32 = .ok (.iand, 1) := by decide +kernel
theorem dX5_canServe_33 : decode cX5_canServe 33 = .ok (.iconst 1, 1) := by decide +kernel
theorem dX5_canServe_34 : decode cX5_canServe 34 = .ok (.if_icmp .ne 24, 3) := by decide +kernel
theorem dX5_canServe_37 : decode cX5_canServe 37 = .ok (.aload_n 0, 1) := by decide +kernel
theorem dX5_canServe_38 : decode cX5_canServe 38 = .ok (.getfield 86, 3) := by decide +kernel
theorem dX5_canServe_41 : decode cX5_canServe 41 = .ok (.iload 5, 2) := by decide +kernel
theorem dX5_canServe_43 : decode cX5_canServe 43 = .ok (.iaload, 1) := by decide +kernel
theorem dX5_canServe_44 : decode cX5_canServe 44 = .ok (.iload_n 3, 1) := by decide +kernel
theorem dX5_canServe_45 : decode cX5_canServe 45 = .ok (.if_icmp .ne 13, 3) := by decide +kernel
theorem dX5_canServe_48 : decode cX5_canServe 48 = .ok (.aload_n 0, 1) := by decide +kernel
theorem dX5_canServe_49 : decode cX5_canServe 49 = .ok (.getfield 89, 3) := by decide +kernel
theorem dX5_canServe_52 : decode cX5_canServe 52 = .ok (.iload 5, 2) := by decide +kernel
theorem dX5_canServe_54 : decode cX5_canServe 54 = .ok (.iaload, 1) := by decide +kernel
theorem dX5_canServe_55 : decode cX5_canServe 55 = .ok (.goto 4, 3) := by decide +kernel
theorem dX5_canServe_58 : decode cX5_canServe 58 = .ok (.iconst 0, 1) := by decide +kernel
theorem dX5_canServe_59 : decode cX5_canServe 59 = .ok (.iadd, 1) := by decide +kernel
theorem dX5_canServe_60 : decode cX5_canServe 60 = .ok (.istore 4, 2) := by decide +kernel
theorem dX5_canServe_62 : decode cX5_canServe 62 = .ok (.iinc 5 1, 3) := by decide +kernel
theorem dX5_canServe_65 : decode cX5_canServe 65 = .ok (.goto (-49), 3) := by decide +kernel
theorem dX5_canServe_68 : decode cX5_canServe 68 = .ok (.iload_n 2, 1) := by decide +kernel
theorem dX5_canServe_69 : decode cX5_canServe 69 = .ok (.ifCond .eq 17, 3) := by decide +kernel
theorem dX5_canServe_72 : decode cX5_canServe 72 = .ok (.iload 4, 2) := by decide +kernel
theorem dX5_canServe_74 : decode cX5_canServe 74 = .ok (.aload_n 0, 1) := by decide +kernel
theorem dX5_canServe_75 : decode cX5_canServe 75 = .ok (.iload_n 3, 1) := by decide +kernel
theorem dX5_canServe_76 : decode cX5_canServe 76 = .ok (.invokevirtual 172, 3) := by decide +kernel
theorem dX5_canServe_79 : decode cX5_canServe 79 = .ok (.if_icmp .gt 7, 3) := by decide +kernel
theorem dX5_canServe_82 : decode cX5_canServe 82 = .ok (.iconst 1, 1) := by decide +kernel
theorem dX5_canServe_83 : decode cX5_canServe 83 = .ok (.goto 4, 3) := by decide +kernel
theorem dX5_canServe_86 : decode cX5_canServe 86 = .ok (.iconst 0, 1) := by decide +kernel
theorem dX5_canServe_87 : decode cX5_canServe 87 = .ok (.istore_n 2, 1) := by decide +kernel
theorem dX5_canServe_88 : decode cX5_canServe 88 = .ok (.iinc 3 1, 3) := by decide +kernel
theorem dX5_canServe_91 : decode cX5_canServe 91 = .ok (.goto (-87), 3) := by decide +kernel
theorem dX5_canServe_94 : decode cX5_canServe 94 = .ok (.iconst 0, 1) := by decide +kernel
theorem dX5_canServe_95 : decode cX5_canServe 95 = .ok (.istore_n 3, 1) := by decide +kernel
theorem dX5_canServe_96 : decode cX5_canServe 96 = .ok (.iload_n 3, 1) := by decide +kernel
theorem dX5_canServe_97 : decode cX5_canServe 97 = .ok (.aload_n 0, 1) := by decide +kernel
theorem dX5_canServe_98 : decode cX5_canServe 98 = .ok (.getfield 175, 3) := by decide +kernel
theorem dX5_canServe_101 : decode cX5_canServe 101 = .ok (.if_icmp .ge 36, 3) := by decide +kernel
theorem dX5_canServe_104 : decode cX5_canServe 104 = .ok (.iload_n 2, 1) := by decide +kernel
theorem dX5_canServe_105 : decode cX5_canServe 105 = .ok (.ifCond .eq 24, 3) := by decide +kernel
theorem dX5_canServe_108 : decode cX5_canServe 108 = .ok (.iload_n 1, 1) := by decide +kernel
theorem dX5_canServe_109 : decode cX5_canServe 109 = .ok (.iload_n 3, 1) := by decide +kernel
theorem dX5_canServe_110 : decode cX5_canServe 110 = .ok (.ishr, 1) := by decide +kernel
theorem dX5_canServe_111 : decode cX5_canServe 111 = .ok (.iconst 1, 1) := by decide +kernel
theorem dX5_canServe_112 : decode cX5_canServe 112 = .ok (.iand, 1) := by decide +kernel
theorem dX5_canServe_113 : decode cX5_canServe 113 = .ok (.ifCond .eq 12, 3) := by decide +kernel
theorem dX5_canServe_116 : decode cX5_canServe 116 = .ok (.aload_n 0, 1) := by decide +kernel
theorem dX5_canServe_117 : decode cX5_canServe 117 = .ok (.getfield 95, 3) := by decide +kernel
theorem dX5_canServe_120 : decode cX5_canServe 120 = .ok (.iload_n 3, 1) := by decide +kernel
theorem dX5_canServe_121 : decode cX5_canServe 121 = .ok (.baload, 1) := by decide +kernel
theorem dX5_canServe_122 : decode cX5_canServe 122 = .ok (.ifCond .ne 7, 3) := by decide +kernel
theorem dX5_canServe_125 : decode cX5_canServe 125 = .ok (.iconst 1, 1) := by decide +kernel
theorem dX5_canServe_126 : decode cX5_canServe 126 = .ok (.goto 4, 3) := by decide +kernel
theorem dX5_canServe_129 : decode cX5_canServe 129 = .ok (.iconst 0, 1) := by decide +kernel
theorem dX5_canServe_130 : decode cX5_canServe 130 = .ok (.istore_n 2, 1) := by decide +kernel
theorem dX5_canServe_131 : decode cX5_canServe 131 = .ok (.iinc 3 1, 3) := by decide +kernel
theorem dX5_canServe_134 : decode cX5_canServe 134 = .ok (.goto (-38), 3) := by decide +kernel
theorem dX5_canServe_137 : decode cX5_canServe 137 = .ok (.iload_n 2, 1) := by decide +kernel
theorem dX5_canServe_138 : decode cX5_canServe 138 = .ok (.ireturn, 1) := by decide +kernel
theorem dX5_bestSet_0 : decode cX5_bestSet 0 = .ok (.iconst 0, 1) := by decide +kernel
theorem dX5_bestSet_1 : decode cX5_bestSet 1 = .ok (.istore_n 1, 1) := by decide +kernel
theorem dX5_bestSet_2 : decode cX5_bestSet 2 = .ok (.iconst 1, 1) := by decide +kernel
theorem dX5_bestSet_3 : decode cX5_bestSet 3 = .ok (.istore_n 2, 1) := by decide +kernel
theorem dX5_bestSet_4 : decode cX5_bestSet 4 = .ok (.iload_n 2, 1) := by decide +kernel
theorem dX5_bestSet_5 : decode cX5_bestSet 5 = .ok (.iconst 1, 1) := by decide +kernel
theorem dX5_bestSet_6 : decode cX5_bestSet 6 = .ok (.aload_n 0, 1) := by decide +kernel
theorem dX5_bestSet_7 : decode cX5_bestSet 7 = .ok (.getfield 175, 3) := by decide +kernel
theorem dX5_bestSet_10 : decode cX5_bestSet 10 = .ok (.ishl, 1) := by decide +kernel
theorem dX5_bestSet_11 : decode cX5_bestSet 11 = .ok (.if_icmp .ge 36, 3) := by decide +kernel
theorem dX5_bestSet_14 : decode cX5_bestSet 14 = .ok (.aload_n 0, 1) := by decide +kernel
theorem dX5_bestSet_15 : decode cX5_bestSet 15 = .ok (.iload_n 2, 1) := by decide +kernel
theorem dX5_bestSet_16 : decode cX5_bestSet 16 = .ok (.invokevirtual 178, 3) := by decide +kernel
theorem dX5_bestSet_19 : decode cX5_bestSet 19 = .ok (.ifCond .eq 20, 3) := by decide +kernel
theorem dX5_bestSet_22 : decode cX5_bestSet 22 = .ok (.aload_n 0, 1) := by decide +kernel
theorem dX5_bestSet_23 : decode cX5_bestSet 23 = .ok (.iload_n 2, 1) := by decide +kernel
theorem dX5_bestSet_24 : decode cX5_bestSet 24 = .ok (.invokevirtual 181, 3) := by decide +kernel
theorem dX5_bestSet_27 : decode cX5_bestSet 27 = .ok (.aload_n 0, 1) := by decide +kernel
theorem dX5_bestSet_28 : decode cX5_bestSet 28 = .ok (.iload_n 1, 1) := by decide +kernel
theorem dX5_bestSet_29 : decode cX5_bestSet 29 = .ok (.invokevirtual 181, 3) := by decide +kernel
theorem dX5_bestSet_32 : decode cX5_bestSet 32 = .ok (.if_icmp .le 7, 3) := by decide +kernel
theorem dX5_bestSet_35 : decode cX5_bestSet 35 = .ok (.iload_n 2, 1) := by decide +kernel
theorem dX5_bestSet_36 : decode cX5_bestSet 36 = .ok (.goto 4, 3) := by decide +kernel
theorem dX5_bestSet_39 : decode cX5_bestSet 39 = .ok (.iload_n 1, 1) := by decide +kernel
theorem dX5_bestSet_40 : decode cX5_bestSet 40 = .ok (.istore_n 1, 1) := by decide +kernel
theorem dX5_bestSet_41 : decode cX5_bestSet 41 = .ok (.iinc 2 1, 3) := by decide +kernel
theorem dX5_bestSet_44 : decode cX5_bestSet 44 = .ok (.goto (-40), 3) := by decide +kernel
theorem dX5_bestSet_47 : decode cX5_bestSet 47 = .ok (.iload_n 1, 1) := by decide +kernel
theorem dX5_bestSet_48 : decode cX5_bestSet 48 = .ok (.ireturn, 1) := by decide +kernel
theorem dX5_best_0 : decode cX5_best 0 = .ok (.iload_n 1, 1) := by decide +kernel
theorem dX5_best_1 : decode cX5_best 1 = .ok (.iconst 0, 1) := by decide +kernel
theorem dX5_best_2 : decode cX5_best 2 = .ok (.iconst 1, 1) := by decide +kernel
theorem dX5_best_3 : decode cX5_best 3 = .ok (.invokestatic 102, 3) := by decide +kernel
theorem dX5_best_6 : decode cX5_best 6 = .ok (.ifCond .ne 7, 3) := by decide +kernel
theorem dX5_best_9 : decode cX5_best 9 = .ok (.iconst (-1), 1) := by decide +kernel
theorem dX5_best_10 : decode cX5_best 10 = .ok (.goto 22, 3) := by decide +kernel
theorem dX5_best_13 : decode cX5_best 13 = .ok (.iload_n 1, 1) := by decide +kernel
theorem dX5_best_14 : decode cX5_best 14 = .ok (.ifCond .ne 10, 3) := by decide +kernel
theorem dX5_best_17 : decode cX5_best 17 = .ok (.aload_n 0, 1) := by decide +kernel
theorem dX5_best_18 : decode cX5_best 18 = .ok (.invokevirtual 184, 3) := by decide +kernel
theorem dX5_best_21 : decode cX5_best 21 = .ok (.goto 11, 3) := by decide +kernel
theorem dX5_best_24 : decode cX5_best 24 = .ok (.aload_n 0, 1) := by decide +kernel
theorem dX5_best_25 : decode cX5_best 25 = .ok (.aload_n 0, 1) := by decide +kernel
theorem dX5_best_26 : decode cX5_best 26 = .ok (.invokevirtual 184, 3) := by decide +kernel
theorem dX5_best_29 : decode cX5_best 29 = .ok (.invokevirtual 181, 3) := by decide +kernel
theorem dX5_best_32 : decode cX5_best 32 = .ok (.ireturn, 1) := by decide +kernel
theorem dX5_serve_0 : decode cX5_serve 0 = .ok (.aload_n 0, 1) := by decide +kernel
theorem dX5_serve_1 : decode cX5_serve 1 = .ok (.invokevirtual 184, 3) := by decide +kernel
theorem dX5_serve_4 : decode cX5_serve 4 = .ok (.istore_n 1, 1) := by decide +kernel
theorem dX5_serve_5 : decode cX5_serve 5 = .ok (.iconst 0, 1) := by decide +kernel
theorem dX5_serve_6 : decode cX5_serve 6 = .ok (.istore_n 2, 1) := by decide +kernel
theorem dX5_serve_7 : decode cX5_serve 7 = .ok (.iconst 0, 1) := by decide +kernel
theorem dX5_serve_8 : decode cX5_serve 8 = .ok (.istore_n 3, 1) := by decide +kernel
theorem dX5_serve_9 : decode cX5_serve 9 = .ok (.iload_n 3, 1) := by decide +kernel
theorem dX5_serve_10 : decode cX5_serve 10 = .ok (.aload_n 0, 1) := by decide +kernel
theorem dX5_serve_11 : decode cX5_serve 11 = .ok (.getfield 175, 3) := by decide +kernel
theorem dX5_serve_14 : decode cX5_serve 14 = .ok (.if_icmp .ge 95, 3) := by decide +kernel
theorem dX5_serve_17 : decode cX5_serve 17 = .ok (.iload_n 1, 1) := by decide +kernel
theorem dX5_serve_18 : decode cX5_serve 18 = .ok (.iload_n 3, 1) := by decide +kernel
theorem dX5_serve_19 : decode cX5_serve 19 = .ok (.ishr, 1) := by decide +kernel
theorem dX5_serve_20 : decode cX5_serve 20 = .ok (.iconst 1, 1) := by decide +kernel
theorem dX5_serve_21 : decode cX5_serve 21 = .ok (.iand, 1) := by decide +kernel
theorem dX5_serve_22 : decode cX5_serve 22 = .ok (.iconst 1, 1) := by decide +kernel
theorem dX5_serve_23 : decode cX5_serve 23 = .ok (.if_icmp .ne 80, 3) := by decide +kernel
theorem dX5_serve_26 : decode cX5_serve 26 = .ok (.aload_n 0, 1) := by decide +kernel
theorem dX5_serve_27 : decode cX5_serve 27 = .ok (.getfield 89, 3) := by decide +kernel
theorem dX5_serve_30 : decode cX5_serve 30 = .ok (.iload_n 3, 1) := by decide +kernel
theorem dX5_serve_31 : decode cX5_serve 31 = .ok (.iaload, 1) := by decide +kernel
theorem dX5_serve_32 : decode cX5_serve 32 = .ok (.istore 4, 2) := by decide +kernel
theorem dX5_serve_34 : decode cX5_serve 34 = .ok (.iconst 0, 1) := by decide +kernel
theorem dX5_serve_35 : decode cX5_serve 35 = .ok (.istore 5, 2) := by decide +kernel
theorem dX5_serve_37 : decode cX5_serve 37 = .ok (.iload 5, 2) := by decide +kernel
theorem dX5_serve_39 : decode cX5_serve 39 = .ok (.aload_n 0, 1) := by decide +kernel
theorem dX5_serve_40 : decode cX5_serve 40 = .ok (.getfield 135, 3) := by decide +kernel
theorem dX5_serve_43 : decode cX5_serve 43 = .ok (.if_icmp .ge 53, 3) := by decide +kernel
theorem dX5_serve_46 : decode cX5_serve 46 = .ok (.iload 4, 2) := by decide +kernel
theorem dX5_serve_48 : decode cX5_serve 48 = .ok (.ifCond .le 48, 3) := by decide +kernel
theorem dX5_serve_51 : decode cX5_serve 51 = .ok (.aload_n 0, 1) := by decide +kernel
theorem dX5_serve_52 : decode cX5_serve 52 = .ok (.getfield 62, 3) := by decide +kernel
theorem dX5_serve_55 : decode cX5_serve 55 = .ok (.iload 5, 2) := by decide +kernel
theorem dX5_serve_57 : decode cX5_serve 57 = .ok (.iaload, 1) := by decide +kernel
theorem dX5_serve_58 : decode cX5_serve 58 = .ok (.aload_n 0, 1) := by decide +kernel
theorem dX5_serve_59 : decode cX5_serve 59 = .ok (.getfield 86, 3) := by decide +kernel
theorem dX5_serve_62 : decode cX5_serve 62 = .ok (.iload_n 3, 1) := by decide +kernel
theorem dX5_serve_63 : decode cX5_serve 63 = .ok (.iaload, 1) := by decide +kernel
theorem dX5_serve_64 : decode cX5_serve 64 = .ok (.if_icmp .ne 26, 3) := by decide +kernel
theorem dX5_serve_67 : decode cX5_serve 67 = .ok (.aload_n 0, 1) := by decide +kernel
theorem dX5_serve_68 : decode cX5_serve 68 = .ok (.iload 5, 2) := by decide +kernel
theorem dX5_serve_70 : decode cX5_serve 70 = .ok (.invokevirtual 169, 3) := by decide +kernel
theorem dX5_serve_73 : decode cX5_serve 73 = .ok (.ifCond .eq 17, 3) := by decide +kernel
theorem dX5_serve_76 : decode cX5_serve 76 = .ok (.aload_n 0, 1) := by decide +kernel
theorem dX5_serve_77 : decode cX5_serve 77 = .ok (.getfield 80, 3) := by decide +kernel
theorem dX5_serve_80 : decode cX5_serve 80 = .ok (.iload 5, 2) := by decide +kernel
theorem dX5_serve_82 : decode cX5_serve 82 = .ok (.iload_n 3, 1) := by decide +kernel
theorem dX5_serve_83 : decode cX5_serve 83 = .ok (.iastore, 1) := by decide +kernel
theorem dX5_serve_84 : decode cX5_serve 84 = .ok (.iinc 4 (-1), 3) := by decide +kernel
theorem dX5_serve_87 : decode cX5_serve 87 = .ok (.iinc 2 1, 3) := by decide +kernel
theorem dX5_serve_90 : decode cX5_serve 90 = .ok (.iinc 5 1, 3) := by decide +kernel
theorem dX5_serve_93 : decode cX5_serve 93 = .ok (.goto (-56), 3) := by decide +kernel
theorem dX5_serve_96 : decode cX5_serve 96 = .ok (.aload_n 0, 1) := by decide +kernel
theorem dX5_serve_97 : decode cX5_serve 97 = .ok (.getfield 95, 3) := by decide +kernel
theorem dX5_serve_100 : decode cX5_serve 100 = .ok (.iload_n 3, 1) := by decide +kernel
theorem dX5_serve_101 : decode cX5_serve 101 = .ok (.iconst 1, 1) := by decide +kernel
theorem dX5_serve_102 : decode cX5_serve 102 = .ok (.bastore, 1) := by decide +kernel
theorem dX5_serve_103 : decode cX5_serve 103 = .ok (.iinc 3 1, 3) := by decide +kernel
theorem dX5_serve_106 : decode cX5_serve 106 = .ok (.goto (-97), 3) := by decide +kernel
theorem dX5_serve_109 : decode cX5_serve 109 = .ok (.iload_n 2, 1) := by decide +kernel
theorem dX5_serve_110 : decode cX5_serve 110 = .ok (.ireturn, 1) := by decide +kernel
theorem dX5_about_0 : decode cX5_about 0 = .ok (.iload_n 1, 1) := by decide +kernel
theorem dX5_about_1 : decode cX5_about 1 = .ok (.iconst 0, 1) := by decide +kernel
theorem dX5_about_2 : decode cX5_about 2 = .ok (.aload_n 0, 1) := by decide +kernel
theorem dX5_about_3 : decode cX5_about 3 = .ok (.getfield 175, 3) := by decide +kernel
theorem dX5_about_6 : decode cX5_about 6 = .ok (.iconst 1, 1) := by decide +kernel
theorem dX5_about_7 : decode cX5_about 7 = .ok (.isub, 1) := by decide +kernel
theorem dX5_about_8 : decode cX5_about 8 = .ok (.invokestatic 102, 3) := by decide +kernel
theorem dX5_about_11 : decode cX5_about 11 = .ok (.ifCond .ne 5, 3) := by decide +kernel
theorem dX5_about_14 : decode cX5_about 14 = .ok (.iconst (-1), 1) := by decide +kernel
theorem dX5_about_15 : decode cX5_about 15 = .ok (.ireturn, 1) := by decide +kernel
theorem dX5_about_16 : decode cX5_about 16 = .ok (.iload_n 2, 1) := by decide +kernel
theorem dX5_about_17 : decode cX5_about 17 = .ok (.tableswitch 67 0 3 #[31, 38, 45, 52], 31) := by decide +kernel
theorem dX5_about_48 : decode cX5_about 48 = .ok (.aload_n 0, 1) := by decide +kernel
theorem dX5_about_49 : decode cX5_about 49 = .ok (.getfield 86, 3) := by decide +kernel
theorem dX5_about_52 : decode cX5_about 52 = .ok (.iload_n 1, 1) := by decide +kernel
theorem dX5_about_53 : decode cX5_about 53 = .ok (.iaload, 1) := by decide +kernel
theorem dX5_about_54 : decode cX5_about 54 = .ok (.ireturn, 1) := by decide +kernel
theorem dX5_about_55 : decode cX5_about 55 = .ok (.aload_n 0, 1) := by decide +kernel
theorem dX5_about_56 : decode cX5_about 56 = .ok (.getfield 89, 3) := by decide +kernel
theorem dX5_about_59 : decode cX5_about 59 = .ok (.iload_n 1, 1) := by decide +kernel
theorem dX5_about_60 : decode cX5_about 60 = .ok (.iaload, 1) := by decide +kernel
theorem dX5_about_61 : decode cX5_about 61 = .ok (.ireturn, 1) := by decide +kernel
theorem dX5_about_62 : decode cX5_about 62 = .ok (.aload_n 0, 1) := by decide +kernel
theorem dX5_about_63 : decode cX5_about 63 = .ok (.getfield 92, 3) := by decide +kernel
theorem dX5_about_66 : decode cX5_about 66 = .ok (.iload_n 1, 1) := by decide +kernel
theorem dX5_about_67 : decode cX5_about 67 = .ok (.iaload, 1) := by decide +kernel
theorem dX5_about_68 : decode cX5_about 68 = .ok (.ireturn, 1) := by decide +kernel
theorem dX5_about_69 : decode cX5_about 69 = .ok (.aload_n 0, 1) := by decide +kernel
theorem dX5_about_70 : decode cX5_about 70 = .ok (.getfield 95, 3) := by decide +kernel
theorem dX5_about_73 : decode cX5_about 73 = .ok (.iload_n 1, 1) := by decide +kernel
theorem dX5_about_74 : decode cX5_about 74 = .ok (.baload, 1) := by decide +kernel
theorem dX5_about_75 : decode cX5_about 75 = .ok (.ifCond .eq 7, 3) := by decide +kernel
theorem dX5_about_78 : decode cX5_about 78 = .ok (.iconst 1, 1) := by decide +kernel
theorem dX5_about_79 : decode cX5_about 79 = .ok (.goto 4, 3) := by decide +kernel
theorem dX5_about_82 : decode cX5_about 82 = .ok (.iconst 0, 1) := by decide +kernel
theorem dX5_about_83 : decode cX5_about 83 = .ok (.ireturn, 1) := by decide +kernel
theorem dX5_about_84 : decode cX5_about 84 = .ok (.iconst (-1), 1) := by decide +kernel
theorem dX5_about_85 : decode cX5_about 85 = .ok (.ireturn, 1) := by decide +kernel
theorem dX5_doubts_0 : decode cX5_doubts 0 = .ok (.iconst 0, 1) := by decide +kernel
theorem dX5_doubts_1 : decode cX5_doubts 1 = .ok (.istore 5, 2) := by decide +kernel
theorem dX5_doubts_3 : decode cX5_doubts 3 = .ok (.iconst 0, 1) := by decide +kernel
theorem dX5_doubts_4 : decode cX5_doubts 4 = .ok (.istore 6, 2) := by decide +kernel
theorem dX5_doubts_6 : decode cX5_doubts 6 = .ok (.iload 6, 2) := by decide +kernel
theorem dX5_doubts_8 : decode cX5_doubts 8 = .ok (.aload_n 0, 1) := by decide +kernel
theorem dX5_doubts_9 : decode cX5_doubts 9 = .ok (.getfield 135, 3) := by decide +kernel
theorem dX5_doubts_12 : decode cX5_doubts 12 = .ok (.if_icmp .ge 85, 3) := by decide +kernel
theorem dX5_doubts_15 : decode cX5_doubts 15 = .ok (.aload_n 0, 1) := by decide +kernel
theorem dX5_doubts_16 : decode cX5_doubts 16 = .ok (.getfield 65, 3) := by decide +kernel
theorem dX5_doubts_19 : decode cX5_doubts 19 = .ok (.iload 6, 2) := by decide +kernel
theorem dX5_doubts_21 : decode cX5_doubts 21 = .ok (.iaload, 1) := by decide +kernel
theorem dX5_doubts_22 : decode cX5_doubts 22 = .ok (.iload_n 1, 1) := by decide +kernel
theorem dX5_doubts_23 : decode cX5_doubts 23 = .ok (.iand, 1) := by decide +kernel
theorem dX5_doubts_24 : decode cX5_doubts 24 = .ok (.ifCond .eq 67, 3) := by decide +kernel
theorem dX5_doubts_27 : decode cX5_doubts 27 = .ok (.aload_n 0, 1) := by decide +kernel
theorem dX5_doubts_28 : decode cX5_doubts 28 = .ok (.getfield 68, 3) := by decide +kernel
theorem dX5_doubts_31 : decode cX5_doubts 31 = .ok (.iload 6, 2) := by decide +kernel
theorem dX5_doubts_33 : decode cX5_doubts 33 = .ok (.iaload, 1) := by decide +kernel
theorem dX5_doubts_34 : decode cX5_doubts 34 = .ok (.iload_n 3, 1) := by decide +kernel
theorem dX5_doubts_35 : decode cX5_doubts 35 = .ok (.if_icmp .gt 56, 3) := by decide +kernel
theorem dX5_doubts_38 : decode cX5_doubts 38 = .ok (.aload_n 0, 1) := by decide +kernel
theorem dX5_doubts_39 : decode cX5_doubts 39 = .ok (.getfield 71, 3) := by decide +kernel
theorem dX5_doubts_42 : decode cX5_doubts 42 = .ok (.iload 6, 2) := by decide +kernel
theorem dX5_doubts_44 : decode cX5_doubts 44 = .ok (.iaload, 1) := by decide +kernel
theorem dX5_doubts_45 : decode cX5_doubts 45 = .ok (.iload_n 2, 1) := by decide +kernel
theorem dX5_doubts_46 : decode cX5_doubts 46 = .ok (.if_icmp .lt 45, 3) := by decide +kernel
theorem dX5_doubts_49 : decode cX5_doubts 49 = .ok (.iinc 5 1, 3) := by decide +kernel
theorem dX5_doubts_52 : decode cX5_doubts 52 = .ok (.aload_n 0, 1) := by decide +kernel
theorem dX5_doubts_53 : decode cX5_doubts 53 = .ok (.getfield 83, 3) := by decide +kernel
theorem dX5_doubts_56 : decode cX5_doubts 56 = .ok (.iload 6, 2) := by decide +kernel
theorem dX5_doubts_58 : decode cX5_doubts 58 = .ok (.aload_n 0, 1) := by decide +kernel
theorem dX5_doubts_59 : decode cX5_doubts 59 = .ok (.getfield 83, 3) := by decide +kernel
theorem dX5_doubts_62 : decode cX5_doubts 62 = .ok (.iload 6, 2) := by decide +kernel
theorem dX5_doubts_64 : decode cX5_doubts 64 = .ok (.baload, 1) := by decide +kernel
theorem dX5_doubts_65 : decode cX5_doubts 65 = .ok (.ifCond .ne 20, 3) := by decide +kernel
theorem dX5_doubts_68 : decode cX5_doubts 68 = .ok (.iload 4, 2) := by decide +kernel
theorem dX5_doubts_70 : decode cX5_doubts 70 = .ok (.ifCond .eq 19, 3) := by decide +kernel
theorem dX5_doubts_73 : decode cX5_doubts 73 = .ok (.aload_n 0, 1) := by decide +kernel
theorem dX5_doubts_74 : decode cX5_doubts 74 = .ok (.getfield 80, 3) := by decide +kernel
theorem dX5_doubts_77 : decode cX5_doubts 77 = .ok (.iload 6, 2) := by decide +kernel
theorem dX5_doubts_79 : decode cX5_doubts 79 = .ok (.iaload, 1) := by decide +kernel
theorem dX5_doubts_80 : decode cX5_doubts 80 = .ok (.bipush (-9), 2) := by decide +kernel
theorem dX5_doubts_82 : decode cX5_doubts 82 = .ok (.if_icmp .ne 7, 3) := by decide +kernel
theorem dX5_doubts_85 : decode cX5_doubts 85 = .ok (.iconst 1, 1) := by decide +kernel
theorem dX5_doubts_86 : decode cX5_doubts 86 = .ok (.goto 4, 3) := by decide +kernel
theorem dX5_doubts_89 : decode cX5_doubts 89 = .ok (.iconst 0, 1) := by decide +kernel
theorem dX5_doubts_90 : decode cX5_doubts 90 = .ok (.bastore, 1) := by decide +kernel
theorem dX5_doubts_91 : decode cX5_doubts 91 = .ok (.iinc 6 1, 3) := by decide +kernel
theorem dX5_doubts_94 : decode cX5_doubts 94 = .ok (.goto (-88), 3) := by decide +kernel
theorem dX5_doubts_97 : decode cX5_doubts 97 = .ok (.iload 5, 2) := by decide +kernel
theorem dX5_doubts_99 : decode cX5_doubts 99 = .ok (.ireturn, 1) := by decide +kernel
theorem dX5_doubt_0 : decode cX5_doubt 0 = .ok (.iload_n 1, 1) := by decide +kernel
theorem dX5_doubt_1 : decode cX5_doubt 1 = .ok (.iconst 0, 1) := by decide +kernel
theorem dX5_doubt_2 : decode cX5_doubt 2 = .ok (.iconst 3, 1) := by decide +kernel
theorem dX5_doubt_3 : decode cX5_doubt 3 = .ok (.invokestatic 102, 3) := by decide +kernel
theorem dX5_doubt_6 : decode cX5_doubt 6 = .ok (.ifCond .eq 19, 3) := by decide +kernel
theorem dX5_doubt_9 : decode cX5_doubt 9 = .ok (.aload_n 0, 1) := by decide +kernel
theorem dX5_doubt_10 : decode cX5_doubt 10 = .ok (.iconst 1, 1) := by decide +kernel
theorem dX5_doubt_11 : decode cX5_doubt 11 = .ok (.iload_n 1, 1) := by decide +kernel
theorem dX5_doubt_12 : decode cX5_doubt 12 = .ok (.ishl, 1) := by decide +kernel
theorem dX5_doubt_13 : decode cX5_doubt 13 = .ok (.iconst 0, 1) := by decide +kernel
theorem dX5_doubt_14 : decode cX5_doubt 14 = .ok (.aload_n 0, 1) := by decide +kernel
theorem dX5_doubt_15 : decode cX5_doubt 15 = .ok (.getfield 98, 3) := by decide +kernel
theorem dX5_doubt_18 : decode cX5_doubt 18 = .ok (.iload_n 2, 1) := by decide +kernel
theorem dX5_doubt_19 : decode cX5_doubt 19 = .ok (.invokevirtual 188, 3) := by decide +kernel
theorem dX5_doubt_22 : decode cX5_doubt 22 = .ok (.goto 4, 3) := by decide +kernel
theorem dX5_doubt_25 : decode cX5_doubt 25 = .ok (.iconst (-1), 1) := by decide +kernel
theorem dX5_doubt_26 : decode cX5_doubt 26 = .ok (.ireturn, 1) := by decide +kernel
theorem dX5_hours_0 : decode cX5_hours 0 = .ok (.iload_n 1, 1) := by decide +kernel
theorem dX5_hours_1 : decode cX5_hours 1 = .ok (.ifCond .lt 8, 3) := by decide +kernel
theorem dX5_hours_4 : decode cX5_hours 4 = .ok (.iload_n 2, 1) := by decide +kernel
theorem dX5_hours_5 : decode cX5_hours 5 = .ok (.iload_n 1, 1) := by decide +kernel
theorem dX5_hours_6 : decode cX5_hours 6 = .ok (.if_icmp .ge 7, 3) := by decide +kernel
theorem dX5_hours_9 : decode cX5_hours 9 = .ok (.iconst (-1), 1) := by decide +kernel
theorem dX5_hours_10 : decode cX5_hours 10 = .ok (.goto 12, 3) := by decide +kernel
theorem dX5_hours_13 : decode cX5_hours 13 = .ok (.aload_n 0, 1) := by decide +kernel
theorem dX5_hours_14 : decode cX5_hours 14 = .ok (.bipush 15, 2) := by decide +kernel
theorem dX5_hours_16 : decode cX5_hours 16 = .ok (.iload_n 1, 1) := by decide +kernel
theorem dX5_hours_17 : decode cX5_hours 17 = .ok (.iload_n 2, 1) := by decide +kernel
theorem dX5_hours_18 : decode cX5_hours 18 = .ok (.iload_n 3, 1) := by decide +kernel
theorem dX5_hours_19 : decode cX5_hours 19 = .ok (.invokevirtual 188, 3) := by decide +kernel
theorem dX5_hours_22 : decode cX5_hours 22 = .ok (.ireturn, 1) := by decide +kernel
theorem dX5_clear_0 : decode cX5_clear 0 = .ok (.aload_n 0, 1) := by decide +kernel
theorem dX5_clear_1 : decode cX5_clear 1 = .ok (.iload_n 1, 1) := by decide +kernel
theorem dX5_clear_2 : decode cX5_clear 2 = .ok (.invokevirtual 166, 3) := by decide +kernel
theorem dX5_clear_5 : decode cX5_clear 5 = .ok (.ifCond .ne 5, 3) := by decide +kernel
theorem dX5_clear_8 : decode cX5_clear 8 = .ok (.iconst (-1), 1) := by decide +kernel
theorem dX5_clear_9 : decode cX5_clear 9 = .ok (.ireturn, 1) := by decide +kernel
theorem dX5_clear_10 : decode cX5_clear 10 = .ok (.aload_n 0, 1) := by decide +kernel
theorem dX5_clear_11 : decode cX5_clear 11 = .ok (.getfield 83, 3) := by decide +kernel
theorem dX5_clear_14 : decode cX5_clear 14 = .ok (.iload_n 1, 1) := by decide +kernel
theorem dX5_clear_15 : decode cX5_clear 15 = .ok (.baload, 1) := by decide +kernel
theorem dX5_clear_16 : decode cX5_clear 16 = .ok (.ifCond .ne 6, 3) := by decide +kernel
theorem dX5_clear_19 : decode cX5_clear 19 = .ok (.bipush (-2), 2) := by decide +kernel
theorem dX5_clear_21 : decode cX5_clear 21 = .ok (.ireturn, 1) := by decide +kernel
theorem dX5_clear_22 : decode cX5_clear 22 = .ok (.aload_n 0, 1) := by decide +kernel
theorem dX5_clear_23 : decode cX5_clear 23 = .ok (.getfield 83, 3) := by decide +kernel
theorem dX5_clear_26 : decode cX5_clear 26 = .ok (.iload_n 1, 1) := by decide +kernel
theorem dX5_clear_27 : decode cX5_clear 27 = .ok (.iconst 0, 1) := by decide +kernel
theorem dX5_clear_28 : decode cX5_clear 28 = .ok (.bastore, 1) := by decide +kernel
theorem dX5_clear_29 : decode cX5_clear 29 = .ok (.iconst 1, 1) := by decide +kernel
theorem dX5_clear_30 : decode cX5_clear 30 = .ok (.ireturn, 1) := by decide +kernel
theorem dX5_told_0 : decode cX5_told 0 = .ok (.iconst 0, 1) := by decide +kernel
theorem dX5_told_1 : decode cX5_told 1 = .ok (.istore_n 2, 1) := by decide +kernel
theorem dX5_told_2 : decode cX5_told 2 = .ok (.iload_n 1, 1) := by decide +kernel
theorem dX5_told_3 : decode cX5_told 3 = .ok (.tableswitch 129 0 5 #[37, 42, 47, 84, 119, 124], 37) := by decide +kernel
theorem dX5_told_40 : decode cX5_told 40 = .ok (.aload_n 0, 1) := by decide +kernel
theorem dX5_told_41 : decode cX5_told 41 = .ok (.getfield 135, 3) := by decide +kernel
theorem dX5_told_44 : decode cX5_told 44 = .ok (.ireturn, 1) := by decide +kernel
theorem dX5_told_45 : decode cX5_told 45 = .ok (.aload_n 0, 1) := by decide +kernel
theorem dX5_told_46 : decode cX5_told 46 = .ok (.getfield 175, 3) := by decide +kernel
theorem dX5_told_49 : decode cX5_told 49 = .ok (.ireturn, 1) := by decide +kernel
theorem dX5_told_50 : decode cX5_told 50 = .ok (.iconst 0, 1) := by decide +kernel
theorem dX5_told_51 : decode cX5_told 51 = .ok (.istore_n 3, 1) := by decide +kernel
theorem dX5_told_52 : decode cX5_told 52 = .ok (.iload_n 3, 1) := by decide +kernel
theorem dX5_told_53 : decode cX5_told 53 = .ok (.aload_n 0, 1) := by decide +kernel
theorem dX5_told_54 : decode cX5_told 54 = .ok (.getfield 135, 3) := by decide +kernel
theorem dX5_told_57 : decode cX5_told 57 = .ok (.if_icmp .ge 28, 3) := by decide +kernel
theorem dX5_told_60 : decode cX5_told 60 = .ok (.iload_n 2, 1) := by decide +kernel
theorem dX5_told_61 : decode cX5_told 61 = .ok (.aload_n 0, 1) := by decide +kernel
theorem dX5_told_62 : decode cX5_told 62 = .ok (.getfield 80, 3) := by decide +kernel
theorem dX5_told_65 : decode cX5_told 65 = .ok (.iload_n 3, 1) := by decide +kernel
theorem dX5_told_66 : decode cX5_told 66 = .ok (.iaload, 1) := by decide +kernel
theorem dX5_told_67 : decode cX5_told 67 = .ok (.bipush (-9), 2) := by decide +kernel
theorem dX5_told_69 : decode cX5_told 69 = .ok (.if_icmp .ne 7, 3) := by decide +kernel
theorem dX5_told_72 : decode cX5_told 72 = .ok (.iconst 0, 1) := by decide +kernel
theorem dX5_told_73 : decode cX5_told 73 = .ok (.goto 4, 3) := by decide +kernel
theorem dX5_told_76 : decode cX5_told 76 = .ok (.iconst 1, 1) := by decide +kernel
theorem dX5_told_77 : decode cX5_told 77 = .ok (.iadd, 1) := by decide +kernel
theorem dX5_told_78 : decode cX5_told 78 = .ok (.istore_n 2, 1) := by decide +kernel
theorem dX5_told_79 : decode cX5_told 79 = .ok (.iinc 3 1, 3) := by decide +kernel
theorem dX5_told_82 : decode cX5_told 82 = .ok (.goto (-30), 3) := by decide +kernel
theorem dX5_told_85 : decode cX5_told 85 = .ok (.iload_n 2, 1) := by decide +kernel
theorem dX5_told_86 : decode cX5_told 86 = .ok (.ireturn, 1) := by decide +kernel
theorem dX5_told_87 : decode cX5_told 87 = .ok (.iconst 0, 1) := by decide +kernel
theorem dX5_told_88 : decode cX5_told 88 = .ok (.istore_n 3, 1) := by decide +kernel
theorem dX5_told_89 : decode cX5_told 89 = .ok (.iload_n 3, 1) := by decide +kernel
theorem dX5_told_90 : decode cX5_told 90 = .ok (.aload_n 0, 1) := by decide +kernel
theorem dX5_told_91 : decode cX5_told 91 = .ok (.getfield 135, 3) := by decide +kernel
theorem dX5_told_94 : decode cX5_told 94 = .ok (.if_icmp .ge 26, 3) := by decide +kernel
theorem dX5_told_97 : decode cX5_told 97 = .ok (.iload_n 2, 1) := by decide +kernel
theorem dX5_told_98 : decode cX5_told 98 = .ok (.aload_n 0, 1) := by decide +kernel
theorem dX5_told_99 : decode cX5_told 99 = .ok (.getfield 83, 3) := by decide +kernel
theorem dX5_told_102 : decode cX5_told 102 = .ok (.iload_n 3, 1) := by decide +kernel
theorem dX5_told_103 : decode cX5_told 103 = .ok (.baload, 1) := by decide +kernel
theorem dX5_told_104 : decode cX5_told 104 = .ok (.ifCond .eq 7, 3) := by decide +kernel
theorem dX5_told_107 : decode cX5_told 107 = .ok (.iconst 1, 1) := by decide +kernel
theorem dX5_told_108 : decode cX5_told 108 = .ok (.goto 4, 3) := by decide +kernel
theorem dX5_told_111 : decode cX5_told 111 = .ok (.iconst 0, 1) := by decide +kernel
theorem dX5_told_112 : decode cX5_told 112 = .ok (.iadd, 1) := by decide +kernel
theorem dX5_told_113 : decode cX5_told 113 = .ok (.istore_n 2, 1) := by decide +kernel
theorem dX5_told_114 : decode cX5_told 114 = .ok (.iinc 3 1, 3) := by decide +kernel
theorem dX5_told_117 : decode cX5_told 117 = .ok (.goto (-28), 3) := by decide +kernel
theorem dX5_told_120 : decode cX5_told 120 = .ok (.iload_n 2, 1) := by decide +kernel
theorem dX5_told_121 : decode cX5_told 121 = .ok (.ireturn, 1) := by decide +kernel
theorem dX5_told_122 : decode cX5_told 122 = .ok (.aload_n 0, 1) := by decide +kernel
theorem dX5_told_123 : decode cX5_told 123 = .ok (.getfield 98, 3) := by decide +kernel
theorem dX5_told_126 : decode cX5_told 126 = .ok (.ireturn, 1) := by decide +kernel
theorem dX5_told_127 : decode cX5_told 127 = .ok (.aload_n 0, 1) := by decide +kernel
theorem dX5_told_128 : decode cX5_told 128 = .ok (.getfield 144, 3) := by decide +kernel
theorem dX5_told_131 : decode cX5_told 131 = .ok (.ireturn, 1) := by decide +kernel
theorem dX5_told_132 : decode cX5_told 132 = .ok (.sipush (-1000), 3) := by decide +kernel
theorem dX5_told_135 : decode cX5_told 135 = .ok (.ireturn, 1) := by decide +kernel
theorem dX5_trace_0 : decode cX5_trace 0 = .ok (.aload_n 0, 1) := by decide +kernel
theorem dX5_trace_1 : decode cX5_trace 1 = .ok (.getfield 112, 3) := by decide +kernel
theorem dX5_trace_4 : decode cX5_trace 4 = .ok (.lreturn, 1) := by decide +kernel

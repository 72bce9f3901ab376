theorem dX11_init_0 : decode cX11_init 0 = .ok (.aload_n 0, 1) := by decide +kernel
theorem dX11_init_1 : decode cX11_init 1 = .ok (.invokespecial 1, 3) := by decide +kernel
theorem dX11_init_4 : decode cX11_init 4 = .ok (.aload_n 0, 1) := by decide +kernel
theorem dX11_init_5 : decode cX11_init 5 = .ok (.new 7, 3) := by decide +kernel
theorem dX11_init_8 : decode cX11_init 8 = .ok (.dup, 1) := by decide +kernel
theorem dX11_init_9 : decode cX11_init 9 = .ok (.invokespecial 9, 3) := by decide +kernel
theorem dX11_init_12 : decode cX11_init 12 = .ok (.putfield 10, 3) := by decide +kernel
theorem dX11_init_15 : decode cX11_init 15 = .ok (.aload_n 0, 1) := by decide +kernel
theorem dX11_init_16 : decode cX11_init 16 = .ok (.new 16, 3) := by decide +kernel
theorem dX11_init_19 : decode cX11_init 19 = .ok (.dup, 1) := by decide +kernel
theorem dX11_init_20 : decode cX11_init 20 = .ok (.invokespecial 18, 3) := by decide +kernel
theorem dX11_init_23 : decode cX11_init 23 = .ok (.putfield 19, 3) := by decide +kernel
theorem dX11_init_26 : decode cX11_init 26 = .ok (.aload_n 0, 1) := by decide +kernel
theorem dX11_init_27 : decode cX11_init 27 = .ok (.sipush 200, 3) := by decide +kernel
theorem dX11_init_30 : decode cX11_init 30 = .ok (.newarray .byte, 2) := by decide +kernel
theorem dX11_init_32 : decode cX11_init 32 = .ok (.putfield 23, 3) := by decide +kernel
theorem dX11_init_35 : decode cX11_init 35 = .ok (.aload_n 0, 1) := by decide +kernel
theorem dX11_init_36 : decode cX11_init 36 = .ok (.new 27, 3) := by decide +kernel
theorem dX11_init_39 : decode cX11_init 39 = .ok (.dup, 1) := by decide +kernel
theorem dX11_init_40 : decode cX11_init 40 = .ok (.invokespecial 29, 3) := by decide +kernel
theorem dX11_init_43 : decode cX11_init 43 = .ok (.putfield 30, 3) := by decide +kernel
theorem dX11_init_46 : decode cX11_init 46 = .ok (.aload_n 0, 1) := by decide +kernel
theorem dX11_init_47 : decode cX11_init 47 = .ok (.bipush 12, 2) := by decide +kernel
theorem dX11_init_49 : decode cX11_init 49 = .ok (.newarray .int, 2) := by decide +kernel
theorem dX11_init_51 : decode cX11_init 51 = .ok (.putfield 34, 3) := by decide +kernel
theorem dX11_init_54 : decode cX11_init 54 = .ok (.aload_n 0, 1) := by decide +kernel
theorem dX11_init_55 : decode cX11_init 55 = .ok (.iconst 4, 1) := by decide +kernel
theorem dX11_init_56 : decode cX11_init 56 = .ok (.newarray .int, 2) := by decide +kernel
theorem dX11_init_58 : decode cX11_init 58 = .ok (.dup, 1) := by decide +kernel
theorem dX11_init_59 : decode cX11_init 59 = .ok (.iconst 0, 1) := by decide +kernel
theorem dX11_init_60 : decode cX11_init 60 = .ok (.iconst (-1), 1) := by decide +kernel
theorem dX11_init_61 : decode cX11_init 61 = .ok (.iastore, 1) := by decide +kernel
theorem dX11_init_62 : decode cX11_init 62 = .ok (.dup, 1) := by decide +kernel
theorem dX11_init_63 : decode cX11_init 63 = .ok (.iconst 1, 1) := by decide +kernel
theorem dX11_init_64 : decode cX11_init 64 = .ok (.iconst (-1), 1) := by decide +kernel
theorem dX11_init_65 : decode cX11_init 65 = .ok (.iastore, 1) := by decide +kernel
theorem dX11_init_66 : decode cX11_init 66 = .ok (.dup, 1) := by decide +kernel
theorem dX11_init_67 : decode cX11_init 67 = .ok (.iconst 2, 1) := by decide +kernel
theorem dX11_init_68 : decode cX11_init 68 = .ok (.iconst (-1), 1) := by decide +kernel
theorem dX11_init_69 : decode cX11_init 69 = .ok (.iastore, 1) := by decide +kernel
theorem dX11_init_70 : decode cX11_init 70 = .ok (.dup, 1) := by decide +kernel
theorem dX11_init_71 : decode cX11_init 71 = .ok (.iconst 3, 1) := by decide +kernel
theorem dX11_init_72 : decode cX11_init 72 = .ok (.iconst (-1), 1) := by decide +kernel
theorem dX11_init_73 : decode cX11_init 73 = .ok (.iastore, 1) := by decide +kernel
theorem dX11_init_74 : decode cX11_init 74 = .ok (.putfield 38, 3) := by decide +kernel
theorem dX11_init_77 : decode cX11_init 77 = .ok (.aload_n 0, 1) := by decide +kernel
theorem dX11_init_78 : decode cX11_init 78 = .ok (.iconst 4, 1) := by decide +kernel
theorem dX11_init_79 : decode cX11_init 79 = .ok (.newarray .int, 2) := by decide +kernel
theorem dX11_init_81 : decode cX11_init 81 = .ok (.putfield 41, 3) := by decide +kernel
theorem dX11_init_84 : decode cX11_init 84 = .ok (.aload_n 0, 1) := by decide +kernel
theorem dX11_init_85 : decode cX11_init 85 = .ok (.iconst 4, 1) := by decide +kernel
theorem dX11_init_86 : decode cX11_init 86 = .ok (.bipush 40, 2) := by decide +kernel
theorem dX11_init_88 : decode cX11_init 88 = .ok (.multianewarray 44 2, 4) := by decide +kernel
theorem dX11_init_92 : decode cX11_init 92 = .ok (.putfield 46, 3) := by decide +kernel
theorem dX11_init_95 : decode cX11_init 95 = .ok (.aload_n 0, 1) := by decide +kernel
theorem dX11_init_96 : decode cX11_init 96 = .ok (.iconst 4, 1) := by decide +kernel
theorem dX11_init_97 : decode cX11_init 97 = .ok (.newarray .int, 2) := by decide +kernel
theorem dX11_init_99 : decode cX11_init 99 = .ok (.dup, 1) := by decide +kernel
theorem dX11_init_100 : decode cX11_init 100 = .ok (.iconst 0, 1) := by decide +kernel
theorem dX11_init_101 : decode cX11_init 101 = .ok (.iconst 2, 1) := by decide +kernel
theorem dX11_init_102 : decode cX11_init 102 = .ok (.iastore, 1) := by decide +kernel
theorem dX11_init_103 : decode cX11_init 103 = .ok (.dup, 1) := by decide +kernel
theorem dX11_init_104 : decode cX11_init 104 = .ok (.iconst 1, 1) := by decide +kernel
theorem dX11_init_105 : decode cX11_init 105 = .ok (.iconst 2, 1) := by decide +kernel
theorem dX11_init_106 : decode cX11_init 106 = .ok (.iastore, 1) := by decide +kernel
theorem dX11_init_107 : decode cX11_init 107 = .ok (.dup, 1) := by decide +kernel
theorem dX11_init_108 : decode cX11_init 108 = .ok (.iconst 2, 1) := by decide +kernel
theorem dX11_init_109 : decode cX11_init 109 = .ok (.iconst 2, 1) := by decide +kernel
theorem dX11_init_110 : decode cX11_init 110 = .ok (.iastore, 1) := by decide +kernel
theorem dX11_init_111 : decode cX11_init 111 = .ok (.dup, 1) := by decide +kernel
theorem dX11_init_112 : decode cX11_init 112 = .ok (.iconst 3, 1) := by decide +kernel
theorem dX11_init_113 : decode cX11_init 113 = .ok (.iconst 2, 1) := by decide +kernel
theorem dX11_init_114 : decode cX11_init 114 = .ok (.iastore, 1) := by decide +kernel
theorem dX11_init_115 : decode cX11_init 115 = .ok (.putfield 49, 3) := by decide +kernel
theorem dX11_init_118 : decode cX11_init 118 = .ok (.aload_n 0, 1) := by decide +kernel
theorem dX11_init_119 : decode cX11_init 119 = .ok (.iconst 4, 1) := by decide +kernel
theorem dX11_init_120 : decode cX11_init 120 = .ok (.newarray .int, 2) := by decide +kernel
theorem dX11_init_122 : decode cX11_init 122 = .ok (.putfield 52, 3) := by decide +kernel
theorem dX11_init_125 : decode cX11_init 125 = .ok (.aload_n 0, 1) := by decide +kernel
theorem dX11_init_126 : decode cX11_init 126 = .ok (.iconst 4, 1) := by decide +kernel
theorem dX11_init_127 : decode cX11_init 127 = .ok (.newarray .int, 2) := by decide +kernel
theorem dX11_init_129 : decode cX11_init 129 = .ok (.putfield 55, 3) := by decide +kernel
theorem dX11_init_132 : decode cX11_init 132 = .ok (.bipush 6, 2) := by decide +kernel
theorem dX11_init_134 : decode cX11_init 134 = .ok (.anewarray 58, 3) := by decide +kernel
theorem dX11_init_137 : decode cX11_init 137 = .ok (.dup, 1) := by decide +kernel
theorem dX11_init_138 : decode cX11_init 138 = .ok (.iconst 0, 1) := by decide +kernel
theorem dX11_init_139 : decode cX11_init 139 = .ok (.new 58, 3) := by decide +kernel
theorem dX11_init_142 : decode cX11_init 142 = .ok (.dup, 1) := by decide +kernel
theorem dX11_init_143 : decode cX11_init 143 = .ok (.invokespecial 60, 3) := by decide +kernel
theorem dX11_init_146 : decode cX11_init 146 = .ok (.aastore, 1) := by decide +kernel
theorem dX11_init_147 : decode cX11_init 147 = .ok (.dup, 1) := by decide +kernel
theorem dX11_init_148 : decode cX11_init 148 = .ok (.iconst 1, 1) := by decide +kernel
theorem dX11_init_149 : decode cX11_init 149 = .ok (.new 61, 3) := by decide +kernel
theorem dX11_init_152 : decode cX11_init 152 = .ok (.dup, 1) := by decide +kernel
theorem dX11_init_153 : decode cX11_init 153 = .ok (.invokespecial 63, 3) := by decide +kernel
theorem dX11_init_156 : decode cX11_init 156 = .ok (.aastore, 1) := by decide +kernel
theorem dX11_init_157 : decode cX11_init 157 = .ok (.dup, 1) := by decide +kernel
theorem dX11_init_158 : decode cX11_init 158 = .ok (.iconst 2, 1) := by decide +kernel
theorem dX11_init_159 : decode cX11_init 159 = .ok (.new 64, 3) := by decide +kernel
theorem dX11_init_162 : decode cX11_init 162 = .ok (.dup, 1) := by decide +kernel
theorem dX11_init_163 : decode cX11_init 163 = .ok (.invokespecial 66, 3) := by decide +kernel
theorem dX11_init_166 : decode cX11_init 166 = .ok (.aastore, 1) := by decide +kernel
theorem dX11_init_167 : decode cX11_init 167 = .ok (.dup, 1) := by decide +kernel
theorem dX11_init_168 : decode cX11_init 168 = .ok (.iconst 3, 1) := by decide +kernel
theorem dX11_init_169 : decode cX11_init 169 = .ok (.new 67, 3) := by decide +kernel
theorem dX11_init_172 : decode cX11_init 172 = .ok (.dup, 1) := by decide +kernel
theorem dX11_init_173 : decode cX11_init 173 = .ok (.invokespecial 69, 3) := by decide +kernel
theorem dX11_init_176 : decode cX11_init 176 = .ok (.aastore, 1) := by decide +kernel
theorem dX11_init_177 : decode cX11_init 177 = .ok (.dup, 1) := by decide +kernel
theorem dX11_init_178 : decode cX11_init 178 = .ok (.iconst 4, 1) := by decide +kernel
theorem dX11_init_179 : decode cX11_init 179 = .ok (.new 70, 3) := by decide +kernel
theorem dX11_init_182 : decode cX11_init 182 = .ok (.dup, 1) := by decide +kernel
theorem dX11_init_183 : decode cX11_init 183 = .ok (.invokespecial 72, 3) := by decide +kernel
theorem dX11_init_186 : decode cX11_init 186 = .ok (.aastore, 1) := by decide +kernel
theorem dX11_init_187 : decode cX11_init 187 = .ok (.dup, 1) := by decide +kernel
theorem dX11_init_188 : decode cX11_init 188 = .ok (.iconst 5, 1) := by decide +kernel
theorem dX11_init_189 : decode cX11_init 189 = .ok (.new 73, 3) := by decide +kernel
theorem dX11_init_192 : decode cX11_init 192 = .ok (.dup, 1) := by decide +kernel
theorem dX11_init_193 : decode cX11_init 193 = .ok (.invokespecial 75, 3) := by decide +kernel
theorem dX11_init_196 : decode cX11_init 196 = .ok (.aastore, 1) := by decide +kernel
theorem dX11_init_197 : decode cX11_init 197 = .ok (.astore_n 1, 1) := by decide +kernel
theorem dX11_init_198 : decode cX11_init 198 = .ok (.aload_n 0, 1) := by decide +kernel
theorem dX11_init_199 : decode cX11_init 199 = .ok (.new 76, 3) := by decide +kernel
theorem dX11_init_202 : decode cX11_init 202 = .ok (.dup, 1) := by decide +kernel
theorem dX11_init_203 : decode cX11_init 203 = .ok (.aload_n 1, 1) := by decide +kernel
theorem dX11_init_204 : decode cX11_init 204 = .ok (.invokespecial 78, 3) := by decide +kernel
theorem dX11_init_207 : decode cX11_init 207 = .ok (.putfield 81, 3) := by decide +kernel
theorem dX11_init_210 : decode cX11_init 210 = .ok (.aload_n 0, 1) := by decide +kernel
theorem dX11_init_211 : decode cX11_init 211 = .ok (.new 76, 3) := by decide +kernel
theorem dX11_init_214 : decode cX11_init 214 = .ok (.dup, 1) := by decide +kernel
theorem dX11_init_215 : decode cX11_init 215 = .ok (.aload_n 1, 1) := by decide +kernel
theorem dX11_init_216 : decode cX11_init 216 = .ok (.invokespecial 78, 3) := by decide +kernel
theorem dX11_init_219 : decode cX11_init 219 = .ok (.putfield 85, 3) := by decide +kernel
theorem dX11_init_222 : decode cX11_init 222 = .ok (.aload_n 0, 1) := by decide +kernel
theorem dX11_init_223 : decode cX11_init 223 = .ok (.new 88, 3) := by decide +kernel
theorem dX11_init_226 : decode cX11_init 226 = .ok (.dup, 1) := by decide +kernel
theorem dX11_init_227 : decode cX11_init 227 = .ok (.aload_n 0, 1) := by decide +kernel
theorem dX11_init_228 : decode cX11_init 228 = .ok (.getfield 81, 3) := by decide +kernel
theorem dX11_init_231 : decode cX11_init 231 = .ok (.invokespecial 90, 3) := by decide +kernel
theorem dX11_init_234 : decode cX11_init 234 = .ok (.putfield 93, 3) := by decide +kernel
theorem dX11_init_237 : decode cX11_init 237 = .ok (.return_, 1) := by decide +kernel
theorem dX11_barrel_0 : decode cX11_barrel 0 = .ok (.iload_n 1, 1) := by decide +kernel
theorem dX11_barrel_1 : decode cX11_barrel 1 = .ok (.iconst 1, 1) := by decide +kernel
theorem dX11_barrel_2 : decode cX11_barrel 2 = .ok (.iconst 5, 1) := by decide +kernel
theorem dX11_barrel_3 : decode cX11_barrel 3 = .ok (.invokestatic 97, 3) := by decide +kernel
theorem dX11_barrel_6 : decode cX11_barrel 6 = .ok (.ifCond .eq 13, 3) := by decide +kernel
theorem dX11_barrel_9 : decode cX11_barrel 9 = .ok (.iload_n 2, 1) := by decide +kernel
theorem dX11_barrel_10 : decode cX11_barrel 10 = .ok (.iconst 0, 1) := by decide +kernel
theorem dX11_barrel_11 : decode cX11_barrel 11 = .ok (.bipush 99, 2) := by decide +kernel
theorem dX11_barrel_13 : decode cX11_barrel 13 = .ok (.invokestatic 97, 3) := by decide +kernel
theorem dX11_barrel_16 : decode cX11_barrel 16 = .ok (.ifCond .ne 5, 3) := by decide +kernel
theorem dX11_barrel_19 : decode cX11_barrel 19 = .ok (.iconst (-1), 1) := by decide +kernel
theorem dX11_barrel_20 : decode cX11_barrel 20 = .ok (.ireturn, 1) := by decide +kernel
theorem dX11_barrel_21 : decode cX11_barrel 21 = .ok (.iload_n 3, 1) := by decide +kernel
theorem dX11_barrel_22 : decode cX11_barrel 22 = .ok (.iconst 0, 1) := by decide +kernel
theorem dX11_barrel_23 : decode cX11_barrel 23 = .ok (.bipush 9, 2) := by decide +kernel
theorem dX11_barrel_25 : decode cX11_barrel 25 = .ok (.invokestatic 97, 3) := by decide +kernel
theorem dX11_barrel_28 : decode cX11_barrel 28 = .ok (.ifCond .eq 13, 3) := by decide +kernel
theorem dX11_barrel_31 : decode cX11_barrel 31 = .ok (.iload 4, 2) := by decide +kernel
theorem dX11_barrel_33 : decode cX11_barrel 33 = .ok (.iconst 0, 1) := by decide +kernel
theorem dX11_barrel_34 : decode cX11_barrel 34 = .ok (.iconst 5, 1) := by decide +kernel
theorem dX11_barrel_35 : decode cX11_barrel 35 = .ok (.invokestatic 97, 3) := by decide +kernel
theorem dX11_barrel_38 : decode cX11_barrel 38 = .ok (.ifCond .ne 5, 3) := by decide +kernel
theorem dX11_barrel_41 : decode cX11_barrel 41 = .ok (.iconst (-1), 1) := by decide +kernel
theorem dX11_barrel_42 : decode cX11_barrel 42 = .ok (.ireturn, 1) := by decide +kernel
theorem dX11_barrel_43 : decode cX11_barrel 43 = .ok (.aload_n 0, 1) := by decide +kernel
theorem dX11_barrel_44 : decode cX11_barrel 44 = .ok (.getfield 81, 3) := by decide +kernel
theorem dX11_barrel_47 : decode cX11_barrel 47 = .ok (.getfield 101, 3) := by decide +kernel
theorem dX11_barrel_50 : decode cX11_barrel 50 = .ok (.bipush 6, 2) := by decide +kernel
theorem dX11_barrel_52 : decode cX11_barrel 52 = .ok (.if_icmp .lt 6, 3) := by decide +kernel
theorem dX11_barrel_55 : decode cX11_barrel 55 = .ok (.bipush (-2), 2) := by decide +kernel
theorem dX11_barrel_57 : decode cX11_barrel 57 = .ok (.ireturn, 1) := by decide +kernel
theorem dX11_barrel_58 : decode cX11_barrel 58 = .ok (.aload_n 0, 1) := by decide +kernel
theorem dX11_barrel_59 : decode cX11_barrel 59 = .ok (.getfield 81, 3) := by decide +kernel
theorem dX11_barrel_62 : decode cX11_barrel 62 = .ok (.getfield 101, 3) := by decide +kernel
theorem dX11_barrel_65 : decode cX11_barrel 65 = .ok (.istore 5, 2) := by decide +kernel
theorem dX11_barrel_67 : decode cX11_barrel 67 = .ok (.aload_n 0, 1) := by decide +kernel
theorem dX11_barrel_68 : decode cX11_barrel 68 = .ok (.getfield 81, 3) := by decide +kernel
theorem dX11_barrel_71 : decode cX11_barrel 71 = .ok (.dup, 1) := by decide +kernel
theorem dX11_barrel_72 : decode cX11_barrel 72 = .ok (.getfield 101, 3) := by decide +kernel
theorem dX11_barrel_75 : decode cX11_barrel 75 = .ok (.iconst 1, 1) := by decide +kernel
theorem dX11_barrel_76 : decode cX11_barrel 76 = .ok (.iadd, 1) := by decide +kernel
theorem dX11_barrel_77 : decode cX11_barrel 77 = .ok (.putfield 101, 3) := by decide +kernel
theorem dX11_barrel_80 : decode cX11_barrel 80 = .ok (.aload_n 0, 1) := by decide +kernel
theorem dX11_barrel_81 : decode cX11_barrel 81 = .ok (.getfield 81, 3) := by decide +kernel
theorem dX11_barrel_84 : decode cX11_barrel 84 = .ok (.getfield 105, 3) := by decide +kernel
theorem dX11_barrel_87 : decode cX11_barrel 87 = .ok (.iload 5, 2) := by decide +kernel
theorem dX11_barrel_89 : decode cX11_barrel 89 = .ok (.iload_n 1, 1) := by decide +kernel
theorem dX11_barrel_90 : decode cX11_barrel 90 = .ok (.iastore, 1) := by decide +kernel
theorem dX11_barrel_91 : decode cX11_barrel 91 = .ok (.aload_n 0, 1) := by decide +kernel
theorem dX11_barrel_92 : decode cX11_barrel 92 = .ok (.getfield 81, 3) := by decide +kernel
theorem dX11_barrel_95 : decode cX11_barrel 95 = .ok (.getfield 108, 3) := by decide +kernel
theorem dX11_barrel_98 : decode cX11_barrel 98 = .ok (.iload 5, 2) := by decide +kernel
theorem dX11_barrel_100 : decode cX11_barrel 100 = .ok (.iload 4, 2) := by decide +kernel
theorem dX11_barrel_102 : decode cX11_barrel 102 = .ok (.iastore, 1) := by decide +kernel
theorem dX11_barrel_103 : decode cX11_barrel 103 = .ok (.aload_n 0, 1) := by decide +kernel
theorem dX11_barrel_104 : decode cX11_barrel 104 = .ok (.getfield 81, 3) := by decide +kernel
theorem dX11_barrel_107 : decode cX11_barrel 107 = .ok (.getfield 111, 3) := by decide +kernel
theorem dX11_barrel_110 : decode cX11_barrel 110 = .ok (.getfield 114, 3) := by decide +kernel
theorem dX11_barrel_113 : decode cX11_barrel 113 = .ok (.iload 5, 2) := by decide +kernel
theorem dX11_barrel_115 : decode cX11_barrel 115 = .ok (.iload_n 2, 1) := by decide +kernel
theorem dX11_barrel_116 : decode cX11_barrel 116 = .ok (.iastore, 1) := by decide +kernel
theorem dX11_barrel_117 : decode cX11_barrel 117 = .ok (.aload_n 0, 1) := by decide +kernel
theorem dX11_barrel_118 : decode cX11_barrel 118 = .ok (.getfield 81, 3) := by decide +kernel
theorem dX11_barrel_121 : decode cX11_barrel 121 = .ok (.getfield 111, 3) := by decide +kernel
theorem dX11_barrel_124 : decode cX11_barrel 124 = .ok (.getfield 117, 3) := by decide +kernel
theorem dX11_barrel_127 : decode cX11_barrel 127 = .ok (.iload 5, 2) := by decide +kernel
theorem dX11_barrel_129 : decode cX11_barrel 129 = .ok (.iload_n 3, 1) := by decide +kernel
theorem dX11_barrel_130 : decode cX11_barrel 130 = .ok (.iastore, 1) := by decide +kernel
theorem dX11_barrel_131 : decode cX11_barrel 131 = .ok (.aload_n 0, 1) := by decide +kernel
theorem dX11_barrel_132 : decode cX11_barrel 132 = .ok (.getfield 81, 3) := by decide +kernel
theorem dX11_barrel_135 : decode cX11_barrel 135 = .ok (.getfield 111, 3) := by decide +kernel
theorem dX11_barrel_138 : decode cX11_barrel 138 = .ok (.iload 5, 2) := by decide +kernel
theorem dX11_barrel_140 : decode cX11_barrel 140 = .ok (.iconst 0, 1) := by decide +kernel
theorem dX11_barrel_141 : decode cX11_barrel 141 = .ok (.invokevirtual 120, 3) := by decide +kernel
theorem dX11_barrel_144 : decode cX11_barrel 144 = .ok (.pop, 1) := by decide +kernel
theorem dX11_barrel_145 : decode cX11_barrel 145 = .ok (.iload 5, 2) := by decide +kernel
theorem dX11_barrel_147 : decode cX11_barrel 147 = .ok (.ireturn, 1) := by decide +kernel
theorem dX11_barrelOf_0 : decode cX11_barrelOf 0 = .ok (.aload_n 0, 1) := by decide +kernel
theorem dX11_barrelOf_1 : decode cX11_barrelOf 1 = .ok (.getfield 81, 3) := by decide +kernel
theorem dX11_barrelOf_4 : decode cX11_barrelOf 4 = .ok (.iload_n 1, 1) := by decide +kernel
theorem dX11_barrelOf_5 : decode cX11_barrelOf 5 = .ok (.invokevirtual 124, 3) := by decide +kernel
theorem dX11_barrelOf_8 : decode cX11_barrelOf 8 = .ok (.ifCond .ne 5, 3) := by decide +kernel
theorem dX11_barrelOf_11 : decode cX11_barrelOf 11 = .ok (.iconst (-1), 1) := by decide +kernel
theorem dX11_barrelOf_12 : decode cX11_barrelOf 12 = .ok (.ireturn, 1) := by decide +kernel
theorem dX11_barrelOf_13 : decode cX11_barrelOf 13 = .ok (.aload_n 0, 1) := by decide +kernel
theorem dX11_barrelOf_14 : decode cX11_barrelOf 14 = .ok (.getfield 81, 3) := by decide +kernel
theorem dX11_barrelOf_17 : decode cX11_barrelOf 17 = .ok (.getfield 111, 3) := by decide +kernel
theorem dX11_barrelOf_20 : decode cX11_barrelOf 20 = .ok (.astore_n 3, 1) := by decide +kernel
theorem dX11_barrelOf_21 : decode cX11_barrelOf 21 = .ok (.iload_n 2, 1) := by decide +kernel
theorem dX11_barrelOf_22 : decode cX11_barrelOf 22 = .ok (.tableswitch 155 0 9 #[54, 64, 71, 78, 88, 97, 107, 117, 127, 145], 54) := by decide +kernel
theorem dX11_barrelOf_76 : decode cX11_barrelOf 76 = .ok (.aload_n 0, 1) := by decide +kernel
theorem dX11_barrelOf_77 : decode cX11_barrelOf 77 = .ok (.getfield 81, 3) := by decide +kernel
theorem dX11_barrelOf_80 : decode cX11_barrelOf 80 = .ok (.getfield 105, 3) := by decide +kernel
theorem dX11_barrelOf_83 : decode cX11_barrelOf 83 = .ok (.iload_n 1, 1) := by decide +kernel
theorem dX11_barrelOf_84 : decode cX11_barrelOf 84 = .ok (.iaload, 1) := by decide +kernel
theorem dX11_barrelOf_85 : decode cX11_barrelOf 85 = .ok (.ireturn, 1) := by decide +kernel
theorem dX11_barrelOf_86 : decode cX11_barrelOf 86 = .ok (.aload_n 3, 1) := by decide +kernel
theorem dX11_barrelOf_87 : decode cX11_barrelOf 87 = .ok (.getfield 114, 3) := by decide +kernel
theorem dX11_barrelOf_90 : decode cX11_barrelOf 90 = .ok (.iload_n 1, 1) := by decide +kernel
theorem dX11_barrelOf_91 : decode cX11_barrelOf 91 = .ok (.iaload, 1) := by decide +kernel
theorem dX11_barrelOf_92 : decode cX11_barrelOf 92 = .ok (.ireturn, 1) := by decide +kernel
theorem dX11_barrelOf_93 : decode cX11_barrelOf 93 = .ok (.aload_n 3, 1) := by decide +kernel
theorem dX11_barrelOf_94 : decode cX11_barrelOf 94 = .ok (.getfield 117, 3) := by decide +kernel
theorem dX11_barrelOf_97 : decode cX11_barrelOf 97 = .ok (.iload_n 1, 1) := by decide +kernel
theorem dX11_barrelOf_98 : decode cX11_barrelOf 98 = .ok (.iaload, 1) := by decide +kernel
theorem dX11_barrelOf_99 : decode cX11_barrelOf 99 = .ok (.ireturn, 1) := by decide +kernel
theorem dX11_barrelOf_100 : decode cX11_barrelOf 100 = .ok (.aload_n 0, 1) := by decide +kernel
theorem dX11_barrelOf_101 : decode cX11_barrelOf 101 = .ok (.getfield 81, 3) := by decide +kernel
theorem dX11_barrelOf_104 : decode cX11_barrelOf 104 = .ok (.getfield 108, 3) := by decide +kernel
theorem dX11_barrelOf_107 : decode cX11_barrelOf 107 = .ok (.iload_n 1, 1) := by decide +kernel
theorem dX11_barrelOf_108 : decode cX11_barrelOf 108 = .ok (.iaload, 1) := by decide +kernel
theorem dX11_barrelOf_109 : decode cX11_barrelOf 109 = .ok (.ireturn, 1) := by decide +kernel
theorem dX11_barrelOf_110 : decode cX11_barrelOf 110 = .ok (.aload_n 3, 1) := by decide +kernel
theorem dX11_barrelOf_111 : decode cX11_barrelOf 111 = .ok (.getfield 128, 3) := by decide +kernel
theorem dX11_barrelOf_114 : decode cX11_barrelOf 114 = .ok (.iload_n 1, 1) := by decide +kernel
theorem dX11_barrelOf_115 : decode cX11_barrelOf 115 = .ok (.ishr, 1) := by decide +kernel
theorem dX11_barrelOf_116 : decode cX11_barrelOf 116 = .ok (.iconst 1, 1) := by decide +kernel
theorem dX11_barrelOf_117 : decode cX11_barrelOf 117 = .ok (.iand, 1) := by decide +kernel
theorem dX11_barrelOf_118 : decode cX11_barrelOf 118 = .ok (.ireturn, 1) := by decide +kernel
theorem dX11_barrelOf_119 : decode cX11_barrelOf 119 = .ok (.aload_n 0, 1) := by decide +kernel
theorem dX11_barrelOf_120 : decode cX11_barrelOf 120 = .ok (.getfield 81, 3) := by decide +kernel
theorem dX11_barrelOf_123 : decode cX11_barrelOf 123 = .ok (.aload_n 3, 1) := by decide +kernel
theorem dX11_barrelOf_124 : decode cX11_barrelOf 124 = .ok (.iload_n 1, 1) := by decide +kernel
theorem dX11_barrelOf_125 : decode cX11_barrelOf 125 = .ok (.invokevirtual 131, 3) := by decide +kernel
theorem dX11_barrelOf_128 : decode cX11_barrelOf 128 = .ok (.ireturn, 1) := by decide +kernel
theorem dX11_barrelOf_129 : decode cX11_barrelOf 129 = .ok (.aload_n 0, 1) := by decide +kernel
theorem dX11_barrelOf_130 : decode cX11_barrelOf 130 = .ok (.getfield 81, 3) := by decide +kernel
theorem dX11_barrelOf_133 : decode cX11_barrelOf 133 = .ok (.aload_n 3, 1) := by decide +kernel
theorem dX11_barrelOf_134 : decode cX11_barrelOf 134 = .ok (.iload_n 1, 1) := by decide +kernel
theorem dX11_barrelOf_135 : decode cX11_barrelOf 135 = .ok (.invokevirtual 135, 3) := by decide +kernel
theorem dX11_barrelOf_138 : decode cX11_barrelOf 138 = .ok (.ireturn, 1) := by decide +kernel
theorem dX11_barrelOf_139 : decode cX11_barrelOf 139 = .ok (.aload_n 0, 1) := by decide +kernel
theorem dX11_barrelOf_140 : decode cX11_barrelOf 140 = .ok (.getfield 81, 3) := by decide +kernel
theorem dX11_barrelOf_143 : decode cX11_barrelOf 143 = .ok (.aload_n 3, 1) := by decide +kernel
theorem dX11_barrelOf_144 : decode cX11_barrelOf 144 = .ok (.iload_n 1, 1) := by decide +kernel
theorem dX11_barrelOf_145 : decode cX11_barrelOf 145 = .ok (.invokevirtual 138, 3) := by decide +kernel
theorem dX11_barrelOf_148 : decode cX11_barrelOf 148 = .ok (.ireturn, 1) := by decide +kernel
theorem dX11_barrelOf_149 : decode cX11_barrelOf 149 = .ok (.aload_n 0, 1) := by decide +kernel
theorem dX11_barrelOf_150 : decode cX11_barrelOf 150 = .ok (.getfield 81, 3) := by decide +kernel
theorem dX11_barrelOf_153 : decode cX11_barrelOf 153 = .ok (.aload_n 3, 1) := by decide +kernel
theorem dX11_barrelOf_154 : decode cX11_barrelOf 154 = .ok (.iload_n 1, 1) := by decide +kernel
theorem dX11_barrelOf_155 : decode cX11_barrelOf 155 = .ok (.invokevirtual 141, 3) := by decide +kernel
theorem dX11_barrelOf_158 : decode cX11_barrelOf 158 = .ok (.ifCond .eq 7, 3) := by decide +kernel
theorem dX11_barrelOf_161 : decode cX11_barrelOf 161 = .ok (.iconst 1, 1) := by decide +kernel
theorem dX11_barrelOf_162 : decode cX11_barrelOf 162 = .ok (.goto 4, 3) := by decide +kernel
theorem dX11_barrelOf_165 : decode cX11_barrelOf 165 = .ok (.iconst 0, 1) := by decide +kernel
theorem dX11_barrelOf_166 : decode cX11_barrelOf 166 = .ok (.ireturn, 1) := by decide +kernel
theorem dX11_barrelOf_167 : decode cX11_barrelOf 167 = .ok (.aload_n 0, 1) := by decide +kernel
theorem dX11_barrelOf_168 : decode cX11_barrelOf 168 = .ok (.getfield 81, 3) := by decide +kernel
theorem dX11_barrelOf_171 : decode cX11_barrelOf 171 = .ok (.aload_n 3, 1) := by decide +kernel
theorem dX11_barrelOf_172 : decode cX11_barrelOf 172 = .ok (.iload_n 1, 1) := by decide +kernel
theorem dX11_barrelOf_173 : decode cX11_barrelOf 173 = .ok (.invokevirtual 145, 3) := by decide +kernel
theorem dX11_barrelOf_176 : decode cX11_barrelOf 176 = .ok (.ireturn, 1) := by decide +kernel
theorem dX11_barrelOf_177 : decode cX11_barrelOf 177 = .ok (.iconst (-1), 1) := by decide +kernel
theorem dX11_barrelOf_178 : decode cX11_barrelOf 178 = .ok (.ireturn, 1) := by decide +kernel
theorem dX11_change_0 : decode cX11_change 0 = .ok (.aload_n 0, 1) := by decide +kernel
theorem dX11_change_1 : decode cX11_change 1 = .ok (.getfield 81, 3) := by decide +kernel
theorem dX11_change_4 : decode cX11_change 4 = .ok (.iload_n 1, 1) := by decide +kernel
theorem dX11_change_5 : decode cX11_change 5 = .ok (.invokevirtual 124, 3) := by decide +kernel
theorem dX11_change_8 : decode cX11_change 8 = .ok (.ifCond .ne 5, 3) := by decide +kernel
theorem dX11_change_11 : decode cX11_change 11 = .ok (.iconst (-1), 1) := by decide +kernel
theorem dX11_change_12 : decode cX11_change 12 = .ok (.ireturn, 1) := by decide +kernel
theorem dX11_change_13 : decode cX11_change 13 = .ok (.aload_n 0, 1) := by decide +kernel
theorem dX11_change_14 : decode cX11_change 14 = .ok (.getfield 81, 3) := by decide +kernel
theorem dX11_change_17 : decode cX11_change 17 = .ok (.getfield 111, 3) := by decide +kernel
theorem dX11_change_20 : decode cX11_change 20 = .ok (.astore 4, 2) := by decide +kernel
theorem dX11_change_22 : decode cX11_change 22 = .ok (.iload_n 2, 1) := by decide +kernel
theorem dX11_change_23 : decode cX11_change 23 = .ok (.tableswitch 126 1 4 #[29, 54, 79, 105], 29) := by decide +kernel
theorem dX11_change_52 : decode cX11_change 52 = .ok (.iload_n 3, 1) := by decide +kernel
theorem dX11_change_53 : decode cX11_change 53 = .ok (.iconst 0, 1) := by decide +kernel
theorem dX11_change_54 : decode cX11_change 54 = .ok (.bipush 99, 2) := by decide +kernel
theorem dX11_change_56 : decode cX11_change 56 = .ok (.invokestatic 97, 3) := by decide +kernel
theorem dX11_change_59 : decode cX11_change 59 = .ok (.ifCond .eq 16, 3) := by decide +kernel
theorem dX11_change_62 : decode cX11_change 62 = .ok (.aload 4, 2) := by decide +kernel
theorem dX11_change_64 : decode cX11_change 64 = .ok (.getfield 114, 3) := by decide +kernel
theorem dX11_change_67 : decode cX11_change 67 = .ok (.iload_n 1, 1) := by decide +kernel
theorem dX11_change_68 : decode cX11_change 68 = .ok (.iload_n 3, 1) := by decide +kernel
theorem dX11_change_69 : decode cX11_change 69 = .ok (.invokestatic 148, 3) := by decide +kernel
theorem dX11_change_72 : decode cX11_change 72 = .ok (.goto 4, 3) := by decide +kernel
theorem dX11_change_75 : decode cX11_change 75 = .ok (.iconst (-1), 1) := by decide +kernel
theorem dX11_change_76 : decode cX11_change 76 = .ok (.ireturn, 1) := by decide +kernel
theorem dX11_change_77 : decode cX11_change 77 = .ok (.iload_n 3, 1) := by decide +kernel
theorem dX11_change_78 : decode cX11_change 78 = .ok (.iconst 0, 1) := by decide +kernel
theorem dX11_change_79 : decode cX11_change 79 = .ok (.bipush 9, 2) := by decide +kernel
theorem dX11_change_81 : decode cX11_change 81 = .ok (.invokestatic 97, 3) := by decide +kernel
theorem dX11_change_84 : decode cX11_change 84 = .ok (.ifCond .eq 16, 3) := by decide +kernel
theorem dX11_change_87 : decode cX11_change 87 = .ok (.aload 4, 2) := by decide +kernel
theorem dX11_change_89 : decode cX11_change 89 = .ok (.getfield 117, 3) := by decide +kernel
theorem dX11_change_92 : decode cX11_change 92 = .ok (.iload_n 1, 1) := by decide +kernel
theorem dX11_change_93 : decode cX11_change 93 = .ok (.iload_n 3, 1) := by decide +kernel
theorem dX11_change_94 : decode cX11_change 94 = .ok (.invokestatic 148, 3) := by decide +kernel
theorem dX11_change_97 : decode cX11_change 97 = .ok (.goto 4, 3) := by decide +kernel
theorem dX11_change_100 : decode cX11_change 100 = .ok (.iconst (-1), 1) := by decide +kernel
theorem dX11_change_101 : decode cX11_change 101 = .ok (.ireturn, 1) := by decide +kernel
theorem dX11_change_102 : decode cX11_change 102 = .ok (.iload_n 3, 1) := by decide +kernel
theorem dX11_change_103 : decode cX11_change 103 = .ok (.iconst 0, 1) := by decide +kernel
theorem dX11_change_104 : decode cX11_change 104 = .ok (.iconst 5, 1) := by decide +kernel
theorem dX11_change_105 : decode cX11_change 105 = .ok (.invokestatic 97, 3) := by decide +kernel
theorem dX11_change_108 : decode cX11_change 108 = .ok (.ifCond .eq 18, 3) := by decide +kernel
theorem dX11_change_111 : decode cX11_change 111 = .ok (.aload_n 0, 1) := by decide +kernel
theorem dX11_change_112 : decode cX11_change 112 = .ok (.getfield 81, 3) := by decide +kernel
theorem dX11_change_115 : decode cX11_change 115 = .ok (.getfield 108, 3) := by decide +kernel
theorem dX11_change_118 : decode cX11_change 118 = .ok (.iload_n 1, 1) := by decide +kernel
theorem dX11_change_119 : decode cX11_change 119 = .ok (.iload_n 3, 1) := by decide +kernel
theorem dX11_change_120 : decode cX11_change 120 = .ok (.invokestatic 148, 3) := by decide +kernel
theorem dX11_change_123 : decode cX11_change 123 = .ok (.goto 4, 3) := by decide +kernel
theorem dX11_change_126 : decode cX11_change 126 = .ok (.iconst (-1), 1) := by decide +kernel
theorem dX11_change_127 : decode cX11_change 127 = .ok (.ireturn, 1) := by decide +kernel
theorem dX11_change_128 : decode cX11_change 128 = .ok (.iload_n 3, 1) := by decide +kernel
theorem dX11_change_129 : decode cX11_change 129 = .ok (.iconst 0, 1) := by decide +kernel
theorem dX11_change_130 : decode cX11_change 130 = .ok (.iconst 1, 1) := by decide +kernel
theorem dX11_change_131 : decode cX11_change 131 = .ok (.invokestatic 97, 3) := by decide +kernel
theorem dX11_change_134 : decode cX11_change 134 = .ok (.ifCond .eq 13, 3) := by decide +kernel
theorem dX11_change_137 : decode cX11_change 137 = .ok (.aload 4, 2) := by decide +kernel
theorem dX11_change_139 : decode cX11_change 139 = .ok (.iload_n 1, 1) := by decide +kernel
theorem dX11_change_140 : decode cX11_change 140 = .ok (.iload_n 3, 1) := by decide +kernel
theorem dX11_change_141 : decode cX11_change 141 = .ok (.invokevirtual 120, 3) := by decide +kernel
theorem dX11_change_144 : decode cX11_change 144 = .ok (.goto 4, 3) := by decide +kernel
theorem dX11_change_147 : decode cX11_change 147 = .ok (.iconst (-1), 1) := by decide +kernel
theorem dX11_change_148 : decode cX11_change 148 = .ok (.ireturn, 1) := by decide +kernel
theorem dX11_change_149 : decode cX11_change 149 = .ok (.iconst (-1), 1) := by decide +kernel
theorem dX11_change_150 : decode cX11_change 150 = .ok (.ireturn, 1) := by decide +kernel
theorem dX11_remake_0 : decode cX11_remake 0 = .ok (.aload_n 0, 1) := by decide +kernel
theorem dX11_remake_1 : decode cX11_remake 1 = .ok (.getfield 81, 3) := by decide +kernel
theorem dX11_remake_4 : decode cX11_remake 4 = .ok (.iload_n 1, 1) := by decide +kernel
theorem dX11_remake_5 : decode cX11_remake 5 = .ok (.invokevirtual 124, 3) := by decide +kernel
theorem dX11_remake_8 : decode cX11_remake 8 = .ok (.ifCond .eq 12, 3) := by decide +kernel
theorem dX11_remake_11 : decode cX11_remake 11 = .ok (.iload_n 2, 1) := by decide +kernel
theorem dX11_remake_12 : decode cX11_remake 12 = .ok (.iconst 1, 1) := by decide +kernel
theorem dX11_remake_13 : decode cX11_remake 13 = .ok (.iconst 5, 1) := by decide +kernel
theorem dX11_remake_14 : decode cX11_remake 14 = .ok (.invokestatic 97, 3) := by decide +kernel
theorem dX11_remake_17 : decode cX11_remake 17 = .ok (.ifCond .ne 5, 3) := by decide +kernel
theorem dX11_remake_20 : decode cX11_remake 20 = .ok (.iconst (-1), 1) := by decide +kernel
theorem dX11_remake_21 : decode cX11_remake 21 = .ok (.ireturn, 1) := by decide +kernel
theorem dX11_remake_22 : decode cX11_remake 22 = .ok (.aload_n 0, 1) := by decide +kernel
theorem dX11_remake_23 : decode cX11_remake 23 = .ok (.getfield 81, 3) := by decide +kernel
theorem dX11_remake_26 : decode cX11_remake 26 = .ok (.getfield 105, 3) := by decide +kernel
theorem dX11_remake_29 : decode cX11_remake 29 = .ok (.iload_n 1, 1) := by decide +kernel
theorem dX11_remake_30 : decode cX11_remake 30 = .ok (.iload_n 2, 1) := by decide +kernel
theorem dX11_remake_31 : decode cX11_remake 31 = .ok (.invokestatic 148, 3) := by decide +kernel
theorem dX11_remake_34 : decode cX11_remake 34 = .ok (.ireturn, 1) := by decide +kernel
theorem dX11_water_0 : decode cX11_water 0 = .ok (.iload_n 1, 1) := by decide +kernel
theorem dX11_water_1 : decode cX11_water 1 = .ok (.iconst 0, 1) := by decide +kernel
theorem dX11_water_2 : decode cX11_water 2 = .ok (.bipush 15, 2) := by decide +kernel
theorem dX11_water_4 : decode cX11_water 4 = .ok (.invokestatic 97, 3) := by decide +kernel
theorem dX11_water_7 : decode cX11_water 7 = .ok (.ifCond .eq 13, 3) := by decide +kernel
theorem dX11_water_10 : decode cX11_water 10 = .ok (.iload_n 2, 1) := by decide +kernel
theorem dX11_water_11 : decode cX11_water 11 = .ok (.iconst 0, 1) := by decide +kernel
theorem dX11_water_12 : decode cX11_water 12 = .ok (.bipush 15, 2) := by decide +kernel
theorem dX11_water_14 : decode cX11_water 14 = .ok (.invokestatic 97, 3) := by decide +kernel
theorem dX11_water_17 : decode cX11_water 17 = .ok (.ifCond .ne 5, 3) := by decide +kernel
theorem dX11_water_20 : decode cX11_water 20 = .ok (.iconst (-1), 1) := by decide +kernel
theorem dX11_water_21 : decode cX11_water 21 = .ok (.ireturn, 1) := by decide +kernel
theorem dX11_water_22 : decode cX11_water 22 = .ok (.aload_n 0, 1) := by decide +kernel
theorem dX11_water_23 : decode cX11_water 23 = .ok (.getfield 81, 3) := by decide +kernel
theorem dX11_water_26 : decode cX11_water 26 = .ok (.getfield 152, 3) := by decide +kernel
theorem dX11_water_29 : decode cX11_water 29 = .ok (.iload_n 1, 1) := by decide +kernel
theorem dX11_water_30 : decode cX11_water 30 = .ok (.iload_n 2, 1) := by decide +kernel
theorem dX11_water_31 : decode cX11_water 31 = .ok (.invokestatic 148, 3) := by decide +kernel
theorem dX11_water_34 : decode cX11_water 34 = .ok (.ireturn, 1) := by decide +kernel
theorem dX11_tier_0 : decode cX11_tier 0 = .ok (.iload_n 1, 1) := by decide +kernel
theorem dX11_tier_1 : decode cX11_tier 1 = .ok (.iconst 0, 1) := by decide +kernel
theorem dX11_tier_2 : decode cX11_tier 2 = .ok (.iconst 5, 1) := by decide +kernel
theorem dX11_tier_3 : decode cX11_tier 3 = .ok (.invokestatic 97, 3) := by decide +kernel
theorem dX11_tier_6 : decode cX11_tier 6 = .ok (.ifCond .eq 22, 3) := by decide +kernel
theorem dX11_tier_9 : decode cX11_tier 9 = .ok (.iload_n 2, 1) := by decide +kernel
theorem dX11_tier_10 : decode cX11_tier 10 = .ok (.iconst 0, 1) := by decide +kernel
theorem dX11_tier_11 : decode cX11_tier 11 = .ok (.iconst 1, 1) := by decide +kernel
theorem dX11_tier_12 : decode cX11_tier 12 = .ok (.invokestatic 97, 3) := by decide +kernel
theorem dX11_tier_15 : decode cX11_tier 15 = .ok (.ifCond .eq 13, 3) := by decide +kernel
theorem dX11_tier_18 : decode cX11_tier 18 = .ok (.iload_n 3, 1) := by decide +kernel
theorem dX11_tier_19 : decode cX11_tier 19 = .ok (.iconst 0, 1) := by decide +kernel
theorem dX11_tier_20 : decode cX11_tier 20 = .ok (.bipush 9, 2) := by decide +kernel
theorem dX11_tier_22 : decode cX11_tier 22 = .ok (.invokestatic 97, 3) := by decide +kernel
theorem dX11_tier_25 : decode cX11_tier 25 = .ok (.ifCond .ne 5, 3) := by decide +kernel
theorem dX11_tier_28 : decode cX11_tier 28 = .ok (.iconst (-1), 1) := by decide +kernel
theorem dX11_tier_29 : decode cX11_tier 29 = .ok (.ireturn, 1) := by decide +kernel
theorem dX11_tier_30 : decode cX11_tier 30 = .ok (.iload_n 2, 1) := by decide +kernel
theorem dX11_tier_31 : decode cX11_tier 31 = .ok (.ifCond .ne 13, 3) := by decide +kernel
theorem dX11_tier_34 : decode cX11_tier 34 = .ok (.aload_n 0, 1) := by decide +kernel
theorem dX11_tier_35 : decode cX11_tier 35 = .ok (.getfield 81, 3) := by decide +kernel
theorem dX11_tier_38 : decode cX11_tier 38 = .ok (.getfield 155, 3) := by decide +kernel
theorem dX11_tier_41 : decode cX11_tier 41 = .ok (.goto 10, 3) := by decide +kernel
theorem dX11_tier_44 : decode cX11_tier 44 = .ok (.aload_n 0, 1) := by decide +kernel
theorem dX11_tier_45 : decode cX11_tier 45 = .ok (.getfield 81, 3) := by decide +kernel
theorem dX11_tier_48 : decode cX11_tier 48 = .ok (.getfield 158, 3) := by decide +kernel
theorem dX11_tier_51 : decode cX11_tier 51 = .ok (.iload_n 1, 1) := by decide +kernel
theorem dX11_tier_52 : decode cX11_tier 52 = .ok (.iload_n 3, 1) := by decide +kernel
theorem dX11_tier_53 : decode cX11_tier 53 = .ok (.invokestatic 148, 3) := by decide +kernel
theorem dX11_tier_56 : decode cX11_tier 56 = .ok (.ireturn, 1) := by decide +kernel
theorem dX11_tierOf_0 : decode cX11_tierOf 0 = .ok (.iload_n 1, 1) := by decide +kernel
theorem dX11_tierOf_1 : decode cX11_tierOf 1 = .ok (.iconst 0, 1) := by decide +kernel
theorem dX11_tierOf_2 : decode cX11_tierOf 2 = .ok (.iconst 5, 1) := by decide +kernel
theorem dX11_tierOf_3 : decode cX11_tierOf 3 = .ok (.invokestatic 97, 3) := by decide +kernel
theorem dX11_tierOf_6 : decode cX11_tierOf 6 = .ok (.ifCond .eq 12, 3) := by decide +kernel
theorem dX11_tierOf_9 : decode cX11_tierOf 9 = .ok (.iload_n 2, 1) := by decide +kernel
theorem dX11_tierOf_10 : decode cX11_tierOf 10 = .ok (.iconst 0, 1) := by decide +kernel
theorem dX11_tierOf_11 : decode cX11_tierOf 11 = .ok (.iconst 1, 1) := by decide +kernel
theorem dX11_tierOf_12 : decode cX11_tierOf 12 = .ok (.invokestatic 97, 3) := by decide +kernel
theorem dX11_tierOf_15 : decode cX11_tierOf 15 = .ok (.ifCond .ne 5, 3) := by decide +kernel
theorem dX11_tierOf_18 : decode cX11_tierOf 18 = .ok (.iconst (-1), 1) := by decide +kernel
theorem dX11_tierOf_19 : decode cX11_tierOf 19 = .ok (.ireturn, 1) := by decide +kernel
theorem dX11_tierOf_20 : decode cX11_tierOf 20 = .ok (.iload_n 2, 1) := by decide +kernel
theorem dX11_tierOf_21 : decode cX11_tierOf 21 = .ok (.ifCond .ne 15, 3) := by decide +kernel
theorem dX11_tierOf_24 : decode cX11_tierOf 24 = .ok (.aload_n 0, 1) := by decide +kernel
theorem dX11_tierOf_25 : decode cX11_tierOf 25 = .ok (.getfield 81, 3) := by decide +kernel
theorem dX11_tierOf_28 : decode cX11_tierOf 28 = .ok (.getfield 155, 3) := by decide +kernel
theorem dX11_tierOf_31 : decode cX11_tierOf 31 = .ok (.iload_n 1, 1) := by decide +kernel
theorem dX11_tierOf_32 : decode cX11_tierOf 32 = .ok (.iaload, 1) := by decide +kernel
theorem dX11_tierOf_33 : decode cX11_tierOf 33 = .ok (.goto 12, 3) := by decide +kernel
theorem dX11_tierOf_36 : decode cX11_tierOf 36 = .ok (.aload_n 0, 1) := by decide +kernel
theorem dX11_tierOf_37 : decode cX11_tierOf 37 = .ok (.getfield 81, 3) := by decide +kernel
theorem dX11_tierOf_40 : decode cX11_tierOf 40 = .ok (.getfield 158, 3) := by decide +kernel
theorem dX11_tierOf_43 : decode cX11_tierOf 43 = .ok (.iload_n 1, 1) := by decide +kernel
theorem dX11_tierOf_44 : decode cX11_tierOf 44 = .ok (.iaload, 1) := by decide +kernel
theorem dX11_tierOf_45 : decode cX11_tierOf 45 = .ok (.ireturn, 1) := by decide +kernel
theorem dX11_ends_0 : decode cX11_ends 0 = .ok (.iload_n 1, 1) := by decide +kernel
theorem dX11_ends_1 : decode cX11_ends 1 = .ok (.iconst 1, 1) := by decide +kernel
theorem dX11_ends_2 : decode cX11_ends 2 = .ok (.bipush 16, 2) := by decide +kernel
theorem dX11_ends_4 : decode cX11_ends 4 = .ok (.invokestatic 97, 3) := by decide +kernel
theorem dX11_ends_7 : decode cX11_ends 7 = .ok (.ifCond .ne 5, 3) := by decide +kernel
theorem dX11_ends_10 : decode cX11_ends 10 = .ok (.iconst (-1), 1) := by decide +kernel
theorem dX11_ends_11 : decode cX11_ends 11 = .ok (.ireturn, 1) := by decide +kernel
theorem dX11_ends_12 : decode cX11_ends 12 = .ok (.iload_n 1, 1) := by decide +kernel
theorem dX11_ends_13 : decode cX11_ends 13 = .ok (.aload_n 0, 1) := by decide +kernel
theorem dX11_ends_14 : decode cX11_ends 14 = .ok (.getfield 81, 3) := by decide +kernel
theorem dX11_ends_17 : decode cX11_ends 17 = .ok (.getfield 111, 3) := by decide +kernel
theorem dX11_ends_20 : decode cX11_ends 20 = .ok (.getfield 161, 3) := by decide +kernel
theorem dX11_ends_23 : decode cX11_ends 23 = .ok (.if_icmp .ge 6, 3) := by decide +kernel
theorem dX11_ends_26 : decode cX11_ends 26 = .ok (.bipush (-4), 2) := by decide +kernel
theorem dX11_ends_28 : decode cX11_ends 28 = .ok (.ireturn, 1) := by decide +kernel
theorem dX11_ends_29 : decode cX11_ends 29 = .ok (.aload_n 0, 1) := by decide +kernel
theorem dX11_ends_30 : decode cX11_ends 30 = .ok (.getfield 81, 3) := by decide +kernel
theorem dX11_ends_33 : decode cX11_ends 33 = .ok (.getfield 164, 3) := by decide +kernel
theorem dX11_ends_36 : decode cX11_ends 36 = .ok (.istore_n 2, 1) := by decide +kernel
theorem dX11_ends_37 : decode cX11_ends 37 = .ok (.aload_n 0, 1) := by decide +kernel
theorem dX11_ends_38 : decode cX11_ends 38 = .ok (.getfield 81, 3) := by decide +kernel
theorem dX11_ends_41 : decode cX11_ends 41 = .ok (.iload_n 1, 1) := by decide +kernel
theorem dX11_ends_42 : decode cX11_ends 42 = .ok (.putfield 164, 3) := by decide +kernel
theorem dX11_ends_45 : decode cX11_ends 45 = .ok (.iload_n 2, 1) := by decide +kernel
theorem dX11_ends_46 : decode cX11_ends 46 = .ok (.ireturn, 1) := by decide +kernel
theorem dX11_anew_0 : decode cX11_anew 0 = .ok (.aload_n 0, 1) := by decide +kernel
theorem dX11_anew_1 : decode cX11_anew 1 = .ok (.getfield 81, 3) := by decide +kernel
theorem dX11_anew_4 : decode cX11_anew 4 = .ok (.getfield 111, 3) := by decide +kernel
theorem dX11_anew_7 : decode cX11_anew 7 = .ok (.getfield 161, 3) := by decide +kernel
theorem dX11_anew_10 : decode cX11_anew 10 = .ok (.istore_n 1, 1) := by decide +kernel
theorem dX11_anew_11 : decode cX11_anew 11 = .ok (.aload_n 0, 1) := by decide +kernel
theorem dX11_anew_12 : decode cX11_anew 12 = .ok (.getfield 81, 3) := by decide +kernel
theorem dX11_anew_15 : decode cX11_anew 15 = .ok (.getfield 111, 3) := by decide +kernel
theorem dX11_anew_18 : decode cX11_anew 18 = .ok (.iconst 0, 1) := by decide +kernel
theorem dX11_anew_19 : decode cX11_anew 19 = .ok (.putfield 161, 3) := by decide +kernel
theorem dX11_anew_22 : decode cX11_anew 22 = .ok (.aload_n 0, 1) := by decide +kernel
theorem dX11_anew_23 : decode cX11_anew 23 = .ok (.getfield 81, 3) := by decide +kernel
theorem dX11_anew_26 : decode cX11_anew 26 = .ok (.getfield 111, 3) := by decide +kernel
theorem dX11_anew_29 : decode cX11_anew 29 = .ok (.iconst 0, 1) := by decide +kernel
theorem dX11_anew_30 : decode cX11_anew 30 = .ok (.putfield 128, 3) := by decide +kernel
theorem dX11_anew_33 : decode cX11_anew 33 = .ok (.aload_n 0, 1) := by decide +kernel
theorem dX11_anew_34 : decode cX11_anew 34 = .ok (.getfield 81, 3) := by decide +kernel
theorem dX11_anew_37 : decode cX11_anew 37 = .ok (.iconst 0, 1) := by decide +kernel
theorem dX11_anew_38 : decode cX11_anew 38 = .ok (.putfield 167, 3) := by decide +kernel
theorem dX11_anew_41 : decode cX11_anew 41 = .ok (.iload_n 1, 1) := by decide +kernel
theorem dX11_anew_42 : decode cX11_anew 42 = .ok (.ireturn, 1) := by decide +kernel
theorem dX11_state_0 : decode cX11_state 0 = .ok (.aload_n 0, 1) := by decide +kernel
theorem dX11_state_1 : decode cX11_state 1 = .ok (.getfield 81, 3) := by decide +kernel
theorem dX11_state_4 : decode cX11_state 4 = .ok (.getfield 111, 3) := by decide +kernel
theorem dX11_state_7 : decode cX11_state 7 = .ok (.astore_n 2, 1) := by decide +kernel
theorem dX11_state_8 : decode cX11_state 8 = .ok (.iload_n 1, 1) := by decide +kernel
theorem dX11_state_9 : decode cX11_state 9 = .ok (.tableswitch 107 0 6 #[43, 48, 56, 64, 81, 86, 98], 43) := by decide +kernel
theorem dX11_state_52 : decode cX11_state 52 = .ok (.aload_n 2, 1) := by decide +kernel
theorem dX11_state_53 : decode cX11_state 53 = .ok (.getfield 161, 3) := by decide +kernel
theorem dX11_state_56 : decode cX11_state 56 = .ok (.ireturn, 1) := by decide +kernel
theorem dX11_state_57 : decode cX11_state 57 = .ok (.aload_n 0, 1) := by decide +kernel
theorem dX11_state_58 : decode cX11_state 58 = .ok (.getfield 81, 3) := by decide +kernel
theorem dX11_state_61 : decode cX11_state 61 = .ok (.getfield 164, 3) := by decide +kernel
theorem dX11_state_64 : decode cX11_state 64 = .ok (.ireturn, 1) := by decide +kernel
theorem dX11_state_65 : decode cX11_state 65 = .ok (.aload_n 0, 1) := by decide +kernel
theorem dX11_state_66 : decode cX11_state 66 = .ok (.getfield 81, 3) := by decide +kernel
theorem dX11_state_69 : decode cX11_state 69 = .ok (.getfield 167, 3) := by decide +kernel
theorem dX11_state_72 : decode cX11_state 72 = .ok (.ireturn, 1) := by decide +kernel
theorem dX11_state_73 : decode cX11_state 73 = .ok (.aload_n 0, 1) := by decide +kernel
theorem dX11_state_74 : decode cX11_state 74 = .ok (.getfield 81, 3) := by decide +kernel
theorem dX11_state_77 : decode cX11_state 77 = .ok (.aload_n 2, 1) := by decide +kernel
theorem dX11_state_78 : decode cX11_state 78 = .ok (.invokevirtual 170, 3) := by decide +kernel
theorem dX11_state_81 : decode cX11_state 81 = .ok (.ifCond .eq 7, 3) := by decide +kernel
theorem dX11_state_84 : decode cX11_state 84 = .ok (.iconst 1, 1) := by decide +kernel
theorem dX11_state_85 : decode cX11_state 85 = .ok (.goto 4, 3) := by decide +kernel
theorem dX11_state_88 : decode cX11_state 88 = .ok (.iconst 0, 1) := by decide +kernel
theorem dX11_state_89 : decode cX11_state 89 = .ok (.ireturn, 1) := by decide +kernel
theorem dX11_state_90 : decode cX11_state 90 = .ok (.aload_n 2, 1) := by decide +kernel
theorem dX11_state_91 : decode cX11_state 91 = .ok (.getfield 128, 3) := by decide +kernel
theorem dX11_state_94 : decode cX11_state 94 = .ok (.ireturn, 1) := by decide +kernel
theorem dX11_state_95 : decode cX11_state 95 = .ok (.aload_n 0, 1) := by decide +kernel
theorem dX11_state_96 : decode cX11_state 96 = .ok (.getfield 81, 3) := by decide +kernel
theorem dX11_state_99 : decode cX11_state 99 = .ok (.aload_n 2, 1) := by decide +kernel
theorem dX11_state_100 : decode cX11_state 100 = .ok (.getfield 161, 3) := by decide +kernel
theorem dX11_state_103 : decode cX11_state 103 = .ok (.invokevirtual 174, 3) := by decide +kernel
theorem dX11_state_106 : decode cX11_state 106 = .ok (.ireturn, 1) := by decide +kernel
theorem dX11_state_107 : decode cX11_state 107 = .ok (.aload_n 0, 1) := by decide +kernel
theorem dX11_state_108 : decode cX11_state 108 = .ok (.getfield 81, 3) := by decide +kernel
theorem dX11_state_111 : decode cX11_state 111 = .ok (.aload_n 2, 1) := by decide +kernel
theorem dX11_state_112 : decode cX11_state 112 = .ok (.invokevirtual 178, 3) := by decide +kernel
theorem dX11_state_115 : decode cX11_state 115 = .ok (.ireturn, 1) := by decide +kernel
theorem dX11_state_116 : decode cX11_state 116 = .ok (.iconst (-1), 1) := by decide +kernel
theorem dX11_state_117 : decode cX11_state 117 = .ok (.ireturn, 1) := by decide +kernel
theorem dX11_feed_0 : decode cX11_feed 0 = .ok (.iload_n 3, 1) := by decide +kernel
theorem dX11_feed_1 : decode cX11_feed 1 = .ok (.iconst 1, 1) := by decide +kernel
theorem dX11_feed_2 : decode cX11_feed 2 = .ok (.bipush 8, 2) := by decide +kernel
theorem dX11_feed_4 : decode cX11_feed 4 = .ok (.invokestatic 97, 3) := by decide +kernel
theorem dX11_feed_7 : decode cX11_feed 7 = .ok (.ifCond .ne 5, 3) := by decide +kernel
theorem dX11_feed_10 : decode cX11_feed 10 = .ok (.iconst (-1), 1) := by decide +kernel
theorem dX11_feed_11 : decode cX11_feed 11 = .ok (.ireturn, 1) := by decide +kernel
theorem dX11_feed_12 : decode cX11_feed 12 = .ok (.aload_n 0, 1) := by decide +kernel
theorem dX11_feed_13 : decode cX11_feed 13 = .ok (.getfield 182, 3) := by decide +kernel
theorem dX11_feed_16 : decode cX11_feed 16 = .ok (.iload_n 3, 1) := by decide +kernel
theorem dX11_feed_17 : decode cX11_feed 17 = .ok (.iadd, 1) := by decide +kernel
theorem dX11_feed_18 : decode cX11_feed 18 = .ok (.sipush 200, 3) := by decide +kernel
theorem dX11_feed_21 : decode cX11_feed 21 = .ok (.if_icmp .le 6, 3) := by decide +kernel
theorem dX11_feed_24 : decode cX11_feed 24 = .ok (.bipush (-2), 2) := by decide +kernel
theorem dX11_feed_26 : decode cX11_feed 26 = .ok (.ireturn, 1) := by decide +kernel
theorem dX11_feed_27 : decode cX11_feed 27 = .ok (.iconst 0, 1) := by decide +kernel
theorem dX11_feed_28 : decode cX11_feed 28 = .ok (.istore 4, 2) := by decide +kernel
theorem dX11_feed_30 : decode cX11_feed 30 = .ok (.iload 4, 2) := by decide +kernel
theorem dX11_feed_32 : decode cX11_feed 32 = .ok (.iload_n 3, 1) := by decide +kernel
theorem dX11_feed_33 : decode cX11_feed 33 = .ok (.if_icmp .ge 37, 3) := by decide +kernel
theorem dX11_feed_36 : decode cX11_feed 36 = .ok (.aload_n 0, 1) := by decide +kernel
theorem dX11_feed_37 : decode cX11_feed 37 = .ok (.getfield 23, 3) := by decide +kernel
theorem dX11_feed_40 : decode cX11_feed 40 = .ok (.aload_n 0, 1) := by decide +kernel
theorem dX11_feed_41 : decode cX11_feed 41 = .ok (.getfield 182, 3) := by decide +kernel
theorem dX11_feed_44 : decode cX11_feed 44 = .ok (.lload_n 1, 1) := by decide +kernel
theorem dX11_feed_45 : decode cX11_feed 45 = .ok (.bipush 8, 2) := by decide +kernel
theorem dX11_feed_47 : decode cX11_feed 47 = .ok (.iload 4, 2) := by decide +kernel
theorem dX11_feed_49 : decode cX11_feed 49 = .ok (.imul, 1) := by decide +kernel
theorem dX11_feed_50 : decode cX11_feed 50 = .ok (.lshr, 1) := by decide +kernel
theorem dX11_feed_51 : decode cX11_feed 51 = .ok (.l2i, 1) := by decide +kernel
theorem dX11_feed_52 : decode cX11_feed 52 = .ok (.i2b, 1) := by decide +kernel
theorem dX11_feed_53 : decode cX11_feed 53 = .ok (.bastore, 1) := by decide +kernel
theorem dX11_feed_54 : decode cX11_feed 54 = .ok (.aload_n 0, 1) := by decide +kernel
theorem dX11_feed_55 : decode cX11_feed 55 = .ok (.dup, 1) := by decide +kernel
theorem dX11_feed_56 : decode cX11_feed 56 = .ok (.getfield 182, 3) := by decide +kernel
theorem dX11_feed_59 : decode cX11_feed 59 = .ok (.iconst 1, 1) := by decide +kernel
theorem dX11_feed_60 : decode cX11_feed 60 = .ok (.iadd, 1) := by decide +kernel
theorem dX11_feed_61 : decode cX11_feed 61 = .ok (.putfield 182, 3) := by decide +kernel
theorem dX11_feed_64 : decode cX11_feed 64 = .ok (.iinc 4 1, 3) := by decide +kernel
theorem dX11_feed_67 : decode cX11_feed 67 = .ok (.goto (-37), 3) := by decide +kernel
theorem dX11_feed_70 : decode cX11_feed 70 = .ok (.aload_n 0, 1) := by decide +kernel
theorem dX11_feed_71 : decode cX11_feed 71 = .ok (.getfield 182, 3) := by decide +kernel
theorem dX11_feed_74 : decode cX11_feed 74 = .ok (.ireturn, 1) := by decide +kernel
theorem dX11_rules_0 : decode cX11_rules 0 = .ok (.aload_n 0, 1) := by decide +kernel
theorem dX11_rules_1 : decode cX11_rules 1 = .ok (.getfield 30, 3) := by decide +kernel
theorem dX11_rules_4 : decode cX11_rules 4 = .ok (.aload_n 0, 1) := by decide +kernel
theorem dX11_rules_5 : decode cX11_rules 5 = .ok (.getfield 23, 3) := by decide +kernel
theorem dX11_rules_8 : decode cX11_rules 8 = .ok (.aload_n 0, 1) := by decide +kernel
theorem dX11_rules_9 : decode cX11_rules 9 = .ok (.getfield 182, 3) := by decide +kernel
theorem dX11_rules_12 : decode cX11_rules 12 = .ok (.invokevirtual 185, 3) := by decide +kernel
theorem dX11_rules_15 : decode cX11_rules 15 = .ok (.istore_n 1, 1) := by decide +kernel
theorem dX11_rules_16 : decode cX11_rules 16 = .ok (.aload_n 0, 1) := by decide +kernel
theorem dX11_rules_17 : decode cX11_rules 17 = .ok (.iconst 0, 1) := by decide +kernel
theorem dX11_rules_18 : decode cX11_rules 18 = .ok (.putfield 182, 3) := by decide +kernel
theorem dX11_rules_21 : decode cX11_rules 21 = .ok (.iload_n 1, 1) := by decide +kernel
theorem dX11_rules_22 : decode cX11_rules 22 = .ok (.ifCond .lt 8, 3) := by decide +kernel
theorem dX11_rules_25 : decode cX11_rules 25 = .ok (.bipush (-100), 2) := by decide +kernel
theorem dX11_rules_27 : decode cX11_rules 27 = .ok (.iload_n 1, 1) := by decide +kernel
theorem dX11_rules_28 : decode cX11_rules 28 = .ok (.isub, 1) := by decide +kernel
theorem dX11_rules_29 : decode cX11_rules 29 = .ok (.ireturn, 1) := by decide +kernel
theorem dX11_rules_30 : decode cX11_rules 30 = .ok (.aload_n 0, 1) := by decide +kernel
theorem dX11_rules_31 : decode cX11_rules 31 = .ok (.getfield 81, 3) := by decide +kernel
theorem dX11_rules_34 : decode cX11_rules 34 = .ok (.getfield 189, 3) := by decide +kernel
theorem dX11_rules_37 : decode cX11_rules 37 = .ok (.aload_n 0, 1) := by decide +kernel
theorem dX11_rules_38 : decode cX11_rules 38 = .ok (.getfield 30, 3) := by decide +kernel
theorem dX11_rules_41 : decode cX11_rules 41 = .ok (.invokevirtual 192, 3) := by decide +kernel
theorem dX11_rules_44 : decode cX11_rules 44 = .ok (.aload_n 0, 1) := by decide +kernel
theorem dX11_rules_45 : decode cX11_rules 45 = .ok (.getfield 81, 3) := by decide +kernel
theorem dX11_rules_48 : decode cX11_rules 48 = .ok (.getfield 189, 3) := by decide +kernel
theorem dX11_rules_51 : decode cX11_rules 51 = .ok (.getfield 196, 3) := by decide +kernel
theorem dX11_rules_54 : decode cX11_rules 54 = .ok (.ireturn, 1) := by decide +kernel
theorem dX11_tide_0 : decode cX11_tide 0 = .ok (.aload_n 0, 1) := by decide +kernel
theorem dX11_tide_1 : decode cX11_tide 1 = .ok (.getfield 81, 3) := by decide +kernel
theorem dX11_tide_4 : decode cX11_tide 4 = .ok (.aload_n 0, 1) := by decide +kernel
theorem dX11_tide_5 : decode cX11_tide 5 = .ok (.getfield 81, 3) := by decide +kernel
theorem dX11_tide_8 : decode cX11_tide 8 = .ok (.getfield 111, 3) := by decide +kernel
theorem dX11_tide_11 : decode cX11_tide 11 = .ok (.invokevirtual 170, 3) := by decide +kernel
theorem dX11_tide_14 : decode cX11_tide 14 = .ok (.ifCond .eq 6, 3) := by decide +kernel
theorem dX11_tide_17 : decode cX11_tide 17 = .ok (.bipush (-4), 2) := by decide +kernel
theorem dX11_tide_19 : decode cX11_tide 19 = .ok (.ireturn, 1) := by decide +kernel
theorem dX11_tide_20 : decode cX11_tide 20 = .ok (.aload_n 0, 1) := by decide +kernel
theorem dX11_tide_21 : decode cX11_tide 21 = .ok (.aload_n 0, 1) := by decide +kernel
theorem dX11_tide_22 : decode cX11_tide 22 = .ok (.getfield 81, 3) := by decide +kernel
theorem dX11_tide_25 : decode cX11_tide 25 = .ok (.aload_n 0, 1) := by decide +kernel
theorem dX11_tide_26 : decode cX11_tide 26 = .ok (.getfield 81, 3) := by decide +kernel
theorem dX11_tide_29 : decode cX11_tide 29 = .ok (.getfield 111, 3) := by decide +kernel
theorem dX11_tide_32 : decode cX11_tide 32 = .ok (.invokevirtual 197, 3) := by decide +kernel
theorem dX11_tide_35 : decode cX11_tide 35 = .ok (.invokevirtual 200, 3) := by decide +kernel
theorem dX11_tide_38 : decode cX11_tide 38 = .ok (.ireturn, 1) := by decide +kernel
theorem dX11_on_0 : decode cX11_on 0 = .ok (.iload_n 1, 1) := by decide +kernel
theorem dX11_on_1 : decode cX11_on 1 = .ok (.iconst 0, 1) := by decide +kernel
theorem dX11_on_2 : decode cX11_on 2 = .ok (.bipush 16, 2) := by decide +kernel
theorem dX11_on_4 : decode cX11_on 4 = .ok (.invokestatic 97, 3) := by decide +kernel
theorem dX11_on_7 : decode cX11_on 7 = .ok (.ifCond .ne 5, 3) := by decide +kernel
theorem dX11_on_10 : decode cX11_on 10 = .ok (.iconst (-1), 1) := by decide +kernel
theorem dX11_on_11 : decode cX11_on 11 = .ok (.ireturn, 1) := by decide +kernel
theorem dX11_on_12 : decode cX11_on 12 = .ok (.aload_n 0, 1) := by decide +kernel
theorem dX11_on_13 : decode cX11_on 13 = .ok (.getfield 10, 3) := by decide +kernel
theorem dX11_on_16 : decode cX11_on 16 = .ok (.aload_n 0, 1) := by decide +kernel
theorem dX11_on_17 : decode cX11_on 17 = .ok (.getfield 81, 3) := by decide +kernel
theorem dX11_on_20 : decode cX11_on 20 = .ok (.getfield 111, 3) := by decide +kernel
theorem dX11_on_23 : decode cX11_on 23 = .ok (.invokevirtual 203, 3) := by decide +kernel
theorem dX11_on_26 : decode cX11_on 26 = .ok (.aload_n 0, 1) := by decide +kernel
theorem dX11_on_27 : decode cX11_on 27 = .ok (.getfield 81, 3) := by decide +kernel
theorem dX11_on_30 : decode cX11_on 30 = .ok (.aload_n 0, 1) := by decide +kernel
theorem dX11_on_31 : decode cX11_on 31 = .ok (.getfield 10, 3) := by decide +kernel
theorem dX11_on_34 : decode cX11_on 34 = .ok (.iload_n 1, 1) := by decide +kernel
theorem dX11_on_35 : decode cX11_on 35 = .ok (.invokevirtual 206, 3) := by decide +kernel
theorem dX11_on_38 : decode cX11_on 38 = .ok (.ireturn, 1) := by decide +kernel
theorem dX11_when_0 : decode cX11_when 0 = .ok (.aload_n 0, 1) := by decide +kernel
theorem dX11_when_1 : decode cX11_when 1 = .ok (.getfield 81, 3) := by decide +kernel
theorem dX11_when_4 : decode cX11_when 4 = .ok (.iload_n 1, 1) := by decide +kernel
theorem dX11_when_5 : decode cX11_when 5 = .ok (.invokevirtual 124, 3) := by decide +kernel
theorem dX11_when_8 : decode cX11_when 8 = .ok (.ifCond .ne 5, 3) := by decide +kernel
theorem dX11_when_11 : decode cX11_when 11 = .ok (.iconst (-1), 1) := by decide +kernel
theorem dX11_when_12 : decode cX11_when 12 = .ok (.ireturn, 1) := by decide +kernel
theorem dX11_when_13 : decode cX11_when 13 = .ok (.aload_n 0, 1) := by decide +kernel
theorem dX11_when_14 : decode cX11_when 14 = .ok (.getfield 10, 3) := by decide +kernel
theorem dX11_when_17 : decode cX11_when 17 = .ok (.aload_n 0, 1) := by decide +kernel
theorem dX11_when_18 : decode cX11_when 18 = .ok (.getfield 81, 3) := by decide +kernel
theorem dX11_when_21 : decode cX11_when 21 = .ok (.getfield 111, 3) := by decide +kernel
theorem dX11_when_24 : decode cX11_when 24 = .ok (.invokevirtual 203, 3) := by decide +kernel
theorem dX11_when_27 : decode cX11_when 27 = .ok (.aload_n 0, 1) := by decide +kernel
theorem dX11_when_28 : decode cX11_when 28 = .ok (.getfield 10, 3) := by decide +kernel
theorem dX11_when_31 : decode cX11_when 31 = .ok (.iload_n 1, 1) := by decide +kernel
theorem dX11_when_32 : decode cX11_when 32 = .ok (.invokevirtual 209, 3) := by decide +kernel
theorem dX11_when_35 : decode cX11_when 35 = .ok (.ifCond .eq 6, 3) := by decide +kernel
theorem dX11_when_38 : decode cX11_when 38 = .ok (.bipush (-3), 2) := by decide +kernel
theorem dX11_when_40 : decode cX11_when 40 = .ok (.ireturn, 1) := by decide +kernel
theorem dX11_when_41 : decode cX11_when 41 = .ok (.aload_n 0, 1) := by decide +kernel
theorem dX11_when_42 : decode cX11_when 42 = .ok (.getfield 10, 3) := by decide +kernel
theorem dX11_when_45 : decode cX11_when 45 = .ok (.getfield 161, 3) := by decide +kernel
theorem dX11_when_48 : decode cX11_when 48 = .ok (.istore_n 2, 1) := by decide +kernel
theorem dX11_when_49 : decode cX11_when 49 = .ok (.iload_n 2, 1) := by decide +kernel
theorem dX11_when_50 : decode cX11_when 50 = .ok (.aload_n 0, 1) := by decide +kernel
theorem dX11_when_51 : decode cX11_when 51 = .ok (.getfield 81, 3) := by decide +kernel
theorem dX11_when_54 : decode cX11_when 54 = .ok (.getfield 164, 3) := by decide +kernel
theorem dX11_when_57 : decode cX11_when 57 = .ok (.if_icmp .ge 45, 3) := by decide +kernel
theorem dX11_when_60 : decode cX11_when 60 = .ok (.aload_n 0, 1) := by decide +kernel
theorem dX11_when_61 : decode cX11_when 61 = .ok (.getfield 81, 3) := by decide +kernel
theorem dX11_when_64 : decode cX11_when 64 = .ok (.aload_n 0, 1) := by decide +kernel
theorem dX11_when_65 : decode cX11_when 65 = .ok (.getfield 10, 3) := by decide +kernel
theorem dX11_when_68 : decode cX11_when 68 = .ok (.aload_n 0, 1) := by decide +kernel
theorem dX11_when_69 : decode cX11_when 69 = .ok (.getfield 81, 3) := by decide +kernel
theorem dX11_when_72 : decode cX11_when 72 = .ok (.aload_n 0, 1) := by decide +kernel
theorem dX11_when_73 : decode cX11_when 73 = .ok (.getfield 10, 3) := by decide +kernel
theorem dX11_when_76 : decode cX11_when 76 = .ok (.invokevirtual 197, 3) := by decide +kernel
theorem dX11_when_79 : decode cX11_when 79 = .ok (.invokevirtual 212, 3) := by decide +kernel
theorem dX11_when_82 : decode cX11_when 82 = .ok (.pop, 1) := by decide +kernel
theorem dX11_when_83 : decode cX11_when 83 = .ok (.aload_n 0, 1) := by decide +kernel
theorem dX11_when_84 : decode cX11_when 84 = .ok (.getfield 10, 3) := by decide +kernel
theorem dX11_when_87 : decode cX11_when 87 = .ok (.iload_n 1, 1) := by decide +kernel
theorem dX11_when_88 : decode cX11_when 88 = .ok (.invokevirtual 209, 3) := by decide +kernel
theorem dX11_when_91 : decode cX11_when 91 = .ok (.ifCond .eq 5, 3) := by decide +kernel
theorem dX11_when_94 : decode cX11_when 94 = .ok (.iload_n 2, 1) := by decide +kernel
theorem dX11_when_95 : decode cX11_when 95 = .ok (.ireturn, 1) := by decide +kernel
theorem dX11_when_96 : decode cX11_when 96 = .ok (.iinc 2 1, 3) := by decide +kernel
theorem dX11_when_99 : decode cX11_when 99 = .ok (.goto (-50), 3) := by decide +kernel
theorem dX11_when_102 : decode cX11_when 102 = .ok (.bipush (-3), 2) := by decide +kernel
theorem dX11_when_104 : decode cX11_when 104 = .ok (.ireturn, 1) := by decide +kernel
theorem dX11_chalkFor_0 : decode cX11_chalkFor 0 = .ok (.aload_n 0, 1) := by decide +kernel
theorem dX11_chalkFor_1 : decode cX11_chalkFor 1 = .ok (.getfield 81, 3) := by decide +kernel
theorem dX11_chalkFor_4 : decode cX11_chalkFor 4 = .ok (.iload_n 1, 1) := by decide +kernel
theorem dX11_chalkFor_5 : decode cX11_chalkFor 5 = .ok (.invokevirtual 124, 3) := by decide +kernel
theorem dX11_chalkFor_8 : decode cX11_chalkFor 8 = .ok (.ifCond .ne 5, 3) := by decide +kernel
theorem dX11_chalkFor_11 : decode cX11_chalkFor 11 = .ok (.iconst (-1), 1) := by decide +kernel
theorem dX11_chalkFor_12 : decode cX11_chalkFor 12 = .ok (.ireturn, 1) := by decide +kernel
theorem dX11_chalkFor_13 : decode cX11_chalkFor 13 = .ok (.iconst 0, 1) := by decide +kernel
theorem dX11_chalkFor_14 : decode cX11_chalkFor 14 = .ok (.istore_n 2, 1) := by decide +kernel
theorem dX11_chalkFor_15 : decode cX11_chalkFor 15 = .ok (.iconst (-1), 1) := by decide +kernel
theorem dX11_chalkFor_16 : decode cX11_chalkFor 16 = .ok (.istore_n 3, 1) := by decide +kernel
theorem dX11_chalkFor_17 : decode cX11_chalkFor 17 = .ok (.iconst 0, 1) := by decide +kernel
theorem dX11_chalkFor_18 : decode cX11_chalkFor 18 = .ok (.istore 4, 2) := by decide +kernel
theorem dX11_chalkFor_20 : decode cX11_chalkFor 20 = .ok (.iload 4, 2) := by decide +kernel
theorem dX11_chalkFor_22 : decode cX11_chalkFor 22 = .ok (.bipush 9, 2) := by decide +kernel
theorem dX11_chalkFor_24 : decode cX11_chalkFor 24 = .ok (.if_icmp .gt 61, 3) := by decide +kernel
theorem dX11_chalkFor_27 : decode cX11_chalkFor 27 = .ok (.aload_n 0, 1) := by decide +kernel
theorem dX11_chalkFor_28 : decode cX11_chalkFor 28 = .ok (.getfield 10, 3) := by decide +kernel
theorem dX11_chalkFor_31 : decode cX11_chalkFor 31 = .ok (.aload_n 0, 1) := by decide +kernel
theorem dX11_chalkFor_32 : decode cX11_chalkFor 32 = .ok (.getfield 81, 3) := by decide +kernel
theorem dX11_chalkFor_35 : decode cX11_chalkFor 35 = .ok (.getfield 111, 3) := by decide +kernel
theorem dX11_chalkFor_38 : decode cX11_chalkFor 38 = .ok (.invokevirtual 203, 3) := by decide +kernel
theorem dX11_chalkFor_41 : decode cX11_chalkFor 41 = .ok (.aload_n 0, 1) := by decide +kernel
theorem dX11_chalkFor_42 : decode cX11_chalkFor 42 = .ok (.getfield 10, 3) := by decide +kernel
theorem dX11_chalkFor_45 : decode cX11_chalkFor 45 = .ok (.getfield 117, 3) := by decide +kernel
theorem dX11_chalkFor_48 : decode cX11_chalkFor 48 = .ok (.iload_n 1, 1) := by decide +kernel
theorem dX11_chalkFor_49 : decode cX11_chalkFor 49 = .ok (.iload 4, 2) := by decide +kernel
theorem dX11_chalkFor_51 : decode cX11_chalkFor 51 = .ok (.iastore, 1) := by decide +kernel
theorem dX11_chalkFor_52 : decode cX11_chalkFor 52 = .ok (.aload_n 0, 1) := by decide +kernel
theorem dX11_chalkFor_53 : decode cX11_chalkFor 53 = .ok (.getfield 81, 3) := by decide +kernel
theorem dX11_chalkFor_56 : decode cX11_chalkFor 56 = .ok (.aload_n 0, 1) := by decide +kernel
theorem dX11_chalkFor_57 : decode cX11_chalkFor 57 = .ok (.getfield 10, 3) := by decide +kernel
theorem dX11_chalkFor_60 : decode cX11_chalkFor 60 = .ok (.bipush 16, 2) := by decide +kernel
theorem dX11_chalkFor_62 : decode cX11_chalkFor 62 = .ok (.invokevirtual 206, 3) := by decide +kernel
theorem dX11_chalkFor_65 : decode cX11_chalkFor 65 = .ok (.istore 5, 2) := by decide +kernel
theorem dX11_chalkFor_67 : decode cX11_chalkFor 67 = .ok (.iload 5, 2) := by decide +kernel
theorem dX11_chalkFor_69 : decode cX11_chalkFor 69 = .ok (.iload_n 3, 1) := by decide +kernel
theorem dX11_chalkFor_70 : decode cX11_chalkFor 70 = .ok (.if_icmp .le 9, 3) := by decide +kernel
theorem dX11_chalkFor_73 : decode cX11_chalkFor 73 = .ok (.iload 5, 2) := by decide +kernel
theorem dX11_chalkFor_75 : decode cX11_chalkFor 75 = .ok (.istore_n 3, 1) := by decide +kernel
theorem dX11_chalkFor_76 : decode cX11_chalkFor 76 = .ok (.iload 4, 2) := by decide +kernel
theorem dX11_chalkFor_78 : decode cX11_chalkFor 78 = .ok (.istore_n 2, 1) := by decide +kernel
theorem dX11_chalkFor_79 : decode cX11_chalkFor 79 = .ok (.iinc 4 1, 3) := by decide +kernel
theorem dX11_chalkFor_82 : decode cX11_chalkFor 82 = .ok (.goto (-62), 3) := by decide +kernel
theorem dX11_chalkFor_85 : decode cX11_chalkFor 85 = .ok (.iload_n 2, 1) := by decide +kernel
theorem dX11_chalkFor_86 : decode cX11_chalkFor 86 = .ok (.ireturn, 1) := by decide +kernel
theorem dX11_tierFor_0 : decode cX11_tierFor 0 = .ok (.aload_n 0, 1) := by decide +kernel
theorem dX11_tierFor_1 : decode cX11_tierFor 1 = .ok (.getfield 81, 3) := by decide +kernel
theorem dX11_tierFor_4 : decode cX11_tierFor 4 = .ok (.iload_n 1, 1) := by decide +kernel
theorem dX11_tierFor_5 : decode cX11_tierFor 5 = .ok (.invokevirtual 124, 3) := by decide +kernel
theorem dX11_tierFor_8 : decode cX11_tierFor 8 = .ok (.ifCond .ne 5, 3) := by decide +kernel
theorem dX11_tierFor_11 : decode cX11_tierFor 11 = .ok (.iconst (-1), 1) := by decide +kernel
theorem dX11_tierFor_12 : decode cX11_tierFor 12 = .ok (.ireturn, 1) := by decide +kernel
theorem dX11_tierFor_13 : decode cX11_tierFor 13 = .ok (.aload_n 0, 1) := by decide +kernel
theorem dX11_tierFor_14 : decode cX11_tierFor 14 = .ok (.getfield 81, 3) := by decide +kernel
theorem dX11_tierFor_17 : decode cX11_tierFor 17 = .ok (.getfield 108, 3) := by decide +kernel
theorem dX11_tierFor_20 : decode cX11_tierFor 20 = .ok (.iload_n 1, 1) := by decide +kernel
theorem dX11_tierFor_21 : decode cX11_tierFor 21 = .ok (.iaload, 1) := by decide +kernel
theorem dX11_tierFor_22 : decode cX11_tierFor 22 = .ok (.istore_n 2, 1) := by decide +kernel
theorem dX11_tierFor_23 : decode cX11_tierFor 23 = .ok (.iconst 0, 1) := by decide +kernel
theorem dX11_tierFor_24 : decode cX11_tierFor 24 = .ok (.istore_n 3, 1) := by decide +kernel
theorem dX11_tierFor_25 : decode cX11_tierFor 25 = .ok (.iconst (-1), 1) := by decide +kernel
theorem dX11_tierFor_26 : decode cX11_tierFor 26 = .ok (.istore 4, 2) := by decide +kernel
theorem dX11_tierFor_28 : decode cX11_tierFor 28 = .ok (.iconst 0, 1) := by decide +kernel
theorem dX11_tierFor_29 : decode cX11_tierFor 29 = .ok (.istore 5, 2) := by decide +kernel
theorem dX11_tierFor_31 : decode cX11_tierFor 31 = .ok (.iload 5, 2) := by decide +kernel
theorem dX11_tierFor_33 : decode cX11_tierFor 33 = .ok (.bipush 6, 2) := by decide +kernel
theorem dX11_tierFor_35 : decode cX11_tierFor 35 = .ok (.if_icmp .ge 63, 3) := by decide +kernel
theorem dX11_tierFor_38 : decode cX11_tierFor 38 = .ok (.aload_n 0, 1) := by decide +kernel
theorem dX11_tierFor_39 : decode cX11_tierFor 39 = .ok (.getfield 10, 3) := by decide +kernel
theorem dX11_tierFor_42 : decode cX11_tierFor 42 = .ok (.aload_n 0, 1) := by decide +kernel
theorem dX11_tierFor_43 : decode cX11_tierFor 43 = .ok (.getfield 81, 3) := by decide +kernel
theorem dX11_tierFor_46 : decode cX11_tierFor 46 = .ok (.getfield 111, 3) := by decide +kernel
theorem dX11_tierFor_49 : decode cX11_tierFor 49 = .ok (.invokevirtual 203, 3) := by decide +kernel
theorem dX11_tierFor_52 : decode cX11_tierFor 52 = .ok (.aload_n 0, 1) := by decide +kernel
theorem dX11_tierFor_53 : decode cX11_tierFor 53 = .ok (.getfield 81, 3) := by decide +kernel
theorem dX11_tierFor_56 : decode cX11_tierFor 56 = .ok (.getfield 108, 3) := by decide +kernel
theorem dX11_tierFor_59 : decode cX11_tierFor 59 = .ok (.iload_n 1, 1) := by decide +kernel
theorem dX11_tierFor_60 : decode cX11_tierFor 60 = .ok (.iload 5, 2) := by decide +kernel
theorem dX11_tierFor_62 : decode cX11_tierFor 62 = .ok (.iastore, 1) := by decide +kernel
theorem dX11_tierFor_63 : decode cX11_tierFor 63 = .ok (.aload_n 0, 1) := by decide +kernel
theorem dX11_tierFor_64 : decode cX11_tierFor 64 = .ok (.getfield 81, 3) := by decide +kernel
theorem dX11_tierFor_67 : decode cX11_tierFor 67 = .ok (.aload_n 0, 1) := by decide +kernel
theorem dX11_tierFor_68 : decode cX11_tierFor 68 = .ok (.getfield 10, 3) := by decide +kernel
theorem dX11_tierFor_71 : decode cX11_tierFor 71 = .ok (.bipush 16, 2) := by decide +kernel
theorem dX11_tierFor_73 : decode cX11_tierFor 73 = .ok (.invokevirtual 206, 3) := by decide +kernel
theorem dX11_tierFor_76 : decode cX11_tierFor 76 = .ok (.istore 6, 2) := by decide +kernel
theorem dX11_tierFor_78 : decode cX11_tierFor 78 = .ok (.iload 6, 2) := by decide +kernel
theorem dX11_tierFor_80 : decode cX11_tierFor 80 = .ok (.iload 4, 2) := by decide +kernel
theorem dX11_tierFor_82 : decode cX11_tierFor 82 = .ok (.if_icmp .le 10, 3) := by decide +kernel
theorem dX11_tierFor_85 : decode cX11_tierFor 85 = .ok (.iload 6, 2) := by decide +kernel
theorem dX11_tierFor_87 : decode cX11_tierFor 87 = .ok (.istore 4, 2) := by decide +kernel
theorem dX11_tierFor_89 : decode cX11_tierFor 89 = .ok (.iload 5, 2) := by decide +kernel
theorem dX11_tierFor_91 : decode cX11_tierFor 91 = .ok (.istore_n 3, 1) := by decide +kernel
theorem dX11_tierFor_92 : decode cX11_tierFor 92 = .ok (.iinc 5 1, 3) := by decide +kernel
theorem dX11_tierFor_95 : decode cX11_tierFor 95 = .ok (.goto (-64), 3) := by decide +kernel
theorem dX11_tierFor_98 : decode cX11_tierFor 98 = .ok (.aload_n 0, 1) := by decide +kernel
theorem dX11_tierFor_99 : decode cX11_tierFor 99 = .ok (.getfield 81, 3) := by decide +kernel
theorem dX11_tierFor_102 : decode cX11_tierFor 102 = .ok (.getfield 108, 3) := by decide +kernel
theorem dX11_tierFor_105 : decode cX11_tierFor 105 = .ok (.iload_n 1, 1) := by decide +kernel
theorem dX11_tierFor_106 : decode cX11_tierFor 106 = .ok (.iload_n 2, 1) := by decide +kernel
theorem dX11_tierFor_107 : decode cX11_tierFor 107 = .ok (.iastore, 1) := by decide +kernel
theorem dX11_tierFor_108 : decode cX11_tierFor 108 = .ok (.iload_n 3, 1) := by decide +kernel
theorem dX11_tierFor_109 : decode cX11_tierFor 109 = .ok (.ireturn, 1) := by decide +kernel
theorem dX11_dry_0 : decode cX11_dry 0 = .ok (.aload_n 0, 1) := by decide +kernel
theorem dX11_dry_1 : decode cX11_dry 1 = .ok (.getfield 81, 3) := by decide +kernel
theorem dX11_dry_4 : decode cX11_dry 4 = .ok (.iload_n 1, 1) := by decide +kernel
theorem dX11_dry_5 : decode cX11_dry 5 = .ok (.invokevirtual 124, 3) := by decide +kernel
theorem dX11_dry_8 : decode cX11_dry 8 = .ok (.ifCond .ne 5, 3) := by decide +kernel
theorem dX11_dry_11 : decode cX11_dry 11 = .ok (.iconst (-1), 1) := by decide +kernel
theorem dX11_dry_12 : decode cX11_dry 12 = .ok (.ireturn, 1) := by decide +kernel
theorem dX11_dry_13 : decode cX11_dry 13 = .ok (.aload_n 0, 1) := by decide +kernel
theorem dX11_dry_14 : decode cX11_dry 14 = .ok (.getfield 10, 3) := by decide +kernel
theorem dX11_dry_17 : decode cX11_dry 17 = .ok (.aload_n 0, 1) := by decide +kernel
theorem dX11_dry_18 : decode cX11_dry 18 = .ok (.getfield 81, 3) := by decide +kernel
theorem dX11_dry_21 : decode cX11_dry 21 = .ok (.getfield 111, 3) := by decide +kernel
theorem dX11_dry_24 : decode cX11_dry 24 = .ok (.invokevirtual 203, 3) := by decide +kernel
theorem dX11_dry_27 : decode cX11_dry 27 = .ok (.aload_n 0, 1) := by decide +kernel
theorem dX11_dry_28 : decode cX11_dry 28 = .ok (.getfield 10, 3) := by decide +kernel
theorem dX11_dry_31 : decode cX11_dry 31 = .ok (.getfield 114, 3) := by decide +kernel
theorem dX11_dry_34 : decode cX11_dry 34 = .ok (.iload_n 1, 1) := by decide +kernel
theorem dX11_dry_35 : decode cX11_dry 35 = .ok (.iaload, 1) := by decide +kernel
theorem dX11_dry_36 : decode cX11_dry 36 = .ok (.ifCond .ne 11, 3) := by decide +kernel
theorem dX11_dry_39 : decode cX11_dry 39 = .ok (.aload_n 0, 1) := by decide +kernel
theorem dX11_dry_40 : decode cX11_dry 40 = .ok (.getfield 10, 3) := by decide +kernel
theorem dX11_dry_43 : decode cX11_dry 43 = .ok (.getfield 161, 3) := by decide +kernel
theorem dX11_dry_46 : decode cX11_dry 46 = .ok (.ireturn, 1) := by decide +kernel
theorem dX11_dry_47 : decode cX11_dry 47 = .ok (.aload_n 0, 1) := by decide +kernel
theorem dX11_dry_48 : decode cX11_dry 48 = .ok (.getfield 10, 3) := by decide +kernel
theorem dX11_dry_51 : decode cX11_dry 51 = .ok (.getfield 161, 3) := by decide +kernel
theorem dX11_dry_54 : decode cX11_dry 54 = .ok (.istore_n 2, 1) := by decide +kernel
theorem dX11_dry_55 : decode cX11_dry 55 = .ok (.iload_n 2, 1) := by decide +kernel
theorem dX11_dry_56 : decode cX11_dry 56 = .ok (.aload_n 0, 1) := by decide +kernel
theorem dX11_dry_57 : decode cX11_dry 57 = .ok (.getfield 81, 3) := by decide +kernel
theorem dX11_dry_60 : decode cX11_dry 60 = .ok (.getfield 164, 3) := by decide +kernel
theorem dX11_dry_63 : decode cX11_dry 63 = .ok (.if_icmp .ge 52, 3) := by decide +kernel
theorem dX11_dry_66 : decode cX11_dry 66 = .ok (.aload_n 0, 1) := by decide +kernel
theorem dX11_dry_67 : decode cX11_dry 67 = .ok (.getfield 81, 3) := by decide +kernel
theorem dX11_dry_70 : decode cX11_dry 70 = .ok (.aload_n 0, 1) := by decide +kernel
theorem dX11_dry_71 : decode cX11_dry 71 = .ok (.getfield 10, 3) := by decide +kernel
theorem dX11_dry_74 : decode cX11_dry 74 = .ok (.aload_n 0, 1) := by decide +kernel
theorem dX11_dry_75 : decode cX11_dry 75 = .ok (.getfield 81, 3) := by decide +kernel
theorem dX11_dry_78 : decode cX11_dry 78 = .ok (.aload_n 0, 1) := by decide +kernel
theorem dX11_dry_79 : decode cX11_dry 79 = .ok (.getfield 10, 3) := by decide +kernel
theorem dX11_dry_82 : decode cX11_dry 82 = .ok (.invokevirtual 197, 3) := by decide +kernel
theorem dX11_dry_85 : decode cX11_dry 85 = .ok (.invokevirtual 212, 3) := by decide +kernel
theorem dX11_dry_88 : decode cX11_dry 88 = .ok (.pop, 1) := by decide +kernel
theorem dX11_dry_89 : decode cX11_dry 89 = .ok (.aload_n 0, 1) := by decide +kernel
theorem dX11_dry_90 : decode cX11_dry 90 = .ok (.getfield 10, 3) := by decide +kernel
theorem dX11_dry_93 : decode cX11_dry 93 = .ok (.getfield 114, 3) := by decide +kernel
theorem dX11_dry_96 : decode cX11_dry 96 = .ok (.iload_n 1, 1) := by decide +kernel
theorem dX11_dry_97 : decode cX11_dry 97 = .ok (.iaload, 1) := by decide +kernel
theorem dX11_dry_98 : decode cX11_dry 98 = .ok (.ifCond .ne 11, 3) := by decide +kernel
theorem dX11_dry_101 : decode cX11_dry 101 = .ok (.aload_n 0, 1) := by decide +kernel
theorem dX11_dry_102 : decode cX11_dry 102 = .ok (.getfield 10, 3) := by decide +kernel
theorem dX11_dry_105 : decode cX11_dry 105 = .ok (.getfield 161, 3) := by decide +kernel
theorem dX11_dry_108 : decode cX11_dry 108 = .ok (.ireturn, 1) := by decide +kernel
theorem dX11_dry_109 : decode cX11_dry 109 = .ok (.iinc 2 1, 3) := by decide +kernel
theorem dX11_dry_112 : decode cX11_dry 112 = .ok (.goto (-57), 3) := by decide +kernel
theorem dX11_dry_115 : decode cX11_dry 115 = .ok (.bipush (-3), 2) := by decide +kernel
theorem dX11_dry_117 : decode cX11_dry 117 = .ok (.ireturn, 1) := by decide +kernel
theorem dX11_least_0 : decode cX11_least 0 = .ok (.aload_n 0, 1) := by decide +kernel
theorem dX11_least_1 : decode cX11_least 1 = .ok (.getfield 81, 3) := by decide +kernel
theorem dX11_least_4 : decode cX11_least 4 = .ok (.iload_n 1, 1) := by decide +kernel
theorem dX11_least_5 : decode cX11_least 5 = .ok (.invokevirtual 124, 3) := by decide +kernel
theorem dX11_least_8 : decode cX11_least 8 = .ok (.ifCond .ne 5, 3) := by decide +kernel
theorem dX11_least_11 : decode cX11_least 11 = .ok (.iconst (-1), 1) := by decide +kernel
theorem dX11_least_12 : decode cX11_least 12 = .ok (.ireturn, 1) := by decide +kernel
theorem dX11_least_13 : decode cX11_least 13 = .ok (.aload_n 0, 1) := by decide +kernel
theorem dX11_least_14 : decode cX11_least 14 = .ok (.getfield 81, 3) := by decide +kernel
theorem dX11_least_17 : decode cX11_least 17 = .ok (.getfield 108, 3) := by decide +kernel
theorem dX11_least_20 : decode cX11_least 20 = .ok (.iload_n 1, 1) := by decide +kernel
theorem dX11_least_21 : decode cX11_least 21 = .ok (.iaload, 1) := by decide +kernel
theorem dX11_least_22 : decode cX11_least 22 = .ok (.istore_n 2, 1) := by decide +kernel
theorem dX11_least_23 : decode cX11_least 23 = .ok (.aload_n 0, 1) := by decide +kernel
theorem dX11_least_24 : decode cX11_least 24 = .ok (.getfield 81, 3) := by decide +kernel
theorem dX11_least_27 : decode cX11_least 27 = .ok (.getfield 155, 3) := by decide +kernel
theorem dX11_least_30 : decode cX11_least 30 = .ok (.iload_n 2, 1) := by decide +kernel
theorem dX11_least_31 : decode cX11_least 31 = .ok (.iaload, 1) := by decide +kernel
theorem dX11_least_32 : decode cX11_least 32 = .ok (.istore_n 3, 1) := by decide +kernel
theorem dX11_least_33 : decode cX11_least 33 = .ok (.bipush (-3), 2) := by decide +kernel
theorem dX11_least_35 : decode cX11_least 35 = .ok (.istore 4, 2) := by decide +kernel
theorem dX11_least_37 : decode cX11_least 37 = .ok (.bipush 9, 2) := by decide +kernel
theorem dX11_least_39 : decode cX11_least 39 = .ok (.istore 5, 2) := by decide +kernel
theorem dX11_least_41 : decode cX11_least 41 = .ok (.iload 5, 2) := by decide +kernel
theorem dX11_least_43 : decode cX11_least 43 = .ok (.ifCond .lt 42, 3) := by decide +kernel
theorem dX11_least_46 : decode cX11_least 46 = .ok (.aload_n 0, 1) := by decide +kernel
theorem dX11_least_47 : decode cX11_least 47 = .ok (.getfield 81, 3) := by decide +kernel
theorem dX11_least_50 : decode cX11_least 50 = .ok (.getfield 155, 3) := by decide +kernel
theorem dX11_least_53 : decode cX11_least 53 = .ok (.iload_n 2, 1) := by decide +kernel
theorem dX11_least_54 : decode cX11_least 54 = .ok (.iload 5, 2) := by decide +kernel
theorem dX11_least_56 : decode cX11_least 56 = .ok (.iastore, 1) := by decide +kernel
theorem dX11_least_57 : decode cX11_least 57 = .ok (.aload_n 0, 1) := by decide +kernel
theorem dX11_least_58 : decode cX11_least 58 = .ok (.getfield 81, 3) := by decide +kernel
theorem dX11_least_61 : decode cX11_least 61 = .ok (.aload_n 0, 1) := by decide +kernel
theorem dX11_least_62 : decode cX11_least 62 = .ok (.getfield 81, 3) := by decide +kernel
theorem dX11_least_65 : decode cX11_least 65 = .ok (.getfield 111, 3) := by decide +kernel
theorem dX11_least_68 : decode cX11_least 68 = .ok (.iload_n 1, 1) := by decide +kernel
theorem dX11_least_69 : decode cX11_least 69 = .ok (.invokevirtual 138, 3) := by decide +kernel
theorem dX11_least_72 : decode cX11_least 72 = .ok (.ifCond .le 7, 3) := by decide +kernel
theorem dX11_least_75 : decode cX11_least 75 = .ok (.iload 5, 2) := by decide +kernel
theorem dX11_least_77 : decode cX11_least 77 = .ok (.istore 4, 2) := by decide +kernel
theorem dX11_least_79 : decode cX11_least 79 = .ok (.iinc 5 (-1), 3) := by decide +kernel
theorem dX11_least_82 : decode cX11_least 82 = .ok (.goto (-41), 3) := by decide +kernel
theorem dX11_least_85 : decode cX11_least 85 = .ok (.aload_n 0, 1) := by decide +kernel
theorem dX11_least_86 : decode cX11_least 86 = .ok (.getfield 81, 3) := by decide +kernel
theorem dX11_least_89 : decode cX11_least 89 = .ok (.getfield 155, 3) := by decide +kernel
theorem dX11_least_92 : decode cX11_least 92 = .ok (.iload_n 2, 1) := by decide +kernel
theorem dX11_least_93 : decode cX11_least 93 = .ok (.iload_n 3, 1) := by decide +kernel
theorem dX11_least_94 : decode cX11_least 94 = .ok (.iastore, 1) := by decide +kernel
theorem dX11_least_95 : decode cX11_least 95 = .ok (.iload 4, 2) := by decide +kernel
theorem dX11_least_97 : decode cX11_least 97 = .ok (.ireturn, 1) := by decide +kernel
theorem dX11_left_0 : decode cX11_left 0 = .ok (.iload_n 1, 1) := by decide +kernel
theorem dX11_left_1 : decode cX11_left 1 = .ok (.iconst 0, 1) := by decide +kernel
theorem dX11_left_2 : decode cX11_left 2 = .ok (.bipush 16, 2) := by decide +kernel
theorem dX11_left_4 : decode cX11_left 4 = .ok (.invokestatic 97, 3) := by decide +kernel
theorem dX11_left_7 : decode cX11_left 7 = .ok (.ifCond .eq 12, 3) := by decide +kernel
theorem dX11_left_10 : decode cX11_left 10 = .ok (.iload_n 2, 1) := by decide +kernel
theorem dX11_left_11 : decode cX11_left 11 = .ok (.iconst 0, 1) := by decide +kernel
theorem dX11_left_12 : decode cX11_left 12 = .ok (.iconst 1, 1) := by decide +kernel
theorem dX11_left_13 : decode cX11_left 13 = .ok (.invokestatic 97, 3) := by decide +kernel
theorem dX11_left_16 : decode cX11_left 16 = .ok (.ifCond .ne 5, 3) := by decide +kernel
theorem dX11_left_19 : decode cX11_left 19 = .ok (.iconst (-1), 1) := by decide +kernel
theorem dX11_left_20 : decode cX11_left 20 = .ok (.ireturn, 1) := by decide +kernel
theorem dX11_left_21 : decode cX11_left 21 = .ok (.aload_n 0, 1) := by decide +kernel
theorem dX11_left_22 : decode cX11_left 22 = .ok (.getfield 10, 3) := by decide +kernel
theorem dX11_left_25 : decode cX11_left 25 = .ok (.aload_n 0, 1) := by decide +kernel
theorem dX11_left_26 : decode cX11_left 26 = .ok (.getfield 81, 3) := by decide +kernel
theorem dX11_left_29 : decode cX11_left 29 = .ok (.getfield 111, 3) := by decide +kernel
theorem dX11_left_32 : decode cX11_left 32 = .ok (.invokevirtual 203, 3) := by decide +kernel
theorem dX11_left_35 : decode cX11_left 35 = .ok (.aload_n 0, 1) := by decide +kernel
theorem dX11_left_36 : decode cX11_left 36 = .ok (.getfield 81, 3) := by decide +kernel
theorem dX11_left_39 : decode cX11_left 39 = .ok (.aload_n 0, 1) := by decide +kernel
theorem dX11_left_40 : decode cX11_left 40 = .ok (.getfield 10, 3) := by decide +kernel
theorem dX11_left_43 : decode cX11_left 43 = .ok (.iload_n 1, 1) := by decide +kernel
theorem dX11_left_44 : decode cX11_left 44 = .ok (.invokevirtual 206, 3) := by decide +kernel
theorem dX11_left_47 : decode cX11_left 47 = .ok (.pop, 1) := by decide +kernel
theorem dX11_left_48 : decode cX11_left 48 = .ok (.iload_n 2, 1) := by decide +kernel
theorem dX11_left_49 : decode cX11_left 49 = .ok (.ifCond .ne 17, 3) := by decide +kernel
theorem dX11_left_52 : decode cX11_left 52 = .ok (.aload_n 0, 1) := by decide +kernel
theorem dX11_left_53 : decode cX11_left 53 = .ok (.getfield 81, 3) := by decide +kernel
theorem dX11_left_56 : decode cX11_left 56 = .ok (.aload_n 0, 1) := by decide +kernel
theorem dX11_left_57 : decode cX11_left 57 = .ok (.getfield 10, 3) := by decide +kernel
theorem dX11_left_60 : decode cX11_left 60 = .ok (.invokevirtual 178, 3) := by decide +kernel
theorem dX11_left_63 : decode cX11_left 63 = .ok (.goto 10, 3) := by decide +kernel
theorem dX11_left_66 : decode cX11_left 66 = .ok (.aload_n 0, 1) := by decide +kernel
theorem dX11_left_67 : decode cX11_left 67 = .ok (.getfield 10, 3) := by decide +kernel
theorem dX11_left_70 : decode cX11_left 70 = .ok (.getfield 128, 3) := by decide +kernel
theorem dX11_left_73 : decode cX11_left 73 = .ok (.ireturn, 1) := by decide +kernel
theorem dX11_rafts_0 : decode cX11_rafts 0 = .ok (.iload_n 1, 1) := by decide +kernel
theorem dX11_rafts_1 : decode cX11_rafts 1 = .ok (.iconst (-1), 1) := by decide +kernel
theorem dX11_rafts_2 : decode cX11_rafts 2 = .ok (.if_icmp .ne 8, 3) := by decide +kernel
theorem dX11_rafts_5 : decode cX11_rafts 5 = .ok (.aload_n 0, 1) := by decide +kernel
theorem dX11_rafts_6 : decode cX11_rafts 6 = .ok (.invokevirtual 215, 3) := by decide +kernel
theorem dX11_rafts_9 : decode cX11_rafts 9 = .ok (.ireturn, 1) := by decide +kernel
theorem dX11_rafts_10 : decode cX11_rafts 10 = .ok (.aload_n 0, 1) := by decide +kernel
theorem dX11_rafts_11 : decode cX11_rafts 11 = .ok (.getfield 81, 3) := by decide +kernel
theorem dX11_rafts_14 : decode cX11_rafts 14 = .ok (.iload_n 1, 1) := by decide +kernel
theorem dX11_rafts_15 : decode cX11_rafts 15 = .ok (.invokevirtual 124, 3) := by decide +kernel
theorem dX11_rafts_18 : decode cX11_rafts 18 = .ok (.ifCond .eq 11, 3) := by decide +kernel
theorem dX11_rafts_21 : decode cX11_rafts 21 = .ok (.aload_n 0, 1) := by decide +kernel
theorem dX11_rafts_22 : decode cX11_rafts 22 = .ok (.iload_n 1, 1) := by decide +kernel
theorem dX11_rafts_23 : decode cX11_rafts 23 = .ok (.invokevirtual 219, 3) := by decide +kernel
theorem dX11_rafts_26 : decode cX11_rafts 26 = .ok (.goto 4, 3) := by decide +kernel
theorem dX11_rafts_29 : decode cX11_rafts 29 = .ok (.iconst (-1), 1) := by decide +kernel
theorem dX11_rafts_30 : decode cX11_rafts 30 = .ok (.ireturn, 1) := by decide +kernel
theorem dX11_best_0 : decode cX11_best 0 = .ok (.iload_n 1, 1) := by decide +kernel
theorem dX11_best_1 : decode cX11_best 1 = .ok (.iconst 0, 1) := by decide +kernel
theorem dX11_best_2 : decode cX11_best 2 = .ok (.iconst 4, 1) := by decide +kernel
theorem dX11_best_3 : decode cX11_best 3 = .ok (.invokestatic 97, 3) := by decide +kernel
theorem dX11_best_6 : decode cX11_best 6 = .ok (.ifCond .ne 5, 3) := by decide +kernel
theorem dX11_best_9 : decode cX11_best 9 = .ok (.iconst (-1), 1) := by decide +kernel
theorem dX11_best_10 : decode cX11_best 10 = .ok (.ireturn, 1) := by decide +kernel
theorem dX11_best_11 : decode cX11_best 11 = .ok (.aload_n 0, 1) := by decide +kernel
theorem dX11_best_12 : decode cX11_best 12 = .ok (.getfield 93, 3) := by decide +kernel
theorem dX11_best_15 : decode cX11_best 15 = .ok (.iload_n 1, 1) := by decide +kernel
theorem dX11_best_16 : decode cX11_best 16 = .ok (.iconst 0, 1) := by decide +kernel
theorem dX11_best_17 : decode cX11_best 17 = .ok (.invokevirtual 222, 3) := by decide +kernel
theorem dX11_best_20 : decode cX11_best 20 = .ok (.aload_n 0, 1) := by decide +kernel
theorem dX11_best_21 : decode cX11_best 21 = .ok (.getfield 93, 3) := by decide +kernel
theorem dX11_best_24 : decode cX11_best 24 = .ok (.getfield 226, 3) := by decide +kernel
theorem dX11_best_27 : decode cX11_best 27 = .ok (.ireturn, 1) := by decide +kernel
theorem dX11_ith_0 : decode cX11_ith 0 = .ok (.iload_n 1, 1) := by decide +kernel
theorem dX11_ith_1 : decode cX11_ith 1 = .ok (.iconst 0, 1) := by decide +kernel
theorem dX11_ith_2 : decode cX11_ith 2 = .ok (.iconst 4, 1) := by decide +kernel
theorem dX11_ith_3 : decode cX11_ith 3 = .ok (.invokestatic 97, 3) := by decide +kernel
theorem dX11_ith_6 : decode cX11_ith 6 = .ok (.ifCond .eq 12, 3) := by decide +kernel
theorem dX11_ith_9 : decode cX11_ith 9 = .ok (.iload_n 2, 1) := by decide +kernel
theorem dX11_ith_10 : decode cX11_ith 10 = .ok (.iconst 0, 1) := by decide +kernel
theorem dX11_ith_11 : decode cX11_ith 11 = .ok (.iconst 3, 1) := by decide +kernel
theorem dX11_ith_12 : decode cX11_ith 12 = .ok (.invokestatic 97, 3) := by decide +kernel
theorem dX11_ith_15 : decode cX11_ith 15 = .ok (.ifCond .ne 5, 3) := by decide +kernel
theorem dX11_ith_18 : decode cX11_ith 18 = .ok (.iconst (-1), 1) := by decide +kernel
theorem dX11_ith_19 : decode cX11_ith 19 = .ok (.ireturn, 1) := by decide +kernel
theorem dX11_ith_20 : decode cX11_ith 20 = .ok (.iload_n 2, 1) := by decide +kernel
theorem dX11_ith_21 : decode cX11_ith 21 = .ok (.aload_n 0, 1) := by decide +kernel
theorem dX11_ith_22 : decode cX11_ith 22 = .ok (.getfield 93, 3) := by decide +kernel
theorem dX11_ith_25 : decode cX11_ith 25 = .ok (.iload_n 1, 1) := by decide +kernel
theorem dX11_ith_26 : decode cX11_ith 26 = .ok (.invokevirtual 229, 3) := by decide +kernel
theorem dX11_ith_29 : decode cX11_ith 29 = .ok (.if_icmp .lt 6, 3) := by decide +kernel
theorem dX11_ith_32 : decode cX11_ith 32 = .ok (.bipush (-3), 2) := by decide +kernel
theorem dX11_ith_34 : decode cX11_ith 34 = .ok (.ireturn, 1) := by decide +kernel
theorem dX11_ith_35 : decode cX11_ith 35 = .ok (.aload_n 0, 1) := by decide +kernel
theorem dX11_ith_36 : decode cX11_ith 36 = .ok (.getfield 93, 3) := by decide +kernel
theorem dX11_ith_39 : decode cX11_ith 39 = .ok (.iload_n 1, 1) := by decide +kernel
theorem dX11_ith_40 : decode cX11_ith 40 = .ok (.iconst 0, 1) := by decide +kernel
theorem dX11_ith_41 : decode cX11_ith 41 = .ok (.invokevirtual 222, 3) := by decide +kernel
theorem dX11_ith_44 : decode cX11_ith 44 = .ok (.aload_n 0, 1) := by decide +kernel
theorem dX11_ith_45 : decode cX11_ith 45 = .ok (.getfield 93, 3) := by decide +kernel
theorem dX11_ith_48 : decode cX11_ith 48 = .ok (.getfield 232, 3) := by decide +kernel
theorem dX11_ith_51 : decode cX11_ith 51 = .ok (.iload_n 2, 1) := by decide +kernel
theorem dX11_ith_52 : decode cX11_ith 52 = .ok (.iaload, 1) := by decide +kernel
theorem dX11_ith_53 : decode cX11_ith 53 = .ok (.ireturn, 1) := by decide +kernel
theorem dX11_ways_0 : decode cX11_ways 0 = .ok (.iload_n 1, 1) := by decide +kernel
theorem dX11_ways_1 : decode cX11_ways 1 = .ok (.iconst 0, 1) := by decide +kernel
theorem dX11_ways_2 : decode cX11_ways 2 = .ok (.iconst 4, 1) := by decide +kernel
theorem dX11_ways_3 : decode cX11_ways 3 = .ok (.invokestatic 97, 3) := by decide +kernel
theorem dX11_ways_6 : decode cX11_ways 6 = .ok (.ifCond .ne 5, 3) := by decide +kernel
theorem dX11_ways_9 : decode cX11_ways 9 = .ok (.iconst (-1), 1) := by decide +kernel
theorem dX11_ways_10 : decode cX11_ways 10 = .ok (.ireturn, 1) := by decide +kernel
theorem dX11_ways_11 : decode cX11_ways 11 = .ok (.aload_n 0, 1) := by decide +kernel
theorem dX11_ways_12 : decode cX11_ways 12 = .ok (.getfield 93, 3) := by decide +kernel
theorem dX11_ways_15 : decode cX11_ways 15 = .ok (.iload_n 1, 1) := by decide +kernel
theorem dX11_ways_16 : decode cX11_ways 16 = .ok (.iconst 0, 1) := by decide +kernel
theorem dX11_ways_17 : decode cX11_ways 17 = .ok (.invokevirtual 222, 3) := by decide +kernel
theorem dX11_ways_20 : decode cX11_ways 20 = .ok (.aload_n 0, 1) := by decide +kernel
theorem dX11_ways_21 : decode cX11_ways 21 = .ok (.getfield 93, 3) := by decide +kernel
theorem dX11_ways_24 : decode cX11_ways 24 = .ok (.getfield 235, 3) := by decide +kernel
theorem dX11_ways_27 : decode cX11_ways 27 = .ok (.ireturn, 1) := by decide +kernel
theorem dX11_chart_0 : decode cX11_chart 0 = .ok (.iload_n 1, 1) := by decide +kernel
theorem dX11_chart_1 : decode cX11_chart 1 = .ok (.iconst 0, 1) := by decide +kernel
theorem dX11_chart_2 : decode cX11_chart 2 = .ok (.iconst 4, 1) := by decide +kernel
theorem dX11_chart_3 : decode cX11_chart 3 = .ok (.invokestatic 97, 3) := by decide +kernel
theorem dX11_chart_6 : decode cX11_chart 6 = .ok (.ifCond .eq 11, 3) := by decide +kernel
theorem dX11_chart_9 : decode cX11_chart 9 = .ok (.aload_n 0, 1) := by decide +kernel
theorem dX11_chart_10 : decode cX11_chart 10 = .ok (.iload_n 2, 1) := by decide +kernel
theorem dX11_chart_11 : decode cX11_chart 11 = .ok (.invokevirtual 238, 3) := by decide +kernel
theorem dX11_chart_14 : decode cX11_chart 14 = .ok (.ifCond .ne 5, 3) := by decide +kernel
theorem dX11_chart_17 : decode cX11_chart 17 = .ok (.iconst (-1), 1) := by decide +kernel
theorem dX11_chart_18 : decode cX11_chart 18 = .ok (.ireturn, 1) := by decide +kernel
theorem dX11_chart_19 : decode cX11_chart 19 = .ok (.aload_n 0, 1) := by decide +kernel
theorem dX11_chart_20 : decode cX11_chart 20 = .ok (.getfield 93, 3) := by decide +kernel
theorem dX11_chart_23 : decode cX11_chart 23 = .ok (.iload_n 1, 1) := by decide +kernel
theorem dX11_chart_24 : decode cX11_chart 24 = .ok (.iload_n 2, 1) := by decide +kernel
theorem dX11_chart_25 : decode cX11_chart 25 = .ok (.invokevirtual 222, 3) := by decide +kernel
theorem dX11_chart_28 : decode cX11_chart 28 = .ok (.aload_n 0, 1) := by decide +kernel
theorem dX11_chart_29 : decode cX11_chart 29 = .ok (.getfield 93, 3) := by decide +kernel
theorem dX11_chart_32 : decode cX11_chart 32 = .ok (.getfield 241, 3) := by decide +kernel
theorem dX11_chart_35 : decode cX11_chart 35 = .ok (.ifCond .ge 8, 3) := by decide +kernel
theorem dX11_chart_38 : decode cX11_chart 38 = .ok (.bipush (-3), 2) := by decide +kernel
theorem dX11_chart_40 : decode cX11_chart 40 = .ok (.goto 10, 3) := by decide +kernel
theorem dX11_chart_43 : decode cX11_chart 43 = .ok (.aload_n 0, 1) := by decide +kernel
theorem dX11_chart_44 : decode cX11_chart 44 = .ok (.getfield 93, 3) := by decide +kernel
theorem dX11_chart_47 : decode cX11_chart 47 = .ok (.getfield 241, 3) := by decide +kernel
theorem dX11_chart_50 : decode cX11_chart 50 = .ok (.ireturn, 1) := by decide +kernel
theorem dX11_bars_0 : decode cX11_bars 0 = .ok (.iload_n 1, 1) := by decide +kernel
theorem dX11_bars_1 : decode cX11_bars 1 = .ok (.iconst 0, 1) := by decide +kernel
theorem dX11_bars_2 : decode cX11_bars 2 = .ok (.iconst 4, 1) := by decide +kernel
theorem dX11_bars_3 : decode cX11_bars 3 = .ok (.invokestatic 97, 3) := by decide +kernel
theorem dX11_bars_6 : decode cX11_bars 6 = .ok (.ifCond .eq 11, 3) := by decide +kernel
theorem dX11_bars_9 : decode cX11_bars 9 = .ok (.aload_n 0, 1) := by decide +kernel
theorem dX11_bars_10 : decode cX11_bars 10 = .ok (.iload_n 2, 1) := by decide +kernel
theorem dX11_bars_11 : decode cX11_bars 11 = .ok (.invokevirtual 238, 3) := by decide +kernel
theorem dX11_bars_14 : decode cX11_bars 14 = .ok (.ifCond .ne 5, 3) := by decide +kernel
theorem dX11_bars_17 : decode cX11_bars 17 = .ok (.iconst (-1), 1) := by decide +kernel
theorem dX11_bars_18 : decode cX11_bars 18 = .ok (.ireturn, 1) := by decide +kernel
theorem dX11_bars_19 : decode cX11_bars 19 = .ok (.aload_n 0, 1) := by decide +kernel
theorem dX11_bars_20 : decode cX11_bars 20 = .ok (.getfield 93, 3) := by decide +kernel
theorem dX11_bars_23 : decode cX11_bars 23 = .ok (.iload_n 1, 1) := by decide +kernel
theorem dX11_bars_24 : decode cX11_bars 24 = .ok (.iload_n 2, 1) := by decide +kernel
theorem dX11_bars_25 : decode cX11_bars 25 = .ok (.invokevirtual 222, 3) := by decide +kernel
theorem dX11_bars_28 : decode cX11_bars 28 = .ok (.iload_n 2, 1) := by decide +kernel
theorem dX11_bars_29 : decode cX11_bars 29 = .ok (.aload_n 0, 1) := by decide +kernel
theorem dX11_bars_30 : decode cX11_bars 30 = .ok (.getfield 93, 3) := by decide +kernel
theorem dX11_bars_33 : decode cX11_bars 33 = .ok (.getfield 244, 3) := by decide +kernel
theorem dX11_bars_36 : decode cX11_bars 36 = .ok (.iconst (-1), 1) := by decide +kernel
theorem dX11_bars_37 : decode cX11_bars 37 = .ok (.ixor, 1) := by decide +kernel
theorem dX11_bars_38 : decode cX11_bars 38 = .ok (.iand, 1) := by decide +kernel
theorem dX11_bars_39 : decode cX11_bars 39 = .ok (.istore_n 3, 1) := by decide +kernel
theorem dX11_bars_40 : decode cX11_bars 40 = .ok (.iload_n 3, 1) := by decide +kernel
theorem dX11_bars_41 : decode cX11_bars 41 = .ok (.ifCond .ne 8, 3) := by decide +kernel
theorem dX11_bars_44 : decode cX11_bars 44 = .ok (.bipush (-3), 2) := by decide +kernel
theorem dX11_bars_46 : decode cX11_bars 46 = .ok (.goto 7, 3) := by decide +kernel
theorem dX11_bars_49 : decode cX11_bars 49 = .ok (.iload_n 3, 1) := by decide +kernel
theorem dX11_bars_50 : decode cX11_bars 50 = .ok (.invokestatic 247, 3) := by decide +kernel
theorem dX11_bars_53 : decode cX11_bars 53 = .ok (.ireturn, 1) := by decide +kernel
theorem dX11_game_0 : decode cX11_game 0 = .ok (.iload_n 1, 1) := by decide +kernel
theorem dX11_game_1 : decode cX11_game 1 = .ok (.iconst 1, 1) := by decide +kernel
theorem dX11_game_2 : decode cX11_game 2 = .ok (.iconst 4, 1) := by decide +kernel
theorem dX11_game_3 : decode cX11_game 3 = .ok (.invokestatic 97, 3) := by decide +kernel
theorem dX11_game_6 : decode cX11_game 6 = .ok (.ifCond .eq 14, 3) := by decide +kernel
theorem dX11_game_9 : decode cX11_game 9 = .ok (.aload_n 0, 1) := by decide +kernel
theorem dX11_game_10 : decode cX11_game 10 = .ok (.getfield 93, 3) := by decide +kernel
theorem dX11_game_13 : decode cX11_game 13 = .ok (.iload_n 1, 1) := by decide +kernel
theorem dX11_game_14 : decode cX11_game 14 = .ok (.invokevirtual 252, 3) := by decide +kernel
theorem dX11_game_17 : decode cX11_game 17 = .ok (.goto 4, 3) := by decide +kernel
theorem dX11_game_20 : decode cX11_game 20 = .ok (.iconst (-1), 1) := by decide +kernel
theorem dX11_game_21 : decode cX11_game 21 = .ok (.ireturn, 1) := by decide +kernel
theorem dX11_play_0 : decode cX11_play 0 = .ok (.iload_n 1, 1) := by decide +kernel
theorem dX11_play_1 : decode cX11_play 1 = .ok (.iconst 1, 1) := by decide +kernel
theorem dX11_play_2 : decode cX11_play 2 = .ok (.iconst 4, 1) := by decide +kernel
theorem dX11_play_3 : decode cX11_play 3 = .ok (.invokestatic 97, 3) := by decide +kernel
theorem dX11_play_6 : decode cX11_play 6 = .ok (.ifCond .ne 5, 3) := by decide +kernel
theorem dX11_play_9 : decode cX11_play 9 = .ok (.iconst (-1), 1) := by decide +kernel
theorem dX11_play_10 : decode cX11_play 10 = .ok (.ireturn, 1) := by decide +kernel
theorem dX11_play_11 : decode cX11_play 11 = .ok (.aload_n 0, 1) := by decide +kernel
theorem dX11_play_12 : decode cX11_play 12 = .ok (.getfield 81, 3) := by decide +kernel
theorem dX11_play_15 : decode cX11_play 15 = .ok (.aload_n 0, 1) := by decide +kernel
theorem dX11_play_16 : decode cX11_play 16 = .ok (.getfield 81, 3) := by decide +kernel
theorem dX11_play_19 : decode cX11_play 19 = .ok (.getfield 111, 3) := by decide +kernel
theorem dX11_play_22 : decode cX11_play 22 = .ok (.invokevirtual 170, 3) := by decide +kernel
theorem dX11_play_25 : decode cX11_play 25 = .ok (.ifCond .eq 6, 3) := by decide +kernel
theorem dX11_play_28 : decode cX11_play 28 = .ok (.bipush (-3), 2) := by decide +kernel
theorem dX11_play_30 : decode cX11_play 30 = .ok (.ireturn, 1) := by decide +kernel
theorem dX11_play_31 : decode cX11_play 31 = .ok (.aload_n 0, 1) := by decide +kernel
theorem dX11_play_32 : decode cX11_play 32 = .ok (.getfield 93, 3) := by decide +kernel
theorem dX11_play_35 : decode cX11_play 35 = .ok (.iload_n 1, 1) := by decide +kernel
theorem dX11_play_36 : decode cX11_play 36 = .ok (.invokevirtual 252, 3) := by decide +kernel
theorem dX11_play_39 : decode cX11_play 39 = .ok (.pop, 1) := by decide +kernel
theorem dX11_play_40 : decode cX11_play 40 = .ok (.aload_n 0, 1) := by decide +kernel
theorem dX11_play_41 : decode cX11_play 41 = .ok (.getfield 93, 3) := by decide +kernel
theorem dX11_play_44 : decode cX11_play 44 = .ok (.getfield 255, 3) := by decide +kernel
theorem dX11_play_47 : decode cX11_play 47 = .ok (.ireturn, 1) := by decide +kernel
theorem dX11_report_0 : decode cX11_report 0 = .ok (.iload_n 1, 1) := by decide +kernel
theorem dX11_report_1 : decode cX11_report 1 = .ok (.iconst 0, 1) := by decide +kernel
theorem dX11_report_2 : decode cX11_report 2 = .ok (.bipush 15, 2) := by decide +kernel
theorem dX11_report_4 : decode cX11_report 4 = .ok (.invokestatic 97, 3) := by decide +kernel
theorem dX11_report_7 : decode cX11_report 7 = .ok (.ifCond .eq 12, 3) := by decide +kernel
theorem dX11_report_10 : decode cX11_report 10 = .ok (.iload_n 2, 1) := by decide +kernel
theorem dX11_report_11 : decode cX11_report 11 = .ok (.iconst 0, 1) := by decide +kernel
theorem dX11_report_12 : decode cX11_report 12 = .ok (.iconst 1, 1) := by decide +kernel
theorem dX11_report_13 : decode cX11_report 13 = .ok (.invokestatic 97, 3) := by decide +kernel
theorem dX11_report_16 : decode cX11_report 16 = .ok (.ifCond .ne 5, 3) := by decide +kernel
theorem dX11_report_19 : decode cX11_report 19 = .ok (.iconst (-1), 1) := by decide +kernel
theorem dX11_report_20 : decode cX11_report 20 = .ok (.ireturn, 1) := by decide +kernel
theorem dX11_report_21 : decode cX11_report 21 = .ok (.iload_n 2, 1) := by decide +kernel
theorem dX11_report_22 : decode cX11_report 22 = .ok (.ifCond .ne 8, 3) := by decide +kernel
theorem dX11_report_25 : decode cX11_report 25 = .ok (.bipush 99, 2) := by decide +kernel
theorem dX11_report_27 : decode cX11_report 27 = .ok (.goto 5, 3) := by decide +kernel
theorem dX11_report_30 : decode cX11_report 30 = .ok (.bipush 16, 2) := by decide +kernel
theorem dX11_report_32 : decode cX11_report 32 = .ok (.istore 5, 2) := by decide +kernel
theorem dX11_report_34 : decode cX11_report 34 = .ok (.iload_n 3, 1) := by decide +kernel
theorem dX11_report_35 : decode cX11_report 35 = .ok (.iconst 0, 1) := by decide +kernel
theorem dX11_report_36 : decode cX11_report 36 = .ok (.iload 5, 2) := by decide +kernel
theorem dX11_report_38 : decode cX11_report 38 = .ok (.invokestatic 97, 3) := by decide +kernel
theorem dX11_report_41 : decode cX11_report 41 = .ok (.ifCond .eq 14, 3) := by decide +kernel
theorem dX11_report_44 : decode cX11_report 44 = .ok (.iload 4, 2) := by decide +kernel
theorem dX11_report_46 : decode cX11_report 46 = .ok (.iload_n 3, 1) := by decide +kernel
theorem dX11_report_47 : decode cX11_report 47 = .ok (.iload 5, 2) := by decide +kernel
theorem dX11_report_49 : decode cX11_report 49 = .ok (.invokestatic 97, 3) := by decide +kernel
theorem dX11_report_52 : decode cX11_report 52 = .ok (.ifCond .ne 5, 3) := by decide +kernel
theorem dX11_report_55 : decode cX11_report 55 = .ok (.iconst (-1), 1) := by decide +kernel
theorem dX11_report_56 : decode cX11_report 56 = .ok (.ireturn, 1) := by decide +kernel
theorem dX11_report_57 : decode cX11_report 57 = .ok (.aload_n 0, 1) := by decide +kernel
theorem dX11_report_58 : decode cX11_report 58 = .ok (.getfield 81, 3) := by decide +kernel
theorem dX11_report_61 : decode cX11_report 61 = .ok (.getfield 258, 3) := by decide +kernel
theorem dX11_report_64 : decode cX11_report 64 = .ok (.bipush 6, 2) := by decide +kernel
theorem dX11_report_66 : decode cX11_report 66 = .ok (.if_icmp .lt 6, 3) := by decide +kernel
theorem dX11_report_69 : decode cX11_report 69 = .ok (.bipush (-2), 2) := by decide +kernel
theorem dX11_report_71 : decode cX11_report 71 = .ok (.ireturn, 1) := by decide +kernel
theorem dX11_report_72 : decode cX11_report 72 = .ok (.aload_n 0, 1) := by decide +kernel
theorem dX11_report_73 : decode cX11_report 73 = .ok (.getfield 81, 3) := by decide +kernel
theorem dX11_report_76 : decode cX11_report 76 = .ok (.getfield 258, 3) := by decide +kernel
theorem dX11_report_79 : decode cX11_report 79 = .ok (.istore 6, 2) := by decide +kernel
theorem dX11_report_81 : decode cX11_report 81 = .ok (.aload_n 0, 1) := by decide +kernel
theorem dX11_report_82 : decode cX11_report 82 = .ok (.getfield 81, 3) := by decide +kernel
theorem dX11_report_85 : decode cX11_report 85 = .ok (.dup, 1) := by decide +kernel
theorem dX11_report_86 : decode cX11_report 86 = .ok (.getfield 258, 3) := by decide +kernel
theorem dX11_report_89 : decode cX11_report 89 = .ok (.iconst 1, 1) := by decide +kernel
theorem dX11_report_90 : decode cX11_report 90 = .ok (.iadd, 1) := by decide +kernel
theorem dX11_report_91 : decode cX11_report 91 = .ok (.putfield 258, 3) := by decide +kernel
theorem dX11_report_94 : decode cX11_report 94 = .ok (.aload_n 0, 1) := by decide +kernel
theorem dX11_report_95 : decode cX11_report 95 = .ok (.getfield 81, 3) := by decide +kernel
theorem dX11_report_98 : decode cX11_report 98 = .ok (.getfield 261, 3) := by decide +kernel
theorem dX11_report_101 : decode cX11_report 101 = .ok (.iload 6, 2) := by decide +kernel
theorem dX11_report_103 : decode cX11_report 103 = .ok (.iload_n 1, 1) := by decide +kernel
theorem dX11_report_104 : decode cX11_report 104 = .ok (.iastore, 1) := by decide +kernel
theorem dX11_report_105 : decode cX11_report 105 = .ok (.aload_n 0, 1) := by decide +kernel
theorem dX11_report_106 : decode cX11_report 106 = .ok (.getfield 81, 3) := by decide +kernel
theorem dX11_report_109 : decode cX11_report 109 = .ok (.getfield 264, 3) := by decide +kernel
theorem dX11_report_112 : decode cX11_report 112 = .ok (.iload 6, 2) := by decide +kernel
theorem dX11_report_114 : decode cX11_report 114 = .ok (.iload_n 2, 1) := by decide +kernel
theorem dX11_report_115 : decode cX11_report 115 = .ok (.iastore, 1) := by decide +kernel
theorem dX11_report_116 : decode cX11_report 116 = .ok (.aload_n 0, 1) := by decide +kernel
theorem dX11_report_117 : decode cX11_report 117 = .ok (.getfield 81, 3) := by decide +kernel
theorem dX11_report_120 : decode cX11_report 120 = .ok (.getfield 267, 3) := by decide +kernel
theorem dX11_report_123 : decode cX11_report 123 = .ok (.iload 6, 2) := by decide +kernel
theorem dX11_report_125 : decode cX11_report 125 = .ok (.iload_n 3, 1) := by decide +kernel
theorem dX11_report_126 : decode cX11_report 126 = .ok (.iastore, 1) := by decide +kernel
theorem dX11_report_127 : decode cX11_report 127 = .ok (.aload_n 0, 1) := by decide +kernel
theorem dX11_report_128 : decode cX11_report 128 = .ok (.getfield 81, 3) := by decide +kernel
theorem dX11_report_131 : decode cX11_report 131 = .ok (.getfield 270, 3) := by decide +kernel
theorem dX11_report_134 : decode cX11_report 134 = .ok (.iload 6, 2) := by decide +kernel
theorem dX11_report_136 : decode cX11_report 136 = .ok (.iload 4, 2) := by decide +kernel
theorem dX11_report_138 : decode cX11_report 138 = .ok (.iastore, 1) := by decide +kernel
theorem dX11_report_139 : decode cX11_report 139 = .ok (.iload 6, 2) := by decide +kernel
theorem dX11_report_141 : decode cX11_report 141 = .ok (.ireturn, 1) := by decide +kernel
theorem dX11_forget_0 : decode cX11_forget 0 = .ok (.aload_n 0, 1) := by decide +kernel
theorem dX11_forget_1 : decode cX11_forget 1 = .ok (.getfield 81, 3) := by decide +kernel
theorem dX11_forget_4 : decode cX11_forget 4 = .ok (.getfield 258, 3) := by decide +kernel
theorem dX11_forget_7 : decode cX11_forget 7 = .ok (.istore_n 1, 1) := by decide +kernel
theorem dX11_forget_8 : decode cX11_forget 8 = .ok (.aload_n 0, 1) := by decide +kernel
theorem dX11_forget_9 : decode cX11_forget 9 = .ok (.getfield 81, 3) := by decide +kernel
theorem dX11_forget_12 : decode cX11_forget 12 = .ok (.iconst 0, 1) := by decide +kernel
theorem dX11_forget_13 : decode cX11_forget 13 = .ok (.putfield 258, 3) := by decide +kernel
theorem dX11_forget_16 : decode cX11_forget 16 = .ok (.iload_n 1, 1) := by decide +kernel
theorem dX11_forget_17 : decode cX11_forget 17 = .ok (.ireturn, 1) := by decide +kernel
theorem dX11_lone_0 : decode cX11_lone 0 = .ok (.iload_n 1, 1) := by decide +kernel
theorem dX11_lone_1 : decode cX11_lone 1 = .ok (.iconst 0, 1) := by decide +kernel
theorem dX11_lone_2 : decode cX11_lone 2 = .ok (.iconst 3, 1) := by decide +kernel
theorem dX11_lone_3 : decode cX11_lone 3 = .ok (.invokestatic 97, 3) := by decide +kernel
theorem dX11_lone_6 : decode cX11_lone 6 = .ok (.ifCond .ne 5, 3) := by decide +kernel
theorem dX11_lone_9 : decode cX11_lone 9 = .ok (.iconst (-1), 1) := by decide +kernel
theorem dX11_lone_10 : decode cX11_lone 10 = .ok (.ireturn, 1) := by decide +kernel
theorem dX11_lone_11 : decode cX11_lone 11 = .ok (.iconst 0, 1) := by decide +kernel
theorem dX11_lone_12 : decode cX11_lone 12 = .ok (.istore_n 2, 1) := by decide +kernel
theorem dX11_lone_13 : decode cX11_lone 13 = .ok (.iconst 0, 1) := by decide +kernel
theorem dX11_lone_14 : decode cX11_lone 14 = .ok (.istore_n 3, 1) := by decide +kernel
theorem dX11_lone_15 : decode cX11_lone 15 = .ok (.iload_n 3, 1) := by decide +kernel
theorem dX11_lone_16 : decode cX11_lone 16 = .ok (.sipush 500, 3) := by decide +kernel
theorem dX11_lone_19 : decode cX11_lone 19 = .ok (.if_icmp .ge 56, 3) := by decide +kernel
theorem dX11_lone_22 : decode cX11_lone 22 = .ok (.aload_n 0, 1) := by decide +kernel
theorem dX11_lone_23 : decode cX11_lone 23 = .ok (.getfield 81, 3) := by decide +kernel
theorem dX11_lone_26 : decode cX11_lone 26 = .ok (.iload_n 3, 1) := by decide +kernel
theorem dX11_lone_27 : decode cX11_lone 27 = .ok (.invokevirtual 273, 3) := by decide +kernel
theorem dX11_lone_30 : decode cX11_lone 30 = .ok (.ifCond .eq 6, 3) := by decide +kernel
theorem dX11_lone_33 : decode cX11_lone 33 = .ok (.goto 36, 3) := by decide +kernel
theorem dX11_lone_36 : decode cX11_lone 36 = .ok (.iload_n 1, 1) := by decide +kernel
theorem dX11_lone_37 : decode cX11_lone 37 = .ok (.iconst 1, 1) := by decide +kernel
theorem dX11_lone_38 : decode cX11_lone 38 = .ok (.if_icmp .ne 8, 3) := by decide +kernel
theorem dX11_lone_41 : decode cX11_lone 41 = .ok (.iload_n 3, 1) := by decide +kernel
theorem dX11_lone_42 : decode cX11_lone 42 = .ok (.invokestatic 276, 3) := by decide +kernel
theorem dX11_lone_45 : decode cX11_lone 45 = .ok (.ireturn, 1) := by decide +kernel
theorem dX11_lone_46 : decode cX11_lone 46 = .ok (.iload_n 1, 1) := by decide +kernel
theorem dX11_lone_47 : decode cX11_lone 47 = .ok (.iconst 2, 1) := by decide +kernel
theorem dX11_lone_48 : decode cX11_lone 48 = .ok (.if_icmp .ne 8, 3) := by decide +kernel
theorem dX11_lone_51 : decode cX11_lone 51 = .ok (.iload_n 3, 1) := by decide +kernel
theorem dX11_lone_52 : decode cX11_lone 52 = .ok (.invokestatic 279, 3) := by decide +kernel
theorem dX11_lone_55 : decode cX11_lone 55 = .ok (.ireturn, 1) := by decide +kernel
theorem dX11_lone_56 : decode cX11_lone 56 = .ok (.iload_n 1, 1) := by decide +kernel
theorem dX11_lone_57 : decode cX11_lone 57 = .ok (.iconst 3, 1) := by decide +kernel
theorem dX11_lone_58 : decode cX11_lone 58 = .ok (.if_icmp .ne 8, 3) := by decide +kernel
theorem dX11_lone_61 : decode cX11_lone 61 = .ok (.iload_n 3, 1) := by decide +kernel
theorem dX11_lone_62 : decode cX11_lone 62 = .ok (.invokestatic 282, 3) := by decide +kernel
theorem dX11_lone_65 : decode cX11_lone 65 = .ok (.ireturn, 1) := by decide +kernel
theorem dX11_lone_66 : decode cX11_lone 66 = .ok (.iinc 2 1, 3) := by decide +kernel
theorem dX11_lone_69 : decode cX11_lone 69 = .ok (.iinc 3 1, 3) := by decide +kernel
theorem dX11_lone_72 : decode cX11_lone 72 = .ok (.goto (-57), 3) := by decide +kernel
theorem dX11_lone_75 : decode cX11_lone 75 = .ok (.iload_n 1, 1) := by decide +kernel
theorem dX11_lone_76 : decode cX11_lone 76 = .ok (.ifCond .ne 7, 3) := by decide +kernel
theorem dX11_lone_79 : decode cX11_lone 79 = .ok (.iload_n 2, 1) := by decide +kernel
theorem dX11_lone_80 : decode cX11_lone 80 = .ok (.goto 5, 3) := by decide +kernel
theorem dX11_lone_83 : decode cX11_lone 83 = .ok (.bipush (-3), 2) := by decide +kernel
theorem dX11_lone_85 : decode cX11_lone 85 = .ok (.ireturn, 1) := by decide +kernel
theorem dX11_liar_0 : decode cX11_liar 0 = .ok (.iconst 0, 1) := by decide +kernel
theorem dX11_liar_1 : decode cX11_liar 1 = .ok (.istore_n 1, 1) := by decide +kernel
theorem dX11_liar_2 : decode cX11_liar 2 = .ok (.iconst 0, 1) := by decide +kernel
theorem dX11_liar_3 : decode cX11_liar 3 = .ok (.istore_n 2, 1) := by decide +kernel
theorem dX11_liar_4 : decode cX11_liar 4 = .ok (.iload_n 2, 1) := by decide +kernel
theorem dX11_liar_5 : decode cX11_liar 5 = .ok (.sipush 500, 3) := by decide +kernel
theorem dX11_liar_8 : decode cX11_liar 8 = .ok (.if_icmp .ge 37, 3) := by decide +kernel
theorem dX11_liar_11 : decode cX11_liar 11 = .ok (.aload_n 0, 1) := by decide +kernel
theorem dX11_liar_12 : decode cX11_liar 12 = .ok (.getfield 81, 3) := by decide +kernel
theorem dX11_liar_15 : decode cX11_liar 15 = .ok (.iload_n 2, 1) := by decide +kernel
theorem dX11_liar_16 : decode cX11_liar 16 = .ok (.invokevirtual 273, 3) := by decide +kernel
theorem dX11_liar_19 : decode cX11_liar 19 = .ok (.istore_n 3, 1) := by decide +kernel
theorem dX11_liar_20 : decode cX11_liar 20 = .ok (.iload_n 3, 1) := by decide +kernel
theorem dX11_liar_21 : decode cX11_liar 21 = .ok (.ifCond .ne 6, 3) := by decide +kernel
theorem dX11_liar_24 : decode cX11_liar 24 = .ok (.bipush (-3), 2) := by decide +kernel
theorem dX11_liar_26 : decode cX11_liar 26 = .ok (.ireturn, 1) := by decide +kernel
theorem dX11_liar_27 : decode cX11_liar 27 = .ok (.iload_n 3, 1) := by decide +kernel
theorem dX11_liar_28 : decode cX11_liar 28 = .ok (.invokestatic 285, 3) := by decide +kernel
theorem dX11_liar_31 : decode cX11_liar 31 = .ok (.iconst 1, 1) := by decide +kernel
theorem dX11_liar_32 : decode cX11_liar 32 = .ok (.if_icmp .ne 7, 3) := by decide +kernel
theorem dX11_liar_35 : decode cX11_liar 35 = .ok (.iload_n 1, 1) := by decide +kernel
theorem dX11_liar_36 : decode cX11_liar 36 = .ok (.iload_n 3, 1) := by decide +kernel
theorem dX11_liar_37 : decode cX11_liar 37 = .ok (.ior, 1) := by decide +kernel
theorem dX11_liar_38 : decode cX11_liar 38 = .ok (.istore_n 1, 1) := by decide +kernel
theorem dX11_liar_39 : decode cX11_liar 39 = .ok (.iinc 2 1, 3) := by decide +kernel
theorem dX11_liar_42 : decode cX11_liar 42 = .ok (.goto (-38), 3) := by decide +kernel
theorem dX11_liar_45 : decode cX11_liar 45 = .ok (.iload_n 1, 1) := by decide +kernel
theorem dX11_liar_46 : decode cX11_liar 46 = .ok (.ifCond .ne 8, 3) := by decide +kernel
theorem dX11_liar_49 : decode cX11_liar 49 = .ok (.bipush (-3), 2) := by decide +kernel
theorem dX11_liar_51 : decode cX11_liar 51 = .ok (.goto 7, 3) := by decide +kernel
theorem dX11_liar_54 : decode cX11_liar 54 = .ok (.iload_n 1, 1) := by decide +kernel
theorem dX11_liar_55 : decode cX11_liar 55 = .ok (.invokestatic 247, 3) := by decide +kernel
theorem dX11_liar_58 : decode cX11_liar 58 = .ok (.ireturn, 1) := by decide +kernel
theorem dX11_seed_0 : decode cX11_seed 0 = .ok (.aload_n 0, 1) := by decide +kernel
theorem dX11_seed_1 : decode cX11_seed 1 = .ok (.getfield 81, 3) := by decide +kernel
theorem dX11_seed_4 : decode cX11_seed 4 = .ok (.getfield 288, 3) := by decide +kernel
theorem dX11_seed_7 : decode cX11_seed 7 = .ok (.istore_n 2, 1) := by decide +kernel
theorem dX11_seed_8 : decode cX11_seed 8 = .ok (.aload_n 0, 1) := by decide +kernel
theorem dX11_seed_9 : decode cX11_seed 9 = .ok (.getfield 81, 3) := by decide +kernel
theorem dX11_seed_12 : decode cX11_seed 12 = .ok (.iload_n 1, 1) := by decide +kernel
theorem dX11_seed_13 : decode cX11_seed 13 = .ok (.putfield 288, 3) := by decide +kernel
theorem dX11_seed_16 : decode cX11_seed 16 = .ok (.iload_n 2, 1) := by decide +kernel
theorem dX11_seed_17 : decode cX11_seed 17 = .ok (.ireturn, 1) := by decide +kernel
theorem dX11_lot_0 : decode cX11_lot 0 = .ok (.aload_n 0, 1) := by decide +kernel
theorem dX11_lot_1 : decode cX11_lot 1 = .ok (.getfield 81, 3) := by decide +kernel
theorem dX11_lot_4 : decode cX11_lot 4 = .ok (.aload_n 0, 1) := by decide +kernel
theorem dX11_lot_5 : decode cX11_lot 5 = .ok (.getfield 81, 3) := by decide +kernel
theorem dX11_lot_8 : decode cX11_lot 8 = .ok (.getfield 111, 3) := by decide +kernel
theorem dX11_lot_11 : decode cX11_lot 11 = .ok (.invokevirtual 170, 3) := by decide +kernel
theorem dX11_lot_14 : decode cX11_lot 14 = .ok (.ifCond .eq 6, 3) := by decide +kernel
theorem dX11_lot_17 : decode cX11_lot 17 = .ok (.bipush (-4), 2) := by decide +kernel
theorem dX11_lot_19 : decode cX11_lot 19 = .ok (.ireturn, 1) := by decide +kernel
theorem dX11_lot_20 : decode cX11_lot 20 = .ok (.aload_n 0, 1) := by decide +kernel
theorem dX11_lot_21 : decode cX11_lot 21 = .ok (.getfield 81, 3) := by decide +kernel
theorem dX11_lot_24 : decode cX11_lot 24 = .ok (.aload_n 0, 1) := by decide +kernel
theorem dX11_lot_25 : decode cX11_lot 25 = .ok (.getfield 81, 3) := by decide +kernel
theorem dX11_lot_28 : decode cX11_lot 28 = .ok (.getfield 288, 3) := by decide +kernel
theorem dX11_lot_31 : decode cX11_lot 31 = .ok (.invokestatic 291, 3) := by decide +kernel
theorem dX11_lot_34 : decode cX11_lot 34 = .ok (.putfield 288, 3) := by decide +kernel
theorem dX11_lot_37 : decode cX11_lot 37 = .ok (.aload_n 0, 1) := by decide +kernel
theorem dX11_lot_38 : decode cX11_lot 38 = .ok (.aload_n 0, 1) := by decide +kernel
theorem dX11_lot_39 : decode cX11_lot 39 = .ok (.aload_n 0, 1) := by decide +kernel
theorem dX11_lot_40 : decode cX11_lot 40 = .ok (.getfield 81, 3) := by decide +kernel
theorem dX11_lot_43 : decode cX11_lot 43 = .ok (.getfield 288, 3) := by decide +kernel
theorem dX11_lot_46 : decode cX11_lot 46 = .ok (.invokevirtual 294, 3) := by decide +kernel
theorem dX11_lot_49 : decode cX11_lot 49 = .ok (.invokevirtual 200, 3) := by decide +kernel
theorem dX11_lot_52 : decode cX11_lot 52 = .ok (.ireturn, 1) := by decide +kernel
theorem dX11_times_0 : decode cX11_times 0 = .ok (.iload_n 1, 1) := by decide +kernel
theorem dX11_times_1 : decode cX11_times 1 = .ok (.iconst 1, 1) := by decide +kernel
theorem dX11_times_2 : decode cX11_times 2 = .ok (.bipush 40, 2) := by decide +kernel
theorem dX11_times_4 : decode cX11_times 4 = .ok (.invokestatic 97, 3) := by decide +kernel
theorem dX11_times_7 : decode cX11_times 7 = .ok (.ifCond .eq 14, 3) := by decide +kernel
theorem dX11_times_10 : decode cX11_times 10 = .ok (.iload_n 2, 1) := by decide +kernel
theorem dX11_times_11 : decode cX11_times 11 = .ok (.iconst 0, 1) := by decide +kernel
theorem dX11_times_12 : decode cX11_times 12 = .ok (.sipush 999, 3) := by decide +kernel
theorem dX11_times_15 : decode cX11_times 15 = .ok (.invokestatic 97, 3) := by decide +kernel
theorem dX11_times_18 : decode cX11_times 18 = .ok (.ifCond .ne 5, 3) := by decide +kernel
theorem dX11_times_21 : decode cX11_times 21 = .ok (.iconst (-1), 1) := by decide +kernel
theorem dX11_times_22 : decode cX11_times 22 = .ok (.ireturn, 1) := by decide +kernel
theorem dX11_times_23 : decode cX11_times 23 = .ok (.aload_n 0, 1) := by decide +kernel
theorem dX11_times_24 : decode cX11_times 24 = .ok (.getfield 81, 3) := by decide +kernel
theorem dX11_times_27 : decode cX11_times 27 = .ok (.getfield 288, 3) := by decide +kernel
theorem dX11_times_30 : decode cX11_times 30 = .ok (.istore_n 3, 1) := by decide +kernel
theorem dX11_times_31 : decode cX11_times 31 = .ok (.iconst 0, 1) := by decide +kernel
theorem dX11_times_32 : decode cX11_times 32 = .ok (.istore 4, 2) := by decide +kernel
theorem dX11_times_34 : decode cX11_times 34 = .ok (.iconst 0, 1) := by decide +kernel
theorem dX11_times_35 : decode cX11_times 35 = .ok (.istore 5, 2) := by decide +kernel
theorem dX11_times_37 : decode cX11_times 37 = .ok (.iload 5, 2) := by decide +kernel
theorem dX11_times_39 : decode cX11_times 39 = .ok (.iload_n 1, 1) := by decide +kernel
theorem dX11_times_40 : decode cX11_times 40 = .ok (.if_icmp .ge 88, 3) := by decide +kernel
theorem dX11_times_43 : decode cX11_times 43 = .ok (.aload_n 0, 1) := by decide +kernel
theorem dX11_times_44 : decode cX11_times 44 = .ok (.getfield 10, 3) := by decide +kernel
theorem dX11_times_47 : decode cX11_times 47 = .ok (.aload_n 0, 1) := by decide +kernel
theorem dX11_times_48 : decode cX11_times 48 = .ok (.getfield 81, 3) := by decide +kernel
theorem dX11_times_51 : decode cX11_times 51 = .ok (.getfield 111, 3) := by decide +kernel
theorem dX11_times_54 : decode cX11_times 54 = .ok (.invokevirtual 203, 3) := by decide +kernel
theorem dX11_times_57 : decode cX11_times 57 = .ok (.iconst 0, 1) := by decide +kernel
theorem dX11_times_58 : decode cX11_times 58 = .ok (.istore 6, 2) := by decide +kernel
theorem dX11_times_60 : decode cX11_times 60 = .ok (.aload_n 0, 1) := by decide +kernel
theorem dX11_times_61 : decode cX11_times 61 = .ok (.getfield 10, 3) := by decide +kernel
theorem dX11_times_64 : decode cX11_times 64 = .ok (.getfield 161, 3) := by decide +kernel
theorem dX11_times_67 : decode cX11_times 67 = .ok (.istore 7, 2) := by decide +kernel
theorem dX11_times_69 : decode cX11_times 69 = .ok (.iload 7, 2) := by decide +kernel
theorem dX11_times_71 : decode cX11_times 71 = .ok (.aload_n 0, 1) := by decide +kernel
theorem dX11_times_72 : decode cX11_times 72 = .ok (.getfield 81, 3) := by decide +kernel
theorem dX11_times_75 : decode cX11_times 75 = .ok (.getfield 164, 3) := by decide +kernel
theorem dX11_times_78 : decode cX11_times 78 = .ok (.if_icmp .ge 35, 3) := by decide +kernel
theorem dX11_times_81 : decode cX11_times 81 = .ok (.iload_n 3, 1) := by decide +kernel
theorem dX11_times_82 : decode cX11_times 82 = .ok (.invokestatic 291, 3) := by decide +kernel
theorem dX11_times_85 : decode cX11_times 85 = .ok (.istore_n 3, 1) := by decide +kernel
theorem dX11_times_86 : decode cX11_times 86 = .ok (.iload 6, 2) := by decide +kernel
theorem dX11_times_88 : decode cX11_times 88 = .ok (.aload_n 0, 1) := by decide +kernel
theorem dX11_times_89 : decode cX11_times 89 = .ok (.getfield 81, 3) := by decide +kernel
theorem dX11_times_92 : decode cX11_times 92 = .ok (.aload_n 0, 1) := by decide +kernel
theorem dX11_times_93 : decode cX11_times 93 = .ok (.getfield 10, 3) := by decide +kernel
theorem dX11_times_96 : decode cX11_times 96 = .ok (.aload_n 0, 1) := by decide +kernel
theorem dX11_times_97 : decode cX11_times 97 = .ok (.iload_n 3, 1) := by decide +kernel
theorem dX11_times_98 : decode cX11_times 98 = .ok (.invokevirtual 294, 3) := by decide +kernel
theorem dX11_times_101 : decode cX11_times 101 = .ok (.invokevirtual 212, 3) := by decide +kernel
theorem dX11_times_104 : decode cX11_times 104 = .ok (.iadd, 1) := by decide +kernel
theorem dX11_times_105 : decode cX11_times 105 = .ok (.istore 6, 2) := by decide +kernel
theorem dX11_times_107 : decode cX11_times 107 = .ok (.iinc 7 1, 3) := by decide +kernel
theorem dX11_times_110 : decode cX11_times 110 = .ok (.goto (-41), 3) := by decide +kernel
theorem dX11_times_113 : decode cX11_times 113 = .ok (.iload 6, 2) := by decide +kernel
theorem dX11_times_115 : decode cX11_times 115 = .ok (.iload_n 2, 1) := by decide +kernel
theorem dX11_times_116 : decode cX11_times 116 = .ok (.if_icmp .lt 6, 3) := by decide +kernel
theorem dX11_times_119 : decode cX11_times 119 = .ok (.iinc 4 1, 3) := by decide +kernel
theorem dX11_times_122 : decode cX11_times 122 = .ok (.iinc 5 1, 3) := by decide +kernel
theorem dX11_times_125 : decode cX11_times 125 = .ok (.goto (-88), 3) := by decide +kernel
theorem dX11_times_128 : decode cX11_times 128 = .ok (.iload 4, 2) := by decide +kernel
theorem dX11_times_130 : decode cX11_times 130 = .ok (.ireturn, 1) := by decide +kernel
theorem dX11_prove_0 : decode cX11_prove 0 = .ok (.iload_n 1, 1) := by decide +kernel
theorem dX11_prove_1 : decode cX11_prove 1 = .ok (.iconst 0, 1) := by decide +kernel
theorem dX11_prove_2 : decode cX11_prove 2 = .ok (.iconst 4, 1) := by decide +kernel
theorem dX11_prove_3 : decode cX11_prove 3 = .ok (.invokestatic 97, 3) := by decide +kernel
theorem dX11_prove_6 : decode cX11_prove 6 = .ok (.ifCond .ne 5, 3) := by decide +kernel
theorem dX11_prove_9 : decode cX11_prove 9 = .ok (.iconst (-1), 1) := by decide +kernel
theorem dX11_prove_10 : decode cX11_prove 10 = .ok (.ireturn, 1) := by decide +kernel
theorem dX11_prove_11 : decode cX11_prove 11 = .ok (.aload_n 0, 1) := by decide +kernel
theorem dX11_prove_12 : decode cX11_prove 12 = .ok (.getfield 93, 3) := by decide +kernel
theorem dX11_prove_15 : decode cX11_prove 15 = .ok (.iload_n 1, 1) := by decide +kernel
theorem dX11_prove_16 : decode cX11_prove 16 = .ok (.iconst 0, 1) := by decide +kernel
theorem dX11_prove_17 : decode cX11_prove 17 = .ok (.invokevirtual 222, 3) := by decide +kernel
theorem dX11_prove_20 : decode cX11_prove 20 = .ok (.aload_n 0, 1) := by decide +kernel
theorem dX11_prove_21 : decode cX11_prove 21 = .ok (.aload_n 0, 1) := by decide +kernel
theorem dX11_prove_22 : decode cX11_prove 22 = .ok (.getfield 93, 3) := by decide +kernel
theorem dX11_prove_25 : decode cX11_prove 25 = .ok (.iload_n 1, 1) := by decide +kernel
theorem dX11_prove_26 : decode cX11_prove 26 = .ok (.invokevirtual 229, 3) := by decide +kernel
theorem dX11_prove_29 : decode cX11_prove 29 = .ok (.putfield 297, 3) := by decide +kernel
theorem dX11_prove_32 : decode cX11_prove 32 = .ok (.aload_n 0, 1) := by decide +kernel
theorem dX11_prove_33 : decode cX11_prove 33 = .ok (.getfield 10, 3) := by decide +kernel
theorem dX11_prove_36 : decode cX11_prove 36 = .ok (.aload_n 0, 1) := by decide +kernel
theorem dX11_prove_37 : decode cX11_prove 37 = .ok (.getfield 81, 3) := by decide +kernel
theorem dX11_prove_40 : decode cX11_prove 40 = .ok (.getfield 111, 3) := by decide +kernel
theorem dX11_prove_43 : decode cX11_prove 43 = .ok (.invokevirtual 203, 3) := by decide +kernel
theorem dX11_prove_46 : decode cX11_prove 46 = .ok (.iconst 0, 1) := by decide +kernel
theorem dX11_prove_47 : decode cX11_prove 47 = .ok (.istore_n 2, 1) := by decide +kernel
theorem dX11_prove_48 : decode cX11_prove 48 = .ok (.iload_n 2, 1) := by decide +kernel
theorem dX11_prove_49 : decode cX11_prove 49 = .ok (.aload_n 0, 1) := by decide +kernel
theorem dX11_prove_50 : decode cX11_prove 50 = .ok (.getfield 297, 3) := by decide +kernel
theorem dX11_prove_53 : decode cX11_prove 53 = .ok (.if_icmp .ge 73, 3) := by decide +kernel
theorem dX11_prove_56 : decode cX11_prove 56 = .ok (.aload_n 0, 1) := by decide +kernel
theorem dX11_prove_57 : decode cX11_prove 57 = .ok (.getfield 34, 3) := by decide +kernel
theorem dX11_prove_60 : decode cX11_prove 60 = .ok (.iconst 3, 1) := by decide +kernel
theorem dX11_prove_61 : decode cX11_prove 61 = .ok (.iload_n 2, 1) := by decide +kernel
theorem dX11_prove_62 : decode cX11_prove 62 = .ok (.imul, 1) := by decide +kernel
theorem dX11_prove_63 : decode cX11_prove 63 = .ok (.aload_n 0, 1) := by decide +kernel
theorem dX11_prove_64 : decode cX11_prove 64 = .ok (.getfield 93, 3) := by decide +kernel
theorem dX11_prove_67 : decode cX11_prove 67 = .ok (.getfield 232, 3) := by decide +kernel
theorem dX11_prove_70 : decode cX11_prove 70 = .ok (.iload_n 2, 1) := by decide +kernel
theorem dX11_prove_71 : decode cX11_prove 71 = .ok (.iaload, 1) := by decide +kernel
theorem dX11_prove_72 : decode cX11_prove 72 = .ok (.iastore, 1) := by decide +kernel
theorem dX11_prove_73 : decode cX11_prove 73 = .ok (.aload_n 0, 1) := by decide +kernel
theorem dX11_prove_74 : decode cX11_prove 74 = .ok (.getfield 34, 3) := by decide +kernel
theorem dX11_prove_77 : decode cX11_prove 77 = .ok (.iconst 3, 1) := by decide +kernel
theorem dX11_prove_78 : decode cX11_prove 78 = .ok (.iload_n 2, 1) := by decide +kernel
theorem dX11_prove_79 : decode cX11_prove 79 = .ok (.imul, 1) := by decide +kernel
theorem dX11_prove_80 : decode cX11_prove 80 = .ok (.iconst 1, 1) := by decide +kernel
theorem dX11_prove_81 : decode cX11_prove 81 = .ok (.iadd, 1) := by decide +kernel
theorem dX11_prove_82 : decode cX11_prove 82 = .ok (.aload_n 0, 1) := by decide +kernel
theorem dX11_prove_83 : decode cX11_prove 83 = .ok (.getfield 81, 3) := by decide +kernel
theorem dX11_prove_86 : decode cX11_prove 86 = .ok (.aload_n 0, 1) := by decide +kernel
theorem dX11_prove_87 : decode cX11_prove 87 = .ok (.getfield 10, 3) := by decide +kernel
theorem dX11_prove_90 : decode cX11_prove 90 = .ok (.aload_n 0, 1) := by decide +kernel
theorem dX11_prove_91 : decode cX11_prove 91 = .ok (.getfield 93, 3) := by decide +kernel
theorem dX11_prove_94 : decode cX11_prove 94 = .ok (.getfield 232, 3) := by decide +kernel
theorem dX11_prove_97 : decode cX11_prove 97 = .ok (.iload_n 2, 1) := by decide +kernel
theorem dX11_prove_98 : decode cX11_prove 98 = .ok (.iaload, 1) := by decide +kernel
theorem dX11_prove_99 : decode cX11_prove 99 = .ok (.invokevirtual 212, 3) := by decide +kernel
theorem dX11_prove_102 : decode cX11_prove 102 = .ok (.iastore, 1) := by decide +kernel
theorem dX11_prove_103 : decode cX11_prove 103 = .ok (.aload_n 0, 1) := by decide +kernel
theorem dX11_prove_104 : decode cX11_prove 104 = .ok (.getfield 34, 3) := by decide +kernel
theorem dX11_prove_107 : decode cX11_prove 107 = .ok (.iconst 3, 1) := by decide +kernel
theorem dX11_prove_108 : decode cX11_prove 108 = .ok (.iload_n 2, 1) := by decide +kernel
theorem dX11_prove_109 : decode cX11_prove 109 = .ok (.imul, 1) := by decide +kernel
theorem dX11_prove_110 : decode cX11_prove 110 = .ok (.iconst 2, 1) := by decide +kernel
theorem dX11_prove_111 : decode cX11_prove 111 = .ok (.iadd, 1) := by decide +kernel
theorem dX11_prove_112 : decode cX11_prove 112 = .ok (.aload_n 0, 1) := by decide +kernel
theorem dX11_prove_113 : decode cX11_prove 113 = .ok (.getfield 10, 3) := by decide +kernel
theorem dX11_prove_116 : decode cX11_prove 116 = .ok (.getfield 128, 3) := by decide +kernel
theorem dX11_prove_119 : decode cX11_prove 119 = .ok (.iastore, 1) := by decide +kernel
theorem dX11_prove_120 : decode cX11_prove 120 = .ok (.iinc 2 1, 3) := by decide +kernel
theorem dX11_prove_123 : decode cX11_prove 123 = .ok (.goto (-75), 3) := by decide +kernel
theorem dX11_prove_126 : decode cX11_prove 126 = .ok (.aload_n 0, 1) := by decide +kernel
theorem dX11_prove_127 : decode cX11_prove 127 = .ok (.getfield 297, 3) := by decide +kernel
theorem dX11_prove_130 : decode cX11_prove 130 = .ok (.ireturn, 1) := by decide +kernel
theorem dX11_row_0 : decode cX11_row 0 = .ok (.aload_n 0, 1) := by decide +kernel
theorem dX11_row_1 : decode cX11_row 1 = .ok (.iload_n 1, 1) := by decide +kernel
theorem dX11_row_2 : decode cX11_row 2 = .ok (.iload_n 2, 1) := by decide +kernel
theorem dX11_row_3 : decode cX11_row 3 = .ok (.invokevirtual 300, 3) := by decide +kernel
theorem dX11_row_6 : decode cX11_row 6 = .ok (.ifCond .eq 16, 3) := by decide +kernel
theorem dX11_row_9 : decode cX11_row 9 = .ok (.aload_n 0, 1) := by decide +kernel
theorem dX11_row_10 : decode cX11_row 10 = .ok (.getfield 34, 3) := by decide +kernel
theorem dX11_row_13 : decode cX11_row 13 = .ok (.iconst 3, 1) := by decide +kernel
theorem dX11_row_14 : decode cX11_row 14 = .ok (.iload_n 1, 1) := by decide +kernel
theorem dX11_row_15 : decode cX11_row 15 = .ok (.imul, 1) := by decide +kernel
theorem dX11_row_16 : decode cX11_row 16 = .ok (.iload_n 2, 1) := by decide +kernel
theorem dX11_row_17 : decode cX11_row 17 = .ok (.iadd, 1) := by decide +kernel
theorem dX11_row_18 : decode cX11_row 18 = .ok (.iaload, 1) := by decide +kernel
theorem dX11_row_19 : decode cX11_row 19 = .ok (.goto 5, 3) := by decide +kernel
theorem dX11_row_22 : decode cX11_row 22 = .ok (.bipush (-9), 2) := by decide +kernel
theorem dX11_row_24 : decode cX11_row 24 = .ok (.ireturn, 1) := by decide +kernel
theorem dX11_alterRow_0 : decode cX11_alterRow 0 = .ok (.aload_n 0, 1) := by decide +kernel
theorem dX11_alterRow_1 : decode cX11_alterRow 1 = .ok (.iload_n 1, 1) := by decide +kernel
theorem dX11_alterRow_2 : decode cX11_alterRow 2 = .ok (.iload_n 2, 1) := by decide +kernel
theorem dX11_alterRow_3 : decode cX11_alterRow 3 = .ok (.invokevirtual 300, 3) := by decide +kernel
theorem dX11_alterRow_6 : decode cX11_alterRow 6 = .ok (.ifCond .eq 19, 3) := by decide +kernel
theorem dX11_alterRow_9 : decode cX11_alterRow 9 = .ok (.aload_n 0, 1) := by decide +kernel
theorem dX11_alterRow_10 : decode cX11_alterRow 10 = .ok (.getfield 34, 3) := by decide +kernel
theorem dX11_alterRow_13 : decode cX11_alterRow 13 = .ok (.iconst 3, 1) := by decide +kernel
theorem dX11_alterRow_14 : decode cX11_alterRow 14 = .ok (.iload_n 1, 1) := by decide +kernel
theorem dX11_alterRow_15 : decode cX11_alterRow 15 = .ok (.imul, 1) := by decide +kernel
theorem dX11_alterRow_16 : decode cX11_alterRow 16 = .ok (.iload_n 2, 1) := by decide +kernel
theorem dX11_alterRow_17 : decode cX11_alterRow 17 = .ok (.iadd, 1) := by decide +kernel
theorem dX11_alterRow_18 : decode cX11_alterRow 18 = .ok (.iload_n 3, 1) := by decide +kernel
theorem dX11_alterRow_19 : decode cX11_alterRow 19 = .ok (.invokestatic 148, 3) := by decide +kernel
theorem dX11_alterRow_22 : decode cX11_alterRow 22 = .ok (.goto 5, 3) := by decide +kernel
theorem dX11_alterRow_25 : decode cX11_alterRow 25 = .ok (.bipush (-9), 2) := by decide +kernel
theorem dX11_alterRow_27 : decode cX11_alterRow 27 = .ok (.ireturn, 1) := by decide +kernel
theorem dX11_judge_0 : decode cX11_judge 0 = .ok (.aload_n 0, 1) := by decide +kernel
theorem dX11_judge_1 : decode cX11_judge 1 = .ok (.getfield 10, 3) := by decide +kernel
theorem dX11_judge_4 : decode cX11_judge 4 = .ok (.aload_n 0, 1) := by decide +kernel
theorem dX11_judge_5 : decode cX11_judge 5 = .ok (.getfield 81, 3) := by decide +kernel
theorem dX11_judge_8 : decode cX11_judge 8 = .ok (.getfield 111, 3) := by decide +kernel
theorem dX11_judge_11 : decode cX11_judge 11 = .ok (.invokevirtual 203, 3) := by decide +kernel
theorem dX11_judge_14 : decode cX11_judge 14 = .ok (.iconst 0, 1) := by decide +kernel
theorem dX11_judge_15 : decode cX11_judge 15 = .ok (.istore_n 1, 1) := by decide +kernel
theorem dX11_judge_16 : decode cX11_judge 16 = .ok (.iload_n 1, 1) := by decide +kernel
theorem dX11_judge_17 : decode cX11_judge 17 = .ok (.aload_n 0, 1) := by decide +kernel
theorem dX11_judge_18 : decode cX11_judge 18 = .ok (.getfield 297, 3) := by decide +kernel
theorem dX11_judge_21 : decode cX11_judge 21 = .ok (.if_icmp .ge 95, 3) := by decide +kernel
theorem dX11_judge_24 : decode cX11_judge 24 = .ok (.aload_n 0, 1) := by decide +kernel
theorem dX11_judge_25 : decode cX11_judge 25 = .ok (.getfield 34, 3) := by decide +kernel
theorem dX11_judge_28 : decode cX11_judge 28 = .ok (.iconst 3, 1) := by decide +kernel
theorem dX11_judge_29 : decode cX11_judge 29 = .ok (.iload_n 1, 1) := by decide +kernel
theorem dX11_judge_30 : decode cX11_judge 30 = .ok (.imul, 1) := by decide +kernel
theorem dX11_judge_31 : decode cX11_judge 31 = .ok (.iaload, 1) := by decide +kernel
theorem dX11_judge_32 : decode cX11_judge 32 = .ok (.istore_n 2, 1) := by decide +kernel
theorem dX11_judge_33 : decode cX11_judge 33 = .ok (.aload_n 0, 1) := by decide +kernel
theorem dX11_judge_34 : decode cX11_judge 34 = .ok (.getfield 81, 3) := by decide +kernel
theorem dX11_judge_37 : decode cX11_judge 37 = .ok (.aload_n 0, 1) := by decide +kernel
theorem dX11_judge_38 : decode cX11_judge 38 = .ok (.getfield 10, 3) := by decide +kernel
theorem dX11_judge_41 : decode cX11_judge 41 = .ok (.invokevirtual 170, 3) := by decide +kernel
theorem dX11_judge_44 : decode cX11_judge 44 = .ok (.ifCond .ne 11, 3) := by decide +kernel
theorem dX11_judge_47 : decode cX11_judge 47 = .ok (.aload_n 0, 1) := by decide +kernel
theorem dX11_judge_48 : decode cX11_judge 48 = .ok (.iload_n 2, 1) := by decide +kernel
theorem dX11_judge_49 : decode cX11_judge 49 = .ok (.invokevirtual 304, 3) := by decide +kernel
theorem dX11_judge_52 : decode cX11_judge 52 = .ok (.ifCond .ne 7, 3) := by decide +kernel
theorem dX11_judge_55 : decode cX11_judge 55 = .ok (.iload_n 1, 1) := by decide +kernel
theorem dX11_judge_56 : decode cX11_judge 56 = .ok (.iconst 1, 1) := by decide +kernel
theorem dX11_judge_57 : decode cX11_judge 57 = .ok (.iadd, 1) := by decide +kernel
theorem dX11_judge_58 : decode cX11_judge 58 = .ok (.ireturn, 1) := by decide +kernel
theorem dX11_judge_59 : decode cX11_judge 59 = .ok (.aload_n 0, 1) := by decide +kernel
theorem dX11_judge_60 : decode cX11_judge 60 = .ok (.getfield 81, 3) := by decide +kernel
theorem dX11_judge_63 : decode cX11_judge 63 = .ok (.aload_n 0, 1) := by decide +kernel
theorem dX11_judge_64 : decode cX11_judge 64 = .ok (.getfield 10, 3) := by decide +kernel
theorem dX11_judge_67 : decode cX11_judge 67 = .ok (.iload_n 2, 1) := by decide +kernel
theorem dX11_judge_68 : decode cX11_judge 68 = .ok (.invokevirtual 212, 3) := by decide +kernel
theorem dX11_judge_71 : decode cX11_judge 71 = .ok (.istore_n 3, 1) := by decide +kernel
theorem dX11_judge_72 : decode cX11_judge 72 = .ok (.iload_n 3, 1) := by decide +kernel
theorem dX11_judge_73 : decode cX11_judge 73 = .ok (.aload_n 0, 1) := by decide +kernel
theorem dX11_judge_74 : decode cX11_judge 74 = .ok (.getfield 34, 3) := by decide +kernel
theorem dX11_judge_77 : decode cX11_judge 77 = .ok (.iconst 3, 1) := by decide +kernel
theorem dX11_judge_78 : decode cX11_judge 78 = .ok (.iload_n 1, 1) := by decide +kernel
theorem dX11_judge_79 : decode cX11_judge 79 = .ok (.imul, 1) := by decide +kernel
theorem dX11_judge_80 : decode cX11_judge 80 = .ok (.iconst 1, 1) := by decide +kernel
theorem dX11_judge_81 : decode cX11_judge 81 = .ok (.iadd, 1) := by decide +kernel
theorem dX11_judge_82 : decode cX11_judge 82 = .ok (.iaload, 1) := by decide +kernel
theorem dX11_judge_83 : decode cX11_judge 83 = .ok (.if_icmp .ne 23, 3) := by decide +kernel
theorem dX11_judge_86 : decode cX11_judge 86 = .ok (.aload_n 0, 1) := by decide +kernel
theorem dX11_judge_87 : decode cX11_judge 87 = .ok (.getfield 10, 3) := by decide +kernel
theorem dX11_judge_90 : decode cX11_judge 90 = .ok (.getfield 128, 3) := by decide +kernel
theorem dX11_judge_93 : decode cX11_judge 93 = .ok (.aload_n 0, 1) := by decide +kernel
theorem dX11_judge_94 : decode cX11_judge 94 = .ok (.getfield 34, 3) := by decide +kernel
theorem dX11_judge_97 : decode cX11_judge 97 = .ok (.iconst 3, 1) := by decide +kernel
theorem dX11_judge_98 : decode cX11_judge 98 = .ok (.iload_n 1, 1) := by decide +kernel
theorem dX11_judge_99 : decode cX11_judge 99 = .ok (.imul, 1) := by decide +kernel
theorem dX11_judge_100 : decode cX11_judge 100 = .ok (.iconst 2, 1) := by decide +kernel
theorem dX11_judge_101 : decode cX11_judge 101 = .ok (.iadd, 1) := by decide +kernel
theorem dX11_judge_102 : decode cX11_judge 102 = .ok (.iaload, 1) := by decide +kernel
theorem dX11_judge_103 : decode cX11_judge 103 = .ok (.if_icmp .eq 7, 3) := by decide +kernel
theorem dX11_judge_106 : decode cX11_judge 106 = .ok (.iload_n 1, 1) := by decide +kernel
theorem dX11_judge_107 : decode cX11_judge 107 = .ok (.iconst 1, 1) := by decide +kernel
theorem dX11_judge_108 : decode cX11_judge 108 = .ok (.iadd, 1) := by decide +kernel
theorem dX11_judge_109 : decode cX11_judge 109 = .ok (.ireturn, 1) := by decide +kernel
theorem dX11_judge_110 : decode cX11_judge 110 = .ok (.iinc 1 1, 3) := by decide +kernel
theorem dX11_judge_113 : decode cX11_judge 113 = .ok (.goto (-97), 3) := by decide +kernel
theorem dX11_judge_116 : decode cX11_judge 116 = .ok (.iconst 0, 1) := by decide +kernel
theorem dX11_judge_117 : decode cX11_judge 117 = .ok (.ireturn, 1) := by decide +kernel
theorem dX11_sheet_0 : decode cX11_sheet 0 = .ok (.iload_n 1, 1) := by decide +kernel
theorem dX11_sheet_1 : decode cX11_sheet 1 = .ok (.invokestatic 307, 3) := by decide +kernel
theorem dX11_sheet_4 : decode cX11_sheet 4 = .ok (.ifCond .eq 12, 3) := by decide +kernel
theorem dX11_sheet_7 : decode cX11_sheet 7 = .ok (.iload_n 2, 1) := by decide +kernel
theorem dX11_sheet_8 : decode cX11_sheet 8 = .ok (.iconst (-1), 1) := by decide +kernel
theorem dX11_sheet_9 : decode cX11_sheet 9 = .ok (.iconst 4, 1) := by decide +kernel
theorem dX11_sheet_10 : decode cX11_sheet 10 = .ok (.invokestatic 97, 3) := by decide +kernel
theorem dX11_sheet_13 : decode cX11_sheet 13 = .ok (.ifCond .ne 5, 3) := by decide +kernel
theorem dX11_sheet_16 : decode cX11_sheet 16 = .ok (.iconst (-1), 1) := by decide +kernel
theorem dX11_sheet_17 : decode cX11_sheet 17 = .ok (.ireturn, 1) := by decide +kernel
theorem dX11_sheet_18 : decode cX11_sheet 18 = .ok (.iload_n 2, 1) := by decide +kernel
theorem dX11_sheet_19 : decode cX11_sheet 19 = .ok (.iconst (-1), 1) := by decide +kernel
theorem dX11_sheet_20 : decode cX11_sheet 20 = .ok (.if_icmp .eq 11, 3) := by decide +kernel
theorem dX11_sheet_23 : decode cX11_sheet 23 = .ok (.iload_n 3, 1) := by decide +kernel
theorem dX11_sheet_24 : decode cX11_sheet 24 = .ok (.bipush 40, 2) := by decide +kernel
theorem dX11_sheet_26 : decode cX11_sheet 26 = .ok (.if_icmp .le 5, 3) := by decide +kernel
theorem dX11_sheet_29 : decode cX11_sheet 29 = .ok (.iconst (-1), 1) := by decide +kernel
theorem dX11_sheet_30 : decode cX11_sheet 30 = .ok (.ireturn, 1) := by decide +kernel
theorem dX11_sheet_31 : decode cX11_sheet 31 = .ok (.iload_n 2, 1) := by decide +kernel
theorem dX11_sheet_32 : decode cX11_sheet 32 = .ok (.iconst (-1), 1) := by decide +kernel
theorem dX11_sheet_33 : decode cX11_sheet 33 = .ok (.if_icmp .eq 10, 3) := by decide +kernel
theorem dX11_sheet_36 : decode cX11_sheet 36 = .ok (.iload_n 3, 1) := by decide +kernel
theorem dX11_sheet_37 : decode cX11_sheet 37 = .ok (.ifCond .ge 6, 3) := by decide +kernel
theorem dX11_sheet_40 : decode cX11_sheet 40 = .ok (.bipush (-14), 2) := by decide +kernel
theorem dX11_sheet_42 : decode cX11_sheet 42 = .ok (.ireturn, 1) := by decide +kernel
theorem dX11_sheet_43 : decode cX11_sheet 43 = .ok (.aload_n 0, 1) := by decide +kernel
theorem dX11_sheet_44 : decode cX11_sheet 44 = .ok (.getfield 38, 3) := by decide +kernel
theorem dX11_sheet_47 : decode cX11_sheet 47 = .ok (.iload_n 1, 1) := by decide +kernel
theorem dX11_sheet_48 : decode cX11_sheet 48 = .ok (.iload_n 2, 1) := by decide +kernel
theorem dX11_sheet_49 : decode cX11_sheet 49 = .ok (.iastore, 1) := by decide +kernel
theorem dX11_sheet_50 : decode cX11_sheet 50 = .ok (.aload_n 0, 1) := by decide +kernel
theorem dX11_sheet_51 : decode cX11_sheet 51 = .ok (.getfield 41, 3) := by decide +kernel
theorem dX11_sheet_54 : decode cX11_sheet 54 = .ok (.iload_n 1, 1) := by decide +kernel
theorem dX11_sheet_55 : decode cX11_sheet 55 = .ok (.iload_n 2, 1) := by decide +kernel
theorem dX11_sheet_56 : decode cX11_sheet 56 = .ok (.iconst (-1), 1) := by decide +kernel
theorem dX11_sheet_57 : decode cX11_sheet 57 = .ok (.if_icmp .ne 7, 3) := by decide +kernel
theorem dX11_sheet_60 : decode cX11_sheet 60 = .ok (.iconst 0, 1) := by decide +kernel
theorem dX11_sheet_61 : decode cX11_sheet 61 = .ok (.goto 4, 3) := by decide +kernel
theorem dX11_sheet_64 : decode cX11_sheet 64 = .ok (.iload_n 3, 1) := by decide +kernel
theorem dX11_sheet_65 : decode cX11_sheet 65 = .ok (.iastore, 1) := by decide +kernel
theorem dX11_sheet_66 : decode cX11_sheet 66 = .ok (.iconst 0, 1) := by decide +kernel
theorem dX11_sheet_67 : decode cX11_sheet 67 = .ok (.istore 4, 2) := by decide +kernel
theorem dX11_sheet_69 : decode cX11_sheet 69 = .ok (.iload 4, 2) := by decide +kernel
theorem dX11_sheet_71 : decode cX11_sheet 71 = .ok (.bipush 40, 2) := by decide +kernel
theorem dX11_sheet_73 : decode cX11_sheet 73 = .ok (.if_icmp .ge 19, 3) := by decide +kernel
theorem dX11_sheet_76 : decode cX11_sheet 76 = .ok (.aload_n 0, 1) := by decide +kernel
theorem dX11_sheet_77 : decode cX11_sheet 77 = .ok (.getfield 46, 3) := by decide +kernel
theorem dX11_sheet_80 : decode cX11_sheet 80 = .ok (.iload_n 1, 1) := by decide +kernel
theorem dX11_sheet_81 : decode cX11_sheet 81 = .ok (.aaload, 1) := by decide +kernel
theorem dX11_sheet_82 : decode cX11_sheet 82 = .ok (.iload 4, 2) := by decide +kernel
theorem dX11_sheet_84 : decode cX11_sheet 84 = .ok (.iconst 0, 1) := by decide +kernel
theorem dX11_sheet_85 : decode cX11_sheet 85 = .ok (.iastore, 1) := by decide +kernel
theorem dX11_sheet_86 : decode cX11_sheet 86 = .ok (.iinc 4 1, 3) := by decide +kernel
theorem dX11_sheet_89 : decode cX11_sheet 89 = .ok (.goto (-20), 3) := by decide +kernel
theorem dX11_sheet_92 : decode cX11_sheet 92 = .ok (.iconst 1, 1) := by decide +kernel
theorem dX11_sheet_93 : decode cX11_sheet 93 = .ok (.ireturn, 1) := by decide +kernel
theorem dX11_write_0 : decode cX11_write 0 = .ok (.iload_n 1, 1) := by decide +kernel
theorem dX11_write_1 : decode cX11_write 1 = .ok (.invokestatic 307, 3) := by decide +kernel
theorem dX11_write_4 : decode cX11_write 4 = .ok (.ifCond .ne 5, 3) := by decide +kernel
theorem dX11_write_7 : decode cX11_write 7 = .ok (.iconst (-1), 1) := by decide +kernel
theorem dX11_write_8 : decode cX11_write 8 = .ok (.ireturn, 1) := by decide +kernel
theorem dX11_write_9 : decode cX11_write 9 = .ok (.aload_n 0, 1) := by decide +kernel
theorem dX11_write_10 : decode cX11_write 10 = .ok (.getfield 38, 3) := by decide +kernel
theorem dX11_write_13 : decode cX11_write 13 = .ok (.iload_n 1, 1) := by decide +kernel
theorem dX11_write_14 : decode cX11_write 14 = .ok (.iaload, 1) := by decide +kernel
theorem dX11_write_15 : decode cX11_write 15 = .ok (.iconst (-1), 1) := by decide +kernel
theorem dX11_write_16 : decode cX11_write 16 = .ok (.if_icmp .ne 6, 3) := by decide +kernel
theorem dX11_write_19 : decode cX11_write 19 = .ok (.bipush (-11), 2) := by decide +kernel
theorem dX11_write_21 : decode cX11_write 21 = .ok (.ireturn, 1) := by decide +kernel
theorem dX11_write_22 : decode cX11_write 22 = .ok (.iload_n 2, 1) := by decide +kernel
theorem dX11_write_23 : decode cX11_write 23 = .ok (.iconst 0, 1) := by decide +kernel
theorem dX11_write_24 : decode cX11_write 24 = .ok (.aload_n 0, 1) := by decide +kernel
theorem dX11_write_25 : decode cX11_write 25 = .ok (.getfield 41, 3) := by decide +kernel
theorem dX11_write_28 : decode cX11_write 28 = .ok (.iload_n 1, 1) := by decide +kernel
theorem dX11_write_29 : decode cX11_write 29 = .ok (.iaload, 1) := by decide +kernel
theorem dX11_write_30 : decode cX11_write 30 = .ok (.iconst 1, 1) := by decide +kernel
theorem dX11_write_31 : decode cX11_write 31 = .ok (.isub, 1) := by decide +kernel
theorem dX11_write_32 : decode cX11_write 32 = .ok (.invokestatic 97, 3) := by decide +kernel
theorem dX11_write_35 : decode cX11_write 35 = .ok (.ifCond .ne 6, 3) := by decide +kernel
theorem dX11_write_38 : decode cX11_write 38 = .ok (.bipush (-12), 2) := by decide +kernel
theorem dX11_write_40 : decode cX11_write 40 = .ok (.ireturn, 1) := by decide +kernel
theorem dX11_write_41 : decode cX11_write 41 = .ok (.aload_n 0, 1) := by decide +kernel
theorem dX11_write_42 : decode cX11_write 42 = .ok (.getfield 46, 3) := by decide +kernel
theorem dX11_write_45 : decode cX11_write 45 = .ok (.iload_n 1, 1) := by decide +kernel
theorem dX11_write_46 : decode cX11_write 46 = .ok (.aaload, 1) := by decide +kernel
theorem dX11_write_47 : decode cX11_write 47 = .ok (.iload_n 2, 1) := by decide +kernel
theorem dX11_write_48 : decode cX11_write 48 = .ok (.iload_n 3, 1) := by decide +kernel
theorem dX11_write_49 : decode cX11_write 49 = .ok (.aload_n 0, 1) := by decide +kernel
theorem dX11_write_50 : decode cX11_write 50 = .ok (.getfield 38, 3) := by decide +kernel
theorem dX11_write_53 : decode cX11_write 53 = .ok (.iload_n 1, 1) := by decide +kernel
theorem dX11_write_54 : decode cX11_write 54 = .ok (.iaload, 1) := by decide +kernel
theorem dX11_write_55 : decode cX11_write 55 = .ok (.invokestatic 310, 3) := by decide +kernel
theorem dX11_write_58 : decode cX11_write 58 = .ok (.iastore, 1) := by decide +kernel
theorem dX11_write_59 : decode cX11_write 59 = .ok (.iconst 1, 1) := by decide +kernel
theorem dX11_write_60 : decode cX11_write 60 = .ok (.ireturn, 1) := by decide +kernel
theorem dX11_item_0 : decode cX11_item 0 = .ok (.iload_n 1, 1) := by decide +kernel
theorem dX11_item_1 : decode cX11_item 1 = .ok (.invokestatic 307, 3) := by decide +kernel
theorem dX11_item_4 : decode cX11_item 4 = .ok (.ifCond .eq 12, 3) := by decide +kernel
theorem dX11_item_7 : decode cX11_item 7 = .ok (.iload_n 2, 1) := by decide +kernel
theorem dX11_item_8 : decode cX11_item 8 = .ok (.iconst 0, 1) := by decide +kernel
theorem dX11_item_9 : decode cX11_item 9 = .ok (.iconst 4, 1) := by decide +kernel
theorem dX11_item_10 : decode cX11_item 10 = .ok (.invokestatic 97, 3) := by decide +kernel
theorem dX11_item_13 : decode cX11_item 13 = .ok (.ifCond .ne 5, 3) := by decide +kernel
theorem dX11_item_16 : decode cX11_item 16 = .ok (.iconst (-1), 1) := by decide +kernel
theorem dX11_item_17 : decode cX11_item 17 = .ok (.ireturn, 1) := by decide +kernel
theorem dX11_item_18 : decode cX11_item 18 = .ok (.aload_n 0, 1) := by decide +kernel
theorem dX11_item_19 : decode cX11_item 19 = .ok (.iload_n 1, 1) := by decide +kernel
theorem dX11_item_20 : decode cX11_item 20 = .ok (.iload_n 2, 1) := by decide +kernel
theorem dX11_item_21 : decode cX11_item 21 = .ok (.invokevirtual 313, 3) := by decide +kernel
theorem dX11_item_24 : decode cX11_item 24 = .ok (.istore 4, 2) := by decide +kernel
theorem dX11_item_26 : decode cX11_item 26 = .ok (.iload 4, 2) := by decide +kernel
theorem dX11_item_28 : decode cX11_item 28 = .ok (.ifCond .eq 6, 3) := by decide +kernel
theorem dX11_item_31 : decode cX11_item 31 = .ok (.iload 4, 2) := by decide +kernel
theorem dX11_item_33 : decode cX11_item 33 = .ok (.ireturn, 1) := by decide +kernel
theorem dX11_item_34 : decode cX11_item 34 = .ok (.iload_n 3, 1) := by decide +kernel
theorem dX11_item_35 : decode cX11_item 35 = .ok (.iconst 0, 1) := by decide +kernel
theorem dX11_item_36 : decode cX11_item 36 = .ok (.aload_n 0, 1) := by decide +kernel
theorem dX11_item_37 : decode cX11_item 37 = .ok (.getfield 41, 3) := by decide +kernel
theorem dX11_item_40 : decode cX11_item 40 = .ok (.iload_n 1, 1) := by decide +kernel
theorem dX11_item_41 : decode cX11_item 41 = .ok (.iaload, 1) := by decide +kernel
theorem dX11_item_42 : decode cX11_item 42 = .ok (.iconst 1, 1) := by decide +kernel
theorem dX11_item_43 : decode cX11_item 43 = .ok (.isub, 1) := by decide +kernel
theorem dX11_item_44 : decode cX11_item 44 = .ok (.invokestatic 97, 3) := by decide +kernel
theorem dX11_item_47 : decode cX11_item 47 = .ok (.ifCond .eq 14, 3) := by decide +kernel
theorem dX11_item_50 : decode cX11_item 50 = .ok (.aload_n 0, 1) := by decide +kernel
theorem dX11_item_51 : decode cX11_item 51 = .ok (.getfield 46, 3) := by decide +kernel
theorem dX11_item_54 : decode cX11_item 54 = .ok (.iload_n 1, 1) := by decide +kernel
theorem dX11_item_55 : decode cX11_item 55 = .ok (.aaload, 1) := by decide +kernel
theorem dX11_item_56 : decode cX11_item 56 = .ok (.iload_n 3, 1) := by decide +kernel
theorem dX11_item_57 : decode cX11_item 57 = .ok (.iaload, 1) := by decide +kernel
theorem dX11_item_58 : decode cX11_item 58 = .ok (.goto 5, 3) := by decide +kernel
theorem dX11_item_61 : decode cX11_item 61 = .ok (.bipush (-12), 2) := by decide +kernel
theorem dX11_item_63 : decode cX11_item 63 = .ok (.ireturn, 1) := by decide +kernel
theorem dX11_goAll_0 : decode cX11_goAll 0 = .ok (.iload_n 1, 1) := by decide +kernel
theorem dX11_goAll_1 : decode cX11_goAll 1 = .ok (.invokestatic 307, 3) := by decide +kernel
theorem dX11_goAll_4 : decode cX11_goAll 4 = .ok (.ifCond .eq 13, 3) := by decide +kernel
theorem dX11_goAll_7 : decode cX11_goAll 7 = .ok (.iload_n 3, 1) := by decide +kernel
theorem dX11_goAll_8 : decode cX11_goAll 8 = .ok (.iconst 0, 1) := by decide +kernel
theorem dX11_goAll_9 : decode cX11_goAll 9 = .ok (.bipush 20, 2) := by decide +kernel
theorem dX11_goAll_11 : decode cX11_goAll 11 = .ok (.invokestatic 97, 3) := by decide +kernel
theorem dX11_goAll_14 : decode cX11_goAll 14 = .ok (.ifCond .ne 5, 3) := by decide +kernel
theorem dX11_goAll_17 : decode cX11_goAll 17 = .ok (.iconst (-1), 1) := by decide +kernel
theorem dX11_goAll_18 : decode cX11_goAll 18 = .ok (.ireturn, 1) := by decide +kernel
theorem dX11_goAll_19 : decode cX11_goAll 19 = .ok (.aload_n 0, 1) := by decide +kernel
theorem dX11_goAll_20 : decode cX11_goAll 20 = .ok (.iload_n 1, 1) := by decide +kernel
theorem dX11_goAll_21 : decode cX11_goAll 21 = .ok (.iconst 0, 1) := by decide +kernel
theorem dX11_goAll_22 : decode cX11_goAll 22 = .ok (.invokevirtual 313, 3) := by decide +kernel
theorem dX11_goAll_25 : decode cX11_goAll 25 = .ok (.istore 4, 2) := by decide +kernel
theorem dX11_goAll_27 : decode cX11_goAll 27 = .ok (.iload 4, 2) := by decide +kernel
theorem dX11_goAll_29 : decode cX11_goAll 29 = .ok (.ifCond .eq 6, 3) := by decide +kernel
theorem dX11_goAll_32 : decode cX11_goAll 32 = .ok (.iload 4, 2) := by decide +kernel
theorem dX11_goAll_34 : decode cX11_goAll 34 = .ok (.ireturn, 1) := by decide +kernel
theorem dX11_goAll_35 : decode cX11_goAll 35 = .ok (.iconst 0, 1) := by decide +kernel
theorem dX11_goAll_36 : decode cX11_goAll 36 = .ok (.istore 5, 2) := by decide +kernel
theorem dX11_goAll_38 : decode cX11_goAll 38 = .ok (.iconst 0, 1) := by decide +kernel
theorem dX11_goAll_39 : decode cX11_goAll 39 = .ok (.istore 6, 2) := by decide +kernel
theorem dX11_goAll_41 : decode cX11_goAll 41 = .ok (.iload 6, 2) := by decide +kernel
theorem dX11_goAll_43 : decode cX11_goAll 43 = .ok (.iload_n 3, 1) := by decide +kernel
theorem dX11_goAll_44 : decode cX11_goAll 44 = .ok (.if_icmp .ge 81, 3) := by decide +kernel
theorem dX11_goAll_47 : decode cX11_goAll 47 = .ok (.iload_n 2, 1) := by decide +kernel
theorem dX11_goAll_48 : decode cX11_goAll 48 = .ok (.iload 6, 2) := by decide +kernel
theorem dX11_goAll_50 : decode cX11_goAll 50 = .ok (.iadd, 1) := by decide +kernel
theorem dX11_goAll_51 : decode cX11_goAll 51 = .ok (.iconst 0, 1) := by decide +kernel
theorem dX11_goAll_52 : decode cX11_goAll 52 = .ok (.aload_n 0, 1) := by decide +kernel
theorem dX11_goAll_53 : decode cX11_goAll 53 = .ok (.getfield 41, 3) := by decide +kernel
theorem dX11_goAll_56 : decode cX11_goAll 56 = .ok (.iload_n 1, 1) := by decide +kernel
theorem dX11_goAll_57 : decode cX11_goAll 57 = .ok (.iaload, 1) := by decide +kernel
theorem dX11_goAll_58 : decode cX11_goAll 58 = .ok (.iconst 1, 1) := by decide +kernel
theorem dX11_goAll_59 : decode cX11_goAll 59 = .ok (.isub, 1) := by decide +kernel
theorem dX11_goAll_60 : decode cX11_goAll 60 = .ok (.invokestatic 97, 3) := by decide +kernel
theorem dX11_goAll_63 : decode cX11_goAll 63 = .ok (.ifCond .ne 6, 3) := by decide +kernel
theorem dX11_goAll_66 : decode cX11_goAll 66 = .ok (.bipush (-12), 2) := by decide +kernel
theorem dX11_goAll_68 : decode cX11_goAll 68 = .ok (.ireturn, 1) := by decide +kernel
theorem dX11_goAll_69 : decode cX11_goAll 69 = .ok (.aload_n 0, 1) := by decide +kernel
theorem dX11_goAll_70 : decode cX11_goAll 70 = .ok (.getfield 46, 3) := by decide +kernel
theorem dX11_goAll_73 : decode cX11_goAll 73 = .ok (.iload_n 1, 1) := by decide +kernel
theorem dX11_goAll_74 : decode cX11_goAll 74 = .ok (.aaload, 1) := by decide +kernel
theorem dX11_goAll_75 : decode cX11_goAll 75 = .ok (.iload_n 2, 1) := by decide +kernel
theorem dX11_goAll_76 : decode cX11_goAll 76 = .ok (.iload 6, 2) := by decide +kernel
theorem dX11_goAll_78 : decode cX11_goAll 78 = .ok (.iadd, 1) := by decide +kernel
theorem dX11_goAll_79 : decode cX11_goAll 79 = .ok (.iaload, 1) := by decide +kernel
theorem dX11_goAll_80 : decode cX11_goAll 80 = .ok (.istore 7, 2) := by decide +kernel
theorem dX11_goAll_82 : decode cX11_goAll 82 = .ok (.aload_n 0, 1) := by decide +kernel
theorem dX11_goAll_83 : decode cX11_goAll 83 = .ok (.iload 7, 2) := by decide +kernel
theorem dX11_goAll_85 : decode cX11_goAll 85 = .ok (.invokevirtual 304, 3) := by decide +kernel
theorem dX11_goAll_88 : decode cX11_goAll 88 = .ok (.ifCond .eq 31, 3) := by decide +kernel
theorem dX11_goAll_91 : decode cX11_goAll 91 = .ok (.aload_n 0, 1) := by decide +kernel
theorem dX11_goAll_92 : decode cX11_goAll 92 = .ok (.getfield 81, 3) := by decide +kernel
theorem dX11_goAll_95 : decode cX11_goAll 95 = .ok (.aload_n 0, 1) := by decide +kernel
theorem dX11_goAll_96 : decode cX11_goAll 96 = .ok (.getfield 81, 3) := by decide +kernel
theorem dX11_goAll_99 : decode cX11_goAll 99 = .ok (.getfield 111, 3) := by decide +kernel
theorem dX11_goAll_102 : decode cX11_goAll 102 = .ok (.invokevirtual 170, 3) := by decide +kernel
theorem dX11_goAll_105 : decode cX11_goAll 105 = .ok (.ifCond .ne 14, 3) := by decide +kernel
theorem dX11_goAll_108 : decode cX11_goAll 108 = .ok (.iload 5, 2) := by decide +kernel
theorem dX11_goAll_110 : decode cX11_goAll 110 = .ok (.aload_n 0, 1) := by decide +kernel
theorem dX11_goAll_111 : decode cX11_goAll 111 = .ok (.iload 7, 2) := by decide +kernel
theorem dX11_goAll_113 : decode cX11_goAll 113 = .ok (.invokevirtual 200, 3) := by decide +kernel
theorem dX11_goAll_116 : decode cX11_goAll 116 = .ok (.iadd, 1) := by decide +kernel
theorem dX11_goAll_117 : decode cX11_goAll 117 = .ok (.istore 5, 2) := by decide +kernel
theorem dX11_goAll_119 : decode cX11_goAll 119 = .ok (.iinc 6 1, 3) := by decide +kernel
theorem dX11_goAll_122 : decode cX11_goAll 122 = .ok (.goto (-81), 3) := by decide +kernel
theorem dX11_goAll_125 : decode cX11_goAll 125 = .ok (.iload 5, 2) := by decide +kernel
theorem dX11_goAll_127 : decode cX11_goAll 127 = .ok (.ireturn, 1) := by decide +kernel
theorem dX11_wouldBe_0 : decode cX11_wouldBe 0 = .ok (.iload_n 1, 1) := by decide +kernel
theorem dX11_wouldBe_1 : decode cX11_wouldBe 1 = .ok (.invokestatic 307, 3) := by decide +kernel
theorem dX11_wouldBe_4 : decode cX11_wouldBe 4 = .ok (.ifCond .eq 13, 3) := by decide +kernel
theorem dX11_wouldBe_7 : decode cX11_wouldBe 7 = .ok (.iload_n 3, 1) := by decide +kernel
theorem dX11_wouldBe_8 : decode cX11_wouldBe 8 = .ok (.iconst 0, 1) := by decide +kernel
theorem dX11_wouldBe_9 : decode cX11_wouldBe 9 = .ok (.bipush 20, 2) := by decide +kernel
theorem dX11_wouldBe_11 : decode cX11_wouldBe 11 = .ok (.invokestatic 97, 3) := by decide +kernel
theorem dX11_wouldBe_14 : decode cX11_wouldBe 14 = .ok (.ifCond .ne 5, 3) := by decide +kernel
theorem dX11_wouldBe_17 : decode cX11_wouldBe 17 = .ok (.iconst (-1), 1) := by decide +kernel
theorem dX11_wouldBe_18 : decode cX11_wouldBe 18 = .ok (.ireturn, 1) := by decide +kernel
theorem dX11_wouldBe_19 : decode cX11_wouldBe 19 = .ok (.aload_n 0, 1) := by decide +kernel
theorem dX11_wouldBe_20 : decode cX11_wouldBe 20 = .ok (.iload_n 1, 1) := by decide +kernel
theorem dX11_wouldBe_21 : decode cX11_wouldBe 21 = .ok (.iconst 0, 1) := by decide +kernel
theorem dX11_wouldBe_22 : decode cX11_wouldBe 22 = .ok (.invokevirtual 313, 3) := by decide +kernel
theorem dX11_wouldBe_25 : decode cX11_wouldBe 25 = .ok (.istore 4, 2) := by decide +kernel
theorem dX11_wouldBe_27 : decode cX11_wouldBe 27 = .ok (.iload 4, 2) := by decide +kernel
theorem dX11_wouldBe_29 : decode cX11_wouldBe 29 = .ok (.ifCond .eq 6, 3) := by decide +kernel
theorem dX11_wouldBe_32 : decode cX11_wouldBe 32 = .ok (.iload 4, 2) := by decide +kernel
theorem dX11_wouldBe_34 : decode cX11_wouldBe 34 = .ok (.ireturn, 1) := by decide +kernel
theorem dX11_wouldBe_35 : decode cX11_wouldBe 35 = .ok (.aload_n 0, 1) := by decide +kernel
theorem dX11_wouldBe_36 : decode cX11_wouldBe 36 = .ok (.getfield 10, 3) := by decide +kernel
theorem dX11_wouldBe_39 : decode cX11_wouldBe 39 = .ok (.aload_n 0, 1) := by decide +kernel
theorem dX11_wouldBe_40 : decode cX11_wouldBe 40 = .ok (.getfield 81, 3) := by decide +kernel
theorem dX11_wouldBe_43 : decode cX11_wouldBe 43 = .ok (.getfield 111, 3) := by decide +kernel
theorem dX11_wouldBe_46 : decode cX11_wouldBe 46 = .ok (.invokevirtual 203, 3) := by decide +kernel
theorem dX11_wouldBe_49 : decode cX11_wouldBe 49 = .ok (.iconst 0, 1) := by decide +kernel
theorem dX11_wouldBe_50 : decode cX11_wouldBe 50 = .ok (.istore 5, 2) := by decide +kernel
theorem dX11_wouldBe_52 : decode cX11_wouldBe 52 = .ok (.iconst 0, 1) := by decide +kernel
theorem dX11_wouldBe_53 : decode cX11_wouldBe 53 = .ok (.istore 6, 2) := by decide +kernel
theorem dX11_wouldBe_55 : decode cX11_wouldBe 55 = .ok (.iload 6, 2) := by decide +kernel
theorem dX11_wouldBe_57 : decode cX11_wouldBe 57 = .ok (.iload_n 3, 1) := by decide +kernel
theorem dX11_wouldBe_58 : decode cX11_wouldBe 58 = .ok (.if_icmp .ge 88, 3) := by decide +kernel
theorem dX11_wouldBe_61 : decode cX11_wouldBe 61 = .ok (.iload_n 2, 1) := by decide +kernel
theorem dX11_wouldBe_62 : decode cX11_wouldBe 62 = .ok (.iload 6, 2) := by decide +kernel
theorem dX11_wouldBe_64 : decode cX11_wouldBe 64 = .ok (.iadd, 1) := by decide +kernel
theorem dX11_wouldBe_65 : decode cX11_wouldBe 65 = .ok (.iconst 0, 1) := by decide +kernel
theorem dX11_wouldBe_66 : decode cX11_wouldBe 66 = .ok (.aload_n 0, 1) := by decide +kernel
theorem dX11_wouldBe_67 : decode cX11_wouldBe 67 = .ok (.getfield 41, 3) := by decide +kernel
theorem dX11_wouldBe_70 : decode cX11_wouldBe 70 = .ok (.iload_n 1, 1) := by decide +kernel
theorem dX11_wouldBe_71 : decode cX11_wouldBe 71 = .ok (.iaload, 1) := by decide +kernel
theorem dX11_wouldBe_72 : decode cX11_wouldBe 72 = .ok (.iconst 1, 1) := by decide +kernel
theorem dX11_wouldBe_73 : decode cX11_wouldBe 73 = .ok (.isub, 1) := by decide +kernel
theorem dX11_wouldBe_74 : decode cX11_wouldBe 74 = .ok (.invokestatic 97, 3) := by decide +kernel
theorem dX11_wouldBe_77 : decode cX11_wouldBe 77 = .ok (.ifCond .ne 6, 3) := by decide +kernel
theorem dX11_wouldBe_80 : decode cX11_wouldBe 80 = .ok (.bipush (-12), 2) := by decide +kernel
theorem dX11_wouldBe_82 : decode cX11_wouldBe 82 = .ok (.ireturn, 1) := by decide +kernel
theorem dX11_wouldBe_83 : decode cX11_wouldBe 83 = .ok (.aload_n 0, 1) := by decide +kernel
theorem dX11_wouldBe_84 : decode cX11_wouldBe 84 = .ok (.getfield 46, 3) := by decide +kernel
theorem dX11_wouldBe_87 : decode cX11_wouldBe 87 = .ok (.iload_n 1, 1) := by decide +kernel
theorem dX11_wouldBe_88 : decode cX11_wouldBe 88 = .ok (.aaload, 1) := by decide +kernel
theorem dX11_wouldBe_89 : decode cX11_wouldBe 89 = .ok (.iload_n 2, 1) := by decide +kernel
theorem dX11_wouldBe_90 : decode cX11_wouldBe 90 = .ok (.iload 6, 2) := by decide +kernel
theorem dX11_wouldBe_92 : decode cX11_wouldBe 92 = .ok (.iadd, 1) := by decide +kernel
theorem dX11_wouldBe_93 : decode cX11_wouldBe 93 = .ok (.iaload, 1) := by decide +kernel
theorem dX11_wouldBe_94 : decode cX11_wouldBe 94 = .ok (.istore 7, 2) := by decide +kernel
theorem dX11_wouldBe_96 : decode cX11_wouldBe 96 = .ok (.aload_n 0, 1) := by decide +kernel
theorem dX11_wouldBe_97 : decode cX11_wouldBe 97 = .ok (.iload 7, 2) := by decide +kernel
theorem dX11_wouldBe_99 : decode cX11_wouldBe 99 = .ok (.invokevirtual 304, 3) := by decide +kernel
theorem dX11_wouldBe_102 : decode cX11_wouldBe 102 = .ok (.ifCond .eq 17, 3) := by decide +kernel
theorem dX11_wouldBe_105 : decode cX11_wouldBe 105 = .ok (.aload_n 0, 1) := by decide +kernel
theorem dX11_wouldBe_106 : decode cX11_wouldBe 106 = .ok (.getfield 81, 3) := by decide +kernel
theorem dX11_wouldBe_109 : decode cX11_wouldBe 109 = .ok (.aload_n 0, 1) := by decide +kernel
theorem dX11_wouldBe_110 : decode cX11_wouldBe 110 = .ok (.getfield 10, 3) := by decide +kernel
theorem dX11_wouldBe_113 : decode cX11_wouldBe 113 = .ok (.invokevirtual 170, 3) := by decide +kernel
theorem dX11_wouldBe_116 : decode cX11_wouldBe 116 = .ok (.ifCond .eq 6, 3) := by decide +kernel
theorem dX11_wouldBe_119 : decode cX11_wouldBe 119 = .ok (.bipush (-4), 2) := by decide +kernel
theorem dX11_wouldBe_121 : decode cX11_wouldBe 121 = .ok (.ireturn, 1) := by decide +kernel
theorem dX11_wouldBe_122 : decode cX11_wouldBe 122 = .ok (.iload 5, 2) := by decide +kernel
theorem dX11_wouldBe_124 : decode cX11_wouldBe 124 = .ok (.aload_n 0, 1) := by decide +kernel
theorem dX11_wouldBe_125 : decode cX11_wouldBe 125 = .ok (.getfield 81, 3) := by decide +kernel
theorem dX11_wouldBe_128 : decode cX11_wouldBe 128 = .ok (.aload_n 0, 1) := by decide +kernel
theorem dX11_wouldBe_129 : decode cX11_wouldBe 129 = .ok (.getfield 10, 3) := by decide +kernel
theorem dX11_wouldBe_132 : decode cX11_wouldBe 132 = .ok (.iload 7, 2) := by decide +kernel
theorem dX11_wouldBe_134 : decode cX11_wouldBe 134 = .ok (.invokevirtual 212, 3) := by decide +kernel
theorem dX11_wouldBe_137 : decode cX11_wouldBe 137 = .ok (.iadd, 1) := by decide +kernel
theorem dX11_wouldBe_138 : decode cX11_wouldBe 138 = .ok (.istore 5, 2) := by decide +kernel
theorem dX11_wouldBe_140 : decode cX11_wouldBe 140 = .ok (.iinc 6 1, 3) := by decide +kernel
theorem dX11_wouldBe_143 : decode cX11_wouldBe 143 = .ok (.goto (-88), 3) := by decide +kernel
theorem dX11_wouldBe_146 : decode cX11_wouldBe 146 = .ok (.iload 5, 2) := by decide +kernel
theorem dX11_wouldBe_148 : decode cX11_wouldBe 148 = .ok (.ireturn, 1) := by decide +kernel
theorem dX11_shelf_0 : decode cX11_shelf 0 = .ok (.iload_n 1, 1) := by decide +kernel
theorem dX11_shelf_1 : decode cX11_shelf 1 = .ok (.invokestatic 316, 3) := by decide +kernel
theorem dX11_shelf_4 : decode cX11_shelf 4 = .ok (.ifCond .ne 5, 3) := by decide +kernel
theorem dX11_shelf_7 : decode cX11_shelf 7 = .ok (.iconst (-1), 1) := by decide +kernel
theorem dX11_shelf_8 : decode cX11_shelf 8 = .ok (.ireturn, 1) := by decide +kernel
theorem dX11_shelf_9 : decode cX11_shelf 9 = .ok (.iload_n 2, 1) := by decide +kernel
theorem dX11_shelf_10 : decode cX11_shelf 10 = .ok (.tableswitch 77 0 2 #[26, 50, 68], 26) := by decide +kernel
theorem dX11_shelf_36 : decode cX11_shelf 36 = .ok (.aload_n 0, 1) := by decide +kernel
theorem dX11_shelf_37 : decode cX11_shelf 37 = .ok (.getfield 81, 3) := by decide +kernel
theorem dX11_shelf_40 : decode cX11_shelf 40 = .ok (.iload_n 3, 1) := by decide +kernel
theorem dX11_shelf_41 : decode cX11_shelf 41 = .ok (.invokevirtual 124, 3) := by decide +kernel
theorem dX11_shelf_44 : decode cX11_shelf 44 = .ok (.ifCond .eq 14, 3) := by decide +kernel
theorem dX11_shelf_47 : decode cX11_shelf 47 = .ok (.aload_n 0, 1) := by decide +kernel
theorem dX11_shelf_48 : decode cX11_shelf 48 = .ok (.iload_n 1, 1) := by decide +kernel
theorem dX11_shelf_49 : decode cX11_shelf 49 = .ok (.iconst 0, 1) := by decide +kernel
theorem dX11_shelf_50 : decode cX11_shelf 50 = .ok (.iload_n 3, 1) := by decide +kernel
theorem dX11_shelf_51 : decode cX11_shelf 51 = .ok (.iconst 0, 1) := by decide +kernel
theorem dX11_shelf_52 : decode cX11_shelf 52 = .ok (.invokevirtual 319, 3) := by decide +kernel
theorem dX11_shelf_55 : decode cX11_shelf 55 = .ok (.goto 4, 3) := by decide +kernel
theorem dX11_shelf_58 : decode cX11_shelf 58 = .ok (.iconst (-1), 1) := by decide +kernel
theorem dX11_shelf_59 : decode cX11_shelf 59 = .ok (.ireturn, 1) := by decide +kernel
theorem dX11_shelf_60 : decode cX11_shelf 60 = .ok (.iload_n 3, 1) := by decide +kernel
theorem dX11_shelf_61 : decode cX11_shelf 61 = .ok (.invokestatic 307, 3) := by decide +kernel
theorem dX11_shelf_64 : decode cX11_shelf 64 = .ok (.ifCond .eq 12, 3) := by decide +kernel
theorem dX11_shelf_67 : decode cX11_shelf 67 = .ok (.aload_n 0, 1) := by decide +kernel
theorem dX11_shelf_68 : decode cX11_shelf 68 = .ok (.iload_n 1, 1) := by decide +kernel
theorem dX11_shelf_69 : decode cX11_shelf 69 = .ok (.iload_n 3, 1) := by decide +kernel
theorem dX11_shelf_70 : decode cX11_shelf 70 = .ok (.invokevirtual 323, 3) := by decide +kernel
theorem dX11_shelf_73 : decode cX11_shelf 73 = .ok (.goto 4, 3) := by decide +kernel
theorem dX11_shelf_76 : decode cX11_shelf 76 = .ok (.iconst (-1), 1) := by decide +kernel
theorem dX11_shelf_77 : decode cX11_shelf 77 = .ok (.ireturn, 1) := by decide +kernel
theorem dX11_shelf_78 : decode cX11_shelf 78 = .ok (.aload_n 0, 1) := by decide +kernel
theorem dX11_shelf_79 : decode cX11_shelf 79 = .ok (.iload_n 1, 1) := by decide +kernel
theorem dX11_shelf_80 : decode cX11_shelf 80 = .ok (.iconst 2, 1) := by decide +kernel
theorem dX11_shelf_81 : decode cX11_shelf 81 = .ok (.iconst 0, 1) := by decide +kernel
theorem dX11_shelf_82 : decode cX11_shelf 82 = .ok (.iconst 0, 1) := by decide +kernel
theorem dX11_shelf_83 : decode cX11_shelf 83 = .ok (.invokevirtual 319, 3) := by decide +kernel
theorem dX11_shelf_86 : decode cX11_shelf 86 = .ok (.ireturn, 1) := by decide +kernel
theorem dX11_shelf_87 : decode cX11_shelf 87 = .ok (.iconst (-1), 1) := by decide +kernel
theorem dX11_shelf_88 : decode cX11_shelf 88 = .ok (.ireturn, 1) := by decide +kernel
theorem dX11_taken_0 : decode cX11_taken 0 = .ok (.iload_n 2, 1) := by decide +kernel
theorem dX11_taken_1 : decode cX11_taken 1 = .ok (.iconst 0, 1) := by decide +kernel
theorem dX11_taken_2 : decode cX11_taken 2 = .ok (.iconst 5, 1) := by decide +kernel
theorem dX11_taken_3 : decode cX11_taken 3 = .ok (.invokestatic 97, 3) := by decide +kernel
theorem dX11_taken_6 : decode cX11_taken 6 = .ok (.istore_n 3, 1) := by decide +kernel
theorem dX11_taken_7 : decode cX11_taken 7 = .ok (.iload_n 2, 1) := by decide +kernel
theorem dX11_taken_8 : decode cX11_taken 8 = .ok (.bipush 10, 2) := by decide +kernel
theorem dX11_taken_10 : decode cX11_taken 10 = .ok (.bipush 14, 2) := by decide +kernel
theorem dX11_taken_12 : decode cX11_taken 12 = .ok (.invokestatic 97, 3) := by decide +kernel
theorem dX11_taken_15 : decode cX11_taken 15 = .ok (.istore 4, 2) := by decide +kernel
theorem dX11_taken_17 : decode cX11_taken 17 = .ok (.iload_n 1, 1) := by decide +kernel
theorem dX11_taken_18 : decode cX11_taken 18 = .ok (.invokestatic 316, 3) := by decide +kernel
theorem dX11_taken_21 : decode cX11_taken 21 = .ok (.ifCond .eq 12, 3) := by decide +kernel
theorem dX11_taken_24 : decode cX11_taken 24 = .ok (.iload_n 3, 1) := by decide +kernel
theorem dX11_taken_25 : decode cX11_taken 25 = .ok (.ifCond .ne 10, 3) := by decide +kernel
theorem dX11_taken_28 : decode cX11_taken 28 = .ok (.iload 4, 2) := by decide +kernel
theorem dX11_taken_30 : decode cX11_taken 30 = .ok (.ifCond .ne 5, 3) := by decide +kernel
theorem dX11_taken_33 : decode cX11_taken 33 = .ok (.iconst (-1), 1) := by decide +kernel
theorem dX11_taken_34 : decode cX11_taken 34 = .ok (.ireturn, 1) := by decide +kernel
theorem dX11_taken_35 : decode cX11_taken 35 = .ok (.aload_n 0, 1) := by decide +kernel
theorem dX11_taken_36 : decode cX11_taken 36 = .ok (.iload_n 1, 1) := by decide +kernel
theorem dX11_taken_37 : decode cX11_taken 37 = .ok (.invokevirtual 326, 3) := by decide +kernel
theorem dX11_taken_40 : decode cX11_taken 40 = .ok (.ifCond .eq 6, 3) := by decide +kernel
theorem dX11_taken_43 : decode cX11_taken 43 = .ok (.bipush (-11), 2) := by decide +kernel
theorem dX11_taken_45 : decode cX11_taken 45 = .ok (.ireturn, 1) := by decide +kernel
theorem dX11_taken_46 : decode cX11_taken 46 = .ok (.aload_n 0, 1) := by decide +kernel
theorem dX11_taken_47 : decode cX11_taken 47 = .ok (.getfield 52, 3) := by decide +kernel
theorem dX11_taken_50 : decode cX11_taken 50 = .ok (.iload_n 1, 1) := by decide +kernel
theorem dX11_taken_51 : decode cX11_taken 51 = .ok (.iaload, 1) := by decide +kernel
theorem dX11_taken_52 : decode cX11_taken 52 = .ok (.istore 5, 2) := by decide +kernel
theorem dX11_taken_54 : decode cX11_taken 54 = .ok (.aload_n 0, 1) := by decide +kernel
theorem dX11_taken_55 : decode cX11_taken 55 = .ok (.getfield 49, 3) := by decide +kernel
theorem dX11_taken_58 : decode cX11_taken 58 = .ok (.iload_n 1, 1) := by decide +kernel
theorem dX11_taken_59 : decode cX11_taken 59 = .ok (.iaload, 1) := by decide +kernel
theorem dX11_taken_60 : decode cX11_taken 60 = .ok (.iconst 1, 1) := by decide +kernel
theorem dX11_taken_61 : decode cX11_taken 61 = .ok (.if_icmp .ne 24, 3) := by decide +kernel
theorem dX11_taken_64 : decode cX11_taken 64 = .ok (.iload_n 2, 1) := by decide +kernel
theorem dX11_taken_65 : decode cX11_taken 65 = .ok (.bipush 10, 2) := by decide +kernel
theorem dX11_taken_67 : decode cX11_taken 67 = .ok (.iload 5, 2) := by decide +kernel
theorem dX11_taken_69 : decode cX11_taken 69 = .ok (.iadd, 1) := by decide +kernel
theorem dX11_taken_70 : decode cX11_taken 70 = .ok (.if_icmp .ne 12, 3) := by decide +kernel
theorem dX11_taken_73 : decode cX11_taken 73 = .ok (.aload_n 0, 1) := by decide +kernel
theorem dX11_taken_74 : decode cX11_taken 74 = .ok (.getfield 55, 3) := by decide +kernel
theorem dX11_taken_77 : decode cX11_taken 77 = .ok (.iload_n 1, 1) := by decide +kernel
theorem dX11_taken_78 : decode cX11_taken 78 = .ok (.iaload, 1) := by decide +kernel
theorem dX11_taken_79 : decode cX11_taken 79 = .ok (.goto 5, 3) := by decide +kernel
theorem dX11_taken_82 : decode cX11_taken 82 = .ok (.bipush (-13), 2) := by decide +kernel
theorem dX11_taken_84 : decode cX11_taken 84 = .ok (.ireturn, 1) := by decide +kernel
theorem dX11_taken_85 : decode cX11_taken 85 = .ok (.iload_n 3, 1) := by decide +kernel
theorem dX11_taken_86 : decode cX11_taken 86 = .ok (.ifCond .eq 25, 3) := by decide +kernel
theorem dX11_taken_89 : decode cX11_taken 89 = .ok (.aload_n 0, 1) := by decide +kernel
theorem dX11_taken_90 : decode cX11_taken 90 = .ok (.getfield 81, 3) := by decide +kernel
theorem dX11_taken_93 : decode cX11_taken 93 = .ok (.getfield 105, 3) := by decide +kernel
theorem dX11_taken_96 : decode cX11_taken 96 = .ok (.iload 5, 2) := by decide +kernel
theorem dX11_taken_98 : decode cX11_taken 98 = .ok (.iaload, 1) := by decide +kernel
theorem dX11_taken_99 : decode cX11_taken 99 = .ok (.iload_n 2, 1) := by decide +kernel
theorem dX11_taken_100 : decode cX11_taken 100 = .ok (.invokestatic 329, 3) := by decide +kernel
theorem dX11_taken_103 : decode cX11_taken 103 = .ok (.ifCond .eq 8, 3) := by decide +kernel
theorem dX11_taken_106 : decode cX11_taken 106 = .ok (.iload 5, 2) := by decide +kernel
theorem dX11_taken_108 : decode cX11_taken 108 = .ok (.goto 5, 3) := by decide +kernel
theorem dX11_taken_111 : decode cX11_taken 111 = .ok (.bipush (-13), 2) := by decide +kernel
theorem dX11_taken_113 : decode cX11_taken 113 = .ok (.ireturn, 1) := by decide +kernel
theorem dX11_act_0 : decode cX11_act 0 = .ok (.aload_n 0, 1) := by decide +kernel
theorem dX11_act_1 : decode cX11_act 1 = .ok (.getfield 19, 3) := by decide +kernel
theorem dX11_act_4 : decode cX11_act 4 = .ok (.invokevirtual 332, 3) := by decide +kernel
theorem dX11_act_7 : decode cX11_act 7 = .ok (.iload_n 1, 1) := by decide +kernel
theorem dX11_act_8 : decode cX11_act 8 = .ok (.invokestatic 316, 3) := by decide +kernel
theorem dX11_act_11 : decode cX11_act 11 = .ok (.ifCond .eq 12, 3) := by decide +kernel
theorem dX11_act_14 : decode cX11_act 14 = .ok (.iload_n 2, 1) := by decide +kernel
theorem dX11_act_15 : decode cX11_act 15 = .ok (.iconst 0, 1) := by decide +kernel
theorem dX11_act_16 : decode cX11_act 16 = .ok (.iconst 3, 1) := by decide +kernel
theorem dX11_act_17 : decode cX11_act 17 = .ok (.invokestatic 97, 3) := by decide +kernel
theorem dX11_act_20 : decode cX11_act 20 = .ok (.ifCond .ne 5, 3) := by decide +kernel
theorem dX11_act_23 : decode cX11_act 23 = .ok (.iconst 0, 1) := by decide +kernel
theorem dX11_act_24 : decode cX11_act 24 = .ok (.ireturn, 1) := by decide +kernel
theorem dX11_act_25 : decode cX11_act 25 = .ok (.aload_n 0, 1) := by decide +kernel
theorem dX11_act_26 : decode cX11_act 26 = .ok (.iload_n 1, 1) := by decide +kernel
theorem dX11_act_27 : decode cX11_act 27 = .ok (.invokevirtual 326, 3) := by decide +kernel
theorem dX11_act_30 : decode cX11_act 30 = .ok (.ifCond .ne 13, 3) := by decide +kernel
theorem dX11_act_33 : decode cX11_act 33 = .ok (.aload_n 0, 1) := by decide +kernel
theorem dX11_act_34 : decode cX11_act 34 = .ok (.getfield 49, 3) := by decide +kernel
theorem dX11_act_37 : decode cX11_act 37 = .ok (.iload_n 1, 1) := by decide +kernel
theorem dX11_act_38 : decode cX11_act 38 = .ok (.iaload, 1) := by decide +kernel
theorem dX11_act_39 : decode cX11_act 39 = .ok (.iconst 1, 1) := by decide +kernel
theorem dX11_act_40 : decode cX11_act 40 = .ok (.if_icmp .ne 5, 3) := by decide +kernel
theorem dX11_act_43 : decode cX11_act 43 = .ok (.iconst 0, 1) := by decide +kernel
theorem dX11_act_44 : decode cX11_act 44 = .ok (.ireturn, 1) := by decide +kernel
theorem dX11_act_45 : decode cX11_act 45 = .ok (.aload_n 0, 1) := by decide +kernel
theorem dX11_act_46 : decode cX11_act 46 = .ok (.getfield 52, 3) := by decide +kernel
theorem dX11_act_49 : decode cX11_act 49 = .ok (.iload_n 1, 1) := by decide +kernel
theorem dX11_act_50 : decode cX11_act 50 = .ok (.iaload, 1) := by decide +kernel
theorem dX11_act_51 : decode cX11_act 51 = .ok (.istore 4, 2) := by decide +kernel
theorem dX11_act_53 : decode cX11_act 53 = .ok (.aload_n 0, 1) := by decide +kernel
theorem dX11_act_54 : decode cX11_act 54 = .ok (.getfield 19, 3) := by decide +kernel
theorem dX11_act_57 : decode cX11_act 57 = .ok (.iload 4, 2) := by decide +kernel
theorem dX11_act_59 : decode cX11_act 59 = .ok (.putfield 335, 3) := by decide +kernel
theorem dX11_act_62 : decode cX11_act 62 = .ok (.aload_n 0, 1) := by decide +kernel
theorem dX11_act_63 : decode cX11_act 63 = .ok (.getfield 19, 3) := by decide +kernel
theorem dX11_act_66 : decode cX11_act 66 = .ok (.aload_n 0, 1) := by decide +kernel
theorem dX11_act_67 : decode cX11_act 67 = .ok (.getfield 81, 3) := by decide +kernel
theorem dX11_act_70 : decode cX11_act 70 = .ok (.getfield 108, 3) := by decide +kernel
theorem dX11_act_73 : decode cX11_act 73 = .ok (.iload 4, 2) := by decide +kernel
theorem dX11_act_75 : decode cX11_act 75 = .ok (.iaload, 1) := by decide +kernel
theorem dX11_act_76 : decode cX11_act 76 = .ok (.putfield 338, 3) := by decide +kernel
theorem dX11_act_79 : decode cX11_act 79 = .ok (.aload_n 0, 1) := by decide +kernel
theorem dX11_act_80 : decode cX11_act 80 = .ok (.getfield 81, 3) := by decide +kernel
theorem dX11_act_83 : decode cX11_act 83 = .ok (.getfield 341, 3) := by decide +kernel
theorem dX11_act_86 : decode cX11_act 86 = .ok (.aload_n 0, 1) := by decide +kernel
theorem dX11_act_87 : decode cX11_act 87 = .ok (.getfield 81, 3) := by decide +kernel
theorem dX11_act_90 : decode cX11_act 90 = .ok (.getfield 105, 3) := by decide +kernel
theorem dX11_act_93 : decode cX11_act 93 = .ok (.iload 4, 2) := by decide +kernel
theorem dX11_act_95 : decode cX11_act 95 = .ok (.iaload, 1) := by decide +kernel
theorem dX11_act_96 : decode cX11_act 96 = .ok (.aaload, 1) := by decide +kernel
theorem dX11_act_97 : decode cX11_act 97 = .ok (.astore 5, 2) := by decide +kernel
theorem dX11_act_99 : decode cX11_act 99 = .ok (.iload_n 2, 1) := by decide +kernel
theorem dX11_act_100 : decode cX11_act 100 = .ok (.tableswitch 73 0 2 #[28, 43, 58], 28) := by decide +kernel
theorem dX11_act_128 : decode cX11_act 128 = .ok (.aload 5, 2) := by decide +kernel
theorem dX11_act_130 : decode cX11_act 130 = .ok (.aload_n 0, 1) := by decide +kernel
theorem dX11_act_131 : decode cX11_act 131 = .ok (.getfield 19, 3) := by decide +kernel
theorem dX11_act_134 : decode cX11_act 134 = .ok (.iload_n 3, 1) := by decide +kernel
theorem dX11_act_135 : decode cX11_act 135 = .ok (.invokevirtual 345, 3) := by decide +kernel
theorem dX11_act_138 : decode cX11_act 138 = .ok (.istore 6, 2) := by decide +kernel
theorem dX11_act_140 : decode cX11_act 140 = .ok (.goto 45, 3) := by decide +kernel
theorem dX11_act_143 : decode cX11_act 143 = .ok (.aload 5, 2) := by decide +kernel
theorem dX11_act_145 : decode cX11_act 145 = .ok (.aload_n 0, 1) := by decide +kernel
theorem dX11_act_146 : decode cX11_act 146 = .ok (.getfield 19, 3) := by decide +kernel
theorem dX11_act_149 : decode cX11_act 149 = .ok (.iload_n 3, 1) := by decide +kernel
theorem dX11_act_150 : decode cX11_act 150 = .ok (.invokevirtual 349, 3) := by decide +kernel
theorem dX11_act_153 : decode cX11_act 153 = .ok (.istore 6, 2) := by decide +kernel
theorem dX11_act_155 : decode cX11_act 155 = .ok (.goto 30, 3) := by decide +kernel
theorem dX11_act_158 : decode cX11_act 158 = .ok (.aload 5, 2) := by decide +kernel
theorem dX11_act_160 : decode cX11_act 160 = .ok (.aload_n 0, 1) := by decide +kernel
theorem dX11_act_161 : decode cX11_act 161 = .ok (.getfield 19, 3) := by decide +kernel
theorem dX11_act_164 : decode cX11_act 164 = .ok (.iload_n 3, 1) := by decide +kernel
theorem dX11_act_165 : decode cX11_act 165 = .ok (.invokevirtual 352, 3) := by decide +kernel
theorem dX11_act_168 : decode cX11_act 168 = .ok (.istore 6, 2) := by decide +kernel
theorem dX11_act_170 : decode cX11_act 170 = .ok (.goto 15, 3) := by decide +kernel
theorem dX11_act_173 : decode cX11_act 173 = .ok (.aload 5, 2) := by decide +kernel
theorem dX11_act_175 : decode cX11_act 175 = .ok (.aload_n 0, 1) := by decide +kernel
theorem dX11_act_176 : decode cX11_act 176 = .ok (.getfield 19, 3) := by decide +kernel
theorem dX11_act_179 : decode cX11_act 179 = .ok (.iload_n 3, 1) := by decide +kernel
theorem dX11_act_180 : decode cX11_act 180 = .ok (.invokevirtual 355, 3) := by decide +kernel
theorem dX11_act_183 : decode cX11_act 183 = .ok (.istore 6, 2) := by decide +kernel
theorem dX11_act_185 : decode cX11_act 185 = .ok (.aload_n 0, 1) := by decide +kernel
theorem dX11_act_186 : decode cX11_act 186 = .ok (.getfield 19, 3) := by decide +kernel
theorem dX11_act_189 : decode cX11_act 189 = .ok (.getfield 358, 3) := by decide +kernel
theorem dX11_act_192 : decode cX11_act 192 = .ok (.ifCond .eq 8, 3) := by decide +kernel
theorem dX11_act_195 : decode cX11_act 195 = .ok (.bipush (-15), 2) := by decide +kernel
theorem dX11_act_197 : decode cX11_act 197 = .ok (.goto 5, 3) := by decide +kernel
theorem dX11_act_200 : decode cX11_act 200 = .ok (.iload 6, 2) := by decide +kernel
theorem dX11_act_202 : decode cX11_act 202 = .ok (.ireturn, 1) := by decide +kernel
theorem dX11_trace_0 : decode cX11_trace 0 = .ok (.iload_n 1, 1) := by decide +kernel
theorem dX11_trace_1 : decode cX11_trace 1 = .ok (.iconst 0, 1) := by decide +kernel
theorem dX11_trace_2 : decode cX11_trace 2 = .ok (.aload_n 0, 1) := by decide +kernel
theorem dX11_trace_3 : decode cX11_trace 3 = .ok (.getfield 19, 3) := by decide +kernel
theorem dX11_trace_6 : decode cX11_trace 6 = .ok (.getfield 362, 3) := by decide +kernel
theorem dX11_trace_9 : decode cX11_trace 9 = .ok (.iconst 1, 1) := by decide +kernel
theorem dX11_trace_10 : decode cX11_trace 10 = .ok (.isub, 1) := by decide +kernel
theorem dX11_trace_11 : decode cX11_trace 11 = .ok (.invokestatic 97, 3) := by decide +kernel
theorem dX11_trace_14 : decode cX11_trace 14 = .ok (.ifCond .eq 15, 3) := by decide +kernel
theorem dX11_trace_17 : decode cX11_trace 17 = .ok (.aload_n 0, 1) := by decide +kernel
theorem dX11_trace_18 : decode cX11_trace 18 = .ok (.getfield 19, 3) := by decide +kernel
theorem dX11_trace_21 : decode cX11_trace 21 = .ok (.getfield 365, 3) := by decide +kernel
theorem dX11_trace_24 : decode cX11_trace 24 = .ok (.iload_n 1, 1) := by decide +kernel
theorem dX11_trace_25 : decode cX11_trace 25 = .ok (.iaload, 1) := by decide +kernel
theorem dX11_trace_26 : decode cX11_trace 26 = .ok (.goto 5, 3) := by decide +kernel
theorem dX11_trace_29 : decode cX11_trace 29 = .ok (.bipush (-3), 2) := by decide +kernel
theorem dX11_trace_31 : decode cX11_trace 31 = .ok (.ireturn, 1) := by decide +kernel
theorem dX11_many_0 : decode cX11_many 0 = .ok (.iload_n 1, 1) := by decide +kernel
theorem dX11_many_1 : decode cX11_many 1 = .ok (.tableswitch 102 0 6 #[43, 51, 62, 76, 84, 89, 94], 43) := by decide +kernel
theorem dX11_many_44 : decode cX11_many 44 = .ok (.aload_n 0, 1) := by decide +kernel
theorem dX11_many_45 : decode cX11_many 45 = .ok (.getfield 81, 3) := by decide +kernel
theorem dX11_many_48 : decode cX11_many 48 = .ok (.getfield 101, 3) := by decide +kernel
theorem dX11_many_51 : decode cX11_many 51 = .ok (.ireturn, 1) := by decide +kernel
theorem dX11_many_52 : decode cX11_many 52 = .ok (.aload_n 0, 1) := by decide +kernel
theorem dX11_many_53 : decode cX11_many 53 = .ok (.getfield 81, 3) := by decide +kernel
theorem dX11_many_56 : decode cX11_many 56 = .ok (.getfield 189, 3) := by decide +kernel
theorem dX11_many_59 : decode cX11_many 59 = .ok (.getfield 196, 3) := by decide +kernel
theorem dX11_many_62 : decode cX11_many 62 = .ok (.ireturn, 1) := by decide +kernel
theorem dX11_many_63 : decode cX11_many 63 = .ok (.aload_n 0, 1) := by decide +kernel
theorem dX11_many_64 : decode cX11_many 64 = .ok (.getfield 81, 3) := by decide +kernel
theorem dX11_many_67 : decode cX11_many 67 = .ok (.getfield 111, 3) := by decide +kernel
theorem dX11_many_70 : decode cX11_many 70 = .ok (.getfield 128, 3) := by decide +kernel
theorem dX11_many_73 : decode cX11_many 73 = .ok (.invokestatic 285, 3) := by decide +kernel
theorem dX11_many_76 : decode cX11_many 76 = .ok (.ireturn, 1) := by decide +kernel
theorem dX11_many_77 : decode cX11_many 77 = .ok (.aload_n 0, 1) := by decide +kernel
theorem dX11_many_78 : decode cX11_many 78 = .ok (.getfield 81, 3) := by decide +kernel
theorem dX11_many_81 : decode cX11_many 81 = .ok (.getfield 258, 3) := by decide +kernel
theorem dX11_many_84 : decode cX11_many 84 = .ok (.ireturn, 1) := by decide +kernel
theorem dX11_many_85 : decode cX11_many 85 = .ok (.aload_n 0, 1) := by decide +kernel
theorem dX11_many_86 : decode cX11_many 86 = .ok (.getfield 297, 3) := by decide +kernel
theorem dX11_many_89 : decode cX11_many 89 = .ok (.ireturn, 1) := by decide +kernel
theorem dX11_many_90 : decode cX11_many 90 = .ok (.aload_n 0, 1) := by decide +kernel
theorem dX11_many_91 : decode cX11_many 91 = .ok (.getfield 182, 3) := by decide +kernel
theorem dX11_many_94 : decode cX11_many 94 = .ok (.ireturn, 1) := by decide +kernel
theorem dX11_many_95 : decode cX11_many 95 = .ok (.aload_n 0, 1) := by decide +kernel
theorem dX11_many_96 : decode cX11_many 96 = .ok (.getfield 19, 3) := by decide +kernel
theorem dX11_many_99 : decode cX11_many 99 = .ok (.getfield 362, 3) := by decide +kernel
theorem dX11_many_102 : decode cX11_many 102 = .ok (.ireturn, 1) := by decide +kernel
theorem dX11_many_103 : decode cX11_many 103 = .ok (.iconst (-1), 1) := by decide +kernel
theorem dX11_many_104 : decode cX11_many 104 = .ok (.ireturn, 1) := by decide +kernel
theorem dX11_keep_0 : decode cX11_keep 0 = .ok (.aload_n 0, 1) := by decide +kernel
theorem dX11_keep_1 : decode cX11_keep 1 = .ok (.getfield 85, 3) := by decide +kernel
theorem dX11_keep_4 : decode cX11_keep 4 = .ok (.aload_n 0, 1) := by decide +kernel
theorem dX11_keep_5 : decode cX11_keep 5 = .ok (.getfield 81, 3) := by decide +kernel
theorem dX11_keep_8 : decode cX11_keep 8 = .ok (.invokevirtual 368, 3) := by decide +kernel
theorem dX11_keep_11 : decode cX11_keep 11 = .ok (.aload_n 0, 1) := by decide +kernel
theorem dX11_keep_12 : decode cX11_keep 12 = .ok (.iconst 1, 1) := by decide +kernel
theorem dX11_keep_13 : decode cX11_keep 13 = .ok (.putfield 370, 3) := by decide +kernel
theorem dX11_keep_16 : decode cX11_keep 16 = .ok (.iconst 1, 1) := by decide +kernel
theorem dX11_keep_17 : decode cX11_keep 17 = .ok (.ireturn, 1) := by decide +kernel
theorem dX11_again_0 : decode cX11_again 0 = .ok (.aload_n 0, 1) := by decide +kernel
theorem dX11_again_1 : decode cX11_again 1 = .ok (.getfield 370, 3) := by decide +kernel
theorem dX11_again_4 : decode cX11_again 4 = .ok (.ifCond .ne 6, 3) := by decide +kernel
theorem dX11_again_7 : decode cX11_again 7 = .ok (.bipush (-3), 2) := by decide +kernel
theorem dX11_again_9 : decode cX11_again 9 = .ok (.ireturn, 1) := by decide +kernel
theorem dX11_again_10 : decode cX11_again 10 = .ok (.aload_n 0, 1) := by decide +kernel
theorem dX11_again_11 : decode cX11_again 11 = .ok (.getfield 81, 3) := by decide +kernel
theorem dX11_again_14 : decode cX11_again 14 = .ok (.aload_n 0, 1) := by decide +kernel
theorem dX11_again_15 : decode cX11_again 15 = .ok (.getfield 85, 3) := by decide +kernel
theorem dX11_again_18 : decode cX11_again 18 = .ok (.invokevirtual 368, 3) := by decide +kernel
theorem dX11_again_21 : decode cX11_again 21 = .ok (.aload_n 0, 1) := by decide +kernel
theorem dX11_again_22 : decode cX11_again 22 = .ok (.getfield 81, 3) := by decide +kernel
theorem dX11_again_25 : decode cX11_again 25 = .ok (.getfield 101, 3) := by decide +kernel
theorem dX11_again_28 : decode cX11_again 28 = .ok (.ireturn, 1) := by decide +kernel
theorem dX11_within_0 : decode cX11_within 0 = .ok (.iload_n 0, 1) := by decide +kernel
theorem dX11_within_1 : decode cX11_within 1 = .ok (.iload_n 1, 1) := by decide +kernel
theorem dX11_within_2 : decode cX11_within 2 = .ok (.if_icmp .lt 12, 3) := by decide +kernel
theorem dX11_within_5 : decode cX11_within 5 = .ok (.iload_n 0, 1) := by decide +kernel
theorem dX11_within_6 : decode cX11_within 6 = .ok (.iload_n 2, 1) := by decide +kernel
theorem dX11_within_7 : decode cX11_within 7 = .ok (.if_icmp .gt 7, 3) := by decide +kernel
theorem dX11_within_10 : decode cX11_within 10 = .ok (.iconst 1, 1) := by decide +kernel
theorem dX11_within_11 : decode cX11_within 11 = .ok (.goto 4, 3) := by decide +kernel
theorem dX11_within_14 : decode cX11_within 14 = .ok (.iconst 0, 1) := by decide +kernel
theorem dX11_within_15 : decode cX11_within 15 = .ok (.ireturn, 1) := by decide +kernel
theorem dX11_put_0 : decode cX11_put 0 = .ok (.aload_n 0, 1) := by decide +kernel
theorem dX11_put_1 : decode cX11_put 1 = .ok (.iload_n 1, 1) := by decide +kernel
theorem dX11_put_2 : decode cX11_put 2 = .ok (.iaload, 1) := by decide +kernel
theorem dX11_put_3 : decode cX11_put 3 = .ok (.istore_n 3, 1) := by decide +kernel
theorem dX11_put_4 : decode cX11_put 4 = .ok (.aload_n 0, 1) := by decide +kernel
theorem dX11_put_5 : decode cX11_put 5 = .ok (.iload_n 1, 1) := by decide +kernel
theorem dX11_put_6 : decode cX11_put 6 = .ok (.iload_n 2, 1) := by decide +kernel
theorem dX11_put_7 : decode cX11_put 7 = .ok (.iastore, 1) := by decide +kernel
theorem dX11_put_8 : decode cX11_put 8 = .ok (.iload_n 3, 1) := by decide +kernel
theorem dX11_put_9 : decode cX11_put 9 = .ok (.ireturn, 1) := by decide +kernel
theorem dX11_goBy_0 : decode cX11_goBy 0 = .ok (.aload_n 0, 1) := by decide +kernel
theorem dX11_goBy_1 : decode cX11_goBy 1 = .ok (.getfield 81, 3) := by decide +kernel
theorem dX11_goBy_4 : decode cX11_goBy 4 = .ok (.aload_n 0, 1) := by decide +kernel
theorem dX11_goBy_5 : decode cX11_goBy 5 = .ok (.getfield 81, 3) := by decide +kernel
theorem dX11_goBy_8 : decode cX11_goBy 8 = .ok (.getfield 111, 3) := by decide +kernel
theorem dX11_goBy_11 : decode cX11_goBy 11 = .ok (.iload_n 1, 1) := by decide +kernel
theorem dX11_goBy_12 : decode cX11_goBy 12 = .ok (.invokevirtual 212, 3) := by decide +kernel
theorem dX11_goBy_15 : decode cX11_goBy 15 = .ok (.istore_n 2, 1) := by decide +kernel
theorem dX11_goBy_16 : decode cX11_goBy 16 = .ok (.aload_n 0, 1) := by decide +kernel
theorem dX11_goBy_17 : decode cX11_goBy 17 = .ok (.getfield 81, 3) := by decide +kernel
theorem dX11_goBy_20 : decode cX11_goBy 20 = .ok (.dup, 1) := by decide +kernel
theorem dX11_goBy_21 : decode cX11_goBy 21 = .ok (.getfield 167, 3) := by decide +kernel
theorem dX11_goBy_24 : decode cX11_goBy 24 = .ok (.iload_n 2, 1) := by decide +kernel
theorem dX11_goBy_25 : decode cX11_goBy 25 = .ok (.iadd, 1) := by decide +kernel
theorem dX11_goBy_26 : decode cX11_goBy 26 = .ok (.putfield 167, 3) := by decide +kernel
theorem dX11_goBy_29 : decode cX11_goBy 29 = .ok (.iload_n 2, 1) := by decide +kernel
theorem dX11_goBy_30 : decode cX11_goBy 30 = .ok (.ireturn, 1) := by decide +kernel
theorem dX11_isAct_0 : decode cX11_isAct 0 = .ok (.iload_n 1, 1) := by decide +kernel
theorem dX11_isAct_1 : decode cX11_isAct 1 = .ok (.iconst 0, 1) := by decide +kernel
theorem dX11_isAct_2 : decode cX11_isAct 2 = .ok (.aload_n 0, 1) := by decide +kernel
theorem dX11_isAct_3 : decode cX11_isAct 3 = .ok (.getfield 81, 3) := by decide +kernel
theorem dX11_isAct_6 : decode cX11_isAct 6 = .ok (.getfield 101, 3) := by decide +kernel
theorem dX11_isAct_9 : decode cX11_isAct 9 = .ok (.invokestatic 97, 3) := by decide +kernel
theorem dX11_isAct_12 : decode cX11_isAct 12 = .ok (.ireturn, 1) := by decide +kernel
theorem dX11_isSetOfBarrels_0 : decode cX11_isSetOfBarrels 0 = .ok (.iload_n 1, 1) := by decide +kernel
theorem dX11_isSetOfBarrels_1 : decode cX11_isSetOfBarrels 1 = .ok (.iconst 0, 1) := by decide +kernel
theorem dX11_isSetOfBarrels_2 : decode cX11_isSetOfBarrels 2 = .ok (.iconst 1, 1) := by decide +kernel
theorem dX11_isSetOfBarrels_3 : decode cX11_isSetOfBarrels 3 = .ok (.aload_n 0, 1) := by decide +kernel
theorem dX11_isSetOfBarrels_4 : decode cX11_isSetOfBarrels 4 = .ok (.getfield 81, 3) := by decide +kernel
theorem dX11_isSetOfBarrels_7 : decode cX11_isSetOfBarrels 7 = .ok (.getfield 101, 3) := by decide +kernel
theorem dX11_isSetOfBarrels_10 : decode cX11_isSetOfBarrels 10 = .ok (.ishl, 1) := by decide +kernel
theorem dX11_isSetOfBarrels_11 : decode cX11_isSetOfBarrels 11 = .ok (.iconst 1, 1) := by decide +kernel
theorem dX11_isSetOfBarrels_12 : decode cX11_isSetOfBarrels 12 = .ok (.isub, 1) := by decide +kernel
theorem dX11_isSetOfBarrels_13 : decode cX11_isSetOfBarrels 13 = .ok (.invokestatic 97, 3) := by decide +kernel
theorem dX11_isSetOfBarrels_16 : decode cX11_isSetOfBarrels 16 = .ok (.ireturn, 1) := by decide +kernel
theorem dX11_nextLot_0 : decode cX11_nextLot 0 = .ok (.iload_n 0, 1) := by decide +kernel
theorem dX11_nextLot_1 : decode cX11_nextLot 1 = .ok (.ldc_w 373, 3) := by decide +kernel
theorem dX11_nextLot_4 : decode cX11_nextLot 4 = .ok (.imul, 1) := by decide +kernel
theorem dX11_nextLot_5 : decode cX11_nextLot 5 = .ok (.sipush 12345, 3) := by decide +kernel
theorem dX11_nextLot_8 : decode cX11_nextLot 8 = .ok (.iadd, 1) := by decide +kernel
theorem dX11_nextLot_9 : decode cX11_nextLot 9 = .ok (.ireturn, 1) := by decide +kernel
theorem dX11_actByLot_0 : decode cX11_actByLot 0 = .ok (.iload_n 1, 1) := by decide +kernel
theorem dX11_actByLot_1 : decode cX11_actByLot 1 = .ok (.bipush 16, 2) := by decide +kernel
theorem dX11_actByLot_3 : decode cX11_actByLot 3 = .ok (.iushr, 1) := by decide +kernel
theorem dX11_actByLot_4 : decode cX11_actByLot 4 = .ok (.aload_n 0, 1) := by decide +kernel
theorem dX11_actByLot_5 : decode cX11_actByLot 5 = .ok (.getfield 81, 3) := by decide +kernel
theorem dX11_actByLot_8 : decode cX11_actByLot 8 = .ok (.getfield 101, 3) := by decide +kernel
theorem dX11_actByLot_11 : decode cX11_actByLot 11 = .ok (.iconst 1, 1) := by decide +kernel
theorem dX11_actByLot_12 : decode cX11_actByLot 12 = .ok (.iadd, 1) := by decide +kernel
theorem dX11_actByLot_13 : decode cX11_actByLot 13 = .ok (.irem, 1) := by decide +kernel
theorem dX11_actByLot_14 : decode cX11_actByLot 14 = .ok (.ireturn, 1) := by decide +kernel
theorem dX11_countRafts_0 : decode cX11_countRafts 0 = .ok (.iconst 0, 1) := by decide +kernel
theorem dX11_countRafts_1 : decode cX11_countRafts 1 = .ok (.istore_n 1, 1) := by decide +kernel
theorem dX11_countRafts_2 : decode cX11_countRafts 2 = .ok (.iconst 0, 1) := by decide +kernel
theorem dX11_countRafts_3 : decode cX11_countRafts 3 = .ok (.istore_n 2, 1) := by decide +kernel
theorem dX11_countRafts_4 : decode cX11_countRafts 4 = .ok (.iconst 0, 1) := by decide +kernel
theorem dX11_countRafts_5 : decode cX11_countRafts 5 = .ok (.istore_n 3, 1) := by decide +kernel
theorem dX11_countRafts_6 : decode cX11_countRafts 6 = .ok (.iload_n 3, 1) := by decide +kernel
theorem dX11_countRafts_7 : decode cX11_countRafts 7 = .ok (.aload_n 0, 1) := by decide +kernel
theorem dX11_countRafts_8 : decode cX11_countRafts 8 = .ok (.getfield 81, 3) := by decide +kernel
theorem dX11_countRafts_11 : decode cX11_countRafts 11 = .ok (.getfield 101, 3) := by decide +kernel
theorem dX11_countRafts_14 : decode cX11_countRafts 14 = .ok (.if_icmp .ge 46, 3) := by decide +kernel
theorem dX11_countRafts_17 : decode cX11_countRafts 17 = .ok (.aload_n 0, 1) := by decide +kernel
theorem dX11_countRafts_18 : decode cX11_countRafts 18 = .ok (.getfield 81, 3) := by decide +kernel
theorem dX11_countRafts_21 : decode cX11_countRafts 21 = .ok (.getfield 111, 3) := by decide +kernel
theorem dX11_countRafts_24 : decode cX11_countRafts 24 = .ok (.iload_n 3, 1) := by decide +kernel
theorem dX11_countRafts_25 : decode cX11_countRafts 25 = .ok (.invokevirtual 209, 3) := by decide +kernel
theorem dX11_countRafts_28 : decode cX11_countRafts 28 = .ok (.ifCond .ne 26, 3) := by decide +kernel
theorem dX11_countRafts_31 : decode cX11_countRafts 31 = .ok (.iload_n 1, 1) := by decide +kernel
theorem dX11_countRafts_32 : decode cX11_countRafts 32 = .ok (.iload_n 3, 1) := by decide +kernel
theorem dX11_countRafts_33 : decode cX11_countRafts 33 = .ok (.ishr, 1) := by decide +kernel
theorem dX11_countRafts_34 : decode cX11_countRafts 34 = .ok (.iconst 1, 1) := by decide +kernel
theorem dX11_countRafts_35 : decode cX11_countRafts 35 = .ok (.iand, 1) := by decide +kernel
theorem dX11_countRafts_36 : decode cX11_countRafts 36 = .ok (.iconst 1, 1) := by decide +kernel
theorem dX11_countRafts_37 : decode cX11_countRafts 37 = .ok (.if_icmp .ne 6, 3) := by decide +kernel
theorem dX11_countRafts_40 : decode cX11_countRafts 40 = .ok (.goto 14, 3) := by decide +kernel
theorem dX11_countRafts_43 : decode cX11_countRafts 43 = .ok (.iload_n 1, 1) := by decide +kernel
theorem dX11_countRafts_44 : decode cX11_countRafts 44 = .ok (.aload_n 0, 1) := by decide +kernel
theorem dX11_countRafts_45 : decode cX11_countRafts 45 = .ok (.iload_n 3, 1) := by decide +kernel
theorem dX11_countRafts_46 : decode cX11_countRafts 46 = .ok (.invokevirtual 219, 3) := by decide +kernel
theorem dX11_countRafts_49 : decode cX11_countRafts 49 = .ok (.ior, 1) := by decide +kernel
theorem dX11_countRafts_50 : decode cX11_countRafts 50 = .ok (.istore_n 1, 1) := by decide +kernel
theorem dX11_countRafts_51 : decode cX11_countRafts 51 = .ok (.iinc 2 1, 3) := by decide +kernel
theorem dX11_countRafts_54 : decode cX11_countRafts 54 = .ok (.iinc 3 1, 3) := by decide +kernel
theorem dX11_countRafts_57 : decode cX11_countRafts 57 = .ok (.goto (-51), 3) := by decide +kernel
theorem dX11_countRafts_60 : decode cX11_countRafts 60 = .ok (.iload_n 2, 1) := by decide +kernel
theorem dX11_countRafts_61 : decode cX11_countRafts 61 = .ok (.ireturn, 1) := by decide +kernel
theorem dX11_raftOf_0 : decode cX11_raftOf 0 = .ok (.aload_n 0, 1) := by decide +kernel
theorem dX11_raftOf_1 : decode cX11_raftOf 1 = .ok (.getfield 81, 3) := by decide +kernel
theorem dX11_raftOf_4 : decode cX11_raftOf 4 = .ok (.getfield 111, 3) := by decide +kernel
theorem dX11_raftOf_7 : decode cX11_raftOf 7 = .ok (.iload_n 1, 1) := by decide +kernel
theorem dX11_raftOf_8 : decode cX11_raftOf 8 = .ok (.invokevirtual 209, 3) := by decide +kernel
theorem dX11_raftOf_11 : decode cX11_raftOf 11 = .ok (.ifCond .eq 5, 3) := by decide +kernel
theorem dX11_raftOf_14 : decode cX11_raftOf 14 = .ok (.iconst 0, 1) := by decide +kernel
theorem dX11_raftOf_15 : decode cX11_raftOf 15 = .ok (.ireturn, 1) := by decide +kernel
theorem dX11_raftOf_16 : decode cX11_raftOf 16 = .ok (.iconst 1, 1) := by decide +kernel
theorem dX11_raftOf_17 : decode cX11_raftOf 17 = .ok (.iload_n 1, 1) := by decide +kernel
theorem dX11_raftOf_18 : decode cX11_raftOf 18 = .ok (.ishl, 1) := by decide +kernel
theorem dX11_raftOf_19 : decode cX11_raftOf 19 = .ok (.istore_n 2, 1) := by decide +kernel
theorem dX11_raftOf_20 : decode cX11_raftOf 20 = .ok (.iconst 1, 1) := by decide +kernel
theorem dX11_raftOf_21 : decode cX11_raftOf 21 = .ok (.istore_n 3, 1) := by decide +kernel
theorem dX11_raftOf_22 : decode cX11_raftOf 22 = .ok (.iload_n 3, 1) := by decide +kernel
theorem dX11_raftOf_23 : decode cX11_raftOf 23 = .ok (.aload_n 0, 1) := by decide +kernel
theorem dX11_raftOf_24 : decode cX11_raftOf 24 = .ok (.getfield 81, 3) := by decide +kernel
theorem dX11_raftOf_27 : decode cX11_raftOf 27 = .ok (.getfield 101, 3) := by decide +kernel
theorem dX11_raftOf_30 : decode cX11_raftOf 30 = .ok (.if_icmp .ge 50, 3) := by decide +kernel
theorem dX11_raftOf_33 : decode cX11_raftOf 33 = .ok (.iconst 0, 1) := by decide +kernel
theorem dX11_raftOf_34 : decode cX11_raftOf 34 = .ok (.istore 4, 2) := by decide +kernel
theorem dX11_raftOf_36 : decode cX11_raftOf 36 = .ok (.iload 4, 2) := by decide +kernel
theorem dX11_raftOf_38 : decode cX11_raftOf 38 = .ok (.aload_n 0, 1) := by decide +kernel
theorem dX11_raftOf_39 : decode cX11_raftOf 39 = .ok (.getfield 81, 3) := by decide +kernel
theorem dX11_raftOf_42 : decode cX11_raftOf 42 = .ok (.getfield 101, 3) := by decide +kernel
theorem dX11_raftOf_45 : decode cX11_raftOf 45 = .ok (.if_icmp .ge 29, 3) := by decide +kernel
theorem dX11_raftOf_48 : decode cX11_raftOf 48 = .ok (.aload_n 0, 1) := by decide +kernel
theorem dX11_raftOf_49 : decode cX11_raftOf 49 = .ok (.getfield 81, 3) := by decide +kernel
theorem dX11_raftOf_52 : decode cX11_raftOf 52 = .ok (.iload 4, 2) := by decide +kernel
theorem dX11_raftOf_54 : decode cX11_raftOf 54 = .ok (.iload_n 2, 1) := by decide +kernel
theorem dX11_raftOf_55 : decode cX11_raftOf 55 = .ok (.invokevirtual 374, 3) := by decide +kernel
theorem dX11_raftOf_58 : decode cX11_raftOf 58 = .ok (.ifCond .eq 10, 3) := by decide +kernel
theorem dX11_raftOf_61 : decode cX11_raftOf 61 = .ok (.iload_n 2, 1) := by decide +kernel
theorem dX11_raftOf_62 : decode cX11_raftOf 62 = .ok (.iconst 1, 1) := by decide +kernel
theorem dX11_raftOf_63 : decode cX11_raftOf 63 = .ok (.iload 4, 2) := by decide +kernel
theorem dX11_raftOf_65 : decode cX11_raftOf 65 = .ok (.ishl, 1) := by decide +kernel
theorem dX11_raftOf_66 : decode cX11_raftOf 66 = .ok (.ior, 1) := by decide +kernel
theorem dX11_raftOf_67 : decode cX11_raftOf 67 = .ok (.istore_n 2, 1) := by decide +kernel
theorem dX11_raftOf_68 : decode cX11_raftOf 68 = .ok (.iinc 4 1, 3) := by decide +kernel
theorem dX11_raftOf_71 : decode cX11_raftOf 71 = .ok (.goto (-35), 3) := by decide +kernel
theorem dX11_raftOf_74 : decode cX11_raftOf 74 = .ok (.iinc 3 1, 3) := by decide +kernel
theorem dX11_raftOf_77 : decode cX11_raftOf 77 = .ok (.goto (-55), 3) := by decide +kernel
theorem dX11_raftOf_80 : decode cX11_raftOf 80 = .ok (.iload_n 2, 1) := by decide +kernel
theorem dX11_raftOf_81 : decode cX11_raftOf 81 = .ok (.ireturn, 1) := by decide +kernel
theorem dX11_isRowField_0 : decode cX11_isRowField 0 = .ok (.iload_n 1, 1) := by decide +kernel
theorem dX11_isRowField_1 : decode cX11_isRowField 1 = .ok (.iconst 0, 1) := by decide +kernel
theorem dX11_isRowField_2 : decode cX11_isRowField 2 = .ok (.aload_n 0, 1) := by decide +kernel
theorem dX11_isRowField_3 : decode cX11_isRowField 3 = .ok (.getfield 297, 3) := by decide +kernel
theorem dX11_isRowField_6 : decode cX11_isRowField 6 = .ok (.iconst 1, 1) := by decide +kernel
theorem dX11_isRowField_7 : decode cX11_isRowField 7 = .ok (.isub, 1) := by decide +kernel
theorem dX11_isRowField_8 : decode cX11_isRowField 8 = .ok (.invokestatic 97, 3) := by decide +kernel
theorem dX11_isRowField_11 : decode cX11_isRowField 11 = .ok (.ifCond .eq 16, 3) := by decide +kernel
theorem dX11_isRowField_14 : decode cX11_isRowField 14 = .ok (.iload_n 2, 1) := by decide +kernel
theorem dX11_isRowField_15 : decode cX11_isRowField 15 = .ok (.iconst 0, 1) := by decide +kernel
theorem dX11_isRowField_16 : decode cX11_isRowField 16 = .ok (.iconst 2, 1) := by decide +kernel
theorem dX11_isRowField_17 : decode cX11_isRowField 17 = .ok (.invokestatic 97, 3) := by decide +kernel
theorem dX11_isRowField_20 : decode cX11_isRowField 20 = .ok (.ifCond .eq 7, 3) := by decide +kernel
theorem dX11_isRowField_23 : decode cX11_isRowField 23 = .ok (.iconst 1, 1) := by decide +kernel
theorem dX11_isRowField_24 : decode cX11_isRowField 24 = .ok (.goto 4, 3) := by decide +kernel
theorem dX11_isRowField_27 : decode cX11_isRowField 27 = .ok (.iconst 0, 1) := by decide +kernel
theorem dX11_isRowField_28 : decode cX11_isRowField 28 = .ok (.ireturn, 1) := by decide +kernel
theorem dX11_isSheet_0 : decode cX11_isSheet 0 = .ok (.iload_n 0, 1) := by decide +kernel
theorem dX11_isSheet_1 : decode cX11_isSheet 1 = .ok (.iconst 0, 1) := by decide +kernel
theorem dX11_isSheet_2 : decode cX11_isSheet 2 = .ok (.iconst 3, 1) := by decide +kernel
theorem dX11_isSheet_3 : decode cX11_isSheet 3 = .ok (.invokestatic 97, 3) := by decide +kernel
theorem dX11_isSheet_6 : decode cX11_isSheet 6 = .ok (.ireturn, 1) := by decide +kernel
theorem dX11_isShelf_0 : decode cX11_isShelf 0 = .ok (.iload_n 0, 1) := by decide +kernel
theorem dX11_isShelf_1 : decode cX11_isShelf 1 = .ok (.iconst 0, 1) := by decide +kernel
theorem dX11_isShelf_2 : decode cX11_isShelf 2 = .ok (.iconst 3, 1) := by decide +kernel
theorem dX11_isShelf_3 : decode cX11_isShelf 3 = .ok (.invokestatic 97, 3) := by decide +kernel
theorem dX11_isShelf_6 : decode cX11_isShelf 6 = .ok (.ireturn, 1) := by decide +kernel
theorem dX11_refusalAs_0 : decode cX11_refusalAs 0 = .ok (.aload_n 0, 1) := by decide +kernel
theorem dX11_refusalAs_1 : decode cX11_refusalAs 1 = .ok (.getfield 38, 3) := by decide +kernel
theorem dX11_refusalAs_4 : decode cX11_refusalAs 4 = .ok (.iload_n 1, 1) := by decide +kernel
theorem dX11_refusalAs_5 : decode cX11_refusalAs 5 = .ok (.iaload, 1) := by decide +kernel
theorem dX11_refusalAs_6 : decode cX11_refusalAs 6 = .ok (.iconst (-1), 1) := by decide +kernel
theorem dX11_refusalAs_7 : decode cX11_refusalAs 7 = .ok (.if_icmp .ne 6, 3) := by decide +kernel
theorem dX11_refusalAs_10 : decode cX11_refusalAs 10 = .ok (.bipush (-11), 2) := by decide +kernel
theorem dX11_refusalAs_12 : decode cX11_refusalAs 12 = .ok (.ireturn, 1) := by decide +kernel
theorem dX11_refusalAs_13 : decode cX11_refusalAs 13 = .ok (.aload_n 0, 1) := by decide +kernel
theorem dX11_refusalAs_14 : decode cX11_refusalAs 14 = .ok (.getfield 38, 3) := by decide +kernel
theorem dX11_refusalAs_17 : decode cX11_refusalAs 17 = .ok (.iload_n 1, 1) := by decide +kernel
theorem dX11_refusalAs_18 : decode cX11_refusalAs 18 = .ok (.iaload, 1) := by decide +kernel
theorem dX11_refusalAs_19 : decode cX11_refusalAs 19 = .ok (.iload_n 2, 1) := by decide +kernel
theorem dX11_refusalAs_20 : decode cX11_refusalAs 20 = .ok (.if_icmp .ne 7, 3) := by decide +kernel
theorem dX11_refusalAs_23 : decode cX11_refusalAs 23 = .ok (.iconst 0, 1) := by decide +kernel
theorem dX11_refusalAs_24 : decode cX11_refusalAs 24 = .ok (.goto 5, 3) := by decide +kernel
theorem dX11_refusalAs_27 : decode cX11_refusalAs 27 = .ok (.bipush (-13), 2) := by decide +kernel
theorem dX11_refusalAs_29 : decode cX11_refusalAs 29 = .ok (.ireturn, 1) := by decide +kernel
theorem dX11_narrowed_0 : decode cX11_narrowed 0 = .ok (.iload_n 1, 1) := by decide +kernel
theorem dX11_narrowed_1 : decode cX11_narrowed 1 = .ok (.tableswitch 51 0 4 #[35, 38, 51, 51, 41], 35) := by decide +kernel
theorem dX11_narrowed_36 : decode cX11_narrowed 36 = .ok (.iload_n 0, 1) := by decide +kernel
theorem dX11_narrowed_37 : decode cX11_narrowed 37 = .ok (.i2b, 1) := by decide +kernel
theorem dX11_narrowed_38 : decode cX11_narrowed 38 = .ok (.ireturn, 1) := by decide +kernel
theorem dX11_narrowed_39 : decode cX11_narrowed 39 = .ok (.iload_n 0, 1) := by decide +kernel
theorem dX11_narrowed_40 : decode cX11_narrowed 40 = .ok (.i2s, 1) := by decide +kernel
theorem dX11_narrowed_41 : decode cX11_narrowed 41 = .ok (.ireturn, 1) := by decide +kernel
theorem dX11_narrowed_42 : decode cX11_narrowed 42 = .ok (.iload_n 0, 1) := by decide +kernel
theorem dX11_narrowed_43 : decode cX11_narrowed 43 = .ok (.ifCond .eq 7, 3) := by decide +kernel
theorem dX11_narrowed_46 : decode cX11_narrowed 46 = .ok (.iconst 1, 1) := by decide +kernel
theorem dX11_narrowed_47 : decode cX11_narrowed 47 = .ok (.goto 4, 3) := by decide +kernel
theorem dX11_narrowed_50 : decode cX11_narrowed 50 = .ok (.iconst 0, 1) := by decide +kernel
theorem dX11_narrowed_51 : decode cX11_narrowed 51 = .ok (.ireturn, 1) := by decide +kernel
theorem dX11_narrowed_52 : decode cX11_narrowed 52 = .ok (.iload_n 0, 1) := by decide +kernel
theorem dX11_narrowed_53 : decode cX11_narrowed 53 = .ok (.ireturn, 1) := by decide +kernel
theorem dX11_place_0 : decode cX11_place 0 = .ok (.aload_n 0, 1) := by decide +kernel
theorem dX11_place_1 : decode cX11_place 1 = .ok (.getfield 49, 3) := by decide +kernel
theorem dX11_place_4 : decode cX11_place 4 = .ok (.iload_n 1, 1) := by decide +kernel
theorem dX11_place_5 : decode cX11_place 5 = .ok (.iload_n 2, 1) := by decide +kernel
theorem dX11_place_6 : decode cX11_place 6 = .ok (.iastore, 1) := by decide +kernel
theorem dX11_place_7 : decode cX11_place 7 = .ok (.aload_n 0, 1) := by decide +kernel
theorem dX11_place_8 : decode cX11_place 8 = .ok (.getfield 52, 3) := by decide +kernel
theorem dX11_place_11 : decode cX11_place 11 = .ok (.iload_n 1, 1) := by decide +kernel
theorem dX11_place_12 : decode cX11_place 12 = .ok (.iload_n 3, 1) := by decide +kernel
theorem dX11_place_13 : decode cX11_place 13 = .ok (.iastore, 1) := by decide +kernel
theorem dX11_place_14 : decode cX11_place 14 = .ok (.aload_n 0, 1) := by decide +kernel
theorem dX11_place_15 : decode cX11_place 15 = .ok (.getfield 55, 3) := by decide +kernel
theorem dX11_place_18 : decode cX11_place 18 = .ok (.iload_n 1, 1) := by decide +kernel
theorem dX11_place_19 : decode cX11_place 19 = .ok (.iload 4, 2) := by decide +kernel
theorem dX11_place_21 : decode cX11_place 21 = .ok (.iastore, 1) := by decide +kernel
theorem dX11_place_22 : decode cX11_place 22 = .ok (.iconst 1, 1) := by decide +kernel
theorem dX11_place_23 : decode cX11_place 23 = .ok (.ireturn, 1) := by decide +kernel
theorem dX11_placeRow_0 : decode cX11_placeRow 0 = .ok (.aload_n 0, 1) := by decide +kernel
theorem dX11_placeRow_1 : decode cX11_placeRow 1 = .ok (.getfield 38, 3) := by decide +kernel
theorem dX11_placeRow_4 : decode cX11_placeRow 4 = .ok (.iload_n 2, 1) := by decide +kernel
theorem dX11_placeRow_5 : decode cX11_placeRow 5 = .ok (.iaload, 1) := by decide +kernel
theorem dX11_placeRow_6 : decode cX11_placeRow 6 = .ok (.iconst (-1), 1) := by decide +kernel
theorem dX11_placeRow_7 : decode cX11_placeRow 7 = .ok (.if_icmp .ne 12, 3) := by decide +kernel
theorem dX11_placeRow_10 : decode cX11_placeRow 10 = .ok (.aload_n 0, 1) := by decide +kernel
theorem dX11_placeRow_11 : decode cX11_placeRow 11 = .ok (.iload_n 1, 1) := by decide +kernel
theorem dX11_placeRow_12 : decode cX11_placeRow 12 = .ok (.iconst 2, 1) := by decide +kernel
theorem dX11_placeRow_13 : decode cX11_placeRow 13 = .ok (.iconst 0, 1) := by decide +kernel
theorem dX11_placeRow_14 : decode cX11_placeRow 14 = .ok (.iconst 0, 1) := by decide +kernel
theorem dX11_placeRow_15 : decode cX11_placeRow 15 = .ok (.invokevirtual 319, 3) := by decide +kernel
theorem dX11_placeRow_18 : decode cX11_placeRow 18 = .ok (.ireturn, 1) := by decide +kernel
theorem dX11_placeRow_19 : decode cX11_placeRow 19 = .ok (.aload_n 0, 1) := by decide +kernel
theorem dX11_placeRow_20 : decode cX11_placeRow 20 = .ok (.iload_n 1, 1) := by decide +kernel
theorem dX11_placeRow_21 : decode cX11_placeRow 21 = .ok (.iconst 1, 1) := by decide +kernel
theorem dX11_placeRow_22 : decode cX11_placeRow 22 = .ok (.aload_n 0, 1) := by decide +kernel
theorem dX11_placeRow_23 : decode cX11_placeRow 23 = .ok (.getfield 38, 3) := by decide +kernel
theorem dX11_placeRow_26 : decode cX11_placeRow 26 = .ok (.iload_n 2, 1) := by decide +kernel
theorem dX11_placeRow_27 : decode cX11_placeRow 27 = .ok (.iaload, 1) := by decide +kernel
theorem dX11_placeRow_28 : decode cX11_placeRow 28 = .ok (.aload_n 0, 1) := by decide +kernel
theorem dX11_placeRow_29 : decode cX11_placeRow 29 = .ok (.getfield 41, 3) := by decide +kernel
theorem dX11_placeRow_32 : decode cX11_placeRow 32 = .ok (.iload_n 2, 1) := by decide +kernel
theorem dX11_placeRow_33 : decode cX11_placeRow 33 = .ok (.iaload, 1) := by decide +kernel
theorem dX11_placeRow_34 : decode cX11_placeRow 34 = .ok (.invokevirtual 319, 3) := by decide +kernel
theorem dX11_placeRow_37 : decode cX11_placeRow 37 = .ok (.ireturn, 1) := by decide +kernel
theorem dX11_holdsNothing_0 : decode cX11_holdsNothing 0 = .ok (.aload_n 0, 1) := by decide +kernel
theorem dX11_holdsNothing_1 : decode cX11_holdsNothing 1 = .ok (.getfield 49, 3) := by decide +kernel
theorem dX11_holdsNothing_4 : decode cX11_holdsNothing 4 = .ok (.iload_n 1, 1) := by decide +kernel
theorem dX11_holdsNothing_5 : decode cX11_holdsNothing 5 = .ok (.iaload, 1) := by decide +kernel
theorem dX11_holdsNothing_6 : decode cX11_holdsNothing 6 = .ok (.iconst 2, 1) := by decide +kernel
theorem dX11_holdsNothing_7 : decode cX11_holdsNothing 7 = .ok (.if_icmp .ne 5, 3) := by decide +kernel
theorem dX11_holdsNothing_10 : decode cX11_holdsNothing 10 = .ok (.iconst 1, 1) := by decide +kernel
theorem dX11_holdsNothing_11 : decode cX11_holdsNothing 11 = .ok (.ireturn, 1) := by decide +kernel
theorem dX11_holdsNothing_12 : decode cX11_holdsNothing 12 = .ok (.aload_n 0, 1) := by decide +kernel
theorem dX11_holdsNothing_13 : decode cX11_holdsNothing 13 = .ok (.getfield 49, 3) := by decide +kernel
theorem dX11_holdsNothing_16 : decode cX11_holdsNothing 16 = .ok (.iload_n 1, 1) := by decide +kernel
theorem dX11_holdsNothing_17 : decode cX11_holdsNothing 17 = .ok (.iaload, 1) := by decide +kernel
theorem dX11_holdsNothing_18 : decode cX11_holdsNothing 18 = .ok (.ifCond .ne 23, 3) := by decide +kernel
theorem dX11_holdsNothing_21 : decode cX11_holdsNothing 21 = .ok (.aload_n 0, 1) := by decide +kernel
theorem dX11_holdsNothing_22 : decode cX11_holdsNothing 22 = .ok (.getfield 81, 3) := by decide +kernel
theorem dX11_holdsNothing_25 : decode cX11_holdsNothing 25 = .ok (.aload_n 0, 1) := by decide +kernel
theorem dX11_holdsNothing_26 : decode cX11_holdsNothing 26 = .ok (.getfield 52, 3) := by decide +kernel
theorem dX11_holdsNothing_29 : decode cX11_holdsNothing 29 = .ok (.iload_n 1, 1) := by decide +kernel
theorem dX11_holdsNothing_30 : decode cX11_holdsNothing 30 = .ok (.iaload, 1) := by decide +kernel
theorem dX11_holdsNothing_31 : decode cX11_holdsNothing 31 = .ok (.invokevirtual 124, 3) := by decide +kernel
theorem dX11_holdsNothing_34 : decode cX11_holdsNothing 34 = .ok (.ifCond .ne 7, 3) := by decide +kernel
theorem dX11_holdsNothing_37 : decode cX11_holdsNothing 37 = .ok (.iconst 1, 1) := by decide +kernel
theorem dX11_holdsNothing_38 : decode cX11_holdsNothing 38 = .ok (.goto 4, 3) := by decide +kernel
theorem dX11_holdsNothing_41 : decode cX11_holdsNothing 41 = .ok (.iconst 0, 1) := by decide +kernel
theorem dX11_holdsNothing_42 : decode cX11_holdsNothing 42 = .ok (.ireturn, 1) := by decide +kernel

theorem dX10_init_0 : decode cX10_init 0 = .ok (.aload_n 0, 1) := by decide +kernel
theorem dX10_init_1 : decode cX10_init 1 = .ok (.invokespecial 3, 3) := by decide +kernel
theorem dX10_init_4 : decode cX10_init 4 = .ok (.aload_n 0, 1) := by decide +kernel
theorem dX10_init_5 : decode cX10_init 5 = .ok (.bipush 6, 2) := by decide +kernel
theorem dX10_init_7 : decode cX10_init 7 = .ok (.newarray .int, 2) := by decide +kernel
theorem dX10_init_9 : decode cX10_init 9 = .ok (.putfield 9, 3) := by decide +kernel
theorem dX10_init_12 : decode cX10_init 12 = .ok (.aload_n 0, 1) := by decide +kernel
theorem dX10_init_13 : decode cX10_init 13 = .ok (.bipush 6, 2) := by decide +kernel
theorem dX10_init_15 : decode cX10_init 15 = .ok (.newarray .int, 2) := by decide +kernel
theorem dX10_init_17 : decode cX10_init 17 = .ok (.putfield 15, 3) := by decide +kernel
theorem dX10_init_20 : decode cX10_init 20 = .ok (.aload_n 0, 1) := by decide +kernel
theorem dX10_init_21 : decode cX10_init 21 = .ok (.bipush 16, 2) := by decide +kernel
theorem dX10_init_23 : decode cX10_init 23 = .ok (.newarray .int, 2) := by decide +kernel
theorem dX10_init_25 : decode cX10_init 25 = .ok (.dup, 1) := by decide +kernel
theorem dX10_init_26 : decode cX10_init 26 = .ok (.iconst 0, 1) := by decide +kernel
theorem dX10_init_27 : decode cX10_init 27 = .ok (.bipush 9, 2) := by decide +kernel
theorem dX10_init_29 : decode cX10_init 29 = .ok (.iastore, 1) := by decide +kernel
theorem dX10_init_30 : decode cX10_init 30 = .ok (.dup, 1) := by decide +kernel
theorem dX10_init_31 : decode cX10_init 31 = .ok (.iconst 1, 1) := by decide +kernel
theorem dX10_init_32 : decode cX10_init 32 = .ok (.bipush 9, 2) := by decide +kernel
theorem dX10_init_34 : decode cX10_init 34 = .ok (.iastore, 1) := by decide +kernel
theorem dX10_init_35 : decode cX10_init 35 = .ok (.dup, 1) := by decide +kernel
theorem dX10_init_36 : decode cX10_init 36 = .ok (.iconst 2, 1) := by decide +kernel
theorem dX10_init_37 : decode cX10_init 37 = .ok (.bipush 9, 2) := by decide +kernel
theorem dX10_init_39 : decode cX10_init 39 = .ok (.iastore, 1) := by decide +kernel
theorem dX10_init_40 : decode cX10_init 40 = .ok (.dup, 1) := by decide +kernel
theorem dX10_init_41 : decode cX10_init 41 = .ok (.iconst 3, 1) := by decide +kernel
theorem dX10_init_42 : decode cX10_init 42 = .ok (.bipush 9, 2) := by decide +kernel
theorem dX10_init_44 : decode cX10_init 44 = .ok (.iastore, 1) := by decide +kernel
theorem dX10_init_45 : decode cX10_init 45 = .ok (.dup, 1) := by decide +kernel
theorem dX10_init_46 : decode cX10_init 46 = .ok (.iconst 4, 1) := by decide +kernel
theorem dX10_init_47 : decode cX10_init 47 = .ok (.bipush 9, 2) := by decide +kernel
theorem dX10_init_49 : decode cX10_init 49 = .ok (.iastore, 1) := by decide +kernel
theorem dX10_init_50 : decode cX10_init 50 = .ok (.dup, 1) := by decide +kernel
theorem dX10_init_51 : decode cX10_init 51 = .ok (.iconst 5, 1) := by decide +kernel
theorem dX10_init_52 : decode cX10_init 52 = .ok (.bipush 9, 2) := by decide +kernel
theorem dX10_init_54 : decode cX10_init 54 = .ok (.iastore, 1) := by decide +kernel
theorem dX10_init_55 : decode cX10_init 55 = .ok (.dup, 1) := by decide +kernel
theorem dX10_init_56 : decode cX10_init 56 = .ok (.bipush 6, 2) := by decide +kernel
theorem dX10_init_58 : decode cX10_init 58 = .ok (.bipush 9, 2) := by decide +kernel
theorem dX10_init_60 : decode cX10_init 60 = .ok (.iastore, 1) := by decide +kernel
theorem dX10_init_61 : decode cX10_init 61 = .ok (.dup, 1) := by decide +kernel
theorem dX10_init_62 : decode cX10_init 62 = .ok (.bipush 7, 2) := by decide +kernel
theorem dX10_init_64 : decode cX10_init 64 = .ok (.bipush 9, 2) := by decide +kernel
theorem dX10_init_66 : decode cX10_init 66 = .ok (.iastore, 1) := by decide +kernel
theorem dX10_init_67 : decode cX10_init 67 = .ok (.dup, 1) := by decide +kernel
theorem dX10_init_68 : decode cX10_init 68 = .ok (.bipush 8, 2) := by decide +kernel
theorem dX10_init_70 : decode cX10_init 70 = .ok (.bipush 9, 2) := by decide +kernel
theorem dX10_init_72 : decode cX10_init 72 = .ok (.iastore, 1) := by decide +kernel
theorem dX10_init_73 : decode cX10_init 73 = .ok (.dup, 1) := by decide +kernel
theorem dX10_init_74 : decode cX10_init 74 = .ok (.bipush 9, 2) := by decide +kernel
theorem dX10_init_76 : decode cX10_init 76 = .ok (.bipush 9, 2) := by decide +kernel
theorem dX10_init_78 : decode cX10_init 78 = .ok (.iastore, 1) := by decide +kernel
theorem dX10_init_79 : decode cX10_init 79 = .ok (.dup, 1) := by decide +kernel
theorem dX10_init_80 : decode cX10_init 80 = .ok (.bipush 10, 2) := by decide +kernel
theorem dX10_init_82 : decode cX10_init 82 = .ok (.bipush 9, 2) := by decide +kernel
theorem dX10_init_84 : decode cX10_init 84 = .ok (.iastore, 1) := by decide +kernel
theorem dX10_init_85 : decode cX10_init 85 = .ok (.dup, 1) := by decide +kernel
theorem dX10_init_86 : decode cX10_init 86 = .ok (.bipush 11, 2) := by decide +kernel
theorem dX10_init_88 : decode cX10_init 88 = .ok (.bipush 9, 2) := by decide +kernel
theorem dX10_init_90 : decode cX10_init 90 = .ok (.iastore, 1) := by decide +kernel
theorem dX10_init_91 : decode cX10_init 91 = .ok (.dup, 1) := by decide +kernel
theorem dX10_init_92 : decode cX10_init 92 = .ok (.bipush 12, 2) := by decide +kernel
theorem dX10_init_94 : decode cX10_init 94 = .ok (.bipush 9, 2) := by decide +kernel
theorem dX10_init_96 : decode cX10_init 96 = .ok (.iastore, 1) := by decide +kernel
theorem dX10_init_97 : decode cX10_init 97 = .ok (.dup, 1) := by decide +kernel
theorem dX10_init_98 : decode cX10_init 98 = .ok (.bipush 13, 2) := by decide +kernel
theorem dX10_init_100 : decode cX10_init 100 = .ok (.bipush 9, 2) := by decide +kernel
theorem dX10_init_102 : decode cX10_init 102 = .ok (.iastore, 1) := by decide +kernel
theorem dX10_init_103 : decode cX10_init 103 = .ok (.dup, 1) := by decide +kernel
theorem dX10_init_104 : decode cX10_init 104 = .ok (.bipush 14, 2) := by decide +kernel
theorem dX10_init_106 : decode cX10_init 106 = .ok (.bipush 9, 2) := by decide +kernel
theorem dX10_init_108 : decode cX10_init 108 = .ok (.iastore, 1) := by decide +kernel
theorem dX10_init_109 : decode cX10_init 109 = .ok (.dup, 1) := by decide +kernel
theorem dX10_init_110 : decode cX10_init 110 = .ok (.bipush 15, 2) := by decide +kernel
theorem dX10_init_112 : decode cX10_init 112 = .ok (.bipush 9, 2) := by decide +kernel
theorem dX10_init_114 : decode cX10_init 114 = .ok (.iastore, 1) := by decide +kernel
theorem dX10_init_115 : decode cX10_init 115 = .ok (.putfield 18, 3) := by decide +kernel
theorem dX10_init_118 : decode cX10_init 118 = .ok (.aload_n 0, 1) := by decide +kernel
theorem dX10_init_119 : decode cX10_init 119 = .ok (.bipush 6, 2) := by decide +kernel
theorem dX10_init_121 : decode cX10_init 121 = .ok (.newarray .int, 2) := by decide +kernel
theorem dX10_init_123 : decode cX10_init 123 = .ok (.putfield 21, 3) := by decide +kernel
theorem dX10_init_126 : decode cX10_init 126 = .ok (.aload_n 0, 1) := by decide +kernel
theorem dX10_init_127 : decode cX10_init 127 = .ok (.bipush 6, 2) := by decide +kernel
theorem dX10_init_129 : decode cX10_init 129 = .ok (.newarray .int, 2) := by decide +kernel
theorem dX10_init_131 : decode cX10_init 131 = .ok (.putfield 24, 3) := by decide +kernel
theorem dX10_init_134 : decode cX10_init 134 = .ok (.aload_n 0, 1) := by decide +kernel
theorem dX10_init_135 : decode cX10_init 135 = .ok (.new 27, 3) := by decide +kernel
theorem dX10_init_138 : decode cX10_init 138 = .ok (.dup, 1) := by decide +kernel
theorem dX10_init_139 : decode cX10_init 139 = .ok (.invokespecial 29, 3) := by decide +kernel
theorem dX10_init_142 : decode cX10_init 142 = .ok (.putfield 30, 3) := by decide +kernel
theorem dX10_init_145 : decode cX10_init 145 = .ok (.aload_n 0, 1) := by decide +kernel
theorem dX10_init_146 : decode cX10_init 146 = .ok (.new 34, 3) := by decide +kernel
theorem dX10_init_149 : decode cX10_init 149 = .ok (.dup, 1) := by decide +kernel
theorem dX10_init_150 : decode cX10_init 150 = .ok (.invokespecial 36, 3) := by decide +kernel
theorem dX10_init_153 : decode cX10_init 153 = .ok (.putfield 37, 3) := by decide +kernel
theorem dX10_init_156 : decode cX10_init 156 = .ok (.aload_n 0, 1) := by decide +kernel
theorem dX10_init_157 : decode cX10_init 157 = .ok (.bipush 6, 2) := by decide +kernel
theorem dX10_init_159 : decode cX10_init 159 = .ok (.newarray .int, 2) := by decide +kernel
theorem dX10_init_161 : decode cX10_init 161 = .ok (.putfield 41, 3) := by decide +kernel
theorem dX10_init_164 : decode cX10_init 164 = .ok (.aload_n 0, 1) := by decide +kernel
theorem dX10_init_165 : decode cX10_init 165 = .ok (.bipush 6, 2) := by decide +kernel
theorem dX10_init_167 : decode cX10_init 167 = .ok (.newarray .int, 2) := by decide +kernel
theorem dX10_init_169 : decode cX10_init 169 = .ok (.putfield 44, 3) := by decide +kernel
theorem dX10_init_172 : decode cX10_init 172 = .ok (.aload_n 0, 1) := by decide +kernel
theorem dX10_init_173 : decode cX10_init 173 = .ok (.bipush 6, 2) := by decide +kernel
theorem dX10_init_175 : decode cX10_init 175 = .ok (.newarray .int, 2) := by decide +kernel
theorem dX10_init_177 : decode cX10_init 177 = .ok (.putfield 47, 3) := by decide +kernel
theorem dX10_init_180 : decode cX10_init 180 = .ok (.aload_n 0, 1) := by decide +kernel
theorem dX10_init_181 : decode cX10_init 181 = .ok (.bipush 6, 2) := by decide +kernel
theorem dX10_init_183 : decode cX10_init 183 = .ok (.newarray .int, 2) := by decide +kernel
theorem dX10_init_185 : decode cX10_init 185 = .ok (.putfield 50, 3) := by decide +kernel
theorem dX10_init_188 : decode cX10_init 188 = .ok (.aload_n 0, 1) := by decide +kernel
theorem dX10_init_189 : decode cX10_init 189 = .ok (.bipush 12, 2) := by decide +kernel
theorem dX10_init_191 : decode cX10_init 191 = .ok (.putfield 53, 3) := by decide +kernel
theorem dX10_init_194 : decode cX10_init 194 = .ok (.aload_n 0, 1) := by decide +kernel
theorem dX10_init_195 : decode cX10_init 195 = .ok (.iconst 1, 1) := by decide +kernel
theorem dX10_init_196 : decode cX10_init 196 = .ok (.putfield 57, 3) := by decide +kernel
theorem dX10_init_199 : decode cX10_init 199 = .ok (.aload_n 0, 1) := by decide +kernel
theorem dX10_init_200 : decode cX10_init 200 = .ok (.aload_n 1, 1) := by decide +kernel
theorem dX10_init_201 : decode cX10_init 201 = .ok (.putfield 60, 3) := by decide +kernel
theorem dX10_init_204 : decode cX10_init 204 = .ok (.return_, 1) := by decide +kernel
theorem dX10_take_0 : decode cX10_take 0 = .ok (.aload_n 1, 1) := by decide +kernel
theorem dX10_take_1 : decode cX10_take 1 = .ok (.getfield 9, 3) := by decide +kernel
theorem dX10_take_4 : decode cX10_take 4 = .ok (.aload_n 0, 1) := by decide +kernel
theorem dX10_take_5 : decode cX10_take 5 = .ok (.getfield 9, 3) := by decide +kernel
theorem dX10_take_8 : decode cX10_take 8 = .ok (.invokestatic 64, 3) := by decide +kernel
theorem dX10_take_11 : decode cX10_take 11 = .ok (.aload_n 1, 1) := by decide +kernel
theorem dX10_take_12 : decode cX10_take 12 = .ok (.getfield 15, 3) := by decide +kernel
theorem dX10_take_15 : decode cX10_take 15 = .ok (.aload_n 0, 1) := by decide +kernel
theorem dX10_take_16 : decode cX10_take 16 = .ok (.getfield 15, 3) := by decide +kernel
theorem dX10_take_19 : decode cX10_take 19 = .ok (.invokestatic 64, 3) := by decide +kernel
theorem dX10_take_22 : decode cX10_take 22 = .ok (.aload_n 1, 1) := by decide +kernel
theorem dX10_take_23 : decode cX10_take 23 = .ok (.getfield 18, 3) := by decide +kernel
theorem dX10_take_26 : decode cX10_take 26 = .ok (.aload_n 0, 1) := by decide +kernel
theorem dX10_take_27 : decode cX10_take 27 = .ok (.getfield 18, 3) := by decide +kernel
theorem dX10_take_30 : decode cX10_take 30 = .ok (.invokestatic 64, 3) := by decide +kernel
theorem dX10_take_33 : decode cX10_take 33 = .ok (.aload_n 1, 1) := by decide +kernel
theorem dX10_take_34 : decode cX10_take 34 = .ok (.getfield 21, 3) := by decide +kernel
theorem dX10_take_37 : decode cX10_take 37 = .ok (.aload_n 0, 1) := by decide +kernel
theorem dX10_take_38 : decode cX10_take 38 = .ok (.getfield 21, 3) := by decide +kernel
theorem dX10_take_41 : decode cX10_take 41 = .ok (.invokestatic 64, 3) := by decide +kernel
theorem dX10_take_44 : decode cX10_take 44 = .ok (.aload_n 1, 1) := by decide +kernel
theorem dX10_take_45 : decode cX10_take 45 = .ok (.getfield 24, 3) := by decide +kernel
theorem dX10_take_48 : decode cX10_take 48 = .ok (.aload_n 0, 1) := by decide +kernel
theorem dX10_take_49 : decode cX10_take 49 = .ok (.getfield 24, 3) := by decide +kernel
theorem dX10_take_52 : decode cX10_take 52 = .ok (.invokestatic 64, 3) := by decide +kernel
theorem dX10_take_55 : decode cX10_take 55 = .ok (.aload_n 0, 1) := by decide +kernel
theorem dX10_take_56 : decode cX10_take 56 = .ok (.getfield 30, 3) := by decide +kernel
theorem dX10_take_59 : decode cX10_take 59 = .ok (.aload_n 1, 1) := by decide +kernel
theorem dX10_take_60 : decode cX10_take 60 = .ok (.getfield 30, 3) := by decide +kernel
theorem dX10_take_63 : decode cX10_take 63 = .ok (.invokevirtual 68, 3) := by decide +kernel
theorem dX10_take_66 : decode cX10_take 66 = .ok (.aload_n 0, 1) := by decide +kernel
theorem dX10_take_67 : decode cX10_take 67 = .ok (.getfield 37, 3) := by decide +kernel
theorem dX10_take_70 : decode cX10_take 70 = .ok (.aload_n 1, 1) := by decide +kernel
theorem dX10_take_71 : decode cX10_take 71 = .ok (.getfield 37, 3) := by decide +kernel
theorem dX10_take_74 : decode cX10_take 74 = .ok (.invokevirtual 72, 3) := by decide +kernel
theorem dX10_take_77 : decode cX10_take 77 = .ok (.aload_n 1, 1) := by decide +kernel
theorem dX10_take_78 : decode cX10_take 78 = .ok (.getfield 41, 3) := by decide +kernel
theorem dX10_take_81 : decode cX10_take 81 = .ok (.aload_n 0, 1) := by decide +kernel
theorem dX10_take_82 : decode cX10_take 82 = .ok (.getfield 41, 3) := by decide +kernel
theorem dX10_take_85 : decode cX10_take 85 = .ok (.invokestatic 64, 3) := by decide +kernel
theorem dX10_take_88 : decode cX10_take 88 = .ok (.aload_n 1, 1) := by decide +kernel
theorem dX10_take_89 : decode cX10_take 89 = .ok (.getfield 44, 3) := by decide +kernel
theorem dX10_take_92 : decode cX10_take 92 = .ok (.aload_n 0, 1) := by decide +kernel
theorem dX10_take_93 : decode cX10_take 93 = .ok (.getfield 44, 3) := by decide +kernel
theorem dX10_take_96 : decode cX10_take 96 = .ok (.invokestatic 64, 3) := by decide +kernel
theorem dX10_take_99 : decode cX10_take 99 = .ok (.aload_n 1, 1) := by decide +kernel
theorem dX10_take_100 : decode cX10_take 100 = .ok (.getfield 47, 3) := by decide +kernel
theorem dX10_take_103 : decode cX10_take 103 = .ok (.aload_n 0, 1) := by decide +kernel
theorem dX10_take_104 : decode cX10_take 104 = .ok (.getfield 47, 3) := by decide +kernel
theorem dX10_take_107 : decode cX10_take 107 = .ok (.invokestatic 64, 3) := by decide +kernel
theorem dX10_take_110 : decode cX10_take 110 = .ok (.aload_n 1, 1) := by decide +kernel
theorem dX10_take_111 : decode cX10_take 111 = .ok (.getfield 50, 3) := by decide +kernel
theorem dX10_take_114 : decode cX10_take 114 = .ok (.aload_n 0, 1) := by decide +kernel
theorem dX10_take_115 : decode cX10_take 115 = .ok (.getfield 50, 3) := by decide +kernel
theorem dX10_take_118 : decode cX10_take 118 = .ok (.invokestatic 64, 3) := by decide +kernel
theorem dX10_take_121 : decode cX10_take 121 = .ok (.aload_n 0, 1) := by decide +kernel
theorem dX10_take_122 : decode cX10_take 122 = .ok (.aload_n 1, 1) := by decide +kernel
theorem dX10_take_123 : decode cX10_take 123 = .ok (.getfield 75, 3) := by decide +kernel
theorem dX10_take_126 : decode cX10_take 126 = .ok (.putfield 75, 3) := by decide +kernel
theorem dX10_take_129 : decode cX10_take 129 = .ok (.aload_n 0, 1) := by decide +kernel
theorem dX10_take_130 : decode cX10_take 130 = .ok (.aload_n 1, 1) := by decide +kernel
theorem dX10_take_131 : decode cX10_take 131 = .ok (.getfield 53, 3) := by decide +kernel
theorem dX10_take_134 : decode cX10_take 134 = .ok (.putfield 53, 3) := by decide +kernel
theorem dX10_take_137 : decode cX10_take 137 = .ok (.aload_n 0, 1) := by decide +kernel
theorem dX10_take_138 : decode cX10_take 138 = .ok (.aload_n 1, 1) := by decide +kernel
theorem dX10_take_139 : decode cX10_take 139 = .ok (.getfield 78, 3) := by decide +kernel
theorem dX10_take_142 : decode cX10_take 142 = .ok (.putfield 78, 3) := by decide +kernel
theorem dX10_take_145 : decode cX10_take 145 = .ok (.aload_n 0, 1) := by decide +kernel
theorem dX10_take_146 : decode cX10_take 146 = .ok (.aload_n 1, 1) := by decide +kernel
theorem dX10_take_147 : decode cX10_take 147 = .ok (.getfield 81, 3) := by decide +kernel
theorem dX10_take_150 : decode cX10_take 150 = .ok (.putfield 81, 3) := by decide +kernel
theorem dX10_take_153 : decode cX10_take 153 = .ok (.aload_n 0, 1) := by decide +kernel
theorem dX10_take_154 : decode cX10_take 154 = .ok (.aload_n 1, 1) := by decide +kernel
theorem dX10_take_155 : decode cX10_take 155 = .ok (.getfield 57, 3) := by decide +kernel
theorem dX10_take_158 : decode cX10_take 158 = .ok (.putfield 57, 3) := by decide +kernel
theorem dX10_take_161 : decode cX10_take 161 = .ok (.return_, 1) := by decide +kernel
theorem dX10_copy_0 : decode cX10_copy 0 = .ok (.aload_n 0, 1) := by decide +kernel
theorem dX10_copy_1 : decode cX10_copy 1 = .ok (.iconst 0, 1) := by decide +kernel
theorem dX10_copy_2 : decode cX10_copy 2 = .ok (.aload_n 1, 1) := by decide +kernel
theorem dX10_copy_3 : decode cX10_copy 3 = .ok (.iconst 0, 1) := by decide +kernel
theorem dX10_copy_4 : decode cX10_copy 4 = .ok (.aload_n 0, 1) := by decide +kernel
theorem dX10_copy_5 : decode cX10_copy 5 = .ok (.arraylength, 1) := by decide +kernel
theorem dX10_copy_6 : decode cX10_copy 6 = .ok (.aload_n 1, 1) := by decide +kernel
theorem dX10_copy_7 : decode cX10_copy 7 = .ok (.arraylength, 1) := by decide +kernel
theorem dX10_copy_8 : decode cX10_copy 8 = .ok (.invokestatic 84, 3) := by decide +kernel
theorem dX10_copy_11 : decode cX10_copy 11 = .ok (.invokestatic 90, 3) := by decide +kernel
theorem dX10_copy_14 : decode cX10_copy 14 = .ok (.return_, 1) := by decide +kernel
theorem dX10_has_0 : decode cX10_has 0 = .ok (.iload_n 1, 1) := by decide +kernel
theorem dX10_has_1 : decode cX10_has 1 = .ok (.ifCond .lt 15, 3) := by decide +kernel
theorem dX10_has_4 : decode cX10_has 4 = .ok (.iload_n 1, 1) := by decide +kernel
theorem dX10_has_5 : decode cX10_has 5 = .ok (.aload_n 0, 1) := by decide +kernel
theorem dX10_has_6 : decode cX10_has 6 = .ok (.getfield 75, 3) := by decide +kernel
theorem dX10_has_9 : decode cX10_has 9 = .ok (.if_icmp .ge 7, 3) := by decide +kernel
theorem dX10_has_12 : decode cX10_has 12 = .ok (.iconst 1, 1) := by decide +kernel
theorem dX10_has_13 : decode cX10_has 13 = .ok (.goto 4, 3) := by decide +kernel
theorem dX10_has_16 : decode cX10_has 16 = .ok (.iconst 0, 1) := by decide +kernel
theorem dX10_has_17 : decode cX10_has 17 = .ok (.ireturn, 1) := by decide +kernel
theorem dX10_isOver_0 : decode cX10_isOver 0 = .ok (.aload_n 1, 1) := by decide +kernel
theorem dX10_isOver_1 : decode cX10_isOver 1 = .ok (.getfield 96, 3) := by decide +kernel
theorem dX10_isOver_4 : decode cX10_isOver 4 = .ok (.aload_n 0, 1) := by decide +kernel
theorem dX10_isOver_5 : decode cX10_isOver 5 = .ok (.getfield 53, 3) := by decide +kernel
theorem dX10_isOver_8 : decode cX10_isOver 8 = .ok (.if_icmp .lt 7, 3) := by decide +kernel
theorem dX10_isOver_11 : decode cX10_isOver 11 = .ok (.iconst 1, 1) := by decide +kernel
theorem dX10_isOver_12 : decode cX10_isOver 12 = .ok (.goto 4, 3) := by decide +kernel
theorem dX10_isOver_15 : decode cX10_isOver 15 = .ok (.iconst 0, 1) := by decide +kernel
theorem dX10_isOver_16 : decode cX10_isOver 16 = .ok (.ireturn, 1) := by decide +kernel
theorem dX10_waterAt_0 : decode cX10_waterAt 0 = .ok (.iload_n 1, 1) := by decide +kernel
theorem dX10_waterAt_1 : decode cX10_waterAt 1 = .ok (.ifCond .lt 18, 3) := by decide +kernel
theorem dX10_waterAt_4 : decode cX10_waterAt 4 = .ok (.iload_n 1, 1) := by decide +kernel
theorem dX10_waterAt_5 : decode cX10_waterAt 5 = .ok (.bipush 16, 2) := by decide +kernel
theorem dX10_waterAt_7 : decode cX10_waterAt 7 = .ok (.if_icmp .ge 12, 3) := by decide +kernel
theorem dX10_waterAt_10 : decode cX10_waterAt 10 = .ok (.aload_n 0, 1) := by decide +kernel
theorem dX10_waterAt_11 : decode cX10_waterAt 11 = .ok (.getfield 18, 3) := by decide +kernel
theorem dX10_waterAt_14 : decode cX10_waterAt 14 = .ok (.iload_n 1, 1) := by decide +kernel
theorem dX10_waterAt_15 : decode cX10_waterAt 15 = .ok (.iaload, 1) := by decide +kernel
theorem dX10_waterAt_16 : decode cX10_waterAt 16 = .ok (.goto 4, 3) := by decide +kernel
theorem dX10_waterAt_19 : decode cX10_waterAt 19 = .ok (.iconst 0, 1) := by decide +kernel
theorem dX10_waterAt_20 : decode cX10_waterAt 20 = .ok (.ireturn, 1) := by decide +kernel
theorem dX10_riseAt_0 : decode cX10_riseAt 0 = .ok (.aload_n 0, 1) := by decide +kernel
theorem dX10_riseAt_1 : decode cX10_riseAt 1 = .ok (.iload_n 1, 1) := by decide +kernel
theorem dX10_riseAt_2 : decode cX10_riseAt 2 = .ok (.invokevirtual 99, 3) := by decide +kernel
theorem dX10_riseAt_5 : decode cX10_riseAt 5 = .ok (.iconst 2, 1) := by decide +kernel
theorem dX10_riseAt_6 : decode cX10_riseAt 6 = .ok (.ishr, 1) := by decide +kernel
theorem dX10_riseAt_7 : decode cX10_riseAt 7 = .ok (.ireturn, 1) := by decide +kernel
theorem dX10_saltAt_0 : decode cX10_saltAt 0 = .ok (.aload_n 0, 1) := by decide +kernel
theorem dX10_saltAt_1 : decode cX10_saltAt 1 = .ok (.iload_n 1, 1) := by decide +kernel
theorem dX10_saltAt_2 : decode cX10_saltAt 2 = .ok (.invokevirtual 99, 3) := by decide +kernel
theorem dX10_saltAt_5 : decode cX10_saltAt 5 = .ok (.iconst 3, 1) := by decide +kernel
theorem dX10_saltAt_6 : decode cX10_saltAt 6 = .ok (.iand, 1) := by decide +kernel
theorem dX10_saltAt_7 : decode cX10_saltAt 7 = .ok (.ireturn, 1) := by decide +kernel
theorem dX10_allFill_0 : decode cX10_allFill 0 = .ok (.iconst 0, 1) := by decide +kernel
theorem dX10_allFill_1 : decode cX10_allFill 1 = .ok (.istore_n 2, 1) := by decide +kernel
theorem dX10_allFill_2 : decode cX10_allFill 2 = .ok (.iconst 0, 1) := by decide +kernel
theorem dX10_allFill_3 : decode cX10_allFill 3 = .ok (.istore_n 3, 1) := by decide +kernel
theorem dX10_allFill_4 : decode cX10_allFill 4 = .ok (.iload_n 3, 1) := by decide +kernel
theorem dX10_allFill_5 : decode cX10_allFill 5 = .ok (.aload_n 0, 1) := by decide +kernel
theorem dX10_allFill_6 : decode cX10_allFill 6 = .ok (.getfield 75, 3) := by decide +kernel
theorem dX10_allFill_9 : decode cX10_allFill 9 = .ok (.if_icmp .ge 18, 3) := by decide +kernel
theorem dX10_allFill_12 : decode cX10_allFill 12 = .ok (.iload_n 2, 1) := by decide +kernel
theorem dX10_allFill_13 : decode cX10_allFill 13 = .ok (.aload_n 1, 1) := by decide +kernel
theorem dX10_allFill_14 : decode cX10_allFill 14 = .ok (.getfield 103, 3) := by decide +kernel
theorem dX10_allFill_17 : decode cX10_allFill 17 = .ok (.iload_n 3, 1) := by decide +kernel
theorem dX10_allFill_18 : decode cX10_allFill 18 = .ok (.iaload, 1) := by decide +kernel
theorem dX10_allFill_19 : decode cX10_allFill 19 = .ok (.iadd, 1) := by decide +kernel
theorem dX10_allFill_20 : decode cX10_allFill 20 = .ok (.istore_n 2, 1) := by decide +kernel
theorem dX10_allFill_21 : decode cX10_allFill 21 = .ok (.iinc 3 1, 3) := by decide +kernel
theorem dX10_allFill_24 : decode cX10_allFill 24 = .ok (.goto (-20), 3) := by decide +kernel
theorem dX10_allFill_27 : decode cX10_allFill 27 = .ok (.iload_n 2, 1) := by decide +kernel
theorem dX10_allFill_28 : decode cX10_allFill 28 = .ok (.ireturn, 1) := by decide +kernel
theorem dX10_leaks_0 : decode cX10_leaks 0 = .ok (.aload_n 0, 1) := by decide +kernel
theorem dX10_leaks_1 : decode cX10_leaks 1 = .ok (.getfield 60, 3) := by decide +kernel
theorem dX10_leaks_4 : decode cX10_leaks 4 = .ok (.aload_n 0, 1) := by decide +kernel
theorem dX10_leaks_5 : decode cX10_leaks 5 = .ok (.getfield 9, 3) := by decide +kernel
theorem dX10_leaks_8 : decode cX10_leaks 8 = .ok (.iload_n 2, 1) := by decide +kernel
theorem dX10_leaks_9 : decode cX10_leaks 9 = .ok (.iaload, 1) := by decide +kernel
theorem dX10_leaks_10 : decode cX10_leaks 10 = .ok (.aaload, 1) := by decide +kernel
theorem dX10_leaks_11 : decode cX10_leaks 11 = .ok (.aload_n 0, 1) := by decide +kernel
theorem dX10_leaks_12 : decode cX10_leaks 12 = .ok (.aload_n 1, 1) := by decide +kernel
theorem dX10_leaks_13 : decode cX10_leaks 13 = .ok (.getfield 96, 3) := by decide +kernel
theorem dX10_leaks_16 : decode cX10_leaks 16 = .ok (.invokevirtual 106, 3) := by decide +kernel
theorem dX10_leaks_19 : decode cX10_leaks 19 = .ok (.aload_n 0, 1) := by decide +kernel
theorem dX10_leaks_20 : decode cX10_leaks 20 = .ok (.aload_n 1, 1) := by decide +kernel
theorem dX10_leaks_21 : decode cX10_leaks 21 = .ok (.getfield 96, 3) := by decide +kernel
theorem dX10_leaks_24 : decode cX10_leaks 24 = .ok (.invokevirtual 109, 3) := by decide +kernel
theorem dX10_leaks_27 : decode cX10_leaks 27 = .ok (.aload_n 1, 1) := by decide +kernel
theorem dX10_leaks_28 : decode cX10_leaks 28 = .ok (.getfield 96, 3) := by decide +kernel
theorem dX10_leaks_31 : decode cX10_leaks 31 = .ok (.invokevirtual 112, 3) := by decide +kernel
theorem dX10_leaks_34 : decode cX10_leaks 34 = .ok (.istore_n 3, 1) := by decide +kernel
theorem dX10_leaks_35 : decode cX10_leaks 35 = .ok (.iconst 0, 1) := by decide +kernel
theorem dX10_leaks_36 : decode cX10_leaks 36 = .ok (.iload_n 3, 1) := by decide +kernel
theorem dX10_leaks_37 : decode cX10_leaks 37 = .ok (.aload_n 0, 1) := by decide +kernel
theorem dX10_leaks_38 : decode cX10_leaks 38 = .ok (.getfield 24, 3) := by decide +kernel
theorem dX10_leaks_41 : decode cX10_leaks 41 = .ok (.aload_n 0, 1) := by decide +kernel
theorem dX10_leaks_42 : decode cX10_leaks 42 = .ok (.getfield 15, 3) := by decide +kernel
theorem dX10_leaks_45 : decode cX10_leaks 45 = .ok (.iload_n 2, 1) := by decide +kernel
theorem dX10_leaks_46 : decode cX10_leaks 46 = .ok (.iaload, 1) := by decide +kernel
theorem dX10_leaks_47 : decode cX10_leaks 47 = .ok (.iaload, 1) := by decide +kernel
theorem dX10_leaks_48 : decode cX10_leaks 48 = .ok (.iadd, 1) := by decide +kernel
theorem dX10_leaks_49 : decode cX10_leaks 49 = .ok (.iconst 2, 1) := by decide +kernel
theorem dX10_leaks_50 : decode cX10_leaks 50 = .ok (.aload_n 0, 1) := by decide +kernel
theorem dX10_leaks_51 : decode cX10_leaks 51 = .ok (.aload_n 1, 1) := by decide +kernel
theorem dX10_leaks_52 : decode cX10_leaks 52 = .ok (.aload_n 0, 1) := by decide +kernel
theorem dX10_leaks_53 : decode cX10_leaks 53 = .ok (.getfield 15, 3) := by decide +kernel
theorem dX10_leaks_56 : decode cX10_leaks 56 = .ok (.iload_n 2, 1) := by decide +kernel
theorem dX10_leaks_57 : decode cX10_leaks 57 = .ok (.iaload, 1) := by decide +kernel
theorem dX10_leaks_58 : decode cX10_leaks 58 = .ok (.iconst 1, 1) := by decide +kernel
theorem dX10_leaks_59 : decode cX10_leaks 59 = .ok (.isub, 1) := by decide +kernel
theorem dX10_leaks_60 : decode cX10_leaks 60 = .ok (.invokevirtual 118, 3) := by decide +kernel
theorem dX10_leaks_63 : decode cX10_leaks 63 = .ok (.imul, 1) := by decide +kernel
theorem dX10_leaks_64 : decode cX10_leaks 64 = .ok (.isub, 1) := by decide +kernel
theorem dX10_leaks_65 : decode cX10_leaks 65 = .ok (.invokestatic 122, 3) := by decide +kernel
theorem dX10_leaks_68 : decode cX10_leaks 68 = .ok (.ireturn, 1) := by decide +kernel
theorem dX10_stakedIn_0 : decode cX10_stakedIn 0 = .ok (.aload_n 1, 1) := by decide +kernel
theorem dX10_stakedIn_1 : decode cX10_stakedIn 1 = .ok (.getfield 125, 3) := by decide +kernel
theorem dX10_stakedIn_4 : decode cX10_stakedIn 4 = .ok (.ifCond .ne 5, 3) := by decide +kernel
theorem dX10_stakedIn_7 : decode cX10_stakedIn 7 = .ok (.iconst 0, 1) := by decide +kernel
theorem dX10_stakedIn_8 : decode cX10_stakedIn 8 = .ok (.ireturn, 1) := by decide +kernel
theorem dX10_stakedIn_9 : decode cX10_stakedIn 9 = .ok (.iconst 0, 1) := by decide +kernel
theorem dX10_stakedIn_10 : decode cX10_stakedIn 10 = .ok (.istore_n 3, 1) := by decide +kernel
theorem dX10_stakedIn_11 : decode cX10_stakedIn 11 = .ok (.iconst 0, 1) := by decide +kernel
theorem dX10_stakedIn_12 : decode cX10_stakedIn 12 = .ok (.istore 4, 2) := by decide +kernel
theorem dX10_stakedIn_14 : decode cX10_stakedIn 14 = .ok (.iload 4, 2) := by decide +kernel
theorem dX10_stakedIn_16 : decode cX10_stakedIn 16 = .ok (.aload_n 0, 1) := by decide +kernel
theorem dX10_stakedIn_17 : decode cX10_stakedIn 17 = .ok (.getfield 75, 3) := by decide +kernel
theorem dX10_stakedIn_20 : decode cX10_stakedIn 20 = .ok (.if_icmp .ge 32, 3) := by decide +kernel
theorem dX10_stakedIn_23 : decode cX10_stakedIn 23 = .ok (.aload_n 0, 1) := by decide +kernel
theorem dX10_stakedIn_24 : decode cX10_stakedIn 24 = .ok (.getfield 15, 3) := by decide +kernel
theorem dX10_stakedIn_27 : decode cX10_stakedIn 27 = .ok (.iload 4, 2) := by decide +kernel
theorem dX10_stakedIn_29 : decode cX10_stakedIn 29 = .ok (.iaload, 1) := by decide +kernel
theorem dX10_stakedIn_30 : decode cX10_stakedIn 30 = .ok (.iload_n 2, 1) := by decide +kernel
theorem dX10_stakedIn_31 : decode cX10_stakedIn 31 = .ok (.if_icmp .ne 15, 3) := by decide +kernel
theorem dX10_stakedIn_34 : decode cX10_stakedIn 34 = .ok (.aload_n 1, 1) := by decide +kernel
theorem dX10_stakedIn_35 : decode cX10_stakedIn 35 = .ok (.iload 4, 2) := by decide +kernel
theorem dX10_stakedIn_37 : decode cX10_stakedIn 37 = .ok (.invokevirtual 128, 3) := by decide +kernel
theorem dX10_stakedIn_40 : decode cX10_stakedIn 40 = .ok (.ifCond .eq 6, 3) := by decide +kernel
theorem dX10_stakedIn_43 : decode cX10_stakedIn 43 = .ok (.iinc 3 1, 3) := by decide +kernel
theorem dX10_stakedIn_46 : decode cX10_stakedIn 46 = .ok (.iinc 4 1, 3) := by decide +kernel
theorem dX10_stakedIn_49 : decode cX10_stakedIn 49 = .ok (.goto (-35), 3) := by decide +kernel
theorem dX10_stakedIn_52 : decode cX10_stakedIn 52 = .ok (.iload_n 3, 1) := by decide +kernel
theorem dX10_stakedIn_53 : decode cX10_stakedIn 53 = .ok (.ireturn, 1) := by decide +kernel
theorem dX10_floatsOf_0 : decode cX10_floatsOf 0 = .ok (.aload_n 0, 1) := by decide +kernel
theorem dX10_floatsOf_1 : decode cX10_floatsOf 1 = .ok (.getfield 60, 3) := by decide +kernel
theorem dX10_floatsOf_4 : decode cX10_floatsOf 4 = .ok (.aload_n 0, 1) := by decide +kernel
theorem dX10_floatsOf_5 : decode cX10_floatsOf 5 = .ok (.getfield 9, 3) := by decide +kernel
theorem dX10_floatsOf_8 : decode cX10_floatsOf 8 = .ok (.iload_n 2, 1) := by decide +kernel
theorem dX10_floatsOf_9 : decode cX10_floatsOf 9 = .ok (.iaload, 1) := by decide +kernel
theorem dX10_floatsOf_10 : decode cX10_floatsOf 10 = .ok (.aaload, 1) := by decide +kernel
theorem dX10_floatsOf_11 : decode cX10_floatsOf 11 = .ok (.aload_n 1, 1) := by decide +kernel
theorem dX10_floatsOf_12 : decode cX10_floatsOf 12 = .ok (.getfield 103, 3) := by decide +kernel
theorem dX10_floatsOf_15 : decode cX10_floatsOf 15 = .ok (.iload_n 2, 1) := by decide +kernel
theorem dX10_floatsOf_16 : decode cX10_floatsOf 16 = .ok (.iaload, 1) := by decide +kernel
theorem dX10_floatsOf_17 : decode cX10_floatsOf 17 = .ok (.aload_n 1, 1) := by decide +kernel
theorem dX10_floatsOf_18 : decode cX10_floatsOf 18 = .ok (.getfield 132, 3) := by decide +kernel
theorem dX10_floatsOf_21 : decode cX10_floatsOf 21 = .ok (.iload_n 2, 1) := by decide +kernel
theorem dX10_floatsOf_22 : decode cX10_floatsOf 22 = .ok (.iaload, 1) := by decide +kernel
theorem dX10_floatsOf_23 : decode cX10_floatsOf 23 = .ok (.iload_n 2, 1) := by decide +kernel
theorem dX10_floatsOf_24 : decode cX10_floatsOf 24 = .ok (.invokevirtual 135, 3) := by decide +kernel
theorem dX10_floatsOf_27 : decode cX10_floatsOf 27 = .ok (.ireturn, 1) := by decide +kernel
theorem dX10_pays_0 : decode cX10_pays 0 = .ok (.aload_n 1, 1) := by decide +kernel
theorem dX10_pays_1 : decode cX10_pays 1 = .ok (.getfield 103, 3) := by decide +kernel
theorem dX10_pays_4 : decode cX10_pays 4 = .ok (.iload_n 2, 1) := by decide +kernel
theorem dX10_pays_5 : decode cX10_pays 5 = .ok (.iaload, 1) := by decide +kernel
theorem dX10_pays_6 : decode cX10_pays 6 = .ok (.istore_n 3, 1) := by decide +kernel
theorem dX10_pays_7 : decode cX10_pays 7 = .ok (.aload_n 1, 1) := by decide +kernel
theorem dX10_pays_8 : decode cX10_pays 8 = .ok (.iload_n 2, 1) := by decide +kernel
theorem dX10_pays_9 : decode cX10_pays 9 = .ok (.invokevirtual 128, 3) := by decide +kernel
theorem dX10_pays_12 : decode cX10_pays 12 = .ok (.ifCond .ne 7, 3) := by decide +kernel
theorem dX10_pays_15 : decode cX10_pays 15 = .ok (.iload_n 3, 1) := by decide +kernel
theorem dX10_pays_16 : decode cX10_pays 16 = .ok (.ifCond .ne 5, 3) := by decide +kernel
theorem dX10_pays_19 : decode cX10_pays 19 = .ok (.iconst 0, 1) := by decide +kernel
theorem dX10_pays_20 : decode cX10_pays 20 = .ok (.ireturn, 1) := by decide +kernel
theorem dX10_pays_21 : decode cX10_pays 21 = .ok (.aload_n 0, 1) := by decide +kernel
theorem dX10_pays_22 : decode cX10_pays 22 = .ok (.getfield 60, 3) := by decide +kernel
theorem dX10_pays_25 : decode cX10_pays 25 = .ok (.aload_n 0, 1) := by decide +kernel
theorem dX10_pays_26 : decode cX10_pays 26 = .ok (.getfield 9, 3) := by decide +kernel
theorem dX10_pays_29 : decode cX10_pays 29 = .ok (.iload_n 2, 1) := by decide +kernel
theorem dX10_pays_30 : decode cX10_pays 30 = .ok (.iaload, 1) := by decide +kernel
theorem dX10_pays_31 : decode cX10_pays 31 = .ok (.aaload, 1) := by decide +kernel
theorem dX10_pays_32 : decode cX10_pays 32 = .ok (.iload_n 3, 1) := by decide +kernel
theorem dX10_pays_33 : decode cX10_pays 33 = .ok (.aload_n 1, 1) := by decide +kernel
theorem dX10_pays_34 : decode cX10_pays 34 = .ok (.getfield 132, 3) := by decide +kernel
theorem dX10_pays_37 : decode cX10_pays 37 = .ok (.iload_n 2, 1) := by decide +kernel
theorem dX10_pays_38 : decode cX10_pays 38 = .ok (.iaload, 1) := by decide +kernel
theorem dX10_pays_39 : decode cX10_pays 39 = .ok (.iload_n 2, 1) := by decide +kernel
theorem dX10_pays_40 : decode cX10_pays 40 = .ok (.invokevirtual 135, 3) := by decide +kernel
theorem dX10_pays_43 : decode cX10_pays 43 = .ok (.istore 4, 2) := by decide +kernel
theorem dX10_pays_45 : decode cX10_pays 45 = .ok (.iload 4, 2) := by decide +kernel
theorem dX10_pays_47 : decode cX10_pays 47 = .ok (.aload_n 0, 1) := by decide +kernel
theorem dX10_pays_48 : decode cX10_pays 48 = .ok (.aload_n 1, 1) := by decide +kernel
theorem dX10_pays_49 : decode cX10_pays 49 = .ok (.getfield 96, 3) := by decide +kernel
theorem dX10_pays_52 : decode cX10_pays 52 = .ok (.invokevirtual 106, 3) := by decide +kernel
theorem dX10_pays_55 : decode cX10_pays 55 = .ok (.iadd, 1) := by decide +kernel
theorem dX10_pays_56 : decode cX10_pays 56 = .ok (.iconst 4, 1) := by decide +kernel
theorem dX10_pays_57 : decode cX10_pays 57 = .ok (.aload_n 0, 1) := by decide +kernel
theorem dX10_pays_58 : decode cX10_pays 58 = .ok (.getfield 21, 3) := by decide +kernel
theorem dX10_pays_61 : decode cX10_pays 61 = .ok (.aload_n 0, 1) := by decide +kernel
theorem dX10_pays_62 : decode cX10_pays 62 = .ok (.getfield 15, 3) := by decide +kernel
theorem dX10_pays_65 : decode cX10_pays 65 = .ok (.iload_n 2, 1) := by decide +kernel
theorem dX10_pays_66 : decode cX10_pays 66 = .ok (.iaload, 1) := by decide +kernel
theorem dX10_pays_67 : decode cX10_pays 67 = .ok (.iaload, 1) := by decide +kernel
theorem dX10_pays_68 : decode cX10_pays 68 = .ok (.iadd, 1) := by decide +kernel
theorem dX10_pays_69 : decode cX10_pays 69 = .ok (.if_icmp .gt 12, 3) := by decide +kernel
theorem dX10_pays_72 : decode cX10_pays 72 = .ok (.iconst 3, 1) := by decide +kernel
theorem dX10_pays_73 : decode cX10_pays 73 = .ok (.iload_n 3, 1) := by decide +kernel
theorem dX10_pays_74 : decode cX10_pays 74 = .ok (.bipush 9, 2) := by decide +kernel
theorem dX10_pays_76 : decode cX10_pays 76 = .ok (.idiv, 1) := by decide +kernel
theorem dX10_pays_77 : decode cX10_pays 77 = .ok (.iadd, 1) := by decide +kernel
theorem dX10_pays_78 : decode cX10_pays 78 = .ok (.goto 4, 3) := by decide +kernel
theorem dX10_pays_81 : decode cX10_pays 81 = .ok (.iconst 0, 1) := by decide +kernel
theorem dX10_pays_82 : decode cX10_pays 82 = .ok (.ireturn, 1) := by decide +kernel
theorem dX10_will_0 : decode cX10_will 0 = .ok (.aload_n 0, 1) := by decide +kernel
theorem dX10_will_1 : decode cX10_will 1 = .ok (.getfield 37, 3) := by decide +kernel
theorem dX10_will_4 : decode cX10_will 4 = .ok (.aload_n 0, 1) := by decide +kernel
theorem dX10_will_5 : decode cX10_will 5 = .ok (.getfield 9, 3) := by decide +kernel
theorem dX10_will_8 : decode cX10_will 8 = .ok (.iload_n 2, 1) := by decide +kernel
theorem dX10_will_9 : decode cX10_will 9 = .ok (.iaload, 1) := by decide +kernel
theorem dX10_will_10 : decode cX10_will 10 = .ok (.aload_n 1, 1) := by decide +kernel
theorem dX10_will_11 : decode cX10_will 11 = .ok (.iload_n 2, 1) := by decide +kernel
theorem dX10_will_12 : decode cX10_will 12 = .ok (.aload_n 0, 1) := by decide +kernel
theorem dX10_will_13 : decode cX10_will 13 = .ok (.aload_n 1, 1) := by decide +kernel
theorem dX10_will_14 : decode cX10_will 14 = .ok (.getfield 96, 3) := by decide +kernel
theorem dX10_will_17 : decode cX10_will 17 = .ok (.invokevirtual 106, 3) := by decide +kernel
theorem dX10_will_20 : decode cX10_will 20 = .ok (.invokevirtual 138, 3) := by decide +kernel
theorem dX10_will_23 : decode cX10_will 23 = .ok (.ireturn, 1) := by decide +kernel
theorem dX10_may_0 : decode cX10_may 0 = .ok (.aload_n 0, 1) := by decide +kernel
theorem dX10_may_1 : decode cX10_may 1 = .ok (.aload_n 1, 1) := by decide +kernel
theorem dX10_may_2 : decode cX10_may 2 = .ok (.iload_n 2, 1) := by decide +kernel
theorem dX10_may_3 : decode cX10_may 3 = .ok (.invokevirtual 142, 3) := by decide +kernel
theorem dX10_may_6 : decode cX10_may 6 = .ok (.ifCond .le 16, 3) := by decide +kernel
theorem dX10_may_9 : decode cX10_may 9 = .ok (.aload_n 0, 1) := by decide +kernel
theorem dX10_may_10 : decode cX10_may 10 = .ok (.aload_n 1, 1) := by decide +kernel
theorem dX10_may_11 : decode cX10_may 11 = .ok (.iload_n 2, 1) := by decide +kernel
theorem dX10_may_12 : decode cX10_may 12 = .ok (.invokevirtual 145, 3) := by decide +kernel
theorem dX10_may_15 : decode cX10_may 15 = .ok (.ifCond .ne 7, 3) := by decide +kernel
theorem dX10_may_18 : decode cX10_may 18 = .ok (.iconst 1, 1) := by decide +kernel
theorem dX10_may_19 : decode cX10_may 19 = .ok (.goto 4, 3) := by decide +kernel
theorem dX10_may_22 : decode cX10_may 22 = .ok (.iconst 0, 1) := by decide +kernel
theorem dX10_may_23 : decode cX10_may 23 = .ok (.ireturn, 1) := by decide +kernel
theorem dX10_restAct_0 : decode cX10_restAct 0 = .ok (.iconst 0, 1) := by decide +kernel
theorem dX10_restAct_1 : decode cX10_restAct 1 = .ok (.istore_n 2, 1) := by decide +kernel
theorem dX10_restAct_2 : decode cX10_restAct 2 = .ok (.iload_n 2, 1) := by decide +kernel
theorem dX10_restAct_3 : decode cX10_restAct 3 = .ok (.aload_n 0, 1) := by decide +kernel
theorem dX10_restAct_4 : decode cX10_restAct 4 = .ok (.getfield 75, 3) := by decide +kernel
theorem dX10_restAct_7 : decode cX10_restAct 7 = .ok (.if_icmp .ge 22, 3) := by decide +kernel
theorem dX10_restAct_10 : decode cX10_restAct 10 = .ok (.aload_n 0, 1) := by decide +kernel
theorem dX10_restAct_11 : decode cX10_restAct 11 = .ok (.aload_n 1, 1) := by decide +kernel
theorem dX10_restAct_12 : decode cX10_restAct 12 = .ok (.iload_n 2, 1) := by decide +kernel
theorem dX10_restAct_13 : decode cX10_restAct 13 = .ok (.invokevirtual 148, 3) := by decide +kernel
theorem dX10_restAct_16 : decode cX10_restAct 16 = .ok (.ifCond .eq 7, 3) := by decide +kernel
theorem dX10_restAct_19 : decode cX10_restAct 19 = .ok (.iload_n 2, 1) := by decide +kernel
theorem dX10_restAct_20 : decode cX10_restAct 20 = .ok (.iconst 1, 1) := by decide +kernel
theorem dX10_restAct_21 : decode cX10_restAct 21 = .ok (.iadd, 1) := by decide +kernel
theorem dX10_restAct_22 : decode cX10_restAct 22 = .ok (.ireturn, 1) := by decide +kernel
theorem dX10_restAct_23 : decode cX10_restAct 23 = .ok (.iinc 2 1, 3) := by decide +kernel
theorem dX10_restAct_26 : decode cX10_restAct 26 = .ok (.goto (-24), 3) := by decide +kernel
theorem dX10_restAct_29 : decode cX10_restAct 29 = .ok (.iconst 0, 1) := by decide +kernel
theorem dX10_restAct_30 : decode cX10_restAct 30 = .ok (.ireturn, 1) := by decide +kernel
theorem dX10_rest_0 : decode cX10_rest 0 = .ok (.iconst 0, 1) := by decide +kernel
theorem dX10_rest_1 : decode cX10_rest 1 = .ok (.istore_n 3, 1) := by decide +kernel
theorem dX10_rest_2 : decode cX10_rest 2 = .ok (.iconst 0, 1) := by decide +kernel
theorem dX10_rest_3 : decode cX10_rest 3 = .ok (.istore 4, 2) := by decide +kernel
theorem dX10_rest_5 : decode cX10_rest 5 = .ok (.iload 4, 2) := by decide +kernel
theorem dX10_rest_7 : decode cX10_rest 7 = .ok (.iload_n 2, 1) := by decide +kernel
theorem dX10_rest_8 : decode cX10_rest 8 = .ok (.if_icmp .ge 30, 3) := by decide +kernel
theorem dX10_rest_11 : decode cX10_rest 11 = .ok (.aload_n 0, 1) := by decide +kernel
theorem dX10_rest_12 : decode cX10_rest 12 = .ok (.aload_n 1, 1) := by decide +kernel
theorem dX10_rest_13 : decode cX10_rest 13 = .ok (.invokevirtual 152, 3) := by decide +kernel
theorem dX10_rest_16 : decode cX10_rest 16 = .ok (.ifCond .ne 22, 3) := by decide +kernel
theorem dX10_rest_19 : decode cX10_rest 19 = .ok (.iload_n 3, 1) := by decide +kernel
theorem dX10_rest_20 : decode cX10_rest 20 = .ok (.aload_n 0, 1) := by decide +kernel
theorem dX10_rest_21 : decode cX10_rest 21 = .ok (.aload_n 1, 1) := by decide +kernel
theorem dX10_rest_22 : decode cX10_rest 22 = .ok (.aload_n 0, 1) := by decide +kernel
theorem dX10_rest_23 : decode cX10_rest 23 = .ok (.aload_n 1, 1) := by decide +kernel
theorem dX10_rest_24 : decode cX10_rest 24 = .ok (.invokevirtual 156, 3) := by decide +kernel
theorem dX10_rest_27 : decode cX10_rest 27 = .ok (.invokevirtual 160, 3) := by decide +kernel
theorem dX10_rest_30 : decode cX10_rest 30 = .ok (.iadd, 1) := by decide +kernel
theorem dX10_rest_31 : decode cX10_rest 31 = .ok (.istore_n 3, 1) := by decide +kernel
theorem dX10_rest_32 : decode cX10_rest 32 = .ok (.iinc 4 1, 3) := by decide +kernel
theorem dX10_rest_35 : decode cX10_rest 35 = .ok (.goto (-30), 3) := by decide +kernel
theorem dX10_rest_38 : decode cX10_rest 38 = .ok (.iload_n 3, 1) := by decide +kernel
theorem dX10_rest_39 : decode cX10_rest 39 = .ok (.ireturn, 1) := by decide +kernel
theorem dX10_pass_0 : decode cX10_pass 0 = .ok (.iconst 0, 1) := by decide +kernel
theorem dX10_pass_1 : decode cX10_pass 1 = .ok (.istore_n 3, 1) := by decide +kernel
theorem dX10_pass_2 : decode cX10_pass 2 = .ok (.iload_n 2, 1) := by decide +kernel
theorem dX10_pass_3 : decode cX10_pass 3 = .ok (.iconst 1, 1) := by decide +kernel
theorem dX10_pass_4 : decode cX10_pass 4 = .ok (.isub, 1) := by decide +kernel
theorem dX10_pass_5 : decode cX10_pass 5 = .ok (.istore 4, 2) := by decide +kernel
theorem dX10_pass_7 : decode cX10_pass 7 = .ok (.aload_n 0, 1) := by decide +kernel
theorem dX10_pass_8 : decode cX10_pass 8 = .ok (.iload 4, 2) := by decide +kernel
theorem dX10_pass_10 : decode cX10_pass 10 = .ok (.invokevirtual 163, 3) := by decide +kernel
theorem dX10_pass_13 : decode cX10_pass 13 = .ok (.ifCond .eq 63, 3) := by decide +kernel
theorem dX10_pass_16 : decode cX10_pass 16 = .ok (.aload_n 1, 1) := by decide +kernel
theorem dX10_pass_17 : decode cX10_pass 17 = .ok (.iload 4, 2) := by decide +kernel
theorem dX10_pass_19 : decode cX10_pass 19 = .ok (.invokevirtual 128, 3) := by decide +kernel
theorem dX10_pass_22 : decode cX10_pass 22 = .ok (.ifCond .ne 54, 3) := by decide +kernel
theorem dX10_pass_25 : decode cX10_pass 25 = .ok (.aload_n 0, 1) := by decide +kernel
theorem dX10_pass_26 : decode cX10_pass 26 = .ok (.aload_n 1, 1) := by decide +kernel
theorem dX10_pass_27 : decode cX10_pass 27 = .ok (.iload 4, 2) := by decide +kernel
theorem dX10_pass_29 : decode cX10_pass 29 = .ok (.invokevirtual 145, 3) := by decide +kernel
theorem dX10_pass_32 : decode cX10_pass 32 = .ok (.istore 5, 2) := by decide +kernel
theorem dX10_pass_34 : decode cX10_pass 34 = .ok (.iload 5, 2) := by decide +kernel
theorem dX10_pass_36 : decode cX10_pass 36 = .ok (.ifCond .ne 26, 3) := by decide +kernel
theorem dX10_pass_39 : decode cX10_pass 39 = .ok (.aload_n 0, 1) := by decide +kernel
theorem dX10_pass_40 : decode cX10_pass 40 = .ok (.aload_n 1, 1) := by decide +kernel
theorem dX10_pass_41 : decode cX10_pass 41 = .ok (.iload 4, 2) := by decide +kernel
theorem dX10_pass_43 : decode cX10_pass 43 = .ok (.invokevirtual 142, 3) := by decide +kernel
theorem dX10_pass_46 : decode cX10_pass 46 = .ok (.istore_n 3, 1) := by decide +kernel
theorem dX10_pass_47 : decode cX10_pass 47 = .ok (.iload_n 3, 1) := by decide +kernel
theorem dX10_pass_48 : decode cX10_pass 48 = .ok (.ifCond .le 28, 3) := by decide +kernel
theorem dX10_pass_51 : decode cX10_pass 51 = .ok (.aload_n 1, 1) := by decide +kernel
theorem dX10_pass_52 : decode cX10_pass 52 = .ok (.iload 4, 2) := by decide +kernel
theorem dX10_pass_54 : decode cX10_pass 54 = .ok (.iconst 1, 1) := by decide +kernel
theorem dX10_pass_55 : decode cX10_pass 55 = .ok (.invokevirtual 166, 3) := by decide +kernel
theorem dX10_pass_58 : decode cX10_pass 58 = .ok (.pop, 1) := by decide +kernel
theorem dX10_pass_59 : decode cX10_pass 59 = .ok (.goto 17, 3) := by decide +kernel
theorem dX10_pass_62 : decode cX10_pass 62 = .ok (.iload 5, 2) := by decide +kernel
theorem dX10_pass_64 : decode cX10_pass 64 = .ok (.iconst 2, 1) := by decide +kernel
theorem dX10_pass_65 : decode cX10_pass 65 = .ok (.if_icmp .ne 11, 3) := by decide +kernel
theorem dX10_pass_68 : decode cX10_pass 68 = .ok (.aload_n 0, 1) := by decide +kernel
theorem dX10_pass_69 : decode cX10_pass 69 = .ok (.aload_n 1, 1) := by decide +kernel
theorem dX10_pass_70 : decode cX10_pass 70 = .ok (.iload 4, 2) := by decide +kernel
theorem dX10_pass_72 : decode cX10_pass 72 = .ok (.invokevirtual 169, 3) := by decide +kernel
theorem dX10_pass_75 : decode cX10_pass 75 = .ok (.istore_n 3, 1) := by decide +kernel
theorem dX10_pass_76 : decode cX10_pass 76 = .ok (.iconst 0, 1) := by decide +kernel
theorem dX10_pass_77 : decode cX10_pass 77 = .ok (.istore 5, 2) := by decide +kernel
theorem dX10_pass_79 : decode cX10_pass 79 = .ok (.iload 5, 2) := by decide +kernel
theorem dX10_pass_81 : decode cX10_pass 81 = .ok (.aload_n 0, 1) := by decide +kernel
theorem dX10_pass_82 : decode cX10_pass 82 = .ok (.getfield 75, 3) := by decide +kernel
theorem dX10_pass_85 : decode cX10_pass 85 = .ok (.if_icmp .ge 82, 3) := by decide +kernel
theorem dX10_pass_88 : decode cX10_pass 88 = .ok (.aload_n 1, 1) := by decide +kernel
theorem dX10_pass_89 : decode cX10_pass 89 = .ok (.iload 5, 2) := by decide +kernel
theorem dX10_pass_91 : decode cX10_pass 91 = .ok (.invokevirtual 128, 3) := by decide +kernel
theorem dX10_pass_94 : decode cX10_pass 94 = .ok (.istore 6, 2) := by decide +kernel
theorem dX10_pass_96 : decode cX10_pass 96 = .ok (.iload 6, 2) := by decide +kernel
theorem dX10_pass_98 : decode cX10_pass 98 = .ok (.ifCond .eq 15, 3) := by decide +kernel
theorem dX10_pass_101 : decode cX10_pass 101 = .ok (.aload_n 0, 1) := by decide +kernel
theorem dX10_pass_102 : decode cX10_pass 102 = .ok (.aload_n 1, 1) := by decide +kernel
theorem dX10_pass_103 : decode cX10_pass 103 = .ok (.iload 5, 2) := by decide +kernel
theorem dX10_pass_105 : decode cX10_pass 105 = .ok (.invokevirtual 172, 3) := by decide +kernel
theorem dX10_pass_108 : decode cX10_pass 108 = .ok (.iconst 3, 1) := by decide +kernel
theorem dX10_pass_109 : decode cX10_pass 109 = .ok (.idiv, 1) := by decide +kernel
theorem dX10_pass_110 : decode cX10_pass 110 = .ok (.goto 10, 3) := by decide +kernel
theorem dX10_pass_113 : decode cX10_pass 113 = .ok (.aload_n 0, 1) := by decide +kernel
theorem dX10_pass_114 : decode cX10_pass 114 = .ok (.aload_n 1, 1) := by decide +kernel
theorem dX10_pass_115 : decode cX10_pass 115 = .ok (.iload 5, 2) := by decide +kernel
theorem dX10_pass_117 : decode cX10_pass 117 = .ok (.invokevirtual 172, 3) := by decide +kernel
theorem dX10_pass_120 : decode cX10_pass 120 = .ok (.istore 7, 2) := by decide +kernel
theorem dX10_pass_122 : decode cX10_pass 122 = .ok (.aload_n 1, 1) := by decide +kernel
theorem dX10_pass_123 : decode cX10_pass 123 = .ok (.getfield 103, 3) := by decide +kernel
theorem dX10_pass_126 : decode cX10_pass 126 = .ok (.iload 5, 2) := by decide +kernel
theorem dX10_pass_128 : decode cX10_pass 128 = .ok (.iconst 0, 1) := by decide +kernel
theorem dX10_pass_129 : decode cX10_pass 129 = .ok (.aload_n 1, 1) := by decide +kernel
theorem dX10_pass_130 : decode cX10_pass 130 = .ok (.getfield 103, 3) := by decide +kernel
theorem dX10_pass_133 : decode cX10_pass 133 = .ok (.iload 5, 2) := by decide +kernel
theorem dX10_pass_135 : decode cX10_pass 135 = .ok (.iaload, 1) := by decide +kernel
theorem dX10_pass_136 : decode cX10_pass 136 = .ok (.iload 7, 2) := by decide +kernel
theorem dX10_pass_138 : decode cX10_pass 138 = .ok (.isub, 1) := by decide +kernel
theorem dX10_pass_139 : decode cX10_pass 139 = .ok (.invokestatic 122, 3) := by decide +kernel
theorem dX10_pass_142 : decode cX10_pass 142 = .ok (.iastore, 1) := by decide +kernel
theorem dX10_pass_143 : decode cX10_pass 143 = .ok (.iload 6, 2) := by decide +kernel
theorem dX10_pass_145 : decode cX10_pass 145 = .ok (.ifCond .eq 16, 3) := by decide +kernel
theorem dX10_pass_148 : decode cX10_pass 148 = .ok (.iload_n 3, 1) := by decide +kernel
theorem dX10_pass_149 : decode cX10_pass 149 = .ok (.aload_n 1, 1) := by decide +kernel
theorem dX10_pass_150 : decode cX10_pass 150 = .ok (.getfield 103, 3) := by decide +kernel
theorem dX10_pass_153 : decode cX10_pass 153 = .ok (.iload 5, 2) := by decide +kernel
theorem dX10_pass_155 : decode cX10_pass 155 = .ok (.iaload, 1) := by decide +kernel
theorem dX10_pass_156 : decode cX10_pass 156 = .ok (.bipush 30, 2) := by decide +kernel
theorem dX10_pass_158 : decode cX10_pass 158 = .ok (.idiv, 1) := by decide +kernel
theorem dX10_pass_159 : decode cX10_pass 159 = .ok (.iadd, 1) := by decide +kernel
theorem dX10_pass_160 : decode cX10_pass 160 = .ok (.istore_n 3, 1) := by decide +kernel
theorem dX10_pass_161 : decode cX10_pass 161 = .ok (.iinc 5 1, 3) := by decide +kernel
theorem dX10_pass_164 : decode cX10_pass 164 = .ok (.goto (-85), 3) := by decide +kernel
theorem dX10_pass_167 : decode cX10_pass 167 = .ok (.aload_n 1, 1) := by decide +kernel
theorem dX10_pass_168 : decode cX10_pass 168 = .ok (.dup, 1) := by decide +kernel
theorem dX10_pass_169 : decode cX10_pass 169 = .ok (.getfield 96, 3) := by decide +kernel
theorem dX10_pass_172 : decode cX10_pass 172 = .ok (.iconst 1, 1) := by decide +kernel
theorem dX10_pass_173 : decode cX10_pass 173 = .ok (.iadd, 1) := by decide +kernel
theorem dX10_pass_174 : decode cX10_pass 174 = .ok (.putfield 96, 3) := by decide +kernel
theorem dX10_pass_177 : decode cX10_pass 177 = .ok (.iload_n 3, 1) := by decide +kernel
theorem dX10_pass_178 : decode cX10_pass 178 = .ok (.ireturn, 1) := by decide +kernel
theorem dX10_bung_0 : decode cX10_bung 0 = .ok (.aload_n 1, 1) := by decide +kernel
theorem dX10_bung_1 : decode cX10_bung 1 = .ok (.getfield 132, 3) := by decide +kernel
theorem dX10_bung_4 : decode cX10_bung 4 = .ok (.iload_n 2, 1) := by decide +kernel
theorem dX10_bung_5 : decode cX10_bung 5 = .ok (.bipush 9, 2) := by decide +kernel
theorem dX10_bung_7 : decode cX10_bung 7 = .ok (.aload_n 1, 1) := by decide +kernel
theorem dX10_bung_8 : decode cX10_bung 8 = .ok (.getfield 132, 3) := by decide +kernel
theorem dX10_bung_11 : decode cX10_bung 11 = .ok (.iload_n 2, 1) := by decide +kernel
theorem dX10_bung_12 : decode cX10_bung 12 = .ok (.iaload, 1) := by decide +kernel
theorem dX10_bung_13 : decode cX10_bung 13 = .ok (.iconst 2, 1) := by decide +kernel
theorem dX10_bung_14 : decode cX10_bung 14 = .ok (.iadd, 1) := by decide +kernel
theorem dX10_bung_15 : decode cX10_bung 15 = .ok (.invokestatic 84, 3) := by decide +kernel
theorem dX10_bung_18 : decode cX10_bung 18 = .ok (.iastore, 1) := by decide +kernel
theorem dX10_bung_19 : decode cX10_bung 19 = .ok (.aload_n 1, 1) := by decide +kernel
theorem dX10_bung_20 : decode cX10_bung 20 = .ok (.getfield 103, 3) := by decide +kernel
theorem dX10_bung_23 : decode cX10_bung 23 = .ok (.iload_n 2, 1) := by decide +kernel
theorem dX10_bung_24 : decode cX10_bung 24 = .ok (.bipush 99, 2) := by decide +kernel
theorem dX10_bung_26 : decode cX10_bung 26 = .ok (.aload_n 1, 1) := by decide +kernel
theorem dX10_bung_27 : decode cX10_bung 27 = .ok (.getfield 103, 3) := by decide +kernel
theorem dX10_bung_30 : decode cX10_bung 30 = .ok (.iload_n 2, 1) := by decide +kernel
theorem dX10_bung_31 : decode cX10_bung 31 = .ok (.iaload, 1) := by decide +kernel
theorem dX10_bung_32 : decode cX10_bung 32 = .ok (.iconst 3, 1) := by decide +kernel
theorem dX10_bung_33 : decode cX10_bung 33 = .ok (.iadd, 1) := by decide +kernel
theorem dX10_bung_34 : decode cX10_bung 34 = .ok (.invokestatic 84, 3) := by decide +kernel
theorem dX10_bung_37 : decode cX10_bung 37 = .ok (.iastore, 1) := by decide +kernel
theorem dX10_bung_38 : decode cX10_bung 38 = .ok (.aload_n 0, 1) := by decide +kernel
theorem dX10_bung_39 : decode cX10_bung 39 = .ok (.aload_n 1, 1) := by decide +kernel
theorem dX10_bung_40 : decode cX10_bung 40 = .ok (.getfield 96, 3) := by decide +kernel
theorem dX10_bung_43 : decode cX10_bung 43 = .ok (.invokevirtual 109, 3) := by decide +kernel
theorem dX10_bung_46 : decode cX10_bung 46 = .ok (.ifCond .ne 7, 3) := by decide +kernel
theorem dX10_bung_49 : decode cX10_bung 49 = .ok (.iconst 1, 1) := by decide +kernel
theorem dX10_bung_50 : decode cX10_bung 50 = .ok (.goto 4, 3) := by decide +kernel
theorem dX10_bung_53 : decode cX10_bung 53 = .ok (.iconst 0, 1) := by decide +kernel
theorem dX10_bung_54 : decode cX10_bung 54 = .ok (.ireturn, 1) := by decide +kernel
theorem dX10_isCloseToAny_0 : decode cX10_isCloseToAny 0 = .ok (.aload_n 0, 1) := by decide +kernel
theorem dX10_isCloseToAny_1 : decode cX10_isCloseToAny 1 = .ok (.getfield 30, 3) := by decide +kernel
theorem dX10_isCloseToAny_4 : decode cX10_isCloseToAny 4 = .ok (.iload_n 1, 1) := by decide +kernel
theorem dX10_isCloseToAny_5 : decode cX10_isCloseToAny 5 = .ok (.invokevirtual 128, 3) := by decide +kernel
theorem dX10_isCloseToAny_8 : decode cX10_isCloseToAny 8 = .ok (.ifCond .eq 5, 3) := by decide +kernel
theorem dX10_isCloseToAny_11 : decode cX10_isCloseToAny 11 = .ok (.iconst 0, 1) := by decide +kernel
theorem dX10_isCloseToAny_12 : decode cX10_isCloseToAny 12 = .ok (.ireturn, 1) := by decide +kernel
theorem dX10_isCloseToAny_13 : decode cX10_isCloseToAny 13 = .ok (.aload_n 0, 1) := by decide +kernel
theorem dX10_isCloseToAny_14 : decode cX10_isCloseToAny 14 = .ok (.aload_n 0, 1) := by decide +kernel
theorem dX10_isCloseToAny_15 : decode cX10_isCloseToAny 15 = .ok (.getfield 30, 3) := by decide +kernel
theorem dX10_isCloseToAny_18 : decode cX10_isCloseToAny 18 = .ok (.iload_n 1, 1) := by decide +kernel
theorem dX10_isCloseToAny_19 : decode cX10_isCloseToAny 19 = .ok (.invokevirtual 175, 3) := by decide +kernel
theorem dX10_isCloseToAny_22 : decode cX10_isCloseToAny 22 = .ok (.istore_n 3, 1) := by decide +kernel
theorem dX10_isCloseToAny_23 : decode cX10_isCloseToAny 23 = .ok (.iconst 0, 1) := by decide +kernel
theorem dX10_isCloseToAny_24 : decode cX10_isCloseToAny 24 = .ok (.istore 4, 2) := by decide +kernel
theorem dX10_isCloseToAny_26 : decode cX10_isCloseToAny 26 = .ok (.iload 4, 2) := by decide +kernel
theorem dX10_isCloseToAny_28 : decode cX10_isCloseToAny 28 = .ok (.aload_n 0, 1) := by decide +kernel
theorem dX10_isCloseToAny_29 : decode cX10_isCloseToAny 29 = .ok (.getfield 75, 3) := by decide +kernel
theorem dX10_isCloseToAny_32 : decode cX10_isCloseToAny 32 = .ok (.if_icmp .ge 53, 3) := by decide +kernel
theorem dX10_isCloseToAny_35 : decode cX10_isCloseToAny 35 = .ok (.iload_n 2, 1) := by decide +kernel
theorem dX10_isCloseToAny_36 : decode cX10_isCloseToAny 36 = .ok (.iload 4, 2) := by decide +kernel
theorem dX10_isCloseToAny_38 : decode cX10_isCloseToAny 38 = .ok (.ishr, 1) := by decide +kernel
theorem dX10_isCloseToAny_39 : decode cX10_isCloseToAny 39 = .ok (.iconst 1, 1) := by decide +kernel
theorem dX10_isCloseToAny_40 : decode cX10_isCloseToAny 40 = .ok (.iand, 1) := by decide +kernel
theorem dX10_isCloseToAny_41 : decode cX10_isCloseToAny 41 = .ok (.ifCond .ne 6, 3) := by decide +kernel
theorem dX10_isCloseToAny_44 : decode cX10_isCloseToAny 44 = .ok (.goto 35, 3) := by decide +kernel
theorem dX10_isCloseToAny_47 : decode cX10_isCloseToAny 47 = .ok (.aload_n 0, 1) := by decide +kernel
theorem dX10_isCloseToAny_48 : decode cX10_isCloseToAny 48 = .ok (.getfield 15, 3) := by decide +kernel
theorem dX10_isCloseToAny_51 : decode cX10_isCloseToAny 51 = .ok (.iload 4, 2) := by decide +kernel
theorem dX10_isCloseToAny_53 : decode cX10_isCloseToAny 53 = .ok (.iaload, 1) := by decide +kernel
theorem dX10_isCloseToAny_54 : decode cX10_isCloseToAny 54 = .ok (.aload_n 0, 1) := by decide +kernel
theorem dX10_isCloseToAny_55 : decode cX10_isCloseToAny 55 = .ok (.getfield 15, 3) := by decide +kernel
theorem dX10_isCloseToAny_58 : decode cX10_isCloseToAny 58 = .ok (.iload_n 1, 1) := by decide +kernel
theorem dX10_isCloseToAny_59 : decode cX10_isCloseToAny 59 = .ok (.iaload, 1) := by decide +kernel
theorem dX10_isCloseToAny_60 : decode cX10_isCloseToAny 60 = .ok (.if_icmp .eq 17, 3) := by decide +kernel
theorem dX10_isCloseToAny_63 : decode cX10_isCloseToAny 63 = .ok (.aload_n 0, 1) := by decide +kernel
theorem dX10_isCloseToAny_64 : decode cX10_isCloseToAny 64 = .ok (.aload_n 0, 1) := by decide +kernel
theorem dX10_isCloseToAny_65 : decode cX10_isCloseToAny 65 = .ok (.getfield 30, 3) := by decide +kernel
theorem dX10_isCloseToAny_68 : decode cX10_isCloseToAny 68 = .ok (.iload 4, 2) := by decide +kernel
theorem dX10_isCloseToAny_70 : decode cX10_isCloseToAny 70 = .ok (.invokevirtual 175, 3) := by decide +kernel
theorem dX10_isCloseToAny_73 : decode cX10_isCloseToAny 73 = .ok (.iload_n 3, 1) := by decide +kernel
theorem dX10_isCloseToAny_74 : decode cX10_isCloseToAny 74 = .ok (.if_icmp .ne 5, 3) := by decide +kernel
theorem dX10_isCloseToAny_77 : decode cX10_isCloseToAny 77 = .ok (.iconst 1, 1) := by decide +kernel
theorem dX10_isCloseToAny_78 : decode cX10_isCloseToAny 78 = .ok (.ireturn, 1) := by decide +kernel
theorem dX10_isCloseToAny_79 : decode cX10_isCloseToAny 79 = .ok (.iinc 4 1, 3) := by decide +kernel
theorem dX10_isCloseToAny_82 : decode cX10_isCloseToAny 82 = .ok (.goto (-56), 3) := by decide +kernel
theorem dX10_isCloseToAny_85 : decode cX10_isCloseToAny 85 = .ok (.iconst 0, 1) := by decide +kernel
theorem dX10_isCloseToAny_86 : decode cX10_isCloseToAny 86 = .ok (.ireturn, 1) := by decide +kernel
theorem dX10_loneKind_0 : decode cX10_loneKind 0 = .ok (.iconst 1, 1) := by decide +kernel
theorem dX10_loneKind_1 : decode cX10_loneKind 1 = .ok (.iload_n 0, 1) := by decide +kernel
theorem dX10_loneKind_2 : decode cX10_loneKind 2 = .ok (.bipush 100, 2) := by decide +kernel
theorem dX10_loneKind_4 : decode cX10_loneKind 4 = .ok (.idiv, 1) := by decide +kernel
theorem dX10_loneKind_5 : decode cX10_loneKind 5 = .ok (.iadd, 1) := by decide +kernel
theorem dX10_loneKind_6 : decode cX10_loneKind 6 = .ok (.ireturn, 1) := by decide +kernel
theorem dX10_loneChalk_0 : decode cX10_loneChalk 0 = .ok (.iload_n 0, 1) := by decide +kernel
theorem dX10_loneChalk_1 : decode cX10_loneChalk 1 = .ok (.bipush 10, 2) := by decide +kernel
theorem dX10_loneChalk_3 : decode cX10_loneChalk 3 = .ok (.idiv, 1) := by decide +kernel
theorem dX10_loneChalk_4 : decode cX10_loneChalk 4 = .ok (.bipush 10, 2) := by decide +kernel
theorem dX10_loneChalk_6 : decode cX10_loneChalk 6 = .ok (.irem, 1) := by decide +kernel
theorem dX10_loneChalk_7 : decode cX10_loneChalk 7 = .ok (.ireturn, 1) := by decide +kernel
theorem dX10_loneFill_0 : decode cX10_loneFill 0 = .ok (.bipush 9, 2) := by decide +kernel
theorem dX10_loneFill_2 : decode cX10_loneFill 2 = .ok (.bipush 10, 2) := by decide +kernel
theorem dX10_loneFill_4 : decode cX10_loneFill 4 = .ok (.iload_n 0, 1) := by decide +kernel
theorem dX10_loneFill_5 : decode cX10_loneFill 5 = .ok (.bipush 10, 2) := by decide +kernel
theorem dX10_loneFill_7 : decode cX10_loneFill 7 = .ok (.irem, 1) := by decide +kernel
theorem dX10_loneFill_8 : decode cX10_loneFill 8 = .ok (.imul, 1) := by decide +kernel
theorem dX10_loneFill_9 : decode cX10_loneFill 9 = .ok (.iadd, 1) := by decide +kernel
theorem dX10_loneFill_10 : decode cX10_loneFill 10 = .ok (.ireturn, 1) := by decide +kernel
theorem dX10_denied_0 : decode cX10_denied 0 = .ok (.aload_n 0, 1) := by decide +kernel
theorem dX10_denied_1 : decode cX10_denied 1 = .ok (.getfield 60, 3) := by decide +kernel
theorem dX10_denied_4 : decode cX10_denied 4 = .ok (.iload_n 1, 1) := by decide +kernel
theorem dX10_denied_5 : decode cX10_denied 5 = .ok (.invokestatic 178, 3) := by decide +kernel
theorem dX10_denied_8 : decode cX10_denied 8 = .ok (.aaload, 1) := by decide +kernel
theorem dX10_denied_9 : decode cX10_denied 9 = .ok (.astore_n 2, 1) := by decide +kernel
theorem dX10_denied_10 : decode cX10_denied 10 = .ok (.iload_n 1, 1) := by decide +kernel
theorem dX10_denied_11 : decode cX10_denied 11 = .ok (.invokestatic 181, 3) := by decide +kernel
theorem dX10_denied_14 : decode cX10_denied 14 = .ok (.istore_n 3, 1) := by decide +kernel
theorem dX10_denied_15 : decode cX10_denied 15 = .ok (.iload_n 1, 1) := by decide +kernel
theorem dX10_denied_16 : decode cX10_denied 16 = .ok (.invokestatic 184, 3) := by decide +kernel
theorem dX10_denied_19 : decode cX10_denied 19 = .ok (.istore 4, 2) := by decide +kernel
theorem dX10_denied_21 : decode cX10_denied 21 = .ok (.iconst 0, 1) := by decide +kernel
theorem dX10_denied_22 : decode cX10_denied 22 = .ok (.istore 5, 2) := by decide +kernel
theorem dX10_denied_24 : decode cX10_denied 24 = .ok (.iconst 0, 1) := by decide +kernel
theorem dX10_denied_25 : decode cX10_denied 25 = .ok (.istore 6, 2) := by decide +kernel
theorem dX10_denied_27 : decode cX10_denied 27 = .ok (.aload_n 0, 1) := by decide +kernel
theorem dX10_denied_28 : decode cX10_denied 28 = .ok (.invokevirtual 187, 3) := by decide +kernel
theorem dX10_denied_31 : decode cX10_denied 31 = .ok (.istore 7, 2) := by decide +kernel
theorem dX10_denied_33 : decode cX10_denied 33 = .ok (.iconst 0, 1) := by decide +kernel
theorem dX10_denied_34 : decode cX10_denied 34 = .ok (.istore 8, 2) := by decide +kernel
theorem dX10_denied_36 : decode cX10_denied 36 = .ok (.iload 8, 2) := by decide +kernel
theorem dX10_denied_38 : decode cX10_denied 38 = .ok (.iload 7, 2) := by decide +kernel
theorem dX10_denied_40 : decode cX10_denied 40 = .ok (.if_icmp .gt 78, 3) := by decide +kernel
theorem dX10_denied_43 : decode cX10_denied 43 = .ok (.iload 6, 2) := by decide +kernel
theorem dX10_denied_45 : decode cX10_denied 45 = .ok (.aload_n 0, 1) := by decide +kernel
theorem dX10_denied_46 : decode cX10_denied 46 = .ok (.iload 8, 2) := by decide +kernel
theorem dX10_denied_48 : decode cX10_denied 48 = .ok (.iload 4, 2) := by decide +kernel
theorem dX10_denied_50 : decode cX10_denied 50 = .ok (.iload 5, 2) := by decide +kernel
theorem dX10_denied_52 : decode cX10_denied 52 = .ok (.invokevirtual 191, 3) := by decide +kernel
theorem dX10_denied_55 : decode cX10_denied 55 = .ok (.ior, 1) := by decide +kernel
theorem dX10_denied_56 : decode cX10_denied 56 = .ok (.istore 6, 2) := by decide +kernel
theorem dX10_denied_58 : decode cX10_denied 58 = .ok (.iload 4, 2) := by decide +kernel
theorem dX10_denied_60 : decode cX10_denied 60 = .ok (.ifCond .le 25, 3) := by decide +kernel
theorem dX10_denied_63 : decode cX10_denied 63 = .ok (.aload_n 2, 1) := by decide +kernel
theorem dX10_denied_64 : decode cX10_denied 64 = .ok (.iload 4, 2) := by decide +kernel
theorem dX10_denied_66 : decode cX10_denied 66 = .ok (.iload_n 3, 1) := by decide +kernel
theorem dX10_denied_67 : decode cX10_denied 67 = .ok (.iconst 0, 1) := by decide +kernel
theorem dX10_denied_68 : decode cX10_denied 68 = .ok (.invokevirtual 135, 3) := by decide +kernel
theorem dX10_denied_71 : decode cX10_denied 71 = .ok (.aload_n 0, 1) := by decide +kernel
theorem dX10_denied_72 : decode cX10_denied 72 = .ok (.iload 8, 2) := by decide +kernel
theorem dX10_denied_74 : decode cX10_denied 74 = .ok (.invokevirtual 106, 3) := by decide +kernel
theorem dX10_denied_77 : decode cX10_denied 77 = .ok (.iadd, 1) := by decide +kernel
theorem dX10_denied_78 : decode cX10_denied 78 = .ok (.iconst 4, 1) := by decide +kernel
theorem dX10_denied_79 : decode cX10_denied 79 = .ok (.if_icmp .gt 6, 3) := by decide +kernel
theorem dX10_denied_82 : decode cX10_denied 82 = .ok (.iinc 5 1, 3) := by decide +kernel
theorem dX10_denied_85 : decode cX10_denied 85 = .ok (.iconst 0, 1) := by decide +kernel
theorem dX10_denied_86 : decode cX10_denied 86 = .ok (.iload 4, 2) := by decide +kernel
theorem dX10_denied_88 : decode cX10_denied 88 = .ok (.aload_n 2, 1) := by decide +kernel
theorem dX10_denied_89 : decode cX10_denied 89 = .ok (.aload_n 0, 1) := by decide +kernel
theorem dX10_denied_90 : decode cX10_denied 90 = .ok (.iload 8, 2) := by decide +kernel
theorem dX10_denied_92 : decode cX10_denied 92 = .ok (.invokevirtual 106, 3) := by decide +kernel
theorem dX10_denied_95 : decode cX10_denied 95 = .ok (.aload_n 0, 1) := by decide +kernel
theorem dX10_denied_96 : decode cX10_denied 96 = .ok (.iload 8, 2) := by decide +kernel
theorem dX10_denied_98 : decode cX10_denied 98 = .ok (.invokevirtual 109, 3) := by decide +kernel
theorem dX10_denied_101 : decode cX10_denied 101 = .ok (.iload 8, 2) := by decide +kernel
theorem dX10_denied_103 : decode cX10_denied 103 = .ok (.invokevirtual 112, 3) := by decide +kernel
theorem dX10_denied_106 : decode cX10_denied 106 = .ok (.isub, 1) := by decide +kernel
theorem dX10_denied_107 : decode cX10_denied 107 = .ok (.invokestatic 122, 3) := by decide +kernel
theorem dX10_denied_110 : decode cX10_denied 110 = .ok (.istore 4, 2) := by decide +kernel
theorem dX10_denied_112 : decode cX10_denied 112 = .ok (.iinc 8 1, 3) := by decide +kernel
theorem dX10_denied_115 : decode cX10_denied 115 = .ok (.goto (-79), 3) := by decide +kernel
theorem dX10_denied_118 : decode cX10_denied 118 = .ok (.iload 6, 2) := by decide +kernel
theorem dX10_denied_120 : decode cX10_denied 120 = .ok (.ireturn, 1) := by decide +kernel
theorem dX10_lastReported_0 : decode cX10_lastReported 0 = .ok (.iconst (-1), 1) := by decide +kernel
theorem dX10_lastReported_1 : decode cX10_lastReported 1 = .ok (.istore_n 1, 1) := by decide +kernel
theorem dX10_lastReported_2 : decode cX10_lastReported 2 = .ok (.iconst 0, 1) := by decide +kernel
theorem dX10_lastReported_3 : decode cX10_lastReported 3 = .ok (.istore_n 2, 1) := by decide +kernel
theorem dX10_lastReported_4 : decode cX10_lastReported 4 = .ok (.iload_n 2, 1) := by decide +kernel
theorem dX10_lastReported_5 : decode cX10_lastReported 5 = .ok (.aload_n 0, 1) := by decide +kernel
theorem dX10_lastReported_6 : decode cX10_lastReported 6 = .ok (.getfield 81, 3) := by decide +kernel
theorem dX10_lastReported_9 : decode cX10_lastReported 9 = .ok (.if_icmp .ge 20, 3) := by decide +kernel
theorem dX10_lastReported_12 : decode cX10_lastReported 12 = .ok (.iload_n 1, 1) := by decide +kernel
theorem dX10_lastReported_13 : decode cX10_lastReported 13 = .ok (.aload_n 0, 1) := by decide +kernel
theorem dX10_lastReported_14 : decode cX10_lastReported 14 = .ok (.getfield 41, 3) := by decide +kernel
theorem dX10_lastReported_17 : decode cX10_lastReported 17 = .ok (.iload_n 2, 1) := by decide +kernel
theorem dX10_lastReported_18 : decode cX10_lastReported 18 = .ok (.iaload, 1) := by decide +kernel
theorem dX10_lastReported_19 : decode cX10_lastReported 19 = .ok (.invokestatic 122, 3) := by decide +kernel
theorem dX10_lastReported_22 : decode cX10_lastReported 22 = .ok (.istore_n 1, 1) := by decide +kernel
theorem dX10_lastReported_23 : decode cX10_lastReported 23 = .ok (.iinc 2 1, 3) := by decide +kernel
theorem dX10_lastReported_26 : decode cX10_lastReported 26 = .ok (.goto (-22), 3) := by decide +kernel
theorem dX10_lastReported_29 : decode cX10_lastReported 29 = .ok (.iload_n 1, 1) := by decide +kernel
theorem dX10_lastReported_30 : decode cX10_lastReported 30 = .ok (.ireturn, 1) := by decide +kernel
theorem dX10_deniedBehind_0 : decode cX10_deniedBehind 0 = .ok (.iconst 0, 1) := by decide +kernel
theorem dX10_deniedBehind_1 : decode cX10_deniedBehind 1 = .ok (.istore 4, 2) := by decide +kernel
theorem dX10_deniedBehind_3 : decode cX10_deniedBehind 3 = .ok (.iconst 0, 1) := by decide +kernel
theorem dX10_deniedBehind_4 : decode cX10_deniedBehind 4 = .ok (.istore 5, 2) := by decide +kernel
theorem dX10_deniedBehind_6 : decode cX10_deniedBehind 6 = .ok (.iload 5, 2) := by decide +kernel
theorem dX10_deniedBehind_8 : decode cX10_deniedBehind 8 = .ok (.aload_n 0, 1) := by decide +kernel
theorem dX10_deniedBehind_9 : decode cX10_deniedBehind 9 = .ok (.getfield 81, 3) := by decide +kernel
theorem dX10_deniedBehind_12 : decode cX10_deniedBehind 12 = .ok (.if_icmp .ge 73, 3) := by decide +kernel
theorem dX10_deniedBehind_15 : decode cX10_deniedBehind 15 = .ok (.aload_n 0, 1) := by decide +kernel
theorem dX10_deniedBehind_16 : decode cX10_deniedBehind 16 = .ok (.getfield 41, 3) := by decide +kernel
theorem dX10_deniedBehind_19 : decode cX10_deniedBehind 19 = .ok (.iload 5, 2) := by decide +kernel
theorem dX10_deniedBehind_21 : decode cX10_deniedBehind 21 = .ok (.iaload, 1) := by decide +kernel
theorem dX10_deniedBehind_22 : decode cX10_deniedBehind 22 = .ok (.iload_n 1, 1) := by decide +kernel
theorem dX10_deniedBehind_23 : decode cX10_deniedBehind 23 = .ok (.if_icmp .eq 6, 3) := by decide +kernel
theorem dX10_deniedBehind_26 : decode cX10_deniedBehind 26 = .ok (.goto 53, 3) := by decide +kernel
theorem dX10_deniedBehind_29 : decode cX10_deniedBehind 29 = .ok (.aload_n 0, 1) := by decide +kernel
theorem dX10_deniedBehind_30 : decode cX10_deniedBehind 30 = .ok (.getfield 44, 3) := by decide +kernel
theorem dX10_deniedBehind_33 : decode cX10_deniedBehind 33 = .ok (.iload 5, 2) := by decide +kernel
theorem dX10_deniedBehind_35 : decode cX10_deniedBehind 35 = .ok (.iaload, 1) := by decide +kernel
theorem dX10_deniedBehind_36 : decode cX10_deniedBehind 36 = .ok (.ifCond .ne 7, 3) := by decide +kernel
theorem dX10_deniedBehind_39 : decode cX10_deniedBehind 39 = .ok (.iload_n 2, 1) := by decide +kernel
theorem dX10_deniedBehind_40 : decode cX10_deniedBehind 40 = .ok (.goto 4, 3) := by decide +kernel
theorem dX10_deniedBehind_43 : decode cX10_deniedBehind 43 = .ok (.iload_n 3, 1) := by decide +kernel
theorem dX10_deniedBehind_44 : decode cX10_deniedBehind 44 = .ok (.istore 6, 2) := by decide +kernel
theorem dX10_deniedBehind_46 : decode cX10_deniedBehind 46 = .ok (.iload 6, 2) := by decide +kernel
theorem dX10_deniedBehind_48 : decode cX10_deniedBehind 48 = .ok (.aload_n 0, 1) := by decide +kernel
theorem dX10_deniedBehind_49 : decode cX10_deniedBehind 49 = .ok (.getfield 47, 3) := by decide +kernel
theorem dX10_deniedBehind_52 : decode cX10_deniedBehind 52 = .ok (.iload 5, 2) := by decide +kernel
theorem dX10_deniedBehind_54 : decode cX10_deniedBehind 54 = .ok (.iaload, 1) := by decide +kernel
theorem dX10_deniedBehind_55 : decode cX10_deniedBehind 55 = .ok (.if_icmp .lt 15, 3) := by decide +kernel
theorem dX10_deniedBehind_58 : decode cX10_deniedBehind 58 = .ok (.iload 6, 2) := by decide +kernel
theorem dX10_deniedBehind_60 : decode cX10_deniedBehind 60 = .ok (.aload_n 0, 1) := by decide +kernel
theorem dX10_deniedBehind_61 : decode cX10_deniedBehind 61 = .ok (.getfield 50, 3) := by decide +kernel
theorem dX10_deniedBehind_64 : decode cX10_deniedBehind 64 = .ok (.iload 5, 2) := by decide +kernel
theorem dX10_deniedBehind_66 : decode cX10_deniedBehind 66 = .ok (.iaload, 1) := by decide +kernel
theorem dX10_deniedBehind_67 : decode cX10_deniedBehind 67 = .ok (.if_icmp .le 12, 3) := by decide +kernel
theorem dX10_deniedBehind_70 : decode cX10_deniedBehind 70 = .ok (.iload 4, 2) := by decide +kernel
theorem dX10_deniedBehind_72 : decode cX10_deniedBehind 72 = .ok (.iconst 1, 1) := by decide +kernel
theorem dX10_deniedBehind_73 : decode cX10_deniedBehind 73 = .ok (.iload 5, 2) := by decide +kernel
theorem dX10_deniedBehind_75 : decode cX10_deniedBehind 75 = .ok (.ishl, 1) := by decide +kernel
theorem dX10_deniedBehind_76 : decode cX10_deniedBehind 76 = .ok (.ior, 1) := by decide +kernel
theorem dX10_deniedBehind_77 : decode cX10_deniedBehind 77 = .ok (.istore 4, 2) := by decide +kernel
theorem dX10_deniedBehind_79 : decode cX10_deniedBehind 79 = .ok (.iinc 5 1, 3) := by decide +kernel
theorem dX10_deniedBehind_82 : decode cX10_deniedBehind 82 = .ok (.goto (-76), 3) := by decide +kernel
theorem dX10_deniedBehind_85 : decode cX10_deniedBehind 85 = .ok (.iload 4, 2) := by decide +kernel
theorem dX10_deniedBehind_87 : decode cX10_deniedBehind 87 = .ok (.ireturn, 1) := by decide +kernel

theorem dX12_init_0 : decode cX12_init 0 = .ok (.aload_n 0, 1) := by decide +kernel
theorem dX12_init_1 : decode cX12_init 1 = .ok (.invokespecial 1, 3) := by decide +kernel
theorem dX12_init_4 : decode cX12_init 4 = .ok (.aload_n 0, 1) := by decide +kernel
theorem dX12_init_5 : decode cX12_init 5 = .ok (.sipush 361, 3) := by decide +kernel
theorem dX12_init_8 : decode cX12_init 8 = .ok (.newarray .int, 2) := by decide +kernel
theorem dX12_init_10 : decode cX12_init 10 = .ok (.putfield 7, 3) := by decide +kernel
theorem dX12_init_13 : decode cX12_init 13 = .ok (.aload_n 0, 1) := by decide +kernel
theorem dX12_init_14 : decode cX12_init 14 = .ok (.sipush 361, 3) := by decide +kernel
theorem dX12_init_17 : decode cX12_init 17 = .ok (.newarray .int, 2) := by decide +kernel
theorem dX12_init_19 : decode cX12_init 19 = .ok (.putfield 13, 3) := by decide +kernel
theorem dX12_init_22 : decode cX12_init 22 = .ok (.aload_n 0, 1) := by decide +kernel
theorem dX12_init_23 : decode cX12_init 23 = .ok (.sipush 390, 3) := by decide +kernel
theorem dX12_init_26 : decode cX12_init 26 = .ok (.newarray .int, 2) := by decide +kernel
theorem dX12_init_28 : decode cX12_init 28 = .ok (.putfield 16, 3) := by decide +kernel
theorem dX12_init_31 : decode cX12_init 31 = .ok (.aload_n 0, 1) := by decide +kernel
theorem dX12_init_32 : decode cX12_init 32 = .ok (.sipush 240, 3) := by decide +kernel
theorem dX12_init_35 : decode cX12_init 35 = .ok (.newarray .int, 2) := by decide +kernel
theorem dX12_init_37 : decode cX12_init 37 = .ok (.putfield 19, 3) := by decide +kernel
theorem dX12_init_40 : decode cX12_init 40 = .ok (.aload_n 0, 1) := by decide +kernel
theorem dX12_init_41 : decode cX12_init 41 = .ok (.bipush 6, 2) := by decide +kernel
theorem dX12_init_43 : decode cX12_init 43 = .ok (.newarray .int, 2) := by decide +kernel
theorem dX12_init_45 : decode cX12_init 45 = .ok (.putfield 22, 3) := by decide +kernel
theorem dX12_init_48 : decode cX12_init 48 = .ok (.aload_n 0, 1) := by decide +kernel
theorem dX12_init_49 : decode cX12_init 49 = .ok (.sipush 200, 3) := by decide +kernel
theorem dX12_init_52 : decode cX12_init 52 = .ok (.newarray .int, 2) := by decide +kernel
theorem dX12_init_54 : decode cX12_init 54 = .ok (.putfield 25, 3) := by decide +kernel
theorem dX12_init_57 : decode cX12_init 57 = .ok (.aload_n 0, 1) := by decide +kernel
theorem dX12_init_58 : decode cX12_init 58 = .ok (.sipush 240, 3) := by decide +kernel
theorem dX12_init_61 : decode cX12_init 61 = .ok (.newarray .int, 2) := by decide +kernel
theorem dX12_init_63 : decode cX12_init 63 = .ok (.putfield 28, 3) := by decide +kernel
theorem dX12_init_66 : decode cX12_init 66 = .ok (.aload_n 0, 1) := by decide +kernel
theorem dX12_init_67 : decode cX12_init 67 = .ok (.bipush 32, 2) := by decide +kernel
theorem dX12_init_69 : decode cX12_init 69 = .ok (.newarray .int, 2) := by decide +kernel
theorem dX12_init_71 : decode cX12_init 71 = .ok (.putfield 31, 3) := by decide +kernel
theorem dX12_init_74 : decode cX12_init 74 = .ok (.aload_n 0, 1) := by decide +kernel
theorem dX12_init_75 : decode cX12_init 75 = .ok (.iconst 4, 1) := by decide +kernel
theorem dX12_init_76 : decode cX12_init 76 = .ok (.newarray .int, 2) := by decide +kernel
theorem dX12_init_78 : decode cX12_init 78 = .ok (.putfield 34, 3) := by decide +kernel
theorem dX12_init_81 : decode cX12_init 81 = .ok (.aload_n 0, 1) := by decide +kernel
theorem dX12_init_82 : decode cX12_init 82 = .ok (.bipush 12, 2) := by decide +kernel
theorem dX12_init_84 : decode cX12_init 84 = .ok (.newarray .int, 2) := by decide +kernel
theorem dX12_init_86 : decode cX12_init 86 = .ok (.putfield 37, 3) := by decide +kernel
theorem dX12_init_89 : decode cX12_init 89 = .ok (.aload_n 0, 1) := by decide +kernel
theorem dX12_init_90 : decode cX12_init 90 = .ok (.iconst 4, 1) := by decide +kernel
theorem dX12_init_91 : decode cX12_init 91 = .ok (.newarray .int, 2) := by decide +kernel
theorem dX12_init_93 : decode cX12_init 93 = .ok (.putfield 40, 3) := by decide +kernel
theorem dX12_init_96 : decode cX12_init 96 = .ok (.aload_n 0, 1) := by decide +kernel
theorem dX12_init_97 : decode cX12_init 97 = .ok (.iconst 4, 1) := by decide +kernel
theorem dX12_init_98 : decode cX12_init 98 = .ok (.newarray .int, 2) := by decide +kernel
theorem dX12_init_100 : decode cX12_init 100 = .ok (.putfield 43, 3) := by decide +kernel
theorem dX12_init_103 : decode cX12_init 103 = .ok (.aload_n 0, 1) := by decide +kernel
theorem dX12_init_104 : decode cX12_init 104 = .ok (.sipush 160, 3) := by decide +kernel
theorem dX12_init_107 : decode cX12_init 107 = .ok (.newarray .int, 2) := by decide +kernel
theorem dX12_init_109 : decode cX12_init 109 = .ok (.putfield 46, 3) := by decide +kernel
theorem dX12_init_112 : decode cX12_init 112 = .ok (.aload_n 0, 1) := by decide +kernel
theorem dX12_init_113 : decode cX12_init 113 = .ok (.iconst 4, 1) := by decide +kernel
theorem dX12_init_114 : decode cX12_init 114 = .ok (.newarray .int, 2) := by decide +kernel
theorem dX12_init_116 : decode cX12_init 116 = .ok (.putfield 49, 3) := by decide +kernel
theorem dX12_init_119 : decode cX12_init 119 = .ok (.aload_n 0, 1) := by decide +kernel
theorem dX12_init_120 : decode cX12_init 120 = .ok (.iconst 4, 1) := by decide +kernel
theorem dX12_init_121 : decode cX12_init 121 = .ok (.newarray .int, 2) := by decide +kernel
theorem dX12_init_123 : decode cX12_init 123 = .ok (.putfield 52, 3) := by decide +kernel
theorem dX12_init_126 : decode cX12_init 126 = .ok (.aload_n 0, 1) := by decide +kernel
theorem dX12_init_127 : decode cX12_init 127 = .ok (.iconst 4, 1) := by decide +kernel
theorem dX12_init_128 : decode cX12_init 128 = .ok (.newarray .int, 2) := by decide +kernel
theorem dX12_init_130 : decode cX12_init 130 = .ok (.putfield 55, 3) := by decide +kernel
theorem dX12_init_133 : decode cX12_init 133 = .ok (.aload_n 0, 1) := by decide +kernel
theorem dX12_init_134 : decode cX12_init 134 = .ok (.bipush 30, 2) := by decide +kernel
theorem dX12_init_136 : decode cX12_init 136 = .ok (.newarray .int, 2) := by decide +kernel
theorem dX12_init_138 : decode cX12_init 138 = .ok (.putfield 58, 3) := by decide +kernel
theorem dX12_init_141 : decode cX12_init 141 = .ok (.aload_n 0, 1) := by decide +kernel
theorem dX12_init_142 : decode cX12_init 142 = .ok (.getfield 7, 3) := by decide +kernel
theorem dX12_init_145 : decode cX12_init 145 = .ok (.iconst 2, 1) := by decide +kernel
theorem dX12_init_146 : decode cX12_init 146 = .ok (.bipush 12, 2) := by decide +kernel
theorem dX12_init_148 : decode cX12_init 148 = .ok (.iastore, 1) := by decide +kernel
theorem dX12_init_149 : decode cX12_init 149 = .ok (.aload_n 0, 1) := by decide +kernel
theorem dX12_init_150 : decode cX12_init 150 = .ok (.getfield 7, 3) := by decide +kernel
theorem dX12_init_153 : decode cX12_init 153 = .ok (.iconst 4, 1) := by decide +kernel
theorem dX12_init_154 : decode cX12_init 154 = .ok (.iconst 1, 1) := by decide +kernel
theorem dX12_init_155 : decode cX12_init 155 = .ok (.iastore, 1) := by decide +kernel
theorem dX12_init_156 : decode cX12_init 156 = .ok (.iconst 0, 1) := by decide +kernel
theorem dX12_init_157 : decode cX12_init 157 = .ok (.istore_n 1, 1) := by decide +kernel
theorem dX12_init_158 : decode cX12_init 158 = .ok (.iload_n 1, 1) := by decide +kernel
theorem dX12_init_159 : decode cX12_init 159 = .ok (.bipush 16, 2) := by decide +kernel
theorem dX12_init_161 : decode cX12_init 161 = .ok (.if_icmp .ge 20, 3) := by decide +kernel
theorem dX12_init_164 : decode cX12_init 164 = .ok (.aload_n 0, 1) := by decide +kernel
theorem dX12_init_165 : decode cX12_init 165 = .ok (.getfield 7, 3) := by decide +kernel
theorem dX12_init_168 : decode cX12_init 168 = .ok (.bipush 7, 2) := by decide +kernel
theorem dX12_init_170 : decode cX12_init 170 = .ok (.iload_n 1, 1) := by decide +kernel
theorem dX12_init_171 : decode cX12_init 171 = .ok (.iadd, 1) := by decide +kernel
theorem dX12_init_172 : decode cX12_init 172 = .ok (.bipush 9, 2) := by decide +kernel
theorem dX12_init_174 : decode cX12_init 174 = .ok (.iastore, 1) := by decide +kernel
theorem dX12_init_175 : decode cX12_init 175 = .ok (.iinc 1 1, 3) := by decide +kernel
theorem dX12_init_178 : decode cX12_init 178 = .ok (.goto (-20), 3) := by decide +kernel
theorem dX12_init_181 : decode cX12_init 181 = .ok (.return_, 1) := by decide +kernel
theorem dX12_in_0 : decode cX12_in 0 = .ok (.lload_n 0, 1) := by decide +kernel
theorem dX12_in_1 : decode cX12_in 1 = .ok (.lload_n 2, 1) := by decide +kernel
theorem dX12_in_2 : decode cX12_in 2 = .ok (.lcmp, 1) := by decide +kernel
theorem dX12_in_3 : decode cX12_in 3 = .ok (.ifCond .lt 14, 3) := by decide +kernel
theorem dX12_in_6 : decode cX12_in 6 = .ok (.lload_n 0, 1) := by decide +kernel
theorem dX12_in_7 : decode cX12_in 7 = .ok (.lload 4, 2) := by decide +kernel
theorem dX12_in_9 : decode cX12_in 9 = .ok (.lcmp, 1) := by decide +kernel
theorem dX12_in_10 : decode cX12_in 10 = .ok (.ifCond .gt 7, 3) := by decide +kernel
theorem dX12_in_13 : decode cX12_in 13 = .ok (.iconst 1, 1) := by decide +kernel
theorem dX12_in_14 : decode cX12_in 14 = .ok (.goto 4, 3) := by decide +kernel
theorem dX12_in_17 : decode cX12_in 17 = .ok (.iconst 0, 1) := by decide +kernel
theorem dX12_in_18 : decode cX12_in 18 = .ok (.ireturn, 1) := by decide +kernel
theorem dX12_held_0 : decode cX12_held 0 = .ok (.iload_n 0, 1) := by decide +kernel
theorem dX12_held_1 : decode cX12_held 1 = .ok (.iload_n 1, 1) := by decide +kernel
theorem dX12_held_2 : decode cX12_held 2 = .ok (.if_icmp .ge 7, 3) := by decide +kernel
theorem dX12_held_5 : decode cX12_held 5 = .ok (.iload_n 1, 1) := by decide +kernel
theorem dX12_held_6 : decode cX12_held 6 = .ok (.goto 13, 3) := by decide +kernel
theorem dX12_held_9 : decode cX12_held 9 = .ok (.iload_n 0, 1) := by decide +kernel
theorem dX12_held_10 : decode cX12_held 10 = .ok (.iload_n 2, 1) := by decide +kernel
theorem dX12_held_11 : decode cX12_held 11 = .ok (.if_icmp .le 7, 3) := by decide +kernel
theorem dX12_held_14 : decode cX12_held 14 = .ok (.iload_n 2, 1) := by decide +kernel
theorem dX12_held_15 : decode cX12_held 15 = .ok (.goto 4, 3) := by decide +kernel
theorem dX12_held_18 : decode cX12_held 18 = .ok (.iload_n 0, 1) := by decide +kernel
theorem dX12_held_19 : decode cX12_held 19 = .ok (.ireturn, 1) := by decide +kernel
theorem dX12_ones_0 : decode cX12_ones 0 = .ok (.iconst 0, 1) := by decide +kernel
theorem dX12_ones_1 : decode cX12_ones 1 = .ok (.istore_n 1, 1) := by decide +kernel
theorem dX12_ones_2 : decode cX12_ones 2 = .ok (.iconst 0, 1) := by decide +kernel
theorem dX12_ones_3 : decode cX12_ones 3 = .ok (.istore_n 2, 1) := by decide +kernel
theorem dX12_ones_4 : decode cX12_ones 4 = .ok (.iload_n 2, 1) := by decide +kernel
theorem dX12_ones_5 : decode cX12_ones 5 = .ok (.bipush 6, 2) := by decide +kernel
theorem dX12_ones_7 : decode cX12_ones 7 = .ok (.if_icmp .ge 17, 3) := by decide +kernel
theorem dX12_ones_10 : decode cX12_ones 10 = .ok (.iload_n 1, 1) := by decide +kernel
theorem dX12_ones_11 : decode cX12_ones 11 = .ok (.iload_n 0, 1) := by decide +kernel
theorem dX12_ones_12 : decode cX12_ones 12 = .ok (.iload_n 2, 1) := by decide +kernel
theorem dX12_ones_13 : decode cX12_ones 13 = .ok (.ishr, 1) := by decide +kernel
theorem dX12_ones_14 : decode cX12_ones 14 = .ok (.iconst 1, 1) := by decide +kernel
theorem dX12_ones_15 : decode cX12_ones 15 = .ok (.iand, 1) := by decide +kernel
theorem dX12_ones_16 : decode cX12_ones 16 = .ok (.iadd, 1) := by decide +kernel
theorem dX12_ones_17 : decode cX12_ones 17 = .ok (.istore_n 1, 1) := by decide +kernel
theorem dX12_ones_18 : decode cX12_ones 18 = .ok (.iinc 2 1, 3) := by decide +kernel
theorem dX12_ones_21 : decode cX12_ones 21 = .ok (.goto (-17), 3) := by decide +kernel
theorem dX12_ones_24 : decode cX12_ones 24 = .ok (.iload_n 1, 1) := by decide +kernel
theorem dX12_ones_25 : decode cX12_ones 25 = .ok (.ireturn, 1) := by decide +kernel
theorem dX12_isBarrel_0 : decode cX12_isBarrel 0 = .ok (.iload_n 1, 1) := by decide +kernel
theorem dX12_isBarrel_1 : decode cX12_isBarrel 1 = .ok (.i2l, 1) := by decide +kernel
theorem dX12_isBarrel_2 : decode cX12_isBarrel 2 = .ok (.lconst 0, 1) := by decide +kernel
theorem dX12_isBarrel_3 : decode cX12_isBarrel 3 = .ok (.aload_n 0, 1) := by decide +kernel
theorem dX12_isBarrel_4 : decode cX12_isBarrel 4 = .ok (.getfield 7, 3) := by decide +kernel
theorem dX12_isBarrel_7 : decode cX12_isBarrel 7 = .ok (.iconst 0, 1) := by decide +kernel
theorem dX12_isBarrel_8 : decode cX12_isBarrel 8 = .ok (.iaload, 1) := by decide +kernel
theorem dX12_isBarrel_9 : decode cX12_isBarrel 9 = .ok (.iconst 1, 1) := by decide +kernel
theorem dX12_isBarrel_10 : decode cX12_isBarrel 10 = .ok (.isub, 1) := by decide +kernel
theorem dX12_isBarrel_11 : decode cX12_isBarrel 11 = .ok (.i2l, 1) := by decide +kernel
theorem dX12_isBarrel_12 : decode cX12_isBarrel 12 = .ok (.invokestatic 61, 3) := by decide +kernel
theorem dX12_isBarrel_15 : decode cX12_isBarrel 15 = .ok (.ireturn, 1) := by decide +kernel
theorem dX12_of_0 : decode cX12_of 0 = .ok (.aload_n 0, 1) := by decide +kernel
theorem dX12_of_1 : decode cX12_of 1 = .ok (.getfield 7, 3) := by decide +kernel
theorem dX12_of_4 : decode cX12_of 4 = .ok (.bipush 35, 2) := by decide +kernel
theorem dX12_of_6 : decode cX12_of 6 = .ok (.iconst 5, 1) := by decide +kernel
theorem dX12_of_7 : decode cX12_of 7 = .ok (.iload_n 1, 1) := by decide +kernel
theorem dX12_of_8 : decode cX12_of 8 = .ok (.imul, 1) := by decide +kernel
theorem dX12_of_9 : decode cX12_of 9 = .ok (.iadd, 1) := by decide +kernel
theorem dX12_of_10 : decode cX12_of 10 = .ok (.iload_n 2, 1) := by decide +kernel
theorem dX12_of_11 : decode cX12_of 11 = .ok (.iadd, 1) := by decide +kernel
theorem dX12_of_12 : decode cX12_of 12 = .ok (.iaload, 1) := by decide +kernel
theorem dX12_of_13 : decode cX12_of 13 = .ok (.ireturn, 1) := by decide +kernel
theorem dX12_sets_0 : decode cX12_sets 0 = .ok (.aload_n 0, 1) := by decide +kernel
theorem dX12_sets_1 : decode cX12_sets 1 = .ok (.getfield 7, 3) := by decide +kernel
theorem dX12_sets_4 : decode cX12_sets 4 = .ok (.bipush 35, 2) := by decide +kernel
theorem dX12_sets_6 : decode cX12_sets 6 = .ok (.iconst 5, 1) := by decide +kernel
theorem dX12_sets_7 : decode cX12_sets 7 = .ok (.iload_n 1, 1) := by decide +kernel
theorem dX12_sets_8 : decode cX12_sets 8 = .ok (.imul, 1) := by decide +kernel
theorem dX12_sets_9 : decode cX12_sets 9 = .ok (.iadd, 1) := by decide +kernel
theorem dX12_sets_10 : decode cX12_sets 10 = .ok (.iload_n 2, 1) := by decide +kernel
theorem dX12_sets_11 : decode cX12_sets 11 = .ok (.iadd, 1) := by decide +kernel
theorem dX12_sets_12 : decode cX12_sets 12 = .ok (.iload_n 3, 1) := by decide +kernel
theorem dX12_sets_13 : decode cX12_sets 13 = .ok (.iastore, 1) := by decide +kernel
theorem dX12_sets_14 : decode cX12_sets 14 = .ok (.return_, 1) := by decide +kernel
theorem dX12_becomes_0 : decode cX12_becomes 0 = .ok (.aload_n 0, 1) := by decide +kernel
theorem dX12_becomes_1 : decode cX12_becomes 1 = .ok (.getfield 7, 3) := by decide +kernel
theorem dX12_becomes_4 : decode cX12_becomes 4 = .ok (.iload_n 1, 1) := by decide +kernel
theorem dX12_becomes_5 : decode cX12_becomes 5 = .ok (.iaload, 1) := by decide +kernel
theorem dX12_becomes_6 : decode cX12_becomes 6 = .ok (.istore_n 3, 1) := by decide +kernel
theorem dX12_becomes_7 : decode cX12_becomes 7 = .ok (.aload_n 0, 1) := by decide +kernel
theorem dX12_becomes_8 : decode cX12_becomes 8 = .ok (.getfield 7, 3) := by decide +kernel
theorem dX12_becomes_11 : decode cX12_becomes 11 = .ok (.iload_n 1, 1) := by decide +kernel
theorem dX12_becomes_12 : decode cX12_becomes 12 = .ok (.iload_n 2, 1) := by decide +kernel
theorem dX12_becomes_13 : decode cX12_becomes 13 = .ok (.iastore, 1) := by decide +kernel
theorem dX12_becomes_14 : decode cX12_becomes 14 = .ok (.iload_n 3, 1) := by decide +kernel
theorem dX12_becomes_15 : decode cX12_becomes 15 = .ok (.ireturn, 1) := by decide +kernel
theorem dX12_puts_0 : decode cX12_puts 0 = .ok (.iconst 0, 1) := by decide +kernel
theorem dX12_puts_1 : decode cX12_puts 1 = .ok (.istore_n 1, 1) := by decide +kernel
theorem dX12_puts_2 : decode cX12_puts 2 = .ok (.iload_n 1, 1) := by decide +kernel
theorem dX12_puts_3 : decode cX12_puts 3 = .ok (.bipush 65, 2) := by decide +kernel
theorem dX12_puts_5 : decode cX12_puts 5 = .ok (.if_icmp .ge 29, 3) := by decide +kernel
theorem dX12_puts_8 : decode cX12_puts 8 = .ok (.aload_n 0, 1) := by decide +kernel
theorem dX12_puts_9 : decode cX12_puts 9 = .ok (.getfield 16, 3) := by decide +kernel
theorem dX12_puts_12 : decode cX12_puts 12 = .ok (.bipush 65, 2) := by decide +kernel
theorem dX12_puts_14 : decode cX12_puts 14 = .ok (.aload_n 0, 1) := by decide +kernel
theorem dX12_puts_15 : decode cX12_puts 15 = .ok (.getfield 65, 3) := by decide +kernel
theorem dX12_puts_18 : decode cX12_puts 18 = .ok (.imul, 1) := by decide +kernel
theorem dX12_puts_19 : decode cX12_puts 19 = .ok (.iload_n 1, 1) := by decide +kernel
theorem dX12_puts_20 : decode cX12_puts 20 = .ok (.iadd, 1) := by decide +kernel
theorem dX12_puts_21 : decode cX12_puts 21 = .ok (.aload_n 0, 1) := by decide +kernel
theorem dX12_puts_22 : decode cX12_puts 22 = .ok (.getfield 7, 3) := by decide +kernel
theorem dX12_puts_25 : decode cX12_puts 25 = .ok (.iload_n 1, 1) := by decide +kernel
theorem dX12_puts_26 : decode cX12_puts 26 = .ok (.iaload, 1) := by decide +kernel
theorem dX12_puts_27 : decode cX12_puts 27 = .ok (.iastore, 1) := by decide +kernel
theorem dX12_puts_28 : decode cX12_puts 28 = .ok (.iinc 1 1, 3) := by decide +kernel
theorem dX12_puts_31 : decode cX12_puts 31 = .ok (.goto (-29), 3) := by decide +kernel
theorem dX12_puts_34 : decode cX12_puts 34 = .ok (.aload_n 0, 1) := by decide +kernel
theorem dX12_puts_35 : decode cX12_puts 35 = .ok (.dup, 1) := by decide +kernel
theorem dX12_puts_36 : decode cX12_puts 36 = .ok (.getfield 65, 3) := by decide +kernel
theorem dX12_puts_39 : decode cX12_puts 39 = .ok (.iconst 1, 1) := by decide +kernel
theorem dX12_puts_40 : decode cX12_puts 40 = .ok (.iadd, 1) := by decide +kernel
theorem dX12_puts_41 : decode cX12_puts 41 = .ok (.putfield 65, 3) := by decide +kernel
theorem dX12_puts_44 : decode cX12_puts 44 = .ok (.return_, 1) := by decide +kernel
theorem dX12_back_0 : decode cX12_back 0 = .ok (.iconst 0, 1) := by decide +kernel
theorem dX12_back_1 : decode cX12_back 1 = .ok (.istore_n 1, 1) := by decide +kernel
theorem dX12_back_2 : decode cX12_back 2 = .ok (.iload_n 1, 1) := by decide +kernel
theorem dX12_back_3 : decode cX12_back 3 = .ok (.bipush 65, 2) := by decide +kernel
theorem dX12_back_5 : decode cX12_back 5 = .ok (.if_icmp .ge 31, 3) := by decide +kernel
theorem dX12_back_8 : decode cX12_back 8 = .ok (.aload_n 0, 1) := by decide +kernel
theorem dX12_back_9 : decode cX12_back 9 = .ok (.getfield 7, 3) := by decide +kernel
theorem dX12_back_12 : decode cX12_back 12 = .ok (.iload_n 1, 1) := by decide +kernel
theorem dX12_back_13 : decode cX12_back 13 = .ok (.aload_n 0, 1) := by decide +kernel
theorem dX12_back_14 : decode cX12_back 14 = .ok (.getfield 16, 3) := by decide +kernel
theorem dX12_back_17 : decode cX12_back 17 = .ok (.bipush 65, 2) := by decide +kernel
theorem dX12_back_19 : decode cX12_back 19 = .ok (.aload_n 0, 1) := by decide +kernel
theorem dX12_back_20 : decode cX12_back 20 = .ok (.getfield 65, 3) := by decide +kernel
theorem dX12_back_23 : decode cX12_back 23 = .ok (.iconst 1, 1) := by decide +kernel
theorem dX12_back_24 : decode cX12_back 24 = .ok (.isub, 1) := by decide +kernel
theorem dX12_back_25 : decode cX12_back 25 = .ok (.imul, 1) := by decide +kernel
theorem dX12_back_26 : decode cX12_back 26 = .ok (.iload_n 1, 1) := by decide +kernel
theorem dX12_back_27 : decode cX12_back 27 = .ok (.iadd, 1) := by decide +kernel
theorem dX12_back_28 : decode cX12_back 28 = .ok (.iaload, 1) := by decide +kernel
theorem dX12_back_29 : decode cX12_back 29 = .ok (.iastore, 1) := by decide +kernel
theorem dX12_back_30 : decode cX12_back 30 = .ok (.iinc 1 1, 3) := by decide +kernel
theorem dX12_back_33 : decode cX12_back 33 = .ok (.goto (-31), 3) := by decide +kernel
theorem dX12_back_36 : decode cX12_back 36 = .ok (.return_, 1) := by decide +kernel
theorem dX12_takes_0 : decode cX12_takes 0 = .ok (.aload_n 0, 1) := by decide +kernel
theorem dX12_takes_1 : decode cX12_takes 1 = .ok (.invokevirtual 69, 3) := by decide +kernel
theorem dX12_takes_4 : decode cX12_takes 4 = .ok (.aload_n 0, 1) := by decide +kernel
theorem dX12_takes_5 : decode cX12_takes 5 = .ok (.dup, 1) := by decide +kernel
theorem dX12_takes_6 : decode cX12_takes 6 = .ok (.getfield 65, 3) := by decide +kernel
theorem dX12_takes_9 : decode cX12_takes 9 = .ok (.iconst 1, 1) := by decide +kernel
theorem dX12_takes_10 : decode cX12_takes 10 = .ok (.isub, 1) := by decide +kernel
theorem dX12_takes_11 : decode cX12_takes 11 = .ok (.putfield 65, 3) := by decide +kernel
theorem dX12_takes_14 : decode cX12_takes 14 = .ok (.return_, 1) := by decide +kernel
theorem dX12_isOver_0 : decode cX12_isOver 0 = .ok (.aload_n 0, 1) := by decide +kernel
theorem dX12_isOver_1 : decode cX12_isOver 1 = .ok (.getfield 7, 3) := by decide +kernel
theorem dX12_isOver_4 : decode cX12_isOver 4 = .ok (.iconst 1, 1) := by decide +kernel
theorem dX12_isOver_5 : decode cX12_isOver 5 = .ok (.iaload, 1) := by decide +kernel
theorem dX12_isOver_6 : decode cX12_isOver 6 = .ok (.aload_n 0, 1) := by decide +kernel
theorem dX12_isOver_7 : decode cX12_isOver 7 = .ok (.getfield 7, 3) := by decide +kernel
theorem dX12_isOver_10 : decode cX12_isOver 10 = .ok (.iconst 2, 1) := by decide +kernel
theorem dX12_isOver_11 : decode cX12_isOver 11 = .ok (.iaload, 1) := by decide +kernel
theorem dX12_isOver_12 : decode cX12_isOver 12 = .ok (.if_icmp .lt 7, 3) := by decide +kernel
theorem dX12_isOver_15 : decode cX12_isOver 15 = .ok (.iconst 1, 1) := by decide +kernel
theorem dX12_isOver_16 : decode cX12_isOver 16 = .ok (.goto 4, 3) := by decide +kernel
theorem dX12_isOver_19 : decode cX12_isOver 19 = .ok (.iconst 0, 1) := by decide +kernel
theorem dX12_isOver_20 : decode cX12_isOver 20 = .ok (.ireturn, 1) := by decide +kernel
theorem dX12_waterOf_0 : decode cX12_waterOf 0 = .ok (.iload_n 1, 1) := by decide +kernel
theorem dX12_waterOf_1 : decode cX12_waterOf 1 = .ok (.bipush 16, 2) := by decide +kernel
theorem dX12_waterOf_3 : decode cX12_waterOf 3 = .ok (.if_icmp .ge 15, 3) := by decide +kernel
theorem dX12_waterOf_6 : decode cX12_waterOf 6 = .ok (.aload_n 0, 1) := by decide +kernel
theorem dX12_waterOf_7 : decode cX12_waterOf 7 = .ok (.getfield 7, 3) := by decide +kernel
theorem dX12_waterOf_10 : decode cX12_waterOf 10 = .ok (.bipush 7, 2) := by decide +kernel
theorem dX12_waterOf_12 : decode cX12_waterOf 12 = .ok (.iload_n 1, 1) := by decide +kernel
theorem dX12_waterOf_13 : decode cX12_waterOf 13 = .ok (.iadd, 1) := by decide +kernel
theorem dX12_waterOf_14 : decode cX12_waterOf 14 = .ok (.iaload, 1) := by decide +kernel
theorem dX12_waterOf_15 : decode cX12_waterOf 15 = .ok (.goto 4, 3) := by decide +kernel
theorem dX12_waterOf_18 : decode cX12_waterOf 18 = .ok (.iconst 0, 1) := by decide +kernel
theorem dX12_waterOf_19 : decode cX12_waterOf 19 = .ok (.ireturn, 1) := by decide +kernel
theorem dX12_rise_0 : decode cX12_rise 0 = .ok (.aload_n 0, 1) := by decide +kernel
theorem dX12_rise_1 : decode cX12_rise 1 = .ok (.aload_n 0, 1) := by decide +kernel
theorem dX12_rise_2 : decode cX12_rise 2 = .ok (.getfield 7, 3) := by decide +kernel
theorem dX12_rise_5 : decode cX12_rise 5 = .ok (.iconst 1, 1) := by decide +kernel
theorem dX12_rise_6 : decode cX12_rise 6 = .ok (.iaload, 1) := by decide +kernel
theorem dX12_rise_7 : decode cX12_rise 7 = .ok (.invokevirtual 72, 3) := by decide +kernel
theorem dX12_rise_10 : decode cX12_rise 10 = .ok (.iconst 4, 1) := by decide +kernel
theorem dX12_rise_11 : decode cX12_rise 11 = .ok (.idiv, 1) := by decide +kernel
theorem dX12_rise_12 : decode cX12_rise 12 = .ok (.ireturn, 1) := by decide +kernel
theorem dX12_salt_0 : decode cX12_salt 0 = .ok (.aload_n 0, 1) := by decide +kernel
theorem dX12_salt_1 : decode cX12_salt 1 = .ok (.aload_n 0, 1) := by decide +kernel
theorem dX12_salt_2 : decode cX12_salt 2 = .ok (.getfield 7, 3) := by decide +kernel
theorem dX12_salt_5 : decode cX12_salt 5 = .ok (.iconst 1, 1) := by decide +kernel
theorem dX12_salt_6 : decode cX12_salt 6 = .ok (.iaload, 1) := by decide +kernel
theorem dX12_salt_7 : decode cX12_salt 7 = .ok (.invokevirtual 72, 3) := by decide +kernel
theorem dX12_salt_10 : decode cX12_salt 10 = .ok (.iconst 4, 1) := by decide +kernel
theorem dX12_salt_11 : decode cX12_salt 11 = .ok (.irem, 1) := by decide +kernel
theorem dX12_salt_12 : decode cX12_salt 12 = .ok (.ireturn, 1) := by decide +kernel
theorem dX12_above_0 : decode cX12_above 0 = .ok (.iload_n 0, 1) := by decide +kernel
theorem dX12_above_1 : decode cX12_above 1 = .ok (.iconst 3, 1) := by decide +kernel
theorem dX12_above_2 : decode cX12_above 2 = .ok (.if_icmp .ne 7, 3) := by decide +kernel
theorem dX12_above_5 : decode cX12_above 5 = .ok (.iconst 2, 1) := by decide +kernel
theorem dX12_above_6 : decode cX12_above 6 = .ok (.goto 13, 3) := by decide +kernel
theorem dX12_above_9 : decode cX12_above 9 = .ok (.iload_n 0, 1) := by decide +kernel
theorem dX12_above_10 : decode cX12_above 10 = .ok (.iconst 5, 1) := by decide +kernel
theorem dX12_above_11 : decode cX12_above 11 = .ok (.if_icmp .ne 7, 3) := by decide +kernel
theorem dX12_above_14 : decode cX12_above 14 = .ok (.iconst 4, 1) := by decide +kernel
theorem dX12_above_15 : decode cX12_above 15 = .ok (.goto 4, 3) := by decide +kernel
theorem dX12_above_18 : decode cX12_above 18 = .ok (.iconst 0, 1) := by decide +kernel
theorem dX12_above_19 : decode cX12_above 19 = .ok (.ireturn, 1) := by decide +kernel
theorem dX12_leaksBy_0 : decode cX12_leaksBy 0 = .ok (.iload_n 0, 1) := by decide +kernel
theorem dX12_leaksBy_1 : decode cX12_leaksBy 1 = .ok (.tableswitch 59 1 5 #[35, 37, 43, 47, 51], 35) := by decide +kernel
theorem dX12_leaksBy_36 : decode cX12_leaksBy 36 = .ok (.iconst 1, 1) := by decide +kernel
theorem dX12_leaksBy_37 : decode cX12_leaksBy 37 = .ok (.ireturn, 1) := by decide +kernel
theorem dX12_leaksBy_38 : decode cX12_leaksBy 38 = .ok (.iconst 2, 1) := by decide +kernel
theorem dX12_leaksBy_39 : decode cX12_leaksBy 39 = .ok (.iconst 2, 1) := by decide +kernel
theorem dX12_leaksBy_40 : decode cX12_leaksBy 40 = .ok (.iload_n 1, 1) := by decide +kernel
theorem dX12_leaksBy_41 : decode cX12_leaksBy 41 = .ok (.iadd, 1) := by decide +kernel
theorem dX12_leaksBy_42 : decode cX12_leaksBy 42 = .ok (.imul, 1) := by decide +kernel
theorem dX12_leaksBy_43 : decode cX12_leaksBy 43 = .ok (.ireturn, 1) := by decide +kernel
theorem dX12_leaksBy_44 : decode cX12_leaksBy 44 = .ok (.iconst 2, 1) := by decide +kernel
theorem dX12_leaksBy_45 : decode cX12_leaksBy 45 = .ok (.iload_n 1, 1) := by decide +kernel
theorem dX12_leaksBy_46 : decode cX12_leaksBy 46 = .ok (.imul, 1) := by decide +kernel
theorem dX12_leaksBy_47 : decode cX12_leaksBy 47 = .ok (.ireturn, 1) := by decide +kernel
theorem dX12_leaksBy_48 : decode cX12_leaksBy 48 = .ok (.iload_n 1, 1) := by decide +kernel
theorem dX12_leaksBy_49 : decode cX12_leaksBy 49 = .ok (.iload_n 2, 1) := by decide +kernel
theorem dX12_leaksBy_50 : decode cX12_leaksBy 50 = .ok (.imul, 1) := by decide +kernel
theorem dX12_leaksBy_51 : decode cX12_leaksBy 51 = .ok (.ireturn, 1) := by decide +kernel
theorem dX12_leaksBy_52 : decode cX12_leaksBy 52 = .ok (.iload_n 1, 1) := by decide +kernel
theorem dX12_leaksBy_53 : decode cX12_leaksBy 53 = .ok (.iload_n 2, 1) := by decide +kernel
theorem dX12_leaksBy_54 : decode cX12_leaksBy 54 = .ok (.imul, 1) := by decide +kernel
theorem dX12_leaksBy_55 : decode cX12_leaksBy 55 = .ok (.iload_n 3, 1) := by decide +kernel
theorem dX12_leaksBy_56 : decode cX12_leaksBy 56 = .ok (.iconst 4, 1) := by decide +kernel
theorem dX12_leaksBy_57 : decode cX12_leaksBy 57 = .ok (.idiv, 1) := by decide +kernel
theorem dX12_leaksBy_58 : decode cX12_leaksBy 58 = .ok (.iadd, 1) := by decide +kernel
theorem dX12_leaksBy_59 : decode cX12_leaksBy 59 = .ok (.ireturn, 1) := by decide +kernel
theorem dX12_leaksBy_60 : decode cX12_leaksBy 60 = .ok (.iconst 2, 1) := by decide +kernel
theorem dX12_leaksBy_61 : decode cX12_leaksBy 61 = .ok (.iload_n 1, 1) := by decide +kernel
theorem dX12_leaksBy_62 : decode cX12_leaksBy 62 = .ok (.iadd, 1) := by decide +kernel
theorem dX12_leaksBy_63 : decode cX12_leaksBy 63 = .ok (.ireturn, 1) := by decide +kernel
theorem dX12_floatsBy_0 : decode cX12_floatsBy 0 = .ok (.bipush 9, 2) := by decide +kernel
theorem dX12_floatsBy_2 : decode cX12_floatsBy 2 = .ok (.iload_n 1, 1) := by decide +kernel
theorem dX12_floatsBy_3 : decode cX12_floatsBy 3 = .ok (.bipush 11, 2) := by decide +kernel
theorem dX12_floatsBy_5 : decode cX12_floatsBy 5 = .ok (.idiv, 1) := by decide +kernel
theorem dX12_floatsBy_6 : decode cX12_floatsBy 6 = .ok (.isub, 1) := by decide +kernel
theorem dX12_floatsBy_7 : decode cX12_floatsBy 7 = .ok (.iconst 0, 1) := by decide +kernel
theorem dX12_floatsBy_8 : decode cX12_floatsBy 8 = .ok (.bipush 99, 2) := by decide +kernel
theorem dX12_floatsBy_10 : decode cX12_floatsBy 10 = .ok (.invokestatic 76, 3) := by decide +kernel
theorem dX12_floatsBy_13 : decode cX12_floatsBy 13 = .ok (.istore 4, 2) := by decide +kernel
theorem dX12_floatsBy_15 : decode cX12_floatsBy 15 = .ok (.iload_n 0, 1) := by decide +kernel
theorem dX12_floatsBy_16 : decode cX12_floatsBy 16 = .ok (.tableswitch 74 1 5 #[36, 38, 43, 52, 59], 36) := by decide +kernel
theorem dX12_floatsBy_52 : decode cX12_floatsBy 52 = .ok (.iconst 0, 1) := by decide +kernel
theorem dX12_floatsBy_53 : decode cX12_floatsBy 53 = .ok (.ireturn, 1) := by decide +kernel
theorem dX12_floatsBy_54 : decode cX12_floatsBy 54 = .ok (.iload 4, 2) := by decide +kernel
theorem dX12_floatsBy_56 : decode cX12_floatsBy 56 = .ok (.iconst 2, 1) := by decide +kernel
theorem dX12_floatsBy_57 : decode cX12_floatsBy 57 = .ok (.idiv, 1) := by decide +kernel
theorem dX12_floatsBy_58 : decode cX12_floatsBy 58 = .ok (.ireturn, 1) := by decide +kernel
theorem dX12_floatsBy_59 : decode cX12_floatsBy 59 = .ok (.iload 4, 2) := by decide +kernel
theorem dX12_floatsBy_61 : decode cX12_floatsBy 61 = .ok (.iconst 2, 1) := by decide +kernel
theorem dX12_floatsBy_62 : decode cX12_floatsBy 62 = .ok (.idiv, 1) := by decide +kernel
theorem dX12_floatsBy_63 : decode cX12_floatsBy 63 = .ok (.iload_n 2, 1) := by decide +kernel
theorem dX12_floatsBy_64 : decode cX12_floatsBy 64 = .ok (.iconst 3, 1) := by decide +kernel
theorem dX12_floatsBy_65 : decode cX12_floatsBy 65 = .ok (.idiv, 1) := by decide +kernel
theorem dX12_floatsBy_66 : decode cX12_floatsBy 66 = .ok (.iadd, 1) := by decide +kernel
theorem dX12_floatsBy_67 : decode cX12_floatsBy 67 = .ok (.ireturn, 1) := by decide +kernel
theorem dX12_floatsBy_68 : decode cX12_floatsBy 68 = .ok (.iload 4, 2) := by decide +kernel
theorem dX12_floatsBy_70 : decode cX12_floatsBy 70 = .ok (.iload_n 2, 1) := by decide +kernel
theorem dX12_floatsBy_71 : decode cX12_floatsBy 71 = .ok (.iconst 2, 1) := by decide +kernel
theorem dX12_floatsBy_72 : decode cX12_floatsBy 72 = .ok (.idiv, 1) := by decide +kernel
theorem dX12_floatsBy_73 : decode cX12_floatsBy 73 = .ok (.iadd, 1) := by decide +kernel
theorem dX12_floatsBy_74 : decode cX12_floatsBy 74 = .ok (.ireturn, 1) := by decide +kernel
theorem dX12_floatsBy_75 : decode cX12_floatsBy 75 = .ok (.iload 4, 2) := by decide +kernel
theorem dX12_floatsBy_77 : decode cX12_floatsBy 77 = .ok (.iload_n 2, 1) := by decide +kernel
theorem dX12_floatsBy_78 : decode cX12_floatsBy 78 = .ok (.iconst 2, 1) := by decide +kernel
theorem dX12_floatsBy_79 : decode cX12_floatsBy 79 = .ok (.idiv, 1) := by decide +kernel
theorem dX12_floatsBy_80 : decode cX12_floatsBy 80 = .ok (.iadd, 1) := by decide +kernel
theorem dX12_floatsBy_81 : decode cX12_floatsBy 81 = .ok (.iload_n 3, 1) := by decide +kernel
theorem dX12_floatsBy_82 : decode cX12_floatsBy 82 = .ok (.iadd, 1) := by decide +kernel
theorem dX12_floatsBy_83 : decode cX12_floatsBy 83 = .ok (.iconst 0, 1) := by decide +kernel
theorem dX12_floatsBy_84 : decode cX12_floatsBy 84 = .ok (.bipush 9, 2) := by decide +kernel
theorem dX12_floatsBy_86 : decode cX12_floatsBy 86 = .ok (.invokestatic 76, 3) := by decide +kernel
theorem dX12_floatsBy_89 : decode cX12_floatsBy 89 = .ok (.ireturn, 1) := by decide +kernel
theorem dX12_floatsBy_90 : decode cX12_floatsBy 90 = .ok (.iload 4, 2) := by decide +kernel
theorem dX12_floatsBy_92 : decode cX12_floatsBy 92 = .ok (.ireturn, 1) := by decide +kernel
theorem dX12_stakedBelow_0 : decode cX12_stakedBelow 0 = .ok (.iconst 0, 1) := by decide +kernel
theorem dX12_stakedBelow_1 : decode cX12_stakedBelow 1 = .ok (.istore_n 2, 1) := by decide +kernel
theorem dX12_stakedBelow_2 : decode cX12_stakedBelow 2 = .ok (.iconst 0, 1) := by decide +kernel
theorem dX12_stakedBelow_3 : decode cX12_stakedBelow 3 = .ok (.istore_n 3, 1) := by decide +kernel
theorem dX12_stakedBelow_4 : decode cX12_stakedBelow 4 = .ok (.iload_n 3, 1) := by decide +kernel
theorem dX12_stakedBelow_5 : decode cX12_stakedBelow 5 = .ok (.aload_n 0, 1) := by decide +kernel
theorem dX12_stakedBelow_6 : decode cX12_stakedBelow 6 = .ok (.getfield 7, 3) := by decide +kernel
theorem dX12_stakedBelow_9 : decode cX12_stakedBelow 9 = .ok (.iconst 0, 1) := by decide +kernel
theorem dX12_stakedBelow_10 : decode cX12_stakedBelow 10 = .ok (.iaload, 1) := by decide +kernel
theorem dX12_stakedBelow_11 : decode cX12_stakedBelow 11 = .ok (.if_icmp .ge 44, 3) := by decide +kernel
theorem dX12_stakedBelow_14 : decode cX12_stakedBelow 14 = .ok (.iload_n 2, 1) := by decide +kernel
theorem dX12_stakedBelow_15 : decode cX12_stakedBelow 15 = .ok (.aload_n 0, 1) := by decide +kernel
theorem dX12_stakedBelow_16 : decode cX12_stakedBelow 16 = .ok (.iload_n 3, 1) := by decide +kernel
theorem dX12_stakedBelow_17 : decode cX12_stakedBelow 17 = .ok (.iconst 4, 1) := by decide +kernel
theorem dX12_stakedBelow_18 : decode cX12_stakedBelow 18 = .ok (.invokevirtual 80, 3) := by decide +kernel
theorem dX12_stakedBelow_21 : decode cX12_stakedBelow 21 = .ok (.iconst 1, 1) := by decide +kernel
theorem dX12_stakedBelow_22 : decode cX12_stakedBelow 22 = .ok (.if_icmp .ne 24, 3) := by decide +kernel
theorem dX12_stakedBelow_25 : decode cX12_stakedBelow 25 = .ok (.aload_n 0, 1) := by decide +kernel
theorem dX12_stakedBelow_26 : decode cX12_stakedBelow 26 = .ok (.iload_n 3, 1) := by decide +kernel
theorem dX12_stakedBelow_27 : decode cX12_stakedBelow 27 = .ok (.iconst 3, 1) := by decide +kernel
theorem dX12_stakedBelow_28 : decode cX12_stakedBelow 28 = .ok (.invokevirtual 80, 3) := by decide +kernel
theorem dX12_stakedBelow_31 : decode cX12_stakedBelow 31 = .ok (.aload_n 0, 1) := by decide +kernel
theorem dX12_stakedBelow_32 : decode cX12_stakedBelow 32 = .ok (.iload_n 1, 1) := by decide +kernel
theorem dX12_stakedBelow_33 : decode cX12_stakedBelow 33 = .ok (.iconst 3, 1) := by decide +kernel
theorem dX12_stakedBelow_34 : decode cX12_stakedBelow 34 = .ok (.invokevirtual 80, 3) := by decide +kernel
theorem dX12_stakedBelow_37 : decode cX12_stakedBelow 37 = .ok (.iconst 1, 1) := by decide +kernel
theorem dX12_stakedBelow_38 : decode cX12_stakedBelow 38 = .ok (.isub, 1) := by decide +kernel
theorem dX12_stakedBelow_39 : decode cX12_stakedBelow 39 = .ok (.if_icmp .ne 7, 3) := by decide +kernel
theorem dX12_stakedBelow_42 : decode cX12_stakedBelow 42 = .ok (.iconst 1, 1) := by decide +kernel
theorem dX12_stakedBelow_43 : decode cX12_stakedBelow 43 = .ok (.goto 4, 3) := by decide +kernel
theorem dX12_stakedBelow_46 : decode cX12_stakedBelow 46 = .ok (.iconst 0, 1) := by decide +kernel
theorem dX12_stakedBelow_47 : decode cX12_stakedBelow 47 = .ok (.iadd, 1) := by decide +kernel
theorem dX12_stakedBelow_48 : decode cX12_stakedBelow 48 = .ok (.istore_n 2, 1) := by decide +kernel
theorem dX12_stakedBelow_49 : decode cX12_stakedBelow 49 = .ok (.iinc 3 1, 3) := by decide +kernel
theorem dX12_stakedBelow_52 : decode cX12_stakedBelow 52 = .ok (.goto (-48), 3) := by decide +kernel
theorem dX12_stakedBelow_55 : decode cX12_stakedBelow 55 = .ok (.iload_n 2, 1) := by decide +kernel
theorem dX12_stakedBelow_56 : decode cX12_stakedBelow 56 = .ok (.ireturn, 1) := by decide +kernel
theorem dX12_leaks_0 : decode cX12_leaks 0 = .ok (.aload_n 0, 1) := by decide +kernel
theorem dX12_leaks_1 : decode cX12_leaks 1 = .ok (.iload_n 1, 1) := by decide +kernel
theorem dX12_leaks_2 : decode cX12_leaks 2 = .ok (.iconst 0, 1) := by decide +kernel
theorem dX12_leaks_3 : decode cX12_leaks 3 = .ok (.invokevirtual 80, 3) := by decide +kernel
theorem dX12_leaks_6 : decode cX12_leaks 6 = .ok (.aload_n 0, 1) := by decide +kernel
theorem dX12_leaks_7 : decode cX12_leaks 7 = .ok (.invokevirtual 84, 3) := by decide +kernel
theorem dX12_leaks_10 : decode cX12_leaks 10 = .ok (.aload_n 0, 1) := by decide +kernel
theorem dX12_leaks_11 : decode cX12_leaks 11 = .ok (.invokevirtual 88, 3) := by decide +kernel
theorem dX12_leaks_14 : decode cX12_leaks 14 = .ok (.aload_n 0, 1) := by decide +kernel
theorem dX12_leaks_15 : decode cX12_leaks 15 = .ok (.getfield 7, 3) := by decide +kernel
theorem dX12_leaks_18 : decode cX12_leaks 18 = .ok (.iconst 1, 1) := by decide +kernel
theorem dX12_leaks_19 : decode cX12_leaks 19 = .ok (.iaload, 1) := by decide +kernel
theorem dX12_leaks_20 : decode cX12_leaks 20 = .ok (.invokestatic 91, 3) := by decide +kernel
theorem dX12_leaks_23 : decode cX12_leaks 23 = .ok (.aload_n 0, 1) := by decide +kernel
theorem dX12_leaks_24 : decode cX12_leaks 24 = .ok (.getfield 7, 3) := by decide +kernel
theorem dX12_leaks_27 : decode cX12_leaks 27 = .ok (.bipush 29, 2) := by decide +kernel
theorem dX12_leaks_29 : decode cX12_leaks 29 = .ok (.aload_n 0, 1) := by decide +kernel
theorem dX12_leaks_30 : decode cX12_leaks 30 = .ok (.iload_n 1, 1) := by decide +kernel
theorem dX12_leaks_31 : decode cX12_leaks 31 = .ok (.iconst 3, 1) := by decide +kernel
theorem dX12_leaks_32 : decode cX12_leaks 32 = .ok (.invokevirtual 80, 3) := by decide +kernel
theorem dX12_leaks_35 : decode cX12_leaks 35 = .ok (.iadd, 1) := by decide +kernel
theorem dX12_leaks_36 : decode cX12_leaks 36 = .ok (.iaload, 1) := by decide +kernel
theorem dX12_leaks_37 : decode cX12_leaks 37 = .ok (.iadd, 1) := by decide +kernel
theorem dX12_leaks_38 : decode cX12_leaks 38 = .ok (.iconst 2, 1) := by decide +kernel
theorem dX12_leaks_39 : decode cX12_leaks 39 = .ok (.aload_n 0, 1) := by decide +kernel
theorem dX12_leaks_40 : decode cX12_leaks 40 = .ok (.iload_n 1, 1) := by decide +kernel
theorem dX12_leaks_41 : decode cX12_leaks 41 = .ok (.invokevirtual 95, 3) := by decide +kernel
theorem dX12_leaks_44 : decode cX12_leaks 44 = .ok (.imul, 1) := by decide +kernel
theorem dX12_leaks_45 : decode cX12_leaks 45 = .ok (.isub, 1) := by decide +kernel
theorem dX12_leaks_46 : decode cX12_leaks 46 = .ok (.iconst 0, 1) := by decide +kernel
theorem dX12_leaks_47 : decode cX12_leaks 47 = .ok (.sipush 361, 3) := by decide +kernel
theorem dX12_leaks_50 : decode cX12_leaks 50 = .ok (.invokestatic 76, 3) := by decide +kernel
theorem dX12_leaks_53 : decode cX12_leaks 53 = .ok (.ireturn, 1) := by decide +kernel
theorem dX12_floats_0 : decode cX12_floats 0 = .ok (.aload_n 0, 1) := by decide +kernel
theorem dX12_floats_1 : decode cX12_floats 1 = .ok (.iload_n 1, 1) := by decide +kernel
theorem dX12_floats_2 : decode cX12_floats 2 = .ok (.iconst 0, 1) := by decide +kernel
theorem dX12_floats_3 : decode cX12_floats 3 = .ok (.invokevirtual 80, 3) := by decide +kernel
theorem dX12_floats_6 : decode cX12_floats 6 = .ok (.aload_n 0, 1) := by decide +kernel
theorem dX12_floats_7 : decode cX12_floats 7 = .ok (.iload_n 1, 1) := by decide +kernel
theorem dX12_floats_8 : decode cX12_floats 8 = .ok (.iconst 1, 1) := by decide +kernel
theorem dX12_floats_9 : decode cX12_floats 9 = .ok (.invokevirtual 80, 3) := by decide +kernel
theorem dX12_floats_12 : decode cX12_floats 12 = .ok (.aload_n 0, 1) := by decide +kernel
theorem dX12_floats_13 : decode cX12_floats 13 = .ok (.iload_n 1, 1) := by decide +kernel
theorem dX12_floats_14 : decode cX12_floats 14 = .ok (.iconst 2, 1) := by decide +kernel
theorem dX12_floats_15 : decode cX12_floats 15 = .ok (.invokevirtual 80, 3) := by decide +kernel
theorem dX12_floats_18 : decode cX12_floats 18 = .ok (.iload_n 1, 1) := by decide +kernel
theorem dX12_floats_19 : decode cX12_floats 19 = .ok (.invokestatic 98, 3) := by decide +kernel
theorem dX12_floats_22 : decode cX12_floats 22 = .ok (.ireturn, 1) := by decide +kernel
theorem dX12_pays_0 : decode cX12_pays 0 = .ok (.aload_n 0, 1) := by decide +kernel
theorem dX12_pays_1 : decode cX12_pays 1 = .ok (.iload_n 1, 1) := by decide +kernel
theorem dX12_pays_2 : decode cX12_pays 2 = .ok (.iconst 4, 1) := by decide +kernel
theorem dX12_pays_3 : decode cX12_pays 3 = .ok (.invokevirtual 80, 3) := by decide +kernel
theorem dX12_pays_6 : decode cX12_pays 6 = .ok (.ifCond .ne 45, 3) := by decide +kernel
theorem dX12_pays_9 : decode cX12_pays 9 = .ok (.aload_n 0, 1) := by decide +kernel
theorem dX12_pays_10 : decode cX12_pays 10 = .ok (.iload_n 1, 1) := by decide +kernel
theorem dX12_pays_11 : decode cX12_pays 11 = .ok (.iconst 1, 1) := by decide +kernel
theorem dX12_pays_12 : decode cX12_pays 12 = .ok (.invokevirtual 80, 3) := by decide +kernel
theorem dX12_pays_15 : decode cX12_pays 15 = .ok (.ifCond .le 36, 3) := by decide +kernel
theorem dX12_pays_18 : decode cX12_pays 18 = .ok (.aload_n 0, 1) := by decide +kernel
theorem dX12_pays_19 : decode cX12_pays 19 = .ok (.iload_n 1, 1) := by decide +kernel
theorem dX12_pays_20 : decode cX12_pays 20 = .ok (.invokevirtual 101, 3) := by decide +kernel
theorem dX12_pays_23 : decode cX12_pays 23 = .ok (.aload_n 0, 1) := by decide +kernel
theorem dX12_pays_24 : decode cX12_pays 24 = .ok (.invokevirtual 84, 3) := by decide +kernel
theorem dX12_pays_27 : decode cX12_pays 27 = .ok (.iadd, 1) := by decide +kernel
theorem dX12_pays_28 : decode cX12_pays 28 = .ok (.iconst 4, 1) := by decide +kernel
theorem dX12_pays_29 : decode cX12_pays 29 = .ok (.aload_n 0, 1) := by decide +kernel
theorem dX12_pays_30 : decode cX12_pays 30 = .ok (.getfield 7, 3) := by decide +kernel
theorem dX12_pays_33 : decode cX12_pays 33 = .ok (.bipush 23, 2) := by decide +kernel
theorem dX12_pays_35 : decode cX12_pays 35 = .ok (.aload_n 0, 1) := by decide +kernel
theorem dX12_pays_36 : decode cX12_pays 36 = .ok (.iload_n 1, 1) := by decide +kernel
theorem dX12_pays_37 : decode cX12_pays 37 = .ok (.iconst 3, 1) := by decide +kernel
theorem dX12_pays_38 : decode cX12_pays 38 = .ok (.invokevirtual 80, 3) := by decide +kernel
theorem dX12_pays_41 : decode cX12_pays 41 = .ok (.iadd, 1) := by decide +kernel
theorem dX12_pays_42 : decode cX12_pays 42 = .ok (.iaload, 1) := by decide +kernel
theorem dX12_pays_43 : decode cX12_pays 43 = .ok (.iadd, 1) := by decide +kernel
theorem dX12_pays_44 : decode cX12_pays 44 = .ok (.if_icmp .gt 7, 3) := by decide +kernel
theorem dX12_pays_47 : decode cX12_pays 47 = .ok (.iconst 1, 1) := by decide +kernel
theorem dX12_pays_48 : decode cX12_pays 48 = .ok (.goto 4, 3) := by decide +kernel
theorem dX12_pays_51 : decode cX12_pays 51 = .ok (.iconst 0, 1) := by decide +kernel
theorem dX12_pays_52 : decode cX12_pays 52 = .ok (.istore_n 2, 1) := by decide +kernel
theorem dX12_pays_53 : decode cX12_pays 53 = .ok (.iload_n 2, 1) := by decide +kernel
theorem dX12_pays_54 : decode cX12_pays 54 = .ok (.ifCond .eq 17, 3) := by decide +kernel
theorem dX12_pays_57 : decode cX12_pays 57 = .ok (.iconst 3, 1) := by decide +kernel
theorem dX12_pays_58 : decode cX12_pays 58 = .ok (.aload_n 0, 1) := by decide +kernel
theorem dX12_pays_59 : decode cX12_pays 59 = .ok (.iload_n 1, 1) := by decide +kernel
theorem dX12_pays_60 : decode cX12_pays 60 = .ok (.iconst 1, 1) := by decide +kernel
theorem dX12_pays_61 : decode cX12_pays 61 = .ok (.invokevirtual 80, 3) := by decide +kernel
theorem dX12_pays_64 : decode cX12_pays 64 = .ok (.bipush 9, 2) := by decide +kernel
theorem dX12_pays_66 : decode cX12_pays 66 = .ok (.idiv, 1) := by decide +kernel
theorem dX12_pays_67 : decode cX12_pays 67 = .ok (.iadd, 1) := by decide +kernel
theorem dX12_pays_68 : decode cX12_pays 68 = .ok (.goto 4, 3) := by decide +kernel
theorem dX12_pays_71 : decode cX12_pays 71 = .ok (.iconst 0, 1) := by decide +kernel
theorem dX12_pays_72 : decode cX12_pays 72 = .ok (.ireturn, 1) := by decide +kernel
theorem dX12_factOf_0 : decode cX12_factOf 0 = .ok (.iload_n 1, 1) := by decide +kernel
theorem dX12_factOf_1 : decode cX12_factOf 1 = .ok (.tableswitch 57 0 3 #[31, 38, 45, 52], 31) := by decide +kernel
theorem dX12_factOf_32 : decode cX12_factOf 32 = .ok (.aload_n 0, 1) := by decide +kernel
theorem dX12_factOf_33 : decode cX12_factOf 33 = .ok (.getfield 7, 3) := by decide +kernel
theorem dX12_factOf_36 : decode cX12_factOf 36 = .ok (.iconst 1, 1) := by decide +kernel
theorem dX12_factOf_37 : decode cX12_factOf 37 = .ok (.iaload, 1) := by decide +kernel
theorem dX12_factOf_38 : decode cX12_factOf 38 = .ok (.ireturn, 1) := by decide +kernel
theorem dX12_factOf_39 : decode cX12_factOf 39 = .ok (.aload_n 0, 1) := by decide +kernel
theorem dX12_factOf_40 : decode cX12_factOf 40 = .ok (.iload_n 2, 1) := by decide +kernel
theorem dX12_factOf_41 : decode cX12_factOf 41 = .ok (.iconst 1, 1) := by decide +kernel
theorem dX12_factOf_42 : decode cX12_factOf 42 = .ok (.invokevirtual 80, 3) := by decide +kernel
theorem dX12_factOf_45 : decode cX12_factOf 45 = .ok (.ireturn, 1) := by decide +kernel
theorem dX12_factOf_46 : decode cX12_factOf 46 = .ok (.aload_n 0, 1) := by decide +kernel
theorem dX12_factOf_47 : decode cX12_factOf 47 = .ok (.iload_n 2, 1) := by decide +kernel
theorem dX12_factOf_48 : decode cX12_factOf 48 = .ok (.iconst 2, 1) := by decide +kernel
theorem dX12_factOf_49 : decode cX12_factOf 49 = .ok (.invokevirtual 80, 3) := by decide +kernel
theorem dX12_factOf_52 : decode cX12_factOf 52 = .ok (.ireturn, 1) := by decide +kernel
theorem dX12_factOf_53 : decode cX12_factOf 53 = .ok (.aload_n 0, 1) := by decide +kernel
theorem dX12_factOf_54 : decode cX12_factOf 54 = .ok (.invokevirtual 84, 3) := by decide +kernel
theorem dX12_factOf_57 : decode cX12_factOf 57 = .ok (.ireturn, 1) := by decide +kernel
theorem dX12_factOf_58 : decode cX12_factOf 58 = .ok (.iload_n 2, 1) := by decide +kernel
theorem dX12_factOf_59 : decode cX12_factOf 59 = .ok (.ireturn, 1) := by decide +kernel
theorem dX12_done_0 : decode cX12_done 0 = .ok (.iload_n 0, 1) := by decide +kernel
theorem dX12_done_1 : decode cX12_done 1 = .ok (.lookupswitch 80 #[(38, 76), (60, 43), (61, 54), (62, 65)], 43) := by decide +kernel
theorem dX12_done_44 : decode cX12_done 44 = .ok (.iload_n 1, 1) := by decide +kernel
theorem dX12_done_45 : decode cX12_done 45 = .ok (.iload_n 2, 1) := by decide +kernel
theorem dX12_done_46 : decode cX12_done 46 = .ok (.if_icmp .ge 7, 3) := by decide +kernel
theorem dX12_done_49 : decode cX12_done 49 = .ok (.iconst 1, 1) := by decide +kernel
theorem dX12_done_50 : decode cX12_done 50 = .ok (.goto 4, 3) := by decide +kernel
theorem dX12_done_53 : decode cX12_done 53 = .ok (.iconst 0, 1) := by decide +kernel
theorem dX12_done_54 : decode cX12_done 54 = .ok (.ireturn, 1) := by decide +kernel
theorem dX12_done_55 : decode cX12_done 55 = .ok (.iload_n 1, 1) := by decide +kernel
theorem dX12_done_56 : decode cX12_done 56 = .ok (.iload_n 2, 1) := by decide +kernel
theorem dX12_done_57 : decode cX12_done 57 = .ok (.if_icmp .ne 7, 3) := by decide +kernel
theorem dX12_done_60 : decode cX12_done 60 = .ok (.iconst 1, 1) := by decide +kernel
theorem dX12_done_61 : decode cX12_done 61 = .ok (.goto 4, 3) := by decide +kernel
theorem dX12_done_64 : decode cX12_done 64 = .ok (.iconst 0, 1) := by decide +kernel
theorem dX12_done_65 : decode cX12_done 65 = .ok (.ireturn, 1) := by decide +kernel
theorem dX12_done_66 : decode cX12_done 66 = .ok (.iload_n 1, 1) := by decide +kernel
theorem dX12_done_67 : decode cX12_done 67 = .ok (.iload_n 2, 1) := by decide +kernel
theorem dX12_done_68 : decode cX12_done 68 = .ok (.if_icmp .le 7, 3) := by decide +kernel
theorem dX12_done_71 : decode cX12_done 71 = .ok (.iconst 1, 1) := by decide +kernel
theorem dX12_done_72 : decode cX12_done 72 = .ok (.goto 4, 3) := by decide +kernel
theorem dX12_done_75 : decode cX12_done 75 = .ok (.iconst 0, 1) := by decide +kernel
theorem dX12_done_76 : decode cX12_done 76 = .ok (.ireturn, 1) := by decide +kernel
theorem dX12_done_77 : decode cX12_done 77 = .ok (.iload_n 1, 1) := by decide +kernel
theorem dX12_done_78 : decode cX12_done 78 = .ok (.iload_n 2, 1) := by decide +kernel
theorem dX12_done_79 : decode cX12_done 79 = .ok (.imul, 1) := by decide +kernel
theorem dX12_done_80 : decode cX12_done 80 = .ok (.ireturn, 1) := by decide +kernel
theorem dX12_done_81 : decode cX12_done 81 = .ok (.iload_n 1, 1) := by decide +kernel
theorem dX12_done_82 : decode cX12_done 82 = .ok (.iload_n 2, 1) := by decide +kernel
theorem dX12_done_83 : decode cX12_done 83 = .ok (.iadd, 1) := by decide +kernel
theorem dX12_done_84 : decode cX12_done 84 = .ok (.ifCond .le 7, 3) := by decide +kernel
theorem dX12_done_87 : decode cX12_done 87 = .ok (.iconst 1, 1) := by decide +kernel
theorem dX12_done_88 : decode cX12_done 88 = .ok (.goto 4, 3) := by decide +kernel
theorem dX12_done_91 : decode cX12_done 91 = .ok (.iconst 0, 1) := by decide +kernel
theorem dX12_done_92 : decode cX12_done 92 = .ok (.ireturn, 1) := by decide +kernel
theorem dX12_holds_0 : decode cX12_holds 0 = .ok (.iload_n 1, 1) := by decide +kernel
theorem dX12_holds_1 : decode cX12_holds 1 = .ok (.iload_n 2, 1) := by decide +kernel
theorem dX12_holds_2 : decode cX12_holds 2 = .ok (.if_icmp .ne 5, 3) := by decide +kernel
theorem dX12_holds_5 : decode cX12_holds 5 = .ok (.iconst 1, 1) := by decide +kernel
theorem dX12_holds_6 : decode cX12_holds 6 = .ok (.ireturn, 1) := by decide +kernel
theorem dX12_holds_7 : decode cX12_holds 7 = .ok (.iconst 0, 1) := by decide +kernel
theorem dX12_holds_8 : decode cX12_holds 8 = .ok (.istore 4, 2) := by decide +kernel
theorem dX12_holds_10 : decode cX12_holds 10 = .ok (.iload_n 1, 1) := by decide +kernel
theorem dX12_holds_11 : decode cX12_holds 11 = .ok (.istore 5, 2) := by decide +kernel
theorem dX12_holds_13 : decode cX12_holds 13 = .ok (.iload 5, 2) := by decide +kernel
theorem dX12_holds_15 : decode cX12_holds 15 = .ok (.iload_n 2, 1) := by decide +kernel
theorem dX12_holds_16 : decode cX12_holds 16 = .ok (.if_icmp .ge 134, 3) := by decide +kernel
theorem dX12_holds_19 : decode cX12_holds 19 = .ok (.aload_n 0, 1) := by decide +kernel
theorem dX12_holds_20 : decode cX12_holds 20 = .ok (.getfield 7, 3) := by decide +kernel
theorem dX12_holds_23 : decode cX12_holds 23 = .ok (.bipush 121, 2) := by decide +kernel
theorem dX12_holds_25 : decode cX12_holds 25 = .ok (.iload 5, 2) := by decide +kernel
theorem dX12_holds_27 : decode cX12_holds 27 = .ok (.iadd, 1) := by decide +kernel
theorem dX12_holds_28 : decode cX12_holds 28 = .ok (.iaload, 1) := by decide +kernel
theorem dX12_holds_29 : decode cX12_holds 29 = .ok (.istore 6, 2) := by decide +kernel
theorem dX12_holds_31 : decode cX12_holds 31 = .ok (.iload 6, 2) := by decide +kernel
theorem dX12_holds_33 : decode cX12_holds 33 = .ok (.sipush 20000, 3) := by decide +kernel
theorem dX12_holds_36 : decode cX12_holds 36 = .ok (.if_icmp .ge 40, 3) := by decide +kernel
theorem dX12_holds_39 : decode cX12_holds 39 = .ok (.aload_n 0, 1) := by decide +kernel
theorem dX12_holds_40 : decode cX12_holds 40 = .ok (.getfield 19, 3) := by decide +kernel
theorem dX12_holds_43 : decode cX12_holds 43 = .ok (.iload 4, 2) := by decide +kernel
theorem dX12_holds_45 : decode cX12_holds 45 = .ok (.iload 6, 2) := by decide +kernel
theorem dX12_holds_47 : decode cX12_holds 47 = .ok (.sipush 10000, 3) := by decide +kernel
theorem dX12_holds_50 : decode cX12_holds 50 = .ok (.if_icmp .ge 8, 3) := by decide +kernel
theorem dX12_holds_53 : decode cX12_holds 53 = .ok (.iload 6, 2) := by decide +kernel
theorem dX12_holds_55 : decode cX12_holds 55 = .ok (.goto 14, 3) := by decide +kernel
theorem dX12_holds_58 : decode cX12_holds 58 = .ok (.aload_n 0, 1) := by decide +kernel
theorem dX12_holds_59 : decode cX12_holds 59 = .ok (.iload 6, 2) := by decide +kernel
theorem dX12_holds_61 : decode cX12_holds 61 = .ok (.sipush 10000, 3) := by decide +kernel
theorem dX12_holds_64 : decode cX12_holds 64 = .ok (.isub, 1) := by decide +kernel
theorem dX12_holds_65 : decode cX12_holds 65 = .ok (.iload_n 3, 1) := by decide +kernel
theorem dX12_holds_66 : decode cX12_holds 66 = .ok (.invokevirtual 104, 3) := by decide +kernel
theorem dX12_holds_69 : decode cX12_holds 69 = .ok (.iastore, 1) := by decide +kernel
theorem dX12_holds_70 : decode cX12_holds 70 = .ok (.iinc 4 1, 3) := by decide +kernel
theorem dX12_holds_73 : decode cX12_holds 73 = .ok (.goto 71, 3) := by decide +kernel
theorem dX12_holds_76 : decode cX12_holds 76 = .ok (.iload 6, 2) := by decide +kernel
theorem dX12_holds_78 : decode cX12_holds 78 = .ok (.sipush 20033, 3) := by decide +kernel
theorem dX12_holds_81 : decode cX12_holds 81 = .ok (.if_icmp .ne 26, 3) := by decide +kernel
theorem dX12_holds_84 : decode cX12_holds 84 = .ok (.aload_n 0, 1) := by decide +kernel
theorem dX12_holds_85 : decode cX12_holds 85 = .ok (.getfield 19, 3) := by decide +kernel
theorem dX12_holds_88 : decode cX12_holds 88 = .ok (.iload 4, 2) := by decide +kernel
theorem dX12_holds_90 : decode cX12_holds 90 = .ok (.iconst 1, 1) := by decide +kernel
theorem dX12_holds_91 : decode cX12_holds 91 = .ok (.isub, 1) := by decide +kernel
theorem dX12_holds_92 : decode cX12_holds 92 = .ok (.iconst 1, 1) := by decide +kernel
theorem dX12_holds_93 : decode cX12_holds 93 = .ok (.aload_n 0, 1) := by decide +kernel
theorem dX12_holds_94 : decode cX12_holds 94 = .ok (.getfield 19, 3) := by decide +kernel
theorem dX12_holds_97 : decode cX12_holds 97 = .ok (.iload 4, 2) := by decide +kernel
theorem dX12_holds_99 : decode cX12_holds 99 = .ok (.iconst 1, 1) := by decide +kernel
theorem dX12_holds_100 : decode cX12_holds 100 = .ok (.isub, 1) := by decide +kernel
theorem dX12_holds_101 : decode cX12_holds 101 = .ok (.iaload, 1) := by decide +kernel
theorem dX12_holds_102 : decode cX12_holds 102 = .ok (.isub, 1) := by decide +kernel
theorem dX12_holds_103 : decode cX12_holds 103 = .ok (.iastore, 1) := by decide +kernel
theorem dX12_holds_104 : decode cX12_holds 104 = .ok (.goto 40, 3) := by decide +kernel
theorem dX12_holds_107 : decode cX12_holds 107 = .ok (.iinc 4 (-1), 3) := by decide +kernel
theorem dX12_holds_110 : decode cX12_holds 110 = .ok (.aload_n 0, 1) := by decide +kernel
theorem dX12_holds_111 : decode cX12_holds 111 = .ok (.getfield 19, 3) := by decide +kernel
theorem dX12_holds_114 : decode cX12_holds 114 = .ok (.iload 4, 2) := by decide +kernel
theorem dX12_holds_116 : decode cX12_holds 116 = .ok (.iconst 1, 1) := by decide +kernel
theorem dX12_holds_117 : decode cX12_holds 117 = .ok (.isub, 1) := by decide +kernel
theorem dX12_holds_118 : decode cX12_holds 118 = .ok (.iload 6, 2) := by decide +kernel
theorem dX12_holds_120 : decode cX12_holds 120 = .ok (.sipush 20000, 3) := by decide +kernel
theorem dX12_holds_123 : decode cX12_holds 123 = .ok (.isub, 1) := by decide +kernel
theorem dX12_holds_124 : decode cX12_holds 124 = .ok (.aload_n 0, 1) := by decide +kernel
theorem dX12_holds_125 : decode cX12_holds 125 = .ok (.getfield 19, 3) := by decide +kernel
theorem dX12_holds_128 : decode cX12_holds 128 = .ok (.iload 4, 2) := by decide +kernel
theorem dX12_holds_130 : decode cX12_holds 130 = .ok (.iconst 1, 1) := by decide +kernel
theorem dX12_holds_131 : decode cX12_holds 131 = .ok (.isub, 1) := by decide +kernel
theorem dX12_holds_132 : decode cX12_holds 132 = .ok (.iaload, 1) := by decide +kernel
theorem dX12_holds_133 : decode cX12_holds 133 = .ok (.aload_n 0, 1) := by decide +kernel
theorem dX12_holds_134 : decode cX12_holds 134 = .ok (.getfield 19, 3) := by decide +kernel
theorem dX12_holds_137 : decode cX12_holds 137 = .ok (.iload 4, 2) := by decide +kernel
theorem dX12_holds_139 : decode cX12_holds 139 = .ok (.iaload, 1) := by decide +kernel
theorem dX12_holds_140 : decode cX12_holds 140 = .ok (.invokestatic 107, 3) := by decide +kernel
theorem dX12_holds_143 : decode cX12_holds 143 = .ok (.iastore, 1) := by decide +kernel
theorem dX12_holds_144 : decode cX12_holds 144 = .ok (.iinc 5 1, 3) := by decide +kernel
theorem dX12_holds_147 : decode cX12_holds 147 = .ok (.goto (-134), 3) := by decide +kernel
theorem dX12_holds_150 : decode cX12_holds 150 = .ok (.aload_n 0, 1) := by decide +kernel
theorem dX12_holds_151 : decode cX12_holds 151 = .ok (.getfield 19, 3) := by decide +kernel
theorem dX12_holds_154 : decode cX12_holds 154 = .ok (.iconst 0, 1) := by decide +kernel
theorem dX12_holds_155 : decode cX12_holds 155 = .ok (.iaload, 1) := by decide +kernel
theorem dX12_holds_156 : decode cX12_holds 156 = .ok (.iconst 1, 1) := by decide +kernel
theorem dX12_holds_157 : decode cX12_holds 157 = .ok (.if_icmp .ne 7, 3) := by decide +kernel
theorem dX12_holds_160 : decode cX12_holds 160 = .ok (.iconst 1, 1) := by decide +kernel
theorem dX12_holds_161 : decode cX12_holds 161 = .ok (.goto 4, 3) := by decide +kernel
theorem dX12_holds_164 : decode cX12_holds 164 = .ok (.iconst 0, 1) := by decide +kernel
theorem dX12_holds_165 : decode cX12_holds 165 = .ok (.ireturn, 1) := by decide +kernel
theorem dX12_will_0 : decode cX12_will 0 = .ok (.iconst 0, 1) := by decide +kernel
theorem dX12_will_1 : decode cX12_will 1 = .ok (.istore_n 2, 1) := by decide +kernel
theorem dX12_will_2 : decode cX12_will 2 = .ok (.iload_n 2, 1) := by decide +kernel
theorem dX12_will_3 : decode cX12_will 3 = .ok (.aload_n 0, 1) := by decide +kernel
theorem dX12_will_4 : decode cX12_will 4 = .ok (.getfield 7, 3) := by decide +kernel
theorem dX12_will_7 : decode cX12_will 7 = .ok (.iconst 5, 1) := by decide +kernel
theorem dX12_will_8 : decode cX12_will 8 = .ok (.iaload, 1) := by decide +kernel
theorem dX12_will_9 : decode cX12_will 9 = .ok (.if_icmp .ge 96, 3) := by decide +kernel
theorem dX12_will_12 : decode cX12_will 12 = .ok (.aload_n 0, 1) := by decide +kernel
theorem dX12_will_13 : decode cX12_will 13 = .ok (.getfield 7, 3) := by decide +kernel
theorem dX12_will_16 : decode cX12_will 16 = .ok (.bipush 89, 2) := by decide +kernel
theorem dX12_will_18 : decode cX12_will 18 = .ok (.iconst 4, 1) := by decide +kernel
theorem dX12_will_19 : decode cX12_will 19 = .ok (.iload_n 2, 1) := by decide +kernel
theorem dX12_will_20 : decode cX12_will 20 = .ok (.imul, 1) := by decide +kernel
theorem dX12_will_21 : decode cX12_will 21 = .ok (.iadd, 1) := by decide +kernel
theorem dX12_will_22 : decode cX12_will 22 = .ok (.iaload, 1) := by decide +kernel
theorem dX12_will_23 : decode cX12_will 23 = .ok (.istore_n 3, 1) := by decide +kernel
theorem dX12_will_24 : decode cX12_will 24 = .ok (.iload_n 3, 1) := by decide +kernel
theorem dX12_will_25 : decode cX12_will 25 = .ok (.ifCond .eq 26, 3) := by decide +kernel
theorem dX12_will_28 : decode cX12_will 28 = .ok (.iload_n 3, 1) := by decide +kernel
theorem dX12_will_29 : decode cX12_will 29 = .ok (.aload_n 0, 1) := by decide +kernel
theorem dX12_will_30 : decode cX12_will 30 = .ok (.iload_n 1, 1) := by decide +kernel
theorem dX12_will_31 : decode cX12_will 31 = .ok (.iconst 0, 1) := by decide +kernel
theorem dX12_will_32 : decode cX12_will 32 = .ok (.invokevirtual 80, 3) := by decide +kernel
theorem dX12_will_35 : decode cX12_will 35 = .ok (.if_icmp .eq 16, 3) := by decide +kernel
theorem dX12_will_38 : decode cX12_will 38 = .ok (.iload_n 3, 1) := by decide +kernel
theorem dX12_will_39 : decode cX12_will 39 = .ok (.aload_n 0, 1) := by decide +kernel
theorem dX12_will_40 : decode cX12_will 40 = .ok (.iload_n 1, 1) := by decide +kernel
theorem dX12_will_41 : decode cX12_will 41 = .ok (.iconst 0, 1) := by decide +kernel
theorem dX12_will_42 : decode cX12_will 42 = .ok (.invokevirtual 80, 3) := by decide +kernel
theorem dX12_will_45 : decode cX12_will 45 = .ok (.invokestatic 110, 3) := by decide +kernel
theorem dX12_will_48 : decode cX12_will 48 = .ok (.if_icmp .ne 51, 3) := by decide +kernel
theorem dX12_will_51 : decode cX12_will 51 = .ok (.aload_n 0, 1) := by decide +kernel
theorem dX12_will_52 : decode cX12_will 52 = .ok (.aload_n 0, 1) := by decide +kernel
theorem dX12_will_53 : decode cX12_will 53 = .ok (.getfield 7, 3) := by decide +kernel
theorem dX12_will_56 : decode cX12_will 56 = .ok (.bipush 89, 2) := by decide +kernel
theorem dX12_will_58 : decode cX12_will 58 = .ok (.iconst 4, 1) := by decide +kernel
theorem dX12_will_59 : decode cX12_will 59 = .ok (.iload_n 2, 1) := by decide +kernel
theorem dX12_will_60 : decode cX12_will 60 = .ok (.imul, 1) := by decide +kernel
theorem dX12_will_61 : decode cX12_will 61 = .ok (.iadd, 1) := by decide +kernel
theorem dX12_will_62 : decode cX12_will 62 = .ok (.iconst 2, 1) := by decide +kernel
theorem dX12_will_63 : decode cX12_will 63 = .ok (.iadd, 1) := by decide +kernel
theorem dX12_will_64 : decode cX12_will 64 = .ok (.iaload, 1) := by decide +kernel
theorem dX12_will_65 : decode cX12_will 65 = .ok (.aload_n 0, 1) := by decide +kernel
theorem dX12_will_66 : decode cX12_will 66 = .ok (.getfield 7, 3) := by decide +kernel
theorem dX12_will_69 : decode cX12_will 69 = .ok (.bipush 89, 2) := by decide +kernel
theorem dX12_will_71 : decode cX12_will 71 = .ok (.iconst 4, 1) := by decide +kernel
theorem dX12_will_72 : decode cX12_will 72 = .ok (.iload_n 2, 1) := by decide +kernel
theorem dX12_will_73 : decode cX12_will 73 = .ok (.imul, 1) := by decide +kernel
theorem dX12_will_74 : decode cX12_will 74 = .ok (.iadd, 1) := by decide +kernel
theorem dX12_will_75 : decode cX12_will 75 = .ok (.iconst 3, 1) := by decide +kernel
theorem dX12_will_76 : decode cX12_will 76 = .ok (.iadd, 1) := by decide +kernel
theorem dX12_will_77 : decode cX12_will 77 = .ok (.iaload, 1) := by decide +kernel
theorem dX12_will_78 : decode cX12_will 78 = .ok (.iload_n 1, 1) := by decide +kernel
theorem dX12_will_79 : decode cX12_will 79 = .ok (.invokevirtual 113, 3) := by decide +kernel
theorem dX12_will_82 : decode cX12_will 82 = .ok (.ifCond .eq 17, 3) := by decide +kernel
theorem dX12_will_85 : decode cX12_will 85 = .ok (.aload_n 0, 1) := by decide +kernel
theorem dX12_will_86 : decode cX12_will 86 = .ok (.getfield 7, 3) := by decide +kernel
theorem dX12_will_89 : decode cX12_will 89 = .ok (.bipush 89, 2) := by decide +kernel
theorem dX12_will_91 : decode cX12_will 91 = .ok (.iconst 4, 1) := by decide +kernel
theorem dX12_will_92 : decode cX12_will 92 = .ok (.iload_n 2, 1) := by decide +kernel
theorem dX12_will_93 : decode cX12_will 93 = .ok (.imul, 1) := by decide +kernel
theorem dX12_will_94 : decode cX12_will 94 = .ok (.iadd, 1) := by decide +kernel
theorem dX12_will_95 : decode cX12_will 95 = .ok (.iconst 1, 1) := by decide +kernel
theorem dX12_will_96 : decode cX12_will 96 = .ok (.iadd, 1) := by decide +kernel
theorem dX12_will_97 : decode cX12_will 97 = .ok (.iaload, 1) := by decide +kernel
theorem dX12_will_98 : decode cX12_will 98 = .ok (.ireturn, 1) := by decide +kernel
theorem dX12_will_99 : decode cX12_will 99 = .ok (.iinc 2 1, 3) := by decide +kernel
theorem dX12_will_102 : decode cX12_will 102 = .ok (.goto (-100), 3) := by decide +kernel
theorem dX12_will_105 : decode cX12_will 105 = .ok (.iconst 0, 1) := by decide +kernel
theorem dX12_will_106 : decode cX12_will 106 = .ok (.ireturn, 1) := by decide +kernel
theorem dX12_isStakeable_0 : decode cX12_isStakeable 0 = .ok (.aload_n 0, 1) := by decide +kernel
theorem dX12_isStakeable_1 : decode cX12_isStakeable 1 = .ok (.iload_n 1, 1) := by decide +kernel
theorem dX12_isStakeable_2 : decode cX12_isStakeable 2 = .ok (.invokevirtual 117, 3) := by decide +kernel
theorem dX12_isStakeable_5 : decode cX12_isStakeable 5 = .ok (.ifCond .ne 15, 3) := by decide +kernel
theorem dX12_isStakeable_8 : decode cX12_isStakeable 8 = .ok (.aload_n 0, 1) := by decide +kernel
theorem dX12_isStakeable_9 : decode cX12_isStakeable 9 = .ok (.iload_n 1, 1) := by decide +kernel
theorem dX12_isStakeable_10 : decode cX12_isStakeable 10 = .ok (.invokevirtual 120, 3) := by decide +kernel
theorem dX12_isStakeable_13 : decode cX12_isStakeable 13 = .ok (.ifCond .le 7, 3) := by decide +kernel
theorem dX12_isStakeable_16 : decode cX12_isStakeable 16 = .ok (.iconst 1, 1) := by decide +kernel
theorem dX12_isStakeable_17 : decode cX12_isStakeable 17 = .ok (.goto 4, 3) := by decide +kernel
theorem dX12_isStakeable_20 : decode cX12_isStakeable 20 = .ok (.iconst 0, 1) := by decide +kernel
theorem dX12_isStakeable_21 : decode cX12_isStakeable 21 = .ok (.ireturn, 1) := by decide +kernel
theorem dX12_staked_0 : decode cX12_staked 0 = .ok (.iconst 0, 1) := by decide +kernel
theorem dX12_staked_1 : decode cX12_staked 1 = .ok (.istore_n 1, 1) := by decide +kernel
theorem dX12_staked_2 : decode cX12_staked 2 = .ok (.iconst 0, 1) := by decide +kernel
theorem dX12_staked_3 : decode cX12_staked 3 = .ok (.istore_n 2, 1) := by decide +kernel
theorem dX12_staked_4 : decode cX12_staked 4 = .ok (.iload_n 2, 1) := by decide +kernel
theorem dX12_staked_5 : decode cX12_staked 5 = .ok (.aload_n 0, 1) := by decide +kernel
theorem dX12_staked_6 : decode cX12_staked 6 = .ok (.getfield 7, 3) := by decide +kernel
theorem dX12_staked_9 : decode cX12_staked 9 = .ok (.iconst 0, 1) := by decide +kernel
theorem dX12_staked_10 : decode cX12_staked 10 = .ok (.iaload, 1) := by decide +kernel
theorem dX12_staked_11 : decode cX12_staked 11 = .ok (.if_icmp .ge 20, 3) := by decide +kernel
theorem dX12_staked_14 : decode cX12_staked 14 = .ok (.iload_n 1, 1) := by decide +kernel
theorem dX12_staked_15 : decode cX12_staked 15 = .ok (.aload_n 0, 1) := by decide +kernel
theorem dX12_staked_16 : decode cX12_staked 16 = .ok (.iload_n 2, 1) := by decide +kernel
theorem dX12_staked_17 : decode cX12_staked 17 = .ok (.iconst 4, 1) := by decide +kernel
theorem dX12_staked_18 : decode cX12_staked 18 = .ok (.invokevirtual 80, 3) := by decide +kernel
theorem dX12_staked_21 : decode cX12_staked 21 = .ok (.iload_n 2, 1) := by decide +kernel
theorem dX12_staked_22 : decode cX12_staked 22 = .ok (.ishl, 1) := by decide +kernel
theorem dX12_staked_23 : decode cX12_staked 23 = .ok (.ior, 1) := by decide +kernel
theorem dX12_staked_24 : decode cX12_staked 24 = .ok (.istore_n 1, 1) := by decide +kernel
theorem dX12_staked_25 : decode cX12_staked 25 = .ok (.iinc 2 1, 3) := by decide +kernel
theorem dX12_staked_28 : decode cX12_staked 28 = .ok (.goto (-24), 3) := by decide +kernel
theorem dX12_staked_31 : decode cX12_staked 31 = .ok (.iload_n 1, 1) := by decide +kernel
theorem dX12_staked_32 : decode cX12_staked 32 = .ok (.ireturn, 1) := by decide +kernel
theorem dX12_fillAll_0 : decode cX12_fillAll 0 = .ok (.iconst 0, 1) := by decide +kernel
theorem dX12_fillAll_1 : decode cX12_fillAll 1 = .ok (.istore_n 1, 1) := by decide +kernel
theorem dX12_fillAll_2 : decode cX12_fillAll 2 = .ok (.iconst 0, 1) := by decide +kernel
theorem dX12_fillAll_3 : decode cX12_fillAll 3 = .ok (.istore_n 2, 1) := by decide +kernel
theorem dX12_fillAll_4 : decode cX12_fillAll 4 = .ok (.iload_n 2, 1) := by decide +kernel
theorem dX12_fillAll_5 : decode cX12_fillAll 5 = .ok (.aload_n 0, 1) := by decide +kernel
theorem dX12_fillAll_6 : decode cX12_fillAll 6 = .ok (.getfield 7, 3) := by decide +kernel
theorem dX12_fillAll_9 : decode cX12_fillAll 9 = .ok (.iconst 0, 1) := by decide +kernel
theorem dX12_fillAll_10 : decode cX12_fillAll 10 = .ok (.iaload, 1) := by decide +kernel
theorem dX12_fillAll_11 : decode cX12_fillAll 11 = .ok (.if_icmp .ge 18, 3) := by decide +kernel
theorem dX12_fillAll_14 : decode cX12_fillAll 14 = .ok (.iload_n 1, 1) := by decide +kernel
theorem dX12_fillAll_15 : decode cX12_fillAll 15 = .ok (.aload_n 0, 1) := by decide +kernel
theorem dX12_fillAll_16 : decode cX12_fillAll 16 = .ok (.iload_n 2, 1) := by decide +kernel
theorem dX12_fillAll_17 : decode cX12_fillAll 17 = .ok (.iconst 1, 1) := by decide +kernel
theorem dX12_fillAll_18 : decode cX12_fillAll 18 = .ok (.invokevirtual 80, 3) := by decide +kernel
theorem dX12_fillAll_21 : decode cX12_fillAll 21 = .ok (.iadd, 1) := by decide +kernel
theorem dX12_fillAll_22 : decode cX12_fillAll 22 = .ok (.istore_n 1, 1) := by decide +kernel
theorem dX12_fillAll_23 : decode cX12_fillAll 23 = .ok (.iinc 2 1, 3) := by decide +kernel
theorem dX12_fillAll_26 : decode cX12_fillAll 26 = .ok (.goto (-22), 3) := by decide +kernel
theorem dX12_fillAll_29 : decode cX12_fillAll 29 = .ok (.iload_n 1, 1) := by decide +kernel
theorem dX12_fillAll_30 : decode cX12_fillAll 30 = .ok (.ireturn, 1) := by decide +kernel
theorem dX12_does_0 : decode cX12_does 0 = .ok (.aload_n 0, 1) := by decide +kernel
theorem dX12_does_1 : decode cX12_does 1 = .ok (.iload_n 1, 1) := by decide +kernel
theorem dX12_does_2 : decode cX12_does 2 = .ok (.invokevirtual 117, 3) := by decide +kernel
theorem dX12_does_5 : decode cX12_does 5 = .ok (.istore_n 2, 1) := by decide +kernel
theorem dX12_does_6 : decode cX12_does 6 = .ok (.iload_n 2, 1) := by decide +kernel
theorem dX12_does_7 : decode cX12_does 7 = .ok (.ifCond .ne 26, 3) := by decide +kernel
theorem dX12_does_10 : decode cX12_does 10 = .ok (.aload_n 0, 1) := by decide +kernel
theorem dX12_does_11 : decode cX12_does 11 = .ok (.iload_n 1, 1) := by decide +kernel
theorem dX12_does_12 : decode cX12_does 12 = .ok (.invokevirtual 120, 3) := by decide +kernel
theorem dX12_does_15 : decode cX12_does 15 = .ok (.istore_n 3, 1) := by decide +kernel
theorem dX12_does_16 : decode cX12_does 16 = .ok (.aload_n 0, 1) := by decide +kernel
theorem dX12_does_17 : decode cX12_does 17 = .ok (.iload_n 1, 1) := by decide +kernel
theorem dX12_does_18 : decode cX12_does 18 = .ok (.iconst 4, 1) := by decide +kernel
theorem dX12_does_19 : decode cX12_does 19 = .ok (.iload_n 3, 1) := by decide +kernel
theorem dX12_does_20 : decode cX12_does 20 = .ok (.ifCond .le 7, 3) := by decide +kernel
theorem dX12_does_23 : decode cX12_does 23 = .ok (.iconst 1, 1) := by decide +kernel
theorem dX12_does_24 : decode cX12_does 24 = .ok (.goto 4, 3) := by decide +kernel
theorem dX12_does_27 : decode cX12_does 27 = .ok (.iconst 0, 1) := by decide +kernel
theorem dX12_does_28 : decode cX12_does 28 = .ok (.invokevirtual 123, 3) := by decide +kernel
theorem dX12_does_31 : decode cX12_does 31 = .ok (.iload_n 3, 1) := by decide +kernel
theorem dX12_does_32 : decode cX12_does 32 = .ok (.ireturn, 1) := by decide +kernel
theorem dX12_does_33 : decode cX12_does 33 = .ok (.iload_n 2, 1) := by decide +kernel
theorem dX12_does_34 : decode cX12_does 34 = .ok (.iconst 2, 1) := by decide +kernel
theorem dX12_does_35 : decode cX12_does 35 = .ok (.if_icmp .ne 56, 3) := by decide +kernel
theorem dX12_does_38 : decode cX12_does 38 = .ok (.aload_n 0, 1) := by decide +kernel
theorem dX12_does_39 : decode cX12_does 39 = .ok (.iload_n 1, 1) := by decide +kernel
theorem dX12_does_40 : decode cX12_does 40 = .ok (.iconst 2, 1) := by decide +kernel
theorem dX12_does_41 : decode cX12_does 41 = .ok (.aload_n 0, 1) := by decide +kernel
theorem dX12_does_42 : decode cX12_does 42 = .ok (.iload_n 1, 1) := by decide +kernel
theorem dX12_does_43 : decode cX12_does 43 = .ok (.iconst 2, 1) := by decide +kernel
theorem dX12_does_44 : decode cX12_does 44 = .ok (.invokevirtual 80, 3) := by decide +kernel
theorem dX12_does_47 : decode cX12_does 47 = .ok (.iconst 2, 1) := by decide +kernel
theorem dX12_does_48 : decode cX12_does 48 = .ok (.iadd, 1) := by decide +kernel
theorem dX12_does_49 : decode cX12_does 49 = .ok (.iconst 0, 1) := by decide +kernel
theorem dX12_does_50 : decode cX12_does 50 = .ok (.bipush 9, 2) := by decide +kernel
theorem dX12_does_52 : decode cX12_does 52 = .ok (.invokestatic 76, 3) := by decide +kernel
theorem dX12_does_55 : decode cX12_does 55 = .ok (.invokevirtual 123, 3) := by decide +kernel
theorem dX12_does_58 : decode cX12_does 58 = .ok (.aload_n 0, 1) := by decide +kernel
theorem dX12_does_59 : decode cX12_does 59 = .ok (.iload_n 1, 1) := by decide +kernel
theorem dX12_does_60 : decode cX12_does 60 = .ok (.iconst 1, 1) := by decide +kernel
theorem dX12_does_61 : decode cX12_does 61 = .ok (.aload_n 0, 1) := by decide +kernel
theorem dX12_does_62 : decode cX12_does 62 = .ok (.iload_n 1, 1) := by decide +kernel
theorem dX12_does_63 : decode cX12_does 63 = .ok (.iconst 1, 1) := by decide +kernel
theorem dX12_does_64 : decode cX12_does 64 = .ok (.invokevirtual 80, 3) := by decide +kernel
theorem dX12_does_67 : decode cX12_does 67 = .ok (.iconst 3, 1) := by decide +kernel
theorem dX12_does_68 : decode cX12_does 68 = .ok (.iadd, 1) := by decide +kernel
theorem dX12_does_69 : decode cX12_does 69 = .ok (.iconst 0, 1) := by decide +kernel
theorem dX12_does_70 : decode cX12_does 70 = .ok (.bipush 99, 2) := by decide +kernel
theorem dX12_does_72 : decode cX12_does 72 = .ok (.invokestatic 76, 3) := by decide +kernel
theorem dX12_does_75 : decode cX12_does 75 = .ok (.invokevirtual 123, 3) := by decide +kernel
theorem dX12_does_78 : decode cX12_does 78 = .ok (.aload_n 0, 1) := by decide +kernel
theorem dX12_does_79 : decode cX12_does 79 = .ok (.invokevirtual 88, 3) := by decide +kernel
theorem dX12_does_82 : decode cX12_does 82 = .ok (.ifCond .ne 7, 3) := by decide +kernel
theorem dX12_does_85 : decode cX12_does 85 = .ok (.iconst 1, 1) := by decide +kernel
theorem dX12_does_86 : decode cX12_does 86 = .ok (.goto 4, 3) := by decide +kernel
theorem dX12_does_89 : decode cX12_does 89 = .ok (.iconst 0, 1) := by decide +kernel
theorem dX12_does_90 : decode cX12_does 90 = .ok (.ireturn, 1) := by decide +kernel
theorem dX12_does_91 : decode cX12_does 91 = .ok (.iconst 0, 1) := by decide +kernel
theorem dX12_does_92 : decode cX12_does 92 = .ok (.ireturn, 1) := by decide +kernel
theorem dX12_tideGoes_0 : decode cX12_tideGoes 0 = .ok (.iload_n 1, 1) := by decide +kernel
theorem dX12_tideGoes_1 : decode cX12_tideGoes 1 = .ok (.ifCond .le 24, 3) := by decide +kernel
theorem dX12_tideGoes_4 : decode cX12_tideGoes 4 = .ok (.aload_n 0, 1) := by decide +kernel
theorem dX12_tideGoes_5 : decode cX12_tideGoes 5 = .ok (.iload_n 1, 1) := by decide +kernel
theorem dX12_tideGoes_6 : decode cX12_tideGoes 6 = .ok (.iconst 1, 1) := by decide +kernel
theorem dX12_tideGoes_7 : decode cX12_tideGoes 7 = .ok (.isub, 1) := by decide +kernel
theorem dX12_tideGoes_8 : decode cX12_tideGoes 8 = .ok (.iconst 4, 1) := by decide +kernel
theorem dX12_tideGoes_9 : decode cX12_tideGoes 9 = .ok (.invokevirtual 80, 3) := by decide +kernel
theorem dX12_tideGoes_12 : decode cX12_tideGoes 12 = .ok (.ifCond .ne 13, 3) := by decide +kernel
theorem dX12_tideGoes_15 : decode cX12_tideGoes 15 = .ok (.aload_n 0, 1) := by decide +kernel
theorem dX12_tideGoes_16 : decode cX12_tideGoes 16 = .ok (.iload_n 1, 1) := by decide +kernel
theorem dX12_tideGoes_17 : decode cX12_tideGoes 17 = .ok (.iconst 1, 1) := by decide +kernel
theorem dX12_tideGoes_18 : decode cX12_tideGoes 18 = .ok (.isub, 1) := by decide +kernel
theorem dX12_tideGoes_19 : decode cX12_tideGoes 19 = .ok (.invokevirtual 127, 3) := by decide +kernel
theorem dX12_tideGoes_22 : decode cX12_tideGoes 22 = .ok (.goto 4, 3) := by decide +kernel
theorem dX12_tideGoes_25 : decode cX12_tideGoes 25 = .ok (.iconst 0, 1) := by decide +kernel
theorem dX12_tideGoes_26 : decode cX12_tideGoes 26 = .ok (.istore_n 2, 1) := by decide +kernel
theorem dX12_tideGoes_27 : decode cX12_tideGoes 27 = .ok (.iconst 0, 1) := by decide +kernel
theorem dX12_tideGoes_28 : decode cX12_tideGoes 28 = .ok (.istore_n 3, 1) := by decide +kernel
theorem dX12_tideGoes_29 : decode cX12_tideGoes 29 = .ok (.iload_n 3, 1) := by decide +kernel
theorem dX12_tideGoes_30 : decode cX12_tideGoes 30 = .ok (.aload_n 0, 1) := by decide +kernel
theorem dX12_tideGoes_31 : decode cX12_tideGoes 31 = .ok (.getfield 7, 3) := by decide +kernel
theorem dX12_tideGoes_34 : decode cX12_tideGoes 34 = .ok (.iconst 0, 1) := by decide +kernel
theorem dX12_tideGoes_35 : decode cX12_tideGoes 35 = .ok (.iaload, 1) := by decide +kernel
theorem dX12_tideGoes_36 : decode cX12_tideGoes 36 = .ok (.if_icmp .ge 40, 3) := by decide +kernel
theorem dX12_tideGoes_39 : decode cX12_tideGoes 39 = .ok (.aload_n 0, 1) := by decide +kernel
theorem dX12_tideGoes_40 : decode cX12_tideGoes 40 = .ok (.getfield 22, 3) := by decide +kernel
theorem dX12_tideGoes_43 : decode cX12_tideGoes 43 = .ok (.iload_n 3, 1) := by decide +kernel
theorem dX12_tideGoes_44 : decode cX12_tideGoes 44 = .ok (.aload_n 0, 1) := by decide +kernel
theorem dX12_tideGoes_45 : decode cX12_tideGoes 45 = .ok (.iload_n 3, 1) := by decide +kernel
theorem dX12_tideGoes_46 : decode cX12_tideGoes 46 = .ok (.iconst 4, 1) := by decide +kernel
theorem dX12_tideGoes_47 : decode cX12_tideGoes 47 = .ok (.invokevirtual 80, 3) := by decide +kernel
theorem dX12_tideGoes_50 : decode cX12_tideGoes 50 = .ok (.iconst 1, 1) := by decide +kernel
theorem dX12_tideGoes_51 : decode cX12_tideGoes 51 = .ok (.if_icmp .ne 13, 3) := by decide +kernel
theorem dX12_tideGoes_54 : decode cX12_tideGoes 54 = .ok (.aload_n 0, 1) := by decide +kernel
theorem dX12_tideGoes_55 : decode cX12_tideGoes 55 = .ok (.iload_n 3, 1) := by decide +kernel
theorem dX12_tideGoes_56 : decode cX12_tideGoes 56 = .ok (.invokevirtual 130, 3) := by decide +kernel
theorem dX12_tideGoes_59 : decode cX12_tideGoes 59 = .ok (.iconst 3, 1) := by decide +kernel
theorem dX12_tideGoes_60 : decode cX12_tideGoes 60 = .ok (.idiv, 1) := by decide +kernel
theorem dX12_tideGoes_61 : decode cX12_tideGoes 61 = .ok (.goto 8, 3) := by decide +kernel
theorem dX12_tideGoes_64 : decode cX12_tideGoes 64 = .ok (.aload_n 0, 1) := by decide +kernel
theorem dX12_tideGoes_65 : decode cX12_tideGoes 65 = .ok (.iload_n 3, 1) := by decide +kernel
theorem dX12_tideGoes_66 : decode cX12_tideGoes 66 = .ok (.invokevirtual 130, 3) := by decide +kernel
theorem dX12_tideGoes_69 : decode cX12_tideGoes 69 = .ok (.iastore, 1) := by decide +kernel
theorem dX12_tideGoes_70 : decode cX12_tideGoes 70 = .ok (.iinc 3 1, 3) := by decide +kernel
theorem dX12_tideGoes_73 : decode cX12_tideGoes 73 = .ok (.goto (-44), 3) := by decide +kernel
theorem dX12_tideGoes_76 : decode cX12_tideGoes 76 = .ok (.iconst 0, 1) := by decide +kernel
theorem dX12_tideGoes_77 : decode cX12_tideGoes 77 = .ok (.istore_n 3, 1) := by decide +kernel
theorem dX12_tideGoes_78 : decode cX12_tideGoes 78 = .ok (.iload_n 3, 1) := by decide +kernel
theorem dX12_tideGoes_79 : decode cX12_tideGoes 79 = .ok (.aload_n 0, 1) := by decide +kernel
theorem dX12_tideGoes_80 : decode cX12_tideGoes 80 = .ok (.getfield 7, 3) := by decide +kernel
theorem dX12_tideGoes_83 : decode cX12_tideGoes 83 = .ok (.iconst 0, 1) := by decide +kernel
theorem dX12_tideGoes_84 : decode cX12_tideGoes 84 = .ok (.iaload, 1) := by decide +kernel
theorem dX12_tideGoes_85 : decode cX12_tideGoes 85 = .ok (.if_icmp .ge 53, 3) := by decide +kernel
theorem dX12_tideGoes_88 : decode cX12_tideGoes 88 = .ok (.aload_n 0, 1) := by decide +kernel
theorem dX12_tideGoes_89 : decode cX12_tideGoes 89 = .ok (.iload_n 3, 1) := by decide +kernel
theorem dX12_tideGoes_90 : decode cX12_tideGoes 90 = .ok (.iconst 1, 1) := by decide +kernel
theorem dX12_tideGoes_91 : decode cX12_tideGoes 91 = .ok (.aload_n 0, 1) := by decide +kernel
theorem dX12_tideGoes_92 : decode cX12_tideGoes 92 = .ok (.iload_n 3, 1) := by decide +kernel
theorem dX12_tideGoes_93 : decode cX12_tideGoes 93 = .ok (.iconst 1, 1) := by decide +kernel
theorem dX12_tideGoes_94 : decode cX12_tideGoes 94 = .ok (.invokevirtual 80, 3) := by decide +kernel
theorem dX12_tideGoes_97 : decode cX12_tideGoes 97 = .ok (.aload_n 0, 1) := by decide +kernel
theorem dX12_tideGoes_98 : decode cX12_tideGoes 98 = .ok (.getfield 22, 3) := by decide +kernel
theorem dX12_tideGoes_101 : decode cX12_tideGoes 101 = .ok (.iload_n 3, 1) := by decide +kernel
theorem dX12_tideGoes_102 : decode cX12_tideGoes 102 = .ok (.iaload, 1) := by decide +kernel
theorem dX12_tideGoes_103 : decode cX12_tideGoes 103 = .ok (.isub, 1) := by decide +kernel
theorem dX12_tideGoes_104 : decode cX12_tideGoes 104 = .ok (.iconst 0, 1) := by decide +kernel
theorem dX12_tideGoes_105 : decode cX12_tideGoes 105 = .ok (.bipush 99, 2) := by decide +kernel
theorem dX12_tideGoes_107 : decode cX12_tideGoes 107 = .ok (.invokestatic 76, 3) := by decide +kernel
theorem dX12_tideGoes_110 : decode cX12_tideGoes 110 = .ok (.invokevirtual 123, 3) := by decide +kernel
theorem dX12_tideGoes_113 : decode cX12_tideGoes 113 = .ok (.iload_n 2, 1) := by decide +kernel
theorem dX12_tideGoes_114 : decode cX12_tideGoes 114 = .ok (.aload_n 0, 1) := by decide +kernel
theorem dX12_tideGoes_115 : decode cX12_tideGoes 115 = .ok (.iload_n 3, 1) := by decide +kernel
theorem dX12_tideGoes_116 : decode cX12_tideGoes 116 = .ok (.iconst 4, 1) := by decide +kernel
theorem dX12_tideGoes_117 : decode cX12_tideGoes 117 = .ok (.invokevirtual 80, 3) := by decide +kernel
theorem dX12_tideGoes_120 : decode cX12_tideGoes 120 = .ok (.aload_n 0, 1) := by decide +kernel
theorem dX12_tideGoes_121 : decode cX12_tideGoes 121 = .ok (.iload_n 3, 1) := by decide +kernel
theorem dX12_tideGoes_122 : decode cX12_tideGoes 122 = .ok (.iconst 1, 1) := by decide +kernel
theorem dX12_tideGoes_123 : decode cX12_tideGoes 123 = .ok (.invokevirtual 80, 3) := by decide +kernel
theorem dX12_tideGoes_126 : decode cX12_tideGoes 126 = .ok (.bipush 30, 2) := by decide +kernel
theorem dX12_tideGoes_128 : decode cX12_tideGoes 128 = .ok (.idiv, 1) := by decide +kernel
theorem dX12_tideGoes_129 : decode cX12_tideGoes 129 = .ok (.imul, 1) := by decide +kernel
theorem dX12_tideGoes_130 : decode cX12_tideGoes 130 = .ok (.iadd, 1) := by decide +kernel
theorem dX12_tideGoes_131 : decode cX12_tideGoes 131 = .ok (.istore_n 2, 1) := by decide +kernel
theorem dX12_tideGoes_132 : decode cX12_tideGoes 132 = .ok (.iinc 3 1, 3) := by decide +kernel
theorem dX12_tideGoes_135 : decode cX12_tideGoes 135 = .ok (.goto (-57), 3) := by decide +kernel
theorem dX12_tideGoes_138 : decode cX12_tideGoes 138 = .ok (.aload_n 0, 1) := by decide +kernel
theorem dX12_tideGoes_139 : decode cX12_tideGoes 139 = .ok (.getfield 7, 3) := by decide +kernel
theorem dX12_tideGoes_142 : decode cX12_tideGoes 142 = .ok (.iconst 3, 1) := by decide +kernel
theorem dX12_tideGoes_143 : decode cX12_tideGoes 143 = .ok (.dup2, 1) := by decide +kernel
theorem dX12_tideGoes_144 : decode cX12_tideGoes 144 = .ok (.iaload, 1) := by decide +kernel
theorem dX12_tideGoes_145 : decode cX12_tideGoes 145 = .ok (.iload_n 2, 1) := by decide +kernel
theorem dX12_tideGoes_146 : decode cX12_tideGoes 146 = .ok (.iadd, 1) := by decide +kernel
theorem dX12_tideGoes_147 : decode cX12_tideGoes 147 = .ok (.iastore, 1) := by decide +kernel
theorem dX12_tideGoes_148 : decode cX12_tideGoes 148 = .ok (.aload_n 0, 1) := by decide +kernel
theorem dX12_tideGoes_149 : decode cX12_tideGoes 149 = .ok (.getfield 7, 3) := by decide +kernel
theorem dX12_tideGoes_152 : decode cX12_tideGoes 152 = .ok (.iconst 1, 1) := by decide +kernel
theorem dX12_tideGoes_153 : decode cX12_tideGoes 153 = .ok (.dup2, 1) := by decide +kernel
theorem dX12_tideGoes_154 : decode cX12_tideGoes 154 = .ok (.iaload, 1) := by decide +kernel
theorem dX12_tideGoes_155 : decode cX12_tideGoes 155 = .ok (.iconst 1, 1) := by decide +kernel
theorem dX12_tideGoes_156 : decode cX12_tideGoes 156 = .ok (.iadd, 1) := by decide +kernel
theorem dX12_tideGoes_157 : decode cX12_tideGoes 157 = .ok (.iastore, 1) := by decide +kernel
theorem dX12_tideGoes_158 : decode cX12_tideGoes 158 = .ok (.iload_n 2, 1) := by decide +kernel
theorem dX12_tideGoes_159 : decode cX12_tideGoes 159 = .ok (.ireturn, 1) := by decide +kernel
theorem dX12_actOfRest_0 : decode cX12_actOfRest 0 = .ok (.iconst 0, 1) := by decide +kernel
theorem dX12_actOfRest_1 : decode cX12_actOfRest 1 = .ok (.istore_n 1, 1) := by decide +kernel
theorem dX12_actOfRest_2 : decode cX12_actOfRest 2 = .ok (.iload_n 1, 1) := by decide +kernel
theorem dX12_actOfRest_3 : decode cX12_actOfRest 3 = .ok (.aload_n 0, 1) := by decide +kernel
theorem dX12_actOfRest_4 : decode cX12_actOfRest 4 = .ok (.getfield 7, 3) := by decide +kernel
theorem dX12_actOfRest_7 : decode cX12_actOfRest 7 = .ok (.iconst 0, 1) := by decide +kernel
theorem dX12_actOfRest_8 : decode cX12_actOfRest 8 = .ok (.iaload, 1) := by decide +kernel
theorem dX12_actOfRest_9 : decode cX12_actOfRest 9 = .ok (.if_icmp .ge 21, 3) := by decide +kernel
theorem dX12_actOfRest_12 : decode cX12_actOfRest 12 = .ok (.aload_n 0, 1) := by decide +kernel
theorem dX12_actOfRest_13 : decode cX12_actOfRest 13 = .ok (.iload_n 1, 1) := by decide +kernel
theorem dX12_actOfRest_14 : decode cX12_actOfRest 14 = .ok (.invokevirtual 133, 3) := by decide +kernel
theorem dX12_actOfRest_17 : decode cX12_actOfRest 17 = .ok (.ifCond .eq 7, 3) := by decide +kernel
theorem dX12_actOfRest_20 : decode cX12_actOfRest 20 = .ok (.iload_n 1, 1) := by decide +kernel
theorem dX12_actOfRest_21 : decode cX12_actOfRest 21 = .ok (.iconst 1, 1) := by decide +kernel
theorem dX12_actOfRest_22 : decode cX12_actOfRest 22 = .ok (.iadd, 1) := by decide +kernel
theorem dX12_actOfRest_23 : decode cX12_actOfRest 23 = .ok (.ireturn, 1) := by decide +kernel
theorem dX12_actOfRest_24 : decode cX12_actOfRest 24 = .ok (.iinc 1 1, 3) := by decide +kernel
theorem dX12_actOfRest_27 : decode cX12_actOfRest 27 = .ok (.goto (-25), 3) := by decide +kernel
theorem dX12_actOfRest_30 : decode cX12_actOfRest 30 = .ok (.iconst 0, 1) := by decide +kernel
theorem dX12_actOfRest_31 : decode cX12_actOfRest 31 = .ok (.ireturn, 1) := by decide +kernel
theorem dX12_restGoes_0 : decode cX12_restGoes 0 = .ok (.iconst 0, 1) := by decide +kernel
theorem dX12_restGoes_1 : decode cX12_restGoes 1 = .ok (.istore_n 2, 1) := by decide +kernel
theorem dX12_restGoes_2 : decode cX12_restGoes 2 = .ok (.iconst 0, 1) := by decide +kernel
theorem dX12_restGoes_3 : decode cX12_restGoes 3 = .ok (.istore_n 3, 1) := by decide +kernel
theorem dX12_restGoes_4 : decode cX12_restGoes 4 = .ok (.iload_n 3, 1) := by decide +kernel
theorem dX12_restGoes_5 : decode cX12_restGoes 5 = .ok (.iload_n 1, 1) := by decide +kernel
theorem dX12_restGoes_6 : decode cX12_restGoes 6 = .ok (.if_icmp .ge 27, 3) := by decide +kernel
theorem dX12_restGoes_9 : decode cX12_restGoes 9 = .ok (.aload_n 0, 1) := by decide +kernel
theorem dX12_restGoes_10 : decode cX12_restGoes 10 = .ok (.invokevirtual 137, 3) := by decide +kernel
theorem dX12_restGoes_13 : decode cX12_restGoes 13 = .ok (.ifCond .ne 20, 3) := by decide +kernel
theorem dX12_restGoes_16 : decode cX12_restGoes 16 = .ok (.iload_n 2, 1) := by decide +kernel
theorem dX12_restGoes_17 : decode cX12_restGoes 17 = .ok (.aload_n 0, 1) := by decide +kernel
theorem dX12_restGoes_18 : decode cX12_restGoes 18 = .ok (.aload_n 0, 1) := by decide +kernel
theorem dX12_restGoes_19 : decode cX12_restGoes 19 = .ok (.invokevirtual 141, 3) := by decide +kernel
theorem dX12_restGoes_22 : decode cX12_restGoes 22 = .ok (.invokevirtual 144, 3) := by decide +kernel
theorem dX12_restGoes_25 : decode cX12_restGoes 25 = .ok (.iadd, 1) := by decide +kernel
theorem dX12_restGoes_26 : decode cX12_restGoes 26 = .ok (.istore_n 2, 1) := by decide +kernel
theorem dX12_restGoes_27 : decode cX12_restGoes 27 = .ok (.iinc 3 1, 3) := by decide +kernel
theorem dX12_restGoes_30 : decode cX12_restGoes 30 = .ok (.goto (-26), 3) := by decide +kernel
theorem dX12_restGoes_33 : decode cX12_restGoes 33 = .ok (.iload_n 2, 1) := by decide +kernel
theorem dX12_restGoes_34 : decode cX12_restGoes 34 = .ok (.ireturn, 1) := by decide +kernel
theorem dX12_barrel_0 : decode cX12_barrel 0 = .ok (.iload_n 1, 1) := by decide +kernel
theorem dX12_barrel_1 : decode cX12_barrel 1 = .ok (.i2l, 1) := by decide +kernel
theorem dX12_barrel_2 : decode cX12_barrel 2 = .ok (.lconst 1, 1) := by decide +kernel
theorem dX12_barrel_3 : decode cX12_barrel 3 = .ok (.ldc2_w 147, 3) := by decide +kernel
theorem dX12_barrel_6 : decode cX12_barrel 6 = .ok (.invokestatic 61, 3) := by decide +kernel
theorem dX12_barrel_9 : decode cX12_barrel 9 = .ok (.ifCond .eq 40, 3) := by decide +kernel
theorem dX12_barrel_12 : decode cX12_barrel 12 = .ok (.iload_n 2, 1) := by decide +kernel
theorem dX12_barrel_13 : decode cX12_barrel 13 = .ok (.i2l, 1) := by decide +kernel
theorem dX12_barrel_14 : decode cX12_barrel 14 = .ok (.lconst 0, 1) := by decide +kernel
theorem dX12_barrel_15 : decode cX12_barrel 15 = .ok (.ldc2_w 149, 3) := by decide +kernel
theorem dX12_barrel_18 : decode cX12_barrel 18 = .ok (.invokestatic 61, 3) := by decide +kernel
theorem dX12_barrel_21 : decode cX12_barrel 21 = .ok (.ifCond .eq 28, 3) := by decide +kernel
theorem dX12_barrel_24 : decode cX12_barrel 24 = .ok (.iload_n 3, 1) := by decide +kernel
theorem dX12_barrel_25 : decode cX12_barrel 25 = .ok (.i2l, 1) := by decide +kernel
theorem dX12_barrel_26 : decode cX12_barrel 26 = .ok (.lconst 0, 1) := by decide +kernel
theorem dX12_barrel_27 : decode cX12_barrel 27 = .ok (.ldc2_w 151, 3) := by decide +kernel
theorem dX12_barrel_30 : decode cX12_barrel 30 = .ok (.invokestatic 61, 3) := by decide +kernel
theorem dX12_barrel_33 : decode cX12_barrel 33 = .ok (.ifCond .eq 16, 3) := by decide +kernel
theorem dX12_barrel_36 : decode cX12_barrel 36 = .ok (.iload 4, 2) := by decide +kernel
theorem dX12_barrel_38 : decode cX12_barrel 38 = .ok (.i2l, 1) := by decide +kernel
theorem dX12_barrel_39 : decode cX12_barrel 39 = .ok (.lconst 0, 1) := by decide +kernel
theorem dX12_barrel_40 : decode cX12_barrel 40 = .ok (.ldc2_w 147, 3) := by decide +kernel
theorem dX12_barrel_43 : decode cX12_barrel 43 = .ok (.invokestatic 61, 3) := by decide +kernel
theorem dX12_barrel_46 : decode cX12_barrel 46 = .ok (.ifCond .ne 5, 3) := by decide +kernel
theorem dX12_barrel_49 : decode cX12_barrel 49 = .ok (.iconst (-1), 1) := by decide +kernel
theorem dX12_barrel_50 : decode cX12_barrel 50 = .ok (.ireturn, 1) := by decide +kernel
theorem dX12_barrel_51 : decode cX12_barrel 51 = .ok (.aload_n 0, 1) := by decide +kernel
theorem dX12_barrel_52 : decode cX12_barrel 52 = .ok (.getfield 7, 3) := by decide +kernel
theorem dX12_barrel_55 : decode cX12_barrel 55 = .ok (.iconst 0, 1) := by decide +kernel
theorem dX12_barrel_56 : decode cX12_barrel 56 = .ok (.iaload, 1) := by decide +kernel
theorem dX12_barrel_57 : decode cX12_barrel 57 = .ok (.bipush 6, 2) := by decide +kernel
theorem dX12_barrel_59 : decode cX12_barrel 59 = .ok (.if_icmp .ne 6, 3) := by decide +kernel
theorem dX12_barrel_62 : decode cX12_barrel 62 = .ok (.bipush (-2), 2) := by decide +kernel
theorem dX12_barrel_64 : decode cX12_barrel 64 = .ok (.ireturn, 1) := by decide +kernel
theorem dX12_barrel_65 : decode cX12_barrel 65 = .ok (.aload_n 0, 1) := by decide +kernel
theorem dX12_barrel_66 : decode cX12_barrel 66 = .ok (.getfield 7, 3) := by decide +kernel
theorem dX12_barrel_69 : decode cX12_barrel 69 = .ok (.iconst 0, 1) := by decide +kernel
theorem dX12_barrel_70 : decode cX12_barrel 70 = .ok (.iaload, 1) := by decide +kernel
theorem dX12_barrel_71 : decode cX12_barrel 71 = .ok (.istore 5, 2) := by decide +kernel
theorem dX12_barrel_73 : decode cX12_barrel 73 = .ok (.aload_n 0, 1) := by decide +kernel
theorem dX12_barrel_74 : decode cX12_barrel 74 = .ok (.iload 5, 2) := by decide +kernel
theorem dX12_barrel_76 : decode cX12_barrel 76 = .ok (.iconst 0, 1) := by decide +kernel
theorem dX12_barrel_77 : decode cX12_barrel 77 = .ok (.iload_n 1, 1) := by decide +kernel
theorem dX12_barrel_78 : decode cX12_barrel 78 = .ok (.invokevirtual 123, 3) := by decide +kernel
theorem dX12_barrel_81 : decode cX12_barrel 81 = .ok (.aload_n 0, 1) := by decide +kernel
theorem dX12_barrel_82 : decode cX12_barrel 82 = .ok (.iload 5, 2) := by decide +kernel
theorem dX12_barrel_84 : decode cX12_barrel 84 = .ok (.iconst 1, 1) := by decide +kernel
theorem dX12_barrel_85 : decode cX12_barrel 85 = .ok (.iload_n 2, 1) := by decide +kernel
theorem dX12_barrel_86 : decode cX12_barrel 86 = .ok (.invokevirtual 123, 3) := by decide +kernel
theorem dX12_barrel_89 : decode cX12_barrel 89 = .ok (.aload_n 0, 1) := by decide +kernel
theorem dX12_barrel_90 : decode cX12_barrel 90 = .ok (.iload 5, 2) := by decide +kernel
theorem dX12_barrel_92 : decode cX12_barrel 92 = .ok (.iconst 2, 1) := by decide +kernel
theorem dX12_barrel_93 : decode cX12_barrel 93 = .ok (.iload_n 3, 1) := by decide +kernel
theorem dX12_barrel_94 : decode cX12_barrel 94 = .ok (.invokevirtual 123, 3) := by decide +kernel
theorem dX12_barrel_97 : decode cX12_barrel 97 = .ok (.aload_n 0, 1) := by decide +kernel
theorem dX12_barrel_98 : decode cX12_barrel 98 = .ok (.iload 5, 2) := by decide +kernel
theorem dX12_barrel_100 : decode cX12_barrel 100 = .ok (.iconst 3, 1) := by decide +kernel
theorem dX12_barrel_101 : decode cX12_barrel 101 = .ok (.iload 4, 2) := by decide +kernel
theorem dX12_barrel_103 : decode cX12_barrel 103 = .ok (.invokevirtual 123, 3) := by decide +kernel
theorem dX12_barrel_106 : decode cX12_barrel 106 = .ok (.aload_n 0, 1) := by decide +kernel
theorem dX12_barrel_107 : decode cX12_barrel 107 = .ok (.iload 5, 2) := by decide +kernel
theorem dX12_barrel_109 : decode cX12_barrel 109 = .ok (.iconst 4, 1) := by decide +kernel
theorem dX12_barrel_110 : decode cX12_barrel 110 = .ok (.iconst 0, 1) := by decide +kernel
theorem dX12_barrel_111 : decode cX12_barrel 111 = .ok (.invokevirtual 123, 3) := by decide +kernel
theorem dX12_barrel_114 : decode cX12_barrel 114 = .ok (.aload_n 0, 1) := by decide +kernel
theorem dX12_barrel_115 : decode cX12_barrel 115 = .ok (.getfield 7, 3) := by decide +kernel
theorem dX12_barrel_118 : decode cX12_barrel 118 = .ok (.iconst 0, 1) := by decide +kernel
theorem dX12_barrel_119 : decode cX12_barrel 119 = .ok (.dup2, 1) := by decide +kernel
theorem dX12_barrel_120 : decode cX12_barrel 120 = .ok (.iaload, 1) := by decide +kernel
theorem dX12_barrel_121 : decode cX12_barrel 121 = .ok (.iconst 1, 1) := by decide +kernel
theorem dX12_barrel_122 : decode cX12_barrel 122 = .ok (.iadd, 1) := by decide +kernel
theorem dX12_barrel_123 : decode cX12_barrel 123 = .ok (.iastore, 1) := by decide +kernel
theorem dX12_barrel_124 : decode cX12_barrel 124 = .ok (.iload 5, 2) := by decide +kernel
theorem dX12_barrel_126 : decode cX12_barrel 126 = .ok (.ireturn, 1) := by decide +kernel
theorem dX12_barrelOf_0 : decode cX12_barrelOf 0 = .ok (.aload_n 0, 1) := by decide +kernel
theorem dX12_barrelOf_1 : decode cX12_barrelOf 1 = .ok (.iload_n 1, 1) := by decide +kernel
theorem dX12_barrelOf_2 : decode cX12_barrelOf 2 = .ok (.invokevirtual 153, 3) := by decide +kernel
theorem dX12_barrelOf_5 : decode cX12_barrelOf 5 = .ok (.ifCond .eq 15, 3) := by decide +kernel
theorem dX12_barrelOf_8 : decode cX12_barrelOf 8 = .ok (.iload_n 2, 1) := by decide +kernel
theorem dX12_barrelOf_9 : decode cX12_barrelOf 9 = .ok (.i2l, 1) := by decide +kernel
theorem dX12_barrelOf_10 : decode cX12_barrelOf 10 = .ok (.lconst 0, 1) := by decide +kernel
theorem dX12_barrelOf_11 : decode cX12_barrelOf 11 = .ok (.ldc2_w 151, 3) := by decide +kernel
theorem dX12_barrelOf_14 : decode cX12_barrelOf 14 = .ok (.invokestatic 61, 3) := by decide +kernel
theorem dX12_barrelOf_17 : decode cX12_barrelOf 17 = .ok (.ifCond .ne 5, 3) := by decide +kernel
theorem dX12_barrelOf_20 : decode cX12_barrelOf 20 = .ok (.iconst (-1), 1) := by decide +kernel
theorem dX12_barrelOf_21 : decode cX12_barrelOf 21 = .ok (.ireturn, 1) := by decide +kernel
theorem dX12_barrelOf_22 : decode cX12_barrelOf 22 = .ok (.iload_n 2, 1) := by decide +kernel
theorem dX12_barrelOf_23 : decode cX12_barrelOf 23 = .ok (.tableswitch 71 5 9 #[33, 39, 45, 51, 65], 33) := by decide +kernel
theorem dX12_barrelOf_56 : decode cX12_barrelOf 56 = .ok (.aload_n 0, 1) := by decide +kernel
theorem dX12_barrelOf_57 : decode cX12_barrelOf 57 = .ok (.iload_n 1, 1) := by decide +kernel
theorem dX12_barrelOf_58 : decode cX12_barrelOf 58 = .ok (.invokevirtual 130, 3) := by decide +kernel
theorem dX12_barrelOf_61 : decode cX12_barrelOf 61 = .ok (.ireturn, 1) := by decide +kernel
theorem dX12_barrelOf_62 : decode cX12_barrelOf 62 = .ok (.aload_n 0, 1) := by decide +kernel
theorem dX12_barrelOf_63 : decode cX12_barrelOf 63 = .ok (.iload_n 1, 1) := by decide +kernel
theorem dX12_barrelOf_64 : decode cX12_barrelOf 64 = .ok (.invokevirtual 101, 3) := by decide +kernel
theorem dX12_barrelOf_67 : decode cX12_barrelOf 67 = .ok (.ireturn, 1) := by decide +kernel
theorem dX12_barrelOf_68 : decode cX12_barrelOf 68 = .ok (.aload_n 0, 1) := by decide +kernel
theorem dX12_barrelOf_69 : decode cX12_barrelOf 69 = .ok (.iload_n 1, 1) := by decide +kernel
theorem dX12_barrelOf_70 : decode cX12_barrelOf 70 = .ok (.invokevirtual 120, 3) := by decide +kernel
theorem dX12_barrelOf_73 : decode cX12_barrelOf 73 = .ok (.ireturn, 1) := by decide +kernel
theorem dX12_barrelOf_74 : decode cX12_barrelOf 74 = .ok (.aload_n 0, 1) := by decide +kernel
theorem dX12_barrelOf_75 : decode cX12_barrelOf 75 = .ok (.iload_n 1, 1) := by decide +kernel
theorem dX12_barrelOf_76 : decode cX12_barrelOf 76 = .ok (.invokevirtual 133, 3) := by decide +kernel
theorem dX12_barrelOf_79 : decode cX12_barrelOf 79 = .ok (.ifCond .eq 7, 3) := by decide +kernel
theorem dX12_barrelOf_82 : decode cX12_barrelOf 82 = .ok (.iconst 1, 1) := by decide +kernel
theorem dX12_barrelOf_83 : decode cX12_barrelOf 83 = .ok (.goto 4, 3) := by decide +kernel
theorem dX12_barrelOf_86 : decode cX12_barrelOf 86 = .ok (.iconst 0, 1) := by decide +kernel
theorem dX12_barrelOf_87 : decode cX12_barrelOf 87 = .ok (.ireturn, 1) := by decide +kernel
theorem dX12_barrelOf_88 : decode cX12_barrelOf 88 = .ok (.aload_n 0, 1) := by decide +kernel
theorem dX12_barrelOf_89 : decode cX12_barrelOf 89 = .ok (.iload_n 1, 1) := by decide +kernel
theorem dX12_barrelOf_90 : decode cX12_barrelOf 90 = .ok (.invokevirtual 117, 3) := by decide +kernel
theorem dX12_barrelOf_93 : decode cX12_barrelOf 93 = .ok (.ireturn, 1) := by decide +kernel
theorem dX12_barrelOf_94 : decode cX12_barrelOf 94 = .ok (.aload_n 0, 1) := by decide +kernel
theorem dX12_barrelOf_95 : decode cX12_barrelOf 95 = .ok (.iload_n 1, 1) := by decide +kernel
theorem dX12_barrelOf_96 : decode cX12_barrelOf 96 = .ok (.iload_n 2, 1) := by decide +kernel
theorem dX12_barrelOf_97 : decode cX12_barrelOf 97 = .ok (.invokevirtual 80, 3) := by decide +kernel
theorem dX12_barrelOf_100 : decode cX12_barrelOf 100 = .ok (.ireturn, 1) := by decide +kernel
theorem dX12_change_0 : decode cX12_change 0 = .ok (.iload_n 2, 1) := by decide +kernel
theorem dX12_change_1 : decode cX12_change 1 = .ok (.iconst 1, 1) := by decide +kernel
theorem dX12_change_2 : decode cX12_change 2 = .ok (.if_icmp .ne 15, 3) := by decide +kernel
theorem dX12_change_5 : decode cX12_change 5 = .ok (.iload_n 3, 1) := by decide +kernel
theorem dX12_change_6 : decode cX12_change 6 = .ok (.i2l, 1) := by decide +kernel
theorem dX12_change_7 : decode cX12_change 7 = .ok (.lconst 0, 1) := by decide +kernel
theorem dX12_change_8 : decode cX12_change 8 = .ok (.ldc2_w 149, 3) := by decide +kernel
theorem dX12_change_11 : decode cX12_change 11 = .ok (.invokestatic 61, 3) := by decide +kernel
theorem dX12_change_14 : decode cX12_change 14 = .ok (.goto 57, 3) := by decide +kernel
theorem dX12_change_17 : decode cX12_change 17 = .ok (.iload_n 2, 1) := by decide +kernel
theorem dX12_change_18 : decode cX12_change 18 = .ok (.iconst 2, 1) := by decide +kernel
theorem dX12_change_19 : decode cX12_change 19 = .ok (.if_icmp .ne 15, 3) := by decide +kernel
theorem dX12_change_22 : decode cX12_change 22 = .ok (.iload_n 3, 1) := by decide +kernel
theorem dX12_change_23 : decode cX12_change 23 = .ok (.i2l, 1) := by decide +kernel
theorem dX12_change_24 : decode cX12_change 24 = .ok (.lconst 0, 1) := by decide +kernel
theorem dX12_change_25 : decode cX12_change 25 = .ok (.ldc2_w 151, 3) := by decide +kernel
theorem dX12_change_28 : decode cX12_change 28 = .ok (.invokestatic 61, 3) := by decide +kernel
theorem dX12_change_31 : decode cX12_change 31 = .ok (.goto 40, 3) := by decide +kernel
theorem dX12_change_34 : decode cX12_change 34 = .ok (.iload_n 2, 1) := by decide +kernel
theorem dX12_change_35 : decode cX12_change 35 = .ok (.iconst 3, 1) := by decide +kernel
theorem dX12_change_36 : decode cX12_change 36 = .ok (.if_icmp .ne 15, 3) := by decide +kernel
theorem dX12_change_39 : decode cX12_change 39 = .ok (.iload_n 3, 1) := by decide +kernel
theorem dX12_change_40 : decode cX12_change 40 = .ok (.i2l, 1) := by decide +kernel
theorem dX12_change_41 : decode cX12_change 41 = .ok (.lconst 0, 1) := by decide +kernel
theorem dX12_change_42 : decode cX12_change 42 = .ok (.ldc2_w 147, 3) := by decide +kernel
theorem dX12_change_45 : decode cX12_change 45 = .ok (.invokestatic 61, 3) := by decide +kernel
theorem dX12_change_48 : decode cX12_change 48 = .ok (.goto 23, 3) := by decide +kernel
theorem dX12_change_51 : decode cX12_change 51 = .ok (.iload_n 2, 1) := by decide +kernel
theorem dX12_change_52 : decode cX12_change 52 = .ok (.iconst 4, 1) := by decide +kernel
theorem dX12_change_53 : decode cX12_change 53 = .ok (.if_icmp .ne 17, 3) := by decide +kernel
theorem dX12_change_56 : decode cX12_change 56 = .ok (.iload_n 3, 1) := by decide +kernel
theorem dX12_change_57 : decode cX12_change 57 = .ok (.i2l, 1) := by decide +kernel
theorem dX12_change_58 : decode cX12_change 58 = .ok (.lconst 0, 1) := by decide +kernel
theorem dX12_change_59 : decode cX12_change 59 = .ok (.lconst 1, 1) := by decide +kernel
theorem dX12_change_60 : decode cX12_change 60 = .ok (.invokestatic 61, 3) := by decide +kernel
theorem dX12_change_63 : decode cX12_change 63 = .ok (.ifCond .eq 7, 3) := by decide +kernel
theorem dX12_change_66 : decode cX12_change 66 = .ok (.iconst 1, 1) := by decide +kernel
theorem dX12_change_67 : decode cX12_change 67 = .ok (.goto 4, 3) := by decide +kernel
theorem dX12_change_70 : decode cX12_change 70 = .ok (.iconst 0, 1) := by decide +kernel
theorem dX12_change_71 : decode cX12_change 71 = .ok (.istore 4, 2) := by decide +kernel
theorem dX12_change_73 : decode cX12_change 73 = .ok (.aload_n 0, 1) := by decide +kernel
theorem dX12_change_74 : decode cX12_change 74 = .ok (.iload_n 1, 1) := by decide +kernel
theorem dX12_change_75 : decode cX12_change 75 = .ok (.invokevirtual 153, 3) := by decide +kernel
theorem dX12_change_78 : decode cX12_change 78 = .ok (.ifCond .eq 24, 3) := by decide +kernel
theorem dX12_change_81 : decode cX12_change 81 = .ok (.iload 4, 2) := by decide +kernel
theorem dX12_change_83 : decode cX12_change 83 = .ok (.ifCond .eq 19, 3) := by decide +kernel
theorem dX12_change_86 : decode cX12_change 86 = .ok (.aload_n 0, 1) := by decide +kernel
theorem dX12_change_87 : decode cX12_change 87 = .ok (.bipush 35, 2) := by decide +kernel
theorem dX12_change_89 : decode cX12_change 89 = .ok (.iconst 5, 1) := by decide +kernel
theorem dX12_change_90 : decode cX12_change 90 = .ok (.iload_n 1, 1) := by decide +kernel
theorem dX12_change_91 : decode cX12_change 91 = .ok (.imul, 1) := by decide +kernel
theorem dX12_change_92 : decode cX12_change 92 = .ok (.iadd, 1) := by decide +kernel
theorem dX12_change_93 : decode cX12_change 93 = .ok (.iload_n 2, 1) := by decide +kernel
theorem dX12_change_94 : decode cX12_change 94 = .ok (.iadd, 1) := by decide +kernel
theorem dX12_change_95 : decode cX12_change 95 = .ok (.iload_n 3, 1) := by decide +kernel
theorem dX12_change_96 : decode cX12_change 96 = .ok (.invokevirtual 156, 3) := by decide +kernel
theorem dX12_change_99 : decode cX12_change 99 = .ok (.goto 4, 3) := by decide +kernel
theorem dX12_change_102 : decode cX12_change 102 = .ok (.iconst (-1), 1) := by decide +kernel
theorem dX12_change_103 : decode cX12_change 103 = .ok (.ireturn, 1) := by decide +kernel
theorem dX12_remake_0 : decode cX12_remake 0 = .ok (.aload_n 0, 1) := by decide +kernel
theorem dX12_remake_1 : decode cX12_remake 1 = .ok (.iload_n 1, 1) := by decide +kernel
theorem dX12_remake_2 : decode cX12_remake 2 = .ok (.invokevirtual 153, 3) := by decide +kernel
theorem dX12_remake_5 : decode cX12_remake 5 = .ok (.ifCond .eq 29, 3) := by decide +kernel
theorem dX12_remake_8 : decode cX12_remake 8 = .ok (.iload_n 2, 1) := by decide +kernel
theorem dX12_remake_9 : decode cX12_remake 9 = .ok (.i2l, 1) := by decide +kernel
theorem dX12_remake_10 : decode cX12_remake 10 = .ok (.lconst 1, 1) := by decide +kernel
theorem dX12_remake_11 : decode cX12_remake 11 = .ok (.ldc2_w 147, 3) := by decide +kernel
theorem dX12_remake_14 : decode cX12_remake 14 = .ok (.invokestatic 61, 3) := by decide +kernel
theorem dX12_remake_17 : decode cX12_remake 17 = .ok (.ifCond .eq 17, 3) := by decide +kernel
theorem dX12_remake_20 : decode cX12_remake 20 = .ok (.aload_n 0, 1) := by decide +kernel
theorem dX12_remake_21 : decode cX12_remake 21 = .ok (.bipush 35, 2) := by decide +kernel
theorem dX12_remake_23 : decode cX12_remake 23 = .ok (.iconst 5, 1) := by decide +kernel
theorem dX12_remake_24 : decode cX12_remake 24 = .ok (.iload_n 1, 1) := by decide +kernel
theorem dX12_remake_25 : decode cX12_remake 25 = .ok (.imul, 1) := by decide +kernel
theorem dX12_remake_26 : decode cX12_remake 26 = .ok (.iadd, 1) := by decide +kernel
theorem dX12_remake_27 : decode cX12_remake 27 = .ok (.iload_n 2, 1) := by decide +kernel
theorem dX12_remake_28 : decode cX12_remake 28 = .ok (.invokevirtual 156, 3) := by decide +kernel
theorem dX12_remake_31 : decode cX12_remake 31 = .ok (.goto 4, 3) := by decide +kernel
theorem dX12_remake_34 : decode cX12_remake 34 = .ok (.iconst (-1), 1) := by decide +kernel
theorem dX12_remake_35 : decode cX12_remake 35 = .ok (.ireturn, 1) := by decide +kernel
theorem dX12_water_0 : decode cX12_water 0 = .ok (.iload_n 1, 1) := by decide +kernel
theorem dX12_water_1 : decode cX12_water 1 = .ok (.i2l, 1) := by decide +kernel
theorem dX12_water_2 : decode cX12_water 2 = .ok (.lconst 0, 1) := by decide +kernel
theorem dX12_water_3 : decode cX12_water 3 = .ok (.ldc2_w 159, 3) := by decide +kernel
theorem dX12_water_6 : decode cX12_water 6 = .ok (.invokestatic 61, 3) := by decide +kernel
theorem dX12_water_9 : decode cX12_water 9 = .ok (.ifCond .eq 27, 3) := by decide +kernel
theorem dX12_water_12 : decode cX12_water 12 = .ok (.iload_n 2, 1) := by decide +kernel
theorem dX12_water_13 : decode cX12_water 13 = .ok (.i2l, 1) := by decide +kernel
theorem dX12_water_14 : decode cX12_water 14 = .ok (.lconst 0, 1) := by decide +kernel
theorem dX12_water_15 : decode cX12_water 15 = .ok (.ldc2_w 159, 3) := by decide +kernel
theorem dX12_water_18 : decode cX12_water 18 = .ok (.invokestatic 61, 3) := by decide +kernel
theorem dX12_water_21 : decode cX12_water 21 = .ok (.ifCond .eq 15, 3) := by decide +kernel
theorem dX12_water_24 : decode cX12_water 24 = .ok (.aload_n 0, 1) := by decide +kernel
theorem dX12_water_25 : decode cX12_water 25 = .ok (.bipush 7, 2) := by decide +kernel
theorem dX12_water_27 : decode cX12_water 27 = .ok (.iload_n 1, 1) := by decide +kernel
theorem dX12_water_28 : decode cX12_water 28 = .ok (.iadd, 1) := by decide +kernel
theorem dX12_water_29 : decode cX12_water 29 = .ok (.iload_n 2, 1) := by decide +kernel
theorem dX12_water_30 : decode cX12_water 30 = .ok (.invokevirtual 156, 3) := by decide +kernel
theorem dX12_water_33 : decode cX12_water 33 = .ok (.goto 4, 3) := by decide +kernel
theorem dX12_water_36 : decode cX12_water 36 = .ok (.iconst (-1), 1) := by decide +kernel
theorem dX12_water_37 : decode cX12_water 37 = .ok (.ireturn, 1) := by decide +kernel
theorem dX12_tier_0 : decode cX12_tier 0 = .ok (.iload_n 1, 1) := by decide +kernel
theorem dX12_tier_1 : decode cX12_tier 1 = .ok (.i2l, 1) := by decide +kernel
theorem dX12_tier_2 : decode cX12_tier 2 = .ok (.lconst 0, 1) := by decide +kernel
theorem dX12_tier_3 : decode cX12_tier 3 = .ok (.ldc2_w 147, 3) := by decide +kernel
theorem dX12_tier_6 : decode cX12_tier 6 = .ok (.invokestatic 61, 3) := by decide +kernel
theorem dX12_tier_9 : decode cX12_tier 9 = .ok (.ifCond .eq 42, 3) := by decide +kernel
theorem dX12_tier_12 : decode cX12_tier 12 = .ok (.iload_n 2, 1) := by decide +kernel
theorem dX12_tier_13 : decode cX12_tier 13 = .ok (.i2l, 1) := by decide +kernel
theorem dX12_tier_14 : decode cX12_tier 14 = .ok (.lconst 0, 1) := by decide +kernel
theorem dX12_tier_15 : decode cX12_tier 15 = .ok (.lconst 1, 1) := by decide +kernel
theorem dX12_tier_16 : decode cX12_tier 16 = .ok (.invokestatic 61, 3) := by decide +kernel
theorem dX12_tier_19 : decode cX12_tier 19 = .ok (.ifCond .eq 32, 3) := by decide +kernel
theorem dX12_tier_22 : decode cX12_tier 22 = .ok (.iload_n 3, 1) := by decide +kernel
theorem dX12_tier_23 : decode cX12_tier 23 = .ok (.i2l, 1) := by decide +kernel
theorem dX12_tier_24 : decode cX12_tier 24 = .ok (.lconst 0, 1) := by decide +kernel
theorem dX12_tier_25 : decode cX12_tier 25 = .ok (.ldc2_w 151, 3) := by decide +kernel
theorem dX12_tier_28 : decode cX12_tier 28 = .ok (.invokestatic 61, 3) := by decide +kernel
theorem dX12_tier_31 : decode cX12_tier 31 = .ok (.ifCond .eq 20, 3) := by decide +kernel
theorem dX12_tier_34 : decode cX12_tier 34 = .ok (.aload_n 0, 1) := by decide +kernel
theorem dX12_tier_35 : decode cX12_tier 35 = .ok (.bipush 23, 2) := by decide +kernel
theorem dX12_tier_37 : decode cX12_tier 37 = .ok (.bipush 6, 2) := by decide +kernel
theorem dX12_tier_39 : decode cX12_tier 39 = .ok (.iload_n 2, 1) := by decide +kernel
theorem dX12_tier_40 : decode cX12_tier 40 = .ok (.imul, 1) := by decide +kernel
theorem dX12_tier_41 : decode cX12_tier 41 = .ok (.iadd, 1) := by decide +kernel
theorem dX12_tier_42 : decode cX12_tier 42 = .ok (.iload_n 1, 1) := by decide +kernel
theorem dX12_tier_43 : decode cX12_tier 43 = .ok (.iadd, 1) := by decide +kernel
theorem dX12_tier_44 : decode cX12_tier 44 = .ok (.iload_n 3, 1) := by decide +kernel
theorem dX12_tier_45 : decode cX12_tier 45 = .ok (.invokevirtual 156, 3) := by decide +kernel
theorem dX12_tier_48 : decode cX12_tier 48 = .ok (.goto 4, 3) := by decide +kernel
theorem dX12_tier_51 : decode cX12_tier 51 = .ok (.iconst (-1), 1) := by decide +kernel
theorem dX12_tier_52 : decode cX12_tier 52 = .ok (.ireturn, 1) := by decide +kernel
theorem dX12_tierOf_0 : decode cX12_tierOf 0 = .ok (.iload_n 1, 1) := by decide +kernel
theorem dX12_tierOf_1 : decode cX12_tierOf 1 = .ok (.i2l, 1) := by decide +kernel
theorem dX12_tierOf_2 : decode cX12_tierOf 2 = .ok (.lconst 0, 1) := by decide +kernel
theorem dX12_tierOf_3 : decode cX12_tierOf 3 = .ok (.ldc2_w 147, 3) := by decide +kernel
theorem dX12_tierOf_6 : decode cX12_tierOf 6 = .ok (.invokestatic 61, 3) := by decide +kernel
theorem dX12_tierOf_9 : decode cX12_tierOf 9 = .ok (.ifCond .eq 30, 3) := by decide +kernel
theorem dX12_tierOf_12 : decode cX12_tierOf 12 = .ok (.iload_n 2, 1) := by decide +kernel
theorem dX12_tierOf_13 : decode cX12_tierOf 13 = .ok (.i2l, 1) := by decide +kernel
theorem dX12_tierOf_14 : decode cX12_tierOf 14 = .ok (.lconst 0, 1) := by decide +kernel
theorem dX12_tierOf_15 : decode cX12_tierOf 15 = .ok (.lconst 1, 1) := by decide +kernel
theorem dX12_tierOf_16 : decode cX12_tierOf 16 = .ok (.invokestatic 61, 3) := by decide +kernel
theorem dX12_tierOf_19 : decode cX12_tierOf 19 = .ok (.ifCond .eq 20, 3) := by decide +kernel
theorem dX12_tierOf_22 : decode cX12_tierOf 22 = .ok (.aload_n 0, 1) := by decide +kernel
theorem dX12_tierOf_23 : decode cX12_tierOf 23 = .ok (.getfield 7, 3) := by decide +kernel
theorem dX12_tierOf_26 : decode cX12_tierOf 26 = .ok (.bipush 23, 2) := by decide +kernel
theorem dX12_tierOf_28 : decode cX12_tierOf 28 = .ok (.bipush 6, 2) := by decide +kernel
theorem dX12_tierOf_30 : decode cX12_tierOf 30 = .ok (.iload_n 2, 1) := by decide +kernel
theorem dX12_tierOf_31 : decode cX12_tierOf 31 = .ok (.imul, 1) := by decide +kernel
theorem dX12_tierOf_32 : decode cX12_tierOf 32 = .ok (.iadd, 1) := by decide +kernel
theorem dX12_tierOf_33 : decode cX12_tierOf 33 = .ok (.iload_n 1, 1) := by decide +kernel
theorem dX12_tierOf_34 : decode cX12_tierOf 34 = .ok (.iadd, 1) := by decide +kernel
theorem dX12_tierOf_35 : decode cX12_tierOf 35 = .ok (.iaload, 1) := by decide +kernel
theorem dX12_tierOf_36 : decode cX12_tierOf 36 = .ok (.goto 4, 3) := by decide +kernel
theorem dX12_tierOf_39 : decode cX12_tierOf 39 = .ok (.iconst (-1), 1) := by decide +kernel
theorem dX12_tierOf_40 : decode cX12_tierOf 40 = .ok (.ireturn, 1) := by decide +kernel
theorem dX12_ends_0 : decode cX12_ends 0 = .ok (.iload_n 1, 1) := by decide +kernel
theorem dX12_ends_1 : decode cX12_ends 1 = .ok (.i2l, 1) := by decide +kernel
theorem dX12_ends_2 : decode cX12_ends 2 = .ok (.lconst 1, 1) := by decide +kernel
theorem dX12_ends_3 : decode cX12_ends 3 = .ok (.ldc2_w 161, 3) := by decide +kernel
theorem dX12_ends_6 : decode cX12_ends 6 = .ok (.invokestatic 61, 3) := by decide +kernel
theorem dX12_ends_9 : decode cX12_ends 9 = .ok (.ifCond .ne 5, 3) := by decide +kernel
theorem dX12_ends_12 : decode cX12_ends 12 = .ok (.iconst (-1), 1) := by decide +kernel
theorem dX12_ends_13 : decode cX12_ends 13 = .ok (.ireturn, 1) := by decide +kernel
theorem dX12_ends_14 : decode cX12_ends 14 = .ok (.iload_n 1, 1) := by decide +kernel
theorem dX12_ends_15 : decode cX12_ends 15 = .ok (.aload_n 0, 1) := by decide +kernel
theorem dX12_ends_16 : decode cX12_ends 16 = .ok (.getfield 7, 3) := by decide +kernel
theorem dX12_ends_19 : decode cX12_ends 19 = .ok (.iconst 1, 1) := by decide +kernel
theorem dX12_ends_20 : decode cX12_ends 20 = .ok (.iaload, 1) := by decide +kernel
theorem dX12_ends_21 : decode cX12_ends 21 = .ok (.if_icmp .ge 8, 3) := by decide +kernel
theorem dX12_ends_24 : decode cX12_ends 24 = .ok (.bipush (-4), 2) := by decide +kernel
theorem dX12_ends_26 : decode cX12_ends 26 = .ok (.goto 9, 3) := by decide +kernel
theorem dX12_ends_29 : decode cX12_ends 29 = .ok (.aload_n 0, 1) := by decide +kernel
theorem dX12_ends_30 : decode cX12_ends 30 = .ok (.iconst 2, 1) := by decide +kernel
theorem dX12_ends_31 : decode cX12_ends 31 = .ok (.iload_n 1, 1) := by decide +kernel
theorem dX12_ends_32 : decode cX12_ends 32 = .ok (.invokevirtual 156, 3) := by decide +kernel
theorem dX12_ends_35 : decode cX12_ends 35 = .ok (.ireturn, 1) := by decide +kernel
theorem dX12_anew_0 : decode cX12_anew 0 = .ok (.aload_n 0, 1) := by decide +kernel
theorem dX12_anew_1 : decode cX12_anew 1 = .ok (.getfield 7, 3) := by decide +kernel
theorem dX12_anew_4 : decode cX12_anew 4 = .ok (.iconst 3, 1) := by decide +kernel
theorem dX12_anew_5 : decode cX12_anew 5 = .ok (.iconst 0, 1) := by decide +kernel
theorem dX12_anew_6 : decode cX12_anew 6 = .ok (.iastore, 1) := by decide +kernel
theorem dX12_anew_7 : decode cX12_anew 7 = .ok (.iconst 0, 1) := by decide +kernel
theorem dX12_anew_8 : decode cX12_anew 8 = .ok (.istore_n 1, 1) := by decide +kernel
theorem dX12_anew_9 : decode cX12_anew 9 = .ok (.iload_n 1, 1) := by decide +kernel
theorem dX12_anew_10 : decode cX12_anew 10 = .ok (.aload_n 0, 1) := by decide +kernel
theorem dX12_anew_11 : decode cX12_anew 11 = .ok (.getfield 7, 3) := by decide +kernel
theorem dX12_anew_14 : decode cX12_anew 14 = .ok (.iconst 0, 1) := by decide +kernel
theorem dX12_anew_15 : decode cX12_anew 15 = .ok (.iaload, 1) := by decide +kernel
theorem dX12_anew_16 : decode cX12_anew 16 = .ok (.if_icmp .ge 16, 3) := by decide +kernel
theorem dX12_anew_19 : decode cX12_anew 19 = .ok (.aload_n 0, 1) := by decide +kernel
theorem dX12_anew_20 : decode cX12_anew 20 = .ok (.iload_n 1, 1) := by decide +kernel
theorem dX12_anew_21 : decode cX12_anew 21 = .ok (.iconst 4, 1) := by decide +kernel
theorem dX12_anew_22 : decode cX12_anew 22 = .ok (.iconst 0, 1) := by decide +kernel
theorem dX12_anew_23 : decode cX12_anew 23 = .ok (.invokevirtual 123, 3) := by decide +kernel
theorem dX12_anew_26 : decode cX12_anew 26 = .ok (.iinc 1 1, 3) := by decide +kernel
theorem dX12_anew_29 : decode cX12_anew 29 = .ok (.goto (-20), 3) := by decide +kernel
theorem dX12_anew_32 : decode cX12_anew 32 = .ok (.aload_n 0, 1) := by decide +kernel
theorem dX12_anew_33 : decode cX12_anew 33 = .ok (.iconst 1, 1) := by decide +kernel
theorem dX12_anew_34 : decode cX12_anew 34 = .ok (.iconst 0, 1) := by decide +kernel
theorem dX12_anew_35 : decode cX12_anew 35 = .ok (.invokevirtual 156, 3) := by decide +kernel
theorem dX12_anew_38 : decode cX12_anew 38 = .ok (.ireturn, 1) := by decide +kernel
theorem dX12_state_0 : decode cX12_state 0 = .ok (.iload_n 1, 1) := by decide +kernel
theorem dX12_state_1 : decode cX12_state 1 = .ok (.tableswitch 98 0 6 #[43, 50, 57, 64, 77, 82, 93], 43) := by decide +kernel
theorem dX12_state_44 : decode cX12_state 44 = .ok (.aload_n 0, 1) := by decide +kernel
theorem dX12_state_45 : decode cX12_state 45 = .ok (.getfield 7, 3) := by decide +kernel
theorem dX12_state_48 : decode cX12_state 48 = .ok (.iconst 1, 1) := by decide +kernel
theorem dX12_state_49 : decode cX12_state 49 = .ok (.iaload, 1) := by decide +kernel
theorem dX12_state_50 : decode cX12_state 50 = .ok (.ireturn, 1) := by decide +kernel
theorem dX12_state_51 : decode cX12_state 51 = .ok (.aload_n 0, 1) := by decide +kernel
theorem dX12_state_52 : decode cX12_state 52 = .ok (.getfield 7, 3) := by decide +kernel
theorem dX12_state_55 : decode cX12_state 55 = .ok (.iconst 2, 1) := by decide +kernel
theorem dX12_state_56 : decode cX12_state 56 = .ok (.iaload, 1) := by decide +kernel
theorem dX12_state_57 : decode cX12_state 57 = .ok (.ireturn, 1) := by decide +kernel
theorem dX12_state_58 : decode cX12_state 58 = .ok (.aload_n 0, 1) := by decide +kernel
theorem dX12_state_59 : decode cX12_state 59 = .ok (.getfield 7, 3) := by decide +kernel
theorem dX12_state_62 : decode cX12_state 62 = .ok (.iconst 3, 1) := by decide +kernel
theorem dX12_state_63 : decode cX12_state 63 = .ok (.iaload, 1) := by decide +kernel
theorem dX12_state_64 : decode cX12_state 64 = .ok (.ireturn, 1) := by decide +kernel
theorem dX12_state_65 : decode cX12_state 65 = .ok (.aload_n 0, 1) := by decide +kernel
theorem dX12_state_66 : decode cX12_state 66 = .ok (.invokevirtual 137, 3) := by decide +kernel
theorem dX12_state_69 : decode cX12_state 69 = .ok (.ifCond .eq 7, 3) := by decide +kernel
theorem dX12_state_72 : decode cX12_state 72 = .ok (.iconst 1, 1) := by decide +kernel
theorem dX12_state_73 : decode cX12_state 73 = .ok (.goto 4, 3) := by decide +kernel
theorem dX12_state_76 : decode cX12_state 76 = .ok (.iconst 0, 1) := by decide +kernel
theorem dX12_state_77 : decode cX12_state 77 = .ok (.ireturn, 1) := by decide +kernel
theorem dX12_state_78 : decode cX12_state 78 = .ok (.aload_n 0, 1) := by decide +kernel
theorem dX12_state_79 : decode cX12_state 79 = .ok (.invokevirtual 163, 3) := by decide +kernel
theorem dX12_state_82 : decode cX12_state 82 = .ok (.ireturn, 1) := by decide +kernel
theorem dX12_state_83 : decode cX12_state 83 = .ok (.aload_n 0, 1) := by decide +kernel
theorem dX12_state_84 : decode cX12_state 84 = .ok (.aload_n 0, 1) := by decide +kernel
theorem dX12_state_85 : decode cX12_state 85 = .ok (.getfield 7, 3) := by decide +kernel
theorem dX12_state_88 : decode cX12_state 88 = .ok (.iconst 1, 1) := by decide +kernel
theorem dX12_state_89 : decode cX12_state 89 = .ok (.iaload, 1) := by decide +kernel
theorem dX12_state_90 : decode cX12_state 90 = .ok (.invokevirtual 72, 3) := by decide +kernel
theorem dX12_state_93 : decode cX12_state 93 = .ok (.ireturn, 1) := by decide +kernel
theorem dX12_state_94 : decode cX12_state 94 = .ok (.aload_n 0, 1) := by decide +kernel
theorem dX12_state_95 : decode cX12_state 95 = .ok (.invokevirtual 166, 3) := by decide +kernel
theorem dX12_state_98 : decode cX12_state 98 = .ok (.ireturn, 1) := by decide +kernel
theorem dX12_state_99 : decode cX12_state 99 = .ok (.iconst (-1), 1) := by decide +kernel
theorem dX12_state_100 : decode cX12_state 100 = .ok (.ireturn, 1) := by decide +kernel
theorem dX12_feed_0 : decode cX12_feed 0 = .ok (.iload_n 3, 1) := by decide +kernel
theorem dX12_feed_1 : decode cX12_feed 1 = .ok (.i2l, 1) := by decide +kernel
theorem dX12_feed_2 : decode cX12_feed 2 = .ok (.lconst 1, 1) := by decide +kernel
theorem dX12_feed_3 : decode cX12_feed 3 = .ok (.ldc2_w 169, 3) := by decide +kernel
theorem dX12_feed_6 : decode cX12_feed 6 = .ok (.invokestatic 61, 3) := by decide +kernel
theorem dX12_feed_9 : decode cX12_feed 9 = .ok (.ifCond .ne 5, 3) := by decide +kernel
theorem dX12_feed_12 : decode cX12_feed 12 = .ok (.iconst (-1), 1) := by decide +kernel
theorem dX12_feed_13 : decode cX12_feed 13 = .ok (.ireturn, 1) := by decide +kernel
theorem dX12_feed_14 : decode cX12_feed 14 = .ok (.aload_n 0, 1) := by decide +kernel
theorem dX12_feed_15 : decode cX12_feed 15 = .ok (.getfield 171, 3) := by decide +kernel
theorem dX12_feed_18 : decode cX12_feed 18 = .ok (.iload_n 3, 1) := by decide +kernel
theorem dX12_feed_19 : decode cX12_feed 19 = .ok (.iadd, 1) := by decide +kernel
theorem dX12_feed_20 : decode cX12_feed 20 = .ok (.sipush 200, 3) := by decide +kernel
theorem dX12_feed_23 : decode cX12_feed 23 = .ok (.if_icmp .le 6, 3) := by decide +kernel
theorem dX12_feed_26 : decode cX12_feed 26 = .ok (.bipush (-2), 2) := by decide +kernel
theorem dX12_feed_28 : decode cX12_feed 28 = .ok (.ireturn, 1) := by decide +kernel
theorem dX12_feed_29 : decode cX12_feed 29 = .ok (.iconst 0, 1) := by decide +kernel
theorem dX12_feed_30 : decode cX12_feed 30 = .ok (.istore 4, 2) := by decide +kernel
theorem dX12_feed_32 : decode cX12_feed 32 = .ok (.iload 4, 2) := by decide +kernel
theorem dX12_feed_34 : decode cX12_feed 34 = .ok (.iload_n 3, 1) := by decide +kernel
theorem dX12_feed_35 : decode cX12_feed 35 = .ok (.if_icmp .ge 40, 3) := by decide +kernel
theorem dX12_feed_38 : decode cX12_feed 38 = .ok (.aload_n 0, 1) := by decide +kernel
theorem dX12_feed_39 : decode cX12_feed 39 = .ok (.getfield 25, 3) := by decide +kernel
theorem dX12_feed_42 : decode cX12_feed 42 = .ok (.aload_n 0, 1) := by decide +kernel
theorem dX12_feed_43 : decode cX12_feed 43 = .ok (.getfield 171, 3) := by decide +kernel
theorem dX12_feed_46 : decode cX12_feed 46 = .ok (.lload_n 1, 1) := by decide +kernel
theorem dX12_feed_47 : decode cX12_feed 47 = .ok (.bipush 8, 2) := by decide +kernel
theorem dX12_feed_49 : decode cX12_feed 49 = .ok (.iload 4, 2) := by decide +kernel
theorem dX12_feed_51 : decode cX12_feed 51 = .ok (.imul, 1) := by decide +kernel
theorem dX12_feed_52 : decode cX12_feed 52 = .ok (.lshr, 1) := by decide +kernel
theorem dX12_feed_53 : decode cX12_feed 53 = .ok (.ldc2_w 174, 3) := by decide +kernel
theorem dX12_feed_56 : decode cX12_feed 56 = .ok (.land, 1) := by decide +kernel
theorem dX12_feed_57 : decode cX12_feed 57 = .ok (.l2i, 1) := by decide +kernel
theorem dX12_feed_58 : decode cX12_feed 58 = .ok (.iastore, 1) := by decide +kernel
theorem dX12_feed_59 : decode cX12_feed 59 = .ok (.aload_n 0, 1) := by decide +kernel
theorem dX12_feed_60 : decode cX12_feed 60 = .ok (.dup, 1) := by decide +kernel
theorem dX12_feed_61 : decode cX12_feed 61 = .ok (.getfield 171, 3) := by decide +kernel
theorem dX12_feed_64 : decode cX12_feed 64 = .ok (.iconst 1, 1) := by decide +kernel
theorem dX12_feed_65 : decode cX12_feed 65 = .ok (.iadd, 1) := by decide +kernel
theorem dX12_feed_66 : decode cX12_feed 66 = .ok (.putfield 171, 3) := by decide +kernel
theorem dX12_feed_69 : decode cX12_feed 69 = .ok (.iinc 4 1, 3) := by decide +kernel
theorem dX12_feed_72 : decode cX12_feed 72 = .ok (.goto (-40), 3) := by decide +kernel
theorem dX12_feed_75 : decode cX12_feed 75 = .ok (.aload_n 0, 1) := by decide +kernel
theorem dX12_feed_76 : decode cX12_feed 76 = .ok (.getfield 171, 3) := by decide +kernel
theorem dX12_feed_79 : decode cX12_feed 79 = .ok (.ireturn, 1) := by decide +kernel
theorem dX12_isRow_0 : decode cX12_isRow 0 = .ok (.aload_n 0, 1) := by decide +kernel
theorem dX12_isRow_1 : decode cX12_isRow 1 = .ok (.getfield 176, 3) := by decide +kernel
theorem dX12_isRow_4 : decode cX12_isRow 4 = .ok (.aload_n 0, 1) := by decide +kernel
theorem dX12_isRow_5 : decode cX12_isRow 5 = .ok (.getfield 171, 3) := by decide +kernel
theorem dX12_isRow_8 : decode cX12_isRow 8 = .ok (.if_icmp .ge 27, 3) := by decide +kernel
theorem dX12_isRow_11 : decode cX12_isRow 11 = .ok (.aload_n 0, 1) := by decide +kernel
theorem dX12_isRow_12 : decode cX12_isRow 12 = .ok (.getfield 25, 3) := by decide +kernel
theorem dX12_isRow_15 : decode cX12_isRow 15 = .ok (.aload_n 0, 1) := by decide +kernel
theorem dX12_isRow_16 : decode cX12_isRow 16 = .ok (.getfield 176, 3) := by decide +kernel
theorem dX12_isRow_19 : decode cX12_isRow 19 = .ok (.iaload, 1) := by decide +kernel
theorem dX12_isRow_20 : decode cX12_isRow 20 = .ok (.i2l, 1) := by decide +kernel
theorem dX12_isRow_21 : decode cX12_isRow 21 = .ok (.iload_n 1, 1) := by decide +kernel
theorem dX12_isRow_22 : decode cX12_isRow 22 = .ok (.i2l, 1) := by decide +kernel
theorem dX12_isRow_23 : decode cX12_isRow 23 = .ok (.iload_n 2, 1) := by decide +kernel
theorem dX12_isRow_24 : decode cX12_isRow 24 = .ok (.i2l, 1) := by decide +kernel
theorem dX12_isRow_25 : decode cX12_isRow 25 = .ok (.invokestatic 61, 3) := by decide +kernel
theorem dX12_isRow_28 : decode cX12_isRow 28 = .ok (.ifCond .eq 7, 3) := by decide +kernel
theorem dX12_isRow_31 : decode cX12_isRow 31 = .ok (.iconst 1, 1) := by decide +kernel
theorem dX12_isRow_32 : decode cX12_isRow 32 = .ok (.goto 4, 3) := by decide +kernel
theorem dX12_isRow_35 : decode cX12_isRow 35 = .ok (.iconst 0, 1) := by decide +kernel
theorem dX12_isRow_36 : decode cX12_isRow 36 = .ok (.ireturn, 1) := by decide +kernel
theorem dX12_next_0 : decode cX12_next 0 = .ok (.aload_n 0, 1) := by decide +kernel
theorem dX12_next_1 : decode cX12_next 1 = .ok (.getfield 176, 3) := by decide +kernel
theorem dX12_next_4 : decode cX12_next 4 = .ok (.aload_n 0, 1) := by decide +kernel
theorem dX12_next_5 : decode cX12_next 5 = .ok (.getfield 171, 3) := by decide +kernel
theorem dX12_next_8 : decode cX12_next 8 = .ok (.if_icmp .ge 30, 3) := by decide +kernel
theorem dX12_next_11 : decode cX12_next 11 = .ok (.aload_n 0, 1) := by decide +kernel
theorem dX12_next_12 : decode cX12_next 12 = .ok (.getfield 25, 3) := by decide +kernel
theorem dX12_next_15 : decode cX12_next 15 = .ok (.aload_n 0, 1) := by decide +kernel
theorem dX12_next_16 : decode cX12_next 16 = .ok (.getfield 176, 3) := by decide +kernel
theorem dX12_next_19 : decode cX12_next 19 = .ok (.iaload, 1) := by decide +kernel
theorem dX12_next_20 : decode cX12_next 20 = .ok (.bipush 32, 2) := by decide +kernel
theorem dX12_next_22 : decode cX12_next 22 = .ok (.if_icmp .ne 16, 3) := by decide +kernel
theorem dX12_next_25 : decode cX12_next 25 = .ok (.aload_n 0, 1) := by decide +kernel
theorem dX12_next_26 : decode cX12_next 26 = .ok (.dup, 1) := by decide +kernel
theorem dX12_next_27 : decode cX12_next 27 = .ok (.getfield 176, 3) := by decide +kernel
theorem dX12_next_30 : decode cX12_next 30 = .ok (.iconst 1, 1) := by decide +kernel
theorem dX12_next_31 : decode cX12_next 31 = .ok (.iadd, 1) := by decide +kernel
theorem dX12_next_32 : decode cX12_next 32 = .ok (.putfield 176, 3) := by decide +kernel
theorem dX12_next_35 : decode cX12_next 35 = .ok (.goto (-35), 3) := by decide +kernel
theorem dX12_next_38 : decode cX12_next 38 = .ok (.aload_n 0, 1) := by decide +kernel
theorem dX12_next_39 : decode cX12_next 39 = .ok (.aload_n 0, 1) := by decide +kernel
theorem dX12_next_40 : decode cX12_next 40 = .ok (.getfield 176, 3) := by decide +kernel
theorem dX12_next_43 : decode cX12_next 43 = .ok (.putfield 179, 3) := by decide +kernel
theorem dX12_next_46 : decode cX12_next 46 = .ok (.aload_n 0, 1) := by decide +kernel
theorem dX12_next_47 : decode cX12_next 47 = .ok (.lconst 0, 1) := by decide +kernel
theorem dX12_next_48 : decode cX12_next 48 = .ok (.putfield 182, 3) := by decide +kernel
theorem dX12_next_51 : decode cX12_next 51 = .ok (.aload_n 0, 1) := by decide +kernel
theorem dX12_next_52 : decode cX12_next 52 = .ok (.getfield 176, 3) := by decide +kernel
theorem dX12_next_55 : decode cX12_next 55 = .ok (.aload_n 0, 1) := by decide +kernel
theorem dX12_next_56 : decode cX12_next 56 = .ok (.getfield 171, 3) := by decide +kernel
theorem dX12_next_59 : decode cX12_next 59 = .ok (.if_icmp .ne 11, 3) := by decide +kernel
theorem dX12_next_62 : decode cX12_next 62 = .ok (.aload_n 0, 1) := by decide +kernel
theorem dX12_next_63 : decode cX12_next 63 = .ok (.iconst 0, 1) := by decide +kernel
theorem dX12_next_64 : decode cX12_next 64 = .ok (.putfield 186, 3) := by decide +kernel
theorem dX12_next_67 : decode cX12_next 67 = .ok (.goto 268, 3) := by decide +kernel
theorem dX12_next_70 : decode cX12_next 70 = .ok (.aload_n 0, 1) := by decide +kernel
theorem dX12_next_71 : decode cX12_next 71 = .ok (.bipush 97, 2) := by decide +kernel
theorem dX12_next_73 : decode cX12_next 73 = .ok (.bipush 122, 2) := by decide +kernel
theorem dX12_next_75 : decode cX12_next 75 = .ok (.invokevirtual 189, 3) := by decide +kernel
theorem dX12_next_78 : decode cX12_next 78 = .ok (.ifCond .eq 112, 3) := by decide +kernel
theorem dX12_next_81 : decode cX12_next 81 = .ok (.aload_n 0, 1) := by decide +kernel
theorem dX12_next_82 : decode cX12_next 82 = .ok (.iconst 1, 1) := by decide +kernel
theorem dX12_next_83 : decode cX12_next 83 = .ok (.putfield 186, 3) := by decide +kernel
theorem dX12_next_86 : decode cX12_next 86 = .ok (.aload_n 0, 1) := by decide +kernel
theorem dX12_next_87 : decode cX12_next 87 = .ok (.bipush 97, 2) := by decide +kernel
theorem dX12_next_89 : decode cX12_next 89 = .ok (.bipush 122, 2) := by decide +kernel
theorem dX12_next_91 : decode cX12_next 91 = .ok (.invokevirtual 189, 3) := by decide +kernel
theorem dX12_next_94 : decode cX12_next 94 = .ok (.ifCond .eq 65, 3) := by decide +kernel
theorem dX12_next_97 : decode cX12_next 97 = .ok (.aload_n 0, 1) := by decide +kernel
theorem dX12_next_98 : decode cX12_next 98 = .ok (.aload_n 0, 1) := by decide +kernel
theorem dX12_next_99 : decode cX12_next 99 = .ok (.getfield 176, 3) := by decide +kernel
theorem dX12_next_102 : decode cX12_next 102 = .ok (.aload_n 0, 1) := by decide +kernel
theorem dX12_next_103 : decode cX12_next 103 = .ok (.getfield 179, 3) := by decide +kernel
theorem dX12_next_106 : decode cX12_next 106 = .ok (.isub, 1) := by decide +kernel
theorem dX12_next_107 : decode cX12_next 107 = .ok (.bipush 7, 2) := by decide +kernel
theorem dX12_next_109 : decode cX12_next 109 = .ok (.if_icmp .ge 31, 3) := by decide +kernel
theorem dX12_next_112 : decode cX12_next 112 = .ok (.ldc2_w 193, 3) := by decide +kernel
theorem dX12_next_115 : decode cX12_next 115 = .ok (.aload_n 0, 1) := by decide +kernel
theorem dX12_next_116 : decode cX12_next 116 = .ok (.getfield 182, 3) := by decide +kernel
theorem dX12_next_119 : decode cX12_next 119 = .ok (.lmul, 1) := by decide +kernel
theorem dX12_next_120 : decode cX12_next 120 = .ok (.aload_n 0, 1) := by decide +kernel
theorem dX12_next_121 : decode cX12_next 121 = .ok (.getfield 25, 3) := by decide +kernel
theorem dX12_next_124 : decode cX12_next 124 = .ok (.aload_n 0, 1) := by decide +kernel
theorem dX12_next_125 : decode cX12_next 125 = .ok (.getfield 176, 3) := by decide +kernel
theorem dX12_next_128 : decode cX12_next 128 = .ok (.iaload, 1) := by decide +kernel
theorem dX12_next_129 : decode cX12_next 129 = .ok (.i2l, 1) := by decide +kernel
theorem dX12_next_130 : decode cX12_next 130 = .ok (.ladd, 1) := by decide +kernel
theorem dX12_next_131 : decode cX12_next 131 = .ok (.ldc2_w 195, 3) := by decide +kernel
theorem dX12_next_134 : decode cX12_next 134 = .ok (.lsub, 1) := by decide +kernel
theorem dX12_next_135 : decode cX12_next 135 = .ok (.lconst 1, 1) := by decide +kernel
theorem dX12_next_136 : decode cX12_next 136 = .ok (.ladd, 1) := by decide +kernel
theorem dX12_next_137 : decode cX12_next 137 = .ok (.goto 6, 3) := by decide +kernel
theorem dX12_next_140 : decode cX12_next 140 = .ok (.ldc2_w 197, 3) := by decide +kernel
theorem dX12_next_143 : decode cX12_next 143 = .ok (.putfield 182, 3) := by decide +kernel
theorem dX12_next_146 : decode cX12_next 146 = .ok (.aload_n 0, 1) := by decide +kernel
theorem dX12_next_147 : decode cX12_next 147 = .ok (.dup, 1) := by decide +kernel
theorem dX12_next_148 : decode cX12_next 148 = .ok (.getfield 176, 3) := by decide +kernel
theorem dX12_next_151 : decode cX12_next 151 = .ok (.iconst 1, 1) := by decide +kernel
theorem dX12_next_152 : decode cX12_next 152 = .ok (.iadd, 1) := by decide +kernel
theorem dX12_next_153 : decode cX12_next 153 = .ok (.putfield 176, 3) := by decide +kernel
theorem dX12_next_156 : decode cX12_next 156 = .ok (.goto (-70), 3) := by decide +kernel
theorem dX12_next_159 : decode cX12_next 159 = .ok (.aload_n 0, 1) := by decide +kernel
theorem dX12_next_160 : decode cX12_next 160 = .ok (.aload_n 0, 1) := by decide +kernel
theorem dX12_next_161 : decode cX12_next 161 = .ok (.getfield 176, 3) := by decide +kernel
theorem dX12_next_164 : decode cX12_next 164 = .ok (.aload_n 0, 1) := by decide +kernel
theorem dX12_next_165 : decode cX12_next 165 = .ok (.getfield 179, 3) := by decide +kernel
theorem dX12_next_168 : decode cX12_next 168 = .ok (.isub, 1) := by decide +kernel
theorem dX12_next_169 : decode cX12_next 169 = .ok (.bipush 7, 2) := by decide +kernel
theorem dX12_next_171 : decode cX12_next 171 = .ok (.if_icmp .le 9, 3) := by decide +kernel
theorem dX12_next_174 : decode cX12_next 174 = .ok (.ldc2_w 197, 3) := by decide +kernel
theorem dX12_next_177 : decode cX12_next 177 = .ok (.goto 7, 3) := by decide +kernel
theorem dX12_next_180 : decode cX12_next 180 = .ok (.aload_n 0, 1) := by decide +kernel
theorem dX12_next_181 : decode cX12_next 181 = .ok (.getfield 182, 3) := by decide +kernel
theorem dX12_next_184 : decode cX12_next 184 = .ok (.putfield 182, 3) := by decide +kernel
theorem dX12_next_187 : decode cX12_next 187 = .ok (.goto 148, 3) := by decide +kernel
theorem dX12_next_190 : decode cX12_next 190 = .ok (.aload_n 0, 1) := by decide +kernel
theorem dX12_next_191 : decode cX12_next 191 = .ok (.bipush 48, 2) := by decide +kernel
theorem dX12_next_193 : decode cX12_next 193 = .ok (.bipush 57, 2) := by decide +kernel
theorem dX12_next_195 : decode cX12_next 195 = .ok (.invokevirtual 189, 3) := by decide +kernel
theorem dX12_next_198 : decode cX12_next 198 = .ok (.ifCond .eq 108, 3) := by decide +kernel
theorem dX12_next_201 : decode cX12_next 201 = .ok (.aload_n 0, 1) := by decide +kernel
theorem dX12_next_202 : decode cX12_next 202 = .ok (.iconst 2, 1) := by decide +kernel
theorem dX12_next_203 : decode cX12_next 203 = .ok (.putfield 186, 3) := by decide +kernel
theorem dX12_next_206 : decode cX12_next 206 = .ok (.aload_n 0, 1) := by decide +kernel
theorem dX12_next_207 : decode cX12_next 207 = .ok (.bipush 48, 2) := by decide +kernel
theorem dX12_next_209 : decode cX12_next 209 = .ok (.bipush 57, 2) := by decide +kernel
theorem dX12_next_211 : decode cX12_next 211 = .ok (.invokevirtual 189, 3) := by decide +kernel
theorem dX12_next_214 : decode cX12_next 214 = .ok (.ifCond .eq 62, 3) := by decide +kernel
theorem dX12_next_217 : decode cX12_next 217 = .ok (.aload_n 0, 1) := by decide +kernel
theorem dX12_next_218 : decode cX12_next 218 = .ok (.aload_n 0, 1) := by decide +kernel
theorem dX12_next_219 : decode cX12_next 219 = .ok (.getfield 176, 3) := by decide +kernel
theorem dX12_next_222 : decode cX12_next 222 = .ok (.aload_n 0, 1) := by decide +kernel
theorem dX12_next_223 : decode cX12_next 223 = .ok (.getfield 179, 3) := by decide +kernel
theorem dX12_next_226 : decode cX12_next 226 = .ok (.isub, 1) := by decide +kernel
theorem dX12_next_227 : decode cX12_next 227 = .ok (.iconst 4, 1) := by decide +kernel
theorem dX12_next_228 : decode cX12_next 228 = .ok (.if_icmp .ge 29, 3) := by decide +kernel
theorem dX12_next_231 : decode cX12_next 231 = .ok (.ldc2_w 199, 3) := by decide +kernel
theorem dX12_next_234 : decode cX12_next 234 = .ok (.aload_n 0, 1) := by decide +kernel
theorem dX12_next_235 : decode cX12_next 235 = .ok (.getfield 182, 3) := by decide +kernel
theorem dX12_next_238 : decode cX12_next 238 = .ok (.lmul, 1) := by decide +kernel
theorem dX12_next_239 : decode cX12_next 239 = .ok (.aload_n 0, 1) := by decide +kernel
theorem dX12_next_240 : decode cX12_next 240 = .ok (.getfield 25, 3) := by decide +kernel
theorem dX12_next_243 : decode cX12_next 243 = .ok (.aload_n 0, 1) := by decide +kernel
theorem dX12_next_244 : decode cX12_next 244 = .ok (.getfield 176, 3) := by decide +kernel
theorem dX12_next_247 : decode cX12_next 247 = .ok (.iaload, 1) := by decide +kernel
theorem dX12_next_248 : decode cX12_next 248 = .ok (.i2l, 1) := by decide +kernel
theorem dX12_next_249 : decode cX12_next 249 = .ok (.ladd, 1) := by decide +kernel
theorem dX12_next_250 : decode cX12_next 250 = .ok (.ldc2_w 201, 3) := by decide +kernel
theorem dX12_next_253 : decode cX12_next 253 = .ok (.lsub, 1) := by decide +kernel
theorem dX12_next_254 : decode cX12_next 254 = .ok (.goto 6, 3) := by decide +kernel
theorem dX12_next_257 : decode cX12_next 257 = .ok (.ldc2_w 203, 3) := by decide +kernel
theorem dX12_next_260 : decode cX12_next 260 = .ok (.putfield 182, 3) := by decide +kernel
theorem dX12_next_263 : decode cX12_next 263 = .ok (.aload_n 0, 1) := by decide +kernel
theorem dX12_next_264 : decode cX12_next 264 = .ok (.dup, 1) := by decide +kernel
theorem dX12_next_265 : decode cX12_next 265 = .ok (.getfield 176, 3) := by decide +kernel
theorem dX12_next_268 : decode cX12_next 268 = .ok (.iconst 1, 1) := by decide +kernel
theorem dX12_next_269 : decode cX12_next 269 = .ok (.iadd, 1) := by decide +kernel
theorem dX12_next_270 : decode cX12_next 270 = .ok (.putfield 176, 3) := by decide +kernel
theorem dX12_next_273 : decode cX12_next 273 = .ok (.goto (-67), 3) := by decide +kernel
theorem dX12_next_276 : decode cX12_next 276 = .ok (.aload_n 0, 1) := by decide +kernel
theorem dX12_next_277 : decode cX12_next 277 = .ok (.aload_n 0, 1) := by decide +kernel
theorem dX12_next_278 : decode cX12_next 278 = .ok (.getfield 176, 3) := by decide +kernel
theorem dX12_next_281 : decode cX12_next 281 = .ok (.aload_n 0, 1) := by decide +kernel
theorem dX12_next_282 : decode cX12_next 282 = .ok (.getfield 179, 3) := by decide +kernel
theorem dX12_next_285 : decode cX12_next 285 = .ok (.isub, 1) := by decide +kernel
theorem dX12_next_286 : decode cX12_next 286 = .ok (.iconst 4, 1) := by decide +kernel
theorem dX12_next_287 : decode cX12_next 287 = .ok (.if_icmp .le 9, 3) := by decide +kernel
theorem dX12_next_290 : decode cX12_next 290 = .ok (.ldc2_w 203, 3) := by decide +kernel
theorem dX12_next_293 : decode cX12_next 293 = .ok (.goto 7, 3) := by decide +kernel
theorem dX12_next_296 : decode cX12_next 296 = .ok (.aload_n 0, 1) := by decide +kernel
theorem dX12_next_297 : decode cX12_next 297 = .ok (.getfield 182, 3) := by decide +kernel
theorem dX12_next_300 : decode cX12_next 300 = .ok (.putfield 182, 3) := by decide +kernel
theorem dX12_next_303 : decode cX12_next 303 = .ok (.goto 32, 3) := by decide +kernel
theorem dX12_next_306 : decode cX12_next 306 = .ok (.aload_n 0, 1) := by decide +kernel
theorem dX12_next_307 : decode cX12_next 307 = .ok (.iconst 3, 1) := by decide +kernel
theorem dX12_next_308 : decode cX12_next 308 = .ok (.putfield 186, 3) := by decide +kernel
theorem dX12_next_311 : decode cX12_next 311 = .ok (.aload_n 0, 1) := by decide +kernel
theorem dX12_next_312 : decode cX12_next 312 = .ok (.aload_n 0, 1) := by decide +kernel
theorem dX12_next_313 : decode cX12_next 313 = .ok (.getfield 25, 3) := by decide +kernel
theorem dX12_next_316 : decode cX12_next 316 = .ok (.aload_n 0, 1) := by decide +kernel
theorem dX12_next_317 : decode cX12_next 317 = .ok (.getfield 176, 3) := by decide +kernel
theorem dX12_next_320 : decode cX12_next 320 = .ok (.iaload, 1) := by decide +kernel
theorem dX12_next_321 : decode cX12_next 321 = .ok (.i2l, 1) := by decide +kernel
theorem dX12_next_322 : decode cX12_next 322 = .ok (.putfield 182, 3) := by decide +kernel
theorem dX12_next_325 : decode cX12_next 325 = .ok (.aload_n 0, 1) := by decide +kernel
theorem dX12_next_326 : decode cX12_next 326 = .ok (.dup, 1) := by decide +kernel
theorem dX12_next_327 : decode cX12_next 327 = .ok (.getfield 176, 3) := by decide +kernel
theorem dX12_next_330 : decode cX12_next 330 = .ok (.iconst 1, 1) := by decide +kernel
theorem dX12_next_331 : decode cX12_next 331 = .ok (.iadd, 1) := by decide +kernel
theorem dX12_next_332 : decode cX12_next 332 = .ok (.putfield 176, 3) := by decide +kernel
theorem dX12_next_335 : decode cX12_next 335 = .ok (.return_, 1) := by decide +kernel
theorem dX12_isWord_0 : decode cX12_isWord 0 = .ok (.aload_n 0, 1) := by decide +kernel
theorem dX12_isWord_1 : decode cX12_isWord 1 = .ok (.getfield 186, 3) := by decide +kernel
theorem dX12_isWord_4 : decode cX12_isWord 4 = .ok (.iconst 1, 1) := by decide +kernel
theorem dX12_isWord_5 : decode cX12_isWord 5 = .ok (.if_icmp .ne 23, 3) := by decide +kernel
theorem dX12_isWord_8 : decode cX12_isWord 8 = .ok (.aload_n 0, 1) := by decide +kernel
theorem dX12_isWord_9 : decode cX12_isWord 9 = .ok (.getfield 182, 3) := by decide +kernel
theorem dX12_isWord_12 : decode cX12_isWord 12 = .ok (.lload_n 1, 1) := by decide +kernel
theorem dX12_isWord_13 : decode cX12_isWord 13 = .ok (.lcmp, 1) := by decide +kernel
theorem dX12_isWord_14 : decode cX12_isWord 14 = .ok (.ifCond .ne 14, 3) := by decide +kernel
theorem dX12_isWord_17 : decode cX12_isWord 17 = .ok (.aload_n 0, 1) := by decide +kernel
theorem dX12_isWord_18 : decode cX12_isWord 18 = .ok (.getfield 205, 3) := by decide +kernel
theorem dX12_isWord_21 : decode cX12_isWord 21 = .ok (.ifCond .ne 7, 3) := by decide +kernel
theorem dX12_isWord_24 : decode cX12_isWord 24 = .ok (.iconst 1, 1) := by decide +kernel
theorem dX12_isWord_25 : decode cX12_isWord 25 = .ok (.goto 4, 3) := by decide +kernel
theorem dX12_isWord_28 : decode cX12_isWord 28 = .ok (.iconst 0, 1) := by decide +kernel
theorem dX12_isWord_29 : decode cX12_isWord 29 = .ok (.ireturn, 1) := by decide +kernel
theorem dX12_isByte_0 : decode cX12_isByte 0 = .ok (.aload_n 0, 1) := by decide +kernel
theorem dX12_isByte_1 : decode cX12_isByte 1 = .ok (.getfield 186, 3) := by decide +kernel
theorem dX12_isByte_4 : decode cX12_isByte 4 = .ok (.iconst 3, 1) := by decide +kernel
theorem dX12_isByte_5 : decode cX12_isByte 5 = .ok (.if_icmp .ne 24, 3) := by decide +kernel
theorem dX12_isByte_8 : decode cX12_isByte 8 = .ok (.aload_n 0, 1) := by decide +kernel
theorem dX12_isByte_9 : decode cX12_isByte 9 = .ok (.getfield 182, 3) := by decide +kernel
theorem dX12_isByte_12 : decode cX12_isByte 12 = .ok (.iload_n 1, 1) := by decide +kernel
theorem dX12_isByte_13 : decode cX12_isByte 13 = .ok (.i2l, 1) := by decide +kernel
theorem dX12_isByte_14 : decode cX12_isByte 14 = .ok (.lcmp, 1) := by decide +kernel
theorem dX12_isByte_15 : decode cX12_isByte 15 = .ok (.ifCond .ne 14, 3) := by decide +kernel
theorem dX12_isByte_18 : decode cX12_isByte 18 = .ok (.aload_n 0, 1) := by decide +kernel
theorem dX12_isByte_19 : decode cX12_isByte 19 = .ok (.getfield 205, 3) := by decide +kernel
theorem dX12_isByte_22 : decode cX12_isByte 22 = .ok (.ifCond .ne 7, 3) := by decide +kernel
theorem dX12_isByte_25 : decode cX12_isByte 25 = .ok (.iconst 1, 1) := by decide +kernel
theorem dX12_isByte_26 : decode cX12_isByte 26 = .ok (.goto 4, 3) := by decide +kernel
theorem dX12_isByte_29 : decode cX12_isByte 29 = .ok (.iconst 0, 1) := by decide +kernel
theorem dX12_isByte_30 : decode cX12_isByte 30 = .ok (.ireturn, 1) := by decide +kernel
theorem dX12_lays_0 : decode cX12_lays 0 = .ok (.aload_n 0, 1) := by decide +kernel
theorem dX12_lays_1 : decode cX12_lays 1 = .ok (.getfield 205, 3) := by decide +kernel
theorem dX12_lays_4 : decode cX12_lays 4 = .ok (.ifCond .ne 23, 3) := by decide +kernel
theorem dX12_lays_7 : decode cX12_lays 7 = .ok (.aload_n 0, 1) := by decide +kernel
theorem dX12_lays_8 : decode cX12_lays 8 = .ok (.getfield 28, 3) := by decide +kernel
theorem dX12_lays_11 : decode cX12_lays 11 = .ok (.aload_n 0, 1) := by decide +kernel
theorem dX12_lays_12 : decode cX12_lays 12 = .ok (.getfield 209, 3) := by decide +kernel
theorem dX12_lays_15 : decode cX12_lays 15 = .ok (.iload_n 1, 1) := by decide +kernel
theorem dX12_lays_16 : decode cX12_lays 16 = .ok (.iastore, 1) := by decide +kernel
theorem dX12_lays_17 : decode cX12_lays 17 = .ok (.aload_n 0, 1) := by decide +kernel
theorem dX12_lays_18 : decode cX12_lays 18 = .ok (.dup, 1) := by decide +kernel
theorem dX12_lays_19 : decode cX12_lays 19 = .ok (.getfield 209, 3) := by decide +kernel
theorem dX12_lays_22 : decode cX12_lays 22 = .ok (.iconst 1, 1) := by decide +kernel
theorem dX12_lays_23 : decode cX12_lays 23 = .ok (.iadd, 1) := by decide +kernel
theorem dX12_lays_24 : decode cX12_lays 24 = .ok (.putfield 209, 3) := by decide +kernel
theorem dX12_lays_27 : decode cX12_lays 27 = .ok (.return_, 1) := by decide +kernel
theorem dX12_kindHere_0 : decode cX12_kindHere 0 = .ok (.aload_n 0, 1) := by decide +kernel
theorem dX12_kindHere_1 : decode cX12_kindHere 1 = .ok (.ldc2_w 212, 3) := by decide +kernel
theorem dX12_kindHere_4 : decode cX12_kindHere 4 = .ok (.invokevirtual 214, 3) := by decide +kernel
theorem dX12_kindHere_7 : decode cX12_kindHere 7 = .ok (.ifCond .eq 7, 3) := by decide +kernel
theorem dX12_kindHere_10 : decode cX12_kindHere 10 = .ok (.iconst 0, 1) := by decide +kernel
theorem dX12_kindHere_11 : decode cX12_kindHere 11 = .ok (.goto 74, 3) := by decide +kernel
theorem dX12_kindHere_14 : decode cX12_kindHere 14 = .ok (.aload_n 0, 1) := by decide +kernel
theorem dX12_kindHere_15 : decode cX12_kindHere 15 = .ok (.ldc2_w 218, 3) := by decide +kernel
theorem dX12_kindHere_18 : decode cX12_kindHere 18 = .ok (.invokevirtual 214, 3) := by decide +kernel
theorem dX12_kindHere_21 : decode cX12_kindHere 21 = .ok (.ifCond .eq 7, 3) := by decide +kernel
theorem dX12_kindHere_24 : decode cX12_kindHere 24 = .ok (.iconst 1, 1) := by decide +kernel
theorem dX12_kindHere_25 : decode cX12_kindHere 25 = .ok (.goto 60, 3) := by decide +kernel
theorem dX12_kindHere_28 : decode cX12_kindHere 28 = .ok (.aload_n 0, 1) := by decide +kernel
theorem dX12_kindHere_29 : decode cX12_kindHere 29 = .ok (.ldc2_w 220, 3) := by decide +kernel
theorem dX12_kindHere_32 : decode cX12_kindHere 32 = .ok (.invokevirtual 214, 3) := by decide +kernel
theorem dX12_kindHere_35 : decode cX12_kindHere 35 = .ok (.ifCond .eq 7, 3) := by decide +kernel
theorem dX12_kindHere_38 : decode cX12_kindHere 38 = .ok (.iconst 2, 1) := by decide +kernel
theorem dX12_kindHere_39 : decode cX12_kindHere 39 = .ok (.goto 46, 3) := by decide +kernel
theorem dX12_kindHere_42 : decode cX12_kindHere 42 = .ok (.aload_n 0, 1) := by decide +kernel
theorem dX12_kindHere_43 : decode cX12_kindHere 43 = .ok (.ldc2_w 222, 3) := by decide +kernel
theorem dX12_kindHere_46 : decode cX12_kindHere 46 = .ok (.invokevirtual 214, 3) := by decide +kernel
theorem dX12_kindHere_49 : decode cX12_kindHere 49 = .ok (.ifCond .eq 7, 3) := by decide +kernel
theorem dX12_kindHere_52 : decode cX12_kindHere 52 = .ok (.iconst 3, 1) := by decide +kernel
theorem dX12_kindHere_53 : decode cX12_kindHere 53 = .ok (.goto 32, 3) := by decide +kernel
theorem dX12_kindHere_56 : decode cX12_kindHere 56 = .ok (.aload_n 0, 1) := by decide +kernel
theorem dX12_kindHere_57 : decode cX12_kindHere 57 = .ok (.ldc2_w 224, 3) := by decide +kernel
theorem dX12_kindHere_60 : decode cX12_kindHere 60 = .ok (.invokevirtual 214, 3) := by decide +kernel
theorem dX12_kindHere_63 : decode cX12_kindHere 63 = .ok (.ifCond .eq 7, 3) := by decide +kernel
theorem dX12_kindHere_66 : decode cX12_kindHere 66 = .ok (.iconst 4, 1) := by decide +kernel
theorem dX12_kindHere_67 : decode cX12_kindHere 67 = .ok (.goto 18, 3) := by decide +kernel
theorem dX12_kindHere_70 : decode cX12_kindHere 70 = .ok (.aload_n 0, 1) := by decide +kernel
theorem dX12_kindHere_71 : decode cX12_kindHere 71 = .ok (.ldc2_w 226, 3) := by decide +kernel
theorem dX12_kindHere_74 : decode cX12_kindHere 74 = .ok (.invokevirtual 214, 3) := by decide +kernel
theorem dX12_kindHere_77 : decode cX12_kindHere 77 = .ok (.ifCond .eq 7, 3) := by decide +kernel
theorem dX12_kindHere_80 : decode cX12_kindHere 80 = .ok (.iconst 5, 1) := by decide +kernel
theorem dX12_kindHere_81 : decode cX12_kindHere 81 = .ok (.goto 4, 3) := by decide +kernel
theorem dX12_kindHere_84 : decode cX12_kindHere 84 = .ok (.iconst (-1), 1) := by decide +kernel
theorem dX12_kindHere_85 : decode cX12_kindHere 85 = .ok (.ireturn, 1) := by decide +kernel
theorem dX12_doHere_0 : decode cX12_doHere 0 = .ok (.aload_n 0, 1) := by decide +kernel
theorem dX12_doHere_1 : decode cX12_doHere 1 = .ok (.ldc2_w 228, 3) := by decide +kernel
theorem dX12_doHere_4 : decode cX12_doHere 4 = .ok (.invokevirtual 214, 3) := by decide +kernel
theorem dX12_doHere_7 : decode cX12_doHere 7 = .ok (.ifCond .eq 7, 3) := by decide +kernel
theorem dX12_doHere_10 : decode cX12_doHere 10 = .ok (.iconst 0, 1) := by decide +kernel
theorem dX12_doHere_11 : decode cX12_doHere 11 = .ok (.goto 32, 3) := by decide +kernel
theorem dX12_doHere_14 : decode cX12_doHere 14 = .ok (.aload_n 0, 1) := by decide +kernel
theorem dX12_doHere_15 : decode cX12_doHere 15 = .ok (.ldc2_w 230, 3) := by decide +kernel
theorem dX12_doHere_18 : decode cX12_doHere 18 = .ok (.invokevirtual 214, 3) := by decide +kernel
theorem dX12_doHere_21 : decode cX12_doHere 21 = .ok (.ifCond .eq 7, 3) := by decide +kernel
theorem dX12_doHere_24 : decode cX12_doHere 24 = .ok (.iconst 1, 1) := by decide +kernel
theorem dX12_doHere_25 : decode cX12_doHere 25 = .ok (.goto 18, 3) := by decide +kernel
theorem dX12_doHere_28 : decode cX12_doHere 28 = .ok (.aload_n 0, 1) := by decide +kernel
theorem dX12_doHere_29 : decode cX12_doHere 29 = .ok (.ldc2_w 232, 3) := by decide +kernel
theorem dX12_doHere_32 : decode cX12_doHere 32 = .ok (.invokevirtual 214, 3) := by decide +kernel
theorem dX12_doHere_35 : decode cX12_doHere 35 = .ok (.ifCond .eq 7, 3) := by decide +kernel
theorem dX12_doHere_38 : decode cX12_doHere 38 = .ok (.iconst 2, 1) := by decide +kernel
theorem dX12_doHere_39 : decode cX12_doHere 39 = .ok (.goto 4, 3) := by decide +kernel
theorem dX12_doHere_42 : decode cX12_doHere 42 = .ok (.iconst (-1), 1) := by decide +kernel
theorem dX12_doHere_43 : decode cX12_doHere 43 = .ok (.ireturn, 1) := by decide +kernel
theorem dX12_factHere_0 : decode cX12_factHere 0 = .ok (.aload_n 0, 1) := by decide +kernel
theorem dX12_factHere_1 : decode cX12_factHere 1 = .ok (.ldc2_w 234, 3) := by decide +kernel
theorem dX12_factHere_4 : decode cX12_factHere 4 = .ok (.invokevirtual 214, 3) := by decide +kernel
theorem dX12_factHere_7 : decode cX12_factHere 7 = .ok (.ifCond .eq 7, 3) := by decide +kernel
theorem dX12_factHere_10 : decode cX12_factHere 10 = .ok (.iconst 0, 1) := by decide +kernel
theorem dX12_factHere_11 : decode cX12_factHere 11 = .ok (.goto 60, 3) := by decide +kernel
theorem dX12_factHere_14 : decode cX12_factHere 14 = .ok (.aload_n 0, 1) := by decide +kernel
theorem dX12_factHere_15 : decode cX12_factHere 15 = .ok (.ldc2_w 236, 3) := by decide +kernel
theorem dX12_factHere_18 : decode cX12_factHere 18 = .ok (.invokevirtual 214, 3) := by decide +kernel
theorem dX12_factHere_21 : decode cX12_factHere 21 = .ok (.ifCond .eq 7, 3) := by decide +kernel
theorem dX12_factHere_24 : decode cX12_factHere 24 = .ok (.iconst 1, 1) := by decide +kernel
theorem dX12_factHere_25 : decode cX12_factHere 25 = .ok (.goto 46, 3) := by decide +kernel
theorem dX12_factHere_28 : decode cX12_factHere 28 = .ok (.aload_n 0, 1) := by decide +kernel
theorem dX12_factHere_29 : decode cX12_factHere 29 = .ok (.ldc2_w 238, 3) := by decide +kernel
theorem dX12_factHere_32 : decode cX12_factHere 32 = .ok (.invokevirtual 214, 3) := by decide +kernel
theorem dX12_factHere_35 : decode cX12_factHere 35 = .ok (.ifCond .eq 7, 3) := by decide +kernel
theorem dX12_factHere_38 : decode cX12_factHere 38 = .ok (.iconst 2, 1) := by decide +kernel
theorem dX12_factHere_39 : decode cX12_factHere 39 = .ok (.goto 32, 3) := by decide +kernel
theorem dX12_factHere_42 : decode cX12_factHere 42 = .ok (.aload_n 0, 1) := by decide +kernel
theorem dX12_factHere_43 : decode cX12_factHere 43 = .ok (.ldc2_w 240, 3) := by decide +kernel
theorem dX12_factHere_46 : decode cX12_factHere 46 = .ok (.invokevirtual 214, 3) := by decide +kernel
theorem dX12_factHere_49 : decode cX12_factHere 49 = .ok (.ifCond .eq 7, 3) := by decide +kernel
theorem dX12_factHere_52 : decode cX12_factHere 52 = .ok (.iconst 3, 1) := by decide +kernel
theorem dX12_factHere_53 : decode cX12_factHere 53 = .ok (.goto 18, 3) := by decide +kernel
theorem dX12_factHere_56 : decode cX12_factHere 56 = .ok (.aload_n 0, 1) := by decide +kernel
theorem dX12_factHere_57 : decode cX12_factHere 57 = .ok (.ldc2_w 242, 3) := by decide +kernel
theorem dX12_factHere_60 : decode cX12_factHere 60 = .ok (.invokevirtual 214, 3) := by decide +kernel
theorem dX12_factHere_63 : decode cX12_factHere 63 = .ok (.ifCond .eq 7, 3) := by decide +kernel
theorem dX12_factHere_66 : decode cX12_factHere 66 = .ok (.iconst 4, 1) := by decide +kernel
theorem dX12_factHere_67 : decode cX12_factHere 67 = .ok (.goto 4, 3) := by decide +kernel
theorem dX12_factHere_70 : decode cX12_factHere 70 = .ok (.iconst (-1), 1) := by decide +kernel
theorem dX12_factHere_71 : decode cX12_factHere 71 = .ok (.ireturn, 1) := by decide +kernel
theorem dX12_goesBy_0 : decode cX12_goesBy 0 = .ok (.aload_n 0, 1) := by decide +kernel
theorem dX12_goesBy_1 : decode cX12_goesBy 1 = .ok (.aload_n 0, 1) := by decide +kernel
theorem dX12_goesBy_2 : decode cX12_goesBy 2 = .ok (.getfield 205, 3) := by decide +kernel
theorem dX12_goesBy_5 : decode cX12_goesBy 5 = .ok (.ifCond .ne 7, 3) := by decide +kernel
theorem dX12_goesBy_8 : decode cX12_goesBy 8 = .ok (.iload_n 1, 1) := by decide +kernel
theorem dX12_goesBy_9 : decode cX12_goesBy 9 = .ok (.ifCond .ne 7, 3) := by decide +kernel
theorem dX12_goesBy_12 : decode cX12_goesBy 12 = .ok (.iconst 1, 1) := by decide +kernel
theorem dX12_goesBy_13 : decode cX12_goesBy 13 = .ok (.goto 4, 3) := by decide +kernel
theorem dX12_goesBy_16 : decode cX12_goesBy 16 = .ok (.iconst 0, 1) := by decide +kernel
theorem dX12_goesBy_17 : decode cX12_goesBy 17 = .ok (.putfield 205, 3) := by decide +kernel
theorem dX12_goesBy_20 : decode cX12_goesBy 20 = .ok (.aload_n 0, 1) := by decide +kernel
theorem dX12_goesBy_21 : decode cX12_goesBy 21 = .ok (.getfield 205, 3) := by decide +kernel
theorem dX12_goesBy_24 : decode cX12_goesBy 24 = .ok (.ifCond .ne 7, 3) := by decide +kernel
theorem dX12_goesBy_27 : decode cX12_goesBy 27 = .ok (.aload_n 0, 1) := by decide +kernel
theorem dX12_goesBy_28 : decode cX12_goesBy 28 = .ok (.invokevirtual 244, 3) := by decide +kernel
theorem dX12_goesBy_31 : decode cX12_goesBy 31 = .ok (.return_, 1) := by decide +kernel
theorem dX12_valueHere_0 : decode cX12_valueHere 0 = .ok (.aload_n 0, 1) := by decide +kernel
theorem dX12_valueHere_1 : decode cX12_valueHere 1 = .ok (.invokevirtual 247, 3) := by decide +kernel
theorem dX12_valueHere_4 : decode cX12_valueHere 4 = .ok (.istore_n 1, 1) := by decide +kernel
theorem dX12_valueHere_5 : decode cX12_valueHere 5 = .ok (.aload_n 0, 1) := by decide +kernel
theorem dX12_valueHere_6 : decode cX12_valueHere 6 = .ok (.getfield 186, 3) := by decide +kernel
theorem dX12_valueHere_9 : decode cX12_valueHere 9 = .ok (.iconst 2, 1) := by decide +kernel
theorem dX12_valueHere_10 : decode cX12_valueHere 10 = .ok (.if_icmp .ne 18, 3) := by decide +kernel
theorem dX12_valueHere_13 : decode cX12_valueHere 13 = .ok (.aload_n 0, 1) := by decide +kernel
theorem dX12_valueHere_14 : decode cX12_valueHere 14 = .ok (.getfield 182, 3) := by decide +kernel
theorem dX12_valueHere_17 : decode cX12_valueHere 17 = .ok (.ldc2_w 203, 3) := by decide +kernel
theorem dX12_valueHere_20 : decode cX12_valueHere 20 = .ok (.lcmp, 1) := by decide +kernel
theorem dX12_valueHere_21 : decode cX12_valueHere 21 = .ok (.ifCond .ge 7, 3) := by decide +kernel
theorem dX12_valueHere_24 : decode cX12_valueHere 24 = .ok (.iconst 1, 1) := by decide +kernel
theorem dX12_valueHere_25 : decode cX12_valueHere 25 = .ok (.goto 4, 3) := by decide +kernel
theorem dX12_valueHere_28 : decode cX12_valueHere 28 = .ok (.iconst 0, 1) := by decide +kernel
theorem dX12_valueHere_29 : decode cX12_valueHere 29 = .ok (.istore_n 2, 1) := by decide +kernel
theorem dX12_valueHere_30 : decode cX12_valueHere 30 = .ok (.aload_n 0, 1) := by decide +kernel
theorem dX12_valueHere_31 : decode cX12_valueHere 31 = .ok (.iload_n 1, 1) := by decide +kernel
theorem dX12_valueHere_32 : decode cX12_valueHere 32 = .ok (.ifCond .lt 11, 3) := by decide +kernel
theorem dX12_valueHere_35 : decode cX12_valueHere 35 = .ok (.sipush 10000, 3) := by decide +kernel
theorem dX12_valueHere_38 : decode cX12_valueHere 38 = .ok (.iload_n 1, 1) := by decide +kernel
theorem dX12_valueHere_39 : decode cX12_valueHere 39 = .ok (.iadd, 1) := by decide +kernel
theorem dX12_valueHere_40 : decode cX12_valueHere 40 = .ok (.goto 16, 3) := by decide +kernel
theorem dX12_valueHere_43 : decode cX12_valueHere 43 = .ok (.iload_n 2, 1) := by decide +kernel
theorem dX12_valueHere_44 : decode cX12_valueHere 44 = .ok (.ifCond .eq 11, 3) := by decide +kernel
theorem dX12_valueHere_47 : decode cX12_valueHere 47 = .ok (.aload_n 0, 1) := by decide +kernel
theorem dX12_valueHere_48 : decode cX12_valueHere 48 = .ok (.getfield 182, 3) := by decide +kernel
theorem dX12_valueHere_51 : decode cX12_valueHere 51 = .ok (.l2i, 1) := by decide +kernel
theorem dX12_valueHere_52 : decode cX12_valueHere 52 = .ok (.goto 4, 3) := by decide +kernel
theorem dX12_valueHere_55 : decode cX12_valueHere 55 = .ok (.iconst 0, 1) := by decide +kernel
theorem dX12_valueHere_56 : decode cX12_valueHere 56 = .ok (.invokevirtual 250, 3) := by decide +kernel
theorem dX12_valueHere_59 : decode cX12_valueHere 59 = .ok (.aload_n 0, 1) := by decide +kernel
theorem dX12_valueHere_60 : decode cX12_valueHere 60 = .ok (.iload_n 1, 1) := by decide +kernel
theorem dX12_valueHere_61 : decode cX12_valueHere 61 = .ok (.ifCond .ge 7, 3) := by decide +kernel
theorem dX12_valueHere_64 : decode cX12_valueHere 64 = .ok (.iload_n 2, 1) := by decide +kernel
theorem dX12_valueHere_65 : decode cX12_valueHere 65 = .ok (.ifCond .eq 7, 3) := by decide +kernel
theorem dX12_valueHere_68 : decode cX12_valueHere 68 = .ok (.iconst 1, 1) := by decide +kernel
theorem dX12_valueHere_69 : decode cX12_valueHere 69 = .ok (.goto 4, 3) := by decide +kernel
theorem dX12_valueHere_72 : decode cX12_valueHere 72 = .ok (.iconst 0, 1) := by decide +kernel
theorem dX12_valueHere_73 : decode cX12_valueHere 73 = .ok (.invokevirtual 254, 3) := by decide +kernel
theorem dX12_valueHere_76 : decode cX12_valueHere 76 = .ok (.return_, 1) := by decide +kernel
theorem dX12_one_0 : decode cX12_one 0 = .ok (.iconst 0, 1) := by decide +kernel
theorem dX12_one_1 : decode cX12_one 1 = .ok (.istore_n 1, 1) := by decide +kernel
theorem dX12_one_2 : decode cX12_one 2 = .ok (.aload_n 0, 1) := by decide +kernel
theorem dX12_one_3 : decode cX12_one 3 = .ok (.ldc2_w 258, 3) := by decide +kernel
theorem dX12_one_6 : decode cX12_one 6 = .ok (.invokevirtual 214, 3) := by decide +kernel
theorem dX12_one_9 : decode cX12_one 9 = .ok (.ifCond .eq 13, 3) := by decide +kernel
theorem dX12_one_12 : decode cX12_one 12 = .ok (.iinc 1 1, 3) := by decide +kernel
theorem dX12_one_15 : decode cX12_one 15 = .ok (.aload_n 0, 1) := by decide +kernel
theorem dX12_one_16 : decode cX12_one 16 = .ok (.invokevirtual 244, 3) := by decide +kernel
theorem dX12_one_19 : decode cX12_one 19 = .ok (.goto (-17), 3) := by decide +kernel
theorem dX12_one_22 : decode cX12_one 22 = .ok (.aload_n 0, 1) := by decide +kernel
theorem dX12_one_23 : decode cX12_one 23 = .ok (.bipush 40, 2) := by decide +kernel
theorem dX12_one_25 : decode cX12_one 25 = .ok (.invokevirtual 260, 3) := by decide +kernel
theorem dX12_one_28 : decode cX12_one 28 = .ok (.ifCond .eq 57, 3) := by decide +kernel
theorem dX12_one_31 : decode cX12_one 31 = .ok (.aload_n 0, 1) := by decide +kernel
theorem dX12_one_32 : decode cX12_one 32 = .ok (.aload_n 0, 1) := by decide +kernel
theorem dX12_one_33 : decode cX12_one 33 = .ok (.getfield 264, 3) := by decide +kernel
theorem dX12_one_36 : decode cX12_one 36 = .ok (.iconst 3, 1) := by decide +kernel
theorem dX12_one_37 : decode cX12_one 37 = .ok (.if_icmp .ge 7, 3) := by decide +kernel
theorem dX12_one_40 : decode cX12_one 40 = .ok (.iconst 1, 1) := by decide +kernel
theorem dX12_one_41 : decode cX12_one 41 = .ok (.goto 4, 3) := by decide +kernel
theorem dX12_one_44 : decode cX12_one 44 = .ok (.iconst 0, 1) := by decide +kernel
theorem dX12_one_45 : decode cX12_one 45 = .ok (.invokevirtual 254, 3) := by decide +kernel
theorem dX12_one_48 : decode cX12_one 48 = .ok (.aload_n 0, 1) := by decide +kernel
theorem dX12_one_49 : decode cX12_one 49 = .ok (.dup, 1) := by decide +kernel
theorem dX12_one_50 : decode cX12_one 50 = .ok (.getfield 264, 3) := by decide +kernel
theorem dX12_one_53 : decode cX12_one 53 = .ok (.iconst 1, 1) := by decide +kernel
theorem dX12_one_54 : decode cX12_one 54 = .ok (.iadd, 1) := by decide +kernel
theorem dX12_one_55 : decode cX12_one 55 = .ok (.putfield 264, 3) := by decide +kernel
theorem dX12_one_58 : decode cX12_one 58 = .ok (.aload_n 0, 1) := by decide +kernel
theorem dX12_one_59 : decode cX12_one 59 = .ok (.invokevirtual 267, 3) := by decide +kernel
theorem dX12_one_62 : decode cX12_one 62 = .ok (.aload_n 0, 1) := by decide +kernel
theorem dX12_one_63 : decode cX12_one 63 = .ok (.aload_n 0, 1) := by decide +kernel
theorem dX12_one_64 : decode cX12_one 64 = .ok (.bipush 41, 2) := by decide +kernel
theorem dX12_one_66 : decode cX12_one 66 = .ok (.invokevirtual 260, 3) := by decide +kernel
theorem dX12_one_69 : decode cX12_one 69 = .ok (.invokevirtual 254, 3) := by decide +kernel
theorem dX12_one_72 : decode cX12_one 72 = .ok (.aload_n 0, 1) := by decide +kernel
theorem dX12_one_73 : decode cX12_one 73 = .ok (.dup, 1) := by decide +kernel
theorem dX12_one_74 : decode cX12_one 74 = .ok (.getfield 264, 3) := by decide +kernel
theorem dX12_one_77 : decode cX12_one 77 = .ok (.iconst 1, 1) := by decide +kernel
theorem dX12_one_78 : decode cX12_one 78 = .ok (.isub, 1) := by decide +kernel
theorem dX12_one_79 : decode cX12_one 79 = .ok (.putfield 264, 3) := by decide +kernel
theorem dX12_one_82 : decode cX12_one 82 = .ok (.goto 62, 3) := by decide +kernel
theorem dX12_one_85 : decode cX12_one 85 = .ok (.aload_n 0, 1) := by decide +kernel
theorem dX12_one_86 : decode cX12_one 86 = .ok (.invokevirtual 270, 3) := by decide +kernel
theorem dX12_one_89 : decode cX12_one 89 = .ok (.aload_n 0, 1) := by decide +kernel
theorem dX12_one_90 : decode cX12_one 90 = .ok (.getfield 182, 3) := by decide +kernel
theorem dX12_one_93 : decode cX12_one 93 = .ok (.l2i, 1) := by decide +kernel
theorem dX12_one_94 : decode cX12_one 94 = .ok (.istore_n 2, 1) := by decide +kernel
theorem dX12_one_95 : decode cX12_one 95 = .ok (.aload_n 0, 1) := by decide +kernel
theorem dX12_one_96 : decode cX12_one 96 = .ok (.aload_n 0, 1) := by decide +kernel
theorem dX12_one_97 : decode cX12_one 97 = .ok (.bipush 60, 2) := by decide +kernel
theorem dX12_one_99 : decode cX12_one 99 = .ok (.invokevirtual 260, 3) := by decide +kernel
theorem dX12_one_102 : decode cX12_one 102 = .ok (.ifCond .ne 21, 3) := by decide +kernel
theorem dX12_one_105 : decode cX12_one 105 = .ok (.aload_n 0, 1) := by decide +kernel
theorem dX12_one_106 : decode cX12_one 106 = .ok (.bipush 61, 2) := by decide +kernel
theorem dX12_one_108 : decode cX12_one 108 = .ok (.invokevirtual 260, 3) := by decide +kernel
theorem dX12_one_111 : decode cX12_one 111 = .ok (.ifCond .ne 12, 3) := by decide +kernel
theorem dX12_one_114 : decode cX12_one 114 = .ok (.aload_n 0, 1) := by decide +kernel
theorem dX12_one_115 : decode cX12_one 115 = .ok (.bipush 62, 2) := by decide +kernel
theorem dX12_one_117 : decode cX12_one 117 = .ok (.invokevirtual 260, 3) := by decide +kernel
theorem dX12_one_120 : decode cX12_one 120 = .ok (.ifCond .eq 7, 3) := by decide +kernel
theorem dX12_one_123 : decode cX12_one 123 = .ok (.iconst 1, 1) := by decide +kernel
theorem dX12_one_124 : decode cX12_one 124 = .ok (.goto 4, 3) := by decide +kernel
theorem dX12_one_127 : decode cX12_one 127 = .ok (.iconst 0, 1) := by decide +kernel
theorem dX12_one_128 : decode cX12_one 128 = .ok (.invokevirtual 254, 3) := by decide +kernel
theorem dX12_one_131 : decode cX12_one 131 = .ok (.aload_n 0, 1) := by decide +kernel
theorem dX12_one_132 : decode cX12_one 132 = .ok (.invokevirtual 270, 3) := by decide +kernel
theorem dX12_one_135 : decode cX12_one 135 = .ok (.aload_n 0, 1) := by decide +kernel
theorem dX12_one_136 : decode cX12_one 136 = .ok (.sipush 20000, 3) := by decide +kernel
theorem dX12_one_139 : decode cX12_one 139 = .ok (.iload_n 2, 1) := by decide +kernel
theorem dX12_one_140 : decode cX12_one 140 = .ok (.iadd, 1) := by decide +kernel
theorem dX12_one_141 : decode cX12_one 141 = .ok (.invokevirtual 250, 3) := by decide +kernel
theorem dX12_one_144 : decode cX12_one 144 = .ok (.iconst 0, 1) := by decide +kernel
theorem dX12_one_145 : decode cX12_one 145 = .ok (.istore_n 2, 1) := by decide +kernel
theorem dX12_one_146 : decode cX12_one 146 = .ok (.iload_n 2, 1) := by decide +kernel
theorem dX12_one_147 : decode cX12_one 147 = .ok (.iload_n 1, 1) := by decide +kernel
theorem dX12_one_148 : decode cX12_one 148 = .ok (.if_icmp .ge 16, 3) := by decide +kernel
theorem dX12_one_151 : decode cX12_one 151 = .ok (.aload_n 0, 1) := by decide +kernel
theorem dX12_one_152 : decode cX12_one 152 = .ok (.sipush 20033, 3) := by decide +kernel
theorem dX12_one_155 : decode cX12_one 155 = .ok (.invokevirtual 250, 3) := by decide +kernel
theorem dX12_one_158 : decode cX12_one 158 = .ok (.iinc 2 1, 3) := by decide +kernel
theorem dX12_one_161 : decode cX12_one 161 = .ok (.goto (-15), 3) := by decide +kernel
theorem dX12_one_164 : decode cX12_one 164 = .ok (.return_, 1) := by decide +kernel
theorem dX12_both_0 : decode cX12_both 0 = .ok (.aload_n 0, 1) := by decide +kernel
theorem dX12_both_1 : decode cX12_both 1 = .ok (.invokevirtual 273, 3) := by decide +kernel
theorem dX12_both_4 : decode cX12_both 4 = .ok (.aload_n 0, 1) := by decide +kernel
theorem dX12_both_5 : decode cX12_both 5 = .ok (.ldc2_w 276, 3) := by decide +kernel
theorem dX12_both_8 : decode cX12_both 8 = .ok (.invokevirtual 214, 3) := by decide +kernel
theorem dX12_both_11 : decode cX12_both 11 = .ok (.ifCond .eq 21, 3) := by decide +kernel
theorem dX12_both_14 : decode cX12_both 14 = .ok (.aload_n 0, 1) := by decide +kernel
theorem dX12_both_15 : decode cX12_both 15 = .ok (.invokevirtual 244, 3) := by decide +kernel
theorem dX12_both_18 : decode cX12_both 18 = .ok (.aload_n 0, 1) := by decide +kernel
theorem dX12_both_19 : decode cX12_both 19 = .ok (.invokevirtual 273, 3) := by decide +kernel
theorem dX12_both_22 : decode cX12_both 22 = .ok (.aload_n 0, 1) := by decide +kernel
theorem dX12_both_23 : decode cX12_both 23 = .ok (.sipush 20038, 3) := by decide +kernel
theorem dX12_both_26 : decode cX12_both 26 = .ok (.invokevirtual 250, 3) := by decide +kernel
theorem dX12_both_29 : decode cX12_both 29 = .ok (.goto (-25), 3) := by decide +kernel
theorem dX12_both_32 : decode cX12_both 32 = .ok (.return_, 1) := by decide +kernel
theorem dX12_either_0 : decode cX12_either 0 = .ok (.aload_n 0, 1) := by decide +kernel
theorem dX12_either_1 : decode cX12_either 1 = .ok (.getfield 205, 3) := by decide +kernel
theorem dX12_either_4 : decode cX12_either 4 = .ok (.ifCond .eq 4, 3) := by decide +kernel
theorem dX12_either_7 : decode cX12_either 7 = .ok (.return_, 1) := by decide +kernel
theorem dX12_either_8 : decode cX12_either 8 = .ok (.aload_n 0, 1) := by decide +kernel
theorem dX12_either_9 : decode cX12_either 9 = .ok (.invokevirtual 278, 3) := by decide +kernel
theorem dX12_either_12 : decode cX12_either 12 = .ok (.aload_n 0, 1) := by decide +kernel
theorem dX12_either_13 : decode cX12_either 13 = .ok (.ldc2_w 281, 3) := by decide +kernel
theorem dX12_either_16 : decode cX12_either 16 = .ok (.invokevirtual 214, 3) := by decide +kernel
theorem dX12_either_19 : decode cX12_either 19 = .ok (.ifCond .eq 21, 3) := by decide +kernel
theorem dX12_either_22 : decode cX12_either 22 = .ok (.aload_n 0, 1) := by decide +kernel
theorem dX12_either_23 : decode cX12_either 23 = .ok (.invokevirtual 244, 3) := by decide +kernel
theorem dX12_either_26 : decode cX12_either 26 = .ok (.aload_n 0, 1) := by decide +kernel
theorem dX12_either_27 : decode cX12_either 27 = .ok (.invokevirtual 278, 3) := by decide +kernel
theorem dX12_either_30 : decode cX12_either 30 = .ok (.aload_n 0, 1) := by decide +kernel
theorem dX12_either_31 : decode cX12_either 31 = .ok (.sipush 20124, 3) := by decide +kernel
theorem dX12_either_34 : decode cX12_either 34 = .ok (.invokevirtual 250, 3) := by decide +kernel
theorem dX12_either_37 : decode cX12_either 37 = .ok (.goto (-25), 3) := by decide +kernel
theorem dX12_either_40 : decode cX12_either 40 = .ok (.return_, 1) := by decide +kernel
theorem dX12_ruleHere_0 : decode cX12_ruleHere 0 = .ok (.aload_n 0, 1) := by decide +kernel
theorem dX12_ruleHere_1 : decode cX12_ruleHere 1 = .ok (.invokevirtual 283, 3) := by decide +kernel
theorem dX12_ruleHere_4 : decode cX12_ruleHere 4 = .ok (.istore_n 1, 1) := by decide +kernel
theorem dX12_ruleHere_5 : decode cX12_ruleHere 5 = .ok (.aload_n 0, 1) := by decide +kernel
theorem dX12_ruleHere_6 : decode cX12_ruleHere 6 = .ok (.iload_n 1, 1) := by decide +kernel
theorem dX12_ruleHere_7 : decode cX12_ruleHere 7 = .ok (.ifCond .lt 16, 3) := by decide +kernel
theorem dX12_ruleHere_10 : decode cX12_ruleHere 10 = .ok (.aload_n 0, 1) := by decide +kernel
theorem dX12_ruleHere_11 : decode cX12_ruleHere 11 = .ok (.getfield 286, 3) := by decide +kernel
theorem dX12_ruleHere_14 : decode cX12_ruleHere 14 = .ok (.bipush 8, 2) := by decide +kernel
theorem dX12_ruleHere_16 : decode cX12_ruleHere 16 = .ok (.if_icmp .ge 7, 3) := by decide +kernel
theorem dX12_ruleHere_19 : decode cX12_ruleHere 19 = .ok (.iconst 1, 1) := by decide +kernel
theorem dX12_ruleHere_20 : decode cX12_ruleHere 20 = .ok (.goto 4, 3) := by decide +kernel
theorem dX12_ruleHere_23 : decode cX12_ruleHere 23 = .ok (.iconst 0, 1) := by decide +kernel
theorem dX12_ruleHere_24 : decode cX12_ruleHere 24 = .ok (.invokevirtual 254, 3) := by decide +kernel
theorem dX12_ruleHere_27 : decode cX12_ruleHere 27 = .ok (.aload_n 0, 1) := by decide +kernel
theorem dX12_ruleHere_28 : decode cX12_ruleHere 28 = .ok (.getfield 209, 3) := by decide +kernel
theorem dX12_ruleHere_31 : decode cX12_ruleHere 31 = .ok (.istore_n 2, 1) := by decide +kernel
theorem dX12_ruleHere_32 : decode cX12_ruleHere 32 = .ok (.aload_n 0, 1) := by decide +kernel
theorem dX12_ruleHere_33 : decode cX12_ruleHere 33 = .ok (.ldc2_w 289, 3) := by decide +kernel
theorem dX12_ruleHere_36 : decode cX12_ruleHere 36 = .ok (.invokevirtual 214, 3) := by decide +kernel
theorem dX12_ruleHere_39 : decode cX12_ruleHere 39 = .ok (.ifCond .eq 11, 3) := by decide +kernel
theorem dX12_ruleHere_42 : decode cX12_ruleHere 42 = .ok (.aload_n 0, 1) := by decide +kernel
theorem dX12_ruleHere_43 : decode cX12_ruleHere 43 = .ok (.invokevirtual 244, 3) := by decide +kernel
theorem dX12_ruleHere_46 : decode cX12_ruleHere 46 = .ok (.aload_n 0, 1) := by decide +kernel
theorem dX12_ruleHere_47 : decode cX12_ruleHere 47 = .ok (.invokevirtual 267, 3) := by decide +kernel
theorem dX12_ruleHere_50 : decode cX12_ruleHere 50 = .ok (.aload_n 0, 1) := by decide +kernel
theorem dX12_ruleHere_51 : decode cX12_ruleHere 51 = .ok (.invokevirtual 291, 3) := by decide +kernel
theorem dX12_ruleHere_54 : decode cX12_ruleHere 54 = .ok (.istore_n 3, 1) := by decide +kernel
theorem dX12_ruleHere_55 : decode cX12_ruleHere 55 = .ok (.aload_n 0, 1) := by decide +kernel
theorem dX12_ruleHere_56 : decode cX12_ruleHere 56 = .ok (.iload_n 3, 1) := by decide +kernel
theorem dX12_ruleHere_57 : decode cX12_ruleHere 57 = .ok (.ifCond .lt 7, 3) := by decide +kernel
theorem dX12_ruleHere_60 : decode cX12_ruleHere 60 = .ok (.iconst 1, 1) := by decide +kernel
theorem dX12_ruleHere_61 : decode cX12_ruleHere 61 = .ok (.goto 4, 3) := by decide +kernel
theorem dX12_ruleHere_64 : decode cX12_ruleHere 64 = .ok (.iconst 0, 1) := by decide +kernel
theorem dX12_ruleHere_65 : decode cX12_ruleHere 65 = .ok (.invokevirtual 254, 3) := by decide +kernel
theorem dX12_ruleHere_68 : decode cX12_ruleHere 68 = .ok (.aload_n 0, 1) := by decide +kernel
theorem dX12_ruleHere_69 : decode cX12_ruleHere 69 = .ok (.getfield 205, 3) := by decide +kernel
theorem dX12_ruleHere_72 : decode cX12_ruleHere 72 = .ok (.ifCond .ne 17, 3) := by decide +kernel
theorem dX12_ruleHere_75 : decode cX12_ruleHere 75 = .ok (.aload_n 0, 1) := by decide +kernel
theorem dX12_ruleHere_76 : decode cX12_ruleHere 76 = .ok (.bipush 59, 2) := by decide +kernel
theorem dX12_ruleHere_78 : decode cX12_ruleHere 78 = .ok (.invokevirtual 260, 3) := by decide +kernel
theorem dX12_ruleHere_81 : decode cX12_ruleHere 81 = .ok (.ifCond .ne 8, 3) := by decide +kernel
theorem dX12_ruleHere_84 : decode cX12_ruleHere 84 = .ok (.aload_n 0, 1) := by decide +kernel
theorem dX12_ruleHere_85 : decode cX12_ruleHere 85 = .ok (.iconst 1, 1) := by decide +kernel
theorem dX12_ruleHere_86 : decode cX12_ruleHere 86 = .ok (.putfield 205, 3) := by decide +kernel
theorem dX12_ruleHere_89 : decode cX12_ruleHere 89 = .ok (.aload_n 0, 1) := by decide +kernel
theorem dX12_ruleHere_90 : decode cX12_ruleHere 90 = .ok (.getfield 205, 3) := by decide +kernel
theorem dX12_ruleHere_93 : decode cX12_ruleHere 93 = .ok (.ifCond .ne 74, 3) := by decide +kernel
theorem dX12_ruleHere_96 : decode cX12_ruleHere 96 = .ok (.aload_n 0, 1) := by decide +kernel
theorem dX12_ruleHere_97 : decode cX12_ruleHere 97 = .ok (.getfield 31, 3) := by decide +kernel
theorem dX12_ruleHere_100 : decode cX12_ruleHere 100 = .ok (.iconst 4, 1) := by decide +kernel
theorem dX12_ruleHere_101 : decode cX12_ruleHere 101 = .ok (.aload_n 0, 1) := by decide +kernel
theorem dX12_ruleHere_102 : decode cX12_ruleHere 102 = .ok (.getfield 286, 3) := by decide +kernel
theorem dX12_ruleHere_105 : decode cX12_ruleHere 105 = .ok (.imul, 1) := by decide +kernel
theorem dX12_ruleHere_106 : decode cX12_ruleHere 106 = .ok (.iload_n 1, 1) := by decide +kernel
theorem dX12_ruleHere_107 : decode cX12_ruleHere 107 = .ok (.iastore, 1) := by decide +kernel
theorem dX12_ruleHere_108 : decode cX12_ruleHere 108 = .ok (.aload_n 0, 1) := by decide +kernel
theorem dX12_ruleHere_109 : decode cX12_ruleHere 109 = .ok (.getfield 31, 3) := by decide +kernel
theorem dX12_ruleHere_112 : decode cX12_ruleHere 112 = .ok (.iconst 4, 1) := by decide +kernel
theorem dX12_ruleHere_113 : decode cX12_ruleHere 113 = .ok (.aload_n 0, 1) := by decide +kernel
theorem dX12_ruleHere_114 : decode cX12_ruleHere 114 = .ok (.getfield 286, 3) := by decide +kernel
theorem dX12_ruleHere_117 : decode cX12_ruleHere 117 = .ok (.imul, 1) := by decide +kernel
theorem dX12_ruleHere_118 : decode cX12_ruleHere 118 = .ok (.iconst 1, 1) := by decide +kernel
theorem dX12_ruleHere_119 : decode cX12_ruleHere 119 = .ok (.iadd, 1) := by decide +kernel
theorem dX12_ruleHere_120 : decode cX12_ruleHere 120 = .ok (.iload_n 3, 1) := by decide +kernel
theorem dX12_ruleHere_121 : decode cX12_ruleHere 121 = .ok (.iastore, 1) := by decide +kernel
theorem dX12_ruleHere_122 : decode cX12_ruleHere 122 = .ok (.aload_n 0, 1) := by decide +kernel
theorem dX12_ruleHere_123 : decode cX12_ruleHere 123 = .ok (.getfield 31, 3) := by decide +kernel
theorem dX12_ruleHere_126 : decode cX12_ruleHere 126 = .ok (.iconst 4, 1) := by decide +kernel
theorem dX12_ruleHere_127 : decode cX12_ruleHere 127 = .ok (.aload_n 0, 1) := by decide +kernel
theorem dX12_ruleHere_128 : decode cX12_ruleHere 128 = .ok (.getfield 286, 3) := by decide +kernel
theorem dX12_ruleHere_131 : decode cX12_ruleHere 131 = .ok (.imul, 1) := by decide +kernel
theorem dX12_ruleHere_132 : decode cX12_ruleHere 132 = .ok (.iconst 2, 1) := by decide +kernel
theorem dX12_ruleHere_133 : decode cX12_ruleHere 133 = .ok (.iadd, 1) := by decide +kernel
theorem dX12_ruleHere_134 : decode cX12_ruleHere 134 = .ok (.iload_n 2, 1) := by decide +kernel
theorem dX12_ruleHere_135 : decode cX12_ruleHere 135 = .ok (.iastore, 1) := by decide +kernel
theorem dX12_ruleHere_136 : decode cX12_ruleHere 136 = .ok (.aload_n 0, 1) := by decide +kernel
theorem dX12_ruleHere_137 : decode cX12_ruleHere 137 = .ok (.getfield 31, 3) := by decide +kernel
theorem dX12_ruleHere_140 : decode cX12_ruleHere 140 = .ok (.iconst 4, 1) := by decide +kernel
theorem dX12_ruleHere_141 : decode cX12_ruleHere 141 = .ok (.aload_n 0, 1) := by decide +kernel
theorem dX12_ruleHere_142 : decode cX12_ruleHere 142 = .ok (.getfield 286, 3) := by decide +kernel
theorem dX12_ruleHere_145 : decode cX12_ruleHere 145 = .ok (.imul, 1) := by decide +kernel
theorem dX12_ruleHere_146 : decode cX12_ruleHere 146 = .ok (.iconst 3, 1) := by decide +kernel
theorem dX12_ruleHere_147 : decode cX12_ruleHere 147 = .ok (.iadd, 1) := by decide +kernel
theorem dX12_ruleHere_148 : decode cX12_ruleHere 148 = .ok (.aload_n 0, 1) := by decide +kernel
theorem dX12_ruleHere_149 : decode cX12_ruleHere 149 = .ok (.getfield 209, 3) := by decide +kernel
theorem dX12_ruleHere_152 : decode cX12_ruleHere 152 = .ok (.iastore, 1) := by decide +kernel
theorem dX12_ruleHere_153 : decode cX12_ruleHere 153 = .ok (.aload_n 0, 1) := by decide +kernel
theorem dX12_ruleHere_154 : decode cX12_ruleHere 154 = .ok (.dup, 1) := by decide +kernel
theorem dX12_ruleHere_155 : decode cX12_ruleHere 155 = .ok (.getfield 286, 3) := by decide +kernel
theorem dX12_ruleHere_158 : decode cX12_ruleHere 158 = .ok (.iconst 1, 1) := by decide +kernel
theorem dX12_ruleHere_159 : decode cX12_ruleHere 159 = .ok (.iadd, 1) := by decide +kernel
theorem dX12_ruleHere_160 : decode cX12_ruleHere 160 = .ok (.putfield 286, 3) := by decide +kernel
theorem dX12_ruleHere_163 : decode cX12_ruleHere 163 = .ok (.aload_n 0, 1) := by decide +kernel
theorem dX12_ruleHere_164 : decode cX12_ruleHere 164 = .ok (.invokevirtual 244, 3) := by decide +kernel
theorem dX12_ruleHere_167 : decode cX12_ruleHere 167 = .ok (.return_, 1) := by decide +kernel
theorem dX12_rules_0 : decode cX12_rules 0 = .ok (.aload_n 0, 1) := by decide +kernel
theorem dX12_rules_1 : decode cX12_rules 1 = .ok (.iconst 0, 1) := by decide +kernel
theorem dX12_rules_2 : decode cX12_rules 2 = .ok (.putfield 176, 3) := by decide +kernel
theorem dX12_rules_5 : decode cX12_rules 5 = .ok (.aload_n 0, 1) := by decide +kernel
theorem dX12_rules_6 : decode cX12_rules 6 = .ok (.iconst 0, 1) := by decide +kernel
theorem dX12_rules_7 : decode cX12_rules 7 = .ok (.putfield 205, 3) := by decide +kernel
theorem dX12_rules_10 : decode cX12_rules 10 = .ok (.aload_n 0, 1) := by decide +kernel
theorem dX12_rules_11 : decode cX12_rules 11 = .ok (.iconst 0, 1) := by decide +kernel
theorem dX12_rules_12 : decode cX12_rules 12 = .ok (.putfield 264, 3) := by decide +kernel
theorem dX12_rules_15 : decode cX12_rules 15 = .ok (.aload_n 0, 1) := by decide +kernel
theorem dX12_rules_16 : decode cX12_rules 16 = .ok (.iconst 0, 1) := by decide +kernel
theorem dX12_rules_17 : decode cX12_rules 17 = .ok (.putfield 209, 3) := by decide +kernel
theorem dX12_rules_20 : decode cX12_rules 20 = .ok (.aload_n 0, 1) := by decide +kernel
theorem dX12_rules_21 : decode cX12_rules 21 = .ok (.iconst 0, 1) := by decide +kernel
theorem dX12_rules_22 : decode cX12_rules 22 = .ok (.putfield 286, 3) := by decide +kernel
theorem dX12_rules_25 : decode cX12_rules 25 = .ok (.aload_n 0, 1) := by decide +kernel
theorem dX12_rules_26 : decode cX12_rules 26 = .ok (.invokevirtual 244, 3) := by decide +kernel
theorem dX12_rules_29 : decode cX12_rules 29 = .ok (.aload_n 0, 1) := by decide +kernel
theorem dX12_rules_30 : decode cX12_rules 30 = .ok (.getfield 186, 3) := by decide +kernel
theorem dX12_rules_33 : decode cX12_rules 33 = .ok (.ifCond .eq 17, 3) := by decide +kernel
theorem dX12_rules_36 : decode cX12_rules 36 = .ok (.aload_n 0, 1) := by decide +kernel
theorem dX12_rules_37 : decode cX12_rules 37 = .ok (.getfield 205, 3) := by decide +kernel
theorem dX12_rules_40 : decode cX12_rules 40 = .ok (.ifCond .ne 10, 3) := by decide +kernel
theorem dX12_rules_43 : decode cX12_rules 43 = .ok (.aload_n 0, 1) := by decide +kernel
theorem dX12_rules_44 : decode cX12_rules 44 = .ok (.invokevirtual 294, 3) := by decide +kernel
theorem dX12_rules_47 : decode cX12_rules 47 = .ok (.goto (-18), 3) := by decide +kernel
theorem dX12_rules_50 : decode cX12_rules 50 = .ok (.aload_n 0, 1) := by decide +kernel
theorem dX12_rules_51 : decode cX12_rules 51 = .ok (.iconst 0, 1) := by decide +kernel
theorem dX12_rules_52 : decode cX12_rules 52 = .ok (.putfield 171, 3) := by decide +kernel
theorem dX12_rules_55 : decode cX12_rules 55 = .ok (.aload_n 0, 1) := by decide +kernel
theorem dX12_rules_56 : decode cX12_rules 56 = .ok (.getfield 205, 3) := by decide +kernel
theorem dX12_rules_59 : decode cX12_rules 59 = .ok (.ifCond .eq 11, 3) := by decide +kernel
theorem dX12_rules_62 : decode cX12_rules 62 = .ok (.bipush (-100), 2) := by decide +kernel
theorem dX12_rules_64 : decode cX12_rules 64 = .ok (.aload_n 0, 1) := by decide +kernel
theorem dX12_rules_65 : decode cX12_rules 65 = .ok (.getfield 179, 3) := by decide +kernel
theorem dX12_rules_68 : decode cX12_rules 68 = .ok (.isub, 1) := by decide +kernel
theorem dX12_rules_69 : decode cX12_rules 69 = .ok (.ireturn, 1) := by decide +kernel
theorem dX12_rules_70 : decode cX12_rules 70 = .ok (.aload_n 0, 1) := by decide +kernel
theorem dX12_rules_71 : decode cX12_rules 71 = .ok (.getfield 7, 3) := by decide +kernel
theorem dX12_rules_74 : decode cX12_rules 74 = .ok (.iconst 5, 1) := by decide +kernel
theorem dX12_rules_75 : decode cX12_rules 75 = .ok (.aload_n 0, 1) := by decide +kernel
theorem dX12_rules_76 : decode cX12_rules 76 = .ok (.getfield 286, 3) := by decide +kernel
theorem dX12_rules_79 : decode cX12_rules 79 = .ok (.iastore, 1) := by decide +kernel
theorem dX12_rules_80 : decode cX12_rules 80 = .ok (.iconst 0, 1) := by decide +kernel
theorem dX12_rules_81 : decode cX12_rules 81 = .ok (.istore_n 1, 1) := by decide +kernel
theorem dX12_rules_82 : decode cX12_rules 82 = .ok (.iload_n 1, 1) := by decide +kernel
theorem dX12_rules_83 : decode cX12_rules 83 = .ok (.bipush 32, 2) := by decide +kernel
theorem dX12_rules_85 : decode cX12_rules 85 = .ok (.if_icmp .ge 24, 3) := by decide +kernel
theorem dX12_rules_88 : decode cX12_rules 88 = .ok (.aload_n 0, 1) := by decide +kernel
theorem dX12_rules_89 : decode cX12_rules 89 = .ok (.getfield 7, 3) := by decide +kernel
theorem dX12_rules_92 : decode cX12_rules 92 = .ok (.bipush 89, 2) := by decide +kernel
theorem dX12_rules_94 : decode cX12_rules 94 = .ok (.iload_n 1, 1) := by decide +kernel
theorem dX12_rules_95 : decode cX12_rules 95 = .ok (.iadd, 1) := by decide +kernel
theorem dX12_rules_96 : decode cX12_rules 96 = .ok (.aload_n 0, 1) := by decide +kernel
theorem dX12_rules_97 : decode cX12_rules 97 = .ok (.getfield 31, 3) := by decide +kernel
theorem dX12_rules_100 : decode cX12_rules 100 = .ok (.iload_n 1, 1) := by decide +kernel
theorem dX12_rules_101 : decode cX12_rules 101 = .ok (.iaload, 1) := by decide +kernel
theorem dX12_rules_102 : decode cX12_rules 102 = .ok (.iastore, 1) := by decide +kernel
theorem dX12_rules_103 : decode cX12_rules 103 = .ok (.iinc 1 1, 3) := by decide +kernel
theorem dX12_rules_106 : decode cX12_rules 106 = .ok (.goto (-24), 3) := by decide +kernel
theorem dX12_rules_109 : decode cX12_rules 109 = .ok (.iconst 0, 1) := by decide +kernel
theorem dX12_rules_110 : decode cX12_rules 110 = .ok (.istore_n 1, 1) := by decide +kernel
theorem dX12_rules_111 : decode cX12_rules 111 = .ok (.iload_n 1, 1) := by decide +kernel
theorem dX12_rules_112 : decode cX12_rules 112 = .ok (.aload_n 0, 1) := by decide +kernel
theorem dX12_rules_113 : decode cX12_rules 113 = .ok (.getfield 209, 3) := by decide +kernel
theorem dX12_rules_116 : decode cX12_rules 116 = .ok (.if_icmp .ge 24, 3) := by decide +kernel
theorem dX12_rules_119 : decode cX12_rules 119 = .ok (.aload_n 0, 1) := by decide +kernel
theorem dX12_rules_120 : decode cX12_rules 120 = .ok (.getfield 7, 3) := by decide +kernel
theorem dX12_rules_123 : decode cX12_rules 123 = .ok (.bipush 121, 2) := by decide +kernel
theorem dX12_rules_125 : decode cX12_rules 125 = .ok (.iload_n 1, 1) := by decide +kernel
theorem dX12_rules_126 : decode cX12_rules 126 = .ok (.iadd, 1) := by decide +kernel
theorem dX12_rules_127 : decode cX12_rules 127 = .ok (.aload_n 0, 1) := by decide +kernel
theorem dX12_rules_128 : decode cX12_rules 128 = .ok (.getfield 28, 3) := by decide +kernel
theorem dX12_rules_131 : decode cX12_rules 131 = .ok (.iload_n 1, 1) := by decide +kernel
theorem dX12_rules_132 : decode cX12_rules 132 = .ok (.iaload, 1) := by decide +kernel
theorem dX12_rules_133 : decode cX12_rules 133 = .ok (.iastore, 1) := by decide +kernel
theorem dX12_rules_134 : decode cX12_rules 134 = .ok (.iinc 1 1, 3) := by decide +kernel
theorem dX12_rules_137 : decode cX12_rules 137 = .ok (.goto (-26), 3) := by decide +kernel
theorem dX12_rules_140 : decode cX12_rules 140 = .ok (.aload_n 0, 1) := by decide +kernel
theorem dX12_rules_141 : decode cX12_rules 141 = .ok (.getfield 286, 3) := by decide +kernel
theorem dX12_rules_144 : decode cX12_rules 144 = .ok (.ireturn, 1) := by decide +kernel
theorem dX12_tide_0 : decode cX12_tide 0 = .ok (.aload_n 0, 1) := by decide +kernel
theorem dX12_tide_1 : decode cX12_tide 1 = .ok (.invokevirtual 137, 3) := by decide +kernel
theorem dX12_tide_4 : decode cX12_tide 4 = .ok (.ifCond .eq 8, 3) := by decide +kernel
theorem dX12_tide_7 : decode cX12_tide 7 = .ok (.bipush (-4), 2) := by decide +kernel
theorem dX12_tide_9 : decode cX12_tide 9 = .ok (.goto 11, 3) := by decide +kernel
theorem dX12_tide_12 : decode cX12_tide 12 = .ok (.aload_n 0, 1) := by decide +kernel
theorem dX12_tide_13 : decode cX12_tide 13 = .ok (.aload_n 0, 1) := by decide +kernel
theorem dX12_tide_14 : decode cX12_tide 14 = .ok (.invokevirtual 141, 3) := by decide +kernel
theorem dX12_tide_17 : decode cX12_tide 17 = .ok (.invokevirtual 144, 3) := by decide +kernel
theorem dX12_tide_20 : decode cX12_tide 20 = .ok (.ireturn, 1) := by decide +kernel
theorem dX12_on_0 : decode cX12_on 0 = .ok (.iload_n 1, 1) := by decide +kernel
theorem dX12_on_1 : decode cX12_on 1 = .ok (.i2l, 1) := by decide +kernel
theorem dX12_on_2 : decode cX12_on 2 = .ok (.lconst 0, 1) := by decide +kernel
theorem dX12_on_3 : decode cX12_on 3 = .ok (.ldc2_w 161, 3) := by decide +kernel
theorem dX12_on_6 : decode cX12_on 6 = .ok (.invokestatic 61, 3) := by decide +kernel
theorem dX12_on_9 : decode cX12_on 9 = .ok (.ifCond .ne 5, 3) := by decide +kernel
theorem dX12_on_12 : decode cX12_on 12 = .ok (.iconst (-1), 1) := by decide +kernel
theorem dX12_on_13 : decode cX12_on 13 = .ok (.ireturn, 1) := by decide +kernel
theorem dX12_on_14 : decode cX12_on 14 = .ok (.aload_n 0, 1) := by decide +kernel
theorem dX12_on_15 : decode cX12_on 15 = .ok (.invokevirtual 297, 3) := by decide +kernel
theorem dX12_on_18 : decode cX12_on 18 = .ok (.aload_n 0, 1) := by decide +kernel
theorem dX12_on_19 : decode cX12_on 19 = .ok (.iload_n 1, 1) := by decide +kernel
theorem dX12_on_20 : decode cX12_on 20 = .ok (.invokevirtual 300, 3) := by decide +kernel
theorem dX12_on_23 : decode cX12_on 23 = .ok (.istore_n 2, 1) := by decide +kernel
theorem dX12_on_24 : decode cX12_on 24 = .ok (.aload_n 0, 1) := by decide +kernel
theorem dX12_on_25 : decode cX12_on 25 = .ok (.invokevirtual 303, 3) := by decide +kernel
theorem dX12_on_28 : decode cX12_on 28 = .ok (.iload_n 2, 1) := by decide +kernel
theorem dX12_on_29 : decode cX12_on 29 = .ok (.ireturn, 1) := by decide +kernel
theorem dX12_when_0 : decode cX12_when 0 = .ok (.aload_n 0, 1) := by decide +kernel
theorem dX12_when_1 : decode cX12_when 1 = .ok (.iload_n 1, 1) := by decide +kernel
theorem dX12_when_2 : decode cX12_when 2 = .ok (.invokevirtual 153, 3) := by decide +kernel
theorem dX12_when_5 : decode cX12_when 5 = .ok (.ifCond .ne 5, 3) := by decide +kernel
theorem dX12_when_8 : decode cX12_when 8 = .ok (.iconst (-1), 1) := by decide +kernel
theorem dX12_when_9 : decode cX12_when 9 = .ok (.ireturn, 1) := by decide +kernel
theorem dX12_when_10 : decode cX12_when 10 = .ok (.aload_n 0, 1) := by decide +kernel
theorem dX12_when_11 : decode cX12_when 11 = .ok (.iload_n 1, 1) := by decide +kernel
theorem dX12_when_12 : decode cX12_when 12 = .ok (.iconst 4, 1) := by decide +kernel
theorem dX12_when_13 : decode cX12_when 13 = .ok (.invokevirtual 80, 3) := by decide +kernel
theorem dX12_when_16 : decode cX12_when 16 = .ok (.iconst 1, 1) := by decide +kernel
theorem dX12_when_17 : decode cX12_when 17 = .ok (.if_icmp .ne 6, 3) := by decide +kernel
theorem dX12_when_20 : decode cX12_when 20 = .ok (.bipush (-3), 2) := by decide +kernel
theorem dX12_when_22 : decode cX12_when 22 = .ok (.ireturn, 1) := by decide +kernel
theorem dX12_when_23 : decode cX12_when 23 = .ok (.aload_n 0, 1) := by decide +kernel
theorem dX12_when_24 : decode cX12_when 24 = .ok (.invokevirtual 297, 3) := by decide +kernel
theorem dX12_when_27 : decode cX12_when 27 = .ok (.aload_n 0, 1) := by decide +kernel
theorem dX12_when_28 : decode cX12_when 28 = .ok (.invokevirtual 137, 3) := by decide +kernel
theorem dX12_when_31 : decode cX12_when 31 = .ok (.ifCond .ne 24, 3) := by decide +kernel
theorem dX12_when_34 : decode cX12_when 34 = .ok (.aload_n 0, 1) := by decide +kernel
theorem dX12_when_35 : decode cX12_when 35 = .ok (.iload_n 1, 1) := by decide +kernel
theorem dX12_when_36 : decode cX12_when 36 = .ok (.iconst 4, 1) := by decide +kernel
theorem dX12_when_37 : decode cX12_when 37 = .ok (.invokevirtual 80, 3) := by decide +kernel
theorem dX12_when_40 : decode cX12_when 40 = .ok (.ifCond .ne 15, 3) := by decide +kernel
theorem dX12_when_43 : decode cX12_when 43 = .ok (.aload_n 0, 1) := by decide +kernel
theorem dX12_when_44 : decode cX12_when 44 = .ok (.aload_n 0, 1) := by decide +kernel
theorem dX12_when_45 : decode cX12_when 45 = .ok (.invokevirtual 141, 3) := by decide +kernel
theorem dX12_when_48 : decode cX12_when 48 = .ok (.invokevirtual 144, 3) := by decide +kernel
theorem dX12_when_51 : decode cX12_when 51 = .ok (.pop, 1) := by decide +kernel
theorem dX12_when_52 : decode cX12_when 52 = .ok (.goto (-25), 3) := by decide +kernel
theorem dX12_when_55 : decode cX12_when 55 = .ok (.aload_n 0, 1) := by decide +kernel
theorem dX12_when_56 : decode cX12_when 56 = .ok (.iload_n 1, 1) := by decide +kernel
theorem dX12_when_57 : decode cX12_when 57 = .ok (.iconst 4, 1) := by decide +kernel
theorem dX12_when_58 : decode cX12_when 58 = .ok (.invokevirtual 80, 3) := by decide +kernel
theorem dX12_when_61 : decode cX12_when 61 = .ok (.iconst 1, 1) := by decide +kernel
theorem dX12_when_62 : decode cX12_when 62 = .ok (.if_icmp .ne 14, 3) := by decide +kernel
theorem dX12_when_65 : decode cX12_when 65 = .ok (.aload_n 0, 1) := by decide +kernel
theorem dX12_when_66 : decode cX12_when 66 = .ok (.getfield 7, 3) := by decide +kernel
theorem dX12_when_69 : decode cX12_when 69 = .ok (.iconst 1, 1) := by decide +kernel
theorem dX12_when_70 : decode cX12_when 70 = .ok (.iaload, 1) := by decide +kernel
theorem dX12_when_71 : decode cX12_when 71 = .ok (.iconst 1, 1) := by decide +kernel
theorem dX12_when_72 : decode cX12_when 72 = .ok (.isub, 1) := by decide +kernel
theorem dX12_when_73 : decode cX12_when 73 = .ok (.goto 5, 3) := by decide +kernel
theorem dX12_when_76 : decode cX12_when 76 = .ok (.bipush (-3), 2) := by decide +kernel
theorem dX12_when_78 : decode cX12_when 78 = .ok (.istore_n 2, 1) := by decide +kernel
theorem dX12_when_79 : decode cX12_when 79 = .ok (.aload_n 0, 1) := by decide +kernel
theorem dX12_when_80 : decode cX12_when 80 = .ok (.invokevirtual 303, 3) := by decide +kernel
theorem dX12_when_83 : decode cX12_when 83 = .ok (.iload_n 2, 1) := by decide +kernel
theorem dX12_when_84 : decode cX12_when 84 = .ok (.ireturn, 1) := by decide +kernel
theorem dX12_bestOf_0 : decode cX12_bestOf 0 = .ok (.aload_n 0, 1) := by decide +kernel
theorem dX12_bestOf_1 : decode cX12_bestOf 1 = .ok (.invokevirtual 297, 3) := by decide +kernel
theorem dX12_bestOf_4 : decode cX12_bestOf 4 = .ok (.iconst 0, 1) := by decide +kernel
theorem dX12_bestOf_5 : decode cX12_bestOf 5 = .ok (.istore 4, 2) := by decide +kernel
theorem dX12_bestOf_7 : decode cX12_bestOf 7 = .ok (.iconst (-1), 1) := by decide +kernel
theorem dX12_bestOf_8 : decode cX12_bestOf 8 = .ok (.istore 5, 2) := by decide +kernel
theorem dX12_bestOf_10 : decode cX12_bestOf 10 = .ok (.iconst 0, 1) := by decide +kernel
theorem dX12_bestOf_11 : decode cX12_bestOf 11 = .ok (.istore 6, 2) := by decide +kernel
theorem dX12_bestOf_13 : decode cX12_bestOf 13 = .ok (.iload 6, 2) := by decide +kernel
theorem dX12_bestOf_15 : decode cX12_bestOf 15 = .ok (.iload_n 3, 1) := by decide +kernel
theorem dX12_bestOf_16 : decode cX12_bestOf 16 = .ok (.if_icmp .gt 44, 3) := by decide +kernel
theorem dX12_bestOf_19 : decode cX12_bestOf 19 = .ok (.aload_n 0, 1) := by decide +kernel
theorem dX12_bestOf_20 : decode cX12_bestOf 20 = .ok (.iload_n 1, 1) := by decide +kernel
theorem dX12_bestOf_21 : decode cX12_bestOf 21 = .ok (.iload_n 2, 1) := by decide +kernel
theorem dX12_bestOf_22 : decode cX12_bestOf 22 = .ok (.iload 6, 2) := by decide +kernel
theorem dX12_bestOf_24 : decode cX12_bestOf 24 = .ok (.invokevirtual 123, 3) := by decide +kernel
theorem dX12_bestOf_27 : decode cX12_bestOf 27 = .ok (.aload_n 0, 1) := by decide +kernel
theorem dX12_bestOf_28 : decode cX12_bestOf 28 = .ok (.bipush 16, 2) := by decide +kernel
theorem dX12_bestOf_30 : decode cX12_bestOf 30 = .ok (.invokevirtual 300, 3) := by decide +kernel
theorem dX12_bestOf_33 : decode cX12_bestOf 33 = .ok (.istore 7, 2) := by decide +kernel
theorem dX12_bestOf_35 : decode cX12_bestOf 35 = .ok (.aload_n 0, 1) := by decide +kernel
theorem dX12_bestOf_36 : decode cX12_bestOf 36 = .ok (.invokevirtual 69, 3) := by decide +kernel
theorem dX12_bestOf_39 : decode cX12_bestOf 39 = .ok (.iload 7, 2) := by decide +kernel
theorem dX12_bestOf_41 : decode cX12_bestOf 41 = .ok (.iload 5, 2) := by decide +kernel
theorem dX12_bestOf_43 : decode cX12_bestOf 43 = .ok (.if_icmp .le 11, 3) := by decide +kernel
theorem dX12_bestOf_46 : decode cX12_bestOf 46 = .ok (.iload 6, 2) := by decide +kernel
theorem dX12_bestOf_48 : decode cX12_bestOf 48 = .ok (.istore 4, 2) := by decide +kernel
theorem dX12_bestOf_50 : decode cX12_bestOf 50 = .ok (.iload 7, 2) := by decide +kernel
theorem dX12_bestOf_52 : decode cX12_bestOf 52 = .ok (.istore 5, 2) := by decide +kernel
theorem dX12_bestOf_54 : decode cX12_bestOf 54 = .ok (.iinc 6 1, 3) := by decide +kernel
theorem dX12_bestOf_57 : decode cX12_bestOf 57 = .ok (.goto (-44), 3) := by decide +kernel
theorem dX12_bestOf_60 : decode cX12_bestOf 60 = .ok (.aload_n 0, 1) := by decide +kernel
theorem dX12_bestOf_61 : decode cX12_bestOf 61 = .ok (.invokevirtual 303, 3) := by decide +kernel
theorem dX12_bestOf_64 : decode cX12_bestOf 64 = .ok (.iload 4, 2) := by decide +kernel
theorem dX12_bestOf_66 : decode cX12_bestOf 66 = .ok (.ireturn, 1) := by decide +kernel
theorem dX12_chalkFor_0 : decode cX12_chalkFor 0 = .ok (.aload_n 0, 1) := by decide +kernel
theorem dX12_chalkFor_1 : decode cX12_chalkFor 1 = .ok (.iload_n 1, 1) := by decide +kernel
theorem dX12_chalkFor_2 : decode cX12_chalkFor 2 = .ok (.invokevirtual 153, 3) := by decide +kernel
theorem dX12_chalkFor_5 : decode cX12_chalkFor 5 = .ok (.ifCond .eq 14, 3) := by decide +kernel
theorem dX12_chalkFor_8 : decode cX12_chalkFor 8 = .ok (.aload_n 0, 1) := by decide +kernel
theorem dX12_chalkFor_9 : decode cX12_chalkFor 9 = .ok (.iload_n 1, 1) := by decide +kernel
theorem dX12_chalkFor_10 : decode cX12_chalkFor 10 = .ok (.iconst 2, 1) := by decide +kernel
theorem dX12_chalkFor_11 : decode cX12_chalkFor 11 = .ok (.bipush 9, 2) := by decide +kernel
theorem dX12_chalkFor_13 : decode cX12_chalkFor 13 = .ok (.invokevirtual 306, 3) := by decide +kernel
theorem dX12_chalkFor_16 : decode cX12_chalkFor 16 = .ok (.goto 4, 3) := by decide +kernel
theorem dX12_chalkFor_19 : decode cX12_chalkFor 19 = .ok (.iconst (-1), 1) := by decide +kernel
theorem dX12_chalkFor_20 : decode cX12_chalkFor 20 = .ok (.ireturn, 1) := by decide +kernel
theorem dX12_tierFor_0 : decode cX12_tierFor 0 = .ok (.aload_n 0, 1) := by decide +kernel
theorem dX12_tierFor_1 : decode cX12_tierFor 1 = .ok (.iload_n 1, 1) := by decide +kernel
theorem dX12_tierFor_2 : decode cX12_tierFor 2 = .ok (.invokevirtual 153, 3) := by decide +kernel
theorem dX12_tierFor_5 : decode cX12_tierFor 5 = .ok (.ifCond .eq 13, 3) := by decide +kernel
theorem dX12_tierFor_8 : decode cX12_tierFor 8 = .ok (.aload_n 0, 1) := by decide +kernel
theorem dX12_tierFor_9 : decode cX12_tierFor 9 = .ok (.iload_n 1, 1) := by decide +kernel
theorem dX12_tierFor_10 : decode cX12_tierFor 10 = .ok (.iconst 3, 1) := by decide +kernel
theorem dX12_tierFor_11 : decode cX12_tierFor 11 = .ok (.iconst 5, 1) := by decide +kernel
theorem dX12_tierFor_12 : decode cX12_tierFor 12 = .ok (.invokevirtual 306, 3) := by decide +kernel
theorem dX12_tierFor_15 : decode cX12_tierFor 15 = .ok (.goto 4, 3) := by decide +kernel
theorem dX12_tierFor_18 : decode cX12_tierFor 18 = .ok (.iconst (-1), 1) := by decide +kernel
theorem dX12_tierFor_19 : decode cX12_tierFor 19 = .ok (.ireturn, 1) := by decide +kernel
theorem dX12_dry_0 : decode cX12_dry 0 = .ok (.aload_n 0, 1) := by decide +kernel
theorem dX12_dry_1 : decode cX12_dry 1 = .ok (.iload_n 1, 1) := by decide +kernel
theorem dX12_dry_2 : decode cX12_dry 2 = .ok (.invokevirtual 153, 3) := by decide +kernel
theorem dX12_dry_5 : decode cX12_dry 5 = .ok (.ifCond .ne 5, 3) := by decide +kernel
theorem dX12_dry_8 : decode cX12_dry 8 = .ok (.iconst (-1), 1) := by decide +kernel
theorem dX12_dry_9 : decode cX12_dry 9 = .ok (.ireturn, 1) := by decide +kernel
theorem dX12_dry_10 : decode cX12_dry 10 = .ok (.aload_n 0, 1) := by decide +kernel
theorem dX12_dry_11 : decode cX12_dry 11 = .ok (.invokevirtual 297, 3) := by decide +kernel
theorem dX12_dry_14 : decode cX12_dry 14 = .ok (.aload_n 0, 1) := by decide +kernel
theorem dX12_dry_15 : decode cX12_dry 15 = .ok (.invokevirtual 137, 3) := by decide +kernel
theorem dX12_dry_18 : decode cX12_dry 18 = .ok (.ifCond .ne 24, 3) := by decide +kernel
theorem dX12_dry_21 : decode cX12_dry 21 = .ok (.aload_n 0, 1) := by decide +kernel
theorem dX12_dry_22 : decode cX12_dry 22 = .ok (.iload_n 1, 1) := by decide +kernel
theorem dX12_dry_23 : decode cX12_dry 23 = .ok (.iconst 1, 1) := by decide +kernel
theorem dX12_dry_24 : decode cX12_dry 24 = .ok (.invokevirtual 80, 3) := by decide +kernel
theorem dX12_dry_27 : decode cX12_dry 27 = .ok (.ifCond .le 15, 3) := by decide +kernel
theorem dX12_dry_30 : decode cX12_dry 30 = .ok (.aload_n 0, 1) := by decide +kernel
theorem dX12_dry_31 : decode cX12_dry 31 = .ok (.aload_n 0, 1) := by decide +kernel
theorem dX12_dry_32 : decode cX12_dry 32 = .ok (.invokevirtual 141, 3) := by decide +kernel
theorem dX12_dry_35 : decode cX12_dry 35 = .ok (.invokevirtual 144, 3) := by decide +kernel
theorem dX12_dry_38 : decode cX12_dry 38 = .ok (.pop, 1) := by decide +kernel
theorem dX12_dry_39 : decode cX12_dry 39 = .ok (.goto (-25), 3) := by decide +kernel
theorem dX12_dry_42 : decode cX12_dry 42 = .ok (.aload_n 0, 1) := by decide +kernel
theorem dX12_dry_43 : decode cX12_dry 43 = .ok (.iload_n 1, 1) := by decide +kernel
theorem dX12_dry_44 : decode cX12_dry 44 = .ok (.iconst 1, 1) := by decide +kernel
theorem dX12_dry_45 : decode cX12_dry 45 = .ok (.invokevirtual 80, 3) := by decide +kernel
theorem dX12_dry_48 : decode cX12_dry 48 = .ok (.ifCond .ne 12, 3) := by decide +kernel
theorem dX12_dry_51 : decode cX12_dry 51 = .ok (.aload_n 0, 1) := by decide +kernel
theorem dX12_dry_52 : decode cX12_dry 52 = .ok (.getfield 7, 3) := by decide +kernel
theorem dX12_dry_55 : decode cX12_dry 55 = .ok (.iconst 1, 1) := by decide +kernel
theorem dX12_dry_56 : decode cX12_dry 56 = .ok (.iaload, 1) := by decide +kernel
theorem dX12_dry_57 : decode cX12_dry 57 = .ok (.goto 5, 3) := by decide +kernel
theorem dX12_dry_60 : decode cX12_dry 60 = .ok (.bipush (-3), 2) := by decide +kernel
theorem dX12_dry_62 : decode cX12_dry 62 = .ok (.istore_n 2, 1) := by decide +kernel
theorem dX12_dry_63 : decode cX12_dry 63 = .ok (.aload_n 0, 1) := by decide +kernel
theorem dX12_dry_64 : decode cX12_dry 64 = .ok (.invokevirtual 303, 3) := by decide +kernel
theorem dX12_dry_67 : decode cX12_dry 67 = .ok (.iload_n 2, 1) := by decide +kernel
theorem dX12_dry_68 : decode cX12_dry 68 = .ok (.ireturn, 1) := by decide +kernel
theorem dX12_least_0 : decode cX12_least 0 = .ok (.aload_n 0, 1) := by decide +kernel
theorem dX12_least_1 : decode cX12_least 1 = .ok (.iload_n 1, 1) := by decide +kernel
theorem dX12_least_2 : decode cX12_least 2 = .ok (.invokevirtual 153, 3) := by decide +kernel
theorem dX12_least_5 : decode cX12_least 5 = .ok (.ifCond .ne 5, 3) := by decide +kernel
theorem dX12_least_8 : decode cX12_least 8 = .ok (.iconst (-1), 1) := by decide +kernel
theorem dX12_least_9 : decode cX12_least 9 = .ok (.ireturn, 1) := by decide +kernel
theorem dX12_least_10 : decode cX12_least 10 = .ok (.bipush 23, 2) := by decide +kernel
theorem dX12_least_12 : decode cX12_least 12 = .ok (.aload_n 0, 1) := by decide +kernel
theorem dX12_least_13 : decode cX12_least 13 = .ok (.iload_n 1, 1) := by decide +kernel
theorem dX12_least_14 : decode cX12_least 14 = .ok (.iconst 3, 1) := by decide +kernel
theorem dX12_least_15 : decode cX12_least 15 = .ok (.invokevirtual 80, 3) := by decide +kernel
theorem dX12_least_18 : decode cX12_least 18 = .ok (.iadd, 1) := by decide +kernel
theorem dX12_least_19 : decode cX12_least 19 = .ok (.istore_n 2, 1) := by decide +kernel
theorem dX12_least_20 : decode cX12_least 20 = .ok (.aload_n 0, 1) := by decide +kernel
theorem dX12_least_21 : decode cX12_least 21 = .ok (.getfield 7, 3) := by decide +kernel
theorem dX12_least_24 : decode cX12_least 24 = .ok (.iload_n 2, 1) := by decide +kernel
theorem dX12_least_25 : decode cX12_least 25 = .ok (.iaload, 1) := by decide +kernel
theorem dX12_least_26 : decode cX12_least 26 = .ok (.istore_n 3, 1) := by decide +kernel
theorem dX12_least_27 : decode cX12_least 27 = .ok (.bipush (-3), 2) := by decide +kernel
theorem dX12_least_29 : decode cX12_least 29 = .ok (.istore 4, 2) := by decide +kernel
theorem dX12_least_31 : decode cX12_least 31 = .ok (.bipush 9, 2) := by decide +kernel
theorem dX12_least_33 : decode cX12_least 33 = .ok (.istore 5, 2) := by decide +kernel
theorem dX12_least_35 : decode cX12_least 35 = .ok (.iload 5, 2) := by decide +kernel
theorem dX12_least_37 : decode cX12_least 37 = .ok (.ifCond .lt 34, 3) := by decide +kernel
theorem dX12_least_40 : decode cX12_least 40 = .ok (.aload_n 0, 1) := by decide +kernel
theorem dX12_least_41 : decode cX12_least 41 = .ok (.getfield 7, 3) := by decide +kernel
theorem dX12_least_44 : decode cX12_least 44 = .ok (.iload_n 2, 1) := by decide +kernel
theorem dX12_least_45 : decode cX12_least 45 = .ok (.iload 5, 2) := by decide +kernel
theorem dX12_least_47 : decode cX12_least 47 = .ok (.iastore, 1) := by decide +kernel
theorem dX12_least_48 : decode cX12_least 48 = .ok (.aload_n 0, 1) := by decide +kernel
theorem dX12_least_49 : decode cX12_least 49 = .ok (.iload_n 1, 1) := by decide +kernel
theorem dX12_least_50 : decode cX12_least 50 = .ok (.invokevirtual 120, 3) := by decide +kernel
theorem dX12_least_53 : decode cX12_least 53 = .ok (.ifCond .le 8, 3) := by decide +kernel
theorem dX12_least_56 : decode cX12_least 56 = .ok (.iload 5, 2) := by decide +kernel
theorem dX12_least_58 : decode cX12_least 58 = .ok (.goto 5, 3) := by decide +kernel
theorem dX12_least_61 : decode cX12_least 61 = .ok (.iload 4, 2) := by decide +kernel
theorem dX12_least_63 : decode cX12_least 63 = .ok (.istore 4, 2) := by decide +kernel
theorem dX12_least_65 : decode cX12_least 65 = .ok (.iinc 5 (-1), 3) := by decide +kernel
theorem dX12_least_68 : decode cX12_least 68 = .ok (.goto (-33), 3) := by decide +kernel
theorem dX12_least_71 : decode cX12_least 71 = .ok (.aload_n 0, 1) := by decide +kernel
theorem dX12_least_72 : decode cX12_least 72 = .ok (.getfield 7, 3) := by decide +kernel
theorem dX12_least_75 : decode cX12_least 75 = .ok (.iload_n 2, 1) := by decide +kernel
theorem dX12_least_76 : decode cX12_least 76 = .ok (.iload_n 3, 1) := by decide +kernel
theorem dX12_least_77 : decode cX12_least 77 = .ok (.iastore, 1) := by decide +kernel
theorem dX12_least_78 : decode cX12_least 78 = .ok (.iload 4, 2) := by decide +kernel
theorem dX12_least_80 : decode cX12_least 80 = .ok (.ireturn, 1) := by decide +kernel
theorem dX12_left_0 : decode cX12_left 0 = .ok (.iload_n 1, 1) := by decide +kernel
theorem dX12_left_1 : decode cX12_left 1 = .ok (.i2l, 1) := by decide +kernel
theorem dX12_left_2 : decode cX12_left 2 = .ok (.lconst 0, 1) := by decide +kernel
theorem dX12_left_3 : decode cX12_left 3 = .ok (.ldc2_w 161, 3) := by decide +kernel
theorem dX12_left_6 : decode cX12_left 6 = .ok (.invokestatic 61, 3) := by decide +kernel
theorem dX12_left_9 : decode cX12_left 9 = .ok (.ifCond .eq 13, 3) := by decide +kernel
theorem dX12_left_12 : decode cX12_left 12 = .ok (.iload_n 2, 1) := by decide +kernel
theorem dX12_left_13 : decode cX12_left 13 = .ok (.i2l, 1) := by decide +kernel
theorem dX12_left_14 : decode cX12_left 14 = .ok (.lconst 0, 1) := by decide +kernel
theorem dX12_left_15 : decode cX12_left 15 = .ok (.lconst 1, 1) := by decide +kernel
theorem dX12_left_16 : decode cX12_left 16 = .ok (.invokestatic 61, 3) := by decide +kernel
theorem dX12_left_19 : decode cX12_left 19 = .ok (.ifCond .ne 5, 3) := by decide +kernel
theorem dX12_left_22 : decode cX12_left 22 = .ok (.iconst (-1), 1) := by decide +kernel
theorem dX12_left_23 : decode cX12_left 23 = .ok (.ireturn, 1) := by decide +kernel
theorem dX12_left_24 : decode cX12_left 24 = .ok (.aload_n 0, 1) := by decide +kernel
theorem dX12_left_25 : decode cX12_left 25 = .ok (.invokevirtual 297, 3) := by decide +kernel
theorem dX12_left_28 : decode cX12_left 28 = .ok (.aload_n 0, 1) := by decide +kernel
theorem dX12_left_29 : decode cX12_left 29 = .ok (.iload_n 1, 1) := by decide +kernel
theorem dX12_left_30 : decode cX12_left 30 = .ok (.invokevirtual 300, 3) := by decide +kernel
theorem dX12_left_33 : decode cX12_left 33 = .ok (.pop, 1) := by decide +kernel
theorem dX12_left_34 : decode cX12_left 34 = .ok (.iload_n 2, 1) := by decide +kernel
theorem dX12_left_35 : decode cX12_left 35 = .ok (.ifCond .ne 10, 3) := by decide +kernel
theorem dX12_left_38 : decode cX12_left 38 = .ok (.aload_n 0, 1) := by decide +kernel
theorem dX12_left_39 : decode cX12_left 39 = .ok (.invokevirtual 166, 3) := by decide +kernel
theorem dX12_left_42 : decode cX12_left 42 = .ok (.goto 7, 3) := by decide +kernel
theorem dX12_left_45 : decode cX12_left 45 = .ok (.aload_n 0, 1) := by decide +kernel
theorem dX12_left_46 : decode cX12_left 46 = .ok (.invokevirtual 163, 3) := by decide +kernel
theorem dX12_left_49 : decode cX12_left 49 = .ok (.istore_n 3, 1) := by decide +kernel
theorem dX12_left_50 : decode cX12_left 50 = .ok (.aload_n 0, 1) := by decide +kernel
theorem dX12_left_51 : decode cX12_left 51 = .ok (.invokevirtual 303, 3) := by decide +kernel
theorem dX12_left_54 : decode cX12_left 54 = .ok (.iload_n 3, 1) := by decide +kernel
theorem dX12_left_55 : decode cX12_left 55 = .ok (.ireturn, 1) := by decide +kernel
theorem dX12_isClose_0 : decode cX12_isClose 0 = .ok (.aload_n 0, 1) := by decide +kernel
theorem dX12_isClose_1 : decode cX12_isClose 1 = .ok (.iload_n 1, 1) := by decide +kernel
theorem dX12_isClose_2 : decode cX12_isClose 2 = .ok (.iconst 4, 1) := by decide +kernel
theorem dX12_isClose_3 : decode cX12_isClose 3 = .ok (.invokevirtual 80, 3) := by decide +kernel
theorem dX12_isClose_6 : decode cX12_isClose 6 = .ok (.aload_n 0, 1) := by decide +kernel
theorem dX12_isClose_7 : decode cX12_isClose 7 = .ok (.iload_n 2, 1) := by decide +kernel
theorem dX12_isClose_8 : decode cX12_isClose 8 = .ok (.iconst 4, 1) := by decide +kernel
theorem dX12_isClose_9 : decode cX12_isClose 9 = .ok (.invokevirtual 80, 3) := by decide +kernel
theorem dX12_isClose_12 : decode cX12_isClose 12 = .ok (.iadd, 1) := by decide +kernel
theorem dX12_isClose_13 : decode cX12_isClose 13 = .ok (.ifCond .ne 35, 3) := by decide +kernel
theorem dX12_isClose_16 : decode cX12_isClose 16 = .ok (.aload_n 0, 1) := by decide +kernel
theorem dX12_isClose_17 : decode cX12_isClose 17 = .ok (.iload_n 1, 1) := by decide +kernel
theorem dX12_isClose_18 : decode cX12_isClose 18 = .ok (.iconst 3, 1) := by decide +kernel
theorem dX12_isClose_19 : decode cX12_isClose 19 = .ok (.invokevirtual 80, 3) := by decide +kernel
theorem dX12_isClose_22 : decode cX12_isClose 22 = .ok (.aload_n 0, 1) := by decide +kernel
theorem dX12_isClose_23 : decode cX12_isClose 23 = .ok (.iload_n 2, 1) := by decide +kernel
theorem dX12_isClose_24 : decode cX12_isClose 24 = .ok (.iconst 3, 1) := by decide +kernel
theorem dX12_isClose_25 : decode cX12_isClose 25 = .ok (.invokevirtual 80, 3) := by decide +kernel
theorem dX12_isClose_28 : decode cX12_isClose 28 = .ok (.if_icmp .eq 16, 3) := by decide +kernel
theorem dX12_isClose_31 : decode cX12_isClose 31 = .ok (.aload_n 0, 1) := by decide +kernel
theorem dX12_isClose_32 : decode cX12_isClose 32 = .ok (.iload_n 1, 1) := by decide +kernel
theorem dX12_isClose_33 : decode cX12_isClose 33 = .ok (.invokevirtual 101, 3) := by decide +kernel
theorem dX12_isClose_36 : decode cX12_isClose 36 = .ok (.aload_n 0, 1) := by decide +kernel
theorem dX12_isClose_37 : decode cX12_isClose 37 = .ok (.iload_n 2, 1) := by decide +kernel
theorem dX12_isClose_38 : decode cX12_isClose 38 = .ok (.invokevirtual 101, 3) := by decide +kernel
theorem dX12_isClose_41 : decode cX12_isClose 41 = .ok (.if_icmp .ne 7, 3) := by decide +kernel
theorem dX12_isClose_44 : decode cX12_isClose 44 = .ok (.iconst 1, 1) := by decide +kernel
theorem dX12_isClose_45 : decode cX12_isClose 45 = .ok (.goto 4, 3) := by decide +kernel
theorem dX12_isClose_48 : decode cX12_isClose 48 = .ok (.iconst 0, 1) := by decide +kernel
theorem dX12_isClose_49 : decode cX12_isClose 49 = .ok (.ireturn, 1) := by decide +kernel
theorem dX12_raftOf_0 : decode cX12_raftOf 0 = .ok (.aload_n 0, 1) := by decide +kernel
theorem dX12_raftOf_1 : decode cX12_raftOf 1 = .ok (.iload_n 1, 1) := by decide +kernel
theorem dX12_raftOf_2 : decode cX12_raftOf 2 = .ok (.iconst 4, 1) := by decide +kernel
theorem dX12_raftOf_3 : decode cX12_raftOf 3 = .ok (.invokevirtual 80, 3) := by decide +kernel
theorem dX12_raftOf_6 : decode cX12_raftOf 6 = .ok (.iconst 1, 1) := by decide +kernel
theorem dX12_raftOf_7 : decode cX12_raftOf 7 = .ok (.if_icmp .ne 7, 3) := by decide +kernel
theorem dX12_raftOf_10 : decode cX12_raftOf 10 = .ok (.iconst 0, 1) := by decide +kernel
theorem dX12_raftOf_11 : decode cX12_raftOf 11 = .ok (.goto 6, 3) := by decide +kernel
theorem dX12_raftOf_14 : decode cX12_raftOf 14 = .ok (.iconst 1, 1) := by decide +kernel
theorem dX12_raftOf_15 : decode cX12_raftOf 15 = .ok (.iload_n 1, 1) := by decide +kernel
theorem dX12_raftOf_16 : decode cX12_raftOf 16 = .ok (.ishl, 1) := by decide +kernel
theorem dX12_raftOf_17 : decode cX12_raftOf 17 = .ok (.istore_n 2, 1) := by decide +kernel
theorem dX12_raftOf_18 : decode cX12_raftOf 18 = .ok (.iconst 0, 1) := by decide +kernel
theorem dX12_raftOf_19 : decode cX12_raftOf 19 = .ok (.istore_n 3, 1) := by decide +kernel
theorem dX12_raftOf_20 : decode cX12_raftOf 20 = .ok (.iload_n 3, 1) := by decide +kernel
theorem dX12_raftOf_21 : decode cX12_raftOf 21 = .ok (.bipush 6, 2) := by decide +kernel
theorem dX12_raftOf_23 : decode cX12_raftOf 23 = .ok (.if_icmp .ge 81, 3) := by decide +kernel
theorem dX12_raftOf_26 : decode cX12_raftOf 26 = .ok (.iconst 0, 1) := by decide +kernel
theorem dX12_raftOf_27 : decode cX12_raftOf 27 = .ok (.istore 4, 2) := by decide +kernel
theorem dX12_raftOf_29 : decode cX12_raftOf 29 = .ok (.iload 4, 2) := by decide +kernel
theorem dX12_raftOf_31 : decode cX12_raftOf 31 = .ok (.aload_n 0, 1) := by decide +kernel
theorem dX12_raftOf_32 : decode cX12_raftOf 32 = .ok (.getfield 7, 3) := by decide +kernel
theorem dX12_raftOf_35 : decode cX12_raftOf 35 = .ok (.iconst 0, 1) := by decide +kernel
theorem dX12_raftOf_36 : decode cX12_raftOf 36 = .ok (.iaload, 1) := by decide +kernel
theorem dX12_raftOf_37 : decode cX12_raftOf 37 = .ok (.if_icmp .ge 61, 3) := by decide +kernel
theorem dX12_raftOf_40 : decode cX12_raftOf 40 = .ok (.iconst 0, 1) := by decide +kernel
theorem dX12_raftOf_41 : decode cX12_raftOf 41 = .ok (.istore 5, 2) := by decide +kernel
theorem dX12_raftOf_43 : decode cX12_raftOf 43 = .ok (.iload 5, 2) := by decide +kernel
theorem dX12_raftOf_45 : decode cX12_raftOf 45 = .ok (.aload_n 0, 1) := by decide +kernel
theorem dX12_raftOf_46 : decode cX12_raftOf 46 = .ok (.getfield 7, 3) := by decide +kernel
theorem dX12_raftOf_49 : decode cX12_raftOf 49 = .ok (.iconst 0, 1) := by decide +kernel
theorem dX12_raftOf_50 : decode cX12_raftOf 50 = .ok (.iaload, 1) := by decide +kernel
theorem dX12_raftOf_51 : decode cX12_raftOf 51 = .ok (.if_icmp .ge 41, 3) := by decide +kernel
theorem dX12_raftOf_54 : decode cX12_raftOf 54 = .ok (.iload_n 2, 1) := by decide +kernel
theorem dX12_raftOf_55 : decode cX12_raftOf 55 = .ok (.iload_n 2, 1) := by decide +kernel
theorem dX12_raftOf_56 : decode cX12_raftOf 56 = .ok (.iload 4, 2) := by decide +kernel
theorem dX12_raftOf_58 : decode cX12_raftOf 58 = .ok (.ishr, 1) := by decide +kernel
theorem dX12_raftOf_59 : decode cX12_raftOf 59 = .ok (.iconst 1, 1) := by decide +kernel
theorem dX12_raftOf_60 : decode cX12_raftOf 60 = .ok (.iand, 1) := by decide +kernel
theorem dX12_raftOf_61 : decode cX12_raftOf 61 = .ok (.iconst 1, 1) := by decide +kernel
theorem dX12_raftOf_62 : decode cX12_raftOf 62 = .ok (.if_icmp .ne 21, 3) := by decide +kernel
theorem dX12_raftOf_65 : decode cX12_raftOf 65 = .ok (.aload_n 0, 1) := by decide +kernel
theorem dX12_raftOf_66 : decode cX12_raftOf 66 = .ok (.iload 4, 2) := by decide +kernel
theorem dX12_raftOf_68 : decode cX12_raftOf 68 = .ok (.iload 5, 2) := by decide +kernel
theorem dX12_raftOf_70 : decode cX12_raftOf 70 = .ok (.invokevirtual 309, 3) := by decide +kernel
theorem dX12_raftOf_73 : decode cX12_raftOf 73 = .ok (.ifCond .eq 10, 3) := by decide +kernel
theorem dX12_raftOf_76 : decode cX12_raftOf 76 = .ok (.iconst 1, 1) := by decide +kernel
theorem dX12_raftOf_77 : decode cX12_raftOf 77 = .ok (.iload 5, 2) := by decide +kernel
theorem dX12_raftOf_79 : decode cX12_raftOf 79 = .ok (.ishl, 1) := by decide +kernel
theorem dX12_raftOf_80 : decode cX12_raftOf 80 = .ok (.goto 4, 3) := by decide +kernel
theorem dX12_raftOf_83 : decode cX12_raftOf 83 = .ok (.iconst 0, 1) := by decide +kernel
theorem dX12_raftOf_84 : decode cX12_raftOf 84 = .ok (.ior, 1) := by decide +kernel
theorem dX12_raftOf_85 : decode cX12_raftOf 85 = .ok (.istore_n 2, 1) := by decide +kernel
theorem dX12_raftOf_86 : decode cX12_raftOf 86 = .ok (.iinc 5 1, 3) := by decide +kernel
theorem dX12_raftOf_89 : decode cX12_raftOf 89 = .ok (.goto (-46), 3) := by decide +kernel
theorem dX12_raftOf_92 : decode cX12_raftOf 92 = .ok (.iinc 4 1, 3) := by decide +kernel
theorem dX12_raftOf_95 : decode cX12_raftOf 95 = .ok (.goto (-66), 3) := by decide +kernel
theorem dX12_raftOf_98 : decode cX12_raftOf 98 = .ok (.iinc 3 1, 3) := by decide +kernel
theorem dX12_raftOf_101 : decode cX12_raftOf 101 = .ok (.goto (-81), 3) := by decide +kernel
theorem dX12_raftOf_104 : decode cX12_raftOf 104 = .ok (.iload_n 2, 1) := by decide +kernel
theorem dX12_raftOf_105 : decode cX12_raftOf 105 = .ok (.ireturn, 1) := by decide +kernel
theorem dX12_rafts_0 : decode cX12_rafts 0 = .ok (.iload_n 1, 1) := by decide +kernel
theorem dX12_rafts_1 : decode cX12_rafts 1 = .ok (.i2l, 1) := by decide +kernel
theorem dX12_rafts_2 : decode cX12_rafts 2 = .ok (.ldc2_w 197, 3) := by decide +kernel
theorem dX12_rafts_5 : decode cX12_rafts 5 = .ok (.aload_n 0, 1) := by decide +kernel
theorem dX12_rafts_6 : decode cX12_rafts 6 = .ok (.getfield 7, 3) := by decide +kernel
theorem dX12_rafts_9 : decode cX12_rafts 9 = .ok (.iconst 0, 1) := by decide +kernel
theorem dX12_rafts_10 : decode cX12_rafts 10 = .ok (.iaload, 1) := by decide +kernel
theorem dX12_rafts_11 : decode cX12_rafts 11 = .ok (.iconst 1, 1) := by decide +kernel
theorem dX12_rafts_12 : decode cX12_rafts 12 = .ok (.isub, 1) := by decide +kernel
theorem dX12_rafts_13 : decode cX12_rafts 13 = .ok (.i2l, 1) := by decide +kernel
theorem dX12_rafts_14 : decode cX12_rafts 14 = .ok (.invokestatic 61, 3) := by decide +kernel
theorem dX12_rafts_17 : decode cX12_rafts 17 = .ok (.ifCond .ne 5, 3) := by decide +kernel
theorem dX12_rafts_20 : decode cX12_rafts 20 = .ok (.iconst (-1), 1) := by decide +kernel
theorem dX12_rafts_21 : decode cX12_rafts 21 = .ok (.ireturn, 1) := by decide +kernel
theorem dX12_rafts_22 : decode cX12_rafts 22 = .ok (.iload_n 1, 1) := by decide +kernel
theorem dX12_rafts_23 : decode cX12_rafts 23 = .ok (.ifCond .lt 9, 3) := by decide +kernel
theorem dX12_rafts_26 : decode cX12_rafts 26 = .ok (.aload_n 0, 1) := by decide +kernel
theorem dX12_rafts_27 : decode cX12_rafts 27 = .ok (.iload_n 1, 1) := by decide +kernel
theorem dX12_rafts_28 : decode cX12_rafts 28 = .ok (.invokevirtual 313, 3) := by decide +kernel
theorem dX12_rafts_31 : decode cX12_rafts 31 = .ok (.ireturn, 1) := by decide +kernel
theorem dX12_rafts_32 : decode cX12_rafts 32 = .ok (.iconst 0, 1) := by decide +kernel
theorem dX12_rafts_33 : decode cX12_rafts 33 = .ok (.istore_n 2, 1) := by decide +kernel
theorem dX12_rafts_34 : decode cX12_rafts 34 = .ok (.iconst 0, 1) := by decide +kernel
theorem dX12_rafts_35 : decode cX12_rafts 35 = .ok (.istore_n 3, 1) := by decide +kernel
theorem dX12_rafts_36 : decode cX12_rafts 36 = .ok (.iconst 0, 1) := by decide +kernel
theorem dX12_rafts_37 : decode cX12_rafts 37 = .ok (.istore 4, 2) := by decide +kernel
theorem dX12_rafts_39 : decode cX12_rafts 39 = .ok (.iload 4, 2) := by decide +kernel
theorem dX12_rafts_41 : decode cX12_rafts 41 = .ok (.aload_n 0, 1) := by decide +kernel
theorem dX12_rafts_42 : decode cX12_rafts 42 = .ok (.getfield 7, 3) := by decide +kernel
theorem dX12_rafts_45 : decode cX12_rafts 45 = .ok (.iconst 0, 1) := by decide +kernel
theorem dX12_rafts_46 : decode cX12_rafts 46 = .ok (.iaload, 1) := by decide +kernel
theorem dX12_rafts_47 : decode cX12_rafts 47 = .ok (.if_icmp .ge 45, 3) := by decide +kernel
theorem dX12_rafts_50 : decode cX12_rafts 50 = .ok (.iload_n 3, 1) := by decide +kernel
theorem dX12_rafts_51 : decode cX12_rafts 51 = .ok (.aload_n 0, 1) := by decide +kernel
theorem dX12_rafts_52 : decode cX12_rafts 52 = .ok (.iload 4, 2) := by decide +kernel
theorem dX12_rafts_54 : decode cX12_rafts 54 = .ok (.iconst 4, 1) := by decide +kernel
theorem dX12_rafts_55 : decode cX12_rafts 55 = .ok (.invokevirtual 80, 3) := by decide +kernel
theorem dX12_rafts_58 : decode cX12_rafts 58 = .ok (.ifCond .ne 16, 3) := by decide +kernel
theorem dX12_rafts_61 : decode cX12_rafts 61 = .ok (.iload_n 2, 1) := by decide +kernel
theorem dX12_rafts_62 : decode cX12_rafts 62 = .ok (.iload 4, 2) := by decide +kernel
theorem dX12_rafts_64 : decode cX12_rafts 64 = .ok (.ishr, 1) := by decide +kernel
theorem dX12_rafts_65 : decode cX12_rafts 65 = .ok (.iconst 1, 1) := by decide +kernel
theorem dX12_rafts_66 : decode cX12_rafts 66 = .ok (.iand, 1) := by decide +kernel
theorem dX12_rafts_67 : decode cX12_rafts 67 = .ok (.ifCond .ne 7, 3) := by decide +kernel
theorem dX12_rafts_70 : decode cX12_rafts 70 = .ok (.iconst 1, 1) := by decide +kernel
theorem dX12_rafts_71 : decode cX12_rafts 71 = .ok (.goto 4, 3) := by decide +kernel
theorem dX12_rafts_74 : decode cX12_rafts 74 = .ok (.iconst 0, 1) := by decide +kernel
theorem dX12_rafts_75 : decode cX12_rafts 75 = .ok (.iadd, 1) := by decide +kernel
theorem dX12_rafts_76 : decode cX12_rafts 76 = .ok (.istore_n 3, 1) := by decide +kernel
theorem dX12_rafts_77 : decode cX12_rafts 77 = .ok (.iload_n 2, 1) := by decide +kernel
theorem dX12_rafts_78 : decode cX12_rafts 78 = .ok (.aload_n 0, 1) := by decide +kernel
theorem dX12_rafts_79 : decode cX12_rafts 79 = .ok (.iload 4, 2) := by decide +kernel
theorem dX12_rafts_81 : decode cX12_rafts 81 = .ok (.invokevirtual 313, 3) := by decide +kernel
theorem dX12_rafts_84 : decode cX12_rafts 84 = .ok (.ior, 1) := by decide +kernel
theorem dX12_rafts_85 : decode cX12_rafts 85 = .ok (.istore_n 2, 1) := by decide +kernel
theorem dX12_rafts_86 : decode cX12_rafts 86 = .ok (.iinc 4 1, 3) := by decide +kernel
theorem dX12_rafts_89 : decode cX12_rafts 89 = .ok (.goto (-50), 3) := by decide +kernel
theorem dX12_rafts_92 : decode cX12_rafts 92 = .ok (.iload_n 3, 1) := by decide +kernel
theorem dX12_rafts_93 : decode cX12_rafts 93 = .ok (.ireturn, 1) := by decide +kernel
theorem dX12_isPlan_0 : decode cX12_isPlan 0 = .ok (.iload_n 0, 1) := by decide +kernel
theorem dX12_isPlan_1 : decode cX12_isPlan 1 = .ok (.i2l, 1) := by decide +kernel
theorem dX12_isPlan_2 : decode cX12_isPlan 2 = .ok (.lconst 0, 1) := by decide +kernel
theorem dX12_isPlan_3 : decode cX12_isPlan 3 = .ok (.ldc2_w 316, 3) := by decide +kernel
theorem dX12_isPlan_6 : decode cX12_isPlan 6 = .ok (.invokestatic 61, 3) := by decide +kernel
theorem dX12_isPlan_9 : decode cX12_isPlan 9 = .ok (.ireturn, 1) := by decide +kernel
theorem dX12_longOf_0 : decode cX12_longOf 0 = .ok (.iload_n 1, 1) := by decide +kernel
theorem dX12_longOf_1 : decode cX12_longOf 1 = .ok (.iconst 0, 1) := by decide +kernel
theorem dX12_longOf_2 : decode cX12_longOf 2 = .ok (.aload_n 0, 1) := by decide +kernel
theorem dX12_longOf_3 : decode cX12_longOf 3 = .ok (.getfield 7, 3) := by decide +kernel
theorem dX12_longOf_6 : decode cX12_longOf 6 = .ok (.iconst 2, 1) := by decide +kernel
theorem dX12_longOf_7 : decode cX12_longOf 7 = .ok (.iaload, 1) := by decide +kernel
theorem dX12_longOf_8 : decode cX12_longOf 8 = .ok (.aload_n 0, 1) := by decide +kernel
theorem dX12_longOf_9 : decode cX12_longOf 9 = .ok (.getfield 7, 3) := by decide +kernel
theorem dX12_longOf_12 : decode cX12_longOf 12 = .ok (.iconst 1, 1) := by decide +kernel
theorem dX12_longOf_13 : decode cX12_longOf 13 = .ok (.iaload, 1) := by decide +kernel
theorem dX12_longOf_14 : decode cX12_longOf 14 = .ok (.isub, 1) := by decide +kernel
theorem dX12_longOf_15 : decode cX12_longOf 15 = .ok (.iconst 0, 1) := by decide +kernel
theorem dX12_longOf_16 : decode cX12_longOf 16 = .ok (.bipush 16, 2) := by decide +kernel
theorem dX12_longOf_18 : decode cX12_longOf 18 = .ok (.invokestatic 76, 3) := by decide +kernel
theorem dX12_longOf_21 : decode cX12_longOf 21 = .ok (.invokestatic 76, 3) := by decide +kernel
theorem dX12_longOf_24 : decode cX12_longOf 24 = .ok (.ireturn, 1) := by decide +kernel
theorem dX12_plansOf_0 : decode cX12_plansOf 0 = .ok (.iconst 1, 1) := by decide +kernel
theorem dX12_plansOf_1 : decode cX12_plansOf 1 = .ok (.istore_n 2, 1) := by decide +kernel
theorem dX12_plansOf_2 : decode cX12_plansOf 2 = .ok (.iconst 0, 1) := by decide +kernel
theorem dX12_plansOf_3 : decode cX12_plansOf 3 = .ok (.istore_n 3, 1) := by decide +kernel
theorem dX12_plansOf_4 : decode cX12_plansOf 4 = .ok (.iload_n 3, 1) := by decide +kernel
theorem dX12_plansOf_5 : decode cX12_plansOf 5 = .ok (.aload_n 0, 1) := by decide +kernel
theorem dX12_plansOf_6 : decode cX12_plansOf 6 = .ok (.iload_n 1, 1) := by decide +kernel
theorem dX12_plansOf_7 : decode cX12_plansOf 7 = .ok (.invokevirtual 318, 3) := by decide +kernel
theorem dX12_plansOf_10 : decode cX12_plansOf 10 = .ok (.if_icmp .ge 20, 3) := by decide +kernel
theorem dX12_plansOf_13 : decode cX12_plansOf 13 = .ok (.iload_n 2, 1) := by decide +kernel
theorem dX12_plansOf_14 : decode cX12_plansOf 14 = .ok (.aload_n 0, 1) := by decide +kernel
theorem dX12_plansOf_15 : decode cX12_plansOf 15 = .ok (.getfield 7, 3) := by decide +kernel
theorem dX12_plansOf_18 : decode cX12_plansOf 18 = .ok (.iconst 0, 1) := by decide +kernel
theorem dX12_plansOf_19 : decode cX12_plansOf 19 = .ok (.iaload, 1) := by decide +kernel
theorem dX12_plansOf_20 : decode cX12_plansOf 20 = .ok (.iconst 1, 1) := by decide +kernel
theorem dX12_plansOf_21 : decode cX12_plansOf 21 = .ok (.iadd, 1) := by decide +kernel
theorem dX12_plansOf_22 : decode cX12_plansOf 22 = .ok (.imul, 1) := by decide +kernel
theorem dX12_plansOf_23 : decode cX12_plansOf 23 = .ok (.istore_n 2, 1) := by decide +kernel
theorem dX12_plansOf_24 : decode cX12_plansOf 24 = .ok (.iinc 3 1, 3) := by decide +kernel
theorem dX12_plansOf_27 : decode cX12_plansOf 27 = .ok (.goto (-23), 3) := by decide +kernel
theorem dX12_plansOf_30 : decode cX12_plansOf 30 = .ok (.iload_n 2, 1) := by decide +kernel
theorem dX12_plansOf_31 : decode cX12_plansOf 31 = .ok (.ireturn, 1) := by decide +kernel
theorem dX12_actsOf_0 : decode cX12_actsOf 0 = .ok (.iload_n 1, 1) := by decide +kernel
theorem dX12_actsOf_1 : decode cX12_actsOf 1 = .ok (.istore_n 3, 1) := by decide +kernel
theorem dX12_actsOf_2 : decode cX12_actsOf 2 = .ok (.iload_n 2, 1) := by decide +kernel
theorem dX12_actsOf_3 : decode cX12_actsOf 3 = .ok (.iconst 1, 1) := by decide +kernel
theorem dX12_actsOf_4 : decode cX12_actsOf 4 = .ok (.isub, 1) := by decide +kernel
theorem dX12_actsOf_5 : decode cX12_actsOf 5 = .ok (.istore 4, 2) := by decide +kernel
theorem dX12_actsOf_7 : decode cX12_actsOf 7 = .ok (.iload 4, 2) := by decide +kernel
theorem dX12_actsOf_9 : decode cX12_actsOf 9 = .ok (.ifCond .lt 37, 3) := by decide +kernel
theorem dX12_actsOf_12 : decode cX12_actsOf 12 = .ok (.aload_n 0, 1) := by decide +kernel
theorem dX12_actsOf_13 : decode cX12_actsOf 13 = .ok (.getfield 34, 3) := by decide +kernel
theorem dX12_actsOf_16 : decode cX12_actsOf 16 = .ok (.iload 4, 2) := by decide +kernel
theorem dX12_actsOf_18 : decode cX12_actsOf 18 = .ok (.iload_n 3, 1) := by decide +kernel
theorem dX12_actsOf_19 : decode cX12_actsOf 19 = .ok (.aload_n 0, 1) := by decide +kernel
theorem dX12_actsOf_20 : decode cX12_actsOf 20 = .ok (.getfield 7, 3) := by decide +kernel
theorem dX12_actsOf_23 : decode cX12_actsOf 23 = .ok (.iconst 0, 1) := by decide +kernel
theorem dX12_actsOf_24 : decode cX12_actsOf 24 = .ok (.iaload, 1) := by decide +kernel
theorem dX12_actsOf_25 : decode cX12_actsOf 25 = .ok (.iconst 1, 1) := by decide +kernel
theorem dX12_actsOf_26 : decode cX12_actsOf 26 = .ok (.iadd, 1) := by decide +kernel
theorem dX12_actsOf_27 : decode cX12_actsOf 27 = .ok (.irem, 1) := by decide +kernel
theorem dX12_actsOf_28 : decode cX12_actsOf 28 = .ok (.iastore, 1) := by decide +kernel
theorem dX12_actsOf_29 : decode cX12_actsOf 29 = .ok (.iload_n 3, 1) := by decide +kernel
theorem dX12_actsOf_30 : decode cX12_actsOf 30 = .ok (.aload_n 0, 1) := by decide +kernel
theorem dX12_actsOf_31 : decode cX12_actsOf 31 = .ok (.getfield 7, 3) := by decide +kernel
theorem dX12_actsOf_34 : decode cX12_actsOf 34 = .ok (.iconst 0, 1) := by decide +kernel
theorem dX12_actsOf_35 : decode cX12_actsOf 35 = .ok (.iaload, 1) := by decide +kernel
theorem dX12_actsOf_36 : decode cX12_actsOf 36 = .ok (.iconst 1, 1) := by decide +kernel
theorem dX12_actsOf_37 : decode cX12_actsOf 37 = .ok (.iadd, 1) := by decide +kernel
theorem dX12_actsOf_38 : decode cX12_actsOf 38 = .ok (.idiv, 1) := by decide +kernel
theorem dX12_actsOf_39 : decode cX12_actsOf 39 = .ok (.istore_n 3, 1) := by decide +kernel
theorem dX12_actsOf_40 : decode cX12_actsOf 40 = .ok (.iinc 4 (-1), 3) := by decide +kernel
theorem dX12_actsOf_43 : decode cX12_actsOf 43 = .ok (.goto (-36), 3) := by decide +kernel
theorem dX12_actsOf_46 : decode cX12_actsOf 46 = .ok (.return_, 1) := by decide +kernel
theorem dX12_findBest_0 : decode cX12_findBest 0 = .ok (.aload_n 0, 1) := by decide +kernel
theorem dX12_findBest_1 : decode cX12_findBest 1 = .ok (.iload_n 1, 1) := by decide +kernel
theorem dX12_findBest_2 : decode cX12_findBest 2 = .ok (.invokevirtual 318, 3) := by decide +kernel
theorem dX12_findBest_5 : decode cX12_findBest 5 = .ok (.istore_n 2, 1) := by decide +kernel
theorem dX12_findBest_6 : decode cX12_findBest 6 = .ok (.aload_n 0, 1) := by decide +kernel
theorem dX12_findBest_7 : decode cX12_findBest 7 = .ok (.iload_n 1, 1) := by decide +kernel
theorem dX12_findBest_8 : decode cX12_findBest 8 = .ok (.invokevirtual 321, 3) := by decide +kernel
theorem dX12_findBest_11 : decode cX12_findBest 11 = .ok (.istore_n 3, 1) := by decide +kernel
theorem dX12_findBest_12 : decode cX12_findBest 12 = .ok (.aload_n 0, 1) := by decide +kernel
theorem dX12_findBest_13 : decode cX12_findBest 13 = .ok (.iconst (-1), 1) := by decide +kernel
theorem dX12_findBest_14 : decode cX12_findBest 14 = .ok (.putfield 324, 3) := by decide +kernel
theorem dX12_findBest_17 : decode cX12_findBest 17 = .ok (.aload_n 0, 1) := by decide +kernel
theorem dX12_findBest_18 : decode cX12_findBest 18 = .ok (.invokevirtual 297, 3) := by decide +kernel
theorem dX12_findBest_21 : decode cX12_findBest 21 = .ok (.iconst 0, 1) := by decide +kernel
theorem dX12_findBest_22 : decode cX12_findBest 22 = .ok (.istore 4, 2) := by decide +kernel
theorem dX12_findBest_24 : decode cX12_findBest 24 = .ok (.iload 4, 2) := by decide +kernel
theorem dX12_findBest_26 : decode cX12_findBest 26 = .ok (.iload_n 3, 1) := by decide +kernel
theorem dX12_findBest_27 : decode cX12_findBest 27 = .ok (.if_icmp .ge 137, 3) := by decide +kernel
theorem dX12_findBest_30 : decode cX12_findBest 30 = .ok (.aload_n 0, 1) := by decide +kernel
theorem dX12_findBest_31 : decode cX12_findBest 31 = .ok (.iload 4, 2) := by decide +kernel
theorem dX12_findBest_33 : decode cX12_findBest 33 = .ok (.iload_n 2, 1) := by decide +kernel
theorem dX12_findBest_34 : decode cX12_findBest 34 = .ok (.invokevirtual 327, 3) := by decide +kernel
theorem dX12_findBest_37 : decode cX12_findBest 37 = .ok (.iconst 0, 1) := by decide +kernel
theorem dX12_findBest_38 : decode cX12_findBest 38 = .ok (.istore 5, 2) := by decide +kernel
theorem dX12_findBest_40 : decode cX12_findBest 40 = .ok (.iconst 0, 1) := by decide +kernel
theorem dX12_findBest_41 : decode cX12_findBest 41 = .ok (.istore 6, 2) := by decide +kernel
theorem dX12_findBest_43 : decode cX12_findBest 43 = .ok (.iload 6, 2) := by decide +kernel
theorem dX12_findBest_45 : decode cX12_findBest 45 = .ok (.iload_n 2, 1) := by decide +kernel
theorem dX12_findBest_46 : decode cX12_findBest 46 = .ok (.if_icmp .ge 25, 3) := by decide +kernel
theorem dX12_findBest_49 : decode cX12_findBest 49 = .ok (.iload 5, 2) := by decide +kernel
theorem dX12_findBest_51 : decode cX12_findBest 51 = .ok (.aload_n 0, 1) := by decide +kernel
theorem dX12_findBest_52 : decode cX12_findBest 52 = .ok (.aload_n 0, 1) := by decide +kernel
theorem dX12_findBest_53 : decode cX12_findBest 53 = .ok (.getfield 34, 3) := by decide +kernel
theorem dX12_findBest_56 : decode cX12_findBest 56 = .ok (.iload 6, 2) := by decide +kernel
theorem dX12_findBest_58 : decode cX12_findBest 58 = .ok (.iaload, 1) := by decide +kernel
theorem dX12_findBest_59 : decode cX12_findBest 59 = .ok (.invokevirtual 144, 3) := by decide +kernel
theorem dX12_findBest_62 : decode cX12_findBest 62 = .ok (.iadd, 1) := by decide +kernel
theorem dX12_findBest_63 : decode cX12_findBest 63 = .ok (.istore 5, 2) := by decide +kernel
theorem dX12_findBest_65 : decode cX12_findBest 65 = .ok (.iinc 6 1, 3) := by decide +kernel
theorem dX12_findBest_68 : decode cX12_findBest 68 = .ok (.goto (-25), 3) := by decide +kernel
theorem dX12_findBest_71 : decode cX12_findBest 71 = .ok (.aload_n 0, 1) := by decide +kernel
theorem dX12_findBest_72 : decode cX12_findBest 72 = .ok (.invokevirtual 69, 3) := by decide +kernel
theorem dX12_findBest_75 : decode cX12_findBest 75 = .ok (.aload_n 0, 1) := by decide +kernel
theorem dX12_findBest_76 : decode cX12_findBest 76 = .ok (.iload 5, 2) := by decide +kernel
theorem dX12_findBest_78 : decode cX12_findBest 78 = .ok (.aload_n 0, 1) := by decide +kernel
theorem dX12_findBest_79 : decode cX12_findBest 79 = .ok (.getfield 324, 3) := by decide +kernel
theorem dX12_findBest_82 : decode cX12_findBest 82 = .ok (.if_icmp .le 8, 3) := by decide +kernel
theorem dX12_findBest_85 : decode cX12_findBest 85 = .ok (.iload 4, 2) := by decide +kernel
theorem dX12_findBest_87 : decode cX12_findBest 87 = .ok (.goto 7, 3) := by decide +kernel
theorem dX12_findBest_90 : decode cX12_findBest 90 = .ok (.aload_n 0, 1) := by decide +kernel
theorem dX12_findBest_91 : decode cX12_findBest 91 = .ok (.getfield 331, 3) := by decide +kernel
theorem dX12_findBest_94 : decode cX12_findBest 94 = .ok (.putfield 331, 3) := by decide +kernel
theorem dX12_findBest_97 : decode cX12_findBest 97 = .ok (.aload_n 0, 1) := by decide +kernel
theorem dX12_findBest_98 : decode cX12_findBest 98 = .ok (.iload 5, 2) := by decide +kernel
theorem dX12_findBest_100 : decode cX12_findBest 100 = .ok (.aload_n 0, 1) := by decide +kernel
theorem dX12_findBest_101 : decode cX12_findBest 101 = .ok (.getfield 324, 3) := by decide +kernel
theorem dX12_findBest_104 : decode cX12_findBest 104 = .ok (.if_icmp .le 7, 3) := by decide +kernel
theorem dX12_findBest_107 : decode cX12_findBest 107 = .ok (.iconst 1, 1) := by decide +kernel
theorem dX12_findBest_108 : decode cX12_findBest 108 = .ok (.goto 25, 3) := by decide +kernel
theorem dX12_findBest_111 : decode cX12_findBest 111 = .ok (.iload 5, 2) := by decide +kernel
theorem dX12_findBest_113 : decode cX12_findBest 113 = .ok (.aload_n 0, 1) := by decide +kernel
theorem dX12_findBest_114 : decode cX12_findBest 114 = .ok (.getfield 324, 3) := by decide +kernel
theorem dX12_findBest_117 : decode cX12_findBest 117 = .ok (.if_icmp .ne 12, 3) := by decide +kernel
theorem dX12_findBest_120 : decode cX12_findBest 120 = .ok (.aload_n 0, 1) := by decide +kernel
theorem dX12_findBest_121 : decode cX12_findBest 121 = .ok (.getfield 334, 3) := by decide +kernel
theorem dX12_findBest_124 : decode cX12_findBest 124 = .ok (.iconst 1, 1) := by decide +kernel
theorem dX12_findBest_125 : decode cX12_findBest 125 = .ok (.iadd, 1) := by decide +kernel
theorem dX12_findBest_126 : decode cX12_findBest 126 = .ok (.goto 7, 3) := by decide +kernel
theorem dX12_findBest_129 : decode cX12_findBest 129 = .ok (.aload_n 0, 1) := by decide +kernel
theorem dX12_findBest_130 : decode cX12_findBest 130 = .ok (.getfield 334, 3) := by decide +kernel
theorem dX12_findBest_133 : decode cX12_findBest 133 = .ok (.putfield 334, 3) := by decide +kernel
theorem dX12_findBest_136 : decode cX12_findBest 136 = .ok (.aload_n 0, 1) := by decide +kernel
theorem dX12_findBest_137 : decode cX12_findBest 137 = .ok (.iload 5, 2) := by decide +kernel
theorem dX12_findBest_139 : decode cX12_findBest 139 = .ok (.aload_n 0, 1) := by decide +kernel
theorem dX12_findBest_140 : decode cX12_findBest 140 = .ok (.getfield 324, 3) := by decide +kernel
theorem dX12_findBest_143 : decode cX12_findBest 143 = .ok (.if_icmp .le 8, 3) := by decide +kernel
theorem dX12_findBest_146 : decode cX12_findBest 146 = .ok (.iload 5, 2) := by decide +kernel
theorem dX12_findBest_148 : decode cX12_findBest 148 = .ok (.goto 7, 3) := by decide +kernel
theorem dX12_findBest_151 : decode cX12_findBest 151 = .ok (.aload_n 0, 1) := by decide +kernel
theorem dX12_findBest_152 : decode cX12_findBest 152 = .ok (.getfield 324, 3) := by decide +kernel
theorem dX12_findBest_155 : decode cX12_findBest 155 = .ok (.putfield 324, 3) := by decide +kernel
theorem dX12_findBest_158 : decode cX12_findBest 158 = .ok (.iinc 4 1, 3) := by decide +kernel
theorem dX12_findBest_161 : decode cX12_findBest 161 = .ok (.goto (-137), 3) := by decide +kernel
theorem dX12_findBest_164 : decode cX12_findBest 164 = .ok (.aload_n 0, 1) := by decide +kernel
theorem dX12_findBest_165 : decode cX12_findBest 165 = .ok (.invokevirtual 303, 3) := by decide +kernel
theorem dX12_findBest_168 : decode cX12_findBest 168 = .ok (.return_, 1) := by decide +kernel
theorem dX12_best_0 : decode cX12_best 0 = .ok (.iload_n 1, 1) := by decide +kernel
theorem dX12_best_1 : decode cX12_best 1 = .ok (.invokestatic 337, 3) := by decide +kernel
theorem dX12_best_4 : decode cX12_best 4 = .ok (.ifCond .ne 5, 3) := by decide +kernel
theorem dX12_best_7 : decode cX12_best 7 = .ok (.iconst (-1), 1) := by decide +kernel
theorem dX12_best_8 : decode cX12_best 8 = .ok (.ireturn, 1) := by decide +kernel
theorem dX12_best_9 : decode cX12_best 9 = .ok (.aload_n 0, 1) := by decide +kernel
theorem dX12_best_10 : decode cX12_best 10 = .ok (.iload_n 1, 1) := by decide +kernel
theorem dX12_best_11 : decode cX12_best 11 = .ok (.invokevirtual 340, 3) := by decide +kernel
theorem dX12_best_14 : decode cX12_best 14 = .ok (.aload_n 0, 1) := by decide +kernel
theorem dX12_best_15 : decode cX12_best 15 = .ok (.getfield 324, 3) := by decide +kernel
theorem dX12_best_18 : decode cX12_best 18 = .ok (.ireturn, 1) := by decide +kernel
theorem dX12_ith_0 : decode cX12_ith 0 = .ok (.iload_n 1, 1) := by decide +kernel
theorem dX12_ith_1 : decode cX12_ith 1 = .ok (.invokestatic 337, 3) := by decide +kernel
theorem dX12_ith_4 : decode cX12_ith 4 = .ok (.ifCond .eq 15, 3) := by decide +kernel
theorem dX12_ith_7 : decode cX12_ith 7 = .ok (.iload_n 2, 1) := by decide +kernel
theorem dX12_ith_8 : decode cX12_ith 8 = .ok (.i2l, 1) := by decide +kernel
theorem dX12_ith_9 : decode cX12_ith 9 = .ok (.lconst 0, 1) := by decide +kernel
theorem dX12_ith_10 : decode cX12_ith 10 = .ok (.ldc2_w 343, 3) := by decide +kernel
theorem dX12_ith_13 : decode cX12_ith 13 = .ok (.invokestatic 61, 3) := by decide +kernel
theorem dX12_ith_16 : decode cX12_ith 16 = .ok (.ifCond .ne 5, 3) := by decide +kernel
theorem dX12_ith_19 : decode cX12_ith 19 = .ok (.iconst (-1), 1) := by decide +kernel
theorem dX12_ith_20 : decode cX12_ith 20 = .ok (.ireturn, 1) := by decide +kernel
theorem dX12_ith_21 : decode cX12_ith 21 = .ok (.iload_n 2, 1) := by decide +kernel
theorem dX12_ith_22 : decode cX12_ith 22 = .ok (.aload_n 0, 1) := by decide +kernel
theorem dX12_ith_23 : decode cX12_ith 23 = .ok (.iload_n 1, 1) := by decide +kernel
theorem dX12_ith_24 : decode cX12_ith 24 = .ok (.invokevirtual 318, 3) := by decide +kernel
theorem dX12_ith_27 : decode cX12_ith 27 = .ok (.if_icmp .lt 6, 3) := by decide +kernel
theorem dX12_ith_30 : decode cX12_ith 30 = .ok (.bipush (-3), 2) := by decide +kernel
theorem dX12_ith_32 : decode cX12_ith 32 = .ok (.ireturn, 1) := by decide +kernel
theorem dX12_ith_33 : decode cX12_ith 33 = .ok (.aload_n 0, 1) := by decide +kernel
theorem dX12_ith_34 : decode cX12_ith 34 = .ok (.iload_n 1, 1) := by decide +kernel
theorem dX12_ith_35 : decode cX12_ith 35 = .ok (.invokevirtual 340, 3) := by decide +kernel
theorem dX12_ith_38 : decode cX12_ith 38 = .ok (.aload_n 0, 1) := by decide +kernel
theorem dX12_ith_39 : decode cX12_ith 39 = .ok (.aload_n 0, 1) := by decide +kernel
theorem dX12_ith_40 : decode cX12_ith 40 = .ok (.getfield 331, 3) := by decide +kernel
theorem dX12_ith_43 : decode cX12_ith 43 = .ok (.aload_n 0, 1) := by decide +kernel
theorem dX12_ith_44 : decode cX12_ith 44 = .ok (.iload_n 1, 1) := by decide +kernel
theorem dX12_ith_45 : decode cX12_ith 45 = .ok (.invokevirtual 318, 3) := by decide +kernel
theorem dX12_ith_48 : decode cX12_ith 48 = .ok (.invokevirtual 327, 3) := by decide +kernel
theorem dX12_ith_51 : decode cX12_ith 51 = .ok (.aload_n 0, 1) := by decide +kernel
theorem dX12_ith_52 : decode cX12_ith 52 = .ok (.getfield 34, 3) := by decide +kernel
theorem dX12_ith_55 : decode cX12_ith 55 = .ok (.iload_n 2, 1) := by decide +kernel
theorem dX12_ith_56 : decode cX12_ith 56 = .ok (.iaload, 1) := by decide +kernel
theorem dX12_ith_57 : decode cX12_ith 57 = .ok (.ireturn, 1) := by decide +kernel
theorem dX12_ways_0 : decode cX12_ways 0 = .ok (.iload_n 1, 1) := by decide +kernel
theorem dX12_ways_1 : decode cX12_ways 1 = .ok (.invokestatic 337, 3) := by decide +kernel
theorem dX12_ways_4 : decode cX12_ways 4 = .ok (.ifCond .ne 5, 3) := by decide +kernel
theorem dX12_ways_7 : decode cX12_ways 7 = .ok (.iconst (-1), 1) := by decide +kernel
theorem dX12_ways_8 : decode cX12_ways 8 = .ok (.ireturn, 1) := by decide +kernel
theorem dX12_ways_9 : decode cX12_ways 9 = .ok (.aload_n 0, 1) := by decide +kernel
theorem dX12_ways_10 : decode cX12_ways 10 = .ok (.iload_n 1, 1) := by decide +kernel
theorem dX12_ways_11 : decode cX12_ways 11 = .ok (.invokevirtual 340, 3) := by decide +kernel
theorem dX12_ways_14 : decode cX12_ways 14 = .ok (.aload_n 0, 1) := by decide +kernel
theorem dX12_ways_15 : decode cX12_ways 15 = .ok (.getfield 334, 3) := by decide +kernel
theorem dX12_ways_18 : decode cX12_ways 18 = .ok (.ireturn, 1) := by decide +kernel
theorem dX12_areBarrels_0 : decode cX12_areBarrels 0 = .ok (.iload_n 1, 1) := by decide +kernel
theorem dX12_areBarrels_1 : decode cX12_areBarrels 1 = .ok (.i2l, 1) := by decide +kernel
theorem dX12_areBarrels_2 : decode cX12_areBarrels 2 = .ok (.lconst 0, 1) := by decide +kernel
theorem dX12_areBarrels_3 : decode cX12_areBarrels 3 = .ok (.iconst 1, 1) := by decide +kernel
theorem dX12_areBarrels_4 : decode cX12_areBarrels 4 = .ok (.aload_n 0, 1) := by decide +kernel
theorem dX12_areBarrels_5 : decode cX12_areBarrels 5 = .ok (.getfield 7, 3) := by decide +kernel
theorem dX12_areBarrels_8 : decode cX12_areBarrels 8 = .ok (.iconst 0, 1) := by decide +kernel
theorem dX12_areBarrels_9 : decode cX12_areBarrels 9 = .ok (.iaload, 1) := by decide +kernel
theorem dX12_areBarrels_10 : decode cX12_areBarrels 10 = .ok (.ishl, 1) := by decide +kernel
theorem dX12_areBarrels_11 : decode cX12_areBarrels 11 = .ok (.iconst 1, 1) := by decide +kernel
theorem dX12_areBarrels_12 : decode cX12_areBarrels 12 = .ok (.isub, 1) := by decide +kernel
theorem dX12_areBarrels_13 : decode cX12_areBarrels 13 = .ok (.i2l, 1) := by decide +kernel
theorem dX12_areBarrels_14 : decode cX12_areBarrels 14 = .ok (.invokestatic 61, 3) := by decide +kernel
theorem dX12_areBarrels_17 : decode cX12_areBarrels 17 = .ok (.ireturn, 1) := by decide +kernel
theorem dX12_findCharts_0 : decode cX12_findCharts 0 = .ok (.aload_n 0, 1) := by decide +kernel
theorem dX12_findCharts_1 : decode cX12_findCharts 1 = .ok (.iload_n 1, 1) := by decide +kernel
theorem dX12_findCharts_2 : decode cX12_findCharts 2 = .ok (.invokevirtual 318, 3) := by decide +kernel
theorem dX12_findCharts_5 : decode cX12_findCharts 5 = .ok (.istore_n 3, 1) := by decide +kernel
theorem dX12_findCharts_6 : decode cX12_findCharts 6 = .ok (.aload_n 0, 1) := by decide +kernel
theorem dX12_findCharts_7 : decode cX12_findCharts 7 = .ok (.iload_n 1, 1) := by decide +kernel
theorem dX12_findCharts_8 : decode cX12_findCharts 8 = .ok (.invokevirtual 321, 3) := by decide +kernel
theorem dX12_findCharts_11 : decode cX12_findCharts 11 = .ok (.istore 4, 2) := by decide +kernel
theorem dX12_findCharts_13 : decode cX12_findCharts 13 = .ok (.aload_n 0, 1) := by decide +kernel
theorem dX12_findCharts_14 : decode cX12_findCharts 14 = .ok (.bipush (-3), 2) := by decide +kernel
theorem dX12_findCharts_16 : decode cX12_findCharts 16 = .ok (.putfield 345, 3) := by decide +kernel
theorem dX12_findCharts_19 : decode cX12_findCharts 19 = .ok (.aload_n 0, 1) := by decide +kernel
theorem dX12_findCharts_20 : decode cX12_findCharts 20 = .ok (.iconst 0, 1) := by decide +kernel
theorem dX12_findCharts_21 : decode cX12_findCharts 21 = .ok (.putfield 348, 3) := by decide +kernel
theorem dX12_findCharts_24 : decode cX12_findCharts 24 = .ok (.aload_n 0, 1) := by decide +kernel
theorem dX12_findCharts_25 : decode cX12_findCharts 25 = .ok (.invokevirtual 297, 3) := by decide +kernel
theorem dX12_findCharts_28 : decode cX12_findCharts 28 = .ok (.iconst 0, 1) := by decide +kernel
theorem dX12_findCharts_29 : decode cX12_findCharts 29 = .ok (.istore 5, 2) := by decide +kernel
theorem dX12_findCharts_31 : decode cX12_findCharts 31 = .ok (.iload 5, 2) := by decide +kernel
theorem dX12_findCharts_33 : decode cX12_findCharts 33 = .ok (.iload 4, 2) := by decide +kernel
theorem dX12_findCharts_35 : decode cX12_findCharts 35 = .ok (.if_icmp .ge 125, 3) := by decide +kernel
theorem dX12_findCharts_38 : decode cX12_findCharts 38 = .ok (.aload_n 0, 1) := by decide +kernel
theorem dX12_findCharts_39 : decode cX12_findCharts 39 = .ok (.iload 5, 2) := by decide +kernel
theorem dX12_findCharts_41 : decode cX12_findCharts 41 = .ok (.iload_n 3, 1) := by decide +kernel
theorem dX12_findCharts_42 : decode cX12_findCharts 42 = .ok (.invokevirtual 327, 3) := by decide +kernel
theorem dX12_findCharts_45 : decode cX12_findCharts 45 = .ok (.iconst 0, 1) := by decide +kernel
theorem dX12_findCharts_46 : decode cX12_findCharts 46 = .ok (.istore 6, 2) := by decide +kernel
theorem dX12_findCharts_48 : decode cX12_findCharts 48 = .ok (.iconst 0, 1) := by decide +kernel
theorem dX12_findCharts_49 : decode cX12_findCharts 49 = .ok (.istore 7, 2) := by decide +kernel
theorem dX12_findCharts_51 : decode cX12_findCharts 51 = .ok (.iload 7, 2) := by decide +kernel
theorem dX12_findCharts_53 : decode cX12_findCharts 53 = .ok (.iload_n 3, 1) := by decide +kernel
theorem dX12_findCharts_54 : decode cX12_findCharts 54 = .ok (.if_icmp .ge 41, 3) := by decide +kernel
theorem dX12_findCharts_57 : decode cX12_findCharts 57 = .ok (.iload 6, 2) := by decide +kernel
theorem dX12_findCharts_59 : decode cX12_findCharts 59 = .ok (.aload_n 0, 1) := by decide +kernel
theorem dX12_findCharts_60 : decode cX12_findCharts 60 = .ok (.getfield 34, 3) := by decide +kernel
theorem dX12_findCharts_63 : decode cX12_findCharts 63 = .ok (.iload 7, 2) := by decide +kernel
theorem dX12_findCharts_65 : decode cX12_findCharts 65 = .ok (.iaload, 1) := by decide +kernel
theorem dX12_findCharts_66 : decode cX12_findCharts 66 = .ok (.ifCond .le 7, 3) := by decide +kernel
theorem dX12_findCharts_69 : decode cX12_findCharts 69 = .ok (.iconst 1, 1) := by decide +kernel
theorem dX12_findCharts_70 : decode cX12_findCharts 70 = .ok (.goto 4, 3) := by decide +kernel
theorem dX12_findCharts_73 : decode cX12_findCharts 73 = .ok (.iconst 0, 1) := by decide +kernel
theorem dX12_findCharts_74 : decode cX12_findCharts 74 = .ok (.iadd, 1) := by decide +kernel
theorem dX12_findCharts_75 : decode cX12_findCharts 75 = .ok (.istore 6, 2) := by decide +kernel
theorem dX12_findCharts_77 : decode cX12_findCharts 77 = .ok (.aload_n 0, 1) := by decide +kernel
theorem dX12_findCharts_78 : decode cX12_findCharts 78 = .ok (.aload_n 0, 1) := by decide +kernel
theorem dX12_findCharts_79 : decode cX12_findCharts 79 = .ok (.getfield 34, 3) := by decide +kernel
theorem dX12_findCharts_82 : decode cX12_findCharts 82 = .ok (.iload 7, 2) := by decide +kernel
theorem dX12_findCharts_84 : decode cX12_findCharts 84 = .ok (.iaload, 1) := by decide +kernel
theorem dX12_findCharts_85 : decode cX12_findCharts 85 = .ok (.invokevirtual 144, 3) := by decide +kernel
theorem dX12_findCharts_88 : decode cX12_findCharts 88 = .ok (.pop, 1) := by decide +kernel
theorem dX12_findCharts_89 : decode cX12_findCharts 89 = .ok (.iinc 7 1, 3) := by decide +kernel
theorem dX12_findCharts_92 : decode cX12_findCharts 92 = .ok (.goto (-41), 3) := by decide +kernel
theorem dX12_findCharts_95 : decode cX12_findCharts 95 = .ok (.aload_n 0, 1) := by decide +kernel
theorem dX12_findCharts_96 : decode cX12_findCharts 96 = .ok (.invokevirtual 163, 3) := by decide +kernel
theorem dX12_findCharts_99 : decode cX12_findCharts 99 = .ok (.istore 7, 2) := by decide +kernel
theorem dX12_findCharts_101 : decode cX12_findCharts 101 = .ok (.aload_n 0, 1) := by decide +kernel
theorem dX12_findCharts_102 : decode cX12_findCharts 102 = .ok (.invokevirtual 69, 3) := by decide +kernel
theorem dX12_findCharts_105 : decode cX12_findCharts 105 = .ok (.aload_n 0, 1) := by decide +kernel
theorem dX12_findCharts_106 : decode cX12_findCharts 106 = .ok (.dup, 1) := by decide +kernel
theorem dX12_findCharts_107 : decode cX12_findCharts 107 = .ok (.getfield 348, 3) := by decide +kernel
theorem dX12_findCharts_110 : decode cX12_findCharts 110 = .ok (.iload 7, 2) := by decide +kernel
theorem dX12_findCharts_112 : decode cX12_findCharts 112 = .ok (.ior, 1) := by decide +kernel
theorem dX12_findCharts_113 : decode cX12_findCharts 113 = .ok (.putfield 348, 3) := by decide +kernel
theorem dX12_findCharts_116 : decode cX12_findCharts 116 = .ok (.aload_n 0, 1) := by decide +kernel
theorem dX12_findCharts_117 : decode cX12_findCharts 117 = .ok (.iload_n 2, 1) := by decide +kernel
theorem dX12_findCharts_118 : decode cX12_findCharts 118 = .ok (.iload 7, 2) := by decide +kernel
theorem dX12_findCharts_120 : decode cX12_findCharts 120 = .ok (.iconst (-1), 1) := by decide +kernel
theorem dX12_findCharts_121 : decode cX12_findCharts 121 = .ok (.ixor, 1) := by decide +kernel
theorem dX12_findCharts_122 : decode cX12_findCharts 122 = .ok (.iand, 1) := by decide +kernel
theorem dX12_findCharts_123 : decode cX12_findCharts 123 = .ok (.ifCond .ne 24, 3) := by decide +kernel
theorem dX12_findCharts_126 : decode cX12_findCharts 126 = .ok (.aload_n 0, 1) := by decide +kernel
theorem dX12_findCharts_127 : decode cX12_findCharts 127 = .ok (.getfield 345, 3) := by decide +kernel
theorem dX12_findCharts_130 : decode cX12_findCharts 130 = .ok (.ifCond .lt 12, 3) := by decide +kernel
theorem dX12_findCharts_133 : decode cX12_findCharts 133 = .ok (.iload 6, 2) := by decide +kernel
theorem dX12_findCharts_135 : decode cX12_findCharts 135 = .ok (.aload_n 0, 1) := by decide +kernel
theorem dX12_findCharts_136 : decode cX12_findCharts 136 = .ok (.getfield 345, 3) := by decide +kernel
theorem dX12_findCharts_139 : decode cX12_findCharts 139 = .ok (.if_icmp .ge 8, 3) := by decide +kernel
theorem dX12_findCharts_142 : decode cX12_findCharts 142 = .ok (.iload 6, 2) := by decide +kernel
theorem dX12_findCharts_144 : decode cX12_findCharts 144 = .ok (.goto 7, 3) := by decide +kernel
theorem dX12_findCharts_147 : decode cX12_findCharts 147 = .ok (.aload_n 0, 1) := by decide +kernel
theorem dX12_findCharts_148 : decode cX12_findCharts 148 = .ok (.getfield 345, 3) := by decide +kernel
theorem dX12_findCharts_151 : decode cX12_findCharts 151 = .ok (.putfield 345, 3) := by decide +kernel
theorem dX12_findCharts_154 : decode cX12_findCharts 154 = .ok (.iinc 5 1, 3) := by decide +kernel
theorem dX12_findCharts_157 : decode cX12_findCharts 157 = .ok (.goto (-126), 3) := by decide +kernel
theorem dX12_findCharts_160 : decode cX12_findCharts 160 = .ok (.aload_n 0, 1) := by decide +kernel
theorem dX12_findCharts_161 : decode cX12_findCharts 161 = .ok (.invokevirtual 303, 3) := by decide +kernel
theorem dX12_findCharts_164 : decode cX12_findCharts 164 = .ok (.return_, 1) := by decide +kernel
theorem dX12_chart_0 : decode cX12_chart 0 = .ok (.iload_n 1, 1) := by decide +kernel
theorem dX12_chart_1 : decode cX12_chart 1 = .ok (.invokestatic 337, 3) := by decide +kernel
theorem dX12_chart_4 : decode cX12_chart 4 = .ok (.ifCond .eq 11, 3) := by decide +kernel
theorem dX12_chart_7 : decode cX12_chart 7 = .ok (.aload_n 0, 1) := by decide +kernel
theorem dX12_chart_8 : decode cX12_chart 8 = .ok (.iload_n 2, 1) := by decide +kernel
theorem dX12_chart_9 : decode cX12_chart 9 = .ok (.invokevirtual 351, 3) := by decide +kernel
theorem dX12_chart_12 : decode cX12_chart 12 = .ok (.ifCond .ne 5, 3) := by decide +kernel
theorem dX12_chart_15 : decode cX12_chart 15 = .ok (.iconst (-1), 1) := by decide +kernel
theorem dX12_chart_16 : decode cX12_chart 16 = .ok (.ireturn, 1) := by decide +kernel
theorem dX12_chart_17 : decode cX12_chart 17 = .ok (.aload_n 0, 1) := by decide +kernel
theorem dX12_chart_18 : decode cX12_chart 18 = .ok (.iload_n 1, 1) := by decide +kernel
theorem dX12_chart_19 : decode cX12_chart 19 = .ok (.iload_n 2, 1) := by decide +kernel
theorem dX12_chart_20 : decode cX12_chart 20 = .ok (.invokevirtual 354, 3) := by decide +kernel
theorem dX12_chart_23 : decode cX12_chart 23 = .ok (.aload_n 0, 1) := by decide +kernel
theorem dX12_chart_24 : decode cX12_chart 24 = .ok (.getfield 345, 3) := by decide +kernel
theorem dX12_chart_27 : decode cX12_chart 27 = .ok (.ireturn, 1) := by decide +kernel
theorem dX12_bars_0 : decode cX12_bars 0 = .ok (.iload_n 1, 1) := by decide +kernel
theorem dX12_bars_1 : decode cX12_bars 1 = .ok (.invokestatic 337, 3) := by decide +kernel
theorem dX12_bars_4 : decode cX12_bars 4 = .ok (.ifCond .eq 11, 3) := by decide +kernel
theorem dX12_bars_7 : decode cX12_bars 7 = .ok (.aload_n 0, 1) := by decide +kernel
theorem dX12_bars_8 : decode cX12_bars 8 = .ok (.iload_n 2, 1) := by decide +kernel
theorem dX12_bars_9 : decode cX12_bars 9 = .ok (.invokevirtual 351, 3) := by decide +kernel
theorem dX12_bars_12 : decode cX12_bars 12 = .ok (.ifCond .ne 5, 3) := by decide +kernel
theorem dX12_bars_15 : decode cX12_bars 15 = .ok (.iconst (-1), 1) := by decide +kernel
theorem dX12_bars_16 : decode cX12_bars 16 = .ok (.ireturn, 1) := by decide +kernel
theorem dX12_bars_17 : decode cX12_bars 17 = .ok (.aload_n 0, 1) := by decide +kernel
theorem dX12_bars_18 : decode cX12_bars 18 = .ok (.iload_n 1, 1) := by decide +kernel
theorem dX12_bars_19 : decode cX12_bars 19 = .ok (.iload_n 2, 1) := by decide +kernel
theorem dX12_bars_20 : decode cX12_bars 20 = .ok (.invokevirtual 354, 3) := by decide +kernel
theorem dX12_bars_23 : decode cX12_bars 23 = .ok (.iconst 0, 1) := by decide +kernel
theorem dX12_bars_24 : decode cX12_bars 24 = .ok (.istore_n 3, 1) := by decide +kernel
theorem dX12_bars_25 : decode cX12_bars 25 = .ok (.iload_n 3, 1) := by decide +kernel
theorem dX12_bars_26 : decode cX12_bars 26 = .ok (.aload_n 0, 1) := by decide +kernel
theorem dX12_bars_27 : decode cX12_bars 27 = .ok (.getfield 7, 3) := by decide +kernel
theorem dX12_bars_30 : decode cX12_bars 30 = .ok (.iconst 0, 1) := by decide +kernel
theorem dX12_bars_31 : decode cX12_bars 31 = .ok (.iaload, 1) := by decide +kernel
theorem dX12_bars_32 : decode cX12_bars 32 = .ok (.if_icmp .ge 31, 3) := by decide +kernel
theorem dX12_bars_35 : decode cX12_bars 35 = .ok (.iload_n 2, 1) := by decide +kernel
theorem dX12_bars_36 : decode cX12_bars 36 = .ok (.iload_n 3, 1) := by decide +kernel
theorem dX12_bars_37 : decode cX12_bars 37 = .ok (.ishr, 1) := by decide +kernel
theorem dX12_bars_38 : decode cX12_bars 38 = .ok (.iconst 1, 1) := by decide +kernel
theorem dX12_bars_39 : decode cX12_bars 39 = .ok (.iand, 1) := by decide +kernel
theorem dX12_bars_40 : decode cX12_bars 40 = .ok (.iconst 1, 1) := by decide +kernel
theorem dX12_bars_41 : decode cX12_bars 41 = .ok (.if_icmp .ne 16, 3) := by decide +kernel
theorem dX12_bars_44 : decode cX12_bars 44 = .ok (.aload_n 0, 1) := by decide +kernel
theorem dX12_bars_45 : decode cX12_bars 45 = .ok (.getfield 348, 3) := by decide +kernel
theorem dX12_bars_48 : decode cX12_bars 48 = .ok (.iload_n 3, 1) := by decide +kernel
theorem dX12_bars_49 : decode cX12_bars 49 = .ok (.ishr, 1) := by decide +kernel
theorem dX12_bars_50 : decode cX12_bars 50 = .ok (.iconst 1, 1) := by decide +kernel
theorem dX12_bars_51 : decode cX12_bars 51 = .ok (.iand, 1) := by decide +kernel
theorem dX12_bars_52 : decode cX12_bars 52 = .ok (.ifCond .ne 5, 3) := by decide +kernel
theorem dX12_bars_55 : decode cX12_bars 55 = .ok (.iload_n 3, 1) := by decide +kernel
theorem dX12_bars_56 : decode cX12_bars 56 = .ok (.ireturn, 1) := by decide +kernel
theorem dX12_bars_57 : decode cX12_bars 57 = .ok (.iinc 3 1, 3) := by decide +kernel
theorem dX12_bars_60 : decode cX12_bars 60 = .ok (.goto (-35), 3) := by decide +kernel
theorem dX12_bars_63 : decode cX12_bars 63 = .ok (.bipush (-3), 2) := by decide +kernel
theorem dX12_bars_65 : decode cX12_bars 65 = .ok (.ireturn, 1) := by decide +kernel
theorem dX12_valueOf_0 : decode cX12_valueOf 0 = .ok (.iload_n 1, 1) := by decide +kernel
theorem dX12_valueOf_1 : decode cX12_valueOf 1 = .ok (.ifCond .eq 10, 3) := by decide +kernel
theorem dX12_valueOf_4 : decode cX12_valueOf 4 = .ok (.aload_n 0, 1) := by decide +kernel
theorem dX12_valueOf_5 : decode cX12_valueOf 5 = .ok (.invokevirtual 137, 3) := by decide +kernel
theorem dX12_valueOf_8 : decode cX12_valueOf 8 = .ok (.ifCond .eq 5, 3) := by decide +kernel
theorem dX12_valueOf_11 : decode cX12_valueOf 11 = .ok (.iconst 0, 1) := by decide +kernel
theorem dX12_valueOf_12 : decode cX12_valueOf 12 = .ok (.ireturn, 1) := by decide +kernel
theorem dX12_valueOf_13 : decode cX12_valueOf 13 = .ok (.iload_n 2, 1) := by decide +kernel
theorem dX12_valueOf_14 : decode cX12_valueOf 14 = .ok (.ifCond .eq 7, 3) := by decide +kernel
theorem dX12_valueOf_17 : decode cX12_valueOf 17 = .ok (.iconst (-1), 1) := by decide +kernel
theorem dX12_valueOf_18 : decode cX12_valueOf 18 = .ok (.goto 6, 3) := by decide +kernel
theorem dX12_valueOf_21 : decode cX12_valueOf 21 = .ok (.ldc_w 357, 3) := by decide +kernel
theorem dX12_valueOf_24 : decode cX12_valueOf 24 = .ok (.istore_n 3, 1) := by decide +kernel
theorem dX12_valueOf_25 : decode cX12_valueOf 25 = .ok (.aload_n 0, 1) := by decide +kernel
theorem dX12_valueOf_26 : decode cX12_valueOf 26 = .ok (.invokevirtual 297, 3) := by decide +kernel
theorem dX12_valueOf_29 : decode cX12_valueOf 29 = .ok (.iconst 0, 1) := by decide +kernel
theorem dX12_valueOf_30 : decode cX12_valueOf 30 = .ok (.istore 4, 2) := by decide +kernel
theorem dX12_valueOf_32 : decode cX12_valueOf 32 = .ok (.iload 4, 2) := by decide +kernel
theorem dX12_valueOf_34 : decode cX12_valueOf 34 = .ok (.aload_n 0, 1) := by decide +kernel
theorem dX12_valueOf_35 : decode cX12_valueOf 35 = .ok (.getfield 7, 3) := by decide +kernel
theorem dX12_valueOf_38 : decode cX12_valueOf 38 = .ok (.iconst 0, 1) := by decide +kernel
theorem dX12_valueOf_39 : decode cX12_valueOf 39 = .ok (.iaload, 1) := by decide +kernel
theorem dX12_valueOf_40 : decode cX12_valueOf 40 = .ok (.if_icmp .gt 60, 3) := by decide +kernel
theorem dX12_valueOf_43 : decode cX12_valueOf 43 = .ok (.aload_n 0, 1) := by decide +kernel
theorem dX12_valueOf_44 : decode cX12_valueOf 44 = .ok (.iload 4, 2) := by decide +kernel
theorem dX12_valueOf_46 : decode cX12_valueOf 46 = .ok (.invokevirtual 144, 3) := by decide +kernel
theorem dX12_valueOf_49 : decode cX12_valueOf 49 = .ok (.aload_n 0, 1) := by decide +kernel
theorem dX12_valueOf_50 : decode cX12_valueOf 50 = .ok (.iload_n 1, 1) := by decide +kernel
theorem dX12_valueOf_51 : decode cX12_valueOf 51 = .ok (.iconst 1, 1) := by decide +kernel
theorem dX12_valueOf_52 : decode cX12_valueOf 52 = .ok (.isub, 1) := by decide +kernel
theorem dX12_valueOf_53 : decode cX12_valueOf 53 = .ok (.iload_n 2, 1) := by decide +kernel
theorem dX12_valueOf_54 : decode cX12_valueOf 54 = .ok (.ifCond .ne 7, 3) := by decide +kernel
theorem dX12_valueOf_57 : decode cX12_valueOf 57 = .ok (.iconst 1, 1) := by decide +kernel
theorem dX12_valueOf_58 : decode cX12_valueOf 58 = .ok (.goto 4, 3) := by decide +kernel
theorem dX12_valueOf_61 : decode cX12_valueOf 61 = .ok (.iconst 0, 1) := by decide +kernel
theorem dX12_valueOf_62 : decode cX12_valueOf 62 = .ok (.invokevirtual 358, 3) := by decide +kernel
theorem dX12_valueOf_65 : decode cX12_valueOf 65 = .ok (.iadd, 1) := by decide +kernel
theorem dX12_valueOf_66 : decode cX12_valueOf 66 = .ok (.istore 5, 2) := by decide +kernel
theorem dX12_valueOf_68 : decode cX12_valueOf 68 = .ok (.aload_n 0, 1) := by decide +kernel
theorem dX12_valueOf_69 : decode cX12_valueOf 69 = .ok (.invokevirtual 69, 3) := by decide +kernel
theorem dX12_valueOf_72 : decode cX12_valueOf 72 = .ok (.iload_n 2, 1) := by decide +kernel
theorem dX12_valueOf_73 : decode cX12_valueOf 73 = .ok (.iload 5, 2) := by decide +kernel
theorem dX12_valueOf_75 : decode cX12_valueOf 75 = .ok (.iload_n 3, 1) := by decide +kernel
theorem dX12_valueOf_76 : decode cX12_valueOf 76 = .ok (.if_icmp .le 7, 3) := by decide +kernel
theorem dX12_valueOf_79 : decode cX12_valueOf 79 = .ok (.iconst 1, 1) := by decide +kernel
theorem dX12_valueOf_80 : decode cX12_valueOf 80 = .ok (.goto 4, 3) := by decide +kernel
theorem dX12_valueOf_83 : decode cX12_valueOf 83 = .ok (.iconst 0, 1) := by decide +kernel
theorem dX12_valueOf_84 : decode cX12_valueOf 84 = .ok (.if_icmp .ne 8, 3) := by decide +kernel
theorem dX12_valueOf_87 : decode cX12_valueOf 87 = .ok (.iload 5, 2) := by decide +kernel
theorem dX12_valueOf_89 : decode cX12_valueOf 89 = .ok (.goto 4, 3) := by decide +kernel
theorem dX12_valueOf_92 : decode cX12_valueOf 92 = .ok (.iload_n 3, 1) := by decide +kernel
theorem dX12_valueOf_93 : decode cX12_valueOf 93 = .ok (.istore_n 3, 1) := by decide +kernel
theorem dX12_valueOf_94 : decode cX12_valueOf 94 = .ok (.iinc 4 1, 3) := by decide +kernel
theorem dX12_valueOf_97 : decode cX12_valueOf 97 = .ok (.goto (-65), 3) := by decide +kernel
theorem dX12_valueOf_100 : decode cX12_valueOf 100 = .ok (.aload_n 0, 1) := by decide +kernel
theorem dX12_valueOf_101 : decode cX12_valueOf 101 = .ok (.invokevirtual 303, 3) := by decide +kernel
theorem dX12_valueOf_104 : decode cX12_valueOf 104 = .ok (.iload_n 3, 1) := by decide +kernel
theorem dX12_valueOf_105 : decode cX12_valueOf 105 = .ok (.ireturn, 1) := by decide +kernel
theorem dX12_game_0 : decode cX12_game 0 = .ok (.iload_n 1, 1) := by decide +kernel
theorem dX12_game_1 : decode cX12_game 1 = .ok (.i2l, 1) := by decide +kernel
theorem dX12_game_2 : decode cX12_game 2 = .ok (.lconst 1, 1) := by decide +kernel
theorem dX12_game_3 : decode cX12_game 3 = .ok (.ldc2_w 316, 3) := by decide +kernel
theorem dX12_game_6 : decode cX12_game 6 = .ok (.invokestatic 61, 3) := by decide +kernel
theorem dX12_game_9 : decode cX12_game 9 = .ok (.ifCond .eq 12, 3) := by decide +kernel
theorem dX12_game_12 : decode cX12_game 12 = .ok (.aload_n 0, 1) := by decide +kernel
theorem dX12_game_13 : decode cX12_game 13 = .ok (.iload_n 1, 1) := by decide +kernel
theorem dX12_game_14 : decode cX12_game 14 = .ok (.iconst 1, 1) := by decide +kernel
theorem dX12_game_15 : decode cX12_game 15 = .ok (.invokevirtual 358, 3) := by decide +kernel
theorem dX12_game_18 : decode cX12_game 18 = .ok (.goto 4, 3) := by decide +kernel
theorem dX12_game_21 : decode cX12_game 21 = .ok (.iconst (-1), 1) := by decide +kernel
theorem dX12_game_22 : decode cX12_game 22 = .ok (.ireturn, 1) := by decide +kernel
theorem dX12_play_0 : decode cX12_play 0 = .ok (.iload_n 1, 1) := by decide +kernel
theorem dX12_play_1 : decode cX12_play 1 = .ok (.i2l, 1) := by decide +kernel
theorem dX12_play_2 : decode cX12_play 2 = .ok (.lconst 1, 1) := by decide +kernel
theorem dX12_play_3 : decode cX12_play 3 = .ok (.ldc2_w 316, 3) := by decide +kernel
theorem dX12_play_6 : decode cX12_play 6 = .ok (.invokestatic 61, 3) := by decide +kernel
theorem dX12_play_9 : decode cX12_play 9 = .ok (.ifCond .ne 5, 3) := by decide +kernel
theorem dX12_play_12 : decode cX12_play 12 = .ok (.iconst (-1), 1) := by decide +kernel
theorem dX12_play_13 : decode cX12_play 13 = .ok (.ireturn, 1) := by decide +kernel
theorem dX12_play_14 : decode cX12_play 14 = .ok (.aload_n 0, 1) := by decide +kernel
theorem dX12_play_15 : decode cX12_play 15 = .ok (.invokevirtual 137, 3) := by decide +kernel
theorem dX12_play_18 : decode cX12_play 18 = .ok (.ifCond .eq 6, 3) := by decide +kernel
theorem dX12_play_21 : decode cX12_play 21 = .ok (.bipush (-3), 2) := by decide +kernel
theorem dX12_play_23 : decode cX12_play 23 = .ok (.ireturn, 1) := by decide +kernel
theorem dX12_play_24 : decode cX12_play 24 = .ok (.aload_n 0, 1) := by decide +kernel
theorem dX12_play_25 : decode cX12_play 25 = .ok (.iload_n 1, 1) := by decide +kernel
theorem dX12_play_26 : decode cX12_play 26 = .ok (.iconst 1, 1) := by decide +kernel
theorem dX12_play_27 : decode cX12_play 27 = .ok (.invokevirtual 358, 3) := by decide +kernel
theorem dX12_play_30 : decode cX12_play 30 = .ok (.istore_n 2, 1) := by decide +kernel
theorem dX12_play_31 : decode cX12_play 31 = .ok (.bipush (-3), 2) := by decide +kernel
theorem dX12_play_33 : decode cX12_play 33 = .ok (.istore_n 3, 1) := by decide +kernel
theorem dX12_play_34 : decode cX12_play 34 = .ok (.aload_n 0, 1) := by decide +kernel
theorem dX12_play_35 : decode cX12_play 35 = .ok (.invokevirtual 297, 3) := by decide +kernel
theorem dX12_play_38 : decode cX12_play 38 = .ok (.aload_n 0, 1) := by decide +kernel
theorem dX12_play_39 : decode cX12_play 39 = .ok (.getfield 7, 3) := by decide +kernel
theorem dX12_play_42 : decode cX12_play 42 = .ok (.iconst 0, 1) := by decide +kernel
theorem dX12_play_43 : decode cX12_play 43 = .ok (.iaload, 1) := by decide +kernel
theorem dX12_play_44 : decode cX12_play 44 = .ok (.istore 4, 2) := by decide +kernel
theorem dX12_play_46 : decode cX12_play 46 = .ok (.iload 4, 2) := by decide +kernel
theorem dX12_play_48 : decode cX12_play 48 = .ok (.ifCond .lt 43, 3) := by decide +kernel
theorem dX12_play_51 : decode cX12_play 51 = .ok (.aload_n 0, 1) := by decide +kernel
theorem dX12_play_52 : decode cX12_play 52 = .ok (.iload 4, 2) := by decide +kernel
theorem dX12_play_54 : decode cX12_play 54 = .ok (.invokevirtual 144, 3) := by decide +kernel
theorem dX12_play_57 : decode cX12_play 57 = .ok (.aload_n 0, 1) := by decide +kernel
theorem dX12_play_58 : decode cX12_play 58 = .ok (.iload_n 1, 1) := by decide +kernel
theorem dX12_play_59 : decode cX12_play 59 = .ok (.iconst 1, 1) := by decide +kernel
theorem dX12_play_60 : decode cX12_play 60 = .ok (.isub, 1) := by decide +kernel
theorem dX12_play_61 : decode cX12_play 61 = .ok (.iconst 0, 1) := by decide +kernel
theorem dX12_play_62 : decode cX12_play 62 = .ok (.invokevirtual 358, 3) := by decide +kernel
theorem dX12_play_65 : decode cX12_play 65 = .ok (.iadd, 1) := by decide +kernel
theorem dX12_play_66 : decode cX12_play 66 = .ok (.istore 5, 2) := by decide +kernel
theorem dX12_play_68 : decode cX12_play 68 = .ok (.aload_n 0, 1) := by decide +kernel
theorem dX12_play_69 : decode cX12_play 69 = .ok (.invokevirtual 69, 3) := by decide +kernel
theorem dX12_play_72 : decode cX12_play 72 = .ok (.iload 5, 2) := by decide +kernel
theorem dX12_play_74 : decode cX12_play 74 = .ok (.iload_n 2, 1) := by decide +kernel
theorem dX12_play_75 : decode cX12_play 75 = .ok (.if_icmp .ne 8, 3) := by decide +kernel
theorem dX12_play_78 : decode cX12_play 78 = .ok (.iload 4, 2) := by decide +kernel
theorem dX12_play_80 : decode cX12_play 80 = .ok (.goto 4, 3) := by decide +kernel
theorem dX12_play_83 : decode cX12_play 83 = .ok (.iload_n 3, 1) := by decide +kernel
theorem dX12_play_84 : decode cX12_play 84 = .ok (.istore_n 3, 1) := by decide +kernel
theorem dX12_play_85 : decode cX12_play 85 = .ok (.iinc 4 (-1), 3) := by decide +kernel
theorem dX12_play_88 : decode cX12_play 88 = .ok (.goto (-42), 3) := by decide +kernel
theorem dX12_play_91 : decode cX12_play 91 = .ok (.aload_n 0, 1) := by decide +kernel
theorem dX12_play_92 : decode cX12_play 92 = .ok (.invokevirtual 303, 3) := by decide +kernel
theorem dX12_play_95 : decode cX12_play 95 = .ok (.iload_n 3, 1) := by decide +kernel
theorem dX12_play_96 : decode cX12_play 96 = .ok (.ireturn, 1) := by decide +kernel
theorem dX12_report_0 : decode cX12_report 0 = .ok (.iload_n 2, 1) := by decide +kernel
theorem dX12_report_1 : decode cX12_report 1 = .ok (.ifCond .ne 8, 3) := by decide +kernel
theorem dX12_report_4 : decode cX12_report 4 = .ok (.bipush 99, 2) := by decide +kernel
theorem dX12_report_6 : decode cX12_report 6 = .ok (.goto 5, 3) := by decide +kernel
theorem dX12_report_9 : decode cX12_report 9 = .ok (.bipush 16, 2) := by decide +kernel
theorem dX12_report_11 : decode cX12_report 11 = .ok (.istore 5, 2) := by decide +kernel
theorem dX12_report_13 : decode cX12_report 13 = .ok (.iload_n 1, 1) := by decide +kernel
theorem dX12_report_14 : decode cX12_report 14 = .ok (.i2l, 1) := by decide +kernel
theorem dX12_report_15 : decode cX12_report 15 = .ok (.lconst 0, 1) := by decide +kernel
theorem dX12_report_16 : decode cX12_report 16 = .ok (.ldc2_w 159, 3) := by decide +kernel
theorem dX12_report_19 : decode cX12_report 19 = .ok (.invokestatic 61, 3) := by decide +kernel
theorem dX12_report_22 : decode cX12_report 22 = .ok (.ifCond .eq 39, 3) := by decide +kernel
theorem dX12_report_25 : decode cX12_report 25 = .ok (.iload_n 2, 1) := by decide +kernel
theorem dX12_report_26 : decode cX12_report 26 = .ok (.i2l, 1) := by decide +kernel
theorem dX12_report_27 : decode cX12_report 27 = .ok (.lconst 0, 1) := by decide +kernel
theorem dX12_report_28 : decode cX12_report 28 = .ok (.lconst 1, 1) := by decide +kernel
theorem dX12_report_29 : decode cX12_report 29 = .ok (.invokestatic 61, 3) := by decide +kernel
theorem dX12_report_32 : decode cX12_report 32 = .ok (.ifCond .eq 29, 3) := by decide +kernel
theorem dX12_report_35 : decode cX12_report 35 = .ok (.iload_n 3, 1) := by decide +kernel
theorem dX12_report_36 : decode cX12_report 36 = .ok (.i2l, 1) := by decide +kernel
theorem dX12_report_37 : decode cX12_report 37 = .ok (.lconst 0, 1) := by decide +kernel
theorem dX12_report_38 : decode cX12_report 38 = .ok (.iload 5, 2) := by decide +kernel
theorem dX12_report_40 : decode cX12_report 40 = .ok (.i2l, 1) := by decide +kernel
theorem dX12_report_41 : decode cX12_report 41 = .ok (.invokestatic 61, 3) := by decide +kernel
theorem dX12_report_44 : decode cX12_report 44 = .ok (.ifCond .eq 17, 3) := by decide +kernel
theorem dX12_report_47 : decode cX12_report 47 = .ok (.iload 4, 2) := by decide +kernel
theorem dX12_report_49 : decode cX12_report 49 = .ok (.i2l, 1) := by decide +kernel
theorem dX12_report_50 : decode cX12_report 50 = .ok (.iload_n 3, 1) := by decide +kernel
theorem dX12_report_51 : decode cX12_report 51 = .ok (.i2l, 1) := by decide +kernel
theorem dX12_report_52 : decode cX12_report 52 = .ok (.iload 5, 2) := by decide +kernel
theorem dX12_report_54 : decode cX12_report 54 = .ok (.i2l, 1) := by decide +kernel
theorem dX12_report_55 : decode cX12_report 55 = .ok (.invokestatic 61, 3) := by decide +kernel
theorem dX12_report_58 : decode cX12_report 58 = .ok (.ifCond .ne 5, 3) := by decide +kernel
theorem dX12_report_61 : decode cX12_report 61 = .ok (.iconst (-1), 1) := by decide +kernel
theorem dX12_report_62 : decode cX12_report 62 = .ok (.ireturn, 1) := by decide +kernel
theorem dX12_report_63 : decode cX12_report 63 = .ok (.aload_n 0, 1) := by decide +kernel
theorem dX12_report_64 : decode cX12_report 64 = .ok (.getfield 7, 3) := by decide +kernel
theorem dX12_report_67 : decode cX12_report 67 = .ok (.bipush 6, 2) := by decide +kernel
theorem dX12_report_69 : decode cX12_report 69 = .ok (.iaload, 1) := by decide +kernel
theorem dX12_report_70 : decode cX12_report 70 = .ok (.bipush 6, 2) := by decide +kernel
theorem dX12_report_72 : decode cX12_report 72 = .ok (.if_icmp .ne 6, 3) := by decide +kernel
theorem dX12_report_75 : decode cX12_report 75 = .ok (.bipush (-2), 2) := by decide +kernel
theorem dX12_report_77 : decode cX12_report 77 = .ok (.ireturn, 1) := by decide +kernel
theorem dX12_report_78 : decode cX12_report 78 = .ok (.aload_n 0, 1) := by decide +kernel
theorem dX12_report_79 : decode cX12_report 79 = .ok (.getfield 7, 3) := by decide +kernel
theorem dX12_report_82 : decode cX12_report 82 = .ok (.bipush 6, 2) := by decide +kernel
theorem dX12_report_84 : decode cX12_report 84 = .ok (.iaload, 1) := by decide +kernel
theorem dX12_report_85 : decode cX12_report 85 = .ok (.istore 6, 2) := by decide +kernel
theorem dX12_report_87 : decode cX12_report 87 = .ok (.aload_n 0, 1) := by decide +kernel
theorem dX12_report_88 : decode cX12_report 88 = .ok (.getfield 7, 3) := by decide +kernel
theorem dX12_report_91 : decode cX12_report 91 = .ok (.bipush 65, 2) := by decide +kernel
theorem dX12_report_93 : decode cX12_report 93 = .ok (.iconst 4, 1) := by decide +kernel
theorem dX12_report_94 : decode cX12_report 94 = .ok (.iload 6, 2) := by decide +kernel
theorem dX12_report_96 : decode cX12_report 96 = .ok (.imul, 1) := by decide +kernel
theorem dX12_report_97 : decode cX12_report 97 = .ok (.iadd, 1) := by decide +kernel
theorem dX12_report_98 : decode cX12_report 98 = .ok (.iload_n 1, 1) := by decide +kernel
theorem dX12_report_99 : decode cX12_report 99 = .ok (.iastore, 1) := by decide +kernel
theorem dX12_report_100 : decode cX12_report 100 = .ok (.aload_n 0, 1) := by decide +kernel
theorem dX12_report_101 : decode cX12_report 101 = .ok (.getfield 7, 3) := by decide +kernel
theorem dX12_report_104 : decode cX12_report 104 = .ok (.bipush 65, 2) := by decide +kernel
theorem dX12_report_106 : decode cX12_report 106 = .ok (.iconst 4, 1) := by decide +kernel
theorem dX12_report_107 : decode cX12_report 107 = .ok (.iload 6, 2) := by decide +kernel
theorem dX12_report_109 : decode cX12_report 109 = .ok (.imul, 1) := by decide +kernel
theorem dX12_report_110 : decode cX12_report 110 = .ok (.iadd, 1) := by decide +kernel
theorem dX12_report_111 : decode cX12_report 111 = .ok (.iconst 1, 1) := by decide +kernel
theorem dX12_report_112 : decode cX12_report 112 = .ok (.iadd, 1) := by decide +kernel
theorem dX12_report_113 : decode cX12_report 113 = .ok (.iload_n 2, 1) := by decide +kernel
theorem dX12_report_114 : decode cX12_report 114 = .ok (.iastore, 1) := by decide +kernel
theorem dX12_report_115 : decode cX12_report 115 = .ok (.aload_n 0, 1) := by decide +kernel
theorem dX12_report_116 : decode cX12_report 116 = .ok (.getfield 7, 3) := by decide +kernel
theorem dX12_report_119 : decode cX12_report 119 = .ok (.bipush 65, 2) := by decide +kernel
theorem dX12_report_121 : decode cX12_report 121 = .ok (.iconst 4, 1) := by decide +kernel
theorem dX12_report_122 : decode cX12_report 122 = .ok (.iload 6, 2) := by decide +kernel
theorem dX12_report_124 : decode cX12_report 124 = .ok (.imul, 1) := by decide +kernel
theorem dX12_report_125 : decode cX12_report 125 = .ok (.iadd, 1) := by decide +kernel
theorem dX12_report_126 : decode cX12_report 126 = .ok (.iconst 2, 1) := by decide +kernel
theorem dX12_report_127 : decode cX12_report 127 = .ok (.iadd, 1) := by decide +kernel
theorem dX12_report_128 : decode cX12_report 128 = .ok (.iload_n 3, 1) := by decide +kernel
theorem dX12_report_129 : decode cX12_report 129 = .ok (.iastore, 1) := by decide +kernel
theorem dX12_report_130 : decode cX12_report 130 = .ok (.aload_n 0, 1) := by decide +kernel
theorem dX12_report_131 : decode cX12_report 131 = .ok (.getfield 7, 3) := by decide +kernel
theorem dX12_report_134 : decode cX12_report 134 = .ok (.bipush 65, 2) := by decide +kernel
theorem dX12_report_136 : decode cX12_report 136 = .ok (.iconst 4, 1) := by decide +kernel
theorem dX12_report_137 : decode cX12_report 137 = .ok (.iload 6, 2) := by decide +kernel
theorem dX12_report_139 : decode cX12_report 139 = .ok (.imul, 1) := by decide +kernel
theorem dX12_report_140 : decode cX12_report 140 = .ok (.iadd, 1) := by decide +kernel
theorem dX12_report_141 : decode cX12_report 141 = .ok (.iconst 3, 1) := by decide +kernel
theorem dX12_report_142 : decode cX12_report 142 = .ok (.iadd, 1) := by decide +kernel
theorem dX12_report_143 : decode cX12_report 143 = .ok (.iload 4, 2) := by decide +kernel
theorem dX12_report_145 : decode cX12_report 145 = .ok (.iastore, 1) := by decide +kernel
theorem dX12_report_146 : decode cX12_report 146 = .ok (.aload_n 0, 1) := by decide +kernel
theorem dX12_report_147 : decode cX12_report 147 = .ok (.getfield 7, 3) := by decide +kernel
theorem dX12_report_150 : decode cX12_report 150 = .ok (.bipush 6, 2) := by decide +kernel
theorem dX12_report_152 : decode cX12_report 152 = .ok (.dup2, 1) := by decide +kernel
theorem dX12_report_153 : decode cX12_report 153 = .ok (.iaload, 1) := by decide +kernel
theorem dX12_report_154 : decode cX12_report 154 = .ok (.iconst 1, 1) := by decide +kernel
theorem dX12_report_155 : decode cX12_report 155 = .ok (.iadd, 1) := by decide +kernel
theorem dX12_report_156 : decode cX12_report 156 = .ok (.iastore, 1) := by decide +kernel
theorem dX12_report_157 : decode cX12_report 157 = .ok (.iload 6, 2) := by decide +kernel
theorem dX12_report_159 : decode cX12_report 159 = .ok (.ireturn, 1) := by decide +kernel
theorem dX12_forget_0 : decode cX12_forget 0 = .ok (.aload_n 0, 1) := by decide +kernel
theorem dX12_forget_1 : decode cX12_forget 1 = .ok (.bipush 6, 2) := by decide +kernel
theorem dX12_forget_3 : decode cX12_forget 3 = .ok (.iconst 0, 1) := by decide +kernel
theorem dX12_forget_4 : decode cX12_forget 4 = .ok (.invokevirtual 156, 3) := by decide +kernel
theorem dX12_forget_7 : decode cX12_forget 7 = .ok (.ireturn, 1) := by decide +kernel
theorem dX12_fitting_0 : decode cX12_fitting 0 = .ok (.iconst 0, 1) := by decide +kernel
theorem dX12_fitting_1 : decode cX12_fitting 1 = .ok (.istore 4, 2) := by decide +kernel
theorem dX12_fitting_3 : decode cX12_fitting 3 = .ok (.iload_n 3, 1) := by decide +kernel
theorem dX12_fitting_4 : decode cX12_fitting 4 = .ok (.istore 5, 2) := by decide +kernel
theorem dX12_fitting_6 : decode cX12_fitting 6 = .ok (.iconst 0, 1) := by decide +kernel
theorem dX12_fitting_7 : decode cX12_fitting 7 = .ok (.istore 6, 2) := by decide +kernel
theorem dX12_fitting_9 : decode cX12_fitting 9 = .ok (.iconst 0, 1) := by decide +kernel
theorem dX12_fitting_10 : decode cX12_fitting 10 = .ok (.istore 7, 2) := by decide +kernel
theorem dX12_fitting_12 : decode cX12_fitting 12 = .ok (.iload 7, 2) := by decide +kernel
theorem dX12_fitting_14 : decode cX12_fitting 14 = .ok (.bipush 16, 2) := by decide +kernel
theorem dX12_fitting_16 : decode cX12_fitting 16 = .ok (.if_icmp .ge 212, 3) := by decide +kernel
theorem dX12_fitting_19 : decode cX12_fitting 19 = .ok (.iconst 0, 1) := by decide +kernel
theorem dX12_fitting_20 : decode cX12_fitting 20 = .ok (.istore 8, 2) := by decide +kernel
theorem dX12_fitting_22 : decode cX12_fitting 22 = .ok (.iload 8, 2) := by decide +kernel
theorem dX12_fitting_24 : decode cX12_fitting 24 = .ok (.aload_n 0, 1) := by decide +kernel
theorem dX12_fitting_25 : decode cX12_fitting 25 = .ok (.getfield 7, 3) := by decide +kernel
theorem dX12_fitting_28 : decode cX12_fitting 28 = .ok (.bipush 6, 2) := by decide +kernel
theorem dX12_fitting_30 : decode cX12_fitting 30 = .ok (.iaload, 1) := by decide +kernel
theorem dX12_fitting_31 : decode cX12_fitting 31 = .ok (.if_icmp .ge 116, 3) := by decide +kernel
theorem dX12_fitting_34 : decode cX12_fitting 34 = .ok (.aload_n 0, 1) := by decide +kernel
theorem dX12_fitting_35 : decode cX12_fitting 35 = .ok (.getfield 7, 3) := by decide +kernel
theorem dX12_fitting_38 : decode cX12_fitting 38 = .ok (.bipush 65, 2) := by decide +kernel
theorem dX12_fitting_40 : decode cX12_fitting 40 = .ok (.iconst 4, 1) := by decide +kernel
theorem dX12_fitting_41 : decode cX12_fitting 41 = .ok (.iload 8, 2) := by decide +kernel
theorem dX12_fitting_43 : decode cX12_fitting 43 = .ok (.imul, 1) := by decide +kernel
theorem dX12_fitting_44 : decode cX12_fitting 44 = .ok (.iadd, 1) := by decide +kernel
theorem dX12_fitting_45 : decode cX12_fitting 45 = .ok (.iconst 1, 1) := by decide +kernel
theorem dX12_fitting_46 : decode cX12_fitting 46 = .ok (.iadd, 1) := by decide +kernel
theorem dX12_fitting_47 : decode cX12_fitting 47 = .ok (.iaload, 1) := by decide +kernel
theorem dX12_fitting_48 : decode cX12_fitting 48 = .ok (.ifCond .ne 8, 3) := by decide +kernel
theorem dX12_fitting_51 : decode cX12_fitting 51 = .ok (.iload 5, 2) := by decide +kernel
theorem dX12_fitting_53 : decode cX12_fitting 53 = .ok (.goto 5, 3) := by decide +kernel
theorem dX12_fitting_56 : decode cX12_fitting 56 = .ok (.iload 6, 2) := by decide +kernel
theorem dX12_fitting_58 : decode cX12_fitting 58 = .ok (.istore 9, 2) := by decide +kernel
theorem dX12_fitting_60 : decode cX12_fitting 60 = .ok (.aload_n 0, 1) := by decide +kernel
theorem dX12_fitting_61 : decode cX12_fitting 61 = .ok (.getfield 7, 3) := by decide +kernel
theorem dX12_fitting_64 : decode cX12_fitting 64 = .ok (.bipush 65, 2) := by decide +kernel
theorem dX12_fitting_66 : decode cX12_fitting 66 = .ok (.iconst 4, 1) := by decide +kernel
theorem dX12_fitting_67 : decode cX12_fitting 67 = .ok (.iload 8, 2) := by decide +kernel
theorem dX12_fitting_69 : decode cX12_fitting 69 = .ok (.imul, 1) := by decide +kernel
theorem dX12_fitting_70 : decode cX12_fitting 70 = .ok (.iadd, 1) := by decide +kernel
theorem dX12_fitting_71 : decode cX12_fitting 71 = .ok (.iaload, 1) := by decide +kernel
theorem dX12_fitting_72 : decode cX12_fitting 72 = .ok (.iload 7, 2) := by decide +kernel
theorem dX12_fitting_74 : decode cX12_fitting 74 = .ok (.if_icmp .ne 46, 3) := by decide +kernel
theorem dX12_fitting_77 : decode cX12_fitting 77 = .ok (.iload 9, 2) := by decide +kernel
theorem dX12_fitting_79 : decode cX12_fitting 79 = .ok (.i2l, 1) := by decide +kernel
theorem dX12_fitting_80 : decode cX12_fitting 80 = .ok (.aload_n 0, 1) := by decide +kernel
theorem dX12_fitting_81 : decode cX12_fitting 81 = .ok (.getfield 7, 3) := by decide +kernel
theorem dX12_fitting_84 : decode cX12_fitting 84 = .ok (.bipush 65, 2) := by decide +kernel
theorem dX12_fitting_86 : decode cX12_fitting 86 = .ok (.iconst 4, 1) := by decide +kernel
theorem dX12_fitting_87 : decode cX12_fitting 87 = .ok (.iload 8, 2) := by decide +kernel
theorem dX12_fitting_89 : decode cX12_fitting 89 = .ok (.imul, 1) := by decide +kernel
theorem dX12_fitting_90 : decode cX12_fitting 90 = .ok (.iadd, 1) := by decide +kernel
theorem dX12_fitting_91 : decode cX12_fitting 91 = .ok (.iconst 2, 1) := by decide +kernel
theorem dX12_fitting_92 : decode cX12_fitting 92 = .ok (.iadd, 1) := by decide +kernel
theorem dX12_fitting_93 : decode cX12_fitting 93 = .ok (.iaload, 1) := by decide +kernel
theorem dX12_fitting_94 : decode cX12_fitting 94 = .ok (.i2l, 1) := by decide +kernel
theorem dX12_fitting_95 : decode cX12_fitting 95 = .ok (.aload_n 0, 1) := by decide +kernel
theorem dX12_fitting_96 : decode cX12_fitting 96 = .ok (.getfield 7, 3) := by decide +kernel
theorem dX12_fitting_99 : decode cX12_fitting 99 = .ok (.bipush 65, 2) := by decide +kernel
theorem dX12_fitting_101 : decode cX12_fitting 101 = .ok (.iconst 4, 1) := by decide +kernel
theorem dX12_fitting_102 : decode cX12_fitting 102 = .ok (.iload 8, 2) := by decide +kernel
theorem dX12_fitting_104 : decode cX12_fitting 104 = .ok (.imul, 1) := by decide +kernel
theorem dX12_fitting_105 : decode cX12_fitting 105 = .ok (.iadd, 1) := by decide +kernel
theorem dX12_fitting_106 : decode cX12_fitting 106 = .ok (.iconst 3, 1) := by decide +kernel
theorem dX12_fitting_107 : decode cX12_fitting 107 = .ok (.iadd, 1) := by decide +kernel
theorem dX12_fitting_108 : decode cX12_fitting 108 = .ok (.iaload, 1) := by decide +kernel
theorem dX12_fitting_109 : decode cX12_fitting 109 = .ok (.i2l, 1) := by decide +kernel
theorem dX12_fitting_110 : decode cX12_fitting 110 = .ok (.invokestatic 61, 3) := by decide +kernel
theorem dX12_fitting_113 : decode cX12_fitting 113 = .ok (.ifCond .eq 7, 3) := by decide +kernel
theorem dX12_fitting_116 : decode cX12_fitting 116 = .ok (.iconst 1, 1) := by decide +kernel
theorem dX12_fitting_117 : decode cX12_fitting 117 = .ok (.goto 4, 3) := by decide +kernel
theorem dX12_fitting_120 : decode cX12_fitting 120 = .ok (.iconst 0, 1) := by decide +kernel
theorem dX12_fitting_121 : decode cX12_fitting 121 = .ok (.istore 10, 2) := by decide +kernel
theorem dX12_fitting_123 : decode cX12_fitting 123 = .ok (.iload 4, 2) := by decide +kernel
theorem dX12_fitting_125 : decode cX12_fitting 125 = .ok (.iload 10, 2) := by decide +kernel
theorem dX12_fitting_127 : decode cX12_fitting 127 = .ok (.ifCond .eq 10, 3) := by decide +kernel
theorem dX12_fitting_130 : decode cX12_fitting 130 = .ok (.iconst 1, 1) := by decide +kernel
theorem dX12_fitting_131 : decode cX12_fitting 131 = .ok (.iload 8, 2) := by decide +kernel
theorem dX12_fitting_133 : decode cX12_fitting 133 = .ok (.ishl, 1) := by decide +kernel
theorem dX12_fitting_134 : decode cX12_fitting 134 = .ok (.goto 4, 3) := by decide +kernel
theorem dX12_fitting_137 : decode cX12_fitting 137 = .ok (.iconst 0, 1) := by decide +kernel
theorem dX12_fitting_138 : decode cX12_fitting 138 = .ok (.ior, 1) := by decide +kernel
theorem dX12_fitting_139 : decode cX12_fitting 139 = .ok (.istore 4, 2) := by decide +kernel
theorem dX12_fitting_141 : decode cX12_fitting 141 = .ok (.iinc 8 1, 3) := by decide +kernel
theorem dX12_fitting_144 : decode cX12_fitting 144 = .ok (.goto (-122), 3) := by decide +kernel
theorem dX12_fitting_147 : decode cX12_fitting 147 = .ok (.aload_n 0, 1) := by decide +kernel
theorem dX12_fitting_148 : decode cX12_fitting 148 = .ok (.getfield 7, 3) := by decide +kernel
theorem dX12_fitting_151 : decode cX12_fitting 151 = .ok (.bipush 7, 2) := by decide +kernel
theorem dX12_fitting_153 : decode cX12_fitting 153 = .ok (.iload 7, 2) := by decide +kernel
theorem dX12_fitting_155 : decode cX12_fitting 155 = .ok (.iadd, 1) := by decide +kernel
theorem dX12_fitting_156 : decode cX12_fitting 156 = .ok (.iaload, 1) := by decide +kernel
theorem dX12_fitting_157 : decode cX12_fitting 157 = .ok (.iconst 4, 1) := by decide +kernel
theorem dX12_fitting_158 : decode cX12_fitting 158 = .ok (.idiv, 1) := by decide +kernel
theorem dX12_fitting_159 : decode cX12_fitting 159 = .ok (.istore 8, 2) := by decide +kernel
theorem dX12_fitting_161 : decode cX12_fitting 161 = .ok (.iload 6, 2) := by decide +kernel
theorem dX12_fitting_163 : decode cX12_fitting 163 = .ok (.iload 5, 2) := by decide +kernel
theorem dX12_fitting_165 : decode cX12_fitting 165 = .ok (.ifCond .le 22, 3) := by decide +kernel
theorem dX12_fitting_168 : decode cX12_fitting 168 = .ok (.iload_n 1, 1) := by decide +kernel
theorem dX12_fitting_169 : decode cX12_fitting 169 = .ok (.iload 5, 2) := by decide +kernel
theorem dX12_fitting_171 : decode cX12_fitting 171 = .ok (.iload_n 2, 1) := by decide +kernel
theorem dX12_fitting_172 : decode cX12_fitting 172 = .ok (.iconst 0, 1) := by decide +kernel
theorem dX12_fitting_173 : decode cX12_fitting 173 = .ok (.invokestatic 98, 3) := by decide +kernel
theorem dX12_fitting_176 : decode cX12_fitting 176 = .ok (.iload 8, 2) := by decide +kernel
theorem dX12_fitting_178 : decode cX12_fitting 178 = .ok (.iadd, 1) := by decide +kernel
theorem dX12_fitting_179 : decode cX12_fitting 179 = .ok (.iconst 4, 1) := by decide +kernel
theorem dX12_fitting_180 : decode cX12_fitting 180 = .ok (.if_icmp .gt 7, 3) := by decide +kernel
theorem dX12_fitting_183 : decode cX12_fitting 183 = .ok (.iconst 1, 1) := by decide +kernel
theorem dX12_fitting_184 : decode cX12_fitting 184 = .ok (.goto 4, 3) := by decide +kernel
theorem dX12_fitting_187 : decode cX12_fitting 187 = .ok (.iconst 0, 1) := by decide +kernel
theorem dX12_fitting_188 : decode cX12_fitting 188 = .ok (.iadd, 1) := by decide +kernel
theorem dX12_fitting_189 : decode cX12_fitting 189 = .ok (.istore 6, 2) := by decide +kernel
theorem dX12_fitting_191 : decode cX12_fitting 191 = .ok (.iload 5, 2) := by decide +kernel
theorem dX12_fitting_193 : decode cX12_fitting 193 = .ok (.iload_n 1, 1) := by decide +kernel
theorem dX12_fitting_194 : decode cX12_fitting 194 = .ok (.iload 8, 2) := by decide +kernel
theorem dX12_fitting_196 : decode cX12_fitting 196 = .ok (.aload_n 0, 1) := by decide +kernel
theorem dX12_fitting_197 : decode cX12_fitting 197 = .ok (.getfield 7, 3) := by decide +kernel
theorem dX12_fitting_200 : decode cX12_fitting 200 = .ok (.bipush 7, 2) := by decide +kernel
theorem dX12_fitting_202 : decode cX12_fitting 202 = .ok (.iload 7, 2) := by decide +kernel
theorem dX12_fitting_204 : decode cX12_fitting 204 = .ok (.iadd, 1) := by decide +kernel
theorem dX12_fitting_205 : decode cX12_fitting 205 = .ok (.iaload, 1) := by decide +kernel
theorem dX12_fitting_206 : decode cX12_fitting 206 = .ok (.iconst 4, 1) := by decide +kernel
theorem dX12_fitting_207 : decode cX12_fitting 207 = .ok (.irem, 1) := by decide +kernel
theorem dX12_fitting_208 : decode cX12_fitting 208 = .ok (.iload 7, 2) := by decide +kernel
theorem dX12_fitting_210 : decode cX12_fitting 210 = .ok (.invokestatic 91, 3) := by decide +kernel
theorem dX12_fitting_213 : decode cX12_fitting 213 = .ok (.isub, 1) := by decide +kernel
theorem dX12_fitting_214 : decode cX12_fitting 214 = .ok (.iconst 0, 1) := by decide +kernel
theorem dX12_fitting_215 : decode cX12_fitting 215 = .ok (.bipush 99, 2) := by decide +kernel
theorem dX12_fitting_217 : decode cX12_fitting 217 = .ok (.invokestatic 76, 3) := by decide +kernel
theorem dX12_fitting_220 : decode cX12_fitting 220 = .ok (.istore 5, 2) := by decide +kernel
theorem dX12_fitting_222 : decode cX12_fitting 222 = .ok (.iinc 7 1, 3) := by decide +kernel
theorem dX12_fitting_225 : decode cX12_fitting 225 = .ok (.goto (-213), 3) := by decide +kernel
theorem dX12_fitting_228 : decode cX12_fitting 228 = .ok (.iload 4, 2) := by decide +kernel
theorem dX12_fitting_230 : decode cX12_fitting 230 = .ok (.ireturn, 1) := by decide +kernel
theorem dX12_findLone_0 : decode cX12_findLone 0 = .ok (.iconst 1, 1) := by decide +kernel
theorem dX12_findLone_1 : decode cX12_findLone 1 = .ok (.aload_n 0, 1) := by decide +kernel
theorem dX12_findLone_2 : decode cX12_findLone 2 = .ok (.getfield 7, 3) := by decide +kernel
theorem dX12_findLone_5 : decode cX12_findLone 5 = .ok (.bipush 6, 2) := by decide +kernel
theorem dX12_findLone_7 : decode cX12_findLone 7 = .ok (.iaload, 1) := by decide +kernel
theorem dX12_findLone_8 : decode cX12_findLone 8 = .ok (.ishl, 1) := by decide +kernel
theorem dX12_findLone_9 : decode cX12_findLone 9 = .ok (.iconst 1, 1) := by decide +kernel
theorem dX12_findLone_10 : decode cX12_findLone 10 = .ok (.isub, 1) := by decide +kernel
theorem dX12_findLone_11 : decode cX12_findLone 11 = .ok (.iload_n 1, 1) := by decide +kernel
theorem dX12_findLone_12 : decode cX12_findLone 12 = .ok (.iconst (-1), 1) := by decide +kernel
theorem dX12_findLone_13 : decode cX12_findLone 13 = .ok (.ixor, 1) := by decide +kernel
theorem dX12_findLone_14 : decode cX12_findLone 14 = .ok (.iand, 1) := by decide +kernel
theorem dX12_findLone_15 : decode cX12_findLone 15 = .ok (.istore_n 2, 1) := by decide +kernel
theorem dX12_findLone_16 : decode cX12_findLone 16 = .ok (.aload_n 0, 1) := by decide +kernel
theorem dX12_findLone_17 : decode cX12_findLone 17 = .ok (.iconst 0, 1) := by decide +kernel
theorem dX12_findLone_18 : decode cX12_findLone 18 = .ok (.putfield 362, 3) := by decide +kernel
theorem dX12_findLone_21 : decode cX12_findLone 21 = .ok (.aload_n 0, 1) := by decide +kernel
theorem dX12_findLone_22 : decode cX12_findLone 22 = .ok (.bipush (-3), 2) := by decide +kernel
theorem dX12_findLone_24 : decode cX12_findLone 24 = .ok (.putfield 365, 3) := by decide +kernel
theorem dX12_findLone_27 : decode cX12_findLone 27 = .ok (.sipush 499, 3) := by decide +kernel
theorem dX12_findLone_30 : decode cX12_findLone 30 = .ok (.istore_n 3, 1) := by decide +kernel
theorem dX12_findLone_31 : decode cX12_findLone 31 = .ok (.iload_n 3, 1) := by decide +kernel
theorem dX12_findLone_32 : decode cX12_findLone 32 = .ok (.ifCond .lt 86, 3) := by decide +kernel
theorem dX12_findLone_35 : decode cX12_findLone 35 = .ok (.iload_n 2, 1) := by decide +kernel
theorem dX12_findLone_36 : decode cX12_findLone 36 = .ok (.aload_n 0, 1) := by decide +kernel
theorem dX12_findLone_37 : decode cX12_findLone 37 = .ok (.iconst 1, 1) := by decide +kernel
theorem dX12_findLone_38 : decode cX12_findLone 38 = .ok (.iload_n 3, 1) := by decide +kernel
theorem dX12_findLone_39 : decode cX12_findLone 39 = .ok (.bipush 100, 2) := by decide +kernel
theorem dX12_findLone_41 : decode cX12_findLone 41 = .ok (.idiv, 1) := by decide +kernel
theorem dX12_findLone_42 : decode cX12_findLone 42 = .ok (.iadd, 1) := by decide +kernel
theorem dX12_findLone_43 : decode cX12_findLone 43 = .ok (.iload_n 3, 1) := by decide +kernel
theorem dX12_findLone_44 : decode cX12_findLone 44 = .ok (.bipush 10, 2) := by decide +kernel
theorem dX12_findLone_46 : decode cX12_findLone 46 = .ok (.idiv, 1) := by decide +kernel
theorem dX12_findLone_47 : decode cX12_findLone 47 = .ok (.bipush 10, 2) := by decide +kernel
theorem dX12_findLone_49 : decode cX12_findLone 49 = .ok (.irem, 1) := by decide +kernel
theorem dX12_findLone_50 : decode cX12_findLone 50 = .ok (.bipush 9, 2) := by decide +kernel
theorem dX12_findLone_52 : decode cX12_findLone 52 = .ok (.bipush 10, 2) := by decide +kernel
theorem dX12_findLone_54 : decode cX12_findLone 54 = .ok (.iload_n 3, 1) := by decide +kernel
theorem dX12_findLone_55 : decode cX12_findLone 55 = .ok (.bipush 10, 2) := by decide +kernel
theorem dX12_findLone_57 : decode cX12_findLone 57 = .ok (.irem, 1) := by decide +kernel
theorem dX12_findLone_58 : decode cX12_findLone 58 = .ok (.imul, 1) := by decide +kernel
theorem dX12_findLone_59 : decode cX12_findLone 59 = .ok (.iadd, 1) := by decide +kernel
theorem dX12_findLone_60 : decode cX12_findLone 60 = .ok (.invokevirtual 368, 3) := by decide +kernel
theorem dX12_findLone_63 : decode cX12_findLone 63 = .ok (.iconst (-1), 1) := by decide +kernel
theorem dX12_findLone_64 : decode cX12_findLone 64 = .ok (.ixor, 1) := by decide +kernel
theorem dX12_findLone_65 : decode cX12_findLone 65 = .ok (.iand, 1) := by decide +kernel
theorem dX12_findLone_66 : decode cX12_findLone 66 = .ok (.ifCond .ne 7, 3) := by decide +kernel
theorem dX12_findLone_69 : decode cX12_findLone 69 = .ok (.iconst 1, 1) := by decide +kernel
theorem dX12_findLone_70 : decode cX12_findLone 70 = .ok (.goto 4, 3) := by decide +kernel
theorem dX12_findLone_73 : decode cX12_findLone 73 = .ok (.iconst 0, 1) := by decide +kernel
theorem dX12_findLone_74 : decode cX12_findLone 74 = .ok (.istore 4, 2) := by decide +kernel
theorem dX12_findLone_76 : decode cX12_findLone 76 = .ok (.aload_n 0, 1) := by decide +kernel
theorem dX12_findLone_77 : decode cX12_findLone 77 = .ok (.dup, 1) := by decide +kernel
theorem dX12_findLone_78 : decode cX12_findLone 78 = .ok (.getfield 362, 3) := by decide +kernel
theorem dX12_findLone_81 : decode cX12_findLone 81 = .ok (.iload 4, 2) := by decide +kernel
theorem dX12_findLone_83 : decode cX12_findLone 83 = .ok (.ifCond .eq 7, 3) := by decide +kernel
theorem dX12_findLone_86 : decode cX12_findLone 86 = .ok (.iconst 1, 1) := by decide +kernel
theorem dX12_findLone_87 : decode cX12_findLone 87 = .ok (.goto 4, 3) := by decide +kernel
theorem dX12_findLone_90 : decode cX12_findLone 90 = .ok (.iconst 0, 1) := by decide +kernel
theorem dX12_findLone_91 : decode cX12_findLone 91 = .ok (.iadd, 1) := by decide +kernel
theorem dX12_findLone_92 : decode cX12_findLone 92 = .ok (.putfield 362, 3) := by decide +kernel
theorem dX12_findLone_95 : decode cX12_findLone 95 = .ok (.aload_n 0, 1) := by decide +kernel
theorem dX12_findLone_96 : decode cX12_findLone 96 = .ok (.iload 4, 2) := by decide +kernel
theorem dX12_findLone_98 : decode cX12_findLone 98 = .ok (.ifCond .eq 7, 3) := by decide +kernel
theorem dX12_findLone_101 : decode cX12_findLone 101 = .ok (.iload_n 3, 1) := by decide +kernel
theorem dX12_findLone_102 : decode cX12_findLone 102 = .ok (.goto 7, 3) := by decide +kernel
theorem dX12_findLone_105 : decode cX12_findLone 105 = .ok (.aload_n 0, 1) := by decide +kernel
theorem dX12_findLone_106 : decode cX12_findLone 106 = .ok (.getfield 365, 3) := by decide +kernel
theorem dX12_findLone_109 : decode cX12_findLone 109 = .ok (.putfield 365, 3) := by decide +kernel
theorem dX12_findLone_112 : decode cX12_findLone 112 = .ok (.iinc 3 (-1), 3) := by decide +kernel
theorem dX12_findLone_115 : decode cX12_findLone 115 = .ok (.goto (-84), 3) := by decide +kernel
theorem dX12_findLone_118 : decode cX12_findLone 118 = .ok (.return_, 1) := by decide +kernel
theorem dX12_lone_0 : decode cX12_lone 0 = .ok (.iload_n 1, 1) := by decide +kernel
theorem dX12_lone_1 : decode cX12_lone 1 = .ok (.i2l, 1) := by decide +kernel
theorem dX12_lone_2 : decode cX12_lone 2 = .ok (.lconst 0, 1) := by decide +kernel
theorem dX12_lone_3 : decode cX12_lone 3 = .ok (.ldc2_w 343, 3) := by decide +kernel
theorem dX12_lone_6 : decode cX12_lone 6 = .ok (.invokestatic 61, 3) := by decide +kernel
theorem dX12_lone_9 : decode cX12_lone 9 = .ok (.ifCond .ne 5, 3) := by decide +kernel
theorem dX12_lone_12 : decode cX12_lone 12 = .ok (.iconst (-1), 1) := by decide +kernel
theorem dX12_lone_13 : decode cX12_lone 13 = .ok (.ireturn, 1) := by decide +kernel
theorem dX12_lone_14 : decode cX12_lone 14 = .ok (.aload_n 0, 1) := by decide +kernel
theorem dX12_lone_15 : decode cX12_lone 15 = .ok (.iconst 0, 1) := by decide +kernel
theorem dX12_lone_16 : decode cX12_lone 16 = .ok (.invokevirtual 371, 3) := by decide +kernel
theorem dX12_lone_19 : decode cX12_lone 19 = .ok (.iload_n 1, 1) := by decide +kernel
theorem dX12_lone_20 : decode cX12_lone 20 = .ok (.ifCond .ne 8, 3) := by decide +kernel
theorem dX12_lone_23 : decode cX12_lone 23 = .ok (.aload_n 0, 1) := by decide +kernel
theorem dX12_lone_24 : decode cX12_lone 24 = .ok (.getfield 362, 3) := by decide +kernel
theorem dX12_lone_27 : decode cX12_lone 27 = .ok (.ireturn, 1) := by decide +kernel
theorem dX12_lone_28 : decode cX12_lone 28 = .ok (.aload_n 0, 1) := by decide +kernel
theorem dX12_lone_29 : decode cX12_lone 29 = .ok (.getfield 365, 3) := by decide +kernel
theorem dX12_lone_32 : decode cX12_lone 32 = .ok (.ifCond .ge 8, 3) := by decide +kernel
theorem dX12_lone_35 : decode cX12_lone 35 = .ok (.bipush (-3), 2) := by decide +kernel
theorem dX12_lone_37 : decode cX12_lone 37 = .ok (.goto 51, 3) := by decide +kernel
theorem dX12_lone_40 : decode cX12_lone 40 = .ok (.iload_n 1, 1) := by decide +kernel
theorem dX12_lone_41 : decode cX12_lone 41 = .ok (.iconst 1, 1) := by decide +kernel
theorem dX12_lone_42 : decode cX12_lone 42 = .ok (.if_icmp .ne 15, 3) := by decide +kernel
theorem dX12_lone_45 : decode cX12_lone 45 = .ok (.iconst 1, 1) := by decide +kernel
theorem dX12_lone_46 : decode cX12_lone 46 = .ok (.aload_n 0, 1) := by decide +kernel
theorem dX12_lone_47 : decode cX12_lone 47 = .ok (.getfield 365, 3) := by decide +kernel
theorem dX12_lone_50 : decode cX12_lone 50 = .ok (.bipush 100, 2) := by decide +kernel
theorem dX12_lone_52 : decode cX12_lone 52 = .ok (.idiv, 1) := by decide +kernel
theorem dX12_lone_53 : decode cX12_lone 53 = .ok (.iadd, 1) := by decide +kernel
theorem dX12_lone_54 : decode cX12_lone 54 = .ok (.goto 34, 3) := by decide +kernel
theorem dX12_lone_57 : decode cX12_lone 57 = .ok (.iload_n 1, 1) := by decide +kernel
theorem dX12_lone_58 : decode cX12_lone 58 = .ok (.iconst 2, 1) := by decide +kernel
theorem dX12_lone_59 : decode cX12_lone 59 = .ok (.if_icmp .ne 16, 3) := by decide +kernel
theorem dX12_lone_62 : decode cX12_lone 62 = .ok (.aload_n 0, 1) := by decide +kernel
theorem dX12_lone_63 : decode cX12_lone 63 = .ok (.getfield 365, 3) := by decide +kernel
theorem dX12_lone_66 : decode cX12_lone 66 = .ok (.bipush 10, 2) := by decide +kernel
theorem dX12_lone_68 : decode cX12_lone 68 = .ok (.idiv, 1) := by decide +kernel
theorem dX12_lone_69 : decode cX12_lone 69 = .ok (.bipush 10, 2) := by decide +kernel
theorem dX12_lone_71 : decode cX12_lone 71 = .ok (.irem, 1) := by decide +kernel
theorem dX12_lone_72 : decode cX12_lone 72 = .ok (.goto 16, 3) := by decide +kernel
theorem dX12_lone_75 : decode cX12_lone 75 = .ok (.bipush 9, 2) := by decide +kernel
theorem dX12_lone_77 : decode cX12_lone 77 = .ok (.bipush 10, 2) := by decide +kernel
theorem dX12_lone_79 : decode cX12_lone 79 = .ok (.aload_n 0, 1) := by decide +kernel
theorem dX12_lone_80 : decode cX12_lone 80 = .ok (.getfield 365, 3) := by decide +kernel
theorem dX12_lone_83 : decode cX12_lone 83 = .ok (.bipush 10, 2) := by decide +kernel
theorem dX12_lone_85 : decode cX12_lone 85 = .ok (.irem, 1) := by decide +kernel
theorem dX12_lone_86 : decode cX12_lone 86 = .ok (.imul, 1) := by decide +kernel
theorem dX12_lone_87 : decode cX12_lone 87 = .ok (.iadd, 1) := by decide +kernel
theorem dX12_lone_88 : decode cX12_lone 88 = .ok (.ireturn, 1) := by decide +kernel
theorem dX12_liar_0 : decode cX12_liar 0 = .ok (.aload_n 0, 1) := by decide +kernel
theorem dX12_liar_1 : decode cX12_liar 1 = .ok (.iconst 0, 1) := by decide +kernel
theorem dX12_liar_2 : decode cX12_liar 2 = .ok (.invokevirtual 371, 3) := by decide +kernel
theorem dX12_liar_5 : decode cX12_liar 5 = .ok (.aload_n 0, 1) := by decide +kernel
theorem dX12_liar_6 : decode cX12_liar 6 = .ok (.getfield 362, 3) := by decide +kernel
theorem dX12_liar_9 : decode cX12_liar 9 = .ok (.ifCond .le 6, 3) := by decide +kernel
theorem dX12_liar_12 : decode cX12_liar 12 = .ok (.bipush (-3), 2) := by decide +kernel
theorem dX12_liar_14 : decode cX12_liar 14 = .ok (.ireturn, 1) := by decide +kernel
theorem dX12_liar_15 : decode cX12_liar 15 = .ok (.iconst 0, 1) := by decide +kernel
theorem dX12_liar_16 : decode cX12_liar 16 = .ok (.istore_n 1, 1) := by decide +kernel
theorem dX12_liar_17 : decode cX12_liar 17 = .ok (.iload_n 1, 1) := by decide +kernel
theorem dX12_liar_18 : decode cX12_liar 18 = .ok (.aload_n 0, 1) := by decide +kernel
theorem dX12_liar_19 : decode cX12_liar 19 = .ok (.getfield 7, 3) := by decide +kernel
theorem dX12_liar_22 : decode cX12_liar 22 = .ok (.bipush 6, 2) := by decide +kernel
theorem dX12_liar_24 : decode cX12_liar 24 = .ok (.iaload, 1) := by decide +kernel
theorem dX12_liar_25 : decode cX12_liar 25 = .ok (.if_icmp .ge 25, 3) := by decide +kernel
theorem dX12_liar_28 : decode cX12_liar 28 = .ok (.aload_n 0, 1) := by decide +kernel
theorem dX12_liar_29 : decode cX12_liar 29 = .ok (.iconst 1, 1) := by decide +kernel
theorem dX12_liar_30 : decode cX12_liar 30 = .ok (.iload_n 1, 1) := by decide +kernel
theorem dX12_liar_31 : decode cX12_liar 31 = .ok (.ishl, 1) := by decide +kernel
theorem dX12_liar_32 : decode cX12_liar 32 = .ok (.invokevirtual 371, 3) := by decide +kernel
theorem dX12_liar_35 : decode cX12_liar 35 = .ok (.aload_n 0, 1) := by decide +kernel
theorem dX12_liar_36 : decode cX12_liar 36 = .ok (.getfield 362, 3) := by decide +kernel
theorem dX12_liar_39 : decode cX12_liar 39 = .ok (.ifCond .le 5, 3) := by decide +kernel
theorem dX12_liar_42 : decode cX12_liar 42 = .ok (.iload_n 1, 1) := by decide +kernel
theorem dX12_liar_43 : decode cX12_liar 43 = .ok (.ireturn, 1) := by decide +kernel
theorem dX12_liar_44 : decode cX12_liar 44 = .ok (.iinc 1 1, 3) := by decide +kernel
theorem dX12_liar_47 : decode cX12_liar 47 = .ok (.goto (-30), 3) := by decide +kernel
theorem dX12_liar_50 : decode cX12_liar 50 = .ok (.bipush (-3), 2) := by decide +kernel
theorem dX12_liar_52 : decode cX12_liar 52 = .ok (.ireturn, 1) := by decide +kernel
theorem dX12_seed_0 : decode cX12_seed 0 = .ok (.aload_n 0, 1) := by decide +kernel
theorem dX12_seed_1 : decode cX12_seed 1 = .ok (.iconst 4, 1) := by decide +kernel
theorem dX12_seed_2 : decode cX12_seed 2 = .ok (.iload_n 1, 1) := by decide +kernel
theorem dX12_seed_3 : decode cX12_seed 3 = .ok (.invokevirtual 156, 3) := by decide +kernel
theorem dX12_seed_6 : decode cX12_seed 6 = .ok (.ireturn, 1) := by decide +kernel
theorem dX12_lotGoes_0 : decode cX12_lotGoes 0 = .ok (.aload_n 0, 1) := by decide +kernel
theorem dX12_lotGoes_1 : decode cX12_lotGoes 1 = .ok (.getfield 7, 3) := by decide +kernel
theorem dX12_lotGoes_4 : decode cX12_lotGoes 4 = .ok (.iconst 4, 1) := by decide +kernel
theorem dX12_lotGoes_5 : decode cX12_lotGoes 5 = .ok (.aload_n 0, 1) := by decide +kernel
theorem dX12_lotGoes_6 : decode cX12_lotGoes 6 = .ok (.getfield 7, 3) := by decide +kernel
theorem dX12_lotGoes_9 : decode cX12_lotGoes 9 = .ok (.iconst 4, 1) := by decide +kernel
theorem dX12_lotGoes_10 : decode cX12_lotGoes 10 = .ok (.iaload, 1) := by decide +kernel
theorem dX12_lotGoes_11 : decode cX12_lotGoes 11 = .ok (.ldc_w 374, 3) := by decide +kernel
theorem dX12_lotGoes_14 : decode cX12_lotGoes 14 = .ok (.imul, 1) := by decide +kernel
theorem dX12_lotGoes_15 : decode cX12_lotGoes 15 = .ok (.sipush 12345, 3) := by decide +kernel
theorem dX12_lotGoes_18 : decode cX12_lotGoes 18 = .ok (.iadd, 1) := by decide +kernel
theorem dX12_lotGoes_19 : decode cX12_lotGoes 19 = .ok (.iastore, 1) := by decide +kernel
theorem dX12_lotGoes_20 : decode cX12_lotGoes 20 = .ok (.aload_n 0, 1) := by decide +kernel
theorem dX12_lotGoes_21 : decode cX12_lotGoes 21 = .ok (.aload_n 0, 1) := by decide +kernel
theorem dX12_lotGoes_22 : decode cX12_lotGoes 22 = .ok (.getfield 7, 3) := by decide +kernel
theorem dX12_lotGoes_25 : decode cX12_lotGoes 25 = .ok (.iconst 4, 1) := by decide +kernel
theorem dX12_lotGoes_26 : decode cX12_lotGoes 26 = .ok (.iaload, 1) := by decide +kernel
theorem dX12_lotGoes_27 : decode cX12_lotGoes 27 = .ok (.bipush 16, 2) := by decide +kernel
theorem dX12_lotGoes_29 : decode cX12_lotGoes 29 = .ok (.iushr, 1) := by decide +kernel
theorem dX12_lotGoes_30 : decode cX12_lotGoes 30 = .ok (.aload_n 0, 1) := by decide +kernel
theorem dX12_lotGoes_31 : decode cX12_lotGoes 31 = .ok (.getfield 7, 3) := by decide +kernel
theorem dX12_lotGoes_34 : decode cX12_lotGoes 34 = .ok (.iconst 0, 1) := by decide +kernel
theorem dX12_lotGoes_35 : decode cX12_lotGoes 35 = .ok (.iaload, 1) := by decide +kernel
theorem dX12_lotGoes_36 : decode cX12_lotGoes 36 = .ok (.iconst 1, 1) := by decide +kernel
theorem dX12_lotGoes_37 : decode cX12_lotGoes 37 = .ok (.iadd, 1) := by decide +kernel
theorem dX12_lotGoes_38 : decode cX12_lotGoes 38 = .ok (.irem, 1) := by decide +kernel
theorem dX12_lotGoes_39 : decode cX12_lotGoes 39 = .ok (.invokevirtual 144, 3) := by decide +kernel
theorem dX12_lotGoes_42 : decode cX12_lotGoes 42 = .ok (.ireturn, 1) := by decide +kernel
theorem dX12_lot_0 : decode cX12_lot 0 = .ok (.aload_n 0, 1) := by decide +kernel
theorem dX12_lot_1 : decode cX12_lot 1 = .ok (.invokevirtual 137, 3) := by decide +kernel
theorem dX12_lot_4 : decode cX12_lot 4 = .ok (.ifCond .eq 8, 3) := by decide +kernel
theorem dX12_lot_7 : decode cX12_lot 7 = .ok (.bipush (-4), 2) := by decide +kernel
theorem dX12_lot_9 : decode cX12_lot 9 = .ok (.goto 7, 3) := by decide +kernel
theorem dX12_lot_12 : decode cX12_lot 12 = .ok (.aload_n 0, 1) := by decide +kernel
theorem dX12_lot_13 : decode cX12_lot 13 = .ok (.invokevirtual 375, 3) := by decide +kernel
theorem dX12_lot_16 : decode cX12_lot 16 = .ok (.ireturn, 1) := by decide +kernel
theorem dX12_times_0 : decode cX12_times 0 = .ok (.iload_n 1, 1) := by decide +kernel
theorem dX12_times_1 : decode cX12_times 1 = .ok (.i2l, 1) := by decide +kernel
theorem dX12_times_2 : decode cX12_times 2 = .ok (.lconst 1, 1) := by decide +kernel
theorem dX12_times_3 : decode cX12_times 3 = .ok (.ldc2_w 378, 3) := by decide +kernel
theorem dX12_times_6 : decode cX12_times 6 = .ok (.invokestatic 61, 3) := by decide +kernel
theorem dX12_times_9 : decode cX12_times 9 = .ok (.ifCond .eq 15, 3) := by decide +kernel
theorem dX12_times_12 : decode cX12_times 12 = .ok (.iload_n 2, 1) := by decide +kernel
theorem dX12_times_13 : decode cX12_times 13 = .ok (.i2l, 1) := by decide +kernel
theorem dX12_times_14 : decode cX12_times 14 = .ok (.lconst 0, 1) := by decide +kernel
theorem dX12_times_15 : decode cX12_times 15 = .ok (.ldc2_w 380, 3) := by decide +kernel
theorem dX12_times_18 : decode cX12_times 18 = .ok (.invokestatic 61, 3) := by decide +kernel
theorem dX12_times_21 : decode cX12_times 21 = .ok (.ifCond .ne 5, 3) := by decide +kernel
theorem dX12_times_24 : decode cX12_times 24 = .ok (.iconst (-1), 1) := by decide +kernel
theorem dX12_times_25 : decode cX12_times 25 = .ok (.ireturn, 1) := by decide +kernel
theorem dX12_times_26 : decode cX12_times 26 = .ok (.aload_n 0, 1) := by decide +kernel
theorem dX12_times_27 : decode cX12_times 27 = .ok (.invokevirtual 297, 3) := by decide +kernel
theorem dX12_times_30 : decode cX12_times 30 = .ok (.iconst 0, 1) := by decide +kernel
theorem dX12_times_31 : decode cX12_times 31 = .ok (.istore_n 3, 1) := by decide +kernel
theorem dX12_times_32 : decode cX12_times 32 = .ok (.iconst 0, 1) := by decide +kernel
theorem dX12_times_33 : decode cX12_times 33 = .ok (.istore 4, 2) := by decide +kernel
theorem dX12_times_35 : decode cX12_times 35 = .ok (.iload 4, 2) := by decide +kernel
theorem dX12_times_37 : decode cX12_times 37 = .ok (.iload_n 1, 1) := by decide +kernel
theorem dX12_times_38 : decode cX12_times 38 = .ok (.if_icmp .ge 65, 3) := by decide +kernel
theorem dX12_times_41 : decode cX12_times 41 = .ok (.iconst 0, 1) := by decide +kernel
theorem dX12_times_42 : decode cX12_times 42 = .ok (.istore 5, 2) := by decide +kernel
theorem dX12_times_44 : decode cX12_times 44 = .ok (.aload_n 0, 1) := by decide +kernel
theorem dX12_times_45 : decode cX12_times 45 = .ok (.invokevirtual 137, 3) := by decide +kernel
theorem dX12_times_48 : decode cX12_times 48 = .ok (.ifCond .ne 15, 3) := by decide +kernel
theorem dX12_times_51 : decode cX12_times 51 = .ok (.iload 5, 2) := by decide +kernel
theorem dX12_times_53 : decode cX12_times 53 = .ok (.aload_n 0, 1) := by decide +kernel
theorem dX12_times_54 : decode cX12_times 54 = .ok (.invokevirtual 375, 3) := by decide +kernel
theorem dX12_times_57 : decode cX12_times 57 = .ok (.iadd, 1) := by decide +kernel
theorem dX12_times_58 : decode cX12_times 58 = .ok (.istore 5, 2) := by decide +kernel
theorem dX12_times_60 : decode cX12_times 60 = .ok (.goto (-16), 3) := by decide +kernel
theorem dX12_times_63 : decode cX12_times 63 = .ok (.iload_n 3, 1) := by decide +kernel
theorem dX12_times_64 : decode cX12_times 64 = .ok (.iload 5, 2) := by decide +kernel
theorem dX12_times_66 : decode cX12_times 66 = .ok (.iload_n 2, 1) := by decide +kernel
theorem dX12_times_67 : decode cX12_times 67 = .ok (.if_icmp .lt 7, 3) := by decide +kernel
theorem dX12_times_70 : decode cX12_times 70 = .ok (.iconst 1, 1) := by decide +kernel
theorem dX12_times_71 : decode cX12_times 71 = .ok (.goto 4, 3) := by decide +kernel
theorem dX12_times_74 : decode cX12_times 74 = .ok (.iconst 0, 1) := by decide +kernel
theorem dX12_times_75 : decode cX12_times 75 = .ok (.iadd, 1) := by decide +kernel
theorem dX12_times_76 : decode cX12_times 76 = .ok (.istore_n 3, 1) := by decide +kernel
theorem dX12_times_77 : decode cX12_times 77 = .ok (.aload_n 0, 1) := by decide +kernel
theorem dX12_times_78 : decode cX12_times 78 = .ok (.getfield 7, 3) := by decide +kernel
theorem dX12_times_81 : decode cX12_times 81 = .ok (.iconst 4, 1) := by decide +kernel
theorem dX12_times_82 : decode cX12_times 82 = .ok (.iaload, 1) := by decide +kernel
theorem dX12_times_83 : decode cX12_times 83 = .ok (.istore 6, 2) := by decide +kernel
theorem dX12_times_85 : decode cX12_times 85 = .ok (.aload_n 0, 1) := by decide +kernel
theorem dX12_times_86 : decode cX12_times 86 = .ok (.invokevirtual 69, 3) := by decide +kernel
theorem dX12_times_89 : decode cX12_times 89 = .ok (.aload_n 0, 1) := by decide +kernel
theorem dX12_times_90 : decode cX12_times 90 = .ok (.getfield 7, 3) := by decide +kernel
theorem dX12_times_93 : decode cX12_times 93 = .ok (.iconst 4, 1) := by decide +kernel
theorem dX12_times_94 : decode cX12_times 94 = .ok (.iload 6, 2) := by decide +kernel
theorem dX12_times_96 : decode cX12_times 96 = .ok (.iastore, 1) := by decide +kernel
theorem dX12_times_97 : decode cX12_times 97 = .ok (.iinc 4 1, 3) := by decide +kernel
theorem dX12_times_100 : decode cX12_times 100 = .ok (.goto (-65), 3) := by decide +kernel
theorem dX12_times_103 : decode cX12_times 103 = .ok (.aload_n 0, 1) := by decide +kernel
theorem dX12_times_104 : decode cX12_times 104 = .ok (.invokevirtual 303, 3) := by decide +kernel
theorem dX12_times_107 : decode cX12_times 107 = .ok (.iload_n 3, 1) := by decide +kernel
theorem dX12_times_108 : decode cX12_times 108 = .ok (.ireturn, 1) := by decide +kernel
theorem dX12_prove_0 : decode cX12_prove 0 = .ok (.iload_n 1, 1) := by decide +kernel
theorem dX12_prove_1 : decode cX12_prove 1 = .ok (.invokestatic 337, 3) := by decide +kernel
theorem dX12_prove_4 : decode cX12_prove 4 = .ok (.ifCond .ne 5, 3) := by decide +kernel
theorem dX12_prove_7 : decode cX12_prove 7 = .ok (.iconst (-1), 1) := by decide +kernel
theorem dX12_prove_8 : decode cX12_prove 8 = .ok (.ireturn, 1) := by decide +kernel
theorem dX12_prove_9 : decode cX12_prove 9 = .ok (.aload_n 0, 1) := by decide +kernel
theorem dX12_prove_10 : decode cX12_prove 10 = .ok (.iload_n 1, 1) := by decide +kernel
theorem dX12_prove_11 : decode cX12_prove 11 = .ok (.invokevirtual 340, 3) := by decide +kernel
theorem dX12_prove_14 : decode cX12_prove 14 = .ok (.aload_n 0, 1) := by decide +kernel
theorem dX12_prove_15 : decode cX12_prove 15 = .ok (.aload_n 0, 1) := by decide +kernel
theorem dX12_prove_16 : decode cX12_prove 16 = .ok (.iload_n 1, 1) := by decide +kernel
theorem dX12_prove_17 : decode cX12_prove 17 = .ok (.invokevirtual 318, 3) := by decide +kernel
theorem dX12_prove_20 : decode cX12_prove 20 = .ok (.putfield 382, 3) := by decide +kernel
theorem dX12_prove_23 : decode cX12_prove 23 = .ok (.aload_n 0, 1) := by decide +kernel
theorem dX12_prove_24 : decode cX12_prove 24 = .ok (.aload_n 0, 1) := by decide +kernel
theorem dX12_prove_25 : decode cX12_prove 25 = .ok (.getfield 331, 3) := by decide +kernel
theorem dX12_prove_28 : decode cX12_prove 28 = .ok (.aload_n 0, 1) := by decide +kernel
theorem dX12_prove_29 : decode cX12_prove 29 = .ok (.getfield 382, 3) := by decide +kernel
theorem dX12_prove_32 : decode cX12_prove 32 = .ok (.invokevirtual 327, 3) := by decide +kernel
theorem dX12_prove_35 : decode cX12_prove 35 = .ok (.aload_n 0, 1) := by decide +kernel
theorem dX12_prove_36 : decode cX12_prove 36 = .ok (.invokevirtual 297, 3) := by decide +kernel
theorem dX12_prove_39 : decode cX12_prove 39 = .ok (.iconst 0, 1) := by decide +kernel
theorem dX12_prove_40 : decode cX12_prove 40 = .ok (.istore_n 2, 1) := by decide +kernel
theorem dX12_prove_41 : decode cX12_prove 41 = .ok (.iload_n 2, 1) := by decide +kernel
theorem dX12_prove_42 : decode cX12_prove 42 = .ok (.aload_n 0, 1) := by decide +kernel
theorem dX12_prove_43 : decode cX12_prove 43 = .ok (.getfield 382, 3) := by decide +kernel
theorem dX12_prove_46 : decode cX12_prove 46 = .ok (.if_icmp .ge 57, 3) := by decide +kernel
theorem dX12_prove_49 : decode cX12_prove 49 = .ok (.aload_n 0, 1) := by decide +kernel
theorem dX12_prove_50 : decode cX12_prove 50 = .ok (.getfield 37, 3) := by decide +kernel
theorem dX12_prove_53 : decode cX12_prove 53 = .ok (.iconst 3, 1) := by decide +kernel
theorem dX12_prove_54 : decode cX12_prove 54 = .ok (.iload_n 2, 1) := by decide +kernel
theorem dX12_prove_55 : decode cX12_prove 55 = .ok (.imul, 1) := by decide +kernel
theorem dX12_prove_56 : decode cX12_prove 56 = .ok (.aload_n 0, 1) := by decide +kernel
theorem dX12_prove_57 : decode cX12_prove 57 = .ok (.getfield 34, 3) := by decide +kernel
theorem dX12_prove_60 : decode cX12_prove 60 = .ok (.iload_n 2, 1) := by decide +kernel
theorem dX12_prove_61 : decode cX12_prove 61 = .ok (.iaload, 1) := by decide +kernel
theorem dX12_prove_62 : decode cX12_prove 62 = .ok (.iastore, 1) := by decide +kernel
theorem dX12_prove_63 : decode cX12_prove 63 = .ok (.aload_n 0, 1) := by decide +kernel
theorem dX12_prove_64 : decode cX12_prove 64 = .ok (.getfield 37, 3) := by decide +kernel
theorem dX12_prove_67 : decode cX12_prove 67 = .ok (.iconst 3, 1) := by decide +kernel
theorem dX12_prove_68 : decode cX12_prove 68 = .ok (.iload_n 2, 1) := by decide +kernel
theorem dX12_prove_69 : decode cX12_prove 69 = .ok (.imul, 1) := by decide +kernel
theorem dX12_prove_70 : decode cX12_prove 70 = .ok (.iconst 1, 1) := by decide +kernel
theorem dX12_prove_71 : decode cX12_prove 71 = .ok (.iadd, 1) := by decide +kernel
theorem dX12_prove_72 : decode cX12_prove 72 = .ok (.aload_n 0, 1) := by decide +kernel
theorem dX12_prove_73 : decode cX12_prove 73 = .ok (.aload_n 0, 1) := by decide +kernel
theorem dX12_prove_74 : decode cX12_prove 74 = .ok (.getfield 34, 3) := by decide +kernel
theorem dX12_prove_77 : decode cX12_prove 77 = .ok (.iload_n 2, 1) := by decide +kernel
theorem dX12_prove_78 : decode cX12_prove 78 = .ok (.iaload, 1) := by decide +kernel
theorem dX12_prove_79 : decode cX12_prove 79 = .ok (.invokevirtual 144, 3) := by decide +kernel
theorem dX12_prove_82 : decode cX12_prove 82 = .ok (.iastore, 1) := by decide +kernel
theorem dX12_prove_83 : decode cX12_prove 83 = .ok (.aload_n 0, 1) := by decide +kernel
theorem dX12_prove_84 : decode cX12_prove 84 = .ok (.getfield 37, 3) := by decide +kernel
theorem dX12_prove_87 : decode cX12_prove 87 = .ok (.iconst 3, 1) := by decide +kernel
theorem dX12_prove_88 : decode cX12_prove 88 = .ok (.iload_n 2, 1) := by decide +kernel
theorem dX12_prove_89 : decode cX12_prove 89 = .ok (.imul, 1) := by decide +kernel
theorem dX12_prove_90 : decode cX12_prove 90 = .ok (.iconst 2, 1) := by decide +kernel
theorem dX12_prove_91 : decode cX12_prove 91 = .ok (.iadd, 1) := by decide +kernel
theorem dX12_prove_92 : decode cX12_prove 92 = .ok (.aload_n 0, 1) := by decide +kernel
theorem dX12_prove_93 : decode cX12_prove 93 = .ok (.invokevirtual 163, 3) := by decide +kernel
theorem dX12_prove_96 : decode cX12_prove 96 = .ok (.iastore, 1) := by decide +kernel
theorem dX12_prove_97 : decode cX12_prove 97 = .ok (.iinc 2 1, 3) := by decide +kernel
theorem dX12_prove_100 : decode cX12_prove 100 = .ok (.goto (-59), 3) := by decide +kernel
theorem dX12_prove_103 : decode cX12_prove 103 = .ok (.aload_n 0, 1) := by decide +kernel
theorem dX12_prove_104 : decode cX12_prove 104 = .ok (.invokevirtual 303, 3) := by decide +kernel
theorem dX12_prove_107 : decode cX12_prove 107 = .ok (.aload_n 0, 1) := by decide +kernel
theorem dX12_prove_108 : decode cX12_prove 108 = .ok (.getfield 382, 3) := by decide +kernel
theorem dX12_prove_111 : decode cX12_prove 111 = .ok (.ireturn, 1) := by decide +kernel
theorem dX12_row_0 : decode cX12_row 0 = .ok (.iload_n 1, 1) := by decide +kernel
theorem dX12_row_1 : decode cX12_row 1 = .ok (.i2l, 1) := by decide +kernel
theorem dX12_row_2 : decode cX12_row 2 = .ok (.lconst 0, 1) := by decide +kernel
theorem dX12_row_3 : decode cX12_row 3 = .ok (.aload_n 0, 1) := by decide +kernel
theorem dX12_row_4 : decode cX12_row 4 = .ok (.getfield 382, 3) := by decide +kernel
theorem dX12_row_7 : decode cX12_row 7 = .ok (.iconst 1, 1) := by decide +kernel
theorem dX12_row_8 : decode cX12_row 8 = .ok (.isub, 1) := by decide +kernel
theorem dX12_row_9 : decode cX12_row 9 = .ok (.i2l, 1) := by decide +kernel
theorem dX12_row_10 : decode cX12_row 10 = .ok (.invokestatic 61, 3) := by decide +kernel
theorem dX12_row_13 : decode cX12_row 13 = .ok (.ifCond .eq 28, 3) := by decide +kernel
theorem dX12_row_16 : decode cX12_row 16 = .ok (.iload_n 2, 1) := by decide +kernel
theorem dX12_row_17 : decode cX12_row 17 = .ok (.i2l, 1) := by decide +kernel
theorem dX12_row_18 : decode cX12_row 18 = .ok (.lconst 0, 1) := by decide +kernel
theorem dX12_row_19 : decode cX12_row 19 = .ok (.ldc2_w 385, 3) := by decide +kernel
theorem dX12_row_22 : decode cX12_row 22 = .ok (.invokestatic 61, 3) := by decide +kernel
theorem dX12_row_25 : decode cX12_row 25 = .ok (.ifCond .eq 16, 3) := by decide +kernel
theorem dX12_row_28 : decode cX12_row 28 = .ok (.aload_n 0, 1) := by decide +kernel
theorem dX12_row_29 : decode cX12_row 29 = .ok (.getfield 37, 3) := by decide +kernel
theorem dX12_row_32 : decode cX12_row 32 = .ok (.iconst 3, 1) := by decide +kernel
theorem dX12_row_33 : decode cX12_row 33 = .ok (.iload_n 1, 1) := by decide +kernel
theorem dX12_row_34 : decode cX12_row 34 = .ok (.imul, 1) := by decide +kernel
theorem dX12_row_35 : decode cX12_row 35 = .ok (.iload_n 2, 1) := by decide +kernel
theorem dX12_row_36 : decode cX12_row 36 = .ok (.iadd, 1) := by decide +kernel
theorem dX12_row_37 : decode cX12_row 37 = .ok (.iaload, 1) := by decide +kernel
theorem dX12_row_38 : decode cX12_row 38 = .ok (.goto 5, 3) := by decide +kernel
theorem dX12_row_41 : decode cX12_row 41 = .ok (.bipush (-9), 2) := by decide +kernel
theorem dX12_row_43 : decode cX12_row 43 = .ok (.ireturn, 1) := by decide +kernel
theorem dX12_alterRow_0 : decode cX12_alterRow 0 = .ok (.iload_n 1, 1) := by decide +kernel
theorem dX12_alterRow_1 : decode cX12_alterRow 1 = .ok (.i2l, 1) := by decide +kernel
theorem dX12_alterRow_2 : decode cX12_alterRow 2 = .ok (.lconst 0, 1) := by decide +kernel
theorem dX12_alterRow_3 : decode cX12_alterRow 3 = .ok (.aload_n 0, 1) := by decide +kernel
theorem dX12_alterRow_4 : decode cX12_alterRow 4 = .ok (.getfield 382, 3) := by decide +kernel
theorem dX12_alterRow_7 : decode cX12_alterRow 7 = .ok (.iconst 1, 1) := by decide +kernel
theorem dX12_alterRow_8 : decode cX12_alterRow 8 = .ok (.isub, 1) := by decide +kernel
theorem dX12_alterRow_9 : decode cX12_alterRow 9 = .ok (.i2l, 1) := by decide +kernel
theorem dX12_alterRow_10 : decode cX12_alterRow 10 = .ok (.invokestatic 61, 3) := by decide +kernel
theorem dX12_alterRow_13 : decode cX12_alterRow 13 = .ok (.ifCond .eq 15, 3) := by decide +kernel
theorem dX12_alterRow_16 : decode cX12_alterRow 16 = .ok (.iload_n 2, 1) := by decide +kernel
theorem dX12_alterRow_17 : decode cX12_alterRow 17 = .ok (.i2l, 1) := by decide +kernel
theorem dX12_alterRow_18 : decode cX12_alterRow 18 = .ok (.lconst 0, 1) := by decide +kernel
theorem dX12_alterRow_19 : decode cX12_alterRow 19 = .ok (.ldc2_w 385, 3) := by decide +kernel
theorem dX12_alterRow_22 : decode cX12_alterRow 22 = .ok (.invokestatic 61, 3) := by decide +kernel
theorem dX12_alterRow_25 : decode cX12_alterRow 25 = .ok (.ifCond .ne 6, 3) := by decide +kernel
theorem dX12_alterRow_28 : decode cX12_alterRow 28 = .ok (.bipush (-9), 2) := by decide +kernel
theorem dX12_alterRow_30 : decode cX12_alterRow 30 = .ok (.ireturn, 1) := by decide +kernel
theorem dX12_alterRow_31 : decode cX12_alterRow 31 = .ok (.aload_n 0, 1) := by decide +kernel
theorem dX12_alterRow_32 : decode cX12_alterRow 32 = .ok (.getfield 37, 3) := by decide +kernel
theorem dX12_alterRow_35 : decode cX12_alterRow 35 = .ok (.iconst 3, 1) := by decide +kernel
theorem dX12_alterRow_36 : decode cX12_alterRow 36 = .ok (.iload_n 1, 1) := by decide +kernel
theorem dX12_alterRow_37 : decode cX12_alterRow 37 = .ok (.imul, 1) := by decide +kernel
theorem dX12_alterRow_38 : decode cX12_alterRow 38 = .ok (.iload_n 2, 1) := by decide +kernel
theorem dX12_alterRow_39 : decode cX12_alterRow 39 = .ok (.iadd, 1) := by decide +kernel
theorem dX12_alterRow_40 : decode cX12_alterRow 40 = .ok (.iaload, 1) := by decide +kernel
theorem dX12_alterRow_41 : decode cX12_alterRow 41 = .ok (.istore 4, 2) := by decide +kernel
theorem dX12_alterRow_43 : decode cX12_alterRow 43 = .ok (.aload_n 0, 1) := by decide +kernel
theorem dX12_alterRow_44 : decode cX12_alterRow 44 = .ok (.getfield 37, 3) := by decide +kernel
theorem dX12_alterRow_47 : decode cX12_alterRow 47 = .ok (.iconst 3, 1) := by decide +kernel
theorem dX12_alterRow_48 : decode cX12_alterRow 48 = .ok (.iload_n 1, 1) := by decide +kernel
theorem dX12_alterRow_49 : decode cX12_alterRow 49 = .ok (.imul, 1) := by decide +kernel
theorem dX12_alterRow_50 : decode cX12_alterRow 50 = .ok (.iload_n 2, 1) := by decide +kernel
theorem dX12_alterRow_51 : decode cX12_alterRow 51 = .ok (.iadd, 1) := by decide +kernel
theorem dX12_alterRow_52 : decode cX12_alterRow 52 = .ok (.iload_n 3, 1) := by decide +kernel
theorem dX12_alterRow_53 : decode cX12_alterRow 53 = .ok (.iastore, 1) := by decide +kernel
theorem dX12_alterRow_54 : decode cX12_alterRow 54 = .ok (.iload 4, 2) := by decide +kernel
theorem dX12_alterRow_56 : decode cX12_alterRow 56 = .ok (.ireturn, 1) := by decide +kernel
theorem dX12_judge_0 : decode cX12_judge 0 = .ok (.iconst 0, 1) := by decide +kernel
theorem dX12_judge_1 : decode cX12_judge 1 = .ok (.istore_n 1, 1) := by decide +kernel
theorem dX12_judge_2 : decode cX12_judge 2 = .ok (.aload_n 0, 1) := by decide +kernel
theorem dX12_judge_3 : decode cX12_judge 3 = .ok (.invokevirtual 297, 3) := by decide +kernel
theorem dX12_judge_6 : decode cX12_judge 6 = .ok (.iconst 0, 1) := by decide +kernel
theorem dX12_judge_7 : decode cX12_judge 7 = .ok (.istore_n 2, 1) := by decide +kernel
theorem dX12_judge_8 : decode cX12_judge 8 = .ok (.iload_n 2, 1) := by decide +kernel
theorem dX12_judge_9 : decode cX12_judge 9 = .ok (.aload_n 0, 1) := by decide +kernel
theorem dX12_judge_10 : decode cX12_judge 10 = .ok (.getfield 382, 3) := by decide +kernel
theorem dX12_judge_13 : decode cX12_judge 13 = .ok (.if_icmp .ge 103, 3) := by decide +kernel
theorem dX12_judge_16 : decode cX12_judge 16 = .ok (.iload_n 1, 1) := by decide +kernel
theorem dX12_judge_17 : decode cX12_judge 17 = .ok (.ifCond .ne 99, 3) := by decide +kernel
theorem dX12_judge_20 : decode cX12_judge 20 = .ok (.aload_n 0, 1) := by decide +kernel
theorem dX12_judge_21 : decode cX12_judge 21 = .ok (.getfield 37, 3) := by decide +kernel
theorem dX12_judge_24 : decode cX12_judge 24 = .ok (.iconst 3, 1) := by decide +kernel
theorem dX12_judge_25 : decode cX12_judge 25 = .ok (.iload_n 2, 1) := by decide +kernel
theorem dX12_judge_26 : decode cX12_judge 26 = .ok (.imul, 1) := by decide +kernel
theorem dX12_judge_27 : decode cX12_judge 27 = .ok (.iaload, 1) := by decide +kernel
theorem dX12_judge_28 : decode cX12_judge 28 = .ok (.i2l, 1) := by decide +kernel
theorem dX12_judge_29 : decode cX12_judge 29 = .ok (.lconst 0, 1) := by decide +kernel
theorem dX12_judge_30 : decode cX12_judge 30 = .ok (.aload_n 0, 1) := by decide +kernel
theorem dX12_judge_31 : decode cX12_judge 31 = .ok (.getfield 7, 3) := by decide +kernel
theorem dX12_judge_34 : decode cX12_judge 34 = .ok (.iconst 0, 1) := by decide +kernel
theorem dX12_judge_35 : decode cX12_judge 35 = .ok (.iaload, 1) := by decide +kernel
theorem dX12_judge_36 : decode cX12_judge 36 = .ok (.i2l, 1) := by decide +kernel
theorem dX12_judge_37 : decode cX12_judge 37 = .ok (.invokestatic 61, 3) := by decide +kernel
theorem dX12_judge_40 : decode cX12_judge 40 = .ok (.ifCond .eq 56, 3) := by decide +kernel
theorem dX12_judge_43 : decode cX12_judge 43 = .ok (.aload_n 0, 1) := by decide +kernel
theorem dX12_judge_44 : decode cX12_judge 44 = .ok (.invokevirtual 137, 3) := by decide +kernel
theorem dX12_judge_47 : decode cX12_judge 47 = .ok (.ifCond .ne 49, 3) := by decide +kernel
theorem dX12_judge_50 : decode cX12_judge 50 = .ok (.aload_n 0, 1) := by decide +kernel
theorem dX12_judge_51 : decode cX12_judge 51 = .ok (.aload_n 0, 1) := by decide +kernel
theorem dX12_judge_52 : decode cX12_judge 52 = .ok (.getfield 37, 3) := by decide +kernel
theorem dX12_judge_55 : decode cX12_judge 55 = .ok (.iconst 3, 1) := by decide +kernel
theorem dX12_judge_56 : decode cX12_judge 56 = .ok (.iload_n 2, 1) := by decide +kernel
theorem dX12_judge_57 : decode cX12_judge 57 = .ok (.imul, 1) := by decide +kernel
theorem dX12_judge_58 : decode cX12_judge 58 = .ok (.iaload, 1) := by decide +kernel
theorem dX12_judge_59 : decode cX12_judge 59 = .ok (.invokevirtual 144, 3) := by decide +kernel
theorem dX12_judge_62 : decode cX12_judge 62 = .ok (.aload_n 0, 1) := by decide +kernel
theorem dX12_judge_63 : decode cX12_judge 63 = .ok (.getfield 37, 3) := by decide +kernel
theorem dX12_judge_66 : decode cX12_judge 66 = .ok (.iconst 3, 1) := by decide +kernel
theorem dX12_judge_67 : decode cX12_judge 67 = .ok (.iload_n 2, 1) := by decide +kernel
theorem dX12_judge_68 : decode cX12_judge 68 = .ok (.imul, 1) := by decide +kernel
theorem dX12_judge_69 : decode cX12_judge 69 = .ok (.iconst 1, 1) := by decide +kernel
theorem dX12_judge_70 : decode cX12_judge 70 = .ok (.iadd, 1) := by decide +kernel
theorem dX12_judge_71 : decode cX12_judge 71 = .ok (.iaload, 1) := by decide +kernel
theorem dX12_judge_72 : decode cX12_judge 72 = .ok (.if_icmp .ne 24, 3) := by decide +kernel
theorem dX12_judge_75 : decode cX12_judge 75 = .ok (.aload_n 0, 1) := by decide +kernel
theorem dX12_judge_76 : decode cX12_judge 76 = .ok (.invokevirtual 163, 3) := by decide +kernel
theorem dX12_judge_79 : decode cX12_judge 79 = .ok (.aload_n 0, 1) := by decide +kernel
theorem dX12_judge_80 : decode cX12_judge 80 = .ok (.getfield 37, 3) := by decide +kernel
theorem dX12_judge_83 : decode cX12_judge 83 = .ok (.iconst 3, 1) := by decide +kernel
theorem dX12_judge_84 : decode cX12_judge 84 = .ok (.iload_n 2, 1) := by decide +kernel
theorem dX12_judge_85 : decode cX12_judge 85 = .ok (.imul, 1) := by decide +kernel
theorem dX12_judge_86 : decode cX12_judge 86 = .ok (.iconst 2, 1) := by decide +kernel
theorem dX12_judge_87 : decode cX12_judge 87 = .ok (.iadd, 1) := by decide +kernel
theorem dX12_judge_88 : decode cX12_judge 88 = .ok (.iaload, 1) := by decide +kernel
theorem dX12_judge_89 : decode cX12_judge 89 = .ok (.if_icmp .ne 7, 3) := by decide +kernel
theorem dX12_judge_92 : decode cX12_judge 92 = .ok (.iconst 1, 1) := by decide +kernel
theorem dX12_judge_93 : decode cX12_judge 93 = .ok (.goto 4, 3) := by decide +kernel
theorem dX12_judge_96 : decode cX12_judge 96 = .ok (.iconst 0, 1) := by decide +kernel
theorem dX12_judge_97 : decode cX12_judge 97 = .ok (.istore_n 3, 1) := by decide +kernel
theorem dX12_judge_98 : decode cX12_judge 98 = .ok (.iload_n 3, 1) := by decide +kernel
theorem dX12_judge_99 : decode cX12_judge 99 = .ok (.ifCond .eq 7, 3) := by decide +kernel
theorem dX12_judge_102 : decode cX12_judge 102 = .ok (.iconst 0, 1) := by decide +kernel
theorem dX12_judge_103 : decode cX12_judge 103 = .ok (.goto 6, 3) := by decide +kernel
theorem dX12_judge_106 : decode cX12_judge 106 = .ok (.iload_n 2, 1) := by decide +kernel
theorem dX12_judge_107 : decode cX12_judge 107 = .ok (.iconst 1, 1) := by decide +kernel
theorem dX12_judge_108 : decode cX12_judge 108 = .ok (.iadd, 1) := by decide +kernel
theorem dX12_judge_109 : decode cX12_judge 109 = .ok (.istore_n 1, 1) := by decide +kernel
theorem dX12_judge_110 : decode cX12_judge 110 = .ok (.iinc 2 1, 3) := by decide +kernel
theorem dX12_judge_113 : decode cX12_judge 113 = .ok (.goto (-105), 3) := by decide +kernel
theorem dX12_judge_116 : decode cX12_judge 116 = .ok (.aload_n 0, 1) := by decide +kernel
theorem dX12_judge_117 : decode cX12_judge 117 = .ok (.invokevirtual 303, 3) := by decide +kernel
theorem dX12_judge_120 : decode cX12_judge 120 = .ok (.iload_n 1, 1) := by decide +kernel
theorem dX12_judge_121 : decode cX12_judge 121 = .ok (.ireturn, 1) := by decide +kernel
theorem dX12_isSheet_0 : decode cX12_isSheet 0 = .ok (.iload_n 0, 1) := by decide +kernel
theorem dX12_isSheet_1 : decode cX12_isSheet 1 = .ok (.i2l, 1) := by decide +kernel
theorem dX12_isSheet_2 : decode cX12_isSheet 2 = .ok (.lconst 0, 1) := by decide +kernel
theorem dX12_isSheet_3 : decode cX12_isSheet 3 = .ok (.ldc2_w 343, 3) := by decide +kernel
theorem dX12_isSheet_6 : decode cX12_isSheet 6 = .ok (.invokestatic 61, 3) := by decide +kernel
theorem dX12_isSheet_9 : decode cX12_isSheet 9 = .ok (.ireturn, 1) := by decide +kernel
theorem dX12_sheet_0 : decode cX12_sheet 0 = .ok (.iload_n 1, 1) := by decide +kernel
theorem dX12_sheet_1 : decode cX12_sheet 1 = .ok (.invokestatic 387, 3) := by decide +kernel
theorem dX12_sheet_4 : decode cX12_sheet 4 = .ok (.ifCond .eq 27, 3) := by decide +kernel
theorem dX12_sheet_7 : decode cX12_sheet 7 = .ok (.iload_n 2, 1) := by decide +kernel
theorem dX12_sheet_8 : decode cX12_sheet 8 = .ok (.i2l, 1) := by decide +kernel
theorem dX12_sheet_9 : decode cX12_sheet 9 = .ok (.ldc2_w 197, 3) := by decide +kernel
theorem dX12_sheet_12 : decode cX12_sheet 12 = .ok (.ldc2_w 316, 3) := by decide +kernel
theorem dX12_sheet_15 : decode cX12_sheet 15 = .ok (.invokestatic 61, 3) := by decide +kernel
theorem dX12_sheet_18 : decode cX12_sheet 18 = .ok (.ifCond .eq 13, 3) := by decide +kernel
theorem dX12_sheet_21 : decode cX12_sheet 21 = .ok (.iload_n 2, 1) := by decide +kernel
theorem dX12_sheet_22 : decode cX12_sheet 22 = .ok (.ifCond .lt 11, 3) := by decide +kernel
theorem dX12_sheet_25 : decode cX12_sheet 25 = .ok (.iload_n 3, 1) := by decide +kernel
theorem dX12_sheet_26 : decode cX12_sheet 26 = .ok (.bipush 40, 2) := by decide +kernel
theorem dX12_sheet_28 : decode cX12_sheet 28 = .ok (.if_icmp .le 5, 3) := by decide +kernel
theorem dX12_sheet_31 : decode cX12_sheet 31 = .ok (.iconst (-1), 1) := by decide +kernel
theorem dX12_sheet_32 : decode cX12_sheet 32 = .ok (.ireturn, 1) := by decide +kernel
theorem dX12_sheet_33 : decode cX12_sheet 33 = .ok (.iload_n 2, 1) := by decide +kernel
theorem dX12_sheet_34 : decode cX12_sheet 34 = .ok (.ifCond .lt 10, 3) := by decide +kernel
theorem dX12_sheet_37 : decode cX12_sheet 37 = .ok (.iload_n 3, 1) := by decide +kernel
theorem dX12_sheet_38 : decode cX12_sheet 38 = .ok (.ifCond .ge 6, 3) := by decide +kernel
theorem dX12_sheet_41 : decode cX12_sheet 41 = .ok (.bipush (-14), 2) := by decide +kernel
theorem dX12_sheet_43 : decode cX12_sheet 43 = .ok (.ireturn, 1) := by decide +kernel
theorem dX12_sheet_44 : decode cX12_sheet 44 = .ok (.aload_n 0, 1) := by decide +kernel
theorem dX12_sheet_45 : decode cX12_sheet 45 = .ok (.getfield 40, 3) := by decide +kernel
theorem dX12_sheet_48 : decode cX12_sheet 48 = .ok (.iload_n 1, 1) := by decide +kernel
theorem dX12_sheet_49 : decode cX12_sheet 49 = .ok (.iload_n 2, 1) := by decide +kernel
theorem dX12_sheet_50 : decode cX12_sheet 50 = .ok (.iconst 1, 1) := by decide +kernel
theorem dX12_sheet_51 : decode cX12_sheet 51 = .ok (.iadd, 1) := by decide +kernel
theorem dX12_sheet_52 : decode cX12_sheet 52 = .ok (.iastore, 1) := by decide +kernel
theorem dX12_sheet_53 : decode cX12_sheet 53 = .ok (.aload_n 0, 1) := by decide +kernel
theorem dX12_sheet_54 : decode cX12_sheet 54 = .ok (.getfield 43, 3) := by decide +kernel
theorem dX12_sheet_57 : decode cX12_sheet 57 = .ok (.iload_n 1, 1) := by decide +kernel
theorem dX12_sheet_58 : decode cX12_sheet 58 = .ok (.iload_n 2, 1) := by decide +kernel
theorem dX12_sheet_59 : decode cX12_sheet 59 = .ok (.ifCond .ge 7, 3) := by decide +kernel
theorem dX12_sheet_62 : decode cX12_sheet 62 = .ok (.iconst 0, 1) := by decide +kernel
theorem dX12_sheet_63 : decode cX12_sheet 63 = .ok (.goto 4, 3) := by decide +kernel
theorem dX12_sheet_66 : decode cX12_sheet 66 = .ok (.iload_n 3, 1) := by decide +kernel
theorem dX12_sheet_67 : decode cX12_sheet 67 = .ok (.iastore, 1) := by decide +kernel
theorem dX12_sheet_68 : decode cX12_sheet 68 = .ok (.iconst 0, 1) := by decide +kernel
theorem dX12_sheet_69 : decode cX12_sheet 69 = .ok (.istore 4, 2) := by decide +kernel
theorem dX12_sheet_71 : decode cX12_sheet 71 = .ok (.iload 4, 2) := by decide +kernel
theorem dX12_sheet_73 : decode cX12_sheet 73 = .ok (.bipush 40, 2) := by decide +kernel
theorem dX12_sheet_75 : decode cX12_sheet 75 = .ok (.if_icmp .ge 22, 3) := by decide +kernel
theorem dX12_sheet_78 : decode cX12_sheet 78 = .ok (.aload_n 0, 1) := by decide +kernel
theorem dX12_sheet_79 : decode cX12_sheet 79 = .ok (.getfield 46, 3) := by decide +kernel
theorem dX12_sheet_82 : decode cX12_sheet 82 = .ok (.bipush 40, 2) := by decide +kernel
theorem dX12_sheet_84 : decode cX12_sheet 84 = .ok (.iload_n 1, 1) := by decide +kernel
theorem dX12_sheet_85 : decode cX12_sheet 85 = .ok (.imul, 1) := by decide +kernel
theorem dX12_sheet_86 : decode cX12_sheet 86 = .ok (.iload 4, 2) := by decide +kernel
theorem dX12_sheet_88 : decode cX12_sheet 88 = .ok (.iadd, 1) := by decide +kernel
theorem dX12_sheet_89 : decode cX12_sheet 89 = .ok (.iconst 0, 1) := by decide +kernel
theorem dX12_sheet_90 : decode cX12_sheet 90 = .ok (.iastore, 1) := by decide +kernel
theorem dX12_sheet_91 : decode cX12_sheet 91 = .ok (.iinc 4 1, 3) := by decide +kernel
theorem dX12_sheet_94 : decode cX12_sheet 94 = .ok (.goto (-23), 3) := by decide +kernel
theorem dX12_sheet_97 : decode cX12_sheet 97 = .ok (.iconst 1, 1) := by decide +kernel
theorem dX12_sheet_98 : decode cX12_sheet 98 = .ok (.ireturn, 1) := by decide +kernel
theorem dX12_write_0 : decode cX12_write 0 = .ok (.iload_n 1, 1) := by decide +kernel
theorem dX12_write_1 : decode cX12_write 1 = .ok (.invokestatic 387, 3) := by decide +kernel
theorem dX12_write_4 : decode cX12_write 4 = .ok (.ifCond .ne 5, 3) := by decide +kernel
theorem dX12_write_7 : decode cX12_write 7 = .ok (.iconst (-1), 1) := by decide +kernel
theorem dX12_write_8 : decode cX12_write 8 = .ok (.ireturn, 1) := by decide +kernel
theorem dX12_write_9 : decode cX12_write 9 = .ok (.aload_n 0, 1) := by decide +kernel
theorem dX12_write_10 : decode cX12_write 10 = .ok (.getfield 40, 3) := by decide +kernel
theorem dX12_write_13 : decode cX12_write 13 = .ok (.iload_n 1, 1) := by decide +kernel
theorem dX12_write_14 : decode cX12_write 14 = .ok (.iaload, 1) := by decide +kernel
theorem dX12_write_15 : decode cX12_write 15 = .ok (.ifCond .ne 6, 3) := by decide +kernel
theorem dX12_write_18 : decode cX12_write 18 = .ok (.bipush (-11), 2) := by decide +kernel
theorem dX12_write_20 : decode cX12_write 20 = .ok (.ireturn, 1) := by decide +kernel
theorem dX12_write_21 : decode cX12_write 21 = .ok (.iload_n 2, 1) := by decide +kernel
theorem dX12_write_22 : decode cX12_write 22 = .ok (.i2l, 1) := by decide +kernel
theorem dX12_write_23 : decode cX12_write 23 = .ok (.lconst 0, 1) := by decide +kernel
theorem dX12_write_24 : decode cX12_write 24 = .ok (.aload_n 0, 1) := by decide +kernel
theorem dX12_write_25 : decode cX12_write 25 = .ok (.getfield 43, 3) := by decide +kernel
theorem dX12_write_28 : decode cX12_write 28 = .ok (.iload_n 1, 1) := by decide +kernel
theorem dX12_write_29 : decode cX12_write 29 = .ok (.iaload, 1) := by decide +kernel
theorem dX12_write_30 : decode cX12_write 30 = .ok (.iconst 1, 1) := by decide +kernel
theorem dX12_write_31 : decode cX12_write 31 = .ok (.isub, 1) := by decide +kernel
theorem dX12_write_32 : decode cX12_write 32 = .ok (.i2l, 1) := by decide +kernel
theorem dX12_write_33 : decode cX12_write 33 = .ok (.invokestatic 61, 3) := by decide +kernel
theorem dX12_write_36 : decode cX12_write 36 = .ok (.ifCond .ne 6, 3) := by decide +kernel
theorem dX12_write_39 : decode cX12_write 39 = .ok (.bipush (-12), 2) := by decide +kernel
theorem dX12_write_41 : decode cX12_write 41 = .ok (.ireturn, 1) := by decide +kernel
theorem dX12_write_42 : decode cX12_write 42 = .ok (.aload_n 0, 1) := by decide +kernel
theorem dX12_write_43 : decode cX12_write 43 = .ok (.getfield 40, 3) := by decide +kernel
theorem dX12_write_46 : decode cX12_write 46 = .ok (.iload_n 1, 1) := by decide +kernel
theorem dX12_write_47 : decode cX12_write 47 = .ok (.iaload, 1) := by decide +kernel
theorem dX12_write_48 : decode cX12_write 48 = .ok (.istore 4, 2) := by decide +kernel
theorem dX12_write_50 : decode cX12_write 50 = .ok (.aload_n 0, 1) := by decide +kernel
theorem dX12_write_51 : decode cX12_write 51 = .ok (.getfield 46, 3) := by decide +kernel
theorem dX12_write_54 : decode cX12_write 54 = .ok (.bipush 40, 2) := by decide +kernel
theorem dX12_write_56 : decode cX12_write 56 = .ok (.iload_n 1, 1) := by decide +kernel
theorem dX12_write_57 : decode cX12_write 57 = .ok (.imul, 1) := by decide +kernel
theorem dX12_write_58 : decode cX12_write 58 = .ok (.iload_n 2, 1) := by decide +kernel
theorem dX12_write_59 : decode cX12_write 59 = .ok (.iadd, 1) := by decide +kernel
theorem dX12_write_60 : decode cX12_write 60 = .ok (.iload 4, 2) := by decide +kernel
theorem dX12_write_62 : decode cX12_write 62 = .ok (.iconst 1, 1) := by decide +kernel
theorem dX12_write_63 : decode cX12_write 63 = .ok (.if_icmp .ne 8, 3) := by decide +kernel
theorem dX12_write_66 : decode cX12_write 66 = .ok (.iload_n 3, 1) := by decide +kernel
theorem dX12_write_67 : decode cX12_write 67 = .ok (.i2b, 1) := by decide +kernel
theorem dX12_write_68 : decode cX12_write 68 = .ok (.goto 33, 3) := by decide +kernel
theorem dX12_write_71 : decode cX12_write 71 = .ok (.iload 4, 2) := by decide +kernel
theorem dX12_write_73 : decode cX12_write 73 = .ok (.iconst 2, 1) := by decide +kernel
theorem dX12_write_74 : decode cX12_write 74 = .ok (.if_icmp .ne 8, 3) := by decide +kernel
theorem dX12_write_77 : decode cX12_write 77 = .ok (.iload_n 3, 1) := by decide +kernel
theorem dX12_write_78 : decode cX12_write 78 = .ok (.i2s, 1) := by decide +kernel
theorem dX12_write_79 : decode cX12_write 79 = .ok (.goto 22, 3) := by decide +kernel
theorem dX12_write_82 : decode cX12_write 82 = .ok (.iload 4, 2) := by decide +kernel
theorem dX12_write_84 : decode cX12_write 84 = .ok (.iconst 5, 1) := by decide +kernel
theorem dX12_write_85 : decode cX12_write 85 = .ok (.if_icmp .ne 15, 3) := by decide +kernel
theorem dX12_write_88 : decode cX12_write 88 = .ok (.iload_n 3, 1) := by decide +kernel
theorem dX12_write_89 : decode cX12_write 89 = .ok (.ifCond .ne 7, 3) := by decide +kernel
theorem dX12_write_92 : decode cX12_write 92 = .ok (.iconst 0, 1) := by decide +kernel
theorem dX12_write_93 : decode cX12_write 93 = .ok (.goto 8, 3) := by decide +kernel
theorem dX12_write_96 : decode cX12_write 96 = .ok (.iconst 1, 1) := by decide +kernel
theorem dX12_write_97 : decode cX12_write 97 = .ok (.goto 4, 3) := by decide +kernel
theorem dX12_write_100 : decode cX12_write 100 = .ok (.iload_n 3, 1) := by decide +kernel
theorem dX12_write_101 : decode cX12_write 101 = .ok (.iastore, 1) := by decide +kernel
theorem dX12_write_102 : decode cX12_write 102 = .ok (.iconst 1, 1) := by decide +kernel
theorem dX12_write_103 : decode cX12_write 103 = .ok (.ireturn, 1) := by decide +kernel
theorem dX12_item_0 : decode cX12_item 0 = .ok (.iload_n 1, 1) := by decide +kernel
theorem dX12_item_1 : decode cX12_item 1 = .ok (.invokestatic 387, 3) := by decide +kernel
theorem dX12_item_4 : decode cX12_item 4 = .ok (.ifCond .eq 15, 3) := by decide +kernel
theorem dX12_item_7 : decode cX12_item 7 = .ok (.iload_n 2, 1) := by decide +kernel
theorem dX12_item_8 : decode cX12_item 8 = .ok (.i2l, 1) := by decide +kernel
theorem dX12_item_9 : decode cX12_item 9 = .ok (.lconst 0, 1) := by decide +kernel
theorem dX12_item_10 : decode cX12_item 10 = .ok (.ldc2_w 316, 3) := by decide +kernel
theorem dX12_item_13 : decode cX12_item 13 = .ok (.invokestatic 61, 3) := by decide +kernel
theorem dX12_item_16 : decode cX12_item 16 = .ok (.ifCond .ne 5, 3) := by decide +kernel
theorem dX12_item_19 : decode cX12_item 19 = .ok (.iconst (-1), 1) := by decide +kernel
theorem dX12_item_20 : decode cX12_item 20 = .ok (.ireturn, 1) := by decide +kernel
theorem dX12_item_21 : decode cX12_item 21 = .ok (.aload_n 0, 1) := by decide +kernel
theorem dX12_item_22 : decode cX12_item 22 = .ok (.getfield 40, 3) := by decide +kernel
theorem dX12_item_25 : decode cX12_item 25 = .ok (.iload_n 1, 1) := by decide +kernel
theorem dX12_item_26 : decode cX12_item 26 = .ok (.iaload, 1) := by decide +kernel
theorem dX12_item_27 : decode cX12_item 27 = .ok (.ifCond .ne 6, 3) := by decide +kernel
theorem dX12_item_30 : decode cX12_item 30 = .ok (.bipush (-11), 2) := by decide +kernel
theorem dX12_item_32 : decode cX12_item 32 = .ok (.ireturn, 1) := by decide +kernel
theorem dX12_item_33 : decode cX12_item 33 = .ok (.aload_n 0, 1) := by decide +kernel
theorem dX12_item_34 : decode cX12_item 34 = .ok (.getfield 40, 3) := by decide +kernel
theorem dX12_item_37 : decode cX12_item 37 = .ok (.iload_n 1, 1) := by decide +kernel
theorem dX12_item_38 : decode cX12_item 38 = .ok (.iaload, 1) := by decide +kernel
theorem dX12_item_39 : decode cX12_item 39 = .ok (.iload_n 2, 1) := by decide +kernel
theorem dX12_item_40 : decode cX12_item 40 = .ok (.iconst 1, 1) := by decide +kernel
theorem dX12_item_41 : decode cX12_item 41 = .ok (.iadd, 1) := by decide +kernel
theorem dX12_item_42 : decode cX12_item 42 = .ok (.if_icmp .eq 6, 3) := by decide +kernel
theorem dX12_item_45 : decode cX12_item 45 = .ok (.bipush (-13), 2) := by decide +kernel
theorem dX12_item_47 : decode cX12_item 47 = .ok (.ireturn, 1) := by decide +kernel
theorem dX12_item_48 : decode cX12_item 48 = .ok (.iload_n 3, 1) := by decide +kernel
theorem dX12_item_49 : decode cX12_item 49 = .ok (.i2l, 1) := by decide +kernel
theorem dX12_item_50 : decode cX12_item 50 = .ok (.lconst 0, 1) := by decide +kernel
theorem dX12_item_51 : decode cX12_item 51 = .ok (.aload_n 0, 1) := by decide +kernel
theorem dX12_item_52 : decode cX12_item 52 = .ok (.getfield 43, 3) := by decide +kernel
theorem dX12_item_55 : decode cX12_item 55 = .ok (.iload_n 1, 1) := by decide +kernel
theorem dX12_item_56 : decode cX12_item 56 = .ok (.iaload, 1) := by decide +kernel
theorem dX12_item_57 : decode cX12_item 57 = .ok (.iconst 1, 1) := by decide +kernel
theorem dX12_item_58 : decode cX12_item 58 = .ok (.isub, 1) := by decide +kernel
theorem dX12_item_59 : decode cX12_item 59 = .ok (.i2l, 1) := by decide +kernel
theorem dX12_item_60 : decode cX12_item 60 = .ok (.invokestatic 61, 3) := by decide +kernel
theorem dX12_item_63 : decode cX12_item 63 = .ok (.ifCond .eq 17, 3) := by decide +kernel
theorem dX12_item_66 : decode cX12_item 66 = .ok (.aload_n 0, 1) := by decide +kernel
theorem dX12_item_67 : decode cX12_item 67 = .ok (.getfield 46, 3) := by decide +kernel
theorem dX12_item_70 : decode cX12_item 70 = .ok (.bipush 40, 2) := by decide +kernel
theorem dX12_item_72 : decode cX12_item 72 = .ok (.iload_n 1, 1) := by decide +kernel
theorem dX12_item_73 : decode cX12_item 73 = .ok (.imul, 1) := by decide +kernel
theorem dX12_item_74 : decode cX12_item 74 = .ok (.iload_n 3, 1) := by decide +kernel
theorem dX12_item_75 : decode cX12_item 75 = .ok (.iadd, 1) := by decide +kernel
theorem dX12_item_76 : decode cX12_item 76 = .ok (.iaload, 1) := by decide +kernel
theorem dX12_item_77 : decode cX12_item 77 = .ok (.goto 5, 3) := by decide +kernel
theorem dX12_item_80 : decode cX12_item 80 = .ok (.bipush (-12), 2) := by decide +kernel
theorem dX12_item_82 : decode cX12_item 82 = .ok (.ireturn, 1) := by decide +kernel
theorem dX12_whyNoBytes_0 : decode cX12_whyNoBytes 0 = .ok (.iload_n 1, 1) := by decide +kernel
theorem dX12_whyNoBytes_1 : decode cX12_whyNoBytes 1 = .ok (.invokestatic 387, 3) := by decide +kernel
theorem dX12_whyNoBytes_4 : decode cX12_whyNoBytes 4 = .ok (.ifCond .eq 15, 3) := by decide +kernel
theorem dX12_whyNoBytes_7 : decode cX12_whyNoBytes 7 = .ok (.iload_n 2, 1) := by decide +kernel
theorem dX12_whyNoBytes_8 : decode cX12_whyNoBytes 8 = .ok (.i2l, 1) := by decide +kernel
theorem dX12_whyNoBytes_9 : decode cX12_whyNoBytes 9 = .ok (.lconst 0, 1) := by decide +kernel
theorem dX12_whyNoBytes_10 : decode cX12_whyNoBytes 10 = .ok (.ldc2_w 390, 3) := by decide +kernel
theorem dX12_whyNoBytes_13 : decode cX12_whyNoBytes 13 = .ok (.invokestatic 61, 3) := by decide +kernel
theorem dX12_whyNoBytes_16 : decode cX12_whyNoBytes 16 = .ok (.ifCond .ne 5, 3) := by decide +kernel
theorem dX12_whyNoBytes_19 : decode cX12_whyNoBytes 19 = .ok (.iconst (-1), 1) := by decide +kernel
theorem dX12_whyNoBytes_20 : decode cX12_whyNoBytes 20 = .ok (.ireturn, 1) := by decide +kernel
theorem dX12_whyNoBytes_21 : decode cX12_whyNoBytes 21 = .ok (.aload_n 0, 1) := by decide +kernel
theorem dX12_whyNoBytes_22 : decode cX12_whyNoBytes 22 = .ok (.getfield 40, 3) := by decide +kernel
theorem dX12_whyNoBytes_25 : decode cX12_whyNoBytes 25 = .ok (.iload_n 1, 1) := by decide +kernel
theorem dX12_whyNoBytes_26 : decode cX12_whyNoBytes 26 = .ok (.iaload, 1) := by decide +kernel
theorem dX12_whyNoBytes_27 : decode cX12_whyNoBytes 27 = .ok (.ifCond .ne 8, 3) := by decide +kernel
theorem dX12_whyNoBytes_30 : decode cX12_whyNoBytes 30 = .ok (.bipush (-11), 2) := by decide +kernel
theorem dX12_whyNoBytes_32 : decode cX12_whyNoBytes 32 = .ok (.goto 19, 3) := by decide +kernel
theorem dX12_whyNoBytes_35 : decode cX12_whyNoBytes 35 = .ok (.aload_n 0, 1) := by decide +kernel
theorem dX12_whyNoBytes_36 : decode cX12_whyNoBytes 36 = .ok (.getfield 40, 3) := by decide +kernel
theorem dX12_whyNoBytes_39 : decode cX12_whyNoBytes 39 = .ok (.iload_n 1, 1) := by decide +kernel
theorem dX12_whyNoBytes_40 : decode cX12_whyNoBytes 40 = .ok (.iaload, 1) := by decide +kernel
theorem dX12_whyNoBytes_41 : decode cX12_whyNoBytes 41 = .ok (.iconst 1, 1) := by decide +kernel
theorem dX12_whyNoBytes_42 : decode cX12_whyNoBytes 42 = .ok (.if_icmp .eq 8, 3) := by decide +kernel
theorem dX12_whyNoBytes_45 : decode cX12_whyNoBytes 45 = .ok (.bipush (-13), 2) := by decide +kernel
theorem dX12_whyNoBytes_47 : decode cX12_whyNoBytes 47 = .ok (.goto 4, 3) := by decide +kernel
theorem dX12_whyNoBytes_50 : decode cX12_whyNoBytes 50 = .ok (.iconst 0, 1) := by decide +kernel
theorem dX12_whyNoBytes_51 : decode cX12_whyNoBytes 51 = .ok (.ireturn, 1) := by decide +kernel
theorem dX12_goAll_0 : decode cX12_goAll 0 = .ok (.aload_n 0, 1) := by decide +kernel
theorem dX12_goAll_1 : decode cX12_goAll 1 = .ok (.iload_n 1, 1) := by decide +kernel
theorem dX12_goAll_2 : decode cX12_goAll 2 = .ok (.iload_n 3, 1) := by decide +kernel
theorem dX12_goAll_3 : decode cX12_goAll 3 = .ok (.invokevirtual 392, 3) := by decide +kernel
theorem dX12_goAll_6 : decode cX12_goAll 6 = .ok (.istore 4, 2) := by decide +kernel
theorem dX12_goAll_8 : decode cX12_goAll 8 = .ok (.iload 4, 2) := by decide +kernel
theorem dX12_goAll_10 : decode cX12_goAll 10 = .ok (.ifCond .ge 6, 3) := by decide +kernel
theorem dX12_goAll_13 : decode cX12_goAll 13 = .ok (.iload 4, 2) := by decide +kernel
theorem dX12_goAll_15 : decode cX12_goAll 15 = .ok (.ireturn, 1) := by decide +kernel
theorem dX12_goAll_16 : decode cX12_goAll 16 = .ok (.iconst 0, 1) := by decide +kernel
theorem dX12_goAll_17 : decode cX12_goAll 17 = .ok (.istore 5, 2) := by decide +kernel
theorem dX12_goAll_19 : decode cX12_goAll 19 = .ok (.iconst 0, 1) := by decide +kernel
theorem dX12_goAll_20 : decode cX12_goAll 20 = .ok (.istore 6, 2) := by decide +kernel
theorem dX12_goAll_22 : decode cX12_goAll 22 = .ok (.iload 6, 2) := by decide +kernel
theorem dX12_goAll_24 : decode cX12_goAll 24 = .ok (.iload_n 3, 1) := by decide +kernel
theorem dX12_goAll_25 : decode cX12_goAll 25 = .ok (.if_icmp .ge 89, 3) := by decide +kernel
theorem dX12_goAll_28 : decode cX12_goAll 28 = .ok (.iload_n 2, 1) := by decide +kernel
theorem dX12_goAll_29 : decode cX12_goAll 29 = .ok (.i2l, 1) := by decide +kernel
theorem dX12_goAll_30 : decode cX12_goAll 30 = .ok (.iload 6, 2) := by decide +kernel
theorem dX12_goAll_32 : decode cX12_goAll 32 = .ok (.i2l, 1) := by decide +kernel
theorem dX12_goAll_33 : decode cX12_goAll 33 = .ok (.ladd, 1) := by decide +kernel
theorem dX12_goAll_34 : decode cX12_goAll 34 = .ok (.lconst 0, 1) := by decide +kernel
theorem dX12_goAll_35 : decode cX12_goAll 35 = .ok (.aload_n 0, 1) := by decide +kernel
theorem dX12_goAll_36 : decode cX12_goAll 36 = .ok (.getfield 43, 3) := by decide +kernel
theorem dX12_goAll_39 : decode cX12_goAll 39 = .ok (.iload_n 1, 1) := by decide +kernel
theorem dX12_goAll_40 : decode cX12_goAll 40 = .ok (.iaload, 1) := by decide +kernel
theorem dX12_goAll_41 : decode cX12_goAll 41 = .ok (.iconst 1, 1) := by decide +kernel
theorem dX12_goAll_42 : decode cX12_goAll 42 = .ok (.isub, 1) := by decide +kernel
theorem dX12_goAll_43 : decode cX12_goAll 43 = .ok (.i2l, 1) := by decide +kernel
theorem dX12_goAll_44 : decode cX12_goAll 44 = .ok (.invokestatic 61, 3) := by decide +kernel
theorem dX12_goAll_47 : decode cX12_goAll 47 = .ok (.ifCond .ne 6, 3) := by decide +kernel
theorem dX12_goAll_50 : decode cX12_goAll 50 = .ok (.bipush (-12), 2) := by decide +kernel
theorem dX12_goAll_52 : decode cX12_goAll 52 = .ok (.ireturn, 1) := by decide +kernel
theorem dX12_goAll_53 : decode cX12_goAll 53 = .ok (.aload_n 0, 1) := by decide +kernel
theorem dX12_goAll_54 : decode cX12_goAll 54 = .ok (.getfield 46, 3) := by decide +kernel
theorem dX12_goAll_57 : decode cX12_goAll 57 = .ok (.bipush 40, 2) := by decide +kernel
theorem dX12_goAll_59 : decode cX12_goAll 59 = .ok (.iload_n 1, 1) := by decide +kernel
theorem dX12_goAll_60 : decode cX12_goAll 60 = .ok (.imul, 1) := by decide +kernel
theorem dX12_goAll_61 : decode cX12_goAll 61 = .ok (.iload_n 2, 1) := by decide +kernel
theorem dX12_goAll_62 : decode cX12_goAll 62 = .ok (.iadd, 1) := by decide +kernel
theorem dX12_goAll_63 : decode cX12_goAll 63 = .ok (.iload 6, 2) := by decide +kernel
theorem dX12_goAll_65 : decode cX12_goAll 65 = .ok (.iadd, 1) := by decide +kernel
theorem dX12_goAll_66 : decode cX12_goAll 66 = .ok (.iaload, 1) := by decide +kernel
theorem dX12_goAll_67 : decode cX12_goAll 67 = .ok (.istore 7, 2) := by decide +kernel
theorem dX12_goAll_69 : decode cX12_goAll 69 = .ok (.iload 5, 2) := by decide +kernel
theorem dX12_goAll_71 : decode cX12_goAll 71 = .ok (.iload 7, 2) := by decide +kernel
theorem dX12_goAll_73 : decode cX12_goAll 73 = .ok (.i2l, 1) := by decide +kernel
theorem dX12_goAll_74 : decode cX12_goAll 74 = .ok (.lconst 0, 1) := by decide +kernel
theorem dX12_goAll_75 : decode cX12_goAll 75 = .ok (.aload_n 0, 1) := by decide +kernel
theorem dX12_goAll_76 : decode cX12_goAll 76 = .ok (.getfield 7, 3) := by decide +kernel
theorem dX12_goAll_79 : decode cX12_goAll 79 = .ok (.iconst 0, 1) := by decide +kernel
theorem dX12_goAll_80 : decode cX12_goAll 80 = .ok (.iaload, 1) := by decide +kernel
theorem dX12_goAll_81 : decode cX12_goAll 81 = .ok (.i2l, 1) := by decide +kernel
theorem dX12_goAll_82 : decode cX12_goAll 82 = .ok (.invokestatic 61, 3) := by decide +kernel
theorem dX12_goAll_85 : decode cX12_goAll 85 = .ok (.ifCond .eq 19, 3) := by decide +kernel
theorem dX12_goAll_88 : decode cX12_goAll 88 = .ok (.aload_n 0, 1) := by decide +kernel
theorem dX12_goAll_89 : decode cX12_goAll 89 = .ok (.invokevirtual 137, 3) := by decide +kernel
theorem dX12_goAll_92 : decode cX12_goAll 92 = .ok (.ifCond .ne 12, 3) := by decide +kernel
theorem dX12_goAll_95 : decode cX12_goAll 95 = .ok (.aload_n 0, 1) := by decide +kernel
theorem dX12_goAll_96 : decode cX12_goAll 96 = .ok (.iload 7, 2) := by decide +kernel
theorem dX12_goAll_98 : decode cX12_goAll 98 = .ok (.invokevirtual 144, 3) := by decide +kernel
theorem dX12_goAll_101 : decode cX12_goAll 101 = .ok (.goto 4, 3) := by decide +kernel
theorem dX12_goAll_104 : decode cX12_goAll 104 = .ok (.iconst 0, 1) := by decide +kernel
theorem dX12_goAll_105 : decode cX12_goAll 105 = .ok (.iadd, 1) := by decide +kernel
theorem dX12_goAll_106 : decode cX12_goAll 106 = .ok (.istore 5, 2) := by decide +kernel
theorem dX12_goAll_108 : decode cX12_goAll 108 = .ok (.iinc 6 1, 3) := by decide +kernel
theorem dX12_goAll_111 : decode cX12_goAll 111 = .ok (.goto (-89), 3) := by decide +kernel
theorem dX12_goAll_114 : decode cX12_goAll 114 = .ok (.iload 5, 2) := by decide +kernel
theorem dX12_goAll_116 : decode cX12_goAll 116 = .ok (.ireturn, 1) := by decide +kernel
theorem dX12_wouldBe_0 : decode cX12_wouldBe 0 = .ok (.aload_n 0, 1) := by decide +kernel
theorem dX12_wouldBe_1 : decode cX12_wouldBe 1 = .ok (.iload_n 1, 1) := by decide +kernel
theorem dX12_wouldBe_2 : decode cX12_wouldBe 2 = .ok (.iload_n 3, 1) := by decide +kernel
theorem dX12_wouldBe_3 : decode cX12_wouldBe 3 = .ok (.invokevirtual 392, 3) := by decide +kernel
theorem dX12_wouldBe_6 : decode cX12_wouldBe 6 = .ok (.istore 4, 2) := by decide +kernel
theorem dX12_wouldBe_8 : decode cX12_wouldBe 8 = .ok (.iload 4, 2) := by decide +kernel
theorem dX12_wouldBe_10 : decode cX12_wouldBe 10 = .ok (.ifCond .ge 6, 3) := by decide +kernel
theorem dX12_wouldBe_13 : decode cX12_wouldBe 13 = .ok (.iload 4, 2) := by decide +kernel
theorem dX12_wouldBe_15 : decode cX12_wouldBe 15 = .ok (.ireturn, 1) := by decide +kernel
theorem dX12_wouldBe_16 : decode cX12_wouldBe 16 = .ok (.iconst 0, 1) := by decide +kernel
theorem dX12_wouldBe_17 : decode cX12_wouldBe 17 = .ok (.istore 5, 2) := by decide +kernel
theorem dX12_wouldBe_19 : decode cX12_wouldBe 19 = .ok (.aload_n 0, 1) := by decide +kernel
theorem dX12_wouldBe_20 : decode cX12_wouldBe 20 = .ok (.invokevirtual 297, 3) := by decide +kernel
theorem dX12_wouldBe_23 : decode cX12_wouldBe 23 = .ok (.iconst 0, 1) := by decide +kernel
theorem dX12_wouldBe_24 : decode cX12_wouldBe 24 = .ok (.istore 6, 2) := by decide +kernel
theorem dX12_wouldBe_26 : decode cX12_wouldBe 26 = .ok (.iload 6, 2) := by decide +kernel
theorem dX12_wouldBe_28 : decode cX12_wouldBe 28 = .ok (.iload_n 3, 1) := by decide +kernel
theorem dX12_wouldBe_29 : decode cX12_wouldBe 29 = .ok (.if_icmp .ge 109, 3) := by decide +kernel
theorem dX12_wouldBe_32 : decode cX12_wouldBe 32 = .ok (.iload 5, 2) := by decide +kernel
theorem dX12_wouldBe_34 : decode cX12_wouldBe 34 = .ok (.ifCond .lt 104, 3) := by decide +kernel
theorem dX12_wouldBe_37 : decode cX12_wouldBe 37 = .ok (.iload_n 2, 1) := by decide +kernel
theorem dX12_wouldBe_38 : decode cX12_wouldBe 38 = .ok (.i2l, 1) := by decide +kernel
theorem dX12_wouldBe_39 : decode cX12_wouldBe 39 = .ok (.iload 6, 2) := by decide +kernel
theorem dX12_wouldBe_41 : decode cX12_wouldBe 41 = .ok (.i2l, 1) := by decide +kernel
theorem dX12_wouldBe_42 : decode cX12_wouldBe 42 = .ok (.ladd, 1) := by decide +kernel
theorem dX12_wouldBe_43 : decode cX12_wouldBe 43 = .ok (.lconst 0, 1) := by decide +kernel
theorem dX12_wouldBe_44 : decode cX12_wouldBe 44 = .ok (.aload_n 0, 1) := by decide +kernel
theorem dX12_wouldBe_45 : decode cX12_wouldBe 45 = .ok (.getfield 43, 3) := by decide +kernel
theorem dX12_wouldBe_48 : decode cX12_wouldBe 48 = .ok (.iload_n 1, 1) := by decide +kernel
theorem dX12_wouldBe_49 : decode cX12_wouldBe 49 = .ok (.iaload, 1) := by decide +kernel
theorem dX12_wouldBe_50 : decode cX12_wouldBe 50 = .ok (.iconst 1, 1) := by decide +kernel
theorem dX12_wouldBe_51 : decode cX12_wouldBe 51 = .ok (.isub, 1) := by decide +kernel
theorem dX12_wouldBe_52 : decode cX12_wouldBe 52 = .ok (.i2l, 1) := by decide +kernel
theorem dX12_wouldBe_53 : decode cX12_wouldBe 53 = .ok (.invokestatic 61, 3) := by decide +kernel
theorem dX12_wouldBe_56 : decode cX12_wouldBe 56 = .ok (.ifCond .ne 10, 3) := by decide +kernel
theorem dX12_wouldBe_59 : decode cX12_wouldBe 59 = .ok (.bipush (-12), 2) := by decide +kernel
theorem dX12_wouldBe_61 : decode cX12_wouldBe 61 = .ok (.istore 5, 2) := by decide +kernel
theorem dX12_wouldBe_63 : decode cX12_wouldBe 63 = .ok (.goto 69, 3) := by decide +kernel
theorem dX12_wouldBe_66 : decode cX12_wouldBe 66 = .ok (.aload_n 0, 1) := by decide +kernel
theorem dX12_wouldBe_67 : decode cX12_wouldBe 67 = .ok (.getfield 46, 3) := by decide +kernel
theorem dX12_wouldBe_70 : decode cX12_wouldBe 70 = .ok (.bipush 40, 2) := by decide +kernel
theorem dX12_wouldBe_72 : decode cX12_wouldBe 72 = .ok (.iload_n 1, 1) := by decide +kernel
theorem dX12_wouldBe_73 : decode cX12_wouldBe 73 = .ok (.imul, 1) := by decide +kernel
theorem dX12_wouldBe_74 : decode cX12_wouldBe 74 = .ok (.iload_n 2, 1) := by decide +kernel
theorem dX12_wouldBe_75 : decode cX12_wouldBe 75 = .ok (.iadd, 1) := by decide +kernel
theorem dX12_wouldBe_76 : decode cX12_wouldBe 76 = .ok (.iload 6, 2) := by decide +kernel
theorem dX12_wouldBe_78 : decode cX12_wouldBe 78 = .ok (.iadd, 1) := by decide +kernel
theorem dX12_wouldBe_79 : decode cX12_wouldBe 79 = .ok (.iaload, 1) := by decide +kernel
theorem dX12_wouldBe_80 : decode cX12_wouldBe 80 = .ok (.i2l, 1) := by decide +kernel
theorem dX12_wouldBe_81 : decode cX12_wouldBe 81 = .ok (.lconst 0, 1) := by decide +kernel
theorem dX12_wouldBe_82 : decode cX12_wouldBe 82 = .ok (.aload_n 0, 1) := by decide +kernel
theorem dX12_wouldBe_83 : decode cX12_wouldBe 83 = .ok (.getfield 7, 3) := by decide +kernel
theorem dX12_wouldBe_86 : decode cX12_wouldBe 86 = .ok (.iconst 0, 1) := by decide +kernel
theorem dX12_wouldBe_87 : decode cX12_wouldBe 87 = .ok (.iaload, 1) := by decide +kernel
theorem dX12_wouldBe_88 : decode cX12_wouldBe 88 = .ok (.i2l, 1) := by decide +kernel
theorem dX12_wouldBe_89 : decode cX12_wouldBe 89 = .ok (.invokestatic 61, 3) := by decide +kernel
theorem dX12_wouldBe_92 : decode cX12_wouldBe 92 = .ok (.ifCond .eq 10, 3) := by decide +kernel
theorem dX12_wouldBe_95 : decode cX12_wouldBe 95 = .ok (.aload_n 0, 1) := by decide +kernel
theorem dX12_wouldBe_96 : decode cX12_wouldBe 96 = .ok (.invokevirtual 137, 3) := by decide +kernel
theorem dX12_wouldBe_99 : decode cX12_wouldBe 99 = .ok (.ifCond .eq 10, 3) := by decide +kernel
theorem dX12_wouldBe_102 : decode cX12_wouldBe 102 = .ok (.bipush (-4), 2) := by decide +kernel
theorem dX12_wouldBe_104 : decode cX12_wouldBe 104 = .ok (.istore 5, 2) := by decide +kernel
theorem dX12_wouldBe_106 : decode cX12_wouldBe 106 = .ok (.goto 26, 3) := by decide +kernel
theorem dX12_wouldBe_109 : decode cX12_wouldBe 109 = .ok (.iload 5, 2) := by decide +kernel
theorem dX12_wouldBe_111 : decode cX12_wouldBe 111 = .ok (.aload_n 0, 1) := by decide +kernel
theorem dX12_wouldBe_112 : decode cX12_wouldBe 112 = .ok (.aload_n 0, 1) := by decide +kernel
theorem dX12_wouldBe_113 : decode cX12_wouldBe 113 = .ok (.getfield 46, 3) := by decide +kernel
theorem dX12_wouldBe_116 : decode cX12_wouldBe 116 = .ok (.bipush 40, 2) := by decide +kernel
theorem dX12_wouldBe_118 : decode cX12_wouldBe 118 = .ok (.iload_n 1, 1) := by decide +kernel
theorem dX12_wouldBe_119 : decode cX12_wouldBe 119 = .ok (.imul, 1) := by decide +kernel
theorem dX12_wouldBe_120 : decode cX12_wouldBe 120 = .ok (.iload_n 2, 1) := by decide +kernel
theorem dX12_wouldBe_121 : decode cX12_wouldBe 121 = .ok (.iadd, 1) := by decide +kernel
theorem dX12_wouldBe_122 : decode cX12_wouldBe 122 = .ok (.iload 6, 2) := by decide +kernel
theorem dX12_wouldBe_124 : decode cX12_wouldBe 124 = .ok (.iadd, 1) := by decide +kernel
theorem dX12_wouldBe_125 : decode cX12_wouldBe 125 = .ok (.iaload, 1) := by decide +kernel
theorem dX12_wouldBe_126 : decode cX12_wouldBe 126 = .ok (.invokevirtual 144, 3) := by decide +kernel
theorem dX12_wouldBe_129 : decode cX12_wouldBe 129 = .ok (.iadd, 1) := by decide +kernel
theorem dX12_wouldBe_130 : decode cX12_wouldBe 130 = .ok (.istore 5, 2) := by decide +kernel
theorem dX12_wouldBe_132 : decode cX12_wouldBe 132 = .ok (.iinc 6 1, 3) := by decide +kernel
theorem dX12_wouldBe_135 : decode cX12_wouldBe 135 = .ok (.goto (-109), 3) := by decide +kernel
theorem dX12_wouldBe_138 : decode cX12_wouldBe 138 = .ok (.aload_n 0, 1) := by decide +kernel
theorem dX12_wouldBe_139 : decode cX12_wouldBe 139 = .ok (.invokevirtual 303, 3) := by decide +kernel
theorem dX12_wouldBe_142 : decode cX12_wouldBe 142 = .ok (.iload 5, 2) := by decide +kernel
theorem dX12_wouldBe_144 : decode cX12_wouldBe 144 = .ok (.ireturn, 1) := by decide +kernel
theorem dX12_shelf_0 : decode cX12_shelf 0 = .ok (.iload_n 2, 1) := by decide +kernel
theorem dX12_shelf_1 : decode cX12_shelf 1 = .ok (.ifCond .ne 11, 3) := by decide +kernel
theorem dX12_shelf_4 : decode cX12_shelf 4 = .ok (.aload_n 0, 1) := by decide +kernel
theorem dX12_shelf_5 : decode cX12_shelf 5 = .ok (.iload_n 3, 1) := by decide +kernel
theorem dX12_shelf_6 : decode cX12_shelf 6 = .ok (.invokevirtual 153, 3) := by decide +kernel
theorem dX12_shelf_9 : decode cX12_shelf 9 = .ok (.goto 25, 3) := by decide +kernel
theorem dX12_shelf_12 : decode cX12_shelf 12 = .ok (.iload_n 2, 1) := by decide +kernel
theorem dX12_shelf_13 : decode cX12_shelf 13 = .ok (.iconst 1, 1) := by decide +kernel
theorem dX12_shelf_14 : decode cX12_shelf 14 = .ok (.if_icmp .ne 10, 3) := by decide +kernel
theorem dX12_shelf_17 : decode cX12_shelf 17 = .ok (.iload_n 3, 1) := by decide +kernel
theorem dX12_shelf_18 : decode cX12_shelf 18 = .ok (.invokestatic 387, 3) := by decide +kernel
theorem dX12_shelf_21 : decode cX12_shelf 21 = .ok (.goto 13, 3) := by decide +kernel
theorem dX12_shelf_24 : decode cX12_shelf 24 = .ok (.iload_n 2, 1) := by decide +kernel
theorem dX12_shelf_25 : decode cX12_shelf 25 = .ok (.iconst 2, 1) := by decide +kernel
theorem dX12_shelf_26 : decode cX12_shelf 26 = .ok (.if_icmp .ne 7, 3) := by decide +kernel
theorem dX12_shelf_29 : decode cX12_shelf 29 = .ok (.iconst 1, 1) := by decide +kernel
theorem dX12_shelf_30 : decode cX12_shelf 30 = .ok (.goto 4, 3) := by decide +kernel
theorem dX12_shelf_33 : decode cX12_shelf 33 = .ok (.iconst 0, 1) := by decide +kernel
theorem dX12_shelf_34 : decode cX12_shelf 34 = .ok (.istore 4, 2) := by decide +kernel
theorem dX12_shelf_36 : decode cX12_shelf 36 = .ok (.iload_n 1, 1) := by decide +kernel
theorem dX12_shelf_37 : decode cX12_shelf 37 = .ok (.i2l, 1) := by decide +kernel
theorem dX12_shelf_38 : decode cX12_shelf 38 = .ok (.lconst 0, 1) := by decide +kernel
theorem dX12_shelf_39 : decode cX12_shelf 39 = .ok (.ldc2_w 343, 3) := by decide +kernel
theorem dX12_shelf_42 : decode cX12_shelf 42 = .ok (.invokestatic 61, 3) := by decide +kernel
theorem dX12_shelf_45 : decode cX12_shelf 45 = .ok (.ifCond .eq 8, 3) := by decide +kernel
theorem dX12_shelf_48 : decode cX12_shelf 48 = .ok (.iload 4, 2) := by decide +kernel
theorem dX12_shelf_50 : decode cX12_shelf 50 = .ok (.ifCond .ne 5, 3) := by decide +kernel
theorem dX12_shelf_53 : decode cX12_shelf 53 = .ok (.iconst (-1), 1) := by decide +kernel
theorem dX12_shelf_54 : decode cX12_shelf 54 = .ok (.ireturn, 1) := by decide +kernel
theorem dX12_shelf_55 : decode cX12_shelf 55 = .ok (.iload_n 2, 1) := by decide +kernel
theorem dX12_shelf_56 : decode cX12_shelf 56 = .ok (.iconst 1, 1) := by decide +kernel
theorem dX12_shelf_57 : decode cX12_shelf 57 = .ok (.if_icmp .ne 16, 3) := by decide +kernel
theorem dX12_shelf_60 : decode cX12_shelf 60 = .ok (.aload_n 0, 1) := by decide +kernel
theorem dX12_shelf_61 : decode cX12_shelf 61 = .ok (.getfield 40, 3) := by decide +kernel
theorem dX12_shelf_64 : decode cX12_shelf 64 = .ok (.iload_n 3, 1) := by decide +kernel
theorem dX12_shelf_65 : decode cX12_shelf 65 = .ok (.iaload, 1) := by decide +kernel
theorem dX12_shelf_66 : decode cX12_shelf 66 = .ok (.ifCond .le 7, 3) := by decide +kernel
theorem dX12_shelf_69 : decode cX12_shelf 69 = .ok (.iconst 1, 1) := by decide +kernel
theorem dX12_shelf_70 : decode cX12_shelf 70 = .ok (.goto 4, 3) := by decide +kernel
theorem dX12_shelf_73 : decode cX12_shelf 73 = .ok (.iconst 0, 1) := by decide +kernel
theorem dX12_shelf_74 : decode cX12_shelf 74 = .ok (.istore 5, 2) := by decide +kernel
theorem dX12_shelf_76 : decode cX12_shelf 76 = .ok (.aload_n 0, 1) := by decide +kernel
theorem dX12_shelf_77 : decode cX12_shelf 77 = .ok (.getfield 49, 3) := by decide +kernel
theorem dX12_shelf_80 : decode cX12_shelf 80 = .ok (.iload_n 1, 1) := by decide +kernel
theorem dX12_shelf_81 : decode cX12_shelf 81 = .ok (.iload_n 2, 1) := by decide +kernel
theorem dX12_shelf_82 : decode cX12_shelf 82 = .ok (.ifCond .ne 7, 3) := by decide +kernel
theorem dX12_shelf_85 : decode cX12_shelf 85 = .ok (.iconst 1, 1) := by decide +kernel
theorem dX12_shelf_86 : decode cX12_shelf 86 = .ok (.goto 13, 3) := by decide +kernel
theorem dX12_shelf_89 : decode cX12_shelf 89 = .ok (.iload 5, 2) := by decide +kernel
theorem dX12_shelf_91 : decode cX12_shelf 91 = .ok (.ifCond .eq 7, 3) := by decide +kernel
theorem dX12_shelf_94 : decode cX12_shelf 94 = .ok (.iconst 2, 1) := by decide +kernel
theorem dX12_shelf_95 : decode cX12_shelf 95 = .ok (.goto 4, 3) := by decide +kernel
theorem dX12_shelf_98 : decode cX12_shelf 98 = .ok (.iconst 0, 1) := by decide +kernel
theorem dX12_shelf_99 : decode cX12_shelf 99 = .ok (.iastore, 1) := by decide +kernel
theorem dX12_shelf_100 : decode cX12_shelf 100 = .ok (.aload_n 0, 1) := by decide +kernel
theorem dX12_shelf_101 : decode cX12_shelf 101 = .ok (.getfield 52, 3) := by decide +kernel
theorem dX12_shelf_104 : decode cX12_shelf 104 = .ok (.iload_n 1, 1) := by decide +kernel
theorem dX12_shelf_105 : decode cX12_shelf 105 = .ok (.iload_n 2, 1) := by decide +kernel
theorem dX12_shelf_106 : decode cX12_shelf 106 = .ok (.ifCond .ne 7, 3) := by decide +kernel
theorem dX12_shelf_109 : decode cX12_shelf 109 = .ok (.iload_n 3, 1) := by decide +kernel
theorem dX12_shelf_110 : decode cX12_shelf 110 = .ok (.goto 20, 3) := by decide +kernel
theorem dX12_shelf_113 : decode cX12_shelf 113 = .ok (.iload 5, 2) := by decide +kernel
theorem dX12_shelf_115 : decode cX12_shelf 115 = .ok (.ifCond .eq 14, 3) := by decide +kernel
theorem dX12_shelf_118 : decode cX12_shelf 118 = .ok (.aload_n 0, 1) := by decide +kernel
theorem dX12_shelf_119 : decode cX12_shelf 119 = .ok (.getfield 40, 3) := by decide +kernel
theorem dX12_shelf_122 : decode cX12_shelf 122 = .ok (.iload_n 3, 1) := by decide +kernel
theorem dX12_shelf_123 : decode cX12_shelf 123 = .ok (.iaload, 1) := by decide +kernel
theorem dX12_shelf_124 : decode cX12_shelf 124 = .ok (.iconst 1, 1) := by decide +kernel
theorem dX12_shelf_125 : decode cX12_shelf 125 = .ok (.isub, 1) := by decide +kernel
theorem dX12_shelf_126 : decode cX12_shelf 126 = .ok (.goto 4, 3) := by decide +kernel
theorem dX12_shelf_129 : decode cX12_shelf 129 = .ok (.iconst 0, 1) := by decide +kernel
theorem dX12_shelf_130 : decode cX12_shelf 130 = .ok (.iastore, 1) := by decide +kernel
theorem dX12_shelf_131 : decode cX12_shelf 131 = .ok (.aload_n 0, 1) := by decide +kernel
theorem dX12_shelf_132 : decode cX12_shelf 132 = .ok (.getfield 55, 3) := by decide +kernel
theorem dX12_shelf_135 : decode cX12_shelf 135 = .ok (.iload_n 1, 1) := by decide +kernel
theorem dX12_shelf_136 : decode cX12_shelf 136 = .ok (.iload 5, 2) := by decide +kernel
theorem dX12_shelf_138 : decode cX12_shelf 138 = .ok (.ifCond .eq 12, 3) := by decide +kernel
theorem dX12_shelf_141 : decode cX12_shelf 141 = .ok (.aload_n 0, 1) := by decide +kernel
theorem dX12_shelf_142 : decode cX12_shelf 142 = .ok (.getfield 43, 3) := by decide +kernel
theorem dX12_shelf_145 : decode cX12_shelf 145 = .ok (.iload_n 3, 1) := by decide +kernel
theorem dX12_shelf_146 : decode cX12_shelf 146 = .ok (.iaload, 1) := by decide +kernel
theorem dX12_shelf_147 : decode cX12_shelf 147 = .ok (.goto 4, 3) := by decide +kernel
theorem dX12_shelf_150 : decode cX12_shelf 150 = .ok (.iconst 0, 1) := by decide +kernel
theorem dX12_shelf_151 : decode cX12_shelf 151 = .ok (.iastore, 1) := by decide +kernel
theorem dX12_shelf_152 : decode cX12_shelf 152 = .ok (.iconst 1, 1) := by decide +kernel
theorem dX12_shelf_153 : decode cX12_shelf 153 = .ok (.ireturn, 1) := by decide +kernel
theorem dX12_holdsNothing_0 : decode cX12_holdsNothing 0 = .ok (.aload_n 0, 1) := by decide +kernel
theorem dX12_holdsNothing_1 : decode cX12_holdsNothing 1 = .ok (.getfield 49, 3) := by decide +kernel
theorem dX12_holdsNothing_4 : decode cX12_holdsNothing 4 = .ok (.iload_n 1, 1) := by decide +kernel
theorem dX12_holdsNothing_5 : decode cX12_holdsNothing 5 = .ok (.iaload, 1) := by decide +kernel
theorem dX12_holdsNothing_6 : decode cX12_holdsNothing 6 = .ok (.ifCond .eq 26, 3) := by decide +kernel
theorem dX12_holdsNothing_9 : decode cX12_holdsNothing 9 = .ok (.aload_n 0, 1) := by decide +kernel
theorem dX12_holdsNothing_10 : decode cX12_holdsNothing 10 = .ok (.getfield 49, 3) := by decide +kernel
theorem dX12_holdsNothing_13 : decode cX12_holdsNothing 13 = .ok (.iload_n 1, 1) := by decide +kernel
theorem dX12_holdsNothing_14 : decode cX12_holdsNothing 14 = .ok (.iaload, 1) := by decide +kernel
theorem dX12_holdsNothing_15 : decode cX12_holdsNothing 15 = .ok (.iconst 1, 1) := by decide +kernel
theorem dX12_holdsNothing_16 : decode cX12_holdsNothing 16 = .ok (.if_icmp .ne 20, 3) := by decide +kernel
theorem dX12_holdsNothing_19 : decode cX12_holdsNothing 19 = .ok (.aload_n 0, 1) := by decide +kernel
theorem dX12_holdsNothing_20 : decode cX12_holdsNothing 20 = .ok (.aload_n 0, 1) := by decide +kernel
theorem dX12_holdsNothing_21 : decode cX12_holdsNothing 21 = .ok (.getfield 52, 3) := by decide +kernel
theorem dX12_holdsNothing_24 : decode cX12_holdsNothing 24 = .ok (.iload_n 1, 1) := by decide +kernel
theorem dX12_holdsNothing_25 : decode cX12_holdsNothing 25 = .ok (.iaload, 1) := by decide +kernel
theorem dX12_holdsNothing_26 : decode cX12_holdsNothing 26 = .ok (.invokevirtual 153, 3) := by decide +kernel
theorem dX12_holdsNothing_29 : decode cX12_holdsNothing 29 = .ok (.ifCond .ne 7, 3) := by decide +kernel
theorem dX12_holdsNothing_32 : decode cX12_holdsNothing 32 = .ok (.iconst 1, 1) := by decide +kernel
theorem dX12_holdsNothing_33 : decode cX12_holdsNothing 33 = .ok (.goto 4, 3) := by decide +kernel
theorem dX12_holdsNothing_36 : decode cX12_holdsNothing 36 = .ok (.iconst 0, 1) := by decide +kernel
theorem dX12_holdsNothing_37 : decode cX12_holdsNothing 37 = .ok (.ireturn, 1) := by decide +kernel
theorem dX12_taken_0 : decode cX12_taken 0 = .ok (.iload_n 1, 1) := by decide +kernel
theorem dX12_taken_1 : decode cX12_taken 1 = .ok (.i2l, 1) := by decide +kernel
theorem dX12_taken_2 : decode cX12_taken 2 = .ok (.lconst 0, 1) := by decide +kernel
theorem dX12_taken_3 : decode cX12_taken 3 = .ok (.ldc2_w 343, 3) := by decide +kernel
theorem dX12_taken_6 : decode cX12_taken 6 = .ok (.invokestatic 61, 3) := by decide +kernel
theorem dX12_taken_9 : decode cX12_taken 9 = .ok (.ifCond .eq 29, 3) := by decide +kernel
theorem dX12_taken_12 : decode cX12_taken 12 = .ok (.iload_n 2, 1) := by decide +kernel
theorem dX12_taken_13 : decode cX12_taken 13 = .ok (.i2l, 1) := by decide +kernel
theorem dX12_taken_14 : decode cX12_taken 14 = .ok (.lconst 0, 1) := by decide +kernel
theorem dX12_taken_15 : decode cX12_taken 15 = .ok (.ldc2_w 147, 3) := by decide +kernel
theorem dX12_taken_18 : decode cX12_taken 18 = .ok (.invokestatic 61, 3) := by decide +kernel
theorem dX12_taken_21 : decode cX12_taken 21 = .ok (.ifCond .ne 19, 3) := by decide +kernel
theorem dX12_taken_24 : decode cX12_taken 24 = .ok (.iload_n 2, 1) := by decide +kernel
theorem dX12_taken_25 : decode cX12_taken 25 = .ok (.i2l, 1) := by decide +kernel
theorem dX12_taken_26 : decode cX12_taken 26 = .ok (.ldc2_w 199, 3) := by decide +kernel
theorem dX12_taken_29 : decode cX12_taken 29 = .ok (.ldc2_w 395, 3) := by decide +kernel
theorem dX12_taken_32 : decode cX12_taken 32 = .ok (.invokestatic 61, 3) := by decide +kernel
theorem dX12_taken_35 : decode cX12_taken 35 = .ok (.ifCond .ne 5, 3) := by decide +kernel
theorem dX12_taken_38 : decode cX12_taken 38 = .ok (.iconst (-1), 1) := by decide +kernel
theorem dX12_taken_39 : decode cX12_taken 39 = .ok (.ireturn, 1) := by decide +kernel
theorem dX12_taken_40 : decode cX12_taken 40 = .ok (.aload_n 0, 1) := by decide +kernel
theorem dX12_taken_41 : decode cX12_taken 41 = .ok (.iload_n 1, 1) := by decide +kernel
theorem dX12_taken_42 : decode cX12_taken 42 = .ok (.invokevirtual 397, 3) := by decide +kernel
theorem dX12_taken_45 : decode cX12_taken 45 = .ok (.ifCond .eq 6, 3) := by decide +kernel
theorem dX12_taken_48 : decode cX12_taken 48 = .ok (.bipush (-11), 2) := by decide +kernel
theorem dX12_taken_50 : decode cX12_taken 50 = .ok (.ireturn, 1) := by decide +kernel
theorem dX12_taken_51 : decode cX12_taken 51 = .ok (.aload_n 0, 1) := by decide +kernel
theorem dX12_taken_52 : decode cX12_taken 52 = .ok (.getfield 49, 3) := by decide +kernel
theorem dX12_taken_55 : decode cX12_taken 55 = .ok (.iload_n 1, 1) := by decide +kernel
theorem dX12_taken_56 : decode cX12_taken 56 = .ok (.iaload, 1) := by decide +kernel
theorem dX12_taken_57 : decode cX12_taken 57 = .ok (.iconst 2, 1) := by decide +kernel
theorem dX12_taken_58 : decode cX12_taken 58 = .ok (.if_icmp .ne 28, 3) := by decide +kernel
theorem dX12_taken_61 : decode cX12_taken 61 = .ok (.aload_n 0, 1) := by decide +kernel
theorem dX12_taken_62 : decode cX12_taken 62 = .ok (.getfield 52, 3) := by decide +kernel
theorem dX12_taken_65 : decode cX12_taken 65 = .ok (.iload_n 1, 1) := by decide +kernel
theorem dX12_taken_66 : decode cX12_taken 66 = .ok (.iaload, 1) := by decide +kernel
theorem dX12_taken_67 : decode cX12_taken 67 = .ok (.iload_n 2, 1) := by decide +kernel
theorem dX12_taken_68 : decode cX12_taken 68 = .ok (.bipush 10, 2) := by decide +kernel
theorem dX12_taken_70 : decode cX12_taken 70 = .ok (.isub, 1) := by decide +kernel
theorem dX12_taken_71 : decode cX12_taken 71 = .ok (.if_icmp .ne 12, 3) := by decide +kernel
theorem dX12_taken_74 : decode cX12_taken 74 = .ok (.aload_n 0, 1) := by decide +kernel
theorem dX12_taken_75 : decode cX12_taken 75 = .ok (.getfield 55, 3) := by decide +kernel
theorem dX12_taken_78 : decode cX12_taken 78 = .ok (.iload_n 1, 1) := by decide +kernel
theorem dX12_taken_79 : decode cX12_taken 79 = .ok (.iaload, 1) := by decide +kernel
theorem dX12_taken_80 : decode cX12_taken 80 = .ok (.goto 5, 3) := by decide +kernel
theorem dX12_taken_83 : decode cX12_taken 83 = .ok (.bipush (-13), 2) := by decide +kernel
theorem dX12_taken_85 : decode cX12_taken 85 = .ok (.ireturn, 1) := by decide +kernel
theorem dX12_taken_86 : decode cX12_taken 86 = .ok (.aload_n 0, 1) := by decide +kernel
theorem dX12_taken_87 : decode cX12_taken 87 = .ok (.aload_n 0, 1) := by decide +kernel
theorem dX12_taken_88 : decode cX12_taken 88 = .ok (.getfield 52, 3) := by decide +kernel
theorem dX12_taken_91 : decode cX12_taken 91 = .ok (.iload_n 1, 1) := by decide +kernel
theorem dX12_taken_92 : decode cX12_taken 92 = .ok (.iaload, 1) := by decide +kernel
theorem dX12_taken_93 : decode cX12_taken 93 = .ok (.iconst 0, 1) := by decide +kernel
theorem dX12_taken_94 : decode cX12_taken 94 = .ok (.invokevirtual 80, 3) := by decide +kernel
theorem dX12_taken_97 : decode cX12_taken 97 = .ok (.istore_n 3, 1) := by decide +kernel
theorem dX12_taken_98 : decode cX12_taken 98 = .ok (.iload_n 2, 1) := by decide +kernel
theorem dX12_taken_99 : decode cX12_taken 99 = .ok (.bipush 10, 2) := by decide +kernel
theorem dX12_taken_101 : decode cX12_taken 101 = .ok (.if_icmp .ge 29, 3) := by decide +kernel
theorem dX12_taken_104 : decode cX12_taken 104 = .ok (.iload_n 2, 1) := by decide +kernel
theorem dX12_taken_105 : decode cX12_taken 105 = .ok (.ifCond .eq 16, 3) := by decide +kernel
theorem dX12_taken_108 : decode cX12_taken 108 = .ok (.iload_n 3, 1) := by decide +kernel
theorem dX12_taken_109 : decode cX12_taken 109 = .ok (.iload_n 2, 1) := by decide +kernel
theorem dX12_taken_110 : decode cX12_taken 110 = .ok (.if_icmp .eq 11, 3) := by decide +kernel
theorem dX12_taken_113 : decode cX12_taken 113 = .ok (.iload_n 3, 1) := by decide +kernel
theorem dX12_taken_114 : decode cX12_taken 114 = .ok (.invokestatic 110, 3) := by decide +kernel
theorem dX12_taken_117 : decode cX12_taken 117 = .ok (.iload_n 2, 1) := by decide +kernel
theorem dX12_taken_118 : decode cX12_taken 118 = .ok (.if_icmp .ne 12, 3) := by decide +kernel
theorem dX12_taken_121 : decode cX12_taken 121 = .ok (.aload_n 0, 1) := by decide +kernel
theorem dX12_taken_122 : decode cX12_taken 122 = .ok (.getfield 52, 3) := by decide +kernel
theorem dX12_taken_125 : decode cX12_taken 125 = .ok (.iload_n 1, 1) := by decide +kernel
theorem dX12_taken_126 : decode cX12_taken 126 = .ok (.iaload, 1) := by decide +kernel
theorem dX12_taken_127 : decode cX12_taken 127 = .ok (.goto 5, 3) := by decide +kernel
theorem dX12_taken_130 : decode cX12_taken 130 = .ok (.bipush (-13), 2) := by decide +kernel
theorem dX12_taken_132 : decode cX12_taken 132 = .ok (.ireturn, 1) := by decide +kernel
theorem dX12_ran_0 : decode cX12_ran 0 = .ok (.aload_n 0, 1) := by decide +kernel
theorem dX12_ran_1 : decode cX12_ran 1 = .ok (.getfield 400, 3) := by decide +kernel
theorem dX12_ran_4 : decode cX12_ran 4 = .ok (.bipush 30, 2) := by decide +kernel
theorem dX12_ran_6 : decode cX12_ran 6 = .ok (.if_icmp .ge 30, 3) := by decide +kernel
theorem dX12_ran_9 : decode cX12_ran 9 = .ok (.aload_n 0, 1) := by decide +kernel
theorem dX12_ran_10 : decode cX12_ran 10 = .ok (.getfield 403, 3) := by decide +kernel
theorem dX12_ran_13 : decode cX12_ran 13 = .ok (.ifCond .ne 23, 3) := by decide +kernel
theorem dX12_ran_16 : decode cX12_ran 16 = .ok (.aload_n 0, 1) := by decide +kernel
theorem dX12_ran_17 : decode cX12_ran 17 = .ok (.getfield 58, 3) := by decide +kernel
theorem dX12_ran_20 : decode cX12_ran 20 = .ok (.aload_n 0, 1) := by decide +kernel
theorem dX12_ran_21 : decode cX12_ran 21 = .ok (.getfield 400, 3) := by decide +kernel
theorem dX12_ran_24 : decode cX12_ran 24 = .ok (.iload_n 1, 1) := by decide +kernel
theorem dX12_ran_25 : decode cX12_ran 25 = .ok (.iastore, 1) := by decide +kernel
theorem dX12_ran_26 : decode cX12_ran 26 = .ok (.aload_n 0, 1) := by decide +kernel
theorem dX12_ran_27 : decode cX12_ran 27 = .ok (.dup, 1) := by decide +kernel
theorem dX12_ran_28 : decode cX12_ran 28 = .ok (.getfield 400, 3) := by decide +kernel
theorem dX12_ran_31 : decode cX12_ran 31 = .ok (.iconst 1, 1) := by decide +kernel
theorem dX12_ran_32 : decode cX12_ran 32 = .ok (.iadd, 1) := by decide +kernel
theorem dX12_ran_33 : decode cX12_ran 33 = .ok (.putfield 400, 3) := by decide +kernel
theorem dX12_ran_36 : decode cX12_ran 36 = .ok (.return_, 1) := by decide +kernel
theorem dX12_rollsBy_0 : decode cX12_rollsBy 0 = .ok (.iload_n 1, 1) := by decide +kernel
theorem dX12_rollsBy_1 : decode cX12_rollsBy 1 = .ok (.tableswitch 80 0 3 #[31, 48, 80, 64], 31) := by decide +kernel
theorem dX12_rollsBy_32 : decode cX12_rollsBy 32 = .ok (.aload_n 0, 1) := by decide +kernel
theorem dX12_rollsBy_33 : decode cX12_rollsBy 33 = .ok (.bipush 10, 2) := by decide +kernel
theorem dX12_rollsBy_35 : decode cX12_rollsBy 35 = .ok (.invokevirtual 406, 3) := by decide +kernel
theorem dX12_rollsBy_38 : decode cX12_rollsBy 38 = .ok (.iload_n 2, 1) := by decide +kernel
theorem dX12_rollsBy_39 : decode cX12_rollsBy 39 = .ok (.iconst 2, 1) := by decide +kernel
theorem dX12_rollsBy_40 : decode cX12_rollsBy 40 = .ok (.imul, 1) := by decide +kernel
theorem dX12_rollsBy_41 : decode cX12_rollsBy 41 = .ok (.iconst 3, 1) := by decide +kernel
theorem dX12_rollsBy_42 : decode cX12_rollsBy 42 = .ok (.aload_n 0, 1) := by decide +kernel
theorem dX12_rollsBy_43 : decode cX12_rollsBy 43 = .ok (.getfield 409, 3) := by decide +kernel
theorem dX12_rollsBy_46 : decode cX12_rollsBy 46 = .ok (.imul, 1) := by decide +kernel
theorem dX12_rollsBy_47 : decode cX12_rollsBy 47 = .ok (.iadd, 1) := by decide +kernel
theorem dX12_rollsBy_48 : decode cX12_rollsBy 48 = .ok (.ireturn, 1) := by decide +kernel
theorem dX12_rollsBy_49 : decode cX12_rollsBy 49 = .ok (.aload_n 0, 1) := by decide +kernel
theorem dX12_rollsBy_50 : decode cX12_rollsBy 50 = .ok (.bipush 20, 2) := by decide +kernel
theorem dX12_rollsBy_52 : decode cX12_rollsBy 52 = .ok (.invokevirtual 406, 3) := by decide +kernel
theorem dX12_rollsBy_55 : decode cX12_rollsBy 55 = .ok (.aload_n 0, 1) := by decide +kernel
theorem dX12_rollsBy_56 : decode cX12_rollsBy 56 = .ok (.iconst 0, 1) := by decide +kernel
theorem dX12_rollsBy_57 : decode cX12_rollsBy 57 = .ok (.iload_n 2, 1) := by decide +kernel
theorem dX12_rollsBy_58 : decode cX12_rollsBy 58 = .ok (.invokevirtual 412, 3) := by decide +kernel
theorem dX12_rollsBy_61 : decode cX12_rollsBy 61 = .ok (.bipush 16, 2) := by decide +kernel
theorem dX12_rollsBy_63 : decode cX12_rollsBy 63 = .ok (.iadd, 1) := by decide +kernel
theorem dX12_rollsBy_64 : decode cX12_rollsBy 64 = .ok (.ireturn, 1) := by decide +kernel
theorem dX12_rollsBy_65 : decode cX12_rollsBy 65 = .ok (.aload_n 0, 1) := by decide +kernel
theorem dX12_rollsBy_66 : decode cX12_rollsBy 66 = .ok (.bipush 50, 2) := by decide +kernel
theorem dX12_rollsBy_68 : decode cX12_rollsBy 68 = .ok (.invokevirtual 406, 3) := by decide +kernel
theorem dX12_rollsBy_71 : decode cX12_rollsBy 71 = .ok (.aload_n 0, 1) := by decide +kernel
theorem dX12_rollsBy_72 : decode cX12_rollsBy 72 = .ok (.iconst 2, 1) := by decide +kernel
theorem dX12_rollsBy_73 : decode cX12_rollsBy 73 = .ok (.iload_n 2, 1) := by decide +kernel
theorem dX12_rollsBy_74 : decode cX12_rollsBy 74 = .ok (.bipush 7, 2) := by decide +kernel
theorem dX12_rollsBy_76 : decode cX12_rollsBy 76 = .ok (.isub, 1) := by decide +kernel
theorem dX12_rollsBy_77 : decode cX12_rollsBy 77 = .ok (.invokevirtual 412, 3) := by decide +kernel
theorem dX12_rollsBy_80 : decode cX12_rollsBy 80 = .ok (.ireturn, 1) := by decide +kernel
theorem dX12_rollsBy_81 : decode cX12_rollsBy 81 = .ok (.aload_n 0, 1) := by decide +kernel
theorem dX12_rollsBy_82 : decode cX12_rollsBy 82 = .ok (.iload_n 1, 1) := by decide +kernel
theorem dX12_rollsBy_83 : decode cX12_rollsBy 83 = .ok (.invokestatic 110, 3) := by decide +kernel
theorem dX12_rollsBy_86 : decode cX12_rollsBy 86 = .ok (.iload_n 2, 1) := by decide +kernel
theorem dX12_rollsBy_87 : decode cX12_rollsBy 87 = .ok (.invokevirtual 412, 3) := by decide +kernel
theorem dX12_rollsBy_90 : decode cX12_rollsBy 90 = .ok (.ireturn, 1) := by decide +kernel
theorem dX12_seepsBy_0 : decode cX12_seepsBy 0 = .ok (.iload_n 1, 1) := by decide +kernel
theorem dX12_seepsBy_1 : decode cX12_seepsBy 1 = .ok (.lookupswitch 99 #[(0, 35), (2, 68), (5, 84)], 35) := by decide +kernel
theorem dX12_seepsBy_36 : decode cX12_seepsBy 36 = .ok (.aload_n 0, 1) := by decide +kernel
theorem dX12_seepsBy_37 : decode cX12_seepsBy 37 = .ok (.bipush 11, 2) := by decide +kernel
theorem dX12_seepsBy_39 : decode cX12_seepsBy 39 = .ok (.invokevirtual 406, 3) := by decide +kernel
theorem dX12_seepsBy_42 : decode cX12_seepsBy 42 = .ok (.aload_n 0, 1) := by decide +kernel
theorem dX12_seepsBy_43 : decode cX12_seepsBy 43 = .ok (.aload_n 0, 1) := by decide +kernel
theorem dX12_seepsBy_44 : decode cX12_seepsBy 44 = .ok (.aload_n 0, 1) := by decide +kernel
theorem dX12_seepsBy_45 : decode cX12_seepsBy 45 = .ok (.getfield 409, 3) := by decide +kernel
theorem dX12_seepsBy_48 : decode cX12_seepsBy 48 = .ok (.iconst 0, 1) := by decide +kernel
theorem dX12_seepsBy_49 : decode cX12_seepsBy 49 = .ok (.invokevirtual 80, 3) := by decide +kernel
theorem dX12_seepsBy_52 : decode cX12_seepsBy 52 = .ok (.iload_n 2, 1) := by decide +kernel
theorem dX12_seepsBy_53 : decode cX12_seepsBy 53 = .ok (.invokevirtual 412, 3) := by decide +kernel
theorem dX12_seepsBy_56 : decode cX12_seepsBy 56 = .ok (.iconst 4, 1) := by decide +kernel
theorem dX12_seepsBy_57 : decode cX12_seepsBy 57 = .ok (.aload_n 0, 1) := by decide +kernel
theorem dX12_seepsBy_58 : decode cX12_seepsBy 58 = .ok (.aload_n 0, 1) := by decide +kernel
theorem dX12_seepsBy_59 : decode cX12_seepsBy 59 = .ok (.getfield 409, 3) := by decide +kernel
theorem dX12_seepsBy_62 : decode cX12_seepsBy 62 = .ok (.iconst 3, 1) := by decide +kernel
theorem dX12_seepsBy_63 : decode cX12_seepsBy 63 = .ok (.invokevirtual 80, 3) := by decide +kernel
theorem dX12_seepsBy_66 : decode cX12_seepsBy 66 = .ok (.imul, 1) := by decide +kernel
theorem dX12_seepsBy_67 : decode cX12_seepsBy 67 = .ok (.isub, 1) := by decide +kernel
theorem dX12_seepsBy_68 : decode cX12_seepsBy 68 = .ok (.ireturn, 1) := by decide +kernel
theorem dX12_seepsBy_69 : decode cX12_seepsBy 69 = .ok (.aload_n 0, 1) := by decide +kernel
theorem dX12_seepsBy_70 : decode cX12_seepsBy 70 = .ok (.bipush 30, 2) := by decide +kernel
theorem dX12_seepsBy_72 : decode cX12_seepsBy 72 = .ok (.invokevirtual 406, 3) := by decide +kernel
theorem dX12_seepsBy_75 : decode cX12_seepsBy 75 = .ok (.aload_n 0, 1) := by decide +kernel
theorem dX12_seepsBy_76 : decode cX12_seepsBy 76 = .ok (.iconst 0, 1) := by decide +kernel
theorem dX12_seepsBy_77 : decode cX12_seepsBy 77 = .ok (.iload_n 2, 1) := by decide +kernel
theorem dX12_seepsBy_78 : decode cX12_seepsBy 78 = .ok (.invokevirtual 415, 3) := by decide +kernel
theorem dX12_seepsBy_81 : decode cX12_seepsBy 81 = .ok (.bipush 17, 2) := by decide +kernel
theorem dX12_seepsBy_83 : decode cX12_seepsBy 83 = .ok (.ixor, 1) := by decide +kernel
theorem dX12_seepsBy_84 : decode cX12_seepsBy 84 = .ok (.ireturn, 1) := by decide +kernel
theorem dX12_seepsBy_85 : decode cX12_seepsBy 85 = .ok (.aload_n 0, 1) := by decide +kernel
theorem dX12_seepsBy_86 : decode cX12_seepsBy 86 = .ok (.bipush 60, 2) := by decide +kernel
theorem dX12_seepsBy_88 : decode cX12_seepsBy 88 = .ok (.invokevirtual 406, 3) := by decide +kernel
theorem dX12_seepsBy_91 : decode cX12_seepsBy 91 = .ok (.iconst 0, 1) := by decide +kernel
theorem dX12_seepsBy_92 : decode cX12_seepsBy 92 = .ok (.aload_n 0, 1) := by decide +kernel
theorem dX12_seepsBy_93 : decode cX12_seepsBy 93 = .ok (.iconst 4, 1) := by decide +kernel
theorem dX12_seepsBy_94 : decode cX12_seepsBy 94 = .ok (.iload_n 2, 1) := by decide +kernel
theorem dX12_seepsBy_95 : decode cX12_seepsBy 95 = .ok (.invokevirtual 415, 3) := by decide +kernel
theorem dX12_seepsBy_98 : decode cX12_seepsBy 98 = .ok (.isub, 1) := by decide +kernel
theorem dX12_seepsBy_99 : decode cX12_seepsBy 99 = .ok (.ireturn, 1) := by decide +kernel
theorem dX12_seepsBy_100 : decode cX12_seepsBy 100 = .ok (.aload_n 0, 1) := by decide +kernel
theorem dX12_seepsBy_101 : decode cX12_seepsBy 101 = .ok (.iload_n 1, 1) := by decide +kernel
theorem dX12_seepsBy_102 : decode cX12_seepsBy 102 = .ok (.invokestatic 110, 3) := by decide +kernel
theorem dX12_seepsBy_105 : decode cX12_seepsBy 105 = .ok (.iload_n 2, 1) := by decide +kernel
theorem dX12_seepsBy_106 : decode cX12_seepsBy 106 = .ok (.invokevirtual 415, 3) := by decide +kernel
theorem dX12_seepsBy_109 : decode cX12_seepsBy 109 = .ok (.ireturn, 1) := by decide +kernel
theorem dX12_hoopsBy_0 : decode cX12_hoopsBy 0 = .ok (.iconst 0, 1) := by decide +kernel
theorem dX12_hoopsBy_1 : decode cX12_hoopsBy 1 = .ok (.istore_n 3, 1) := by decide +kernel
theorem dX12_hoopsBy_2 : decode cX12_hoopsBy 2 = .ok (.iload_n 1, 1) := by decide +kernel
theorem dX12_hoopsBy_3 : decode cX12_hoopsBy 3 = .ok (.lookupswitch 136 #[(0, 33), (4, 88), (5, 103)], 33) := by decide +kernel
theorem dX12_hoopsBy_36 : decode cX12_hoopsBy 36 = .ok (.aload_n 0, 1) := by decide +kernel
theorem dX12_hoopsBy_37 : decode cX12_hoopsBy 37 = .ok (.bipush 12, 2) := by decide +kernel
theorem dX12_hoopsBy_39 : decode cX12_hoopsBy 39 = .ok (.invokevirtual 406, 3) := by decide +kernel
theorem dX12_hoopsBy_42 : decode cX12_hoopsBy 42 = .ok (.aload_n 0, 1) := by decide +kernel
theorem dX12_hoopsBy_43 : decode cX12_hoopsBy 43 = .ok (.getfield 409, 3) := by decide +kernel
theorem dX12_hoopsBy_46 : decode cX12_hoopsBy 46 = .ok (.aload_n 0, 1) := by decide +kernel
theorem dX12_hoopsBy_47 : decode cX12_hoopsBy 47 = .ok (.aload_n 0, 1) := by decide +kernel
theorem dX12_hoopsBy_48 : decode cX12_hoopsBy 48 = .ok (.getfield 409, 3) := by decide +kernel
theorem dX12_hoopsBy_51 : decode cX12_hoopsBy 51 = .ok (.iconst 3, 1) := by decide +kernel
theorem dX12_hoopsBy_52 : decode cX12_hoopsBy 52 = .ok (.invokevirtual 80, 3) := by decide +kernel
theorem dX12_hoopsBy_55 : decode cX12_hoopsBy 55 = .ok (.iadd, 1) := by decide +kernel
theorem dX12_hoopsBy_56 : decode cX12_hoopsBy 56 = .ok (.iconst 2, 1) := by decide +kernel
theorem dX12_hoopsBy_57 : decode cX12_hoopsBy 57 = .ok (.isub, 1) := by decide +kernel
theorem dX12_hoopsBy_58 : decode cX12_hoopsBy 58 = .ok (.istore_n 3, 1) := by decide +kernel
theorem dX12_hoopsBy_59 : decode cX12_hoopsBy 59 = .ok (.aload_n 0, 1) := by decide +kernel
theorem dX12_hoopsBy_60 : decode cX12_hoopsBy 60 = .ok (.aload_n 0, 1) := by decide +kernel
theorem dX12_hoopsBy_61 : decode cX12_hoopsBy 61 = .ok (.getfield 403, 3) := by decide +kernel
theorem dX12_hoopsBy_64 : decode cX12_hoopsBy 64 = .ok (.ifCond .ne 7, 3) := by decide +kernel
theorem dX12_hoopsBy_67 : decode cX12_hoopsBy 67 = .ok (.iload_n 3, 1) := by decide +kernel
theorem dX12_hoopsBy_68 : decode cX12_hoopsBy 68 = .ok (.ifCond .ne 7, 3) := by decide +kernel
theorem dX12_hoopsBy_71 : decode cX12_hoopsBy 71 = .ok (.iconst 1, 1) := by decide +kernel
theorem dX12_hoopsBy_72 : decode cX12_hoopsBy 72 = .ok (.goto 4, 3) := by decide +kernel
theorem dX12_hoopsBy_75 : decode cX12_hoopsBy 75 = .ok (.iconst 0, 1) := by decide +kernel
theorem dX12_hoopsBy_76 : decode cX12_hoopsBy 76 = .ok (.putfield 403, 3) := by decide +kernel
theorem dX12_hoopsBy_79 : decode cX12_hoopsBy 79 = .ok (.iload_n 3, 1) := by decide +kernel
theorem dX12_hoopsBy_80 : decode cX12_hoopsBy 80 = .ok (.ifCond .ne 7, 3) := by decide +kernel
theorem dX12_hoopsBy_83 : decode cX12_hoopsBy 83 = .ok (.iconst 0, 1) := by decide +kernel
theorem dX12_hoopsBy_84 : decode cX12_hoopsBy 84 = .ok (.goto 6, 3) := by decide +kernel
theorem dX12_hoopsBy_87 : decode cX12_hoopsBy 87 = .ok (.iload_n 2, 1) := by decide +kernel
theorem dX12_hoopsBy_88 : decode cX12_hoopsBy 88 = .ok (.iload_n 3, 1) := by decide +kernel
theorem dX12_hoopsBy_89 : decode cX12_hoopsBy 89 = .ok (.idiv, 1) := by decide +kernel
theorem dX12_hoopsBy_90 : decode cX12_hoopsBy 90 = .ok (.ireturn, 1) := by decide +kernel
theorem dX12_hoopsBy_91 : decode cX12_hoopsBy 91 = .ok (.aload_n 0, 1) := by decide +kernel
theorem dX12_hoopsBy_92 : decode cX12_hoopsBy 92 = .ok (.bipush 40, 2) := by decide +kernel
theorem dX12_hoopsBy_94 : decode cX12_hoopsBy 94 = .ok (.invokevirtual 406, 3) := by decide +kernel
theorem dX12_hoopsBy_97 : decode cX12_hoopsBy 97 = .ok (.aload_n 0, 1) := by decide +kernel
theorem dX12_hoopsBy_98 : decode cX12_hoopsBy 98 = .ok (.iconst 0, 1) := by decide +kernel
theorem dX12_hoopsBy_99 : decode cX12_hoopsBy 99 = .ok (.iload_n 2, 1) := by decide +kernel
theorem dX12_hoopsBy_100 : decode cX12_hoopsBy 100 = .ok (.invokevirtual 418, 3) := by decide +kernel
theorem dX12_hoopsBy_103 : decode cX12_hoopsBy 103 = .ok (.iconst 3, 1) := by decide +kernel
theorem dX12_hoopsBy_104 : decode cX12_hoopsBy 104 = .ok (.imul, 1) := by decide +kernel
theorem dX12_hoopsBy_105 : decode cX12_hoopsBy 105 = .ok (.ireturn, 1) := by decide +kernel
theorem dX12_hoopsBy_106 : decode cX12_hoopsBy 106 = .ok (.aload_n 0, 1) := by decide +kernel
theorem dX12_hoopsBy_107 : decode cX12_hoopsBy 107 = .ok (.bipush 61, 2) := by decide +kernel
theorem dX12_hoopsBy_109 : decode cX12_hoopsBy 109 = .ok (.invokevirtual 406, 3) := by decide +kernel
theorem dX12_hoopsBy_112 : decode cX12_hoopsBy 112 = .ok (.aload_n 0, 1) := by decide +kernel
theorem dX12_hoopsBy_113 : decode cX12_hoopsBy 113 = .ok (.iconst 4, 1) := by decide +kernel
theorem dX12_hoopsBy_114 : decode cX12_hoopsBy 114 = .ok (.iload_n 2, 1) := by decide +kernel
theorem dX12_hoopsBy_115 : decode cX12_hoopsBy 115 = .ok (.invokevirtual 418, 3) := by decide +kernel
theorem dX12_hoopsBy_118 : decode cX12_hoopsBy 118 = .ok (.istore_n 3, 1) := by decide +kernel
theorem dX12_hoopsBy_119 : decode cX12_hoopsBy 119 = .ok (.iload_n 3, 1) := by decide +kernel
theorem dX12_hoopsBy_120 : decode cX12_hoopsBy 120 = .ok (.aload_n 0, 1) := by decide +kernel
theorem dX12_hoopsBy_121 : decode cX12_hoopsBy 121 = .ok (.aload_n 0, 1) := by decide +kernel
theorem dX12_hoopsBy_122 : decode cX12_hoopsBy 122 = .ok (.aload_n 0, 1) := by decide +kernel
theorem dX12_hoopsBy_123 : decode cX12_hoopsBy 123 = .ok (.getfield 409, 3) := by decide +kernel
theorem dX12_hoopsBy_126 : decode cX12_hoopsBy 126 = .ok (.iconst 0, 1) := by decide +kernel
theorem dX12_hoopsBy_127 : decode cX12_hoopsBy 127 = .ok (.invokevirtual 80, 3) := by decide +kernel
theorem dX12_hoopsBy_130 : decode cX12_hoopsBy 130 = .ok (.aload_n 0, 1) := by decide +kernel
theorem dX12_hoopsBy_131 : decode cX12_hoopsBy 131 = .ok (.getfield 409, 3) := by decide +kernel
theorem dX12_hoopsBy_134 : decode cX12_hoopsBy 134 = .ok (.invokevirtual 412, 3) := by decide +kernel
theorem dX12_hoopsBy_137 : decode cX12_hoopsBy 137 = .ok (.isub, 1) := by decide +kernel
theorem dX12_hoopsBy_138 : decode cX12_hoopsBy 138 = .ok (.ireturn, 1) := by decide +kernel
theorem dX12_hoopsBy_139 : decode cX12_hoopsBy 139 = .ok (.aload_n 0, 1) := by decide +kernel
theorem dX12_hoopsBy_140 : decode cX12_hoopsBy 140 = .ok (.iload_n 1, 1) := by decide +kernel
theorem dX12_hoopsBy_141 : decode cX12_hoopsBy 141 = .ok (.invokestatic 110, 3) := by decide +kernel
theorem dX12_hoopsBy_144 : decode cX12_hoopsBy 144 = .ok (.iload_n 2, 1) := by decide +kernel
theorem dX12_hoopsBy_145 : decode cX12_hoopsBy 145 = .ok (.invokevirtual 418, 3) := by decide +kernel
theorem dX12_hoopsBy_148 : decode cX12_hoopsBy 148 = .ok (.ireturn, 1) := by decide +kernel
theorem dX12_floodsBy_0 : decode cX12_floodsBy 0 = .ok (.iconst 0, 1) := by decide +kernel
theorem dX12_floodsBy_1 : decode cX12_floodsBy 1 = .ok (.istore_n 3, 1) := by decide +kernel
theorem dX12_floodsBy_2 : decode cX12_floodsBy 2 = .ok (.iload_n 1, 1) := by decide +kernel
theorem dX12_floodsBy_3 : decode cX12_floodsBy 3 = .ok (.lookupswitch 101 #[(0, 25), (3, 63)], 25) := by decide +kernel
theorem dX12_floodsBy_28 : decode cX12_floodsBy 28 = .ok (.aload_n 0, 1) := by decide +kernel
theorem dX12_floodsBy_29 : decode cX12_floodsBy 29 = .ok (.bipush 13, 2) := by decide +kernel
theorem dX12_floodsBy_31 : decode cX12_floodsBy 31 = .ok (.invokevirtual 406, 3) := by decide +kernel
theorem dX12_floodsBy_34 : decode cX12_floodsBy 34 = .ok (.aload_n 0, 1) := by decide +kernel
theorem dX12_floodsBy_35 : decode cX12_floodsBy 35 = .ok (.aload_n 0, 1) := by decide +kernel
theorem dX12_floodsBy_36 : decode cX12_floodsBy 36 = .ok (.aload_n 0, 1) := by decide +kernel
theorem dX12_floodsBy_37 : decode cX12_floodsBy 37 = .ok (.getfield 409, 3) := by decide +kernel
theorem dX12_floodsBy_40 : decode cX12_floodsBy 40 = .ok (.iconst 0, 1) := by decide +kernel
theorem dX12_floodsBy_41 : decode cX12_floodsBy 41 = .ok (.invokevirtual 80, 3) := by decide +kernel
theorem dX12_floodsBy_44 : decode cX12_floodsBy 44 = .ok (.iload_n 2, 1) := by decide +kernel
theorem dX12_floodsBy_45 : decode cX12_floodsBy 45 = .ok (.invokevirtual 415, 3) := by decide +kernel
theorem dX12_floodsBy_48 : decode cX12_floodsBy 48 = .ok (.istore_n 3, 1) := by decide +kernel
theorem dX12_floodsBy_49 : decode cX12_floodsBy 49 = .ok (.iload_n 3, 1) := by decide +kernel
theorem dX12_floodsBy_50 : decode cX12_floodsBy 50 = .ok (.aload_n 0, 1) := by decide +kernel
theorem dX12_floodsBy_51 : decode cX12_floodsBy 51 = .ok (.aload_n 0, 1) := by decide +kernel
theorem dX12_floodsBy_52 : decode cX12_floodsBy 52 = .ok (.aload_n 0, 1) := by decide +kernel
theorem dX12_floodsBy_53 : decode cX12_floodsBy 53 = .ok (.getfield 409, 3) := by decide +kernel
theorem dX12_floodsBy_56 : decode cX12_floodsBy 56 = .ok (.iconst 0, 1) := by decide +kernel
theorem dX12_floodsBy_57 : decode cX12_floodsBy 57 = .ok (.invokevirtual 80, 3) := by decide +kernel
theorem dX12_floodsBy_60 : decode cX12_floodsBy 60 = .ok (.iload_n 2, 1) := by decide +kernel
theorem dX12_floodsBy_61 : decode cX12_floodsBy 61 = .ok (.invokevirtual 418, 3) := by decide +kernel
theorem dX12_floodsBy_64 : decode cX12_floodsBy 64 = .ok (.ixor, 1) := by decide +kernel
theorem dX12_floodsBy_65 : decode cX12_floodsBy 65 = .ok (.ireturn, 1) := by decide +kernel
theorem dX12_floodsBy_66 : decode cX12_floodsBy 66 = .ok (.aload_n 0, 1) := by decide +kernel
theorem dX12_floodsBy_67 : decode cX12_floodsBy 67 = .ok (.bipush 51, 2) := by decide +kernel
theorem dX12_floodsBy_69 : decode cX12_floodsBy 69 = .ok (.invokevirtual 406, 3) := by decide +kernel
theorem dX12_floodsBy_72 : decode cX12_floodsBy 72 = .ok (.aload_n 0, 1) := by decide +kernel
theorem dX12_floodsBy_73 : decode cX12_floodsBy 73 = .ok (.iconst 2, 1) := by decide +kernel
theorem dX12_floodsBy_74 : decode cX12_floodsBy 74 = .ok (.iload_n 2, 1) := by decide +kernel
theorem dX12_floodsBy_75 : decode cX12_floodsBy 75 = .ok (.invokevirtual 421, 3) := by decide +kernel
theorem dX12_floodsBy_78 : decode cX12_floodsBy 78 = .ok (.istore_n 3, 1) := by decide +kernel
theorem dX12_floodsBy_79 : decode cX12_floodsBy 79 = .ok (.iload_n 3, 1) := by decide +kernel
theorem dX12_floodsBy_80 : decode cX12_floodsBy 80 = .ok (.aload_n 0, 1) := by decide +kernel
theorem dX12_floodsBy_81 : decode cX12_floodsBy 81 = .ok (.aload_n 0, 1) := by decide +kernel
theorem dX12_floodsBy_82 : decode cX12_floodsBy 82 = .ok (.aload_n 0, 1) := by decide +kernel
theorem dX12_floodsBy_83 : decode cX12_floodsBy 83 = .ok (.getfield 409, 3) := by decide +kernel
theorem dX12_floodsBy_86 : decode cX12_floodsBy 86 = .ok (.iconst 0, 1) := by decide +kernel
theorem dX12_floodsBy_87 : decode cX12_floodsBy 87 = .ok (.invokevirtual 80, 3) := by decide +kernel
theorem dX12_floodsBy_90 : decode cX12_floodsBy 90 = .ok (.aload_n 0, 1) := by decide +kernel
theorem dX12_floodsBy_91 : decode cX12_floodsBy 91 = .ok (.aload_n 0, 1) := by decide +kernel
theorem dX12_floodsBy_92 : decode cX12_floodsBy 92 = .ok (.getfield 409, 3) := by decide +kernel
theorem dX12_floodsBy_95 : decode cX12_floodsBy 95 = .ok (.iconst 3, 1) := by decide +kernel
theorem dX12_floodsBy_96 : decode cX12_floodsBy 96 = .ok (.invokevirtual 80, 3) := by decide +kernel
theorem dX12_floodsBy_99 : decode cX12_floodsBy 99 = .ok (.invokevirtual 415, 3) := by decide +kernel
theorem dX12_floodsBy_102 : decode cX12_floodsBy 102 = .ok (.iadd, 1) := by decide +kernel
theorem dX12_floodsBy_103 : decode cX12_floodsBy 103 = .ok (.ireturn, 1) := by decide +kernel
theorem dX12_floodsBy_104 : decode cX12_floodsBy 104 = .ok (.aload_n 0, 1) := by decide +kernel
theorem dX12_floodsBy_105 : decode cX12_floodsBy 105 = .ok (.iload_n 1, 1) := by decide +kernel
theorem dX12_floodsBy_106 : decode cX12_floodsBy 106 = .ok (.invokestatic 110, 3) := by decide +kernel
theorem dX12_floodsBy_109 : decode cX12_floodsBy 109 = .ok (.iload_n 2, 1) := by decide +kernel
theorem dX12_floodsBy_110 : decode cX12_floodsBy 110 = .ok (.invokevirtual 421, 3) := by decide +kernel
theorem dX12_floodsBy_113 : decode cX12_floodsBy 113 = .ok (.ireturn, 1) := by decide +kernel
theorem dX12_act_0 : decode cX12_act 0 = .ok (.aload_n 0, 1) := by decide +kernel
theorem dX12_act_1 : decode cX12_act 1 = .ok (.iconst 0, 1) := by decide +kernel
theorem dX12_act_2 : decode cX12_act 2 = .ok (.putfield 400, 3) := by decide +kernel
theorem dX12_act_5 : decode cX12_act 5 = .ok (.aload_n 0, 1) := by decide +kernel
theorem dX12_act_6 : decode cX12_act 6 = .ok (.iconst 0, 1) := by decide +kernel
theorem dX12_act_7 : decode cX12_act 7 = .ok (.putfield 403, 3) := by decide +kernel
theorem dX12_act_10 : decode cX12_act 10 = .ok (.iload_n 1, 1) := by decide +kernel
theorem dX12_act_11 : decode cX12_act 11 = .ok (.i2l, 1) := by decide +kernel
theorem dX12_act_12 : decode cX12_act 12 = .ok (.lconst 0, 1) := by decide +kernel
theorem dX12_act_13 : decode cX12_act 13 = .ok (.ldc2_w 343, 3) := by decide +kernel
theorem dX12_act_16 : decode cX12_act 16 = .ok (.invokestatic 61, 3) := by decide +kernel
theorem dX12_act_19 : decode cX12_act 19 = .ok (.ifCond .eq 33, 3) := by decide +kernel
theorem dX12_act_22 : decode cX12_act 22 = .ok (.iload_n 2, 1) := by decide +kernel
theorem dX12_act_23 : decode cX12_act 23 = .ok (.i2l, 1) := by decide +kernel
theorem dX12_act_24 : decode cX12_act 24 = .ok (.lconst 0, 1) := by decide +kernel
theorem dX12_act_25 : decode cX12_act 25 = .ok (.ldc2_w 343, 3) := by decide +kernel
theorem dX12_act_28 : decode cX12_act 28 = .ok (.invokestatic 61, 3) := by decide +kernel
theorem dX12_act_31 : decode cX12_act 31 = .ok (.ifCond .eq 21, 3) := by decide +kernel
theorem dX12_act_34 : decode cX12_act 34 = .ok (.aload_n 0, 1) := by decide +kernel
theorem dX12_act_35 : decode cX12_act 35 = .ok (.iload_n 1, 1) := by decide +kernel
theorem dX12_act_36 : decode cX12_act 36 = .ok (.invokevirtual 397, 3) := by decide +kernel
theorem dX12_act_39 : decode cX12_act 39 = .ok (.ifCond .ne 13, 3) := by decide +kernel
theorem dX12_act_42 : decode cX12_act 42 = .ok (.aload_n 0, 1) := by decide +kernel
theorem dX12_act_43 : decode cX12_act 43 = .ok (.getfield 49, 3) := by decide +kernel
theorem dX12_act_46 : decode cX12_act 46 = .ok (.iload_n 1, 1) := by decide +kernel
theorem dX12_act_47 : decode cX12_act 47 = .ok (.iaload, 1) := by decide +kernel
theorem dX12_act_48 : decode cX12_act 48 = .ok (.iconst 2, 1) := by decide +kernel
theorem dX12_act_49 : decode cX12_act 49 = .ok (.if_icmp .ne 5, 3) := by decide +kernel
theorem dX12_act_52 : decode cX12_act 52 = .ok (.iconst 0, 1) := by decide +kernel
theorem dX12_act_53 : decode cX12_act 53 = .ok (.ireturn, 1) := by decide +kernel
theorem dX12_act_54 : decode cX12_act 54 = .ok (.aload_n 0, 1) := by decide +kernel
theorem dX12_act_55 : decode cX12_act 55 = .ok (.aload_n 0, 1) := by decide +kernel
theorem dX12_act_56 : decode cX12_act 56 = .ok (.getfield 52, 3) := by decide +kernel
theorem dX12_act_59 : decode cX12_act 59 = .ok (.iload_n 1, 1) := by decide +kernel
theorem dX12_act_60 : decode cX12_act 60 = .ok (.iaload, 1) := by decide +kernel
theorem dX12_act_61 : decode cX12_act 61 = .ok (.putfield 409, 3) := by decide +kernel
theorem dX12_act_64 : decode cX12_act 64 = .ok (.aload_n 0, 1) := by decide +kernel
theorem dX12_act_65 : decode cX12_act 65 = .ok (.aload_n 0, 1) := by decide +kernel
theorem dX12_act_66 : decode cX12_act 66 = .ok (.getfield 409, 3) := by decide +kernel
theorem dX12_act_69 : decode cX12_act 69 = .ok (.iconst 0, 1) := by decide +kernel
theorem dX12_act_70 : decode cX12_act 70 = .ok (.invokevirtual 80, 3) := by decide +kernel
theorem dX12_act_73 : decode cX12_act 73 = .ok (.istore 4, 2) := by decide +kernel
theorem dX12_act_75 : decode cX12_act 75 = .ok (.iload_n 2, 1) := by decide +kernel
theorem dX12_act_76 : decode cX12_act 76 = .ok (.ifCond .ne 13, 3) := by decide +kernel
theorem dX12_act_79 : decode cX12_act 79 = .ok (.aload_n 0, 1) := by decide +kernel
theorem dX12_act_80 : decode cX12_act 80 = .ok (.iload 4, 2) := by decide +kernel
theorem dX12_act_82 : decode cX12_act 82 = .ok (.iload_n 3, 1) := by decide +kernel
theorem dX12_act_83 : decode cX12_act 83 = .ok (.invokevirtual 412, 3) := by decide +kernel
theorem dX12_act_86 : decode cX12_act 86 = .ok (.goto 40, 3) := by decide +kernel
theorem dX12_act_89 : decode cX12_act 89 = .ok (.iload_n 2, 1) := by decide +kernel
theorem dX12_act_90 : decode cX12_act 90 = .ok (.iconst 1, 1) := by decide +kernel
theorem dX12_act_91 : decode cX12_act 91 = .ok (.if_icmp .ne 13, 3) := by decide +kernel
theorem dX12_act_94 : decode cX12_act 94 = .ok (.aload_n 0, 1) := by decide +kernel
theorem dX12_act_95 : decode cX12_act 95 = .ok (.iload 4, 2) := by decide +kernel
theorem dX12_act_97 : decode cX12_act 97 = .ok (.iload_n 3, 1) := by decide +kernel
theorem dX12_act_98 : decode cX12_act 98 = .ok (.invokevirtual 415, 3) := by decide +kernel
theorem dX12_act_101 : decode cX12_act 101 = .ok (.goto 25, 3) := by decide +kernel
theorem dX12_act_104 : decode cX12_act 104 = .ok (.iload_n 2, 1) := by decide +kernel
theorem dX12_act_105 : decode cX12_act 105 = .ok (.iconst 2, 1) := by decide +kernel
theorem dX12_act_106 : decode cX12_act 106 = .ok (.if_icmp .ne 13, 3) := by decide +kernel
theorem dX12_act_109 : decode cX12_act 109 = .ok (.aload_n 0, 1) := by decide +kernel
theorem dX12_act_110 : decode cX12_act 110 = .ok (.iload 4, 2) := by decide +kernel
theorem dX12_act_112 : decode cX12_act 112 = .ok (.iload_n 3, 1) := by decide +kernel
theorem dX12_act_113 : decode cX12_act 113 = .ok (.invokevirtual 418, 3) := by decide +kernel
theorem dX12_act_116 : decode cX12_act 116 = .ok (.goto 10, 3) := by decide +kernel
theorem dX12_act_119 : decode cX12_act 119 = .ok (.aload_n 0, 1) := by decide +kernel
theorem dX12_act_120 : decode cX12_act 120 = .ok (.iload 4, 2) := by decide +kernel
theorem dX12_act_122 : decode cX12_act 122 = .ok (.iload_n 3, 1) := by decide +kernel
theorem dX12_act_123 : decode cX12_act 123 = .ok (.invokevirtual 421, 3) := by decide +kernel
theorem dX12_act_126 : decode cX12_act 126 = .ok (.istore 5, 2) := by decide +kernel
theorem dX12_act_128 : decode cX12_act 128 = .ok (.aload_n 0, 1) := by decide +kernel
theorem dX12_act_129 : decode cX12_act 129 = .ok (.getfield 403, 3) := by decide +kernel
theorem dX12_act_132 : decode cX12_act 132 = .ok (.ifCond .eq 8, 3) := by decide +kernel
theorem dX12_act_135 : decode cX12_act 135 = .ok (.bipush (-15), 2) := by decide +kernel
theorem dX12_act_137 : decode cX12_act 137 = .ok (.goto 5, 3) := by decide +kernel
theorem dX12_act_140 : decode cX12_act 140 = .ok (.iload 5, 2) := by decide +kernel
theorem dX12_act_142 : decode cX12_act 142 = .ok (.ireturn, 1) := by decide +kernel
theorem dX12_trace_0 : decode cX12_trace 0 = .ok (.iload_n 1, 1) := by decide +kernel
theorem dX12_trace_1 : decode cX12_trace 1 = .ok (.i2l, 1) := by decide +kernel
theorem dX12_trace_2 : decode cX12_trace 2 = .ok (.lconst 0, 1) := by decide +kernel
theorem dX12_trace_3 : decode cX12_trace 3 = .ok (.aload_n 0, 1) := by decide +kernel
theorem dX12_trace_4 : decode cX12_trace 4 = .ok (.getfield 400, 3) := by decide +kernel
theorem dX12_trace_7 : decode cX12_trace 7 = .ok (.iconst 1, 1) := by decide +kernel
theorem dX12_trace_8 : decode cX12_trace 8 = .ok (.isub, 1) := by decide +kernel
theorem dX12_trace_9 : decode cX12_trace 9 = .ok (.i2l, 1) := by decide +kernel
theorem dX12_trace_10 : decode cX12_trace 10 = .ok (.invokestatic 61, 3) := by decide +kernel
theorem dX12_trace_13 : decode cX12_trace 13 = .ok (.ifCond .eq 12, 3) := by decide +kernel
theorem dX12_trace_16 : decode cX12_trace 16 = .ok (.aload_n 0, 1) := by decide +kernel
theorem dX12_trace_17 : decode cX12_trace 17 = .ok (.getfield 58, 3) := by decide +kernel
theorem dX12_trace_20 : decode cX12_trace 20 = .ok (.iload_n 1, 1) := by decide +kernel
theorem dX12_trace_21 : decode cX12_trace 21 = .ok (.iaload, 1) := by decide +kernel
theorem dX12_trace_22 : decode cX12_trace 22 = .ok (.goto 5, 3) := by decide +kernel
theorem dX12_trace_25 : decode cX12_trace 25 = .ok (.bipush (-3), 2) := by decide +kernel
theorem dX12_trace_27 : decode cX12_trace 27 = .ok (.ireturn, 1) := by decide +kernel
theorem dX12_many_0 : decode cX12_many 0 = .ok (.iload_n 1, 1) := by decide +kernel
theorem dX12_many_1 : decode cX12_many 1 = .ok (.tableswitch 88 0 6 #[43, 50, 57, 65, 73, 78, 83], 43) := by decide +kernel
theorem dX12_many_44 : decode cX12_many 44 = .ok (.aload_n 0, 1) := by decide +kernel
theorem dX12_many_45 : decode cX12_many 45 = .ok (.getfield 7, 3) := by decide +kernel
theorem dX12_many_48 : decode cX12_many 48 = .ok (.iconst 0, 1) := by decide +kernel
theorem dX12_many_49 : decode cX12_many 49 = .ok (.iaload, 1) := by decide +kernel
theorem dX12_many_50 : decode cX12_many 50 = .ok (.ireturn, 1) := by decide +kernel
theorem dX12_many_51 : decode cX12_many 51 = .ok (.aload_n 0, 1) := by decide +kernel
theorem dX12_many_52 : decode cX12_many 52 = .ok (.getfield 7, 3) := by decide +kernel
theorem dX12_many_55 : decode cX12_many 55 = .ok (.iconst 5, 1) := by decide +kernel
theorem dX12_many_56 : decode cX12_many 56 = .ok (.iaload, 1) := by decide +kernel
theorem dX12_many_57 : decode cX12_many 57 = .ok (.ireturn, 1) := by decide +kernel
theorem dX12_many_58 : decode cX12_many 58 = .ok (.aload_n 0, 1) := by decide +kernel
theorem dX12_many_59 : decode cX12_many 59 = .ok (.invokevirtual 163, 3) := by decide +kernel
theorem dX12_many_62 : decode cX12_many 62 = .ok (.invokestatic 424, 3) := by decide +kernel
theorem dX12_many_65 : decode cX12_many 65 = .ok (.ireturn, 1) := by decide +kernel
theorem dX12_many_66 : decode cX12_many 66 = .ok (.aload_n 0, 1) := by decide +kernel
theorem dX12_many_67 : decode cX12_many 67 = .ok (.getfield 7, 3) := by decide +kernel
theorem dX12_many_70 : decode cX12_many 70 = .ok (.bipush 6, 2) := by decide +kernel
theorem dX12_many_72 : decode cX12_many 72 = .ok (.iaload, 1) := by decide +kernel
theorem dX12_many_73 : decode cX12_many 73 = .ok (.ireturn, 1) := by decide +kernel
theorem dX12_many_74 : decode cX12_many 74 = .ok (.aload_n 0, 1) := by decide +kernel
theorem dX12_many_75 : decode cX12_many 75 = .ok (.getfield 382, 3) := by decide +kernel
theorem dX12_many_78 : decode cX12_many 78 = .ok (.ireturn, 1) := by decide +kernel
theorem dX12_many_79 : decode cX12_many 79 = .ok (.aload_n 0, 1) := by decide +kernel
theorem dX12_many_80 : decode cX12_many 80 = .ok (.getfield 171, 3) := by decide +kernel
theorem dX12_many_83 : decode cX12_many 83 = .ok (.ireturn, 1) := by decide +kernel
theorem dX12_many_84 : decode cX12_many 84 = .ok (.aload_n 0, 1) := by decide +kernel
theorem dX12_many_85 : decode cX12_many 85 = .ok (.getfield 400, 3) := by decide +kernel
theorem dX12_many_88 : decode cX12_many 88 = .ok (.ireturn, 1) := by decide +kernel
theorem dX12_many_89 : decode cX12_many 89 = .ok (.iconst (-1), 1) := by decide +kernel
theorem dX12_many_90 : decode cX12_many 90 = .ok (.ireturn, 1) := by decide +kernel
theorem dX12_keep_0 : decode cX12_keep 0 = .ok (.iconst 0, 1) := by decide +kernel
theorem dX12_keep_1 : decode cX12_keep 1 = .ok (.istore_n 1, 1) := by decide +kernel
theorem dX12_keep_2 : decode cX12_keep 2 = .ok (.iload_n 1, 1) := by decide +kernel
theorem dX12_keep_3 : decode cX12_keep 3 = .ok (.sipush 361, 3) := by decide +kernel
theorem dX12_keep_6 : decode cX12_keep 6 = .ok (.if_icmp .ge 21, 3) := by decide +kernel
theorem dX12_keep_9 : decode cX12_keep 9 = .ok (.aload_n 0, 1) := by decide +kernel
theorem dX12_keep_10 : decode cX12_keep 10 = .ok (.getfield 13, 3) := by decide +kernel
theorem dX12_keep_13 : decode cX12_keep 13 = .ok (.iload_n 1, 1) := by decide +kernel
theorem dX12_keep_14 : decode cX12_keep 14 = .ok (.aload_n 0, 1) := by decide +kernel
theorem dX12_keep_15 : decode cX12_keep 15 = .ok (.getfield 7, 3) := by decide +kernel
theorem dX12_keep_18 : decode cX12_keep 18 = .ok (.iload_n 1, 1) := by decide +kernel
theorem dX12_keep_19 : decode cX12_keep 19 = .ok (.iaload, 1) := by decide +kernel
theorem dX12_keep_20 : decode cX12_keep 20 = .ok (.iastore, 1) := by decide +kernel
theorem dX12_keep_21 : decode cX12_keep 21 = .ok (.iinc 1 1, 3) := by decide +kernel
theorem dX12_keep_24 : decode cX12_keep 24 = .ok (.goto (-22), 3) := by decide +kernel
theorem dX12_keep_27 : decode cX12_keep 27 = .ok (.aload_n 0, 1) := by decide +kernel
theorem dX12_keep_28 : decode cX12_keep 28 = .ok (.iconst 1, 1) := by decide +kernel
theorem dX12_keep_29 : decode cX12_keep 29 = .ok (.putfield 427, 3) := by decide +kernel
theorem dX12_keep_32 : decode cX12_keep 32 = .ok (.iconst 1, 1) := by decide +kernel
theorem dX12_keep_33 : decode cX12_keep 33 = .ok (.ireturn, 1) := by decide +kernel
theorem dX12_again_0 : decode cX12_again 0 = .ok (.aload_n 0, 1) := by decide +kernel
theorem dX12_again_1 : decode cX12_again 1 = .ok (.getfield 427, 3) := by decide +kernel
theorem dX12_again_4 : decode cX12_again 4 = .ok (.ifCond .ne 6, 3) := by decide +kernel
theorem dX12_again_7 : decode cX12_again 7 = .ok (.bipush (-3), 2) := by decide +kernel
theorem dX12_again_9 : decode cX12_again 9 = .ok (.ireturn, 1) := by decide +kernel
theorem dX12_again_10 : decode cX12_again 10 = .ok (.iconst 0, 1) := by decide +kernel
theorem dX12_again_11 : decode cX12_again 11 = .ok (.istore_n 1, 1) := by decide +kernel
theorem dX12_again_12 : decode cX12_again 12 = .ok (.iload_n 1, 1) := by decide +kernel
theorem dX12_again_13 : decode cX12_again 13 = .ok (.sipush 361, 3) := by decide +kernel
theorem dX12_again_16 : decode cX12_again 16 = .ok (.if_icmp .ge 21, 3) := by decide +kernel
theorem dX12_again_19 : decode cX12_again 19 = .ok (.aload_n 0, 1) := by decide +kernel
theorem dX12_again_20 : decode cX12_again 20 = .ok (.getfield 7, 3) := by decide +kernel
theorem dX12_again_23 : decode cX12_again 23 = .ok (.iload_n 1, 1) := by decide +kernel
theorem dX12_again_24 : decode cX12_again 24 = .ok (.aload_n 0, 1) := by decide +kernel
theorem dX12_again_25 : decode cX12_again 25 = .ok (.getfield 13, 3) := by decide +kernel
theorem dX12_again_28 : decode cX12_again 28 = .ok (.iload_n 1, 1) := by decide +kernel
theorem dX12_again_29 : decode cX12_again 29 = .ok (.iaload, 1) := by decide +kernel
theorem dX12_again_30 : decode cX12_again 30 = .ok (.iastore, 1) := by decide +kernel
theorem dX12_again_31 : decode cX12_again 31 = .ok (.iinc 1 1, 3) := by decide +kernel
theorem dX12_again_34 : decode cX12_again 34 = .ok (.goto (-22), 3) := by decide +kernel
theorem dX12_again_37 : decode cX12_again 37 = .ok (.aload_n 0, 1) := by decide +kernel
theorem dX12_again_38 : decode cX12_again 38 = .ok (.getfield 7, 3) := by decide +kernel
theorem dX12_again_41 : decode cX12_again 41 = .ok (.iconst 0, 1) := by decide +kernel
theorem dX12_again_42 : decode cX12_again 42 = .ok (.iaload, 1) := by decide +kernel
theorem dX12_again_43 : decode cX12_again 43 = .ok (.ireturn, 1) := by decide +kernel
